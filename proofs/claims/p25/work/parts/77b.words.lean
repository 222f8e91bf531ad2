set_option maxRecDepth 20000 in
theorem gib_1 : GoodIn wsL_law wsL_build_r1 := goodIn_r _ [47, 3, 48, 49, 45, 50, 51, 52, 53, 54, 55, 56, 57, 58, 2, 59, 60, 61, 22, 62, 63, 64, 65, 66] (by decide +kernel) (by decide +kernel)
