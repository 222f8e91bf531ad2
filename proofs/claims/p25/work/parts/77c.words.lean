set_option maxRecDepth 20000 in
theorem gib_2 : GoodIn wsL_law wsL_build_r2 := goodIn_r _ [67, 68, 69, 70, 71, 72, 73, 74, 75, 21, 76, 77, 78, 79, 80, 81, 17, 18, 82, 83, 84, 85, 86, 87] (by decide +kernel) (by decide +kernel)
