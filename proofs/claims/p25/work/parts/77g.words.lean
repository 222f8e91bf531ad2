set_option maxRecDepth 20000 in
theorem gib_6 : GoodIn wsL_law wsL_build_r6 := goodIn_r _ [156, 157, 158, 159, 160, 161, 162, 163, 164, 165, 166, 167, 168, 169, 170, 171, 172, 173, 174, 175, 176, 177, 178, 27] (by decide +kernel) (by decide +kernel)
