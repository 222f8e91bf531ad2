set_option maxRecDepth 20000 in
theorem gib_4 : GoodIn wsL_law wsL_build_r4 := goodIn_r _ [111, 112, 113, 31, 114, 115, 10, 116, 117, 118, 119, 120, 121, 122, 123, 124, 125, 126, 127, 128, 129, 130, 131, 132] (by decide +kernel) (by decide +kernel)
