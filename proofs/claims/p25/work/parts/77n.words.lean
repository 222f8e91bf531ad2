set_option maxRecDepth 20000 in
theorem gib_13 : GoodIn wsL_law wsL_build_r13 := goodIn_r _ [318, 319, 320, 321, 322, 323, 324, 325, 326, 327, 328, 329, 330, 331, 332, 333, 334] (by decide +kernel) (by decide +kernel)
