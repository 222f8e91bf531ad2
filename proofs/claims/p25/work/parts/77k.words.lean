set_option maxRecDepth 20000 in
theorem gib_10 : GoodIn wsL_law wsL_build_r10 := goodIn_r _ [23, 247, 248, 249, 250, 251, 252, 253, 254, 255, 256, 257, 258, 259, 260, 261, 262, 263, 264, 265, 266, 267, 268, 269] (by decide +kernel) (by decide +kernel)
