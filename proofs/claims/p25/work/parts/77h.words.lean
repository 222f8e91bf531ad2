set_option maxRecDepth 20000 in
theorem gib_7 : GoodIn wsL_law wsL_build_r7 := goodIn_r _ [24, 179, 180, 181, 25, 182, 183, 184, 185, 186, 187, 188, 189, 190, 191, 192, 9, 11, 193, 194, 195, 196, 197, 198] (by decide +kernel) (by decide +kernel)
