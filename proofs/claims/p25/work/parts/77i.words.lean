set_option maxRecDepth 20000 in
theorem gib_8 : GoodIn wsL_law wsL_build_r8 := goodIn_r _ [199, 200, 201, 202, 203, 204, 205, 206, 207, 208, 209, 210, 211, 212, 213, 214, 215, 216, 217, 218, 219, 220, 221, 222] (by decide +kernel) (by decide +kernel)
