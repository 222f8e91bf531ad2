set_option maxRecDepth 20000 in
theorem gib_5 : GoodIn wsL_law wsL_build_r5 := goodIn_r _ [133, 134, 135, 136, 137, 138, 139, 140, 141, 142, 143, 144, 145, 146, 147, 148, 149, 150, 26, 151, 152, 153, 154, 155] (by decide +kernel) (by decide +kernel)
