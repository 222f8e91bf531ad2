set_option maxRecDepth 20000 in
theorem gib_12 : GoodIn wsL_law wsL_build_r12 := goodIn_r _ [294, 295, 296, 297, 298, 299, 300, 301, 302, 303, 304, 305, 306, 307, 308, 309, 310, 311, 312, 313, 314, 315, 316, 317] (by decide +kernel) (by decide +kernel)
