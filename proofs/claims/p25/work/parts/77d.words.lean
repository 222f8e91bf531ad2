set_option maxRecDepth 20000 in
theorem gib_3 : GoodIn wsL_law wsL_build_r3 := goodIn_r _ [88, 89, 90, 91, 92, 93, 94, 95, 96, 97, 98, 99, 100, 101, 32, 102, 103, 104, 105, 106, 107, 108, 109, 110] (by decide +kernel) (by decide +kernel)
