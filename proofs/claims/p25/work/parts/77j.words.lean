set_option maxRecDepth 20000 in
theorem gib_9 : GoodIn wsL_law wsL_build_r9 := goodIn_r _ [223, 224, 225, 226, 227, 228, 229, 230, 231, 232, 233, 234, 235, 236, 237, 238, 239, 240, 241, 242, 243, 244, 245, 246] (by decide +kernel) (by decide +kernel)
