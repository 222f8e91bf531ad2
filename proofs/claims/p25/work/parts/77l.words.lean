set_option maxRecDepth 20000 in
theorem gib_11 : GoodIn wsL_law wsL_build_r11 := goodIn_r _ [270, 271, 272, 273, 274, 275, 276, 277, 278, 279, 280, 281, 282, 283, 284, 285, 286, 287, 288, 289, 290, 291, 292, 293] (by decide +kernel) (by decide +kernel)
