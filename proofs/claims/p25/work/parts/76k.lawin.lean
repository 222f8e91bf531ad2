set_option maxRecDepth 20000 in
theorem lin_11 : ∀ w ∈ wsL_law0_r11, w ∈ lw_tbl := fun w h => (goodIn_p wsL_law0_r11 [430, 434, 441, 465] (by decide +kernel) (by decide +kernel) w h).1
