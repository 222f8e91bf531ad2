set_option maxRecDepth 20000 in
theorem lin_6 : ∀ w ∈ wsL_law0_r6, w ∈ lw_tbl := fun w h => (goodIn_p wsL_law0_r6 [350, 357, 360, 379, 385] (by decide +kernel) (by decide +kernel) w h).1
