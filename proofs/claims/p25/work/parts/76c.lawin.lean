set_option maxRecDepth 20000 in
theorem lin_3 : ∀ w ∈ wsL_law0_r3, w ∈ lw_tbl := fun w h => (goodIn_p wsL_law0_r3 [256, 260, 265, 268] (by decide +kernel) (by decide +kernel) w h).1
