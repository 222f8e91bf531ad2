set_option maxRecDepth 20000 in
theorem lin_15 : ∀ w ∈ wsL_law0_r15, w ∈ lw_tbl := fun w h => (goodIn_p wsL_law0_r15 [223, 228, 248, 93, 219] (by decide +kernel) (by decide +kernel) w h).1
