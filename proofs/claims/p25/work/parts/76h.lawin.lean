set_option maxRecDepth 20000 in
theorem lin_8 : ∀ w ∈ wsL_law0_r8, w ∈ lw_tbl := fun w h => (goodIn_p wsL_law0_r8 [182, 186, 399, 403, 238] (by decide +kernel) (by decide +kernel) w h).1
