set_option maxRecDepth 20000 in
theorem lin_13 : ∀ w ∈ wsL_law0_r13, w ∈ lw_tbl := fun w h => (goodIn_p wsL_law0_r13 [496, 509] (by decide +kernel) (by decide +kernel) w h).1
