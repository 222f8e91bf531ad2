set_option maxRecDepth 20000 in
theorem lin_7 : ∀ w ∈ wsL_law0_r7, w ∈ lw_tbl := fun w h => (goodIn_p wsL_law0_r7 [394, 97, 176, 179] (by decide +kernel) (by decide +kernel) w h).1
