set_option maxRecDepth 20000 in
theorem lin_5 : ∀ w ∈ wsL_law0_r5, w ∈ lw_tbl := fun w h => (goodIn_p wsL_law0_r5 [335, 339, 343, 347, 353] (by decide +kernel) (by decide +kernel) w h).1
