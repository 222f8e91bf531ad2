set_option maxRecDepth 20000 in
theorem lin_10 : ∀ w ∈ wsL_law0_r10, w ∈ lw_tbl := fun w h => (goodIn_p wsL_law0_r10 [191, 234, 420, 425] (by decide +kernel) (by decide +kernel) w h).1
