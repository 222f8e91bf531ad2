set_option maxRecDepth 20000 in
theorem lin_4 : ∀ w ∈ wsL_law0_r4, w ∈ lw_tbl := fun w h => (goodIn_p wsL_law0_r4 [104, 101, 290, 296] (by decide +kernel) (by decide +kernel) w h).1
