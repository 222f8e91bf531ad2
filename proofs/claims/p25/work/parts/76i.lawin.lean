set_option maxRecDepth 20000 in
theorem lin_9 : ∀ w ∈ wsL_law0_r9, w ∈ lw_tbl := fun w h => (goodIn_p wsL_law0_r9 [244, 408, 412, 416] (by decide +kernel) (by decide +kernel) w h).1
