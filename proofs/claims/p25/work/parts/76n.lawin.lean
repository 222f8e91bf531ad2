set_option maxRecDepth 20000 in
theorem lin_14 : ∀ w ∈ wsL_law0_r14, w ∈ lw_tbl := fun w h => (goodIn_p wsL_law0_r14 [538, 545, 562, 567] (by decide +kernel) (by decide +kernel) w h).1
