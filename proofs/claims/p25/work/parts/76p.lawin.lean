set_option maxRecDepth 20000 in
theorem lin_16 : ∀ w ∈ wsL_law0_r16, w ∈ lw_tbl := fun w h => (goodIn_p wsL_law0_r16 [195, 199, 571, 578, 574] (by decide +kernel) (by decide +kernel) w h).1
