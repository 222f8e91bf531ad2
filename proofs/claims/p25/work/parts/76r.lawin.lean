set_option maxRecDepth 20000 in
theorem lin_wsJx4a65c0 : ∀ w ∈ wsJx4a65c0, w ∈ lw_tbl := by decide +kernel
