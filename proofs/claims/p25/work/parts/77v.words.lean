set_option maxRecDepth 20000 in
theorem gib_wsX90 : GoodIn wsL_law wsX90 := goodIn_sub (fun w h => List.mem_append_left _ (List.mem_append_left _ (List.mem_append_left _ (show w ∈ wsL_law0 from List.mem_append_left _ (List.mem_append_left _ (List.mem_append_right _ (h))))))) (by decide +kernel)
