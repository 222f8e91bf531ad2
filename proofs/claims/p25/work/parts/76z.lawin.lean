/-- every word of the law is one of the tables -/
theorem lin_0 : ∀ w ∈ wsL_law0, w ∈ lw_tbl := fun w h => by
  unfold wsL_law0 at h
  rcases List.mem_append.mp h with h | h
  · rcases List.mem_append.mp h with h | h
    · rcases List.mem_append.mp h with h | h
      · rcases List.mem_append.mp h with h | h
        · rcases List.mem_append.mp h with h | h
          · rcases List.mem_append.mp h with h | h
            · rcases List.mem_append.mp h with h | h
              · rcases List.mem_append.mp h with h | h
                · rcases List.mem_append.mp h with h | h
                  · rcases List.mem_append.mp h with h | h
                    · rcases List.mem_append.mp h with h | h
                      · exact lin_1 w h
                      · rcases List.mem_append.mp h with h | h
                        · exact lin_2 w h
                        · rcases List.mem_append.mp h with h | h
                          · exact lin_3 w h
                          · rcases List.mem_append.mp h with h | h
                            · exact lin_4 w h
                            · rcases List.mem_append.mp h with h | h
                              · exact lin_5 w h
                              · rcases List.mem_append.mp h with h | h
                                · exact lin_6 w h
                                · rcases List.mem_append.mp h with h | h
                                  · exact lin_7 w h
                                  · rcases List.mem_append.mp h with h | h
                                    · exact lin_8 w h
                                    · rcases List.mem_append.mp h with h | h
                                      · exact lin_9 w h
                                      · rcases List.mem_append.mp h with h | h
                                        · exact lin_10 w h
                                        · rcases List.mem_append.mp h with h | h
                                          · exact lin_11 w h
                                          · rcases List.mem_append.mp h with h | h
                                            · exact lin_12 w h
                                            · rcases List.mem_append.mp h with h | h
                                              · exact lin_13 w h
                                              · rcases List.mem_append.mp h with h | h
                                                · exact lin_14 w h
                                                · rcases List.mem_append.mp h with h | h
                                                  · exact lin_15 w h
                                                  · exact lin_16 w h
                    · exact lin_wsX60 w h
                  · exact lin_wsJx4a65c0 w h
                · exact lin_wsX40 w h
              · exact lin_wsX00 w h
            · exact lin_wsX20 w h
          · exact lin_wsX50 w h
        · exact lin_wsX30 w h
      · exact lin_wsX90 w h
    · exact lin_wsX10 w h
  · exact absurd h (List.not_mem_nil)
theorem wsL_law_in : ∀ w ∈ wsL_law, w ∈ lw_tbl := fun w h => by
  unfold wsL_law at h
  rcases List.mem_append.mp h with h | h
  · rcases List.mem_append.mp h with h | h
    · rcases List.mem_append.mp h with h | h
      · exact lin_0 w h
      · exact lin_x0 w h
    · exact lin_x1 w h
  · exact lin_x2 w h
