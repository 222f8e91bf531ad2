set_option maxRecDepth 20000 in
theorem gib_x0 : GoodIn wsL_law ((vx_atS RX6 44 "java/lang/IllegalStateException" ["java/lang/RuntimeException", "java/lang/Exception"]).filter goodWord) := goodIn_sub (fun _ h => List.mem_append_left _ (List.mem_append_left _ (List.mem_append_right _ h))) (by decide +kernel)
set_option maxRecDepth 20000 in
theorem gib_x1 : GoodIn wsL_law ((vx_atS RX6 81 "java/lang/IllegalArgumentException" ["java/lang/RuntimeException", "java/lang/Exception"]).filter goodWord) := goodIn_sub (fun _ h => List.mem_append_left _ (List.mem_append_right _ h)) (by decide +kernel)
set_option maxRecDepth 20000 in
theorem gib_x2 : GoodIn wsL_law ((vx_atS RX6 136 "java/lang/IndexOutOfBoundsException" ["java/lang/RuntimeException", "java/lang/Exception"]).filter goodWord) := goodIn_sub (fun _ h => List.mem_append_right _ h) (by decide +kernel)
theorem ggL_law_L_build : GoodIn wsL_law wsL_build := by
  unfold wsL_build
  exact goodIn_one gib_c (goodIn_app (goodIn_app (goodIn_app (goodIn_app (goodIn_app (goodIn_app (goodIn_app (goodIn_app (goodIn_app (goodIn_app (goodIn_app (goodIn_app (goodIn_app gib_1 (goodIn_app gib_2 (goodIn_app gib_3 (goodIn_app gib_4 (goodIn_app gib_5 (goodIn_app gib_6 (goodIn_app gib_7 (goodIn_app gib_8 (goodIn_app gib_9 (goodIn_app gib_10 (goodIn_app gib_11 (goodIn_app gib_12 (gib_13))))))))))))) gib_wsX60) gib_wsX40) gib_wsJx4a65c0) gib_wsX00) gib_wsX20) gib_wsX50) gib_wsX30) gib_wsX90) gib_wsX10) gib_x0) gib_x1) gib_x2)
set_option maxRecDepth 20000 in
theorem gL_law_L_build : GoodIn wsL_law (va_wsS RL 76 yL_build wsL_build) := goodIn_app (goodIn_of _ (by decide +kernel)) ggL_law_L_build
