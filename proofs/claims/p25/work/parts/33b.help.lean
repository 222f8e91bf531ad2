theorem cd_X6_isWithin : yX6_isWithin.cls ≠ "java/lang/invoke/MethodHandle" ∧ yX6_isWithin.cls ≠ "java/lang/invoke/VarHandle" ∧ (parseMethodDescriptor yX6_isWithin.desc).map (fun d => d.parameters.length) = some 3 := by decide +kernel
theorem xt_IllegalAr_81_b : ∀ w ∈ (vx_atS RX6 81 "java/lang/IllegalArgumentException" ["java/lang/RuntimeException", "java/lang/Exception"]).filter (fun w => !goodWord w), w ∈ [Cond.declares (Bundle.initS "java/lang/RuntimeException"), Cond.declares (Bundle.initS "java/lang/Exception"), Cond.declares (Bundle.initS Bundle.tN), Cond.castable "java/lang/IllegalArgumentException" "java/lang/IllegalArgumentException"] := by decide +kernel
theorem xt_IllegalAr_81_g : ∀ w ∈ vx_atS RX6 81 "java/lang/IllegalArgumentException" ["java/lang/RuntimeException", "java/lang/Exception"], vx_ot w = true := by decide +kernel
set_option maxHeartbeats 4000000 in
set_option maxRecDepth 100000 in
theorem k_X6_requirePlace (l : Launch) (hlt : l.stackTraces = false) (A : Nat → Prop) (G : g_C) (w : g_W) (x y : Int32) : xV l yX6_requirePlace wsX6_requirePlace ({ frames := 6, cells := 1, slots := 6, locals := 90 } : Room) [.int x, .int y] A G w (fun w' => (((-1000) ≤ x ∧ x ≤ 1000) ∧ ((-1000) ≤ y ∧ y ≤ 1000)) ∧ w' = w) (fun u => u = ("java/lang/IllegalArgumentException", w) ∧ ¬ (((-1000) ≤ x ∧ x ≤ 1000) ∧ ((-1000) ≤ y ∧ y ≤ 1000))) 1 6 := by
  refine g_xofV (cc := cX6_requirePlace) (maxL := 2) (ret := none) (own := RX6) (by decide) rfl rfl (Nat.le_of_ble_eq_true rfl) ?_
  intro p e R s m args below meth c Q ls hR F hP hS hlocks hr hout hQ hl
  obtain ⟨⟨hx, hb, hml, hown, hts⟩, hK, hZ, hA⟩ := id F
  generalize hH0 : s.heap = H at hP ⊢
  have hS : va_S A s.heap H [] := by rw [← hH0]; exact va_S.rf
  generalize ([] : List Loc) = locs at hS ⊢
  have hl : lv_has ls 2 [(0, .int x), (1, .int y)] := hl
  refine lv_iload_n hx hb dX6_requirePlace_0 rfl (lv_at hl 0 rfl) ?_
  refine lv_sipush (v := (-1000)) hx hb dX6_requirePlace_1 (by decide) ?_
  refine lv_sipush (v := 1000) hx hb dX6_requirePlace_4 (by decide) ?_
  refine g_Si (As := [.int x, .int (-1000), .int 1000]) (rest := []) F hP hS (k_X6_isWithin l A G w x (-1000) 1000) (va_cwS 3 hts gX6_requirePlace_X6_isWithin rfl rfl rfl cd_X6_isWithin ⟨by rw [hR]; exact Nat.le_of_ble_eq_true rfl, by rw [hR]; exact Nat.le_of_ble_eq_true rfl⟩) rfl hl.1 (Nat.le_of_ble_eq_true rfl) dX6_requirePlace_7 ⟨by rw [hR]; exact Nat.le_of_ble_eq_true rfl, by rw [hR]; exact Nat.le_of_ble_eq_true rfl⟩ rfl (fun r1 w2 H locs h3 hP hS => ?_)
  have hr1 := h3.1
  rw [h3.2] at hP
  rw [hr1]
  refine lv_if_eq (tgt := 26) hx hb dX6_requirePlace_10 (by decide) (fun c4 => ?_) (fun c4 => ?_)
  · have yc4 := of_decide_eq_false (g_b0.mp c4)
    rw [hQ]
    refine g_throw F hP hS hlt rfl (hZ.2.2.2.2.2.2.2.1 ("java/lang/IllegalArgumentException", "java/lang/IllegalArgumentException") (List.mem_of_getElem? (i := 0) rfl)) (by decide +kernel) (List.mem_cons_of_mem _ (List.mem_append_left _ (List.mem_of_getElem? (i := 0) rfl))) (List.mem_cons_of_mem _ (List.mem_append_left _ (List.mem_of_getElem? (i := 1) rfl))) (cls := "java/lang/IllegalArgumentException") (text := "no such place") (List.mem_of_getElem? (i := 8) rfl) (fun w h => List.mem_cons_of_mem _ (List.mem_append_right _ (h))) xt_IllegalAr_81_b (fun w h => (List.mem_cons.mp h).elim (fun e => by rw [e]; rfl) (fun h => (List.mem_cons.mp h).elim (fun e => by rw [e]; rfl) (fun h => xt_IllegalAr_81_g w h))) hl.1 dX6_requirePlace_26 dX6_requirePlace_29 dX6_requirePlace_30 dX6_requirePlace_32 dX6_requirePlace_35 hout (by rw [hR]; exact Nat.le_of_ble_eq_true rfl) (by rw [hR]; exact Nat.le_of_ble_eq_true rfl) (by rw [hR]; exact Nat.le_of_ble_eq_true rfl) (by rw [hR]; exact Nat.le_of_ble_eq_true rfl) hlocks ?_ (by decide) (by decide)
    exact ⟨rfl, fun q => yc4 q.1⟩
  · have yc4 := of_decide_eq_true (g_b1.mp c4)
    refine lv_iload_n hx hb dX6_requirePlace_13 rfl (lv_at hl 1 rfl) ?_
    refine lv_sipush (v := (-1000)) hx hb dX6_requirePlace_14 (by decide) ?_
    refine lv_sipush (v := 1000) hx hb dX6_requirePlace_17 (by decide) ?_
    refine g_Si (As := [.int y, .int (-1000), .int 1000]) (rest := []) F hP hS (k_X6_isWithin l A G w y (-1000) 1000) (va_cwS 3 hts gX6_requirePlace_X6_isWithin rfl rfl rfl cd_X6_isWithin ⟨by rw [hR]; exact Nat.le_of_ble_eq_true rfl, by rw [hR]; exact Nat.le_of_ble_eq_true rfl⟩) rfl hl.1 (Nat.le_of_ble_eq_true rfl) dX6_requirePlace_20 ⟨by rw [hR]; exact Nat.le_of_ble_eq_true rfl, by rw [hR]; exact Nat.le_of_ble_eq_true rfl⟩ rfl (fun r5 w6 H locs h7 hP hS => ?_)
    have hr5 := h7.1
    rw [h7.2] at hP
    rw [hr5]
    refine lv_if_ne (tgt := 36) hx hb dX6_requirePlace_23 (by decide) (fun c8 => ?_) (fun c8 => ?_)
    · have yc8 := of_decide_eq_true (g_b1.mp c8)
      rw [hQ]
      refine g_xvret F hP hS hlocks hr dX6_requirePlace_36 (by first | exact Nat.le_of_ble_eq_true rfl | omega) (by first | exact Nat.le_of_ble_eq_true rfl | omega) ?_
      exact ⟨⟨yc4, yc8⟩, rfl⟩
    · have yc8 := of_decide_eq_false (g_b0.mp c8)
      rw [hQ]
      refine g_throw F hP hS hlt rfl (hZ.2.2.2.2.2.2.2.1 ("java/lang/IllegalArgumentException", "java/lang/IllegalArgumentException") (List.mem_of_getElem? (i := 0) rfl)) (by decide +kernel) (List.mem_cons_of_mem _ (List.mem_append_left _ (List.mem_of_getElem? (i := 0) rfl))) (List.mem_cons_of_mem _ (List.mem_append_left _ (List.mem_of_getElem? (i := 1) rfl))) (cls := "java/lang/IllegalArgumentException") (text := "no such place") (List.mem_of_getElem? (i := 8) rfl) (fun w h => List.mem_cons_of_mem _ (List.mem_append_right _ (h))) xt_IllegalAr_81_b (fun w h => (List.mem_cons.mp h).elim (fun e => by rw [e]; rfl) (fun h => (List.mem_cons.mp h).elim (fun e => by rw [e]; rfl) (fun h => xt_IllegalAr_81_g w h))) hl.1 dX6_requirePlace_26 dX6_requirePlace_29 dX6_requirePlace_30 dX6_requirePlace_32 dX6_requirePlace_35 hout (by rw [hR]; exact Nat.le_of_ble_eq_true rfl) (by rw [hR]; exact Nat.le_of_ble_eq_true rfl) (by rw [hR]; exact Nat.le_of_ble_eq_true rfl) (by rw [hR]; exact Nat.le_of_ble_eq_true rfl) hlocks ?_ (by decide) (by decide)
      exact ⟨rfl, fun q => yc8 q.2⟩
