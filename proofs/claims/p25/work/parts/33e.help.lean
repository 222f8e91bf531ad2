theorem cd_Jx4a65c_get_915e3 : yJx4a65c_get_915e3.cls = RJx4a65c ∧ yJx4a65c_get_915e3.cls ≠ "java/lang/invoke/MethodHandle" ∧ yJx4a65c_get_915e3.cls ≠ "java/lang/invoke/VarHandle" ∧ (parseMethodDescriptor yJx4a65c_get_915e3.desc).map (fun d => d.parameters.length) = some 1 := by decide +kernel
theorem xt_IllegalSt_44_b : ∀ w ∈ (vx_atS RX6 44 "java/lang/IllegalStateException" ["java/lang/RuntimeException", "java/lang/Exception"]).filter (fun w => !goodWord w), w ∈ [Cond.declares (Bundle.initS "java/lang/RuntimeException"), Cond.declares (Bundle.initS "java/lang/Exception"), Cond.declares (Bundle.initS Bundle.tN), Cond.castable "java/lang/IllegalStateException" "java/lang/IllegalStateException"] := by decide +kernel
theorem xt_IllegalSt_44_g : ∀ w ∈ vx_atS RX6 44 "java/lang/IllegalStateException" ["java/lang/RuntimeException", "java/lang/Exception"], vx_ot w = true := by decide +kernel
set_option maxHeartbeats 4000000 in
set_option maxRecDepth 100000 in
theorem k_X6_requireSpeed (l : Launch) (hlt : l.stackTraces = false) (A : Nat → Prop) (G : g_C) (w : g_W) (ad : Nat → Nat → Nat) (Cn : Nat → Nat → Option va_E) (S T : Sg) (k : Nat) (Hh : holds w ad Cn) (Hr : rep G S T ad Cn) (Hi : invS S) (Ht : invT S T) (hk : (k : Int) < S 0 0) : xV l yX6_requireSpeed wsX6_requireSpeed ({ frames := 6, cells := 1, slots := 6, locals := 90 } : Room) [.ref (ad 0 0), .int (nI k)] A G w (fun w' => T 2 k ≠ -1 ∧ w' = w) (fun u => u = ("java/lang/IllegalStateException", w) ∧ T 2 k = -1) 1 6 := by
  refine g_xofV (cc := cX6_requireSpeed) (maxL := 2) (ret := none) (own := RX6) (by decide) rfl rfl (Nat.le_of_ble_eq_true rfl) ?_
  intro p e R s m args below meth c Q ls hR F hP hS hlocks hr hout hQ hl
  obtain ⟨⟨hx, hb, hml, hown, hts⟩, hK, hZ, hA⟩ := id F
  generalize hH0 : s.heap = H at hP ⊢
  have hS : va_S A s.heap H [] := by rw [← hH0]; exact va_S.rf
  generalize ([] : List Loc) = locs at hS ⊢
  have hl : lv_has ls 2 [(0, .ref (ad 0 0)), (1, .int (nI k))] := hl
  have iX6 : ∀ w ∈ u_ws RX6 TX6 6, w ∈ wsX6_requireSpeed := fun w h => List.mem_cons_of_mem _ (List.mem_append_left _ (List.mem_append_left _ (List.mem_append_left _ (List.mem_append_right _ (h)))))
  have hx0 := rep_x Hh Hr
  obtain ⟨m0, a0, hz0⟩ := rep_size Hh Hr 0 (by decide)
  refine lv_aload_n hx hb dX6_requireSpeed_0 rfl (lv_at hl 0 rfl) ?_
  refine g_get F hP (C := RX6) (T := TX6) (N := 6) iX6 hx0 rfl 0 (by decide) (List.mem_cons_of_mem _ (List.mem_append_left _ (List.mem_append_left _ (List.mem_append_left _ (List.mem_append_left _ (List.mem_append_left _ (List.mem_of_getElem? (i := 2) rfl))))))) (fun _ h9 => h9) rfl dX6_requireSpeed_1 ?_
  refine lv_iload_n hx hb dX6_requireSpeed_4 rfl (lv_at hl 1 rfl) ?_
  obtain ⟨gm1, gc1, gf1, ga1, gb1, gk1, gn1, gd1, ge1⟩ := rep_get Hh Hr 0 (by decide) hk
  refine g_Vq (As := [.int (nI k)]) (rest := []) F hP hS (k_get l A G w (ad 1 0) (ad 2 0) (S 0 0).toNat gc1 gm1 gf1 k ga1 gb1 gk1 gn1 gd1) (cwV 1 hts gX6_requireSpeed_Jx4a65c_get_915e3 rfl rfl rfl cd_Jx4a65c_get_915e3 ⟨by rw [hR]; exact Nat.le_of_ble_eq_true rfl, by rw [hR]; exact Nat.le_of_ble_eq_true rfl⟩) ga1 rfl rfl rfl hl.1 (Nat.le_of_ble_eq_true rfl) dX6_requireSpeed_5 ⟨by rw [hR]; exact Nat.le_of_ble_eq_true rfl, by rw [hR]; exact Nat.le_of_ble_eq_true rfl⟩ rfl (fun r2 w3 H locs h4 hP hS => ?_)
  have hr2 := h4.1
  rw [h4.2] at hP
  have f5 := rep_sh Hh Hr hk
  have f6 := rep_fr Hh Hr hk
  rw [hr2, ge1, show va_rf (some (ad (elk 0) k)) = .ref (ad 3 k) from rfl]
  refine g_cast F hP (C := RX4) (T := TX4) (N := 5) f5 rfl (List.mem_cons_of_mem _ (List.mem_append_left _ (List.mem_append_left _ (List.mem_append_left _ (List.mem_append_left _ (List.mem_append_left _ (List.mem_of_getElem? (i := 3) rfl))))))) dX6_requireSpeed_8 ?_
  refine g_Vi (As := []) (rest := []) F hP hS (k_X4_hasSpeed l A G w (ad 3 k) (iL (S 1 k)) (iL (S 2 k)) (iL (S 3 k)) (iL (T 2 k)) (ad 4 k) f5) (cwV 0 hts gX6_requireSpeed_X4_hasSpeed rfl rfl rfl cd_X4_hasSpeed ⟨by rw [hR]; exact Nat.le_of_ble_eq_true rfl, by rw [hR]; exact Nat.le_of_ble_eq_true rfl⟩) f5 rfl rfl rfl hl.1 (Nat.le_of_ble_eq_true rfl) dX6_requireSpeed_11 ⟨by rw [hR]; exact Nat.le_of_ble_eq_true rfl, by rw [hR]; exact Nat.le_of_ble_eq_true rfl⟩ rfl (fun r7 w8 H locs h9 hP hS => ?_)
  have hr7 := h9.1
  rw [h9.2] at hP
  rw [hr7]
  refine lv_if_ne (tgt := 27) hx hb dX6_requireSpeed_14 (by decide) (fun c10 => ?_) (fun c10 => ?_)
  · have yc10 := of_decide_eq_true (g_b1.mp c10)
    rw [hQ]
    refine g_xvret F hP hS hlocks hr dX6_requireSpeed_27 (by first | exact Nat.le_of_ble_eq_true rfl | omega) (by first | exact Nat.le_of_ble_eq_true rfl | omega) ?_
    have tk := Ht.1 k hk
    have t2 : (iL (T 2 k) ≠ -1) ↔ T 2 k ≠ -1 := by rw [show (-1 : Int32) = iL (-1) from rfl, ne_eq, iL_eq (by omega) (by omega) (by omega) (by omega)]
    rw [t2] at yc10
    exact ⟨yc10, rfl⟩
  · have yc10 := of_decide_eq_false (g_b0.mp c10)
    rw [hQ]
    refine g_throw F hP hS hlt rfl (hZ.2.2.2.2.2.2.2.1 ("java/lang/IllegalStateException", "java/lang/IllegalStateException") (List.mem_of_getElem? (i := 1) rfl)) (by decide +kernel) (List.mem_cons_of_mem _ (List.mem_append_left _ (List.mem_append_left _ (List.mem_append_left _ (List.mem_append_left _ (List.mem_append_left _ (List.mem_of_getElem? (i := 0) rfl))))))) (List.mem_cons_of_mem _ (List.mem_append_left _ (List.mem_append_left _ (List.mem_append_left _ (List.mem_append_left _ (List.mem_append_left _ (List.mem_of_getElem? (i := 1) rfl))))))) (cls := "java/lang/IllegalStateException") (text := "the speed is not told") (List.mem_of_getElem? (i := 11) rfl) (fun w h => List.mem_cons_of_mem _ (List.mem_append_right _ (h))) xt_IllegalSt_44_b (fun w h => (List.mem_cons.mp h).elim (fun e => by rw [e]; rfl) (fun h => (List.mem_cons.mp h).elim (fun e => by rw [e]; rfl) (fun h => xt_IllegalSt_44_g w h))) hl.1 dX6_requireSpeed_17 dX6_requireSpeed_20 dX6_requireSpeed_21 dX6_requireSpeed_23 dX6_requireSpeed_26 hout (by rw [hR]; exact Nat.le_of_ble_eq_true rfl) (by rw [hR]; exact Nat.le_of_ble_eq_true rfl) (by rw [hR]; exact Nat.le_of_ble_eq_true rfl) (by rw [hR]; exact Nat.le_of_ble_eq_true rfl) hlocks ?_ (by decide) (by decide)
    have tk := Ht.1 k hk
    have t2 : (iL (T 2 k) ≠ -1) ↔ T 2 k ≠ -1 := by rw [show (-1 : Int32) = iL (-1) from rfl, ne_eq, iL_eq (by omega) (by omega) (by omega) (by omega)]
    rw [t2] at yc10
    exact ⟨rfl, by omega⟩
