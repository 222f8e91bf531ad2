theorem cd_Jx4a65c_size_8abf5 : yJx4a65c_size_8abf5.cls = RJx4a65c ∧ yJx4a65c_size_8abf5.cls ≠ "java/lang/invoke/MethodHandle" ∧ yJx4a65c_size_8abf5.cls ≠ "java/lang/invoke/VarHandle" ∧ (parseMethodDescriptor yJx4a65c_size_8abf5.desc).map (fun d => d.parameters.length) = some 0 := by decide +kernel
theorem xt_IndexOutO_136_b : ∀ w ∈ (vx_atS RX6 136 "java/lang/IndexOutOfBoundsException" ["java/lang/RuntimeException", "java/lang/Exception"]).filter (fun w => !goodWord w), w ∈ [Cond.declares (Bundle.initS "java/lang/RuntimeException"), Cond.declares (Bundle.initS "java/lang/Exception"), Cond.declares (Bundle.initS Bundle.tN), Cond.castable "java/lang/IndexOutOfBoundsException" "java/lang/IndexOutOfBoundsException"] := by decide +kernel
theorem xt_IndexOutO_136_g : ∀ w ∈ vx_atS RX6 136 "java/lang/IndexOutOfBoundsException" ["java/lang/RuntimeException", "java/lang/Exception"], vx_ot w = true := by decide +kernel
set_option maxHeartbeats 4000000 in
set_option maxRecDepth 100000 in
theorem k_X6_requireShaft (l : Launch) (hlt : l.stackTraces = false) (A : Nat → Prop) (G : g_C) (w : g_W) (ad : Nat → Nat → Nat) (Cn : Nat → Nat → Option va_E) (S T : Sg) (pn : Int32) (Hh : holds w ad Cn) (Hr : rep G S T ad Cn) (Hi : invS S) : xV l yX6_requireShaft wsX6_requireShaft ({ frames := 6, cells := 1, slots := 6, locals := 90 } : Room) [.ref (ad 0 0), .int pn] A G w (fun w' => (0 ≤ pn.toInt ∧ pn.toInt < S 0 0) ∧ w' = w) (fun u => u = ("java/lang/IndexOutOfBoundsException", w) ∧ ¬ (0 ≤ pn.toInt ∧ pn.toInt < S 0 0)) 1 6 := by
  refine g_xofV (cc := cX6_requireShaft) (maxL := 2) (ret := none) (own := RX6) (by decide) rfl rfl (Nat.le_of_ble_eq_true rfl) ?_
  intro p e R s m args below meth c Q ls hR F hP hS hlocks hr hout hQ hl
  obtain ⟨⟨hx, hb, hml, hown, hts⟩, hK, hZ, hA⟩ := id F
  generalize hH0 : s.heap = H at hP ⊢
  have hS : va_S A s.heap H [] := by rw [← hH0]; exact va_S.rf
  generalize ([] : List Loc) = locs at hS ⊢
  have hl : lv_has ls 2 [(0, .ref (ad 0 0)), (1, .int pn)] := hl
  have iX6 : ∀ w ∈ u_ws RX6 TX6 6, w ∈ wsX6_requireShaft := fun w h => List.mem_cons_of_mem _ (List.mem_append_left _ (List.mem_append_left _ (List.mem_append_right _ (h))))
  have hx0 := rep_x Hh Hr
  obtain ⟨m0, a0, hz0⟩ := rep_size Hh Hr 0 (by decide)
  refine lv_iload_n hx hb dX6_requireShaft_0 rfl (lv_at hl 1 rfl) ?_
  refine lv_iconst (v := 0) hx hb dX6_requireShaft_1 (by decide) ?_
  refine lv_aload_n hx hb dX6_requireShaft_2 rfl (lv_at hl 0 rfl) ?_
  refine g_get F hP (C := RX6) (T := TX6) (N := 6) iX6 hx0 rfl 0 (by decide) (List.mem_cons_of_mem _ (List.mem_append_left _ (List.mem_append_left _ (List.mem_append_left _ (List.mem_of_getElem? (i := 2) rfl))))) (fun _ h9 => h9) rfl dX6_requireShaft_3 ?_
  refine g_Vi (As := []) (rest := [.int 0, .int pn]) F hP hS (k_size l A G w (ad 1 0) a0 m0 (iL (S 0 0)) hz0) (cwV 0 hts gX6_requireShaft_Jx4a65c_size_8abf5 rfl rfl rfl cd_Jx4a65c_size_8abf5 ⟨by rw [hR]; exact Nat.le_of_ble_eq_true rfl, by rw [hR]; exact Nat.le_of_ble_eq_true rfl⟩) hz0 rfl rfl rfl hl.1 (Nat.le_of_ble_eq_true rfl) dX6_requireShaft_6 ⟨by rw [hR]; exact Nat.le_of_ble_eq_true rfl, by rw [hR]; exact Nat.le_of_ble_eq_true rfl⟩ rfl (fun r1 w2 H locs h3 hP hS => ?_)
  have hr1 := h3.1
  rw [h3.2] at hP
  rw [hr1]
  refine lv_iconst (v := 1) hx hb dX6_requireShaft_9 (by decide) ?_
  refine lv_isub hx hb dX6_requireShaft_10 ?_
  refine lv_topi (fun v4 ev4 => ?_)
  obtain rfl : v4 = iL (S 0 0 - 1) := by
    rw [ev4]
    exact iL_sub _ 1
  refine g_Si (As := [.int pn, .int 0, .int (iL (S 0 0 - 1))]) (rest := []) F hP hS (k_X6_isWithin l A G w pn 0 (iL (S 0 0 - 1))) (va_cwS 3 hts gX6_requireShaft_X6_isWithin rfl rfl rfl cd_X6_isWithin ⟨by rw [hR]; exact Nat.le_of_ble_eq_true rfl, by rw [hR]; exact Nat.le_of_ble_eq_true rfl⟩) rfl hl.1 (Nat.le_of_ble_eq_true rfl) dX6_requireShaft_11 ⟨by rw [hR]; exact Nat.le_of_ble_eq_true rfl, by rw [hR]; exact Nat.le_of_ble_eq_true rfl⟩ rfl (fun r5 w6 H locs h7 hP hS => ?_)
  have hr5 := h7.1
  rw [h7.2] at hP
  rw [hr5]
  refine lv_if_ne (tgt := 27) hx hb dX6_requireShaft_14 (by decide) (fun c8 => ?_) (fun c8 => ?_)
  · have yc8 := of_decide_eq_true (g_b1.mp c8)
    rw [hQ]
    refine g_xvret F hP hS hlocks hr dX6_requireShaft_27 (by first | exact Nat.le_of_ble_eq_true rfl | omega) (by first | exact Nat.le_of_ble_eq_true rfl | omega) ?_
    have hi1 := Hi.1
    have k1 : (0 ≤ pn) ↔ 0 ≤ pn.toInt := by rw [Int32.le_iff_toInt_le]; rfl
    have k2 : (pn ≤ iL (S 0 0 - 1)) ↔ pn.toInt < S 0 0 := by rw [Int32.le_iff_toInt_le, iL_t (by omega) (by omega)]; omega
    rw [k1, k2] at yc8
    exact ⟨yc8, rfl⟩
  · have yc8 := of_decide_eq_false (g_b0.mp c8)
    rw [hQ]
    refine g_throw F hP hS hlt rfl (hZ.2.2.2.2.2.2.2.1 ("java/lang/IndexOutOfBoundsException", "java/lang/IndexOutOfBoundsException") (List.mem_of_getElem? (i := 2) rfl)) (by decide +kernel) (List.mem_cons_of_mem _ (List.mem_append_left _ (List.mem_append_left _ (List.mem_append_left _ (List.mem_of_getElem? (i := 0) rfl))))) (List.mem_cons_of_mem _ (List.mem_append_left _ (List.mem_append_left _ (List.mem_append_left _ (List.mem_of_getElem? (i := 1) rfl))))) (cls := "java/lang/IndexOutOfBoundsException") (text := "no such shaft") (List.mem_of_getElem? (i := 9) rfl) (fun w h => List.mem_cons_of_mem _ (List.mem_append_right _ (h))) xt_IndexOutO_136_b (fun w h => (List.mem_cons.mp h).elim (fun e => by rw [e]; rfl) (fun h => (List.mem_cons.mp h).elim (fun e => by rw [e]; rfl) (fun h => xt_IndexOutO_136_g w h))) hl.1 dX6_requireShaft_17 dX6_requireShaft_20 dX6_requireShaft_21 dX6_requireShaft_23 dX6_requireShaft_26 hout (by rw [hR]; exact Nat.le_of_ble_eq_true rfl) (by rw [hR]; exact Nat.le_of_ble_eq_true rfl) (by rw [hR]; exact Nat.le_of_ble_eq_true rfl) (by rw [hR]; exact Nat.le_of_ble_eq_true rfl) hlocks ?_ (by decide) (by decide)
    have hi1 := Hi.1
    have k1 : (0 ≤ pn) ↔ 0 ≤ pn.toInt := by rw [Int32.le_iff_toInt_le]; rfl
    have k2 : (pn ≤ iL (S 0 0 - 1)) ↔ pn.toInt < S 0 0 := by rw [Int32.le_iff_toInt_le, iL_t (by omega) (by omega)]; omega
    rw [k1, k2] at yc8
    exact ⟨rfl, yc8⟩
