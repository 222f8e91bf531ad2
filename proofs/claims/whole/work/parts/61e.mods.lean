set_option maxHeartbeats 4000000 in
set_option maxRecDepth 100000 in
theorem k_X7_isGear (l : Launch) (A : Nat → Prop) (G : g_C) (w : g_W) (md : Nat → Nat) (S : Sg) (th : Int32) (tp bt : Int64) (Fm : Nat → Nat → Int32) (L : Nat → Nat → Int64) (pn : Int32) (hx0 : w (md 0) = some (.inr (8, [.int th, .int (iL (S 0 0)), .ref (md 1), .ref (md 2), .ref (md 3), .int (iL (S 0 4)), .int (iL (S 0 5)), .int (iL (S 0 1)), .ref (md 4), .ref (md 5), .int (iL (S 0 2)), .ref (md 6), .ref (md 7), .int (iL (S 0 3)), .ref (md 8), .ref (md 9), .ref (md 10), .ref (md 11), .long tp, .long bt]))) (Hf : modF S Fm) (Hi : invS S) : mI l yX7_isGear wsX7_isGear ({ frames := 1, cells := 0, slots := 0, locals := 22 } : Room) [.ref (md 0), .int pn] A G w (fun r w' => r = g_b (decide (shQ S 1 pn)) ∧ w' = w) 0 0 := by
  refine g_ofI (cc := cX7_isGear) (maxL := 2) (ret := (some .boolean)) (own := RX7) (by decide) rfl rfl (Nat.le_of_ble_eq_true rfl) ?_
  intro p e R s m args below meth c Q ls hR F hP hS hlocks hr hnm0 hQ hl
  obtain ⟨⟨hx, hb, hml, hown, hts⟩, hK, hZ, hA⟩ := id F
  generalize hH0 : s.heap = H at hP ⊢
  have hS : va_S A s.heap H [] := by rw [← hH0]; exact va_S.rf
  generalize ([] : List Loc) = locs at hS ⊢
  have hl : lv_has ls 2 [(0, .ref (md 0)), (1, .int pn)] := hl
  have iX7 : ∀ w ∈ u_ws RX7 TX7 20, w ∈ wsX7_isGear := fun w h => List.mem_cons_of_mem _ (List.mem_append_right _ (h))
  have hi := Hi.1
  refine lv_iload_n hx hb dX7_isGear_0 rfl (lv_at hl 1 rfl) ?_
  refine lv_iconst (v := 0) hx hb dX7_isGear_1 (by decide) ?_
  refine lv_aload_n hx hb dX7_isGear_2 rfl (lv_at hl 0 rfl) ?_
  refine g_get F hP (C := RX7) (T := TX7) (N := 20) iX7 hx0 rfl 7 (by decide) (List.mem_cons_of_mem _ (List.mem_append_left _ (List.mem_of_getElem? (i := 0) rfl))) (fun _ h9 => h9) rfl dX7_isGear_3 ?_
  refine lv_iconst (v := 1) hx hb dX7_isGear_6 (by decide) ?_
  refine lv_isub hx hb dX7_isGear_7 ?_
  refine lv_topi (fun v1 ev1 => ?_)
  obtain rfl : v1 = iL (S 0 1 - 1) := by
    rw [ev1]
    exact iL_sub _ 1
  refine g_Si (As := [.int pn, .int 0, .int (iL (S 0 1 - 1))]) (rest := []) F hP hS (k_X7_isIn l A G w pn 0 (iL (S 0 1 - 1))) (va_cwS 3 hts gX7_isGear_X7_isIn rfl rfl rfl cd_X7_isIn ⟨by rw [hR]; exact Nat.le_of_ble_eq_true rfl, by rw [hR]; exact Nat.le_of_ble_eq_true rfl⟩) rfl hl.1 (Nat.le_of_ble_eq_true rfl) dX7_isGear_8 ⟨by rw [hR]; exact Nat.le_of_ble_eq_true rfl, by rw [hR]; exact Nat.le_of_ble_eq_true rfl⟩ rfl (fun r2 w3 H locs h4 hP hS => ?_)
  have hr2 := h4.1
  rw [h4.2] at hP
  rw [hr2]
  rw [hQ]
  refine g_zret F hP hS hlocks hr (by first | rfl | exact g_nb _) dX7_isGear_11 (by first | exact Nat.le_of_ble_eq_true rfl | omega) (by first | exact Nat.le_of_ble_eq_true rfl | omega) ?_
  have k1 : (0 ≤ pn) ↔ 0 ≤ pn.toInt := by rw [Int32.le_iff_toInt_le]; rfl
  have k2 : (pn ≤ iL (S 0 1 - 1)) ↔ pn.toInt < S 0 1 := by rw [Int32.le_iff_toInt_le, iL_t (by omega) (by omega)]; omega
  exact ⟨by rw [decide_eq_decide.mpr (show (0 ≤ pn ∧ pn ≤ iL (S 0 1 - 1)) ↔ shQ S 1 pn by rw [k1, k2])], rfl⟩
