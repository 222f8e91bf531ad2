set_option maxHeartbeats 4000000 in
set_option maxRecDepth 100000 in
theorem k_X7_apart (l : Launch) (A : Nat → Prop) (G : g_C) (w : g_W) (md : Nat → Nat) (S : Sg) (th : Int32) (tp bt : Int64) (Fm : Nat → Nat → Int32) (L : Nat → Nat → Int64) (ka kb : Nat) (hx0 : w (md 0) = some (.inr (8, [.int th, .int (iL (S 0 0)), .ref (md 1), .ref (md 2), .ref (md 3), .int (iL (S 0 4)), .int (iL (S 0 5)), .int (iL (S 0 1)), .ref (md 4), .ref (md 5), .int (iL (S 0 2)), .ref (md 6), .ref (md 7), .int (iL (S 0 3)), .ref (md 8), .ref (md 9), .ref (md 10), .ref (md 11), .long tp, .long bt]))) (hy1 : w (md 1) = some (.inl (G.2.1 0, 10, .inl (Fm 1)))) (hy2 : w (md 2) = some (.inl (G.2.1 0, 10, .inl (Fm 2)))) (Hf : modF S Fm) (Hi : invS S) (hka : (ka : Int) < S 0 0) (hkb : (kb : Int) < S 0 0) : mI l yX7_apart wsX7_apart ({ frames := 1, cells := 0, slots := 0, locals := 20 } : Room) [.ref (md 0), .int (nI ka), .int (nI kb)] A G w (fun r w' => r = iL (dsI S ka kb) ∧ w' = w) 0 0 := by
  refine g_ofI (cc := cX7_apart) (maxL := 3) (ret := (some .int)) (own := RX7) (by decide) rfl rfl (Nat.le_of_ble_eq_true rfl) ?_
  intro p e R s m args below meth c Q ls hR F hP hS hlocks hr hnm0 hQ hl
  obtain ⟨⟨hx, hb, hml, hown, hts⟩, hK, hZ, hA⟩ := id F
  generalize hH0 : s.heap = H at hP ⊢
  have hS : va_S A s.heap H [] := by rw [← hH0]; exact va_S.rf
  generalize ([] : List Loc) = locs at hS ⊢
  have hl : lv_has ls 3 [(0, .ref (md 0)), (1, .int (nI ka)), (2, .int (nI kb))] := hl
  have iX7 : ∀ w ∈ u_ws RX7 TX7 20, w ∈ wsX7_apart := fun w h => List.mem_cons_of_mem _ (List.mem_append_right _ (h))
  have hi := Hi.1
  refine lv_aload_n hx hb dX7_apart_0 rfl (lv_at hl 0 rfl) ?_
  refine g_get F hP (C := RX7) (T := TX7) (N := 20) iX7 hx0 rfl 2 (by decide) (List.mem_cons_of_mem _ (List.mem_append_left _ (List.mem_of_getElem? (i := 0) rfl))) (fun _ h9 => h9) rfl dX7_apart_1 ?_
  refine lv_iload_n hx hb dX7_apart_4 rfl (lv_at hl 1 rfl) ?_
  refine g_iald F hP hy1 (vp_in_nI (by omega) (by decide)) dX7_apart_5 ?_
  rw [show (.int ((Fm 1) (nI ka : Int32).toNatClampNeg) : Value) = .int (iL (S 1 ka)) from by rw [nI_clamp (by omega), (Hf.1 ka hka).1]]
  refine lv_aload_n hx hb dX7_apart_6 rfl (lv_at hl 0 rfl) ?_
  refine g_get F hP (C := RX7) (T := TX7) (N := 20) iX7 hx0 rfl 2 (by decide) (List.mem_cons_of_mem _ (List.mem_append_left _ (List.mem_of_getElem? (i := 0) rfl))) (fun _ h9 => h9) rfl dX7_apart_7 ?_
  refine lv_iload_n hx hb dX7_apart_10 rfl (lv_at hl 2 rfl) ?_
  refine g_iald F hP hy1 (vp_in_nI (by omega) (by decide)) dX7_apart_11 ?_
  rw [show (.int ((Fm 1) (nI kb : Int32).toNatClampNeg) : Value) = .int (iL (S 1 kb)) from by rw [nI_clamp (by omega), (Hf.1 kb hkb).1]]
  refine lv_isub hx hb dX7_apart_12 ?_
  refine lv_topi (fun v1 ev1 => ?_)
  obtain rfl : v1 = iL (S 1 ka) - iL (S 1 kb) := by
    exact ev1
  refine g_Si (As := [.int (iL (S 1 ka) - iL (S 1 kb))]) (rest := []) F hP hS (k_X7_square l A G w (iL (S 1 ka) - iL (S 1 kb))) (va_cwS 1 hts gX7_apart_X7_square rfl rfl rfl cd_X7_square ⟨by rw [hR]; exact Nat.le_of_ble_eq_true rfl, by rw [hR]; exact Nat.le_of_ble_eq_true rfl⟩) rfl hl.1 (Nat.le_of_ble_eq_true rfl) dX7_apart_13 ⟨by rw [hR]; exact Nat.le_of_ble_eq_true rfl, by rw [hR]; exact Nat.le_of_ble_eq_true rfl⟩ rfl (fun r2 w3 H locs h4 hP hS => ?_)
  have hr2 := h4.1
  rw [h4.2] at hP
  rw [hr2]
  refine lv_aload_n hx hb dX7_apart_16 rfl (lv_at hl 0 rfl) ?_
  refine g_get F hP (C := RX7) (T := TX7) (N := 20) iX7 hx0 rfl 3 (by decide) (List.mem_cons_of_mem _ (List.mem_append_left _ (List.mem_of_getElem? (i := 1) rfl))) (fun _ h9 => h9) rfl dX7_apart_17 ?_
  refine lv_iload_n hx hb dX7_apart_20 rfl (lv_at hl 1 rfl) ?_
  refine g_iald F hP hy2 (vp_in_nI (by omega) (by decide)) dX7_apart_21 ?_
  rw [show (.int ((Fm 2) (nI ka : Int32).toNatClampNeg) : Value) = .int (iL (S 2 ka)) from by rw [nI_clamp (by omega), (Hf.1 ka hka).2.1]]
  refine lv_aload_n hx hb dX7_apart_22 rfl (lv_at hl 0 rfl) ?_
  refine g_get F hP (C := RX7) (T := TX7) (N := 20) iX7 hx0 rfl 3 (by decide) (List.mem_cons_of_mem _ (List.mem_append_left _ (List.mem_of_getElem? (i := 1) rfl))) (fun _ h9 => h9) rfl dX7_apart_23 ?_
  refine lv_iload_n hx hb dX7_apart_26 rfl (lv_at hl 2 rfl) ?_
  refine g_iald F hP hy2 (vp_in_nI (by omega) (by decide)) dX7_apart_27 ?_
  rw [show (.int ((Fm 2) (nI kb : Int32).toNatClampNeg) : Value) = .int (iL (S 2 kb)) from by rw [nI_clamp (by omega), (Hf.1 kb hkb).2.1]]
  refine lv_isub hx hb dX7_apart_28 ?_
  refine lv_topi (fun v5 ev5 => ?_)
  obtain rfl : v5 = iL (S 2 ka) - iL (S 2 kb) := by
    exact ev5
  refine g_Si (As := [.int (iL (S 2 ka) - iL (S 2 kb))]) (rest := [.int ((iL (S 1 ka) - iL (S 1 kb)) * (iL (S 1 ka) - iL (S 1 kb)))]) F hP hS (k_X7_square l A G w (iL (S 2 ka) - iL (S 2 kb))) (va_cwS 1 hts gX7_apart_X7_square rfl rfl rfl cd_X7_square ⟨by rw [hR]; exact Nat.le_of_ble_eq_true rfl, by rw [hR]; exact Nat.le_of_ble_eq_true rfl⟩) rfl hl.1 (Nat.le_of_ble_eq_true rfl) dX7_apart_29 ⟨by rw [hR]; exact Nat.le_of_ble_eq_true rfl, by rw [hR]; exact Nat.le_of_ble_eq_true rfl⟩ rfl (fun r6 w7 H locs h8 hP hS => ?_)
  have hr6 := h8.1
  rw [h8.2] at hP
  rw [hr6]
  refine lv_iadd hx hb dX7_apart_32 ?_
  refine lv_topi (fun v9 ev9 => ?_)
  obtain rfl : v9 = iL (dsI S ka kb) := by
    rw [ev9]
    exact ds32 S ka kb
  rw [hQ]
  refine g_iret F hP hS hlocks hr dX7_apart_33 (by first | exact Nat.le_of_ble_eq_true rfl | omega) (by first | exact Nat.le_of_ble_eq_true rfl | omega) ?_
  exact ⟨rfl, rfl⟩
