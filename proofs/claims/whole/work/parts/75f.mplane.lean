set_option maxHeartbeats 4000000 in
set_option maxRecDepth 100000 in
theorem k_X7_size (l : Launch) (A : Nat → Prop) (G : g_C) (w : g_W) (md : Nat → Nat) (S : Sg) (th : Int32) (tp bt : Int64) (Fm : Nat → Nat → Int32) (L : Nat → Nat → Int64) (k : Nat) (hx0 : w (md 0) = some (.inr (8, [.int th, .int (iL (S 0 0)), .ref (md 1), .ref (md 2), .ref (md 3), .int (iL (S 0 4)), .int (iL (S 0 5)), .int (iL (S 0 1)), .ref (md 4), .ref (md 5), .int (iL (S 0 2)), .ref (md 6), .ref (md 7), .int (iL (S 0 3)), .ref (md 8), .ref (md 9), .ref (md 10), .ref (md 11), .long tp, .long bt]))) (hy4 : w (md 4) = some (.inl (G.2.1 0, 64, .inl (Fm 4)))) (hy5 : w (md 5) = some (.inl (G.2.1 2, 16, .inl (Fm 5)))) (Hf : modF S Fm) (Hi : invS S) (hk : (k : Int) < S 0 1) : mI l yX7_size wsX7_size ({ frames := 1, cells := 0, slots := 0, locals := 21 } : Room) [.ref (md 0), .int (nI k)] A G w (fun r w' => r = iL (szI S k) ∧ w' = w) 0 0 := by
  refine g_ofI (cc := cX7_size) (maxL := 2) (ret := (some .int)) (own := RX7) (by decide) rfl rfl (Nat.le_of_ble_eq_true rfl) ?_
  intro p e R s m args below meth c Q ls hR F hP hS hlocks hr hnm0 hQ hl
  obtain ⟨⟨hx, hb, hml, hown, hts⟩, hK, hZ, hA⟩ := id F
  generalize hH0 : s.heap = H at hP ⊢
  have hS : va_S A s.heap H [] := by rw [← hH0]; exact va_S.rf
  generalize ([] : List Loc) = locs at hS ⊢
  have hl : lv_has ls 2 [(0, .ref (md 0)), (1, .int (nI k))] := hl
  have iX7 : ∀ w ∈ u_ws RX7 TX7 20, w ∈ wsX7_size := fun w h => List.mem_cons_of_mem _ (List.mem_append_right _ (h))
  have hi := Hi.1
  have gk := Hi.2.2.1 k hk
  refine lv_aload_n hx hb dX7_size_0 rfl (lv_at hl 0 rfl) ?_
  refine lv_iload_n hx hb dX7_size_1 rfl (lv_at hl 1 rfl) ?_
  refine g_Vi (As := [.int (nI k)]) (rest := []) F hP hS (k_X7_module l A G w md S _ _ _ Fm L k hx0 hy4 Hf Hi hk) (cwV 1 hts gX7_size_X7_module rfl rfl rfl cd_X7_module ⟨by rw [hR]; exact Nat.le_of_ble_eq_true rfl, by rw [hR]; exact Nat.le_of_ble_eq_true rfl⟩) hx0 rfl rfl rfl hl.1 (Nat.le_of_ble_eq_true rfl) dX7_size_2 ⟨by rw [hR]; exact Nat.le_of_ble_eq_true rfl, by rw [hR]; exact Nat.le_of_ble_eq_true rfl⟩ rfl (fun r1 w2 H locs h3 hP hS => ?_)
  have hr1 := h3.1
  rw [h3.2] at hP
  rw [hr1]
  refine lv_aload_n hx hb dX7_size_5 rfl (lv_at hl 0 rfl) ?_
  refine lv_iload_n hx hb dX7_size_6 rfl (lv_at hl 1 rfl) ?_
  refine g_Vi (As := [.int (nI k)]) (rest := [.int (iL (S 6 k))]) F hP hS (k_X7_teeth l A G w md S _ _ _ Fm L k hx0 hy4 Hf Hi hk) (cwV 1 hts gX7_size_X7_teeth rfl rfl rfl cd_X7_teeth ⟨by rw [hR]; exact Nat.le_of_ble_eq_true rfl, by rw [hR]; exact Nat.le_of_ble_eq_true rfl⟩) hx0 rfl rfl rfl hl.1 (Nat.le_of_ble_eq_true rfl) dX7_size_7 ⟨by rw [hR]; exact Nat.le_of_ble_eq_true rfl, by rw [hR]; exact Nat.le_of_ble_eq_true rfl⟩ rfl (fun r4 w5 H locs h6 hP hS => ?_)
  have hr4 := h6.1
  rw [h6.2] at hP
  rw [hr4]
  refine lv_aload_n hx hb dX7_size_10 rfl (lv_at hl 0 rfl) ?_
  refine g_get F hP (C := RX7) (T := TX7) (N := 20) iX7 hx0 rfl 9 (by decide) (List.mem_cons_of_mem _ (List.mem_append_left _ (List.mem_of_getElem? (i := 0) rfl))) (fun _ h9 => h9) rfl dX7_size_11 ?_
  refine lv_iload_n hx hb dX7_size_14 rfl (lv_at hl 1 rfl) ?_
  refine g_zald F hP hy5 (vp_in_nI (by omega) (by decide)) dX7_size_15 ?_
  rw [show (.int ((Fm 5) (nI k : Int32).toNatClampNeg) : Value) = .int (g_b (decide (S 8 k = 1))) from by rw [nI_clamp (by omega), (Hf.2.1 k hk).2.2.2.2, iL_b gk.2.2.2.2.2.2.2.2]]
  refine lv_if_eq (tgt := 24) hx hb dX7_size_16 (by decide) (fun c7 => ?_) (fun c7 => ?_)
  · have yc7 := of_decide_eq_false (g_b0.mp c7)
    refine lv_iconst (v := 2) hx hb dX7_size_24 (by decide) ?_
    refine lv_iadd hx hb dX7_size_25 ?_
    refine lv_topi (fun v8 ev8 => ?_)
    obtain rfl : v8 = iL (S 5 k) + 2 := by
      exact ev8
    refine lv_imul hx hb dX7_size_26 ?_
    refine lv_topi (fun v9 ev9 => ?_)
    obtain rfl : v9 = iL (szI S k) := by
      rw [ev9]
      have q := sz32 (S := S) (g := k) (b := false) (by simp [yc7])
      exact q
    rw [hQ]
    refine g_iret F hP hS hlocks hr dX7_size_27 (by first | exact Nat.le_of_ble_eq_true rfl | omega) (by first | exact Nat.le_of_ble_eq_true rfl | omega) ?_
    exact ⟨rfl, rfl⟩
  · have yc7 := of_decide_eq_true (g_b1.mp c7)
    refine lv_bipush (v := 6) hx hb dX7_size_19 (by decide) ?_
    refine lv_goto (tgt := 25) hx hb dX7_size_21 (by decide) ?_
    refine lv_iadd hx hb dX7_size_25 ?_
    refine lv_topi (fun v10 ev10 => ?_)
    obtain rfl : v10 = iL (S 5 k) + 6 := by
      exact ev10
    refine lv_imul hx hb dX7_size_26 ?_
    refine lv_topi (fun v11 ev11 => ?_)
    obtain rfl : v11 = iL (szI S k) := by
      rw [ev11]
      have q := sz32 (S := S) (g := k) (b := true) (by simp [yc7])
      exact q
    rw [hQ]
    refine g_iret F hP hS hlocks hr dX7_size_27 (by first | exact Nat.le_of_ble_eq_true rfl | omega) (by first | exact Nat.le_of_ble_eq_true rfl | omega) ?_
    exact ⟨rfl, rfl⟩
