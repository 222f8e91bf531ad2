set_option maxHeartbeats 4000000 in
set_option maxRecDepth 100000 in
theorem k_X7_distanceOf (l : Launch) (A : Nat → Prop) (G : g_C) (w : g_W) (md : Nat → Nat) (S : Sg) (th : Int32) (tp bt : Int64) (Fm : Nat → Nat → Int32) (L : Nat → Nat → Int64) (mm : Nat) (hx0 : w (md 0) = some (.inr (8, [.int th, .int (iL (S 0 0)), .ref (md 1), .ref (md 2), .ref (md 3), .int (iL (S 0 4)), .int (iL (S 0 5)), .int (iL (S 0 1)), .ref (md 4), .ref (md 5), .int (iL (S 0 2)), .ref (md 6), .ref (md 7), .int (iL (S 0 3)), .ref (md 8), .ref (md 9), .ref (md 10), .ref (md 11), .long tp, .long bt]))) (hy4 : w (md 4) = some (.inl (G.2.1 0, 64, .inl (Fm 4)))) (hy5 : w (md 5) = some (.inl (G.2.1 2, 16, .inl (Fm 5)))) (hy6 : w (md 6) = some (.inl (G.2.1 0, 16, .inl (Fm 6)))) (hy7 : w (md 7) = some (.inl (G.2.1 0, 16, .inl (Fm 7)))) (Hf : modF S Fm) (Hi : invS S) (hm : (mm : Int) < S 0 2) : mI l yX7_distanceOf wsX7_distanceOf ({ frames := 1, cells := 0, slots := 0, locals := 40 } : Room) [.ref (md 0), .int (nI mm)] A G w (fun r w' => r = iL (lenI S mm) ∧ w' = w) 0 0 := by
  refine g_ofI (cc := cX7_distanceOf) (maxL := 4) (ret := (some .int)) (own := RX7) (by decide) rfl rfl (Nat.le_of_ble_eq_true rfl) ?_
  intro p e R s m args below meth c Q ls hR F hP hS hlocks hr hnm0 hQ hl
  obtain ⟨⟨hx, hb, hml, hown, hts⟩, hK, hZ, hA⟩ := id F
  generalize hH0 : s.heap = H at hP ⊢
  have hS : va_S A s.heap H [] := by rw [← hH0]; exact va_S.rf
  generalize ([] : List Loc) = locs at hS ⊢
  have hl : lv_has ls 4 [(0, .ref (md 0)), (1, .int (nI mm))] := hl
  have iX7 : ∀ w ∈ u_ws RX7 TX7 20, w ∈ wsX7_distanceOf := fun w h => List.mem_cons_of_mem _ (List.mem_append_right _ (h))
  have hi := Hi.1
  obtain ⟨a1, a2, a3, a4, a5⟩ := Hi.2.2.2.1 mm hm
  have hge0 : (((S 9 mm).toNat : Nat) : Int) < S 0 1 := by omega
  have hge1 : (((S 10 mm).toNat : Nat) : Int) < S 0 1 := by omega
  have g1 := Hi.2.2.1 (S 9 mm).toNat (by omega)
  have g2 := Hi.2.2.1 (S 10 mm).toNat (by omega)
  have ln := len32 Hi hm (b1 := decide (S 8 (S 9 mm).toNat = 1)) (b2 := decide (S 8 (S 10 mm).toNat = 1)) decide_eq_true_iff decide_eq_true_iff
  refine lv_aload_n hx hb dX7_distanceOf_0 rfl (lv_at hl 0 rfl) ?_
  refine lv_aload_n hx hb dX7_distanceOf_1 rfl (lv_at hl 0 rfl) ?_
  refine g_get F hP (C := RX7) (T := TX7) (N := 20) iX7 hx0 rfl 11 (by decide) (List.mem_cons_of_mem _ (List.mem_append_left _ (List.mem_of_getElem? (i := 0) rfl))) (fun _ h9 => h9) rfl dX7_distanceOf_2 ?_
  refine lv_iload_n hx hb dX7_distanceOf_5 rfl (lv_at hl 1 rfl) ?_
  refine g_iald F hP hy6 (vp_in_nI (by omega) (by decide)) dX7_distanceOf_6 ?_
  rw [show (.int ((Fm 6) (nI mm : Int32).toNatClampNeg) : Value) = .int (nI (S 9 mm).toNat) from by rw [nI_clamp (by omega), (Hf.2.2.1 mm hm).1, iL_nn (by omega)]]
  refine g_Vi (As := [.int (nI (S 9 mm).toNat)]) (rest := []) F hP hS (k_X7_teeth l A G w md S _ _ _ Fm L (S 9 mm).toNat hx0 hy4 Hf Hi hge0) (cwV 1 hts gX7_distanceOf_X7_teeth rfl rfl rfl cd_X7_teeth ⟨by rw [hR]; exact Nat.le_of_ble_eq_true rfl, by rw [hR]; exact Nat.le_of_ble_eq_true rfl⟩) hx0 rfl rfl rfl hl.1 (Nat.le_of_ble_eq_true rfl) dX7_distanceOf_7 ⟨by rw [hR]; exact Nat.le_of_ble_eq_true rfl, by rw [hR]; exact Nat.le_of_ble_eq_true rfl⟩ rfl (fun r1 w2 H locs h3 hP hS => ?_)
  have hr1 := h3.1
  rw [h3.2] at hP
  rw [hr1]
  refine lv_istore_n (lv' := [(2, .int (iL (S 5 (S 9 mm).toNat))), (0, .ref (md 0)), (1, .int (nI mm))]) hx hb dX7_distanceOf_10 rfl hl (by decide) rfl (fun ls hl => ?_)
  refine lv_aload_n hx hb dX7_distanceOf_11 rfl (lv_at hl 1 rfl) ?_
  refine lv_aload_n hx hb dX7_distanceOf_12 rfl (lv_at hl 1 rfl) ?_
  refine g_get F hP (C := RX7) (T := TX7) (N := 20) iX7 hx0 rfl 12 (by decide) (List.mem_cons_of_mem _ (List.mem_append_left _ (List.mem_of_getElem? (i := 1) rfl))) (fun _ h9 => h9) rfl dX7_distanceOf_13 ?_
  refine lv_iload_n hx hb dX7_distanceOf_16 rfl (lv_at hl 2 rfl) ?_
  refine g_iald F hP hy7 (vp_in_nI (by omega) (by decide)) dX7_distanceOf_17 ?_
  rw [show (.int ((Fm 7) (nI mm : Int32).toNatClampNeg) : Value) = .int (nI (S 10 mm).toNat) from by rw [nI_clamp (by omega), (Hf.2.2.1 mm hm).2, iL_nn (by omega)]]
  refine g_Vi (As := [.int (nI (S 10 mm).toNat)]) (rest := []) F hP hS (k_X7_teeth l A G w md S _ _ _ Fm L (S 10 mm).toNat hx0 hy4 Hf Hi hge1) (cwV 1 hts gX7_distanceOf_X7_teeth rfl rfl rfl cd_X7_teeth ⟨by rw [hR]; exact Nat.le_of_ble_eq_true rfl, by rw [hR]; exact Nat.le_of_ble_eq_true rfl⟩) hx0 rfl rfl rfl hl.1 (Nat.le_of_ble_eq_true rfl) dX7_distanceOf_18 ⟨by rw [hR]; exact Nat.le_of_ble_eq_true rfl, by rw [hR]; exact Nat.le_of_ble_eq_true rfl⟩ rfl (fun r4 w5 H locs h6 hP hS => ?_)
  have hr4 := h6.1
  rw [h6.2] at hP
  rw [hr4]
  refine lv_istore_n (lv' := [(3, .int (iL (S 5 (S 10 mm).toNat))), (2, .int (iL (S 5 (S 9 mm).toNat))), (0, .ref (md 0)), (1, .int (nI mm))]) hx hb dX7_distanceOf_21 rfl hl (by decide) rfl (fun ls hl => ?_)
  refine lv_aload_n hx hb dX7_distanceOf_22 rfl (lv_at hl 2 rfl) ?_
  refine lv_aload_n hx hb dX7_distanceOf_23 rfl (lv_at hl 2 rfl) ?_
  refine g_get F hP (C := RX7) (T := TX7) (N := 20) iX7 hx0 rfl 11 (by decide) (List.mem_cons_of_mem _ (List.mem_append_left _ (List.mem_of_getElem? (i := 0) rfl))) (fun _ h9 => h9) rfl dX7_distanceOf_24 ?_
  refine lv_iload_n hx hb dX7_distanceOf_27 rfl (lv_at hl 3 rfl) ?_
  refine g_iald F hP hy6 (vp_in_nI (by omega) (by decide)) dX7_distanceOf_28 ?_
  rw [show (.int ((Fm 6) (nI mm : Int32).toNatClampNeg) : Value) = .int (nI (S 9 mm).toNat) from by rw [nI_clamp (by omega), (Hf.2.2.1 mm hm).1, iL_nn (by omega)]]
  refine g_Vi (As := [.int (nI (S 9 mm).toNat)]) (rest := []) F hP hS (k_X7_module l A G w md S _ _ _ Fm L (S 9 mm).toNat hx0 hy4 Hf Hi hge0) (cwV 1 hts gX7_distanceOf_X7_module rfl rfl rfl cd_X7_module ⟨by rw [hR]; exact Nat.le_of_ble_eq_true rfl, by rw [hR]; exact Nat.le_of_ble_eq_true rfl⟩) hx0 rfl rfl rfl hl.1 (Nat.le_of_ble_eq_true rfl) dX7_distanceOf_29 ⟨by rw [hR]; exact Nat.le_of_ble_eq_true rfl, by rw [hR]; exact Nat.le_of_ble_eq_true rfl⟩ rfl (fun r7 w8 H locs h9 hP hS => ?_)
  have hr7 := h9.1
  rw [h9.2] at hP
  rw [hr7]
  refine lv_aload_n hx hb dX7_distanceOf_32 rfl (lv_at hl 2 rfl) ?_
  refine lv_iload_n hx hb dX7_distanceOf_33 rfl (lv_at hl 3 rfl) ?_
  refine g_Vi (As := [.int (nI mm)]) (rest := [.int (iL (S 6 (S 9 mm).toNat))]) F hP hS (k_X7_isInner l A G w md S _ _ _ Fm L mm hx0 hy5 hy6 hy7 Hf Hi hm) (cwV 1 hts gX7_distanceOf_X7_isInner rfl rfl rfl cd_X7_isInner ⟨by rw [hR]; exact Nat.le_of_ble_eq_true rfl, by rw [hR]; exact Nat.le_of_ble_eq_true rfl⟩) hx0 rfl rfl rfl hl.1 (Nat.le_of_ble_eq_true rfl) dX7_distanceOf_34 ⟨by rw [hR]; exact Nat.le_of_ble_eq_true rfl, by rw [hR]; exact Nat.le_of_ble_eq_true rfl⟩ rfl (fun r10 w11 H locs h12 hP hS => ?_)
  have hr10 := h12.1
  rw [h12.2] at hP
  rw [hr10]
  refine lv_if_eq (tgt := 49) hx hb dX7_distanceOf_37 (by decide) (fun c13 => ?_) (fun c13 => ?_)
  · have yc13 := of_decide_eq_false (g_b0.mp c13)
    have yi : (decide (S 8 (S 9 mm).toNat = 1) || decide (S 8 (S 10 mm).toNat = 1)) = false := by
      rw [decide_eq_false (fun q => yc13 (Or.inl q)), decide_eq_false (fun q => yc13 (Or.inr q))]; rfl
    rw [yi] at ln
    refine lv_iload_n hx hb dX7_distanceOf_49 rfl (lv_at hl 1 rfl) ?_
    refine lv_iload_n hx hb dX7_distanceOf_50 rfl (lv_at hl 0 rfl) ?_
    refine lv_iadd hx hb dX7_distanceOf_51 ?_
    refine lv_topi (fun v14 ev14 => ?_)
    obtain rfl : v14 = iL (S 5 (S 9 mm).toNat) + iL (S 5 (S 10 mm).toNat) := by
      exact ev14
    refine lv_imul hx hb dX7_distanceOf_52 ?_
    refine lv_topi (fun v15 ev15 => ?_)
    obtain rfl : v15 = iL (lenI S mm) := by
      rw [ev15]
      exact ln
    rw [hQ]
    refine g_iret F hP hS hlocks hr dX7_distanceOf_53 (by first | exact Nat.le_of_ble_eq_true rfl | omega) (by first | exact Nat.le_of_ble_eq_true rfl | omega) ?_
    exact ⟨rfl, rfl⟩
  · have yc13 := of_decide_eq_true (g_b1.mp c13)
    have yi : (decide (S 8 (S 9 mm).toNat = 1) || decide (S 8 (S 10 mm).toNat = 1)) = true := by
      rw [← Bool.decide_or]; exact decide_eq_true yc13
    rw [yi] at ln
    refine lv_iload_n hx hb dX7_distanceOf_40 rfl (lv_at hl 1 rfl) ?_
    refine lv_iload_n hx hb dX7_distanceOf_41 rfl (lv_at hl 0 rfl) ?_
    refine lv_isub hx hb dX7_distanceOf_42 ?_
    refine lv_topi (fun v16 ev16 => ?_)
    obtain rfl : v16 = iL (S 5 (S 9 mm).toNat) - iL (S 5 (S 10 mm).toNat) := by
      exact ev16
    refine va_mabs hx hb (by rw [hml]; exact hl.1.symm) hown (hts _ (List.mem_cons_of_mem _ (List.mem_append_left _ (List.mem_of_getElem? (i := 2) rfl)))) (hts _ (List.mem_cons_of_mem _ (List.mem_append_left _ (List.mem_of_getElem? (i := 3) rfl)))) (hts _ (List.mem_cons_of_mem _ (List.mem_append_left _ (List.mem_of_getElem? (i := 4) rfl)))) (hts _ (List.mem_cons_of_mem _ (List.mem_append_left _ (List.mem_of_getElem? (i := 5) rfl)))) (by rw [hR]; exact Nat.le_of_ble_eq_true rfl) (by rw [hR]; exact Nat.le_of_ble_eq_true rfl) (by rw [hR]; first | exact Nat.le_of_ble_eq_true rfl | (dsimp only; omega)) (by rw [hR]; first | exact Nat.le_of_ble_eq_true rfl | (dsimp only; omega)) dX7_distanceOf_43 ?_
    refine lv_topi (fun v17 ev17 => ?_)
    obtain rfl : v17 = (if 0 ≤ iL (S 5 (S 9 mm).toNat) - iL (S 5 (S 10 mm).toNat) then iL (S 5 (S 9 mm).toNat) - iL (S 5 (S 10 mm).toNat) else 0 - (iL (S 5 (S 9 mm).toNat) - iL (S 5 (S 10 mm).toNat))) := by
      exact ev17
    refine lv_goto (tgt := 52) hx hb dX7_distanceOf_46 (by decide) ?_
    refine lv_imul hx hb dX7_distanceOf_52 ?_
    refine lv_topi (fun v18 ev18 => ?_)
    obtain rfl : v18 = iL (lenI S mm) := by
      rw [ev18]
      exact ln
    rw [hQ]
    refine g_iret F hP hS hlocks hr dX7_distanceOf_53 (by first | exact Nat.le_of_ble_eq_true rfl | omega) (by first | exact Nat.le_of_ble_eq_true rfl | omega) ?_
    exact ⟨rfl, rfl⟩
