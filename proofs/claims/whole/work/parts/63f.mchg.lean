set_option maxHeartbeats 4000000 in
set_option maxRecDepth 100000 in
theorem k_X7_hold (l : Launch) (A : Nat → Prop) (G : g_C) (w : g_W) (md : Nat → Nat) (S : Sg) (th : Int32) (tp bt : Int64) (Fm : Nat → Nat → Int32) (L : Nat → Nat → Int64) (pn : Int32) (bh : Bool) (Hm : modW G w md S th tp bt Fm L) (Hj : modI md) (Hf : modF S Fm) (Hi : invS S) : mI l yX7_hold wsX7_hold ({ frames := 2, cells := 0, slots := 0, locals := 43 } : Room) [.ref (md 0), .int pn, .int (g_b bh)] A G w (fun r w' => mRes G md w w' S (nxHold S pn bh) (cdHold S pn) (r = g_b (vlHold S pn))) 0 0 := by
  refine g_ofI (cc := cX7_hold) (maxL := 4) (ret := (some .boolean)) (own := RX7) (by decide) rfl rfl (Nat.le_of_ble_eq_true rfl) ?_
  intro p e R s m args below meth c Q ls hR F hP hS hlocks hr hnm0 hQ hl
  obtain ⟨⟨hx, hb, hml, hown, hts⟩, hK, hZ, hA⟩ := id F
  generalize hH0 : s.heap = H at hP ⊢
  have hS : va_S A s.heap H [] := by rw [← hH0]; exact va_S.rf
  generalize ([] : List Loc) = locs at hS ⊢
  have hl : lv_has ls 4 [(0, .ref (md 0)), (1, .int pn), (2, .int (g_b bh))] := hl
  have iX7 : ∀ w ∈ u_ws RX7 TX7 20, w ∈ wsX7_hold := fun w h => List.mem_cons_of_mem _ (List.mem_append_right _ (h))
  obtain ⟨hx0, hy1, hy2, hy3, hy4, hy5, hy6, hy7, hy8, hy9, hy10, hy11⟩ := id Hm
  have hi := Hi.1
  refine lv_aload_n hx hb dX7_hold_0 rfl (lv_at hl 0 rfl) ?_
  refine lv_aload_n hx hb dX7_hold_1 rfl (lv_at hl 0 rfl) ?_
  refine lv_iload_n hx hb dX7_hold_2 rfl (lv_at hl 1 rfl) ?_
  refine g_Vi (As := [.int pn]) (rest := [.ref (md 0)]) F hP hS (k_X7_isShaft l A G w md S _ _ _ Fm L pn hx0 Hf Hi) (cwV 1 hts gX7_hold_X7_isShaft rfl rfl rfl cd_X7_isShaft ⟨by rw [hR]; exact Nat.le_of_ble_eq_true rfl, by rw [hR]; exact Nat.le_of_ble_eq_true rfl⟩) hx0 rfl rfl rfl hl.1 (Nat.le_of_ble_eq_true rfl) dX7_hold_3 ⟨by rw [hR]; exact Nat.le_of_ble_eq_true rfl, by rw [hR]; exact Nat.le_of_ble_eq_true rfl⟩ rfl (fun r1 w2 H locs h3 hP hS => ?_)
  have hr1 := h3.1
  rw [h3.2] at hP
  rw [hr1]
  refine lv_if_ne (tgt := 13) hx hb dX7_hold_6 (by decide) (fun c4 => ?_) (fun c4 => ?_)
  · have yc4 := of_decide_eq_true (g_b1.mp c4)
    refine lv_iload_n hx hb dX7_hold_13 rfl (lv_at hl 1 rfl) ?_
    refine lv_aload_n hx hb dX7_hold_14 rfl (lv_at hl 0 rfl) ?_
    refine g_get F hP (C := RX7) (T := TX7) (N := 20) iX7 hx0 rfl 5 (by decide) (List.mem_cons_of_mem _ (List.mem_append_left _ (List.mem_of_getElem? (i := 0) rfl))) (fun _ h9 => h9) rfl dX7_hold_15 ?_
    refine lv_icmp_ne (tgt := 25) hx hb dX7_hold_18 (by decide) (fun c5 => ?_) (fun c5 => ?_)
    · have kd : pn = iL (S 0 4) ↔ pn.toInt = S 0 4 := ⟨fun q => by rw [q]; exact iL_t (by omega) (by omega), fun q => by rw [← q, iL_x]⟩
      rw [kd] at c5
      refine lv_iconst (v := 0) hx hb dX7_hold_25 (by decide) ?_
      refine g_put F hP hS (C := RX7) (T := TX7) (N := 20) (v := .int 0) (ty := .int) iX7 tyX7 tyX7_ok nmX7 hx0 rfl 0 (by decide) (List.mem_cons_of_mem _ (List.mem_append_left _ (List.mem_of_getElem? (i := 1) rfl))) (fun _ h9 => h9) rfl (by decide +kernel) rfl rfl (by show 0 < 20; decide) dX7_hold_26 (fun H locs hP hS => ?_)
      obtain ⟨w6, ew6⟩ : ∃ z, z = g_up w (md 0) (.inr (8, [.int 0, .int (iL (S 0 0)), .ref (md 1), .ref (md 2), .ref (md 3), .int (iL (S 0 4)), .int (iL (S 0 5)), .int (iL (S 0 1)), .ref (md 4), .ref (md 5), .int (iL (S 0 2)), .ref (md 6), .ref (md 7), .int (iL (S 0 3)), .ref (md 8), .ref (md 9), .ref (md 10), .ref (md 11), .long tp, .long bt])) := ⟨_, rfl⟩
      have hP : g_P A G w6 H := by rw [ew6]; exact hP
      have f7 : w6 (md 1) = some (.inl (G.2.1 0, 10, .inl (Fm 1))) := by rw [ew6]; exact g_up_f hy1 ((fun q => absurd (Hj 1 0 (by decide) (by decide) q) (by decide)))
      have f8 : w6 (md 2) = some (.inl (G.2.1 0, 10, .inl (Fm 2))) := by rw [ew6]; exact g_up_f hy2 ((fun q => absurd (Hj 2 0 (by decide) (by decide) q) (by decide)))
      have f9 : w6 (md 3) = some (.inl (G.2.1 2, 10, .inl (Fm 3))) := by rw [ew6]; exact g_up_f hy3 ((fun q => absurd (Hj 3 0 (by decide) (by decide) q) (by decide)))
      have f10 : w6 (md 4) = some (.inl (G.2.1 0, 64, .inl (Fm 4))) := by rw [ew6]; exact g_up_f hy4 ((fun q => absurd (Hj 4 0 (by decide) (by decide) q) (by decide)))
      have f11 : w6 (md 5) = some (.inl (G.2.1 2, 16, .inl (Fm 5))) := by rw [ew6]; exact g_up_f hy5 ((fun q => absurd (Hj 5 0 (by decide) (by decide) q) (by decide)))
      have f12 : w6 (md 6) = some (.inl (G.2.1 0, 16, .inl (Fm 6))) := by rw [ew6]; exact g_up_f hy6 ((fun q => absurd (Hj 6 0 (by decide) (by decide) q) (by decide)))
      have f13 : w6 (md 7) = some (.inl (G.2.1 0, 16, .inl (Fm 7))) := by rw [ew6]; exact g_up_f hy7 ((fun q => absurd (Hj 7 0 (by decide) (by decide) q) (by decide)))
      have f14 : w6 (md 8) = some (.inl (G.2.1 0, 20, .inl (Fm 8))) := by rw [ew6]; exact g_up_f hy8 ((fun q => absurd (Hj 8 0 (by decide) (by decide) q) (by decide)))
      have f15 : w6 (md 9) = some (.inl (G.2.1 1, 10, .inr (.inl (L 0)))) := by rw [ew6]; exact g_up_f hy9 ((fun q => absurd (Hj 9 0 (by decide) (by decide) q) (by decide)))
      have f16 : w6 (md 10) = some (.inl (G.2.1 1, 10, .inr (.inl (L 1)))) := by rw [ew6]; exact g_up_f hy10 ((fun q => absurd (Hj 10 0 (by decide) (by decide) q) (by decide)))
      have f17 : w6 (md 11) = some (.inl (G.2.1 0, 10, .inl (Fm 11))) := by rw [ew6]; exact g_up_f hy11 ((fun q => absurd (Hj 11 0 (by decide) (by decide) q) (by decide)))
      have f18 : w6 (md 0) = some (.inr (8, [.int 0, .int (iL (S 0 0)), .ref (md 1), .ref (md 2), .ref (md 3), .int (iL (S 0 4)), .int (iL (S 0 5)), .int (iL (S 0 1)), .ref (md 4), .ref (md 5), .int (iL (S 0 2)), .ref (md 6), .ref (md 7), .int (iL (S 0 3)), .ref (md 8), .ref (md 9), .ref (md 10), .ref (md 11), .long tp, .long bt])) := by rw [ew6]; exact g_up_s _ _ _
      refine lv_aload_n hx hb dX7_hold_29 rfl (lv_at hl 0 rfl) ?_
      refine g_get F hP (C := RX7) (T := TX7) (N := 20) iX7 f18 rfl 0 (by decide) (List.mem_cons_of_mem _ (List.mem_append_left _ (List.mem_of_getElem? (i := 1) rfl))) (fun _ h9 => h9) rfl dX7_hold_30 ?_
      refine lv_if_eq (tgt := 38) hx hb dX7_hold_33 (by decide) (fun c19 => ?_) (fun c19 => ?_)
      · have hix : vp_in pn 10 := by rw [kN_e yc4.1]; exact vp_in_nI (by have := kN_lt yc4; omega) (by decide)
        have hkk := kN_lt yc4
        have hcl := p_cl yc4 hi.2.1
        refine lv_aload_n hx hb dX7_hold_38 rfl (lv_at hl 0 rfl) ?_
        refine g_get F hP (C := RX7) (T := TX7) (N := 20) iX7 f18 rfl 4 (by decide) (List.mem_cons_of_mem _ (List.mem_append_left _ (List.mem_of_getElem? (i := 2) rfl))) (fun _ h9 => h9) rfl dX7_hold_39 ?_
        refine lv_iload_n hx hb dX7_hold_42 rfl (lv_at hl 1 rfl) ?_
        refine g_zald F hP f9 hix dX7_hold_43 ?_
        refine lv_topi (fun v20 ev20 => ?_)
        obtain rfl : v20 = g_b (decide (S 3 (kN pn) = 1)) := by
          rw [ev20]
          rw [hcl, (Hf.1 _ hkk).2.2]
          exact iL_b (Hi.2.1 _ hkk).2.2.2.2
        refine lv_istore_n (lv' := [(3, .int (g_b (decide (S 3 (kN pn) = 1)))), (0, .ref (md 0)), (1, .int pn), (2, .int (g_b bh))]) hx hb dX7_hold_44 rfl hl (by decide) rfl (fun ls hl => ?_)
        refine lv_aload_n hx hb dX7_hold_45 rfl (lv_at hl 1 rfl) ?_
        refine g_get F hP (C := RX7) (T := TX7) (N := 20) iX7 f18 rfl 4 (by decide) (List.mem_cons_of_mem _ (List.mem_append_left _ (List.mem_of_getElem? (i := 2) rfl))) (fun _ h9 => h9) rfl dX7_hold_46 ?_
        refine lv_iload_n hx hb dX7_hold_49 rfl (lv_at hl 2 rfl) ?_
        refine lv_iload_n hx hb dX7_hold_50 rfl (lv_at hl 3 rfl) ?_
        refine g_zast F hP hS f9 hix (g_nb8 _) dX7_hold_51 (fun H locs hP hS => ?_)
        obtain ⟨w21, ew21⟩ : ∃ z, z = g_up w6 (md 3) (.inl (G.2.1 2, 10, .inl (upd (Fm 3) (pn : Int32).toNatClampNeg (g_b bh)))) := ⟨_, rfl⟩
        have hP : g_P A G w21 H := by rw [ew21]; exact hP
        have f22 : w21 (md 1) = some (.inl (G.2.1 0, 10, .inl (Fm 1))) := by rw [ew21]; exact g_up_f f7 ((fun q => absurd (Hj 1 3 (by decide) (by decide) q) (by decide)))
        have f23 : w21 (md 2) = some (.inl (G.2.1 0, 10, .inl (Fm 2))) := by rw [ew21]; exact g_up_f f8 ((fun q => absurd (Hj 2 3 (by decide) (by decide) q) (by decide)))
        have f24 : w21 (md 4) = some (.inl (G.2.1 0, 64, .inl (Fm 4))) := by rw [ew21]; exact g_up_f f10 ((fun q => absurd (Hj 4 3 (by decide) (by decide) q) (by decide)))
        have f25 : w21 (md 5) = some (.inl (G.2.1 2, 16, .inl (Fm 5))) := by rw [ew21]; exact g_up_f f11 ((fun q => absurd (Hj 5 3 (by decide) (by decide) q) (by decide)))
        have f26 : w21 (md 6) = some (.inl (G.2.1 0, 16, .inl (Fm 6))) := by rw [ew21]; exact g_up_f f12 ((fun q => absurd (Hj 6 3 (by decide) (by decide) q) (by decide)))
        have f27 : w21 (md 7) = some (.inl (G.2.1 0, 16, .inl (Fm 7))) := by rw [ew21]; exact g_up_f f13 ((fun q => absurd (Hj 7 3 (by decide) (by decide) q) (by decide)))
        have f28 : w21 (md 8) = some (.inl (G.2.1 0, 20, .inl (Fm 8))) := by rw [ew21]; exact g_up_f f14 ((fun q => absurd (Hj 8 3 (by decide) (by decide) q) (by decide)))
        have f29 : w21 (md 9) = some (.inl (G.2.1 1, 10, .inr (.inl (L 0)))) := by rw [ew21]; exact g_up_f f15 ((fun q => absurd (Hj 9 3 (by decide) (by decide) q) (by decide)))
        have f30 : w21 (md 10) = some (.inl (G.2.1 1, 10, .inr (.inl (L 1)))) := by rw [ew21]; exact g_up_f f16 ((fun q => absurd (Hj 10 3 (by decide) (by decide) q) (by decide)))
        have f31 : w21 (md 11) = some (.inl (G.2.1 0, 10, .inl (Fm 11))) := by rw [ew21]; exact g_up_f f17 ((fun q => absurd (Hj 11 3 (by decide) (by decide) q) (by decide)))
        have f32 : w21 (md 0) = some (.inr (8, [.int 0, .int (iL (S 0 0)), .ref (md 1), .ref (md 2), .ref (md 3), .int (iL (S 0 4)), .int (iL (S 0 5)), .int (iL (S 0 1)), .ref (md 4), .ref (md 5), .int (iL (S 0 2)), .ref (md 6), .ref (md 7), .int (iL (S 0 3)), .ref (md 8), .ref (md 9), .ref (md 10), .ref (md 11), .long tp, .long bt])) := by rw [ew21]; exact g_up_f f18 ((fun q => absurd (Hj 0 3 (by decide) (by decide) q) (by decide)))
        have f33 : w21 (md 3) = some (.inl (G.2.1 2, 10, .inl (upd (Fm 3) (pn : Int32).toNatClampNeg (g_b bh)))) := by rw [ew21]; exact g_up_s _ _ _
        refine lv_iload_n hx hb dX7_hold_52 rfl (lv_at hl 0 rfl) ?_
        rw [hQ]
        refine g_zret F hP hS hlocks hr (by first | rfl | exact g_nb _) dX7_hold_53 (by first | exact Nat.le_of_ble_eq_true rfl | omega) (by first | exact Nat.le_of_ble_eq_true rfl | omega) ?_
        have e0' : ∀ i, nxHold S pn bh 0 i = S 0 i := fun i => up2_k _ _ _ (by decide)
        exact Or.inr ⟨(if_pos yc4).trans (if_neg c5), rfl, ⟨mFr_tr (mFr_tr (mFr_rf _ _) (mFr_se (i := 0) (by decide) ew6)) (mFr_se (i := 3) (by decide) ew21), _, _, (up1 Fm 3 (upd (Fm 3) pn.toNatClampNeg (g_b bh))), L, ⟨(by rw [mC_of (by rw [e0' 0]) (by rw [e0' 1]) (by rw [e0' 2]) (by rw [e0' 3]) (by rw [e0' 4]) (by rw [e0' 5])]; exact f32), f22, f23, f33, f24, f25, f26, f27, f28, f29, f30, f31⟩, modF_hold Hf yc4 hi.2.1⟩⟩
      · exact absurd (by decide) c19
    · have kd : pn = iL (S 0 4) ↔ pn.toInt = S 0 4 := ⟨fun q => by rw [q]; exact iL_t (by omega) (by omega), fun q => by rw [← q, iL_x]⟩
      rw [kd] at c5
      refine lv_iconst (v := 2) hx hb dX7_hold_21 (by decide) ?_
      refine lv_goto (tgt := 26) hx hb dX7_hold_22 (by decide) ?_
      refine g_put F hP hS (C := RX7) (T := TX7) (N := 20) (v := .int 2) (ty := .int) iX7 tyX7 tyX7_ok nmX7 hx0 rfl 0 (by decide) (List.mem_cons_of_mem _ (List.mem_append_left _ (List.mem_of_getElem? (i := 1) rfl))) (fun _ h9 => h9) rfl (by decide +kernel) rfl rfl (by show 0 < 20; decide) dX7_hold_26 (fun H locs hP hS => ?_)
      obtain ⟨w34, ew34⟩ : ∃ z, z = g_up w (md 0) (.inr (8, [.int 2, .int (iL (S 0 0)), .ref (md 1), .ref (md 2), .ref (md 3), .int (iL (S 0 4)), .int (iL (S 0 5)), .int (iL (S 0 1)), .ref (md 4), .ref (md 5), .int (iL (S 0 2)), .ref (md 6), .ref (md 7), .int (iL (S 0 3)), .ref (md 8), .ref (md 9), .ref (md 10), .ref (md 11), .long tp, .long bt])) := ⟨_, rfl⟩
      have hP : g_P A G w34 H := by rw [ew34]; exact hP
      have f35 : w34 (md 1) = some (.inl (G.2.1 0, 10, .inl (Fm 1))) := by rw [ew34]; exact g_up_f hy1 ((fun q => absurd (Hj 1 0 (by decide) (by decide) q) (by decide)))
      have f36 : w34 (md 2) = some (.inl (G.2.1 0, 10, .inl (Fm 2))) := by rw [ew34]; exact g_up_f hy2 ((fun q => absurd (Hj 2 0 (by decide) (by decide) q) (by decide)))
      have f37 : w34 (md 3) = some (.inl (G.2.1 2, 10, .inl (Fm 3))) := by rw [ew34]; exact g_up_f hy3 ((fun q => absurd (Hj 3 0 (by decide) (by decide) q) (by decide)))
      have f38 : w34 (md 4) = some (.inl (G.2.1 0, 64, .inl (Fm 4))) := by rw [ew34]; exact g_up_f hy4 ((fun q => absurd (Hj 4 0 (by decide) (by decide) q) (by decide)))
      have f39 : w34 (md 5) = some (.inl (G.2.1 2, 16, .inl (Fm 5))) := by rw [ew34]; exact g_up_f hy5 ((fun q => absurd (Hj 5 0 (by decide) (by decide) q) (by decide)))
      have f40 : w34 (md 6) = some (.inl (G.2.1 0, 16, .inl (Fm 6))) := by rw [ew34]; exact g_up_f hy6 ((fun q => absurd (Hj 6 0 (by decide) (by decide) q) (by decide)))
      have f41 : w34 (md 7) = some (.inl (G.2.1 0, 16, .inl (Fm 7))) := by rw [ew34]; exact g_up_f hy7 ((fun q => absurd (Hj 7 0 (by decide) (by decide) q) (by decide)))
      have f42 : w34 (md 8) = some (.inl (G.2.1 0, 20, .inl (Fm 8))) := by rw [ew34]; exact g_up_f hy8 ((fun q => absurd (Hj 8 0 (by decide) (by decide) q) (by decide)))
      have f43 : w34 (md 9) = some (.inl (G.2.1 1, 10, .inr (.inl (L 0)))) := by rw [ew34]; exact g_up_f hy9 ((fun q => absurd (Hj 9 0 (by decide) (by decide) q) (by decide)))
      have f44 : w34 (md 10) = some (.inl (G.2.1 1, 10, .inr (.inl (L 1)))) := by rw [ew34]; exact g_up_f hy10 ((fun q => absurd (Hj 10 0 (by decide) (by decide) q) (by decide)))
      have f45 : w34 (md 11) = some (.inl (G.2.1 0, 10, .inl (Fm 11))) := by rw [ew34]; exact g_up_f hy11 ((fun q => absurd (Hj 11 0 (by decide) (by decide) q) (by decide)))
      have f46 : w34 (md 0) = some (.inr (8, [.int 2, .int (iL (S 0 0)), .ref (md 1), .ref (md 2), .ref (md 3), .int (iL (S 0 4)), .int (iL (S 0 5)), .int (iL (S 0 1)), .ref (md 4), .ref (md 5), .int (iL (S 0 2)), .ref (md 6), .ref (md 7), .int (iL (S 0 3)), .ref (md 8), .ref (md 9), .ref (md 10), .ref (md 11), .long tp, .long bt])) := by rw [ew34]; exact g_up_s _ _ _
      refine lv_aload_n hx hb dX7_hold_29 rfl (lv_at hl 0 rfl) ?_
      refine g_get F hP (C := RX7) (T := TX7) (N := 20) iX7 f46 rfl 0 (by decide) (List.mem_cons_of_mem _ (List.mem_append_left _ (List.mem_of_getElem? (i := 1) rfl))) (fun _ h9 => h9) rfl dX7_hold_30 ?_
      refine lv_if_eq (tgt := 38) hx hb dX7_hold_33 (by decide) (fun c47 => ?_) (fun c47 => ?_)
      · exact absurd c47 (by decide)
      · refine lv_iconst (v := 0) hx hb dX7_hold_36 (by decide) ?_
        rw [hQ]
        refine g_zret F hP hS hlocks hr (by first | rfl | exact g_nb _) dX7_hold_37 (by first | exact Nat.le_of_ble_eq_true rfl | omega) (by first | exact Nat.le_of_ble_eq_true rfl | omega) ?_
        exact mRes_no (c := 2) ((if_pos yc4).trans (if_pos c5)) (by decide) ⟨mFr_tr (mFr_rf _ _) (mFr_se (i := 0) (by decide) ew34), _, _, Fm, L, ⟨f46, f35, f36, f37, f38, f39, f40, f41, f42, f43, f44, f45⟩, Hf⟩
  · have yc4 := of_decide_eq_false (g_b0.mp c4)
    refine lv_iconst (v := 1) hx hb dX7_hold_9 (by decide) ?_
    refine lv_goto (tgt := 26) hx hb dX7_hold_10 (by decide) ?_
    refine g_put F hP hS (C := RX7) (T := TX7) (N := 20) (v := .int 1) (ty := .int) iX7 tyX7 tyX7_ok nmX7 hx0 rfl 0 (by decide) (List.mem_cons_of_mem _ (List.mem_append_left _ (List.mem_of_getElem? (i := 1) rfl))) (fun _ h9 => h9) rfl (by decide +kernel) rfl rfl (by show 0 < 20; decide) dX7_hold_26 (fun H locs hP hS => ?_)
    obtain ⟨w48, ew48⟩ : ∃ z, z = g_up w (md 0) (.inr (8, [.int 1, .int (iL (S 0 0)), .ref (md 1), .ref (md 2), .ref (md 3), .int (iL (S 0 4)), .int (iL (S 0 5)), .int (iL (S 0 1)), .ref (md 4), .ref (md 5), .int (iL (S 0 2)), .ref (md 6), .ref (md 7), .int (iL (S 0 3)), .ref (md 8), .ref (md 9), .ref (md 10), .ref (md 11), .long tp, .long bt])) := ⟨_, rfl⟩
    have hP : g_P A G w48 H := by rw [ew48]; exact hP
    have f49 : w48 (md 1) = some (.inl (G.2.1 0, 10, .inl (Fm 1))) := by rw [ew48]; exact g_up_f hy1 ((fun q => absurd (Hj 1 0 (by decide) (by decide) q) (by decide)))
    have f50 : w48 (md 2) = some (.inl (G.2.1 0, 10, .inl (Fm 2))) := by rw [ew48]; exact g_up_f hy2 ((fun q => absurd (Hj 2 0 (by decide) (by decide) q) (by decide)))
    have f51 : w48 (md 3) = some (.inl (G.2.1 2, 10, .inl (Fm 3))) := by rw [ew48]; exact g_up_f hy3 ((fun q => absurd (Hj 3 0 (by decide) (by decide) q) (by decide)))
    have f52 : w48 (md 4) = some (.inl (G.2.1 0, 64, .inl (Fm 4))) := by rw [ew48]; exact g_up_f hy4 ((fun q => absurd (Hj 4 0 (by decide) (by decide) q) (by decide)))
    have f53 : w48 (md 5) = some (.inl (G.2.1 2, 16, .inl (Fm 5))) := by rw [ew48]; exact g_up_f hy5 ((fun q => absurd (Hj 5 0 (by decide) (by decide) q) (by decide)))
    have f54 : w48 (md 6) = some (.inl (G.2.1 0, 16, .inl (Fm 6))) := by rw [ew48]; exact g_up_f hy6 ((fun q => absurd (Hj 6 0 (by decide) (by decide) q) (by decide)))
    have f55 : w48 (md 7) = some (.inl (G.2.1 0, 16, .inl (Fm 7))) := by rw [ew48]; exact g_up_f hy7 ((fun q => absurd (Hj 7 0 (by decide) (by decide) q) (by decide)))
    have f56 : w48 (md 8) = some (.inl (G.2.1 0, 20, .inl (Fm 8))) := by rw [ew48]; exact g_up_f hy8 ((fun q => absurd (Hj 8 0 (by decide) (by decide) q) (by decide)))
    have f57 : w48 (md 9) = some (.inl (G.2.1 1, 10, .inr (.inl (L 0)))) := by rw [ew48]; exact g_up_f hy9 ((fun q => absurd (Hj 9 0 (by decide) (by decide) q) (by decide)))
    have f58 : w48 (md 10) = some (.inl (G.2.1 1, 10, .inr (.inl (L 1)))) := by rw [ew48]; exact g_up_f hy10 ((fun q => absurd (Hj 10 0 (by decide) (by decide) q) (by decide)))
    have f59 : w48 (md 11) = some (.inl (G.2.1 0, 10, .inl (Fm 11))) := by rw [ew48]; exact g_up_f hy11 ((fun q => absurd (Hj 11 0 (by decide) (by decide) q) (by decide)))
    have f60 : w48 (md 0) = some (.inr (8, [.int 1, .int (iL (S 0 0)), .ref (md 1), .ref (md 2), .ref (md 3), .int (iL (S 0 4)), .int (iL (S 0 5)), .int (iL (S 0 1)), .ref (md 4), .ref (md 5), .int (iL (S 0 2)), .ref (md 6), .ref (md 7), .int (iL (S 0 3)), .ref (md 8), .ref (md 9), .ref (md 10), .ref (md 11), .long tp, .long bt])) := by rw [ew48]; exact g_up_s _ _ _
    refine lv_aload_n hx hb dX7_hold_29 rfl (lv_at hl 0 rfl) ?_
    refine g_get F hP (C := RX7) (T := TX7) (N := 20) iX7 f60 rfl 0 (by decide) (List.mem_cons_of_mem _ (List.mem_append_left _ (List.mem_of_getElem? (i := 1) rfl))) (fun _ h9 => h9) rfl dX7_hold_30 ?_
    refine lv_if_eq (tgt := 38) hx hb dX7_hold_33 (by decide) (fun c61 => ?_) (fun c61 => ?_)
    · exact absurd c61 (by decide)
    · refine lv_iconst (v := 0) hx hb dX7_hold_36 (by decide) ?_
      rw [hQ]
      refine g_zret F hP hS hlocks hr (by first | rfl | exact g_nb _) dX7_hold_37 (by first | exact Nat.le_of_ble_eq_true rfl | omega) (by first | exact Nat.le_of_ble_eq_true rfl | omega) ?_
      exact mRes_no (c := 1) (if_neg yc4) (by decide) ⟨mFr_tr (mFr_rf _ _) (mFr_se (i := 0) (by decide) ew48), _, _, Fm, L, ⟨f60, f49, f50, f51, f52, f53, f54, f55, f56, f57, f58, f59⟩, Hf⟩
