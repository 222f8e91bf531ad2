theorem cd_X7_worth : yX7_worth.cls = RX7 ∧ yX7_worth.cls ≠ "java/lang/invoke/MethodHandle" ∧ yX7_worth.cls ≠ "java/lang/invoke/VarHandle" ∧ (parseMethodDescriptor yX7_worth.desc).map (fun d => d.parameters.length) = some 1 := by decide +kernel
set_option maxHeartbeats 4000000 in
set_option maxRecDepth 100000 in
theorem k_X7_ratio (l : Launch) (A : Nat → Prop) (G : g_C) (w : g_W) (md : Nat → Nat) (S : Sg) (th : Int32) (tp bt : Int64) (Fm : Nat → Nat → Int32) (L : Nat → Nat → Int64) (pn qn : Int32) (Hm : modW G w md S th tp bt Fm L) (Hj : modI md) (Hf : modF S Fm) (Hi : invS S) : mD l yX7_ratio wsX7_ratio ({ frames := 6, cells := 2, slots := 20, locals := 177 } : Room) [.ref (md 0), .int pn, .int qn] A G w (fun r w' => mRes G md w w' S S (cdRatio S (told S) pn qn) (r = vlRatio (told S) pn qn)) 2 20 := by
  refine g_ofD (cc := cX7_ratio) (maxL := 3) (ret := (some .double)) (own := RX7) (by decide) rfl rfl (Nat.le_of_ble_eq_true rfl) ?_
  intro p e R s m args below meth c Q ls hR F hP hS hlocks hr hnm0 hQ hl
  obtain ⟨⟨hx, hb, hml, hown, hts⟩, hK, hZ, hA⟩ := id F
  generalize hH0 : s.heap = H at hP ⊢
  have hS : va_S A s.heap H [] := by rw [← hH0]; exact va_S.rf
  generalize ([] : List Loc) = locs at hS ⊢
  have hl : lv_has ls 3 [(0, .ref (md 0)), (1, .int pn), (2, .int qn)] := hl
  have iX7 : ∀ w ∈ u_ws RX7 TX7 20, w ∈ wsX7_ratio := fun w h => List.mem_cons_of_mem _ (List.mem_append_right _ (h))
  obtain ⟨hx0, hy1, hy2, hy3, hy4, hy5, hy6, hy7, hy8, hy9, hy10, hy11⟩ := id Hm
  have hi := Hi.1
  refine lv_aload_n hx hb dX7_ratio_0 rfl (lv_at hl 0 rfl) ?_
  refine lv_aload_n hx hb dX7_ratio_1 rfl (lv_at hl 0 rfl) ?_
  refine lv_iload_n hx hb dX7_ratio_2 rfl (lv_at hl 1 rfl) ?_
  refine g_Vi (As := [.int pn]) (rest := [.ref (md 0)]) F hP hS (k_X7_isShaft l A G w md S _ _ _ Fm L pn hx0 Hf Hi) (cwV 1 hts gX7_ratio_X7_isShaft rfl rfl rfl cd_X7_isShaft ⟨by rw [hR]; exact Nat.le_of_ble_eq_true rfl, by rw [hR]; exact Nat.le_of_ble_eq_true rfl⟩) hx0 rfl rfl rfl hl.1 (Nat.le_of_ble_eq_true rfl) dX7_ratio_3 ⟨by rw [hR]; exact Nat.le_of_ble_eq_true rfl, by rw [hR]; exact Nat.le_of_ble_eq_true rfl⟩ rfl (fun r1 w2 H locs h3 hP hS => ?_)
  have hr1 := h3.1
  rw [h3.2] at hP
  rw [hr1]
  refine lv_if_eq (tgt := 21) hx hb dX7_ratio_6 (by decide) (fun c4 => ?_) (fun c4 => ?_)
  · have yc4 := of_decide_eq_false (g_b0.mp c4)
    refine lv_iconst (v := 1) hx hb dX7_ratio_21 (by decide) ?_
    refine g_put F hP hS (C := RX7) (T := TX7) (N := 20) (v := .int 1) (ty := .int) iX7 tyX7 tyX7_ok nmX7 hx0 rfl 0 (by decide) (List.mem_cons_of_mem _ (List.mem_append_left _ (List.mem_append_left _ (List.mem_of_getElem? (i := 0) rfl)))) (fun _ h9 => h9) rfl (by decide +kernel) rfl rfl (by show 0 < 20; decide) dX7_ratio_22 (fun H locs hP hS => ?_)
    obtain ⟨w5, ew5⟩ : ∃ z, z = g_up w (md 0) (.inr (8, [.int 1, .int (iL (S 0 0)), .ref (md 1), .ref (md 2), .ref (md 3), .int (iL (S 0 4)), .int (iL (S 0 5)), .int (iL (S 0 1)), .ref (md 4), .ref (md 5), .int (iL (S 0 2)), .ref (md 6), .ref (md 7), .int (iL (S 0 3)), .ref (md 8), .ref (md 9), .ref (md 10), .ref (md 11), .long tp, .long bt])) := ⟨_, rfl⟩
    have hP : g_P A G w5 H := by rw [ew5]; exact hP
    have f6 : w5 (md 1) = some (.inl (G.2.1 0, 10, .inl (Fm 1))) := by rw [ew5]; exact g_up_f hy1 ((fun q => absurd (Hj 1 0 (by decide) (by decide) q) (by decide)))
    have f7 : w5 (md 2) = some (.inl (G.2.1 0, 10, .inl (Fm 2))) := by rw [ew5]; exact g_up_f hy2 ((fun q => absurd (Hj 2 0 (by decide) (by decide) q) (by decide)))
    have f8 : w5 (md 3) = some (.inl (G.2.1 2, 10, .inl (Fm 3))) := by rw [ew5]; exact g_up_f hy3 ((fun q => absurd (Hj 3 0 (by decide) (by decide) q) (by decide)))
    have f9 : w5 (md 4) = some (.inl (G.2.1 0, 64, .inl (Fm 4))) := by rw [ew5]; exact g_up_f hy4 ((fun q => absurd (Hj 4 0 (by decide) (by decide) q) (by decide)))
    have f10 : w5 (md 5) = some (.inl (G.2.1 2, 16, .inl (Fm 5))) := by rw [ew5]; exact g_up_f hy5 ((fun q => absurd (Hj 5 0 (by decide) (by decide) q) (by decide)))
    have f11 : w5 (md 6) = some (.inl (G.2.1 0, 16, .inl (Fm 6))) := by rw [ew5]; exact g_up_f hy6 ((fun q => absurd (Hj 6 0 (by decide) (by decide) q) (by decide)))
    have f12 : w5 (md 7) = some (.inl (G.2.1 0, 16, .inl (Fm 7))) := by rw [ew5]; exact g_up_f hy7 ((fun q => absurd (Hj 7 0 (by decide) (by decide) q) (by decide)))
    have f13 : w5 (md 8) = some (.inl (G.2.1 0, 20, .inl (Fm 8))) := by rw [ew5]; exact g_up_f hy8 ((fun q => absurd (Hj 8 0 (by decide) (by decide) q) (by decide)))
    have f14 : w5 (md 9) = some (.inl (G.2.1 1, 10, .inr (.inl (L 0)))) := by rw [ew5]; exact g_up_f hy9 ((fun q => absurd (Hj 9 0 (by decide) (by decide) q) (by decide)))
    have f15 : w5 (md 10) = some (.inl (G.2.1 1, 10, .inr (.inl (L 1)))) := by rw [ew5]; exact g_up_f hy10 ((fun q => absurd (Hj 10 0 (by decide) (by decide) q) (by decide)))
    have f16 : w5 (md 11) = some (.inl (G.2.1 0, 10, .inl (Fm 11))) := by rw [ew5]; exact g_up_f hy11 ((fun q => absurd (Hj 11 0 (by decide) (by decide) q) (by decide)))
    have f17 : w5 (md 0) = some (.inr (8, [.int 1, .int (iL (S 0 0)), .ref (md 1), .ref (md 2), .ref (md 3), .int (iL (S 0 4)), .int (iL (S 0 5)), .int (iL (S 0 1)), .ref (md 4), .ref (md 5), .int (iL (S 0 2)), .ref (md 6), .ref (md 7), .int (iL (S 0 3)), .ref (md 8), .ref (md 9), .ref (md 10), .ref (md 11), .long tp, .long bt])) := by rw [ew5]; exact g_up_s _ _ _
    refine lv_aload_n hx hb dX7_ratio_25 rfl (lv_at hl 0 rfl) ?_
    refine g_get F hP (C := RX7) (T := TX7) (N := 20) iX7 f17 rfl 0 (by decide) (List.mem_cons_of_mem _ (List.mem_append_left _ (List.mem_append_left _ (List.mem_of_getElem? (i := 0) rfl)))) (fun _ h9 => h9) rfl dX7_ratio_26 ?_
    refine lv_if_eq (tgt := 34) hx hb dX7_ratio_29 (by decide) (fun c18 => ?_) (fun c18 => ?_)
    · exact absurd c18 (by decide)
    · refine lv_dconst0 hx hb dX7_ratio_32 ?_
      rw [hQ]
      refine g_dret F hP hS hlocks hr dX7_ratio_33 (by first | exact Nat.le_of_ble_eq_true rfl | omega) (by first | exact Nat.le_of_ble_eq_true rfl | omega) ?_
      exact mRes_no (c := 1) (if_neg (fun q => yc4 q.1)) (by decide) ⟨mFr_tr (mFr_rf _ _) (mFr_se (i := 0) (by decide) ew5), _, _, Fm, L, ⟨f17, f6, f7, f8, f9, f10, f11, f12, f13, f14, f15, f16⟩, Hf⟩
  · have yc4 := of_decide_eq_true (g_b1.mp c4)
    refine lv_aload_n hx hb dX7_ratio_9 rfl (lv_at hl 0 rfl) ?_
    refine lv_iload_n hx hb dX7_ratio_10 rfl (lv_at hl 2 rfl) ?_
    refine g_Vi (As := [.int qn]) (rest := [.ref (md 0)]) F hP hS (k_X7_isShaft l A G w md S _ _ _ Fm L qn hx0 Hf Hi) (cwV 1 hts gX7_ratio_X7_isShaft rfl rfl rfl cd_X7_isShaft ⟨by rw [hR]; exact Nat.le_of_ble_eq_true rfl, by rw [hR]; exact Nat.le_of_ble_eq_true rfl⟩) hx0 rfl rfl rfl hl.1 (Nat.le_of_ble_eq_true rfl) dX7_ratio_11 ⟨by rw [hR]; exact Nat.le_of_ble_eq_true rfl, by rw [hR]; exact Nat.le_of_ble_eq_true rfl⟩ rfl (fun r19 w20 H locs h21 hP hS => ?_)
    have hr19 := h21.1
    rw [h21.2] at hP
    rw [hr19]
    refine lv_if_eq (tgt := 21) hx hb dX7_ratio_14 (by decide) (fun c22 => ?_) (fun c22 => ?_)
    · have yc22 := of_decide_eq_false (g_b0.mp c22)
      refine lv_iconst (v := 1) hx hb dX7_ratio_21 (by decide) ?_
      refine g_put F hP hS (C := RX7) (T := TX7) (N := 20) (v := .int 1) (ty := .int) iX7 tyX7 tyX7_ok nmX7 hx0 rfl 0 (by decide) (List.mem_cons_of_mem _ (List.mem_append_left _ (List.mem_append_left _ (List.mem_of_getElem? (i := 0) rfl)))) (fun _ h9 => h9) rfl (by decide +kernel) rfl rfl (by show 0 < 20; decide) dX7_ratio_22 (fun H locs hP hS => ?_)
      obtain ⟨w23, ew23⟩ : ∃ z, z = g_up w (md 0) (.inr (8, [.int 1, .int (iL (S 0 0)), .ref (md 1), .ref (md 2), .ref (md 3), .int (iL (S 0 4)), .int (iL (S 0 5)), .int (iL (S 0 1)), .ref (md 4), .ref (md 5), .int (iL (S 0 2)), .ref (md 6), .ref (md 7), .int (iL (S 0 3)), .ref (md 8), .ref (md 9), .ref (md 10), .ref (md 11), .long tp, .long bt])) := ⟨_, rfl⟩
      have hP : g_P A G w23 H := by rw [ew23]; exact hP
      have f24 : w23 (md 1) = some (.inl (G.2.1 0, 10, .inl (Fm 1))) := by rw [ew23]; exact g_up_f hy1 ((fun q => absurd (Hj 1 0 (by decide) (by decide) q) (by decide)))
      have f25 : w23 (md 2) = some (.inl (G.2.1 0, 10, .inl (Fm 2))) := by rw [ew23]; exact g_up_f hy2 ((fun q => absurd (Hj 2 0 (by decide) (by decide) q) (by decide)))
      have f26 : w23 (md 3) = some (.inl (G.2.1 2, 10, .inl (Fm 3))) := by rw [ew23]; exact g_up_f hy3 ((fun q => absurd (Hj 3 0 (by decide) (by decide) q) (by decide)))
      have f27 : w23 (md 4) = some (.inl (G.2.1 0, 64, .inl (Fm 4))) := by rw [ew23]; exact g_up_f hy4 ((fun q => absurd (Hj 4 0 (by decide) (by decide) q) (by decide)))
      have f28 : w23 (md 5) = some (.inl (G.2.1 2, 16, .inl (Fm 5))) := by rw [ew23]; exact g_up_f hy5 ((fun q => absurd (Hj 5 0 (by decide) (by decide) q) (by decide)))
      have f29 : w23 (md 6) = some (.inl (G.2.1 0, 16, .inl (Fm 6))) := by rw [ew23]; exact g_up_f hy6 ((fun q => absurd (Hj 6 0 (by decide) (by decide) q) (by decide)))
      have f30 : w23 (md 7) = some (.inl (G.2.1 0, 16, .inl (Fm 7))) := by rw [ew23]; exact g_up_f hy7 ((fun q => absurd (Hj 7 0 (by decide) (by decide) q) (by decide)))
      have f31 : w23 (md 8) = some (.inl (G.2.1 0, 20, .inl (Fm 8))) := by rw [ew23]; exact g_up_f hy8 ((fun q => absurd (Hj 8 0 (by decide) (by decide) q) (by decide)))
      have f32 : w23 (md 9) = some (.inl (G.2.1 1, 10, .inr (.inl (L 0)))) := by rw [ew23]; exact g_up_f hy9 ((fun q => absurd (Hj 9 0 (by decide) (by decide) q) (by decide)))
      have f33 : w23 (md 10) = some (.inl (G.2.1 1, 10, .inr (.inl (L 1)))) := by rw [ew23]; exact g_up_f hy10 ((fun q => absurd (Hj 10 0 (by decide) (by decide) q) (by decide)))
      have f34 : w23 (md 11) = some (.inl (G.2.1 0, 10, .inl (Fm 11))) := by rw [ew23]; exact g_up_f hy11 ((fun q => absurd (Hj 11 0 (by decide) (by decide) q) (by decide)))
      have f35 : w23 (md 0) = some (.inr (8, [.int 1, .int (iL (S 0 0)), .ref (md 1), .ref (md 2), .ref (md 3), .int (iL (S 0 4)), .int (iL (S 0 5)), .int (iL (S 0 1)), .ref (md 4), .ref (md 5), .int (iL (S 0 2)), .ref (md 6), .ref (md 7), .int (iL (S 0 3)), .ref (md 8), .ref (md 9), .ref (md 10), .ref (md 11), .long tp, .long bt])) := by rw [ew23]; exact g_up_s _ _ _
      refine lv_aload_n hx hb dX7_ratio_25 rfl (lv_at hl 0 rfl) ?_
      refine g_get F hP (C := RX7) (T := TX7) (N := 20) iX7 f35 rfl 0 (by decide) (List.mem_cons_of_mem _ (List.mem_append_left _ (List.mem_append_left _ (List.mem_of_getElem? (i := 0) rfl)))) (fun _ h9 => h9) rfl dX7_ratio_26 ?_
      refine lv_if_eq (tgt := 34) hx hb dX7_ratio_29 (by decide) (fun c36 => ?_) (fun c36 => ?_)
      · exact absurd c36 (by decide)
      · refine lv_dconst0 hx hb dX7_ratio_32 ?_
        rw [hQ]
        refine g_dret F hP hS hlocks hr dX7_ratio_33 (by first | exact Nat.le_of_ble_eq_true rfl | omega) (by first | exact Nat.le_of_ble_eq_true rfl | omega) ?_
        exact mRes_no (c := 1) (if_neg (fun q => yc22 q.2)) (by decide) ⟨mFr_tr (mFr_rf _ _) (mFr_se (i := 0) (by decide) ew23), _, _, Fm, L, ⟨f35, f24, f25, f26, f27, f28, f29, f30, f31, f32, f33, f34⟩, Hf⟩
    · have yc22 := of_decide_eq_true (g_b1.mp c22)
      refine lv_iconst (v := 0) hx hb dX7_ratio_17 (by decide) ?_
      refine lv_goto (tgt := 22) hx hb dX7_ratio_18 (by decide) ?_
      refine g_put F hP hS (C := RX7) (T := TX7) (N := 20) (v := .int 0) (ty := .int) iX7 tyX7 tyX7_ok nmX7 hx0 rfl 0 (by decide) (List.mem_cons_of_mem _ (List.mem_append_left _ (List.mem_append_left _ (List.mem_of_getElem? (i := 0) rfl)))) (fun _ h9 => h9) rfl (by decide +kernel) rfl rfl (by show 0 < 20; decide) dX7_ratio_22 (fun H locs hP hS => ?_)
      obtain ⟨w37, ew37⟩ : ∃ z, z = g_up w (md 0) (.inr (8, [.int 0, .int (iL (S 0 0)), .ref (md 1), .ref (md 2), .ref (md 3), .int (iL (S 0 4)), .int (iL (S 0 5)), .int (iL (S 0 1)), .ref (md 4), .ref (md 5), .int (iL (S 0 2)), .ref (md 6), .ref (md 7), .int (iL (S 0 3)), .ref (md 8), .ref (md 9), .ref (md 10), .ref (md 11), .long tp, .long bt])) := ⟨_, rfl⟩
      have hP : g_P A G w37 H := by rw [ew37]; exact hP
      have f38 : w37 (md 1) = some (.inl (G.2.1 0, 10, .inl (Fm 1))) := by rw [ew37]; exact g_up_f hy1 ((fun q => absurd (Hj 1 0 (by decide) (by decide) q) (by decide)))
      have f39 : w37 (md 2) = some (.inl (G.2.1 0, 10, .inl (Fm 2))) := by rw [ew37]; exact g_up_f hy2 ((fun q => absurd (Hj 2 0 (by decide) (by decide) q) (by decide)))
      have f40 : w37 (md 3) = some (.inl (G.2.1 2, 10, .inl (Fm 3))) := by rw [ew37]; exact g_up_f hy3 ((fun q => absurd (Hj 3 0 (by decide) (by decide) q) (by decide)))
      have f41 : w37 (md 4) = some (.inl (G.2.1 0, 64, .inl (Fm 4))) := by rw [ew37]; exact g_up_f hy4 ((fun q => absurd (Hj 4 0 (by decide) (by decide) q) (by decide)))
      have f42 : w37 (md 5) = some (.inl (G.2.1 2, 16, .inl (Fm 5))) := by rw [ew37]; exact g_up_f hy5 ((fun q => absurd (Hj 5 0 (by decide) (by decide) q) (by decide)))
      have f43 : w37 (md 6) = some (.inl (G.2.1 0, 16, .inl (Fm 6))) := by rw [ew37]; exact g_up_f hy6 ((fun q => absurd (Hj 6 0 (by decide) (by decide) q) (by decide)))
      have f44 : w37 (md 7) = some (.inl (G.2.1 0, 16, .inl (Fm 7))) := by rw [ew37]; exact g_up_f hy7 ((fun q => absurd (Hj 7 0 (by decide) (by decide) q) (by decide)))
      have f45 : w37 (md 8) = some (.inl (G.2.1 0, 20, .inl (Fm 8))) := by rw [ew37]; exact g_up_f hy8 ((fun q => absurd (Hj 8 0 (by decide) (by decide) q) (by decide)))
      have f46 : w37 (md 9) = some (.inl (G.2.1 1, 10, .inr (.inl (L 0)))) := by rw [ew37]; exact g_up_f hy9 ((fun q => absurd (Hj 9 0 (by decide) (by decide) q) (by decide)))
      have f47 : w37 (md 10) = some (.inl (G.2.1 1, 10, .inr (.inl (L 1)))) := by rw [ew37]; exact g_up_f hy10 ((fun q => absurd (Hj 10 0 (by decide) (by decide) q) (by decide)))
      have f48 : w37 (md 11) = some (.inl (G.2.1 0, 10, .inl (Fm 11))) := by rw [ew37]; exact g_up_f hy11 ((fun q => absurd (Hj 11 0 (by decide) (by decide) q) (by decide)))
      have f49 : w37 (md 0) = some (.inr (8, [.int 0, .int (iL (S 0 0)), .ref (md 1), .ref (md 2), .ref (md 3), .int (iL (S 0 4)), .int (iL (S 0 5)), .int (iL (S 0 1)), .ref (md 4), .ref (md 5), .int (iL (S 0 2)), .ref (md 6), .ref (md 7), .int (iL (S 0 3)), .ref (md 8), .ref (md 9), .ref (md 10), .ref (md 11), .long tp, .long bt])) := by rw [ew37]; exact g_up_s _ _ _
      refine lv_aload_n hx hb dX7_ratio_25 rfl (lv_at hl 0 rfl) ?_
      refine g_get F hP (C := RX7) (T := TX7) (N := 20) iX7 f49 rfl 0 (by decide) (List.mem_cons_of_mem _ (List.mem_append_left _ (List.mem_append_left _ (List.mem_of_getElem? (i := 0) rfl)))) (fun _ h9 => h9) rfl dX7_ratio_26 ?_
      refine lv_if_eq (tgt := 34) hx hb dX7_ratio_29 (by decide) (fun c50 => ?_) (fun c50 => ?_)
      · have ska := yc4
        obtain ⟨ka, hka, ek9⟩ := ix_of ska.1 ska.2
        subst ek9
        have nka : kN (nI ka) = ka := kN_n (by omega)
        have skb := yc22
        obtain ⟨kb, hkb, ek9⟩ := ix_of skb.1 skb.2
        subst ek9
        have nkb : kN (nI kb) = kb := kN_n (by omega)
        refine lv_aload_n hx hb dX7_ratio_34 rfl (lv_at hl 0 rfl) ?_
        refine g_Vv (As := []) (rest := []) F hP hS (k_X7_solve l A G w37 md S 0 tp bt Fm L ⟨f49, f38, f39, f40, f41, f42, f43, f44, f45, f46, f47, f48⟩ Hj Hf Hi) (cwV 0 hts gX7_ratio_X7_solve rfl rfl rfl cd_X7_solve ⟨by rw [hR]; exact Nat.le_of_ble_eq_true rfl, by rw [hR]; exact Nat.le_of_ble_eq_true rfl⟩) f49 rfl rfl rfl hl.1 (Nat.le_of_ble_eq_true rfl) dX7_ratio_35 ⟨by rw [hR]; exact Nat.le_of_ble_eq_true rfl, by rw [hR]; exact Nat.le_of_ble_eq_true rfl⟩ rfl (fun w52 H locs h53 hP hS => ?_)
        obtain ⟨hfr2, tp2, bt2, L3, f3, ⟨z0, z1, z2, z3, z4, z5, z6, z7, z8, z9, z10, z11⟩, hT3⟩ := h53
        have HT : modT S (told S) (up1 Fm 11 f3) L3 := hT3
        have HF := modF_11 Hf f3
        have Ht := told_inv Hi
        have f54 : w52 (md 0) = some (.inr (8, [.int 0, .int (iL (S 0 0)), .ref (md 1), .ref (md 2), .ref (md 3), .int (iL (S 0 4)), .int (iL (S 0 5)), .int (iL (S 0 1)), .ref (md 4), .ref (md 5), .int (iL (S 0 2)), .ref (md 6), .ref (md 7), .int (iL (S 0 3)), .ref (md 8), .ref (md 9), .ref (md 10), .ref (md 11), .long tp2, .long bt2])) := z0
        have f55 : w52 (md 1) = some (.inl (G.2.1 0, 10, .inl (Fm 1))) := z1
        have f56 : w52 (md 2) = some (.inl (G.2.1 0, 10, .inl (Fm 2))) := z2
        have f57 : w52 (md 3) = some (.inl (G.2.1 2, 10, .inl (Fm 3))) := z3
        have f58 : w52 (md 4) = some (.inl (G.2.1 0, 64, .inl (Fm 4))) := z4
        have f59 : w52 (md 5) = some (.inl (G.2.1 2, 16, .inl (Fm 5))) := z5
        have f60 : w52 (md 6) = some (.inl (G.2.1 0, 16, .inl (Fm 6))) := z6
        have f61 : w52 (md 7) = some (.inl (G.2.1 0, 16, .inl (Fm 7))) := z7
        have f62 : w52 (md 8) = some (.inl (G.2.1 0, 20, .inl (Fm 8))) := z8
        have f63 : w52 (md 9) = some (.inl (G.2.1 1, 10, .inr (.inl (L3 0)))) := z9
        have f64 : w52 (md 10) = some (.inl (G.2.1 1, 10, .inr (.inl (L3 1)))) := z10
        have f65 : w52 (md 11) = some (.inl (G.2.1 0, 10, .inl f3)) := z11
        refine lv_aload_n hx hb dX7_ratio_38 rfl (lv_at hl 0 rfl) ?_
        refine lv_aload_n hx hb dX7_ratio_39 rfl (lv_at hl 0 rfl) ?_
        refine lv_iload_n hx hb dX7_ratio_40 rfl (lv_at hl 1 rfl) ?_
        refine g_Vi (As := [.int (nI ka)]) (rest := [.ref (md 0)]) F hP hS (k_X7_hasSpeed l A G w52 md S _ _ _ (up1 Fm 11 f3) L3 ka (zB (told S) ka) f54 f64 (by have := hka; omega) (zB_z HT hka) (zB_b Ht hka)) (cwV 1 hts gX7_ratio_X7_hasSpeed rfl rfl rfl cd_X7_hasSpeed ⟨by rw [hR]; exact Nat.le_of_ble_eq_true rfl, by rw [hR]; exact Nat.le_of_ble_eq_true rfl⟩) f54 rfl rfl rfl hl.1 (Nat.le_of_ble_eq_true rfl) dX7_ratio_41 ⟨by rw [hR]; exact Nat.le_of_ble_eq_true rfl, by rw [hR]; exact Nat.le_of_ble_eq_true rfl⟩ rfl (fun r66 w67 H locs h68 hP hS => ?_)
        have hr66 := h68.1
        rw [h68.2] at hP
        rw [hr66]
        rw [zB_d Ht hka]
        refine lv_if_eq (tgt := 70) hx hb dX7_ratio_44 (by decide) (fun c69 => ?_) (fun c69 => ?_)
        · have yc69 := of_decide_eq_false (g_b0.mp c69)
          refine lv_iconst (v := 2) hx hb dX7_ratio_70 (by decide) ?_
          refine g_put F hP hS (C := RX7) (T := TX7) (N := 20) (v := .int 2) (ty := .int) iX7 tyX7 tyX7_ok nmX7 f54 rfl 0 (by decide) (List.mem_cons_of_mem _ (List.mem_append_left _ (List.mem_append_left _ (List.mem_of_getElem? (i := 0) rfl)))) (fun _ h9 => h9) rfl (by decide +kernel) rfl rfl (by show 0 < 20; decide) dX7_ratio_71 (fun H locs hP hS => ?_)
          obtain ⟨w70, ew70⟩ : ∃ z, z = g_up w52 (md 0) (.inr (8, [.int 2, .int (iL (S 0 0)), .ref (md 1), .ref (md 2), .ref (md 3), .int (iL (S 0 4)), .int (iL (S 0 5)), .int (iL (S 0 1)), .ref (md 4), .ref (md 5), .int (iL (S 0 2)), .ref (md 6), .ref (md 7), .int (iL (S 0 3)), .ref (md 8), .ref (md 9), .ref (md 10), .ref (md 11), .long tp2, .long bt2])) := ⟨_, rfl⟩
          have hP : g_P A G w70 H := by rw [ew70]; exact hP
          have f71 : w70 (md 1) = some (.inl (G.2.1 0, 10, .inl (Fm 1))) := by rw [ew70]; exact g_up_f f55 ((fun q => absurd (Hj 1 0 (by decide) (by decide) q) (by decide)))
          have f72 : w70 (md 2) = some (.inl (G.2.1 0, 10, .inl (Fm 2))) := by rw [ew70]; exact g_up_f f56 ((fun q => absurd (Hj 2 0 (by decide) (by decide) q) (by decide)))
          have f73 : w70 (md 3) = some (.inl (G.2.1 2, 10, .inl (Fm 3))) := by rw [ew70]; exact g_up_f f57 ((fun q => absurd (Hj 3 0 (by decide) (by decide) q) (by decide)))
          have f74 : w70 (md 4) = some (.inl (G.2.1 0, 64, .inl (Fm 4))) := by rw [ew70]; exact g_up_f f58 ((fun q => absurd (Hj 4 0 (by decide) (by decide) q) (by decide)))
          have f75 : w70 (md 5) = some (.inl (G.2.1 2, 16, .inl (Fm 5))) := by rw [ew70]; exact g_up_f f59 ((fun q => absurd (Hj 5 0 (by decide) (by decide) q) (by decide)))
          have f76 : w70 (md 6) = some (.inl (G.2.1 0, 16, .inl (Fm 6))) := by rw [ew70]; exact g_up_f f60 ((fun q => absurd (Hj 6 0 (by decide) (by decide) q) (by decide)))
          have f77 : w70 (md 7) = some (.inl (G.2.1 0, 16, .inl (Fm 7))) := by rw [ew70]; exact g_up_f f61 ((fun q => absurd (Hj 7 0 (by decide) (by decide) q) (by decide)))
          have f78 : w70 (md 8) = some (.inl (G.2.1 0, 20, .inl (Fm 8))) := by rw [ew70]; exact g_up_f f62 ((fun q => absurd (Hj 8 0 (by decide) (by decide) q) (by decide)))
          have f79 : w70 (md 9) = some (.inl (G.2.1 1, 10, .inr (.inl (L3 0)))) := by rw [ew70]; exact g_up_f f63 ((fun q => absurd (Hj 9 0 (by decide) (by decide) q) (by decide)))
          have f80 : w70 (md 10) = some (.inl (G.2.1 1, 10, .inr (.inl (L3 1)))) := by rw [ew70]; exact g_up_f f64 ((fun q => absurd (Hj 10 0 (by decide) (by decide) q) (by decide)))
          have f81 : w70 (md 11) = some (.inl (G.2.1 0, 10, .inl f3)) := by rw [ew70]; exact g_up_f f65 ((fun q => absurd (Hj 11 0 (by decide) (by decide) q) (by decide)))
          have f82 : w70 (md 0) = some (.inr (8, [.int 2, .int (iL (S 0 0)), .ref (md 1), .ref (md 2), .ref (md 3), .int (iL (S 0 4)), .int (iL (S 0 5)), .int (iL (S 0 1)), .ref (md 4), .ref (md 5), .int (iL (S 0 2)), .ref (md 6), .ref (md 7), .int (iL (S 0 3)), .ref (md 8), .ref (md 9), .ref (md 10), .ref (md 11), .long tp2, .long bt2])) := by rw [ew70]; exact g_up_s _ _ _
          refine lv_aload_n hx hb dX7_ratio_74 rfl (lv_at hl 0 rfl) ?_
          refine g_get F hP (C := RX7) (T := TX7) (N := 20) iX7 f82 rfl 0 (by decide) (List.mem_cons_of_mem _ (List.mem_append_left _ (List.mem_append_left _ (List.mem_of_getElem? (i := 0) rfl)))) (fun _ h9 => h9) rfl dX7_ratio_75 ?_
          refine lv_if_ne (tgt := 95) hx hb dX7_ratio_78 (by decide) (fun c83 => ?_) (fun c83 => ?_)
          · refine lv_dconst0 hx hb dX7_ratio_95 ?_
            rw [hQ]
            refine g_dret F hP hS hlocks hr dX7_ratio_96 (by first | exact Nat.le_of_ble_eq_true rfl | omega) (by first | exact Nat.le_of_ble_eq_true rfl | omega) ?_
            exact mRes_no (c := 2) ((if_pos ⟨ska, skb⟩).trans (by rw [nka, nkb]; exact if_neg (fun q => yc69 q.1))) (by decide) ⟨mFr_tr (mFr_tr (mFr_tr (mFr_rf _ _) (mFr_se (i := 0) (by decide) ew37)) hfr2) (mFr_se (i := 0) (by decide) ew70), _, _, (up1 Fm 11 f3), L3, ⟨f82, f71, f72, f73, f74, f75, f76, f77, f78, f79, f80, f81⟩, HF⟩
          · exact absurd c83 (by decide)
        · have yc69 := of_decide_eq_true (g_b1.mp c69)
          refine lv_aload_n hx hb dX7_ratio_47 rfl (lv_at hl 0 rfl) ?_
          refine lv_iload_n hx hb dX7_ratio_48 rfl (lv_at hl 2 rfl) ?_
          refine g_Vi (As := [.int (nI kb)]) (rest := [.ref (md 0)]) F hP hS (k_X7_hasSpeed l A G w52 md S _ _ _ (up1 Fm 11 f3) L3 kb (zB (told S) kb) f54 f64 (by have := hkb; omega) (zB_z HT hkb) (zB_b Ht hkb)) (cwV 1 hts gX7_ratio_X7_hasSpeed rfl rfl rfl cd_X7_hasSpeed ⟨by rw [hR]; exact Nat.le_of_ble_eq_true rfl, by rw [hR]; exact Nat.le_of_ble_eq_true rfl⟩) f54 rfl rfl rfl hl.1 (Nat.le_of_ble_eq_true rfl) dX7_ratio_49 ⟨by rw [hR]; exact Nat.le_of_ble_eq_true rfl, by rw [hR]; exact Nat.le_of_ble_eq_true rfl⟩ rfl (fun r84 w85 H locs h86 hP hS => ?_)
          have hr84 := h86.1
          rw [h86.2] at hP
          rw [hr84]
          rw [zB_d Ht hkb]
          refine lv_if_eq (tgt := 70) hx hb dX7_ratio_52 (by decide) (fun c87 => ?_) (fun c87 => ?_)
          · have yc87 := of_decide_eq_false (g_b0.mp c87)
            refine lv_iconst (v := 2) hx hb dX7_ratio_70 (by decide) ?_
            refine g_put F hP hS (C := RX7) (T := TX7) (N := 20) (v := .int 2) (ty := .int) iX7 tyX7 tyX7_ok nmX7 f54 rfl 0 (by decide) (List.mem_cons_of_mem _ (List.mem_append_left _ (List.mem_append_left _ (List.mem_of_getElem? (i := 0) rfl)))) (fun _ h9 => h9) rfl (by decide +kernel) rfl rfl (by show 0 < 20; decide) dX7_ratio_71 (fun H locs hP hS => ?_)
            obtain ⟨w88, ew88⟩ : ∃ z, z = g_up w52 (md 0) (.inr (8, [.int 2, .int (iL (S 0 0)), .ref (md 1), .ref (md 2), .ref (md 3), .int (iL (S 0 4)), .int (iL (S 0 5)), .int (iL (S 0 1)), .ref (md 4), .ref (md 5), .int (iL (S 0 2)), .ref (md 6), .ref (md 7), .int (iL (S 0 3)), .ref (md 8), .ref (md 9), .ref (md 10), .ref (md 11), .long tp2, .long bt2])) := ⟨_, rfl⟩
            have hP : g_P A G w88 H := by rw [ew88]; exact hP
            have f89 : w88 (md 1) = some (.inl (G.2.1 0, 10, .inl (Fm 1))) := by rw [ew88]; exact g_up_f f55 ((fun q => absurd (Hj 1 0 (by decide) (by decide) q) (by decide)))
            have f90 : w88 (md 2) = some (.inl (G.2.1 0, 10, .inl (Fm 2))) := by rw [ew88]; exact g_up_f f56 ((fun q => absurd (Hj 2 0 (by decide) (by decide) q) (by decide)))
            have f91 : w88 (md 3) = some (.inl (G.2.1 2, 10, .inl (Fm 3))) := by rw [ew88]; exact g_up_f f57 ((fun q => absurd (Hj 3 0 (by decide) (by decide) q) (by decide)))
            have f92 : w88 (md 4) = some (.inl (G.2.1 0, 64, .inl (Fm 4))) := by rw [ew88]; exact g_up_f f58 ((fun q => absurd (Hj 4 0 (by decide) (by decide) q) (by decide)))
            have f93 : w88 (md 5) = some (.inl (G.2.1 2, 16, .inl (Fm 5))) := by rw [ew88]; exact g_up_f f59 ((fun q => absurd (Hj 5 0 (by decide) (by decide) q) (by decide)))
            have f94 : w88 (md 6) = some (.inl (G.2.1 0, 16, .inl (Fm 6))) := by rw [ew88]; exact g_up_f f60 ((fun q => absurd (Hj 6 0 (by decide) (by decide) q) (by decide)))
            have f95 : w88 (md 7) = some (.inl (G.2.1 0, 16, .inl (Fm 7))) := by rw [ew88]; exact g_up_f f61 ((fun q => absurd (Hj 7 0 (by decide) (by decide) q) (by decide)))
            have f96 : w88 (md 8) = some (.inl (G.2.1 0, 20, .inl (Fm 8))) := by rw [ew88]; exact g_up_f f62 ((fun q => absurd (Hj 8 0 (by decide) (by decide) q) (by decide)))
            have f97 : w88 (md 9) = some (.inl (G.2.1 1, 10, .inr (.inl (L3 0)))) := by rw [ew88]; exact g_up_f f63 ((fun q => absurd (Hj 9 0 (by decide) (by decide) q) (by decide)))
            have f98 : w88 (md 10) = some (.inl (G.2.1 1, 10, .inr (.inl (L3 1)))) := by rw [ew88]; exact g_up_f f64 ((fun q => absurd (Hj 10 0 (by decide) (by decide) q) (by decide)))
            have f99 : w88 (md 11) = some (.inl (G.2.1 0, 10, .inl f3)) := by rw [ew88]; exact g_up_f f65 ((fun q => absurd (Hj 11 0 (by decide) (by decide) q) (by decide)))
            have f100 : w88 (md 0) = some (.inr (8, [.int 2, .int (iL (S 0 0)), .ref (md 1), .ref (md 2), .ref (md 3), .int (iL (S 0 4)), .int (iL (S 0 5)), .int (iL (S 0 1)), .ref (md 4), .ref (md 5), .int (iL (S 0 2)), .ref (md 6), .ref (md 7), .int (iL (S 0 3)), .ref (md 8), .ref (md 9), .ref (md 10), .ref (md 11), .long tp2, .long bt2])) := by rw [ew88]; exact g_up_s _ _ _
            refine lv_aload_n hx hb dX7_ratio_74 rfl (lv_at hl 0 rfl) ?_
            refine g_get F hP (C := RX7) (T := TX7) (N := 20) iX7 f100 rfl 0 (by decide) (List.mem_cons_of_mem _ (List.mem_append_left _ (List.mem_append_left _ (List.mem_of_getElem? (i := 0) rfl)))) (fun _ h9 => h9) rfl dX7_ratio_75 ?_
            refine lv_if_ne (tgt := 95) hx hb dX7_ratio_78 (by decide) (fun c101 => ?_) (fun c101 => ?_)
            · refine lv_dconst0 hx hb dX7_ratio_95 ?_
              rw [hQ]
              refine g_dret F hP hS hlocks hr dX7_ratio_96 (by first | exact Nat.le_of_ble_eq_true rfl | omega) (by first | exact Nat.le_of_ble_eq_true rfl | omega) ?_
              exact mRes_no (c := 2) ((if_pos ⟨ska, skb⟩).trans (by rw [nka, nkb]; exact if_neg (fun q => yc87 q.2.1))) (by decide) ⟨mFr_tr (mFr_tr (mFr_tr (mFr_rf _ _) (mFr_se (i := 0) (by decide) ew37)) hfr2) (mFr_se (i := 0) (by decide) ew88), _, _, (up1 Fm 11 f3), L3, ⟨f100, f89, f90, f91, f92, f93, f94, f95, f96, f97, f98, f99⟩, HF⟩
            · exact absurd c101 (by decide)
          · have yc87 := of_decide_eq_true (g_b1.mp c87)
            refine lv_aload_n hx hb dX7_ratio_55 rfl (lv_at hl 0 rfl) ?_
            refine g_get F hP (C := RX7) (T := TX7) (N := 20) iX7 f54 rfl 15 (by decide) (List.mem_cons_of_mem _ (List.mem_append_left _ (List.mem_append_left _ (List.mem_of_getElem? (i := 1) rfl)))) (fun _ h9 => h9) rfl dX7_ratio_56 ?_
            refine lv_iload_n hx hb dX7_ratio_59 rfl (lv_at hl 2 rfl) ?_
            refine g_lald F hP f63 (vp_in_nI (by omega) (by decide)) dX7_ratio_60 ?_
            rw [show (.long ((L3 0) (nI kb : Int32).toNatClampNeg) : Value) = .long (zL (told S 0 kb)) from by rw [nI_clamp (by omega), (HT kb hkb).1]]
            refine lv_lconst (v := 0) hx hb dX7_ratio_61 (by decide) ?_
            refine W.lcmp hx hb dX7_ratio_62 ?_
            refine lv_if_eq (tgt := 70) hx hb dX7_ratio_63 (by decide) (fun c102 => ?_) (fun c102 => ?_)
            · have c102 := (lg_cmp_eq (zL (told S 0 kb)) 0).mp c102
              have tb := Ht.1 kb hkb
              have yc102 : told S 0 kb = 0 := (zL_eq0 (by omega) (by omega)).mp c102
              refine lv_iconst (v := 2) hx hb dX7_ratio_70 (by decide) ?_
              refine g_put F hP hS (C := RX7) (T := TX7) (N := 20) (v := .int 2) (ty := .int) iX7 tyX7 tyX7_ok nmX7 f54 rfl 0 (by decide) (List.mem_cons_of_mem _ (List.mem_append_left _ (List.mem_append_left _ (List.mem_of_getElem? (i := 0) rfl)))) (fun _ h9 => h9) rfl (by decide +kernel) rfl rfl (by show 0 < 20; decide) dX7_ratio_71 (fun H locs hP hS => ?_)
              obtain ⟨w103, ew103⟩ : ∃ z, z = g_up w52 (md 0) (.inr (8, [.int 2, .int (iL (S 0 0)), .ref (md 1), .ref (md 2), .ref (md 3), .int (iL (S 0 4)), .int (iL (S 0 5)), .int (iL (S 0 1)), .ref (md 4), .ref (md 5), .int (iL (S 0 2)), .ref (md 6), .ref (md 7), .int (iL (S 0 3)), .ref (md 8), .ref (md 9), .ref (md 10), .ref (md 11), .long tp2, .long bt2])) := ⟨_, rfl⟩
              have hP : g_P A G w103 H := by rw [ew103]; exact hP
              have f104 : w103 (md 1) = some (.inl (G.2.1 0, 10, .inl (Fm 1))) := by rw [ew103]; exact g_up_f f55 ((fun q => absurd (Hj 1 0 (by decide) (by decide) q) (by decide)))
              have f105 : w103 (md 2) = some (.inl (G.2.1 0, 10, .inl (Fm 2))) := by rw [ew103]; exact g_up_f f56 ((fun q => absurd (Hj 2 0 (by decide) (by decide) q) (by decide)))
              have f106 : w103 (md 3) = some (.inl (G.2.1 2, 10, .inl (Fm 3))) := by rw [ew103]; exact g_up_f f57 ((fun q => absurd (Hj 3 0 (by decide) (by decide) q) (by decide)))
              have f107 : w103 (md 4) = some (.inl (G.2.1 0, 64, .inl (Fm 4))) := by rw [ew103]; exact g_up_f f58 ((fun q => absurd (Hj 4 0 (by decide) (by decide) q) (by decide)))
              have f108 : w103 (md 5) = some (.inl (G.2.1 2, 16, .inl (Fm 5))) := by rw [ew103]; exact g_up_f f59 ((fun q => absurd (Hj 5 0 (by decide) (by decide) q) (by decide)))
              have f109 : w103 (md 6) = some (.inl (G.2.1 0, 16, .inl (Fm 6))) := by rw [ew103]; exact g_up_f f60 ((fun q => absurd (Hj 6 0 (by decide) (by decide) q) (by decide)))
              have f110 : w103 (md 7) = some (.inl (G.2.1 0, 16, .inl (Fm 7))) := by rw [ew103]; exact g_up_f f61 ((fun q => absurd (Hj 7 0 (by decide) (by decide) q) (by decide)))
              have f111 : w103 (md 8) = some (.inl (G.2.1 0, 20, .inl (Fm 8))) := by rw [ew103]; exact g_up_f f62 ((fun q => absurd (Hj 8 0 (by decide) (by decide) q) (by decide)))
              have f112 : w103 (md 9) = some (.inl (G.2.1 1, 10, .inr (.inl (L3 0)))) := by rw [ew103]; exact g_up_f f63 ((fun q => absurd (Hj 9 0 (by decide) (by decide) q) (by decide)))
              have f113 : w103 (md 10) = some (.inl (G.2.1 1, 10, .inr (.inl (L3 1)))) := by rw [ew103]; exact g_up_f f64 ((fun q => absurd (Hj 10 0 (by decide) (by decide) q) (by decide)))
              have f114 : w103 (md 11) = some (.inl (G.2.1 0, 10, .inl f3)) := by rw [ew103]; exact g_up_f f65 ((fun q => absurd (Hj 11 0 (by decide) (by decide) q) (by decide)))
              have f115 : w103 (md 0) = some (.inr (8, [.int 2, .int (iL (S 0 0)), .ref (md 1), .ref (md 2), .ref (md 3), .int (iL (S 0 4)), .int (iL (S 0 5)), .int (iL (S 0 1)), .ref (md 4), .ref (md 5), .int (iL (S 0 2)), .ref (md 6), .ref (md 7), .int (iL (S 0 3)), .ref (md 8), .ref (md 9), .ref (md 10), .ref (md 11), .long tp2, .long bt2])) := by rw [ew103]; exact g_up_s _ _ _
              refine lv_aload_n hx hb dX7_ratio_74 rfl (lv_at hl 0 rfl) ?_
              refine g_get F hP (C := RX7) (T := TX7) (N := 20) iX7 f115 rfl 0 (by decide) (List.mem_cons_of_mem _ (List.mem_append_left _ (List.mem_append_left _ (List.mem_of_getElem? (i := 0) rfl)))) (fun _ h9 => h9) rfl dX7_ratio_75 ?_
              refine lv_if_ne (tgt := 95) hx hb dX7_ratio_78 (by decide) (fun c116 => ?_) (fun c116 => ?_)
              · refine lv_dconst0 hx hb dX7_ratio_95 ?_
                rw [hQ]
                refine g_dret F hP hS hlocks hr dX7_ratio_96 (by first | exact Nat.le_of_ble_eq_true rfl | omega) (by first | exact Nat.le_of_ble_eq_true rfl | omega) ?_
                exact mRes_no (c := 2) ((if_pos ⟨ska, skb⟩).trans (by rw [nka, nkb]; exact if_neg (fun q => q.2.2 yc102))) (by decide) ⟨mFr_tr (mFr_tr (mFr_tr (mFr_rf _ _) (mFr_se (i := 0) (by decide) ew37)) hfr2) (mFr_se (i := 0) (by decide) ew103), _, _, (up1 Fm 11 f3), L3, ⟨f115, f104, f105, f106, f107, f108, f109, f110, f111, f112, f113, f114⟩, HF⟩
              · exact absurd c116 (by decide)
            · have c102 : ¬ ((zL (told S 0 kb)) = 0) := fun h => c102 ((lg_cmp_eq (zL (told S 0 kb)) 0).mpr h)
              have tb := Ht.1 kb hkb
              have yc102 : ¬ told S 0 kb = 0 := fun q => c102 ((zL_eq0 (by omega) (by omega)).mpr q)
              refine lv_iconst (v := 0) hx hb dX7_ratio_66 (by decide) ?_
              refine lv_goto (tgt := 71) hx hb dX7_ratio_67 (by decide) ?_
              refine g_put F hP hS (C := RX7) (T := TX7) (N := 20) (v := .int 0) (ty := .int) iX7 tyX7 tyX7_ok nmX7 f54 rfl 0 (by decide) (List.mem_cons_of_mem _ (List.mem_append_left _ (List.mem_append_left _ (List.mem_of_getElem? (i := 0) rfl)))) (fun _ h9 => h9) rfl (by decide +kernel) rfl rfl (by show 0 < 20; decide) dX7_ratio_71 (fun H locs hP hS => ?_)
              obtain ⟨w117, ew117⟩ : ∃ z, z = g_up w52 (md 0) (.inr (8, [.int 0, .int (iL (S 0 0)), .ref (md 1), .ref (md 2), .ref (md 3), .int (iL (S 0 4)), .int (iL (S 0 5)), .int (iL (S 0 1)), .ref (md 4), .ref (md 5), .int (iL (S 0 2)), .ref (md 6), .ref (md 7), .int (iL (S 0 3)), .ref (md 8), .ref (md 9), .ref (md 10), .ref (md 11), .long tp2, .long bt2])) := ⟨_, rfl⟩
              have hP : g_P A G w117 H := by rw [ew117]; exact hP
              have f118 : w117 (md 1) = some (.inl (G.2.1 0, 10, .inl (Fm 1))) := by rw [ew117]; exact g_up_f f55 ((fun q => absurd (Hj 1 0 (by decide) (by decide) q) (by decide)))
              have f119 : w117 (md 2) = some (.inl (G.2.1 0, 10, .inl (Fm 2))) := by rw [ew117]; exact g_up_f f56 ((fun q => absurd (Hj 2 0 (by decide) (by decide) q) (by decide)))
              have f120 : w117 (md 3) = some (.inl (G.2.1 2, 10, .inl (Fm 3))) := by rw [ew117]; exact g_up_f f57 ((fun q => absurd (Hj 3 0 (by decide) (by decide) q) (by decide)))
              have f121 : w117 (md 4) = some (.inl (G.2.1 0, 64, .inl (Fm 4))) := by rw [ew117]; exact g_up_f f58 ((fun q => absurd (Hj 4 0 (by decide) (by decide) q) (by decide)))
              have f122 : w117 (md 5) = some (.inl (G.2.1 2, 16, .inl (Fm 5))) := by rw [ew117]; exact g_up_f f59 ((fun q => absurd (Hj 5 0 (by decide) (by decide) q) (by decide)))
              have f123 : w117 (md 6) = some (.inl (G.2.1 0, 16, .inl (Fm 6))) := by rw [ew117]; exact g_up_f f60 ((fun q => absurd (Hj 6 0 (by decide) (by decide) q) (by decide)))
              have f124 : w117 (md 7) = some (.inl (G.2.1 0, 16, .inl (Fm 7))) := by rw [ew117]; exact g_up_f f61 ((fun q => absurd (Hj 7 0 (by decide) (by decide) q) (by decide)))
              have f125 : w117 (md 8) = some (.inl (G.2.1 0, 20, .inl (Fm 8))) := by rw [ew117]; exact g_up_f f62 ((fun q => absurd (Hj 8 0 (by decide) (by decide) q) (by decide)))
              have f126 : w117 (md 9) = some (.inl (G.2.1 1, 10, .inr (.inl (L3 0)))) := by rw [ew117]; exact g_up_f f63 ((fun q => absurd (Hj 9 0 (by decide) (by decide) q) (by decide)))
              have f127 : w117 (md 10) = some (.inl (G.2.1 1, 10, .inr (.inl (L3 1)))) := by rw [ew117]; exact g_up_f f64 ((fun q => absurd (Hj 10 0 (by decide) (by decide) q) (by decide)))
              have f128 : w117 (md 11) = some (.inl (G.2.1 0, 10, .inl f3)) := by rw [ew117]; exact g_up_f f65 ((fun q => absurd (Hj 11 0 (by decide) (by decide) q) (by decide)))
              have f129 : w117 (md 0) = some (.inr (8, [.int 0, .int (iL (S 0 0)), .ref (md 1), .ref (md 2), .ref (md 3), .int (iL (S 0 4)), .int (iL (S 0 5)), .int (iL (S 0 1)), .ref (md 4), .ref (md 5), .int (iL (S 0 2)), .ref (md 6), .ref (md 7), .int (iL (S 0 3)), .ref (md 8), .ref (md 9), .ref (md 10), .ref (md 11), .long tp2, .long bt2])) := by rw [ew117]; exact g_up_s _ _ _
              refine lv_aload_n hx hb dX7_ratio_74 rfl (lv_at hl 0 rfl) ?_
              refine g_get F hP (C := RX7) (T := TX7) (N := 20) iX7 f129 rfl 0 (by decide) (List.mem_cons_of_mem _ (List.mem_append_left _ (List.mem_append_left _ (List.mem_of_getElem? (i := 0) rfl)))) (fun _ h9 => h9) rfl dX7_ratio_75 ?_
              refine lv_if_ne (tgt := 95) hx hb dX7_ratio_78 (by decide) (fun c130 => ?_) (fun c130 => ?_)
              · exact absurd c130 (by decide)
              · refine lv_aload_n hx hb dX7_ratio_81 rfl (lv_at hl 0 rfl) ?_
                refine lv_iload_n hx hb dX7_ratio_82 rfl (lv_at hl 1 rfl) ?_
                refine g_Vd (As := [.int (nI ka)]) (rest := []) F hP hS (k_X7_worth l A G w117 md S _ _ _ (up1 Fm 11 f3) L3 (told S) ka f129 f126 f127 Hi Ht HT hka yc69) (cwV 1 hts gX7_ratio_X7_worth rfl rfl rfl cd_X7_worth ⟨by rw [hR]; exact Nat.le_of_ble_eq_true rfl, by rw [hR]; exact Nat.le_of_ble_eq_true rfl⟩) f129 rfl rfl rfl hl.1 (Nat.le_of_ble_eq_true rfl) dX7_ratio_83 ⟨by rw [hR]; exact Nat.le_of_ble_eq_true rfl, by rw [hR]; exact Nat.le_of_ble_eq_true rfl⟩ rfl (fun r131 w132 H locs h133 hP hS => ?_)
                have hr131 := h133.1
                rw [h133.2] at hP
                rw [hr131]
                refine lv_aload_n hx hb dX7_ratio_86 rfl (lv_at hl 0 rfl) ?_
                refine lv_iload_n hx hb dX7_ratio_87 rfl (lv_at hl 2 rfl) ?_
                refine g_Vd (As := [.int (nI kb)]) (rest := [.double (spD (told S) ka)]) F hP hS (k_X7_worth l A G w117 md S _ _ _ (up1 Fm 11 f3) L3 (told S) kb f129 f126 f127 Hi Ht HT hkb yc87) (cwV 1 hts gX7_ratio_X7_worth rfl rfl rfl cd_X7_worth ⟨by rw [hR]; exact Nat.le_of_ble_eq_true rfl, by rw [hR]; exact Nat.le_of_ble_eq_true rfl⟩) f129 rfl rfl rfl hl.1 (Nat.le_of_ble_eq_true rfl) dX7_ratio_88 ⟨by rw [hR]; exact Nat.le_of_ble_eq_true rfl, by rw [hR]; exact Nat.le_of_ble_eq_true rfl⟩ rfl (fun r134 w135 H locs h136 hP hS => ?_)
                have hr134 := h136.1
                rw [h136.2] at hP
                rw [hr134]
                refine lv_ddiv hx hb dX7_ratio_91 (raD_n Ht hka hkb yc102) ?_
                refine lv_topd (fun v137 ev137 => ?_)
                obtain rfl : v137 = FP.ddiv (spD (told S) ka) (spD (told S) kb) := by
                  exact ev137
                refine lv_goto (tgt := 96) hx hb dX7_ratio_92 (by decide) ?_
                rw [hQ]
                refine g_dret F hP hS hlocks hr dX7_ratio_96 (by first | exact Nat.le_of_ble_eq_true rfl | omega) (by first | exact Nat.le_of_ble_eq_true rfl | omega) ?_
                exact Or.inr ⟨(if_pos ⟨ska, skb⟩).trans (by rw [nka, nkb]; exact if_pos ⟨yc69, yc87, yc102⟩), by unfold vlRatio; rw [nka, nkb], ⟨mFr_tr (mFr_tr (mFr_tr (mFr_rf _ _) (mFr_se (i := 0) (by decide) ew37)) hfr2) (mFr_se (i := 0) (by decide) ew117), _, _, (up1 Fm 11 f3), L3, ⟨f129, f118, f119, f120, f121, f122, f123, f124, f125, f126, f127, f128⟩, HF⟩⟩
      · exact absurd (by decide) c50
