set_option maxHeartbeats 4000000 in
set_option maxRecDepth 100000 in
theorem k_X7_isBrokenSet (l : Launch) (A : Nat → Prop) (G : g_C) (w : g_W) (md : Nat → Nat) (S : Sg) (th : Int32) (tp bt : Int64) (Fm : Nat → Nat → Int32) (L : Nat → Nat → Int64) (T : Sg) (mm : Nat) (hx0 : w (md 0) = some (.inr (8, [.int th, .int (iL (S 0 0)), .ref (md 1), .ref (md 2), .ref (md 3), .int (iL (S 0 4)), .int (iL (S 0 5)), .int (iL (S 0 1)), .ref (md 4), .ref (md 5), .int (iL (S 0 2)), .ref (md 6), .ref (md 7), .int (iL (S 0 3)), .ref (md 8), .ref (md 9), .ref (md 10), .ref (md 11), .long tp, .long bt]))) (hy8 : w (md 8) = some (.inl (G.2.1 0, 20, .inl (Fm 8)))) (hy9 : w (md 9) = some (.inl (G.2.1 1, 10, .inr (.inl (L 0))))) (hy10 : w (md 10) = some (.inl (G.2.1 1, 10, .inr (.inl (L 1))))) (Hf : modF S Fm) (Hi : invS S) (Ht : invT S T) (HT : modT S T Fm L) (hm : (mm : Int) < S 0 3) : mI l yX7_isBrokenSet wsX7_isBrokenSet ({ frames := 4, cells := 0, slots := 0, locals := 121 } : Room) [.ref (md 0), .int (nI mm)] A G w (fun r w' => r = g_b (brkB S T 1 mm) ∧ ∃ tp2 bt2, w' = g_up w (md 0) (.inr (8, mC S th tp2 bt2 md))) 0 0 := by
  refine g_ofI (cc := cX7_isBrokenSet) (maxL := 11) (ret := (some .boolean)) (own := RX7) (by decide) rfl rfl (Nat.le_of_ble_eq_true rfl) ?_
  intro p e R s m args below meth c Q ls hR F hP hS hlocks hr hnm0 hQ hl
  obtain ⟨⟨hx, hb, hml, hown, hts⟩, hK, hZ, hA⟩ := id F
  generalize hH0 : s.heap = H at hP ⊢
  have hS : va_S A s.heap H [] := by rw [← hH0]; exact va_S.rf
  generalize ([] : List Loc) = locs at hS ⊢
  have hl : lv_has ls 11 [(0, .ref (md 0)), (1, .int (nI mm))] := hl
  have iX7 : ∀ w ∈ u_ws RX7 TX7 20, w ∈ wsX7_isBrokenSet := fun w h => List.mem_cons_of_mem _ (List.mem_append_right _ (h))
  have hi := Hi.1
  have ps := Hi.2.2.2.2 mm hm
  have hs0 : ((saP S mm 0 : Nat) : Int) < S 0 0 := tSa_lt (b := 1) Hi (by decide) hm 0
  have hs1 : ((saP S mm 1 : Nat) : Int) < S 0 0 := tSa_lt (b := 1) Hi (by decide) hm 1
  have hs2 : ((saP S mm 2 : Nat) : Int) < S 0 0 := tSa_lt (b := 1) Hi (by decide) hm 2
  have hsk : ∀ k, ((saP S mm k : Nat) : Int) < S 0 0 := fun k => tSa_lt (b := 1) Hi (by decide) hm k
  have q8 : ∀ k, k < 3 → Fm 8 (5 * mm + k) = nI (saP S mm k) := fun k hk => by
    rcases (show k = 0 ∨ k = 1 ∨ k = 2 by omega) with rfl | rfl | rfl
    · rw [Nat.add_zero, (Hf.2.2.2.1 mm hm).1, iL_nn (by omega)]; rfl
    · rw [(Hf.2.2.2.1 mm hm).2.1, iL_nn (by omega)]; rfl
    · rw [(Hf.2.2.2.1 mm hm).2.2.1, iL_nn (by omega)]; rfl
  have t0 := Ht.1 _ hs0
  have t1 := Ht.1 _ hs1
  have t2 := Ht.1 _ hs2
  have tl := @tc_le S T mm 3
  refine lv_aload_n hx hb dX7_isBrokenSet_0 rfl (lv_at hl 0 rfl) ?_
  refine lv_iload_n hx hb dX7_isBrokenSet_1 rfl (lv_at hl 1 rfl) ?_
  refine g_Vi (As := [.int (nI mm)]) (rest := []) F hP hS (k_X7_toldOf l A G w md S _ _ _ Fm L T mm hx0 hy8 hy10 Hf Hi Ht HT hm) (cwV 1 hts gX7_isBrokenSet_X7_toldOf rfl rfl rfl cd_X7_toldOf ⟨by rw [hR]; exact Nat.le_of_ble_eq_true rfl, by rw [hR]; exact Nat.le_of_ble_eq_true rfl⟩) hx0 rfl rfl rfl hl.1 (Nat.le_of_ble_eq_true rfl) dX7_isBrokenSet_2 ⟨by rw [hR]; exact Nat.le_of_ble_eq_true rfl, by rw [hR]; exact Nat.le_of_ble_eq_true rfl⟩ rfl (fun r1 w2 H locs h3 hP hS => ?_)
  have hr1 := h3.1
  rw [h3.2] at hP
  rw [hr1]
  refine lv_iconst (v := 3) hx hb dX7_isBrokenSet_5 (by decide) ?_
  refine lv_icmp_ge (tgt := 11) hx hb dX7_isBrokenSet_6 (by decide) (fun c4 => ?_) (fun c4 => ?_)
  · have yc4 : 3 ≤ tcN S T mm 3 := (n3_le (k := tcN S T mm 3) (by omega)).mp c4
    have h3 := tc3.mp (by omega : tcN S T mm 3 = 3)
    have v0 := h3 0 (by decide)
    have v1 := h3 1 (by decide)
    have v2 := h3 2 (by decide)
    refine lv_aload_n hx hb dX7_isBrokenSet_11 rfl (lv_at hl 0 rfl) ?_
    refine g_get F hP (C := RX7) (T := TX7) (N := 20) iX7 hx0 rfl 14 (by decide) (List.mem_cons_of_mem _ (List.mem_append_left _ (List.mem_append_left _ (List.mem_of_getElem? (i := 0) rfl)))) (fun _ h9 => h9) rfl dX7_isBrokenSet_12 ?_
    refine lv_iconst (v := 5) hx hb dX7_isBrokenSet_15 (by decide) ?_
    refine lv_iload_n hx hb dX7_isBrokenSet_16 rfl (lv_at hl 1 rfl) ?_
    refine lv_imul hx hb dX7_isBrokenSet_17 ?_
    refine lv_topi (fun v5 ev5 => ?_)
    obtain rfl : v5 = nI (5 * mm) := by
      rw [ev5]
      exact nI_mul 5 mm
    refine lv_iconst (v := 3) hx hb dX7_isBrokenSet_18 (by decide) ?_
    refine lv_iadd hx hb dX7_isBrokenSet_19 ?_
    refine lv_topi (fun v6 ev6 => ?_)
    obtain rfl : v6 = nI (5 * mm + 3) := by
      rw [ev6]
      exact nI_add _ 3
    refine g_iald F hP hy8 (vp_in_nI (n := 5 * mm + 3) (by omega) (by decide)) dX7_isBrokenSet_20 ?_
    rw [show (.int ((Fm 8) (nI (5 * mm + 3) : Int32).toNatClampNeg) : Value) = .int (iL (S 14 mm)) from by rw [nI_clamp (n := 5 * mm + 3) (by omega), (Hf.2.2.2.1 mm hm).2.2.2.1]]
    refine lv_i2l hx hb dX7_isBrokenSet_21 rfl ?_
    refine lv_topl (fun v7 ev7 => ?_)
    obtain rfl : v7 = zL (S 14 mm) := by
      rw [ev7]
      exact iL64 (by omega) (by omega)
    refine lv_lstore_n (lv' := [(2, .long (zL (S 14 mm))), (0, .ref (md 0)), (1, .int (nI mm))]) hx hb dX7_isBrokenSet_22 rfl hl (by decide) rfl (fun ls hl => ?_)
    refine lv_aload_n hx hb dX7_isBrokenSet_23 rfl (lv_at hl 1 rfl) ?_
    refine g_get F hP (C := RX7) (T := TX7) (N := 20) iX7 hx0 rfl 14 (by decide) (List.mem_cons_of_mem _ (List.mem_append_left _ (List.mem_append_left _ (List.mem_of_getElem? (i := 0) rfl)))) (fun _ h9 => h9) rfl dX7_isBrokenSet_24 ?_
    refine lv_iconst (v := 5) hx hb dX7_isBrokenSet_27 (by decide) ?_
    refine lv_iload_n hx hb dX7_isBrokenSet_28 rfl (lv_at hl 2 rfl) ?_
    refine lv_imul hx hb dX7_isBrokenSet_29 ?_
    refine lv_topi (fun v8 ev8 => ?_)
    obtain rfl : v8 = nI (5 * mm) := by
      rw [ev8]
      exact nI_mul 5 mm
    refine lv_iconst (v := 4) hx hb dX7_isBrokenSet_30 (by decide) ?_
    refine lv_iadd hx hb dX7_isBrokenSet_31 ?_
    refine lv_topi (fun v9 ev9 => ?_)
    obtain rfl : v9 = nI (5 * mm + 4) := by
      rw [ev9]
      exact nI_add _ 4
    refine g_iald F hP hy8 (vp_in_nI (n := 5 * mm + 4) (by omega) (by decide)) dX7_isBrokenSet_32 ?_
    rw [show (.int ((Fm 8) (nI (5 * mm + 4) : Int32).toNatClampNeg) : Value) = .int (iL (S 15 mm)) from by rw [nI_clamp (n := 5 * mm + 4) (by omega), (Hf.2.2.2.1 mm hm).2.2.2.2]]
    refine lv_i2l hx hb dX7_isBrokenSet_33 rfl ?_
    refine lv_topl (fun v10 ev10 => ?_)
    obtain rfl : v10 = zL (S 15 mm) := by
      rw [ev10]
      exact iL64 (by omega) (by omega)
    refine lv_lstore (lv' := [(4, .long (zL (S 15 mm))), (2, .long (zL (S 14 mm))), (0, .ref (md 0)), (1, .int (nI mm))]) hx hb dX7_isBrokenSet_34 hl (by decide) rfl (fun ls hl => ?_)
    refine lv_aload_n hx hb dX7_isBrokenSet_36 rfl (lv_at hl 2 rfl) ?_
    refine lv_aload_n hx hb dX7_isBrokenSet_37 rfl (lv_at hl 2 rfl) ?_
    refine g_get F hP (C := RX7) (T := TX7) (N := 20) iX7 hx0 rfl 14 (by decide) (List.mem_cons_of_mem _ (List.mem_append_left _ (List.mem_append_left _ (List.mem_of_getElem? (i := 0) rfl)))) (fun _ h9 => h9) rfl dX7_isBrokenSet_38 ?_
    refine lv_iconst (v := 5) hx hb dX7_isBrokenSet_41 (by decide) ?_
    refine lv_iload_n hx hb dX7_isBrokenSet_42 rfl (lv_at hl 3 rfl) ?_
    refine lv_imul hx hb dX7_isBrokenSet_43 ?_
    refine lv_topi (fun v11 ev11 => ?_)
    obtain rfl : v11 = nI (5 * mm) := by
      rw [ev11]
      exact nI_mul 5 mm
    refine g_iald F hP hy8 (vp_in_nI (n := 5 * mm + 0) (by omega) (by decide)) dX7_isBrokenSet_44 ?_
    rw [show (.int ((Fm 8) (nI (5 * mm) : Int32).toNatClampNeg) : Value) = .int (nI (saP S mm 0)) from by rw [nI_clamp (n := 5 * mm) (by omega)]; exact congrArg Value.int (q8 0 (by decide))]
    refine lv_lload_n hx hb dX7_isBrokenSet_45 rfl (lv_at hl 1 rfl) ?_
    refine lv_aload_n hx hb dX7_isBrokenSet_46 rfl (lv_at hl 2 rfl) ?_
    refine g_get F hP (C := RX7) (T := TX7) (N := 20) iX7 hx0 rfl 14 (by decide) (List.mem_cons_of_mem _ (List.mem_append_left _ (List.mem_append_left _ (List.mem_of_getElem? (i := 0) rfl)))) (fun _ h9 => h9) rfl dX7_isBrokenSet_47 ?_
    refine lv_iconst (v := 5) hx hb dX7_isBrokenSet_50 (by decide) ?_
    refine lv_iload_n hx hb dX7_isBrokenSet_51 rfl (lv_at hl 3 rfl) ?_
    refine lv_imul hx hb dX7_isBrokenSet_52 ?_
    refine lv_topi (fun v12 ev12 => ?_)
    obtain rfl : v12 = nI (5 * mm) := by
      rw [ev12]
      exact nI_mul 5 mm
    refine lv_iconst (v := 1) hx hb dX7_isBrokenSet_53 (by decide) ?_
    refine lv_iadd hx hb dX7_isBrokenSet_54 ?_
    refine lv_topi (fun v13 ev13 => ?_)
    obtain rfl : v13 = nI (5 * mm + 1) := by
      rw [ev13]
      exact nI_add _ 1
    refine g_iald F hP hy8 (vp_in_nI (n := 5 * mm + 1) (by omega) (by decide)) dX7_isBrokenSet_55 ?_
    rw [show (.int ((Fm 8) (nI (5 * mm + 1) : Int32).toNatClampNeg) : Value) = .int (nI (saP S mm 1)) from by rw [nI_clamp (n := 5 * mm + 1) (by omega)]; exact congrArg Value.int (q8 1 (by decide))]
    refine lv_lload hx hb dX7_isBrokenSet_56 (lv_at hl 0 rfl) ?_
    obtain ⟨-, sb1, sb2, sb3, sb4, sb5, sb6⟩ := set_s (pl := 2) Hi Ht hm (Or.inr (Or.inr ⟨rfl, rfl, rfl, rfl, rfl, rfl⟩))
    refine g_Vv (As := [.int (nI (saP S mm 0)), .long (zL (S 14 mm)), .int (nI (saP S mm 1)), .long (zL (S 15 mm))]) (rest := []) F hP hS (k_X7_sum l A G w md S _ _ _ Fm L (saP S mm 0) (saP S mm 1) (S 14 mm) (S 15 mm) (T 0 (saP S mm 0)) (T 1 (saP S mm 0)) (T 0 (saP S mm 1)) (T 1 (saP S mm 1)) hx0 hy9 hy10 (by omega) (by omega) (HT _ hs0).1 ((HT _ hs0).2.1.trans (if_neg v0)) (HT _ hs1).1 ((HT _ hs1).2.1.trans (if_neg v1)) sb3 sb4 (by omega) (by omega)) (cwV 4 hts gX7_isBrokenSet_X7_sum rfl rfl rfl cd_X7_sum ⟨by rw [hR]; exact Nat.le_of_ble_eq_true rfl, by rw [hR]; exact Nat.le_of_ble_eq_true rfl⟩) hx0 rfl rfl rfl hl.1 (Nat.le_of_ble_eq_true rfl) dX7_isBrokenSet_58 ⟨by rw [hR]; exact Nat.le_of_ble_eq_true rfl, by rw [hR]; exact Nat.le_of_ble_eq_true rfl⟩ rfl (fun w15 H locs h16 hP hS => ?_)
    have f17 : w15 (md 8) = some (.inl (G.2.1 0, 20, .inl (Fm 8))) := by rw [h16]; exact g_up_f hy8 (g_ne hy8 hx0 rfl)
    have f18 : w15 (md 9) = some (.inl (G.2.1 1, 10, .inr (.inl (L 0)))) := by rw [h16]; exact g_up_f hy9 (g_ne hy9 hx0 rfl)
    have f19 : w15 (md 10) = some (.inl (G.2.1 1, 10, .inr (.inl (L 1)))) := by rw [h16]; exact g_up_f hy10 (g_ne hy10 hx0 rfl)
    have f20 : w15 (md 0) = some (.inr (8, [.int th, .int (iL (S 0 0)), .ref (md 1), .ref (md 2), .ref (md 3), .int (iL (S 0 4)), .int (iL (S 0 5)), .int (iL (S 0 1)), .ref (md 4), .ref (md 5), .int (iL (S 0 2)), .ref (md 6), .ref (md 7), .int (iL (S 0 3)), .ref (md 8), .ref (md 9), .ref (md 10), .ref (md 11), .long (zL (fN (T 0 (saP S mm 0) * (S 14 mm) * T 1 (saP S mm 1) + T 0 (saP S mm 1) * (S 15 mm) * T 1 (saP S mm 0)) (T 1 (saP S mm 0) * T 1 (saP S mm 1)))), .long (zL (fD (T 0 (saP S mm 0) * (S 14 mm) * T 1 (saP S mm 1) + T 0 (saP S mm 1) * (S 15 mm) * T 1 (saP S mm 0)) (T 1 (saP S mm 0) * T 1 (saP S mm 1))))])) := by rw [h16]; exact g_up_s _ _ _
    refine lv_aload_n hx hb dX7_isBrokenSet_61 rfl (lv_at hl 2 rfl) ?_
    refine g_get F hP (C := RX7) (T := TX7) (N := 20) iX7 f20 rfl 18 (by decide) (List.mem_cons_of_mem _ (List.mem_append_left _ (List.mem_append_left _ (List.mem_of_getElem? (i := 1) rfl)))) (fun _ h9 => h9) rfl dX7_isBrokenSet_62 ?_
    refine lv_lstore (lv' := [(6, .long (zL (fN (T 0 (saP S mm 0) * (S 14 mm) * T 1 (saP S mm 1) + T 0 (saP S mm 1) * (S 15 mm) * T 1 (saP S mm 0)) (T 1 (saP S mm 0) * T 1 (saP S mm 1))))), (4, .long (zL (S 15 mm))), (2, .long (zL (S 14 mm))), (0, .ref (md 0)), (1, .int (nI mm))]) hx hb dX7_isBrokenSet_65 hl (by decide) rfl (fun ls hl => ?_)
    refine lv_aload_n hx hb dX7_isBrokenSet_67 rfl (lv_at hl 3 rfl) ?_
    refine g_get F hP (C := RX7) (T := TX7) (N := 20) iX7 f20 rfl 19 (by decide) (List.mem_cons_of_mem _ (List.mem_append_left _ (List.mem_append_left _ (List.mem_of_getElem? (i := 2) rfl)))) (fun _ h9 => h9) rfl dX7_isBrokenSet_68 ?_
    refine lv_lstore (lv' := [(8, .long (zL (fD (T 0 (saP S mm 0) * (S 14 mm) * T 1 (saP S mm 1) + T 0 (saP S mm 1) * (S 15 mm) * T 1 (saP S mm 0)) (T 1 (saP S mm 0) * T 1 (saP S mm 1))))), (6, .long (zL (fN (T 0 (saP S mm 0) * (S 14 mm) * T 1 (saP S mm 1) + T 0 (saP S mm 1) * (S 15 mm) * T 1 (saP S mm 0)) (T 1 (saP S mm 0) * T 1 (saP S mm 1))))), (4, .long (zL (S 15 mm))), (2, .long (zL (S 14 mm))), (0, .ref (md 0)), (1, .int (nI mm))]) hx hb dX7_isBrokenSet_71 hl (by decide) rfl (fun ls hl => ?_)
    refine lv_aload_n hx hb dX7_isBrokenSet_73 rfl (lv_at hl 4 rfl) ?_
    refine g_get F hP (C := RX7) (T := TX7) (N := 20) iX7 f20 rfl 14 (by decide) (List.mem_cons_of_mem _ (List.mem_append_left _ (List.mem_append_left _ (List.mem_of_getElem? (i := 0) rfl)))) (fun _ h9 => h9) rfl dX7_isBrokenSet_74 ?_
    refine lv_iconst (v := 5) hx hb dX7_isBrokenSet_77 (by decide) ?_
    refine lv_iload_n hx hb dX7_isBrokenSet_78 rfl (lv_at hl 5 rfl) ?_
    refine lv_imul hx hb dX7_isBrokenSet_79 ?_
    refine lv_topi (fun v21 ev21 => ?_)
    obtain rfl : v21 = nI (5 * mm) := by
      rw [ev21]
      exact nI_mul 5 mm
    refine lv_iconst (v := 2) hx hb dX7_isBrokenSet_80 (by decide) ?_
    refine lv_iadd hx hb dX7_isBrokenSet_81 ?_
    refine lv_topi (fun v22 ev22 => ?_)
    obtain rfl : v22 = nI (5 * mm + 2) := by
      rw [ev22]
      exact nI_add _ 2
    refine g_iald F hP f17 (vp_in_nI (n := 5 * mm + 2) (by omega) (by decide)) dX7_isBrokenSet_82 ?_
    rw [show (.int ((Fm 8) (nI (5 * mm + 2) : Int32).toNatClampNeg) : Value) = .int (nI (saP S mm 2)) from by rw [nI_clamp (n := 5 * mm + 2) (by omega)]; exact congrArg Value.int (q8 2 (by decide))]
    refine lv_istore (lv' := [(10, .int (nI (saP S mm 2))), (8, .long (zL (fD (T 0 (saP S mm 0) * (S 14 mm) * T 1 (saP S mm 1) + T 0 (saP S mm 1) * (S 15 mm) * T 1 (saP S mm 0)) (T 1 (saP S mm 0) * T 1 (saP S mm 1))))), (6, .long (zL (fN (T 0 (saP S mm 0) * (S 14 mm) * T 1 (saP S mm 1) + T 0 (saP S mm 1) * (S 15 mm) * T 1 (saP S mm 0)) (T 1 (saP S mm 0) * T 1 (saP S mm 1))))), (4, .long (zL (S 15 mm))), (2, .long (zL (S 14 mm))), (0, .ref (md 0)), (1, .int (nI mm))]) hx hb dX7_isBrokenSet_83 hl (by decide) rfl (fun ls hl => ?_)
    refine lv_aload_n hx hb dX7_isBrokenSet_85 rfl (lv_at hl 5 rfl) ?_
    refine lv_aload_n hx hb dX7_isBrokenSet_86 rfl (lv_at hl 5 rfl) ?_
    refine g_get F hP (C := RX7) (T := TX7) (N := 20) iX7 f20 rfl 15 (by decide) (List.mem_cons_of_mem _ (List.mem_append_left _ (List.mem_append_left _ (List.mem_of_getElem? (i := 3) rfl)))) (fun _ h9 => h9) rfl dX7_isBrokenSet_87 ?_
    refine lv_iload hx hb dX7_isBrokenSet_90 (lv_at hl 0 rfl) ?_
    refine g_lald F hP f18 (vp_in_nI (by omega) (by decide)) dX7_isBrokenSet_92 ?_
    rw [show (.long ((L 0) (nI (saP S mm 2) : Int32).toNatClampNeg) : Value) = .long (zL (T 0 (saP S mm 2))) from by rw [nI_clamp (by omega), (HT _ hs2).1]]
    refine lv_lload_n hx hb dX7_isBrokenSet_93 rfl (lv_at hl 4 rfl) ?_
    refine lv_lload hx hb dX7_isBrokenSet_94 (lv_at hl 3 rfl) ?_
    refine lv_ladd hx hb dX7_isBrokenSet_96 ?_
    refine lv_topl (fun v23 ev23 => ?_)
    obtain rfl : v23 = zL (S 14 mm + S 15 mm) := by
      rw [ev23]
      exact zL_add _ _
    refine lv_lmul hx hb dX7_isBrokenSet_97 ?_
    refine lv_topl (fun v24 ev24 => ?_)
    obtain rfl : v24 = zL (T 0 (saP S mm 2) * (S 14 mm + S 15 mm)) := by
      rw [ev24]
      exact zL_mul _ _
    refine lv_aload_n hx hb dX7_isBrokenSet_98 rfl (lv_at hl 5 rfl) ?_
    refine g_get F hP (C := RX7) (T := TX7) (N := 20) iX7 f20 rfl 16 (by decide) (List.mem_cons_of_mem _ (List.mem_append_left _ (List.mem_append_left _ (List.mem_of_getElem? (i := 4) rfl)))) (fun _ h9 => h9) rfl dX7_isBrokenSet_99 ?_
    refine lv_iload hx hb dX7_isBrokenSet_102 (lv_at hl 0 rfl) ?_
    refine g_lald F hP f19 (vp_in_nI (by omega) (by decide)) dX7_isBrokenSet_104 ?_
    rw [show (.long ((L 1) (nI (saP S mm 2) : Int32).toNatClampNeg) : Value) = .long (zL (T 1 (saP S mm 2))) from by rw [nI_clamp (by omega), (HT _ hs2).2.1, if_neg v2]]
    have bX : (T 0 (saP S mm 2) * (S 14 mm + S 15 mm)).natAbs ≤ 1000000 * 400 := by
      rw [Int.natAbs_mul]
      exact Nat.mul_le_mul (by omega) (by omega)
    have bb := brk_p Hi Ht hm h3 (s1 := T 0 (saP S mm 0) * (S 14 mm) * T 1 (saP S mm 1) + T 0 (saP S mm 1) * (S 15 mm) * T 1 (saP S mm 0)) (s2 := T 1 (saP S mm 0) * T 1 (saP S mm 1)) (x1 := T 0 (saP S mm 2) * (S 14 mm + S 15 mm)) (x2 := T 1 (saP S mm 2)) rfl rfl rfl rfl
    have n1 := fN_le (T 0 (saP S mm 0) * (S 14 mm) * T 1 (saP S mm 1) + T 0 (saP S mm 1) * (S 15 mm) * T 1 (saP S mm 0)) (T 1 (saP S mm 0) * T 1 (saP S mm 1))
    have n2 := fD_le (T 0 (saP S mm 0) * (S 14 mm) * T 1 (saP S mm 1) + T 0 (saP S mm 1) * (S 15 mm) * T 1 (saP S mm 0)) (T 1 (saP S mm 0) * T 1 (saP S mm 1))
    have n3 := fN_le (T 0 (saP S mm 2) * (S 14 mm + S 15 mm)) (T 1 (saP S mm 2))
    have n4 := fD_le (T 0 (saP S mm 2) * (S 14 mm + S 15 mm)) (T 1 (saP S mm 2))
    refine g_Vv (As := [.long (zL (T 0 (saP S mm 2) * (S 14 mm + S 15 mm))), .long (zL (T 1 (saP S mm 2)))]) (rest := []) F hP hS (k_X7_make l A G w15 md S _ _ _ Fm L (T 0 (saP S mm 2) * (S 14 mm + S 15 mm)) (T 1 (saP S mm 2)) f20 (by omega) (by omega) (by omega)) (cwV 2 hts gX7_isBrokenSet_X7_make rfl rfl rfl cd_X7_make ⟨by rw [hR]; exact Nat.le_of_ble_eq_true rfl, by rw [hR]; exact Nat.le_of_ble_eq_true rfl⟩) f20 rfl rfl rfl hl.1 (Nat.le_of_ble_eq_true rfl) dX7_isBrokenSet_105 ⟨by rw [hR]; exact Nat.le_of_ble_eq_true rfl, by rw [hR]; exact Nat.le_of_ble_eq_true rfl⟩ rfl (fun w26 H locs h27 hP hS => ?_)
    have f28 : w26 (md 8) = some (.inl (G.2.1 0, 20, .inl (Fm 8))) := by rw [h27]; exact g_up_f f17 (g_ne f17 f20 rfl)
    have f29 : w26 (md 9) = some (.inl (G.2.1 1, 10, .inr (.inl (L 0)))) := by rw [h27]; exact g_up_f f18 (g_ne f18 f20 rfl)
    have f30 : w26 (md 10) = some (.inl (G.2.1 1, 10, .inr (.inl (L 1)))) := by rw [h27]; exact g_up_f f19 (g_ne f19 f20 rfl)
    have f31 : w26 (md 0) = some (.inr (8, [.int th, .int (iL (S 0 0)), .ref (md 1), .ref (md 2), .ref (md 3), .int (iL (S 0 4)), .int (iL (S 0 5)), .int (iL (S 0 1)), .ref (md 4), .ref (md 5), .int (iL (S 0 2)), .ref (md 6), .ref (md 7), .int (iL (S 0 3)), .ref (md 8), .ref (md 9), .ref (md 10), .ref (md 11), .long (zL (fN (T 0 (saP S mm 2) * (S 14 mm + S 15 mm)) (T 1 (saP S mm 2)))), .long (zL (fD (T 0 (saP S mm 2) * (S 14 mm + S 15 mm)) (T 1 (saP S mm 2))))])) := by rw [h27]; exact g_up_s _ _ _
    refine lv_aload_n hx hb dX7_isBrokenSet_108 rfl (lv_at hl 5 rfl) ?_
    refine g_get F hP (C := RX7) (T := TX7) (N := 20) iX7 f31 rfl 18 (by decide) (List.mem_cons_of_mem _ (List.mem_append_left _ (List.mem_append_left _ (List.mem_of_getElem? (i := 1) rfl)))) (fun _ h9 => h9) rfl dX7_isBrokenSet_109 ?_
    refine lv_lload hx hb dX7_isBrokenSet_112 (lv_at hl 2 rfl) ?_
    refine W.lcmp hx hb dX7_isBrokenSet_114 ?_
    refine lv_if_ne (tgt := 128) hx hb dX7_isBrokenSet_115 (by decide) (fun c32 => ?_) (fun c32 => ?_)
    · have c32 : ¬ ((zL (fN (T 0 (saP S mm 2) * (S 14 mm + S 15 mm)) (T 1 (saP S mm 2)))) = (zL (fN (T 0 (saP S mm 0) * (S 14 mm) * T 1 (saP S mm 1) + T 0 (saP S mm 1) * (S 15 mm) * T 1 (saP S mm 0)) (T 1 (saP S mm 0) * T 1 (saP S mm 1))))) := fun h => c32 ((lg_cmp_eq (zL (fN (T 0 (saP S mm 2) * (S 14 mm + S 15 mm)) (T 1 (saP S mm 2)))) (zL (fN (T 0 (saP S mm 0) * (S 14 mm) * T 1 (saP S mm 1) + T 0 (saP S mm 1) * (S 15 mm) * T 1 (saP S mm 0)) (T 1 (saP S mm 0) * T 1 (saP S mm 1))))).mpr h)
      have yc32 : ¬ fN (T 0 (saP S mm 2) * (S 14 mm + S 15 mm)) (T 1 (saP S mm 2)) = fN (T 0 (saP S mm 0) * (S 14 mm) * T 1 (saP S mm 1) + T 0 (saP S mm 1) * (S 15 mm) * T 1 (saP S mm 0)) (T 1 (saP S mm 0) * T 1 (saP S mm 1)) := fun q => c32 ((zL_eq (a := fN (T 0 (saP S mm 2) * (S 14 mm + S 15 mm)) (T 1 (saP S mm 2))) (b := fN (T 0 (saP S mm 0) * (S 14 mm) * T 1 (saP S mm 1) + T 0 (saP S mm 1) * (S 15 mm) * T 1 (saP S mm 0)) (T 1 (saP S mm 0) * T 1 (saP S mm 1))) (by omega) (by omega) (by omega) (by omega)).mpr q)
      rw [decide_eq_true (show ¬ (fN (T 0 (saP S mm 2) * (S 14 mm + S 15 mm)) (T 1 (saP S mm 2)) = fN (T 0 (saP S mm 0) * (S 14 mm) * T 1 (saP S mm 1) + T 0 (saP S mm 1) * (S 15 mm) * T 1 (saP S mm 0)) (T 1 (saP S mm 0) * T 1 (saP S mm 1)) ∧ fD (T 0 (saP S mm 2) * (S 14 mm + S 15 mm)) (T 1 (saP S mm 2)) = fD (T 0 (saP S mm 0) * (S 14 mm) * T 1 (saP S mm 1) + T 0 (saP S mm 1) * (S 15 mm) * T 1 (saP S mm 0)) (T 1 (saP S mm 0) * T 1 (saP S mm 1))) from fun q => yc32 q.1)] at bb
      refine lv_iconst (v := 1) hx hb dX7_isBrokenSet_128 (by decide) ?_
      refine lv_goto (tgt := 133) hx hb dX7_isBrokenSet_129 (by decide) ?_
      rw [hQ]
      refine g_zret F hP hS hlocks hr (by decide) dX7_isBrokenSet_133 (by first | exact Nat.le_of_ble_eq_true rfl | omega) (by first | exact Nat.le_of_ble_eq_true rfl | omega) ?_
      exact ⟨by rw [bb]; rfl, _, _, by rw [h27, h16, g_up_up]⟩
    · have c32 := (lg_cmp_eq (zL (fN (T 0 (saP S mm 2) * (S 14 mm + S 15 mm)) (T 1 (saP S mm 2)))) (zL (fN (T 0 (saP S mm 0) * (S 14 mm) * T 1 (saP S mm 1) + T 0 (saP S mm 1) * (S 15 mm) * T 1 (saP S mm 0)) (T 1 (saP S mm 0) * T 1 (saP S mm 1))))).mp c32
      have yc32 : fN (T 0 (saP S mm 2) * (S 14 mm + S 15 mm)) (T 1 (saP S mm 2)) = fN (T 0 (saP S mm 0) * (S 14 mm) * T 1 (saP S mm 1) + T 0 (saP S mm 1) * (S 15 mm) * T 1 (saP S mm 0)) (T 1 (saP S mm 0) * T 1 (saP S mm 1)) := (zL_eq (a := fN (T 0 (saP S mm 2) * (S 14 mm + S 15 mm)) (T 1 (saP S mm 2))) (b := fN (T 0 (saP S mm 0) * (S 14 mm) * T 1 (saP S mm 1) + T 0 (saP S mm 1) * (S 15 mm) * T 1 (saP S mm 0)) (T 1 (saP S mm 0) * T 1 (saP S mm 1))) (by omega) (by omega) (by omega) (by omega)).mp c32
      refine lv_aload_n hx hb dX7_isBrokenSet_118 rfl (lv_at hl 5 rfl) ?_
      refine g_get F hP (C := RX7) (T := TX7) (N := 20) iX7 f31 rfl 19 (by decide) (List.mem_cons_of_mem _ (List.mem_append_left _ (List.mem_append_left _ (List.mem_of_getElem? (i := 2) rfl)))) (fun _ h9 => h9) rfl dX7_isBrokenSet_119 ?_
      refine lv_lload hx hb dX7_isBrokenSet_122 (lv_at hl 1 rfl) ?_
      refine W.lcmp hx hb dX7_isBrokenSet_124 ?_
      refine lv_if_eq (tgt := 132) hx hb dX7_isBrokenSet_125 (by decide) (fun c33 => ?_) (fun c33 => ?_)
      · have c33 := (lg_cmp_eq (zL (fD (T 0 (saP S mm 2) * (S 14 mm + S 15 mm)) (T 1 (saP S mm 2)))) (zL (fD (T 0 (saP S mm 0) * (S 14 mm) * T 1 (saP S mm 1) + T 0 (saP S mm 1) * (S 15 mm) * T 1 (saP S mm 0)) (T 1 (saP S mm 0) * T 1 (saP S mm 1))))).mp c33
        have yc33 : fD (T 0 (saP S mm 2) * (S 14 mm + S 15 mm)) (T 1 (saP S mm 2)) = fD (T 0 (saP S mm 0) * (S 14 mm) * T 1 (saP S mm 1) + T 0 (saP S mm 1) * (S 15 mm) * T 1 (saP S mm 0)) (T 1 (saP S mm 0) * T 1 (saP S mm 1)) := (zL_eq (a := fD (T 0 (saP S mm 2) * (S 14 mm + S 15 mm)) (T 1 (saP S mm 2))) (b := fD (T 0 (saP S mm 0) * (S 14 mm) * T 1 (saP S mm 1) + T 0 (saP S mm 1) * (S 15 mm) * T 1 (saP S mm 0)) (T 1 (saP S mm 0) * T 1 (saP S mm 1))) (by omega) (by omega) (by omega) (by omega)).mp c33
        rw [decide_eq_false (fun q => q ⟨yc32, yc33⟩)] at bb
        refine lv_iconst (v := 0) hx hb dX7_isBrokenSet_132 (by decide) ?_
        rw [hQ]
        refine g_zret F hP hS hlocks hr (by decide) dX7_isBrokenSet_133 (by first | exact Nat.le_of_ble_eq_true rfl | omega) (by first | exact Nat.le_of_ble_eq_true rfl | omega) ?_
        exact ⟨by rw [bb]; rfl, _, _, by rw [h27, h16, g_up_up]⟩
      · have c33 : ¬ ((zL (fD (T 0 (saP S mm 2) * (S 14 mm + S 15 mm)) (T 1 (saP S mm 2)))) = (zL (fD (T 0 (saP S mm 0) * (S 14 mm) * T 1 (saP S mm 1) + T 0 (saP S mm 1) * (S 15 mm) * T 1 (saP S mm 0)) (T 1 (saP S mm 0) * T 1 (saP S mm 1))))) := fun h => c33 ((lg_cmp_eq (zL (fD (T 0 (saP S mm 2) * (S 14 mm + S 15 mm)) (T 1 (saP S mm 2)))) (zL (fD (T 0 (saP S mm 0) * (S 14 mm) * T 1 (saP S mm 1) + T 0 (saP S mm 1) * (S 15 mm) * T 1 (saP S mm 0)) (T 1 (saP S mm 0) * T 1 (saP S mm 1))))).mpr h)
        have yc33 : ¬ fD (T 0 (saP S mm 2) * (S 14 mm + S 15 mm)) (T 1 (saP S mm 2)) = fD (T 0 (saP S mm 0) * (S 14 mm) * T 1 (saP S mm 1) + T 0 (saP S mm 1) * (S 15 mm) * T 1 (saP S mm 0)) (T 1 (saP S mm 0) * T 1 (saP S mm 1)) := fun q => c33 ((zL_eq (a := fD (T 0 (saP S mm 2) * (S 14 mm + S 15 mm)) (T 1 (saP S mm 2))) (b := fD (T 0 (saP S mm 0) * (S 14 mm) * T 1 (saP S mm 1) + T 0 (saP S mm 1) * (S 15 mm) * T 1 (saP S mm 0)) (T 1 (saP S mm 0) * T 1 (saP S mm 1))) (by omega) (by omega) (by omega) (by omega)).mpr q)
        rw [decide_eq_true (show ¬ (fN (T 0 (saP S mm 2) * (S 14 mm + S 15 mm)) (T 1 (saP S mm 2)) = fN (T 0 (saP S mm 0) * (S 14 mm) * T 1 (saP S mm 1) + T 0 (saP S mm 1) * (S 15 mm) * T 1 (saP S mm 0)) (T 1 (saP S mm 0) * T 1 (saP S mm 1)) ∧ fD (T 0 (saP S mm 2) * (S 14 mm + S 15 mm)) (T 1 (saP S mm 2)) = fD (T 0 (saP S mm 0) * (S 14 mm) * T 1 (saP S mm 1) + T 0 (saP S mm 1) * (S 15 mm) * T 1 (saP S mm 0)) (T 1 (saP S mm 0) * T 1 (saP S mm 1))) from fun q => yc33 q.2)] at bb
        refine lv_iconst (v := 1) hx hb dX7_isBrokenSet_128 (by decide) ?_
        refine lv_goto (tgt := 133) hx hb dX7_isBrokenSet_129 (by decide) ?_
        rw [hQ]
        refine g_zret F hP hS hlocks hr (by decide) dX7_isBrokenSet_133 (by first | exact Nat.le_of_ble_eq_true rfl | omega) (by first | exact Nat.le_of_ble_eq_true rfl | omega) ?_
        exact ⟨by rw [bb]; rfl, _, _, by rw [h27, h16, g_up_up]⟩
  · have yc4 : tcN S T mm 3 < 3 := by
      rcases Nat.lt_or_ge (tcN S T mm 3) 3 with q | q
      · exact q
      · exact absurd ((n3_le (k := tcN S T mm 3) (by omega)).mpr q) c4
    refine lv_iconst (v := 0) hx hb dX7_isBrokenSet_9 (by decide) ?_
    rw [hQ]
    refine g_zret F hP hS hlocks hr (by first | rfl | exact g_nb _) dX7_isBrokenSet_10 (by first | exact Nat.le_of_ble_eq_true rfl | omega) (by first | exact Nat.le_of_ble_eq_true rfl | omega) ?_
    exact ⟨by rw [brk_pf yc4]; rfl, tp, bt, (g_up_id hx0).symm⟩
