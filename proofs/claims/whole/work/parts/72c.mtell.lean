theorem cd_X7_sum : yX7_sum.cls = RX7 ∧ yX7_sum.cls ≠ "java/lang/invoke/MethodHandle" ∧ yX7_sum.cls ≠ "java/lang/invoke/VarHandle" ∧ (parseMethodDescriptor yX7_sum.desc).map (fun d => d.parameters.length) = some 4 := by decide +kernel
set_option maxHeartbeats 4000000 in
set_option maxRecDepth 100000 in
theorem k_X7_tellBySet (l : Launch) (A : Nat → Prop) (G : g_C) (w : g_W) (md : Nat → Nat) (S : Sg) (th : Int32) (tp bt : Int64) (Fm : Nat → Nat → Int32) (L : Nat → Nat → Int64) (T : Sg) (mm pl : Nat) (Hm : modW G w md S th tp bt Fm L) (Hj : modI md) (Hf : modF S Fm) (Hi : invS S) (Ht : invT S T) (HT : modT S T Fm L) (hm : (mm : Int) < S 0 3) (hU : tUnk S T 1 mm pl) : mI l yX7_tellBySet wsX7_tellBySet ({ frames := 4, cells := 0, slots := 0, locals := 121 } : Room) [.ref (md 0), .int (nI mm)] A G w (fun r w' => r = g_b (decide (¬ (1000000 < (fN (tX S T 1 mm pl) (tY S T 1 mm pl)).natAbs ∨ 1000000 < fD (tX S T 1 mm pl) (tY S T 1 mm pl)))) ∧ solP G md w w' S (tTell S T 1 mm pl) th Fm) 0 0 := by
  refine g_ofI (cc := cX7_tellBySet) (maxL := 12) (ret := (some .boolean)) (own := RX7) (by decide) rfl rfl (Nat.le_of_ble_eq_true rfl) ?_
  intro p e R s m args below meth c Q ls hR F hP hS hlocks hr hnm0 hQ hl
  obtain ⟨⟨hx, hb, hml, hown, hts⟩, hK, hZ, hA⟩ := id F
  generalize hH0 : s.heap = H at hP ⊢
  have hS : va_S A s.heap H [] := by rw [← hH0]; exact va_S.rf
  generalize ([] : List Loc) = locs at hS ⊢
  have hl : lv_has ls 12 [(0, .ref (md 0)), (1, .int (nI mm))] := hl
  have iX7 : ∀ w ∈ u_ws RX7 TX7 20, w ∈ wsX7_tellBySet := fun w h => List.mem_cons_of_mem _ (List.mem_append_right _ (h))
  obtain ⟨hx0, hy1, hy2, hy3, hy4, hy5, hy6, hy7, hy8, hy9, hy10, hy11⟩ := id Hm
  have hi := Hi.1
  have ps := Hi.2.2.2.2 mm hm
  have hs0 : ((saP S mm 0 : Nat) : Int) < S 0 0 := tSa_lt (b := 1) Hi (by decide) hm 0
  have hs1 : ((saP S mm 1 : Nat) : Int) < S 0 0 := tSa_lt (b := 1) Hi (by decide) hm 1
  have hs2 : ((saP S mm 2 : Nat) : Int) < S 0 0 := tSa_lt (b := 1) Hi (by decide) hm 2
  have hsk : ∀ k, ((saP S mm k : Nat) : Int) < S 0 0 := fun k => tSa_lt (b := 1) Hi (by decide) hm k
  have q8 : ∀ k, k < 3 → Fm 8 (5 * mm + k) = nI (saP S mm k) := fun k hk => by
    rcases (show k = 0 ∨ k = 1 ∨ k = 2 by omega) with rfl | rfl | rfl
    · rw [Nat.add_zero, (Hf.2.2.2.1 mm hm).1, iL_nn (by omega)]; rfl
    · rw [(Hf.2.2.2.1 mm hm).2.1, iL_nn (by omega)]; rfl
    · rw [(Hf.2.2.2.1 mm hm).2.2.1, iL_nn (by omega)]; rfl
  have t0 := Ht.1 _ hs0
  have t1 := Ht.1 _ hs1
  have t2 := Ht.1 _ hs2
  have n01 : nI (saP S mm 0) ≠ nI (saP S mm 1) := fun q => by
    have q1 := (nI_eq (a := saP S mm 0) (b := saP S mm 1) (by omega) (by omega)).mp q
    have q2 : (S 11 mm).toNat = (S 12 mm).toNat := q1
    omega
  have n02 : nI (saP S mm 0) ≠ nI (saP S mm 2) := fun q => by
    have q1 := (nI_eq (a := saP S mm 0) (b := saP S mm 2) (by omega) (by omega)).mp q
    have q2 : (S 11 mm).toNat = (S 13 mm).toNat := q1
    omega
  have n12 : nI (saP S mm 1) ≠ nI (saP S mm 2) := fun q => by
    have q1 := (nI_eq (a := saP S mm 1) (b := saP S mm 2) (by omega) (by omega)).mp q
    have q2 : (S 12 mm).toNat = (S 13 mm).toNat := q1
    omega
  have hp3 : pl < 3 := hU.1
  have hmx : ∀ k, k ≤ 3 → -1 ≤ mxT S T mm pl k ∧ mxT S T mm pl k ≤ 1000 := fun k => by
    induction k with
    | zero => intro _; exact ⟨(by decide : (-1 : Int) ≤ 0), (by decide : (0 : Int) ≤ 1000)⟩
    | succ k ih =>
      intro hk
      have h1 := ih (by omega)
      have h2 := (Ht.1 _ (hsk k)).2.2.2.2
      show -1 ≤ (if k = pl then mxT S T mm pl k else if mxT S T mm pl k < T 2 (saP S mm k) then T 2 (saP S mm k) else mxT S T mm pl k) ∧ (if k = pl then mxT S T mm pl k else if mxT S T mm pl k < T 2 (saP S mm k) then T 2 (saP S mm k) else mxT S T mm pl k) ≤ 1000
      split
      · exact h1
      · split <;> omega
  have heq : ∀ k, k < 3 → (nI (saP S mm k) = nI (saP S mm pl) ↔ k = pl) := fun k hk => ⟨fun q => by
    rcases (show k = 0 ∨ k = 1 ∨ k = 2 by omega) with rfl | rfl | rfl <;> rcases (show pl = 0 ∨ pl = 1 ∨ pl = 2 by omega) with rfl | rfl | rfl <;> first | rfl | exact absurd q n01 | exact absurd q n02 | exact absurd q n12 | exact absurd q.symm n01 | exact absurd q.symm n02 | exact absurd q.symm n12, fun q => by rw [q]⟩
  refine lv_aload_n hx hb dX7_tellBySet_0 rfl (lv_at hl 0 rfl) ?_
  refine g_get F hP (C := RX7) (T := TX7) (N := 20) iX7 hx0 rfl 14 (by decide) (List.mem_cons_of_mem _ (List.mem_append_left _ (List.mem_append_left _ (List.mem_of_getElem? (i := 0) rfl)))) (fun _ h9 => h9) rfl dX7_tellBySet_1 ?_
  refine lv_iconst (v := 5) hx hb dX7_tellBySet_4 (by decide) ?_
  refine lv_iload_n hx hb dX7_tellBySet_5 rfl (lv_at hl 1 rfl) ?_
  refine lv_imul hx hb dX7_tellBySet_6 ?_
  refine lv_topi (fun v1 ev1 => ?_)
  obtain rfl : v1 = nI (5 * mm) := by
    rw [ev1]
    exact nI_mul 5 mm
  refine g_iald F hP hy8 (vp_in_nI (n := 5 * mm + 0) (by omega) (by decide)) dX7_tellBySet_7 ?_
  rw [show (.int ((Fm 8) (nI (5 * mm) : Int32).toNatClampNeg) : Value) = .int (nI (saP S mm 0)) from by rw [nI_clamp (n := 5 * mm) (by omega)]; exact congrArg Value.int (q8 0 (by decide))]
  refine lv_istore_n (lv' := [(2, .int (nI (saP S mm 0))), (0, .ref (md 0)), (1, .int (nI mm))]) hx hb dX7_tellBySet_8 rfl hl (by decide) rfl (fun ls hl => ?_)
  refine lv_aload_n hx hb dX7_tellBySet_9 rfl (lv_at hl 1 rfl) ?_
  refine g_get F hP (C := RX7) (T := TX7) (N := 20) iX7 hx0 rfl 14 (by decide) (List.mem_cons_of_mem _ (List.mem_append_left _ (List.mem_append_left _ (List.mem_of_getElem? (i := 0) rfl)))) (fun _ h9 => h9) rfl dX7_tellBySet_10 ?_
  refine lv_iconst (v := 5) hx hb dX7_tellBySet_13 (by decide) ?_
  refine lv_iload_n hx hb dX7_tellBySet_14 rfl (lv_at hl 2 rfl) ?_
  refine lv_imul hx hb dX7_tellBySet_15 ?_
  refine lv_topi (fun v2 ev2 => ?_)
  obtain rfl : v2 = nI (5 * mm) := by
    rw [ev2]
    exact nI_mul 5 mm
  refine lv_iconst (v := 1) hx hb dX7_tellBySet_16 (by decide) ?_
  refine lv_iadd hx hb dX7_tellBySet_17 ?_
  refine lv_topi (fun v3 ev3 => ?_)
  obtain rfl : v3 = nI (5 * mm + 1) := by
    rw [ev3]
    exact nI_add _ 1
  refine g_iald F hP hy8 (vp_in_nI (n := 5 * mm + 1) (by omega) (by decide)) dX7_tellBySet_18 ?_
  rw [show (.int ((Fm 8) (nI (5 * mm + 1) : Int32).toNatClampNeg) : Value) = .int (nI (saP S mm 1)) from by rw [nI_clamp (n := 5 * mm + 1) (by omega)]; exact congrArg Value.int (q8 1 (by decide))]
  refine lv_istore_n (lv' := [(3, .int (nI (saP S mm 1))), (2, .int (nI (saP S mm 0))), (0, .ref (md 0)), (1, .int (nI mm))]) hx hb dX7_tellBySet_19 rfl hl (by decide) rfl (fun ls hl => ?_)
  refine lv_aload_n hx hb dX7_tellBySet_20 rfl (lv_at hl 2 rfl) ?_
  refine g_get F hP (C := RX7) (T := TX7) (N := 20) iX7 hx0 rfl 14 (by decide) (List.mem_cons_of_mem _ (List.mem_append_left _ (List.mem_append_left _ (List.mem_of_getElem? (i := 0) rfl)))) (fun _ h9 => h9) rfl dX7_tellBySet_21 ?_
  refine lv_iconst (v := 5) hx hb dX7_tellBySet_24 (by decide) ?_
  refine lv_iload_n hx hb dX7_tellBySet_25 rfl (lv_at hl 3 rfl) ?_
  refine lv_imul hx hb dX7_tellBySet_26 ?_
  refine lv_topi (fun v4 ev4 => ?_)
  obtain rfl : v4 = nI (5 * mm) := by
    rw [ev4]
    exact nI_mul 5 mm
  refine lv_iconst (v := 2) hx hb dX7_tellBySet_27 (by decide) ?_
  refine lv_iadd hx hb dX7_tellBySet_28 ?_
  refine lv_topi (fun v5 ev5 => ?_)
  obtain rfl : v5 = nI (5 * mm + 2) := by
    rw [ev5]
    exact nI_add _ 2
  refine g_iald F hP hy8 (vp_in_nI (n := 5 * mm + 2) (by omega) (by decide)) dX7_tellBySet_29 ?_
  rw [show (.int ((Fm 8) (nI (5 * mm + 2) : Int32).toNatClampNeg) : Value) = .int (nI (saP S mm 2)) from by rw [nI_clamp (n := 5 * mm + 2) (by omega)]; exact congrArg Value.int (q8 2 (by decide))]
  refine lv_istore (lv' := [(4, .int (nI (saP S mm 2))), (3, .int (nI (saP S mm 1))), (2, .int (nI (saP S mm 0))), (0, .ref (md 0)), (1, .int (nI mm))]) hx hb dX7_tellBySet_30 hl (by decide) rfl (fun ls hl => ?_)
  refine lv_aload_n hx hb dX7_tellBySet_32 rfl (lv_at hl 3 rfl) ?_
  refine g_get F hP (C := RX7) (T := TX7) (N := 20) iX7 hx0 rfl 14 (by decide) (List.mem_cons_of_mem _ (List.mem_append_left _ (List.mem_append_left _ (List.mem_of_getElem? (i := 0) rfl)))) (fun _ h9 => h9) rfl dX7_tellBySet_33 ?_
  refine lv_iconst (v := 5) hx hb dX7_tellBySet_36 (by decide) ?_
  refine lv_iload_n hx hb dX7_tellBySet_37 rfl (lv_at hl 4 rfl) ?_
  refine lv_imul hx hb dX7_tellBySet_38 ?_
  refine lv_topi (fun v6 ev6 => ?_)
  obtain rfl : v6 = nI (5 * mm) := by
    rw [ev6]
    exact nI_mul 5 mm
  refine lv_iconst (v := 3) hx hb dX7_tellBySet_39 (by decide) ?_
  refine lv_iadd hx hb dX7_tellBySet_40 ?_
  refine lv_topi (fun v7 ev7 => ?_)
  obtain rfl : v7 = nI (5 * mm + 3) := by
    rw [ev7]
    exact nI_add _ 3
  refine g_iald F hP hy8 (vp_in_nI (n := 5 * mm + 3) (by omega) (by decide)) dX7_tellBySet_41 ?_
  rw [show (.int ((Fm 8) (nI (5 * mm + 3) : Int32).toNatClampNeg) : Value) = .int (iL (S 14 mm)) from by rw [nI_clamp (n := 5 * mm + 3) (by omega), (Hf.2.2.2.1 mm hm).2.2.2.1]]
  refine lv_i2l hx hb dX7_tellBySet_42 rfl ?_
  refine lv_topl (fun v8 ev8 => ?_)
  obtain rfl : v8 = zL (S 14 mm) := by
    rw [ev8]
    exact iL64 (by omega) (by omega)
  refine lv_lstore (lv' := [(5, .long (zL (S 14 mm))), (4, .int (nI (saP S mm 2))), (3, .int (nI (saP S mm 1))), (2, .int (nI (saP S mm 0))), (0, .ref (md 0)), (1, .int (nI mm))]) hx hb dX7_tellBySet_43 hl (by decide) rfl (fun ls hl => ?_)
  refine lv_aload_n hx hb dX7_tellBySet_45 rfl (lv_at hl 4 rfl) ?_
  refine g_get F hP (C := RX7) (T := TX7) (N := 20) iX7 hx0 rfl 14 (by decide) (List.mem_cons_of_mem _ (List.mem_append_left _ (List.mem_append_left _ (List.mem_of_getElem? (i := 0) rfl)))) (fun _ h9 => h9) rfl dX7_tellBySet_46 ?_
  refine lv_iconst (v := 5) hx hb dX7_tellBySet_49 (by decide) ?_
  refine lv_iload_n hx hb dX7_tellBySet_50 rfl (lv_at hl 5 rfl) ?_
  refine lv_imul hx hb dX7_tellBySet_51 ?_
  refine lv_topi (fun v9 ev9 => ?_)
  obtain rfl : v9 = nI (5 * mm) := by
    rw [ev9]
    exact nI_mul 5 mm
  refine lv_iconst (v := 4) hx hb dX7_tellBySet_52 (by decide) ?_
  refine lv_iadd hx hb dX7_tellBySet_53 ?_
  refine lv_topi (fun v10 ev10 => ?_)
  obtain rfl : v10 = nI (5 * mm + 4) := by
    rw [ev10]
    exact nI_add _ 4
  refine g_iald F hP hy8 (vp_in_nI (n := 5 * mm + 4) (by omega) (by decide)) dX7_tellBySet_54 ?_
  rw [show (.int ((Fm 8) (nI (5 * mm + 4) : Int32).toNatClampNeg) : Value) = .int (iL (S 15 mm)) from by rw [nI_clamp (n := 5 * mm + 4) (by omega), (Hf.2.2.2.1 mm hm).2.2.2.2]]
  refine lv_i2l hx hb dX7_tellBySet_55 rfl ?_
  refine lv_topl (fun v11 ev11 => ?_)
  obtain rfl : v11 = zL (S 15 mm) := by
    rw [ev11]
    exact iL64 (by omega) (by omega)
  refine lv_lstore (lv' := [(7, .long (zL (S 15 mm))), (5, .long (zL (S 14 mm))), (4, .int (nI (saP S mm 2))), (3, .int (nI (saP S mm 1))), (2, .int (nI (saP S mm 0))), (0, .ref (md 0)), (1, .int (nI mm))]) hx hb dX7_tellBySet_56 hl (by decide) rfl (fun ls hl => ?_)
  refine lv_aload_n hx hb dX7_tellBySet_58 rfl (lv_at hl 5 rfl) ?_
  refine lv_iload_n hx hb dX7_tellBySet_59 rfl (lv_at hl 4 rfl) ?_
  refine g_Vi (As := [.int (nI (saP S mm 0))]) (rest := []) F hP hS (k_X7_hasSpeed l A G w md S _ _ _ Fm L (saP S mm 0) (zB T (saP S mm 0)) hx0 hy10 (by have := hs0; omega) (zB_z HT hs0) (zB_b Ht hs0)) (cwV 1 hts gX7_tellBySet_X7_hasSpeed rfl rfl rfl cd_X7_hasSpeed ⟨by rw [hR]; exact Nat.le_of_ble_eq_true rfl, by rw [hR]; exact Nat.le_of_ble_eq_true rfl⟩) hx0 rfl rfl rfl hl.1 (Nat.le_of_ble_eq_true rfl) dX7_tellBySet_60 ⟨by rw [hR]; exact Nat.le_of_ble_eq_true rfl, by rw [hR]; exact Nat.le_of_ble_eq_true rfl⟩ rfl (fun r12 w13 H locs h14 hP hS => ?_)
  have hr12 := h14.1
  rw [h14.2] at hP
  rw [hr12]
  rw [zB_d Ht hs0]
  refine lv_if_ne (tgt := 70) hx hb dX7_tellBySet_63 (by decide) (fun c15 => ?_) (fun c15 => ?_)
  · have yc15 := of_decide_eq_true (g_b1.mp c15)
    refine lv_aload_n hx hb dX7_tellBySet_70 rfl (lv_at hl 5 rfl) ?_
    refine lv_iload_n hx hb dX7_tellBySet_71 rfl (lv_at hl 3 rfl) ?_
    refine g_Vi (As := [.int (nI (saP S mm 1))]) (rest := []) F hP hS (k_X7_hasSpeed l A G w md S _ _ _ Fm L (saP S mm 1) (zB T (saP S mm 1)) hx0 hy10 (by have := hs1; omega) (zB_z HT hs1) (zB_b Ht hs1)) (cwV 1 hts gX7_tellBySet_X7_hasSpeed rfl rfl rfl cd_X7_hasSpeed ⟨by rw [hR]; exact Nat.le_of_ble_eq_true rfl, by rw [hR]; exact Nat.le_of_ble_eq_true rfl⟩) hx0 rfl rfl rfl hl.1 (Nat.le_of_ble_eq_true rfl) dX7_tellBySet_72 ⟨by rw [hR]; exact Nat.le_of_ble_eq_true rfl, by rw [hR]; exact Nat.le_of_ble_eq_true rfl⟩ rfl (fun r16 w17 H locs h18 hP hS => ?_)
    have hr16 := h18.1
    rw [h18.2] at hP
    rw [hr16]
    rw [zB_d Ht hs1]
    refine lv_if_ne (tgt := 82) hx hb dX7_tellBySet_75 (by decide) (fun c19 => ?_) (fun c19 => ?_)
    · have yc19 := of_decide_eq_true (g_b1.mp c19)
      have pl9 : pl = 2 := by
        have w0 : T 2 (saP S mm 0) ≠ -1 := yc15
        have w1 : T 2 (saP S mm 1) ≠ -1 := yc19
        have w2 := hU.2.1
        rcases (show pl = 0 ∨ pl = 1 ∨ pl = 2 by omega) with q | q | q
        · subst q; exact absurd w2 w0
        · subst q; exact absurd w2 w1
        · exact q
      subst pl9
      have v0 : T 2 (saP S mm 0) ≠ -1 := hU.2.2 0 (by decide) (by decide)
      have v1 : T 2 (saP S mm 1) ≠ -1 := hU.2.2 1 (by decide) (by decide)
      have v2 : T 2 (saP S mm 2) = -1 := hU.2.1
      refine lv_iload hx hb dX7_tellBySet_82 (lv_at hl 2 rfl) ?_
      refine lv_istore (lv' := [(9, .int (nI (saP S mm 2))), (7, .long (zL (S 15 mm))), (5, .long (zL (S 14 mm))), (4, .int (nI (saP S mm 2))), (3, .int (nI (saP S mm 1))), (2, .int (nI (saP S mm 0))), (0, .ref (md 0)), (1, .int (nI mm))]) hx hb dX7_tellBySet_84 hl (by decide) rfl (fun ls hl => ?_)
      refine lv_iload hx hb dX7_tellBySet_86 (lv_at hl 0 rfl) ?_
      refine lv_iload hx hb dX7_tellBySet_88 (lv_at hl 3 rfl) ?_
      refine lv_icmp_ne (tgt := 106) hx hb dX7_tellBySet_90 (by decide) (fun c20 => ?_) (fun c20 => ?_)
      · exact absurd rfl c20
      · refine lv_aload_n hx hb dX7_tellBySet_93 rfl (lv_at hl 6 rfl) ?_
        refine lv_iload_n hx hb dX7_tellBySet_94 rfl (lv_at hl 5 rfl) ?_
        refine lv_lload hx hb dX7_tellBySet_95 (lv_at hl 2 rfl) ?_
        refine lv_iload_n hx hb dX7_tellBySet_97 rfl (lv_at hl 4 rfl) ?_
        refine lv_lload hx hb dX7_tellBySet_98 (lv_at hl 1 rfl) ?_
        obtain ⟨same, sb1, sb2, sb3, sb4, sb5, sb6⟩ := set_s Hi Ht hm (Or.inr (Or.inr ⟨rfl, rfl, rfl, rfl, rfl, rfl⟩))
        have sd := fD_pos (x := T 0 (saP S mm 0) * (S 14 mm) * T 1 (saP S mm 1) + T 0 (saP S mm 1) * (S 15 mm) * T 1 (saP S mm 0)) (Int.mul_ne_zero sb3 sb4)
        have sn1 := fN_le (T 0 (saP S mm 0) * (S 14 mm) * T 1 (saP S mm 1) + T 0 (saP S mm 1) * (S 15 mm) * T 1 (saP S mm 0)) (T 1 (saP S mm 0) * T 1 (saP S mm 1))
        have sd1 := fD_le (T 0 (saP S mm 0) * (S 14 mm) * T 1 (saP S mm 1) + T 0 (saP S mm 1) * (S 15 mm) * T 1 (saP S mm 0)) (T 1 (saP S mm 0) * T 1 (saP S mm 1))
        refine g_Vv (As := [.int (nI (saP S mm 0)), .long (zL (S 14 mm)), .int (nI (saP S mm 1)), .long (zL (S 15 mm))]) (rest := []) F hP hS (k_X7_sum l A G w md S _ _ _ Fm L (saP S mm 0) (saP S mm 1) (S 14 mm) (S 15 mm) (T 0 (saP S mm 0)) (T 1 (saP S mm 0)) (T 0 (saP S mm 1)) (T 1 (saP S mm 1)) hx0 hy9 hy10 (by omega) (by omega) (HT _ hs0).1 ((HT _ hs0).2.1.trans (if_neg v0)) (HT _ hs1).1 ((HT _ hs1).2.1.trans (if_neg v1)) sb3 sb4 (by omega) (by omega)) (cwV 4 hts gX7_tellBySet_X7_sum rfl rfl rfl cd_X7_sum ⟨by rw [hR]; exact Nat.le_of_ble_eq_true rfl, by rw [hR]; exact Nat.le_of_ble_eq_true rfl⟩) hx0 rfl rfl rfl hl.1 (Nat.le_of_ble_eq_true rfl) dX7_tellBySet_100 ⟨by rw [hR]; exact Nat.le_of_ble_eq_true rfl, by rw [hR]; exact Nat.le_of_ble_eq_true rfl⟩ rfl (fun w22 H locs h23 hP hS => ?_)
        have f24 : w22 (md 1) = some (.inl (G.2.1 0, 10, .inl (Fm 1))) := by rw [h23]; exact g_up_f hy1 ((fun q => absurd (Hj 1 0 (by decide) (by decide) q) (by decide)))
        have f25 : w22 (md 2) = some (.inl (G.2.1 0, 10, .inl (Fm 2))) := by rw [h23]; exact g_up_f hy2 ((fun q => absurd (Hj 2 0 (by decide) (by decide) q) (by decide)))
        have f26 : w22 (md 3) = some (.inl (G.2.1 2, 10, .inl (Fm 3))) := by rw [h23]; exact g_up_f hy3 ((fun q => absurd (Hj 3 0 (by decide) (by decide) q) (by decide)))
        have f27 : w22 (md 4) = some (.inl (G.2.1 0, 64, .inl (Fm 4))) := by rw [h23]; exact g_up_f hy4 ((fun q => absurd (Hj 4 0 (by decide) (by decide) q) (by decide)))
        have f28 : w22 (md 5) = some (.inl (G.2.1 2, 16, .inl (Fm 5))) := by rw [h23]; exact g_up_f hy5 ((fun q => absurd (Hj 5 0 (by decide) (by decide) q) (by decide)))
        have f29 : w22 (md 6) = some (.inl (G.2.1 0, 16, .inl (Fm 6))) := by rw [h23]; exact g_up_f hy6 ((fun q => absurd (Hj 6 0 (by decide) (by decide) q) (by decide)))
        have f30 : w22 (md 7) = some (.inl (G.2.1 0, 16, .inl (Fm 7))) := by rw [h23]; exact g_up_f hy7 ((fun q => absurd (Hj 7 0 (by decide) (by decide) q) (by decide)))
        have f31 : w22 (md 8) = some (.inl (G.2.1 0, 20, .inl (Fm 8))) := by rw [h23]; exact g_up_f hy8 ((fun q => absurd (Hj 8 0 (by decide) (by decide) q) (by decide)))
        have f32 : w22 (md 9) = some (.inl (G.2.1 1, 10, .inr (.inl (L 0)))) := by rw [h23]; exact g_up_f hy9 ((fun q => absurd (Hj 9 0 (by decide) (by decide) q) (by decide)))
        have f33 : w22 (md 10) = some (.inl (G.2.1 1, 10, .inr (.inl (L 1)))) := by rw [h23]; exact g_up_f hy10 ((fun q => absurd (Hj 10 0 (by decide) (by decide) q) (by decide)))
        have f34 : w22 (md 11) = some (.inl (G.2.1 0, 10, .inl (Fm 11))) := by rw [h23]; exact g_up_f hy11 ((fun q => absurd (Hj 11 0 (by decide) (by decide) q) (by decide)))
        have f35 : w22 (md 0) = some (.inr (8, [.int th, .int (iL (S 0 0)), .ref (md 1), .ref (md 2), .ref (md 3), .int (iL (S 0 4)), .int (iL (S 0 5)), .int (iL (S 0 1)), .ref (md 4), .ref (md 5), .int (iL (S 0 2)), .ref (md 6), .ref (md 7), .int (iL (S 0 3)), .ref (md 8), .ref (md 9), .ref (md 10), .ref (md 11), .long (zL (fN (T 0 (saP S mm 0) * (S 14 mm) * T 1 (saP S mm 1) + T 0 (saP S mm 1) * (S 15 mm) * T 1 (saP S mm 0)) (T 1 (saP S mm 0) * T 1 (saP S mm 1)))), .long (zL (fD (T 0 (saP S mm 0) * (S 14 mm) * T 1 (saP S mm 1) + T 0 (saP S mm 1) * (S 15 mm) * T 1 (saP S mm 0)) (T 1 (saP S mm 0) * T 1 (saP S mm 1))))])) := by rw [h23]; exact g_up_s _ _ _
        refine lv_goto (tgt := 145) hx hb dX7_tellBySet_103 (by decide) ?_
        refine lv_aload_n hx hb dX7_tellBySet_145 rfl (lv_at hl 6 rfl) ?_
        refine lv_aload_n hx hb dX7_tellBySet_146 rfl (lv_at hl 6 rfl) ?_
        refine g_get F hP (C := RX7) (T := TX7) (N := 20) iX7 f35 rfl 18 (by decide) (List.mem_cons_of_mem _ (List.mem_append_left _ (List.mem_append_left _ (List.mem_of_getElem? (i := 1) rfl)))) (fun _ h9 => h9) rfl dX7_tellBySet_147 ?_
        refine lv_aload_n hx hb dX7_tellBySet_150 rfl (lv_at hl 6 rfl) ?_
        refine g_get F hP (C := RX7) (T := TX7) (N := 20) iX7 f35 rfl 19 (by decide) (List.mem_cons_of_mem _ (List.mem_append_left _ (List.mem_append_left _ (List.mem_of_getElem? (i := 2) rfl)))) (fun _ h9 => h9) rfl dX7_tellBySet_151 ?_
        refine lv_iload hx hb dX7_tellBySet_154 (lv_at hl 0 rfl) ?_
        refine lv_iload hx hb dX7_tellBySet_156 (lv_at hl 3 rfl) ?_
        refine lv_icmp_ne (tgt := 169) hx hb dX7_tellBySet_158 (by decide) (fun c36 => ?_) (fun c36 => ?_)
        · exact absurd rfl c36
        · refine lv_lload hx hb dX7_tellBySet_161 (lv_at hl 2 rfl) ?_
          refine lv_lload hx hb dX7_tellBySet_163 (lv_at hl 1 rfl) ?_
          refine lv_ladd hx hb dX7_tellBySet_165 ?_
          refine lv_topl (fun v37 ev37 => ?_)
          obtain rfl : v37 = zL (S 14 mm + S 15 mm) := by
            rw [ev37]
            exact zL_add _ _
          refine lv_goto (tgt := 182) hx hb dX7_tellBySet_166 (by decide) ?_
          refine lv_lmul hx hb dX7_tellBySet_182 ?_
          refine lv_topl (fun v38 ev38 => ?_)
          obtain rfl : v38 = zL (fD (T 0 (saP S mm 0) * (S 14 mm) * T 1 (saP S mm 1) + T 0 (saP S mm 1) * (S 15 mm) * T 1 (saP S mm 0)) (T 1 (saP S mm 0) * T 1 (saP S mm 1)) * (S 14 mm + S 15 mm)) := by
            rw [ev38]
            exact zL_mul _ _
          have hbY : (fD (T 0 (saP S mm 0) * (S 14 mm) * T 1 (saP S mm 1) + T 0 (saP S mm 1) * (S 15 mm) * T 1 (saP S mm 0)) (T 1 (saP S mm 0) * T 1 (saP S mm 1)) * (S 14 mm + S 15 mm)).natAbs ≤ 1000000000000 * 400 := by
            rw [Int.natAbs_mul]
            exact Nat.mul_le_mul (by omega) (by omega)
          have hnN := fN_le (fN (T 0 (saP S mm 0) * (S 14 mm) * T 1 (saP S mm 1) + T 0 (saP S mm 1) * (S 15 mm) * T 1 (saP S mm 0)) (T 1 (saP S mm 0) * T 1 (saP S mm 1))) (fD (T 0 (saP S mm 0) * (S 14 mm) * T 1 (saP S mm 1) + T 0 (saP S mm 1) * (S 15 mm) * T 1 (saP S mm 0)) (T 1 (saP S mm 0) * T 1 (saP S mm 1)) * (S 14 mm + S 15 mm))
          have hnD := fD_le (fN (T 0 (saP S mm 0) * (S 14 mm) * T 1 (saP S mm 1) + T 0 (saP S mm 1) * (S 15 mm) * T 1 (saP S mm 0)) (T 1 (saP S mm 0) * T 1 (saP S mm 1))) (fD (T 0 (saP S mm 0) * (S 14 mm) * T 1 (saP S mm 1) + T 0 (saP S mm 1) * (S 15 mm) * T 1 (saP S mm 0)) (T 1 (saP S mm 0) * T 1 (saP S mm 1)) * (S 14 mm + S 15 mm))
          refine g_Vv (As := [.long (zL (fN (T 0 (saP S mm 0) * (S 14 mm) * T 1 (saP S mm 1) + T 0 (saP S mm 1) * (S 15 mm) * T 1 (saP S mm 0)) (T 1 (saP S mm 0) * T 1 (saP S mm 1)))), .long (zL (fD (T 0 (saP S mm 0) * (S 14 mm) * T 1 (saP S mm 1) + T 0 (saP S mm 1) * (S 15 mm) * T 1 (saP S mm 0)) (T 1 (saP S mm 0) * T 1 (saP S mm 1)) * (S 14 mm + S 15 mm)))]) (rest := []) F hP hS (k_X7_make l A G w22 md S _ _ _ Fm L (fN (T 0 (saP S mm 0) * (S 14 mm) * T 1 (saP S mm 1) + T 0 (saP S mm 1) * (S 15 mm) * T 1 (saP S mm 0)) (T 1 (saP S mm 0) * T 1 (saP S mm 1))) (fD (T 0 (saP S mm 0) * (S 14 mm) * T 1 (saP S mm 1) + T 0 (saP S mm 1) * (S 15 mm) * T 1 (saP S mm 0)) (T 1 (saP S mm 0) * T 1 (saP S mm 1)) * (S 14 mm + S 15 mm)) f35 (Int.mul_ne_zero (by omega) (by omega)) (by omega) (by omega)) (cwV 2 hts gX7_tellBySet_X7_make rfl rfl rfl cd_X7_make ⟨by rw [hR]; exact Nat.le_of_ble_eq_true rfl, by rw [hR]; exact Nat.le_of_ble_eq_true rfl⟩) f35 rfl rfl rfl hl.1 (Nat.le_of_ble_eq_true rfl) dX7_tellBySet_183 ⟨by rw [hR]; exact Nat.le_of_ble_eq_true rfl, by rw [hR]; exact Nat.le_of_ble_eq_true rfl⟩ rfl (fun w40 H locs h41 hP hS => ?_)
          have f42 : w40 (md 1) = some (.inl (G.2.1 0, 10, .inl (Fm 1))) := by rw [h41]; exact g_up_f f24 ((fun q => absurd (Hj 1 0 (by decide) (by decide) q) (by decide)))
          have f43 : w40 (md 2) = some (.inl (G.2.1 0, 10, .inl (Fm 2))) := by rw [h41]; exact g_up_f f25 ((fun q => absurd (Hj 2 0 (by decide) (by decide) q) (by decide)))
          have f44 : w40 (md 3) = some (.inl (G.2.1 2, 10, .inl (Fm 3))) := by rw [h41]; exact g_up_f f26 ((fun q => absurd (Hj 3 0 (by decide) (by decide) q) (by decide)))
          have f45 : w40 (md 4) = some (.inl (G.2.1 0, 64, .inl (Fm 4))) := by rw [h41]; exact g_up_f f27 ((fun q => absurd (Hj 4 0 (by decide) (by decide) q) (by decide)))
          have f46 : w40 (md 5) = some (.inl (G.2.1 2, 16, .inl (Fm 5))) := by rw [h41]; exact g_up_f f28 ((fun q => absurd (Hj 5 0 (by decide) (by decide) q) (by decide)))
          have f47 : w40 (md 6) = some (.inl (G.2.1 0, 16, .inl (Fm 6))) := by rw [h41]; exact g_up_f f29 ((fun q => absurd (Hj 6 0 (by decide) (by decide) q) (by decide)))
          have f48 : w40 (md 7) = some (.inl (G.2.1 0, 16, .inl (Fm 7))) := by rw [h41]; exact g_up_f f30 ((fun q => absurd (Hj 7 0 (by decide) (by decide) q) (by decide)))
          have f49 : w40 (md 8) = some (.inl (G.2.1 0, 20, .inl (Fm 8))) := by rw [h41]; exact g_up_f f31 ((fun q => absurd (Hj 8 0 (by decide) (by decide) q) (by decide)))
          have f50 : w40 (md 9) = some (.inl (G.2.1 1, 10, .inr (.inl (L 0)))) := by rw [h41]; exact g_up_f f32 ((fun q => absurd (Hj 9 0 (by decide) (by decide) q) (by decide)))
          have f51 : w40 (md 10) = some (.inl (G.2.1 1, 10, .inr (.inl (L 1)))) := by rw [h41]; exact g_up_f f33 ((fun q => absurd (Hj 10 0 (by decide) (by decide) q) (by decide)))
          have f52 : w40 (md 11) = some (.inl (G.2.1 0, 10, .inl (Fm 11))) := by rw [h41]; exact g_up_f f34 ((fun q => absurd (Hj 11 0 (by decide) (by decide) q) (by decide)))
          have f53 : w40 (md 0) = some (.inr (8, [.int th, .int (iL (S 0 0)), .ref (md 1), .ref (md 2), .ref (md 3), .int (iL (S 0 4)), .int (iL (S 0 5)), .int (iL (S 0 1)), .ref (md 4), .ref (md 5), .int (iL (S 0 2)), .ref (md 6), .ref (md 7), .int (iL (S 0 3)), .ref (md 8), .ref (md 9), .ref (md 10), .ref (md 11), .long (zL (fN (fN (T 0 (saP S mm 0) * (S 14 mm) * T 1 (saP S mm 1) + T 0 (saP S mm 1) * (S 15 mm) * T 1 (saP S mm 0)) (T 1 (saP S mm 0) * T 1 (saP S mm 1))) (fD (T 0 (saP S mm 0) * (S 14 mm) * T 1 (saP S mm 1) + T 0 (saP S mm 1) * (S 15 mm) * T 1 (saP S mm 0)) (T 1 (saP S mm 0) * T 1 (saP S mm 1)) * (S 14 mm + S 15 mm)))), .long (zL (fD (fN (T 0 (saP S mm 0) * (S 14 mm) * T 1 (saP S mm 1) + T 0 (saP S mm 1) * (S 15 mm) * T 1 (saP S mm 0)) (T 1 (saP S mm 0) * T 1 (saP S mm 1))) (fD (T 0 (saP S mm 0) * (S 14 mm) * T 1 (saP S mm 1) + T 0 (saP S mm 1) * (S 15 mm) * T 1 (saP S mm 0)) (T 1 (saP S mm 0) * T 1 (saP S mm 1)) * (S 14 mm + S 15 mm))))])) := by rw [h41]; exact g_up_s _ _ _
          refine lv_iconst (v := 0) hx hb dX7_tellBySet_186 (by decide) ?_
          refine lv_istore (lv' := [(10, .int 0), (9, .int (nI (saP S mm 2))), (7, .long (zL (S 15 mm))), (5, .long (zL (S 14 mm))), (4, .int (nI (saP S mm 2))), (3, .int (nI (saP S mm 1))), (2, .int (nI (saP S mm 0))), (0, .ref (md 0)), (1, .int (nI mm))]) hx hb dX7_tellBySet_187 hl (by decide) rfl (fun ls hl => ?_)
          refine lv_iconst (v := 0) hx hb dX7_tellBySet_189 (by decide) ?_
          refine lv_istore (lv' := [(11, .int 0), (10, .int 0), (9, .int (nI (saP S mm 2))), (7, .long (zL (S 15 mm))), (5, .long (zL (S 14 mm))), (4, .int (nI (saP S mm 2))), (3, .int (nI (saP S mm 1))), (2, .int (nI (saP S mm 0))), (0, .ref (md 0)), (1, .int (nI mm))]) hx hb dX7_tellBySet_190 hl (by decide) rfl (fun ls hl => ?_)
          have L192 : ∀ (n : Nat) (k : Nat) (H : Heap) (locs : List Loc) (ls : Array Slot), 4 ≤ k + n → (k ≤ 3) → g_P A G w40 H → va_S A s.heap H locs → lv_has ls 12 [(11, .int (nI k)), (10, .int (iL (mxT S T mm 2 k))), (0, .ref (md 0)), (1, .int (nI mm)), (9, .int (nI (saP S mm 2)))] → W p l e R s m args below meth c H locs (0) (0) Q (F0 m 192 ls []) := by
            intro n
            induction n with
            | zero =>
              intro k H locs ls hfu hk3 hP hS hl
              exact absurd hfu (by omega)
            | succ n ih_L192 =>
              intro k H locs ls hfu hk3 hP hS hl
              refine lv_iload hx hb dX7_tellBySet_192 (lv_at hl 0 rfl) ?_
              refine lv_iconst (v := 3) hx hb dX7_tellBySet_194 (by decide) ?_
              refine lv_icmp_ge (tgt := 243) hx hb dX7_tellBySet_195 (by decide) (fun c54 => ?_) (fun c54 => ?_)
              · have zc54 : 3 ≤ k := (n3_le (k := k) (by omega)).mp c54
                refine lv_aload_n hx hb dX7_tellBySet_243 rfl (lv_at hl 2 rfl) ?_
                refine lv_iload hx hb dX7_tellBySet_244 (lv_at hl 4 rfl) ?_
                refine lv_iload hx hb dX7_tellBySet_246 (lv_at hl 1 rfl) ?_
                refine lv_iconst (v := 1) hx hb dX7_tellBySet_248 (by decide) ?_
                refine lv_iadd hx hb dX7_tellBySet_249 ?_
                refine lv_topi (fun v55 ev55 => ?_)
                obtain rfl : v55 = iL (mxT S T mm 2 3 + 1) := by
                  rw [ev55]
                  rw [show k = 3 by omega]; exact iL_add _ 1
                refine g_Vi (As := [.int (nI (saP S mm 2)), .int (iL (mxT S T mm 2 3 + 1))]) (rest := []) F hP hS (k_X7_tell l A G w40 md S th (fN (fN (T 0 (saP S mm 0) * (S 14 mm) * T 1 (saP S mm 1) + T 0 (saP S mm 1) * (S 15 mm) * T 1 (saP S mm 0)) (T 1 (saP S mm 0) * T 1 (saP S mm 1))) (fD (T 0 (saP S mm 0) * (S 14 mm) * T 1 (saP S mm 1) + T 0 (saP S mm 1) * (S 15 mm) * T 1 (saP S mm 0)) (T 1 (saP S mm 0) * T 1 (saP S mm 1)) * (S 14 mm + S 15 mm))) (fD (fN (T 0 (saP S mm 0) * (S 14 mm) * T 1 (saP S mm 1) + T 0 (saP S mm 1) * (S 15 mm) * T 1 (saP S mm 0)) (T 1 (saP S mm 0) * T 1 (saP S mm 1))) (fD (T 0 (saP S mm 0) * (S 14 mm) * T 1 (saP S mm 1) + T 0 (saP S mm 1) * (S 15 mm) * T 1 (saP S mm 0)) (T 1 (saP S mm 0) * T 1 (saP S mm 1)) * (S 14 mm + S 15 mm))) Fm L (saP S mm 2) (iL (mxT S T mm 2 3 + 1)) f53 f50 f51 f52 Hj (by omega) (by omega) (by omega)) (cwV 2 hts gX7_tellBySet_X7_tell rfl rfl rfl cd_X7_tell ⟨by rw [hR]; exact Nat.le_of_ble_eq_true rfl, by rw [hR]; exact Nat.le_of_ble_eq_true rfl⟩) f53 rfl rfl rfl hl.1 (Nat.le_of_ble_eq_true rfl) dX7_tellBySet_250 ⟨by rw [hR]; exact Nat.le_of_ble_eq_true rfl, by rw [hR]; exact Nat.le_of_ble_eq_true rfl⟩ rfl (fun r56 w57 H locs h58 hP hS => ?_)
                rw [h58.1]
                rw [hQ]
                refine g_zret F hP hS hlocks hr (by first | rfl | exact g_nb _) dX7_tellBySet_253 (by first | exact Nat.le_of_ble_eq_true rfl | omega) (by first | exact Nat.le_of_ble_eq_true rfl | omega) ?_
                exact ⟨by rw [same.1, same.2], tell_sol Hj ⟨f53, f42, f43, f44, f45, f46, f47, f48, f49, f50, f51, f52⟩ (mFr_tr (mFr_tr (mFr_rf _ _) (mFr_se (i := 0) (by decide) h23)) (mFr_se (i := 0) (by decide) h41)) HT same.1.symm.symm same.2 (by rw [mxT_g (pl := 2) (by decide) v2 (fun j q1 q2 => by have b1 := (Ht.1 _ (hsk j)).2.2.2.2; have b2 : T 2 (saP S mm j) ≠ -1 := hU.2.2 j q1 q2; omega)]) rfl h58.2⟩
              · have zc54 : k < 3 := by
                  rcases Nat.lt_or_ge k 3 with q | q
                  · exact q
                  · exact absurd ((n3_le (k := k) (by omega)).mpr q) c54
                refine lv_aload_n hx hb dX7_tellBySet_198 rfl (lv_at hl 2 rfl) ?_
                refine g_get F hP (C := RX7) (T := TX7) (N := 20) iX7 f53 rfl 14 (by decide) (List.mem_cons_of_mem _ (List.mem_append_left _ (List.mem_append_left _ (List.mem_of_getElem? (i := 0) rfl)))) (fun _ h9 => h9) rfl dX7_tellBySet_199 ?_
                refine lv_iconst (v := 5) hx hb dX7_tellBySet_202 (by decide) ?_
                refine lv_iload_n hx hb dX7_tellBySet_203 rfl (lv_at hl 3 rfl) ?_
                refine lv_imul hx hb dX7_tellBySet_204 ?_
                refine lv_topi (fun v59 ev59 => ?_)
                obtain rfl : v59 = nI (5 * mm) := by
                  rw [ev59]
                  exact nI_mul 5 mm
                refine lv_iload hx hb dX7_tellBySet_205 (lv_at hl 0 rfl) ?_
                refine lv_iadd hx hb dX7_tellBySet_207 ?_
                refine lv_topi (fun v60 ev60 => ?_)
                obtain rfl : v60 = nI (5 * mm + k) := by
                  rw [ev60]
                  exact nI_add _ _
                refine g_iald F hP f49 (vp_in_nI (n := 5 * mm + k) (by omega) (by decide)) dX7_tellBySet_208 ?_
                rw [show (.int ((Fm 8) (nI (5 * mm + k) : Int32).toNatClampNeg) : Value) = .int (nI (saP S mm k)) from by rw [nI_clamp (n := 5 * mm + k) (by omega), q8 k zc54]]
                refine lv_iload hx hb dX7_tellBySet_209 (lv_at hl 4 rfl) ?_
                refine lv_icmp_eq (tgt := 237) hx hb dX7_tellBySet_211 (by decide) (fun c61 => ?_) (fun c61 => ?_)
                · have yc61 : k = 2 := (heq k zc54).mp c61
                  have em : mxT S T mm 2 (k + 1) = mxT S T mm 2 k := if_pos yc61
                  obtain ⟨i62, ei62⟩ : ∃ y : Int32, y = nI k + (1) := ⟨_, rfl⟩
                  refine lv_iinc (v := i62) (lv' := [(11, .int i62), (10, .int (iL (mxT S T mm 2 k))), (0, .ref (md 0)), (1, .int (nI mm)), (9, .int (nI (saP S mm 2)))]) hx hb dX7_tellBySet_237 hl (k := 0) rfl (by rw [ei62]; rfl) (by decide) rfl (fun ls hl => ?_)
                  obtain rfl : i62 = nI (k + 1) := by
                    rw [ei62]
                    exact nI_1 k
                  refine lv_goto (tgt := 192) hx hb dX7_tellBySet_240 (by decide) ?_
                  rw [← em] at hl
                  exact ih_L192 (k + 1) H locs ls (by omega) (by omega) hP hS (lv_sub hl [0, 1, 2, 3, 4] rfl)
                · have yc61 : k ≠ 2 := fun q => c61 ((heq k zc54).mpr q)
                  have em : mxT S T mm 2 (k + 1) = if mxT S T mm 2 k < T 2 (saP S mm k) then T 2 (saP S mm k) else mxT S T mm 2 k := if_neg yc61
                  have bk := (Ht.1 _ (hsk k)).2.2.2.2
                  have bm := hmx k (by omega)
                  refine lv_iload hx hb dX7_tellBySet_214 (lv_at hl 1 rfl) ?_
                  refine lv_aload_n hx hb dX7_tellBySet_216 rfl (lv_at hl 2 rfl) ?_
                  refine g_get F hP (C := RX7) (T := TX7) (N := 20) iX7 f53 rfl 17 (by decide) (List.mem_cons_of_mem _ (List.mem_append_left _ (List.mem_append_left _ (List.mem_of_getElem? (i := 3) rfl)))) (fun _ h9 => h9) rfl dX7_tellBySet_217 ?_
                  refine lv_aload_n hx hb dX7_tellBySet_220 rfl (lv_at hl 2 rfl) ?_
                  refine g_get F hP (C := RX7) (T := TX7) (N := 20) iX7 f53 rfl 14 (by decide) (List.mem_cons_of_mem _ (List.mem_append_left _ (List.mem_append_left _ (List.mem_of_getElem? (i := 0) rfl)))) (fun _ h9 => h9) rfl dX7_tellBySet_221 ?_
                  refine lv_iconst (v := 5) hx hb dX7_tellBySet_224 (by decide) ?_
                  refine lv_iload_n hx hb dX7_tellBySet_225 rfl (lv_at hl 3 rfl) ?_
                  refine lv_imul hx hb dX7_tellBySet_226 ?_
                  refine lv_topi (fun v63 ev63 => ?_)
                  obtain rfl : v63 = nI (5 * mm) := by
                    rw [ev63]
                    exact nI_mul 5 mm
                  refine lv_iload hx hb dX7_tellBySet_227 (lv_at hl 0 rfl) ?_
                  refine lv_iadd hx hb dX7_tellBySet_229 ?_
                  refine lv_topi (fun v64 ev64 => ?_)
                  obtain rfl : v64 = nI (5 * mm + k) := by
                    rw [ev64]
                    exact nI_add _ _
                  refine g_iald F hP f49 (vp_in_nI (n := 5 * mm + k) (by omega) (by decide)) dX7_tellBySet_230 ?_
                  rw [show (.int ((Fm 8) (nI (5 * mm + k) : Int32).toNatClampNeg) : Value) = .int (nI (saP S mm k)) from by rw [nI_clamp (n := 5 * mm + k) (by omega), q8 k zc54]]
                  refine g_iald F hP f52 (vp_in_nI (by have := hsk k; omega) (by decide)) dX7_tellBySet_231 ?_
                  rw [show (.int ((Fm 11) (nI (saP S mm k) : Int32).toNatClampNeg) : Value) = .int (iL (T 2 (saP S mm k))) from by rw [nI_clamp (by have := hsk k; omega), (HT _ (hsk k)).2.2]]
                  refine va_mmax hx hb (by rw [hml]; exact hl.1.symm) hown (hts _ (List.mem_cons_of_mem _ (List.mem_append_left _ (List.mem_append_left _ (List.mem_of_getElem? (i := 4) rfl))))) (hts _ (List.mem_cons_of_mem _ (List.mem_append_left _ (List.mem_append_left _ (List.mem_of_getElem? (i := 5) rfl))))) (hts _ (List.mem_cons_of_mem _ (List.mem_append_left _ (List.mem_append_left _ (List.mem_of_getElem? (i := 6) rfl))))) (hts _ (List.mem_cons_of_mem _ (List.mem_append_left _ (List.mem_append_left _ (List.mem_of_getElem? (i := 7) rfl))))) (by rw [hR]; exact Nat.le_of_ble_eq_true rfl) (by rw [hR]; exact Nat.le_of_ble_eq_true rfl) (by rw [hR]; first | exact Nat.le_of_ble_eq_true rfl | (dsimp only; omega)) (by rw [hR]; first | exact Nat.le_of_ble_eq_true rfl | (dsimp only; omega)) dX7_tellBySet_232 ?_
                  refine lv_topi (fun v65 ev65 => ?_)
                  obtain rfl : v65 = iL (mxT S T mm 2 (k + 1)) := by
                    rw [ev65]
                    have q1 : iL (mxT S T mm 2 k) < iL (T 2 (saP S mm k)) ↔ mxT S T mm 2 k < T 2 (saP S mm k) := iL_lt (by omega) (by omega) (by omega) (by omega)
                    rw [em]
                    by_cases q2 : mxT S T mm 2 k < T 2 (saP S mm k)
                    · rw [if_pos q2, if_pos (q1.mpr q2)]
                    · rw [if_neg q2, if_neg (fun q => q2 (q1.mp q))]
                  refine lv_istore (lv' := [(10, .int (iL (mxT S T mm 2 (k + 1)))), (11, .int (nI k)), (0, .ref (md 0)), (1, .int (nI mm)), (9, .int (nI (saP S mm 2)))]) hx hb dX7_tellBySet_235 hl (by decide) rfl (fun ls hl => ?_)
                  obtain ⟨i66, ei66⟩ : ∃ y : Int32, y = nI k + (1) := ⟨_, rfl⟩
                  refine lv_iinc (v := i66) (lv' := [(11, .int i66), (10, .int (iL (mxT S T mm 2 (k + 1)))), (0, .ref (md 0)), (1, .int (nI mm)), (9, .int (nI (saP S mm 2)))]) hx hb dX7_tellBySet_237 hl (k := 1) rfl (by rw [ei66]; rfl) (by decide) rfl (fun ls hl => ?_)
                  obtain rfl : i66 = nI (k + 1) := by
                    rw [ei66]
                    exact nI_1 k
                  refine lv_goto (tgt := 192) hx hb dX7_tellBySet_240 (by decide) ?_
                  exact ih_L192 (k + 1)  H locs ls (by omega) (by omega) hP hS (lv_sub hl [0, 1, 2, 3, 4] rfl)
          exact L192 4 0  H locs ls (by omega) (by decide) hP hS (lv_sub hl [0, 1, 8, 9, 2] rfl)
    · have yc19 := of_decide_eq_false (g_b0.mp c19)
      have pl9 : pl = 1 := by
        rcases Nat.decEq pl 1 with q | q
        · exact absurd (Decidable.not_not.mp yc19) (hU.2.2 1 (by decide) (by omega))
        · exact q
      subst pl9
      have v0 : T 2 (saP S mm 0) ≠ -1 := hU.2.2 0 (by decide) (by decide)
      have v2 : T 2 (saP S mm 2) ≠ -1 := hU.2.2 2 (by decide) (by decide)
      have v1 : T 2 (saP S mm 1) = -1 := hU.2.1
      refine lv_iload_n hx hb dX7_tellBySet_78 rfl (lv_at hl 3 rfl) ?_
      refine lv_goto (tgt := 84) hx hb dX7_tellBySet_79 (by decide) ?_
      refine lv_istore (lv' := [(9, .int (nI (saP S mm 1))), (7, .long (zL (S 15 mm))), (5, .long (zL (S 14 mm))), (4, .int (nI (saP S mm 2))), (3, .int (nI (saP S mm 1))), (2, .int (nI (saP S mm 0))), (0, .ref (md 0)), (1, .int (nI mm))]) hx hb dX7_tellBySet_84 hl (by decide) rfl (fun ls hl => ?_)
      refine lv_iload hx hb dX7_tellBySet_86 (lv_at hl 0 rfl) ?_
      refine lv_iload hx hb dX7_tellBySet_88 (lv_at hl 3 rfl) ?_
      refine lv_icmp_ne (tgt := 106) hx hb dX7_tellBySet_90 (by decide) (fun c67 => ?_) (fun c67 => ?_)
      · refine lv_iload hx hb dX7_tellBySet_106 (lv_at hl 0 rfl) ?_
        refine lv_iload_n hx hb dX7_tellBySet_108 rfl (lv_at hl 5 rfl) ?_
        refine lv_icmp_ne (tgt := 130) hx hb dX7_tellBySet_109 (by decide) (fun c68 => ?_) (fun c68 => ?_)
        · refine lv_aload_n hx hb dX7_tellBySet_130 rfl (lv_at hl 6 rfl) ?_
          refine lv_iload hx hb dX7_tellBySet_131 (lv_at hl 3 rfl) ?_
          refine lv_lload hx hb dX7_tellBySet_133 (lv_at hl 2 rfl) ?_
          refine lv_lload hx hb dX7_tellBySet_135 (lv_at hl 1 rfl) ?_
          refine lv_ladd hx hb dX7_tellBySet_137 ?_
          refine lv_topl (fun v69 ev69 => ?_)
          obtain rfl : v69 = zL (S 14 mm + S 15 mm) := by
            rw [ev69]
            exact zL_add _ _
          refine lv_iload_n hx hb dX7_tellBySet_138 rfl (lv_at hl 5 rfl) ?_
          refine lv_lload hx hb dX7_tellBySet_139 (lv_at hl 2 rfl) ?_
          refine lv_lneg hx hb dX7_tellBySet_141 ?_
          refine lv_topl (fun v70 ev70 => ?_)
          obtain rfl : v70 = zL (-S 14 mm) := by
            rw [ev70]
            exact zL_neg _
          obtain ⟨same, sb1, sb2, sb3, sb4, sb5, sb6⟩ := set_s Hi Ht hm (Or.inr (Or.inl ⟨rfl, rfl, rfl, rfl, rfl, rfl⟩))
          have sd := fD_pos (x := T 0 (saP S mm 2) * (S 14 mm + S 15 mm) * T 1 (saP S mm 0) + T 0 (saP S mm 0) * (-S 14 mm) * T 1 (saP S mm 2)) (Int.mul_ne_zero sb3 sb4)
          have sn1 := fN_le (T 0 (saP S mm 2) * (S 14 mm + S 15 mm) * T 1 (saP S mm 0) + T 0 (saP S mm 0) * (-S 14 mm) * T 1 (saP S mm 2)) (T 1 (saP S mm 2) * T 1 (saP S mm 0))
          have sd1 := fD_le (T 0 (saP S mm 2) * (S 14 mm + S 15 mm) * T 1 (saP S mm 0) + T 0 (saP S mm 0) * (-S 14 mm) * T 1 (saP S mm 2)) (T 1 (saP S mm 2) * T 1 (saP S mm 0))
          refine g_Vv (As := [.int (nI (saP S mm 2)), .long (zL (S 14 mm + S 15 mm)), .int (nI (saP S mm 0)), .long (zL (-S 14 mm))]) (rest := []) F hP hS (k_X7_sum l A G w md S _ _ _ Fm L (saP S mm 2) (saP S mm 0) (S 14 mm + S 15 mm) (-S 14 mm) (T 0 (saP S mm 2)) (T 1 (saP S mm 2)) (T 0 (saP S mm 0)) (T 1 (saP S mm 0)) hx0 hy9 hy10 (by omega) (by omega) (HT _ hs2).1 ((HT _ hs2).2.1.trans (if_neg v2)) (HT _ hs0).1 ((HT _ hs0).2.1.trans (if_neg v0)) sb3 sb4 (by omega) (by omega)) (cwV 4 hts gX7_tellBySet_X7_sum rfl rfl rfl cd_X7_sum ⟨by rw [hR]; exact Nat.le_of_ble_eq_true rfl, by rw [hR]; exact Nat.le_of_ble_eq_true rfl⟩) hx0 rfl rfl rfl hl.1 (Nat.le_of_ble_eq_true rfl) dX7_tellBySet_142 ⟨by rw [hR]; exact Nat.le_of_ble_eq_true rfl, by rw [hR]; exact Nat.le_of_ble_eq_true rfl⟩ rfl (fun w72 H locs h73 hP hS => ?_)
          have f74 : w72 (md 1) = some (.inl (G.2.1 0, 10, .inl (Fm 1))) := by rw [h73]; exact g_up_f hy1 ((fun q => absurd (Hj 1 0 (by decide) (by decide) q) (by decide)))
          have f75 : w72 (md 2) = some (.inl (G.2.1 0, 10, .inl (Fm 2))) := by rw [h73]; exact g_up_f hy2 ((fun q => absurd (Hj 2 0 (by decide) (by decide) q) (by decide)))
          have f76 : w72 (md 3) = some (.inl (G.2.1 2, 10, .inl (Fm 3))) := by rw [h73]; exact g_up_f hy3 ((fun q => absurd (Hj 3 0 (by decide) (by decide) q) (by decide)))
          have f77 : w72 (md 4) = some (.inl (G.2.1 0, 64, .inl (Fm 4))) := by rw [h73]; exact g_up_f hy4 ((fun q => absurd (Hj 4 0 (by decide) (by decide) q) (by decide)))
          have f78 : w72 (md 5) = some (.inl (G.2.1 2, 16, .inl (Fm 5))) := by rw [h73]; exact g_up_f hy5 ((fun q => absurd (Hj 5 0 (by decide) (by decide) q) (by decide)))
          have f79 : w72 (md 6) = some (.inl (G.2.1 0, 16, .inl (Fm 6))) := by rw [h73]; exact g_up_f hy6 ((fun q => absurd (Hj 6 0 (by decide) (by decide) q) (by decide)))
          have f80 : w72 (md 7) = some (.inl (G.2.1 0, 16, .inl (Fm 7))) := by rw [h73]; exact g_up_f hy7 ((fun q => absurd (Hj 7 0 (by decide) (by decide) q) (by decide)))
          have f81 : w72 (md 8) = some (.inl (G.2.1 0, 20, .inl (Fm 8))) := by rw [h73]; exact g_up_f hy8 ((fun q => absurd (Hj 8 0 (by decide) (by decide) q) (by decide)))
          have f82 : w72 (md 9) = some (.inl (G.2.1 1, 10, .inr (.inl (L 0)))) := by rw [h73]; exact g_up_f hy9 ((fun q => absurd (Hj 9 0 (by decide) (by decide) q) (by decide)))
          have f83 : w72 (md 10) = some (.inl (G.2.1 1, 10, .inr (.inl (L 1)))) := by rw [h73]; exact g_up_f hy10 ((fun q => absurd (Hj 10 0 (by decide) (by decide) q) (by decide)))
          have f84 : w72 (md 11) = some (.inl (G.2.1 0, 10, .inl (Fm 11))) := by rw [h73]; exact g_up_f hy11 ((fun q => absurd (Hj 11 0 (by decide) (by decide) q) (by decide)))
          have f85 : w72 (md 0) = some (.inr (8, [.int th, .int (iL (S 0 0)), .ref (md 1), .ref (md 2), .ref (md 3), .int (iL (S 0 4)), .int (iL (S 0 5)), .int (iL (S 0 1)), .ref (md 4), .ref (md 5), .int (iL (S 0 2)), .ref (md 6), .ref (md 7), .int (iL (S 0 3)), .ref (md 8), .ref (md 9), .ref (md 10), .ref (md 11), .long (zL (fN (T 0 (saP S mm 2) * (S 14 mm + S 15 mm) * T 1 (saP S mm 0) + T 0 (saP S mm 0) * (-S 14 mm) * T 1 (saP S mm 2)) (T 1 (saP S mm 2) * T 1 (saP S mm 0)))), .long (zL (fD (T 0 (saP S mm 2) * (S 14 mm + S 15 mm) * T 1 (saP S mm 0) + T 0 (saP S mm 0) * (-S 14 mm) * T 1 (saP S mm 2)) (T 1 (saP S mm 2) * T 1 (saP S mm 0))))])) := by rw [h73]; exact g_up_s _ _ _
          refine lv_aload_n hx hb dX7_tellBySet_145 rfl (lv_at hl 6 rfl) ?_
          refine lv_aload_n hx hb dX7_tellBySet_146 rfl (lv_at hl 6 rfl) ?_
          refine g_get F hP (C := RX7) (T := TX7) (N := 20) iX7 f85 rfl 18 (by decide) (List.mem_cons_of_mem _ (List.mem_append_left _ (List.mem_append_left _ (List.mem_of_getElem? (i := 1) rfl)))) (fun _ h9 => h9) rfl dX7_tellBySet_147 ?_
          refine lv_aload_n hx hb dX7_tellBySet_150 rfl (lv_at hl 6 rfl) ?_
          refine g_get F hP (C := RX7) (T := TX7) (N := 20) iX7 f85 rfl 19 (by decide) (List.mem_cons_of_mem _ (List.mem_append_left _ (List.mem_append_left _ (List.mem_of_getElem? (i := 2) rfl)))) (fun _ h9 => h9) rfl dX7_tellBySet_151 ?_
          refine lv_iload hx hb dX7_tellBySet_154 (lv_at hl 0 rfl) ?_
          refine lv_iload hx hb dX7_tellBySet_156 (lv_at hl 3 rfl) ?_
          refine lv_icmp_ne (tgt := 169) hx hb dX7_tellBySet_158 (by decide) (fun c86 => ?_) (fun c86 => ?_)
          · refine lv_iload hx hb dX7_tellBySet_169 (lv_at hl 0 rfl) ?_
            refine lv_iload_n hx hb dX7_tellBySet_171 rfl (lv_at hl 5 rfl) ?_
            refine lv_icmp_ne (tgt := 180) hx hb dX7_tellBySet_172 (by decide) (fun c87 => ?_) (fun c87 => ?_)
            · refine lv_lload hx hb dX7_tellBySet_180 (lv_at hl 1 rfl) ?_
              refine lv_lmul hx hb dX7_tellBySet_182 ?_
              refine lv_topl (fun v88 ev88 => ?_)
              obtain rfl : v88 = zL (fD (T 0 (saP S mm 2) * (S 14 mm + S 15 mm) * T 1 (saP S mm 0) + T 0 (saP S mm 0) * (-S 14 mm) * T 1 (saP S mm 2)) (T 1 (saP S mm 2) * T 1 (saP S mm 0)) * (S 15 mm)) := by
                rw [ev88]
                exact zL_mul _ _
              have hbY : (fD (T 0 (saP S mm 2) * (S 14 mm + S 15 mm) * T 1 (saP S mm 0) + T 0 (saP S mm 0) * (-S 14 mm) * T 1 (saP S mm 2)) (T 1 (saP S mm 2) * T 1 (saP S mm 0)) * (S 15 mm)).natAbs ≤ 1000000000000 * 400 := by
                rw [Int.natAbs_mul]
                exact Nat.mul_le_mul (by omega) (by omega)
              have hnN := fN_le (fN (T 0 (saP S mm 2) * (S 14 mm + S 15 mm) * T 1 (saP S mm 0) + T 0 (saP S mm 0) * (-S 14 mm) * T 1 (saP S mm 2)) (T 1 (saP S mm 2) * T 1 (saP S mm 0))) (fD (T 0 (saP S mm 2) * (S 14 mm + S 15 mm) * T 1 (saP S mm 0) + T 0 (saP S mm 0) * (-S 14 mm) * T 1 (saP S mm 2)) (T 1 (saP S mm 2) * T 1 (saP S mm 0)) * (S 15 mm))
              have hnD := fD_le (fN (T 0 (saP S mm 2) * (S 14 mm + S 15 mm) * T 1 (saP S mm 0) + T 0 (saP S mm 0) * (-S 14 mm) * T 1 (saP S mm 2)) (T 1 (saP S mm 2) * T 1 (saP S mm 0))) (fD (T 0 (saP S mm 2) * (S 14 mm + S 15 mm) * T 1 (saP S mm 0) + T 0 (saP S mm 0) * (-S 14 mm) * T 1 (saP S mm 2)) (T 1 (saP S mm 2) * T 1 (saP S mm 0)) * (S 15 mm))
              refine g_Vv (As := [.long (zL (fN (T 0 (saP S mm 2) * (S 14 mm + S 15 mm) * T 1 (saP S mm 0) + T 0 (saP S mm 0) * (-S 14 mm) * T 1 (saP S mm 2)) (T 1 (saP S mm 2) * T 1 (saP S mm 0)))), .long (zL (fD (T 0 (saP S mm 2) * (S 14 mm + S 15 mm) * T 1 (saP S mm 0) + T 0 (saP S mm 0) * (-S 14 mm) * T 1 (saP S mm 2)) (T 1 (saP S mm 2) * T 1 (saP S mm 0)) * (S 15 mm)))]) (rest := []) F hP hS (k_X7_make l A G w72 md S _ _ _ Fm L (fN (T 0 (saP S mm 2) * (S 14 mm + S 15 mm) * T 1 (saP S mm 0) + T 0 (saP S mm 0) * (-S 14 mm) * T 1 (saP S mm 2)) (T 1 (saP S mm 2) * T 1 (saP S mm 0))) (fD (T 0 (saP S mm 2) * (S 14 mm + S 15 mm) * T 1 (saP S mm 0) + T 0 (saP S mm 0) * (-S 14 mm) * T 1 (saP S mm 2)) (T 1 (saP S mm 2) * T 1 (saP S mm 0)) * (S 15 mm)) f85 (Int.mul_ne_zero (by omega) (by omega)) (by omega) (by omega)) (cwV 2 hts gX7_tellBySet_X7_make rfl rfl rfl cd_X7_make ⟨by rw [hR]; exact Nat.le_of_ble_eq_true rfl, by rw [hR]; exact Nat.le_of_ble_eq_true rfl⟩) f85 rfl rfl rfl hl.1 (Nat.le_of_ble_eq_true rfl) dX7_tellBySet_183 ⟨by rw [hR]; exact Nat.le_of_ble_eq_true rfl, by rw [hR]; exact Nat.le_of_ble_eq_true rfl⟩ rfl (fun w90 H locs h91 hP hS => ?_)
              have f92 : w90 (md 1) = some (.inl (G.2.1 0, 10, .inl (Fm 1))) := by rw [h91]; exact g_up_f f74 ((fun q => absurd (Hj 1 0 (by decide) (by decide) q) (by decide)))
              have f93 : w90 (md 2) = some (.inl (G.2.1 0, 10, .inl (Fm 2))) := by rw [h91]; exact g_up_f f75 ((fun q => absurd (Hj 2 0 (by decide) (by decide) q) (by decide)))
              have f94 : w90 (md 3) = some (.inl (G.2.1 2, 10, .inl (Fm 3))) := by rw [h91]; exact g_up_f f76 ((fun q => absurd (Hj 3 0 (by decide) (by decide) q) (by decide)))
              have f95 : w90 (md 4) = some (.inl (G.2.1 0, 64, .inl (Fm 4))) := by rw [h91]; exact g_up_f f77 ((fun q => absurd (Hj 4 0 (by decide) (by decide) q) (by decide)))
              have f96 : w90 (md 5) = some (.inl (G.2.1 2, 16, .inl (Fm 5))) := by rw [h91]; exact g_up_f f78 ((fun q => absurd (Hj 5 0 (by decide) (by decide) q) (by decide)))
              have f97 : w90 (md 6) = some (.inl (G.2.1 0, 16, .inl (Fm 6))) := by rw [h91]; exact g_up_f f79 ((fun q => absurd (Hj 6 0 (by decide) (by decide) q) (by decide)))
              have f98 : w90 (md 7) = some (.inl (G.2.1 0, 16, .inl (Fm 7))) := by rw [h91]; exact g_up_f f80 ((fun q => absurd (Hj 7 0 (by decide) (by decide) q) (by decide)))
              have f99 : w90 (md 8) = some (.inl (G.2.1 0, 20, .inl (Fm 8))) := by rw [h91]; exact g_up_f f81 ((fun q => absurd (Hj 8 0 (by decide) (by decide) q) (by decide)))
              have f100 : w90 (md 9) = some (.inl (G.2.1 1, 10, .inr (.inl (L 0)))) := by rw [h91]; exact g_up_f f82 ((fun q => absurd (Hj 9 0 (by decide) (by decide) q) (by decide)))
              have f101 : w90 (md 10) = some (.inl (G.2.1 1, 10, .inr (.inl (L 1)))) := by rw [h91]; exact g_up_f f83 ((fun q => absurd (Hj 10 0 (by decide) (by decide) q) (by decide)))
              have f102 : w90 (md 11) = some (.inl (G.2.1 0, 10, .inl (Fm 11))) := by rw [h91]; exact g_up_f f84 ((fun q => absurd (Hj 11 0 (by decide) (by decide) q) (by decide)))
              have f103 : w90 (md 0) = some (.inr (8, [.int th, .int (iL (S 0 0)), .ref (md 1), .ref (md 2), .ref (md 3), .int (iL (S 0 4)), .int (iL (S 0 5)), .int (iL (S 0 1)), .ref (md 4), .ref (md 5), .int (iL (S 0 2)), .ref (md 6), .ref (md 7), .int (iL (S 0 3)), .ref (md 8), .ref (md 9), .ref (md 10), .ref (md 11), .long (zL (fN (fN (T 0 (saP S mm 2) * (S 14 mm + S 15 mm) * T 1 (saP S mm 0) + T 0 (saP S mm 0) * (-S 14 mm) * T 1 (saP S mm 2)) (T 1 (saP S mm 2) * T 1 (saP S mm 0))) (fD (T 0 (saP S mm 2) * (S 14 mm + S 15 mm) * T 1 (saP S mm 0) + T 0 (saP S mm 0) * (-S 14 mm) * T 1 (saP S mm 2)) (T 1 (saP S mm 2) * T 1 (saP S mm 0)) * (S 15 mm)))), .long (zL (fD (fN (T 0 (saP S mm 2) * (S 14 mm + S 15 mm) * T 1 (saP S mm 0) + T 0 (saP S mm 0) * (-S 14 mm) * T 1 (saP S mm 2)) (T 1 (saP S mm 2) * T 1 (saP S mm 0))) (fD (T 0 (saP S mm 2) * (S 14 mm + S 15 mm) * T 1 (saP S mm 0) + T 0 (saP S mm 0) * (-S 14 mm) * T 1 (saP S mm 2)) (T 1 (saP S mm 2) * T 1 (saP S mm 0)) * (S 15 mm))))])) := by rw [h91]; exact g_up_s _ _ _
              refine lv_iconst (v := 0) hx hb dX7_tellBySet_186 (by decide) ?_
              refine lv_istore (lv' := [(10, .int 0), (9, .int (nI (saP S mm 1))), (7, .long (zL (S 15 mm))), (5, .long (zL (S 14 mm))), (4, .int (nI (saP S mm 2))), (3, .int (nI (saP S mm 1))), (2, .int (nI (saP S mm 0))), (0, .ref (md 0)), (1, .int (nI mm))]) hx hb dX7_tellBySet_187 hl (by decide) rfl (fun ls hl => ?_)
              refine lv_iconst (v := 0) hx hb dX7_tellBySet_189 (by decide) ?_
              refine lv_istore (lv' := [(11, .int 0), (10, .int 0), (9, .int (nI (saP S mm 1))), (7, .long (zL (S 15 mm))), (5, .long (zL (S 14 mm))), (4, .int (nI (saP S mm 2))), (3, .int (nI (saP S mm 1))), (2, .int (nI (saP S mm 0))), (0, .ref (md 0)), (1, .int (nI mm))]) hx hb dX7_tellBySet_190 hl (by decide) rfl (fun ls hl => ?_)
              have L192 : ∀ (n : Nat) (k : Nat) (H : Heap) (locs : List Loc) (ls : Array Slot), 4 ≤ k + n → (k ≤ 3) → g_P A G w90 H → va_S A s.heap H locs → lv_has ls 12 [(11, .int (nI k)), (10, .int (iL (mxT S T mm 1 k))), (0, .ref (md 0)), (1, .int (nI mm)), (9, .int (nI (saP S mm 1)))] → W p l e R s m args below meth c H locs (0) (0) Q (F0 m 192 ls []) := by
                intro n
                induction n with
                | zero =>
                  intro k H locs ls hfu hk3 hP hS hl
                  exact absurd hfu (by omega)
                | succ n ih_L192 =>
                  intro k H locs ls hfu hk3 hP hS hl
                  refine lv_iload hx hb dX7_tellBySet_192 (lv_at hl 0 rfl) ?_
                  refine lv_iconst (v := 3) hx hb dX7_tellBySet_194 (by decide) ?_
                  refine lv_icmp_ge (tgt := 243) hx hb dX7_tellBySet_195 (by decide) (fun c104 => ?_) (fun c104 => ?_)
                  · have zc104 : 3 ≤ k := (n3_le (k := k) (by omega)).mp c104
                    refine lv_aload_n hx hb dX7_tellBySet_243 rfl (lv_at hl 2 rfl) ?_
                    refine lv_iload hx hb dX7_tellBySet_244 (lv_at hl 4 rfl) ?_
                    refine lv_iload hx hb dX7_tellBySet_246 (lv_at hl 1 rfl) ?_
                    refine lv_iconst (v := 1) hx hb dX7_tellBySet_248 (by decide) ?_
                    refine lv_iadd hx hb dX7_tellBySet_249 ?_
                    refine lv_topi (fun v105 ev105 => ?_)
                    obtain rfl : v105 = iL (mxT S T mm 1 3 + 1) := by
                      rw [ev105]
                      rw [show k = 3 by omega]; exact iL_add _ 1
                    refine g_Vi (As := [.int (nI (saP S mm 1)), .int (iL (mxT S T mm 1 3 + 1))]) (rest := []) F hP hS (k_X7_tell l A G w90 md S th (fN (fN (T 0 (saP S mm 2) * (S 14 mm + S 15 mm) * T 1 (saP S mm 0) + T 0 (saP S mm 0) * (-S 14 mm) * T 1 (saP S mm 2)) (T 1 (saP S mm 2) * T 1 (saP S mm 0))) (fD (T 0 (saP S mm 2) * (S 14 mm + S 15 mm) * T 1 (saP S mm 0) + T 0 (saP S mm 0) * (-S 14 mm) * T 1 (saP S mm 2)) (T 1 (saP S mm 2) * T 1 (saP S mm 0)) * (S 15 mm))) (fD (fN (T 0 (saP S mm 2) * (S 14 mm + S 15 mm) * T 1 (saP S mm 0) + T 0 (saP S mm 0) * (-S 14 mm) * T 1 (saP S mm 2)) (T 1 (saP S mm 2) * T 1 (saP S mm 0))) (fD (T 0 (saP S mm 2) * (S 14 mm + S 15 mm) * T 1 (saP S mm 0) + T 0 (saP S mm 0) * (-S 14 mm) * T 1 (saP S mm 2)) (T 1 (saP S mm 2) * T 1 (saP S mm 0)) * (S 15 mm))) Fm L (saP S mm 1) (iL (mxT S T mm 1 3 + 1)) f103 f100 f101 f102 Hj (by omega) (by omega) (by omega)) (cwV 2 hts gX7_tellBySet_X7_tell rfl rfl rfl cd_X7_tell ⟨by rw [hR]; exact Nat.le_of_ble_eq_true rfl, by rw [hR]; exact Nat.le_of_ble_eq_true rfl⟩) f103 rfl rfl rfl hl.1 (Nat.le_of_ble_eq_true rfl) dX7_tellBySet_250 ⟨by rw [hR]; exact Nat.le_of_ble_eq_true rfl, by rw [hR]; exact Nat.le_of_ble_eq_true rfl⟩ rfl (fun r106 w107 H locs h108 hP hS => ?_)
                    rw [h108.1]
                    rw [hQ]
                    refine g_zret F hP hS hlocks hr (by first | rfl | exact g_nb _) dX7_tellBySet_253 (by first | exact Nat.le_of_ble_eq_true rfl | omega) (by first | exact Nat.le_of_ble_eq_true rfl | omega) ?_
                    exact ⟨by rw [same.1, same.2], tell_sol Hj ⟨f103, f92, f93, f94, f95, f96, f97, f98, f99, f100, f101, f102⟩ (mFr_tr (mFr_tr (mFr_rf _ _) (mFr_se (i := 0) (by decide) h73)) (mFr_se (i := 0) (by decide) h91)) HT same.1.symm.symm same.2 (by rw [mxT_g (pl := 1) (by decide) v1 (fun j q1 q2 => by have b1 := (Ht.1 _ (hsk j)).2.2.2.2; have b2 : T 2 (saP S mm j) ≠ -1 := hU.2.2 j q1 q2; omega)]) rfl h108.2⟩
                  · have zc104 : k < 3 := by
                      rcases Nat.lt_or_ge k 3 with q | q
                      · exact q
                      · exact absurd ((n3_le (k := k) (by omega)).mpr q) c104
                    refine lv_aload_n hx hb dX7_tellBySet_198 rfl (lv_at hl 2 rfl) ?_
                    refine g_get F hP (C := RX7) (T := TX7) (N := 20) iX7 f103 rfl 14 (by decide) (List.mem_cons_of_mem _ (List.mem_append_left _ (List.mem_append_left _ (List.mem_of_getElem? (i := 0) rfl)))) (fun _ h9 => h9) rfl dX7_tellBySet_199 ?_
                    refine lv_iconst (v := 5) hx hb dX7_tellBySet_202 (by decide) ?_
                    refine lv_iload_n hx hb dX7_tellBySet_203 rfl (lv_at hl 3 rfl) ?_
                    refine lv_imul hx hb dX7_tellBySet_204 ?_
                    refine lv_topi (fun v109 ev109 => ?_)
                    obtain rfl : v109 = nI (5 * mm) := by
                      rw [ev109]
                      exact nI_mul 5 mm
                    refine lv_iload hx hb dX7_tellBySet_205 (lv_at hl 0 rfl) ?_
                    refine lv_iadd hx hb dX7_tellBySet_207 ?_
                    refine lv_topi (fun v110 ev110 => ?_)
                    obtain rfl : v110 = nI (5 * mm + k) := by
                      rw [ev110]
                      exact nI_add _ _
                    refine g_iald F hP f99 (vp_in_nI (n := 5 * mm + k) (by omega) (by decide)) dX7_tellBySet_208 ?_
                    rw [show (.int ((Fm 8) (nI (5 * mm + k) : Int32).toNatClampNeg) : Value) = .int (nI (saP S mm k)) from by rw [nI_clamp (n := 5 * mm + k) (by omega), q8 k zc104]]
                    refine lv_iload hx hb dX7_tellBySet_209 (lv_at hl 4 rfl) ?_
                    refine lv_icmp_eq (tgt := 237) hx hb dX7_tellBySet_211 (by decide) (fun c111 => ?_) (fun c111 => ?_)
                    · have yc111 : k = 1 := (heq k zc104).mp c111
                      have em : mxT S T mm 1 (k + 1) = mxT S T mm 1 k := if_pos yc111
                      obtain ⟨i112, ei112⟩ : ∃ y : Int32, y = nI k + (1) := ⟨_, rfl⟩
                      refine lv_iinc (v := i112) (lv' := [(11, .int i112), (10, .int (iL (mxT S T mm 1 k))), (0, .ref (md 0)), (1, .int (nI mm)), (9, .int (nI (saP S mm 1)))]) hx hb dX7_tellBySet_237 hl (k := 0) rfl (by rw [ei112]; rfl) (by decide) rfl (fun ls hl => ?_)
                      obtain rfl : i112 = nI (k + 1) := by
                        rw [ei112]
                        exact nI_1 k
                      refine lv_goto (tgt := 192) hx hb dX7_tellBySet_240 (by decide) ?_
                      rw [← em] at hl
                      exact ih_L192 (k + 1) H locs ls (by omega) (by omega) hP hS (lv_sub hl [0, 1, 2, 3, 4] rfl)
                    · have yc111 : k ≠ 1 := fun q => c111 ((heq k zc104).mpr q)
                      have em : mxT S T mm 1 (k + 1) = if mxT S T mm 1 k < T 2 (saP S mm k) then T 2 (saP S mm k) else mxT S T mm 1 k := if_neg yc111
                      have bk := (Ht.1 _ (hsk k)).2.2.2.2
                      have bm := hmx k (by omega)
                      refine lv_iload hx hb dX7_tellBySet_214 (lv_at hl 1 rfl) ?_
                      refine lv_aload_n hx hb dX7_tellBySet_216 rfl (lv_at hl 2 rfl) ?_
                      refine g_get F hP (C := RX7) (T := TX7) (N := 20) iX7 f103 rfl 17 (by decide) (List.mem_cons_of_mem _ (List.mem_append_left _ (List.mem_append_left _ (List.mem_of_getElem? (i := 3) rfl)))) (fun _ h9 => h9) rfl dX7_tellBySet_217 ?_
                      refine lv_aload_n hx hb dX7_tellBySet_220 rfl (lv_at hl 2 rfl) ?_
                      refine g_get F hP (C := RX7) (T := TX7) (N := 20) iX7 f103 rfl 14 (by decide) (List.mem_cons_of_mem _ (List.mem_append_left _ (List.mem_append_left _ (List.mem_of_getElem? (i := 0) rfl)))) (fun _ h9 => h9) rfl dX7_tellBySet_221 ?_
                      refine lv_iconst (v := 5) hx hb dX7_tellBySet_224 (by decide) ?_
                      refine lv_iload_n hx hb dX7_tellBySet_225 rfl (lv_at hl 3 rfl) ?_
                      refine lv_imul hx hb dX7_tellBySet_226 ?_
                      refine lv_topi (fun v113 ev113 => ?_)
                      obtain rfl : v113 = nI (5 * mm) := by
                        rw [ev113]
                        exact nI_mul 5 mm
                      refine lv_iload hx hb dX7_tellBySet_227 (lv_at hl 0 rfl) ?_
                      refine lv_iadd hx hb dX7_tellBySet_229 ?_
                      refine lv_topi (fun v114 ev114 => ?_)
                      obtain rfl : v114 = nI (5 * mm + k) := by
                        rw [ev114]
                        exact nI_add _ _
                      refine g_iald F hP f99 (vp_in_nI (n := 5 * mm + k) (by omega) (by decide)) dX7_tellBySet_230 ?_
                      rw [show (.int ((Fm 8) (nI (5 * mm + k) : Int32).toNatClampNeg) : Value) = .int (nI (saP S mm k)) from by rw [nI_clamp (n := 5 * mm + k) (by omega), q8 k zc104]]
                      refine g_iald F hP f102 (vp_in_nI (by have := hsk k; omega) (by decide)) dX7_tellBySet_231 ?_
                      rw [show (.int ((Fm 11) (nI (saP S mm k) : Int32).toNatClampNeg) : Value) = .int (iL (T 2 (saP S mm k))) from by rw [nI_clamp (by have := hsk k; omega), (HT _ (hsk k)).2.2]]
                      refine va_mmax hx hb (by rw [hml]; exact hl.1.symm) hown (hts _ (List.mem_cons_of_mem _ (List.mem_append_left _ (List.mem_append_left _ (List.mem_of_getElem? (i := 4) rfl))))) (hts _ (List.mem_cons_of_mem _ (List.mem_append_left _ (List.mem_append_left _ (List.mem_of_getElem? (i := 5) rfl))))) (hts _ (List.mem_cons_of_mem _ (List.mem_append_left _ (List.mem_append_left _ (List.mem_of_getElem? (i := 6) rfl))))) (hts _ (List.mem_cons_of_mem _ (List.mem_append_left _ (List.mem_append_left _ (List.mem_of_getElem? (i := 7) rfl))))) (by rw [hR]; exact Nat.le_of_ble_eq_true rfl) (by rw [hR]; exact Nat.le_of_ble_eq_true rfl) (by rw [hR]; first | exact Nat.le_of_ble_eq_true rfl | (dsimp only; omega)) (by rw [hR]; first | exact Nat.le_of_ble_eq_true rfl | (dsimp only; omega)) dX7_tellBySet_232 ?_
                      refine lv_topi (fun v115 ev115 => ?_)
                      obtain rfl : v115 = iL (mxT S T mm 1 (k + 1)) := by
                        rw [ev115]
                        have q1 : iL (mxT S T mm 1 k) < iL (T 2 (saP S mm k)) ↔ mxT S T mm 1 k < T 2 (saP S mm k) := iL_lt (by omega) (by omega) (by omega) (by omega)
                        rw [em]
                        by_cases q2 : mxT S T mm 1 k < T 2 (saP S mm k)
                        · rw [if_pos q2, if_pos (q1.mpr q2)]
                        · rw [if_neg q2, if_neg (fun q => q2 (q1.mp q))]
                      refine lv_istore (lv' := [(10, .int (iL (mxT S T mm 1 (k + 1)))), (11, .int (nI k)), (0, .ref (md 0)), (1, .int (nI mm)), (9, .int (nI (saP S mm 1)))]) hx hb dX7_tellBySet_235 hl (by decide) rfl (fun ls hl => ?_)
                      obtain ⟨i116, ei116⟩ : ∃ y : Int32, y = nI k + (1) := ⟨_, rfl⟩
                      refine lv_iinc (v := i116) (lv' := [(11, .int i116), (10, .int (iL (mxT S T mm 1 (k + 1)))), (0, .ref (md 0)), (1, .int (nI mm)), (9, .int (nI (saP S mm 1)))]) hx hb dX7_tellBySet_237 hl (k := 1) rfl (by rw [ei116]; rfl) (by decide) rfl (fun ls hl => ?_)
                      obtain rfl : i116 = nI (k + 1) := by
                        rw [ei116]
                        exact nI_1 k
                      refine lv_goto (tgt := 192) hx hb dX7_tellBySet_240 (by decide) ?_
                      exact ih_L192 (k + 1)  H locs ls (by omega) (by omega) hP hS (lv_sub hl [0, 1, 2, 3, 4] rfl)
              exact L192 4 0  H locs ls (by omega) (by decide) hP hS (lv_sub hl [0, 1, 8, 9, 2] rfl)
            · exact absurd c87.symm n01
          · exact absurd c86 n12
        · exact absurd c68.symm n01
      · exact absurd c67 n12
  · have yc15 := of_decide_eq_false (g_b0.mp c15)
    have pl9 : pl = 0 := by
      rcases Nat.eq_zero_or_pos pl with q | q
      · exact q
      · exact absurd (Decidable.not_not.mp yc15) (hU.2.2 0 (by decide) (by omega))
    subst pl9
    have v1 : T 2 (saP S mm 1) ≠ -1 := hU.2.2 1 (by decide) (by decide)
    have v2 : T 2 (saP S mm 2) ≠ -1 := hU.2.2 2 (by decide) (by decide)
    have v0 : T 2 (saP S mm 0) = -1 := hU.2.1
    refine lv_iload_n hx hb dX7_tellBySet_66 rfl (lv_at hl 4 rfl) ?_
    refine lv_goto (tgt := 84) hx hb dX7_tellBySet_67 (by decide) ?_
    refine lv_istore (lv' := [(9, .int (nI (saP S mm 0))), (7, .long (zL (S 15 mm))), (5, .long (zL (S 14 mm))), (4, .int (nI (saP S mm 2))), (3, .int (nI (saP S mm 1))), (2, .int (nI (saP S mm 0))), (0, .ref (md 0)), (1, .int (nI mm))]) hx hb dX7_tellBySet_84 hl (by decide) rfl (fun ls hl => ?_)
    refine lv_iload hx hb dX7_tellBySet_86 (lv_at hl 0 rfl) ?_
    refine lv_iload hx hb dX7_tellBySet_88 (lv_at hl 3 rfl) ?_
    refine lv_icmp_ne (tgt := 106) hx hb dX7_tellBySet_90 (by decide) (fun c117 => ?_) (fun c117 => ?_)
    · refine lv_iload hx hb dX7_tellBySet_106 (lv_at hl 0 rfl) ?_
      refine lv_iload_n hx hb dX7_tellBySet_108 rfl (lv_at hl 5 rfl) ?_
      refine lv_icmp_ne (tgt := 130) hx hb dX7_tellBySet_109 (by decide) (fun c118 => ?_) (fun c118 => ?_)
      · exact absurd rfl c118
      · refine lv_aload_n hx hb dX7_tellBySet_112 rfl (lv_at hl 6 rfl) ?_
        refine lv_iload hx hb dX7_tellBySet_113 (lv_at hl 3 rfl) ?_
        refine lv_lload hx hb dX7_tellBySet_115 (lv_at hl 2 rfl) ?_
        refine lv_lload hx hb dX7_tellBySet_117 (lv_at hl 1 rfl) ?_
        refine lv_ladd hx hb dX7_tellBySet_119 ?_
        refine lv_topl (fun v119 ev119 => ?_)
        obtain rfl : v119 = zL (S 14 mm + S 15 mm) := by
          rw [ev119]
          exact zL_add _ _
        refine lv_iload_n hx hb dX7_tellBySet_120 rfl (lv_at hl 4 rfl) ?_
        refine lv_lload hx hb dX7_tellBySet_121 (lv_at hl 1 rfl) ?_
        refine lv_lneg hx hb dX7_tellBySet_123 ?_
        refine lv_topl (fun v120 ev120 => ?_)
        obtain rfl : v120 = zL (-S 15 mm) := by
          rw [ev120]
          exact zL_neg _
        obtain ⟨same, sb1, sb2, sb3, sb4, sb5, sb6⟩ := set_s Hi Ht hm (Or.inl ⟨rfl, rfl, rfl, rfl, rfl, rfl⟩)
        have sd := fD_pos (x := T 0 (saP S mm 2) * (S 14 mm + S 15 mm) * T 1 (saP S mm 1) + T 0 (saP S mm 1) * (-S 15 mm) * T 1 (saP S mm 2)) (Int.mul_ne_zero sb3 sb4)
        have sn1 := fN_le (T 0 (saP S mm 2) * (S 14 mm + S 15 mm) * T 1 (saP S mm 1) + T 0 (saP S mm 1) * (-S 15 mm) * T 1 (saP S mm 2)) (T 1 (saP S mm 2) * T 1 (saP S mm 1))
        have sd1 := fD_le (T 0 (saP S mm 2) * (S 14 mm + S 15 mm) * T 1 (saP S mm 1) + T 0 (saP S mm 1) * (-S 15 mm) * T 1 (saP S mm 2)) (T 1 (saP S mm 2) * T 1 (saP S mm 1))
        refine g_Vv (As := [.int (nI (saP S mm 2)), .long (zL (S 14 mm + S 15 mm)), .int (nI (saP S mm 1)), .long (zL (-S 15 mm))]) (rest := []) F hP hS (k_X7_sum l A G w md S _ _ _ Fm L (saP S mm 2) (saP S mm 1) (S 14 mm + S 15 mm) (-S 15 mm) (T 0 (saP S mm 2)) (T 1 (saP S mm 2)) (T 0 (saP S mm 1)) (T 1 (saP S mm 1)) hx0 hy9 hy10 (by omega) (by omega) (HT _ hs2).1 ((HT _ hs2).2.1.trans (if_neg v2)) (HT _ hs1).1 ((HT _ hs1).2.1.trans (if_neg v1)) sb3 sb4 (by omega) (by omega)) (cwV 4 hts gX7_tellBySet_X7_sum rfl rfl rfl cd_X7_sum ⟨by rw [hR]; exact Nat.le_of_ble_eq_true rfl, by rw [hR]; exact Nat.le_of_ble_eq_true rfl⟩) hx0 rfl rfl rfl hl.1 (Nat.le_of_ble_eq_true rfl) dX7_tellBySet_124 ⟨by rw [hR]; exact Nat.le_of_ble_eq_true rfl, by rw [hR]; exact Nat.le_of_ble_eq_true rfl⟩ rfl (fun w122 H locs h123 hP hS => ?_)
        have f124 : w122 (md 1) = some (.inl (G.2.1 0, 10, .inl (Fm 1))) := by rw [h123]; exact g_up_f hy1 ((fun q => absurd (Hj 1 0 (by decide) (by decide) q) (by decide)))
        have f125 : w122 (md 2) = some (.inl (G.2.1 0, 10, .inl (Fm 2))) := by rw [h123]; exact g_up_f hy2 ((fun q => absurd (Hj 2 0 (by decide) (by decide) q) (by decide)))
        have f126 : w122 (md 3) = some (.inl (G.2.1 2, 10, .inl (Fm 3))) := by rw [h123]; exact g_up_f hy3 ((fun q => absurd (Hj 3 0 (by decide) (by decide) q) (by decide)))
        have f127 : w122 (md 4) = some (.inl (G.2.1 0, 64, .inl (Fm 4))) := by rw [h123]; exact g_up_f hy4 ((fun q => absurd (Hj 4 0 (by decide) (by decide) q) (by decide)))
        have f128 : w122 (md 5) = some (.inl (G.2.1 2, 16, .inl (Fm 5))) := by rw [h123]; exact g_up_f hy5 ((fun q => absurd (Hj 5 0 (by decide) (by decide) q) (by decide)))
        have f129 : w122 (md 6) = some (.inl (G.2.1 0, 16, .inl (Fm 6))) := by rw [h123]; exact g_up_f hy6 ((fun q => absurd (Hj 6 0 (by decide) (by decide) q) (by decide)))
        have f130 : w122 (md 7) = some (.inl (G.2.1 0, 16, .inl (Fm 7))) := by rw [h123]; exact g_up_f hy7 ((fun q => absurd (Hj 7 0 (by decide) (by decide) q) (by decide)))
        have f131 : w122 (md 8) = some (.inl (G.2.1 0, 20, .inl (Fm 8))) := by rw [h123]; exact g_up_f hy8 ((fun q => absurd (Hj 8 0 (by decide) (by decide) q) (by decide)))
        have f132 : w122 (md 9) = some (.inl (G.2.1 1, 10, .inr (.inl (L 0)))) := by rw [h123]; exact g_up_f hy9 ((fun q => absurd (Hj 9 0 (by decide) (by decide) q) (by decide)))
        have f133 : w122 (md 10) = some (.inl (G.2.1 1, 10, .inr (.inl (L 1)))) := by rw [h123]; exact g_up_f hy10 ((fun q => absurd (Hj 10 0 (by decide) (by decide) q) (by decide)))
        have f134 : w122 (md 11) = some (.inl (G.2.1 0, 10, .inl (Fm 11))) := by rw [h123]; exact g_up_f hy11 ((fun q => absurd (Hj 11 0 (by decide) (by decide) q) (by decide)))
        have f135 : w122 (md 0) = some (.inr (8, [.int th, .int (iL (S 0 0)), .ref (md 1), .ref (md 2), .ref (md 3), .int (iL (S 0 4)), .int (iL (S 0 5)), .int (iL (S 0 1)), .ref (md 4), .ref (md 5), .int (iL (S 0 2)), .ref (md 6), .ref (md 7), .int (iL (S 0 3)), .ref (md 8), .ref (md 9), .ref (md 10), .ref (md 11), .long (zL (fN (T 0 (saP S mm 2) * (S 14 mm + S 15 mm) * T 1 (saP S mm 1) + T 0 (saP S mm 1) * (-S 15 mm) * T 1 (saP S mm 2)) (T 1 (saP S mm 2) * T 1 (saP S mm 1)))), .long (zL (fD (T 0 (saP S mm 2) * (S 14 mm + S 15 mm) * T 1 (saP S mm 1) + T 0 (saP S mm 1) * (-S 15 mm) * T 1 (saP S mm 2)) (T 1 (saP S mm 2) * T 1 (saP S mm 1))))])) := by rw [h123]; exact g_up_s _ _ _
        refine lv_goto (tgt := 145) hx hb dX7_tellBySet_127 (by decide) ?_
        refine lv_aload_n hx hb dX7_tellBySet_145 rfl (lv_at hl 6 rfl) ?_
        refine lv_aload_n hx hb dX7_tellBySet_146 rfl (lv_at hl 6 rfl) ?_
        refine g_get F hP (C := RX7) (T := TX7) (N := 20) iX7 f135 rfl 18 (by decide) (List.mem_cons_of_mem _ (List.mem_append_left _ (List.mem_append_left _ (List.mem_of_getElem? (i := 1) rfl)))) (fun _ h9 => h9) rfl dX7_tellBySet_147 ?_
        refine lv_aload_n hx hb dX7_tellBySet_150 rfl (lv_at hl 6 rfl) ?_
        refine g_get F hP (C := RX7) (T := TX7) (N := 20) iX7 f135 rfl 19 (by decide) (List.mem_cons_of_mem _ (List.mem_append_left _ (List.mem_append_left _ (List.mem_of_getElem? (i := 2) rfl)))) (fun _ h9 => h9) rfl dX7_tellBySet_151 ?_
        refine lv_iload hx hb dX7_tellBySet_154 (lv_at hl 0 rfl) ?_
        refine lv_iload hx hb dX7_tellBySet_156 (lv_at hl 3 rfl) ?_
        refine lv_icmp_ne (tgt := 169) hx hb dX7_tellBySet_158 (by decide) (fun c136 => ?_) (fun c136 => ?_)
        · refine lv_iload hx hb dX7_tellBySet_169 (lv_at hl 0 rfl) ?_
          refine lv_iload_n hx hb dX7_tellBySet_171 rfl (lv_at hl 5 rfl) ?_
          refine lv_icmp_ne (tgt := 180) hx hb dX7_tellBySet_172 (by decide) (fun c137 => ?_) (fun c137 => ?_)
          · exact absurd rfl c137
          · refine lv_lload hx hb dX7_tellBySet_175 (lv_at hl 2 rfl) ?_
            refine lv_goto (tgt := 182) hx hb dX7_tellBySet_177 (by decide) ?_
            refine lv_lmul hx hb dX7_tellBySet_182 ?_
            refine lv_topl (fun v138 ev138 => ?_)
            obtain rfl : v138 = zL (fD (T 0 (saP S mm 2) * (S 14 mm + S 15 mm) * T 1 (saP S mm 1) + T 0 (saP S mm 1) * (-S 15 mm) * T 1 (saP S mm 2)) (T 1 (saP S mm 2) * T 1 (saP S mm 1)) * (S 14 mm)) := by
              rw [ev138]
              exact zL_mul _ _
            have hbY : (fD (T 0 (saP S mm 2) * (S 14 mm + S 15 mm) * T 1 (saP S mm 1) + T 0 (saP S mm 1) * (-S 15 mm) * T 1 (saP S mm 2)) (T 1 (saP S mm 2) * T 1 (saP S mm 1)) * (S 14 mm)).natAbs ≤ 1000000000000 * 400 := by
              rw [Int.natAbs_mul]
              exact Nat.mul_le_mul (by omega) (by omega)
            have hnN := fN_le (fN (T 0 (saP S mm 2) * (S 14 mm + S 15 mm) * T 1 (saP S mm 1) + T 0 (saP S mm 1) * (-S 15 mm) * T 1 (saP S mm 2)) (T 1 (saP S mm 2) * T 1 (saP S mm 1))) (fD (T 0 (saP S mm 2) * (S 14 mm + S 15 mm) * T 1 (saP S mm 1) + T 0 (saP S mm 1) * (-S 15 mm) * T 1 (saP S mm 2)) (T 1 (saP S mm 2) * T 1 (saP S mm 1)) * (S 14 mm))
            have hnD := fD_le (fN (T 0 (saP S mm 2) * (S 14 mm + S 15 mm) * T 1 (saP S mm 1) + T 0 (saP S mm 1) * (-S 15 mm) * T 1 (saP S mm 2)) (T 1 (saP S mm 2) * T 1 (saP S mm 1))) (fD (T 0 (saP S mm 2) * (S 14 mm + S 15 mm) * T 1 (saP S mm 1) + T 0 (saP S mm 1) * (-S 15 mm) * T 1 (saP S mm 2)) (T 1 (saP S mm 2) * T 1 (saP S mm 1)) * (S 14 mm))
            refine g_Vv (As := [.long (zL (fN (T 0 (saP S mm 2) * (S 14 mm + S 15 mm) * T 1 (saP S mm 1) + T 0 (saP S mm 1) * (-S 15 mm) * T 1 (saP S mm 2)) (T 1 (saP S mm 2) * T 1 (saP S mm 1)))), .long (zL (fD (T 0 (saP S mm 2) * (S 14 mm + S 15 mm) * T 1 (saP S mm 1) + T 0 (saP S mm 1) * (-S 15 mm) * T 1 (saP S mm 2)) (T 1 (saP S mm 2) * T 1 (saP S mm 1)) * (S 14 mm)))]) (rest := []) F hP hS (k_X7_make l A G w122 md S _ _ _ Fm L (fN (T 0 (saP S mm 2) * (S 14 mm + S 15 mm) * T 1 (saP S mm 1) + T 0 (saP S mm 1) * (-S 15 mm) * T 1 (saP S mm 2)) (T 1 (saP S mm 2) * T 1 (saP S mm 1))) (fD (T 0 (saP S mm 2) * (S 14 mm + S 15 mm) * T 1 (saP S mm 1) + T 0 (saP S mm 1) * (-S 15 mm) * T 1 (saP S mm 2)) (T 1 (saP S mm 2) * T 1 (saP S mm 1)) * (S 14 mm)) f135 (Int.mul_ne_zero (by omega) (by omega)) (by omega) (by omega)) (cwV 2 hts gX7_tellBySet_X7_make rfl rfl rfl cd_X7_make ⟨by rw [hR]; exact Nat.le_of_ble_eq_true rfl, by rw [hR]; exact Nat.le_of_ble_eq_true rfl⟩) f135 rfl rfl rfl hl.1 (Nat.le_of_ble_eq_true rfl) dX7_tellBySet_183 ⟨by rw [hR]; exact Nat.le_of_ble_eq_true rfl, by rw [hR]; exact Nat.le_of_ble_eq_true rfl⟩ rfl (fun w140 H locs h141 hP hS => ?_)
            have f142 : w140 (md 1) = some (.inl (G.2.1 0, 10, .inl (Fm 1))) := by rw [h141]; exact g_up_f f124 ((fun q => absurd (Hj 1 0 (by decide) (by decide) q) (by decide)))
            have f143 : w140 (md 2) = some (.inl (G.2.1 0, 10, .inl (Fm 2))) := by rw [h141]; exact g_up_f f125 ((fun q => absurd (Hj 2 0 (by decide) (by decide) q) (by decide)))
            have f144 : w140 (md 3) = some (.inl (G.2.1 2, 10, .inl (Fm 3))) := by rw [h141]; exact g_up_f f126 ((fun q => absurd (Hj 3 0 (by decide) (by decide) q) (by decide)))
            have f145 : w140 (md 4) = some (.inl (G.2.1 0, 64, .inl (Fm 4))) := by rw [h141]; exact g_up_f f127 ((fun q => absurd (Hj 4 0 (by decide) (by decide) q) (by decide)))
            have f146 : w140 (md 5) = some (.inl (G.2.1 2, 16, .inl (Fm 5))) := by rw [h141]; exact g_up_f f128 ((fun q => absurd (Hj 5 0 (by decide) (by decide) q) (by decide)))
            have f147 : w140 (md 6) = some (.inl (G.2.1 0, 16, .inl (Fm 6))) := by rw [h141]; exact g_up_f f129 ((fun q => absurd (Hj 6 0 (by decide) (by decide) q) (by decide)))
            have f148 : w140 (md 7) = some (.inl (G.2.1 0, 16, .inl (Fm 7))) := by rw [h141]; exact g_up_f f130 ((fun q => absurd (Hj 7 0 (by decide) (by decide) q) (by decide)))
            have f149 : w140 (md 8) = some (.inl (G.2.1 0, 20, .inl (Fm 8))) := by rw [h141]; exact g_up_f f131 ((fun q => absurd (Hj 8 0 (by decide) (by decide) q) (by decide)))
            have f150 : w140 (md 9) = some (.inl (G.2.1 1, 10, .inr (.inl (L 0)))) := by rw [h141]; exact g_up_f f132 ((fun q => absurd (Hj 9 0 (by decide) (by decide) q) (by decide)))
            have f151 : w140 (md 10) = some (.inl (G.2.1 1, 10, .inr (.inl (L 1)))) := by rw [h141]; exact g_up_f f133 ((fun q => absurd (Hj 10 0 (by decide) (by decide) q) (by decide)))
            have f152 : w140 (md 11) = some (.inl (G.2.1 0, 10, .inl (Fm 11))) := by rw [h141]; exact g_up_f f134 ((fun q => absurd (Hj 11 0 (by decide) (by decide) q) (by decide)))
            have f153 : w140 (md 0) = some (.inr (8, [.int th, .int (iL (S 0 0)), .ref (md 1), .ref (md 2), .ref (md 3), .int (iL (S 0 4)), .int (iL (S 0 5)), .int (iL (S 0 1)), .ref (md 4), .ref (md 5), .int (iL (S 0 2)), .ref (md 6), .ref (md 7), .int (iL (S 0 3)), .ref (md 8), .ref (md 9), .ref (md 10), .ref (md 11), .long (zL (fN (fN (T 0 (saP S mm 2) * (S 14 mm + S 15 mm) * T 1 (saP S mm 1) + T 0 (saP S mm 1) * (-S 15 mm) * T 1 (saP S mm 2)) (T 1 (saP S mm 2) * T 1 (saP S mm 1))) (fD (T 0 (saP S mm 2) * (S 14 mm + S 15 mm) * T 1 (saP S mm 1) + T 0 (saP S mm 1) * (-S 15 mm) * T 1 (saP S mm 2)) (T 1 (saP S mm 2) * T 1 (saP S mm 1)) * (S 14 mm)))), .long (zL (fD (fN (T 0 (saP S mm 2) * (S 14 mm + S 15 mm) * T 1 (saP S mm 1) + T 0 (saP S mm 1) * (-S 15 mm) * T 1 (saP S mm 2)) (T 1 (saP S mm 2) * T 1 (saP S mm 1))) (fD (T 0 (saP S mm 2) * (S 14 mm + S 15 mm) * T 1 (saP S mm 1) + T 0 (saP S mm 1) * (-S 15 mm) * T 1 (saP S mm 2)) (T 1 (saP S mm 2) * T 1 (saP S mm 1)) * (S 14 mm))))])) := by rw [h141]; exact g_up_s _ _ _
            refine lv_iconst (v := 0) hx hb dX7_tellBySet_186 (by decide) ?_
            refine lv_istore (lv' := [(10, .int 0), (9, .int (nI (saP S mm 0))), (7, .long (zL (S 15 mm))), (5, .long (zL (S 14 mm))), (4, .int (nI (saP S mm 2))), (3, .int (nI (saP S mm 1))), (2, .int (nI (saP S mm 0))), (0, .ref (md 0)), (1, .int (nI mm))]) hx hb dX7_tellBySet_187 hl (by decide) rfl (fun ls hl => ?_)
            refine lv_iconst (v := 0) hx hb dX7_tellBySet_189 (by decide) ?_
            refine lv_istore (lv' := [(11, .int 0), (10, .int 0), (9, .int (nI (saP S mm 0))), (7, .long (zL (S 15 mm))), (5, .long (zL (S 14 mm))), (4, .int (nI (saP S mm 2))), (3, .int (nI (saP S mm 1))), (2, .int (nI (saP S mm 0))), (0, .ref (md 0)), (1, .int (nI mm))]) hx hb dX7_tellBySet_190 hl (by decide) rfl (fun ls hl => ?_)
            have L192 : ∀ (n : Nat) (k : Nat) (H : Heap) (locs : List Loc) (ls : Array Slot), 4 ≤ k + n → (k ≤ 3) → g_P A G w140 H → va_S A s.heap H locs → lv_has ls 12 [(11, .int (nI k)), (10, .int (iL (mxT S T mm 0 k))), (0, .ref (md 0)), (1, .int (nI mm)), (9, .int (nI (saP S mm 0)))] → W p l e R s m args below meth c H locs (0) (0) Q (F0 m 192 ls []) := by
              intro n
              induction n with
              | zero =>
                intro k H locs ls hfu hk3 hP hS hl
                exact absurd hfu (by omega)
              | succ n ih_L192 =>
                intro k H locs ls hfu hk3 hP hS hl
                refine lv_iload hx hb dX7_tellBySet_192 (lv_at hl 0 rfl) ?_
                refine lv_iconst (v := 3) hx hb dX7_tellBySet_194 (by decide) ?_
                refine lv_icmp_ge (tgt := 243) hx hb dX7_tellBySet_195 (by decide) (fun c154 => ?_) (fun c154 => ?_)
                · have zc154 : 3 ≤ k := (n3_le (k := k) (by omega)).mp c154
                  refine lv_aload_n hx hb dX7_tellBySet_243 rfl (lv_at hl 2 rfl) ?_
                  refine lv_iload hx hb dX7_tellBySet_244 (lv_at hl 4 rfl) ?_
                  refine lv_iload hx hb dX7_tellBySet_246 (lv_at hl 1 rfl) ?_
                  refine lv_iconst (v := 1) hx hb dX7_tellBySet_248 (by decide) ?_
                  refine lv_iadd hx hb dX7_tellBySet_249 ?_
                  refine lv_topi (fun v155 ev155 => ?_)
                  obtain rfl : v155 = iL (mxT S T mm 0 3 + 1) := by
                    rw [ev155]
                    rw [show k = 3 by omega]; exact iL_add _ 1
                  refine g_Vi (As := [.int (nI (saP S mm 0)), .int (iL (mxT S T mm 0 3 + 1))]) (rest := []) F hP hS (k_X7_tell l A G w140 md S th (fN (fN (T 0 (saP S mm 2) * (S 14 mm + S 15 mm) * T 1 (saP S mm 1) + T 0 (saP S mm 1) * (-S 15 mm) * T 1 (saP S mm 2)) (T 1 (saP S mm 2) * T 1 (saP S mm 1))) (fD (T 0 (saP S mm 2) * (S 14 mm + S 15 mm) * T 1 (saP S mm 1) + T 0 (saP S mm 1) * (-S 15 mm) * T 1 (saP S mm 2)) (T 1 (saP S mm 2) * T 1 (saP S mm 1)) * (S 14 mm))) (fD (fN (T 0 (saP S mm 2) * (S 14 mm + S 15 mm) * T 1 (saP S mm 1) + T 0 (saP S mm 1) * (-S 15 mm) * T 1 (saP S mm 2)) (T 1 (saP S mm 2) * T 1 (saP S mm 1))) (fD (T 0 (saP S mm 2) * (S 14 mm + S 15 mm) * T 1 (saP S mm 1) + T 0 (saP S mm 1) * (-S 15 mm) * T 1 (saP S mm 2)) (T 1 (saP S mm 2) * T 1 (saP S mm 1)) * (S 14 mm))) Fm L (saP S mm 0) (iL (mxT S T mm 0 3 + 1)) f153 f150 f151 f152 Hj (by omega) (by omega) (by omega)) (cwV 2 hts gX7_tellBySet_X7_tell rfl rfl rfl cd_X7_tell ⟨by rw [hR]; exact Nat.le_of_ble_eq_true rfl, by rw [hR]; exact Nat.le_of_ble_eq_true rfl⟩) f153 rfl rfl rfl hl.1 (Nat.le_of_ble_eq_true rfl) dX7_tellBySet_250 ⟨by rw [hR]; exact Nat.le_of_ble_eq_true rfl, by rw [hR]; exact Nat.le_of_ble_eq_true rfl⟩ rfl (fun r156 w157 H locs h158 hP hS => ?_)
                  rw [h158.1]
                  rw [hQ]
                  refine g_zret F hP hS hlocks hr (by first | rfl | exact g_nb _) dX7_tellBySet_253 (by first | exact Nat.le_of_ble_eq_true rfl | omega) (by first | exact Nat.le_of_ble_eq_true rfl | omega) ?_
                  exact ⟨by rw [same.1, same.2], tell_sol Hj ⟨f153, f142, f143, f144, f145, f146, f147, f148, f149, f150, f151, f152⟩ (mFr_tr (mFr_tr (mFr_rf _ _) (mFr_se (i := 0) (by decide) h123)) (mFr_se (i := 0) (by decide) h141)) HT same.1.symm.symm same.2 (by rw [mxT_g (pl := 0) (by decide) v0 (fun j q1 q2 => by have b1 := (Ht.1 _ (hsk j)).2.2.2.2; have b2 : T 2 (saP S mm j) ≠ -1 := hU.2.2 j q1 q2; omega)]) rfl h158.2⟩
                · have zc154 : k < 3 := by
                    rcases Nat.lt_or_ge k 3 with q | q
                    · exact q
                    · exact absurd ((n3_le (k := k) (by omega)).mpr q) c154
                  refine lv_aload_n hx hb dX7_tellBySet_198 rfl (lv_at hl 2 rfl) ?_
                  refine g_get F hP (C := RX7) (T := TX7) (N := 20) iX7 f153 rfl 14 (by decide) (List.mem_cons_of_mem _ (List.mem_append_left _ (List.mem_append_left _ (List.mem_of_getElem? (i := 0) rfl)))) (fun _ h9 => h9) rfl dX7_tellBySet_199 ?_
                  refine lv_iconst (v := 5) hx hb dX7_tellBySet_202 (by decide) ?_
                  refine lv_iload_n hx hb dX7_tellBySet_203 rfl (lv_at hl 3 rfl) ?_
                  refine lv_imul hx hb dX7_tellBySet_204 ?_
                  refine lv_topi (fun v159 ev159 => ?_)
                  obtain rfl : v159 = nI (5 * mm) := by
                    rw [ev159]
                    exact nI_mul 5 mm
                  refine lv_iload hx hb dX7_tellBySet_205 (lv_at hl 0 rfl) ?_
                  refine lv_iadd hx hb dX7_tellBySet_207 ?_
                  refine lv_topi (fun v160 ev160 => ?_)
                  obtain rfl : v160 = nI (5 * mm + k) := by
                    rw [ev160]
                    exact nI_add _ _
                  refine g_iald F hP f149 (vp_in_nI (n := 5 * mm + k) (by omega) (by decide)) dX7_tellBySet_208 ?_
                  rw [show (.int ((Fm 8) (nI (5 * mm + k) : Int32).toNatClampNeg) : Value) = .int (nI (saP S mm k)) from by rw [nI_clamp (n := 5 * mm + k) (by omega), q8 k zc154]]
                  refine lv_iload hx hb dX7_tellBySet_209 (lv_at hl 4 rfl) ?_
                  refine lv_icmp_eq (tgt := 237) hx hb dX7_tellBySet_211 (by decide) (fun c161 => ?_) (fun c161 => ?_)
                  · have yc161 : k = 0 := (heq k zc154).mp c161
                    have em : mxT S T mm 0 (k + 1) = mxT S T mm 0 k := if_pos yc161
                    obtain ⟨i162, ei162⟩ : ∃ y : Int32, y = nI k + (1) := ⟨_, rfl⟩
                    refine lv_iinc (v := i162) (lv' := [(11, .int i162), (10, .int (iL (mxT S T mm 0 k))), (0, .ref (md 0)), (1, .int (nI mm)), (9, .int (nI (saP S mm 0)))]) hx hb dX7_tellBySet_237 hl (k := 0) rfl (by rw [ei162]; rfl) (by decide) rfl (fun ls hl => ?_)
                    obtain rfl : i162 = nI (k + 1) := by
                      rw [ei162]
                      exact nI_1 k
                    refine lv_goto (tgt := 192) hx hb dX7_tellBySet_240 (by decide) ?_
                    rw [← em] at hl
                    exact ih_L192 (k + 1) H locs ls (by omega) (by omega) hP hS (lv_sub hl [0, 1, 2, 3, 4] rfl)
                  · have yc161 : k ≠ 0 := fun q => c161 ((heq k zc154).mpr q)
                    have em : mxT S T mm 0 (k + 1) = if mxT S T mm 0 k < T 2 (saP S mm k) then T 2 (saP S mm k) else mxT S T mm 0 k := if_neg yc161
                    have bk := (Ht.1 _ (hsk k)).2.2.2.2
                    have bm := hmx k (by omega)
                    refine lv_iload hx hb dX7_tellBySet_214 (lv_at hl 1 rfl) ?_
                    refine lv_aload_n hx hb dX7_tellBySet_216 rfl (lv_at hl 2 rfl) ?_
                    refine g_get F hP (C := RX7) (T := TX7) (N := 20) iX7 f153 rfl 17 (by decide) (List.mem_cons_of_mem _ (List.mem_append_left _ (List.mem_append_left _ (List.mem_of_getElem? (i := 3) rfl)))) (fun _ h9 => h9) rfl dX7_tellBySet_217 ?_
                    refine lv_aload_n hx hb dX7_tellBySet_220 rfl (lv_at hl 2 rfl) ?_
                    refine g_get F hP (C := RX7) (T := TX7) (N := 20) iX7 f153 rfl 14 (by decide) (List.mem_cons_of_mem _ (List.mem_append_left _ (List.mem_append_left _ (List.mem_of_getElem? (i := 0) rfl)))) (fun _ h9 => h9) rfl dX7_tellBySet_221 ?_
                    refine lv_iconst (v := 5) hx hb dX7_tellBySet_224 (by decide) ?_
                    refine lv_iload_n hx hb dX7_tellBySet_225 rfl (lv_at hl 3 rfl) ?_
                    refine lv_imul hx hb dX7_tellBySet_226 ?_
                    refine lv_topi (fun v163 ev163 => ?_)
                    obtain rfl : v163 = nI (5 * mm) := by
                      rw [ev163]
                      exact nI_mul 5 mm
                    refine lv_iload hx hb dX7_tellBySet_227 (lv_at hl 0 rfl) ?_
                    refine lv_iadd hx hb dX7_tellBySet_229 ?_
                    refine lv_topi (fun v164 ev164 => ?_)
                    obtain rfl : v164 = nI (5 * mm + k) := by
                      rw [ev164]
                      exact nI_add _ _
                    refine g_iald F hP f149 (vp_in_nI (n := 5 * mm + k) (by omega) (by decide)) dX7_tellBySet_230 ?_
                    rw [show (.int ((Fm 8) (nI (5 * mm + k) : Int32).toNatClampNeg) : Value) = .int (nI (saP S mm k)) from by rw [nI_clamp (n := 5 * mm + k) (by omega), q8 k zc154]]
                    refine g_iald F hP f152 (vp_in_nI (by have := hsk k; omega) (by decide)) dX7_tellBySet_231 ?_
                    rw [show (.int ((Fm 11) (nI (saP S mm k) : Int32).toNatClampNeg) : Value) = .int (iL (T 2 (saP S mm k))) from by rw [nI_clamp (by have := hsk k; omega), (HT _ (hsk k)).2.2]]
                    refine va_mmax hx hb (by rw [hml]; exact hl.1.symm) hown (hts _ (List.mem_cons_of_mem _ (List.mem_append_left _ (List.mem_append_left _ (List.mem_of_getElem? (i := 4) rfl))))) (hts _ (List.mem_cons_of_mem _ (List.mem_append_left _ (List.mem_append_left _ (List.mem_of_getElem? (i := 5) rfl))))) (hts _ (List.mem_cons_of_mem _ (List.mem_append_left _ (List.mem_append_left _ (List.mem_of_getElem? (i := 6) rfl))))) (hts _ (List.mem_cons_of_mem _ (List.mem_append_left _ (List.mem_append_left _ (List.mem_of_getElem? (i := 7) rfl))))) (by rw [hR]; exact Nat.le_of_ble_eq_true rfl) (by rw [hR]; exact Nat.le_of_ble_eq_true rfl) (by rw [hR]; first | exact Nat.le_of_ble_eq_true rfl | (dsimp only; omega)) (by rw [hR]; first | exact Nat.le_of_ble_eq_true rfl | (dsimp only; omega)) dX7_tellBySet_232 ?_
                    refine lv_topi (fun v165 ev165 => ?_)
                    obtain rfl : v165 = iL (mxT S T mm 0 (k + 1)) := by
                      rw [ev165]
                      have q1 : iL (mxT S T mm 0 k) < iL (T 2 (saP S mm k)) ↔ mxT S T mm 0 k < T 2 (saP S mm k) := iL_lt (by omega) (by omega) (by omega) (by omega)
                      rw [em]
                      by_cases q2 : mxT S T mm 0 k < T 2 (saP S mm k)
                      · rw [if_pos q2, if_pos (q1.mpr q2)]
                      · rw [if_neg q2, if_neg (fun q => q2 (q1.mp q))]
                    refine lv_istore (lv' := [(10, .int (iL (mxT S T mm 0 (k + 1)))), (11, .int (nI k)), (0, .ref (md 0)), (1, .int (nI mm)), (9, .int (nI (saP S mm 0)))]) hx hb dX7_tellBySet_235 hl (by decide) rfl (fun ls hl => ?_)
                    obtain ⟨i166, ei166⟩ : ∃ y : Int32, y = nI k + (1) := ⟨_, rfl⟩
                    refine lv_iinc (v := i166) (lv' := [(11, .int i166), (10, .int (iL (mxT S T mm 0 (k + 1)))), (0, .ref (md 0)), (1, .int (nI mm)), (9, .int (nI (saP S mm 0)))]) hx hb dX7_tellBySet_237 hl (k := 1) rfl (by rw [ei166]; rfl) (by decide) rfl (fun ls hl => ?_)
                    obtain rfl : i166 = nI (k + 1) := by
                      rw [ei166]
                      exact nI_1 k
                    refine lv_goto (tgt := 192) hx hb dX7_tellBySet_240 (by decide) ?_
                    exact ih_L192 (k + 1)  H locs ls (by omega) (by omega) hP hS (lv_sub hl [0, 1, 2, 3, 4] rfl)
            exact L192 4 0  H locs ls (by omega) (by decide) hP hS (lv_sub hl [0, 1, 8, 9, 2] rfl)
        · exact absurd c136 n02
    · exact absurd c117 n02
