theorem cd_X7_sum : yX7_sum.cls = RX7 ∧ yX7_sum.cls ≠ "java/lang/invoke/MethodHandle" ∧ yX7_sum.cls ≠ "java/lang/invoke/VarHandle" ∧ (parseMethodDescriptor yX7_sum.desc).map (fun d => d.parameters.length) = some 4 := by decide +kernel
set_option maxHeartbeats 4000000 in
set_option maxRecDepth 100000 in
theorem k_X7_tellBySet (l : Launch) (A : Nat → Prop) (G : g_C) (w : g_W) (md : Nat → Nat) (S : Sg) (th : Int32) (tp bt : Int64) (Fm : Nat → Nat → Int32) (L : Nat → Nat → Int64) (T : Sg) (m pl : Nat) (Hm : modW G w md S th tp bt Fm L) (Hj : modI md) (Hf : modF S Fm) (Hi : invS S) (Ht : invT S T) (HT : modT S T Fm L) (hm : (m : Int) < S 0 3) (hU : tUnk S T 1 m pl) : mI l yX7_tellBySet wsX7_tellBySet ({ frames := 4, cells := 0, slots := 0, locals := 121 } : Room) [.ref (md 0), .int (nI m)] A G w (fun r w' => r = g_b (decide (¬ (1000000 < (fN (tX S T 1 m pl) (tY S T 1 m pl)).natAbs ∨ 1000000 < fD (tX S T 1 m pl) (tY S T 1 m pl)))) ∧ solP G md w w' S (tTell S T 1 m pl) th Fm) 0 0 := by
  refine g_ofI (cc := cX7_tellBySet) (maxL := 12) (ret := (some .boolean)) (own := RX7) (by decide) rfl rfl (Nat.le_of_ble_eq_true rfl) ?_
  intro p e R s m args below meth c Q ls hR F hP hS hlocks hr hnm0 hQ hl
  obtain ⟨⟨hx, hb, hml, hown, hts⟩, hK, hZ, hA⟩ := id F
  generalize hH0 : s.heap = H at hP ⊢
  have hS : va_S A s.heap H [] := by rw [← hH0]; exact va_S.rf
  generalize ([] : List Loc) = locs at hS ⊢
  have hl : lv_has ls 12 [(0, .ref (md 0)), (1, .int (nI m))] := hl
  have iX7 : ∀ w ∈ u_ws RX7 TX7 20, w ∈ wsX7_tellBySet := fun w h => List.mem_cons_of_mem _ (List.mem_append_right _ (h))
  obtain ⟨hx0, hy1, hy2, hy3, hy4, hy5, hy6, hy7, hy8, hy9, hy10, hy11⟩ := id Hm
  have hi := Hi.1
  have ps := Hi.2.2.2.2 m hm
  have hs0 : ((saP S m 0 : Nat) : Int) < S 0 0 := tSa_lt (b := 1) Hi (by decide) hm 0
  have hs1 : ((saP S m 1 : Nat) : Int) < S 0 0 := tSa_lt (b := 1) Hi (by decide) hm 1
  have hs2 : ((saP S m 2 : Nat) : Int) < S 0 0 := tSa_lt (b := 1) Hi (by decide) hm 2
  have hsk : ∀ k, ((saP S m k : Nat) : Int) < S 0 0 := fun k => tSa_lt (b := 1) Hi (by decide) hm k
  have q8 : ∀ k, k < 3 → Fm 8 (5 * m + k) = nI (saP S m k) := fun k hk => by
    rcases (show k = 0 ∨ k = 1 ∨ k = 2 by omega) with rfl | rfl | rfl
    · rw [Nat.add_zero, (Hf.2.2.2.1 m hm).1, iL_nn (by omega)]; rfl
    · rw [(Hf.2.2.2.1 m hm).2.1, iL_nn (by omega)]; rfl
    · rw [(Hf.2.2.2.1 m hm).2.2.1, iL_nn (by omega)]; rfl
  have t0 := Ht.1 _ hs0
  have t1 := Ht.1 _ hs1
  have t2 := Ht.1 _ hs2
  have n01 : nI (saP S m 0) ≠ nI (saP S m 1) := fun q => by
    have q1 := (nI_eq (a := saP S m 0) (b := saP S m 1) (by omega) (by omega)).mp q
    have q2 : (S 11 m).toNat = (S 12 m).toNat := q1
    omega
  have n02 : nI (saP S m 0) ≠ nI (saP S m 2) := fun q => by
    have q1 := (nI_eq (a := saP S m 0) (b := saP S m 2) (by omega) (by omega)).mp q
    have q2 : (S 11 m).toNat = (S 13 m).toNat := q1
    omega
  have n12 : nI (saP S m 1) ≠ nI (saP S m 2) := fun q => by
    have q1 := (nI_eq (a := saP S m 1) (b := saP S m 2) (by omega) (by omega)).mp q
    have q2 : (S 12 m).toNat = (S 13 m).toNat := q1
    omega
  have hp3 : pl < 3 := hU.1
  have hmx : ∀ k, k ≤ 3 → -1 ≤ mxT S T m pl k ∧ mxT S T m pl k ≤ 1000 := fun k => by
    induction k with
    | zero => intro _; exact ⟨(by decide : (-1 : Int) ≤ 0), (by decide : (0 : Int) ≤ 1000)⟩
    | succ k ih =>
      intro hk
      have h1 := ih (by omega)
      have h2 := (Ht.1 _ (hsk k)).2.2.2.2
      show -1 ≤ (if k = pl then mxT S T m pl k else if mxT S T m pl k < T 2 (saP S m k) then T 2 (saP S m k) else mxT S T m pl k) ∧ (if k = pl then mxT S T m pl k else if mxT S T m pl k < T 2 (saP S m k) then T 2 (saP S m k) else mxT S T m pl k) ≤ 1000
      split
      · exact h1
      · split <;> omega
  have heq : ∀ k, k < 3 → (nI (saP S m k) = nI (saP S m pl) ↔ k = pl) := fun k hk => ⟨fun q => by
    rcases (show k = 0 ∨ k = 1 ∨ k = 2 by omega) with rfl | rfl | rfl <;> rcases (show pl = 0 ∨ pl = 1 ∨ pl = 2 by omega) with rfl | rfl | rfl <;> first | rfl | exact absurd q n01 | exact absurd q n02 | exact absurd q n12 | exact absurd q.symm n01 | exact absurd q.symm n02 | exact absurd q.symm n12, fun q => by rw [q]⟩
  refine lv_aload_n hx hb dX7_tellBySet_0 rfl (lv_at hl 0 rfl) ?_
  refine g_get F hP (C := RX7) (T := TX7) (N := 20) iX7 hx0 rfl 14 (by decide) (List.mem_cons_of_mem _ (List.mem_append_left _ (List.mem_append_left _ (List.mem_of_getElem? (i := 0) rfl)))) (fun _ h9 => h9) rfl dX7_tellBySet_1 ?_
  refine lv_iconst (v := 5) hx hb dX7_tellBySet_4 (by decide) ?_
  refine lv_iload_n hx hb dX7_tellBySet_5 rfl (lv_at hl 1 rfl) ?_
  refine lv_imul hx hb dX7_tellBySet_6 ?_
  refine lv_topi (fun v1 ev1 => ?_)
  obtain rfl : v1 = nI (5 * m) := by
    rw [ev1]
    exact nI_mul 5 m
  refine g_iald F hP hy8 (vp_in_nI (n := 5 * m + 0) (by omega) (by decide)) dX7_tellBySet_7 ?_
  rw [show (.int ((Fm 8) (nI (5 * m) : Int32).toNatClampNeg) : Value) = .int (nI (saP S m 0)) from by rw [nI_clamp (n := 5 * m + 0) (by omega)]; exact congrArg Value.int (q8 0 (by decide))]
  refine lv_istore_n (lv' := [(2, .int (nI (saP S m 0))), (0, .ref (md 0)), (1, .int (nI m))]) hx hb dX7_tellBySet_8 rfl hl (by decide) rfl (fun ls hl => ?_)
  refine lv_aload_n hx hb dX7_tellBySet_9 rfl (lv_at hl 1 rfl) ?_
  refine g_get F hP (C := RX7) (T := TX7) (N := 20) iX7 hx0 rfl 14 (by decide) (List.mem_cons_of_mem _ (List.mem_append_left _ (List.mem_append_left _ (List.mem_of_getElem? (i := 0) rfl)))) (fun _ h9 => h9) rfl dX7_tellBySet_10 ?_
  refine lv_iconst (v := 5) hx hb dX7_tellBySet_13 (by decide) ?_
  refine lv_iload_n hx hb dX7_tellBySet_14 rfl (lv_at hl 2 rfl) ?_
  refine lv_imul hx hb dX7_tellBySet_15 ?_
  refine lv_topi (fun v2 ev2 => ?_)
  obtain rfl : v2 = nI (5 * m) := by
    rw [ev2]
    exact nI_mul 5 m
  refine lv_iconst (v := 1) hx hb dX7_tellBySet_16 (by decide) ?_
  refine lv_iadd hx hb dX7_tellBySet_17 ?_
  refine lv_topi (fun v3 ev3 => ?_)
  obtain rfl : v3 = nI (5 * m + 1) := by
    rw [ev3]
    exact nI_add _ 1
  refine g_iald F hP hy8 (vp_in_nI (n := 5 * m + 1) (by omega) (by decide)) dX7_tellBySet_18 ?_
  rw [show (.int ((Fm 8) (nI (5 * m + 1) : Int32).toNatClampNeg) : Value) = .int (nI (saP S m 1)) from by rw [nI_clamp (n := 5 * m + 1) (by omega)]; exact congrArg Value.int (q8 1 (by decide))]
  refine lv_istore_n (lv' := [(3, .int (nI (saP S m 1))), (2, .int (nI (saP S m 0))), (0, .ref (md 0)), (1, .int (nI m))]) hx hb dX7_tellBySet_19 rfl hl (by decide) rfl (fun ls hl => ?_)
  refine lv_aload_n hx hb dX7_tellBySet_20 rfl (lv_at hl 2 rfl) ?_
  refine g_get F hP (C := RX7) (T := TX7) (N := 20) iX7 hx0 rfl 14 (by decide) (List.mem_cons_of_mem _ (List.mem_append_left _ (List.mem_append_left _ (List.mem_of_getElem? (i := 0) rfl)))) (fun _ h9 => h9) rfl dX7_tellBySet_21 ?_
  refine lv_iconst (v := 5) hx hb dX7_tellBySet_24 (by decide) ?_
  refine lv_iload_n hx hb dX7_tellBySet_25 rfl (lv_at hl 3 rfl) ?_
  refine lv_imul hx hb dX7_tellBySet_26 ?_
  refine lv_topi (fun v4 ev4 => ?_)
  obtain rfl : v4 = nI (5 * m) := by
    rw [ev4]
    exact nI_mul 5 m
  refine lv_iconst (v := 2) hx hb dX7_tellBySet_27 (by decide) ?_
  refine lv_iadd hx hb dX7_tellBySet_28 ?_
  refine lv_topi (fun v5 ev5 => ?_)
  obtain rfl : v5 = nI (5 * m + 2) := by
    rw [ev5]
    exact nI_add _ 2
  refine g_iald F hP hy8 (vp_in_nI (n := 5 * m + 2) (by omega) (by decide)) dX7_tellBySet_29 ?_
  rw [show (.int ((Fm 8) (nI (5 * m + 2) : Int32).toNatClampNeg) : Value) = .int (nI (saP S m 2)) from by rw [nI_clamp (n := 5 * m + 2) (by omega)]; exact congrArg Value.int (q8 2 (by decide))]
  refine lv_istore (lv' := [(4, .int (nI (saP S m 2))), (3, .int (nI (saP S m 1))), (2, .int (nI (saP S m 0))), (0, .ref (md 0)), (1, .int (nI m))]) hx hb dX7_tellBySet_30 hl (by decide) rfl (fun ls hl => ?_)
  refine lv_aload_n hx hb dX7_tellBySet_32 rfl (lv_at hl 3 rfl) ?_
  refine g_get F hP (C := RX7) (T := TX7) (N := 20) iX7 hx0 rfl 14 (by decide) (List.mem_cons_of_mem _ (List.mem_append_left _ (List.mem_append_left _ (List.mem_of_getElem? (i := 0) rfl)))) (fun _ h9 => h9) rfl dX7_tellBySet_33 ?_
  refine lv_iconst (v := 5) hx hb dX7_tellBySet_36 (by decide) ?_
  refine lv_iload_n hx hb dX7_tellBySet_37 rfl (lv_at hl 4 rfl) ?_
  refine lv_imul hx hb dX7_tellBySet_38 ?_
  refine lv_topi (fun v6 ev6 => ?_)
  refine lv_iconst (v := 3) hx hb dX7_tellBySet_39 (by decide) ?_
  refine lv_iadd hx hb dX7_tellBySet_40 ?_
  refine lv_topi (fun v7 ev7 => ?_)
  refine g_iald F hP hy8 (by unfold vp_in; decide) dX7_tellBySet_41 ?_
  refine lv_topi (fun v8 ev8 => ?_)
  refine lv_i2l hx hb dX7_tellBySet_42 rfl ?_
  refine lv_topl (fun v9 ev9 => ?_)
  obtain rfl : v9 = zL (S 14 m) := by
    rw [ev9]
    exact iL64 (by omega) (by omega)
  refine lv_lstore (lv' := [(5, .long (zL (S 14 m))), (4, .int (nI (saP S m 2))), (3, .int (nI (saP S m 1))), (2, .int (nI (saP S m 0))), (0, .ref (md 0)), (1, .int (nI m))]) hx hb dX7_tellBySet_43 hl (by decide) rfl (fun ls hl => ?_)
  refine lv_aload_n hx hb dX7_tellBySet_45 rfl (lv_at hl 4 rfl) ?_
  refine g_get F hP (C := RX7) (T := TX7) (N := 20) iX7 hx0 rfl 14 (by decide) (List.mem_cons_of_mem _ (List.mem_append_left _ (List.mem_append_left _ (List.mem_of_getElem? (i := 0) rfl)))) (fun _ h9 => h9) rfl dX7_tellBySet_46 ?_
  refine lv_iconst (v := 5) hx hb dX7_tellBySet_49 (by decide) ?_
  refine lv_iload_n hx hb dX7_tellBySet_50 rfl (lv_at hl 5 rfl) ?_
  refine lv_imul hx hb dX7_tellBySet_51 ?_
  refine lv_topi (fun v10 ev10 => ?_)
  obtain rfl : v10 = nI (5 * m) := by
    rw [ev10]
    exact nI_mul 5 m
  refine lv_iconst (v := 4) hx hb dX7_tellBySet_52 (by decide) ?_
  refine lv_iadd hx hb dX7_tellBySet_53 ?_
  refine lv_topi (fun v11 ev11 => ?_)
  obtain rfl : v11 = nI (5 * m + 4) := by
    rw [ev11]
    exact nI_add _ 4
  refine g_iald F hP hy8 (vp_in_nI (n := 5 * m + 4) (by omega) (by decide)) dX7_tellBySet_54 ?_
  rw [show (.int ((Fm 8) (nI (5 * m + 4) : Int32).toNatClampNeg) : Value) = .int (iL (S 15 m)) from by rw [nI_clamp (n := 5 * m + 4) (by omega), (Hf.2.2.2.1 m hm).2.2.2.2]]
  refine lv_i2l hx hb dX7_tellBySet_55 rfl ?_
  refine lv_topl (fun v12 ev12 => ?_)
  obtain rfl : v12 = zL (S 15 m) := by
    rw [ev12]
    exact iL64 (by omega) (by omega)
  refine lv_lstore (lv' := [(7, .long (zL (S 15 m))), (5, .long (zL (S 14 m))), (4, .int (nI (saP S m 2))), (3, .int (nI (saP S m 1))), (2, .int (nI (saP S m 0))), (0, .ref (md 0)), (1, .int (nI m))]) hx hb dX7_tellBySet_56 hl (by decide) rfl (fun ls hl => ?_)
  refine lv_aload_n hx hb dX7_tellBySet_58 rfl (lv_at hl 5 rfl) ?_
  refine lv_iload_n hx hb dX7_tellBySet_59 rfl (lv_at hl 4 rfl) ?_
  refine g_Vi (As := [.int (nI (saP S m 0))]) (rest := []) F hP hS (k_X7_hasSpeed l A G w md S _ _ _ Fm L (saP S m 0) (zB T (saP S m 0)) hx0 hy10 (by have := hs0; omega) (zB_z HT hs0) (zB_b Ht hs0)) (cwV 1 hts gX7_tellBySet_X7_hasSpeed rfl rfl rfl cd_X7_hasSpeed ⟨by rw [hR]; exact Nat.le_of_ble_eq_true rfl, by rw [hR]; exact Nat.le_of_ble_eq_true rfl⟩) hx0 rfl rfl rfl hl.1 (Nat.le_of_ble_eq_true rfl) dX7_tellBySet_60 ⟨by rw [hR]; exact Nat.le_of_ble_eq_true rfl, by rw [hR]; exact Nat.le_of_ble_eq_true rfl⟩ rfl (fun r13 w14 H locs h15 hP hS => ?_)
  have hr13 := h15.1
  rw [h15.2] at hP
  rw [hr13]
  rw [zB_d Ht hs0]
  refine lv_if_ne (tgt := 70) hx hb dX7_tellBySet_63 (by decide) (fun c16 => ?_) (fun c16 => ?_)
  · have yc16 := of_decide_eq_true (g_b1.mp c16)
    refine lv_aload_n hx hb dX7_tellBySet_70 rfl (lv_at hl 5 rfl) ?_
    refine lv_iload_n hx hb dX7_tellBySet_71 rfl (lv_at hl 3 rfl) ?_
    refine g_Vi (As := [.int (nI (saP S m 1))]) (rest := []) F hP hS (k_X7_hasSpeed l A G w md S _ _ _ Fm L (saP S m 1) (zB T (saP S m 1)) hx0 hy10 (by have := hs1; omega) (zB_z HT hs1) (zB_b Ht hs1)) (cwV 1 hts gX7_tellBySet_X7_hasSpeed rfl rfl rfl cd_X7_hasSpeed ⟨by rw [hR]; exact Nat.le_of_ble_eq_true rfl, by rw [hR]; exact Nat.le_of_ble_eq_true rfl⟩) hx0 rfl rfl rfl hl.1 (Nat.le_of_ble_eq_true rfl) dX7_tellBySet_72 ⟨by rw [hR]; exact Nat.le_of_ble_eq_true rfl, by rw [hR]; exact Nat.le_of_ble_eq_true rfl⟩ rfl (fun r17 w18 H locs h19 hP hS => ?_)
    have hr17 := h19.1
    rw [h19.2] at hP
    rw [hr17]
    rw [zB_d Ht hs1]
    refine lv_if_ne (tgt := 82) hx hb dX7_tellBySet_75 (by decide) (fun c20 => ?_) (fun c20 => ?_)
    · have yc20 := of_decide_eq_true (g_b1.mp c20)
      have pl9 : pl = 2 := by
        have w0 : T 2 (saP S m 0) ≠ -1 := yc16
        have w1 : T 2 (saP S m 1) ≠ -1 := yc20
        have w2 := hU.2.1
        rcases (show pl = 0 ∨ pl = 1 ∨ pl = 2 by omega) with q | q | q
        · subst q; exact absurd w2 w0
        · subst q; exact absurd w2 w1
        · exact q
      subst pl9
      have v0 : T 2 (saP S m 0) ≠ -1 := hU.2.2 0 (by decide) (by decide)
      have v1 : T 2 (saP S m 1) ≠ -1 := hU.2.2 1 (by decide) (by decide)
      have v2 : T 2 (saP S m 2) = -1 := hU.2.1
      refine lv_iload hx hb dX7_tellBySet_82 (lv_at hl 2 rfl) ?_
      refine lv_istore (lv' := [(9, .int (nI (saP S m 2))), (7, .long (zL (S 15 m))), (5, .long (zL (S 14 m))), (4, .int (nI (saP S m 2))), (3, .int (nI (saP S m 1))), (2, .int (nI (saP S m 0))), (0, .ref (md 0)), (1, .int (nI m))]) hx hb dX7_tellBySet_84 hl (by decide) rfl (fun ls hl => ?_)
      refine lv_iload hx hb dX7_tellBySet_86 (lv_at hl 0 rfl) ?_
      refine lv_iload hx hb dX7_tellBySet_88 (lv_at hl 3 rfl) ?_
      refine lv_icmp_ne (tgt := 106) hx hb dX7_tellBySet_90 (by decide) (fun c21 => ?_) (fun c21 => ?_)
      · exact absurd rfl c21
      · refine lv_aload_n hx hb dX7_tellBySet_93 rfl (lv_at hl 6 rfl) ?_
        refine lv_iload_n hx hb dX7_tellBySet_94 rfl (lv_at hl 5 rfl) ?_
        refine lv_lload hx hb dX7_tellBySet_95 (lv_at hl 2 rfl) ?_
        refine lv_iload_n hx hb dX7_tellBySet_97 rfl (lv_at hl 4 rfl) ?_
        refine lv_lload hx hb dX7_tellBySet_98 (lv_at hl 1 rfl) ?_
        obtain ⟨same, sb1, sb2, sb3, sb4, sb5, sb6⟩ := set_s Hi Ht hm (Or.inr (Or.inr ⟨rfl, rfl, rfl, rfl, rfl, rfl⟩))
        have sd := fD_pos (x := T 0 (saP S m 0) * (S 14 m) * T 1 (saP S m 1) + T 0 (saP S m 1) * (S 15 m) * T 1 (saP S m 0)) (Int.mul_ne_zero sb3 sb4)
        have sn1 := fN_le (T 0 (saP S m 0) * (S 14 m) * T 1 (saP S m 1) + T 0 (saP S m 1) * (S 15 m) * T 1 (saP S m 0)) (T 1 (saP S m 0) * T 1 (saP S m 1))
        have sd1 := fD_le (T 0 (saP S m 0) * (S 14 m) * T 1 (saP S m 1) + T 0 (saP S m 1) * (S 15 m) * T 1 (saP S m 0)) (T 1 (saP S m 0) * T 1 (saP S m 1))
        refine g_Vv (As := [.int (nI (saP S m 0)), .long (zL (S 14 m)), .int (nI (saP S m 1)), .long (zL (S 15 m))]) (rest := []) F hP hS (k_X7_sum l A G w md S _ _ _ Fm L (saP S m 0) (saP S m 1) (S 14 m) (S 15 m) (T 0 (saP S m 0)) (T 1 (saP S m 0)) (T 0 (saP S m 1)) (T 1 (saP S m 1)) hx0 hy9 hy10 (by omega) (by omega) (HT _ hs0).1 ((HT _ hs0).2.1.trans (if_neg v0)) (HT _ hs1).1 ((HT _ hs1).2.1.trans (if_neg v1)) sb3 sb4 (by omega) (by omega)) (cwV 4 hts gX7_tellBySet_X7_sum rfl rfl rfl cd_X7_sum ⟨by rw [hR]; exact Nat.le_of_ble_eq_true rfl, by rw [hR]; exact Nat.le_of_ble_eq_true rfl⟩) hx0 rfl rfl rfl hl.1 (Nat.le_of_ble_eq_true rfl) dX7_tellBySet_100 ⟨by rw [hR]; exact Nat.le_of_ble_eq_true rfl, by rw [hR]; exact Nat.le_of_ble_eq_true rfl⟩ rfl (fun w23 H locs h24 hP hS => ?_)
        have f25 : w23 (md 1) = some (.inl (G.2.1 0, 10, .inl (Fm 1))) := by rw [h24]; exact g_up_f hy1 ((fun q => absurd (Hj 1 0 (by decide) (by decide) q) (by decide)))
        have f26 : w23 (md 2) = some (.inl (G.2.1 0, 10, .inl (Fm 2))) := by rw [h24]; exact g_up_f hy2 ((fun q => absurd (Hj 2 0 (by decide) (by decide) q) (by decide)))
        have f27 : w23 (md 3) = some (.inl (G.2.1 2, 10, .inl (Fm 3))) := by rw [h24]; exact g_up_f hy3 ((fun q => absurd (Hj 3 0 (by decide) (by decide) q) (by decide)))
        have f28 : w23 (md 4) = some (.inl (G.2.1 0, 64, .inl (Fm 4))) := by rw [h24]; exact g_up_f hy4 ((fun q => absurd (Hj 4 0 (by decide) (by decide) q) (by decide)))
        have f29 : w23 (md 5) = some (.inl (G.2.1 2, 16, .inl (Fm 5))) := by rw [h24]; exact g_up_f hy5 ((fun q => absurd (Hj 5 0 (by decide) (by decide) q) (by decide)))
        have f30 : w23 (md 6) = some (.inl (G.2.1 0, 16, .inl (Fm 6))) := by rw [h24]; exact g_up_f hy6 ((fun q => absurd (Hj 6 0 (by decide) (by decide) q) (by decide)))
        have f31 : w23 (md 7) = some (.inl (G.2.1 0, 16, .inl (Fm 7))) := by rw [h24]; exact g_up_f hy7 ((fun q => absurd (Hj 7 0 (by decide) (by decide) q) (by decide)))
        have f32 : w23 (md 8) = some (.inl (G.2.1 0, 20, .inl (Fm 8))) := by rw [h24]; exact g_up_f hy8 ((fun q => absurd (Hj 8 0 (by decide) (by decide) q) (by decide)))
        have f33 : w23 (md 9) = some (.inl (G.2.1 1, 10, .inr (.inl (L 0)))) := by rw [h24]; exact g_up_f hy9 ((fun q => absurd (Hj 9 0 (by decide) (by decide) q) (by decide)))
        have f34 : w23 (md 10) = some (.inl (G.2.1 1, 10, .inr (.inl (L 1)))) := by rw [h24]; exact g_up_f hy10 ((fun q => absurd (Hj 10 0 (by decide) (by decide) q) (by decide)))
        have f35 : w23 (md 11) = some (.inl (G.2.1 0, 10, .inl (Fm 11))) := by rw [h24]; exact g_up_f hy11 ((fun q => absurd (Hj 11 0 (by decide) (by decide) q) (by decide)))
        have f36 : w23 (md 0) = some (.inr (8, [.int th, .int (iL (S 0 0)), .ref (md 1), .ref (md 2), .ref (md 3), .int (iL (S 0 4)), .int (iL (S 0 5)), .int (iL (S 0 1)), .ref (md 4), .ref (md 5), .int (iL (S 0 2)), .ref (md 6), .ref (md 7), .int (iL (S 0 3)), .ref (md 8), .ref (md 9), .ref (md 10), .ref (md 11), .long (zL (fN (T 0 (saP S m 0) * (S 14 m) * T 1 (saP S m 1) + T 0 (saP S m 1) * (S 15 m) * T 1 (saP S m 0)) (T 1 (saP S m 0) * T 1 (saP S m 1)))), .long (zL (fD (T 0 (saP S m 0) * (S 14 m) * T 1 (saP S m 1) + T 0 (saP S m 1) * (S 15 m) * T 1 (saP S m 0)) (T 1 (saP S m 0) * T 1 (saP S m 1))))])) := by rw [h24]; exact g_up_s _ _ _
        refine lv_goto (tgt := 145) hx hb dX7_tellBySet_103 (by decide) ?_
        refine lv_aload_n hx hb dX7_tellBySet_145 rfl (lv_at hl 6 rfl) ?_
        refine lv_aload_n hx hb dX7_tellBySet_146 rfl (lv_at hl 6 rfl) ?_
        refine g_get F hP (C := RX7) (T := TX7) (N := 20) iX7 f36 rfl 18 (by decide) (List.mem_cons_of_mem _ (List.mem_append_left _ (List.mem_append_left _ (List.mem_of_getElem? (i := 1) rfl)))) (fun _ h9 => h9) rfl dX7_tellBySet_147 ?_
        refine lv_aload_n hx hb dX7_tellBySet_150 rfl (lv_at hl 6 rfl) ?_
        refine g_get F hP (C := RX7) (T := TX7) (N := 20) iX7 f36 rfl 19 (by decide) (List.mem_cons_of_mem _ (List.mem_append_left _ (List.mem_append_left _ (List.mem_of_getElem? (i := 2) rfl)))) (fun _ h9 => h9) rfl dX7_tellBySet_151 ?_
        refine lv_iload hx hb dX7_tellBySet_154 (lv_at hl 0 rfl) ?_
        refine lv_iload hx hb dX7_tellBySet_156 (lv_at hl 3 rfl) ?_
        refine lv_icmp_ne (tgt := 169) hx hb dX7_tellBySet_158 (by decide) (fun c37 => ?_) (fun c37 => ?_)
        · exact absurd rfl c37
        · refine lv_lload hx hb dX7_tellBySet_161 (lv_at hl 2 rfl) ?_
          refine lv_lload hx hb dX7_tellBySet_163 (lv_at hl 1 rfl) ?_
          refine lv_ladd hx hb dX7_tellBySet_165 ?_
          refine lv_topl (fun v38 ev38 => ?_)
          obtain rfl : v38 = zL (S 14 m + S 15 m) := by
            rw [ev38]
            exact zL_add _ _
          refine lv_goto (tgt := 182) hx hb dX7_tellBySet_166 (by decide) ?_
          refine lv_lmul hx hb dX7_tellBySet_182 ?_
          refine lv_topl (fun v39 ev39 => ?_)
          obtain rfl : v39 = zL (fD (T 0 (saP S m 0) * (S 14 m) * T 1 (saP S m 1) + T 0 (saP S m 1) * (S 15 m) * T 1 (saP S m 0)) (T 1 (saP S m 0) * T 1 (saP S m 1)) * (S 14 m + S 15 m)) := by
            rw [ev39]
            exact zL_mul _ _
          have hbY : (fD (T 0 (saP S m 0) * (S 14 m) * T 1 (saP S m 1) + T 0 (saP S m 1) * (S 15 m) * T 1 (saP S m 0)) (T 1 (saP S m 0) * T 1 (saP S m 1)) * (S 14 m + S 15 m)).natAbs ≤ 1000000000000 * 400 := by
            rw [Int.natAbs_mul]
            exact Nat.mul_le_mul (by omega) (by omega)
          have hnN := fN_le (fN (T 0 (saP S m 0) * (S 14 m) * T 1 (saP S m 1) + T 0 (saP S m 1) * (S 15 m) * T 1 (saP S m 0)) (T 1 (saP S m 0) * T 1 (saP S m 1))) (fD (T 0 (saP S m 0) * (S 14 m) * T 1 (saP S m 1) + T 0 (saP S m 1) * (S 15 m) * T 1 (saP S m 0)) (T 1 (saP S m 0) * T 1 (saP S m 1)) * (S 14 m + S 15 m))
          have hnD := fD_le (fN (T 0 (saP S m 0) * (S 14 m) * T 1 (saP S m 1) + T 0 (saP S m 1) * (S 15 m) * T 1 (saP S m 0)) (T 1 (saP S m 0) * T 1 (saP S m 1))) (fD (T 0 (saP S m 0) * (S 14 m) * T 1 (saP S m 1) + T 0 (saP S m 1) * (S 15 m) * T 1 (saP S m 0)) (T 1 (saP S m 0) * T 1 (saP S m 1)) * (S 14 m + S 15 m))
          refine g_Vv (As := [.long (zL (fN (T 0 (saP S m 0) * (S 14 m) * T 1 (saP S m 1) + T 0 (saP S m 1) * (S 15 m) * T 1 (saP S m 0)) (T 1 (saP S m 0) * T 1 (saP S m 1)))), .long (zL (fD (T 0 (saP S m 0) * (S 14 m) * T 1 (saP S m 1) + T 0 (saP S m 1) * (S 15 m) * T 1 (saP S m 0)) (T 1 (saP S m 0) * T 1 (saP S m 1)) * (S 14 m + S 15 m)))]) (rest := []) F hP hS (k_X7_make l A G w23 md S _ _ _ Fm L (fN (T 0 (saP S m 0) * (S 14 m) * T 1 (saP S m 1) + T 0 (saP S m 1) * (S 15 m) * T 1 (saP S m 0)) (T 1 (saP S m 0) * T 1 (saP S m 1))) (fD (T 0 (saP S m 0) * (S 14 m) * T 1 (saP S m 1) + T 0 (saP S m 1) * (S 15 m) * T 1 (saP S m 0)) (T 1 (saP S m 0) * T 1 (saP S m 1)) * (S 14 m + S 15 m)) f36 (Int.mul_ne_zero (by omega) (by omega)) (by omega) (by omega)) (cwV 2 hts gX7_tellBySet_X7_make rfl rfl rfl cd_X7_make ⟨by rw [hR]; exact Nat.le_of_ble_eq_true rfl, by rw [hR]; exact Nat.le_of_ble_eq_true rfl⟩) f36 rfl rfl rfl hl.1 (Nat.le_of_ble_eq_true rfl) dX7_tellBySet_183 ⟨by rw [hR]; exact Nat.le_of_ble_eq_true rfl, by rw [hR]; exact Nat.le_of_ble_eq_true rfl⟩ rfl (fun w41 H locs h42 hP hS => ?_)
          have f43 : w41 (md 1) = some (.inl (G.2.1 0, 10, .inl (Fm 1))) := by rw [h42]; exact g_up_f f25 ((fun q => absurd (Hj 1 0 (by decide) (by decide) q) (by decide)))
          have f44 : w41 (md 2) = some (.inl (G.2.1 0, 10, .inl (Fm 2))) := by rw [h42]; exact g_up_f f26 ((fun q => absurd (Hj 2 0 (by decide) (by decide) q) (by decide)))
          have f45 : w41 (md 3) = some (.inl (G.2.1 2, 10, .inl (Fm 3))) := by rw [h42]; exact g_up_f f27 ((fun q => absurd (Hj 3 0 (by decide) (by decide) q) (by decide)))
          have f46 : w41 (md 4) = some (.inl (G.2.1 0, 64, .inl (Fm 4))) := by rw [h42]; exact g_up_f f28 ((fun q => absurd (Hj 4 0 (by decide) (by decide) q) (by decide)))
          have f47 : w41 (md 5) = some (.inl (G.2.1 2, 16, .inl (Fm 5))) := by rw [h42]; exact g_up_f f29 ((fun q => absurd (Hj 5 0 (by decide) (by decide) q) (by decide)))
          have f48 : w41 (md 6) = some (.inl (G.2.1 0, 16, .inl (Fm 6))) := by rw [h42]; exact g_up_f f30 ((fun q => absurd (Hj 6 0 (by decide) (by decide) q) (by decide)))
          have f49 : w41 (md 7) = some (.inl (G.2.1 0, 16, .inl (Fm 7))) := by rw [h42]; exact g_up_f f31 ((fun q => absurd (Hj 7 0 (by decide) (by decide) q) (by decide)))
          have f50 : w41 (md 8) = some (.inl (G.2.1 0, 20, .inl (Fm 8))) := by rw [h42]; exact g_up_f f32 ((fun q => absurd (Hj 8 0 (by decide) (by decide) q) (by decide)))
          have f51 : w41 (md 9) = some (.inl (G.2.1 1, 10, .inr (.inl (L 0)))) := by rw [h42]; exact g_up_f f33 ((fun q => absurd (Hj 9 0 (by decide) (by decide) q) (by decide)))
          have f52 : w41 (md 10) = some (.inl (G.2.1 1, 10, .inr (.inl (L 1)))) := by rw [h42]; exact g_up_f f34 ((fun q => absurd (Hj 10 0 (by decide) (by decide) q) (by decide)))
          have f53 : w41 (md 11) = some (.inl (G.2.1 0, 10, .inl (Fm 11))) := by rw [h42]; exact g_up_f f35 ((fun q => absurd (Hj 11 0 (by decide) (by decide) q) (by decide)))
          have f54 : w41 (md 0) = some (.inr (8, [.int th, .int (iL (S 0 0)), .ref (md 1), .ref (md 2), .ref (md 3), .int (iL (S 0 4)), .int (iL (S 0 5)), .int (iL (S 0 1)), .ref (md 4), .ref (md 5), .int (iL (S 0 2)), .ref (md 6), .ref (md 7), .int (iL (S 0 3)), .ref (md 8), .ref (md 9), .ref (md 10), .ref (md 11), .long (zL (fN (fN (T 0 (saP S m 0) * (S 14 m) * T 1 (saP S m 1) + T 0 (saP S m 1) * (S 15 m) * T 1 (saP S m 0)) (T 1 (saP S m 0) * T 1 (saP S m 1))) (fD (T 0 (saP S m 0) * (S 14 m) * T 1 (saP S m 1) + T 0 (saP S m 1) * (S 15 m) * T 1 (saP S m 0)) (T 1 (saP S m 0) * T 1 (saP S m 1)) * (S 14 m + S 15 m)))), .long (zL (fD (fN (T 0 (saP S m 0) * (S 14 m) * T 1 (saP S m 1) + T 0 (saP S m 1) * (S 15 m) * T 1 (saP S m 0)) (T 1 (saP S m 0) * T 1 (saP S m 1))) (fD (T 0 (saP S m 0) * (S 14 m) * T 1 (saP S m 1) + T 0 (saP S m 1) * (S 15 m) * T 1 (saP S m 0)) (T 1 (saP S m 0) * T 1 (saP S m 1)) * (S 14 m + S 15 m))))])) := by rw [h42]; exact g_up_s _ _ _
          refine lv_iconst (v := 0) hx hb dX7_tellBySet_186 (by decide) ?_
          refine lv_istore (lv' := [(10, .int 0), (9, .int (nI (saP S m 2))), (7, .long (zL (S 15 m))), (5, .long (zL (S 14 m))), (4, .int (nI (saP S m 2))), (3, .int (nI (saP S m 1))), (2, .int (nI (saP S m 0))), (0, .ref (md 0)), (1, .int (nI m))]) hx hb dX7_tellBySet_187 hl (by decide) rfl (fun ls hl => ?_)
          refine lv_iconst (v := 0) hx hb dX7_tellBySet_189 (by decide) ?_
          refine lv_istore (lv' := [(11, .int 0), (10, .int 0), (9, .int (nI (saP S m 2))), (7, .long (zL (S 15 m))), (5, .long (zL (S 14 m))), (4, .int (nI (saP S m 2))), (3, .int (nI (saP S m 1))), (2, .int (nI (saP S m 0))), (0, .ref (md 0)), (1, .int (nI m))]) hx hb dX7_tellBySet_190 hl (by decide) rfl (fun ls hl => ?_)
          have L192 : ∀ (n : Nat) (k : Nat) (H : Heap) (locs : List Loc) (ls : Array Slot), 4 ≤ k + n → (k ≤ 3) → g_P A G w41 H → va_S A s.heap H locs → lv_has ls 12 [(11, .int (nI k)), (10, .int (iL (mxT S T m 2 k))), (0, .ref (md 0)), (1, .int (nI m)), (9, .int (nI (saP S m 2)))] → W p l e R s m args below meth c H locs (0) (0) Q (F0 m 192 ls []) := by
            intro n
            induction n with
            | zero =>
              intro k H locs ls hfu hk3 hP hS hl
              exact absurd hfu (by omega)
            | succ n ih_L192 =>
              intro k H locs ls hfu hk3 hP hS hl
              refine lv_iload hx hb dX7_tellBySet_192 (lv_at hl 0 rfl) ?_
              refine lv_iconst (v := 3) hx hb dX7_tellBySet_194 (by decide) ?_
              refine lv_icmp_ge (tgt := 243) hx hb dX7_tellBySet_195 (by decide) (fun c55 => ?_) (fun c55 => ?_)
              · have zc55 : 3 ≤ k := (nI_le (a := 3) (b := k) (by decide) (by omega)).mp c55
                refine lv_aload_n hx hb dX7_tellBySet_243 rfl (lv_at hl 2 rfl) ?_
                refine lv_iload hx hb dX7_tellBySet_244 (lv_at hl 4 rfl) ?_
                refine lv_iload hx hb dX7_tellBySet_246 (lv_at hl 1 rfl) ?_
                refine lv_iconst (v := 1) hx hb dX7_tellBySet_248 (by decide) ?_
                refine lv_iadd hx hb dX7_tellBySet_249 ?_
                refine lv_topi (fun v56 ev56 => ?_)
                obtain rfl : v56 = iL (mxT S T m 2 3 + 1) := by
                  rw [ev56]
                  rw [show k = 3 by omega]; exact iL_add _ 1
                refine g_Vi (As := [.int (nI (saP S m 2)), .int (iL (mxT S T m 2 3 + 1))]) (rest := []) F hP hS (k_X7_tell l A G w41 md S th (fN (fN (T 0 (saP S m 0) * (S 14 m) * T 1 (saP S m 1) + T 0 (saP S m 1) * (S 15 m) * T 1 (saP S m 0)) (T 1 (saP S m 0) * T 1 (saP S m 1))) (fD (T 0 (saP S m 0) * (S 14 m) * T 1 (saP S m 1) + T 0 (saP S m 1) * (S 15 m) * T 1 (saP S m 0)) (T 1 (saP S m 0) * T 1 (saP S m 1)) * (S 14 m + S 15 m))) (fD (fN (T 0 (saP S m 0) * (S 14 m) * T 1 (saP S m 1) + T 0 (saP S m 1) * (S 15 m) * T 1 (saP S m 0)) (T 1 (saP S m 0) * T 1 (saP S m 1))) (fD (T 0 (saP S m 0) * (S 14 m) * T 1 (saP S m 1) + T 0 (saP S m 1) * (S 15 m) * T 1 (saP S m 0)) (T 1 (saP S m 0) * T 1 (saP S m 1)) * (S 14 m + S 15 m))) Fm L (saP S m 2) (iL (mxT S T m 2 3 + 1)) f54 f51 f52 f53 Hj (by omega) (by omega) (by omega)) (cwV 2 hts gX7_tellBySet_X7_tell rfl rfl rfl cd_X7_tell ⟨by rw [hR]; exact Nat.le_of_ble_eq_true rfl, by rw [hR]; exact Nat.le_of_ble_eq_true rfl⟩) f54 rfl rfl rfl hl.1 (Nat.le_of_ble_eq_true rfl) dX7_tellBySet_250 ⟨by rw [hR]; exact Nat.le_of_ble_eq_true rfl, by rw [hR]; exact Nat.le_of_ble_eq_true rfl⟩ rfl (fun r57 w58 H locs h59 hP hS => ?_)
                rw [h59.1]
                rw [hQ]
                refine g_zret F hP hS hlocks hr (by first | rfl | exact g_nb _) dX7_tellBySet_253 (by first | exact Nat.le_of_ble_eq_true rfl | omega) (by first | exact Nat.le_of_ble_eq_true rfl | omega) ?_
                exact ⟨by rw [same.1, same.2], tell_sol Hj ⟨f54, f43, f44, f45, f46, f47, f48, f49, f50, f51, f52, f53⟩ (mFr_tr (mFr_tr (mFr_rf _ _) (mFr_se (i := 0) (by decide) h24)) (mFr_se (i := 0) (by decide) h42)) HT same.1.symm.symm same.2 (by rw [mxT_g (pl := 2) (by decide) v2 (fun j q1 q2 => by have b1 := (Ht.1 _ (hsk j)).2.2.2.2; have b2 : T 2 (saP S m j) ≠ -1 := hU.2.2 j q1 q2; omega)]) rfl h59.2⟩
              · have zc55 : k < 3 := by
                  rcases Nat.lt_or_ge k 3 with q | q
                  · exact q
                  · exact absurd ((nI_le (a := 3) (b := k) (by decide) (by omega)).mpr q) c55
                refine lv_aload_n hx hb dX7_tellBySet_198 rfl (lv_at hl 2 rfl) ?_
                refine g_get F hP (C := RX7) (T := TX7) (N := 20) iX7 f54 rfl 14 (by decide) (List.mem_cons_of_mem _ (List.mem_append_left _ (List.mem_append_left _ (List.mem_of_getElem? (i := 0) rfl)))) (fun _ h9 => h9) rfl dX7_tellBySet_199 ?_
                refine lv_iconst (v := 5) hx hb dX7_tellBySet_202 (by decide) ?_
                refine lv_iload_n hx hb dX7_tellBySet_203 rfl (lv_at hl 3 rfl) ?_
                refine lv_imul hx hb dX7_tellBySet_204 ?_
                refine lv_topi (fun v60 ev60 => ?_)
                obtain rfl : v60 = nI (5 * m) := by
                  rw [ev60]
                  exact nI_mul 5 m
                refine lv_iload hx hb dX7_tellBySet_205 (lv_at hl 0 rfl) ?_
                refine lv_iadd hx hb dX7_tellBySet_207 ?_
                refine lv_topi (fun v61 ev61 => ?_)
                obtain rfl : v61 = nI (5 * m + k) := by
                  rw [ev61]
                  exact nI_add _ _
                refine g_iald F hP f50 (vp_in_nI (n := 5 * m + k) (by omega) (by decide)) dX7_tellBySet_208 ?_
                rw [show (.int ((Fm 8) (nI (5 * m + k) : Int32).toNatClampNeg) : Value) = .int (nI (saP S m k)) from by rw [nI_clamp (n := 5 * m + k) (by omega), q8 k zc55]]
                refine lv_iload hx hb dX7_tellBySet_209 (lv_at hl 4 rfl) ?_
                refine lv_icmp_eq (tgt := 237) hx hb dX7_tellBySet_211 (by decide) (fun c62 => ?_) (fun c62 => ?_)
                · have yc62 : k = 2 := (heq k zc55).mp c62
                  have em : mxT S T m 2 (k + 1) = mxT S T m 2 k := if_pos yc62
                  obtain ⟨i63, ei63⟩ : ∃ y : Int32, y = nI k + (1) := ⟨_, rfl⟩
                  refine lv_iinc (v := i63) (lv' := [(11, .int i63), (10, .int (iL (mxT S T m 2 k))), (0, .ref (md 0)), (1, .int (nI m)), (9, .int (nI (saP S m 2)))]) hx hb dX7_tellBySet_237 hl (k := 0) rfl (by rw [ei63]; rfl) (by decide) rfl (fun ls hl => ?_)
                  obtain rfl : i63 = nI (k + 1) := by
                    rw [ei63]
                    exact nI_1 k
                  refine lv_goto (tgt := 192) hx hb dX7_tellBySet_240 (by decide) ?_
                  rw [← em] at hl
                  exact ih_L192 (k + 1) H locs ls (by omega) (by omega) hP hS (lv_sub hl [0, 1, 2, 3, 4] rfl)
                · have yc62 : k ≠ 2 := fun q => c62 ((heq k zc55).mpr q)
                  have em : mxT S T m 2 (k + 1) = if mxT S T m 2 k < T 2 (saP S m k) then T 2 (saP S m k) else mxT S T m 2 k := if_neg yc62
                  have bk := (Ht.1 _ (hsk k)).2.2.2.2
                  have bm := hmx k (by omega)
                  refine lv_iload hx hb dX7_tellBySet_214 (lv_at hl 1 rfl) ?_
                  refine lv_aload_n hx hb dX7_tellBySet_216 rfl (lv_at hl 2 rfl) ?_
                  refine g_get F hP (C := RX7) (T := TX7) (N := 20) iX7 f54 rfl 17 (by decide) (List.mem_cons_of_mem _ (List.mem_append_left _ (List.mem_append_left _ (List.mem_of_getElem? (i := 3) rfl)))) (fun _ h9 => h9) rfl dX7_tellBySet_217 ?_
                  refine lv_aload_n hx hb dX7_tellBySet_220 rfl (lv_at hl 2 rfl) ?_
                  refine g_get F hP (C := RX7) (T := TX7) (N := 20) iX7 f54 rfl 14 (by decide) (List.mem_cons_of_mem _ (List.mem_append_left _ (List.mem_append_left _ (List.mem_of_getElem? (i := 0) rfl)))) (fun _ h9 => h9) rfl dX7_tellBySet_221 ?_
                  refine lv_iconst (v := 5) hx hb dX7_tellBySet_224 (by decide) ?_
                  refine lv_iload_n hx hb dX7_tellBySet_225 rfl (lv_at hl 3 rfl) ?_
                  refine lv_imul hx hb dX7_tellBySet_226 ?_
                  refine lv_topi (fun v64 ev64 => ?_)
                  obtain rfl : v64 = nI (5 * m) := by
                    rw [ev64]
                    exact nI_mul 5 m
                  refine lv_iload hx hb dX7_tellBySet_227 (lv_at hl 0 rfl) ?_
                  refine lv_iadd hx hb dX7_tellBySet_229 ?_
                  refine lv_topi (fun v65 ev65 => ?_)
                  obtain rfl : v65 = nI (5 * m + k) := by
                    rw [ev65]
                    exact nI_add _ _
                  refine g_iald F hP f50 (vp_in_nI (n := 5 * m + k) (by omega) (by decide)) dX7_tellBySet_230 ?_
                  rw [show (.int ((Fm 8) (nI (5 * m + k) : Int32).toNatClampNeg) : Value) = .int (nI (saP S m k)) from by rw [nI_clamp (n := 5 * m + k) (by omega), q8 k zc55]]
                  refine g_iald F hP f53 (vp_in_nI (by have := hsk k; omega) (by decide)) dX7_tellBySet_231 ?_
                  rw [show (.int ((Fm 11) (nI (saP S m k) : Int32).toNatClampNeg) : Value) = .int (iL (T 2 (saP S m k))) from by rw [nI_clamp (by have := hsk k; omega), (HT _ (hsk k)).2.2]]
                  refine va_mmax hx hb (by rw [hml]; exact hl.1.symm) hown (hts _ (List.mem_cons_of_mem _ (List.mem_append_left _ (List.mem_append_left _ (List.mem_of_getElem? (i := 4) rfl))))) (hts _ (List.mem_cons_of_mem _ (List.mem_append_left _ (List.mem_append_left _ (List.mem_of_getElem? (i := 5) rfl))))) (hts _ (List.mem_cons_of_mem _ (List.mem_append_left _ (List.mem_append_left _ (List.mem_of_getElem? (i := 6) rfl))))) (hts _ (List.mem_cons_of_mem _ (List.mem_append_left _ (List.mem_append_left _ (List.mem_of_getElem? (i := 7) rfl))))) (by rw [hR]; exact Nat.le_of_ble_eq_true rfl) (by rw [hR]; exact Nat.le_of_ble_eq_true rfl) (by rw [hR]; first | exact Nat.le_of_ble_eq_true rfl | (dsimp only; omega)) (by rw [hR]; first | exact Nat.le_of_ble_eq_true rfl | (dsimp only; omega)) dX7_tellBySet_232 ?_
                  refine lv_topi (fun v66 ev66 => ?_)
                  obtain rfl : v66 = iL (mxT S T m 2 (k + 1)) := by
                    rw [ev66]
                    have q1 : iL (mxT S T m 2 k) < iL (T 2 (saP S m k)) ↔ mxT S T m 2 k < T 2 (saP S m k) := iL_lt (by omega) (by omega) (by omega) (by omega)
                    rw [em]
                    by_cases q2 : mxT S T m 2 k < T 2 (saP S m k)
                    · rw [if_pos q2, if_pos (q1.mpr q2)]
                    · rw [if_neg q2, if_neg (fun q => q2 (q1.mp q))]
                  refine lv_istore (lv' := [(10, .int (iL (mxT S T m 2 (k + 1)))), (11, .int (nI k)), (0, .ref (md 0)), (1, .int (nI m)), (9, .int (nI (saP S m 2)))]) hx hb dX7_tellBySet_235 hl (by decide) rfl (fun ls hl => ?_)
                  obtain ⟨i67, ei67⟩ : ∃ y : Int32, y = nI k + (1) := ⟨_, rfl⟩
                  refine lv_iinc (v := i67) (lv' := [(11, .int i67), (10, .int (iL (mxT S T m 2 (k + 1)))), (0, .ref (md 0)), (1, .int (nI m)), (9, .int (nI (saP S m 2)))]) hx hb dX7_tellBySet_237 hl (k := 1) rfl (by rw [ei67]; rfl) (by decide) rfl (fun ls hl => ?_)
                  obtain rfl : i67 = nI (k + 1) := by
                    rw [ei67]
                    exact nI_1 k
                  refine lv_goto (tgt := 192) hx hb dX7_tellBySet_240 (by decide) ?_
                  exact ih_L192 (k + 1)  H locs ls (by omega) (by omega) hP hS (lv_sub hl [0, 1, 2, 3, 4] rfl)
          exact L192 4 0  H locs ls (by omega) (by decide) hP hS (lv_sub hl [0, 1, 8, 9, 2] rfl)
    · have yc20 := of_decide_eq_false (g_b0.mp c20)
      have pl9 : pl = 1 := by
        rcases Nat.decEq pl 1 with q | q
        · exact absurd (Decidable.not_not.mp yc20) (hU.2.2 1 (by decide) (by omega))
        · exact q
      subst pl9
      have v0 : T 2 (saP S m 0) ≠ -1 := hU.2.2 0 (by decide) (by decide)
      have v2 : T 2 (saP S m 2) ≠ -1 := hU.2.2 2 (by decide) (by decide)
      have v1 : T 2 (saP S m 1) = -1 := hU.2.1
      refine lv_iload_n hx hb dX7_tellBySet_78 rfl (lv_at hl 3 rfl) ?_
      refine lv_goto (tgt := 84) hx hb dX7_tellBySet_79 (by decide) ?_
      refine lv_istore (lv' := [(9, .int (nI (saP S m 1))), (7, .long (zL (S 15 m))), (5, .long (zL (S 14 m))), (4, .int (nI (saP S m 2))), (3, .int (nI (saP S m 1))), (2, .int (nI (saP S m 0))), (0, .ref (md 0)), (1, .int (nI m))]) hx hb dX7_tellBySet_84 hl (by decide) rfl (fun ls hl => ?_)
      refine lv_iload hx hb dX7_tellBySet_86 (lv_at hl 0 rfl) ?_
      refine lv_iload hx hb dX7_tellBySet_88 (lv_at hl 3 rfl) ?_
      refine lv_icmp_ne (tgt := 106) hx hb dX7_tellBySet_90 (by decide) (fun c68 => ?_) (fun c68 => ?_)
      · refine lv_iload hx hb dX7_tellBySet_106 (lv_at hl 0 rfl) ?_
        refine lv_iload_n hx hb dX7_tellBySet_108 rfl (lv_at hl 5 rfl) ?_
        refine lv_icmp_ne (tgt := 130) hx hb dX7_tellBySet_109 (by decide) (fun c69 => ?_) (fun c69 => ?_)
        · refine lv_aload_n hx hb dX7_tellBySet_130 rfl (lv_at hl 6 rfl) ?_
          refine lv_iload hx hb dX7_tellBySet_131 (lv_at hl 3 rfl) ?_
          refine lv_lload hx hb dX7_tellBySet_133 (lv_at hl 2 rfl) ?_
          refine lv_lload hx hb dX7_tellBySet_135 (lv_at hl 1 rfl) ?_
          refine lv_ladd hx hb dX7_tellBySet_137 ?_
          refine lv_topl (fun v70 ev70 => ?_)
          obtain rfl : v70 = zL (S 14 m + S 15 m) := by
            rw [ev70]
            exact zL_add _ _
          refine lv_iload_n hx hb dX7_tellBySet_138 rfl (lv_at hl 5 rfl) ?_
          refine lv_lload hx hb dX7_tellBySet_139 (lv_at hl 2 rfl) ?_
          refine lv_lneg hx hb dX7_tellBySet_141 ?_
          refine lv_topl (fun v71 ev71 => ?_)
          obtain rfl : v71 = zL (-S 14 m) := by
            rw [ev71]
            exact zL_neg _
          obtain ⟨same, sb1, sb2, sb3, sb4, sb5, sb6⟩ := set_s Hi Ht hm (Or.inr (Or.inl ⟨rfl, rfl, rfl, rfl, rfl, rfl⟩))
          have sd := fD_pos (x := T 0 (saP S m 2) * (S 14 m + S 15 m) * T 1 (saP S m 0) + T 0 (saP S m 0) * (-S 14 m) * T 1 (saP S m 2)) (Int.mul_ne_zero sb3 sb4)
          have sn1 := fN_le (T 0 (saP S m 2) * (S 14 m + S 15 m) * T 1 (saP S m 0) + T 0 (saP S m 0) * (-S 14 m) * T 1 (saP S m 2)) (T 1 (saP S m 2) * T 1 (saP S m 0))
          have sd1 := fD_le (T 0 (saP S m 2) * (S 14 m + S 15 m) * T 1 (saP S m 0) + T 0 (saP S m 0) * (-S 14 m) * T 1 (saP S m 2)) (T 1 (saP S m 2) * T 1 (saP S m 0))
          refine g_Vv (As := [.int (nI (saP S m 2)), .long (zL (S 14 m + S 15 m)), .int (nI (saP S m 0)), .long (zL (-S 14 m))]) (rest := []) F hP hS (k_X7_sum l A G w md S _ _ _ Fm L (saP S m 2) (saP S m 0) (S 14 m + S 15 m) (-S 14 m) (T 0 (saP S m 2)) (T 1 (saP S m 2)) (T 0 (saP S m 0)) (T 1 (saP S m 0)) hx0 hy9 hy10 (by omega) (by omega) (HT _ hs2).1 ((HT _ hs2).2.1.trans (if_neg v2)) (HT _ hs0).1 ((HT _ hs0).2.1.trans (if_neg v0)) sb3 sb4 (by omega) (by omega)) (cwV 4 hts gX7_tellBySet_X7_sum rfl rfl rfl cd_X7_sum ⟨by rw [hR]; exact Nat.le_of_ble_eq_true rfl, by rw [hR]; exact Nat.le_of_ble_eq_true rfl⟩) hx0 rfl rfl rfl hl.1 (Nat.le_of_ble_eq_true rfl) dX7_tellBySet_142 ⟨by rw [hR]; exact Nat.le_of_ble_eq_true rfl, by rw [hR]; exact Nat.le_of_ble_eq_true rfl⟩ rfl (fun w73 H locs h74 hP hS => ?_)
          have f75 : w73 (md 1) = some (.inl (G.2.1 0, 10, .inl (Fm 1))) := by rw [h74]; exact g_up_f hy1 ((fun q => absurd (Hj 1 0 (by decide) (by decide) q) (by decide)))
          have f76 : w73 (md 2) = some (.inl (G.2.1 0, 10, .inl (Fm 2))) := by rw [h74]; exact g_up_f hy2 ((fun q => absurd (Hj 2 0 (by decide) (by decide) q) (by decide)))
          have f77 : w73 (md 3) = some (.inl (G.2.1 2, 10, .inl (Fm 3))) := by rw [h74]; exact g_up_f hy3 ((fun q => absurd (Hj 3 0 (by decide) (by decide) q) (by decide)))
          have f78 : w73 (md 4) = some (.inl (G.2.1 0, 64, .inl (Fm 4))) := by rw [h74]; exact g_up_f hy4 ((fun q => absurd (Hj 4 0 (by decide) (by decide) q) (by decide)))
          have f79 : w73 (md 5) = some (.inl (G.2.1 2, 16, .inl (Fm 5))) := by rw [h74]; exact g_up_f hy5 ((fun q => absurd (Hj 5 0 (by decide) (by decide) q) (by decide)))
          have f80 : w73 (md 6) = some (.inl (G.2.1 0, 16, .inl (Fm 6))) := by rw [h74]; exact g_up_f hy6 ((fun q => absurd (Hj 6 0 (by decide) (by decide) q) (by decide)))
          have f81 : w73 (md 7) = some (.inl (G.2.1 0, 16, .inl (Fm 7))) := by rw [h74]; exact g_up_f hy7 ((fun q => absurd (Hj 7 0 (by decide) (by decide) q) (by decide)))
          have f82 : w73 (md 8) = some (.inl (G.2.1 0, 20, .inl (Fm 8))) := by rw [h74]; exact g_up_f hy8 ((fun q => absurd (Hj 8 0 (by decide) (by decide) q) (by decide)))
          have f83 : w73 (md 9) = some (.inl (G.2.1 1, 10, .inr (.inl (L 0)))) := by rw [h74]; exact g_up_f hy9 ((fun q => absurd (Hj 9 0 (by decide) (by decide) q) (by decide)))
          have f84 : w73 (md 10) = some (.inl (G.2.1 1, 10, .inr (.inl (L 1)))) := by rw [h74]; exact g_up_f hy10 ((fun q => absurd (Hj 10 0 (by decide) (by decide) q) (by decide)))
          have f85 : w73 (md 11) = some (.inl (G.2.1 0, 10, .inl (Fm 11))) := by rw [h74]; exact g_up_f hy11 ((fun q => absurd (Hj 11 0 (by decide) (by decide) q) (by decide)))
          have f86 : w73 (md 0) = some (.inr (8, [.int th, .int (iL (S 0 0)), .ref (md 1), .ref (md 2), .ref (md 3), .int (iL (S 0 4)), .int (iL (S 0 5)), .int (iL (S 0 1)), .ref (md 4), .ref (md 5), .int (iL (S 0 2)), .ref (md 6), .ref (md 7), .int (iL (S 0 3)), .ref (md 8), .ref (md 9), .ref (md 10), .ref (md 11), .long (zL (fN (T 0 (saP S m 2) * (S 14 m + S 15 m) * T 1 (saP S m 0) + T 0 (saP S m 0) * (-S 14 m) * T 1 (saP S m 2)) (T 1 (saP S m 2) * T 1 (saP S m 0)))), .long (zL (fD (T 0 (saP S m 2) * (S 14 m + S 15 m) * T 1 (saP S m 0) + T 0 (saP S m 0) * (-S 14 m) * T 1 (saP S m 2)) (T 1 (saP S m 2) * T 1 (saP S m 0))))])) := by rw [h74]; exact g_up_s _ _ _
          refine lv_aload_n hx hb dX7_tellBySet_145 rfl (lv_at hl 6 rfl) ?_
          refine lv_aload_n hx hb dX7_tellBySet_146 rfl (lv_at hl 6 rfl) ?_
          refine g_get F hP (C := RX7) (T := TX7) (N := 20) iX7 f86 rfl 18 (by decide) (List.mem_cons_of_mem _ (List.mem_append_left _ (List.mem_append_left _ (List.mem_of_getElem? (i := 1) rfl)))) (fun _ h9 => h9) rfl dX7_tellBySet_147 ?_
          refine lv_aload_n hx hb dX7_tellBySet_150 rfl (lv_at hl 6 rfl) ?_
          refine g_get F hP (C := RX7) (T := TX7) (N := 20) iX7 f86 rfl 19 (by decide) (List.mem_cons_of_mem _ (List.mem_append_left _ (List.mem_append_left _ (List.mem_of_getElem? (i := 2) rfl)))) (fun _ h9 => h9) rfl dX7_tellBySet_151 ?_
          refine lv_iload hx hb dX7_tellBySet_154 (lv_at hl 0 rfl) ?_
          refine lv_iload hx hb dX7_tellBySet_156 (lv_at hl 3 rfl) ?_
          refine lv_icmp_ne (tgt := 169) hx hb dX7_tellBySet_158 (by decide) (fun c87 => ?_) (fun c87 => ?_)
          · refine lv_iload hx hb dX7_tellBySet_169 (lv_at hl 0 rfl) ?_
            refine lv_iload_n hx hb dX7_tellBySet_171 rfl (lv_at hl 5 rfl) ?_
            refine lv_icmp_ne (tgt := 180) hx hb dX7_tellBySet_172 (by decide) (fun c88 => ?_) (fun c88 => ?_)
            · refine lv_lload hx hb dX7_tellBySet_180 (lv_at hl 1 rfl) ?_
              refine lv_lmul hx hb dX7_tellBySet_182 ?_
              refine lv_topl (fun v89 ev89 => ?_)
              obtain rfl : v89 = zL (fD (T 0 (saP S m 2) * (S 14 m + S 15 m) * T 1 (saP S m 0) + T 0 (saP S m 0) * (-S 14 m) * T 1 (saP S m 2)) (T 1 (saP S m 2) * T 1 (saP S m 0)) * (S 15 m)) := by
                rw [ev89]
                exact zL_mul _ _
              have hbY : (fD (T 0 (saP S m 2) * (S 14 m + S 15 m) * T 1 (saP S m 0) + T 0 (saP S m 0) * (-S 14 m) * T 1 (saP S m 2)) (T 1 (saP S m 2) * T 1 (saP S m 0)) * (S 15 m)).natAbs ≤ 1000000000000 * 400 := by
                rw [Int.natAbs_mul]
                exact Nat.mul_le_mul (by omega) (by omega)
              have hnN := fN_le (fN (T 0 (saP S m 2) * (S 14 m + S 15 m) * T 1 (saP S m 0) + T 0 (saP S m 0) * (-S 14 m) * T 1 (saP S m 2)) (T 1 (saP S m 2) * T 1 (saP S m 0))) (fD (T 0 (saP S m 2) * (S 14 m + S 15 m) * T 1 (saP S m 0) + T 0 (saP S m 0) * (-S 14 m) * T 1 (saP S m 2)) (T 1 (saP S m 2) * T 1 (saP S m 0)) * (S 15 m))
              have hnD := fD_le (fN (T 0 (saP S m 2) * (S 14 m + S 15 m) * T 1 (saP S m 0) + T 0 (saP S m 0) * (-S 14 m) * T 1 (saP S m 2)) (T 1 (saP S m 2) * T 1 (saP S m 0))) (fD (T 0 (saP S m 2) * (S 14 m + S 15 m) * T 1 (saP S m 0) + T 0 (saP S m 0) * (-S 14 m) * T 1 (saP S m 2)) (T 1 (saP S m 2) * T 1 (saP S m 0)) * (S 15 m))
              refine g_Vv (As := [.long (zL (fN (T 0 (saP S m 2) * (S 14 m + S 15 m) * T 1 (saP S m 0) + T 0 (saP S m 0) * (-S 14 m) * T 1 (saP S m 2)) (T 1 (saP S m 2) * T 1 (saP S m 0)))), .long (zL (fD (T 0 (saP S m 2) * (S 14 m + S 15 m) * T 1 (saP S m 0) + T 0 (saP S m 0) * (-S 14 m) * T 1 (saP S m 2)) (T 1 (saP S m 2) * T 1 (saP S m 0)) * (S 15 m)))]) (rest := []) F hP hS (k_X7_make l A G w73 md S _ _ _ Fm L (fN (T 0 (saP S m 2) * (S 14 m + S 15 m) * T 1 (saP S m 0) + T 0 (saP S m 0) * (-S 14 m) * T 1 (saP S m 2)) (T 1 (saP S m 2) * T 1 (saP S m 0))) (fD (T 0 (saP S m 2) * (S 14 m + S 15 m) * T 1 (saP S m 0) + T 0 (saP S m 0) * (-S 14 m) * T 1 (saP S m 2)) (T 1 (saP S m 2) * T 1 (saP S m 0)) * (S 15 m)) f86 (Int.mul_ne_zero (by omega) (by omega)) (by omega) (by omega)) (cwV 2 hts gX7_tellBySet_X7_make rfl rfl rfl cd_X7_make ⟨by rw [hR]; exact Nat.le_of_ble_eq_true rfl, by rw [hR]; exact Nat.le_of_ble_eq_true rfl⟩) f86 rfl rfl rfl hl.1 (Nat.le_of_ble_eq_true rfl) dX7_tellBySet_183 ⟨by rw [hR]; exact Nat.le_of_ble_eq_true rfl, by rw [hR]; exact Nat.le_of_ble_eq_true rfl⟩ rfl (fun w91 H locs h92 hP hS => ?_)
              have f93 : w91 (md 1) = some (.inl (G.2.1 0, 10, .inl (Fm 1))) := by rw [h92]; exact g_up_f f75 ((fun q => absurd (Hj 1 0 (by decide) (by decide) q) (by decide)))
              have f94 : w91 (md 2) = some (.inl (G.2.1 0, 10, .inl (Fm 2))) := by rw [h92]; exact g_up_f f76 ((fun q => absurd (Hj 2 0 (by decide) (by decide) q) (by decide)))
              have f95 : w91 (md 3) = some (.inl (G.2.1 2, 10, .inl (Fm 3))) := by rw [h92]; exact g_up_f f77 ((fun q => absurd (Hj 3 0 (by decide) (by decide) q) (by decide)))
              have f96 : w91 (md 4) = some (.inl (G.2.1 0, 64, .inl (Fm 4))) := by rw [h92]; exact g_up_f f78 ((fun q => absurd (Hj 4 0 (by decide) (by decide) q) (by decide)))
              have f97 : w91 (md 5) = some (.inl (G.2.1 2, 16, .inl (Fm 5))) := by rw [h92]; exact g_up_f f79 ((fun q => absurd (Hj 5 0 (by decide) (by decide) q) (by decide)))
              have f98 : w91 (md 6) = some (.inl (G.2.1 0, 16, .inl (Fm 6))) := by rw [h92]; exact g_up_f f80 ((fun q => absurd (Hj 6 0 (by decide) (by decide) q) (by decide)))
              have f99 : w91 (md 7) = some (.inl (G.2.1 0, 16, .inl (Fm 7))) := by rw [h92]; exact g_up_f f81 ((fun q => absurd (Hj 7 0 (by decide) (by decide) q) (by decide)))
              have f100 : w91 (md 8) = some (.inl (G.2.1 0, 20, .inl (Fm 8))) := by rw [h92]; exact g_up_f f82 ((fun q => absurd (Hj 8 0 (by decide) (by decide) q) (by decide)))
              have f101 : w91 (md 9) = some (.inl (G.2.1 1, 10, .inr (.inl (L 0)))) := by rw [h92]; exact g_up_f f83 ((fun q => absurd (Hj 9 0 (by decide) (by decide) q) (by decide)))
              have f102 : w91 (md 10) = some (.inl (G.2.1 1, 10, .inr (.inl (L 1)))) := by rw [h92]; exact g_up_f f84 ((fun q => absurd (Hj 10 0 (by decide) (by decide) q) (by decide)))
              have f103 : w91 (md 11) = some (.inl (G.2.1 0, 10, .inl (Fm 11))) := by rw [h92]; exact g_up_f f85 ((fun q => absurd (Hj 11 0 (by decide) (by decide) q) (by decide)))
              have f104 : w91 (md 0) = some (.inr (8, [.int th, .int (iL (S 0 0)), .ref (md 1), .ref (md 2), .ref (md 3), .int (iL (S 0 4)), .int (iL (S 0 5)), .int (iL (S 0 1)), .ref (md 4), .ref (md 5), .int (iL (S 0 2)), .ref (md 6), .ref (md 7), .int (iL (S 0 3)), .ref (md 8), .ref (md 9), .ref (md 10), .ref (md 11), .long (zL (fN (fN (T 0 (saP S m 2) * (S 14 m + S 15 m) * T 1 (saP S m 0) + T 0 (saP S m 0) * (-S 14 m) * T 1 (saP S m 2)) (T 1 (saP S m 2) * T 1 (saP S m 0))) (fD (T 0 (saP S m 2) * (S 14 m + S 15 m) * T 1 (saP S m 0) + T 0 (saP S m 0) * (-S 14 m) * T 1 (saP S m 2)) (T 1 (saP S m 2) * T 1 (saP S m 0)) * (S 15 m)))), .long (zL (fD (fN (T 0 (saP S m 2) * (S 14 m + S 15 m) * T 1 (saP S m 0) + T 0 (saP S m 0) * (-S 14 m) * T 1 (saP S m 2)) (T 1 (saP S m 2) * T 1 (saP S m 0))) (fD (T 0 (saP S m 2) * (S 14 m + S 15 m) * T 1 (saP S m 0) + T 0 (saP S m 0) * (-S 14 m) * T 1 (saP S m 2)) (T 1 (saP S m 2) * T 1 (saP S m 0)) * (S 15 m))))])) := by rw [h92]; exact g_up_s _ _ _
              refine lv_iconst (v := 0) hx hb dX7_tellBySet_186 (by decide) ?_
              refine lv_istore (lv' := [(10, .int 0), (9, .int (nI (saP S m 1))), (7, .long (zL (S 15 m))), (5, .long (zL (S 14 m))), (4, .int (nI (saP S m 2))), (3, .int (nI (saP S m 1))), (2, .int (nI (saP S m 0))), (0, .ref (md 0)), (1, .int (nI m))]) hx hb dX7_tellBySet_187 hl (by decide) rfl (fun ls hl => ?_)
              refine lv_iconst (v := 0) hx hb dX7_tellBySet_189 (by decide) ?_
              refine lv_istore (lv' := [(11, .int 0), (10, .int 0), (9, .int (nI (saP S m 1))), (7, .long (zL (S 15 m))), (5, .long (zL (S 14 m))), (4, .int (nI (saP S m 2))), (3, .int (nI (saP S m 1))), (2, .int (nI (saP S m 0))), (0, .ref (md 0)), (1, .int (nI m))]) hx hb dX7_tellBySet_190 hl (by decide) rfl (fun ls hl => ?_)
              have L192 : ∀ (n : Nat) (k : Nat) (H : Heap) (locs : List Loc) (ls : Array Slot), 4 ≤ k + n → (k ≤ 3) → g_P A G w91 H → va_S A s.heap H locs → lv_has ls 12 [(11, .int (nI k)), (10, .int (iL (mxT S T m 1 k))), (0, .ref (md 0)), (1, .int (nI m)), (9, .int (nI (saP S m 1)))] → W p l e R s m args below meth c H locs (0) (0) Q (F0 m 192 ls []) := by
                intro n
                induction n with
                | zero =>
                  intro k H locs ls hfu hk3 hP hS hl
                  exact absurd hfu (by omega)
                | succ n ih_L192 =>
                  intro k H locs ls hfu hk3 hP hS hl
                  refine lv_iload hx hb dX7_tellBySet_192 (lv_at hl 0 rfl) ?_
                  refine lv_iconst (v := 3) hx hb dX7_tellBySet_194 (by decide) ?_
                  refine lv_icmp_ge (tgt := 243) hx hb dX7_tellBySet_195 (by decide) (fun c105 => ?_) (fun c105 => ?_)
                  · have zc105 : 3 ≤ k := (nI_le (a := 3) (b := k) (by decide) (by omega)).mp c105
                    refine lv_aload_n hx hb dX7_tellBySet_243 rfl (lv_at hl 2 rfl) ?_
                    refine lv_iload hx hb dX7_tellBySet_244 (lv_at hl 4 rfl) ?_
                    refine lv_iload hx hb dX7_tellBySet_246 (lv_at hl 1 rfl) ?_
                    refine lv_iconst (v := 1) hx hb dX7_tellBySet_248 (by decide) ?_
                    refine lv_iadd hx hb dX7_tellBySet_249 ?_
                    refine lv_topi (fun v106 ev106 => ?_)
                    obtain rfl : v106 = iL (mxT S T m 1 3 + 1) := by
                      rw [ev106]
                      rw [show k = 3 by omega]; exact iL_add _ 1
                    refine g_Vi (As := [.int (nI (saP S m 1)), .int (iL (mxT S T m 1 3 + 1))]) (rest := []) F hP hS (k_X7_tell l A G w91 md S th (fN (fN (T 0 (saP S m 2) * (S 14 m + S 15 m) * T 1 (saP S m 0) + T 0 (saP S m 0) * (-S 14 m) * T 1 (saP S m 2)) (T 1 (saP S m 2) * T 1 (saP S m 0))) (fD (T 0 (saP S m 2) * (S 14 m + S 15 m) * T 1 (saP S m 0) + T 0 (saP S m 0) * (-S 14 m) * T 1 (saP S m 2)) (T 1 (saP S m 2) * T 1 (saP S m 0)) * (S 15 m))) (fD (fN (T 0 (saP S m 2) * (S 14 m + S 15 m) * T 1 (saP S m 0) + T 0 (saP S m 0) * (-S 14 m) * T 1 (saP S m 2)) (T 1 (saP S m 2) * T 1 (saP S m 0))) (fD (T 0 (saP S m 2) * (S 14 m + S 15 m) * T 1 (saP S m 0) + T 0 (saP S m 0) * (-S 14 m) * T 1 (saP S m 2)) (T 1 (saP S m 2) * T 1 (saP S m 0)) * (S 15 m))) Fm L (saP S m 1) (iL (mxT S T m 1 3 + 1)) f104 f101 f102 f103 Hj (by omega) (by omega) (by omega)) (cwV 2 hts gX7_tellBySet_X7_tell rfl rfl rfl cd_X7_tell ⟨by rw [hR]; exact Nat.le_of_ble_eq_true rfl, by rw [hR]; exact Nat.le_of_ble_eq_true rfl⟩) f104 rfl rfl rfl hl.1 (Nat.le_of_ble_eq_true rfl) dX7_tellBySet_250 ⟨by rw [hR]; exact Nat.le_of_ble_eq_true rfl, by rw [hR]; exact Nat.le_of_ble_eq_true rfl⟩ rfl (fun r107 w108 H locs h109 hP hS => ?_)
                    rw [h109.1]
                    rw [hQ]
                    refine g_zret F hP hS hlocks hr (by first | rfl | exact g_nb _) dX7_tellBySet_253 (by first | exact Nat.le_of_ble_eq_true rfl | omega) (by first | exact Nat.le_of_ble_eq_true rfl | omega) ?_
                    exact ⟨by rw [same.1, same.2], tell_sol Hj ⟨f104, f93, f94, f95, f96, f97, f98, f99, f100, f101, f102, f103⟩ (mFr_tr (mFr_tr (mFr_rf _ _) (mFr_se (i := 0) (by decide) h74)) (mFr_se (i := 0) (by decide) h92)) HT same.1.symm.symm same.2 (by rw [mxT_g (pl := 1) (by decide) v1 (fun j q1 q2 => by have b1 := (Ht.1 _ (hsk j)).2.2.2.2; have b2 : T 2 (saP S m j) ≠ -1 := hU.2.2 j q1 q2; omega)]) rfl h109.2⟩
                  · have zc105 : k < 3 := by
                      rcases Nat.lt_or_ge k 3 with q | q
                      · exact q
                      · exact absurd ((nI_le (a := 3) (b := k) (by decide) (by omega)).mpr q) c105
                    refine lv_aload_n hx hb dX7_tellBySet_198 rfl (lv_at hl 2 rfl) ?_
                    refine g_get F hP (C := RX7) (T := TX7) (N := 20) iX7 f104 rfl 14 (by decide) (List.mem_cons_of_mem _ (List.mem_append_left _ (List.mem_append_left _ (List.mem_of_getElem? (i := 0) rfl)))) (fun _ h9 => h9) rfl dX7_tellBySet_199 ?_
                    refine lv_iconst (v := 5) hx hb dX7_tellBySet_202 (by decide) ?_
                    refine lv_iload_n hx hb dX7_tellBySet_203 rfl (lv_at hl 3 rfl) ?_
                    refine lv_imul hx hb dX7_tellBySet_204 ?_
                    refine lv_topi (fun v110 ev110 => ?_)
                    obtain rfl : v110 = nI (5 * m) := by
                      rw [ev110]
                      exact nI_mul 5 m
                    refine lv_iload hx hb dX7_tellBySet_205 (lv_at hl 0 rfl) ?_
                    refine lv_iadd hx hb dX7_tellBySet_207 ?_
                    refine lv_topi (fun v111 ev111 => ?_)
                    obtain rfl : v111 = nI (5 * m + k) := by
                      rw [ev111]
                      exact nI_add _ _
                    refine g_iald F hP f100 (vp_in_nI (n := 5 * m + k) (by omega) (by decide)) dX7_tellBySet_208 ?_
                    rw [show (.int ((Fm 8) (nI (5 * m + k) : Int32).toNatClampNeg) : Value) = .int (nI (saP S m k)) from by rw [nI_clamp (n := 5 * m + k) (by omega), q8 k zc105]]
                    refine lv_iload hx hb dX7_tellBySet_209 (lv_at hl 4 rfl) ?_
                    refine lv_icmp_eq (tgt := 237) hx hb dX7_tellBySet_211 (by decide) (fun c112 => ?_) (fun c112 => ?_)
                    · have yc112 : k = 1 := (heq k zc105).mp c112
                      have em : mxT S T m 1 (k + 1) = mxT S T m 1 k := if_pos yc112
                      obtain ⟨i113, ei113⟩ : ∃ y : Int32, y = nI k + (1) := ⟨_, rfl⟩
                      refine lv_iinc (v := i113) (lv' := [(11, .int i113), (10, .int (iL (mxT S T m 1 k))), (0, .ref (md 0)), (1, .int (nI m)), (9, .int (nI (saP S m 1)))]) hx hb dX7_tellBySet_237 hl (k := 0) rfl (by rw [ei113]; rfl) (by decide) rfl (fun ls hl => ?_)
                      obtain rfl : i113 = nI (k + 1) := by
                        rw [ei113]
                        exact nI_1 k
                      refine lv_goto (tgt := 192) hx hb dX7_tellBySet_240 (by decide) ?_
                      rw [← em] at hl
                      exact ih_L192 (k + 1) H locs ls (by omega) (by omega) hP hS (lv_sub hl [0, 1, 2, 3, 4] rfl)
                    · have yc112 : k ≠ 1 := fun q => c112 ((heq k zc105).mpr q)
                      have em : mxT S T m 1 (k + 1) = if mxT S T m 1 k < T 2 (saP S m k) then T 2 (saP S m k) else mxT S T m 1 k := if_neg yc112
                      have bk := (Ht.1 _ (hsk k)).2.2.2.2
                      have bm := hmx k (by omega)
                      refine lv_iload hx hb dX7_tellBySet_214 (lv_at hl 1 rfl) ?_
                      refine lv_aload_n hx hb dX7_tellBySet_216 rfl (lv_at hl 2 rfl) ?_
                      refine g_get F hP (C := RX7) (T := TX7) (N := 20) iX7 f104 rfl 17 (by decide) (List.mem_cons_of_mem _ (List.mem_append_left _ (List.mem_append_left _ (List.mem_of_getElem? (i := 3) rfl)))) (fun _ h9 => h9) rfl dX7_tellBySet_217 ?_
                      refine lv_aload_n hx hb dX7_tellBySet_220 rfl (lv_at hl 2 rfl) ?_
                      refine g_get F hP (C := RX7) (T := TX7) (N := 20) iX7 f104 rfl 14 (by decide) (List.mem_cons_of_mem _ (List.mem_append_left _ (List.mem_append_left _ (List.mem_of_getElem? (i := 0) rfl)))) (fun _ h9 => h9) rfl dX7_tellBySet_221 ?_
                      refine lv_iconst (v := 5) hx hb dX7_tellBySet_224 (by decide) ?_
                      refine lv_iload_n hx hb dX7_tellBySet_225 rfl (lv_at hl 3 rfl) ?_
                      refine lv_imul hx hb dX7_tellBySet_226 ?_
                      refine lv_topi (fun v114 ev114 => ?_)
                      obtain rfl : v114 = nI (5 * m) := by
                        rw [ev114]
                        exact nI_mul 5 m
                      refine lv_iload hx hb dX7_tellBySet_227 (lv_at hl 0 rfl) ?_
                      refine lv_iadd hx hb dX7_tellBySet_229 ?_
                      refine lv_topi (fun v115 ev115 => ?_)
                      obtain rfl : v115 = nI (5 * m + k) := by
                        rw [ev115]
                        exact nI_add _ _
                      refine g_iald F hP f100 (vp_in_nI (n := 5 * m + k) (by omega) (by decide)) dX7_tellBySet_230 ?_
                      rw [show (.int ((Fm 8) (nI (5 * m + k) : Int32).toNatClampNeg) : Value) = .int (nI (saP S m k)) from by rw [nI_clamp (n := 5 * m + k) (by omega), q8 k zc105]]
                      refine g_iald F hP f103 (vp_in_nI (by have := hsk k; omega) (by decide)) dX7_tellBySet_231 ?_
                      rw [show (.int ((Fm 11) (nI (saP S m k) : Int32).toNatClampNeg) : Value) = .int (iL (T 2 (saP S m k))) from by rw [nI_clamp (by have := hsk k; omega), (HT _ (hsk k)).2.2]]
                      refine va_mmax hx hb (by rw [hml]; exact hl.1.symm) hown (hts _ (List.mem_cons_of_mem _ (List.mem_append_left _ (List.mem_append_left _ (List.mem_of_getElem? (i := 4) rfl))))) (hts _ (List.mem_cons_of_mem _ (List.mem_append_left _ (List.mem_append_left _ (List.mem_of_getElem? (i := 5) rfl))))) (hts _ (List.mem_cons_of_mem _ (List.mem_append_left _ (List.mem_append_left _ (List.mem_of_getElem? (i := 6) rfl))))) (hts _ (List.mem_cons_of_mem _ (List.mem_append_left _ (List.mem_append_left _ (List.mem_of_getElem? (i := 7) rfl))))) (by rw [hR]; exact Nat.le_of_ble_eq_true rfl) (by rw [hR]; exact Nat.le_of_ble_eq_true rfl) (by rw [hR]; first | exact Nat.le_of_ble_eq_true rfl | (dsimp only; omega)) (by rw [hR]; first | exact Nat.le_of_ble_eq_true rfl | (dsimp only; omega)) dX7_tellBySet_232 ?_
                      refine lv_topi (fun v116 ev116 => ?_)
                      obtain rfl : v116 = iL (mxT S T m 1 (k + 1)) := by
                        rw [ev116]
                        have q1 : iL (mxT S T m 1 k) < iL (T 2 (saP S m k)) ↔ mxT S T m 1 k < T 2 (saP S m k) := iL_lt (by omega) (by omega) (by omega) (by omega)
                        rw [em]
                        by_cases q2 : mxT S T m 1 k < T 2 (saP S m k)
                        · rw [if_pos q2, if_pos (q1.mpr q2)]
                        · rw [if_neg q2, if_neg (fun q => q2 (q1.mp q))]
                      refine lv_istore (lv' := [(10, .int (iL (mxT S T m 1 (k + 1)))), (11, .int (nI k)), (0, .ref (md 0)), (1, .int (nI m)), (9, .int (nI (saP S m 1)))]) hx hb dX7_tellBySet_235 hl (by decide) rfl (fun ls hl => ?_)
                      obtain ⟨i117, ei117⟩ : ∃ y : Int32, y = nI k + (1) := ⟨_, rfl⟩
                      refine lv_iinc (v := i117) (lv' := [(11, .int i117), (10, .int (iL (mxT S T m 1 (k + 1)))), (0, .ref (md 0)), (1, .int (nI m)), (9, .int (nI (saP S m 1)))]) hx hb dX7_tellBySet_237 hl (k := 1) rfl (by rw [ei117]; rfl) (by decide) rfl (fun ls hl => ?_)
                      obtain rfl : i117 = nI (k + 1) := by
                        rw [ei117]
                        exact nI_1 k
                      refine lv_goto (tgt := 192) hx hb dX7_tellBySet_240 (by decide) ?_
                      exact ih_L192 (k + 1)  H locs ls (by omega) (by omega) hP hS (lv_sub hl [0, 1, 2, 3, 4] rfl)
              exact L192 4 0  H locs ls (by omega) (by decide) hP hS (lv_sub hl [0, 1, 8, 9, 2] rfl)
            · exact absurd c88.symm n01
          · exact absurd c87 n12
        · exact absurd c69.symm n01
      · exact absurd c68 n12
  · have yc16 := of_decide_eq_false (g_b0.mp c16)
    have pl9 : pl = 0 := by
      rcases Nat.eq_zero_or_pos pl with q | q
      · exact q
      · exact absurd (Decidable.not_not.mp yc16) (hU.2.2 0 (by decide) (by omega))
    subst pl9
    have v1 : T 2 (saP S m 1) ≠ -1 := hU.2.2 1 (by decide) (by decide)
    have v2 : T 2 (saP S m 2) ≠ -1 := hU.2.2 2 (by decide) (by decide)
    have v0 : T 2 (saP S m 0) = -1 := hU.2.1
    refine lv_iload_n hx hb dX7_tellBySet_66 rfl (lv_at hl 4 rfl) ?_
    refine lv_goto (tgt := 84) hx hb dX7_tellBySet_67 (by decide) ?_
    refine lv_istore (lv' := [(9, .int (nI (saP S m 0))), (7, .long (zL (S 15 m))), (5, .long (zL (S 14 m))), (4, .int (nI (saP S m 2))), (3, .int (nI (saP S m 1))), (2, .int (nI (saP S m 0))), (0, .ref (md 0)), (1, .int (nI m))]) hx hb dX7_tellBySet_84 hl (by decide) rfl (fun ls hl => ?_)
    refine lv_iload hx hb dX7_tellBySet_86 (lv_at hl 0 rfl) ?_
    refine lv_iload hx hb dX7_tellBySet_88 (lv_at hl 3 rfl) ?_
    refine lv_icmp_ne (tgt := 106) hx hb dX7_tellBySet_90 (by decide) (fun c118 => ?_) (fun c118 => ?_)
    · refine lv_iload hx hb dX7_tellBySet_106 (lv_at hl 0 rfl) ?_
      refine lv_iload_n hx hb dX7_tellBySet_108 rfl (lv_at hl 5 rfl) ?_
      refine lv_icmp_ne (tgt := 130) hx hb dX7_tellBySet_109 (by decide) (fun c119 => ?_) (fun c119 => ?_)
      · exact absurd rfl c119
      · refine lv_aload_n hx hb dX7_tellBySet_112 rfl (lv_at hl 6 rfl) ?_
        refine lv_iload hx hb dX7_tellBySet_113 (lv_at hl 3 rfl) ?_
        refine lv_lload hx hb dX7_tellBySet_115 (lv_at hl 2 rfl) ?_
        refine lv_lload hx hb dX7_tellBySet_117 (lv_at hl 1 rfl) ?_
        refine lv_ladd hx hb dX7_tellBySet_119 ?_
        refine lv_topl (fun v120 ev120 => ?_)
        obtain rfl : v120 = zL (S 14 m + S 15 m) := by
          rw [ev120]
          exact zL_add _ _
        refine lv_iload_n hx hb dX7_tellBySet_120 rfl (lv_at hl 4 rfl) ?_
        refine lv_lload hx hb dX7_tellBySet_121 (lv_at hl 1 rfl) ?_
        refine lv_lneg hx hb dX7_tellBySet_123 ?_
        refine lv_topl (fun v121 ev121 => ?_)
        obtain rfl : v121 = zL (-S 15 m) := by
          rw [ev121]
          exact zL_neg _
        obtain ⟨same, sb1, sb2, sb3, sb4, sb5, sb6⟩ := set_s Hi Ht hm (Or.inl ⟨rfl, rfl, rfl, rfl, rfl, rfl⟩)
        have sd := fD_pos (x := T 0 (saP S m 2) * (S 14 m + S 15 m) * T 1 (saP S m 1) + T 0 (saP S m 1) * (-S 15 m) * T 1 (saP S m 2)) (Int.mul_ne_zero sb3 sb4)
        have sn1 := fN_le (T 0 (saP S m 2) * (S 14 m + S 15 m) * T 1 (saP S m 1) + T 0 (saP S m 1) * (-S 15 m) * T 1 (saP S m 2)) (T 1 (saP S m 2) * T 1 (saP S m 1))
        have sd1 := fD_le (T 0 (saP S m 2) * (S 14 m + S 15 m) * T 1 (saP S m 1) + T 0 (saP S m 1) * (-S 15 m) * T 1 (saP S m 2)) (T 1 (saP S m 2) * T 1 (saP S m 1))
        refine g_Vv (As := [.int (nI (saP S m 2)), .long (zL (S 14 m + S 15 m)), .int (nI (saP S m 1)), .long (zL (-S 15 m))]) (rest := []) F hP hS (k_X7_sum l A G w md S _ _ _ Fm L (saP S m 2) (saP S m 1) (S 14 m + S 15 m) (-S 15 m) (T 0 (saP S m 2)) (T 1 (saP S m 2)) (T 0 (saP S m 1)) (T 1 (saP S m 1)) hx0 hy9 hy10 (by omega) (by omega) (HT _ hs2).1 ((HT _ hs2).2.1.trans (if_neg v2)) (HT _ hs1).1 ((HT _ hs1).2.1.trans (if_neg v1)) sb3 sb4 (by omega) (by omega)) (cwV 4 hts gX7_tellBySet_X7_sum rfl rfl rfl cd_X7_sum ⟨by rw [hR]; exact Nat.le_of_ble_eq_true rfl, by rw [hR]; exact Nat.le_of_ble_eq_true rfl⟩) hx0 rfl rfl rfl hl.1 (Nat.le_of_ble_eq_true rfl) dX7_tellBySet_124 ⟨by rw [hR]; exact Nat.le_of_ble_eq_true rfl, by rw [hR]; exact Nat.le_of_ble_eq_true rfl⟩ rfl (fun w123 H locs h124 hP hS => ?_)
        have f125 : w123 (md 1) = some (.inl (G.2.1 0, 10, .inl (Fm 1))) := by rw [h124]; exact g_up_f hy1 ((fun q => absurd (Hj 1 0 (by decide) (by decide) q) (by decide)))
        have f126 : w123 (md 2) = some (.inl (G.2.1 0, 10, .inl (Fm 2))) := by rw [h124]; exact g_up_f hy2 ((fun q => absurd (Hj 2 0 (by decide) (by decide) q) (by decide)))
        have f127 : w123 (md 3) = some (.inl (G.2.1 2, 10, .inl (Fm 3))) := by rw [h124]; exact g_up_f hy3 ((fun q => absurd (Hj 3 0 (by decide) (by decide) q) (by decide)))
        have f128 : w123 (md 4) = some (.inl (G.2.1 0, 64, .inl (Fm 4))) := by rw [h124]; exact g_up_f hy4 ((fun q => absurd (Hj 4 0 (by decide) (by decide) q) (by decide)))
        have f129 : w123 (md 5) = some (.inl (G.2.1 2, 16, .inl (Fm 5))) := by rw [h124]; exact g_up_f hy5 ((fun q => absurd (Hj 5 0 (by decide) (by decide) q) (by decide)))
        have f130 : w123 (md 6) = some (.inl (G.2.1 0, 16, .inl (Fm 6))) := by rw [h124]; exact g_up_f hy6 ((fun q => absurd (Hj 6 0 (by decide) (by decide) q) (by decide)))
        have f131 : w123 (md 7) = some (.inl (G.2.1 0, 16, .inl (Fm 7))) := by rw [h124]; exact g_up_f hy7 ((fun q => absurd (Hj 7 0 (by decide) (by decide) q) (by decide)))
        have f132 : w123 (md 8) = some (.inl (G.2.1 0, 20, .inl (Fm 8))) := by rw [h124]; exact g_up_f hy8 ((fun q => absurd (Hj 8 0 (by decide) (by decide) q) (by decide)))
        have f133 : w123 (md 9) = some (.inl (G.2.1 1, 10, .inr (.inl (L 0)))) := by rw [h124]; exact g_up_f hy9 ((fun q => absurd (Hj 9 0 (by decide) (by decide) q) (by decide)))
        have f134 : w123 (md 10) = some (.inl (G.2.1 1, 10, .inr (.inl (L 1)))) := by rw [h124]; exact g_up_f hy10 ((fun q => absurd (Hj 10 0 (by decide) (by decide) q) (by decide)))
        have f135 : w123 (md 11) = some (.inl (G.2.1 0, 10, .inl (Fm 11))) := by rw [h124]; exact g_up_f hy11 ((fun q => absurd (Hj 11 0 (by decide) (by decide) q) (by decide)))
        have f136 : w123 (md 0) = some (.inr (8, [.int th, .int (iL (S 0 0)), .ref (md 1), .ref (md 2), .ref (md 3), .int (iL (S 0 4)), .int (iL (S 0 5)), .int (iL (S 0 1)), .ref (md 4), .ref (md 5), .int (iL (S 0 2)), .ref (md 6), .ref (md 7), .int (iL (S 0 3)), .ref (md 8), .ref (md 9), .ref (md 10), .ref (md 11), .long (zL (fN (T 0 (saP S m 2) * (S 14 m + S 15 m) * T 1 (saP S m 1) + T 0 (saP S m 1) * (-S 15 m) * T 1 (saP S m 2)) (T 1 (saP S m 2) * T 1 (saP S m 1)))), .long (zL (fD (T 0 (saP S m 2) * (S 14 m + S 15 m) * T 1 (saP S m 1) + T 0 (saP S m 1) * (-S 15 m) * T 1 (saP S m 2)) (T 1 (saP S m 2) * T 1 (saP S m 1))))])) := by rw [h124]; exact g_up_s _ _ _
        refine lv_goto (tgt := 145) hx hb dX7_tellBySet_127 (by decide) ?_
        refine lv_aload_n hx hb dX7_tellBySet_145 rfl (lv_at hl 6 rfl) ?_
        refine lv_aload_n hx hb dX7_tellBySet_146 rfl (lv_at hl 6 rfl) ?_
        refine g_get F hP (C := RX7) (T := TX7) (N := 20) iX7 f136 rfl 18 (by decide) (List.mem_cons_of_mem _ (List.mem_append_left _ (List.mem_append_left _ (List.mem_of_getElem? (i := 1) rfl)))) (fun _ h9 => h9) rfl dX7_tellBySet_147 ?_
        refine lv_aload_n hx hb dX7_tellBySet_150 rfl (lv_at hl 6 rfl) ?_
        refine g_get F hP (C := RX7) (T := TX7) (N := 20) iX7 f136 rfl 19 (by decide) (List.mem_cons_of_mem _ (List.mem_append_left _ (List.mem_append_left _ (List.mem_of_getElem? (i := 2) rfl)))) (fun _ h9 => h9) rfl dX7_tellBySet_151 ?_
        refine lv_iload hx hb dX7_tellBySet_154 (lv_at hl 0 rfl) ?_
        refine lv_iload hx hb dX7_tellBySet_156 (lv_at hl 3 rfl) ?_
        refine lv_icmp_ne (tgt := 169) hx hb dX7_tellBySet_158 (by decide) (fun c137 => ?_) (fun c137 => ?_)
        · refine lv_iload hx hb dX7_tellBySet_169 (lv_at hl 0 rfl) ?_
          refine lv_iload_n hx hb dX7_tellBySet_171 rfl (lv_at hl 5 rfl) ?_
          refine lv_icmp_ne (tgt := 180) hx hb dX7_tellBySet_172 (by decide) (fun c138 => ?_) (fun c138 => ?_)
          · exact absurd rfl c138
          · refine lv_lload hx hb dX7_tellBySet_175 (lv_at hl 2 rfl) ?_
            refine lv_goto (tgt := 182) hx hb dX7_tellBySet_177 (by decide) ?_
            refine lv_lmul hx hb dX7_tellBySet_182 ?_
            refine lv_topl (fun v139 ev139 => ?_)
            obtain rfl : v139 = zL (fD (T 0 (saP S m 2) * (S 14 m + S 15 m) * T 1 (saP S m 1) + T 0 (saP S m 1) * (-S 15 m) * T 1 (saP S m 2)) (T 1 (saP S m 2) * T 1 (saP S m 1)) * (S 14 m)) := by
              rw [ev139]
              exact zL_mul _ _
            have hbY : (fD (T 0 (saP S m 2) * (S 14 m + S 15 m) * T 1 (saP S m 1) + T 0 (saP S m 1) * (-S 15 m) * T 1 (saP S m 2)) (T 1 (saP S m 2) * T 1 (saP S m 1)) * (S 14 m)).natAbs ≤ 1000000000000 * 400 := by
              rw [Int.natAbs_mul]
              exact Nat.mul_le_mul (by omega) (by omega)
            have hnN := fN_le (fN (T 0 (saP S m 2) * (S 14 m + S 15 m) * T 1 (saP S m 1) + T 0 (saP S m 1) * (-S 15 m) * T 1 (saP S m 2)) (T 1 (saP S m 2) * T 1 (saP S m 1))) (fD (T 0 (saP S m 2) * (S 14 m + S 15 m) * T 1 (saP S m 1) + T 0 (saP S m 1) * (-S 15 m) * T 1 (saP S m 2)) (T 1 (saP S m 2) * T 1 (saP S m 1)) * (S 14 m))
            have hnD := fD_le (fN (T 0 (saP S m 2) * (S 14 m + S 15 m) * T 1 (saP S m 1) + T 0 (saP S m 1) * (-S 15 m) * T 1 (saP S m 2)) (T 1 (saP S m 2) * T 1 (saP S m 1))) (fD (T 0 (saP S m 2) * (S 14 m + S 15 m) * T 1 (saP S m 1) + T 0 (saP S m 1) * (-S 15 m) * T 1 (saP S m 2)) (T 1 (saP S m 2) * T 1 (saP S m 1)) * (S 14 m))
            refine g_Vv (As := [.long (zL (fN (T 0 (saP S m 2) * (S 14 m + S 15 m) * T 1 (saP S m 1) + T 0 (saP S m 1) * (-S 15 m) * T 1 (saP S m 2)) (T 1 (saP S m 2) * T 1 (saP S m 1)))), .long (zL (fD (T 0 (saP S m 2) * (S 14 m + S 15 m) * T 1 (saP S m 1) + T 0 (saP S m 1) * (-S 15 m) * T 1 (saP S m 2)) (T 1 (saP S m 2) * T 1 (saP S m 1)) * (S 14 m)))]) (rest := []) F hP hS (k_X7_make l A G w123 md S _ _ _ Fm L (fN (T 0 (saP S m 2) * (S 14 m + S 15 m) * T 1 (saP S m 1) + T 0 (saP S m 1) * (-S 15 m) * T 1 (saP S m 2)) (T 1 (saP S m 2) * T 1 (saP S m 1))) (fD (T 0 (saP S m 2) * (S 14 m + S 15 m) * T 1 (saP S m 1) + T 0 (saP S m 1) * (-S 15 m) * T 1 (saP S m 2)) (T 1 (saP S m 2) * T 1 (saP S m 1)) * (S 14 m)) f136 (Int.mul_ne_zero (by omega) (by omega)) (by omega) (by omega)) (cwV 2 hts gX7_tellBySet_X7_make rfl rfl rfl cd_X7_make ⟨by rw [hR]; exact Nat.le_of_ble_eq_true rfl, by rw [hR]; exact Nat.le_of_ble_eq_true rfl⟩) f136 rfl rfl rfl hl.1 (Nat.le_of_ble_eq_true rfl) dX7_tellBySet_183 ⟨by rw [hR]; exact Nat.le_of_ble_eq_true rfl, by rw [hR]; exact Nat.le_of_ble_eq_true rfl⟩ rfl (fun w141 H locs h142 hP hS => ?_)
            have f143 : w141 (md 1) = some (.inl (G.2.1 0, 10, .inl (Fm 1))) := by rw [h142]; exact g_up_f f125 ((fun q => absurd (Hj 1 0 (by decide) (by decide) q) (by decide)))
            have f144 : w141 (md 2) = some (.inl (G.2.1 0, 10, .inl (Fm 2))) := by rw [h142]; exact g_up_f f126 ((fun q => absurd (Hj 2 0 (by decide) (by decide) q) (by decide)))
            have f145 : w141 (md 3) = some (.inl (G.2.1 2, 10, .inl (Fm 3))) := by rw [h142]; exact g_up_f f127 ((fun q => absurd (Hj 3 0 (by decide) (by decide) q) (by decide)))
            have f146 : w141 (md 4) = some (.inl (G.2.1 0, 64, .inl (Fm 4))) := by rw [h142]; exact g_up_f f128 ((fun q => absurd (Hj 4 0 (by decide) (by decide) q) (by decide)))
            have f147 : w141 (md 5) = some (.inl (G.2.1 2, 16, .inl (Fm 5))) := by rw [h142]; exact g_up_f f129 ((fun q => absurd (Hj 5 0 (by decide) (by decide) q) (by decide)))
            have f148 : w141 (md 6) = some (.inl (G.2.1 0, 16, .inl (Fm 6))) := by rw [h142]; exact g_up_f f130 ((fun q => absurd (Hj 6 0 (by decide) (by decide) q) (by decide)))
            have f149 : w141 (md 7) = some (.inl (G.2.1 0, 16, .inl (Fm 7))) := by rw [h142]; exact g_up_f f131 ((fun q => absurd (Hj 7 0 (by decide) (by decide) q) (by decide)))
            have f150 : w141 (md 8) = some (.inl (G.2.1 0, 20, .inl (Fm 8))) := by rw [h142]; exact g_up_f f132 ((fun q => absurd (Hj 8 0 (by decide) (by decide) q) (by decide)))
            have f151 : w141 (md 9) = some (.inl (G.2.1 1, 10, .inr (.inl (L 0)))) := by rw [h142]; exact g_up_f f133 ((fun q => absurd (Hj 9 0 (by decide) (by decide) q) (by decide)))
            have f152 : w141 (md 10) = some (.inl (G.2.1 1, 10, .inr (.inl (L 1)))) := by rw [h142]; exact g_up_f f134 ((fun q => absurd (Hj 10 0 (by decide) (by decide) q) (by decide)))
            have f153 : w141 (md 11) = some (.inl (G.2.1 0, 10, .inl (Fm 11))) := by rw [h142]; exact g_up_f f135 ((fun q => absurd (Hj 11 0 (by decide) (by decide) q) (by decide)))
            have f154 : w141 (md 0) = some (.inr (8, [.int th, .int (iL (S 0 0)), .ref (md 1), .ref (md 2), .ref (md 3), .int (iL (S 0 4)), .int (iL (S 0 5)), .int (iL (S 0 1)), .ref (md 4), .ref (md 5), .int (iL (S 0 2)), .ref (md 6), .ref (md 7), .int (iL (S 0 3)), .ref (md 8), .ref (md 9), .ref (md 10), .ref (md 11), .long (zL (fN (fN (T 0 (saP S m 2) * (S 14 m + S 15 m) * T 1 (saP S m 1) + T 0 (saP S m 1) * (-S 15 m) * T 1 (saP S m 2)) (T 1 (saP S m 2) * T 1 (saP S m 1))) (fD (T 0 (saP S m 2) * (S 14 m + S 15 m) * T 1 (saP S m 1) + T 0 (saP S m 1) * (-S 15 m) * T 1 (saP S m 2)) (T 1 (saP S m 2) * T 1 (saP S m 1)) * (S 14 m)))), .long (zL (fD (fN (T 0 (saP S m 2) * (S 14 m + S 15 m) * T 1 (saP S m 1) + T 0 (saP S m 1) * (-S 15 m) * T 1 (saP S m 2)) (T 1 (saP S m 2) * T 1 (saP S m 1))) (fD (T 0 (saP S m 2) * (S 14 m + S 15 m) * T 1 (saP S m 1) + T 0 (saP S m 1) * (-S 15 m) * T 1 (saP S m 2)) (T 1 (saP S m 2) * T 1 (saP S m 1)) * (S 14 m))))])) := by rw [h142]; exact g_up_s _ _ _
            refine lv_iconst (v := 0) hx hb dX7_tellBySet_186 (by decide) ?_
            refine lv_istore (lv' := [(10, .int 0), (9, .int (nI (saP S m 0))), (7, .long (zL (S 15 m))), (5, .long (zL (S 14 m))), (4, .int (nI (saP S m 2))), (3, .int (nI (saP S m 1))), (2, .int (nI (saP S m 0))), (0, .ref (md 0)), (1, .int (nI m))]) hx hb dX7_tellBySet_187 hl (by decide) rfl (fun ls hl => ?_)
            refine lv_iconst (v := 0) hx hb dX7_tellBySet_189 (by decide) ?_
            refine lv_istore (lv' := [(11, .int 0), (10, .int 0), (9, .int (nI (saP S m 0))), (7, .long (zL (S 15 m))), (5, .long (zL (S 14 m))), (4, .int (nI (saP S m 2))), (3, .int (nI (saP S m 1))), (2, .int (nI (saP S m 0))), (0, .ref (md 0)), (1, .int (nI m))]) hx hb dX7_tellBySet_190 hl (by decide) rfl (fun ls hl => ?_)
            have L192 : ∀ (n : Nat) (k : Nat) (H : Heap) (locs : List Loc) (ls : Array Slot), 4 ≤ k + n → (k ≤ 3) → g_P A G w141 H → va_S A s.heap H locs → lv_has ls 12 [(11, .int (nI k)), (10, .int (iL (mxT S T m 0 k))), (0, .ref (md 0)), (1, .int (nI m)), (9, .int (nI (saP S m 0)))] → W p l e R s m args below meth c H locs (0) (0) Q (F0 m 192 ls []) := by
              intro n
              induction n with
              | zero =>
                intro k H locs ls hfu hk3 hP hS hl
                exact absurd hfu (by omega)
              | succ n ih_L192 =>
                intro k H locs ls hfu hk3 hP hS hl
                refine lv_iload hx hb dX7_tellBySet_192 (lv_at hl 0 rfl) ?_
                refine lv_iconst (v := 3) hx hb dX7_tellBySet_194 (by decide) ?_
                refine lv_icmp_ge (tgt := 243) hx hb dX7_tellBySet_195 (by decide) (fun c155 => ?_) (fun c155 => ?_)
                · have zc155 : 3 ≤ k := (nI_le (a := 3) (b := k) (by decide) (by omega)).mp c155
                  refine lv_aload_n hx hb dX7_tellBySet_243 rfl (lv_at hl 2 rfl) ?_
                  refine lv_iload hx hb dX7_tellBySet_244 (lv_at hl 4 rfl) ?_
                  refine lv_iload hx hb dX7_tellBySet_246 (lv_at hl 1 rfl) ?_
                  refine lv_iconst (v := 1) hx hb dX7_tellBySet_248 (by decide) ?_
                  refine lv_iadd hx hb dX7_tellBySet_249 ?_
                  refine lv_topi (fun v156 ev156 => ?_)
                  obtain rfl : v156 = iL (mxT S T m 0 3 + 1) := by
                    rw [ev156]
                    rw [show k = 3 by omega]; exact iL_add _ 1
                  refine g_Vi (As := [.int (nI (saP S m 0)), .int (iL (mxT S T m 0 3 + 1))]) (rest := []) F hP hS (k_X7_tell l A G w141 md S th (fN (fN (T 0 (saP S m 2) * (S 14 m + S 15 m) * T 1 (saP S m 1) + T 0 (saP S m 1) * (-S 15 m) * T 1 (saP S m 2)) (T 1 (saP S m 2) * T 1 (saP S m 1))) (fD (T 0 (saP S m 2) * (S 14 m + S 15 m) * T 1 (saP S m 1) + T 0 (saP S m 1) * (-S 15 m) * T 1 (saP S m 2)) (T 1 (saP S m 2) * T 1 (saP S m 1)) * (S 14 m))) (fD (fN (T 0 (saP S m 2) * (S 14 m + S 15 m) * T 1 (saP S m 1) + T 0 (saP S m 1) * (-S 15 m) * T 1 (saP S m 2)) (T 1 (saP S m 2) * T 1 (saP S m 1))) (fD (T 0 (saP S m 2) * (S 14 m + S 15 m) * T 1 (saP S m 1) + T 0 (saP S m 1) * (-S 15 m) * T 1 (saP S m 2)) (T 1 (saP S m 2) * T 1 (saP S m 1)) * (S 14 m))) Fm L (saP S m 0) (iL (mxT S T m 0 3 + 1)) f154 f151 f152 f153 Hj (by omega) (by omega) (by omega)) (cwV 2 hts gX7_tellBySet_X7_tell rfl rfl rfl cd_X7_tell ⟨by rw [hR]; exact Nat.le_of_ble_eq_true rfl, by rw [hR]; exact Nat.le_of_ble_eq_true rfl⟩) f154 rfl rfl rfl hl.1 (Nat.le_of_ble_eq_true rfl) dX7_tellBySet_250 ⟨by rw [hR]; exact Nat.le_of_ble_eq_true rfl, by rw [hR]; exact Nat.le_of_ble_eq_true rfl⟩ rfl (fun r157 w158 H locs h159 hP hS => ?_)
                  rw [h159.1]
                  rw [hQ]
                  refine g_zret F hP hS hlocks hr (by first | rfl | exact g_nb _) dX7_tellBySet_253 (by first | exact Nat.le_of_ble_eq_true rfl | omega) (by first | exact Nat.le_of_ble_eq_true rfl | omega) ?_
                  exact ⟨by rw [same.1, same.2], tell_sol Hj ⟨f154, f143, f144, f145, f146, f147, f148, f149, f150, f151, f152, f153⟩ (mFr_tr (mFr_tr (mFr_rf _ _) (mFr_se (i := 0) (by decide) h124)) (mFr_se (i := 0) (by decide) h142)) HT same.1.symm.symm same.2 (by rw [mxT_g (pl := 0) (by decide) v0 (fun j q1 q2 => by have b1 := (Ht.1 _ (hsk j)).2.2.2.2; have b2 : T 2 (saP S m j) ≠ -1 := hU.2.2 j q1 q2; omega)]) rfl h159.2⟩
                · have zc155 : k < 3 := by
                    rcases Nat.lt_or_ge k 3 with q | q
                    · exact q
                    · exact absurd ((nI_le (a := 3) (b := k) (by decide) (by omega)).mpr q) c155
                  refine lv_aload_n hx hb dX7_tellBySet_198 rfl (lv_at hl 2 rfl) ?_
                  refine g_get F hP (C := RX7) (T := TX7) (N := 20) iX7 f154 rfl 14 (by decide) (List.mem_cons_of_mem _ (List.mem_append_left _ (List.mem_append_left _ (List.mem_of_getElem? (i := 0) rfl)))) (fun _ h9 => h9) rfl dX7_tellBySet_199 ?_
                  refine lv_iconst (v := 5) hx hb dX7_tellBySet_202 (by decide) ?_
                  refine lv_iload_n hx hb dX7_tellBySet_203 rfl (lv_at hl 3 rfl) ?_
                  refine lv_imul hx hb dX7_tellBySet_204 ?_
                  refine lv_topi (fun v160 ev160 => ?_)
                  obtain rfl : v160 = nI (5 * m) := by
                    rw [ev160]
                    exact nI_mul 5 m
                  refine lv_iload hx hb dX7_tellBySet_205 (lv_at hl 0 rfl) ?_
                  refine lv_iadd hx hb dX7_tellBySet_207 ?_
                  refine lv_topi (fun v161 ev161 => ?_)
                  obtain rfl : v161 = nI (5 * m + k) := by
                    rw [ev161]
                    exact nI_add _ _
                  refine g_iald F hP f150 (vp_in_nI (n := 5 * m + k) (by omega) (by decide)) dX7_tellBySet_208 ?_
                  rw [show (.int ((Fm 8) (nI (5 * m + k) : Int32).toNatClampNeg) : Value) = .int (nI (saP S m k)) from by rw [nI_clamp (n := 5 * m + k) (by omega), q8 k zc155]]
                  refine lv_iload hx hb dX7_tellBySet_209 (lv_at hl 4 rfl) ?_
                  refine lv_icmp_eq (tgt := 237) hx hb dX7_tellBySet_211 (by decide) (fun c162 => ?_) (fun c162 => ?_)
                  · have yc162 : k = 0 := (heq k zc155).mp c162
                    have em : mxT S T m 0 (k + 1) = mxT S T m 0 k := if_pos yc162
                    obtain ⟨i163, ei163⟩ : ∃ y : Int32, y = nI k + (1) := ⟨_, rfl⟩
                    refine lv_iinc (v := i163) (lv' := [(11, .int i163), (10, .int (iL (mxT S T m 0 k))), (0, .ref (md 0)), (1, .int (nI m)), (9, .int (nI (saP S m 0)))]) hx hb dX7_tellBySet_237 hl (k := 0) rfl (by rw [ei163]; rfl) (by decide) rfl (fun ls hl => ?_)
                    obtain rfl : i163 = nI (k + 1) := by
                      rw [ei163]
                      exact nI_1 k
                    refine lv_goto (tgt := 192) hx hb dX7_tellBySet_240 (by decide) ?_
                    rw [← em] at hl
                    exact ih_L192 (k + 1) H locs ls (by omega) (by omega) hP hS (lv_sub hl [0, 1, 2, 3, 4] rfl)
                  · have yc162 : k ≠ 0 := fun q => c162 ((heq k zc155).mpr q)
                    have em : mxT S T m 0 (k + 1) = if mxT S T m 0 k < T 2 (saP S m k) then T 2 (saP S m k) else mxT S T m 0 k := if_neg yc162
                    have bk := (Ht.1 _ (hsk k)).2.2.2.2
                    have bm := hmx k (by omega)
                    refine lv_iload hx hb dX7_tellBySet_214 (lv_at hl 1 rfl) ?_
                    refine lv_aload_n hx hb dX7_tellBySet_216 rfl (lv_at hl 2 rfl) ?_
                    refine g_get F hP (C := RX7) (T := TX7) (N := 20) iX7 f154 rfl 17 (by decide) (List.mem_cons_of_mem _ (List.mem_append_left _ (List.mem_append_left _ (List.mem_of_getElem? (i := 3) rfl)))) (fun _ h9 => h9) rfl dX7_tellBySet_217 ?_
                    refine lv_aload_n hx hb dX7_tellBySet_220 rfl (lv_at hl 2 rfl) ?_
                    refine g_get F hP (C := RX7) (T := TX7) (N := 20) iX7 f154 rfl 14 (by decide) (List.mem_cons_of_mem _ (List.mem_append_left _ (List.mem_append_left _ (List.mem_of_getElem? (i := 0) rfl)))) (fun _ h9 => h9) rfl dX7_tellBySet_221 ?_
                    refine lv_iconst (v := 5) hx hb dX7_tellBySet_224 (by decide) ?_
                    refine lv_iload_n hx hb dX7_tellBySet_225 rfl (lv_at hl 3 rfl) ?_
                    refine lv_imul hx hb dX7_tellBySet_226 ?_
                    refine lv_topi (fun v164 ev164 => ?_)
                    obtain rfl : v164 = nI (5 * m) := by
                      rw [ev164]
                      exact nI_mul 5 m
                    refine lv_iload hx hb dX7_tellBySet_227 (lv_at hl 0 rfl) ?_
                    refine lv_iadd hx hb dX7_tellBySet_229 ?_
                    refine lv_topi (fun v165 ev165 => ?_)
                    obtain rfl : v165 = nI (5 * m + k) := by
                      rw [ev165]
                      exact nI_add _ _
                    refine g_iald F hP f150 (vp_in_nI (n := 5 * m + k) (by omega) (by decide)) dX7_tellBySet_230 ?_
                    rw [show (.int ((Fm 8) (nI (5 * m + k) : Int32).toNatClampNeg) : Value) = .int (nI (saP S m k)) from by rw [nI_clamp (n := 5 * m + k) (by omega), q8 k zc155]]
                    refine g_iald F hP f153 (vp_in_nI (by have := hsk k; omega) (by decide)) dX7_tellBySet_231 ?_
                    rw [show (.int ((Fm 11) (nI (saP S m k) : Int32).toNatClampNeg) : Value) = .int (iL (T 2 (saP S m k))) from by rw [nI_clamp (by have := hsk k; omega), (HT _ (hsk k)).2.2]]
                    refine va_mmax hx hb (by rw [hml]; exact hl.1.symm) hown (hts _ (List.mem_cons_of_mem _ (List.mem_append_left _ (List.mem_append_left _ (List.mem_of_getElem? (i := 4) rfl))))) (hts _ (List.mem_cons_of_mem _ (List.mem_append_left _ (List.mem_append_left _ (List.mem_of_getElem? (i := 5) rfl))))) (hts _ (List.mem_cons_of_mem _ (List.mem_append_left _ (List.mem_append_left _ (List.mem_of_getElem? (i := 6) rfl))))) (hts _ (List.mem_cons_of_mem _ (List.mem_append_left _ (List.mem_append_left _ (List.mem_of_getElem? (i := 7) rfl))))) (by rw [hR]; exact Nat.le_of_ble_eq_true rfl) (by rw [hR]; exact Nat.le_of_ble_eq_true rfl) (by rw [hR]; first | exact Nat.le_of_ble_eq_true rfl | (dsimp only; omega)) (by rw [hR]; first | exact Nat.le_of_ble_eq_true rfl | (dsimp only; omega)) dX7_tellBySet_232 ?_
                    refine lv_topi (fun v166 ev166 => ?_)
                    obtain rfl : v166 = iL (mxT S T m 0 (k + 1)) := by
                      rw [ev166]
                      have q1 : iL (mxT S T m 0 k) < iL (T 2 (saP S m k)) ↔ mxT S T m 0 k < T 2 (saP S m k) := iL_lt (by omega) (by omega) (by omega) (by omega)
                      rw [em]
                      by_cases q2 : mxT S T m 0 k < T 2 (saP S m k)
                      · rw [if_pos q2, if_pos (q1.mpr q2)]
                      · rw [if_neg q2, if_neg (fun q => q2 (q1.mp q))]
                    refine lv_istore (lv' := [(10, .int (iL (mxT S T m 0 (k + 1)))), (11, .int (nI k)), (0, .ref (md 0)), (1, .int (nI m)), (9, .int (nI (saP S m 0)))]) hx hb dX7_tellBySet_235 hl (by decide) rfl (fun ls hl => ?_)
                    obtain ⟨i167, ei167⟩ : ∃ y : Int32, y = nI k + (1) := ⟨_, rfl⟩
                    refine lv_iinc (v := i167) (lv' := [(11, .int i167), (10, .int (iL (mxT S T m 0 (k + 1)))), (0, .ref (md 0)), (1, .int (nI m)), (9, .int (nI (saP S m 0)))]) hx hb dX7_tellBySet_237 hl (k := 1) rfl (by rw [ei167]; rfl) (by decide) rfl (fun ls hl => ?_)
                    obtain rfl : i167 = nI (k + 1) := by
                      rw [ei167]
                      exact nI_1 k
                    refine lv_goto (tgt := 192) hx hb dX7_tellBySet_240 (by decide) ?_
                    exact ih_L192 (k + 1)  H locs ls (by omega) (by omega) hP hS (lv_sub hl [0, 1, 2, 3, 4] rfl)
            exact L192 4 0  H locs ls (by omega) (by decide) hP hS (lv_sub hl [0, 1, 8, 9, 2] rfl)
        · exact absurd c137 n02
    · exact absurd c118 n02
