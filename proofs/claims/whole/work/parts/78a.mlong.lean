set_option maxHeartbeats 4000000 in
set_option maxRecDepth 100000 in
theorem k_X7_torque (l : Launch) (A : Nat → Prop) (G : g_C) (w : g_W) (md : Nat → Nat) (S : Sg) (th : Int32) (tp bt : Int64) (Fm : Nat → Nat → Int32) (L : Nat → Nat → Int64) (pn qn : Int32) (Hm : modW G w md S th tp bt Fm L) (Hj : modI md) (Hf : modF S Fm) (Hi : invS S) : mL l yX7_torque wsX7_torque ({ frames := 6, cells := 2, slots := 20, locals := 177 } : Room) [.ref (md 0), .int pn, .int qn] A G w (fun r w' => mRes G md w w' S S (cdTorque S (told S) pn qn) (r = vlTorque S (told S) pn qn)) 2 20 := by
  refine g_ofL (cc := cX7_torque) (maxL := 6) (ret := (some .long)) (own := RX7) (by decide) rfl rfl (Nat.le_of_ble_eq_true rfl) ?_
  intro p e R s m args below meth c Q ls hR F hP hS hlocks hr hnm0 hQ hl
  obtain ⟨⟨hx, hb, hml, hown, hts⟩, hK, hZ, hA⟩ := id F
  generalize hH0 : s.heap = H at hP ⊢
  have hS : va_S A s.heap H [] := by rw [← hH0]; exact va_S.rf
  generalize ([] : List Loc) = locs at hS ⊢
  have hl : lv_has ls 6 [(0, .ref (md 0)), (1, .int pn), (2, .int qn)] := hl
  have iX7 : ∀ w ∈ u_ws RX7 TX7 20, w ∈ wsX7_torque := fun w h => List.mem_cons_of_mem _ (List.mem_append_right _ (h))
  obtain ⟨hx0, hy1, hy2, hy3, hy4, hy5, hy6, hy7, hy8, hy9, hy10, hy11⟩ := id Hm
  have hi := Hi.1
  refine lv_aload_n hx hb dX7_torque_0 rfl (lv_at hl 0 rfl) ?_
  refine lv_aload_n hx hb dX7_torque_1 rfl (lv_at hl 0 rfl) ?_
  refine lv_iload_n hx hb dX7_torque_2 rfl (lv_at hl 1 rfl) ?_
  refine g_Vi (As := [.int pn]) (rest := [.ref (md 0)]) F hP hS (k_X7_isShaft l A G w md S _ _ _ Fm L pn hx0 Hf Hi) (cwV 1 hts gX7_torque_X7_isShaft rfl rfl rfl cd_X7_isShaft ⟨by rw [hR]; exact Nat.le_of_ble_eq_true rfl, by rw [hR]; exact Nat.le_of_ble_eq_true rfl⟩) hx0 rfl rfl rfl hl.1 (Nat.le_of_ble_eq_true rfl) dX7_torque_3 ⟨by rw [hR]; exact Nat.le_of_ble_eq_true rfl, by rw [hR]; exact Nat.le_of_ble_eq_true rfl⟩ rfl (fun r1 w2 H locs h3 hP hS => ?_)
  have hr1 := h3.1
  rw [h3.2] at hP
  rw [hr1]
  refine lv_if_ne (tgt := 13) hx hb dX7_torque_6 (by decide) (fun c4 => ?_) (fun c4 => ?_)
  · have yc4 := of_decide_eq_true (g_b1.mp c4)
    refine lv_iload_n hx hb dX7_torque_13 rfl (lv_at hl 2 rfl) ?_
    refine lv_iconst (v := 1) hx hb dX7_torque_14 (by decide) ?_
    refine lv_sipush (v := 10000) hx hb dX7_torque_15 (by decide) ?_
    refine g_Si (As := [.int qn, .int 1, .int 10000]) (rest := [.ref (md 0)]) F hP hS (k_X7_isIn l A G w qn 1 10000) (va_cwS 3 hts gX7_torque_X7_isIn rfl rfl rfl cd_X7_isIn ⟨by rw [hR]; exact Nat.le_of_ble_eq_true rfl, by rw [hR]; exact Nat.le_of_ble_eq_true rfl⟩) rfl hl.1 (Nat.le_of_ble_eq_true rfl) dX7_torque_18 ⟨by rw [hR]; exact Nat.le_of_ble_eq_true rfl, by rw [hR]; exact Nat.le_of_ble_eq_true rfl⟩ rfl (fun r5 w6 H locs h7 hP hS => ?_)
    have hr5 := h7.1
    rw [h7.2] at hP
    rw [hr5]
    refine lv_if_ne (tgt := 28) hx hb dX7_torque_21 (by decide) (fun c8 => ?_) (fun c8 => ?_)
    · have yc8 := of_decide_eq_true (g_b1.mp c8)
      have k3 : (1 ≤ qn ∧ qn ≤ 10000) ↔ inQ qn 1 10000 := by rw [Int32.le_iff_toInt_le, Int32.le_iff_toInt_le]; exact Iff.rfl
      rw [k3] at yc8
      refine lv_iconst (v := 0) hx hb dX7_torque_28 (by decide) ?_
      refine g_put F hP hS (C := RX7) (T := TX7) (N := 20) (v := .int 0) (ty := .int) iX7 tyX7 tyX7_ok nmX7 hx0 rfl 0 (by decide) (List.mem_cons_of_mem _ (List.mem_append_left _ (List.mem_append_left _ (List.mem_of_getElem? (i := 0) rfl)))) (fun _ h9 => h9) rfl (by decide +kernel) rfl rfl (by show 0 < 20; decide) dX7_torque_29 (fun H locs hP hS => ?_)
      obtain ⟨w9, ew9⟩ : ∃ z, z = g_up w (md 0) (.inr (8, [.int 0, .int (iL (S 0 0)), .ref (md 1), .ref (md 2), .ref (md 3), .int (iL (S 0 4)), .int (iL (S 0 5)), .int (iL (S 0 1)), .ref (md 4), .ref (md 5), .int (iL (S 0 2)), .ref (md 6), .ref (md 7), .int (iL (S 0 3)), .ref (md 8), .ref (md 9), .ref (md 10), .ref (md 11), .long tp, .long bt])) := ⟨_, rfl⟩
      have hP : g_P A G w9 H := by rw [ew9]; exact hP
      have f10 : w9 (md 1) = some (.inl (G.2.1 0, 10, .inl (Fm 1))) := by rw [ew9]; exact g_up_f hy1 ((fun q => absurd (Hj 1 0 (by decide) (by decide) q) (by decide)))
      have f11 : w9 (md 2) = some (.inl (G.2.1 0, 10, .inl (Fm 2))) := by rw [ew9]; exact g_up_f hy2 ((fun q => absurd (Hj 2 0 (by decide) (by decide) q) (by decide)))
      have f12 : w9 (md 3) = some (.inl (G.2.1 2, 10, .inl (Fm 3))) := by rw [ew9]; exact g_up_f hy3 ((fun q => absurd (Hj 3 0 (by decide) (by decide) q) (by decide)))
      have f13 : w9 (md 4) = some (.inl (G.2.1 0, 64, .inl (Fm 4))) := by rw [ew9]; exact g_up_f hy4 ((fun q => absurd (Hj 4 0 (by decide) (by decide) q) (by decide)))
      have f14 : w9 (md 5) = some (.inl (G.2.1 2, 16, .inl (Fm 5))) := by rw [ew9]; exact g_up_f hy5 ((fun q => absurd (Hj 5 0 (by decide) (by decide) q) (by decide)))
      have f15 : w9 (md 6) = some (.inl (G.2.1 0, 16, .inl (Fm 6))) := by rw [ew9]; exact g_up_f hy6 ((fun q => absurd (Hj 6 0 (by decide) (by decide) q) (by decide)))
      have f16 : w9 (md 7) = some (.inl (G.2.1 0, 16, .inl (Fm 7))) := by rw [ew9]; exact g_up_f hy7 ((fun q => absurd (Hj 7 0 (by decide) (by decide) q) (by decide)))
      have f17 : w9 (md 8) = some (.inl (G.2.1 0, 20, .inl (Fm 8))) := by rw [ew9]; exact g_up_f hy8 ((fun q => absurd (Hj 8 0 (by decide) (by decide) q) (by decide)))
      have f18 : w9 (md 9) = some (.inl (G.2.1 1, 10, .inr (.inl (L 0)))) := by rw [ew9]; exact g_up_f hy9 ((fun q => absurd (Hj 9 0 (by decide) (by decide) q) (by decide)))
      have f19 : w9 (md 10) = some (.inl (G.2.1 1, 10, .inr (.inl (L 1)))) := by rw [ew9]; exact g_up_f hy10 ((fun q => absurd (Hj 10 0 (by decide) (by decide) q) (by decide)))
      have f20 : w9 (md 11) = some (.inl (G.2.1 0, 10, .inl (Fm 11))) := by rw [ew9]; exact g_up_f hy11 ((fun q => absurd (Hj 11 0 (by decide) (by decide) q) (by decide)))
      have f21 : w9 (md 0) = some (.inr (8, [.int 0, .int (iL (S 0 0)), .ref (md 1), .ref (md 2), .ref (md 3), .int (iL (S 0 4)), .int (iL (S 0 5)), .int (iL (S 0 1)), .ref (md 4), .ref (md 5), .int (iL (S 0 2)), .ref (md 6), .ref (md 7), .int (iL (S 0 3)), .ref (md 8), .ref (md 9), .ref (md 10), .ref (md 11), .long tp, .long bt])) := by rw [ew9]; exact g_up_s _ _ _
      refine lv_aload_n hx hb dX7_torque_32 rfl (lv_at hl 0 rfl) ?_
      refine g_get F hP (C := RX7) (T := TX7) (N := 20) iX7 f21 rfl 0 (by decide) (List.mem_cons_of_mem _ (List.mem_append_left _ (List.mem_append_left _ (List.mem_of_getElem? (i := 0) rfl)))) (fun _ h9 => h9) rfl dX7_torque_33 ?_
      refine lv_if_eq (tgt := 41) hx hb dX7_torque_36 (by decide) (fun c22 => ?_) (fun c22 => ?_)
      · have sk := yc4
        obtain ⟨k, hk, ek9⟩ := ix_of sk.1 sk.2
        subst ek9
        have nk : kN (nI k) = k := kN_n (by omega)
        refine lv_aload_n hx hb dX7_torque_41 rfl (lv_at hl 0 rfl) ?_
        refine g_Vv (As := []) (rest := []) F hP hS (k_X7_solve l A G w9 md S 0 tp bt Fm L ⟨f21, f10, f11, f12, f13, f14, f15, f16, f17, f18, f19, f20⟩ Hj Hf Hi) (cwV 0 hts gX7_torque_X7_solve rfl rfl rfl cd_X7_solve ⟨by rw [hR]; exact Nat.le_of_ble_eq_true rfl, by rw [hR]; exact Nat.le_of_ble_eq_true rfl⟩) f21 rfl rfl rfl hl.1 (Nat.le_of_ble_eq_true rfl) dX7_torque_42 ⟨by rw [hR]; exact Nat.le_of_ble_eq_true rfl, by rw [hR]; exact Nat.le_of_ble_eq_true rfl⟩ rfl (fun w24 H locs h25 hP hS => ?_)
        obtain ⟨hfr2, tp2, bt2, L3, f3, ⟨z0, z1, z2, z3, z4, z5, z6, z7, z8, z9, z10, z11⟩, hT3⟩ := h25
        have HT : modT S (told S) (up1 Fm 11 f3) L3 := hT3
        have HF := modF_11 Hf f3
        have Ht := told_inv Hi
        have f26 : w24 (md 0) = some (.inr (8, [.int 0, .int (iL (S 0 0)), .ref (md 1), .ref (md 2), .ref (md 3), .int (iL (S 0 4)), .int (iL (S 0 5)), .int (iL (S 0 1)), .ref (md 4), .ref (md 5), .int (iL (S 0 2)), .ref (md 6), .ref (md 7), .int (iL (S 0 3)), .ref (md 8), .ref (md 9), .ref (md 10), .ref (md 11), .long tp2, .long bt2])) := z0
        have f27 : w24 (md 1) = some (.inl (G.2.1 0, 10, .inl (Fm 1))) := z1
        have f28 : w24 (md 2) = some (.inl (G.2.1 0, 10, .inl (Fm 2))) := z2
        have f29 : w24 (md 3) = some (.inl (G.2.1 2, 10, .inl (Fm 3))) := z3
        have f30 : w24 (md 4) = some (.inl (G.2.1 0, 64, .inl (Fm 4))) := z4
        have f31 : w24 (md 5) = some (.inl (G.2.1 2, 16, .inl (Fm 5))) := z5
        have f32 : w24 (md 6) = some (.inl (G.2.1 0, 16, .inl (Fm 6))) := z6
        have f33 : w24 (md 7) = some (.inl (G.2.1 0, 16, .inl (Fm 7))) := z7
        have f34 : w24 (md 8) = some (.inl (G.2.1 0, 20, .inl (Fm 8))) := z8
        have f35 : w24 (md 9) = some (.inl (G.2.1 1, 10, .inr (.inl (L3 0)))) := z9
        have f36 : w24 (md 10) = some (.inl (G.2.1 1, 10, .inr (.inl (L3 1)))) := z10
        have f37 : w24 (md 11) = some (.inl (G.2.1 0, 10, .inl f3)) := z11
        refine lv_aload_n hx hb dX7_torque_45 rfl (lv_at hl 0 rfl) ?_
        refine lv_aload_n hx hb dX7_torque_46 rfl (lv_at hl 0 rfl) ?_
        refine g_get F hP (C := RX7) (T := TX7) (N := 20) iX7 f26 rfl 5 (by decide) (List.mem_cons_of_mem _ (List.mem_append_left _ (List.mem_append_left _ (List.mem_of_getElem? (i := 1) rfl)))) (fun _ h9 => h9) rfl dX7_torque_47 ?_
        refine lv_iconst (v := (-1)) hx hb dX7_torque_50 (by decide) ?_
        refine lv_icmp_eq (tgt := 77) hx hb dX7_torque_51 (by decide) (fun c38 => ?_) (fun c38 => ?_)
        · have k4 : iL (S 0 4) = -1 ↔ S 0 4 = -1 := by rw [show (-1 : Int32) = iL (-1) from rfl, iL_eq (by omega) (by omega) (by omega) (by omega)]
          have tk := Ht.1 k hk
          rw [k4] at c38
          refine lv_iconst (v := 3) hx hb dX7_torque_77 (by decide) ?_
          refine g_put F hP hS (C := RX7) (T := TX7) (N := 20) (v := .int 3) (ty := .int) iX7 tyX7 tyX7_ok nmX7 f26 rfl 0 (by decide) (List.mem_cons_of_mem _ (List.mem_append_left _ (List.mem_append_left _ (List.mem_of_getElem? (i := 0) rfl)))) (fun _ h9 => h9) rfl (by decide +kernel) rfl rfl (by show 0 < 20; decide) dX7_torque_78 (fun H locs hP hS => ?_)
          obtain ⟨w39, ew39⟩ : ∃ z, z = g_up w24 (md 0) (.inr (8, [.int 3, .int (iL (S 0 0)), .ref (md 1), .ref (md 2), .ref (md 3), .int (iL (S 0 4)), .int (iL (S 0 5)), .int (iL (S 0 1)), .ref (md 4), .ref (md 5), .int (iL (S 0 2)), .ref (md 6), .ref (md 7), .int (iL (S 0 3)), .ref (md 8), .ref (md 9), .ref (md 10), .ref (md 11), .long tp2, .long bt2])) := ⟨_, rfl⟩
          have hP : g_P A G w39 H := by rw [ew39]; exact hP
          have f40 : w39 (md 1) = some (.inl (G.2.1 0, 10, .inl (Fm 1))) := by rw [ew39]; exact g_up_f f27 ((fun q => absurd (Hj 1 0 (by decide) (by decide) q) (by decide)))
          have f41 : w39 (md 2) = some (.inl (G.2.1 0, 10, .inl (Fm 2))) := by rw [ew39]; exact g_up_f f28 ((fun q => absurd (Hj 2 0 (by decide) (by decide) q) (by decide)))
          have f42 : w39 (md 3) = some (.inl (G.2.1 2, 10, .inl (Fm 3))) := by rw [ew39]; exact g_up_f f29 ((fun q => absurd (Hj 3 0 (by decide) (by decide) q) (by decide)))
          have f43 : w39 (md 4) = some (.inl (G.2.1 0, 64, .inl (Fm 4))) := by rw [ew39]; exact g_up_f f30 ((fun q => absurd (Hj 4 0 (by decide) (by decide) q) (by decide)))
          have f44 : w39 (md 5) = some (.inl (G.2.1 2, 16, .inl (Fm 5))) := by rw [ew39]; exact g_up_f f31 ((fun q => absurd (Hj 5 0 (by decide) (by decide) q) (by decide)))
          have f45 : w39 (md 6) = some (.inl (G.2.1 0, 16, .inl (Fm 6))) := by rw [ew39]; exact g_up_f f32 ((fun q => absurd (Hj 6 0 (by decide) (by decide) q) (by decide)))
          have f46 : w39 (md 7) = some (.inl (G.2.1 0, 16, .inl (Fm 7))) := by rw [ew39]; exact g_up_f f33 ((fun q => absurd (Hj 7 0 (by decide) (by decide) q) (by decide)))
          have f47 : w39 (md 8) = some (.inl (G.2.1 0, 20, .inl (Fm 8))) := by rw [ew39]; exact g_up_f f34 ((fun q => absurd (Hj 8 0 (by decide) (by decide) q) (by decide)))
          have f48 : w39 (md 9) = some (.inl (G.2.1 1, 10, .inr (.inl (L3 0)))) := by rw [ew39]; exact g_up_f f35 ((fun q => absurd (Hj 9 0 (by decide) (by decide) q) (by decide)))
          have f49 : w39 (md 10) = some (.inl (G.2.1 1, 10, .inr (.inl (L3 1)))) := by rw [ew39]; exact g_up_f f36 ((fun q => absurd (Hj 10 0 (by decide) (by decide) q) (by decide)))
          have f50 : w39 (md 11) = some (.inl (G.2.1 0, 10, .inl f3)) := by rw [ew39]; exact g_up_f f37 ((fun q => absurd (Hj 11 0 (by decide) (by decide) q) (by decide)))
          have f51 : w39 (md 0) = some (.inr (8, [.int 3, .int (iL (S 0 0)), .ref (md 1), .ref (md 2), .ref (md 3), .int (iL (S 0 4)), .int (iL (S 0 5)), .int (iL (S 0 1)), .ref (md 4), .ref (md 5), .int (iL (S 0 2)), .ref (md 6), .ref (md 7), .int (iL (S 0 3)), .ref (md 8), .ref (md 9), .ref (md 10), .ref (md 11), .long tp2, .long bt2])) := by rw [ew39]; exact g_up_s _ _ _
          refine lv_aload_n hx hb dX7_torque_81 rfl (lv_at hl 0 rfl) ?_
          refine g_get F hP (C := RX7) (T := TX7) (N := 20) iX7 f51 rfl 0 (by decide) (List.mem_cons_of_mem _ (List.mem_append_left _ (List.mem_append_left _ (List.mem_of_getElem? (i := 0) rfl)))) (fun _ h9 => h9) rfl dX7_torque_82 ?_
          refine lv_if_eq (tgt := 90) hx hb dX7_torque_85 (by decide) (fun c52 => ?_) (fun c52 => ?_)
          · exact absurd c52 (by decide)
          · refine lv_lconst (v := 0) hx hb dX7_torque_88 (by decide) ?_
            rw [hQ]
            refine g_lret F hP hS hlocks hr dX7_torque_89 (by first | exact Nat.le_of_ble_eq_true rfl | omega) (by first | exact Nat.le_of_ble_eq_true rfl | omega) ?_
            exact mRes_no (c := 3) ((if_pos sk).trans ((if_pos yc8).trans (by rw [nk]; exact if_neg (fun q => q.1 c38)))) (by decide) ⟨mFr_tr (mFr_tr (mFr_tr (mFr_rf _ _) (mFr_se (i := 0) (by decide) ew9)) hfr2) (mFr_se (i := 0) (by decide) ew39), _, _, (up1 Fm 11 f3), L3, ⟨f51, f40, f41, f42, f43, f44, f45, f46, f47, f48, f49, f50⟩, HF⟩
        · have k4 : iL (S 0 4) = -1 ↔ S 0 4 = -1 := by rw [show (-1 : Int32) = iL (-1) from rfl, iL_eq (by omega) (by omega) (by omega) (by omega)]
          have tk := Ht.1 k hk
          rw [k4] at c38
          refine lv_aload_n hx hb dX7_torque_54 rfl (lv_at hl 0 rfl) ?_
          refine lv_iload_n hx hb dX7_torque_55 rfl (lv_at hl 1 rfl) ?_
          refine g_Vi (As := [.int (nI k)]) (rest := [.ref (md 0)]) F hP hS (k_X7_hasSpeed l A G w24 md S _ _ _ (up1 Fm 11 f3) L3 k (zB (told S) k) f26 f36 (by have := hk; omega) (zB_z HT hk) (zB_b Ht hk)) (cwV 1 hts gX7_torque_X7_hasSpeed rfl rfl rfl cd_X7_hasSpeed ⟨by rw [hR]; exact Nat.le_of_ble_eq_true rfl, by rw [hR]; exact Nat.le_of_ble_eq_true rfl⟩) f26 rfl rfl rfl hl.1 (Nat.le_of_ble_eq_true rfl) dX7_torque_56 ⟨by rw [hR]; exact Nat.le_of_ble_eq_true rfl, by rw [hR]; exact Nat.le_of_ble_eq_true rfl⟩ rfl (fun r53 w54 H locs h55 hP hS => ?_)
          have hr53 := h55.1
          rw [h55.2] at hP
          rw [hr53]
          rw [zB_d Ht hk]
          refine lv_if_eq (tgt := 77) hx hb dX7_torque_59 (by decide) (fun c56 => ?_) (fun c56 => ?_)
          · have yc56 := of_decide_eq_false (g_b0.mp c56)
            refine lv_iconst (v := 3) hx hb dX7_torque_77 (by decide) ?_
            refine g_put F hP hS (C := RX7) (T := TX7) (N := 20) (v := .int 3) (ty := .int) iX7 tyX7 tyX7_ok nmX7 f26 rfl 0 (by decide) (List.mem_cons_of_mem _ (List.mem_append_left _ (List.mem_append_left _ (List.mem_of_getElem? (i := 0) rfl)))) (fun _ h9 => h9) rfl (by decide +kernel) rfl rfl (by show 0 < 20; decide) dX7_torque_78 (fun H locs hP hS => ?_)
            obtain ⟨w57, ew57⟩ : ∃ z, z = g_up w24 (md 0) (.inr (8, [.int 3, .int (iL (S 0 0)), .ref (md 1), .ref (md 2), .ref (md 3), .int (iL (S 0 4)), .int (iL (S 0 5)), .int (iL (S 0 1)), .ref (md 4), .ref (md 5), .int (iL (S 0 2)), .ref (md 6), .ref (md 7), .int (iL (S 0 3)), .ref (md 8), .ref (md 9), .ref (md 10), .ref (md 11), .long tp2, .long bt2])) := ⟨_, rfl⟩
            have hP : g_P A G w57 H := by rw [ew57]; exact hP
            have f58 : w57 (md 1) = some (.inl (G.2.1 0, 10, .inl (Fm 1))) := by rw [ew57]; exact g_up_f f27 ((fun q => absurd (Hj 1 0 (by decide) (by decide) q) (by decide)))
            have f59 : w57 (md 2) = some (.inl (G.2.1 0, 10, .inl (Fm 2))) := by rw [ew57]; exact g_up_f f28 ((fun q => absurd (Hj 2 0 (by decide) (by decide) q) (by decide)))
            have f60 : w57 (md 3) = some (.inl (G.2.1 2, 10, .inl (Fm 3))) := by rw [ew57]; exact g_up_f f29 ((fun q => absurd (Hj 3 0 (by decide) (by decide) q) (by decide)))
            have f61 : w57 (md 4) = some (.inl (G.2.1 0, 64, .inl (Fm 4))) := by rw [ew57]; exact g_up_f f30 ((fun q => absurd (Hj 4 0 (by decide) (by decide) q) (by decide)))
            have f62 : w57 (md 5) = some (.inl (G.2.1 2, 16, .inl (Fm 5))) := by rw [ew57]; exact g_up_f f31 ((fun q => absurd (Hj 5 0 (by decide) (by decide) q) (by decide)))
            have f63 : w57 (md 6) = some (.inl (G.2.1 0, 16, .inl (Fm 6))) := by rw [ew57]; exact g_up_f f32 ((fun q => absurd (Hj 6 0 (by decide) (by decide) q) (by decide)))
            have f64 : w57 (md 7) = some (.inl (G.2.1 0, 16, .inl (Fm 7))) := by rw [ew57]; exact g_up_f f33 ((fun q => absurd (Hj 7 0 (by decide) (by decide) q) (by decide)))
            have f65 : w57 (md 8) = some (.inl (G.2.1 0, 20, .inl (Fm 8))) := by rw [ew57]; exact g_up_f f34 ((fun q => absurd (Hj 8 0 (by decide) (by decide) q) (by decide)))
            have f66 : w57 (md 9) = some (.inl (G.2.1 1, 10, .inr (.inl (L3 0)))) := by rw [ew57]; exact g_up_f f35 ((fun q => absurd (Hj 9 0 (by decide) (by decide) q) (by decide)))
            have f67 : w57 (md 10) = some (.inl (G.2.1 1, 10, .inr (.inl (L3 1)))) := by rw [ew57]; exact g_up_f f36 ((fun q => absurd (Hj 10 0 (by decide) (by decide) q) (by decide)))
            have f68 : w57 (md 11) = some (.inl (G.2.1 0, 10, .inl f3)) := by rw [ew57]; exact g_up_f f37 ((fun q => absurd (Hj 11 0 (by decide) (by decide) q) (by decide)))
            have f69 : w57 (md 0) = some (.inr (8, [.int 3, .int (iL (S 0 0)), .ref (md 1), .ref (md 2), .ref (md 3), .int (iL (S 0 4)), .int (iL (S 0 5)), .int (iL (S 0 1)), .ref (md 4), .ref (md 5), .int (iL (S 0 2)), .ref (md 6), .ref (md 7), .int (iL (S 0 3)), .ref (md 8), .ref (md 9), .ref (md 10), .ref (md 11), .long tp2, .long bt2])) := by rw [ew57]; exact g_up_s _ _ _
            refine lv_aload_n hx hb dX7_torque_81 rfl (lv_at hl 0 rfl) ?_
            refine g_get F hP (C := RX7) (T := TX7) (N := 20) iX7 f69 rfl 0 (by decide) (List.mem_cons_of_mem _ (List.mem_append_left _ (List.mem_append_left _ (List.mem_of_getElem? (i := 0) rfl)))) (fun _ h9 => h9) rfl dX7_torque_82 ?_
            refine lv_if_eq (tgt := 90) hx hb dX7_torque_85 (by decide) (fun c70 => ?_) (fun c70 => ?_)
            · exact absurd c70 (by decide)
            · refine lv_lconst (v := 0) hx hb dX7_torque_88 (by decide) ?_
              rw [hQ]
              refine g_lret F hP hS hlocks hr dX7_torque_89 (by first | exact Nat.le_of_ble_eq_true rfl | omega) (by first | exact Nat.le_of_ble_eq_true rfl | omega) ?_
              exact mRes_no (c := 3) ((if_pos sk).trans ((if_pos yc8).trans (by rw [nk]; exact if_neg (fun q => yc56 q.2.1)))) (by decide) ⟨mFr_tr (mFr_tr (mFr_tr (mFr_rf _ _) (mFr_se (i := 0) (by decide) ew9)) hfr2) (mFr_se (i := 0) (by decide) ew57), _, _, (up1 Fm 11 f3), L3, ⟨f69, f58, f59, f60, f61, f62, f63, f64, f65, f66, f67, f68⟩, HF⟩
          · have yc56 := of_decide_eq_true (g_b1.mp c56)
            refine lv_aload_n hx hb dX7_torque_62 rfl (lv_at hl 0 rfl) ?_
            refine g_get F hP (C := RX7) (T := TX7) (N := 20) iX7 f26 rfl 15 (by decide) (List.mem_cons_of_mem _ (List.mem_append_left _ (List.mem_append_left _ (List.mem_of_getElem? (i := 2) rfl)))) (fun _ h9 => h9) rfl dX7_torque_63 ?_
            refine lv_iload_n hx hb dX7_torque_66 rfl (lv_at hl 1 rfl) ?_
            refine g_lald F hP f35 (vp_in_nI (by omega) (by decide)) dX7_torque_67 ?_
            rw [show (.long ((L3 0) (nI k : Int32).toNatClampNeg) : Value) = .long (zL (told S 0 k)) from by rw [nI_clamp (by omega), (HT k hk).1]]
            refine lv_lconst (v := 0) hx hb dX7_torque_68 (by decide) ?_
            refine W.lcmp hx hb dX7_torque_69 ?_
            refine lv_if_eq (tgt := 77) hx hb dX7_torque_70 (by decide) (fun c71 => ?_) (fun c71 => ?_)
            · have c71 := (lg_cmp_eq (zL (told S 0 k)) 0).mp c71
              have yc71 : told S 0 k = 0 := (zL_eq0 (by omega) (by omega)).mp c71
              refine lv_iconst (v := 3) hx hb dX7_torque_77 (by decide) ?_
              refine g_put F hP hS (C := RX7) (T := TX7) (N := 20) (v := .int 3) (ty := .int) iX7 tyX7 tyX7_ok nmX7 f26 rfl 0 (by decide) (List.mem_cons_of_mem _ (List.mem_append_left _ (List.mem_append_left _ (List.mem_of_getElem? (i := 0) rfl)))) (fun _ h9 => h9) rfl (by decide +kernel) rfl rfl (by show 0 < 20; decide) dX7_torque_78 (fun H locs hP hS => ?_)
              obtain ⟨w72, ew72⟩ : ∃ z, z = g_up w24 (md 0) (.inr (8, [.int 3, .int (iL (S 0 0)), .ref (md 1), .ref (md 2), .ref (md 3), .int (iL (S 0 4)), .int (iL (S 0 5)), .int (iL (S 0 1)), .ref (md 4), .ref (md 5), .int (iL (S 0 2)), .ref (md 6), .ref (md 7), .int (iL (S 0 3)), .ref (md 8), .ref (md 9), .ref (md 10), .ref (md 11), .long tp2, .long bt2])) := ⟨_, rfl⟩
              have hP : g_P A G w72 H := by rw [ew72]; exact hP
              have f73 : w72 (md 1) = some (.inl (G.2.1 0, 10, .inl (Fm 1))) := by rw [ew72]; exact g_up_f f27 ((fun q => absurd (Hj 1 0 (by decide) (by decide) q) (by decide)))
              have f74 : w72 (md 2) = some (.inl (G.2.1 0, 10, .inl (Fm 2))) := by rw [ew72]; exact g_up_f f28 ((fun q => absurd (Hj 2 0 (by decide) (by decide) q) (by decide)))
              have f75 : w72 (md 3) = some (.inl (G.2.1 2, 10, .inl (Fm 3))) := by rw [ew72]; exact g_up_f f29 ((fun q => absurd (Hj 3 0 (by decide) (by decide) q) (by decide)))
              have f76 : w72 (md 4) = some (.inl (G.2.1 0, 64, .inl (Fm 4))) := by rw [ew72]; exact g_up_f f30 ((fun q => absurd (Hj 4 0 (by decide) (by decide) q) (by decide)))
              have f77 : w72 (md 5) = some (.inl (G.2.1 2, 16, .inl (Fm 5))) := by rw [ew72]; exact g_up_f f31 ((fun q => absurd (Hj 5 0 (by decide) (by decide) q) (by decide)))
              have f78 : w72 (md 6) = some (.inl (G.2.1 0, 16, .inl (Fm 6))) := by rw [ew72]; exact g_up_f f32 ((fun q => absurd (Hj 6 0 (by decide) (by decide) q) (by decide)))
              have f79 : w72 (md 7) = some (.inl (G.2.1 0, 16, .inl (Fm 7))) := by rw [ew72]; exact g_up_f f33 ((fun q => absurd (Hj 7 0 (by decide) (by decide) q) (by decide)))
              have f80 : w72 (md 8) = some (.inl (G.2.1 0, 20, .inl (Fm 8))) := by rw [ew72]; exact g_up_f f34 ((fun q => absurd (Hj 8 0 (by decide) (by decide) q) (by decide)))
              have f81 : w72 (md 9) = some (.inl (G.2.1 1, 10, .inr (.inl (L3 0)))) := by rw [ew72]; exact g_up_f f35 ((fun q => absurd (Hj 9 0 (by decide) (by decide) q) (by decide)))
              have f82 : w72 (md 10) = some (.inl (G.2.1 1, 10, .inr (.inl (L3 1)))) := by rw [ew72]; exact g_up_f f36 ((fun q => absurd (Hj 10 0 (by decide) (by decide) q) (by decide)))
              have f83 : w72 (md 11) = some (.inl (G.2.1 0, 10, .inl f3)) := by rw [ew72]; exact g_up_f f37 ((fun q => absurd (Hj 11 0 (by decide) (by decide) q) (by decide)))
              have f84 : w72 (md 0) = some (.inr (8, [.int 3, .int (iL (S 0 0)), .ref (md 1), .ref (md 2), .ref (md 3), .int (iL (S 0 4)), .int (iL (S 0 5)), .int (iL (S 0 1)), .ref (md 4), .ref (md 5), .int (iL (S 0 2)), .ref (md 6), .ref (md 7), .int (iL (S 0 3)), .ref (md 8), .ref (md 9), .ref (md 10), .ref (md 11), .long tp2, .long bt2])) := by rw [ew72]; exact g_up_s _ _ _
              refine lv_aload_n hx hb dX7_torque_81 rfl (lv_at hl 0 rfl) ?_
              refine g_get F hP (C := RX7) (T := TX7) (N := 20) iX7 f84 rfl 0 (by decide) (List.mem_cons_of_mem _ (List.mem_append_left _ (List.mem_append_left _ (List.mem_of_getElem? (i := 0) rfl)))) (fun _ h9 => h9) rfl dX7_torque_82 ?_
              refine lv_if_eq (tgt := 90) hx hb dX7_torque_85 (by decide) (fun c85 => ?_) (fun c85 => ?_)
              · exact absurd c85 (by decide)
              · refine lv_lconst (v := 0) hx hb dX7_torque_88 (by decide) ?_
                rw [hQ]
                refine g_lret F hP hS hlocks hr dX7_torque_89 (by first | exact Nat.le_of_ble_eq_true rfl | omega) (by first | exact Nat.le_of_ble_eq_true rfl | omega) ?_
                exact mRes_no (c := 3) ((if_pos sk).trans ((if_pos yc8).trans (by rw [nk]; exact if_neg (fun q => q.2.2 yc71)))) (by decide) ⟨mFr_tr (mFr_tr (mFr_tr (mFr_rf _ _) (mFr_se (i := 0) (by decide) ew9)) hfr2) (mFr_se (i := 0) (by decide) ew72), _, _, (up1 Fm 11 f3), L3, ⟨f84, f73, f74, f75, f76, f77, f78, f79, f80, f81, f82, f83⟩, HF⟩
            · have c71 : ¬ ((zL (told S 0 k)) = 0) := fun h => c71 ((lg_cmp_eq (zL (told S 0 k)) 0).mpr h)
              have yc71 : ¬ told S 0 k = 0 := fun q => c71 ((zL_eq0 (by omega) (by omega)).mpr q)
              refine lv_iconst (v := 0) hx hb dX7_torque_73 (by decide) ?_
              refine lv_goto (tgt := 78) hx hb dX7_torque_74 (by decide) ?_
              refine g_put F hP hS (C := RX7) (T := TX7) (N := 20) (v := .int 0) (ty := .int) iX7 tyX7 tyX7_ok nmX7 f26 rfl 0 (by decide) (List.mem_cons_of_mem _ (List.mem_append_left _ (List.mem_append_left _ (List.mem_of_getElem? (i := 0) rfl)))) (fun _ h9 => h9) rfl (by decide +kernel) rfl rfl (by show 0 < 20; decide) dX7_torque_78 (fun H locs hP hS => ?_)
              obtain ⟨w86, ew86⟩ : ∃ z, z = g_up w24 (md 0) (.inr (8, [.int 0, .int (iL (S 0 0)), .ref (md 1), .ref (md 2), .ref (md 3), .int (iL (S 0 4)), .int (iL (S 0 5)), .int (iL (S 0 1)), .ref (md 4), .ref (md 5), .int (iL (S 0 2)), .ref (md 6), .ref (md 7), .int (iL (S 0 3)), .ref (md 8), .ref (md 9), .ref (md 10), .ref (md 11), .long tp2, .long bt2])) := ⟨_, rfl⟩
              have hP : g_P A G w86 H := by rw [ew86]; exact hP
              have f87 : w86 (md 1) = some (.inl (G.2.1 0, 10, .inl (Fm 1))) := by rw [ew86]; exact g_up_f f27 ((fun q => absurd (Hj 1 0 (by decide) (by decide) q) (by decide)))
              have f88 : w86 (md 2) = some (.inl (G.2.1 0, 10, .inl (Fm 2))) := by rw [ew86]; exact g_up_f f28 ((fun q => absurd (Hj 2 0 (by decide) (by decide) q) (by decide)))
              have f89 : w86 (md 3) = some (.inl (G.2.1 2, 10, .inl (Fm 3))) := by rw [ew86]; exact g_up_f f29 ((fun q => absurd (Hj 3 0 (by decide) (by decide) q) (by decide)))
              have f90 : w86 (md 4) = some (.inl (G.2.1 0, 64, .inl (Fm 4))) := by rw [ew86]; exact g_up_f f30 ((fun q => absurd (Hj 4 0 (by decide) (by decide) q) (by decide)))
              have f91 : w86 (md 5) = some (.inl (G.2.1 2, 16, .inl (Fm 5))) := by rw [ew86]; exact g_up_f f31 ((fun q => absurd (Hj 5 0 (by decide) (by decide) q) (by decide)))
              have f92 : w86 (md 6) = some (.inl (G.2.1 0, 16, .inl (Fm 6))) := by rw [ew86]; exact g_up_f f32 ((fun q => absurd (Hj 6 0 (by decide) (by decide) q) (by decide)))
              have f93 : w86 (md 7) = some (.inl (G.2.1 0, 16, .inl (Fm 7))) := by rw [ew86]; exact g_up_f f33 ((fun q => absurd (Hj 7 0 (by decide) (by decide) q) (by decide)))
              have f94 : w86 (md 8) = some (.inl (G.2.1 0, 20, .inl (Fm 8))) := by rw [ew86]; exact g_up_f f34 ((fun q => absurd (Hj 8 0 (by decide) (by decide) q) (by decide)))
              have f95 : w86 (md 9) = some (.inl (G.2.1 1, 10, .inr (.inl (L3 0)))) := by rw [ew86]; exact g_up_f f35 ((fun q => absurd (Hj 9 0 (by decide) (by decide) q) (by decide)))
              have f96 : w86 (md 10) = some (.inl (G.2.1 1, 10, .inr (.inl (L3 1)))) := by rw [ew86]; exact g_up_f f36 ((fun q => absurd (Hj 10 0 (by decide) (by decide) q) (by decide)))
              have f97 : w86 (md 11) = some (.inl (G.2.1 0, 10, .inl f3)) := by rw [ew86]; exact g_up_f f37 ((fun q => absurd (Hj 11 0 (by decide) (by decide) q) (by decide)))
              have f98 : w86 (md 0) = some (.inr (8, [.int 0, .int (iL (S 0 0)), .ref (md 1), .ref (md 2), .ref (md 3), .int (iL (S 0 4)), .int (iL (S 0 5)), .int (iL (S 0 1)), .ref (md 4), .ref (md 5), .int (iL (S 0 2)), .ref (md 6), .ref (md 7), .int (iL (S 0 3)), .ref (md 8), .ref (md 9), .ref (md 10), .ref (md 11), .long tp2, .long bt2])) := by rw [ew86]; exact g_up_s _ _ _
              refine lv_aload_n hx hb dX7_torque_81 rfl (lv_at hl 0 rfl) ?_
              refine g_get F hP (C := RX7) (T := TX7) (N := 20) iX7 f98 rfl 0 (by decide) (List.mem_cons_of_mem _ (List.mem_append_left _ (List.mem_append_left _ (List.mem_of_getElem? (i := 0) rfl)))) (fun _ h9 => h9) rfl dX7_torque_82 ?_
              refine lv_if_eq (tgt := 90) hx hb dX7_torque_85 (by decide) (fun c99 => ?_) (fun c99 => ?_)
              · refine lv_iload_n hx hb dX7_torque_90 rfl (lv_at hl 2 rfl) ?_
                refine lv_i2l hx hb dX7_torque_91 rfl ?_
                refine lv_topl (fun v100 ev100 => ?_)
                obtain rfl : v100 = leftL qn.toInt64 0 := by
                  exact ev100
                refine lv_lstore_n (lv' := [(3, .long (leftL qn.toInt64 0)), (0, .ref (md 0)), (1, .int (nI k)), (2, .int qn)]) hx hb dX7_torque_92 rfl hl (by decide) rfl (fun ls hl => ?_)
                refine lv_iconst (v := 0) hx hb dX7_torque_93 (by decide) ?_
                refine lv_istore (lv' := [(5, .int 0), (3, .long (leftL qn.toInt64 0)), (0, .ref (md 0)), (1, .int (nI k)), (2, .int qn)]) hx hb dX7_torque_94 hl (by decide) rfl (fun ls hl => ?_)
                have L96 : ∀ (n : Nat) (j : Nat) (H : Heap) (locs : List Loc) (ls : Array Slot), (told S 2 k).toNat + 1 ≤ j + n → ((j : Int) ≤ told S 2 k) → g_P A G w86 H → va_S A s.heap H locs → lv_has ls 6 [(5, .int (nI j)), (3, .long (leftL qn.toInt64 j)), (0, .ref (md 0)), (1, .int (nI k))] → W p l e R s m args below meth c H locs (2) (20) Q (F0 m 96 ls []) := by
                  intro n
                  induction n with
                  | zero =>
                    intro j H locs ls hfu hjN hP hS hl
                    exact absurd hfu (by omega)
                  | succ n ih_L96 =>
                    intro j H locs ls hfu hjN hP hS hl
                    refine lv_iload hx hb dX7_torque_96 (lv_at hl 0 rfl) ?_
                    refine lv_aload_n hx hb dX7_torque_98 rfl (lv_at hl 2 rfl) ?_
                    refine g_get F hP (C := RX7) (T := TX7) (N := 20) iX7 f98 rfl 17 (by decide) (List.mem_cons_of_mem _ (List.mem_append_left _ (List.mem_append_left _ (List.mem_of_getElem? (i := 3) rfl)))) (fun _ h9 => h9) rfl dX7_torque_99 ?_
                    refine lv_iload_n hx hb dX7_torque_102 rfl (lv_at hl 3 rfl) ?_
                    refine g_iald F hP f97 (vp_in_nI (by omega) (by decide)) dX7_torque_103 ?_
                    rw [show (.int (f3 (nI k : Int32).toNatClampNeg) : Value) = .int (iL (told S 2 k)) from by rw [nI_clamp (by omega)]; exact congrArg Value.int (HT k hk).2.2]
                    refine lv_icmp_ge (tgt := 123) hx hb dX7_torque_104 (by decide) (fun c101 => ?_) (fun c101 => ?_)
                    · have k5 : iL (told S 2 k) ≤ nI j ↔ told S 2 k ≤ (j : Int) := iL_nle (by omega) (by omega) (by omega)
                      rw [k5] at c101
                      refine lv_lload_n hx hb dX7_torque_123 rfl (lv_at hl 1 rfl) ?_
                      refine lv_aload_n hx hb dX7_torque_124 rfl (lv_at hl 2 rfl) ?_
                      refine g_get F hP (C := RX7) (T := TX7) (N := 20) iX7 f98 rfl 6 (by decide) (List.mem_cons_of_mem _ (List.mem_append_left _ (List.mem_append_left _ (List.mem_of_getElem? (i := 6) rfl)))) (fun _ h9 => h9) rfl dX7_torque_125 ?_
                      refine lv_i2l hx hb dX7_torque_128 rfl ?_
                      refine lv_topl (fun v102 ev102 => ?_)
                      obtain rfl : v102 = (iL (S 0 5)).toInt64 := by
                        exact ev102
                      refine lv_lmul hx hb dX7_torque_129 ?_
                      refine lv_topl (fun v103 ev103 => ?_)
                      obtain rfl : v103 = leftL qn.toInt64 j * (iL (S 0 5)).toInt64 := by
                        exact ev103
                      refine lv_aload_n hx hb dX7_torque_130 rfl (lv_at hl 2 rfl) ?_
                      refine g_get F hP (C := RX7) (T := TX7) (N := 20) iX7 f98 rfl 16 (by decide) (List.mem_cons_of_mem _ (List.mem_append_left _ (List.mem_append_left _ (List.mem_of_getElem? (i := 7) rfl)))) (fun _ h9 => h9) rfl dX7_torque_131 ?_
                      refine lv_iload_n hx hb dX7_torque_134 rfl (lv_at hl 3 rfl) ?_
                      refine g_lald F hP f96 (vp_in_nI (by omega) (by decide)) dX7_torque_135 ?_
                      rw [show (.long ((L3 1) (nI k : Int32).toNatClampNeg) : Value) = .long (zL (told S 1 k)) from by rw [nI_clamp (by omega), (HT k hk).2.1, if_neg yc56]]
                      refine lv_lmul hx hb dX7_torque_136 ?_
                      refine lv_topl (fun v104 ev104 => ?_)
                      obtain rfl : v104 = leftL qn.toInt64 j * (iL (S 0 5)).toInt64 * zL (told S 1 k) := by
                        exact ev104
                      refine lv_aload_n hx hb dX7_torque_137 rfl (lv_at hl 2 rfl) ?_
                      refine g_get F hP (C := RX7) (T := TX7) (N := 20) iX7 f98 rfl 15 (by decide) (List.mem_cons_of_mem _ (List.mem_append_left _ (List.mem_append_left _ (List.mem_of_getElem? (i := 2) rfl)))) (fun _ h9 => h9) rfl dX7_torque_138 ?_
                      refine lv_iload_n hx hb dX7_torque_141 rfl (lv_at hl 3 rfl) ?_
                      refine g_lald F hP f95 (vp_in_nI (by omega) (by decide)) dX7_torque_142 ?_
                      rw [show (.long ((L3 0) (nI k : Int32).toNatClampNeg) : Value) = .long (zL (told S 0 k)) from by rw [nI_clamp (by omega), (HT k hk).1]]
                      refine lv_ldiv hx hb dX7_torque_143 (fun q => yc71 ((zL_eq0 (by omega) (by omega)).mp q)) ?_
                      refine lv_topl (fun v105 ev105 => ?_)
                      obtain rfl : v105 = leftL qn.toInt64 j * (iL (S 0 5)).toInt64 * zL (told S 1 k) / zL (told S 0 k) := by
                        exact ev105
                      rw [hQ]
                      refine g_lret F hP hS hlocks hr dX7_torque_144 (by first | exact Nat.le_of_ble_eq_true rfl | omega) (by first | exact Nat.le_of_ble_eq_true rfl | omega) ?_
                      exact Or.inr ⟨(if_pos sk).trans ((if_pos yc8).trans (by rw [nk]; exact if_pos ⟨c38, yc56, yc71⟩)), by unfold vlTorque; rw [nk, show (told S 2 k).toNat = j by omega], ⟨mFr_tr (mFr_tr (mFr_tr (mFr_rf _ _) (mFr_se (i := 0) (by decide) ew9)) hfr2) (mFr_se (i := 0) (by decide) ew86), _, _, (up1 Fm 11 f3), L3, ⟨f98, f87, f88, f89, f90, f91, f92, f93, f94, f95, f96, f97⟩, HF⟩⟩
                    · have k5 : iL (told S 2 k) ≤ nI j ↔ told S 2 k ≤ (j : Int) := iL_nle (by omega) (by omega) (by omega)
                      rw [k5] at c101
                      refine lv_lload_n hx hb dX7_torque_107 rfl (lv_at hl 1 rfl) ?_
                      refine lv_ldc2 (v := 98) hx hb hown (hts _ (List.mem_cons_of_mem _ (List.mem_append_left _ (List.mem_append_left _ (List.mem_of_getElem? (i := 4) rfl))))) dX7_torque_108 ?_
                      refine lv_lmul hx hb dX7_torque_111 ?_
                      refine lv_topl (fun v106 ev106 => ?_)
                      obtain rfl : v106 = leftL qn.toInt64 j * 98 := by
                        exact ev106
                      refine lv_ldc2 (v := 100) hx hb hown (hts _ (List.mem_cons_of_mem _ (List.mem_append_left _ (List.mem_append_left _ (List.mem_of_getElem? (i := 5) rfl))))) dX7_torque_112 ?_
                      refine lv_ldiv hx hb dX7_torque_115 (by decide) ?_
                      refine lv_topl (fun v107 ev107 => ?_)
                      obtain rfl : v107 = leftL qn.toInt64 (j + 1) := by
                        exact ev107
                      refine lv_lstore_n (lv' := [(3, .long (leftL qn.toInt64 (j + 1))), (5, .int (nI j)), (0, .ref (md 0)), (1, .int (nI k))]) hx hb dX7_torque_116 rfl hl (by decide) rfl (fun ls hl => ?_)
                      obtain ⟨i108, ei108⟩ : ∃ y : Int32, y = nI j + (1) := ⟨_, rfl⟩
                      refine lv_iinc (v := i108) (lv' := [(5, .int i108), (3, .long (leftL qn.toInt64 (j + 1))), (0, .ref (md 0)), (1, .int (nI k))]) hx hb dX7_torque_117 hl (k := 1) rfl (by rw [ei108]; rfl) (by decide) rfl (fun ls hl => ?_)
                      obtain rfl : i108 = nI (j + 1) := by
                        rw [ei108]
                        exact nI_1 j
                      refine lv_goto (tgt := 96) hx hb dX7_torque_120 (by decide) ?_
                      exact ih_L96 (j + 1)  H locs ls (by omega) (by omega) hP hS (lv_sub hl [0, 1, 2, 3] rfl)
                exact L96 ((told S 2 k).toNat + 1) 0  H locs ls (by omega) (by omega) hP hS (lv_sub hl [0, 1, 2, 3] rfl)
              · exact absurd (by decide) c99
      · exact absurd (by decide) c22
    · have yc8 := of_decide_eq_false (g_b0.mp c8)
      have k3 : (1 ≤ qn ∧ qn ≤ 10000) ↔ inQ qn 1 10000 := by rw [Int32.le_iff_toInt_le, Int32.le_iff_toInt_le]; exact Iff.rfl
      rw [k3] at yc8
      refine lv_iconst (v := 2) hx hb dX7_torque_24 (by decide) ?_
      refine lv_goto (tgt := 29) hx hb dX7_torque_25 (by decide) ?_
      refine g_put F hP hS (C := RX7) (T := TX7) (N := 20) (v := .int 2) (ty := .int) iX7 tyX7 tyX7_ok nmX7 hx0 rfl 0 (by decide) (List.mem_cons_of_mem _ (List.mem_append_left _ (List.mem_append_left _ (List.mem_of_getElem? (i := 0) rfl)))) (fun _ h9 => h9) rfl (by decide +kernel) rfl rfl (by show 0 < 20; decide) dX7_torque_29 (fun H locs hP hS => ?_)
      obtain ⟨w109, ew109⟩ : ∃ z, z = g_up w (md 0) (.inr (8, [.int 2, .int (iL (S 0 0)), .ref (md 1), .ref (md 2), .ref (md 3), .int (iL (S 0 4)), .int (iL (S 0 5)), .int (iL (S 0 1)), .ref (md 4), .ref (md 5), .int (iL (S 0 2)), .ref (md 6), .ref (md 7), .int (iL (S 0 3)), .ref (md 8), .ref (md 9), .ref (md 10), .ref (md 11), .long tp, .long bt])) := ⟨_, rfl⟩
      have hP : g_P A G w109 H := by rw [ew109]; exact hP
      have f110 : w109 (md 1) = some (.inl (G.2.1 0, 10, .inl (Fm 1))) := by rw [ew109]; exact g_up_f hy1 ((fun q => absurd (Hj 1 0 (by decide) (by decide) q) (by decide)))
      have f111 : w109 (md 2) = some (.inl (G.2.1 0, 10, .inl (Fm 2))) := by rw [ew109]; exact g_up_f hy2 ((fun q => absurd (Hj 2 0 (by decide) (by decide) q) (by decide)))
      have f112 : w109 (md 3) = some (.inl (G.2.1 2, 10, .inl (Fm 3))) := by rw [ew109]; exact g_up_f hy3 ((fun q => absurd (Hj 3 0 (by decide) (by decide) q) (by decide)))
      have f113 : w109 (md 4) = some (.inl (G.2.1 0, 64, .inl (Fm 4))) := by rw [ew109]; exact g_up_f hy4 ((fun q => absurd (Hj 4 0 (by decide) (by decide) q) (by decide)))
      have f114 : w109 (md 5) = some (.inl (G.2.1 2, 16, .inl (Fm 5))) := by rw [ew109]; exact g_up_f hy5 ((fun q => absurd (Hj 5 0 (by decide) (by decide) q) (by decide)))
      have f115 : w109 (md 6) = some (.inl (G.2.1 0, 16, .inl (Fm 6))) := by rw [ew109]; exact g_up_f hy6 ((fun q => absurd (Hj 6 0 (by decide) (by decide) q) (by decide)))
      have f116 : w109 (md 7) = some (.inl (G.2.1 0, 16, .inl (Fm 7))) := by rw [ew109]; exact g_up_f hy7 ((fun q => absurd (Hj 7 0 (by decide) (by decide) q) (by decide)))
      have f117 : w109 (md 8) = some (.inl (G.2.1 0, 20, .inl (Fm 8))) := by rw [ew109]; exact g_up_f hy8 ((fun q => absurd (Hj 8 0 (by decide) (by decide) q) (by decide)))
      have f118 : w109 (md 9) = some (.inl (G.2.1 1, 10, .inr (.inl (L 0)))) := by rw [ew109]; exact g_up_f hy9 ((fun q => absurd (Hj 9 0 (by decide) (by decide) q) (by decide)))
      have f119 : w109 (md 10) = some (.inl (G.2.1 1, 10, .inr (.inl (L 1)))) := by rw [ew109]; exact g_up_f hy10 ((fun q => absurd (Hj 10 0 (by decide) (by decide) q) (by decide)))
      have f120 : w109 (md 11) = some (.inl (G.2.1 0, 10, .inl (Fm 11))) := by rw [ew109]; exact g_up_f hy11 ((fun q => absurd (Hj 11 0 (by decide) (by decide) q) (by decide)))
      have f121 : w109 (md 0) = some (.inr (8, [.int 2, .int (iL (S 0 0)), .ref (md 1), .ref (md 2), .ref (md 3), .int (iL (S 0 4)), .int (iL (S 0 5)), .int (iL (S 0 1)), .ref (md 4), .ref (md 5), .int (iL (S 0 2)), .ref (md 6), .ref (md 7), .int (iL (S 0 3)), .ref (md 8), .ref (md 9), .ref (md 10), .ref (md 11), .long tp, .long bt])) := by rw [ew109]; exact g_up_s _ _ _
      refine lv_aload_n hx hb dX7_torque_32 rfl (lv_at hl 0 rfl) ?_
      refine g_get F hP (C := RX7) (T := TX7) (N := 20) iX7 f121 rfl 0 (by decide) (List.mem_cons_of_mem _ (List.mem_append_left _ (List.mem_append_left _ (List.mem_of_getElem? (i := 0) rfl)))) (fun _ h9 => h9) rfl dX7_torque_33 ?_
      refine lv_if_eq (tgt := 41) hx hb dX7_torque_36 (by decide) (fun c122 => ?_) (fun c122 => ?_)
      · exact absurd c122 (by decide)
      · refine lv_lconst (v := 0) hx hb dX7_torque_39 (by decide) ?_
        rw [hQ]
        refine g_lret F hP hS hlocks hr dX7_torque_40 (by first | exact Nat.le_of_ble_eq_true rfl | omega) (by first | exact Nat.le_of_ble_eq_true rfl | omega) ?_
        exact mRes_no (c := 2) ((if_pos yc4).trans (if_neg yc8)) (by decide) ⟨mFr_tr (mFr_rf _ _) (mFr_se (i := 0) (by decide) ew109), _, _, Fm, L, ⟨f121, f110, f111, f112, f113, f114, f115, f116, f117, f118, f119, f120⟩, Hf⟩
  · have yc4 := of_decide_eq_false (g_b0.mp c4)
    refine lv_iconst (v := 1) hx hb dX7_torque_9 (by decide) ?_
    refine lv_goto (tgt := 29) hx hb dX7_torque_10 (by decide) ?_
    refine g_put F hP hS (C := RX7) (T := TX7) (N := 20) (v := .int 1) (ty := .int) iX7 tyX7 tyX7_ok nmX7 hx0 rfl 0 (by decide) (List.mem_cons_of_mem _ (List.mem_append_left _ (List.mem_append_left _ (List.mem_of_getElem? (i := 0) rfl)))) (fun _ h9 => h9) rfl (by decide +kernel) rfl rfl (by show 0 < 20; decide) dX7_torque_29 (fun H locs hP hS => ?_)
    obtain ⟨w123, ew123⟩ : ∃ z, z = g_up w (md 0) (.inr (8, [.int 1, .int (iL (S 0 0)), .ref (md 1), .ref (md 2), .ref (md 3), .int (iL (S 0 4)), .int (iL (S 0 5)), .int (iL (S 0 1)), .ref (md 4), .ref (md 5), .int (iL (S 0 2)), .ref (md 6), .ref (md 7), .int (iL (S 0 3)), .ref (md 8), .ref (md 9), .ref (md 10), .ref (md 11), .long tp, .long bt])) := ⟨_, rfl⟩
    have hP : g_P A G w123 H := by rw [ew123]; exact hP
    have f124 : w123 (md 1) = some (.inl (G.2.1 0, 10, .inl (Fm 1))) := by rw [ew123]; exact g_up_f hy1 ((fun q => absurd (Hj 1 0 (by decide) (by decide) q) (by decide)))
    have f125 : w123 (md 2) = some (.inl (G.2.1 0, 10, .inl (Fm 2))) := by rw [ew123]; exact g_up_f hy2 ((fun q => absurd (Hj 2 0 (by decide) (by decide) q) (by decide)))
    have f126 : w123 (md 3) = some (.inl (G.2.1 2, 10, .inl (Fm 3))) := by rw [ew123]; exact g_up_f hy3 ((fun q => absurd (Hj 3 0 (by decide) (by decide) q) (by decide)))
    have f127 : w123 (md 4) = some (.inl (G.2.1 0, 64, .inl (Fm 4))) := by rw [ew123]; exact g_up_f hy4 ((fun q => absurd (Hj 4 0 (by decide) (by decide) q) (by decide)))
    have f128 : w123 (md 5) = some (.inl (G.2.1 2, 16, .inl (Fm 5))) := by rw [ew123]; exact g_up_f hy5 ((fun q => absurd (Hj 5 0 (by decide) (by decide) q) (by decide)))
    have f129 : w123 (md 6) = some (.inl (G.2.1 0, 16, .inl (Fm 6))) := by rw [ew123]; exact g_up_f hy6 ((fun q => absurd (Hj 6 0 (by decide) (by decide) q) (by decide)))
    have f130 : w123 (md 7) = some (.inl (G.2.1 0, 16, .inl (Fm 7))) := by rw [ew123]; exact g_up_f hy7 ((fun q => absurd (Hj 7 0 (by decide) (by decide) q) (by decide)))
    have f131 : w123 (md 8) = some (.inl (G.2.1 0, 20, .inl (Fm 8))) := by rw [ew123]; exact g_up_f hy8 ((fun q => absurd (Hj 8 0 (by decide) (by decide) q) (by decide)))
    have f132 : w123 (md 9) = some (.inl (G.2.1 1, 10, .inr (.inl (L 0)))) := by rw [ew123]; exact g_up_f hy9 ((fun q => absurd (Hj 9 0 (by decide) (by decide) q) (by decide)))
    have f133 : w123 (md 10) = some (.inl (G.2.1 1, 10, .inr (.inl (L 1)))) := by rw [ew123]; exact g_up_f hy10 ((fun q => absurd (Hj 10 0 (by decide) (by decide) q) (by decide)))
    have f134 : w123 (md 11) = some (.inl (G.2.1 0, 10, .inl (Fm 11))) := by rw [ew123]; exact g_up_f hy11 ((fun q => absurd (Hj 11 0 (by decide) (by decide) q) (by decide)))
    have f135 : w123 (md 0) = some (.inr (8, [.int 1, .int (iL (S 0 0)), .ref (md 1), .ref (md 2), .ref (md 3), .int (iL (S 0 4)), .int (iL (S 0 5)), .int (iL (S 0 1)), .ref (md 4), .ref (md 5), .int (iL (S 0 2)), .ref (md 6), .ref (md 7), .int (iL (S 0 3)), .ref (md 8), .ref (md 9), .ref (md 10), .ref (md 11), .long tp, .long bt])) := by rw [ew123]; exact g_up_s _ _ _
    refine lv_aload_n hx hb dX7_torque_32 rfl (lv_at hl 0 rfl) ?_
    refine g_get F hP (C := RX7) (T := TX7) (N := 20) iX7 f135 rfl 0 (by decide) (List.mem_cons_of_mem _ (List.mem_append_left _ (List.mem_append_left _ (List.mem_of_getElem? (i := 0) rfl)))) (fun _ h9 => h9) rfl dX7_torque_33 ?_
    refine lv_if_eq (tgt := 41) hx hb dX7_torque_36 (by decide) (fun c136 => ?_) (fun c136 => ?_)
    · exact absurd c136 (by decide)
    · refine lv_lconst (v := 0) hx hb dX7_torque_39 (by decide) ?_
      rw [hQ]
      refine g_lret F hP hS hlocks hr dX7_torque_40 (by first | exact Nat.le_of_ble_eq_true rfl | omega) (by first | exact Nat.le_of_ble_eq_true rfl | omega) ?_
      exact mRes_no (c := 1) (if_neg yc4) (by decide) ⟨mFr_tr (mFr_rf _ _) (mFr_se (i := 0) (by decide) ew123), _, _, Fm, L, ⟨f135, f124, f125, f126, f127, f128, f129, f130, f131, f132, f133, f134⟩, Hf⟩
