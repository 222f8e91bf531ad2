set_option maxHeartbeats 4000000 in
set_option maxRecDepth 100000 in
theorem k_X7_stage (l : Launch) (A : Nat → Prop) (G : g_C) (w : g_W) (md : Nat → Nat) (S : Sg) (th : Int32) (tp bt : Int64) (Fm : Nat → Nat → Int32) (L : Nat → Nat → Int64) (pn : Int32) (Hm : modW G w md S th tp bt Fm L) (Hj : modI md) (Hf : modF S Fm) (Hi : invS S) : mI l yX7_stage wsX7_stage ({ frames := 6, cells := 2, slots := 20, locals := 177 } : Room) [.ref (md 0), .int pn] A G w (fun r w' => mRes G md w w' S S (cdShaft S pn) (r = vlStage (told S) pn)) 2 20 := by
  refine g_ofI (cc := cX7_stage) (maxL := 2) (ret := (some .int)) (own := RX7) (by decide) rfl rfl (Nat.le_of_ble_eq_true rfl) ?_
  intro p e R s m args below meth c Q ls hR F hP hS hlocks hr hnm0 hQ hl
  obtain ⟨⟨hx, hb, hml, hown, hts⟩, hK, hZ, hA⟩ := id F
  generalize hH0 : s.heap = H at hP ⊢
  have hS : va_S A s.heap H [] := by rw [← hH0]; exact va_S.rf
  generalize ([] : List Loc) = locs at hS ⊢
  have hl : lv_has ls 2 [(0, .ref (md 0)), (1, .int pn)] := hl
  have iX7 : ∀ w ∈ u_ws RX7 TX7 20, w ∈ wsX7_stage := fun w h => List.mem_cons_of_mem _ (List.mem_append_right _ (h))
  obtain ⟨hx0, hy1, hy2, hy3, hy4, hy5, hy6, hy7, hy8, hy9, hy10, hy11⟩ := id Hm
  have hi := Hi.1
  refine lv_aload_n hx hb dX7_stage_0 rfl (lv_at hl 0 rfl) ?_
  refine lv_iconst (v := 0) hx hb dX7_stage_1 (by decide) ?_
  refine g_put F hP hS (C := RX7) (T := TX7) (N := 20) (v := .int 0) (ty := .int) iX7 tyX7 tyX7_ok nmX7 hx0 rfl 0 (by decide) (List.mem_cons_of_mem _ (List.mem_append_left _ (List.mem_append_left _ (List.mem_of_getElem? (i := 0) rfl)))) (fun _ h9 => h9) rfl (by decide +kernel) rfl rfl (by show 0 < 20; decide) dX7_stage_2 (fun H locs hP hS => ?_)
  obtain ⟨w1, ew1⟩ : ∃ z, z = g_up w (md 0) (.inr (8, [.int 0, .int (iL (S 0 0)), .ref (md 1), .ref (md 2), .ref (md 3), .int (iL (S 0 4)), .int (iL (S 0 5)), .int (iL (S 0 1)), .ref (md 4), .ref (md 5), .int (iL (S 0 2)), .ref (md 6), .ref (md 7), .int (iL (S 0 3)), .ref (md 8), .ref (md 9), .ref (md 10), .ref (md 11), .long tp, .long bt])) := ⟨_, rfl⟩
  have hP : g_P A G w1 H := by rw [ew1]; exact hP
  have f2 : w1 (md 1) = some (.inl (G.2.1 0, 10, .inl (Fm 1))) := by rw [ew1]; exact g_up_f hy1 ((fun q => absurd (Hj 1 0 (by decide) (by decide) q) (by decide)))
  have f3 : w1 (md 2) = some (.inl (G.2.1 0, 10, .inl (Fm 2))) := by rw [ew1]; exact g_up_f hy2 ((fun q => absurd (Hj 2 0 (by decide) (by decide) q) (by decide)))
  have f4 : w1 (md 3) = some (.inl (G.2.1 2, 10, .inl (Fm 3))) := by rw [ew1]; exact g_up_f hy3 ((fun q => absurd (Hj 3 0 (by decide) (by decide) q) (by decide)))
  have f5 : w1 (md 4) = some (.inl (G.2.1 0, 64, .inl (Fm 4))) := by rw [ew1]; exact g_up_f hy4 ((fun q => absurd (Hj 4 0 (by decide) (by decide) q) (by decide)))
  have f6 : w1 (md 5) = some (.inl (G.2.1 2, 16, .inl (Fm 5))) := by rw [ew1]; exact g_up_f hy5 ((fun q => absurd (Hj 5 0 (by decide) (by decide) q) (by decide)))
  have f7 : w1 (md 6) = some (.inl (G.2.1 0, 16, .inl (Fm 6))) := by rw [ew1]; exact g_up_f hy6 ((fun q => absurd (Hj 6 0 (by decide) (by decide) q) (by decide)))
  have f8 : w1 (md 7) = some (.inl (G.2.1 0, 16, .inl (Fm 7))) := by rw [ew1]; exact g_up_f hy7 ((fun q => absurd (Hj 7 0 (by decide) (by decide) q) (by decide)))
  have f9 : w1 (md 8) = some (.inl (G.2.1 0, 20, .inl (Fm 8))) := by rw [ew1]; exact g_up_f hy8 ((fun q => absurd (Hj 8 0 (by decide) (by decide) q) (by decide)))
  have f10 : w1 (md 9) = some (.inl (G.2.1 1, 10, .inr (.inl (L 0)))) := by rw [ew1]; exact g_up_f hy9 ((fun q => absurd (Hj 9 0 (by decide) (by decide) q) (by decide)))
  have f11 : w1 (md 10) = some (.inl (G.2.1 1, 10, .inr (.inl (L 1)))) := by rw [ew1]; exact g_up_f hy10 ((fun q => absurd (Hj 10 0 (by decide) (by decide) q) (by decide)))
  have f12 : w1 (md 11) = some (.inl (G.2.1 0, 10, .inl (Fm 11))) := by rw [ew1]; exact g_up_f hy11 ((fun q => absurd (Hj 11 0 (by decide) (by decide) q) (by decide)))
  have f13 : w1 (md 0) = some (.inr (8, [.int 0, .int (iL (S 0 0)), .ref (md 1), .ref (md 2), .ref (md 3), .int (iL (S 0 4)), .int (iL (S 0 5)), .int (iL (S 0 1)), .ref (md 4), .ref (md 5), .int (iL (S 0 2)), .ref (md 6), .ref (md 7), .int (iL (S 0 3)), .ref (md 8), .ref (md 9), .ref (md 10), .ref (md 11), .long tp, .long bt])) := by rw [ew1]; exact g_up_s _ _ _
  refine lv_aload_n hx hb dX7_stage_5 rfl (lv_at hl 0 rfl) ?_
  refine lv_iload_n hx hb dX7_stage_6 rfl (lv_at hl 1 rfl) ?_
  refine g_Vi (As := [.int pn]) (rest := []) F hP hS (k_X7_isShaft l A G w1 md S _ _ _ Fm L pn f13 Hf Hi) (cwV 1 hts gX7_stage_X7_isShaft rfl rfl rfl cd_X7_isShaft ⟨by rw [hR]; exact Nat.le_of_ble_eq_true rfl, by rw [hR]; exact Nat.le_of_ble_eq_true rfl⟩) f13 rfl rfl rfl hl.1 (Nat.le_of_ble_eq_true rfl) dX7_stage_7 ⟨by rw [hR]; exact Nat.le_of_ble_eq_true rfl, by rw [hR]; exact Nat.le_of_ble_eq_true rfl⟩ rfl (fun r14 w15 H locs h16 hP hS => ?_)
  have hr14 := h16.1
  rw [h16.2] at hP
  rw [hr14]
  refine lv_if_ne (tgt := 19) hx hb dX7_stage_10 (by decide) (fun c17 => ?_) (fun c17 => ?_)
  · have yc17 := of_decide_eq_true (g_b1.mp c17)
    have sk := yc17
    obtain ⟨k, hk, ek9⟩ := ix_of sk.1 sk.2
    subst ek9
    have nk : kN (nI k) = k := kN_n (by omega)
    refine lv_aload_n hx hb dX7_stage_19 rfl (lv_at hl 0 rfl) ?_
    refine g_Vv (As := []) (rest := []) F hP hS (k_X7_solve l A G w1 md S 0 tp bt Fm L ⟨f13, f2, f3, f4, f5, f6, f7, f8, f9, f10, f11, f12⟩ Hj Hf Hi) (cwV 0 hts gX7_stage_X7_solve rfl rfl rfl cd_X7_solve ⟨by rw [hR]; exact Nat.le_of_ble_eq_true rfl, by rw [hR]; exact Nat.le_of_ble_eq_true rfl⟩) f13 rfl rfl rfl hl.1 (Nat.le_of_ble_eq_true rfl) dX7_stage_20 ⟨by rw [hR]; exact Nat.le_of_ble_eq_true rfl, by rw [hR]; exact Nat.le_of_ble_eq_true rfl⟩ rfl (fun w19 H locs h20 hP hS => ?_)
    obtain ⟨hfr2, tp2, bt2, L3, f3, ⟨z0, z1, z2, z3, z4, z5, z6, z7, z8, z9, z10, z11⟩, hT3⟩ := h20
    have HT : modT S (told S) (up1 Fm 11 f3) L3 := hT3
    have HF := modF_11 Hf f3
    have Ht := told_inv Hi
    have f21 : w19 (md 0) = some (.inr (8, [.int 0, .int (iL (S 0 0)), .ref (md 1), .ref (md 2), .ref (md 3), .int (iL (S 0 4)), .int (iL (S 0 5)), .int (iL (S 0 1)), .ref (md 4), .ref (md 5), .int (iL (S 0 2)), .ref (md 6), .ref (md 7), .int (iL (S 0 3)), .ref (md 8), .ref (md 9), .ref (md 10), .ref (md 11), .long tp2, .long bt2])) := z0
    have f22 : w19 (md 1) = some (.inl (G.2.1 0, 10, .inl (Fm 1))) := z1
    have f23 : w19 (md 2) = some (.inl (G.2.1 0, 10, .inl (Fm 2))) := z2
    have f24 : w19 (md 3) = some (.inl (G.2.1 2, 10, .inl (Fm 3))) := z3
    have f25 : w19 (md 4) = some (.inl (G.2.1 0, 64, .inl (Fm 4))) := z4
    have f26 : w19 (md 5) = some (.inl (G.2.1 2, 16, .inl (Fm 5))) := z5
    have f27 : w19 (md 6) = some (.inl (G.2.1 0, 16, .inl (Fm 6))) := z6
    have f28 : w19 (md 7) = some (.inl (G.2.1 0, 16, .inl (Fm 7))) := z7
    have f29 : w19 (md 8) = some (.inl (G.2.1 0, 20, .inl (Fm 8))) := z8
    have f30 : w19 (md 9) = some (.inl (G.2.1 1, 10, .inr (.inl (L3 0)))) := z9
    have f31 : w19 (md 10) = some (.inl (G.2.1 1, 10, .inr (.inl (L3 1)))) := z10
    have f32 : w19 (md 11) = some (.inl (G.2.1 0, 10, .inl f3)) := z11
    refine lv_aload_n hx hb dX7_stage_23 rfl (lv_at hl 0 rfl) ?_
    refine g_get F hP (C := RX7) (T := TX7) (N := 20) iX7 f21 rfl 17 (by decide) (List.mem_cons_of_mem _ (List.mem_append_left _ (List.mem_append_left _ (List.mem_of_getElem? (i := 1) rfl)))) (fun _ h9 => h9) rfl dX7_stage_24 ?_
    refine lv_iload_n hx hb dX7_stage_27 rfl (lv_at hl 1 rfl) ?_
    refine g_iald F hP f32 (vp_in_nI (by omega) (by decide)) dX7_stage_28 ?_
    rw [show (.int (f3 (nI k : Int32).toNatClampNeg) : Value) = .int (iL (told S 2 k)) from by rw [nI_clamp (by omega)]; exact congrArg Value.int (HT k hk).2.2]
    rw [hQ]
    refine g_iret F hP hS hlocks hr dX7_stage_29 (by first | exact Nat.le_of_ble_eq_true rfl | omega) (by first | exact Nat.le_of_ble_eq_true rfl | omega) ?_
    exact Or.inr ⟨if_pos sk, by unfold vlStage; rw [nk], ⟨mFr_tr (mFr_tr (mFr_rf _ _) (mFr_se (i := 0) (by decide) ew1)) hfr2, _, _, (up1 Fm 11 f3), L3, ⟨f21, f22, f23, f24, f25, f26, f27, f28, f29, f30, f31, f32⟩, HF⟩⟩
  · have yc17 := of_decide_eq_false (g_b0.mp c17)
    refine lv_aload_n hx hb dX7_stage_13 rfl (lv_at hl 0 rfl) ?_
    refine lv_iconst (v := 1) hx hb dX7_stage_14 (by decide) ?_
    refine g_Vi (As := [.int 1]) (rest := []) F hP hS (k_X7_fail l A G w1 md S _ _ _ Fm L 1 f13) (cwV 1 hts gX7_stage_X7_fail rfl rfl rfl cd_X7_fail ⟨by rw [hR]; exact Nat.le_of_ble_eq_true rfl, by rw [hR]; exact Nat.le_of_ble_eq_true rfl⟩) f13 rfl rfl rfl hl.1 (Nat.le_of_ble_eq_true rfl) dX7_stage_15 ⟨by rw [hR]; exact Nat.le_of_ble_eq_true rfl, by rw [hR]; exact Nat.le_of_ble_eq_true rfl⟩ rfl (fun r33 w34 H locs h35 hP hS => ?_)
    obtain ⟨er, eww34⟩ := h35
    rw [er]
    have f36 : w34 (md 1) = some (.inl (G.2.1 0, 10, .inl (Fm 1))) := by rw [eww34]; exact g_up_f f2 ((fun q => absurd (Hj 1 0 (by decide) (by decide) q) (by decide)))
    have f37 : w34 (md 2) = some (.inl (G.2.1 0, 10, .inl (Fm 2))) := by rw [eww34]; exact g_up_f f3 ((fun q => absurd (Hj 2 0 (by decide) (by decide) q) (by decide)))
    have f38 : w34 (md 3) = some (.inl (G.2.1 2, 10, .inl (Fm 3))) := by rw [eww34]; exact g_up_f f4 ((fun q => absurd (Hj 3 0 (by decide) (by decide) q) (by decide)))
    have f39 : w34 (md 4) = some (.inl (G.2.1 0, 64, .inl (Fm 4))) := by rw [eww34]; exact g_up_f f5 ((fun q => absurd (Hj 4 0 (by decide) (by decide) q) (by decide)))
    have f40 : w34 (md 5) = some (.inl (G.2.1 2, 16, .inl (Fm 5))) := by rw [eww34]; exact g_up_f f6 ((fun q => absurd (Hj 5 0 (by decide) (by decide) q) (by decide)))
    have f41 : w34 (md 6) = some (.inl (G.2.1 0, 16, .inl (Fm 6))) := by rw [eww34]; exact g_up_f f7 ((fun q => absurd (Hj 6 0 (by decide) (by decide) q) (by decide)))
    have f42 : w34 (md 7) = some (.inl (G.2.1 0, 16, .inl (Fm 7))) := by rw [eww34]; exact g_up_f f8 ((fun q => absurd (Hj 7 0 (by decide) (by decide) q) (by decide)))
    have f43 : w34 (md 8) = some (.inl (G.2.1 0, 20, .inl (Fm 8))) := by rw [eww34]; exact g_up_f f9 ((fun q => absurd (Hj 8 0 (by decide) (by decide) q) (by decide)))
    have f44 : w34 (md 9) = some (.inl (G.2.1 1, 10, .inr (.inl (L 0)))) := by rw [eww34]; exact g_up_f f10 ((fun q => absurd (Hj 9 0 (by decide) (by decide) q) (by decide)))
    have f45 : w34 (md 10) = some (.inl (G.2.1 1, 10, .inr (.inl (L 1)))) := by rw [eww34]; exact g_up_f f11 ((fun q => absurd (Hj 10 0 (by decide) (by decide) q) (by decide)))
    have f46 : w34 (md 11) = some (.inl (G.2.1 0, 10, .inl (Fm 11))) := by rw [eww34]; exact g_up_f f12 ((fun q => absurd (Hj 11 0 (by decide) (by decide) q) (by decide)))
    have f47 : w34 (md 0) = some (.inr (8, [.int 1, .int (iL (S 0 0)), .ref (md 1), .ref (md 2), .ref (md 3), .int (iL (S 0 4)), .int (iL (S 0 5)), .int (iL (S 0 1)), .ref (md 4), .ref (md 5), .int (iL (S 0 2)), .ref (md 6), .ref (md 7), .int (iL (S 0 3)), .ref (md 8), .ref (md 9), .ref (md 10), .ref (md 11), .long tp, .long bt])) := by rw [eww34]; exact g_up_s _ _ _
    rw [hQ]
    refine g_iret F hP hS hlocks hr dX7_stage_18 (by first | exact Nat.le_of_ble_eq_true rfl | omega) (by first | exact Nat.le_of_ble_eq_true rfl | omega) ?_
    exact mRes_no (c := 1) (if_neg yc17) (by decide) ⟨mFr_tr (mFr_tr (mFr_rf _ _) (mFr_se (i := 0) (by decide) ew1)) (mFr_se (i := 0) (by decide) eww34), _, _, Fm, L, ⟨f47, f36, f37, f38, f39, f40, f41, f42, f43, f44, f45, f46⟩, Hf⟩
