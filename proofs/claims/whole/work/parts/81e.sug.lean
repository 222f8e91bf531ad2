theorem cd_X7_off : yX7_off.cls ≠ "java/lang/invoke/MethodHandle" ∧ yX7_off.cls ≠ "java/lang/invoke/VarHandle" ∧ (parseMethodDescriptor yX7_off.desc).map (fun d => d.parameters.length) = some 4 := by decide +kernel
set_option maxHeartbeats 4000000 in
set_option maxRecDepth 100000 in
theorem k_X7_suggest (l : Launch) (A : Nat → Prop) (G : g_C) (w : g_W) (md : Nat → Nat) (S : Sg) (th : Int32) (tp bt : Int64) (Fm : Nat → Nat → Int32) (L : Nat → Nat → Int64) (pn qn un vn : Int32) (Hm : modW G w md S th tp bt Fm L) (Hj : modI md) (Hf : modF S Fm) (Hi : invS S) : mI l yX7_suggest wsX7_suggest ({ frames := 2, cells := 0, slots := 0, locals := 63 } : Room) [.ref (md 0), .int pn, .int qn, .int un, .int vn] A G w (fun r w' => mRes G md w w' S S (cdSug pn qn un vn) (isSug pn.toInt qn.toInt un.toInt vn.toInt r)) 0 0 := by
  refine g_ofI (cc := cX7_suggest) (maxL := 10) (ret := (some .int)) (own := RX7) (by decide) rfl rfl (Nat.le_of_ble_eq_true rfl) ?_
  intro p e R s m args below meth c Q ls hR F hP hS hlocks hr hnm0 hQ hl
  obtain ⟨⟨hx, hb, hml, hown, hts⟩, hK, hZ, hA⟩ := id F
  generalize hH0 : s.heap = H at hP ⊢
  have hS : va_S A s.heap H [] := by rw [← hH0]; exact va_S.rf
  generalize ([] : List Loc) = locs at hS ⊢
  have hl : lv_has ls 10 [(0, .ref (md 0)), (1, .int pn), (2, .int qn), (3, .int un), (4, .int vn)] := hl
  have iX7 : ∀ w ∈ u_ws RX7 TX7 20, w ∈ wsX7_suggest := fun w h => List.mem_cons_of_mem _ (List.mem_append_right _ (h))
  obtain ⟨hx0, hy1, hy2, hy3, hy4, hy5, hy6, hy7, hy8, hy9, hy10, hy11⟩ := id Hm
  have hi := Hi.1
  obtain ⟨P, hp1, hp2, rfl⟩ : ∃ P : Int, -2147483648 ≤ P ∧ P < 2147483648 ∧ pn = iL P := ⟨pn.toInt, Int32.le_toInt _, Int32.toInt_lt _, (iL_x pn).symm⟩
  obtain ⟨Z, hq1, hq2, rfl⟩ : ∃ P : Int, -2147483648 ≤ P ∧ P < 2147483648 ∧ qn = iL P := ⟨qn.toInt, Int32.le_toInt _, Int32.toInt_lt _, (iL_x qn).symm⟩
  obtain ⟨U, hu1, hu2, rfl⟩ : ∃ P : Int, -2147483648 ≤ P ∧ P < 2147483648 ∧ un = iL P := ⟨un.toInt, Int32.le_toInt _, Int32.toInt_lt _, (iL_x un).symm⟩
  obtain ⟨V, hv1, hv2, rfl⟩ : ∃ P : Int, -2147483648 ≤ P ∧ P < 2147483648 ∧ vn = iL P := ⟨vn.toInt, Int32.le_toInt _, Int32.toInt_lt _, (iL_x vn).symm⟩
  have hsg : sgQ (iL P) (iL Z) (iL U) (iL V) ↔ (1 ≤ P ∧ P ≤ 10000) ∧ (1 ≤ Z ∧ Z ≤ 10000) ∧ 8 ≤ U ∧ U ≤ V ∧ V ≤ 120 := by unfold sgQ inQ; rw [iL_t hp1 hp2, iL_t hq1 hq2, iL_t hu1 hu2, iL_t hv1 hv2]
  refine lv_aload_n hx hb dX7_suggest_0 rfl (lv_at hl 0 rfl) ?_
  refine lv_iconst (v := 0) hx hb dX7_suggest_1 (by decide) ?_
  refine g_put F hP hS (C := RX7) (T := TX7) (N := 20) (v := .int 0) (ty := .int) iX7 tyX7 tyX7_ok nmX7 hx0 rfl 0 (by decide) (List.mem_cons_of_mem _ (List.mem_append_left _ (List.mem_of_getElem? (i := 0) rfl))) (fun _ h9 => h9) rfl (by decide +kernel) rfl rfl (by show 0 < 20; decide) dX7_suggest_2 (fun H locs hP hS => ?_)
  obtain ⟨w1, ew1⟩ : ∃ z, z = g_up w (md 0) (.inr (8, [.int 0, .int (iL (S 0 0)), .ref (md 1), .ref (md 2), .ref (md 3), .int (iL (S 0 4)), .int (iL (S 0 5)), .int (iL (S 0 1)), .ref (md 4), .ref (md 5), .int (iL (S 0 2)), .ref (md 6), .ref (md 7), .int (iL (S 0 3)), .ref (md 8), .ref (md 9), .ref (md 10), .ref (md 11), .long tp, .long bt])) := ⟨_, rfl⟩
  have hP : g_P A G w1 H := by rw [ew1]; exact hP
  have f2 : w1 (md 1) = some (.inl (G.2.1 0, 10, .inl (Fm 1))) := by rw [ew1]; exact g_up_f hy1 ((fun q => absurd (Hj 1 0 (by decide) (by decide) q) (by decide)))
  have f3 : w1 (md 2) = some (.inl (G.2.1 0, 10, .inl (Fm 2))) := by rw [ew1]; exact g_up_f hy2 ((fun q => absurd (Hj 2 0 (by decide) (by decide) q) (by decide)))
  have f4 : w1 (md 3) = some (.inl (G.2.1 2, 10, .inl (Fm 3))) := by rw [ew1]; exact g_up_f hy3 ((fun q => absurd (Hj 3 0 (by decide) (by decide) q) (by decide)))
  have f5 : w1 (md 4) = some (.inl (G.2.1 0, 64, .inl (Fm 4))) := by rw [ew1]; exact g_up_f hy4 ((fun q => absurd (Hj 4 0 (by decide) (by decide) q) (by decide)))
  have f6 : w1 (md 5) = some (.inl (G.2.1 2, 16, .inl (Fm 5))) := by rw [ew1]; exact g_up_f hy5 ((fun q => absurd (Hj 5 0 (by decide) (by decide) q) (by decide)))
  have f7 : w1 (md 6) = some (.inl (G.2.1 0, 16, .inl (Fm 6))) := by rw [ew1]; exact g_up_f hy6 ((fun q => absurd (Hj 6 0 (by decide) (by decide) q) (by decide)))
  have f8 : w1 (md 7) = some (.inl (G.2.1 0, 16, .inl (Fm 7))) := by rw [ew1]; exact g_up_f hy7 ((fun q => absurd (Hj 7 0 (by decide) (by decide) q) (by decide)))
  have f9 : w1 (md 8) = some (.inl (G.2.1 0, 20, .inl (Fm 8))) := by rw [ew1]; exact g_up_f hy8 ((fun q => absurd (Hj 8 0 (by decide) (by decide) q) (by decide)))
  have f10 : w1 (md 9) = some (.inl (G.2.1 1, 10, .inr (.inl (L 0)))) := by rw [ew1]; exact g_up_f hy9 ((fun q => absurd (Hj 9 0 (by decide) (by decide) q) (by decide)))
  have f11 : w1 (md 10) = some (.inl (G.2.1 1, 10, .inr (.inl (L 1)))) := by rw [ew1]; exact g_up_f hy10 ((fun q => absurd (Hj 10 0 (by decide) (by decide) q) (by decide)))
  have f12 : w1 (md 11) = some (.inl (G.2.1 0, 10, .inl (Fm 11))) := by rw [ew1]; exact g_up_f hy11 ((fun q => absurd (Hj 11 0 (by decide) (by decide) q) (by decide)))
  have f13 : w1 (md 0) = some (.inr (8, [.int 0, .int (iL (S 0 0)), .ref (md 1), .ref (md 2), .ref (md 3), .int (iL (S 0 4)), .int (iL (S 0 5)), .int (iL (S 0 1)), .ref (md 4), .ref (md 5), .int (iL (S 0 2)), .ref (md 6), .ref (md 7), .int (iL (S 0 3)), .ref (md 8), .ref (md 9), .ref (md 10), .ref (md 11), .long tp, .long bt])) := by rw [ew1]; exact g_up_s _ _ _
  refine lv_iload_n hx hb dX7_suggest_5 rfl (lv_at hl 1 rfl) ?_
  refine lv_iconst (v := 1) hx hb dX7_suggest_6 (by decide) ?_
  refine lv_sipush (v := 10000) hx hb dX7_suggest_7 (by decide) ?_
  refine g_Si (As := [.int (iL P), .int 1, .int 10000]) (rest := []) F hP hS (k_X7_isIn l A G w1 (iL P) 1 10000) (va_cwS 3 hts gX7_suggest_X7_isIn rfl rfl rfl cd_X7_isIn ⟨by rw [hR]; exact Nat.le_of_ble_eq_true rfl, by rw [hR]; exact Nat.le_of_ble_eq_true rfl⟩) rfl hl.1 (Nat.le_of_ble_eq_true rfl) dX7_suggest_10 ⟨by rw [hR]; exact Nat.le_of_ble_eq_true rfl, by rw [hR]; exact Nat.le_of_ble_eq_true rfl⟩ rfl (fun r14 w15 H locs h16 hP hS => ?_)
  have hr14 := h16.1
  rw [h16.2] at hP
  rw [hr14]
  refine lv_if_eq (tgt := 44) hx hb dX7_suggest_13 (by decide) (fun c17 => ?_) (fun c17 => ?_)
  · have yc17 := of_decide_eq_false (g_b0.mp c17)
    have kc17 : (1 ≤ iL P ∧ iL P ≤ 10000) ↔ (1 ≤ P ∧ P ≤ 10000) := by
      have k8 := iL_le (a := 1) (b := P) (by omega) (by omega) (by omega) (by omega)
      have k9 := iL_le (a := P) (b := 10000) (by omega) (by omega) (by omega) (by omega)
      exact and_congr k8 k9
    rw [kc17] at yc17
    refine lv_aload_n hx hb dX7_suggest_44 rfl (lv_at hl 0 rfl) ?_
    refine lv_iconst (v := 1) hx hb dX7_suggest_45 (by decide) ?_
    refine g_Vi (As := [.int 1]) (rest := []) F hP hS (k_X7_fail l A G w1 md S _ _ _ Fm L 1 f13) (cwV 1 hts gX7_suggest_X7_fail rfl rfl rfl cd_X7_fail ⟨by rw [hR]; exact Nat.le_of_ble_eq_true rfl, by rw [hR]; exact Nat.le_of_ble_eq_true rfl⟩) f13 rfl rfl rfl hl.1 (Nat.le_of_ble_eq_true rfl) dX7_suggest_46 ⟨by rw [hR]; exact Nat.le_of_ble_eq_true rfl, by rw [hR]; exact Nat.le_of_ble_eq_true rfl⟩ rfl (fun r18 w19 H locs h20 hP hS => ?_)
    obtain ⟨er, eww19⟩ := h20
    rw [er]
    have f21 : w19 (md 1) = some (.inl (G.2.1 0, 10, .inl (Fm 1))) := by rw [eww19]; exact g_up_f f2 ((fun q => absurd (Hj 1 0 (by decide) (by decide) q) (by decide)))
    have f22 : w19 (md 2) = some (.inl (G.2.1 0, 10, .inl (Fm 2))) := by rw [eww19]; exact g_up_f f3 ((fun q => absurd (Hj 2 0 (by decide) (by decide) q) (by decide)))
    have f23 : w19 (md 3) = some (.inl (G.2.1 2, 10, .inl (Fm 3))) := by rw [eww19]; exact g_up_f f4 ((fun q => absurd (Hj 3 0 (by decide) (by decide) q) (by decide)))
    have f24 : w19 (md 4) = some (.inl (G.2.1 0, 64, .inl (Fm 4))) := by rw [eww19]; exact g_up_f f5 ((fun q => absurd (Hj 4 0 (by decide) (by decide) q) (by decide)))
    have f25 : w19 (md 5) = some (.inl (G.2.1 2, 16, .inl (Fm 5))) := by rw [eww19]; exact g_up_f f6 ((fun q => absurd (Hj 5 0 (by decide) (by decide) q) (by decide)))
    have f26 : w19 (md 6) = some (.inl (G.2.1 0, 16, .inl (Fm 6))) := by rw [eww19]; exact g_up_f f7 ((fun q => absurd (Hj 6 0 (by decide) (by decide) q) (by decide)))
    have f27 : w19 (md 7) = some (.inl (G.2.1 0, 16, .inl (Fm 7))) := by rw [eww19]; exact g_up_f f8 ((fun q => absurd (Hj 7 0 (by decide) (by decide) q) (by decide)))
    have f28 : w19 (md 8) = some (.inl (G.2.1 0, 20, .inl (Fm 8))) := by rw [eww19]; exact g_up_f f9 ((fun q => absurd (Hj 8 0 (by decide) (by decide) q) (by decide)))
    have f29 : w19 (md 9) = some (.inl (G.2.1 1, 10, .inr (.inl (L 0)))) := by rw [eww19]; exact g_up_f f10 ((fun q => absurd (Hj 9 0 (by decide) (by decide) q) (by decide)))
    have f30 : w19 (md 10) = some (.inl (G.2.1 1, 10, .inr (.inl (L 1)))) := by rw [eww19]; exact g_up_f f11 ((fun q => absurd (Hj 10 0 (by decide) (by decide) q) (by decide)))
    have f31 : w19 (md 11) = some (.inl (G.2.1 0, 10, .inl (Fm 11))) := by rw [eww19]; exact g_up_f f12 ((fun q => absurd (Hj 11 0 (by decide) (by decide) q) (by decide)))
    have f32 : w19 (md 0) = some (.inr (8, [.int 1, .int (iL (S 0 0)), .ref (md 1), .ref (md 2), .ref (md 3), .int (iL (S 0 4)), .int (iL (S 0 5)), .int (iL (S 0 1)), .ref (md 4), .ref (md 5), .int (iL (S 0 2)), .ref (md 6), .ref (md 7), .int (iL (S 0 3)), .ref (md 8), .ref (md 9), .ref (md 10), .ref (md 11), .long tp, .long bt])) := by rw [eww19]; exact g_up_s _ _ _
    rw [hQ]
    refine g_iret F hP hS hlocks hr dX7_suggest_49 (by first | exact Nat.le_of_ble_eq_true rfl | omega) (by first | exact Nat.le_of_ble_eq_true rfl | omega) ?_
    exact mRes_no (c := 1) (if_neg (fun q => by have q2 := hsg.mp q; omega)) (by decide) ⟨mFr_tr (mFr_tr (mFr_rf _ _) (mFr_se (i := 0) (by decide) ew1)) (mFr_se (i := 0) (by decide) eww19), _, _, Fm, L, ⟨f32, f21, f22, f23, f24, f25, f26, f27, f28, f29, f30, f31⟩, Hf⟩
  · have yc17 := of_decide_eq_true (g_b1.mp c17)
    have kc17 : (1 ≤ iL P ∧ iL P ≤ 10000) ↔ (1 ≤ P ∧ P ≤ 10000) := by
      have k8 := iL_le (a := 1) (b := P) (by omega) (by omega) (by omega) (by omega)
      have k9 := iL_le (a := P) (b := 10000) (by omega) (by omega) (by omega) (by omega)
      exact and_congr k8 k9
    rw [kc17] at yc17
    refine lv_iload_n hx hb dX7_suggest_16 rfl (lv_at hl 2 rfl) ?_
    refine lv_iconst (v := 1) hx hb dX7_suggest_17 (by decide) ?_
    refine lv_sipush (v := 10000) hx hb dX7_suggest_18 (by decide) ?_
    refine g_Si (As := [.int (iL Z), .int 1, .int 10000]) (rest := []) F hP hS (k_X7_isIn l A G w1 (iL Z) 1 10000) (va_cwS 3 hts gX7_suggest_X7_isIn rfl rfl rfl cd_X7_isIn ⟨by rw [hR]; exact Nat.le_of_ble_eq_true rfl, by rw [hR]; exact Nat.le_of_ble_eq_true rfl⟩) rfl hl.1 (Nat.le_of_ble_eq_true rfl) dX7_suggest_21 ⟨by rw [hR]; exact Nat.le_of_ble_eq_true rfl, by rw [hR]; exact Nat.le_of_ble_eq_true rfl⟩ rfl (fun r33 w34 H locs h35 hP hS => ?_)
    have hr33 := h35.1
    rw [h35.2] at hP
    rw [hr33]
    refine lv_if_eq (tgt := 44) hx hb dX7_suggest_24 (by decide) (fun c36 => ?_) (fun c36 => ?_)
    · have yc36 := of_decide_eq_false (g_b0.mp c36)
      have kc36 : (1 ≤ iL Z ∧ iL Z ≤ 10000) ↔ (1 ≤ Z ∧ Z ≤ 10000) := by
        have k8 := iL_le (a := 1) (b := Z) (by omega) (by omega) (by omega) (by omega)
        have k9 := iL_le (a := Z) (b := 10000) (by omega) (by omega) (by omega) (by omega)
        exact and_congr k8 k9
      rw [kc36] at yc36
      refine lv_aload_n hx hb dX7_suggest_44 rfl (lv_at hl 0 rfl) ?_
      refine lv_iconst (v := 1) hx hb dX7_suggest_45 (by decide) ?_
      refine g_Vi (As := [.int 1]) (rest := []) F hP hS (k_X7_fail l A G w1 md S _ _ _ Fm L 1 f13) (cwV 1 hts gX7_suggest_X7_fail rfl rfl rfl cd_X7_fail ⟨by rw [hR]; exact Nat.le_of_ble_eq_true rfl, by rw [hR]; exact Nat.le_of_ble_eq_true rfl⟩) f13 rfl rfl rfl hl.1 (Nat.le_of_ble_eq_true rfl) dX7_suggest_46 ⟨by rw [hR]; exact Nat.le_of_ble_eq_true rfl, by rw [hR]; exact Nat.le_of_ble_eq_true rfl⟩ rfl (fun r37 w38 H locs h39 hP hS => ?_)
      obtain ⟨er, eww38⟩ := h39
      rw [er]
      have f40 : w38 (md 1) = some (.inl (G.2.1 0, 10, .inl (Fm 1))) := by rw [eww38]; exact g_up_f f2 ((fun q => absurd (Hj 1 0 (by decide) (by decide) q) (by decide)))
      have f41 : w38 (md 2) = some (.inl (G.2.1 0, 10, .inl (Fm 2))) := by rw [eww38]; exact g_up_f f3 ((fun q => absurd (Hj 2 0 (by decide) (by decide) q) (by decide)))
      have f42 : w38 (md 3) = some (.inl (G.2.1 2, 10, .inl (Fm 3))) := by rw [eww38]; exact g_up_f f4 ((fun q => absurd (Hj 3 0 (by decide) (by decide) q) (by decide)))
      have f43 : w38 (md 4) = some (.inl (G.2.1 0, 64, .inl (Fm 4))) := by rw [eww38]; exact g_up_f f5 ((fun q => absurd (Hj 4 0 (by decide) (by decide) q) (by decide)))
      have f44 : w38 (md 5) = some (.inl (G.2.1 2, 16, .inl (Fm 5))) := by rw [eww38]; exact g_up_f f6 ((fun q => absurd (Hj 5 0 (by decide) (by decide) q) (by decide)))
      have f45 : w38 (md 6) = some (.inl (G.2.1 0, 16, .inl (Fm 6))) := by rw [eww38]; exact g_up_f f7 ((fun q => absurd (Hj 6 0 (by decide) (by decide) q) (by decide)))
      have f46 : w38 (md 7) = some (.inl (G.2.1 0, 16, .inl (Fm 7))) := by rw [eww38]; exact g_up_f f8 ((fun q => absurd (Hj 7 0 (by decide) (by decide) q) (by decide)))
      have f47 : w38 (md 8) = some (.inl (G.2.1 0, 20, .inl (Fm 8))) := by rw [eww38]; exact g_up_f f9 ((fun q => absurd (Hj 8 0 (by decide) (by decide) q) (by decide)))
      have f48 : w38 (md 9) = some (.inl (G.2.1 1, 10, .inr (.inl (L 0)))) := by rw [eww38]; exact g_up_f f10 ((fun q => absurd (Hj 9 0 (by decide) (by decide) q) (by decide)))
      have f49 : w38 (md 10) = some (.inl (G.2.1 1, 10, .inr (.inl (L 1)))) := by rw [eww38]; exact g_up_f f11 ((fun q => absurd (Hj 10 0 (by decide) (by decide) q) (by decide)))
      have f50 : w38 (md 11) = some (.inl (G.2.1 0, 10, .inl (Fm 11))) := by rw [eww38]; exact g_up_f f12 ((fun q => absurd (Hj 11 0 (by decide) (by decide) q) (by decide)))
      have f51 : w38 (md 0) = some (.inr (8, [.int 1, .int (iL (S 0 0)), .ref (md 1), .ref (md 2), .ref (md 3), .int (iL (S 0 4)), .int (iL (S 0 5)), .int (iL (S 0 1)), .ref (md 4), .ref (md 5), .int (iL (S 0 2)), .ref (md 6), .ref (md 7), .int (iL (S 0 3)), .ref (md 8), .ref (md 9), .ref (md 10), .ref (md 11), .long tp, .long bt])) := by rw [eww38]; exact g_up_s _ _ _
      rw [hQ]
      refine g_iret F hP hS hlocks hr dX7_suggest_49 (by first | exact Nat.le_of_ble_eq_true rfl | omega) (by first | exact Nat.le_of_ble_eq_true rfl | omega) ?_
      exact mRes_no (c := 1) (if_neg (fun q => by have q2 := hsg.mp q; omega)) (by decide) ⟨mFr_tr (mFr_tr (mFr_rf _ _) (mFr_se (i := 0) (by decide) ew1)) (mFr_se (i := 0) (by decide) eww38), _, _, Fm, L, ⟨f51, f40, f41, f42, f43, f44, f45, f46, f47, f48, f49, f50⟩, Hf⟩
    · have yc36 := of_decide_eq_true (g_b1.mp c36)
      have kc36 : (1 ≤ iL Z ∧ iL Z ≤ 10000) ↔ (1 ≤ Z ∧ Z ≤ 10000) := by
        have k8 := iL_le (a := 1) (b := Z) (by omega) (by omega) (by omega) (by omega)
        have k9 := iL_le (a := Z) (b := 10000) (by omega) (by omega) (by omega) (by omega)
        exact and_congr k8 k9
      rw [kc36] at yc36
      refine lv_iload_n hx hb dX7_suggest_27 rfl (lv_at hl 3 rfl) ?_
      refine lv_bipush (v := 8) hx hb dX7_suggest_28 (by decide) ?_
      refine lv_icmp_lt (tgt := 44) hx hb dX7_suggest_30 (by decide) (fun c52 => ?_) (fun c52 => ?_)
      · have kc52 : iL U < 8 ↔ U < 8 := iL_lt (a := U) (b := 8) (by omega) (by omega) (by omega) (by omega)
        rw [kc52] at c52
        refine lv_aload_n hx hb dX7_suggest_44 rfl (lv_at hl 0 rfl) ?_
        refine lv_iconst (v := 1) hx hb dX7_suggest_45 (by decide) ?_
        refine g_Vi (As := [.int 1]) (rest := []) F hP hS (k_X7_fail l A G w1 md S _ _ _ Fm L 1 f13) (cwV 1 hts gX7_suggest_X7_fail rfl rfl rfl cd_X7_fail ⟨by rw [hR]; exact Nat.le_of_ble_eq_true rfl, by rw [hR]; exact Nat.le_of_ble_eq_true rfl⟩) f13 rfl rfl rfl hl.1 (Nat.le_of_ble_eq_true rfl) dX7_suggest_46 ⟨by rw [hR]; exact Nat.le_of_ble_eq_true rfl, by rw [hR]; exact Nat.le_of_ble_eq_true rfl⟩ rfl (fun r53 w54 H locs h55 hP hS => ?_)
        obtain ⟨er, eww54⟩ := h55
        rw [er]
        have f56 : w54 (md 1) = some (.inl (G.2.1 0, 10, .inl (Fm 1))) := by rw [eww54]; exact g_up_f f2 ((fun q => absurd (Hj 1 0 (by decide) (by decide) q) (by decide)))
        have f57 : w54 (md 2) = some (.inl (G.2.1 0, 10, .inl (Fm 2))) := by rw [eww54]; exact g_up_f f3 ((fun q => absurd (Hj 2 0 (by decide) (by decide) q) (by decide)))
        have f58 : w54 (md 3) = some (.inl (G.2.1 2, 10, .inl (Fm 3))) := by rw [eww54]; exact g_up_f f4 ((fun q => absurd (Hj 3 0 (by decide) (by decide) q) (by decide)))
        have f59 : w54 (md 4) = some (.inl (G.2.1 0, 64, .inl (Fm 4))) := by rw [eww54]; exact g_up_f f5 ((fun q => absurd (Hj 4 0 (by decide) (by decide) q) (by decide)))
        have f60 : w54 (md 5) = some (.inl (G.2.1 2, 16, .inl (Fm 5))) := by rw [eww54]; exact g_up_f f6 ((fun q => absurd (Hj 5 0 (by decide) (by decide) q) (by decide)))
        have f61 : w54 (md 6) = some (.inl (G.2.1 0, 16, .inl (Fm 6))) := by rw [eww54]; exact g_up_f f7 ((fun q => absurd (Hj 6 0 (by decide) (by decide) q) (by decide)))
        have f62 : w54 (md 7) = some (.inl (G.2.1 0, 16, .inl (Fm 7))) := by rw [eww54]; exact g_up_f f8 ((fun q => absurd (Hj 7 0 (by decide) (by decide) q) (by decide)))
        have f63 : w54 (md 8) = some (.inl (G.2.1 0, 20, .inl (Fm 8))) := by rw [eww54]; exact g_up_f f9 ((fun q => absurd (Hj 8 0 (by decide) (by decide) q) (by decide)))
        have f64 : w54 (md 9) = some (.inl (G.2.1 1, 10, .inr (.inl (L 0)))) := by rw [eww54]; exact g_up_f f10 ((fun q => absurd (Hj 9 0 (by decide) (by decide) q) (by decide)))
        have f65 : w54 (md 10) = some (.inl (G.2.1 1, 10, .inr (.inl (L 1)))) := by rw [eww54]; exact g_up_f f11 ((fun q => absurd (Hj 10 0 (by decide) (by decide) q) (by decide)))
        have f66 : w54 (md 11) = some (.inl (G.2.1 0, 10, .inl (Fm 11))) := by rw [eww54]; exact g_up_f f12 ((fun q => absurd (Hj 11 0 (by decide) (by decide) q) (by decide)))
        have f67 : w54 (md 0) = some (.inr (8, [.int 1, .int (iL (S 0 0)), .ref (md 1), .ref (md 2), .ref (md 3), .int (iL (S 0 4)), .int (iL (S 0 5)), .int (iL (S 0 1)), .ref (md 4), .ref (md 5), .int (iL (S 0 2)), .ref (md 6), .ref (md 7), .int (iL (S 0 3)), .ref (md 8), .ref (md 9), .ref (md 10), .ref (md 11), .long tp, .long bt])) := by rw [eww54]; exact g_up_s _ _ _
        rw [hQ]
        refine g_iret F hP hS hlocks hr dX7_suggest_49 (by first | exact Nat.le_of_ble_eq_true rfl | omega) (by first | exact Nat.le_of_ble_eq_true rfl | omega) ?_
        exact mRes_no (c := 1) (if_neg (fun q => by have q2 := hsg.mp q; omega)) (by decide) ⟨mFr_tr (mFr_tr (mFr_rf _ _) (mFr_se (i := 0) (by decide) ew1)) (mFr_se (i := 0) (by decide) eww54), _, _, Fm, L, ⟨f67, f56, f57, f58, f59, f60, f61, f62, f63, f64, f65, f66⟩, Hf⟩
      · have kc52 : iL U < 8 ↔ U < 8 := iL_lt (a := U) (b := 8) (by omega) (by omega) (by omega) (by omega)
        rw [kc52] at c52
        refine lv_iload hx hb dX7_suggest_33 (lv_at hl 4 rfl) ?_
        refine lv_iload_n hx hb dX7_suggest_35 rfl (lv_at hl 3 rfl) ?_
        refine lv_bipush (v := 120) hx hb dX7_suggest_36 (by decide) ?_
        refine g_Si (As := [.int (iL V), .int (iL U), .int 120]) (rest := []) F hP hS (k_X7_isIn l A G w1 (iL V) (iL U) 120) (va_cwS 3 hts gX7_suggest_X7_isIn rfl rfl rfl cd_X7_isIn ⟨by rw [hR]; exact Nat.le_of_ble_eq_true rfl, by rw [hR]; exact Nat.le_of_ble_eq_true rfl⟩) rfl hl.1 (Nat.le_of_ble_eq_true rfl) dX7_suggest_38 ⟨by rw [hR]; exact Nat.le_of_ble_eq_true rfl, by rw [hR]; exact Nat.le_of_ble_eq_true rfl⟩ rfl (fun r68 w69 H locs h70 hP hS => ?_)
        have hr68 := h70.1
        rw [h70.2] at hP
        rw [hr68]
        refine lv_if_ne (tgt := 50) hx hb dX7_suggest_41 (by decide) (fun c71 => ?_) (fun c71 => ?_)
        · have yc71 := of_decide_eq_true (g_b1.mp c71)
          have kc71 : (iL U ≤ iL V ∧ iL V ≤ 120) ↔ (U ≤ V ∧ V ≤ 120) := by
            have k8 := iL_le (a := U) (b := V) (by omega) (by omega) (by omega) (by omega)
            have k9 := iL_le (a := V) (b := 120) (by omega) (by omega) (by omega) (by omega)
            exact and_congr k8 k9
          rw [kc71] at yc71
          have hp : 1 ≤ P ∧ P ≤ 10000 := by omega
          have hq : 1 ≤ Z ∧ Z ≤ 10000 := by omega
          have huv : 8 ≤ U ∧ U ≤ V ∧ V ≤ 120 := by omega
          refine lv_iconst (v := (-1)) hx hb dX7_suggest_50 (by decide) ?_
          refine lv_istore (lv' := [(5, .int (-1)), (0, .ref (md 0)), (1, .int (iL P)), (2, .int (iL Z)), (3, .int (iL U)), (4, .int (iL V))]) hx hb dX7_suggest_51 hl (by decide) rfl (fun ls hl => ?_)
          refine lv_iconst (v := (-1)) hx hb dX7_suggest_53 (by decide) ?_
          refine lv_istore (lv' := [(6, .int (-1)), (5, .int (-1)), (0, .ref (md 0)), (1, .int (iL P)), (2, .int (iL Z)), (3, .int (iL U)), (4, .int (iL V))]) hx hb dX7_suggest_54 hl (by decide) rfl (fun ls hl => ?_)
          refine lv_iconst (v := 2) hx hb dX7_suggest_56 (by decide) ?_
          refine lv_iload_n hx hb dX7_suggest_57 rfl (lv_at hl 5 rfl) ?_
          refine lv_imul hx hb dX7_suggest_58 ?_
          refine lv_topi (fun v72 ev72 => ?_)
          obtain rfl : v72 = iL (2 * U) := by
            rw [ev72]
            exact iL_mul 2 _
          refine lv_istore (lv' := [(7, .int (iL (2 * U))), (6, .int (-1)), (5, .int (-1)), (0, .ref (md 0)), (1, .int (iL P)), (2, .int (iL Z)), (3, .int (iL U)), (4, .int (iL V))]) hx hb dX7_suggest_59 hl (by decide) rfl (fun ls hl => ?_)
          have L61 : ∀ (n : Nat) (sm : Int) (x1 : Int) (y1 : Int) (H : Heap) (locs : List Loc) (ls : Array Slot), 2 * V + 2 ≤ sm + n → (2 * U ≤ sm ∧ sm ≤ 2 * V + 1) → (bsM P Z U V sm U x1 y1) → g_P A G w1 H → va_S A s.heap H locs → lv_has ls 10 [(7, .int (iL sm)), (6, .int (iL y1)), (5, .int (iL x1)), (0, .ref (md 0)), (1, .int (iL P)), (2, .int (iL Z)), (3, .int (iL U)), (4, .int (iL V))] → W p l e R s m args below meth c H locs (0) (0) Q (F0 m 61 ls []) := by
            intro n
            induction n with
            | zero =>
              intro sm x1 y1 H locs ls hfu hsN hbs hP hS hl
              exact absurd hfu (by omega)
            | succ n ih_L61 =>
              intro sm x1 y1 H locs ls hfu hsN hbs hP hS hl
              refine lv_iload hx hb dX7_suggest_61 (lv_at hl 0 rfl) ?_
              refine lv_iconst (v := 2) hx hb dX7_suggest_63 (by decide) ?_
              refine lv_iload hx hb dX7_suggest_64 (lv_at hl 7 rfl) ?_
              refine lv_imul hx hb dX7_suggest_66 ?_
              refine lv_topi (fun v73 ev73 => ?_)
              obtain rfl : v73 = iL (2 * V) := by
                rw [ev73]
                exact iL_mul 2 _
              refine lv_icmp_gt (tgt := 161) hx hb dX7_suggest_67 (by decide) (fun c74 => ?_) (fun c74 => ?_)
              · rw [iL_lt (a := 2 * V) (b := sm) (by omega) (by omega) (by omega) (by omega)] at c74
                refine lv_sipush (v := 1000) hx hb dX7_suggest_161 (by decide) ?_
                refine lv_iload hx hb dX7_suggest_164 (lv_at hl 2 rfl) ?_
                refine lv_imul hx hb dX7_suggest_166 ?_
                refine lv_topi (fun v75 ev75 => ?_)
                obtain rfl : v75 = iL (1000 * x1) := by
                  rw [ev75]
                  exact iL_mul 1000 _
                refine lv_iload hx hb dX7_suggest_167 (lv_at hl 1 rfl) ?_
                refine lv_iadd hx hb dX7_suggest_169 ?_
                refine lv_topi (fun v76 ev76 => ?_)
                obtain rfl : v76 = iL (1000 * x1 + y1) := by
                  rw [ev76]
                  exact iL_add _ _
                rw [hQ]
                refine g_iret F hP hS hlocks hr dX7_suggest_170 (by first | exact Nat.le_of_ble_eq_true rfl | omega) (by first | exact Nat.le_of_ble_eq_true rfl | omega) ?_
                exact Or.inr ⟨if_pos (hsg.mpr ⟨hp, hq, huv⟩), by rw [iL_t hp1 hp2, iL_t hq1 hq2, iL_t hu1 hu2, iL_t hv1 hv2]; exact ⟨x1, y1, bsM_e huv.2.1 hbs (by omega), rfl⟩, ⟨mFr_tr (mFr_rf _ _) (mFr_se (i := 0) (by decide) ew1), _, _, Fm, L, ⟨f13, f2, f3, f4, f5, f6, f7, f8, f9, f10, f11, f12⟩, Hf⟩⟩
              · rw [iL_lt (a := 2 * V) (b := sm) (by omega) (by omega) (by omega) (by omega)] at c74
                obtain ⟨dd, hdd⟩ : ∃ d : Int, d = (if sm - U < V then sm - U else V) := ⟨_, rfl⟩
                obtain ⟨cc9, hcc⟩ : ∃ d : Int, d = (if U < sm - V then sm - V else U) := ⟨_, rfl⟩
                have hd1 : dd ≤ V ∧ dd ≤ sm - U ∧ U ≤ dd := by rw [hdd]; split <;> omega
                have hc1 : U ≤ cc9 ∧ sm - V ≤ cc9 ∧ cc9 ≤ V := by rw [hcc]; split <;> omega
                refine lv_iload_n hx hb dX7_suggest_70 rfl (lv_at hl 6 rfl) ?_
                refine lv_iload hx hb dX7_suggest_71 (lv_at hl 0 rfl) ?_
                refine lv_iload hx hb dX7_suggest_73 (lv_at hl 7 rfl) ?_
                refine lv_isub hx hb dX7_suggest_75 ?_
                refine lv_topi (fun v77 ev77 => ?_)
                obtain rfl : v77 = iL (sm - V) := by
                  rw [ev77]
                  exact iL_sub _ _
                refine va_mmax hx hb (by rw [hml]; exact hl.1.symm) hown (hts _ (List.mem_cons_of_mem _ (List.mem_append_left _ (List.mem_of_getElem? (i := 1) rfl)))) (hts _ (List.mem_cons_of_mem _ (List.mem_append_left _ (List.mem_of_getElem? (i := 2) rfl)))) (hts _ (List.mem_cons_of_mem _ (List.mem_append_left _ (List.mem_of_getElem? (i := 3) rfl)))) (hts _ (List.mem_cons_of_mem _ (List.mem_append_left _ (List.mem_of_getElem? (i := 4) rfl)))) (by rw [hR]; exact Nat.le_of_ble_eq_true rfl) (by rw [hR]; exact Nat.le_of_ble_eq_true rfl) (by rw [hR]; first | exact Nat.le_of_ble_eq_true rfl | (dsimp only; omega)) (by rw [hR]; first | exact Nat.le_of_ble_eq_true rfl | (dsimp only; omega)) dX7_suggest_76 ?_
                refine lv_topi (fun v78 ev78 => ?_)
                obtain rfl : v78 = iL cc9 := by
                  rw [ev78]
                  rw [hcc]
                  have k0 : iL U < iL (sm - V) ↔ U < sm - V := iL_lt (by omega) (by omega) (by omega) (by omega)
                  by_cases y : U < sm - V
                  · rw [if_pos y, if_pos (k0.mpr y)]
                  · rw [if_neg y, if_neg (fun q => y (k0.mp q))]
                refine lv_istore (lv' := [(8, .int (iL cc9)), (7, .int (iL sm)), (6, .int (iL y1)), (5, .int (iL x1)), (0, .ref (md 0)), (1, .int (iL P)), (2, .int (iL Z)), (3, .int (iL U)), (4, .int (iL V))]) hx hb dX7_suggest_79 hl (by decide) rfl (fun ls hl => ?_)
                have L81 : ∀ (n : Nat) (a : Int) (x1 : Int) (y1 : Int) (H : Heap) (locs : List Loc) (ls : Array Slot), V + 2 ≤ a + n → (cc9 ≤ a ∧ a ≤ V + 1) → (bsM P Z U V sm a x1 y1) → g_P A G w1 H → va_S A s.heap H locs → lv_has ls 10 [(8, .int (iL a)), (7, .int (iL sm)), (6, .int (iL y1)), (5, .int (iL x1)), (0, .ref (md 0)), (1, .int (iL P)), (2, .int (iL Z)), (3, .int (iL U)), (4, .int (iL V))] → W p l e R s m args below meth c H locs (0) (0) Q (F0 m 81 ls []) := by
                  intro n
                  induction n with
                  | zero =>
                    intro a x1 y1 H locs ls hfu haN hbs hP hS hl
                    exact absurd hfu (by omega)
                  | succ n ih_L81 =>
                    intro a x1 y1 H locs ls hfu haN hbs hP hS hl
                    refine lv_iload hx hb dX7_suggest_81 (lv_at hl 0 rfl) ?_
                    refine lv_iload hx hb dX7_suggest_83 (lv_at hl 8 rfl) ?_
                    refine lv_iload hx hb dX7_suggest_85 (lv_at hl 1 rfl) ?_
                    refine lv_iload_n hx hb dX7_suggest_87 rfl (lv_at hl 7 rfl) ?_
                    refine lv_isub hx hb dX7_suggest_88 ?_
                    refine lv_topi (fun v79 ev79 => ?_)
                    obtain rfl : v79 = iL (sm - U) := by
                      rw [ev79]
                      exact iL_sub _ _
                    refine va_mmin hx hb (by rw [hml]; exact hl.1.symm) hown (hts _ (List.mem_cons_of_mem _ (List.mem_append_left _ (List.mem_of_getElem? (i := 5) rfl)))) (hts _ (List.mem_cons_of_mem _ (List.mem_append_left _ (List.mem_of_getElem? (i := 6) rfl)))) (hts _ (List.mem_cons_of_mem _ (List.mem_append_left _ (List.mem_of_getElem? (i := 3) rfl)))) (hts _ (List.mem_cons_of_mem _ (List.mem_append_left _ (List.mem_of_getElem? (i := 7) rfl)))) (by rw [hR]; exact Nat.le_of_ble_eq_true rfl) (by rw [hR]; exact Nat.le_of_ble_eq_true rfl) (by rw [hR]; first | exact Nat.le_of_ble_eq_true rfl | (dsimp only; omega)) (by rw [hR]; first | exact Nat.le_of_ble_eq_true rfl | (dsimp only; omega)) dX7_suggest_89 ?_
                    refine lv_topi (fun v80 ev80 => ?_)
                    obtain rfl : v80 = iL dd := by
                      rw [ev80]
                      rw [hdd]
                      have k0 : iL (sm - U) < iL V ↔ sm - U < V := iL_lt (by omega) (by omega) (by omega) (by omega)
                      by_cases y : sm - U < V
                      · rw [if_pos y, if_pos (k0.mpr y)]
                      · rw [if_neg y, if_neg (fun q => y (k0.mp q))]
                    refine lv_icmp_gt (tgt := 155) hx hb dX7_suggest_92 (by decide) (fun c81 => ?_) (fun c81 => ?_)
                    · rw [iL_lt (a := dd) (b := a) (by omega) (by omega) (by omega) (by omega)] at c81
                      obtain ⟨i82, ei82⟩ : ∃ y : Int32, y = iL sm + (1) := ⟨_, rfl⟩
                      refine lv_iinc (v := i82) (lv' := [(7, .int i82), (8, .int (iL a)), (6, .int (iL y1)), (5, .int (iL x1)), (0, .ref (md 0)), (1, .int (iL P)), (2, .int (iL Z)), (3, .int (iL U)), (4, .int (iL V))]) hx hb dX7_suggest_155 hl (k := 1) rfl (by rw [ei82]; rfl) (by decide) rfl (fun ls hl => ?_)
                      obtain rfl : i82 = iL (sm + 1) := by
                        rw [ei82]
                        exact iL_add _ 1
                      refine lv_goto (tgt := 61) hx hb dX7_suggest_158 (by decide) ?_
                      exact ih_L61 (sm + 1) x1 y1  H locs ls (by omega) (by omega) (bsM_o hbs hdd (by omega)) hP hS (lv_sub hl [0, 2, 3, 4, 5, 6, 7, 8] rfl)
                    · rw [iL_lt (a := dd) (b := a) (by omega) (by omega) (by omega) (by omega)] at c81
                      obtain ⟨b, hb9⟩ : ∃ b : Int, b = sm - a := ⟨_, rfl⟩
                      have hab : (U ≤ a ∧ a ≤ V) ∧ U ≤ b ∧ b ≤ V := by omega
                      have hAB := bsM_r hbs
                      refine lv_iload hx hb dX7_suggest_95 (lv_at hl 1 rfl) ?_
                      refine lv_iload hx hb dX7_suggest_97 (lv_at hl 0 rfl) ?_
                      refine lv_isub hx hb dX7_suggest_99 ?_
                      refine lv_topi (fun v83 ev83 => ?_)
                      obtain rfl : v83 = iL b := by
                        rw [ev83]
                        rw [hb9]; exact iL_sub _ _
                      refine lv_istore (lv' := [(9, .int (iL b)), (8, .int (iL a)), (7, .int (iL sm)), (6, .int (iL y1)), (5, .int (iL x1)), (0, .ref (md 0)), (1, .int (iL P)), (2, .int (iL Z)), (3, .int (iL U)), (4, .int (iL V))]) hx hb dX7_suggest_100 hl (by decide) rfl (fun ls hl => ?_)
                      refine lv_iload hx hb dX7_suggest_102 (lv_at hl 4 rfl) ?_
                      refine lv_iconst (v := (-1)) hx hb dX7_suggest_104 (by decide) ?_
                      refine lv_icmp_eq (tgt := 141) hx hb dX7_suggest_105 (by decide) (fun c84 => ?_) (fun c84 => ?_)
                      · have kc84 : iL x1 = -1 ↔ x1 = -1 := by rw [show (-1 : Int32) = iL (-1) from rfl]; exact iL_eq (by omega) (by omega) (by omega) (by omega)
                        rw [kc84] at c84
                        refine lv_iload hx hb dX7_suggest_141 (lv_at hl 1 rfl) ?_
                        refine lv_istore (lv' := [(5, .int (iL a)), (9, .int (iL b)), (8, .int (iL a)), (7, .int (iL sm)), (6, .int (iL y1)), (0, .ref (md 0)), (1, .int (iL P)), (2, .int (iL Z)), (3, .int (iL U)), (4, .int (iL V))]) hx hb dX7_suggest_143 hl (by decide) rfl (fun ls hl => ?_)
                        refine lv_iload hx hb dX7_suggest_145 (lv_at hl 1 rfl) ?_
                        refine lv_istore (lv' := [(6, .int (iL b)), (5, .int (iL a)), (9, .int (iL b)), (8, .int (iL a)), (7, .int (iL sm)), (0, .ref (md 0)), (1, .int (iL P)), (2, .int (iL Z)), (3, .int (iL U)), (4, .int (iL V))]) hx hb dX7_suggest_147 hl (by decide) rfl (fun ls hl => ?_)
                        obtain ⟨i85, ei85⟩ : ∃ y : Int32, y = iL a + (1) := ⟨_, rfl⟩
                        refine lv_iinc (v := i85) (lv' := [(8, .int i85), (6, .int (iL b)), (5, .int (iL a)), (9, .int (iL b)), (7, .int (iL sm)), (0, .ref (md 0)), (1, .int (iL P)), (2, .int (iL Z)), (3, .int (iL U)), (4, .int (iL V))]) hx hb dX7_suggest_149 hl (k := 3) rfl (by rw [ei85]; rfl) (by decide) rfl (fun ls hl => ?_)
                        obtain rfl : i85 = iL (a + 1) := by
                          rw [ei85]
                          exact iL_add _ 1
                        refine lv_goto (tgt := 81) hx hb dX7_suggest_152 (by decide) ?_
                        exact ih_L81 (a + 1) a b  H locs ls (by omega) (by omega) (bsM_up (by omega) hb9 hab.1 hab.2 hbs (Or.inl c84)) hP hS (lv_sub hl [0, 4, 1, 2, 5, 6, 7, 8, 9] rfl)
                      · have kc84 : iL x1 = -1 ↔ x1 = -1 := by rw [show (-1 : Int32) = iL (-1) from rfl]; exact iL_eq (by omega) (by omega) (by omega) (by omega)
                        rw [kc84] at c84
                        have hxy : U ≤ x1 ∧ x1 ≤ V ∧ U ≤ y1 ∧ y1 ≤ V := by omega
                        have o1 := off_bd (a := a) (b := b) hp hq (by omega) (by omega)
                        have o2 := off_bd (a := x1) (b := y1) hp hq (by omega) (by omega)
                        have m1 := mul_bd (x := offZ P Z a b) (y := y1) (Y := 120) o1.2.2.1 o1.2.2.2 (by omega) (by omega)
                        have m2 := mul_bd (x := offZ P Z x1 y1) (y := b) (Y := 120) o2.2.2.1 o2.2.2.2 (by omega) (by omega)
                        refine lv_iload hx hb dX7_suggest_108 (lv_at hl 1 rfl) ?_
                        refine lv_iload hx hb dX7_suggest_110 (lv_at hl 0 rfl) ?_
                        refine lv_iload_n hx hb dX7_suggest_112 rfl (lv_at hl 6 rfl) ?_
                        refine lv_iload_n hx hb dX7_suggest_113 rfl (lv_at hl 7 rfl) ?_
                        refine g_Sl (As := [.int (iL a), .int (iL b), .int (iL P), .int (iL Z)]) (rest := []) F hP hS (k_X7_off l A G w1 a b P Z hp hq (by omega) (by omega)) (va_cwS 4 hts gX7_suggest_X7_off rfl rfl rfl cd_X7_off ⟨by rw [hR]; exact Nat.le_of_ble_eq_true rfl, by rw [hR]; exact Nat.le_of_ble_eq_true rfl⟩) rfl hl.1 (Nat.le_of_ble_eq_true rfl) dX7_suggest_114 ⟨by rw [hR]; exact Nat.le_of_ble_eq_true rfl, by rw [hR]; exact Nat.le_of_ble_eq_true rfl⟩ rfl (fun r86 w87 H locs h88 hP hS => ?_)
                        have hr86 := h88.1
                        rw [h88.2] at hP
                        rw [hr86]
                        refine lv_iload hx hb dX7_suggest_117 (lv_at hl 3 rfl) ?_
                        refine lv_i2l hx hb dX7_suggest_119 rfl ?_
                        refine lv_topl (fun v89 ev89 => ?_)
                        obtain rfl : v89 = zL y1 := by
                          rw [ev89]
                          exact iL64 (by omega) (by omega)
                        refine lv_lmul hx hb dX7_suggest_120 ?_
                        refine lv_topl (fun v90 ev90 => ?_)
                        obtain rfl : v90 = zL (offZ P Z a b * y1) := by
                          rw [ev90]
                          exact zL_mul _ _
                        refine lv_iload hx hb dX7_suggest_121 (lv_at hl 4 rfl) ?_
                        refine lv_iload hx hb dX7_suggest_123 (lv_at hl 3 rfl) ?_
                        refine lv_iload_n hx hb dX7_suggest_125 rfl (lv_at hl 6 rfl) ?_
                        refine lv_iload_n hx hb dX7_suggest_126 rfl (lv_at hl 7 rfl) ?_
                        refine g_Sl (As := [.int (iL x1), .int (iL y1), .int (iL P), .int (iL Z)]) (rest := [.long (zL (offZ P Z a b * y1))]) F hP hS (k_X7_off l A G w1 x1 y1 P Z hp hq (by omega) (by omega)) (va_cwS 4 hts gX7_suggest_X7_off rfl rfl rfl cd_X7_off ⟨by rw [hR]; exact Nat.le_of_ble_eq_true rfl, by rw [hR]; exact Nat.le_of_ble_eq_true rfl⟩) rfl hl.1 (Nat.le_of_ble_eq_true rfl) dX7_suggest_127 ⟨by rw [hR]; exact Nat.le_of_ble_eq_true rfl, by rw [hR]; exact Nat.le_of_ble_eq_true rfl⟩ rfl (fun r91 w92 H locs h93 hP hS => ?_)
                        have hr91 := h93.1
                        rw [h93.2] at hP
                        rw [hr91]
                        refine lv_iload hx hb dX7_suggest_130 (lv_at hl 0 rfl) ?_
                        refine lv_i2l hx hb dX7_suggest_132 rfl ?_
                        refine lv_topl (fun v94 ev94 => ?_)
                        obtain rfl : v94 = zL b := by
                          rw [ev94]
                          exact iL64 (by omega) (by omega)
                        refine lv_lmul hx hb dX7_suggest_133 ?_
                        refine lv_topl (fun v95 ev95 => ?_)
                        obtain rfl : v95 = zL (offZ P Z x1 y1 * b) := by
                          rw [ev95]
                          exact zL_mul _ _
                        refine W.lcmp hx hb dX7_suggest_134 ?_
                        refine lv_if_lt (tgt := 141) hx hb dX7_suggest_135 (by decide) (fun c96 => ?_) (fun c96 => ?_)
                        · have c96 := (lg_cmp_lt (zL (offZ P Z a b * y1)) (zL (offZ P Z x1 y1 * b))).mp c96
                          rw [zL_lt (a := offZ P Z a b * y1) (b := offZ P Z x1 y1 * b) (by omega) (by omega) (by omega) (by omega)] at c96
                          refine lv_iload hx hb dX7_suggest_141 (lv_at hl 1 rfl) ?_
                          refine lv_istore (lv' := [(5, .int (iL a)), (9, .int (iL b)), (8, .int (iL a)), (7, .int (iL sm)), (6, .int (iL y1)), (0, .ref (md 0)), (1, .int (iL P)), (2, .int (iL Z)), (3, .int (iL U)), (4, .int (iL V))]) hx hb dX7_suggest_143 hl (by decide) rfl (fun ls hl => ?_)
                          refine lv_iload hx hb dX7_suggest_145 (lv_at hl 1 rfl) ?_
                          refine lv_istore (lv' := [(6, .int (iL b)), (5, .int (iL a)), (9, .int (iL b)), (8, .int (iL a)), (7, .int (iL sm)), (0, .ref (md 0)), (1, .int (iL P)), (2, .int (iL Z)), (3, .int (iL U)), (4, .int (iL V))]) hx hb dX7_suggest_147 hl (by decide) rfl (fun ls hl => ?_)
                          obtain ⟨i97, ei97⟩ : ∃ y : Int32, y = iL a + (1) := ⟨_, rfl⟩
                          refine lv_iinc (v := i97) (lv' := [(8, .int i97), (6, .int (iL b)), (5, .int (iL a)), (9, .int (iL b)), (7, .int (iL sm)), (0, .ref (md 0)), (1, .int (iL P)), (2, .int (iL Z)), (3, .int (iL U)), (4, .int (iL V))]) hx hb dX7_suggest_149 hl (k := 3) rfl (by rw [ei97]; rfl) (by decide) rfl (fun ls hl => ?_)
                          obtain rfl : i97 = iL (a + 1) := by
                            rw [ei97]
                            exact iL_add _ 1
                          refine lv_goto (tgt := 81) hx hb dX7_suggest_152 (by decide) ?_
                          exact ih_L81 (a + 1) a b  H locs ls (by omega) (by omega) (bsM_up (by omega) hb9 hab.1 hab.2 hbs (Or.inr c96)) hP hS (lv_sub hl [0, 4, 1, 2, 5, 6, 7, 8, 9] rfl)
                        · have c96 : ¬ ((zL (offZ P Z a b * y1)) < (zL (offZ P Z x1 y1 * b))) := fun h => c96 ((lg_cmp_lt (zL (offZ P Z a b * y1)) (zL (offZ P Z x1 y1 * b))).mpr h)
                          rw [zL_lt (a := offZ P Z a b * y1) (b := offZ P Z x1 y1 * b) (by omega) (by omega) (by omega) (by omega)] at c96
                          refine lv_goto (tgt := 149) hx hb dX7_suggest_138 (by decide) ?_
                          obtain ⟨i98, ei98⟩ : ∃ y : Int32, y = iL a + (1) := ⟨_, rfl⟩
                          refine lv_iinc (v := i98) (lv' := [(8, .int i98), (9, .int (iL b)), (7, .int (iL sm)), (6, .int (iL y1)), (5, .int (iL x1)), (0, .ref (md 0)), (1, .int (iL P)), (2, .int (iL Z)), (3, .int (iL U)), (4, .int (iL V))]) hx hb dX7_suggest_149 hl (k := 1) rfl (by rw [ei98]; rfl) (by decide) rfl (fun ls hl => ?_)
                          obtain rfl : i98 = iL (a + 1) := by
                            rw [ei98]
                            exact iL_add _ 1
                          refine lv_goto (tgt := 81) hx hb dX7_suggest_152 (by decide) ?_
                          exact ih_L81 (a + 1) x1 y1  H locs ls (by omega) (by omega) (bsM_no hb9 hab.1 hab.2 hbs c84 c96) hP hS (lv_sub hl [0, 2, 3, 4, 5, 6, 7, 8, 9] rfl)
                exact L81 122 cc9 x1 y1  H locs ls (by omega) (by omega) (bsM_i hbs hcc) hP hS (lv_sub hl [0, 1, 2, 3, 4, 5, 6, 7, 8] rfl)
          exact L61 242 (2 * U) (-1) (-1)  H locs ls (by omega) (by omega) (bsM_0 (by omega)) hP hS (lv_sub hl [0, 1, 2, 3, 4, 5, 6, 7] rfl)
        · have yc71 := of_decide_eq_false (g_b0.mp c71)
          have kc71 : (iL U ≤ iL V ∧ iL V ≤ 120) ↔ (U ≤ V ∧ V ≤ 120) := by
            have k8 := iL_le (a := U) (b := V) (by omega) (by omega) (by omega) (by omega)
            have k9 := iL_le (a := V) (b := 120) (by omega) (by omega) (by omega) (by omega)
            exact and_congr k8 k9
          rw [kc71] at yc71
          refine lv_aload_n hx hb dX7_suggest_44 rfl (lv_at hl 0 rfl) ?_
          refine lv_iconst (v := 1) hx hb dX7_suggest_45 (by decide) ?_
          refine g_Vi (As := [.int 1]) (rest := []) F hP hS (k_X7_fail l A G w1 md S _ _ _ Fm L 1 f13) (cwV 1 hts gX7_suggest_X7_fail rfl rfl rfl cd_X7_fail ⟨by rw [hR]; exact Nat.le_of_ble_eq_true rfl, by rw [hR]; exact Nat.le_of_ble_eq_true rfl⟩) f13 rfl rfl rfl hl.1 (Nat.le_of_ble_eq_true rfl) dX7_suggest_46 ⟨by rw [hR]; exact Nat.le_of_ble_eq_true rfl, by rw [hR]; exact Nat.le_of_ble_eq_true rfl⟩ rfl (fun r99 w100 H locs h101 hP hS => ?_)
          obtain ⟨er, eww100⟩ := h101
          rw [er]
          have f102 : w100 (md 1) = some (.inl (G.2.1 0, 10, .inl (Fm 1))) := by rw [eww100]; exact g_up_f f2 ((fun q => absurd (Hj 1 0 (by decide) (by decide) q) (by decide)))
          have f103 : w100 (md 2) = some (.inl (G.2.1 0, 10, .inl (Fm 2))) := by rw [eww100]; exact g_up_f f3 ((fun q => absurd (Hj 2 0 (by decide) (by decide) q) (by decide)))
          have f104 : w100 (md 3) = some (.inl (G.2.1 2, 10, .inl (Fm 3))) := by rw [eww100]; exact g_up_f f4 ((fun q => absurd (Hj 3 0 (by decide) (by decide) q) (by decide)))
          have f105 : w100 (md 4) = some (.inl (G.2.1 0, 64, .inl (Fm 4))) := by rw [eww100]; exact g_up_f f5 ((fun q => absurd (Hj 4 0 (by decide) (by decide) q) (by decide)))
          have f106 : w100 (md 5) = some (.inl (G.2.1 2, 16, .inl (Fm 5))) := by rw [eww100]; exact g_up_f f6 ((fun q => absurd (Hj 5 0 (by decide) (by decide) q) (by decide)))
          have f107 : w100 (md 6) = some (.inl (G.2.1 0, 16, .inl (Fm 6))) := by rw [eww100]; exact g_up_f f7 ((fun q => absurd (Hj 6 0 (by decide) (by decide) q) (by decide)))
          have f108 : w100 (md 7) = some (.inl (G.2.1 0, 16, .inl (Fm 7))) := by rw [eww100]; exact g_up_f f8 ((fun q => absurd (Hj 7 0 (by decide) (by decide) q) (by decide)))
          have f109 : w100 (md 8) = some (.inl (G.2.1 0, 20, .inl (Fm 8))) := by rw [eww100]; exact g_up_f f9 ((fun q => absurd (Hj 8 0 (by decide) (by decide) q) (by decide)))
          have f110 : w100 (md 9) = some (.inl (G.2.1 1, 10, .inr (.inl (L 0)))) := by rw [eww100]; exact g_up_f f10 ((fun q => absurd (Hj 9 0 (by decide) (by decide) q) (by decide)))
          have f111 : w100 (md 10) = some (.inl (G.2.1 1, 10, .inr (.inl (L 1)))) := by rw [eww100]; exact g_up_f f11 ((fun q => absurd (Hj 10 0 (by decide) (by decide) q) (by decide)))
          have f112 : w100 (md 11) = some (.inl (G.2.1 0, 10, .inl (Fm 11))) := by rw [eww100]; exact g_up_f f12 ((fun q => absurd (Hj 11 0 (by decide) (by decide) q) (by decide)))
          have f113 : w100 (md 0) = some (.inr (8, [.int 1, .int (iL (S 0 0)), .ref (md 1), .ref (md 2), .ref (md 3), .int (iL (S 0 4)), .int (iL (S 0 5)), .int (iL (S 0 1)), .ref (md 4), .ref (md 5), .int (iL (S 0 2)), .ref (md 6), .ref (md 7), .int (iL (S 0 3)), .ref (md 8), .ref (md 9), .ref (md 10), .ref (md 11), .long tp, .long bt])) := by rw [eww100]; exact g_up_s _ _ _
          rw [hQ]
          refine g_iret F hP hS hlocks hr dX7_suggest_49 (by first | exact Nat.le_of_ble_eq_true rfl | omega) (by first | exact Nat.le_of_ble_eq_true rfl | omega) ?_
          exact mRes_no (c := 1) (if_neg (fun q => by have q2 := hsg.mp q; omega)) (by decide) ⟨mFr_tr (mFr_tr (mFr_rf _ _) (mFr_se (i := 0) (by decide) ew1)) (mFr_se (i := 0) (by decide) eww100), _, _, Fm, L, ⟨f113, f102, f103, f104, f105, f106, f107, f108, f109, f110, f111, f112⟩, Hf⟩
