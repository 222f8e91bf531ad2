theorem cd_X7_distanceOf : yX7_distanceOf.cls = RX7 ∧ yX7_distanceOf.cls ≠ "java/lang/invoke/MethodHandle" ∧ yX7_distanceOf.cls ≠ "java/lang/invoke/VarHandle" ∧ (parseMethodDescriptor yX7_distanceOf.desc).map (fun d => d.parameters.length) = some 1 := by decide +kernel
set_option maxHeartbeats 4000000 in
set_option maxRecDepth 100000 in
theorem k_X7_distance (l : Launch) (A : Nat → Prop) (G : g_C) (w : g_W) (md : Nat → Nat) (S : Sg) (th : Int32) (tp bt : Int64) (Fm : Nat → Nat → Int32) (L : Nat → Nat → Int64) (pn : Int32) (Hm : modW G w md S th tp bt Fm L) (Hj : modI md) (Hf : modF S Fm) (Hi : invS S) : mI l yX7_distance wsX7_distance ({ frames := 2, cells := 0, slots := 0, locals := 63 } : Room) [.ref (md 0), .int pn] A G w (fun r w' => mRes G md w w' S S (cdMeshN S pn) (r = vlDist S pn)) 0 0 := by
  refine g_ofI (cc := cX7_distance) (maxL := 2) (ret := (some .int)) (own := RX7) (by decide) rfl rfl (Nat.le_of_ble_eq_true rfl) ?_
  intro p e R s m args below meth c Q ls hR F hP hS hlocks hr hnm0 hQ hl
  obtain ⟨⟨hx, hb, hml, hown, hts⟩, hK, hZ, hA⟩ := id F
  generalize hH0 : s.heap = H at hP ⊢
  have hS : va_S A s.heap H [] := by rw [← hH0]; exact va_S.rf
  generalize ([] : List Loc) = locs at hS ⊢
  have hl : lv_has ls 2 [(0, .ref (md 0)), (1, .int pn)] := hl
  have iX7 : ∀ w ∈ u_ws RX7 TX7 20, w ∈ wsX7_distance := fun w h => List.mem_cons_of_mem _ (List.mem_append_right _ (h))
  obtain ⟨hx0, hy1, hy2, hy3, hy4, hy5, hy6, hy7, hy8, hy9, hy10, hy11⟩ := id Hm
  have hi := Hi.1
  refine lv_aload_n hx hb dX7_distance_0 rfl (lv_at hl 0 rfl) ?_
  refine lv_iconst (v := 0) hx hb dX7_distance_1 (by decide) ?_
  refine g_put F hP hS (C := RX7) (T := TX7) (N := 20) (v := .int 0) (ty := .int) iX7 tyX7 tyX7_ok nmX7 hx0 rfl 0 (by decide) (List.mem_cons_of_mem _ (List.mem_append_left _ (List.mem_append_left _ (List.mem_of_getElem? (i := 0) rfl)))) (fun _ h9 => h9) rfl (by decide +kernel) rfl rfl (by show 0 < 20; decide) dX7_distance_2 (fun H locs hP hS => ?_)
  obtain ⟨w1, ew1⟩ : ∃ z, z = g_up w (md 0) (.inr (8, [.int 0, .int (iL (S 0 0)), .ref (md 1), .ref (md 2), .ref (md 3), .int (iL (S 0 4)), .int (iL (S 0 5)), .int (iL (S 0 1)), .ref (md 4), .ref (md 5), .int (iL (S 0 2)), .ref (md 6), .ref (md 7), .int (iL (S 0 3)), .ref (md 8), .ref (md 9), .ref (md 10), .ref (md 11), .long tp, .long bt])) := ⟨_, rfl⟩
  have hP : g_P A G w1 H := by rw [ew1]; exact hP
  have f2 : w1 (md 1) = some (.inl (G.2.1 0, 10, .inl (Fm 1))) := by rw [ew1]; exact g_up_f hy1 ((fun q => absurd (Hj 1 0 (by decide) (by decide) q) (by decide)))
  have f3 : w1 (md 2) = some (.inl (G.2.1 0, 10, .inl (Fm 2))) := by rw [ew1]; exact g_up_f hy2 ((fun q => absurd (Hj 2 0 (by decide) (by decide) q) (by decide)))
  have f4 : w1 (md 3) = some (.inl (G.2.1 2, 10, .inl (Fm 3))) := by rw [ew1]; exact g_up_f hy3 ((fun q => absurd (Hj 3 0 (by decide) (by decide) q) (by decide)))
  have f5 : w1 (md 4) = some (.inl (G.2.1 0, 64, .inl (Fm 4))) := by rw [ew1]; exact g_up_f hy4 ((fun q => absurd (Hj 4 0 (by decide) (by decide) q) (by decide)))
  have f6 : w1 (md 5) = some (.inl (G.2.1 2, 16, .inl (Fm 5))) := by rw [ew1]; exact g_up_f hy5 ((fun q => absurd (Hj 5 0 (by decide) (by decide) q) (by decide)))
  have f7 : w1 (md 6) = some (.inl (G.2.1 0, 16, .inl (Fm 6))) := by rw [ew1]; exact g_up_f hy6 ((fun q => absurd (Hj 6 0 (by decide) (by decide) q) (by decide)))
  have f8 : w1 (md 7) = some (.inl (G.2.1 0, 16, .inl (Fm 7))) := by rw [ew1]; exact g_up_f hy7 ((fun q => absurd (Hj 7 0 (by decide) (by decide) q) (by decide)))
  have f9 : w1 (md 8) = some (.inl (G.2.1 0, 20, .inl (Fm 8))) := by rw [ew1]; exact g_up_f hy8 ((fun q => absurd (Hj 8 0 (by decide) (by decide) q) (by decide)))
  have f10 : w1 (md 9) = some (.inl (G.2.1 1, 10, .inr (.inl (L 0)))) := by rw [ew1]; exact g_up_f hy9 ((fun q => absurd (Hj 9 0 (by decide) (by decide) q) (by decide)))
  have f11 : w1 (md 10) = some (.inl (G.2.1 1, 10, .inr (.inl (L 1)))) := by rw [ew1]; exact g_up_f hy10 ((fun q => absurd (Hj 10 0 (by decide) (by decide) q) (by decide)))
  have f12 : w1 (md 11) = some (.inl (G.2.1 0, 10, .inl (Fm 11))) := by rw [ew1]; exact g_up_f hy11 ((fun q => absurd (Hj 11 0 (by decide) (by decide) q) (by decide)))
  have f13 : w1 (md 0) = some (.inr (8, [.int 0, .int (iL (S 0 0)), .ref (md 1), .ref (md 2), .ref (md 3), .int (iL (S 0 4)), .int (iL (S 0 5)), .int (iL (S 0 1)), .ref (md 4), .ref (md 5), .int (iL (S 0 2)), .ref (md 6), .ref (md 7), .int (iL (S 0 3)), .ref (md 8), .ref (md 9), .ref (md 10), .ref (md 11), .long tp, .long bt])) := by rw [ew1]; exact g_up_s _ _ _
  refine lv_iload_n hx hb dX7_distance_5 rfl (lv_at hl 1 rfl) ?_
  refine lv_iconst (v := 0) hx hb dX7_distance_6 (by decide) ?_
  refine lv_aload_n hx hb dX7_distance_7 rfl (lv_at hl 0 rfl) ?_
  refine g_get F hP (C := RX7) (T := TX7) (N := 20) iX7 f13 rfl 10 (by decide) (List.mem_cons_of_mem _ (List.mem_append_left _ (List.mem_append_left _ (List.mem_of_getElem? (i := 1) rfl)))) (fun _ h9 => h9) rfl dX7_distance_8 ?_
  refine lv_iconst (v := 1) hx hb dX7_distance_11 (by decide) ?_
  refine lv_isub hx hb dX7_distance_12 ?_
  refine lv_topi (fun v14 ev14 => ?_)
  obtain rfl : v14 = iL (S 0 2 - 1) := by
    rw [ev14]
    exact iL_sub _ 1
  refine g_Si (As := [.int pn, .int 0, .int (iL (S 0 2 - 1))]) (rest := []) F hP hS (k_X7_isIn l A G w1 pn 0 (iL (S 0 2 - 1))) (va_cwS 3 hts gX7_distance_X7_isIn rfl rfl rfl cd_X7_isIn ⟨by rw [hR]; exact Nat.le_of_ble_eq_true rfl, by rw [hR]; exact Nat.le_of_ble_eq_true rfl⟩) rfl hl.1 (Nat.le_of_ble_eq_true rfl) dX7_distance_13 ⟨by rw [hR]; exact Nat.le_of_ble_eq_true rfl, by rw [hR]; exact Nat.le_of_ble_eq_true rfl⟩ rfl (fun r15 w16 H locs h17 hP hS => ?_)
  have hr15 := h17.1
  rw [h17.2] at hP
  rw [hr15]
  refine lv_if_eq (tgt := 27) hx hb dX7_distance_16 (by decide) (fun c18 => ?_) (fun c18 => ?_)
  · have yc18 := of_decide_eq_false (g_b0.mp c18)
    have k1 : (0 ≤ pn) ↔ 0 ≤ pn.toInt := by rw [Int32.le_iff_toInt_le]; rfl
    have k2 : (pn ≤ iL (S 0 2 - 1)) ↔ pn.toInt < S 0 2 := by rw [Int32.le_iff_toInt_le, iL_t (by omega) (by omega)]; omega
    rw [k1, k2] at yc18
    refine lv_aload_n hx hb dX7_distance_27 rfl (lv_at hl 0 rfl) ?_
    refine lv_iconst (v := 1) hx hb dX7_distance_28 (by decide) ?_
    refine g_Vi (As := [.int 1]) (rest := []) F hP hS (k_X7_fail l A G w1 md S _ _ _ Fm L 1 f13) (cwV 1 hts gX7_distance_X7_fail rfl rfl rfl cd_X7_fail ⟨by rw [hR]; exact Nat.le_of_ble_eq_true rfl, by rw [hR]; exact Nat.le_of_ble_eq_true rfl⟩) f13 rfl rfl rfl hl.1 (Nat.le_of_ble_eq_true rfl) dX7_distance_29 ⟨by rw [hR]; exact Nat.le_of_ble_eq_true rfl, by rw [hR]; exact Nat.le_of_ble_eq_true rfl⟩ rfl (fun r19 w20 H locs h21 hP hS => ?_)
    obtain ⟨er, eww20⟩ := h21
    rw [er]
    have f22 : w20 (md 1) = some (.inl (G.2.1 0, 10, .inl (Fm 1))) := by rw [eww20]; exact g_up_f f2 ((fun q => absurd (Hj 1 0 (by decide) (by decide) q) (by decide)))
    have f23 : w20 (md 2) = some (.inl (G.2.1 0, 10, .inl (Fm 2))) := by rw [eww20]; exact g_up_f f3 ((fun q => absurd (Hj 2 0 (by decide) (by decide) q) (by decide)))
    have f24 : w20 (md 3) = some (.inl (G.2.1 2, 10, .inl (Fm 3))) := by rw [eww20]; exact g_up_f f4 ((fun q => absurd (Hj 3 0 (by decide) (by decide) q) (by decide)))
    have f25 : w20 (md 4) = some (.inl (G.2.1 0, 64, .inl (Fm 4))) := by rw [eww20]; exact g_up_f f5 ((fun q => absurd (Hj 4 0 (by decide) (by decide) q) (by decide)))
    have f26 : w20 (md 5) = some (.inl (G.2.1 2, 16, .inl (Fm 5))) := by rw [eww20]; exact g_up_f f6 ((fun q => absurd (Hj 5 0 (by decide) (by decide) q) (by decide)))
    have f27 : w20 (md 6) = some (.inl (G.2.1 0, 16, .inl (Fm 6))) := by rw [eww20]; exact g_up_f f7 ((fun q => absurd (Hj 6 0 (by decide) (by decide) q) (by decide)))
    have f28 : w20 (md 7) = some (.inl (G.2.1 0, 16, .inl (Fm 7))) := by rw [eww20]; exact g_up_f f8 ((fun q => absurd (Hj 7 0 (by decide) (by decide) q) (by decide)))
    have f29 : w20 (md 8) = some (.inl (G.2.1 0, 20, .inl (Fm 8))) := by rw [eww20]; exact g_up_f f9 ((fun q => absurd (Hj 8 0 (by decide) (by decide) q) (by decide)))
    have f30 : w20 (md 9) = some (.inl (G.2.1 1, 10, .inr (.inl (L 0)))) := by rw [eww20]; exact g_up_f f10 ((fun q => absurd (Hj 9 0 (by decide) (by decide) q) (by decide)))
    have f31 : w20 (md 10) = some (.inl (G.2.1 1, 10, .inr (.inl (L 1)))) := by rw [eww20]; exact g_up_f f11 ((fun q => absurd (Hj 10 0 (by decide) (by decide) q) (by decide)))
    have f32 : w20 (md 11) = some (.inl (G.2.1 0, 10, .inl (Fm 11))) := by rw [eww20]; exact g_up_f f12 ((fun q => absurd (Hj 11 0 (by decide) (by decide) q) (by decide)))
    have f33 : w20 (md 0) = some (.inr (8, [.int 1, .int (iL (S 0 0)), .ref (md 1), .ref (md 2), .ref (md 3), .int (iL (S 0 4)), .int (iL (S 0 5)), .int (iL (S 0 1)), .ref (md 4), .ref (md 5), .int (iL (S 0 2)), .ref (md 6), .ref (md 7), .int (iL (S 0 3)), .ref (md 8), .ref (md 9), .ref (md 10), .ref (md 11), .long tp, .long bt])) := by rw [eww20]; exact g_up_s _ _ _
    rw [hQ]
    refine g_iret F hP hS hlocks hr dX7_distance_32 (by first | exact Nat.le_of_ble_eq_true rfl | omega) (by first | exact Nat.le_of_ble_eq_true rfl | omega) ?_
    exact mRes_no (c := 1) (if_neg yc18) (by decide) ⟨mFr_tr (mFr_tr (mFr_rf _ _) (mFr_se (i := 0) (by decide) ew1)) (mFr_se (i := 0) (by decide) eww20), _, _, Fm, L, ⟨f33, f22, f23, f24, f25, f26, f27, f28, f29, f30, f31, f32⟩, Hf⟩
  · have yc18 := of_decide_eq_true (g_b1.mp c18)
    have k1 : (0 ≤ pn) ↔ 0 ≤ pn.toInt := by rw [Int32.le_iff_toInt_le]; rfl
    have k2 : (pn ≤ iL (S 0 2 - 1)) ↔ pn.toInt < S 0 2 := by rw [Int32.le_iff_toInt_le, iL_t (by omega) (by omega)]; omega
    rw [k1, k2] at yc18
    have sm9 := yc18
    obtain ⟨mm, hm, em9⟩ := ix_of sm9.1 sm9.2
    subst em9
    have nm9 : kN (nI mm) = mm := kN_n (by omega)
    refine lv_aload_n hx hb dX7_distance_19 rfl (lv_at hl 0 rfl) ?_
    refine lv_iload_n hx hb dX7_distance_20 rfl (lv_at hl 1 rfl) ?_
    refine g_Vi (As := [.int (nI mm)]) (rest := []) F hP hS (k_X7_distanceOf l A G w1 md S _ _ _ Fm L mm f13 f5 f6 f7 f8 Hf Hi hm) (cwV 1 hts gX7_distance_X7_distanceOf rfl rfl rfl cd_X7_distanceOf ⟨by rw [hR]; exact Nat.le_of_ble_eq_true rfl, by rw [hR]; exact Nat.le_of_ble_eq_true rfl⟩) f13 rfl rfl rfl hl.1 (Nat.le_of_ble_eq_true rfl) dX7_distance_21 ⟨by rw [hR]; exact Nat.le_of_ble_eq_true rfl, by rw [hR]; exact Nat.le_of_ble_eq_true rfl⟩ rfl (fun r34 w35 H locs h36 hP hS => ?_)
    have hr34 := h36.1
    rw [h36.2] at hP
    rw [hr34]
    refine lv_goto (tgt := 32) hx hb dX7_distance_24 (by decide) ?_
    rw [hQ]
    refine g_iret F hP hS hlocks hr dX7_distance_32 (by first | exact Nat.le_of_ble_eq_true rfl | omega) (by first | exact Nat.le_of_ble_eq_true rfl | omega) ?_
    exact Or.inr ⟨if_pos sm9, by unfold vlDist; rw [nm9], ⟨mFr_tr (mFr_rf _ _) (mFr_se (i := 0) (by decide) ew1), _, _, Fm, L, ⟨f13, f2, f3, f4, f5, f6, f7, f8, f9, f10, f11, f12⟩, Hf⟩⟩
