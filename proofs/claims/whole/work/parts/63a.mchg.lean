theorem cd_X7_fail : yX7_fail.cls = RX7 ∧ yX7_fail.cls ≠ "java/lang/invoke/MethodHandle" ∧ yX7_fail.cls ≠ "java/lang/invoke/VarHandle" ∧ (parseMethodDescriptor yX7_fail.desc).map (fun d => d.parameters.length) = some 1 := by decide +kernel
set_option maxHeartbeats 4000000 in
set_option maxRecDepth 100000 in
theorem k_X7_unmesh (l : Launch) (A : Nat → Prop) (G : g_C) (w : g_W) (md : Nat → Nat) (S : Sg) (th : Int32) (tp bt : Int64) (Fm : Nat → Nat → Int32) (L : Nat → Nat → Int64) (Hm : modW G w md S th tp bt Fm L) (Hj : modI md) (Hf : modF S Fm) (Hi : invS S) : mI l yX7_unmesh wsX7_unmesh ({ frames := 1, cells := 0, slots := 0, locals := 21 } : Room) [.ref (md 0)] A G w (fun r w' => mRes G md w w' S (nxUnmesh S) (cdUnmesh S) (r = vlUnmesh S)) 0 0 := by
  refine g_ofI (cc := cX7_unmesh) (maxL := 1) (ret := (some .int)) (own := RX7) (by decide) rfl rfl (Nat.le_of_ble_eq_true rfl) ?_
  intro p e R s m args below meth c Q ls hR F hP hS hlocks hr hnm0 hQ hl
  obtain ⟨⟨hx, hb, hml, hown, hts⟩, hK, hZ, hA⟩ := id F
  generalize hH0 : s.heap = H at hP ⊢
  have hS : va_S A s.heap H [] := by rw [← hH0]; exact va_S.rf
  generalize ([] : List Loc) = locs at hS ⊢
  have hl : lv_has ls 1 [(0, .ref (md 0))] := hl
  have iX7 : ∀ w ∈ u_ws RX7 TX7 20, w ∈ wsX7_unmesh := fun w h => List.mem_cons_of_mem _ (List.mem_append_right _ (h))
  obtain ⟨hx0, hy1, hy2, hy3, hy4, hy5, hy6, hy7, hy8, hy9, hy10, hy11⟩ := id Hm
  have hi := Hi.1
  refine lv_aload_n hx hb dX7_unmesh_0 rfl (lv_at hl 0 rfl) ?_
  refine lv_iconst (v := 0) hx hb dX7_unmesh_1 (by decide) ?_
  refine g_put F hP hS (C := RX7) (T := TX7) (N := 20) (v := .int 0) (ty := .int) iX7 tyX7 tyX7_ok nmX7 hx0 rfl 0 (by decide) (List.mem_cons_of_mem _ (List.mem_append_left _ (List.mem_of_getElem? (i := 0) rfl))) (fun _ h9 => h9) rfl (by decide +kernel) rfl rfl (by show 0 < 20; decide) dX7_unmesh_2 (fun H locs hP hS => ?_)
  obtain ⟨w1, ew1⟩ : ∃ z, z = g_up w (md 0) (.inr (8, [.int 0, .int (iL (S 0 0)), .ref (md 1), .ref (md 2), .ref (md 3), .int (iL (S 0 4)), .int (iL (S 0 5)), .int (iL (S 0 1)), .ref (md 4), .ref (md 5), .int (iL (S 0 2)), .ref (md 6), .ref (md 7), .int (iL (S 0 3)), .ref (md 8), .ref (md 9), .ref (md 10), .ref (md 11), .long tp, .long bt])) := ⟨_, rfl⟩
  have hP : g_P A G w1 H := by rw [ew1]; exact hP
  have f2 : w1 (md 1) = some (.inl (G.2.1 0, 10, .inl (Fm 1))) := by rw [ew1]; exact g_up_f hy1 ((fun q => absurd (Hj 1 0 (by decide) (by decide) q) (by decide)))
  have f3 : w1 (md 2) = some (.inl (G.2.1 0, 10, .inl (Fm 2))) := by rw [ew1]; exact g_up_f hy2 ((fun q => absurd (Hj 2 0 (by decide) (by decide) q) (by decide)))
  have f4 : w1 (md 3) = some (.inl (G.2.1 2, 10, .inl (Fm 3))) := by rw [ew1]; exact g_up_f hy3 ((fun q => absurd (Hj 3 0 (by decide) (by decide) q) (by decide)))
  have f5 : w1 (md 4) = some (.inl (G.2.1 0, 64, .inl (Fm 4))) := by rw [ew1]; exact g_up_f hy4 ((fun q => absurd (Hj 4 0 (by decide) (by decide) q) (by decide)))
  have f6 : w1 (md 5) = some (.inl (G.2.1 2, 16, .inl (Fm 5))) := by rw [ew1]; exact g_up_f hy5 ((fun q => absurd (Hj 5 0 (by decide) (by decide) q) (by decide)))
  have f7 : w1 (md 6) = some (.inl (G.2.1 0, 16, .inl (Fm 6))) := by rw [ew1]; exact g_up_f hy6 ((fun q => absurd (Hj 6 0 (by decide) (by decide) q) (by decide)))
  have f8 : w1 (md 7) = some (.inl (G.2.1 0, 16, .inl (Fm 7))) := by rw [ew1]; exact g_up_f hy7 ((fun q => absurd (Hj 7 0 (by decide) (by decide) q) (by decide)))
  have f9 : w1 (md 8) = some (.inl (G.2.1 0, 20, .inl (Fm 8))) := by rw [ew1]; exact g_up_f hy8 ((fun q => absurd (Hj 8 0 (by decide) (by decide) q) (by decide)))
  have f10 : w1 (md 9) = some (.inl (G.2.1 1, 10, .inr (.inl (L 0)))) := by rw [ew1]; exact g_up_f hy9 ((fun q => absurd (Hj 9 0 (by decide) (by decide) q) (by decide)))
  have f11 : w1 (md 10) = some (.inl (G.2.1 1, 10, .inr (.inl (L 1)))) := by rw [ew1]; exact g_up_f hy10 ((fun q => absurd (Hj 10 0 (by decide) (by decide) q) (by decide)))
  have f12 : w1 (md 11) = some (.inl (G.2.1 0, 10, .inl (Fm 11))) := by rw [ew1]; exact g_up_f hy11 ((fun q => absurd (Hj 11 0 (by decide) (by decide) q) (by decide)))
  have f13 : w1 (md 0) = some (.inr (8, [.int 0, .int (iL (S 0 0)), .ref (md 1), .ref (md 2), .ref (md 3), .int (iL (S 0 4)), .int (iL (S 0 5)), .int (iL (S 0 1)), .ref (md 4), .ref (md 5), .int (iL (S 0 2)), .ref (md 6), .ref (md 7), .int (iL (S 0 3)), .ref (md 8), .ref (md 9), .ref (md 10), .ref (md 11), .long tp, .long bt])) := by rw [ew1]; exact g_up_s _ _ _
  refine lv_aload_n hx hb dX7_unmesh_5 rfl (lv_at hl 0 rfl) ?_
  refine g_get F hP (C := RX7) (T := TX7) (N := 20) iX7 f13 rfl 10 (by decide) (List.mem_cons_of_mem _ (List.mem_append_left _ (List.mem_of_getElem? (i := 1) rfl))) (fun _ h9 => h9) rfl dX7_unmesh_6 ?_
  refine lv_if_ne (tgt := 18) hx hb dX7_unmesh_9 (by decide) (fun c14 => ?_) (fun c14 => ?_)
  · have k4 : iL (S 0 2) = 0 ↔ S 0 2 = 0 := by rw [show (0 : Int32) = iL 0 from rfl, iL_eq (by omega) (by omega) (by omega) (by omega)]
    rw [k4] at c14
    refine lv_aload_n hx hb dX7_unmesh_18 rfl (lv_at hl 0 rfl) ?_
    refine lv_dup hx hb dX7_unmesh_19 rfl ?_
    refine g_get F hP (C := RX7) (T := TX7) (N := 20) iX7 f13 rfl 10 (by decide) (List.mem_cons_of_mem _ (List.mem_append_left _ (List.mem_of_getElem? (i := 1) rfl))) (fun _ h9 => h9) rfl dX7_unmesh_20 ?_
    refine lv_iconst (v := 1) hx hb dX7_unmesh_23 (by decide) ?_
    refine lv_isub hx hb dX7_unmesh_24 ?_
    refine lv_topi (fun v15 ev15 => ?_)
    obtain rfl : v15 = iL (S 0 2 - 1) := by
      rw [ev15]
      exact iL_sub _ 1
    refine g_put F hP hS (C := RX7) (T := TX7) (N := 20) (v := .int (iL (S 0 2 - 1))) (ty := .int) iX7 tyX7 tyX7_ok nmX7 f13 rfl 10 (by decide) (List.mem_cons_of_mem _ (List.mem_append_left _ (List.mem_of_getElem? (i := 1) rfl))) (fun _ h9 => h9) rfl (by decide +kernel) rfl rfl (by show 10 < 20; decide) dX7_unmesh_25 (fun H locs hP hS => ?_)
    obtain ⟨w16, ew16⟩ : ∃ z, z = g_up w1 (md 0) (.inr (8, [.int 0, .int (iL (S 0 0)), .ref (md 1), .ref (md 2), .ref (md 3), .int (iL (S 0 4)), .int (iL (S 0 5)), .int (iL (S 0 1)), .ref (md 4), .ref (md 5), .int (iL (S 0 2 - 1)), .ref (md 6), .ref (md 7), .int (iL (S 0 3)), .ref (md 8), .ref (md 9), .ref (md 10), .ref (md 11), .long tp, .long bt])) := ⟨_, rfl⟩
    have hP : g_P A G w16 H := by rw [ew16]; exact hP
    have f17 : w16 (md 1) = some (.inl (G.2.1 0, 10, .inl (Fm 1))) := by rw [ew16]; exact g_up_f f2 ((fun q => absurd (Hj 1 0 (by decide) (by decide) q) (by decide)))
    have f18 : w16 (md 2) = some (.inl (G.2.1 0, 10, .inl (Fm 2))) := by rw [ew16]; exact g_up_f f3 ((fun q => absurd (Hj 2 0 (by decide) (by decide) q) (by decide)))
    have f19 : w16 (md 3) = some (.inl (G.2.1 2, 10, .inl (Fm 3))) := by rw [ew16]; exact g_up_f f4 ((fun q => absurd (Hj 3 0 (by decide) (by decide) q) (by decide)))
    have f20 : w16 (md 4) = some (.inl (G.2.1 0, 64, .inl (Fm 4))) := by rw [ew16]; exact g_up_f f5 ((fun q => absurd (Hj 4 0 (by decide) (by decide) q) (by decide)))
    have f21 : w16 (md 5) = some (.inl (G.2.1 2, 16, .inl (Fm 5))) := by rw [ew16]; exact g_up_f f6 ((fun q => absurd (Hj 5 0 (by decide) (by decide) q) (by decide)))
    have f22 : w16 (md 6) = some (.inl (G.2.1 0, 16, .inl (Fm 6))) := by rw [ew16]; exact g_up_f f7 ((fun q => absurd (Hj 6 0 (by decide) (by decide) q) (by decide)))
    have f23 : w16 (md 7) = some (.inl (G.2.1 0, 16, .inl (Fm 7))) := by rw [ew16]; exact g_up_f f8 ((fun q => absurd (Hj 7 0 (by decide) (by decide) q) (by decide)))
    have f24 : w16 (md 8) = some (.inl (G.2.1 0, 20, .inl (Fm 8))) := by rw [ew16]; exact g_up_f f9 ((fun q => absurd (Hj 8 0 (by decide) (by decide) q) (by decide)))
    have f25 : w16 (md 9) = some (.inl (G.2.1 1, 10, .inr (.inl (L 0)))) := by rw [ew16]; exact g_up_f f10 ((fun q => absurd (Hj 9 0 (by decide) (by decide) q) (by decide)))
    have f26 : w16 (md 10) = some (.inl (G.2.1 1, 10, .inr (.inl (L 1)))) := by rw [ew16]; exact g_up_f f11 ((fun q => absurd (Hj 10 0 (by decide) (by decide) q) (by decide)))
    have f27 : w16 (md 11) = some (.inl (G.2.1 0, 10, .inl (Fm 11))) := by rw [ew16]; exact g_up_f f12 ((fun q => absurd (Hj 11 0 (by decide) (by decide) q) (by decide)))
    have f28 : w16 (md 0) = some (.inr (8, [.int 0, .int (iL (S 0 0)), .ref (md 1), .ref (md 2), .ref (md 3), .int (iL (S 0 4)), .int (iL (S 0 5)), .int (iL (S 0 1)), .ref (md 4), .ref (md 5), .int (iL (S 0 2 - 1)), .ref (md 6), .ref (md 7), .int (iL (S 0 3)), .ref (md 8), .ref (md 9), .ref (md 10), .ref (md 11), .long tp, .long bt])) := by rw [ew16]; exact g_up_s _ _ _
    refine lv_aload_n hx hb dX7_unmesh_28 rfl (lv_at hl 0 rfl) ?_
    refine g_get F hP (C := RX7) (T := TX7) (N := 20) iX7 f28 rfl 10 (by decide) (List.mem_cons_of_mem _ (List.mem_append_left _ (List.mem_of_getElem? (i := 1) rfl))) (fun _ h9 => h9) rfl dX7_unmesh_29 ?_
    rw [hQ]
    refine g_iret F hP hS hlocks hr dX7_unmesh_32 (by first | exact Nat.le_of_ble_eq_true rfl | omega) (by first | exact Nat.le_of_ble_eq_true rfl | omega) ?_
    have hF : modF (nxUnmesh S) Fm := ⟨Hf.1, Hf.2.1, fun k hk => Hf.2.2.1 k (by have := (show nxUnmesh S 0 2 = S 0 2 - 1 from up2_s _ _ _ _); omega), Hf.2.2.2⟩
    exact Or.inr ⟨if_neg c14, rfl, ⟨mFr_tr (mFr_tr (mFr_rf _ _) (mFr_se (i := 0) (by decide) ew1)) (mFr_se (i := 0) (by decide) ew16), _, _, Fm, L, ⟨f28, f17, f18, f19, f20, f21, f22, f23, f24, f25, f26, f27⟩, hF⟩⟩
  · have k4 : iL (S 0 2) = 0 ↔ S 0 2 = 0 := by rw [show (0 : Int32) = iL 0 from rfl, iL_eq (by omega) (by omega) (by omega) (by omega)]
    rw [k4] at c14
    refine lv_aload_n hx hb dX7_unmesh_12 rfl (lv_at hl 0 rfl) ?_
    refine lv_iconst (v := 1) hx hb dX7_unmesh_13 (by decide) ?_
    refine g_Vi (As := [.int 1]) (rest := []) F hP hS (k_X7_fail l A G w1 md S _ _ _ Fm L 1 f13) (cwV 1 hts gX7_unmesh_X7_fail rfl rfl rfl cd_X7_fail ⟨by rw [hR]; exact Nat.le_of_ble_eq_true rfl, by rw [hR]; exact Nat.le_of_ble_eq_true rfl⟩) f13 rfl rfl rfl hl.1 (Nat.le_of_ble_eq_true rfl) dX7_unmesh_14 ⟨by rw [hR]; exact Nat.le_of_ble_eq_true rfl, by rw [hR]; exact Nat.le_of_ble_eq_true rfl⟩ rfl (fun r29 w30 H locs h31 hP hS => ?_)
    obtain ⟨er, eww30⟩ := h31
    rw [er]
    have f32 : w30 (md 1) = some (.inl (G.2.1 0, 10, .inl (Fm 1))) := by rw [eww30]; exact g_up_f f2 ((fun q => absurd (Hj 1 0 (by decide) (by decide) q) (by decide)))
    have f33 : w30 (md 2) = some (.inl (G.2.1 0, 10, .inl (Fm 2))) := by rw [eww30]; exact g_up_f f3 ((fun q => absurd (Hj 2 0 (by decide) (by decide) q) (by decide)))
    have f34 : w30 (md 3) = some (.inl (G.2.1 2, 10, .inl (Fm 3))) := by rw [eww30]; exact g_up_f f4 ((fun q => absurd (Hj 3 0 (by decide) (by decide) q) (by decide)))
    have f35 : w30 (md 4) = some (.inl (G.2.1 0, 64, .inl (Fm 4))) := by rw [eww30]; exact g_up_f f5 ((fun q => absurd (Hj 4 0 (by decide) (by decide) q) (by decide)))
    have f36 : w30 (md 5) = some (.inl (G.2.1 2, 16, .inl (Fm 5))) := by rw [eww30]; exact g_up_f f6 ((fun q => absurd (Hj 5 0 (by decide) (by decide) q) (by decide)))
    have f37 : w30 (md 6) = some (.inl (G.2.1 0, 16, .inl (Fm 6))) := by rw [eww30]; exact g_up_f f7 ((fun q => absurd (Hj 6 0 (by decide) (by decide) q) (by decide)))
    have f38 : w30 (md 7) = some (.inl (G.2.1 0, 16, .inl (Fm 7))) := by rw [eww30]; exact g_up_f f8 ((fun q => absurd (Hj 7 0 (by decide) (by decide) q) (by decide)))
    have f39 : w30 (md 8) = some (.inl (G.2.1 0, 20, .inl (Fm 8))) := by rw [eww30]; exact g_up_f f9 ((fun q => absurd (Hj 8 0 (by decide) (by decide) q) (by decide)))
    have f40 : w30 (md 9) = some (.inl (G.2.1 1, 10, .inr (.inl (L 0)))) := by rw [eww30]; exact g_up_f f10 ((fun q => absurd (Hj 9 0 (by decide) (by decide) q) (by decide)))
    have f41 : w30 (md 10) = some (.inl (G.2.1 1, 10, .inr (.inl (L 1)))) := by rw [eww30]; exact g_up_f f11 ((fun q => absurd (Hj 10 0 (by decide) (by decide) q) (by decide)))
    have f42 : w30 (md 11) = some (.inl (G.2.1 0, 10, .inl (Fm 11))) := by rw [eww30]; exact g_up_f f12 ((fun q => absurd (Hj 11 0 (by decide) (by decide) q) (by decide)))
    have f43 : w30 (md 0) = some (.inr (8, [.int 1, .int (iL (S 0 0)), .ref (md 1), .ref (md 2), .ref (md 3), .int (iL (S 0 4)), .int (iL (S 0 5)), .int (iL (S 0 1)), .ref (md 4), .ref (md 5), .int (iL (S 0 2)), .ref (md 6), .ref (md 7), .int (iL (S 0 3)), .ref (md 8), .ref (md 9), .ref (md 10), .ref (md 11), .long tp, .long bt])) := by rw [eww30]; exact g_up_s _ _ _
    rw [hQ]
    refine g_iret F hP hS hlocks hr dX7_unmesh_17 (by first | exact Nat.le_of_ble_eq_true rfl | omega) (by first | exact Nat.le_of_ble_eq_true rfl | omega) ?_
    exact mRes_no (c := 1) (if_pos c14) (by decide) ⟨mFr_tr (mFr_tr (mFr_rf _ _) (mFr_se (i := 0) (by decide) ew1)) (mFr_se (i := 0) (by decide) eww30), _, _, Fm, L, ⟨f43, f32, f33, f34, f35, f36, f37, f38, f39, f40, f41, f42⟩, Hf⟩
