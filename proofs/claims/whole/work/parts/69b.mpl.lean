set_option maxHeartbeats 4000000 in
set_option maxRecDepth 100000 in
theorem k_X7_addPlanets (l : Launch) (A : Nat → Prop) (G : g_C) (w : g_W) (md : Nat → Nat) (S : Sg) (th : Int32) (tp bt : Int64) (Fm : Nat → Nat → Int32) (L : Nat → Nat → Int64) (un vn zn tn pn : Int32) (Hm : modW G w md S th tp bt Fm L) (Hj : modI md) (Hf : modF S Fm) (Hi : invS S) : mI l yX7_addPlanets wsX7_addPlanets ({ frames := 2, cells := 0, slots := 0, locals := 43 } : Room) [.ref (md 0), .int un, .int vn, .int zn, .int tn, .int pn] A G w (fun r w' => mRes G md w w' S (nxAddPl S un vn zn tn pn) (cdAddPl S un vn zn tn pn) (r = vlAddPl S)) 0 0 := by
  refine g_ofI (cc := cX7_addPlanets) (maxL := 7) (ret := (some .int)) (own := RX7) (by decide) rfl rfl (Nat.le_of_ble_eq_true rfl) ?_
  intro p e R s m args below meth c Q ls hR F hP hS hlocks hr hnm0 hQ hl
  obtain ⟨⟨hx, hb, hml, hown, hts⟩, hK, hZ, hA⟩ := id F
  generalize hH0 : s.heap = H at hP ⊢
  have hS : va_S A s.heap H [] := by rw [← hH0]; exact va_S.rf
  generalize ([] : List Loc) = locs at hS ⊢
  have hl : lv_has ls 7 [(0, .ref (md 0)), (1, .int un), (2, .int vn), (3, .int zn), (4, .int tn), (5, .int pn)] := hl
  have iX7 : ∀ w ∈ u_ws RX7 TX7 20, w ∈ wsX7_addPlanets := fun w h => List.mem_cons_of_mem _ (List.mem_append_right _ (h))
  obtain ⟨hx0, hy1, hy2, hy3, hy4, hy5, hy6, hy7, hy8, hy9, hy10, hy11⟩ := id Hm
  have hi := Hi.1
  refine lv_aload_n hx hb dX7_addPlanets_0 rfl (lv_at hl 0 rfl) ?_
  refine lv_iconst (v := 0) hx hb dX7_addPlanets_1 (by decide) ?_
  refine g_put F hP hS (C := RX7) (T := TX7) (N := 20) (v := .int 0) (ty := .int) iX7 tyX7 tyX7_ok nmX7 hx0 rfl 0 (by decide) (List.mem_cons_of_mem _ (List.mem_append_left _ (List.mem_of_getElem? (i := 0) rfl))) (fun _ h9 => h9) rfl (by decide +kernel) rfl rfl (by show 0 < 20; decide) dX7_addPlanets_2 (fun H locs hP hS => ?_)
  obtain ⟨w1, ew1⟩ : ∃ z, z = g_up w (md 0) (.inr (8, [.int 0, .int (iL (S 0 0)), .ref (md 1), .ref (md 2), .ref (md 3), .int (iL (S 0 4)), .int (iL (S 0 5)), .int (iL (S 0 1)), .ref (md 4), .ref (md 5), .int (iL (S 0 2)), .ref (md 6), .ref (md 7), .int (iL (S 0 3)), .ref (md 8), .ref (md 9), .ref (md 10), .ref (md 11), .long tp, .long bt])) := ⟨_, rfl⟩
  have hP : g_P A G w1 H := by rw [ew1]; exact hP
  have f2 : w1 (md 1) = some (.inl (G.2.1 0, 10, .inl (Fm 1))) := by rw [ew1]; exact g_up_f hy1 ((fun q => absurd (Hj 1 0 (by decide) (by decide) q) (by decide)))
  have f3 : w1 (md 2) = some (.inl (G.2.1 0, 10, .inl (Fm 2))) := by rw [ew1]; exact g_up_f hy2 ((fun q => absurd (Hj 2 0 (by decide) (by decide) q) (by decide)))
  have f4 : w1 (md 3) = some (.inl (G.2.1 2, 10, .inl (Fm 3))) := by rw [ew1]; exact g_up_f hy3 ((fun q => absurd (Hj 3 0 (by decide) (by decide) q) (by decide)))
  have f5 : w1 (md 4) = some (.inl (G.2.1 0, 64, .inl (Fm 4))) := by rw [ew1]; exact g_up_f hy4 ((fun q => absurd (Hj 4 0 (by decide) (by decide) q) (by decide)))
  have f6 : w1 (md 5) = some (.inl (G.2.1 2, 16, .inl (Fm 5))) := by rw [ew1]; exact g_up_f hy5 ((fun q => absurd (Hj 5 0 (by decide) (by decide) q) (by decide)))
  have f7 : w1 (md 6) = some (.inl (G.2.1 0, 16, .inl (Fm 6))) := by rw [ew1]; exact g_up_f hy6 ((fun q => absurd (Hj 6 0 (by decide) (by decide) q) (by decide)))
  have f8 : w1 (md 7) = some (.inl (G.2.1 0, 16, .inl (Fm 7))) := by rw [ew1]; exact g_up_f hy7 ((fun q => absurd (Hj 7 0 (by decide) (by decide) q) (by decide)))
  have f9 : w1 (md 8) = some (.inl (G.2.1 0, 20, .inl (Fm 8))) := by rw [ew1]; exact g_up_f hy8 ((fun q => absurd (Hj 8 0 (by decide) (by decide) q) (by decide)))
  have f10 : w1 (md 9) = some (.inl (G.2.1 1, 10, .inr (.inl (L 0)))) := by rw [ew1]; exact g_up_f hy9 ((fun q => absurd (Hj 9 0 (by decide) (by decide) q) (by decide)))
  have f11 : w1 (md 10) = some (.inl (G.2.1 1, 10, .inr (.inl (L 1)))) := by rw [ew1]; exact g_up_f hy10 ((fun q => absurd (Hj 10 0 (by decide) (by decide) q) (by decide)))
  have f12 : w1 (md 11) = some (.inl (G.2.1 0, 10, .inl (Fm 11))) := by rw [ew1]; exact g_up_f hy11 ((fun q => absurd (Hj 11 0 (by decide) (by decide) q) (by decide)))
  have f13 : w1 (md 0) = some (.inr (8, [.int 0, .int (iL (S 0 0)), .ref (md 1), .ref (md 2), .ref (md 3), .int (iL (S 0 4)), .int (iL (S 0 5)), .int (iL (S 0 1)), .ref (md 4), .ref (md 5), .int (iL (S 0 2)), .ref (md 6), .ref (md 7), .int (iL (S 0 3)), .ref (md 8), .ref (md 9), .ref (md 10), .ref (md 11), .long tp, .long bt])) := by rw [ew1]; exact g_up_s _ _ _
  refine lv_aload_n hx hb dX7_addPlanets_5 rfl (lv_at hl 0 rfl) ?_
  refine lv_iload_n hx hb dX7_addPlanets_6 rfl (lv_at hl 1 rfl) ?_
  refine g_Vi (As := [.int un]) (rest := []) F hP hS (k_X7_isShaft l A G w1 md S _ _ _ Fm L un f13 Hf Hi) (cwV 1 hts gX7_addPlanets_X7_isShaft rfl rfl rfl cd_X7_isShaft ⟨by rw [hR]; exact Nat.le_of_ble_eq_true rfl, by rw [hR]; exact Nat.le_of_ble_eq_true rfl⟩) f13 rfl rfl rfl hl.1 (Nat.le_of_ble_eq_true rfl) dX7_addPlanets_7 ⟨by rw [hR]; exact Nat.le_of_ble_eq_true rfl, by rw [hR]; exact Nat.le_of_ble_eq_true rfl⟩ rfl (fun r14 w15 H locs h16 hP hS => ?_)
  have hr14 := h16.1
  rw [h16.2] at hP
  rw [hr14]
  refine lv_if_eq (tgt := 29) hx hb dX7_addPlanets_10 (by decide) (fun c17 => ?_) (fun c17 => ?_)
  · have yc17 := of_decide_eq_false (g_b0.mp c17)
    refine lv_aload_n hx hb dX7_addPlanets_29 rfl (lv_at hl 0 rfl) ?_
    refine lv_iconst (v := 1) hx hb dX7_addPlanets_30 (by decide) ?_
    refine g_Vi (As := [.int 1]) (rest := []) F hP hS (k_X7_fail l A G w1 md S _ _ _ Fm L 1 f13) (cwV 1 hts gX7_addPlanets_X7_fail rfl rfl rfl cd_X7_fail ⟨by rw [hR]; exact Nat.le_of_ble_eq_true rfl, by rw [hR]; exact Nat.le_of_ble_eq_true rfl⟩) f13 rfl rfl rfl hl.1 (Nat.le_of_ble_eq_true rfl) dX7_addPlanets_31 ⟨by rw [hR]; exact Nat.le_of_ble_eq_true rfl, by rw [hR]; exact Nat.le_of_ble_eq_true rfl⟩ rfl (fun r18 w19 H locs h20 hP hS => ?_)
    obtain ⟨er, eww19⟩ := h20
    rw [er]
    have f21 : w19 (md 1) = some (.inl (G.2.1 0, 10, .inl (Fm 1))) := by rw [eww19]; exact g_up_f f2 ((fun q => absurd (Hj 1 0 (by decide) (by decide) q) (by decide)))
    have f22 : w19 (md 2) = some (.inl (G.2.1 0, 10, .inl (Fm 2))) := by rw [eww19]; exact g_up_f f3 ((fun q => absurd (Hj 2 0 (by decide) (by decide) q) (by decide)))
    have f23 : w19 (md 3) = some (.inl (G.2.1 2, 10, .inl (Fm 3))) := by rw [eww19]; exact g_up_f f4 ((fun q => absurd (Hj 3 0 (by decide) (by decide) q) (by decide)))
    have f24 : w19 (md 4) = some (.inl (G.2.1 0, 64, .inl (Fm 4))) := by rw [eww19]; exact g_up_f f5 ((fun q => absurd (Hj 4 0 (by decide) (by decide) q) (by decide)))
    have f25 : w19 (md 5) = some (.inl (G.2.1 2, 16, .inl (Fm 5))) := by rw [eww19]; exact g_up_f f6 ((fun q => absurd (Hj 5 0 (by decide) (by decide) q) (by decide)))
    have f26 : w19 (md 6) = some (.inl (G.2.1 0, 16, .inl (Fm 6))) := by rw [eww19]; exact g_up_f f7 ((fun q => absurd (Hj 6 0 (by decide) (by decide) q) (by decide)))
    have f27 : w19 (md 7) = some (.inl (G.2.1 0, 16, .inl (Fm 7))) := by rw [eww19]; exact g_up_f f8 ((fun q => absurd (Hj 7 0 (by decide) (by decide) q) (by decide)))
    have f28 : w19 (md 8) = some (.inl (G.2.1 0, 20, .inl (Fm 8))) := by rw [eww19]; exact g_up_f f9 ((fun q => absurd (Hj 8 0 (by decide) (by decide) q) (by decide)))
    have f29 : w19 (md 9) = some (.inl (G.2.1 1, 10, .inr (.inl (L 0)))) := by rw [eww19]; exact g_up_f f10 ((fun q => absurd (Hj 9 0 (by decide) (by decide) q) (by decide)))
    have f30 : w19 (md 10) = some (.inl (G.2.1 1, 10, .inr (.inl (L 1)))) := by rw [eww19]; exact g_up_f f11 ((fun q => absurd (Hj 10 0 (by decide) (by decide) q) (by decide)))
    have f31 : w19 (md 11) = some (.inl (G.2.1 0, 10, .inl (Fm 11))) := by rw [eww19]; exact g_up_f f12 ((fun q => absurd (Hj 11 0 (by decide) (by decide) q) (by decide)))
    have f32 : w19 (md 0) = some (.inr (8, [.int 1, .int (iL (S 0 0)), .ref (md 1), .ref (md 2), .ref (md 3), .int (iL (S 0 4)), .int (iL (S 0 5)), .int (iL (S 0 1)), .ref (md 4), .ref (md 5), .int (iL (S 0 2)), .ref (md 6), .ref (md 7), .int (iL (S 0 3)), .ref (md 8), .ref (md 9), .ref (md 10), .ref (md 11), .long tp, .long bt])) := by rw [eww19]; exact g_up_s _ _ _
    rw [hQ]
    refine g_iret F hP hS hlocks hr dX7_addPlanets_34 (by first | exact Nat.le_of_ble_eq_true rfl | omega) (by first | exact Nat.le_of_ble_eq_true rfl | omega) ?_
    exact mRes_no (c := 1) (if_neg (fun q => yc17 q.1)) (by decide) ⟨mFr_tr (mFr_tr (mFr_rf _ _) (mFr_se (i := 0) (by decide) ew1)) (mFr_se (i := 0) (by decide) eww19), _, _, Fm, L, ⟨f32, f21, f22, f23, f24, f25, f26, f27, f28, f29, f30, f31⟩, Hf⟩
  · have yc17 := of_decide_eq_true (g_b1.mp c17)
    refine lv_aload_n hx hb dX7_addPlanets_13 rfl (lv_at hl 0 rfl) ?_
    refine lv_iload_n hx hb dX7_addPlanets_14 rfl (lv_at hl 2 rfl) ?_
    refine g_Vi (As := [.int vn]) (rest := []) F hP hS (k_X7_isShaft l A G w1 md S _ _ _ Fm L vn f13 Hf Hi) (cwV 1 hts gX7_addPlanets_X7_isShaft rfl rfl rfl cd_X7_isShaft ⟨by rw [hR]; exact Nat.le_of_ble_eq_true rfl, by rw [hR]; exact Nat.le_of_ble_eq_true rfl⟩) f13 rfl rfl rfl hl.1 (Nat.le_of_ble_eq_true rfl) dX7_addPlanets_15 ⟨by rw [hR]; exact Nat.le_of_ble_eq_true rfl, by rw [hR]; exact Nat.le_of_ble_eq_true rfl⟩ rfl (fun r33 w34 H locs h35 hP hS => ?_)
    have hr33 := h35.1
    rw [h35.2] at hP
    rw [hr33]
    refine lv_if_eq (tgt := 29) hx hb dX7_addPlanets_18 (by decide) (fun c36 => ?_) (fun c36 => ?_)
    · have yc36 := of_decide_eq_false (g_b0.mp c36)
      refine lv_aload_n hx hb dX7_addPlanets_29 rfl (lv_at hl 0 rfl) ?_
      refine lv_iconst (v := 1) hx hb dX7_addPlanets_30 (by decide) ?_
      refine g_Vi (As := [.int 1]) (rest := []) F hP hS (k_X7_fail l A G w1 md S _ _ _ Fm L 1 f13) (cwV 1 hts gX7_addPlanets_X7_fail rfl rfl rfl cd_X7_fail ⟨by rw [hR]; exact Nat.le_of_ble_eq_true rfl, by rw [hR]; exact Nat.le_of_ble_eq_true rfl⟩) f13 rfl rfl rfl hl.1 (Nat.le_of_ble_eq_true rfl) dX7_addPlanets_31 ⟨by rw [hR]; exact Nat.le_of_ble_eq_true rfl, by rw [hR]; exact Nat.le_of_ble_eq_true rfl⟩ rfl (fun r37 w38 H locs h39 hP hS => ?_)
      obtain ⟨er, eww38⟩ := h39
      rw [er]
      have f40 : w38 (md 1) = some (.inl (G.2.1 0, 10, .inl (Fm 1))) := by rw [eww38]; exact g_up_f f2 ((fun q => absurd (Hj 1 0 (by decide) (by decide) q) (by decide)))
      have f41 : w38 (md 2) = some (.inl (G.2.1 0, 10, .inl (Fm 2))) := by rw [eww38]; exact g_up_f f3 ((fun q => absurd (Hj 2 0 (by decide) (by decide) q) (by decide)))
      have f42 : w38 (md 3) = some (.inl (G.2.1 2, 10, .inl (Fm 3))) := by rw [eww38]; exact g_up_f f4 ((fun q => absurd (Hj 3 0 (by decide) (by decide) q) (by decide)))
      have f43 : w38 (md 4) = some (.inl (G.2.1 0, 64, .inl (Fm 4))) := by rw [eww38]; exact g_up_f f5 ((fun q => absurd (Hj 4 0 (by decide) (by decide) q) (by decide)))
      have f44 : w38 (md 5) = some (.inl (G.2.1 2, 16, .inl (Fm 5))) := by rw [eww38]; exact g_up_f f6 ((fun q => absurd (Hj 5 0 (by decide) (by decide) q) (by decide)))
      have f45 : w38 (md 6) = some (.inl (G.2.1 0, 16, .inl (Fm 6))) := by rw [eww38]; exact g_up_f f7 ((fun q => absurd (Hj 6 0 (by decide) (by decide) q) (by decide)))
      have f46 : w38 (md 7) = some (.inl (G.2.1 0, 16, .inl (Fm 7))) := by rw [eww38]; exact g_up_f f8 ((fun q => absurd (Hj 7 0 (by decide) (by decide) q) (by decide)))
      have f47 : w38 (md 8) = some (.inl (G.2.1 0, 20, .inl (Fm 8))) := by rw [eww38]; exact g_up_f f9 ((fun q => absurd (Hj 8 0 (by decide) (by decide) q) (by decide)))
      have f48 : w38 (md 9) = some (.inl (G.2.1 1, 10, .inr (.inl (L 0)))) := by rw [eww38]; exact g_up_f f10 ((fun q => absurd (Hj 9 0 (by decide) (by decide) q) (by decide)))
      have f49 : w38 (md 10) = some (.inl (G.2.1 1, 10, .inr (.inl (L 1)))) := by rw [eww38]; exact g_up_f f11 ((fun q => absurd (Hj 10 0 (by decide) (by decide) q) (by decide)))
      have f50 : w38 (md 11) = some (.inl (G.2.1 0, 10, .inl (Fm 11))) := by rw [eww38]; exact g_up_f f12 ((fun q => absurd (Hj 11 0 (by decide) (by decide) q) (by decide)))
      have f51 : w38 (md 0) = some (.inr (8, [.int 1, .int (iL (S 0 0)), .ref (md 1), .ref (md 2), .ref (md 3), .int (iL (S 0 4)), .int (iL (S 0 5)), .int (iL (S 0 1)), .ref (md 4), .ref (md 5), .int (iL (S 0 2)), .ref (md 6), .ref (md 7), .int (iL (S 0 3)), .ref (md 8), .ref (md 9), .ref (md 10), .ref (md 11), .long tp, .long bt])) := by rw [eww38]; exact g_up_s _ _ _
      rw [hQ]
      refine g_iret F hP hS hlocks hr dX7_addPlanets_34 (by first | exact Nat.le_of_ble_eq_true rfl | omega) (by first | exact Nat.le_of_ble_eq_true rfl | omega) ?_
      exact mRes_no (c := 1) (if_neg (fun q => yc36 q.2.1)) (by decide) ⟨mFr_tr (mFr_tr (mFr_rf _ _) (mFr_se (i := 0) (by decide) ew1)) (mFr_se (i := 0) (by decide) eww38), _, _, Fm, L, ⟨f51, f40, f41, f42, f43, f44, f45, f46, f47, f48, f49, f50⟩, Hf⟩
    · have yc36 := of_decide_eq_true (g_b1.mp c36)
      refine lv_aload_n hx hb dX7_addPlanets_21 rfl (lv_at hl 0 rfl) ?_
      refine lv_iload_n hx hb dX7_addPlanets_22 rfl (lv_at hl 3 rfl) ?_
      refine g_Vi (As := [.int zn]) (rest := []) F hP hS (k_X7_isShaft l A G w1 md S _ _ _ Fm L zn f13 Hf Hi) (cwV 1 hts gX7_addPlanets_X7_isShaft rfl rfl rfl cd_X7_isShaft ⟨by rw [hR]; exact Nat.le_of_ble_eq_true rfl, by rw [hR]; exact Nat.le_of_ble_eq_true rfl⟩) f13 rfl rfl rfl hl.1 (Nat.le_of_ble_eq_true rfl) dX7_addPlanets_23 ⟨by rw [hR]; exact Nat.le_of_ble_eq_true rfl, by rw [hR]; exact Nat.le_of_ble_eq_true rfl⟩ rfl (fun r52 w53 H locs h54 hP hS => ?_)
      have hr52 := h54.1
      rw [h54.2] at hP
      rw [hr52]
      refine lv_if_ne (tgt := 35) hx hb dX7_addPlanets_26 (by decide) (fun c55 => ?_) (fun c55 => ?_)
      · have yc55 := of_decide_eq_true (g_b1.mp c55)
        refine lv_iload_n hx hb dX7_addPlanets_35 rfl (lv_at hl 1 rfl) ?_
        refine lv_iload_n hx hb dX7_addPlanets_36 rfl (lv_at hl 2 rfl) ?_
        refine lv_icmp_eq (tgt := 74) hx hb dX7_addPlanets_37 (by decide) (fun c56 => ?_) (fun c56 => ?_)
        · refine lv_aload_n hx hb dX7_addPlanets_74 rfl (lv_at hl 0 rfl) ?_
          refine lv_iconst (v := 2) hx hb dX7_addPlanets_75 (by decide) ?_
          refine g_Vi (As := [.int 2]) (rest := []) F hP hS (k_X7_fail l A G w1 md S _ _ _ Fm L 2 f13) (cwV 1 hts gX7_addPlanets_X7_fail rfl rfl rfl cd_X7_fail ⟨by rw [hR]; exact Nat.le_of_ble_eq_true rfl, by rw [hR]; exact Nat.le_of_ble_eq_true rfl⟩) f13 rfl rfl rfl hl.1 (Nat.le_of_ble_eq_true rfl) dX7_addPlanets_76 ⟨by rw [hR]; exact Nat.le_of_ble_eq_true rfl, by rw [hR]; exact Nat.le_of_ble_eq_true rfl⟩ rfl (fun r57 w58 H locs h59 hP hS => ?_)
          obtain ⟨er, eww58⟩ := h59
          rw [er]
          have f60 : w58 (md 1) = some (.inl (G.2.1 0, 10, .inl (Fm 1))) := by rw [eww58]; exact g_up_f f2 ((fun q => absurd (Hj 1 0 (by decide) (by decide) q) (by decide)))
          have f61 : w58 (md 2) = some (.inl (G.2.1 0, 10, .inl (Fm 2))) := by rw [eww58]; exact g_up_f f3 ((fun q => absurd (Hj 2 0 (by decide) (by decide) q) (by decide)))
          have f62 : w58 (md 3) = some (.inl (G.2.1 2, 10, .inl (Fm 3))) := by rw [eww58]; exact g_up_f f4 ((fun q => absurd (Hj 3 0 (by decide) (by decide) q) (by decide)))
          have f63 : w58 (md 4) = some (.inl (G.2.1 0, 64, .inl (Fm 4))) := by rw [eww58]; exact g_up_f f5 ((fun q => absurd (Hj 4 0 (by decide) (by decide) q) (by decide)))
          have f64 : w58 (md 5) = some (.inl (G.2.1 2, 16, .inl (Fm 5))) := by rw [eww58]; exact g_up_f f6 ((fun q => absurd (Hj 5 0 (by decide) (by decide) q) (by decide)))
          have f65 : w58 (md 6) = some (.inl (G.2.1 0, 16, .inl (Fm 6))) := by rw [eww58]; exact g_up_f f7 ((fun q => absurd (Hj 6 0 (by decide) (by decide) q) (by decide)))
          have f66 : w58 (md 7) = some (.inl (G.2.1 0, 16, .inl (Fm 7))) := by rw [eww58]; exact g_up_f f8 ((fun q => absurd (Hj 7 0 (by decide) (by decide) q) (by decide)))
          have f67 : w58 (md 8) = some (.inl (G.2.1 0, 20, .inl (Fm 8))) := by rw [eww58]; exact g_up_f f9 ((fun q => absurd (Hj 8 0 (by decide) (by decide) q) (by decide)))
          have f68 : w58 (md 9) = some (.inl (G.2.1 1, 10, .inr (.inl (L 0)))) := by rw [eww58]; exact g_up_f f10 ((fun q => absurd (Hj 9 0 (by decide) (by decide) q) (by decide)))
          have f69 : w58 (md 10) = some (.inl (G.2.1 1, 10, .inr (.inl (L 1)))) := by rw [eww58]; exact g_up_f f11 ((fun q => absurd (Hj 10 0 (by decide) (by decide) q) (by decide)))
          have f70 : w58 (md 11) = some (.inl (G.2.1 0, 10, .inl (Fm 11))) := by rw [eww58]; exact g_up_f f12 ((fun q => absurd (Hj 11 0 (by decide) (by decide) q) (by decide)))
          have f71 : w58 (md 0) = some (.inr (8, [.int 2, .int (iL (S 0 0)), .ref (md 1), .ref (md 2), .ref (md 3), .int (iL (S 0 4)), .int (iL (S 0 5)), .int (iL (S 0 1)), .ref (md 4), .ref (md 5), .int (iL (S 0 2)), .ref (md 6), .ref (md 7), .int (iL (S 0 3)), .ref (md 8), .ref (md 9), .ref (md 10), .ref (md 11), .long tp, .long bt])) := by rw [eww58]; exact g_up_s _ _ _
          rw [hQ]
          refine g_iret F hP hS hlocks hr dX7_addPlanets_79 (by first | exact Nat.le_of_ble_eq_true rfl | omega) (by first | exact Nat.le_of_ble_eq_true rfl | omega) ?_
          exact mRes_no (c := 2) ((if_pos ⟨yc17, yc36, yc55⟩).trans (if_neg (fun q => q.1.1 c56))) (by decide) ⟨mFr_tr (mFr_tr (mFr_rf _ _) (mFr_se (i := 0) (by decide) ew1)) (mFr_se (i := 0) (by decide) eww58), _, _, Fm, L, ⟨f71, f60, f61, f62, f63, f64, f65, f66, f67, f68, f69, f70⟩, Hf⟩
        · refine lv_iload_n hx hb dX7_addPlanets_40 rfl (lv_at hl 1 rfl) ?_
          refine lv_iload_n hx hb dX7_addPlanets_41 rfl (lv_at hl 3 rfl) ?_
          refine lv_icmp_eq (tgt := 74) hx hb dX7_addPlanets_42 (by decide) (fun c72 => ?_) (fun c72 => ?_)
          · refine lv_aload_n hx hb dX7_addPlanets_74 rfl (lv_at hl 0 rfl) ?_
            refine lv_iconst (v := 2) hx hb dX7_addPlanets_75 (by decide) ?_
            refine g_Vi (As := [.int 2]) (rest := []) F hP hS (k_X7_fail l A G w1 md S _ _ _ Fm L 2 f13) (cwV 1 hts gX7_addPlanets_X7_fail rfl rfl rfl cd_X7_fail ⟨by rw [hR]; exact Nat.le_of_ble_eq_true rfl, by rw [hR]; exact Nat.le_of_ble_eq_true rfl⟩) f13 rfl rfl rfl hl.1 (Nat.le_of_ble_eq_true rfl) dX7_addPlanets_76 ⟨by rw [hR]; exact Nat.le_of_ble_eq_true rfl, by rw [hR]; exact Nat.le_of_ble_eq_true rfl⟩ rfl (fun r73 w74 H locs h75 hP hS => ?_)
            obtain ⟨er, eww74⟩ := h75
            rw [er]
            have f76 : w74 (md 1) = some (.inl (G.2.1 0, 10, .inl (Fm 1))) := by rw [eww74]; exact g_up_f f2 ((fun q => absurd (Hj 1 0 (by decide) (by decide) q) (by decide)))
            have f77 : w74 (md 2) = some (.inl (G.2.1 0, 10, .inl (Fm 2))) := by rw [eww74]; exact g_up_f f3 ((fun q => absurd (Hj 2 0 (by decide) (by decide) q) (by decide)))
            have f78 : w74 (md 3) = some (.inl (G.2.1 2, 10, .inl (Fm 3))) := by rw [eww74]; exact g_up_f f4 ((fun q => absurd (Hj 3 0 (by decide) (by decide) q) (by decide)))
            have f79 : w74 (md 4) = some (.inl (G.2.1 0, 64, .inl (Fm 4))) := by rw [eww74]; exact g_up_f f5 ((fun q => absurd (Hj 4 0 (by decide) (by decide) q) (by decide)))
            have f80 : w74 (md 5) = some (.inl (G.2.1 2, 16, .inl (Fm 5))) := by rw [eww74]; exact g_up_f f6 ((fun q => absurd (Hj 5 0 (by decide) (by decide) q) (by decide)))
            have f81 : w74 (md 6) = some (.inl (G.2.1 0, 16, .inl (Fm 6))) := by rw [eww74]; exact g_up_f f7 ((fun q => absurd (Hj 6 0 (by decide) (by decide) q) (by decide)))
            have f82 : w74 (md 7) = some (.inl (G.2.1 0, 16, .inl (Fm 7))) := by rw [eww74]; exact g_up_f f8 ((fun q => absurd (Hj 7 0 (by decide) (by decide) q) (by decide)))
            have f83 : w74 (md 8) = some (.inl (G.2.1 0, 20, .inl (Fm 8))) := by rw [eww74]; exact g_up_f f9 ((fun q => absurd (Hj 8 0 (by decide) (by decide) q) (by decide)))
            have f84 : w74 (md 9) = some (.inl (G.2.1 1, 10, .inr (.inl (L 0)))) := by rw [eww74]; exact g_up_f f10 ((fun q => absurd (Hj 9 0 (by decide) (by decide) q) (by decide)))
            have f85 : w74 (md 10) = some (.inl (G.2.1 1, 10, .inr (.inl (L 1)))) := by rw [eww74]; exact g_up_f f11 ((fun q => absurd (Hj 10 0 (by decide) (by decide) q) (by decide)))
            have f86 : w74 (md 11) = some (.inl (G.2.1 0, 10, .inl (Fm 11))) := by rw [eww74]; exact g_up_f f12 ((fun q => absurd (Hj 11 0 (by decide) (by decide) q) (by decide)))
            have f87 : w74 (md 0) = some (.inr (8, [.int 2, .int (iL (S 0 0)), .ref (md 1), .ref (md 2), .ref (md 3), .int (iL (S 0 4)), .int (iL (S 0 5)), .int (iL (S 0 1)), .ref (md 4), .ref (md 5), .int (iL (S 0 2)), .ref (md 6), .ref (md 7), .int (iL (S 0 3)), .ref (md 8), .ref (md 9), .ref (md 10), .ref (md 11), .long tp, .long bt])) := by rw [eww74]; exact g_up_s _ _ _
            rw [hQ]
            refine g_iret F hP hS hlocks hr dX7_addPlanets_79 (by first | exact Nat.le_of_ble_eq_true rfl | omega) (by first | exact Nat.le_of_ble_eq_true rfl | omega) ?_
            exact mRes_no (c := 2) ((if_pos ⟨yc17, yc36, yc55⟩).trans (if_neg (fun q => q.1.2.1 c72))) (by decide) ⟨mFr_tr (mFr_tr (mFr_rf _ _) (mFr_se (i := 0) (by decide) ew1)) (mFr_se (i := 0) (by decide) eww74), _, _, Fm, L, ⟨f87, f76, f77, f78, f79, f80, f81, f82, f83, f84, f85, f86⟩, Hf⟩
          · refine lv_iload_n hx hb dX7_addPlanets_45 rfl (lv_at hl 2 rfl) ?_
            refine lv_iload_n hx hb dX7_addPlanets_46 rfl (lv_at hl 3 rfl) ?_
            refine lv_icmp_eq (tgt := 74) hx hb dX7_addPlanets_47 (by decide) (fun c88 => ?_) (fun c88 => ?_)
            · refine lv_aload_n hx hb dX7_addPlanets_74 rfl (lv_at hl 0 rfl) ?_
              refine lv_iconst (v := 2) hx hb dX7_addPlanets_75 (by decide) ?_
              refine g_Vi (As := [.int 2]) (rest := []) F hP hS (k_X7_fail l A G w1 md S _ _ _ Fm L 2 f13) (cwV 1 hts gX7_addPlanets_X7_fail rfl rfl rfl cd_X7_fail ⟨by rw [hR]; exact Nat.le_of_ble_eq_true rfl, by rw [hR]; exact Nat.le_of_ble_eq_true rfl⟩) f13 rfl rfl rfl hl.1 (Nat.le_of_ble_eq_true rfl) dX7_addPlanets_76 ⟨by rw [hR]; exact Nat.le_of_ble_eq_true rfl, by rw [hR]; exact Nat.le_of_ble_eq_true rfl⟩ rfl (fun r89 w90 H locs h91 hP hS => ?_)
              obtain ⟨er, eww90⟩ := h91
              rw [er]
              have f92 : w90 (md 1) = some (.inl (G.2.1 0, 10, .inl (Fm 1))) := by rw [eww90]; exact g_up_f f2 ((fun q => absurd (Hj 1 0 (by decide) (by decide) q) (by decide)))
              have f93 : w90 (md 2) = some (.inl (G.2.1 0, 10, .inl (Fm 2))) := by rw [eww90]; exact g_up_f f3 ((fun q => absurd (Hj 2 0 (by decide) (by decide) q) (by decide)))
              have f94 : w90 (md 3) = some (.inl (G.2.1 2, 10, .inl (Fm 3))) := by rw [eww90]; exact g_up_f f4 ((fun q => absurd (Hj 3 0 (by decide) (by decide) q) (by decide)))
              have f95 : w90 (md 4) = some (.inl (G.2.1 0, 64, .inl (Fm 4))) := by rw [eww90]; exact g_up_f f5 ((fun q => absurd (Hj 4 0 (by decide) (by decide) q) (by decide)))
              have f96 : w90 (md 5) = some (.inl (G.2.1 2, 16, .inl (Fm 5))) := by rw [eww90]; exact g_up_f f6 ((fun q => absurd (Hj 5 0 (by decide) (by decide) q) (by decide)))
              have f97 : w90 (md 6) = some (.inl (G.2.1 0, 16, .inl (Fm 6))) := by rw [eww90]; exact g_up_f f7 ((fun q => absurd (Hj 6 0 (by decide) (by decide) q) (by decide)))
              have f98 : w90 (md 7) = some (.inl (G.2.1 0, 16, .inl (Fm 7))) := by rw [eww90]; exact g_up_f f8 ((fun q => absurd (Hj 7 0 (by decide) (by decide) q) (by decide)))
              have f99 : w90 (md 8) = some (.inl (G.2.1 0, 20, .inl (Fm 8))) := by rw [eww90]; exact g_up_f f9 ((fun q => absurd (Hj 8 0 (by decide) (by decide) q) (by decide)))
              have f100 : w90 (md 9) = some (.inl (G.2.1 1, 10, .inr (.inl (L 0)))) := by rw [eww90]; exact g_up_f f10 ((fun q => absurd (Hj 9 0 (by decide) (by decide) q) (by decide)))
              have f101 : w90 (md 10) = some (.inl (G.2.1 1, 10, .inr (.inl (L 1)))) := by rw [eww90]; exact g_up_f f11 ((fun q => absurd (Hj 10 0 (by decide) (by decide) q) (by decide)))
              have f102 : w90 (md 11) = some (.inl (G.2.1 0, 10, .inl (Fm 11))) := by rw [eww90]; exact g_up_f f12 ((fun q => absurd (Hj 11 0 (by decide) (by decide) q) (by decide)))
              have f103 : w90 (md 0) = some (.inr (8, [.int 2, .int (iL (S 0 0)), .ref (md 1), .ref (md 2), .ref (md 3), .int (iL (S 0 4)), .int (iL (S 0 5)), .int (iL (S 0 1)), .ref (md 4), .ref (md 5), .int (iL (S 0 2)), .ref (md 6), .ref (md 7), .int (iL (S 0 3)), .ref (md 8), .ref (md 9), .ref (md 10), .ref (md 11), .long tp, .long bt])) := by rw [eww90]; exact g_up_s _ _ _
              rw [hQ]
              refine g_iret F hP hS hlocks hr dX7_addPlanets_79 (by first | exact Nat.le_of_ble_eq_true rfl | omega) (by first | exact Nat.le_of_ble_eq_true rfl | omega) ?_
              exact mRes_no (c := 2) ((if_pos ⟨yc17, yc36, yc55⟩).trans (if_neg (fun q => q.1.2.2 c88))) (by decide) ⟨mFr_tr (mFr_tr (mFr_rf _ _) (mFr_se (i := 0) (by decide) ew1)) (mFr_se (i := 0) (by decide) eww90), _, _, Fm, L, ⟨f103, f92, f93, f94, f95, f96, f97, f98, f99, f100, f101, f102⟩, Hf⟩
            · refine lv_iload hx hb dX7_addPlanets_50 (lv_at hl 4 rfl) ?_
              refine lv_bipush (v := 8) hx hb dX7_addPlanets_52 (by decide) ?_
              refine lv_bipush (v := 100) hx hb dX7_addPlanets_54 (by decide) ?_
              refine g_Si (As := [.int tn, .int 8, .int 100]) (rest := []) F hP hS (k_X7_isIn l A G w1 tn 8 100) (va_cwS 3 hts gX7_addPlanets_X7_isIn rfl rfl rfl cd_X7_isIn ⟨by rw [hR]; exact Nat.le_of_ble_eq_true rfl, by rw [hR]; exact Nat.le_of_ble_eq_true rfl⟩) rfl hl.1 (Nat.le_of_ble_eq_true rfl) dX7_addPlanets_56 ⟨by rw [hR]; exact Nat.le_of_ble_eq_true rfl, by rw [hR]; exact Nat.le_of_ble_eq_true rfl⟩ rfl (fun r104 w105 H locs h106 hP hS => ?_)
              have hr104 := h106.1
              rw [h106.2] at hP
              rw [hr104]
              refine lv_if_eq (tgt := 74) hx hb dX7_addPlanets_59 (by decide) (fun c107 => ?_) (fun c107 => ?_)
              · have yc107 := of_decide_eq_false (g_b0.mp c107)
                have kc107 : (8 ≤ tn ∧ tn ≤ 100) ↔ inQ tn 8 100 := by rw [Int32.le_iff_toInt_le, Int32.le_iff_toInt_le]; exact Iff.rfl
                rw [kc107] at yc107
                refine lv_aload_n hx hb dX7_addPlanets_74 rfl (lv_at hl 0 rfl) ?_
                refine lv_iconst (v := 2) hx hb dX7_addPlanets_75 (by decide) ?_
                refine g_Vi (As := [.int 2]) (rest := []) F hP hS (k_X7_fail l A G w1 md S _ _ _ Fm L 2 f13) (cwV 1 hts gX7_addPlanets_X7_fail rfl rfl rfl cd_X7_fail ⟨by rw [hR]; exact Nat.le_of_ble_eq_true rfl, by rw [hR]; exact Nat.le_of_ble_eq_true rfl⟩) f13 rfl rfl rfl hl.1 (Nat.le_of_ble_eq_true rfl) dX7_addPlanets_76 ⟨by rw [hR]; exact Nat.le_of_ble_eq_true rfl, by rw [hR]; exact Nat.le_of_ble_eq_true rfl⟩ rfl (fun r108 w109 H locs h110 hP hS => ?_)
                obtain ⟨er, eww109⟩ := h110
                rw [er]
                have f111 : w109 (md 1) = some (.inl (G.2.1 0, 10, .inl (Fm 1))) := by rw [eww109]; exact g_up_f f2 ((fun q => absurd (Hj 1 0 (by decide) (by decide) q) (by decide)))
                have f112 : w109 (md 2) = some (.inl (G.2.1 0, 10, .inl (Fm 2))) := by rw [eww109]; exact g_up_f f3 ((fun q => absurd (Hj 2 0 (by decide) (by decide) q) (by decide)))
                have f113 : w109 (md 3) = some (.inl (G.2.1 2, 10, .inl (Fm 3))) := by rw [eww109]; exact g_up_f f4 ((fun q => absurd (Hj 3 0 (by decide) (by decide) q) (by decide)))
                have f114 : w109 (md 4) = some (.inl (G.2.1 0, 64, .inl (Fm 4))) := by rw [eww109]; exact g_up_f f5 ((fun q => absurd (Hj 4 0 (by decide) (by decide) q) (by decide)))
                have f115 : w109 (md 5) = some (.inl (G.2.1 2, 16, .inl (Fm 5))) := by rw [eww109]; exact g_up_f f6 ((fun q => absurd (Hj 5 0 (by decide) (by decide) q) (by decide)))
                have f116 : w109 (md 6) = some (.inl (G.2.1 0, 16, .inl (Fm 6))) := by rw [eww109]; exact g_up_f f7 ((fun q => absurd (Hj 6 0 (by decide) (by decide) q) (by decide)))
                have f117 : w109 (md 7) = some (.inl (G.2.1 0, 16, .inl (Fm 7))) := by rw [eww109]; exact g_up_f f8 ((fun q => absurd (Hj 7 0 (by decide) (by decide) q) (by decide)))
                have f118 : w109 (md 8) = some (.inl (G.2.1 0, 20, .inl (Fm 8))) := by rw [eww109]; exact g_up_f f9 ((fun q => absurd (Hj 8 0 (by decide) (by decide) q) (by decide)))
                have f119 : w109 (md 9) = some (.inl (G.2.1 1, 10, .inr (.inl (L 0)))) := by rw [eww109]; exact g_up_f f10 ((fun q => absurd (Hj 9 0 (by decide) (by decide) q) (by decide)))
                have f120 : w109 (md 10) = some (.inl (G.2.1 1, 10, .inr (.inl (L 1)))) := by rw [eww109]; exact g_up_f f11 ((fun q => absurd (Hj 10 0 (by decide) (by decide) q) (by decide)))
                have f121 : w109 (md 11) = some (.inl (G.2.1 0, 10, .inl (Fm 11))) := by rw [eww109]; exact g_up_f f12 ((fun q => absurd (Hj 11 0 (by decide) (by decide) q) (by decide)))
                have f122 : w109 (md 0) = some (.inr (8, [.int 2, .int (iL (S 0 0)), .ref (md 1), .ref (md 2), .ref (md 3), .int (iL (S 0 4)), .int (iL (S 0 5)), .int (iL (S 0 1)), .ref (md 4), .ref (md 5), .int (iL (S 0 2)), .ref (md 6), .ref (md 7), .int (iL (S 0 3)), .ref (md 8), .ref (md 9), .ref (md 10), .ref (md 11), .long tp, .long bt])) := by rw [eww109]; exact g_up_s _ _ _
                rw [hQ]
                refine g_iret F hP hS hlocks hr dX7_addPlanets_79 (by first | exact Nat.le_of_ble_eq_true rfl | omega) (by first | exact Nat.le_of_ble_eq_true rfl | omega) ?_
                exact mRes_no (c := 2) ((if_pos ⟨yc17, yc36, yc55⟩).trans (if_neg (fun q => yc107 q.2.1))) (by decide) ⟨mFr_tr (mFr_tr (mFr_rf _ _) (mFr_se (i := 0) (by decide) ew1)) (mFr_se (i := 0) (by decide) eww109), _, _, Fm, L, ⟨f122, f111, f112, f113, f114, f115, f116, f117, f118, f119, f120, f121⟩, Hf⟩
              · have yc107 := of_decide_eq_true (g_b1.mp c107)
                have kc107 : (8 ≤ tn ∧ tn ≤ 100) ↔ inQ tn 8 100 := by rw [Int32.le_iff_toInt_le, Int32.le_iff_toInt_le]; exact Iff.rfl
                rw [kc107] at yc107
                refine lv_iload hx hb dX7_addPlanets_62 (lv_at hl 5 rfl) ?_
                refine lv_bipush (v := 8) hx hb dX7_addPlanets_64 (by decide) ?_
                refine lv_bipush (v := 100) hx hb dX7_addPlanets_66 (by decide) ?_
                refine g_Si (As := [.int pn, .int 8, .int 100]) (rest := []) F hP hS (k_X7_isIn l A G w1 pn 8 100) (va_cwS 3 hts gX7_addPlanets_X7_isIn rfl rfl rfl cd_X7_isIn ⟨by rw [hR]; exact Nat.le_of_ble_eq_true rfl, by rw [hR]; exact Nat.le_of_ble_eq_true rfl⟩) rfl hl.1 (Nat.le_of_ble_eq_true rfl) dX7_addPlanets_68 ⟨by rw [hR]; exact Nat.le_of_ble_eq_true rfl, by rw [hR]; exact Nat.le_of_ble_eq_true rfl⟩ rfl (fun r123 w124 H locs h125 hP hS => ?_)
                have hr123 := h125.1
                rw [h125.2] at hP
                rw [hr123]
                refine lv_if_ne (tgt := 80) hx hb dX7_addPlanets_71 (by decide) (fun c126 => ?_) (fun c126 => ?_)
                · have yc126 := of_decide_eq_true (g_b1.mp c126)
                  have kc126 : (8 ≤ pn ∧ pn ≤ 100) ↔ inQ pn 8 100 := by rw [Int32.le_iff_toInt_le, Int32.le_iff_toInt_le]; exact Iff.rfl
                  rw [kc126] at yc126
                  refine lv_aload_n hx hb dX7_addPlanets_80 rfl (lv_at hl 0 rfl) ?_
                  refine g_get F hP (C := RX7) (T := TX7) (N := 20) iX7 f13 rfl 13 (by decide) (List.mem_cons_of_mem _ (List.mem_append_left _ (List.mem_of_getElem? (i := 1) rfl))) (fun _ h9 => h9) rfl dX7_addPlanets_81 ?_
                  refine lv_iconst (v := 4) hx hb dX7_addPlanets_84 (by decide) ?_
                  refine lv_icmp_ne (tgt := 94) hx hb dX7_addPlanets_85 (by decide) (fun c127 => ?_) (fun c127 => ?_)
                  · rw [show (4 : Int32) = iL 4 from rfl, iL_eq (by omega) (by omega) (by omega) (by omega)] at c127
                    refine lv_iconst (v := 5) hx hb dX7_addPlanets_94 (by decide) ?_
                    refine lv_aload_n hx hb dX7_addPlanets_95 rfl (lv_at hl 0 rfl) ?_
                    refine g_get F hP (C := RX7) (T := TX7) (N := 20) iX7 f13 rfl 13 (by decide) (List.mem_cons_of_mem _ (List.mem_append_left _ (List.mem_of_getElem? (i := 1) rfl))) (fun _ h9 => h9) rfl dX7_addPlanets_96 ?_
                    refine lv_imul hx hb dX7_addPlanets_99 ?_
                    refine lv_topi (fun v128 ev128 => ?_)
                    obtain rfl : v128 = nI (5 * (S 0 3).toNat) := by
                      rw [ev128]
                      rw [iL_nn (by omega)]
                      exact nI_mul 5 _
                    refine lv_istore (lv' := [(6, .int (nI (5 * (S 0 3).toNat))), (0, .ref (md 0)), (1, .int un), (2, .int vn), (3, .int zn), (4, .int tn), (5, .int pn)]) hx hb dX7_addPlanets_100 hl (by decide) rfl (fun ls hl => ?_)
                    refine lv_aload_n hx hb dX7_addPlanets_102 rfl (lv_at hl 1 rfl) ?_
                    refine g_get F hP (C := RX7) (T := TX7) (N := 20) iX7 f13 rfl 14 (by decide) (List.mem_cons_of_mem _ (List.mem_append_left _ (List.mem_of_getElem? (i := 2) rfl))) (fun _ h9 => h9) rfl dX7_addPlanets_103 ?_
                    refine lv_iload hx hb dX7_addPlanets_106 (lv_at hl 0 rfl) ?_
                    refine lv_iload_n hx hb dX7_addPlanets_108 rfl (lv_at hl 2 rfl) ?_
                    refine g_iast F hP hS f9 (vp_in_nI (n := 5 * (S 0 3).toNat + 0) (by omega) (by decide)) dX7_addPlanets_109 (fun H locs hP hS => ?_)
                    obtain ⟨w129, ew129⟩ : ∃ z, z = g_up w1 (md 8) (.inl (G.2.1 0, 20, .inl (upd (Fm 8) (nI (5 * (S 0 3).toNat) : Int32).toNatClampNeg un))) := ⟨_, rfl⟩
                    have hP : g_P A G w129 H := by rw [ew129]; exact hP
                    have f130 : w129 (md 1) = some (.inl (G.2.1 0, 10, .inl (Fm 1))) := by rw [ew129]; exact g_up_f f2 ((fun q => absurd (Hj 1 8 (by decide) (by decide) q) (by decide)))
                    have f131 : w129 (md 2) = some (.inl (G.2.1 0, 10, .inl (Fm 2))) := by rw [ew129]; exact g_up_f f3 ((fun q => absurd (Hj 2 8 (by decide) (by decide) q) (by decide)))
                    have f132 : w129 (md 3) = some (.inl (G.2.1 2, 10, .inl (Fm 3))) := by rw [ew129]; exact g_up_f f4 ((fun q => absurd (Hj 3 8 (by decide) (by decide) q) (by decide)))
                    have f133 : w129 (md 4) = some (.inl (G.2.1 0, 64, .inl (Fm 4))) := by rw [ew129]; exact g_up_f f5 ((fun q => absurd (Hj 4 8 (by decide) (by decide) q) (by decide)))
                    have f134 : w129 (md 5) = some (.inl (G.2.1 2, 16, .inl (Fm 5))) := by rw [ew129]; exact g_up_f f6 ((fun q => absurd (Hj 5 8 (by decide) (by decide) q) (by decide)))
                    have f135 : w129 (md 6) = some (.inl (G.2.1 0, 16, .inl (Fm 6))) := by rw [ew129]; exact g_up_f f7 ((fun q => absurd (Hj 6 8 (by decide) (by decide) q) (by decide)))
                    have f136 : w129 (md 7) = some (.inl (G.2.1 0, 16, .inl (Fm 7))) := by rw [ew129]; exact g_up_f f8 ((fun q => absurd (Hj 7 8 (by decide) (by decide) q) (by decide)))
                    have f137 : w129 (md 9) = some (.inl (G.2.1 1, 10, .inr (.inl (L 0)))) := by rw [ew129]; exact g_up_f f10 ((fun q => absurd (Hj 9 8 (by decide) (by decide) q) (by decide)))
                    have f138 : w129 (md 10) = some (.inl (G.2.1 1, 10, .inr (.inl (L 1)))) := by rw [ew129]; exact g_up_f f11 ((fun q => absurd (Hj 10 8 (by decide) (by decide) q) (by decide)))
                    have f139 : w129 (md 11) = some (.inl (G.2.1 0, 10, .inl (Fm 11))) := by rw [ew129]; exact g_up_f f12 ((fun q => absurd (Hj 11 8 (by decide) (by decide) q) (by decide)))
                    have f140 : w129 (md 0) = some (.inr (8, [.int 0, .int (iL (S 0 0)), .ref (md 1), .ref (md 2), .ref (md 3), .int (iL (S 0 4)), .int (iL (S 0 5)), .int (iL (S 0 1)), .ref (md 4), .ref (md 5), .int (iL (S 0 2)), .ref (md 6), .ref (md 7), .int (iL (S 0 3)), .ref (md 8), .ref (md 9), .ref (md 10), .ref (md 11), .long tp, .long bt])) := by rw [ew129]; exact g_up_f f13 ((fun q => absurd (Hj 0 8 (by decide) (by decide) q) (by decide)))
                    have f141 : w129 (md 8) = some (.inl (G.2.1 0, 20, .inl (upd (Fm 8) (nI (5 * (S 0 3).toNat) : Int32).toNatClampNeg un))) := by rw [ew129]; exact g_up_s _ _ _
                    refine lv_aload_n hx hb dX7_addPlanets_110 rfl (lv_at hl 1 rfl) ?_
                    refine g_get F hP (C := RX7) (T := TX7) (N := 20) iX7 f140 rfl 14 (by decide) (List.mem_cons_of_mem _ (List.mem_append_left _ (List.mem_of_getElem? (i := 2) rfl))) (fun _ h9 => h9) rfl dX7_addPlanets_111 ?_
                    refine lv_iload hx hb dX7_addPlanets_114 (lv_at hl 0 rfl) ?_
                    refine lv_iconst (v := 1) hx hb dX7_addPlanets_116 (by decide) ?_
                    refine lv_iadd hx hb dX7_addPlanets_117 ?_
                    refine lv_topi (fun v142 ev142 => ?_)
                    obtain rfl : v142 = nI (5 * (S 0 3).toNat + 1) := by
                      rw [ev142]
                      exact nI_add _ 1
                    refine lv_iload_n hx hb dX7_addPlanets_118 rfl (lv_at hl 3 rfl) ?_
                    refine g_iast F hP hS f141 (vp_in_nI (n := 5 * (S 0 3).toNat + 1) (by omega) (by decide)) dX7_addPlanets_119 (fun H locs hP hS => ?_)
                    obtain ⟨w143, ew143⟩ : ∃ z, z = g_up w129 (md 8) (.inl (G.2.1 0, 20, .inl (upd (upd (Fm 8) (nI (5 * (S 0 3).toNat) : Int32).toNatClampNeg un) (nI (5 * (S 0 3).toNat + 1) : Int32).toNatClampNeg vn))) := ⟨_, rfl⟩
                    have hP : g_P A G w143 H := by rw [ew143]; exact hP
                    have f144 : w143 (md 1) = some (.inl (G.2.1 0, 10, .inl (Fm 1))) := by rw [ew143]; exact g_up_f f130 ((fun q => absurd (Hj 1 8 (by decide) (by decide) q) (by decide)))
                    have f145 : w143 (md 2) = some (.inl (G.2.1 0, 10, .inl (Fm 2))) := by rw [ew143]; exact g_up_f f131 ((fun q => absurd (Hj 2 8 (by decide) (by decide) q) (by decide)))
                    have f146 : w143 (md 3) = some (.inl (G.2.1 2, 10, .inl (Fm 3))) := by rw [ew143]; exact g_up_f f132 ((fun q => absurd (Hj 3 8 (by decide) (by decide) q) (by decide)))
                    have f147 : w143 (md 4) = some (.inl (G.2.1 0, 64, .inl (Fm 4))) := by rw [ew143]; exact g_up_f f133 ((fun q => absurd (Hj 4 8 (by decide) (by decide) q) (by decide)))
                    have f148 : w143 (md 5) = some (.inl (G.2.1 2, 16, .inl (Fm 5))) := by rw [ew143]; exact g_up_f f134 ((fun q => absurd (Hj 5 8 (by decide) (by decide) q) (by decide)))
                    have f149 : w143 (md 6) = some (.inl (G.2.1 0, 16, .inl (Fm 6))) := by rw [ew143]; exact g_up_f f135 ((fun q => absurd (Hj 6 8 (by decide) (by decide) q) (by decide)))
                    have f150 : w143 (md 7) = some (.inl (G.2.1 0, 16, .inl (Fm 7))) := by rw [ew143]; exact g_up_f f136 ((fun q => absurd (Hj 7 8 (by decide) (by decide) q) (by decide)))
                    have f151 : w143 (md 9) = some (.inl (G.2.1 1, 10, .inr (.inl (L 0)))) := by rw [ew143]; exact g_up_f f137 ((fun q => absurd (Hj 9 8 (by decide) (by decide) q) (by decide)))
                    have f152 : w143 (md 10) = some (.inl (G.2.1 1, 10, .inr (.inl (L 1)))) := by rw [ew143]; exact g_up_f f138 ((fun q => absurd (Hj 10 8 (by decide) (by decide) q) (by decide)))
                    have f153 : w143 (md 11) = some (.inl (G.2.1 0, 10, .inl (Fm 11))) := by rw [ew143]; exact g_up_f f139 ((fun q => absurd (Hj 11 8 (by decide) (by decide) q) (by decide)))
                    have f154 : w143 (md 0) = some (.inr (8, [.int 0, .int (iL (S 0 0)), .ref (md 1), .ref (md 2), .ref (md 3), .int (iL (S 0 4)), .int (iL (S 0 5)), .int (iL (S 0 1)), .ref (md 4), .ref (md 5), .int (iL (S 0 2)), .ref (md 6), .ref (md 7), .int (iL (S 0 3)), .ref (md 8), .ref (md 9), .ref (md 10), .ref (md 11), .long tp, .long bt])) := by rw [ew143]; exact g_up_f f140 ((fun q => absurd (Hj 0 8 (by decide) (by decide) q) (by decide)))
                    have f155 : w143 (md 8) = some (.inl (G.2.1 0, 20, .inl (upd (upd (Fm 8) (nI (5 * (S 0 3).toNat) : Int32).toNatClampNeg un) (nI (5 * (S 0 3).toNat + 1) : Int32).toNatClampNeg vn))) := by rw [ew143]; exact g_up_s _ _ _
                    refine lv_aload_n hx hb dX7_addPlanets_120 rfl (lv_at hl 1 rfl) ?_
                    refine g_get F hP (C := RX7) (T := TX7) (N := 20) iX7 f154 rfl 14 (by decide) (List.mem_cons_of_mem _ (List.mem_append_left _ (List.mem_of_getElem? (i := 2) rfl))) (fun _ h9 => h9) rfl dX7_addPlanets_121 ?_
                    refine lv_iload hx hb dX7_addPlanets_124 (lv_at hl 0 rfl) ?_
                    refine lv_iconst (v := 2) hx hb dX7_addPlanets_126 (by decide) ?_
                    refine lv_iadd hx hb dX7_addPlanets_127 ?_
                    refine lv_topi (fun v156 ev156 => ?_)
                    obtain rfl : v156 = nI (5 * (S 0 3).toNat + 2) := by
                      rw [ev156]
                      exact nI_add _ 2
                    refine lv_iload_n hx hb dX7_addPlanets_128 rfl (lv_at hl 4 rfl) ?_
                    refine g_iast F hP hS f155 (vp_in_nI (n := 5 * (S 0 3).toNat + 2) (by omega) (by decide)) dX7_addPlanets_129 (fun H locs hP hS => ?_)
                    obtain ⟨w157, ew157⟩ : ∃ z, z = g_up w143 (md 8) (.inl (G.2.1 0, 20, .inl (upd (upd (upd (Fm 8) (nI (5 * (S 0 3).toNat) : Int32).toNatClampNeg un) (nI (5 * (S 0 3).toNat + 1) : Int32).toNatClampNeg vn) (nI (5 * (S 0 3).toNat + 2) : Int32).toNatClampNeg zn))) := ⟨_, rfl⟩
                    have hP : g_P A G w157 H := by rw [ew157]; exact hP
                    have f158 : w157 (md 1) = some (.inl (G.2.1 0, 10, .inl (Fm 1))) := by rw [ew157]; exact g_up_f f144 ((fun q => absurd (Hj 1 8 (by decide) (by decide) q) (by decide)))
                    have f159 : w157 (md 2) = some (.inl (G.2.1 0, 10, .inl (Fm 2))) := by rw [ew157]; exact g_up_f f145 ((fun q => absurd (Hj 2 8 (by decide) (by decide) q) (by decide)))
                    have f160 : w157 (md 3) = some (.inl (G.2.1 2, 10, .inl (Fm 3))) := by rw [ew157]; exact g_up_f f146 ((fun q => absurd (Hj 3 8 (by decide) (by decide) q) (by decide)))
                    have f161 : w157 (md 4) = some (.inl (G.2.1 0, 64, .inl (Fm 4))) := by rw [ew157]; exact g_up_f f147 ((fun q => absurd (Hj 4 8 (by decide) (by decide) q) (by decide)))
                    have f162 : w157 (md 5) = some (.inl (G.2.1 2, 16, .inl (Fm 5))) := by rw [ew157]; exact g_up_f f148 ((fun q => absurd (Hj 5 8 (by decide) (by decide) q) (by decide)))
                    have f163 : w157 (md 6) = some (.inl (G.2.1 0, 16, .inl (Fm 6))) := by rw [ew157]; exact g_up_f f149 ((fun q => absurd (Hj 6 8 (by decide) (by decide) q) (by decide)))
                    have f164 : w157 (md 7) = some (.inl (G.2.1 0, 16, .inl (Fm 7))) := by rw [ew157]; exact g_up_f f150 ((fun q => absurd (Hj 7 8 (by decide) (by decide) q) (by decide)))
                    have f165 : w157 (md 9) = some (.inl (G.2.1 1, 10, .inr (.inl (L 0)))) := by rw [ew157]; exact g_up_f f151 ((fun q => absurd (Hj 9 8 (by decide) (by decide) q) (by decide)))
                    have f166 : w157 (md 10) = some (.inl (G.2.1 1, 10, .inr (.inl (L 1)))) := by rw [ew157]; exact g_up_f f152 ((fun q => absurd (Hj 10 8 (by decide) (by decide) q) (by decide)))
                    have f167 : w157 (md 11) = some (.inl (G.2.1 0, 10, .inl (Fm 11))) := by rw [ew157]; exact g_up_f f153 ((fun q => absurd (Hj 11 8 (by decide) (by decide) q) (by decide)))
                    have f168 : w157 (md 0) = some (.inr (8, [.int 0, .int (iL (S 0 0)), .ref (md 1), .ref (md 2), .ref (md 3), .int (iL (S 0 4)), .int (iL (S 0 5)), .int (iL (S 0 1)), .ref (md 4), .ref (md 5), .int (iL (S 0 2)), .ref (md 6), .ref (md 7), .int (iL (S 0 3)), .ref (md 8), .ref (md 9), .ref (md 10), .ref (md 11), .long tp, .long bt])) := by rw [ew157]; exact g_up_f f154 ((fun q => absurd (Hj 0 8 (by decide) (by decide) q) (by decide)))
                    have f169 : w157 (md 8) = some (.inl (G.2.1 0, 20, .inl (upd (upd (upd (Fm 8) (nI (5 * (S 0 3).toNat) : Int32).toNatClampNeg un) (nI (5 * (S 0 3).toNat + 1) : Int32).toNatClampNeg vn) (nI (5 * (S 0 3).toNat + 2) : Int32).toNatClampNeg zn))) := by rw [ew157]; exact g_up_s _ _ _
                    refine lv_aload_n hx hb dX7_addPlanets_130 rfl (lv_at hl 1 rfl) ?_
                    refine g_get F hP (C := RX7) (T := TX7) (N := 20) iX7 f168 rfl 14 (by decide) (List.mem_cons_of_mem _ (List.mem_append_left _ (List.mem_of_getElem? (i := 2) rfl))) (fun _ h9 => h9) rfl dX7_addPlanets_131 ?_
                    refine lv_iload hx hb dX7_addPlanets_134 (lv_at hl 0 rfl) ?_
                    refine lv_iconst (v := 3) hx hb dX7_addPlanets_136 (by decide) ?_
                    refine lv_iadd hx hb dX7_addPlanets_137 ?_
                    refine lv_topi (fun v170 ev170 => ?_)
                    obtain rfl : v170 = nI (5 * (S 0 3).toNat + 3) := by
                      rw [ev170]
                      exact nI_add _ 3
                    refine lv_iload hx hb dX7_addPlanets_138 (lv_at hl 5 rfl) ?_
                    refine g_iast F hP hS f169 (vp_in_nI (n := 5 * (S 0 3).toNat + 3) (by omega) (by decide)) dX7_addPlanets_140 (fun H locs hP hS => ?_)
                    obtain ⟨w171, ew171⟩ : ∃ z, z = g_up w157 (md 8) (.inl (G.2.1 0, 20, .inl (upd (upd (upd (upd (Fm 8) (nI (5 * (S 0 3).toNat) : Int32).toNatClampNeg un) (nI (5 * (S 0 3).toNat + 1) : Int32).toNatClampNeg vn) (nI (5 * (S 0 3).toNat + 2) : Int32).toNatClampNeg zn) (nI (5 * (S 0 3).toNat + 3) : Int32).toNatClampNeg tn))) := ⟨_, rfl⟩
                    have hP : g_P A G w171 H := by rw [ew171]; exact hP
                    have f172 : w171 (md 1) = some (.inl (G.2.1 0, 10, .inl (Fm 1))) := by rw [ew171]; exact g_up_f f158 ((fun q => absurd (Hj 1 8 (by decide) (by decide) q) (by decide)))
                    have f173 : w171 (md 2) = some (.inl (G.2.1 0, 10, .inl (Fm 2))) := by rw [ew171]; exact g_up_f f159 ((fun q => absurd (Hj 2 8 (by decide) (by decide) q) (by decide)))
                    have f174 : w171 (md 3) = some (.inl (G.2.1 2, 10, .inl (Fm 3))) := by rw [ew171]; exact g_up_f f160 ((fun q => absurd (Hj 3 8 (by decide) (by decide) q) (by decide)))
                    have f175 : w171 (md 4) = some (.inl (G.2.1 0, 64, .inl (Fm 4))) := by rw [ew171]; exact g_up_f f161 ((fun q => absurd (Hj 4 8 (by decide) (by decide) q) (by decide)))
                    have f176 : w171 (md 5) = some (.inl (G.2.1 2, 16, .inl (Fm 5))) := by rw [ew171]; exact g_up_f f162 ((fun q => absurd (Hj 5 8 (by decide) (by decide) q) (by decide)))
                    have f177 : w171 (md 6) = some (.inl (G.2.1 0, 16, .inl (Fm 6))) := by rw [ew171]; exact g_up_f f163 ((fun q => absurd (Hj 6 8 (by decide) (by decide) q) (by decide)))
                    have f178 : w171 (md 7) = some (.inl (G.2.1 0, 16, .inl (Fm 7))) := by rw [ew171]; exact g_up_f f164 ((fun q => absurd (Hj 7 8 (by decide) (by decide) q) (by decide)))
                    have f179 : w171 (md 9) = some (.inl (G.2.1 1, 10, .inr (.inl (L 0)))) := by rw [ew171]; exact g_up_f f165 ((fun q => absurd (Hj 9 8 (by decide) (by decide) q) (by decide)))
                    have f180 : w171 (md 10) = some (.inl (G.2.1 1, 10, .inr (.inl (L 1)))) := by rw [ew171]; exact g_up_f f166 ((fun q => absurd (Hj 10 8 (by decide) (by decide) q) (by decide)))
                    have f181 : w171 (md 11) = some (.inl (G.2.1 0, 10, .inl (Fm 11))) := by rw [ew171]; exact g_up_f f167 ((fun q => absurd (Hj 11 8 (by decide) (by decide) q) (by decide)))
                    have f182 : w171 (md 0) = some (.inr (8, [.int 0, .int (iL (S 0 0)), .ref (md 1), .ref (md 2), .ref (md 3), .int (iL (S 0 4)), .int (iL (S 0 5)), .int (iL (S 0 1)), .ref (md 4), .ref (md 5), .int (iL (S 0 2)), .ref (md 6), .ref (md 7), .int (iL (S 0 3)), .ref (md 8), .ref (md 9), .ref (md 10), .ref (md 11), .long tp, .long bt])) := by rw [ew171]; exact g_up_f f168 ((fun q => absurd (Hj 0 8 (by decide) (by decide) q) (by decide)))
                    have f183 : w171 (md 8) = some (.inl (G.2.1 0, 20, .inl (upd (upd (upd (upd (Fm 8) (nI (5 * (S 0 3).toNat) : Int32).toNatClampNeg un) (nI (5 * (S 0 3).toNat + 1) : Int32).toNatClampNeg vn) (nI (5 * (S 0 3).toNat + 2) : Int32).toNatClampNeg zn) (nI (5 * (S 0 3).toNat + 3) : Int32).toNatClampNeg tn))) := by rw [ew171]; exact g_up_s _ _ _
                    refine lv_aload_n hx hb dX7_addPlanets_141 rfl (lv_at hl 1 rfl) ?_
                    refine g_get F hP (C := RX7) (T := TX7) (N := 20) iX7 f182 rfl 14 (by decide) (List.mem_cons_of_mem _ (List.mem_append_left _ (List.mem_of_getElem? (i := 2) rfl))) (fun _ h9 => h9) rfl dX7_addPlanets_142 ?_
                    refine lv_iload hx hb dX7_addPlanets_145 (lv_at hl 0 rfl) ?_
                    refine lv_iconst (v := 4) hx hb dX7_addPlanets_147 (by decide) ?_
                    refine lv_iadd hx hb dX7_addPlanets_148 ?_
                    refine lv_topi (fun v184 ev184 => ?_)
                    obtain rfl : v184 = nI (5 * (S 0 3).toNat + 4) := by
                      rw [ev184]
                      exact nI_add _ 4
                    refine lv_iload hx hb dX7_addPlanets_149 (lv_at hl 5 rfl) ?_
                    refine lv_iconst (v := 2) hx hb dX7_addPlanets_151 (by decide) ?_
                    refine lv_iload hx hb dX7_addPlanets_152 (lv_at hl 6 rfl) ?_
                    refine lv_imul hx hb dX7_addPlanets_154 ?_
                    refine lv_topi (fun v185 ev185 => ?_)
                    obtain rfl : v185 = 2 * pn := by
                      exact ev185
                    refine lv_iadd hx hb dX7_addPlanets_155 ?_
                    refine lv_topi (fun v186 ev186 => ?_)
                    obtain rfl : v186 = tn + 2 * pn := by
                      exact ev186
                    refine g_iast F hP hS f183 (vp_in_nI (n := 5 * (S 0 3).toNat + 4) (by omega) (by decide)) dX7_addPlanets_156 (fun H locs hP hS => ?_)
                    obtain ⟨w187, ew187⟩ : ∃ z, z = g_up w171 (md 8) (.inl (G.2.1 0, 20, .inl (upd (upd (upd (upd (upd (Fm 8) (nI (5 * (S 0 3).toNat) : Int32).toNatClampNeg un) (nI (5 * (S 0 3).toNat + 1) : Int32).toNatClampNeg vn) (nI (5 * (S 0 3).toNat + 2) : Int32).toNatClampNeg zn) (nI (5 * (S 0 3).toNat + 3) : Int32).toNatClampNeg tn) (nI (5 * (S 0 3).toNat + 4) : Int32).toNatClampNeg (tn + 2 * pn)))) := ⟨_, rfl⟩
                    have hP : g_P A G w187 H := by rw [ew187]; exact hP
                    have f188 : w187 (md 1) = some (.inl (G.2.1 0, 10, .inl (Fm 1))) := by rw [ew187]; exact g_up_f f172 ((fun q => absurd (Hj 1 8 (by decide) (by decide) q) (by decide)))
                    have f189 : w187 (md 2) = some (.inl (G.2.1 0, 10, .inl (Fm 2))) := by rw [ew187]; exact g_up_f f173 ((fun q => absurd (Hj 2 8 (by decide) (by decide) q) (by decide)))
                    have f190 : w187 (md 3) = some (.inl (G.2.1 2, 10, .inl (Fm 3))) := by rw [ew187]; exact g_up_f f174 ((fun q => absurd (Hj 3 8 (by decide) (by decide) q) (by decide)))
                    have f191 : w187 (md 4) = some (.inl (G.2.1 0, 64, .inl (Fm 4))) := by rw [ew187]; exact g_up_f f175 ((fun q => absurd (Hj 4 8 (by decide) (by decide) q) (by decide)))
                    have f192 : w187 (md 5) = some (.inl (G.2.1 2, 16, .inl (Fm 5))) := by rw [ew187]; exact g_up_f f176 ((fun q => absurd (Hj 5 8 (by decide) (by decide) q) (by decide)))
                    have f193 : w187 (md 6) = some (.inl (G.2.1 0, 16, .inl (Fm 6))) := by rw [ew187]; exact g_up_f f177 ((fun q => absurd (Hj 6 8 (by decide) (by decide) q) (by decide)))
                    have f194 : w187 (md 7) = some (.inl (G.2.1 0, 16, .inl (Fm 7))) := by rw [ew187]; exact g_up_f f178 ((fun q => absurd (Hj 7 8 (by decide) (by decide) q) (by decide)))
                    have f195 : w187 (md 9) = some (.inl (G.2.1 1, 10, .inr (.inl (L 0)))) := by rw [ew187]; exact g_up_f f179 ((fun q => absurd (Hj 9 8 (by decide) (by decide) q) (by decide)))
                    have f196 : w187 (md 10) = some (.inl (G.2.1 1, 10, .inr (.inl (L 1)))) := by rw [ew187]; exact g_up_f f180 ((fun q => absurd (Hj 10 8 (by decide) (by decide) q) (by decide)))
                    have f197 : w187 (md 11) = some (.inl (G.2.1 0, 10, .inl (Fm 11))) := by rw [ew187]; exact g_up_f f181 ((fun q => absurd (Hj 11 8 (by decide) (by decide) q) (by decide)))
                    have f198 : w187 (md 0) = some (.inr (8, [.int 0, .int (iL (S 0 0)), .ref (md 1), .ref (md 2), .ref (md 3), .int (iL (S 0 4)), .int (iL (S 0 5)), .int (iL (S 0 1)), .ref (md 4), .ref (md 5), .int (iL (S 0 2)), .ref (md 6), .ref (md 7), .int (iL (S 0 3)), .ref (md 8), .ref (md 9), .ref (md 10), .ref (md 11), .long tp, .long bt])) := by rw [ew187]; exact g_up_f f182 ((fun q => absurd (Hj 0 8 (by decide) (by decide) q) (by decide)))
                    have f199 : w187 (md 8) = some (.inl (G.2.1 0, 20, .inl (upd (upd (upd (upd (upd (Fm 8) (nI (5 * (S 0 3).toNat) : Int32).toNatClampNeg un) (nI (5 * (S 0 3).toNat + 1) : Int32).toNatClampNeg vn) (nI (5 * (S 0 3).toNat + 2) : Int32).toNatClampNeg zn) (nI (5 * (S 0 3).toNat + 3) : Int32).toNatClampNeg tn) (nI (5 * (S 0 3).toNat + 4) : Int32).toNatClampNeg (tn + 2 * pn)))) := by rw [ew187]; exact g_up_s _ _ _
                    refine lv_aload_n hx hb dX7_addPlanets_157 rfl (lv_at hl 1 rfl) ?_
                    refine lv_dup hx hb dX7_addPlanets_158 rfl ?_
                    refine g_get F hP (C := RX7) (T := TX7) (N := 20) iX7 f198 rfl 13 (by decide) (List.mem_cons_of_mem _ (List.mem_append_left _ (List.mem_of_getElem? (i := 1) rfl))) (fun _ h9 => h9) rfl dX7_addPlanets_159 ?_
                    refine lv_iconst (v := 1) hx hb dX7_addPlanets_162 (by decide) ?_
                    refine lv_iadd hx hb dX7_addPlanets_163 ?_
                    refine lv_topi (fun v200 ev200 => ?_)
                    obtain rfl : v200 = iL (S 0 3 + 1) := by
                      rw [ev200]
                      exact iL_add _ 1
                    refine g_put F hP hS (C := RX7) (T := TX7) (N := 20) (v := .int (iL (S 0 3 + 1))) (ty := .int) iX7 tyX7 tyX7_ok nmX7 f198 rfl 13 (by decide) (List.mem_cons_of_mem _ (List.mem_append_left _ (List.mem_of_getElem? (i := 1) rfl))) (fun _ h9 => h9) rfl (by decide +kernel) rfl rfl (by show 13 < 20; decide) dX7_addPlanets_164 (fun H locs hP hS => ?_)
                    obtain ⟨w201, ew201⟩ : ∃ z, z = g_up w187 (md 0) (.inr (8, [.int 0, .int (iL (S 0 0)), .ref (md 1), .ref (md 2), .ref (md 3), .int (iL (S 0 4)), .int (iL (S 0 5)), .int (iL (S 0 1)), .ref (md 4), .ref (md 5), .int (iL (S 0 2)), .ref (md 6), .ref (md 7), .int (iL (S 0 3 + 1)), .ref (md 8), .ref (md 9), .ref (md 10), .ref (md 11), .long tp, .long bt])) := ⟨_, rfl⟩
                    have hP : g_P A G w201 H := by rw [ew201]; exact hP
                    have f202 : w201 (md 1) = some (.inl (G.2.1 0, 10, .inl (Fm 1))) := by rw [ew201]; exact g_up_f f188 ((fun q => absurd (Hj 1 0 (by decide) (by decide) q) (by decide)))
                    have f203 : w201 (md 2) = some (.inl (G.2.1 0, 10, .inl (Fm 2))) := by rw [ew201]; exact g_up_f f189 ((fun q => absurd (Hj 2 0 (by decide) (by decide) q) (by decide)))
                    have f204 : w201 (md 3) = some (.inl (G.2.1 2, 10, .inl (Fm 3))) := by rw [ew201]; exact g_up_f f190 ((fun q => absurd (Hj 3 0 (by decide) (by decide) q) (by decide)))
                    have f205 : w201 (md 4) = some (.inl (G.2.1 0, 64, .inl (Fm 4))) := by rw [ew201]; exact g_up_f f191 ((fun q => absurd (Hj 4 0 (by decide) (by decide) q) (by decide)))
                    have f206 : w201 (md 5) = some (.inl (G.2.1 2, 16, .inl (Fm 5))) := by rw [ew201]; exact g_up_f f192 ((fun q => absurd (Hj 5 0 (by decide) (by decide) q) (by decide)))
                    have f207 : w201 (md 6) = some (.inl (G.2.1 0, 16, .inl (Fm 6))) := by rw [ew201]; exact g_up_f f193 ((fun q => absurd (Hj 6 0 (by decide) (by decide) q) (by decide)))
                    have f208 : w201 (md 7) = some (.inl (G.2.1 0, 16, .inl (Fm 7))) := by rw [ew201]; exact g_up_f f194 ((fun q => absurd (Hj 7 0 (by decide) (by decide) q) (by decide)))
                    have f209 : w201 (md 9) = some (.inl (G.2.1 1, 10, .inr (.inl (L 0)))) := by rw [ew201]; exact g_up_f f195 ((fun q => absurd (Hj 9 0 (by decide) (by decide) q) (by decide)))
                    have f210 : w201 (md 10) = some (.inl (G.2.1 1, 10, .inr (.inl (L 1)))) := by rw [ew201]; exact g_up_f f196 ((fun q => absurd (Hj 10 0 (by decide) (by decide) q) (by decide)))
                    have f211 : w201 (md 11) = some (.inl (G.2.1 0, 10, .inl (Fm 11))) := by rw [ew201]; exact g_up_f f197 ((fun q => absurd (Hj 11 0 (by decide) (by decide) q) (by decide)))
                    have f212 : w201 (md 8) = some (.inl (G.2.1 0, 20, .inl (upd (upd (upd (upd (upd (Fm 8) (nI (5 * (S 0 3).toNat) : Int32).toNatClampNeg un) (nI (5 * (S 0 3).toNat + 1) : Int32).toNatClampNeg vn) (nI (5 * (S 0 3).toNat + 2) : Int32).toNatClampNeg zn) (nI (5 * (S 0 3).toNat + 3) : Int32).toNatClampNeg tn) (nI (5 * (S 0 3).toNat + 4) : Int32).toNatClampNeg (tn + 2 * pn)))) := by rw [ew201]; exact g_up_f f199 ((fun q => absurd (Hj 8 0 (by decide) (by decide) q) (by decide)))
                    have f213 : w201 (md 0) = some (.inr (8, [.int 0, .int (iL (S 0 0)), .ref (md 1), .ref (md 2), .ref (md 3), .int (iL (S 0 4)), .int (iL (S 0 5)), .int (iL (S 0 1)), .ref (md 4), .ref (md 5), .int (iL (S 0 2)), .ref (md 6), .ref (md 7), .int (iL (S 0 3 + 1)), .ref (md 8), .ref (md 9), .ref (md 10), .ref (md 11), .long tp, .long bt])) := by rw [ew201]; exact g_up_s _ _ _
                    refine lv_aload_n hx hb dX7_addPlanets_167 rfl (lv_at hl 1 rfl) ?_
                    refine g_get F hP (C := RX7) (T := TX7) (N := 20) iX7 f213 rfl 13 (by decide) (List.mem_cons_of_mem _ (List.mem_append_left _ (List.mem_of_getElem? (i := 1) rfl))) (fun _ h9 => h9) rfl dX7_addPlanets_168 ?_
                    refine lv_iconst (v := 1) hx hb dX7_addPlanets_171 (by decide) ?_
                    refine lv_isub hx hb dX7_addPlanets_172 ?_
                    refine lv_topi (fun v214 ev214 => ?_)
                    obtain rfl : v214 = iL (S 0 3) := by
                      rw [ev214]
                      rw [show (1 : Int32) = iL 1 from rfl, iL_sub]
                      rw [show S 0 3 + 1 - 1 = S 0 3 from by omega]
                    rw [hQ]
                    refine g_iret F hP hS hlocks hr dX7_addPlanets_173 (by first | exact Nat.le_of_ble_eq_true rfl | omega) (by first | exact Nat.le_of_ble_eq_true rfl | omega) ?_
                    have e0 : nxAddPl S un vn zn tn pn 0 3 = S 0 3 + 1 := by unfold nxAddPl; rw [up2_k _ _ _ (by decide), up2_k _ _ _ (by decide), up2_k _ _ _ (by decide), up2_k _ _ _ (by decide), up2_k _ _ _ (by decide), up2_s]
                    have e0' : ∀ i, i ≠ 3 → nxAddPl S un vn zn tn pn 0 i = S 0 i := fun i z => by unfold nxAddPl; rw [up2_k _ _ _ (by decide), up2_k _ _ _ (by decide), up2_k _ _ _ (by decide), up2_k _ _ _ (by decide), up2_k _ _ _ (by decide), up2_i _ _ _ z]
                    have ht9 : tn + 2 * pn = iL (tn.toInt + 2 * pn.toInt) := by
                      conv => lhs; rw [← iL_x tn, ← iL_x pn, show (2 : Int32) = iL 2 from rfl, iL_mul, iL_add]
                    exact Or.inr ⟨(if_pos ⟨yc17, yc36, yc55⟩).trans ((if_pos ⟨⟨c56, c72, c88⟩, yc107, yc126⟩).trans (if_pos (by omega))), rfl, ⟨mFr_tr (mFr_tr (mFr_tr (mFr_tr (mFr_tr (mFr_tr (mFr_tr (mFr_rf _ _) (mFr_se (i := 0) (by decide) ew1)) (mFr_se (i := 8) (by decide) ew129)) (mFr_se (i := 8) (by decide) ew143)) (mFr_se (i := 8) (by decide) ew157)) (mFr_se (i := 8) (by decide) ew171)) (mFr_se (i := 8) (by decide) ew187)) (mFr_se (i := 0) (by decide) ew201), _, _, (up1 Fm 8 (upd (upd (upd (upd (upd (Fm 8) (nI (5 * (S 0 3).toNat) : Int32).toNatClampNeg un) (nI (5 * (S 0 3).toNat + 1) : Int32).toNatClampNeg vn) (nI (5 * (S 0 3).toNat + 2) : Int32).toNatClampNeg zn) (nI (5 * (S 0 3).toNat + 3) : Int32).toNatClampNeg tn) (nI (5 * (S 0 3).toNat + 4) : Int32).toNatClampNeg (tn + 2 * pn))), L, ⟨(by rw [mC_of (by rw [e0' 0 (by decide)]) (by rw [e0' 1 (by decide)]) (by rw [e0' 2 (by decide)]) (by rw [e0]) (by rw [e0' 4 (by decide)]) (by rw [e0' 5 (by decide)])]; exact f213), f202, f203, f204, f205, f206, f207, f208, f212, f209, f210, f211⟩, (modF_addPl (f8 := upd (upd (upd (upd (upd (Fm 8) (nI (5 * (S 0 3).toNat) : Int32).toNatClampNeg un) (nI (5 * (S 0 3).toNat + 1) : Int32).toNatClampNeg vn) (nI (5 * (S 0 3).toNat + 2) : Int32).toNatClampNeg zn) (nI (5 * (S 0 3).toNat + 3) : Int32).toNatClampNeg tn) (nI (5 * (S 0 3).toNat + 4) : Int32).toNatClampNeg (tn + 2 * pn)) Hf Hi ht9 (fun j => by rw [nI_clamp (n := 5 * (S 0 3).toNat) (by omega), nI_clamp (n := 5 * (S 0 3).toNat + 1) (by omega), nI_clamp (n := 5 * (S 0 3).toNat + 2) (by omega), nI_clamp (n := 5 * (S 0 3).toNat + 3) (by omega), nI_clamp (n := 5 * (S 0 3).toNat + 4) (by omega)]; simp only [upd]))⟩⟩
                  · rw [show (4 : Int32) = iL 4 from rfl, iL_eq (by omega) (by omega) (by omega) (by omega)] at c127
                    refine lv_aload_n hx hb dX7_addPlanets_88 rfl (lv_at hl 0 rfl) ?_
                    refine lv_iconst (v := 3) hx hb dX7_addPlanets_89 (by decide) ?_
                    refine g_Vi (As := [.int 3]) (rest := []) F hP hS (k_X7_fail l A G w1 md S _ _ _ Fm L 3 f13) (cwV 1 hts gX7_addPlanets_X7_fail rfl rfl rfl cd_X7_fail ⟨by rw [hR]; exact Nat.le_of_ble_eq_true rfl, by rw [hR]; exact Nat.le_of_ble_eq_true rfl⟩) f13 rfl rfl rfl hl.1 (Nat.le_of_ble_eq_true rfl) dX7_addPlanets_90 ⟨by rw [hR]; exact Nat.le_of_ble_eq_true rfl, by rw [hR]; exact Nat.le_of_ble_eq_true rfl⟩ rfl (fun r215 w216 H locs h217 hP hS => ?_)
                    obtain ⟨er, eww216⟩ := h217
                    rw [er]
                    have f218 : w216 (md 1) = some (.inl (G.2.1 0, 10, .inl (Fm 1))) := by rw [eww216]; exact g_up_f f2 ((fun q => absurd (Hj 1 0 (by decide) (by decide) q) (by decide)))
                    have f219 : w216 (md 2) = some (.inl (G.2.1 0, 10, .inl (Fm 2))) := by rw [eww216]; exact g_up_f f3 ((fun q => absurd (Hj 2 0 (by decide) (by decide) q) (by decide)))
                    have f220 : w216 (md 3) = some (.inl (G.2.1 2, 10, .inl (Fm 3))) := by rw [eww216]; exact g_up_f f4 ((fun q => absurd (Hj 3 0 (by decide) (by decide) q) (by decide)))
                    have f221 : w216 (md 4) = some (.inl (G.2.1 0, 64, .inl (Fm 4))) := by rw [eww216]; exact g_up_f f5 ((fun q => absurd (Hj 4 0 (by decide) (by decide) q) (by decide)))
                    have f222 : w216 (md 5) = some (.inl (G.2.1 2, 16, .inl (Fm 5))) := by rw [eww216]; exact g_up_f f6 ((fun q => absurd (Hj 5 0 (by decide) (by decide) q) (by decide)))
                    have f223 : w216 (md 6) = some (.inl (G.2.1 0, 16, .inl (Fm 6))) := by rw [eww216]; exact g_up_f f7 ((fun q => absurd (Hj 6 0 (by decide) (by decide) q) (by decide)))
                    have f224 : w216 (md 7) = some (.inl (G.2.1 0, 16, .inl (Fm 7))) := by rw [eww216]; exact g_up_f f8 ((fun q => absurd (Hj 7 0 (by decide) (by decide) q) (by decide)))
                    have f225 : w216 (md 8) = some (.inl (G.2.1 0, 20, .inl (Fm 8))) := by rw [eww216]; exact g_up_f f9 ((fun q => absurd (Hj 8 0 (by decide) (by decide) q) (by decide)))
                    have f226 : w216 (md 9) = some (.inl (G.2.1 1, 10, .inr (.inl (L 0)))) := by rw [eww216]; exact g_up_f f10 ((fun q => absurd (Hj 9 0 (by decide) (by decide) q) (by decide)))
                    have f227 : w216 (md 10) = some (.inl (G.2.1 1, 10, .inr (.inl (L 1)))) := by rw [eww216]; exact g_up_f f11 ((fun q => absurd (Hj 10 0 (by decide) (by decide) q) (by decide)))
                    have f228 : w216 (md 11) = some (.inl (G.2.1 0, 10, .inl (Fm 11))) := by rw [eww216]; exact g_up_f f12 ((fun q => absurd (Hj 11 0 (by decide) (by decide) q) (by decide)))
                    have f229 : w216 (md 0) = some (.inr (8, [.int 3, .int (iL (S 0 0)), .ref (md 1), .ref (md 2), .ref (md 3), .int (iL (S 0 4)), .int (iL (S 0 5)), .int (iL (S 0 1)), .ref (md 4), .ref (md 5), .int (iL (S 0 2)), .ref (md 6), .ref (md 7), .int (iL (S 0 3)), .ref (md 8), .ref (md 9), .ref (md 10), .ref (md 11), .long tp, .long bt])) := by rw [eww216]; exact g_up_s _ _ _
                    rw [hQ]
                    refine g_iret F hP hS hlocks hr dX7_addPlanets_93 (by first | exact Nat.le_of_ble_eq_true rfl | omega) (by first | exact Nat.le_of_ble_eq_true rfl | omega) ?_
                    exact mRes_no (c := 3) ((if_pos ⟨yc17, yc36, yc55⟩).trans ((if_pos ⟨⟨c56, c72, c88⟩, yc107, yc126⟩).trans (if_neg (by omega)))) (by decide) ⟨mFr_tr (mFr_tr (mFr_rf _ _) (mFr_se (i := 0) (by decide) ew1)) (mFr_se (i := 0) (by decide) eww216), _, _, Fm, L, ⟨f229, f218, f219, f220, f221, f222, f223, f224, f225, f226, f227, f228⟩, Hf⟩
                · have yc126 := of_decide_eq_false (g_b0.mp c126)
                  have kc126 : (8 ≤ pn ∧ pn ≤ 100) ↔ inQ pn 8 100 := by rw [Int32.le_iff_toInt_le, Int32.le_iff_toInt_le]; exact Iff.rfl
                  rw [kc126] at yc126
                  refine lv_aload_n hx hb dX7_addPlanets_74 rfl (lv_at hl 0 rfl) ?_
                  refine lv_iconst (v := 2) hx hb dX7_addPlanets_75 (by decide) ?_
                  refine g_Vi (As := [.int 2]) (rest := []) F hP hS (k_X7_fail l A G w1 md S _ _ _ Fm L 2 f13) (cwV 1 hts gX7_addPlanets_X7_fail rfl rfl rfl cd_X7_fail ⟨by rw [hR]; exact Nat.le_of_ble_eq_true rfl, by rw [hR]; exact Nat.le_of_ble_eq_true rfl⟩) f13 rfl rfl rfl hl.1 (Nat.le_of_ble_eq_true rfl) dX7_addPlanets_76 ⟨by rw [hR]; exact Nat.le_of_ble_eq_true rfl, by rw [hR]; exact Nat.le_of_ble_eq_true rfl⟩ rfl (fun r230 w231 H locs h232 hP hS => ?_)
                  obtain ⟨er, eww231⟩ := h232
                  rw [er]
                  have f233 : w231 (md 1) = some (.inl (G.2.1 0, 10, .inl (Fm 1))) := by rw [eww231]; exact g_up_f f2 ((fun q => absurd (Hj 1 0 (by decide) (by decide) q) (by decide)))
                  have f234 : w231 (md 2) = some (.inl (G.2.1 0, 10, .inl (Fm 2))) := by rw [eww231]; exact g_up_f f3 ((fun q => absurd (Hj 2 0 (by decide) (by decide) q) (by decide)))
                  have f235 : w231 (md 3) = some (.inl (G.2.1 2, 10, .inl (Fm 3))) := by rw [eww231]; exact g_up_f f4 ((fun q => absurd (Hj 3 0 (by decide) (by decide) q) (by decide)))
                  have f236 : w231 (md 4) = some (.inl (G.2.1 0, 64, .inl (Fm 4))) := by rw [eww231]; exact g_up_f f5 ((fun q => absurd (Hj 4 0 (by decide) (by decide) q) (by decide)))
                  have f237 : w231 (md 5) = some (.inl (G.2.1 2, 16, .inl (Fm 5))) := by rw [eww231]; exact g_up_f f6 ((fun q => absurd (Hj 5 0 (by decide) (by decide) q) (by decide)))
                  have f238 : w231 (md 6) = some (.inl (G.2.1 0, 16, .inl (Fm 6))) := by rw [eww231]; exact g_up_f f7 ((fun q => absurd (Hj 6 0 (by decide) (by decide) q) (by decide)))
                  have f239 : w231 (md 7) = some (.inl (G.2.1 0, 16, .inl (Fm 7))) := by rw [eww231]; exact g_up_f f8 ((fun q => absurd (Hj 7 0 (by decide) (by decide) q) (by decide)))
                  have f240 : w231 (md 8) = some (.inl (G.2.1 0, 20, .inl (Fm 8))) := by rw [eww231]; exact g_up_f f9 ((fun q => absurd (Hj 8 0 (by decide) (by decide) q) (by decide)))
                  have f241 : w231 (md 9) = some (.inl (G.2.1 1, 10, .inr (.inl (L 0)))) := by rw [eww231]; exact g_up_f f10 ((fun q => absurd (Hj 9 0 (by decide) (by decide) q) (by decide)))
                  have f242 : w231 (md 10) = some (.inl (G.2.1 1, 10, .inr (.inl (L 1)))) := by rw [eww231]; exact g_up_f f11 ((fun q => absurd (Hj 10 0 (by decide) (by decide) q) (by decide)))
                  have f243 : w231 (md 11) = some (.inl (G.2.1 0, 10, .inl (Fm 11))) := by rw [eww231]; exact g_up_f f12 ((fun q => absurd (Hj 11 0 (by decide) (by decide) q) (by decide)))
                  have f244 : w231 (md 0) = some (.inr (8, [.int 2, .int (iL (S 0 0)), .ref (md 1), .ref (md 2), .ref (md 3), .int (iL (S 0 4)), .int (iL (S 0 5)), .int (iL (S 0 1)), .ref (md 4), .ref (md 5), .int (iL (S 0 2)), .ref (md 6), .ref (md 7), .int (iL (S 0 3)), .ref (md 8), .ref (md 9), .ref (md 10), .ref (md 11), .long tp, .long bt])) := by rw [eww231]; exact g_up_s _ _ _
                  rw [hQ]
                  refine g_iret F hP hS hlocks hr dX7_addPlanets_79 (by first | exact Nat.le_of_ble_eq_true rfl | omega) (by first | exact Nat.le_of_ble_eq_true rfl | omega) ?_
                  exact mRes_no (c := 2) ((if_pos ⟨yc17, yc36, yc55⟩).trans (if_neg (fun q => yc126 q.2.2))) (by decide) ⟨mFr_tr (mFr_tr (mFr_rf _ _) (mFr_se (i := 0) (by decide) ew1)) (mFr_se (i := 0) (by decide) eww231), _, _, Fm, L, ⟨f244, f233, f234, f235, f236, f237, f238, f239, f240, f241, f242, f243⟩, Hf⟩
      · have yc55 := of_decide_eq_false (g_b0.mp c55)
        refine lv_aload_n hx hb dX7_addPlanets_29 rfl (lv_at hl 0 rfl) ?_
        refine lv_iconst (v := 1) hx hb dX7_addPlanets_30 (by decide) ?_
        refine g_Vi (As := [.int 1]) (rest := []) F hP hS (k_X7_fail l A G w1 md S _ _ _ Fm L 1 f13) (cwV 1 hts gX7_addPlanets_X7_fail rfl rfl rfl cd_X7_fail ⟨by rw [hR]; exact Nat.le_of_ble_eq_true rfl, by rw [hR]; exact Nat.le_of_ble_eq_true rfl⟩) f13 rfl rfl rfl hl.1 (Nat.le_of_ble_eq_true rfl) dX7_addPlanets_31 ⟨by rw [hR]; exact Nat.le_of_ble_eq_true rfl, by rw [hR]; exact Nat.le_of_ble_eq_true rfl⟩ rfl (fun r245 w246 H locs h247 hP hS => ?_)
        obtain ⟨er, eww246⟩ := h247
        rw [er]
        have f248 : w246 (md 1) = some (.inl (G.2.1 0, 10, .inl (Fm 1))) := by rw [eww246]; exact g_up_f f2 ((fun q => absurd (Hj 1 0 (by decide) (by decide) q) (by decide)))
        have f249 : w246 (md 2) = some (.inl (G.2.1 0, 10, .inl (Fm 2))) := by rw [eww246]; exact g_up_f f3 ((fun q => absurd (Hj 2 0 (by decide) (by decide) q) (by decide)))
        have f250 : w246 (md 3) = some (.inl (G.2.1 2, 10, .inl (Fm 3))) := by rw [eww246]; exact g_up_f f4 ((fun q => absurd (Hj 3 0 (by decide) (by decide) q) (by decide)))
        have f251 : w246 (md 4) = some (.inl (G.2.1 0, 64, .inl (Fm 4))) := by rw [eww246]; exact g_up_f f5 ((fun q => absurd (Hj 4 0 (by decide) (by decide) q) (by decide)))
        have f252 : w246 (md 5) = some (.inl (G.2.1 2, 16, .inl (Fm 5))) := by rw [eww246]; exact g_up_f f6 ((fun q => absurd (Hj 5 0 (by decide) (by decide) q) (by decide)))
        have f253 : w246 (md 6) = some (.inl (G.2.1 0, 16, .inl (Fm 6))) := by rw [eww246]; exact g_up_f f7 ((fun q => absurd (Hj 6 0 (by decide) (by decide) q) (by decide)))
        have f254 : w246 (md 7) = some (.inl (G.2.1 0, 16, .inl (Fm 7))) := by rw [eww246]; exact g_up_f f8 ((fun q => absurd (Hj 7 0 (by decide) (by decide) q) (by decide)))
        have f255 : w246 (md 8) = some (.inl (G.2.1 0, 20, .inl (Fm 8))) := by rw [eww246]; exact g_up_f f9 ((fun q => absurd (Hj 8 0 (by decide) (by decide) q) (by decide)))
        have f256 : w246 (md 9) = some (.inl (G.2.1 1, 10, .inr (.inl (L 0)))) := by rw [eww246]; exact g_up_f f10 ((fun q => absurd (Hj 9 0 (by decide) (by decide) q) (by decide)))
        have f257 : w246 (md 10) = some (.inl (G.2.1 1, 10, .inr (.inl (L 1)))) := by rw [eww246]; exact g_up_f f11 ((fun q => absurd (Hj 10 0 (by decide) (by decide) q) (by decide)))
        have f258 : w246 (md 11) = some (.inl (G.2.1 0, 10, .inl (Fm 11))) := by rw [eww246]; exact g_up_f f12 ((fun q => absurd (Hj 11 0 (by decide) (by decide) q) (by decide)))
        have f259 : w246 (md 0) = some (.inr (8, [.int 1, .int (iL (S 0 0)), .ref (md 1), .ref (md 2), .ref (md 3), .int (iL (S 0 4)), .int (iL (S 0 5)), .int (iL (S 0 1)), .ref (md 4), .ref (md 5), .int (iL (S 0 2)), .ref (md 6), .ref (md 7), .int (iL (S 0 3)), .ref (md 8), .ref (md 9), .ref (md 10), .ref (md 11), .long tp, .long bt])) := by rw [eww246]; exact g_up_s _ _ _
        rw [hQ]
        refine g_iret F hP hS hlocks hr dX7_addPlanets_34 (by first | exact Nat.le_of_ble_eq_true rfl | omega) (by first | exact Nat.le_of_ble_eq_true rfl | omega) ?_
        exact mRes_no (c := 1) (if_neg (fun q => yc55 q.2.2)) (by decide) ⟨mFr_tr (mFr_tr (mFr_rf _ _) (mFr_se (i := 0) (by decide) ew1)) (mFr_se (i := 0) (by decide) eww246), _, _, Fm, L, ⟨f259, f248, f249, f250, f251, f252, f253, f254, f255, f256, f257, f258⟩, Hf⟩
