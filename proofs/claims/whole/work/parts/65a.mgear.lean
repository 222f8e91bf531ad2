set_option maxHeartbeats 4000000 in
set_option maxRecDepth 100000 in
theorem k_X7_addGear (l : Launch) (A : Nat → Prop) (G : g_C) (w : g_W) (md : Nat → Nat) (S : Sg) (th : Int32) (tp bt : Int64) (Fm : Nat → Nat → Int32) (L : Nat → Nat → Int64) (pn te mo1 la : Int32) (ri : Bool) (Hm : modW G w md S th tp bt Fm L) (Hj : modI md) (Hf : modF S Fm) (Hi : invS S) : mI l yX7_addGear wsX7_addGear ({ frames := 2, cells := 0, slots := 0, locals := 43 } : Room) [.ref (md 0), .int pn, .int te, .int mo1, .int la, .int (g_b ri)] A G w (fun r w' => mRes G md w w' S (nxAddGear S pn te mo1 la ri) (cdAddGear S pn te mo1 la) (r = vlAddGear S)) 0 0 := by
  refine g_ofI (cc := cX7_addGear) (maxL := 6) (ret := (some .int)) (own := RX7) (by decide) rfl rfl (Nat.le_of_ble_eq_true rfl) ?_
  intro p e R s m args below meth c Q ls hR F hP hS hlocks hr hnm0 hQ hl
  obtain ⟨⟨hx, hb, hml, hown, hts⟩, hK, hZ, hA⟩ := id F
  generalize hH0 : s.heap = H at hP ⊢
  have hS : va_S A s.heap H [] := by rw [← hH0]; exact va_S.rf
  generalize ([] : List Loc) = locs at hS ⊢
  have hl : lv_has ls 6 [(0, .ref (md 0)), (1, .int pn), (2, .int te), (3, .int mo1), (4, .int la), (5, .int (g_b ri))] := hl
  have iX7 : ∀ w ∈ u_ws RX7 TX7 20, w ∈ wsX7_addGear := fun w h => List.mem_cons_of_mem _ (List.mem_append_right _ (h))
  obtain ⟨hx0, hy1, hy2, hy3, hy4, hy5, hy6, hy7, hy8, hy9, hy10, hy11⟩ := id Hm
  have hi := Hi.1
  refine lv_aload_n hx hb dX7_addGear_0 rfl (lv_at hl 0 rfl) ?_
  refine lv_iconst (v := 0) hx hb dX7_addGear_1 (by decide) ?_
  refine g_put F hP hS (C := RX7) (T := TX7) (N := 20) (v := .int 0) (ty := .int) iX7 tyX7 tyX7_ok nmX7 hx0 rfl 0 (by decide) (List.mem_cons_of_mem _ (List.mem_append_left _ (List.mem_of_getElem? (i := 0) rfl))) (fun _ h9 => h9) rfl (by decide +kernel) rfl rfl (by show 0 < 20; decide) dX7_addGear_2 (fun H locs hP hS => ?_)
  obtain ⟨w1, ew1⟩ : ∃ z, z = g_up w (md 0) (.inr (8, [.int 0, .int (iL (S 0 0)), .ref (md 1), .ref (md 2), .ref (md 3), .int (iL (S 0 4)), .int (iL (S 0 5)), .int (iL (S 0 1)), .ref (md 4), .ref (md 5), .int (iL (S 0 2)), .ref (md 6), .ref (md 7), .int (iL (S 0 3)), .ref (md 8), .ref (md 9), .ref (md 10), .ref (md 11), .long tp, .long bt])) := ⟨_, rfl⟩
  have hP : g_P A G w1 H := by rw [ew1]; exact hP
  have f2 : w1 (md 1) = some (.inl (G.2.1 0, 10, .inl (Fm 1))) := by rw [ew1]; exact g_up_f hy1 ((fun q => absurd (Hj 1 0 (by decide) (by decide) q) (by decide)))
  have f3 : w1 (md 2) = some (.inl (G.2.1 0, 10, .inl (Fm 2))) := by rw [ew1]; exact g_up_f hy2 ((fun q => absurd (Hj 2 0 (by decide) (by decide) q) (by decide)))
  have f4 : w1 (md 3) = some (.inl (G.2.1 2, 10, .inl (Fm 3))) := by rw [ew1]; exact g_up_f hy3 ((fun q => absurd (Hj 3 0 (by decide) (by decide) q) (by decide)))
  have f5 : w1 (md 4) = some (.inl (G.2.1 0, 64, .inl (Fm 4))) := by rw [ew1]; exact g_up_f hy4 ((fun q => absurd (Hj 4 0 (by decide) (by decide) q) (by decide)))
  have f6 : w1 (md 5) = some (.inl (G.2.1 2, 16, .inl (Fm 5))) := by rw [ew1]; exact g_up_f hy5 ((fun q => absurd (Hj 5 0 (by decide) (by decide) q) (by decide)))
  have f7 : w1 (md 6) = some (.inl (G.2.1 0, 16, .inl (Fm 6))) := by rw [ew1]; exact g_up_f hy6 ((fun q => absurd (Hj 6 0 (by decide) (by decide) q) (by decide)))
  have f8 : w1 (md 7) = some (.inl (G.2.1 0, 16, .inl (Fm 7))) := by rw [ew1]; exact g_up_f hy7 ((fun q => absurd (Hj 7 0 (by decide) (by decide) q) (by decide)))
  have f9 : w1 (md 8) = some (.inl (G.2.1 0, 20, .inl (Fm 8))) := by rw [ew1]; exact g_up_f hy8 ((fun q => absurd (Hj 8 0 (by decide) (by decide) q) (by decide)))
  have f10 : w1 (md 9) = some (.inl (G.2.1 1, 10, .inr (.inl (L 0)))) := by rw [ew1]; exact g_up_f hy9 ((fun q => absurd (Hj 9 0 (by decide) (by decide) q) (by decide)))
  have f11 : w1 (md 10) = some (.inl (G.2.1 1, 10, .inr (.inl (L 1)))) := by rw [ew1]; exact g_up_f hy10 ((fun q => absurd (Hj 10 0 (by decide) (by decide) q) (by decide)))
  have f12 : w1 (md 11) = some (.inl (G.2.1 0, 10, .inl (Fm 11))) := by rw [ew1]; exact g_up_f hy11 ((fun q => absurd (Hj 11 0 (by decide) (by decide) q) (by decide)))
  have f13 : w1 (md 0) = some (.inr (8, [.int 0, .int (iL (S 0 0)), .ref (md 1), .ref (md 2), .ref (md 3), .int (iL (S 0 4)), .int (iL (S 0 5)), .int (iL (S 0 1)), .ref (md 4), .ref (md 5), .int (iL (S 0 2)), .ref (md 6), .ref (md 7), .int (iL (S 0 3)), .ref (md 8), .ref (md 9), .ref (md 10), .ref (md 11), .long tp, .long bt])) := by rw [ew1]; exact g_up_s _ _ _
  refine lv_aload_n hx hb dX7_addGear_5 rfl (lv_at hl 0 rfl) ?_
  refine lv_iload_n hx hb dX7_addGear_6 rfl (lv_at hl 1 rfl) ?_
  refine g_Vi (As := [.int pn]) (rest := []) F hP hS (k_X7_isShaft l A G w1 md S _ _ _ Fm L pn f13 Hf Hi) (cwV 1 hts gX7_addGear_X7_isShaft rfl rfl rfl cd_X7_isShaft ⟨by rw [hR]; exact Nat.le_of_ble_eq_true rfl, by rw [hR]; exact Nat.le_of_ble_eq_true rfl⟩) f13 rfl rfl rfl hl.1 (Nat.le_of_ble_eq_true rfl) dX7_addGear_7 ⟨by rw [hR]; exact Nat.le_of_ble_eq_true rfl, by rw [hR]; exact Nat.le_of_ble_eq_true rfl⟩ rfl (fun r14 w15 H locs h16 hP hS => ?_)
  have hr14 := h16.1
  rw [h16.2] at hP
  rw [hr14]
  refine lv_if_ne (tgt := 19) hx hb dX7_addGear_10 (by decide) (fun c17 => ?_) (fun c17 => ?_)
  · have yc17 := of_decide_eq_true (g_b1.mp c17)
    refine lv_iload_n hx hb dX7_addGear_19 rfl (lv_at hl 2 rfl) ?_
    refine lv_bipush (v := 8) hx hb dX7_addGear_20 (by decide) ?_
    refine lv_sipush (v := 200) hx hb dX7_addGear_22 (by decide) ?_
    refine g_Si (As := [.int te, .int 8, .int 200]) (rest := []) F hP hS (k_X7_isIn l A G w1 te 8 200) (va_cwS 3 hts gX7_addGear_X7_isIn rfl rfl rfl cd_X7_isIn ⟨by rw [hR]; exact Nat.le_of_ble_eq_true rfl, by rw [hR]; exact Nat.le_of_ble_eq_true rfl⟩) rfl hl.1 (Nat.le_of_ble_eq_true rfl) dX7_addGear_25 ⟨by rw [hR]; exact Nat.le_of_ble_eq_true rfl, by rw [hR]; exact Nat.le_of_ble_eq_true rfl⟩ rfl (fun r18 w19 H locs h20 hP hS => ?_)
    have hr18 := h20.1
    rw [h20.2] at hP
    rw [hr18]
    refine lv_if_eq (tgt := 51) hx hb dX7_addGear_28 (by decide) (fun c21 => ?_) (fun c21 => ?_)
    · have yc21 := of_decide_eq_false (g_b0.mp c21)
      have kc21 : (8 ≤ te ∧ te ≤ 200) ↔ inQ te 8 200 := by rw [Int32.le_iff_toInt_le, Int32.le_iff_toInt_le]; exact Iff.rfl
      rw [kc21] at yc21
      refine lv_aload_n hx hb dX7_addGear_51 rfl (lv_at hl 0 rfl) ?_
      refine lv_iconst (v := 2) hx hb dX7_addGear_52 (by decide) ?_
      refine g_Vi (As := [.int 2]) (rest := []) F hP hS (k_X7_fail l A G w1 md S _ _ _ Fm L 2 f13) (cwV 1 hts gX7_addGear_X7_fail rfl rfl rfl cd_X7_fail ⟨by rw [hR]; exact Nat.le_of_ble_eq_true rfl, by rw [hR]; exact Nat.le_of_ble_eq_true rfl⟩) f13 rfl rfl rfl hl.1 (Nat.le_of_ble_eq_true rfl) dX7_addGear_53 ⟨by rw [hR]; exact Nat.le_of_ble_eq_true rfl, by rw [hR]; exact Nat.le_of_ble_eq_true rfl⟩ rfl (fun r22 w23 H locs h24 hP hS => ?_)
      obtain ⟨er, eww23⟩ := h24
      rw [er]
      have f25 : w23 (md 1) = some (.inl (G.2.1 0, 10, .inl (Fm 1))) := by rw [eww23]; exact g_up_f f2 ((fun q => absurd (Hj 1 0 (by decide) (by decide) q) (by decide)))
      have f26 : w23 (md 2) = some (.inl (G.2.1 0, 10, .inl (Fm 2))) := by rw [eww23]; exact g_up_f f3 ((fun q => absurd (Hj 2 0 (by decide) (by decide) q) (by decide)))
      have f27 : w23 (md 3) = some (.inl (G.2.1 2, 10, .inl (Fm 3))) := by rw [eww23]; exact g_up_f f4 ((fun q => absurd (Hj 3 0 (by decide) (by decide) q) (by decide)))
      have f28 : w23 (md 4) = some (.inl (G.2.1 0, 64, .inl (Fm 4))) := by rw [eww23]; exact g_up_f f5 ((fun q => absurd (Hj 4 0 (by decide) (by decide) q) (by decide)))
      have f29 : w23 (md 5) = some (.inl (G.2.1 2, 16, .inl (Fm 5))) := by rw [eww23]; exact g_up_f f6 ((fun q => absurd (Hj 5 0 (by decide) (by decide) q) (by decide)))
      have f30 : w23 (md 6) = some (.inl (G.2.1 0, 16, .inl (Fm 6))) := by rw [eww23]; exact g_up_f f7 ((fun q => absurd (Hj 6 0 (by decide) (by decide) q) (by decide)))
      have f31 : w23 (md 7) = some (.inl (G.2.1 0, 16, .inl (Fm 7))) := by rw [eww23]; exact g_up_f f8 ((fun q => absurd (Hj 7 0 (by decide) (by decide) q) (by decide)))
      have f32 : w23 (md 8) = some (.inl (G.2.1 0, 20, .inl (Fm 8))) := by rw [eww23]; exact g_up_f f9 ((fun q => absurd (Hj 8 0 (by decide) (by decide) q) (by decide)))
      have f33 : w23 (md 9) = some (.inl (G.2.1 1, 10, .inr (.inl (L 0)))) := by rw [eww23]; exact g_up_f f10 ((fun q => absurd (Hj 9 0 (by decide) (by decide) q) (by decide)))
      have f34 : w23 (md 10) = some (.inl (G.2.1 1, 10, .inr (.inl (L 1)))) := by rw [eww23]; exact g_up_f f11 ((fun q => absurd (Hj 10 0 (by decide) (by decide) q) (by decide)))
      have f35 : w23 (md 11) = some (.inl (G.2.1 0, 10, .inl (Fm 11))) := by rw [eww23]; exact g_up_f f12 ((fun q => absurd (Hj 11 0 (by decide) (by decide) q) (by decide)))
      have f36 : w23 (md 0) = some (.inr (8, [.int 2, .int (iL (S 0 0)), .ref (md 1), .ref (md 2), .ref (md 3), .int (iL (S 0 4)), .int (iL (S 0 5)), .int (iL (S 0 1)), .ref (md 4), .ref (md 5), .int (iL (S 0 2)), .ref (md 6), .ref (md 7), .int (iL (S 0 3)), .ref (md 8), .ref (md 9), .ref (md 10), .ref (md 11), .long tp, .long bt])) := by rw [eww23]; exact g_up_s _ _ _
      rw [hQ]
      refine g_iret F hP hS hlocks hr dX7_addGear_56 (by first | exact Nat.le_of_ble_eq_true rfl | omega) (by first | exact Nat.le_of_ble_eq_true rfl | omega) ?_
      exact mRes_no (c := 2) ((if_pos yc17).trans (if_neg (fun q => yc21 q.1))) (by decide) ⟨mFr_tr (mFr_tr (mFr_rf _ _) (mFr_se (i := 0) (by decide) ew1)) (mFr_se (i := 0) (by decide) eww23), _, _, Fm, L, ⟨f36, f25, f26, f27, f28, f29, f30, f31, f32, f33, f34, f35⟩, Hf⟩
    · have yc21 := of_decide_eq_true (g_b1.mp c21)
      have kc21 : (8 ≤ te ∧ te ≤ 200) ↔ inQ te 8 200 := by rw [Int32.le_iff_toInt_le, Int32.le_iff_toInt_le]; exact Iff.rfl
      rw [kc21] at yc21
      refine lv_iload_n hx hb dX7_addGear_31 rfl (lv_at hl 3 rfl) ?_
      refine lv_iconst (v := 1) hx hb dX7_addGear_32 (by decide) ?_
      refine lv_bipush (v := 10) hx hb dX7_addGear_33 (by decide) ?_
      refine g_Si (As := [.int mo1, .int 1, .int 10]) (rest := []) F hP hS (k_X7_isIn l A G w1 mo1 1 10) (va_cwS 3 hts gX7_addGear_X7_isIn rfl rfl rfl cd_X7_isIn ⟨by rw [hR]; exact Nat.le_of_ble_eq_true rfl, by rw [hR]; exact Nat.le_of_ble_eq_true rfl⟩) rfl hl.1 (Nat.le_of_ble_eq_true rfl) dX7_addGear_35 ⟨by rw [hR]; exact Nat.le_of_ble_eq_true rfl, by rw [hR]; exact Nat.le_of_ble_eq_true rfl⟩ rfl (fun r37 w38 H locs h39 hP hS => ?_)
      have hr37 := h39.1
      rw [h39.2] at hP
      rw [hr37]
      refine lv_if_eq (tgt := 51) hx hb dX7_addGear_38 (by decide) (fun c40 => ?_) (fun c40 => ?_)
      · have yc40 := of_decide_eq_false (g_b0.mp c40)
        have kc40 : (1 ≤ mo1 ∧ mo1 ≤ 10) ↔ inQ mo1 1 10 := by rw [Int32.le_iff_toInt_le, Int32.le_iff_toInt_le]; exact Iff.rfl
        rw [kc40] at yc40
        refine lv_aload_n hx hb dX7_addGear_51 rfl (lv_at hl 0 rfl) ?_
        refine lv_iconst (v := 2) hx hb dX7_addGear_52 (by decide) ?_
        refine g_Vi (As := [.int 2]) (rest := []) F hP hS (k_X7_fail l A G w1 md S _ _ _ Fm L 2 f13) (cwV 1 hts gX7_addGear_X7_fail rfl rfl rfl cd_X7_fail ⟨by rw [hR]; exact Nat.le_of_ble_eq_true rfl, by rw [hR]; exact Nat.le_of_ble_eq_true rfl⟩) f13 rfl rfl rfl hl.1 (Nat.le_of_ble_eq_true rfl) dX7_addGear_53 ⟨by rw [hR]; exact Nat.le_of_ble_eq_true rfl, by rw [hR]; exact Nat.le_of_ble_eq_true rfl⟩ rfl (fun r41 w42 H locs h43 hP hS => ?_)
        obtain ⟨er, eww42⟩ := h43
        rw [er]
        have f44 : w42 (md 1) = some (.inl (G.2.1 0, 10, .inl (Fm 1))) := by rw [eww42]; exact g_up_f f2 ((fun q => absurd (Hj 1 0 (by decide) (by decide) q) (by decide)))
        have f45 : w42 (md 2) = some (.inl (G.2.1 0, 10, .inl (Fm 2))) := by rw [eww42]; exact g_up_f f3 ((fun q => absurd (Hj 2 0 (by decide) (by decide) q) (by decide)))
        have f46 : w42 (md 3) = some (.inl (G.2.1 2, 10, .inl (Fm 3))) := by rw [eww42]; exact g_up_f f4 ((fun q => absurd (Hj 3 0 (by decide) (by decide) q) (by decide)))
        have f47 : w42 (md 4) = some (.inl (G.2.1 0, 64, .inl (Fm 4))) := by rw [eww42]; exact g_up_f f5 ((fun q => absurd (Hj 4 0 (by decide) (by decide) q) (by decide)))
        have f48 : w42 (md 5) = some (.inl (G.2.1 2, 16, .inl (Fm 5))) := by rw [eww42]; exact g_up_f f6 ((fun q => absurd (Hj 5 0 (by decide) (by decide) q) (by decide)))
        have f49 : w42 (md 6) = some (.inl (G.2.1 0, 16, .inl (Fm 6))) := by rw [eww42]; exact g_up_f f7 ((fun q => absurd (Hj 6 0 (by decide) (by decide) q) (by decide)))
        have f50 : w42 (md 7) = some (.inl (G.2.1 0, 16, .inl (Fm 7))) := by rw [eww42]; exact g_up_f f8 ((fun q => absurd (Hj 7 0 (by decide) (by decide) q) (by decide)))
        have f51 : w42 (md 8) = some (.inl (G.2.1 0, 20, .inl (Fm 8))) := by rw [eww42]; exact g_up_f f9 ((fun q => absurd (Hj 8 0 (by decide) (by decide) q) (by decide)))
        have f52 : w42 (md 9) = some (.inl (G.2.1 1, 10, .inr (.inl (L 0)))) := by rw [eww42]; exact g_up_f f10 ((fun q => absurd (Hj 9 0 (by decide) (by decide) q) (by decide)))
        have f53 : w42 (md 10) = some (.inl (G.2.1 1, 10, .inr (.inl (L 1)))) := by rw [eww42]; exact g_up_f f11 ((fun q => absurd (Hj 10 0 (by decide) (by decide) q) (by decide)))
        have f54 : w42 (md 11) = some (.inl (G.2.1 0, 10, .inl (Fm 11))) := by rw [eww42]; exact g_up_f f12 ((fun q => absurd (Hj 11 0 (by decide) (by decide) q) (by decide)))
        have f55 : w42 (md 0) = some (.inr (8, [.int 2, .int (iL (S 0 0)), .ref (md 1), .ref (md 2), .ref (md 3), .int (iL (S 0 4)), .int (iL (S 0 5)), .int (iL (S 0 1)), .ref (md 4), .ref (md 5), .int (iL (S 0 2)), .ref (md 6), .ref (md 7), .int (iL (S 0 3)), .ref (md 8), .ref (md 9), .ref (md 10), .ref (md 11), .long tp, .long bt])) := by rw [eww42]; exact g_up_s _ _ _
        rw [hQ]
        refine g_iret F hP hS hlocks hr dX7_addGear_56 (by first | exact Nat.le_of_ble_eq_true rfl | omega) (by first | exact Nat.le_of_ble_eq_true rfl | omega) ?_
        exact mRes_no (c := 2) ((if_pos yc17).trans (if_neg (fun q => yc40 q.2.1))) (by decide) ⟨mFr_tr (mFr_tr (mFr_rf _ _) (mFr_se (i := 0) (by decide) ew1)) (mFr_se (i := 0) (by decide) eww42), _, _, Fm, L, ⟨f55, f44, f45, f46, f47, f48, f49, f50, f51, f52, f53, f54⟩, Hf⟩
      · have yc40 := of_decide_eq_true (g_b1.mp c40)
        have kc40 : (1 ≤ mo1 ∧ mo1 ≤ 10) ↔ inQ mo1 1 10 := by rw [Int32.le_iff_toInt_le, Int32.le_iff_toInt_le]; exact Iff.rfl
        rw [kc40] at yc40
        refine lv_iload hx hb dX7_addGear_41 (lv_at hl 4 rfl) ?_
        refine lv_iconst (v := 0) hx hb dX7_addGear_43 (by decide) ?_
        refine lv_iconst (v := 5) hx hb dX7_addGear_44 (by decide) ?_
        refine g_Si (As := [.int la, .int 0, .int 5]) (rest := []) F hP hS (k_X7_isIn l A G w1 la 0 5) (va_cwS 3 hts gX7_addGear_X7_isIn rfl rfl rfl cd_X7_isIn ⟨by rw [hR]; exact Nat.le_of_ble_eq_true rfl, by rw [hR]; exact Nat.le_of_ble_eq_true rfl⟩) rfl hl.1 (Nat.le_of_ble_eq_true rfl) dX7_addGear_45 ⟨by rw [hR]; exact Nat.le_of_ble_eq_true rfl, by rw [hR]; exact Nat.le_of_ble_eq_true rfl⟩ rfl (fun r56 w57 H locs h58 hP hS => ?_)
        have hr56 := h58.1
        rw [h58.2] at hP
        rw [hr56]
        refine lv_if_ne (tgt := 57) hx hb dX7_addGear_48 (by decide) (fun c59 => ?_) (fun c59 => ?_)
        · have yc59 := of_decide_eq_true (g_b1.mp c59)
          have kc59 : (0 ≤ la ∧ la ≤ 5) ↔ inQ la 0 5 := by rw [Int32.le_iff_toInt_le, Int32.le_iff_toInt_le]; exact Iff.rfl
          rw [kc59] at yc59
          refine lv_aload_n hx hb dX7_addGear_57 rfl (lv_at hl 0 rfl) ?_
          refine g_get F hP (C := RX7) (T := TX7) (N := 20) iX7 f13 rfl 7 (by decide) (List.mem_cons_of_mem _ (List.mem_append_left _ (List.mem_of_getElem? (i := 1) rfl))) (fun _ h9 => h9) rfl dX7_addGear_58 ?_
          refine lv_bipush (v := 16) hx hb dX7_addGear_61 (by decide) ?_
          refine lv_icmp_ne (tgt := 72) hx hb dX7_addGear_63 (by decide) (fun c60 => ?_) (fun c60 => ?_)
          · rw [show (16 : Int32) = iL 16 from rfl, iL_eq (by omega) (by omega) (by omega) (by omega)] at c60
            refine lv_aload_n hx hb dX7_addGear_72 rfl (lv_at hl 0 rfl) ?_
            refine g_get F hP (C := RX7) (T := TX7) (N := 20) iX7 f13 rfl 8 (by decide) (List.mem_cons_of_mem _ (List.mem_append_left _ (List.mem_of_getElem? (i := 2) rfl))) (fun _ h9 => h9) rfl dX7_addGear_73 ?_
            refine lv_iconst (v := 4) hx hb dX7_addGear_76 (by decide) ?_
            refine lv_aload_n hx hb dX7_addGear_77 rfl (lv_at hl 0 rfl) ?_
            refine g_get F hP (C := RX7) (T := TX7) (N := 20) iX7 f13 rfl 7 (by decide) (List.mem_cons_of_mem _ (List.mem_append_left _ (List.mem_of_getElem? (i := 1) rfl))) (fun _ h9 => h9) rfl dX7_addGear_78 ?_
            refine lv_imul hx hb dX7_addGear_81 ?_
            refine lv_topi (fun v61 ev61 => ?_)
            obtain rfl : v61 = nI (4 * (S 0 1).toNat) := by
              rw [ev61]
              rw [iL_nn (by omega)]
              exact nI_mul 4 _
            refine lv_iload_n hx hb dX7_addGear_82 rfl (lv_at hl 1 rfl) ?_
            refine g_iast F hP hS f5 (vp_in_nI (n := 4 * (S 0 1).toNat + 0) (by omega) (by decide)) dX7_addGear_83 (fun H locs hP hS => ?_)
            obtain ⟨w62, ew62⟩ : ∃ z, z = g_up w1 (md 4) (.inl (G.2.1 0, 64, .inl (upd (Fm 4) (nI (4 * (S 0 1).toNat) : Int32).toNatClampNeg pn))) := ⟨_, rfl⟩
            have hP : g_P A G w62 H := by rw [ew62]; exact hP
            have f63 : w62 (md 1) = some (.inl (G.2.1 0, 10, .inl (Fm 1))) := by rw [ew62]; exact g_up_f f2 ((fun q => absurd (Hj 1 4 (by decide) (by decide) q) (by decide)))
            have f64 : w62 (md 2) = some (.inl (G.2.1 0, 10, .inl (Fm 2))) := by rw [ew62]; exact g_up_f f3 ((fun q => absurd (Hj 2 4 (by decide) (by decide) q) (by decide)))
            have f65 : w62 (md 3) = some (.inl (G.2.1 2, 10, .inl (Fm 3))) := by rw [ew62]; exact g_up_f f4 ((fun q => absurd (Hj 3 4 (by decide) (by decide) q) (by decide)))
            have f66 : w62 (md 5) = some (.inl (G.2.1 2, 16, .inl (Fm 5))) := by rw [ew62]; exact g_up_f f6 ((fun q => absurd (Hj 5 4 (by decide) (by decide) q) (by decide)))
            have f67 : w62 (md 6) = some (.inl (G.2.1 0, 16, .inl (Fm 6))) := by rw [ew62]; exact g_up_f f7 ((fun q => absurd (Hj 6 4 (by decide) (by decide) q) (by decide)))
            have f68 : w62 (md 7) = some (.inl (G.2.1 0, 16, .inl (Fm 7))) := by rw [ew62]; exact g_up_f f8 ((fun q => absurd (Hj 7 4 (by decide) (by decide) q) (by decide)))
            have f69 : w62 (md 8) = some (.inl (G.2.1 0, 20, .inl (Fm 8))) := by rw [ew62]; exact g_up_f f9 ((fun q => absurd (Hj 8 4 (by decide) (by decide) q) (by decide)))
            have f70 : w62 (md 9) = some (.inl (G.2.1 1, 10, .inr (.inl (L 0)))) := by rw [ew62]; exact g_up_f f10 ((fun q => absurd (Hj 9 4 (by decide) (by decide) q) (by decide)))
            have f71 : w62 (md 10) = some (.inl (G.2.1 1, 10, .inr (.inl (L 1)))) := by rw [ew62]; exact g_up_f f11 ((fun q => absurd (Hj 10 4 (by decide) (by decide) q) (by decide)))
            have f72 : w62 (md 11) = some (.inl (G.2.1 0, 10, .inl (Fm 11))) := by rw [ew62]; exact g_up_f f12 ((fun q => absurd (Hj 11 4 (by decide) (by decide) q) (by decide)))
            have f73 : w62 (md 0) = some (.inr (8, [.int 0, .int (iL (S 0 0)), .ref (md 1), .ref (md 2), .ref (md 3), .int (iL (S 0 4)), .int (iL (S 0 5)), .int (iL (S 0 1)), .ref (md 4), .ref (md 5), .int (iL (S 0 2)), .ref (md 6), .ref (md 7), .int (iL (S 0 3)), .ref (md 8), .ref (md 9), .ref (md 10), .ref (md 11), .long tp, .long bt])) := by rw [ew62]; exact g_up_f f13 ((fun q => absurd (Hj 0 4 (by decide) (by decide) q) (by decide)))
            have f74 : w62 (md 4) = some (.inl (G.2.1 0, 64, .inl (upd (Fm 4) (nI (4 * (S 0 1).toNat) : Int32).toNatClampNeg pn))) := by rw [ew62]; exact g_up_s _ _ _
            refine lv_aload_n hx hb dX7_addGear_84 rfl (lv_at hl 0 rfl) ?_
            refine g_get F hP (C := RX7) (T := TX7) (N := 20) iX7 f73 rfl 8 (by decide) (List.mem_cons_of_mem _ (List.mem_append_left _ (List.mem_of_getElem? (i := 2) rfl))) (fun _ h9 => h9) rfl dX7_addGear_85 ?_
            refine lv_iconst (v := 4) hx hb dX7_addGear_88 (by decide) ?_
            refine lv_aload_n hx hb dX7_addGear_89 rfl (lv_at hl 0 rfl) ?_
            refine g_get F hP (C := RX7) (T := TX7) (N := 20) iX7 f73 rfl 7 (by decide) (List.mem_cons_of_mem _ (List.mem_append_left _ (List.mem_of_getElem? (i := 1) rfl))) (fun _ h9 => h9) rfl dX7_addGear_90 ?_
            refine lv_imul hx hb dX7_addGear_93 ?_
            refine lv_topi (fun v75 ev75 => ?_)
            obtain rfl : v75 = nI (4 * (S 0 1).toNat) := by
              rw [ev75]
              rw [iL_nn (by omega)]
              exact nI_mul 4 _
            refine lv_iconst (v := 1) hx hb dX7_addGear_94 (by decide) ?_
            refine lv_iadd hx hb dX7_addGear_95 ?_
            refine lv_topi (fun v76 ev76 => ?_)
            obtain rfl : v76 = nI (4 * (S 0 1).toNat + 1) := by
              rw [ev76]
              exact nI_add _ 1
            refine lv_iload_n hx hb dX7_addGear_96 rfl (lv_at hl 2 rfl) ?_
            refine g_iast F hP hS f74 (vp_in_nI (n := 4 * (S 0 1).toNat + 1) (by omega) (by decide)) dX7_addGear_97 (fun H locs hP hS => ?_)
            obtain ⟨w77, ew77⟩ : ∃ z, z = g_up w62 (md 4) (.inl (G.2.1 0, 64, .inl (upd (upd (Fm 4) (nI (4 * (S 0 1).toNat) : Int32).toNatClampNeg pn) (nI (4 * (S 0 1).toNat + 1) : Int32).toNatClampNeg te))) := ⟨_, rfl⟩
            have hP : g_P A G w77 H := by rw [ew77]; exact hP
            have f78 : w77 (md 1) = some (.inl (G.2.1 0, 10, .inl (Fm 1))) := by rw [ew77]; exact g_up_f f63 ((fun q => absurd (Hj 1 4 (by decide) (by decide) q) (by decide)))
            have f79 : w77 (md 2) = some (.inl (G.2.1 0, 10, .inl (Fm 2))) := by rw [ew77]; exact g_up_f f64 ((fun q => absurd (Hj 2 4 (by decide) (by decide) q) (by decide)))
            have f80 : w77 (md 3) = some (.inl (G.2.1 2, 10, .inl (Fm 3))) := by rw [ew77]; exact g_up_f f65 ((fun q => absurd (Hj 3 4 (by decide) (by decide) q) (by decide)))
            have f81 : w77 (md 5) = some (.inl (G.2.1 2, 16, .inl (Fm 5))) := by rw [ew77]; exact g_up_f f66 ((fun q => absurd (Hj 5 4 (by decide) (by decide) q) (by decide)))
            have f82 : w77 (md 6) = some (.inl (G.2.1 0, 16, .inl (Fm 6))) := by rw [ew77]; exact g_up_f f67 ((fun q => absurd (Hj 6 4 (by decide) (by decide) q) (by decide)))
            have f83 : w77 (md 7) = some (.inl (G.2.1 0, 16, .inl (Fm 7))) := by rw [ew77]; exact g_up_f f68 ((fun q => absurd (Hj 7 4 (by decide) (by decide) q) (by decide)))
            have f84 : w77 (md 8) = some (.inl (G.2.1 0, 20, .inl (Fm 8))) := by rw [ew77]; exact g_up_f f69 ((fun q => absurd (Hj 8 4 (by decide) (by decide) q) (by decide)))
            have f85 : w77 (md 9) = some (.inl (G.2.1 1, 10, .inr (.inl (L 0)))) := by rw [ew77]; exact g_up_f f70 ((fun q => absurd (Hj 9 4 (by decide) (by decide) q) (by decide)))
            have f86 : w77 (md 10) = some (.inl (G.2.1 1, 10, .inr (.inl (L 1)))) := by rw [ew77]; exact g_up_f f71 ((fun q => absurd (Hj 10 4 (by decide) (by decide) q) (by decide)))
            have f87 : w77 (md 11) = some (.inl (G.2.1 0, 10, .inl (Fm 11))) := by rw [ew77]; exact g_up_f f72 ((fun q => absurd (Hj 11 4 (by decide) (by decide) q) (by decide)))
            have f88 : w77 (md 0) = some (.inr (8, [.int 0, .int (iL (S 0 0)), .ref (md 1), .ref (md 2), .ref (md 3), .int (iL (S 0 4)), .int (iL (S 0 5)), .int (iL (S 0 1)), .ref (md 4), .ref (md 5), .int (iL (S 0 2)), .ref (md 6), .ref (md 7), .int (iL (S 0 3)), .ref (md 8), .ref (md 9), .ref (md 10), .ref (md 11), .long tp, .long bt])) := by rw [ew77]; exact g_up_f f73 ((fun q => absurd (Hj 0 4 (by decide) (by decide) q) (by decide)))
            have f89 : w77 (md 4) = some (.inl (G.2.1 0, 64, .inl (upd (upd (Fm 4) (nI (4 * (S 0 1).toNat) : Int32).toNatClampNeg pn) (nI (4 * (S 0 1).toNat + 1) : Int32).toNatClampNeg te))) := by rw [ew77]; exact g_up_s _ _ _
            refine lv_aload_n hx hb dX7_addGear_98 rfl (lv_at hl 0 rfl) ?_
            refine g_get F hP (C := RX7) (T := TX7) (N := 20) iX7 f88 rfl 8 (by decide) (List.mem_cons_of_mem _ (List.mem_append_left _ (List.mem_of_getElem? (i := 2) rfl))) (fun _ h9 => h9) rfl dX7_addGear_99 ?_
            refine lv_iconst (v := 4) hx hb dX7_addGear_102 (by decide) ?_
            refine lv_aload_n hx hb dX7_addGear_103 rfl (lv_at hl 0 rfl) ?_
            refine g_get F hP (C := RX7) (T := TX7) (N := 20) iX7 f88 rfl 7 (by decide) (List.mem_cons_of_mem _ (List.mem_append_left _ (List.mem_of_getElem? (i := 1) rfl))) (fun _ h9 => h9) rfl dX7_addGear_104 ?_
            refine lv_imul hx hb dX7_addGear_107 ?_
            refine lv_topi (fun v90 ev90 => ?_)
            obtain rfl : v90 = nI (4 * (S 0 1).toNat) := by
              rw [ev90]
              rw [iL_nn (by omega)]
              exact nI_mul 4 _
            refine lv_iconst (v := 2) hx hb dX7_addGear_108 (by decide) ?_
            refine lv_iadd hx hb dX7_addGear_109 ?_
            refine lv_topi (fun v91 ev91 => ?_)
            obtain rfl : v91 = nI (4 * (S 0 1).toNat + 2) := by
              rw [ev91]
              exact nI_add _ 2
            refine lv_iload_n hx hb dX7_addGear_110 rfl (lv_at hl 3 rfl) ?_
            refine g_iast F hP hS f89 (vp_in_nI (n := 4 * (S 0 1).toNat + 2) (by omega) (by decide)) dX7_addGear_111 (fun H locs hP hS => ?_)
            obtain ⟨w92, ew92⟩ : ∃ z, z = g_up w77 (md 4) (.inl (G.2.1 0, 64, .inl (upd (upd (upd (Fm 4) (nI (4 * (S 0 1).toNat) : Int32).toNatClampNeg pn) (nI (4 * (S 0 1).toNat + 1) : Int32).toNatClampNeg te) (nI (4 * (S 0 1).toNat + 2) : Int32).toNatClampNeg mo1))) := ⟨_, rfl⟩
            have hP : g_P A G w92 H := by rw [ew92]; exact hP
            have f93 : w92 (md 1) = some (.inl (G.2.1 0, 10, .inl (Fm 1))) := by rw [ew92]; exact g_up_f f78 ((fun q => absurd (Hj 1 4 (by decide) (by decide) q) (by decide)))
            have f94 : w92 (md 2) = some (.inl (G.2.1 0, 10, .inl (Fm 2))) := by rw [ew92]; exact g_up_f f79 ((fun q => absurd (Hj 2 4 (by decide) (by decide) q) (by decide)))
            have f95 : w92 (md 3) = some (.inl (G.2.1 2, 10, .inl (Fm 3))) := by rw [ew92]; exact g_up_f f80 ((fun q => absurd (Hj 3 4 (by decide) (by decide) q) (by decide)))
            have f96 : w92 (md 5) = some (.inl (G.2.1 2, 16, .inl (Fm 5))) := by rw [ew92]; exact g_up_f f81 ((fun q => absurd (Hj 5 4 (by decide) (by decide) q) (by decide)))
            have f97 : w92 (md 6) = some (.inl (G.2.1 0, 16, .inl (Fm 6))) := by rw [ew92]; exact g_up_f f82 ((fun q => absurd (Hj 6 4 (by decide) (by decide) q) (by decide)))
            have f98 : w92 (md 7) = some (.inl (G.2.1 0, 16, .inl (Fm 7))) := by rw [ew92]; exact g_up_f f83 ((fun q => absurd (Hj 7 4 (by decide) (by decide) q) (by decide)))
            have f99 : w92 (md 8) = some (.inl (G.2.1 0, 20, .inl (Fm 8))) := by rw [ew92]; exact g_up_f f84 ((fun q => absurd (Hj 8 4 (by decide) (by decide) q) (by decide)))
            have f100 : w92 (md 9) = some (.inl (G.2.1 1, 10, .inr (.inl (L 0)))) := by rw [ew92]; exact g_up_f f85 ((fun q => absurd (Hj 9 4 (by decide) (by decide) q) (by decide)))
            have f101 : w92 (md 10) = some (.inl (G.2.1 1, 10, .inr (.inl (L 1)))) := by rw [ew92]; exact g_up_f f86 ((fun q => absurd (Hj 10 4 (by decide) (by decide) q) (by decide)))
            have f102 : w92 (md 11) = some (.inl (G.2.1 0, 10, .inl (Fm 11))) := by rw [ew92]; exact g_up_f f87 ((fun q => absurd (Hj 11 4 (by decide) (by decide) q) (by decide)))
            have f103 : w92 (md 0) = some (.inr (8, [.int 0, .int (iL (S 0 0)), .ref (md 1), .ref (md 2), .ref (md 3), .int (iL (S 0 4)), .int (iL (S 0 5)), .int (iL (S 0 1)), .ref (md 4), .ref (md 5), .int (iL (S 0 2)), .ref (md 6), .ref (md 7), .int (iL (S 0 3)), .ref (md 8), .ref (md 9), .ref (md 10), .ref (md 11), .long tp, .long bt])) := by rw [ew92]; exact g_up_f f88 ((fun q => absurd (Hj 0 4 (by decide) (by decide) q) (by decide)))
            have f104 : w92 (md 4) = some (.inl (G.2.1 0, 64, .inl (upd (upd (upd (Fm 4) (nI (4 * (S 0 1).toNat) : Int32).toNatClampNeg pn) (nI (4 * (S 0 1).toNat + 1) : Int32).toNatClampNeg te) (nI (4 * (S 0 1).toNat + 2) : Int32).toNatClampNeg mo1))) := by rw [ew92]; exact g_up_s _ _ _
            refine lv_aload_n hx hb dX7_addGear_112 rfl (lv_at hl 0 rfl) ?_
            refine g_get F hP (C := RX7) (T := TX7) (N := 20) iX7 f103 rfl 8 (by decide) (List.mem_cons_of_mem _ (List.mem_append_left _ (List.mem_of_getElem? (i := 2) rfl))) (fun _ h9 => h9) rfl dX7_addGear_113 ?_
            refine lv_iconst (v := 4) hx hb dX7_addGear_116 (by decide) ?_
            refine lv_aload_n hx hb dX7_addGear_117 rfl (lv_at hl 0 rfl) ?_
            refine g_get F hP (C := RX7) (T := TX7) (N := 20) iX7 f103 rfl 7 (by decide) (List.mem_cons_of_mem _ (List.mem_append_left _ (List.mem_of_getElem? (i := 1) rfl))) (fun _ h9 => h9) rfl dX7_addGear_118 ?_
            refine lv_imul hx hb dX7_addGear_121 ?_
            refine lv_topi (fun v105 ev105 => ?_)
            obtain rfl : v105 = nI (4 * (S 0 1).toNat) := by
              rw [ev105]
              rw [iL_nn (by omega)]
              exact nI_mul 4 _
            refine lv_iconst (v := 3) hx hb dX7_addGear_122 (by decide) ?_
            refine lv_iadd hx hb dX7_addGear_123 ?_
            refine lv_topi (fun v106 ev106 => ?_)
            obtain rfl : v106 = nI (4 * (S 0 1).toNat + 3) := by
              rw [ev106]
              exact nI_add _ 3
            refine lv_iload hx hb dX7_addGear_124 (lv_at hl 4 rfl) ?_
            refine g_iast F hP hS f104 (vp_in_nI (n := 4 * (S 0 1).toNat + 3) (by omega) (by decide)) dX7_addGear_126 (fun H locs hP hS => ?_)
            obtain ⟨w107, ew107⟩ : ∃ z, z = g_up w92 (md 4) (.inl (G.2.1 0, 64, .inl (upd (upd (upd (upd (Fm 4) (nI (4 * (S 0 1).toNat) : Int32).toNatClampNeg pn) (nI (4 * (S 0 1).toNat + 1) : Int32).toNatClampNeg te) (nI (4 * (S 0 1).toNat + 2) : Int32).toNatClampNeg mo1) (nI (4 * (S 0 1).toNat + 3) : Int32).toNatClampNeg la))) := ⟨_, rfl⟩
            have hP : g_P A G w107 H := by rw [ew107]; exact hP
            have f108 : w107 (md 1) = some (.inl (G.2.1 0, 10, .inl (Fm 1))) := by rw [ew107]; exact g_up_f f93 ((fun q => absurd (Hj 1 4 (by decide) (by decide) q) (by decide)))
            have f109 : w107 (md 2) = some (.inl (G.2.1 0, 10, .inl (Fm 2))) := by rw [ew107]; exact g_up_f f94 ((fun q => absurd (Hj 2 4 (by decide) (by decide) q) (by decide)))
            have f110 : w107 (md 3) = some (.inl (G.2.1 2, 10, .inl (Fm 3))) := by rw [ew107]; exact g_up_f f95 ((fun q => absurd (Hj 3 4 (by decide) (by decide) q) (by decide)))
            have f111 : w107 (md 5) = some (.inl (G.2.1 2, 16, .inl (Fm 5))) := by rw [ew107]; exact g_up_f f96 ((fun q => absurd (Hj 5 4 (by decide) (by decide) q) (by decide)))
            have f112 : w107 (md 6) = some (.inl (G.2.1 0, 16, .inl (Fm 6))) := by rw [ew107]; exact g_up_f f97 ((fun q => absurd (Hj 6 4 (by decide) (by decide) q) (by decide)))
            have f113 : w107 (md 7) = some (.inl (G.2.1 0, 16, .inl (Fm 7))) := by rw [ew107]; exact g_up_f f98 ((fun q => absurd (Hj 7 4 (by decide) (by decide) q) (by decide)))
            have f114 : w107 (md 8) = some (.inl (G.2.1 0, 20, .inl (Fm 8))) := by rw [ew107]; exact g_up_f f99 ((fun q => absurd (Hj 8 4 (by decide) (by decide) q) (by decide)))
            have f115 : w107 (md 9) = some (.inl (G.2.1 1, 10, .inr (.inl (L 0)))) := by rw [ew107]; exact g_up_f f100 ((fun q => absurd (Hj 9 4 (by decide) (by decide) q) (by decide)))
            have f116 : w107 (md 10) = some (.inl (G.2.1 1, 10, .inr (.inl (L 1)))) := by rw [ew107]; exact g_up_f f101 ((fun q => absurd (Hj 10 4 (by decide) (by decide) q) (by decide)))
            have f117 : w107 (md 11) = some (.inl (G.2.1 0, 10, .inl (Fm 11))) := by rw [ew107]; exact g_up_f f102 ((fun q => absurd (Hj 11 4 (by decide) (by decide) q) (by decide)))
            have f118 : w107 (md 0) = some (.inr (8, [.int 0, .int (iL (S 0 0)), .ref (md 1), .ref (md 2), .ref (md 3), .int (iL (S 0 4)), .int (iL (S 0 5)), .int (iL (S 0 1)), .ref (md 4), .ref (md 5), .int (iL (S 0 2)), .ref (md 6), .ref (md 7), .int (iL (S 0 3)), .ref (md 8), .ref (md 9), .ref (md 10), .ref (md 11), .long tp, .long bt])) := by rw [ew107]; exact g_up_f f103 ((fun q => absurd (Hj 0 4 (by decide) (by decide) q) (by decide)))
            have f119 : w107 (md 4) = some (.inl (G.2.1 0, 64, .inl (upd (upd (upd (upd (Fm 4) (nI (4 * (S 0 1).toNat) : Int32).toNatClampNeg pn) (nI (4 * (S 0 1).toNat + 1) : Int32).toNatClampNeg te) (nI (4 * (S 0 1).toNat + 2) : Int32).toNatClampNeg mo1) (nI (4 * (S 0 1).toNat + 3) : Int32).toNatClampNeg la))) := by rw [ew107]; exact g_up_s _ _ _
            refine lv_aload_n hx hb dX7_addGear_127 rfl (lv_at hl 0 rfl) ?_
            refine g_get F hP (C := RX7) (T := TX7) (N := 20) iX7 f118 rfl 9 (by decide) (List.mem_cons_of_mem _ (List.mem_append_left _ (List.mem_of_getElem? (i := 3) rfl))) (fun _ h9 => h9) rfl dX7_addGear_128 ?_
            refine lv_aload_n hx hb dX7_addGear_131 rfl (lv_at hl 0 rfl) ?_
            refine g_get F hP (C := RX7) (T := TX7) (N := 20) iX7 f118 rfl 7 (by decide) (List.mem_cons_of_mem _ (List.mem_append_left _ (List.mem_of_getElem? (i := 1) rfl))) (fun _ h9 => h9) rfl dX7_addGear_132 ?_
            refine lv_iload hx hb dX7_addGear_135 (lv_at hl 5 rfl) ?_
            refine g_zast F hP hS f111 (vp_iL (by omega) (by omega) (by decide)) (g_nb8 _) dX7_addGear_137 (fun H locs hP hS => ?_)
            obtain ⟨w120, ew120⟩ : ∃ z, z = g_up w107 (md 5) (.inl (G.2.1 2, 16, .inl (upd (Fm 5) (iL (S 0 1) : Int32).toNatClampNeg (g_b ri)))) := ⟨_, rfl⟩
            have hP : g_P A G w120 H := by rw [ew120]; exact hP
            have f121 : w120 (md 1) = some (.inl (G.2.1 0, 10, .inl (Fm 1))) := by rw [ew120]; exact g_up_f f108 ((fun q => absurd (Hj 1 5 (by decide) (by decide) q) (by decide)))
            have f122 : w120 (md 2) = some (.inl (G.2.1 0, 10, .inl (Fm 2))) := by rw [ew120]; exact g_up_f f109 ((fun q => absurd (Hj 2 5 (by decide) (by decide) q) (by decide)))
            have f123 : w120 (md 3) = some (.inl (G.2.1 2, 10, .inl (Fm 3))) := by rw [ew120]; exact g_up_f f110 ((fun q => absurd (Hj 3 5 (by decide) (by decide) q) (by decide)))
            have f124 : w120 (md 6) = some (.inl (G.2.1 0, 16, .inl (Fm 6))) := by rw [ew120]; exact g_up_f f112 ((fun q => absurd (Hj 6 5 (by decide) (by decide) q) (by decide)))
            have f125 : w120 (md 7) = some (.inl (G.2.1 0, 16, .inl (Fm 7))) := by rw [ew120]; exact g_up_f f113 ((fun q => absurd (Hj 7 5 (by decide) (by decide) q) (by decide)))
            have f126 : w120 (md 8) = some (.inl (G.2.1 0, 20, .inl (Fm 8))) := by rw [ew120]; exact g_up_f f114 ((fun q => absurd (Hj 8 5 (by decide) (by decide) q) (by decide)))
            have f127 : w120 (md 9) = some (.inl (G.2.1 1, 10, .inr (.inl (L 0)))) := by rw [ew120]; exact g_up_f f115 ((fun q => absurd (Hj 9 5 (by decide) (by decide) q) (by decide)))
            have f128 : w120 (md 10) = some (.inl (G.2.1 1, 10, .inr (.inl (L 1)))) := by rw [ew120]; exact g_up_f f116 ((fun q => absurd (Hj 10 5 (by decide) (by decide) q) (by decide)))
            have f129 : w120 (md 11) = some (.inl (G.2.1 0, 10, .inl (Fm 11))) := by rw [ew120]; exact g_up_f f117 ((fun q => absurd (Hj 11 5 (by decide) (by decide) q) (by decide)))
            have f130 : w120 (md 0) = some (.inr (8, [.int 0, .int (iL (S 0 0)), .ref (md 1), .ref (md 2), .ref (md 3), .int (iL (S 0 4)), .int (iL (S 0 5)), .int (iL (S 0 1)), .ref (md 4), .ref (md 5), .int (iL (S 0 2)), .ref (md 6), .ref (md 7), .int (iL (S 0 3)), .ref (md 8), .ref (md 9), .ref (md 10), .ref (md 11), .long tp, .long bt])) := by rw [ew120]; exact g_up_f f118 ((fun q => absurd (Hj 0 5 (by decide) (by decide) q) (by decide)))
            have f131 : w120 (md 4) = some (.inl (G.2.1 0, 64, .inl (upd (upd (upd (upd (Fm 4) (nI (4 * (S 0 1).toNat) : Int32).toNatClampNeg pn) (nI (4 * (S 0 1).toNat + 1) : Int32).toNatClampNeg te) (nI (4 * (S 0 1).toNat + 2) : Int32).toNatClampNeg mo1) (nI (4 * (S 0 1).toNat + 3) : Int32).toNatClampNeg la))) := by rw [ew120]; exact g_up_f f119 ((fun q => absurd (Hj 4 5 (by decide) (by decide) q) (by decide)))
            have f132 : w120 (md 5) = some (.inl (G.2.1 2, 16, .inl (upd (Fm 5) (iL (S 0 1) : Int32).toNatClampNeg (g_b ri)))) := by rw [ew120]; exact g_up_s _ _ _
            refine lv_aload_n hx hb dX7_addGear_138 rfl (lv_at hl 0 rfl) ?_
            refine lv_dup hx hb dX7_addGear_139 rfl ?_
            refine g_get F hP (C := RX7) (T := TX7) (N := 20) iX7 f130 rfl 7 (by decide) (List.mem_cons_of_mem _ (List.mem_append_left _ (List.mem_of_getElem? (i := 1) rfl))) (fun _ h9 => h9) rfl dX7_addGear_140 ?_
            refine lv_iconst (v := 1) hx hb dX7_addGear_143 (by decide) ?_
            refine lv_iadd hx hb dX7_addGear_144 ?_
            refine lv_topi (fun v133 ev133 => ?_)
            obtain rfl : v133 = iL (S 0 1 + 1) := by
              rw [ev133]
              exact iL_add _ 1
            refine g_put F hP hS (C := RX7) (T := TX7) (N := 20) (v := .int (iL (S 0 1 + 1))) (ty := .int) iX7 tyX7 tyX7_ok nmX7 f130 rfl 7 (by decide) (List.mem_cons_of_mem _ (List.mem_append_left _ (List.mem_of_getElem? (i := 1) rfl))) (fun _ h9 => h9) rfl (by decide +kernel) rfl rfl (by show 7 < 20; decide) dX7_addGear_145 (fun H locs hP hS => ?_)
            obtain ⟨w134, ew134⟩ : ∃ z, z = g_up w120 (md 0) (.inr (8, [.int 0, .int (iL (S 0 0)), .ref (md 1), .ref (md 2), .ref (md 3), .int (iL (S 0 4)), .int (iL (S 0 5)), .int (iL (S 0 1 + 1)), .ref (md 4), .ref (md 5), .int (iL (S 0 2)), .ref (md 6), .ref (md 7), .int (iL (S 0 3)), .ref (md 8), .ref (md 9), .ref (md 10), .ref (md 11), .long tp, .long bt])) := ⟨_, rfl⟩
            have hP : g_P A G w134 H := by rw [ew134]; exact hP
            have f135 : w134 (md 1) = some (.inl (G.2.1 0, 10, .inl (Fm 1))) := by rw [ew134]; exact g_up_f f121 ((fun q => absurd (Hj 1 0 (by decide) (by decide) q) (by decide)))
            have f136 : w134 (md 2) = some (.inl (G.2.1 0, 10, .inl (Fm 2))) := by rw [ew134]; exact g_up_f f122 ((fun q => absurd (Hj 2 0 (by decide) (by decide) q) (by decide)))
            have f137 : w134 (md 3) = some (.inl (G.2.1 2, 10, .inl (Fm 3))) := by rw [ew134]; exact g_up_f f123 ((fun q => absurd (Hj 3 0 (by decide) (by decide) q) (by decide)))
            have f138 : w134 (md 6) = some (.inl (G.2.1 0, 16, .inl (Fm 6))) := by rw [ew134]; exact g_up_f f124 ((fun q => absurd (Hj 6 0 (by decide) (by decide) q) (by decide)))
            have f139 : w134 (md 7) = some (.inl (G.2.1 0, 16, .inl (Fm 7))) := by rw [ew134]; exact g_up_f f125 ((fun q => absurd (Hj 7 0 (by decide) (by decide) q) (by decide)))
            have f140 : w134 (md 8) = some (.inl (G.2.1 0, 20, .inl (Fm 8))) := by rw [ew134]; exact g_up_f f126 ((fun q => absurd (Hj 8 0 (by decide) (by decide) q) (by decide)))
            have f141 : w134 (md 9) = some (.inl (G.2.1 1, 10, .inr (.inl (L 0)))) := by rw [ew134]; exact g_up_f f127 ((fun q => absurd (Hj 9 0 (by decide) (by decide) q) (by decide)))
            have f142 : w134 (md 10) = some (.inl (G.2.1 1, 10, .inr (.inl (L 1)))) := by rw [ew134]; exact g_up_f f128 ((fun q => absurd (Hj 10 0 (by decide) (by decide) q) (by decide)))
            have f143 : w134 (md 11) = some (.inl (G.2.1 0, 10, .inl (Fm 11))) := by rw [ew134]; exact g_up_f f129 ((fun q => absurd (Hj 11 0 (by decide) (by decide) q) (by decide)))
            have f144 : w134 (md 4) = some (.inl (G.2.1 0, 64, .inl (upd (upd (upd (upd (Fm 4) (nI (4 * (S 0 1).toNat) : Int32).toNatClampNeg pn) (nI (4 * (S 0 1).toNat + 1) : Int32).toNatClampNeg te) (nI (4 * (S 0 1).toNat + 2) : Int32).toNatClampNeg mo1) (nI (4 * (S 0 1).toNat + 3) : Int32).toNatClampNeg la))) := by rw [ew134]; exact g_up_f f131 ((fun q => absurd (Hj 4 0 (by decide) (by decide) q) (by decide)))
            have f145 : w134 (md 5) = some (.inl (G.2.1 2, 16, .inl (upd (Fm 5) (iL (S 0 1) : Int32).toNatClampNeg (g_b ri)))) := by rw [ew134]; exact g_up_f f132 ((fun q => absurd (Hj 5 0 (by decide) (by decide) q) (by decide)))
            have f146 : w134 (md 0) = some (.inr (8, [.int 0, .int (iL (S 0 0)), .ref (md 1), .ref (md 2), .ref (md 3), .int (iL (S 0 4)), .int (iL (S 0 5)), .int (iL (S 0 1 + 1)), .ref (md 4), .ref (md 5), .int (iL (S 0 2)), .ref (md 6), .ref (md 7), .int (iL (S 0 3)), .ref (md 8), .ref (md 9), .ref (md 10), .ref (md 11), .long tp, .long bt])) := by rw [ew134]; exact g_up_s _ _ _
            refine lv_aload_n hx hb dX7_addGear_148 rfl (lv_at hl 0 rfl) ?_
            refine g_get F hP (C := RX7) (T := TX7) (N := 20) iX7 f146 rfl 7 (by decide) (List.mem_cons_of_mem _ (List.mem_append_left _ (List.mem_of_getElem? (i := 1) rfl))) (fun _ h9 => h9) rfl dX7_addGear_149 ?_
            refine lv_iconst (v := 1) hx hb dX7_addGear_152 (by decide) ?_
            refine lv_isub hx hb dX7_addGear_153 ?_
            refine lv_topi (fun v147 ev147 => ?_)
            obtain rfl : v147 = iL (S 0 1) := by
              rw [ev147]
              rw [show (1 : Int32) = iL 1 from rfl, iL_sub]
              rw [show S 0 1 + 1 - 1 = S 0 1 from by omega]
            rw [hQ]
            refine g_iret F hP hS hlocks hr dX7_addGear_154 (by first | exact Nat.le_of_ble_eq_true rfl | omega) (by first | exact Nat.le_of_ble_eq_true rfl | omega) ?_
            have e0 : nxAddGear S pn te mo1 la ri 0 1 = S 0 1 + 1 := by unfold nxAddGear; rw [up2_k _ _ _ (by decide), up2_k _ _ _ (by decide), up2_k _ _ _ (by decide), up2_k _ _ _ (by decide), up2_k _ _ _ (by decide), up2_s]
            have e0' : ∀ i, i ≠ 1 → nxAddGear S pn te mo1 la ri 0 i = S 0 i := fun i z => by unfold nxAddGear; rw [up2_k _ _ _ (by decide), up2_k _ _ _ (by decide), up2_k _ _ _ (by decide), up2_k _ _ _ (by decide), up2_k _ _ _ (by decide), up2_i _ _ _ z]
            exact Or.inr ⟨(if_pos yc17).trans ((if_pos ⟨yc21, yc40, yc59⟩).trans (if_pos (by omega))), rfl, ⟨mFr_tr (mFr_tr (mFr_tr (mFr_tr (mFr_tr (mFr_tr (mFr_tr (mFr_rf _ _) (mFr_se (i := 0) (by decide) ew1)) (mFr_se (i := 4) (by decide) ew62)) (mFr_se (i := 4) (by decide) ew77)) (mFr_se (i := 4) (by decide) ew92)) (mFr_se (i := 4) (by decide) ew107)) (mFr_se (i := 5) (by decide) ew120)) (mFr_se (i := 0) (by decide) ew134), _, _, (up1 (up1 Fm 4 (upd (upd (upd (upd (Fm 4) (nI (4 * (S 0 1).toNat) : Int32).toNatClampNeg pn) (nI (4 * (S 0 1).toNat + 1) : Int32).toNatClampNeg te) (nI (4 * (S 0 1).toNat + 2) : Int32).toNatClampNeg mo1) (nI (4 * (S 0 1).toNat + 3) : Int32).toNatClampNeg la)) 5 (upd (Fm 5) (iL (S 0 1) : Int32).toNatClampNeg (g_b ri))), L, ⟨(by rw [mC_of (by rw [e0' 0 (by decide)]) (by rw [e0]) (by rw [e0' 2 (by decide)]) (by rw [e0' 3 (by decide)]) (by rw [e0' 4 (by decide)]) (by rw [e0' 5 (by decide)])]; exact f146), f135, f136, f137, f144, f145, f138, f139, f140, f141, f142, f143⟩, (modF_addGear (f4 := upd (upd (upd (upd (Fm 4) (nI (4 * (S 0 1).toNat) : Int32).toNatClampNeg pn) (nI (4 * (S 0 1).toNat + 1) : Int32).toNatClampNeg te) (nI (4 * (S 0 1).toNat + 2) : Int32).toNatClampNeg mo1) (nI (4 * (S 0 1).toNat + 3) : Int32).toNatClampNeg la) (f5 := upd (Fm 5) (iL (S 0 1) : Int32).toNatClampNeg (g_b ri)) Hf Hi (fun j => by rw [nI_clamp (n := 4 * (S 0 1).toNat) (by omega), nI_clamp (n := 4 * (S 0 1).toNat + 1) (by omega), nI_clamp (n := 4 * (S 0 1).toNat + 2) (by omega), nI_clamp (n := 4 * (S 0 1).toNat + 3) (by omega)]; simp only [upd]) (fun j => by rw [iL_cl (by omega) (by omega)]; simp only [upd]))⟩⟩
          · rw [show (16 : Int32) = iL 16 from rfl, iL_eq (by omega) (by omega) (by omega) (by omega)] at c60
            refine lv_aload_n hx hb dX7_addGear_66 rfl (lv_at hl 0 rfl) ?_
            refine lv_iconst (v := 3) hx hb dX7_addGear_67 (by decide) ?_
            refine g_Vi (As := [.int 3]) (rest := []) F hP hS (k_X7_fail l A G w1 md S _ _ _ Fm L 3 f13) (cwV 1 hts gX7_addGear_X7_fail rfl rfl rfl cd_X7_fail ⟨by rw [hR]; exact Nat.le_of_ble_eq_true rfl, by rw [hR]; exact Nat.le_of_ble_eq_true rfl⟩) f13 rfl rfl rfl hl.1 (Nat.le_of_ble_eq_true rfl) dX7_addGear_68 ⟨by rw [hR]; exact Nat.le_of_ble_eq_true rfl, by rw [hR]; exact Nat.le_of_ble_eq_true rfl⟩ rfl (fun r148 w149 H locs h150 hP hS => ?_)
            obtain ⟨er, eww149⟩ := h150
            rw [er]
            have f151 : w149 (md 1) = some (.inl (G.2.1 0, 10, .inl (Fm 1))) := by rw [eww149]; exact g_up_f f2 ((fun q => absurd (Hj 1 0 (by decide) (by decide) q) (by decide)))
            have f152 : w149 (md 2) = some (.inl (G.2.1 0, 10, .inl (Fm 2))) := by rw [eww149]; exact g_up_f f3 ((fun q => absurd (Hj 2 0 (by decide) (by decide) q) (by decide)))
            have f153 : w149 (md 3) = some (.inl (G.2.1 2, 10, .inl (Fm 3))) := by rw [eww149]; exact g_up_f f4 ((fun q => absurd (Hj 3 0 (by decide) (by decide) q) (by decide)))
            have f154 : w149 (md 4) = some (.inl (G.2.1 0, 64, .inl (Fm 4))) := by rw [eww149]; exact g_up_f f5 ((fun q => absurd (Hj 4 0 (by decide) (by decide) q) (by decide)))
            have f155 : w149 (md 5) = some (.inl (G.2.1 2, 16, .inl (Fm 5))) := by rw [eww149]; exact g_up_f f6 ((fun q => absurd (Hj 5 0 (by decide) (by decide) q) (by decide)))
            have f156 : w149 (md 6) = some (.inl (G.2.1 0, 16, .inl (Fm 6))) := by rw [eww149]; exact g_up_f f7 ((fun q => absurd (Hj 6 0 (by decide) (by decide) q) (by decide)))
            have f157 : w149 (md 7) = some (.inl (G.2.1 0, 16, .inl (Fm 7))) := by rw [eww149]; exact g_up_f f8 ((fun q => absurd (Hj 7 0 (by decide) (by decide) q) (by decide)))
            have f158 : w149 (md 8) = some (.inl (G.2.1 0, 20, .inl (Fm 8))) := by rw [eww149]; exact g_up_f f9 ((fun q => absurd (Hj 8 0 (by decide) (by decide) q) (by decide)))
            have f159 : w149 (md 9) = some (.inl (G.2.1 1, 10, .inr (.inl (L 0)))) := by rw [eww149]; exact g_up_f f10 ((fun q => absurd (Hj 9 0 (by decide) (by decide) q) (by decide)))
            have f160 : w149 (md 10) = some (.inl (G.2.1 1, 10, .inr (.inl (L 1)))) := by rw [eww149]; exact g_up_f f11 ((fun q => absurd (Hj 10 0 (by decide) (by decide) q) (by decide)))
            have f161 : w149 (md 11) = some (.inl (G.2.1 0, 10, .inl (Fm 11))) := by rw [eww149]; exact g_up_f f12 ((fun q => absurd (Hj 11 0 (by decide) (by decide) q) (by decide)))
            have f162 : w149 (md 0) = some (.inr (8, [.int 3, .int (iL (S 0 0)), .ref (md 1), .ref (md 2), .ref (md 3), .int (iL (S 0 4)), .int (iL (S 0 5)), .int (iL (S 0 1)), .ref (md 4), .ref (md 5), .int (iL (S 0 2)), .ref (md 6), .ref (md 7), .int (iL (S 0 3)), .ref (md 8), .ref (md 9), .ref (md 10), .ref (md 11), .long tp, .long bt])) := by rw [eww149]; exact g_up_s _ _ _
            rw [hQ]
            refine g_iret F hP hS hlocks hr dX7_addGear_71 (by first | exact Nat.le_of_ble_eq_true rfl | omega) (by first | exact Nat.le_of_ble_eq_true rfl | omega) ?_
            exact mRes_no (c := 3) ((if_pos yc17).trans ((if_pos ⟨yc21, yc40, yc59⟩).trans (if_neg (by omega)))) (by decide) ⟨mFr_tr (mFr_tr (mFr_rf _ _) (mFr_se (i := 0) (by decide) ew1)) (mFr_se (i := 0) (by decide) eww149), _, _, Fm, L, ⟨f162, f151, f152, f153, f154, f155, f156, f157, f158, f159, f160, f161⟩, Hf⟩
        · have yc59 := of_decide_eq_false (g_b0.mp c59)
          have kc59 : (0 ≤ la ∧ la ≤ 5) ↔ inQ la 0 5 := by rw [Int32.le_iff_toInt_le, Int32.le_iff_toInt_le]; exact Iff.rfl
          rw [kc59] at yc59
          refine lv_aload_n hx hb dX7_addGear_51 rfl (lv_at hl 0 rfl) ?_
          refine lv_iconst (v := 2) hx hb dX7_addGear_52 (by decide) ?_
          refine g_Vi (As := [.int 2]) (rest := []) F hP hS (k_X7_fail l A G w1 md S _ _ _ Fm L 2 f13) (cwV 1 hts gX7_addGear_X7_fail rfl rfl rfl cd_X7_fail ⟨by rw [hR]; exact Nat.le_of_ble_eq_true rfl, by rw [hR]; exact Nat.le_of_ble_eq_true rfl⟩) f13 rfl rfl rfl hl.1 (Nat.le_of_ble_eq_true rfl) dX7_addGear_53 ⟨by rw [hR]; exact Nat.le_of_ble_eq_true rfl, by rw [hR]; exact Nat.le_of_ble_eq_true rfl⟩ rfl (fun r163 w164 H locs h165 hP hS => ?_)
          obtain ⟨er, eww164⟩ := h165
          rw [er]
          have f166 : w164 (md 1) = some (.inl (G.2.1 0, 10, .inl (Fm 1))) := by rw [eww164]; exact g_up_f f2 ((fun q => absurd (Hj 1 0 (by decide) (by decide) q) (by decide)))
          have f167 : w164 (md 2) = some (.inl (G.2.1 0, 10, .inl (Fm 2))) := by rw [eww164]; exact g_up_f f3 ((fun q => absurd (Hj 2 0 (by decide) (by decide) q) (by decide)))
          have f168 : w164 (md 3) = some (.inl (G.2.1 2, 10, .inl (Fm 3))) := by rw [eww164]; exact g_up_f f4 ((fun q => absurd (Hj 3 0 (by decide) (by decide) q) (by decide)))
          have f169 : w164 (md 4) = some (.inl (G.2.1 0, 64, .inl (Fm 4))) := by rw [eww164]; exact g_up_f f5 ((fun q => absurd (Hj 4 0 (by decide) (by decide) q) (by decide)))
          have f170 : w164 (md 5) = some (.inl (G.2.1 2, 16, .inl (Fm 5))) := by rw [eww164]; exact g_up_f f6 ((fun q => absurd (Hj 5 0 (by decide) (by decide) q) (by decide)))
          have f171 : w164 (md 6) = some (.inl (G.2.1 0, 16, .inl (Fm 6))) := by rw [eww164]; exact g_up_f f7 ((fun q => absurd (Hj 6 0 (by decide) (by decide) q) (by decide)))
          have f172 : w164 (md 7) = some (.inl (G.2.1 0, 16, .inl (Fm 7))) := by rw [eww164]; exact g_up_f f8 ((fun q => absurd (Hj 7 0 (by decide) (by decide) q) (by decide)))
          have f173 : w164 (md 8) = some (.inl (G.2.1 0, 20, .inl (Fm 8))) := by rw [eww164]; exact g_up_f f9 ((fun q => absurd (Hj 8 0 (by decide) (by decide) q) (by decide)))
          have f174 : w164 (md 9) = some (.inl (G.2.1 1, 10, .inr (.inl (L 0)))) := by rw [eww164]; exact g_up_f f10 ((fun q => absurd (Hj 9 0 (by decide) (by decide) q) (by decide)))
          have f175 : w164 (md 10) = some (.inl (G.2.1 1, 10, .inr (.inl (L 1)))) := by rw [eww164]; exact g_up_f f11 ((fun q => absurd (Hj 10 0 (by decide) (by decide) q) (by decide)))
          have f176 : w164 (md 11) = some (.inl (G.2.1 0, 10, .inl (Fm 11))) := by rw [eww164]; exact g_up_f f12 ((fun q => absurd (Hj 11 0 (by decide) (by decide) q) (by decide)))
          have f177 : w164 (md 0) = some (.inr (8, [.int 2, .int (iL (S 0 0)), .ref (md 1), .ref (md 2), .ref (md 3), .int (iL (S 0 4)), .int (iL (S 0 5)), .int (iL (S 0 1)), .ref (md 4), .ref (md 5), .int (iL (S 0 2)), .ref (md 6), .ref (md 7), .int (iL (S 0 3)), .ref (md 8), .ref (md 9), .ref (md 10), .ref (md 11), .long tp, .long bt])) := by rw [eww164]; exact g_up_s _ _ _
          rw [hQ]
          refine g_iret F hP hS hlocks hr dX7_addGear_56 (by first | exact Nat.le_of_ble_eq_true rfl | omega) (by first | exact Nat.le_of_ble_eq_true rfl | omega) ?_
          exact mRes_no (c := 2) ((if_pos yc17).trans (if_neg (fun q => yc59 q.2.2))) (by decide) ⟨mFr_tr (mFr_tr (mFr_rf _ _) (mFr_se (i := 0) (by decide) ew1)) (mFr_se (i := 0) (by decide) eww164), _, _, Fm, L, ⟨f177, f166, f167, f168, f169, f170, f171, f172, f173, f174, f175, f176⟩, Hf⟩
  · have yc17 := of_decide_eq_false (g_b0.mp c17)
    refine lv_aload_n hx hb dX7_addGear_13 rfl (lv_at hl 0 rfl) ?_
    refine lv_iconst (v := 1) hx hb dX7_addGear_14 (by decide) ?_
    refine g_Vi (As := [.int 1]) (rest := []) F hP hS (k_X7_fail l A G w1 md S _ _ _ Fm L 1 f13) (cwV 1 hts gX7_addGear_X7_fail rfl rfl rfl cd_X7_fail ⟨by rw [hR]; exact Nat.le_of_ble_eq_true rfl, by rw [hR]; exact Nat.le_of_ble_eq_true rfl⟩) f13 rfl rfl rfl hl.1 (Nat.le_of_ble_eq_true rfl) dX7_addGear_15 ⟨by rw [hR]; exact Nat.le_of_ble_eq_true rfl, by rw [hR]; exact Nat.le_of_ble_eq_true rfl⟩ rfl (fun r178 w179 H locs h180 hP hS => ?_)
    obtain ⟨er, eww179⟩ := h180
    rw [er]
    have f181 : w179 (md 1) = some (.inl (G.2.1 0, 10, .inl (Fm 1))) := by rw [eww179]; exact g_up_f f2 ((fun q => absurd (Hj 1 0 (by decide) (by decide) q) (by decide)))
    have f182 : w179 (md 2) = some (.inl (G.2.1 0, 10, .inl (Fm 2))) := by rw [eww179]; exact g_up_f f3 ((fun q => absurd (Hj 2 0 (by decide) (by decide) q) (by decide)))
    have f183 : w179 (md 3) = some (.inl (G.2.1 2, 10, .inl (Fm 3))) := by rw [eww179]; exact g_up_f f4 ((fun q => absurd (Hj 3 0 (by decide) (by decide) q) (by decide)))
    have f184 : w179 (md 4) = some (.inl (G.2.1 0, 64, .inl (Fm 4))) := by rw [eww179]; exact g_up_f f5 ((fun q => absurd (Hj 4 0 (by decide) (by decide) q) (by decide)))
    have f185 : w179 (md 5) = some (.inl (G.2.1 2, 16, .inl (Fm 5))) := by rw [eww179]; exact g_up_f f6 ((fun q => absurd (Hj 5 0 (by decide) (by decide) q) (by decide)))
    have f186 : w179 (md 6) = some (.inl (G.2.1 0, 16, .inl (Fm 6))) := by rw [eww179]; exact g_up_f f7 ((fun q => absurd (Hj 6 0 (by decide) (by decide) q) (by decide)))
    have f187 : w179 (md 7) = some (.inl (G.2.1 0, 16, .inl (Fm 7))) := by rw [eww179]; exact g_up_f f8 ((fun q => absurd (Hj 7 0 (by decide) (by decide) q) (by decide)))
    have f188 : w179 (md 8) = some (.inl (G.2.1 0, 20, .inl (Fm 8))) := by rw [eww179]; exact g_up_f f9 ((fun q => absurd (Hj 8 0 (by decide) (by decide) q) (by decide)))
    have f189 : w179 (md 9) = some (.inl (G.2.1 1, 10, .inr (.inl (L 0)))) := by rw [eww179]; exact g_up_f f10 ((fun q => absurd (Hj 9 0 (by decide) (by decide) q) (by decide)))
    have f190 : w179 (md 10) = some (.inl (G.2.1 1, 10, .inr (.inl (L 1)))) := by rw [eww179]; exact g_up_f f11 ((fun q => absurd (Hj 10 0 (by decide) (by decide) q) (by decide)))
    have f191 : w179 (md 11) = some (.inl (G.2.1 0, 10, .inl (Fm 11))) := by rw [eww179]; exact g_up_f f12 ((fun q => absurd (Hj 11 0 (by decide) (by decide) q) (by decide)))
    have f192 : w179 (md 0) = some (.inr (8, [.int 1, .int (iL (S 0 0)), .ref (md 1), .ref (md 2), .ref (md 3), .int (iL (S 0 4)), .int (iL (S 0 5)), .int (iL (S 0 1)), .ref (md 4), .ref (md 5), .int (iL (S 0 2)), .ref (md 6), .ref (md 7), .int (iL (S 0 3)), .ref (md 8), .ref (md 9), .ref (md 10), .ref (md 11), .long tp, .long bt])) := by rw [eww179]; exact g_up_s _ _ _
    rw [hQ]
    refine g_iret F hP hS hlocks hr dX7_addGear_18 (by first | exact Nat.le_of_ble_eq_true rfl | omega) (by first | exact Nat.le_of_ble_eq_true rfl | omega) ?_
    exact mRes_no (c := 1) (if_neg yc17) (by decide) ⟨mFr_tr (mFr_tr (mFr_rf _ _) (mFr_se (i := 0) (by decide) ew1)) (mFr_se (i := 0) (by decide) eww179), _, _, Fm, L, ⟨f192, f181, f182, f183, f184, f185, f186, f187, f188, f189, f190, f191⟩, Hf⟩
