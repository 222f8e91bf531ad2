theorem cd_X7_isShaft : yX7_isShaft.cls = RX7 ∧ yX7_isShaft.cls ≠ "java/lang/invoke/MethodHandle" ∧ yX7_isShaft.cls ≠ "java/lang/invoke/VarHandle" ∧ (parseMethodDescriptor yX7_isShaft.desc).map (fun d => d.parameters.length) = some 1 := by decide +kernel
theorem cd_X7_square : yX7_square.cls ≠ "java/lang/invoke/MethodHandle" ∧ yX7_square.cls ≠ "java/lang/invoke/VarHandle" ∧ (parseMethodDescriptor yX7_square.desc).map (fun d => d.parameters.length) = some 1 := by decide +kernel
set_option maxHeartbeats 4000000 in
set_option maxRecDepth 100000 in
theorem k_X7_move (l : Launch) (A : Nat → Prop) (G : g_C) (w : g_W) (md : Nat → Nat) (S : Sg) (th : Int32) (tp bt : Int64) (Fm : Nat → Nat → Int32) (L : Nat → Nat → Int64) (pn x y : Int32) (Hm : modW G w md S th tp bt Fm L) (Hj : modI md) (Hf : modF S Fm) (Hi : invS S) : mI l yX7_move wsX7_move ({ frames := 2, cells := 0, slots := 0, locals := 43 } : Room) [.ref (md 0), .int pn, .int x, .int y] A G w (fun r w' => mRes G md w w' S (nxMove S pn x y) (cdMove S pn x y) (r = vlMove S pn x y)) 0 0 := by
  refine g_ofI (cc := cX7_move) (maxL := 5) (ret := (some .int)) (own := RX7) (by decide) rfl rfl (Nat.le_of_ble_eq_true rfl) ?_
  intro p e R s m args below meth c Q ls hR F hP hS hlocks hr hnm0 hQ hl
  obtain ⟨⟨hx, hb, hml, hown, hts⟩, hK, hZ, hA⟩ := id F
  generalize hH0 : s.heap = H at hP ⊢
  have hS : va_S A s.heap H [] := by rw [← hH0]; exact va_S.rf
  generalize ([] : List Loc) = locs at hS ⊢
  have hl : lv_has ls 5 [(0, .ref (md 0)), (1, .int pn), (2, .int x), (3, .int y)] := hl
  have iX7 : ∀ w ∈ u_ws RX7 TX7 20, w ∈ wsX7_move := fun w h => List.mem_cons_of_mem _ (List.mem_append_right _ (h))
  obtain ⟨hx0, hy1, hy2, hy3, hy4, hy5, hy6, hy7, hy8, hy9, hy10, hy11⟩ := id Hm
  have hi := Hi.1
  refine lv_aload_n hx hb dX7_move_0 rfl (lv_at hl 0 rfl) ?_
  refine lv_iconst (v := 0) hx hb dX7_move_1 (by decide) ?_
  refine g_put F hP hS (C := RX7) (T := TX7) (N := 20) (v := .int 0) (ty := .int) iX7 tyX7 tyX7_ok nmX7 hx0 rfl 0 (by decide) (List.mem_cons_of_mem _ (List.mem_append_left _ (List.mem_of_getElem? (i := 0) rfl))) (fun _ h9 => h9) rfl (by decide +kernel) rfl rfl (by show 0 < 20; decide) dX7_move_2 (fun H locs hP hS => ?_)
  obtain ⟨w1, ew1⟩ : ∃ z, z = g_up w (md 0) (.inr (8, [.int 0, .int (iL (S 0 0)), .ref (md 1), .ref (md 2), .ref (md 3), .int (iL (S 0 4)), .int (iL (S 0 5)), .int (iL (S 0 1)), .ref (md 4), .ref (md 5), .int (iL (S 0 2)), .ref (md 6), .ref (md 7), .int (iL (S 0 3)), .ref (md 8), .ref (md 9), .ref (md 10), .ref (md 11), .long tp, .long bt])) := ⟨_, rfl⟩
  have hP : g_P A G w1 H := by rw [ew1]; exact hP
  have f2 : w1 (md 1) = some (.inl (G.2.1 0, 10, .inl (Fm 1))) := by rw [ew1]; exact g_up_f hy1 ((fun q => absurd (Hj 1 0 (by decide) (by decide) q) (by decide)))
  have f3 : w1 (md 2) = some (.inl (G.2.1 0, 10, .inl (Fm 2))) := by rw [ew1]; exact g_up_f hy2 ((fun q => absurd (Hj 2 0 (by decide) (by decide) q) (by decide)))
  have f4 : w1 (md 3) = some (.inl (G.2.1 2, 10, .inl (Fm 3))) := by rw [ew1]; exact g_up_f hy3 ((fun q => absurd (Hj 3 0 (by decide) (by decide) q) (by decide)))
  have f5 : w1 (md 4) = some (.inl (G.2.1 0, 64, .inl (Fm 4))) := by rw [ew1]; exact g_up_f hy4 ((fun q => absurd (Hj 4 0 (by decide) (by decide) q) (by decide)))
  have f6 : w1 (md 5) = some (.inl (G.2.1 2, 16, .inl (Fm 5))) := by rw [ew1]; exact g_up_f hy5 ((fun q => absurd (Hj 5 0 (by decide) (by decide) q) (by decide)))
  have f7 : w1 (md 6) = some (.inl (G.2.1 0, 16, .inl (Fm 6))) := by rw [ew1]; exact g_up_f hy6 ((fun q => absurd (Hj 6 0 (by decide) (by decide) q) (by decide)))
  have f8 : w1 (md 7) = some (.inl (G.2.1 0, 16, .inl (Fm 7))) := by rw [ew1]; exact g_up_f hy7 ((fun q => absurd (Hj 7 0 (by decide) (by decide) q) (by decide)))
  have f9 : w1 (md 8) = some (.inl (G.2.1 0, 20, .inl (Fm 8))) := by rw [ew1]; exact g_up_f hy8 ((fun q => absurd (Hj 8 0 (by decide) (by decide) q) (by decide)))
  have f10 : w1 (md 9) = some (.inl (G.2.1 1, 10, .inr (.inl (L 0)))) := by rw [ew1]; exact g_up_f hy9 ((fun q => absurd (Hj 9 0 (by decide) (by decide) q) (by decide)))
  have f11 : w1 (md 10) = some (.inl (G.2.1 1, 10, .inr (.inl (L 1)))) := by rw [ew1]; exact g_up_f hy10 ((fun q => absurd (Hj 10 0 (by decide) (by decide) q) (by decide)))
  have f12 : w1 (md 11) = some (.inl (G.2.1 0, 10, .inl (Fm 11))) := by rw [ew1]; exact g_up_f hy11 ((fun q => absurd (Hj 11 0 (by decide) (by decide) q) (by decide)))
  have f13 : w1 (md 0) = some (.inr (8, [.int 0, .int (iL (S 0 0)), .ref (md 1), .ref (md 2), .ref (md 3), .int (iL (S 0 4)), .int (iL (S 0 5)), .int (iL (S 0 1)), .ref (md 4), .ref (md 5), .int (iL (S 0 2)), .ref (md 6), .ref (md 7), .int (iL (S 0 3)), .ref (md 8), .ref (md 9), .ref (md 10), .ref (md 11), .long tp, .long bt])) := by rw [ew1]; exact g_up_s _ _ _
  refine lv_aload_n hx hb dX7_move_5 rfl (lv_at hl 0 rfl) ?_
  refine lv_iload_n hx hb dX7_move_6 rfl (lv_at hl 1 rfl) ?_
  refine g_Vi (As := [.int pn]) (rest := []) F hP hS (k_X7_isShaft l A G w1 md S _ _ _ Fm L pn f13 Hf Hi) (cwV 1 hts gX7_move_X7_isShaft rfl rfl rfl cd_X7_isShaft ⟨by rw [hR]; exact Nat.le_of_ble_eq_true rfl, by rw [hR]; exact Nat.le_of_ble_eq_true rfl⟩) f13 rfl rfl rfl hl.1 (Nat.le_of_ble_eq_true rfl) dX7_move_7 ⟨by rw [hR]; exact Nat.le_of_ble_eq_true rfl, by rw [hR]; exact Nat.le_of_ble_eq_true rfl⟩ rfl (fun r14 w15 H locs h16 hP hS => ?_)
  have hr14 := h16.1
  rw [h16.2] at hP
  rw [hr14]
  refine lv_if_ne (tgt := 19) hx hb dX7_move_10 (by decide) (fun c17 => ?_) (fun c17 => ?_)
  · have yc17 := of_decide_eq_true (g_b1.mp c17)
    refine lv_iload_n hx hb dX7_move_19 rfl (lv_at hl 2 rfl) ?_
    refine lv_iload_n hx hb dX7_move_20 rfl (lv_at hl 3 rfl) ?_
    refine g_Si (As := [.int x, .int y]) (rest := []) F hP hS (k_X7_arePlace l A G w1 x y) (va_cwS 2 hts gX7_move_X7_arePlace rfl rfl rfl cd_X7_arePlace ⟨by rw [hR]; exact Nat.le_of_ble_eq_true rfl, by rw [hR]; exact Nat.le_of_ble_eq_true rfl⟩) rfl hl.1 (Nat.le_of_ble_eq_true rfl) dX7_move_21 ⟨by rw [hR]; exact Nat.le_of_ble_eq_true rfl, by rw [hR]; exact Nat.le_of_ble_eq_true rfl⟩ rfl (fun r18 w19 H locs h20 hP hS => ?_)
    have hr18 := h20.1
    rw [h20.2] at hP
    rw [hr18]
    refine lv_if_ne (tgt := 33) hx hb dX7_move_24 (by decide) (fun c21 => ?_) (fun c21 => ?_)
    · have yc21 := of_decide_eq_true (g_b1.mp c21)
      have hix : vp_in pn 10 := by rw [kN_e yc17.1]; exact vp_in_nI (by have := kN_lt yc17; omega) (by decide)
      have hkk := kN_lt yc17
      have hcl : pn.toNatClampNeg = kN pn := by
        have := iL_cl yc17.1 (by omega)
        rw [iL_x] at this
        exact this
      refine lv_iload_n hx hb dX7_move_33 rfl (lv_at hl 2 rfl) ?_
      refine lv_aload_n hx hb dX7_move_34 rfl (lv_at hl 0 rfl) ?_
      refine g_get F hP (C := RX7) (T := TX7) (N := 20) iX7 f13 rfl 2 (by decide) (List.mem_cons_of_mem _ (List.mem_append_left _ (List.mem_of_getElem? (i := 1) rfl))) (fun _ h9 => h9) rfl dX7_move_35 ?_
      refine lv_iload_n hx hb dX7_move_38 rfl (lv_at hl 1 rfl) ?_
      refine g_iald F hP f2 hix dX7_move_39 ?_
      refine lv_topi (fun v22 ev22 => ?_)
      obtain rfl : v22 = iL (S 1 (kN pn)) := by
        rw [ev22]
        rw [hcl]
        exact (Hf.1 _ hkk).1
      refine lv_isub hx hb dX7_move_40 ?_
      refine lv_topi (fun v23 ev23 => ?_)
      obtain rfl : v23 = x - iL (S 1 (kN pn)) := by
        exact ev23
      refine g_Si (As := [.int (x - iL (S 1 (kN pn)))]) (rest := []) F hP hS (k_X7_square l A G w1 (x - iL (S 1 (kN pn)))) (va_cwS 1 hts gX7_move_X7_square rfl rfl rfl cd_X7_square ⟨by rw [hR]; exact Nat.le_of_ble_eq_true rfl, by rw [hR]; exact Nat.le_of_ble_eq_true rfl⟩) rfl hl.1 (Nat.le_of_ble_eq_true rfl) dX7_move_41 ⟨by rw [hR]; exact Nat.le_of_ble_eq_true rfl, by rw [hR]; exact Nat.le_of_ble_eq_true rfl⟩ rfl (fun r24 w25 H locs h26 hP hS => ?_)
      have hr24 := h26.1
      rw [h26.2] at hP
      rw [hr24]
      refine lv_iload_n hx hb dX7_move_44 rfl (lv_at hl 3 rfl) ?_
      refine lv_aload_n hx hb dX7_move_45 rfl (lv_at hl 0 rfl) ?_
      refine g_get F hP (C := RX7) (T := TX7) (N := 20) iX7 f13 rfl 3 (by decide) (List.mem_cons_of_mem _ (List.mem_append_left _ (List.mem_of_getElem? (i := 2) rfl))) (fun _ h9 => h9) rfl dX7_move_46 ?_
      refine lv_iload_n hx hb dX7_move_49 rfl (lv_at hl 1 rfl) ?_
      refine g_iald F hP f3 hix dX7_move_50 ?_
      refine lv_topi (fun v27 ev27 => ?_)
      obtain rfl : v27 = iL (S 2 (kN pn)) := by
        rw [ev27]
        rw [hcl]
        exact (Hf.1 _ hkk).2.1
      refine lv_isub hx hb dX7_move_51 ?_
      refine lv_topi (fun v28 ev28 => ?_)
      obtain rfl : v28 = y - iL (S 2 (kN pn)) := by
        exact ev28
      refine g_Si (As := [.int (y - iL (S 2 (kN pn)))]) (rest := [.int ((x - iL (S 1 (kN pn))) * (x - iL (S 1 (kN pn))))]) F hP hS (k_X7_square l A G w1 (y - iL (S 2 (kN pn)))) (va_cwS 1 hts gX7_move_X7_square rfl rfl rfl cd_X7_square ⟨by rw [hR]; exact Nat.le_of_ble_eq_true rfl, by rw [hR]; exact Nat.le_of_ble_eq_true rfl⟩) rfl hl.1 (Nat.le_of_ble_eq_true rfl) dX7_move_52 ⟨by rw [hR]; exact Nat.le_of_ble_eq_true rfl, by rw [hR]; exact Nat.le_of_ble_eq_true rfl⟩ rfl (fun r29 w30 H locs h31 hP hS => ?_)
      have hr29 := h31.1
      rw [h31.2] at hP
      rw [hr29]
      refine lv_iadd hx hb dX7_move_55 ?_
      refine lv_topi (fun v32 ev32 => ?_)
      obtain rfl : v32 = (x - iL (S 1 (kN pn))) * (x - iL (S 1 (kN pn))) + (y - iL (S 2 (kN pn))) * (y - iL (S 2 (kN pn))) := by
        exact ev32
      refine lv_istore (lv' := [(4, .int ((x - iL (S 1 (kN pn))) * (x - iL (S 1 (kN pn))) + (y - iL (S 2 (kN pn))) * (y - iL (S 2 (kN pn))))), (0, .ref (md 0)), (1, .int pn), (2, .int x), (3, .int y)]) hx hb dX7_move_56 hl (by decide) rfl (fun ls hl => ?_)
      refine lv_aload_n hx hb dX7_move_58 rfl (lv_at hl 1 rfl) ?_
      refine g_get F hP (C := RX7) (T := TX7) (N := 20) iX7 f13 rfl 2 (by decide) (List.mem_cons_of_mem _ (List.mem_append_left _ (List.mem_of_getElem? (i := 1) rfl))) (fun _ h9 => h9) rfl dX7_move_59 ?_
      refine lv_iload_n hx hb dX7_move_62 rfl (lv_at hl 2 rfl) ?_
      refine lv_iload_n hx hb dX7_move_63 rfl (lv_at hl 3 rfl) ?_
      refine g_iast F hP hS f2 hix dX7_move_64 (fun H locs hP hS => ?_)
      obtain ⟨w33, ew33⟩ : ∃ z, z = g_up w1 (md 1) (.inl (G.2.1 0, 10, .inl (upd (Fm 1) (pn : Int32).toNatClampNeg x))) := ⟨_, rfl⟩
      have hP : g_P A G w33 H := by rw [ew33]; exact hP
      have f34 : w33 (md 2) = some (.inl (G.2.1 0, 10, .inl (Fm 2))) := by rw [ew33]; exact g_up_f f3 ((fun q => absurd (Hj 2 1 (by decide) (by decide) q) (by decide)))
      have f35 : w33 (md 3) = some (.inl (G.2.1 2, 10, .inl (Fm 3))) := by rw [ew33]; exact g_up_f f4 ((fun q => absurd (Hj 3 1 (by decide) (by decide) q) (by decide)))
      have f36 : w33 (md 4) = some (.inl (G.2.1 0, 64, .inl (Fm 4))) := by rw [ew33]; exact g_up_f f5 ((fun q => absurd (Hj 4 1 (by decide) (by decide) q) (by decide)))
      have f37 : w33 (md 5) = some (.inl (G.2.1 2, 16, .inl (Fm 5))) := by rw [ew33]; exact g_up_f f6 ((fun q => absurd (Hj 5 1 (by decide) (by decide) q) (by decide)))
      have f38 : w33 (md 6) = some (.inl (G.2.1 0, 16, .inl (Fm 6))) := by rw [ew33]; exact g_up_f f7 ((fun q => absurd (Hj 6 1 (by decide) (by decide) q) (by decide)))
      have f39 : w33 (md 7) = some (.inl (G.2.1 0, 16, .inl (Fm 7))) := by rw [ew33]; exact g_up_f f8 ((fun q => absurd (Hj 7 1 (by decide) (by decide) q) (by decide)))
      have f40 : w33 (md 8) = some (.inl (G.2.1 0, 20, .inl (Fm 8))) := by rw [ew33]; exact g_up_f f9 ((fun q => absurd (Hj 8 1 (by decide) (by decide) q) (by decide)))
      have f41 : w33 (md 9) = some (.inl (G.2.1 1, 10, .inr (.inl (L 0)))) := by rw [ew33]; exact g_up_f f10 ((fun q => absurd (Hj 9 1 (by decide) (by decide) q) (by decide)))
      have f42 : w33 (md 10) = some (.inl (G.2.1 1, 10, .inr (.inl (L 1)))) := by rw [ew33]; exact g_up_f f11 ((fun q => absurd (Hj 10 1 (by decide) (by decide) q) (by decide)))
      have f43 : w33 (md 11) = some (.inl (G.2.1 0, 10, .inl (Fm 11))) := by rw [ew33]; exact g_up_f f12 ((fun q => absurd (Hj 11 1 (by decide) (by decide) q) (by decide)))
      have f44 : w33 (md 0) = some (.inr (8, [.int 0, .int (iL (S 0 0)), .ref (md 1), .ref (md 2), .ref (md 3), .int (iL (S 0 4)), .int (iL (S 0 5)), .int (iL (S 0 1)), .ref (md 4), .ref (md 5), .int (iL (S 0 2)), .ref (md 6), .ref (md 7), .int (iL (S 0 3)), .ref (md 8), .ref (md 9), .ref (md 10), .ref (md 11), .long tp, .long bt])) := by rw [ew33]; exact g_up_f f13 ((fun q => absurd (Hj 0 1 (by decide) (by decide) q) (by decide)))
      have f45 : w33 (md 1) = some (.inl (G.2.1 0, 10, .inl (upd (Fm 1) (pn : Int32).toNatClampNeg x))) := by rw [ew33]; exact g_up_s _ _ _
      refine lv_aload_n hx hb dX7_move_65 rfl (lv_at hl 1 rfl) ?_
      refine g_get F hP (C := RX7) (T := TX7) (N := 20) iX7 f44 rfl 3 (by decide) (List.mem_cons_of_mem _ (List.mem_append_left _ (List.mem_of_getElem? (i := 2) rfl))) (fun _ h9 => h9) rfl dX7_move_66 ?_
      refine lv_iload_n hx hb dX7_move_69 rfl (lv_at hl 2 rfl) ?_
      refine lv_iload_n hx hb dX7_move_70 rfl (lv_at hl 4 rfl) ?_
      refine g_iast F hP hS f34 hix dX7_move_71 (fun H locs hP hS => ?_)
      obtain ⟨w46, ew46⟩ : ∃ z, z = g_up w33 (md 2) (.inl (G.2.1 0, 10, .inl (upd (Fm 2) (pn : Int32).toNatClampNeg y))) := ⟨_, rfl⟩
      have hP : g_P A G w46 H := by rw [ew46]; exact hP
      have f47 : w46 (md 3) = some (.inl (G.2.1 2, 10, .inl (Fm 3))) := by rw [ew46]; exact g_up_f f35 ((fun q => absurd (Hj 3 2 (by decide) (by decide) q) (by decide)))
      have f48 : w46 (md 4) = some (.inl (G.2.1 0, 64, .inl (Fm 4))) := by rw [ew46]; exact g_up_f f36 ((fun q => absurd (Hj 4 2 (by decide) (by decide) q) (by decide)))
      have f49 : w46 (md 5) = some (.inl (G.2.1 2, 16, .inl (Fm 5))) := by rw [ew46]; exact g_up_f f37 ((fun q => absurd (Hj 5 2 (by decide) (by decide) q) (by decide)))
      have f50 : w46 (md 6) = some (.inl (G.2.1 0, 16, .inl (Fm 6))) := by rw [ew46]; exact g_up_f f38 ((fun q => absurd (Hj 6 2 (by decide) (by decide) q) (by decide)))
      have f51 : w46 (md 7) = some (.inl (G.2.1 0, 16, .inl (Fm 7))) := by rw [ew46]; exact g_up_f f39 ((fun q => absurd (Hj 7 2 (by decide) (by decide) q) (by decide)))
      have f52 : w46 (md 8) = some (.inl (G.2.1 0, 20, .inl (Fm 8))) := by rw [ew46]; exact g_up_f f40 ((fun q => absurd (Hj 8 2 (by decide) (by decide) q) (by decide)))
      have f53 : w46 (md 9) = some (.inl (G.2.1 1, 10, .inr (.inl (L 0)))) := by rw [ew46]; exact g_up_f f41 ((fun q => absurd (Hj 9 2 (by decide) (by decide) q) (by decide)))
      have f54 : w46 (md 10) = some (.inl (G.2.1 1, 10, .inr (.inl (L 1)))) := by rw [ew46]; exact g_up_f f42 ((fun q => absurd (Hj 10 2 (by decide) (by decide) q) (by decide)))
      have f55 : w46 (md 11) = some (.inl (G.2.1 0, 10, .inl (Fm 11))) := by rw [ew46]; exact g_up_f f43 ((fun q => absurd (Hj 11 2 (by decide) (by decide) q) (by decide)))
      have f56 : w46 (md 0) = some (.inr (8, [.int 0, .int (iL (S 0 0)), .ref (md 1), .ref (md 2), .ref (md 3), .int (iL (S 0 4)), .int (iL (S 0 5)), .int (iL (S 0 1)), .ref (md 4), .ref (md 5), .int (iL (S 0 2)), .ref (md 6), .ref (md 7), .int (iL (S 0 3)), .ref (md 8), .ref (md 9), .ref (md 10), .ref (md 11), .long tp, .long bt])) := by rw [ew46]; exact g_up_f f44 ((fun q => absurd (Hj 0 2 (by decide) (by decide) q) (by decide)))
      have f57 : w46 (md 1) = some (.inl (G.2.1 0, 10, .inl (upd (Fm 1) (pn : Int32).toNatClampNeg x))) := by rw [ew46]; exact g_up_f f45 ((fun q => absurd (Hj 1 2 (by decide) (by decide) q) (by decide)))
      have f58 : w46 (md 2) = some (.inl (G.2.1 0, 10, .inl (upd (Fm 2) (pn : Int32).toNatClampNeg y))) := by rw [ew46]; exact g_up_s _ _ _
      refine lv_iload hx hb dX7_move_72 (lv_at hl 0 rfl) ?_
      rw [hQ]
      refine g_iret F hP hS hlocks hr dX7_move_74 (by first | exact Nat.le_of_ble_eq_true rfl | omega) (by first | exact Nat.le_of_ble_eq_true rfl | omega) ?_
      have e0' : ∀ i, nxMove S pn x y 0 i = S 0 i := fun i => by unfold nxMove; rw [up2_k _ _ _ (by decide), up2_k _ _ _ (by decide)]
      exact Or.inr ⟨(if_pos yc17).trans (if_pos yc21), by unfold vlMove; rw [sq32 x, sq32 y], ⟨mFr_tr (mFr_tr (mFr_tr (mFr_rf _ _) (mFr_se (i := 0) (by decide) ew1)) (mFr_se (i := 1) (by decide) ew33)) (mFr_se (i := 2) (by decide) ew46), _, _, (up1 (up1 Fm 1 (upd (Fm 1) pn.toNatClampNeg x)) 2 (upd (Fm 2) pn.toNatClampNeg y)), L, ⟨(by rw [mC_of (by rw [e0' 0]) (by rw [e0' 1]) (by rw [e0' 2]) (by rw [e0' 3]) (by rw [e0' 4]) (by rw [e0' 5])]; exact f56), f57, f58, f47, f48, f49, f50, f51, f52, f53, f54, f55⟩, modF_move Hf yc17 hi.2.1⟩⟩
    · have yc21 := of_decide_eq_false (g_b0.mp c21)
      refine lv_aload_n hx hb dX7_move_27 rfl (lv_at hl 0 rfl) ?_
      refine lv_iconst (v := 2) hx hb dX7_move_28 (by decide) ?_
      refine g_Vi (As := [.int 2]) (rest := []) F hP hS (k_X7_fail l A G w1 md S _ _ _ Fm L 2 f13) (cwV 1 hts gX7_move_X7_fail rfl rfl rfl cd_X7_fail ⟨by rw [hR]; exact Nat.le_of_ble_eq_true rfl, by rw [hR]; exact Nat.le_of_ble_eq_true rfl⟩) f13 rfl rfl rfl hl.1 (Nat.le_of_ble_eq_true rfl) dX7_move_29 ⟨by rw [hR]; exact Nat.le_of_ble_eq_true rfl, by rw [hR]; exact Nat.le_of_ble_eq_true rfl⟩ rfl (fun r59 w60 H locs h61 hP hS => ?_)
      obtain ⟨er, eww60⟩ := h61
      rw [er]
      have f62 : w60 (md 1) = some (.inl (G.2.1 0, 10, .inl (Fm 1))) := by rw [eww60]; exact g_up_f f2 ((fun q => absurd (Hj 1 0 (by decide) (by decide) q) (by decide)))
      have f63 : w60 (md 2) = some (.inl (G.2.1 0, 10, .inl (Fm 2))) := by rw [eww60]; exact g_up_f f3 ((fun q => absurd (Hj 2 0 (by decide) (by decide) q) (by decide)))
      have f64 : w60 (md 3) = some (.inl (G.2.1 2, 10, .inl (Fm 3))) := by rw [eww60]; exact g_up_f f4 ((fun q => absurd (Hj 3 0 (by decide) (by decide) q) (by decide)))
      have f65 : w60 (md 4) = some (.inl (G.2.1 0, 64, .inl (Fm 4))) := by rw [eww60]; exact g_up_f f5 ((fun q => absurd (Hj 4 0 (by decide) (by decide) q) (by decide)))
      have f66 : w60 (md 5) = some (.inl (G.2.1 2, 16, .inl (Fm 5))) := by rw [eww60]; exact g_up_f f6 ((fun q => absurd (Hj 5 0 (by decide) (by decide) q) (by decide)))
      have f67 : w60 (md 6) = some (.inl (G.2.1 0, 16, .inl (Fm 6))) := by rw [eww60]; exact g_up_f f7 ((fun q => absurd (Hj 6 0 (by decide) (by decide) q) (by decide)))
      have f68 : w60 (md 7) = some (.inl (G.2.1 0, 16, .inl (Fm 7))) := by rw [eww60]; exact g_up_f f8 ((fun q => absurd (Hj 7 0 (by decide) (by decide) q) (by decide)))
      have f69 : w60 (md 8) = some (.inl (G.2.1 0, 20, .inl (Fm 8))) := by rw [eww60]; exact g_up_f f9 ((fun q => absurd (Hj 8 0 (by decide) (by decide) q) (by decide)))
      have f70 : w60 (md 9) = some (.inl (G.2.1 1, 10, .inr (.inl (L 0)))) := by rw [eww60]; exact g_up_f f10 ((fun q => absurd (Hj 9 0 (by decide) (by decide) q) (by decide)))
      have f71 : w60 (md 10) = some (.inl (G.2.1 1, 10, .inr (.inl (L 1)))) := by rw [eww60]; exact g_up_f f11 ((fun q => absurd (Hj 10 0 (by decide) (by decide) q) (by decide)))
      have f72 : w60 (md 11) = some (.inl (G.2.1 0, 10, .inl (Fm 11))) := by rw [eww60]; exact g_up_f f12 ((fun q => absurd (Hj 11 0 (by decide) (by decide) q) (by decide)))
      have f73 : w60 (md 0) = some (.inr (8, [.int 2, .int (iL (S 0 0)), .ref (md 1), .ref (md 2), .ref (md 3), .int (iL (S 0 4)), .int (iL (S 0 5)), .int (iL (S 0 1)), .ref (md 4), .ref (md 5), .int (iL (S 0 2)), .ref (md 6), .ref (md 7), .int (iL (S 0 3)), .ref (md 8), .ref (md 9), .ref (md 10), .ref (md 11), .long tp, .long bt])) := by rw [eww60]; exact g_up_s _ _ _
      rw [hQ]
      refine g_iret F hP hS hlocks hr dX7_move_32 (by first | exact Nat.le_of_ble_eq_true rfl | omega) (by first | exact Nat.le_of_ble_eq_true rfl | omega) ?_
      exact mRes_no (c := 2) ((if_pos yc17).trans (if_neg yc21)) (by decide) ⟨mFr_tr (mFr_tr (mFr_rf _ _) (mFr_se (i := 0) (by decide) ew1)) (mFr_se (i := 0) (by decide) eww60), _, _, Fm, L, ⟨f73, f62, f63, f64, f65, f66, f67, f68, f69, f70, f71, f72⟩, Hf⟩
  · have yc17 := of_decide_eq_false (g_b0.mp c17)
    refine lv_aload_n hx hb dX7_move_13 rfl (lv_at hl 0 rfl) ?_
    refine lv_iconst (v := 1) hx hb dX7_move_14 (by decide) ?_
    refine g_Vi (As := [.int 1]) (rest := []) F hP hS (k_X7_fail l A G w1 md S _ _ _ Fm L 1 f13) (cwV 1 hts gX7_move_X7_fail rfl rfl rfl cd_X7_fail ⟨by rw [hR]; exact Nat.le_of_ble_eq_true rfl, by rw [hR]; exact Nat.le_of_ble_eq_true rfl⟩) f13 rfl rfl rfl hl.1 (Nat.le_of_ble_eq_true rfl) dX7_move_15 ⟨by rw [hR]; exact Nat.le_of_ble_eq_true rfl, by rw [hR]; exact Nat.le_of_ble_eq_true rfl⟩ rfl (fun r74 w75 H locs h76 hP hS => ?_)
    obtain ⟨er, eww75⟩ := h76
    rw [er]
    have f77 : w75 (md 1) = some (.inl (G.2.1 0, 10, .inl (Fm 1))) := by rw [eww75]; exact g_up_f f2 ((fun q => absurd (Hj 1 0 (by decide) (by decide) q) (by decide)))
    have f78 : w75 (md 2) = some (.inl (G.2.1 0, 10, .inl (Fm 2))) := by rw [eww75]; exact g_up_f f3 ((fun q => absurd (Hj 2 0 (by decide) (by decide) q) (by decide)))
    have f79 : w75 (md 3) = some (.inl (G.2.1 2, 10, .inl (Fm 3))) := by rw [eww75]; exact g_up_f f4 ((fun q => absurd (Hj 3 0 (by decide) (by decide) q) (by decide)))
    have f80 : w75 (md 4) = some (.inl (G.2.1 0, 64, .inl (Fm 4))) := by rw [eww75]; exact g_up_f f5 ((fun q => absurd (Hj 4 0 (by decide) (by decide) q) (by decide)))
    have f81 : w75 (md 5) = some (.inl (G.2.1 2, 16, .inl (Fm 5))) := by rw [eww75]; exact g_up_f f6 ((fun q => absurd (Hj 5 0 (by decide) (by decide) q) (by decide)))
    have f82 : w75 (md 6) = some (.inl (G.2.1 0, 16, .inl (Fm 6))) := by rw [eww75]; exact g_up_f f7 ((fun q => absurd (Hj 6 0 (by decide) (by decide) q) (by decide)))
    have f83 : w75 (md 7) = some (.inl (G.2.1 0, 16, .inl (Fm 7))) := by rw [eww75]; exact g_up_f f8 ((fun q => absurd (Hj 7 0 (by decide) (by decide) q) (by decide)))
    have f84 : w75 (md 8) = some (.inl (G.2.1 0, 20, .inl (Fm 8))) := by rw [eww75]; exact g_up_f f9 ((fun q => absurd (Hj 8 0 (by decide) (by decide) q) (by decide)))
    have f85 : w75 (md 9) = some (.inl (G.2.1 1, 10, .inr (.inl (L 0)))) := by rw [eww75]; exact g_up_f f10 ((fun q => absurd (Hj 9 0 (by decide) (by decide) q) (by decide)))
    have f86 : w75 (md 10) = some (.inl (G.2.1 1, 10, .inr (.inl (L 1)))) := by rw [eww75]; exact g_up_f f11 ((fun q => absurd (Hj 10 0 (by decide) (by decide) q) (by decide)))
    have f87 : w75 (md 11) = some (.inl (G.2.1 0, 10, .inl (Fm 11))) := by rw [eww75]; exact g_up_f f12 ((fun q => absurd (Hj 11 0 (by decide) (by decide) q) (by decide)))
    have f88 : w75 (md 0) = some (.inr (8, [.int 1, .int (iL (S 0 0)), .ref (md 1), .ref (md 2), .ref (md 3), .int (iL (S 0 4)), .int (iL (S 0 5)), .int (iL (S 0 1)), .ref (md 4), .ref (md 5), .int (iL (S 0 2)), .ref (md 6), .ref (md 7), .int (iL (S 0 3)), .ref (md 8), .ref (md 9), .ref (md 10), .ref (md 11), .long tp, .long bt])) := by rw [eww75]; exact g_up_s _ _ _
    rw [hQ]
    refine g_iret F hP hS hlocks hr dX7_move_18 (by first | exact Nat.le_of_ble_eq_true rfl | omega) (by first | exact Nat.le_of_ble_eq_true rfl | omega) ?_
    exact mRes_no (c := 1) (if_neg yc17) (by decide) ⟨mFr_tr (mFr_tr (mFr_rf _ _) (mFr_se (i := 0) (by decide) ew1)) (mFr_se (i := 0) (by decide) eww75), _, _, Fm, L, ⟨f88, f77, f78, f79, f80, f81, f82, f83, f84, f85, f86, f87⟩, Hf⟩
