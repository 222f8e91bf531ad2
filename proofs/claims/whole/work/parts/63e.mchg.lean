set_option maxHeartbeats 4000000 in
set_option maxRecDepth 100000 in
theorem k_X7_drive (l : Launch) (A : Nat → Prop) (G : g_C) (w : g_W) (md : Nat → Nat) (S : Sg) (th : Int32) (tp bt : Int64) (Fm : Nat → Nat → Int32) (L : Nat → Nat → Int64) (pn vn : Int32) (Hm : modW G w md S th tp bt Fm L) (Hj : modI md) (Hf : modF S Fm) (Hi : invS S) : mI l yX7_drive wsX7_drive ({ frames := 2, cells := 0, slots := 0, locals := 43 } : Room) [.ref (md 0), .int pn, .int vn] A G w (fun r w' => mRes G md w w' S (nxDrive S pn vn) (cdDrive S pn vn) (r = vlDrive S)) 0 0 := by
  refine g_ofI (cc := cX7_drive) (maxL := 4) (ret := (some .int)) (own := RX7) (by decide) rfl rfl (Nat.le_of_ble_eq_true rfl) ?_
  intro p e R s m args below meth c Q ls hR F hP hS hlocks hr hnm0 hQ hl
  obtain ⟨⟨hx, hb, hml, hown, hts⟩, hK, hZ, hA⟩ := id F
  generalize hH0 : s.heap = H at hP ⊢
  have hS : va_S A s.heap H [] := by rw [← hH0]; exact va_S.rf
  generalize ([] : List Loc) = locs at hS ⊢
  have hl : lv_has ls 4 [(0, .ref (md 0)), (1, .int pn), (2, .int vn)] := hl
  have iX7 : ∀ w ∈ u_ws RX7 TX7 20, w ∈ wsX7_drive := fun w h => List.mem_cons_of_mem _ (List.mem_append_right _ (h))
  obtain ⟨hx0, hy1, hy2, hy3, hy4, hy5, hy6, hy7, hy8, hy9, hy10, hy11⟩ := id Hm
  have hi := Hi.1
  refine lv_aload_n hx hb dX7_drive_0 rfl (lv_at hl 0 rfl) ?_
  refine lv_iconst (v := 0) hx hb dX7_drive_1 (by decide) ?_
  refine g_put F hP hS (C := RX7) (T := TX7) (N := 20) (v := .int 0) (ty := .int) iX7 tyX7 tyX7_ok nmX7 hx0 rfl 0 (by decide) (List.mem_cons_of_mem _ (List.mem_append_left _ (List.mem_of_getElem? (i := 0) rfl))) (fun _ h9 => h9) rfl (by decide +kernel) rfl rfl (by show 0 < 20; decide) dX7_drive_2 (fun H locs hP hS => ?_)
  obtain ⟨w1, ew1⟩ : ∃ z, z = g_up w (md 0) (.inr (8, [.int 0, .int (iL (S 0 0)), .ref (md 1), .ref (md 2), .ref (md 3), .int (iL (S 0 4)), .int (iL (S 0 5)), .int (iL (S 0 1)), .ref (md 4), .ref (md 5), .int (iL (S 0 2)), .ref (md 6), .ref (md 7), .int (iL (S 0 3)), .ref (md 8), .ref (md 9), .ref (md 10), .ref (md 11), .long tp, .long bt])) := ⟨_, rfl⟩
  have hP : g_P A G w1 H := by rw [ew1]; exact hP
  have f2 : w1 (md 1) = some (.inl (G.2.1 0, 10, .inl (Fm 1))) := by rw [ew1]; exact g_up_f hy1 ((fun q => absurd (Hj 1 0 (by decide) (by decide) q) (by decide)))
  have f3 : w1 (md 2) = some (.inl (G.2.1 0, 10, .inl (Fm 2))) := by rw [ew1]; exact g_up_f hy2 ((fun q => absurd (Hj 2 0 (by decide) (by decide) q) (by decide)))
  have f4 : w1 (md 3) = some (.inl (G.2.1 2, 10, .inl (Fm 3))) := by rw [ew1]; exact g_up_f hy3 ((fun q => absurd (Hj 3 0 (by decide) (by decide) q) (by decide)))
  have f5 : w1 (md 4) = some (.inl (G.2.1 0, 64, .inl (Fm 4))) := by rw [ew1]; exact g_up_f hy4 ((fun q => absurd (Hj 4 0 (by decide) (by decide) q) (by decide)))
  have f6 : w1 (md 5) = some (.inl (G.2.1 2, 16, .inl (Fm 5))) := by rw [ew1]; exact g_up_f hy5 ((fun q => absurd (Hj 5 0 (by decide) (by decide) q) (by decide)))
  have f7 : w1 (md 6) = some (.inl (G.2.1 0, 16, .inl (Fm 6))) := by rw [ew1]; exact g_up_f hy6 ((fun q => absurd (Hj 6 0 (by decide) (by decide) q) (by decide)))
  have f8 : w1 (md 7) = some (.inl (G.2.1 0, 16, .inl (Fm 7))) := by rw [ew1]; exact g_up_f hy7 ((fun q => absurd (Hj 7 0 (by decide) (by decide) q) (by decide)))
  have f9 : w1 (md 8) = some (.inl (G.2.1 0, 20, .inl (Fm 8))) := by rw [ew1]; exact g_up_f hy8 ((fun q => absurd (Hj 8 0 (by decide) (by decide) q) (by decide)))
  have f10 : w1 (md 9) = some (.inl (G.2.1 1, 10, .inr (.inl (L 0)))) := by rw [ew1]; exact g_up_f hy9 ((fun q => absurd (Hj 9 0 (by decide) (by decide) q) (by decide)))
  have f11 : w1 (md 10) = some (.inl (G.2.1 1, 10, .inr (.inl (L 1)))) := by rw [ew1]; exact g_up_f hy10 ((fun q => absurd (Hj 10 0 (by decide) (by decide) q) (by decide)))
  have f12 : w1 (md 11) = some (.inl (G.2.1 0, 10, .inl (Fm 11))) := by rw [ew1]; exact g_up_f hy11 ((fun q => absurd (Hj 11 0 (by decide) (by decide) q) (by decide)))
  have f13 : w1 (md 0) = some (.inr (8, [.int 0, .int (iL (S 0 0)), .ref (md 1), .ref (md 2), .ref (md 3), .int (iL (S 0 4)), .int (iL (S 0 5)), .int (iL (S 0 1)), .ref (md 4), .ref (md 5), .int (iL (S 0 2)), .ref (md 6), .ref (md 7), .int (iL (S 0 3)), .ref (md 8), .ref (md 9), .ref (md 10), .ref (md 11), .long tp, .long bt])) := by rw [ew1]; exact g_up_s _ _ _
  refine lv_aload_n hx hb dX7_drive_5 rfl (lv_at hl 0 rfl) ?_
  refine lv_iload_n hx hb dX7_drive_6 rfl (lv_at hl 1 rfl) ?_
  refine g_Vi (As := [.int pn]) (rest := []) F hP hS (k_X7_isShaft l A G w1 md S _ _ _ Fm L pn f13 Hf Hi) (cwV 1 hts gX7_drive_X7_isShaft rfl rfl rfl cd_X7_isShaft ⟨by rw [hR]; exact Nat.le_of_ble_eq_true rfl, by rw [hR]; exact Nat.le_of_ble_eq_true rfl⟩) f13 rfl rfl rfl hl.1 (Nat.le_of_ble_eq_true rfl) dX7_drive_7 ⟨by rw [hR]; exact Nat.le_of_ble_eq_true rfl, by rw [hR]; exact Nat.le_of_ble_eq_true rfl⟩ rfl (fun r14 w15 H locs h16 hP hS => ?_)
  have hr14 := h16.1
  rw [h16.2] at hP
  rw [hr14]
  refine lv_if_ne (tgt := 19) hx hb dX7_drive_10 (by decide) (fun c17 => ?_) (fun c17 => ?_)
  · have yc17 := of_decide_eq_true (g_b1.mp c17)
    refine lv_iload_n hx hb dX7_drive_19 rfl (lv_at hl 2 rfl) ?_
    refine lv_sipush (v := (-1000)) hx hb dX7_drive_20 (by decide) ?_
    refine lv_sipush (v := 1000) hx hb dX7_drive_23 (by decide) ?_
    refine g_Si (As := [.int vn, .int (-1000), .int 1000]) (rest := []) F hP hS (k_X7_isIn l A G w1 vn (-1000) 1000) (va_cwS 3 hts gX7_drive_X7_isIn rfl rfl rfl cd_X7_isIn ⟨by rw [hR]; exact Nat.le_of_ble_eq_true rfl, by rw [hR]; exact Nat.le_of_ble_eq_true rfl⟩) rfl hl.1 (Nat.le_of_ble_eq_true rfl) dX7_drive_26 ⟨by rw [hR]; exact Nat.le_of_ble_eq_true rfl, by rw [hR]; exact Nat.le_of_ble_eq_true rfl⟩ rfl (fun r18 w19 H locs h20 hP hS => ?_)
    have hr18 := h20.1
    rw [h20.2] at hP
    rw [hr18]
    refine lv_if_ne (tgt := 38) hx hb dX7_drive_29 (by decide) (fun c21 => ?_) (fun c21 => ?_)
    · have yc21 := of_decide_eq_true (g_b1.mp c21)
      have kv : ((-1000) ≤ vn ∧ vn ≤ 1000) ↔ inQ vn (-1000) 1000 := by rw [Int32.le_iff_toInt_le, Int32.le_iff_toInt_le]; exact Iff.rfl
      rw [kv] at yc21
      have hix : vp_in pn 10 := by rw [kN_e yc17.1]; exact vp_in_nI (by have := kN_lt yc17; omega) (by decide)
      have hkk := kN_lt yc17
      refine lv_aload_n hx hb dX7_drive_38 rfl (lv_at hl 0 rfl) ?_
      refine g_get F hP (C := RX7) (T := TX7) (N := 20) iX7 f13 rfl 5 (by decide) (List.mem_cons_of_mem _ (List.mem_append_left _ (List.mem_of_getElem? (i := 1) rfl))) (fun _ h9 => h9) rfl dX7_drive_39 ?_
      refine lv_istore_n (lv' := [(3, .int (iL (S 0 4))), (0, .ref (md 0)), (1, .int pn), (2, .int vn)]) hx hb dX7_drive_42 rfl hl (by decide) rfl (fun ls hl => ?_)
      refine lv_aload_n hx hb dX7_drive_43 rfl (lv_at hl 1 rfl) ?_
      refine lv_iload_n hx hb dX7_drive_44 rfl (lv_at hl 2 rfl) ?_
      refine g_put F hP hS (C := RX7) (T := TX7) (N := 20) (v := .int pn) (ty := .int) iX7 tyX7 tyX7_ok nmX7 f13 rfl 5 (by decide) (List.mem_cons_of_mem _ (List.mem_append_left _ (List.mem_of_getElem? (i := 1) rfl))) (fun _ h9 => h9) rfl (by decide +kernel) rfl rfl (by show 5 < 20; decide) dX7_drive_45 (fun H locs hP hS => ?_)
      obtain ⟨w22, ew22⟩ : ∃ z, z = g_up w1 (md 0) (.inr (8, [.int 0, .int (iL (S 0 0)), .ref (md 1), .ref (md 2), .ref (md 3), .int pn, .int (iL (S 0 5)), .int (iL (S 0 1)), .ref (md 4), .ref (md 5), .int (iL (S 0 2)), .ref (md 6), .ref (md 7), .int (iL (S 0 3)), .ref (md 8), .ref (md 9), .ref (md 10), .ref (md 11), .long tp, .long bt])) := ⟨_, rfl⟩
      have hP : g_P A G w22 H := by rw [ew22]; exact hP
      have f23 : w22 (md 1) = some (.inl (G.2.1 0, 10, .inl (Fm 1))) := by rw [ew22]; exact g_up_f f2 ((fun q => absurd (Hj 1 0 (by decide) (by decide) q) (by decide)))
      have f24 : w22 (md 2) = some (.inl (G.2.1 0, 10, .inl (Fm 2))) := by rw [ew22]; exact g_up_f f3 ((fun q => absurd (Hj 2 0 (by decide) (by decide) q) (by decide)))
      have f25 : w22 (md 3) = some (.inl (G.2.1 2, 10, .inl (Fm 3))) := by rw [ew22]; exact g_up_f f4 ((fun q => absurd (Hj 3 0 (by decide) (by decide) q) (by decide)))
      have f26 : w22 (md 4) = some (.inl (G.2.1 0, 64, .inl (Fm 4))) := by rw [ew22]; exact g_up_f f5 ((fun q => absurd (Hj 4 0 (by decide) (by decide) q) (by decide)))
      have f27 : w22 (md 5) = some (.inl (G.2.1 2, 16, .inl (Fm 5))) := by rw [ew22]; exact g_up_f f6 ((fun q => absurd (Hj 5 0 (by decide) (by decide) q) (by decide)))
      have f28 : w22 (md 6) = some (.inl (G.2.1 0, 16, .inl (Fm 6))) := by rw [ew22]; exact g_up_f f7 ((fun q => absurd (Hj 6 0 (by decide) (by decide) q) (by decide)))
      have f29 : w22 (md 7) = some (.inl (G.2.1 0, 16, .inl (Fm 7))) := by rw [ew22]; exact g_up_f f8 ((fun q => absurd (Hj 7 0 (by decide) (by decide) q) (by decide)))
      have f30 : w22 (md 8) = some (.inl (G.2.1 0, 20, .inl (Fm 8))) := by rw [ew22]; exact g_up_f f9 ((fun q => absurd (Hj 8 0 (by decide) (by decide) q) (by decide)))
      have f31 : w22 (md 9) = some (.inl (G.2.1 1, 10, .inr (.inl (L 0)))) := by rw [ew22]; exact g_up_f f10 ((fun q => absurd (Hj 9 0 (by decide) (by decide) q) (by decide)))
      have f32 : w22 (md 10) = some (.inl (G.2.1 1, 10, .inr (.inl (L 1)))) := by rw [ew22]; exact g_up_f f11 ((fun q => absurd (Hj 10 0 (by decide) (by decide) q) (by decide)))
      have f33 : w22 (md 11) = some (.inl (G.2.1 0, 10, .inl (Fm 11))) := by rw [ew22]; exact g_up_f f12 ((fun q => absurd (Hj 11 0 (by decide) (by decide) q) (by decide)))
      have f34 : w22 (md 0) = some (.inr (8, [.int 0, .int (iL (S 0 0)), .ref (md 1), .ref (md 2), .ref (md 3), .int pn, .int (iL (S 0 5)), .int (iL (S 0 1)), .ref (md 4), .ref (md 5), .int (iL (S 0 2)), .ref (md 6), .ref (md 7), .int (iL (S 0 3)), .ref (md 8), .ref (md 9), .ref (md 10), .ref (md 11), .long tp, .long bt])) := by rw [ew22]; exact g_up_s _ _ _
      refine lv_aload_n hx hb dX7_drive_48 rfl (lv_at hl 1 rfl) ?_
      refine lv_iload_n hx hb dX7_drive_49 rfl (lv_at hl 3 rfl) ?_
      refine g_put F hP hS (C := RX7) (T := TX7) (N := 20) (v := .int vn) (ty := .int) iX7 tyX7 tyX7_ok nmX7 f34 rfl 6 (by decide) (List.mem_cons_of_mem _ (List.mem_append_left _ (List.mem_of_getElem? (i := 2) rfl))) (fun _ h9 => h9) rfl (by decide +kernel) rfl rfl (by show 6 < 20; decide) dX7_drive_50 (fun H locs hP hS => ?_)
      obtain ⟨w35, ew35⟩ : ∃ z, z = g_up w22 (md 0) (.inr (8, [.int 0, .int (iL (S 0 0)), .ref (md 1), .ref (md 2), .ref (md 3), .int pn, .int vn, .int (iL (S 0 1)), .ref (md 4), .ref (md 5), .int (iL (S 0 2)), .ref (md 6), .ref (md 7), .int (iL (S 0 3)), .ref (md 8), .ref (md 9), .ref (md 10), .ref (md 11), .long tp, .long bt])) := ⟨_, rfl⟩
      have hP : g_P A G w35 H := by rw [ew35]; exact hP
      have f36 : w35 (md 1) = some (.inl (G.2.1 0, 10, .inl (Fm 1))) := by rw [ew35]; exact g_up_f f23 ((fun q => absurd (Hj 1 0 (by decide) (by decide) q) (by decide)))
      have f37 : w35 (md 2) = some (.inl (G.2.1 0, 10, .inl (Fm 2))) := by rw [ew35]; exact g_up_f f24 ((fun q => absurd (Hj 2 0 (by decide) (by decide) q) (by decide)))
      have f38 : w35 (md 3) = some (.inl (G.2.1 2, 10, .inl (Fm 3))) := by rw [ew35]; exact g_up_f f25 ((fun q => absurd (Hj 3 0 (by decide) (by decide) q) (by decide)))
      have f39 : w35 (md 4) = some (.inl (G.2.1 0, 64, .inl (Fm 4))) := by rw [ew35]; exact g_up_f f26 ((fun q => absurd (Hj 4 0 (by decide) (by decide) q) (by decide)))
      have f40 : w35 (md 5) = some (.inl (G.2.1 2, 16, .inl (Fm 5))) := by rw [ew35]; exact g_up_f f27 ((fun q => absurd (Hj 5 0 (by decide) (by decide) q) (by decide)))
      have f41 : w35 (md 6) = some (.inl (G.2.1 0, 16, .inl (Fm 6))) := by rw [ew35]; exact g_up_f f28 ((fun q => absurd (Hj 6 0 (by decide) (by decide) q) (by decide)))
      have f42 : w35 (md 7) = some (.inl (G.2.1 0, 16, .inl (Fm 7))) := by rw [ew35]; exact g_up_f f29 ((fun q => absurd (Hj 7 0 (by decide) (by decide) q) (by decide)))
      have f43 : w35 (md 8) = some (.inl (G.2.1 0, 20, .inl (Fm 8))) := by rw [ew35]; exact g_up_f f30 ((fun q => absurd (Hj 8 0 (by decide) (by decide) q) (by decide)))
      have f44 : w35 (md 9) = some (.inl (G.2.1 1, 10, .inr (.inl (L 0)))) := by rw [ew35]; exact g_up_f f31 ((fun q => absurd (Hj 9 0 (by decide) (by decide) q) (by decide)))
      have f45 : w35 (md 10) = some (.inl (G.2.1 1, 10, .inr (.inl (L 1)))) := by rw [ew35]; exact g_up_f f32 ((fun q => absurd (Hj 10 0 (by decide) (by decide) q) (by decide)))
      have f46 : w35 (md 11) = some (.inl (G.2.1 0, 10, .inl (Fm 11))) := by rw [ew35]; exact g_up_f f33 ((fun q => absurd (Hj 11 0 (by decide) (by decide) q) (by decide)))
      have f47 : w35 (md 0) = some (.inr (8, [.int 0, .int (iL (S 0 0)), .ref (md 1), .ref (md 2), .ref (md 3), .int pn, .int vn, .int (iL (S 0 1)), .ref (md 4), .ref (md 5), .int (iL (S 0 2)), .ref (md 6), .ref (md 7), .int (iL (S 0 3)), .ref (md 8), .ref (md 9), .ref (md 10), .ref (md 11), .long tp, .long bt])) := by rw [ew35]; exact g_up_s _ _ _
      refine lv_aload_n hx hb dX7_drive_53 rfl (lv_at hl 1 rfl) ?_
      refine g_get F hP (C := RX7) (T := TX7) (N := 20) iX7 f47 rfl 4 (by decide) (List.mem_cons_of_mem _ (List.mem_append_left _ (List.mem_of_getElem? (i := 3) rfl))) (fun _ h9 => h9) rfl dX7_drive_54 ?_
      refine lv_iload_n hx hb dX7_drive_57 rfl (lv_at hl 2 rfl) ?_
      refine lv_iconst (v := 0) hx hb dX7_drive_58 (by decide) ?_
      refine g_zast F hP hS f38 hix (by decide) dX7_drive_59 (fun H locs hP hS => ?_)
      obtain ⟨w48, ew48⟩ : ∃ z, z = g_up w35 (md 3) (.inl (G.2.1 2, 10, .inl (upd (Fm 3) (pn : Int32).toNatClampNeg 0))) := ⟨_, rfl⟩
      have hP : g_P A G w48 H := by rw [ew48]; exact hP
      have f49 : w48 (md 1) = some (.inl (G.2.1 0, 10, .inl (Fm 1))) := by rw [ew48]; exact g_up_f f36 ((fun q => absurd (Hj 1 3 (by decide) (by decide) q) (by decide)))
      have f50 : w48 (md 2) = some (.inl (G.2.1 0, 10, .inl (Fm 2))) := by rw [ew48]; exact g_up_f f37 ((fun q => absurd (Hj 2 3 (by decide) (by decide) q) (by decide)))
      have f51 : w48 (md 4) = some (.inl (G.2.1 0, 64, .inl (Fm 4))) := by rw [ew48]; exact g_up_f f39 ((fun q => absurd (Hj 4 3 (by decide) (by decide) q) (by decide)))
      have f52 : w48 (md 5) = some (.inl (G.2.1 2, 16, .inl (Fm 5))) := by rw [ew48]; exact g_up_f f40 ((fun q => absurd (Hj 5 3 (by decide) (by decide) q) (by decide)))
      have f53 : w48 (md 6) = some (.inl (G.2.1 0, 16, .inl (Fm 6))) := by rw [ew48]; exact g_up_f f41 ((fun q => absurd (Hj 6 3 (by decide) (by decide) q) (by decide)))
      have f54 : w48 (md 7) = some (.inl (G.2.1 0, 16, .inl (Fm 7))) := by rw [ew48]; exact g_up_f f42 ((fun q => absurd (Hj 7 3 (by decide) (by decide) q) (by decide)))
      have f55 : w48 (md 8) = some (.inl (G.2.1 0, 20, .inl (Fm 8))) := by rw [ew48]; exact g_up_f f43 ((fun q => absurd (Hj 8 3 (by decide) (by decide) q) (by decide)))
      have f56 : w48 (md 9) = some (.inl (G.2.1 1, 10, .inr (.inl (L 0)))) := by rw [ew48]; exact g_up_f f44 ((fun q => absurd (Hj 9 3 (by decide) (by decide) q) (by decide)))
      have f57 : w48 (md 10) = some (.inl (G.2.1 1, 10, .inr (.inl (L 1)))) := by rw [ew48]; exact g_up_f f45 ((fun q => absurd (Hj 10 3 (by decide) (by decide) q) (by decide)))
      have f58 : w48 (md 11) = some (.inl (G.2.1 0, 10, .inl (Fm 11))) := by rw [ew48]; exact g_up_f f46 ((fun q => absurd (Hj 11 3 (by decide) (by decide) q) (by decide)))
      have f59 : w48 (md 0) = some (.inr (8, [.int 0, .int (iL (S 0 0)), .ref (md 1), .ref (md 2), .ref (md 3), .int pn, .int vn, .int (iL (S 0 1)), .ref (md 4), .ref (md 5), .int (iL (S 0 2)), .ref (md 6), .ref (md 7), .int (iL (S 0 3)), .ref (md 8), .ref (md 9), .ref (md 10), .ref (md 11), .long tp, .long bt])) := by rw [ew48]; exact g_up_f f47 ((fun q => absurd (Hj 0 3 (by decide) (by decide) q) (by decide)))
      have f60 : w48 (md 3) = some (.inl (G.2.1 2, 10, .inl (upd (Fm 3) (pn : Int32).toNatClampNeg 0))) := by rw [ew48]; exact g_up_s _ _ _
      refine lv_iload_n hx hb dX7_drive_60 rfl (lv_at hl 0 rfl) ?_
      rw [hQ]
      refine g_iret F hP hS hlocks hr dX7_drive_61 (by first | exact Nat.le_of_ble_eq_true rfl | omega) (by first | exact Nat.le_of_ble_eq_true rfl | omega) ?_
      have e4 : nxDrive S pn vn 0 4 = pn.toInt := by unfold nxDrive; rw [up2_k _ _ _ (by decide), up2_i _ _ _ (by decide), up2_s]; unfold kN; have := yc17.1; omega
      have e5 : nxDrive S pn vn 0 5 = vn.toInt := by unfold nxDrive; rw [up2_k _ _ _ (by decide), up2_s]
      have e0' : ∀ i, i < 4 → nxDrive S pn vn 0 i = S 0 i := fun i z => by unfold nxDrive; rw [up2_k _ _ _ (by decide), up2_i _ _ _ (by omega), up2_i _ _ _ (by omega)]
      exact Or.inr ⟨(if_pos yc17).trans (if_pos yc21), rfl, ⟨mFr_tr (mFr_tr (mFr_tr (mFr_tr (mFr_rf _ _) (mFr_se (i := 0) (by decide) ew1)) (mFr_se (i := 0) (by decide) ew22)) (mFr_se (i := 0) (by decide) ew35)) (mFr_se (i := 3) (by decide) ew48), _, _, (up1 Fm 3 (upd (Fm 3) pn.toNatClampNeg 0)), L, ⟨(by rw [mC_of (by rw [e0' 0 (by decide)]) (by rw [e0' 1 (by decide)]) (by rw [e0' 2 (by decide)]) (by rw [e0' 3 (by decide)]) (by rw [e4, iL_x]) (by rw [e5, iL_x])]; exact f59), f49, f50, f60, f51, f52, f53, f54, f55, f56, f57, f58⟩, modF_drive Hf yc17 hi.2.1⟩⟩
    · have yc21 := of_decide_eq_false (g_b0.mp c21)
      have kv : ((-1000) ≤ vn ∧ vn ≤ 1000) ↔ inQ vn (-1000) 1000 := by rw [Int32.le_iff_toInt_le, Int32.le_iff_toInt_le]; exact Iff.rfl
      rw [kv] at yc21
      refine lv_aload_n hx hb dX7_drive_32 rfl (lv_at hl 0 rfl) ?_
      refine lv_iconst (v := 2) hx hb dX7_drive_33 (by decide) ?_
      refine g_Vi (As := [.int 2]) (rest := []) F hP hS (k_X7_fail l A G w1 md S _ _ _ Fm L 2 f13) (cwV 1 hts gX7_drive_X7_fail rfl rfl rfl cd_X7_fail ⟨by rw [hR]; exact Nat.le_of_ble_eq_true rfl, by rw [hR]; exact Nat.le_of_ble_eq_true rfl⟩) f13 rfl rfl rfl hl.1 (Nat.le_of_ble_eq_true rfl) dX7_drive_34 ⟨by rw [hR]; exact Nat.le_of_ble_eq_true rfl, by rw [hR]; exact Nat.le_of_ble_eq_true rfl⟩ rfl (fun r61 w62 H locs h63 hP hS => ?_)
      obtain ⟨er, eww62⟩ := h63
      rw [er]
      have f64 : w62 (md 1) = some (.inl (G.2.1 0, 10, .inl (Fm 1))) := by rw [eww62]; exact g_up_f f2 ((fun q => absurd (Hj 1 0 (by decide) (by decide) q) (by decide)))
      have f65 : w62 (md 2) = some (.inl (G.2.1 0, 10, .inl (Fm 2))) := by rw [eww62]; exact g_up_f f3 ((fun q => absurd (Hj 2 0 (by decide) (by decide) q) (by decide)))
      have f66 : w62 (md 3) = some (.inl (G.2.1 2, 10, .inl (Fm 3))) := by rw [eww62]; exact g_up_f f4 ((fun q => absurd (Hj 3 0 (by decide) (by decide) q) (by decide)))
      have f67 : w62 (md 4) = some (.inl (G.2.1 0, 64, .inl (Fm 4))) := by rw [eww62]; exact g_up_f f5 ((fun q => absurd (Hj 4 0 (by decide) (by decide) q) (by decide)))
      have f68 : w62 (md 5) = some (.inl (G.2.1 2, 16, .inl (Fm 5))) := by rw [eww62]; exact g_up_f f6 ((fun q => absurd (Hj 5 0 (by decide) (by decide) q) (by decide)))
      have f69 : w62 (md 6) = some (.inl (G.2.1 0, 16, .inl (Fm 6))) := by rw [eww62]; exact g_up_f f7 ((fun q => absurd (Hj 6 0 (by decide) (by decide) q) (by decide)))
      have f70 : w62 (md 7) = some (.inl (G.2.1 0, 16, .inl (Fm 7))) := by rw [eww62]; exact g_up_f f8 ((fun q => absurd (Hj 7 0 (by decide) (by decide) q) (by decide)))
      have f71 : w62 (md 8) = some (.inl (G.2.1 0, 20, .inl (Fm 8))) := by rw [eww62]; exact g_up_f f9 ((fun q => absurd (Hj 8 0 (by decide) (by decide) q) (by decide)))
      have f72 : w62 (md 9) = some (.inl (G.2.1 1, 10, .inr (.inl (L 0)))) := by rw [eww62]; exact g_up_f f10 ((fun q => absurd (Hj 9 0 (by decide) (by decide) q) (by decide)))
      have f73 : w62 (md 10) = some (.inl (G.2.1 1, 10, .inr (.inl (L 1)))) := by rw [eww62]; exact g_up_f f11 ((fun q => absurd (Hj 10 0 (by decide) (by decide) q) (by decide)))
      have f74 : w62 (md 11) = some (.inl (G.2.1 0, 10, .inl (Fm 11))) := by rw [eww62]; exact g_up_f f12 ((fun q => absurd (Hj 11 0 (by decide) (by decide) q) (by decide)))
      have f75 : w62 (md 0) = some (.inr (8, [.int 2, .int (iL (S 0 0)), .ref (md 1), .ref (md 2), .ref (md 3), .int (iL (S 0 4)), .int (iL (S 0 5)), .int (iL (S 0 1)), .ref (md 4), .ref (md 5), .int (iL (S 0 2)), .ref (md 6), .ref (md 7), .int (iL (S 0 3)), .ref (md 8), .ref (md 9), .ref (md 10), .ref (md 11), .long tp, .long bt])) := by rw [eww62]; exact g_up_s _ _ _
      rw [hQ]
      refine g_iret F hP hS hlocks hr dX7_drive_37 (by first | exact Nat.le_of_ble_eq_true rfl | omega) (by first | exact Nat.le_of_ble_eq_true rfl | omega) ?_
      exact mRes_no (c := 2) ((if_pos yc17).trans (if_neg yc21)) (by decide) ⟨mFr_tr (mFr_tr (mFr_rf _ _) (mFr_se (i := 0) (by decide) ew1)) (mFr_se (i := 0) (by decide) eww62), _, _, Fm, L, ⟨f75, f64, f65, f66, f67, f68, f69, f70, f71, f72, f73, f74⟩, Hf⟩
  · have yc17 := of_decide_eq_false (g_b0.mp c17)
    refine lv_aload_n hx hb dX7_drive_13 rfl (lv_at hl 0 rfl) ?_
    refine lv_iconst (v := 1) hx hb dX7_drive_14 (by decide) ?_
    refine g_Vi (As := [.int 1]) (rest := []) F hP hS (k_X7_fail l A G w1 md S _ _ _ Fm L 1 f13) (cwV 1 hts gX7_drive_X7_fail rfl rfl rfl cd_X7_fail ⟨by rw [hR]; exact Nat.le_of_ble_eq_true rfl, by rw [hR]; exact Nat.le_of_ble_eq_true rfl⟩) f13 rfl rfl rfl hl.1 (Nat.le_of_ble_eq_true rfl) dX7_drive_15 ⟨by rw [hR]; exact Nat.le_of_ble_eq_true rfl, by rw [hR]; exact Nat.le_of_ble_eq_true rfl⟩ rfl (fun r76 w77 H locs h78 hP hS => ?_)
    obtain ⟨er, eww77⟩ := h78
    rw [er]
    have f79 : w77 (md 1) = some (.inl (G.2.1 0, 10, .inl (Fm 1))) := by rw [eww77]; exact g_up_f f2 ((fun q => absurd (Hj 1 0 (by decide) (by decide) q) (by decide)))
    have f80 : w77 (md 2) = some (.inl (G.2.1 0, 10, .inl (Fm 2))) := by rw [eww77]; exact g_up_f f3 ((fun q => absurd (Hj 2 0 (by decide) (by decide) q) (by decide)))
    have f81 : w77 (md 3) = some (.inl (G.2.1 2, 10, .inl (Fm 3))) := by rw [eww77]; exact g_up_f f4 ((fun q => absurd (Hj 3 0 (by decide) (by decide) q) (by decide)))
    have f82 : w77 (md 4) = some (.inl (G.2.1 0, 64, .inl (Fm 4))) := by rw [eww77]; exact g_up_f f5 ((fun q => absurd (Hj 4 0 (by decide) (by decide) q) (by decide)))
    have f83 : w77 (md 5) = some (.inl (G.2.1 2, 16, .inl (Fm 5))) := by rw [eww77]; exact g_up_f f6 ((fun q => absurd (Hj 5 0 (by decide) (by decide) q) (by decide)))
    have f84 : w77 (md 6) = some (.inl (G.2.1 0, 16, .inl (Fm 6))) := by rw [eww77]; exact g_up_f f7 ((fun q => absurd (Hj 6 0 (by decide) (by decide) q) (by decide)))
    have f85 : w77 (md 7) = some (.inl (G.2.1 0, 16, .inl (Fm 7))) := by rw [eww77]; exact g_up_f f8 ((fun q => absurd (Hj 7 0 (by decide) (by decide) q) (by decide)))
    have f86 : w77 (md 8) = some (.inl (G.2.1 0, 20, .inl (Fm 8))) := by rw [eww77]; exact g_up_f f9 ((fun q => absurd (Hj 8 0 (by decide) (by decide) q) (by decide)))
    have f87 : w77 (md 9) = some (.inl (G.2.1 1, 10, .inr (.inl (L 0)))) := by rw [eww77]; exact g_up_f f10 ((fun q => absurd (Hj 9 0 (by decide) (by decide) q) (by decide)))
    have f88 : w77 (md 10) = some (.inl (G.2.1 1, 10, .inr (.inl (L 1)))) := by rw [eww77]; exact g_up_f f11 ((fun q => absurd (Hj 10 0 (by decide) (by decide) q) (by decide)))
    have f89 : w77 (md 11) = some (.inl (G.2.1 0, 10, .inl (Fm 11))) := by rw [eww77]; exact g_up_f f12 ((fun q => absurd (Hj 11 0 (by decide) (by decide) q) (by decide)))
    have f90 : w77 (md 0) = some (.inr (8, [.int 1, .int (iL (S 0 0)), .ref (md 1), .ref (md 2), .ref (md 3), .int (iL (S 0 4)), .int (iL (S 0 5)), .int (iL (S 0 1)), .ref (md 4), .ref (md 5), .int (iL (S 0 2)), .ref (md 6), .ref (md 7), .int (iL (S 0 3)), .ref (md 8), .ref (md 9), .ref (md 10), .ref (md 11), .long tp, .long bt])) := by rw [eww77]; exact g_up_s _ _ _
    rw [hQ]
    refine g_iret F hP hS hlocks hr dX7_drive_18 (by first | exact Nat.le_of_ble_eq_true rfl | omega) (by first | exact Nat.le_of_ble_eq_true rfl | omega) ?_
    exact mRes_no (c := 1) (if_neg yc17) (by decide) ⟨mFr_tr (mFr_tr (mFr_rf _ _) (mFr_se (i := 0) (by decide) ew1)) (mFr_se (i := 0) (by decide) eww77), _, _, Fm, L, ⟨f90, f79, f80, f81, f82, f83, f84, f85, f86, f87, f88, f89⟩, Hf⟩
