theorem cd_X7_arePlace : yX7_arePlace.cls ≠ "java/lang/invoke/MethodHandle" ∧ yX7_arePlace.cls ≠ "java/lang/invoke/VarHandle" ∧ (parseMethodDescriptor yX7_arePlace.desc).map (fun d => d.parameters.length) = some 2 := by decide +kernel
set_option maxHeartbeats 4000000 in
set_option maxRecDepth 100000 in
theorem k_X7_addShaft (l : Launch) (A : Nat → Prop) (G : g_C) (w : g_W) (md : Nat → Nat) (S : Sg) (th : Int32) (tp bt : Int64) (Fm : Nat → Nat → Int32) (L : Nat → Nat → Int64) (x y : Int32) (Hm : modW G w md S th tp bt Fm L) (Hj : modI md) (Hf : modF S Fm) (Hi : invS S) : mI l yX7_addShaft wsX7_addShaft ({ frames := 2, cells := 0, slots := 0, locals := 43 } : Room) [.ref (md 0), .int x, .int y] A G w (fun r w' => mRes G md w w' S (nxAddShaft S x y) (cdAddShaft S x y) (r = vlAddShaft S)) 0 0 := by
  refine g_ofI (cc := cX7_addShaft) (maxL := 3) (ret := (some .int)) (own := RX7) (by decide) rfl rfl (Nat.le_of_ble_eq_true rfl) ?_
  intro p e R s m args below meth c Q ls hR F hP hS hlocks hr hnm0 hQ hl
  obtain ⟨⟨hx, hb, hml, hown, hts⟩, hK, hZ, hA⟩ := id F
  generalize hH0 : s.heap = H at hP ⊢
  have hS : va_S A s.heap H [] := by rw [← hH0]; exact va_S.rf
  generalize ([] : List Loc) = locs at hS ⊢
  have hl : lv_has ls 3 [(0, .ref (md 0)), (1, .int x), (2, .int y)] := hl
  have iX7 : ∀ w ∈ u_ws RX7 TX7 20, w ∈ wsX7_addShaft := fun w h => List.mem_cons_of_mem _ (List.mem_append_right _ (h))
  obtain ⟨hx0, hy1, hy2, hy3, hy4, hy5, hy6, hy7, hy8, hy9, hy10, hy11⟩ := id Hm
  have hi := Hi.1
  refine lv_aload_n hx hb dX7_addShaft_0 rfl (lv_at hl 0 rfl) ?_
  refine lv_iconst (v := 0) hx hb dX7_addShaft_1 (by decide) ?_
  refine g_put F hP hS (C := RX7) (T := TX7) (N := 20) (v := .int 0) (ty := .int) iX7 tyX7 tyX7_ok nmX7 hx0 rfl 0 (by decide) (List.mem_cons_of_mem _ (List.mem_append_left _ (List.mem_of_getElem? (i := 0) rfl))) (fun _ h9 => h9) rfl (by decide +kernel) rfl rfl (by show 0 < 20; decide) dX7_addShaft_2 (fun H locs hP hS => ?_)
  obtain ⟨w1, ew1⟩ : ∃ z, z = g_up w (md 0) (.inr (8, [.int 0, .int (iL (S 0 0)), .ref (md 1), .ref (md 2), .ref (md 3), .int (iL (S 0 4)), .int (iL (S 0 5)), .int (iL (S 0 1)), .ref (md 4), .ref (md 5), .int (iL (S 0 2)), .ref (md 6), .ref (md 7), .int (iL (S 0 3)), .ref (md 8), .ref (md 9), .ref (md 10), .ref (md 11), .long tp, .long bt])) := ⟨_, rfl⟩
  have hP : g_P A G w1 H := by rw [ew1]; exact hP
  have f2 : w1 (md 1) = some (.inl (G.2.1 0, 10, .inl (Fm 1))) := by rw [ew1]; exact g_up_f hy1 ((fun q => absurd (Hj 1 0 (by decide) (by decide) q) (by decide)))
  have f3 : w1 (md 2) = some (.inl (G.2.1 0, 10, .inl (Fm 2))) := by rw [ew1]; exact g_up_f hy2 ((fun q => absurd (Hj 2 0 (by decide) (by decide) q) (by decide)))
  have f4 : w1 (md 3) = some (.inl (G.2.1 2, 10, .inl (Fm 3))) := by rw [ew1]; exact g_up_f hy3 ((fun q => absurd (Hj 3 0 (by decide) (by decide) q) (by decide)))
  have f5 : w1 (md 4) = some (.inl (G.2.1 0, 64, .inl (Fm 4))) := by rw [ew1]; exact g_up_f hy4 ((fun q => absurd (Hj 4 0 (by decide) (by decide) q) (by decide)))
  have f6 : w1 (md 5) = some (.inl (G.2.1 2, 16, .inl (Fm 5))) := by rw [ew1]; exact g_up_f hy5 ((fun q => absurd (Hj 5 0 (by decide) (by decide) q) (by decide)))
  have f7 : w1 (md 6) = some (.inl (G.2.1 0, 16, .inl (Fm 6))) := by rw [ew1]; exact g_up_f hy6 ((fun q => absurd (Hj 6 0 (by decide) (by decide) q) (by decide)))
  have f8 : w1 (md 7) = some (.inl (G.2.1 0, 16, .inl (Fm 7))) := by rw [ew1]; exact g_up_f hy7 ((fun q => absurd (Hj 7 0 (by decide) (by decide) q) (by decide)))
  have f9 : w1 (md 8) = some (.inl (G.2.1 0, 20, .inl (Fm 8))) := by rw [ew1]; exact g_up_f hy8 ((fun q => absurd (Hj 8 0 (by decide) (by decide) q) (by decide)))
  have f10 : w1 (md 9) = some (.inl (G.2.1 1, 10, .inr (.inl (L 0)))) := by rw [ew1]; exact g_up_f hy9 ((fun q => absurd (Hj 9 0 (by decide) (by decide) q) (by decide)))
  have f11 : w1 (md 10) = some (.inl (G.2.1 1, 10, .inr (.inl (L 1)))) := by rw [ew1]; exact g_up_f hy10 ((fun q => absurd (Hj 10 0 (by decide) (by decide) q) (by decide)))
  have f12 : w1 (md 11) = some (.inl (G.2.1 0, 10, .inl (Fm 11))) := by rw [ew1]; exact g_up_f hy11 ((fun q => absurd (Hj 11 0 (by decide) (by decide) q) (by decide)))
  have f13 : w1 (md 0) = some (.inr (8, [.int 0, .int (iL (S 0 0)), .ref (md 1), .ref (md 2), .ref (md 3), .int (iL (S 0 4)), .int (iL (S 0 5)), .int (iL (S 0 1)), .ref (md 4), .ref (md 5), .int (iL (S 0 2)), .ref (md 6), .ref (md 7), .int (iL (S 0 3)), .ref (md 8), .ref (md 9), .ref (md 10), .ref (md 11), .long tp, .long bt])) := by rw [ew1]; exact g_up_s _ _ _
  refine lv_iload_n hx hb dX7_addShaft_5 rfl (lv_at hl 1 rfl) ?_
  refine lv_iload_n hx hb dX7_addShaft_6 rfl (lv_at hl 2 rfl) ?_
  refine g_Si (As := [.int x, .int y]) (rest := []) F hP hS (k_X7_arePlace l A G w1 x y) (va_cwS 2 hts gX7_addShaft_X7_arePlace rfl rfl rfl cd_X7_arePlace ⟨by rw [hR]; exact Nat.le_of_ble_eq_true rfl, by rw [hR]; exact Nat.le_of_ble_eq_true rfl⟩) rfl hl.1 (Nat.le_of_ble_eq_true rfl) dX7_addShaft_7 ⟨by rw [hR]; exact Nat.le_of_ble_eq_true rfl, by rw [hR]; exact Nat.le_of_ble_eq_true rfl⟩ rfl (fun r14 w15 H locs h16 hP hS => ?_)
  have hr14 := h16.1
  rw [h16.2] at hP
  rw [hr14]
  refine lv_if_ne (tgt := 19) hx hb dX7_addShaft_10 (by decide) (fun c17 => ?_) (fun c17 => ?_)
  · have yc17 := of_decide_eq_true (g_b1.mp c17)
    refine lv_aload_n hx hb dX7_addShaft_19 rfl (lv_at hl 0 rfl) ?_
    refine g_get F hP (C := RX7) (T := TX7) (N := 20) iX7 f13 rfl 1 (by decide) (List.mem_cons_of_mem _ (List.mem_append_left _ (List.mem_of_getElem? (i := 1) rfl))) (fun _ h9 => h9) rfl dX7_addShaft_20 ?_
    refine lv_bipush (v := 10) hx hb dX7_addShaft_23 (by decide) ?_
    refine lv_icmp_ne (tgt := 34) hx hb dX7_addShaft_25 (by decide) (fun c18 => ?_) (fun c18 => ?_)
    · rw [show (10 : Int32) = iL 10 from rfl, iL_eq (by omega) (by omega) (by omega) (by omega)] at c18
      refine lv_aload_n hx hb dX7_addShaft_34 rfl (lv_at hl 0 rfl) ?_
      refine g_get F hP (C := RX7) (T := TX7) (N := 20) iX7 f13 rfl 2 (by decide) (List.mem_cons_of_mem _ (List.mem_append_left _ (List.mem_of_getElem? (i := 2) rfl))) (fun _ h9 => h9) rfl dX7_addShaft_35 ?_
      refine lv_aload_n hx hb dX7_addShaft_38 rfl (lv_at hl 0 rfl) ?_
      refine g_get F hP (C := RX7) (T := TX7) (N := 20) iX7 f13 rfl 1 (by decide) (List.mem_cons_of_mem _ (List.mem_append_left _ (List.mem_of_getElem? (i := 1) rfl))) (fun _ h9 => h9) rfl dX7_addShaft_39 ?_
      refine lv_iload_n hx hb dX7_addShaft_42 rfl (lv_at hl 1 rfl) ?_
      refine g_iast F hP hS f2 (vp_iL (by omega) (by omega) (by decide)) dX7_addShaft_43 (fun H locs hP hS => ?_)
      obtain ⟨w19, ew19⟩ : ∃ z, z = g_up w1 (md 1) (.inl (G.2.1 0, 10, .inl (upd (Fm 1) (iL (S 0 0) : Int32).toNatClampNeg x))) := ⟨_, rfl⟩
      have hP : g_P A G w19 H := by rw [ew19]; exact hP
      have f20 : w19 (md 2) = some (.inl (G.2.1 0, 10, .inl (Fm 2))) := by rw [ew19]; exact g_up_f f3 ((fun q => absurd (Hj 2 1 (by decide) (by decide) q) (by decide)))
      have f21 : w19 (md 3) = some (.inl (G.2.1 2, 10, .inl (Fm 3))) := by rw [ew19]; exact g_up_f f4 ((fun q => absurd (Hj 3 1 (by decide) (by decide) q) (by decide)))
      have f22 : w19 (md 4) = some (.inl (G.2.1 0, 64, .inl (Fm 4))) := by rw [ew19]; exact g_up_f f5 ((fun q => absurd (Hj 4 1 (by decide) (by decide) q) (by decide)))
      have f23 : w19 (md 5) = some (.inl (G.2.1 2, 16, .inl (Fm 5))) := by rw [ew19]; exact g_up_f f6 ((fun q => absurd (Hj 5 1 (by decide) (by decide) q) (by decide)))
      have f24 : w19 (md 6) = some (.inl (G.2.1 0, 16, .inl (Fm 6))) := by rw [ew19]; exact g_up_f f7 ((fun q => absurd (Hj 6 1 (by decide) (by decide) q) (by decide)))
      have f25 : w19 (md 7) = some (.inl (G.2.1 0, 16, .inl (Fm 7))) := by rw [ew19]; exact g_up_f f8 ((fun q => absurd (Hj 7 1 (by decide) (by decide) q) (by decide)))
      have f26 : w19 (md 8) = some (.inl (G.2.1 0, 20, .inl (Fm 8))) := by rw [ew19]; exact g_up_f f9 ((fun q => absurd (Hj 8 1 (by decide) (by decide) q) (by decide)))
      have f27 : w19 (md 9) = some (.inl (G.2.1 1, 10, .inr (.inl (L 0)))) := by rw [ew19]; exact g_up_f f10 ((fun q => absurd (Hj 9 1 (by decide) (by decide) q) (by decide)))
      have f28 : w19 (md 10) = some (.inl (G.2.1 1, 10, .inr (.inl (L 1)))) := by rw [ew19]; exact g_up_f f11 ((fun q => absurd (Hj 10 1 (by decide) (by decide) q) (by decide)))
      have f29 : w19 (md 11) = some (.inl (G.2.1 0, 10, .inl (Fm 11))) := by rw [ew19]; exact g_up_f f12 ((fun q => absurd (Hj 11 1 (by decide) (by decide) q) (by decide)))
      have f30 : w19 (md 0) = some (.inr (8, [.int 0, .int (iL (S 0 0)), .ref (md 1), .ref (md 2), .ref (md 3), .int (iL (S 0 4)), .int (iL (S 0 5)), .int (iL (S 0 1)), .ref (md 4), .ref (md 5), .int (iL (S 0 2)), .ref (md 6), .ref (md 7), .int (iL (S 0 3)), .ref (md 8), .ref (md 9), .ref (md 10), .ref (md 11), .long tp, .long bt])) := by rw [ew19]; exact g_up_f f13 ((fun q => absurd (Hj 0 1 (by decide) (by decide) q) (by decide)))
      have f31 : w19 (md 1) = some (.inl (G.2.1 0, 10, .inl (upd (Fm 1) (iL (S 0 0) : Int32).toNatClampNeg x))) := by rw [ew19]; exact g_up_s _ _ _
      refine lv_aload_n hx hb dX7_addShaft_44 rfl (lv_at hl 0 rfl) ?_
      refine g_get F hP (C := RX7) (T := TX7) (N := 20) iX7 f30 rfl 3 (by decide) (List.mem_cons_of_mem _ (List.mem_append_left _ (List.mem_of_getElem? (i := 3) rfl))) (fun _ h9 => h9) rfl dX7_addShaft_45 ?_
      refine lv_aload_n hx hb dX7_addShaft_48 rfl (lv_at hl 0 rfl) ?_
      refine g_get F hP (C := RX7) (T := TX7) (N := 20) iX7 f30 rfl 1 (by decide) (List.mem_cons_of_mem _ (List.mem_append_left _ (List.mem_of_getElem? (i := 1) rfl))) (fun _ h9 => h9) rfl dX7_addShaft_49 ?_
      refine lv_iload_n hx hb dX7_addShaft_52 rfl (lv_at hl 2 rfl) ?_
      refine g_iast F hP hS f20 (vp_iL (by omega) (by omega) (by decide)) dX7_addShaft_53 (fun H locs hP hS => ?_)
      obtain ⟨w32, ew32⟩ : ∃ z, z = g_up w19 (md 2) (.inl (G.2.1 0, 10, .inl (upd (Fm 2) (iL (S 0 0) : Int32).toNatClampNeg y))) := ⟨_, rfl⟩
      have hP : g_P A G w32 H := by rw [ew32]; exact hP
      have f33 : w32 (md 3) = some (.inl (G.2.1 2, 10, .inl (Fm 3))) := by rw [ew32]; exact g_up_f f21 ((fun q => absurd (Hj 3 2 (by decide) (by decide) q) (by decide)))
      have f34 : w32 (md 4) = some (.inl (G.2.1 0, 64, .inl (Fm 4))) := by rw [ew32]; exact g_up_f f22 ((fun q => absurd (Hj 4 2 (by decide) (by decide) q) (by decide)))
      have f35 : w32 (md 5) = some (.inl (G.2.1 2, 16, .inl (Fm 5))) := by rw [ew32]; exact g_up_f f23 ((fun q => absurd (Hj 5 2 (by decide) (by decide) q) (by decide)))
      have f36 : w32 (md 6) = some (.inl (G.2.1 0, 16, .inl (Fm 6))) := by rw [ew32]; exact g_up_f f24 ((fun q => absurd (Hj 6 2 (by decide) (by decide) q) (by decide)))
      have f37 : w32 (md 7) = some (.inl (G.2.1 0, 16, .inl (Fm 7))) := by rw [ew32]; exact g_up_f f25 ((fun q => absurd (Hj 7 2 (by decide) (by decide) q) (by decide)))
      have f38 : w32 (md 8) = some (.inl (G.2.1 0, 20, .inl (Fm 8))) := by rw [ew32]; exact g_up_f f26 ((fun q => absurd (Hj 8 2 (by decide) (by decide) q) (by decide)))
      have f39 : w32 (md 9) = some (.inl (G.2.1 1, 10, .inr (.inl (L 0)))) := by rw [ew32]; exact g_up_f f27 ((fun q => absurd (Hj 9 2 (by decide) (by decide) q) (by decide)))
      have f40 : w32 (md 10) = some (.inl (G.2.1 1, 10, .inr (.inl (L 1)))) := by rw [ew32]; exact g_up_f f28 ((fun q => absurd (Hj 10 2 (by decide) (by decide) q) (by decide)))
      have f41 : w32 (md 11) = some (.inl (G.2.1 0, 10, .inl (Fm 11))) := by rw [ew32]; exact g_up_f f29 ((fun q => absurd (Hj 11 2 (by decide) (by decide) q) (by decide)))
      have f42 : w32 (md 0) = some (.inr (8, [.int 0, .int (iL (S 0 0)), .ref (md 1), .ref (md 2), .ref (md 3), .int (iL (S 0 4)), .int (iL (S 0 5)), .int (iL (S 0 1)), .ref (md 4), .ref (md 5), .int (iL (S 0 2)), .ref (md 6), .ref (md 7), .int (iL (S 0 3)), .ref (md 8), .ref (md 9), .ref (md 10), .ref (md 11), .long tp, .long bt])) := by rw [ew32]; exact g_up_f f30 ((fun q => absurd (Hj 0 2 (by decide) (by decide) q) (by decide)))
      have f43 : w32 (md 1) = some (.inl (G.2.1 0, 10, .inl (upd (Fm 1) (iL (S 0 0) : Int32).toNatClampNeg x))) := by rw [ew32]; exact g_up_f f31 ((fun q => absurd (Hj 1 2 (by decide) (by decide) q) (by decide)))
      have f44 : w32 (md 2) = some (.inl (G.2.1 0, 10, .inl (upd (Fm 2) (iL (S 0 0) : Int32).toNatClampNeg y))) := by rw [ew32]; exact g_up_s _ _ _
      refine lv_aload_n hx hb dX7_addShaft_54 rfl (lv_at hl 0 rfl) ?_
      refine lv_dup hx hb dX7_addShaft_55 rfl ?_
      refine g_get F hP (C := RX7) (T := TX7) (N := 20) iX7 f42 rfl 1 (by decide) (List.mem_cons_of_mem _ (List.mem_append_left _ (List.mem_of_getElem? (i := 1) rfl))) (fun _ h9 => h9) rfl dX7_addShaft_56 ?_
      refine lv_iconst (v := 1) hx hb dX7_addShaft_59 (by decide) ?_
      refine lv_iadd hx hb dX7_addShaft_60 ?_
      refine lv_topi (fun v45 ev45 => ?_)
      obtain rfl : v45 = iL (S 0 0 + 1) := by
        rw [ev45]
        exact iL_add _ 1
      refine g_put F hP hS (C := RX7) (T := TX7) (N := 20) (v := .int (iL (S 0 0 + 1))) (ty := .int) iX7 tyX7 tyX7_ok nmX7 f42 rfl 1 (by decide) (List.mem_cons_of_mem _ (List.mem_append_left _ (List.mem_of_getElem? (i := 1) rfl))) (fun _ h9 => h9) rfl (by decide +kernel) rfl rfl (by show 1 < 20; decide) dX7_addShaft_61 (fun H locs hP hS => ?_)
      obtain ⟨w46, ew46⟩ : ∃ z, z = g_up w32 (md 0) (.inr (8, [.int 0, .int (iL (S 0 0 + 1)), .ref (md 1), .ref (md 2), .ref (md 3), .int (iL (S 0 4)), .int (iL (S 0 5)), .int (iL (S 0 1)), .ref (md 4), .ref (md 5), .int (iL (S 0 2)), .ref (md 6), .ref (md 7), .int (iL (S 0 3)), .ref (md 8), .ref (md 9), .ref (md 10), .ref (md 11), .long tp, .long bt])) := ⟨_, rfl⟩
      have hP : g_P A G w46 H := by rw [ew46]; exact hP
      have f47 : w46 (md 3) = some (.inl (G.2.1 2, 10, .inl (Fm 3))) := by rw [ew46]; exact g_up_f f33 ((fun q => absurd (Hj 3 0 (by decide) (by decide) q) (by decide)))
      have f48 : w46 (md 4) = some (.inl (G.2.1 0, 64, .inl (Fm 4))) := by rw [ew46]; exact g_up_f f34 ((fun q => absurd (Hj 4 0 (by decide) (by decide) q) (by decide)))
      have f49 : w46 (md 5) = some (.inl (G.2.1 2, 16, .inl (Fm 5))) := by rw [ew46]; exact g_up_f f35 ((fun q => absurd (Hj 5 0 (by decide) (by decide) q) (by decide)))
      have f50 : w46 (md 6) = some (.inl (G.2.1 0, 16, .inl (Fm 6))) := by rw [ew46]; exact g_up_f f36 ((fun q => absurd (Hj 6 0 (by decide) (by decide) q) (by decide)))
      have f51 : w46 (md 7) = some (.inl (G.2.1 0, 16, .inl (Fm 7))) := by rw [ew46]; exact g_up_f f37 ((fun q => absurd (Hj 7 0 (by decide) (by decide) q) (by decide)))
      have f52 : w46 (md 8) = some (.inl (G.2.1 0, 20, .inl (Fm 8))) := by rw [ew46]; exact g_up_f f38 ((fun q => absurd (Hj 8 0 (by decide) (by decide) q) (by decide)))
      have f53 : w46 (md 9) = some (.inl (G.2.1 1, 10, .inr (.inl (L 0)))) := by rw [ew46]; exact g_up_f f39 ((fun q => absurd (Hj 9 0 (by decide) (by decide) q) (by decide)))
      have f54 : w46 (md 10) = some (.inl (G.2.1 1, 10, .inr (.inl (L 1)))) := by rw [ew46]; exact g_up_f f40 ((fun q => absurd (Hj 10 0 (by decide) (by decide) q) (by decide)))
      have f55 : w46 (md 11) = some (.inl (G.2.1 0, 10, .inl (Fm 11))) := by rw [ew46]; exact g_up_f f41 ((fun q => absurd (Hj 11 0 (by decide) (by decide) q) (by decide)))
      have f56 : w46 (md 1) = some (.inl (G.2.1 0, 10, .inl (upd (Fm 1) (iL (S 0 0) : Int32).toNatClampNeg x))) := by rw [ew46]; exact g_up_f f43 ((fun q => absurd (Hj 1 0 (by decide) (by decide) q) (by decide)))
      have f57 : w46 (md 2) = some (.inl (G.2.1 0, 10, .inl (upd (Fm 2) (iL (S 0 0) : Int32).toNatClampNeg y))) := by rw [ew46]; exact g_up_f f44 ((fun q => absurd (Hj 2 0 (by decide) (by decide) q) (by decide)))
      have f58 : w46 (md 0) = some (.inr (8, [.int 0, .int (iL (S 0 0 + 1)), .ref (md 1), .ref (md 2), .ref (md 3), .int (iL (S 0 4)), .int (iL (S 0 5)), .int (iL (S 0 1)), .ref (md 4), .ref (md 5), .int (iL (S 0 2)), .ref (md 6), .ref (md 7), .int (iL (S 0 3)), .ref (md 8), .ref (md 9), .ref (md 10), .ref (md 11), .long tp, .long bt])) := by rw [ew46]; exact g_up_s _ _ _
      refine lv_aload_n hx hb dX7_addShaft_64 rfl (lv_at hl 0 rfl) ?_
      refine g_get F hP (C := RX7) (T := TX7) (N := 20) iX7 f58 rfl 1 (by decide) (List.mem_cons_of_mem _ (List.mem_append_left _ (List.mem_of_getElem? (i := 1) rfl))) (fun _ h9 => h9) rfl dX7_addShaft_65 ?_
      refine lv_iconst (v := 1) hx hb dX7_addShaft_68 (by decide) ?_
      refine lv_isub hx hb dX7_addShaft_69 ?_
      refine lv_topi (fun v59 ev59 => ?_)
      obtain rfl : v59 = iL (S 0 0) := by
        rw [ev59]
        rw [show (1 : Int32) = iL 1 from rfl, iL_sub]
        rw [show S 0 0 + 1 - 1 = S 0 0 from by omega]
      rw [hQ]
      refine g_iret F hP hS hlocks hr dX7_addShaft_70 (by first | exact Nat.le_of_ble_eq_true rfl | omega) (by first | exact Nat.le_of_ble_eq_true rfl | omega) ?_
      have e0 : nxAddShaft S x y 0 0 = S 0 0 + 1 := by unfold nxAddShaft; rw [up2_k _ _ _ (by decide), up2_k _ _ _ (by decide), up2_k _ _ _ (by decide), up2_s]
      have e0' : ∀ i, i ≠ 0 → nxAddShaft S x y 0 i = S 0 i := fun i z => by unfold nxAddShaft; rw [up2_k _ _ _ (by decide), up2_k _ _ _ (by decide), up2_k _ _ _ (by decide), up2_i _ _ _ z]
      exact Or.inr ⟨(if_pos yc17).trans (if_pos (by omega)), rfl, ⟨mFr_tr (mFr_tr (mFr_tr (mFr_tr (mFr_rf _ _) (mFr_se (i := 0) (by decide) ew1)) (mFr_se (i := 1) (by decide) ew19)) (mFr_se (i := 2) (by decide) ew32)) (mFr_se (i := 0) (by decide) ew46), _, _, (up1 (up1 Fm 1 (upd (Fm 1) (iL (S 0 0)).toNatClampNeg x)) 2 (upd (Fm 2) (iL (S 0 0)).toNatClampNeg y)), L, ⟨(by rw [mC_of (by rw [e0]) (by rw [e0' 1 (by decide)]) (by rw [e0' 2 (by decide)]) (by rw [e0' 3 (by decide)]) (by rw [e0' 4 (by decide)]) (by rw [e0' 5 (by decide)])]; exact f58), f56, f57, f47, f48, f49, f50, f51, f52, f53, f54, f55⟩, modF_addShaft Hf Hi⟩⟩
    · rw [show (10 : Int32) = iL 10 from rfl, iL_eq (by omega) (by omega) (by omega) (by omega)] at c18
      refine lv_aload_n hx hb dX7_addShaft_28 rfl (lv_at hl 0 rfl) ?_
      refine lv_iconst (v := 2) hx hb dX7_addShaft_29 (by decide) ?_
      refine g_Vi (As := [.int 2]) (rest := []) F hP hS (k_X7_fail l A G w1 md S _ _ _ Fm L 2 f13) (cwV 1 hts gX7_addShaft_X7_fail rfl rfl rfl cd_X7_fail ⟨by rw [hR]; exact Nat.le_of_ble_eq_true rfl, by rw [hR]; exact Nat.le_of_ble_eq_true rfl⟩) f13 rfl rfl rfl hl.1 (Nat.le_of_ble_eq_true rfl) dX7_addShaft_30 ⟨by rw [hR]; exact Nat.le_of_ble_eq_true rfl, by rw [hR]; exact Nat.le_of_ble_eq_true rfl⟩ rfl (fun r60 w61 H locs h62 hP hS => ?_)
      obtain ⟨er, eww61⟩ := h62
      rw [er]
      have f63 : w61 (md 1) = some (.inl (G.2.1 0, 10, .inl (Fm 1))) := by rw [eww61]; exact g_up_f f2 ((fun q => absurd (Hj 1 0 (by decide) (by decide) q) (by decide)))
      have f64 : w61 (md 2) = some (.inl (G.2.1 0, 10, .inl (Fm 2))) := by rw [eww61]; exact g_up_f f3 ((fun q => absurd (Hj 2 0 (by decide) (by decide) q) (by decide)))
      have f65 : w61 (md 3) = some (.inl (G.2.1 2, 10, .inl (Fm 3))) := by rw [eww61]; exact g_up_f f4 ((fun q => absurd (Hj 3 0 (by decide) (by decide) q) (by decide)))
      have f66 : w61 (md 4) = some (.inl (G.2.1 0, 64, .inl (Fm 4))) := by rw [eww61]; exact g_up_f f5 ((fun q => absurd (Hj 4 0 (by decide) (by decide) q) (by decide)))
      have f67 : w61 (md 5) = some (.inl (G.2.1 2, 16, .inl (Fm 5))) := by rw [eww61]; exact g_up_f f6 ((fun q => absurd (Hj 5 0 (by decide) (by decide) q) (by decide)))
      have f68 : w61 (md 6) = some (.inl (G.2.1 0, 16, .inl (Fm 6))) := by rw [eww61]; exact g_up_f f7 ((fun q => absurd (Hj 6 0 (by decide) (by decide) q) (by decide)))
      have f69 : w61 (md 7) = some (.inl (G.2.1 0, 16, .inl (Fm 7))) := by rw [eww61]; exact g_up_f f8 ((fun q => absurd (Hj 7 0 (by decide) (by decide) q) (by decide)))
      have f70 : w61 (md 8) = some (.inl (G.2.1 0, 20, .inl (Fm 8))) := by rw [eww61]; exact g_up_f f9 ((fun q => absurd (Hj 8 0 (by decide) (by decide) q) (by decide)))
      have f71 : w61 (md 9) = some (.inl (G.2.1 1, 10, .inr (.inl (L 0)))) := by rw [eww61]; exact g_up_f f10 ((fun q => absurd (Hj 9 0 (by decide) (by decide) q) (by decide)))
      have f72 : w61 (md 10) = some (.inl (G.2.1 1, 10, .inr (.inl (L 1)))) := by rw [eww61]; exact g_up_f f11 ((fun q => absurd (Hj 10 0 (by decide) (by decide) q) (by decide)))
      have f73 : w61 (md 11) = some (.inl (G.2.1 0, 10, .inl (Fm 11))) := by rw [eww61]; exact g_up_f f12 ((fun q => absurd (Hj 11 0 (by decide) (by decide) q) (by decide)))
      have f74 : w61 (md 0) = some (.inr (8, [.int 2, .int (iL (S 0 0)), .ref (md 1), .ref (md 2), .ref (md 3), .int (iL (S 0 4)), .int (iL (S 0 5)), .int (iL (S 0 1)), .ref (md 4), .ref (md 5), .int (iL (S 0 2)), .ref (md 6), .ref (md 7), .int (iL (S 0 3)), .ref (md 8), .ref (md 9), .ref (md 10), .ref (md 11), .long tp, .long bt])) := by rw [eww61]; exact g_up_s _ _ _
      rw [hQ]
      refine g_iret F hP hS hlocks hr dX7_addShaft_33 (by first | exact Nat.le_of_ble_eq_true rfl | omega) (by first | exact Nat.le_of_ble_eq_true rfl | omega) ?_
      exact mRes_no (c := 2) ((if_pos yc17).trans (if_neg (by omega))) (by decide) ⟨mFr_tr (mFr_tr (mFr_rf _ _) (mFr_se (i := 0) (by decide) ew1)) (mFr_se (i := 0) (by decide) eww61), _, _, Fm, L, ⟨f74, f63, f64, f65, f66, f67, f68, f69, f70, f71, f72, f73⟩, Hf⟩
  · have yc17 := of_decide_eq_false (g_b0.mp c17)
    refine lv_aload_n hx hb dX7_addShaft_13 rfl (lv_at hl 0 rfl) ?_
    refine lv_iconst (v := 1) hx hb dX7_addShaft_14 (by decide) ?_
    refine g_Vi (As := [.int 1]) (rest := []) F hP hS (k_X7_fail l A G w1 md S _ _ _ Fm L 1 f13) (cwV 1 hts gX7_addShaft_X7_fail rfl rfl rfl cd_X7_fail ⟨by rw [hR]; exact Nat.le_of_ble_eq_true rfl, by rw [hR]; exact Nat.le_of_ble_eq_true rfl⟩) f13 rfl rfl rfl hl.1 (Nat.le_of_ble_eq_true rfl) dX7_addShaft_15 ⟨by rw [hR]; exact Nat.le_of_ble_eq_true rfl, by rw [hR]; exact Nat.le_of_ble_eq_true rfl⟩ rfl (fun r75 w76 H locs h77 hP hS => ?_)
    obtain ⟨er, eww76⟩ := h77
    rw [er]
    have f78 : w76 (md 1) = some (.inl (G.2.1 0, 10, .inl (Fm 1))) := by rw [eww76]; exact g_up_f f2 ((fun q => absurd (Hj 1 0 (by decide) (by decide) q) (by decide)))
    have f79 : w76 (md 2) = some (.inl (G.2.1 0, 10, .inl (Fm 2))) := by rw [eww76]; exact g_up_f f3 ((fun q => absurd (Hj 2 0 (by decide) (by decide) q) (by decide)))
    have f80 : w76 (md 3) = some (.inl (G.2.1 2, 10, .inl (Fm 3))) := by rw [eww76]; exact g_up_f f4 ((fun q => absurd (Hj 3 0 (by decide) (by decide) q) (by decide)))
    have f81 : w76 (md 4) = some (.inl (G.2.1 0, 64, .inl (Fm 4))) := by rw [eww76]; exact g_up_f f5 ((fun q => absurd (Hj 4 0 (by decide) (by decide) q) (by decide)))
    have f82 : w76 (md 5) = some (.inl (G.2.1 2, 16, .inl (Fm 5))) := by rw [eww76]; exact g_up_f f6 ((fun q => absurd (Hj 5 0 (by decide) (by decide) q) (by decide)))
    have f83 : w76 (md 6) = some (.inl (G.2.1 0, 16, .inl (Fm 6))) := by rw [eww76]; exact g_up_f f7 ((fun q => absurd (Hj 6 0 (by decide) (by decide) q) (by decide)))
    have f84 : w76 (md 7) = some (.inl (G.2.1 0, 16, .inl (Fm 7))) := by rw [eww76]; exact g_up_f f8 ((fun q => absurd (Hj 7 0 (by decide) (by decide) q) (by decide)))
    have f85 : w76 (md 8) = some (.inl (G.2.1 0, 20, .inl (Fm 8))) := by rw [eww76]; exact g_up_f f9 ((fun q => absurd (Hj 8 0 (by decide) (by decide) q) (by decide)))
    have f86 : w76 (md 9) = some (.inl (G.2.1 1, 10, .inr (.inl (L 0)))) := by rw [eww76]; exact g_up_f f10 ((fun q => absurd (Hj 9 0 (by decide) (by decide) q) (by decide)))
    have f87 : w76 (md 10) = some (.inl (G.2.1 1, 10, .inr (.inl (L 1)))) := by rw [eww76]; exact g_up_f f11 ((fun q => absurd (Hj 10 0 (by decide) (by decide) q) (by decide)))
    have f88 : w76 (md 11) = some (.inl (G.2.1 0, 10, .inl (Fm 11))) := by rw [eww76]; exact g_up_f f12 ((fun q => absurd (Hj 11 0 (by decide) (by decide) q) (by decide)))
    have f89 : w76 (md 0) = some (.inr (8, [.int 1, .int (iL (S 0 0)), .ref (md 1), .ref (md 2), .ref (md 3), .int (iL (S 0 4)), .int (iL (S 0 5)), .int (iL (S 0 1)), .ref (md 4), .ref (md 5), .int (iL (S 0 2)), .ref (md 6), .ref (md 7), .int (iL (S 0 3)), .ref (md 8), .ref (md 9), .ref (md 10), .ref (md 11), .long tp, .long bt])) := by rw [eww76]; exact g_up_s _ _ _
    rw [hQ]
    refine g_iret F hP hS hlocks hr dX7_addShaft_18 (by first | exact Nat.le_of_ble_eq_true rfl | omega) (by first | exact Nat.le_of_ble_eq_true rfl | omega) ?_
    exact mRes_no (c := 1) (if_neg yc17) (by decide) ⟨mFr_tr (mFr_tr (mFr_rf _ _) (mFr_se (i := 0) (by decide) ew1)) (mFr_se (i := 0) (by decide) eww76), _, _, Fm, L, ⟨f89, f78, f79, f80, f81, f82, f83, f84, f85, f86, f87, f88⟩, Hf⟩
