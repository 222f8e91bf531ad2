set_option maxHeartbeats 4000000 in
set_option maxRecDepth 100000 in
theorem k_X3_init (l : Launch) (A : Nat → Prop) (G : g_C) (w : g_W) (h sh1 sh2 sh3 : Nat) (s0 p0 : Int32) (x1 y1 hd1 st1 : Int32) (fr1 : Nat) (x2 y2 hd2 st2 : Int32) (fr2 : Nat) (x3 y3 hd3 st3 : Int32) (fr3 : Nat) (hh : w h = some (.inr (4, [.int 0, .null]))) (hs1 : w sh1 = some (.inr (5, [.int x1, .int y1, .int hd1, .int st1, .ref fr1]))) (hs2 : w sh2 = some (.inr (5, [.int x2, .int y2, .int hd2, .int st2, .ref fr2]))) (hs3 : w sh3 = some (.inr (5, [.int x3, .int y3, .int hd3, .int st3, .ref fr3]))) : mV l yX3_init wsX3_init ({ frames := 3, cells := 4, slots := 12, locals := 82 } : Room) [.ref h, .ref sh1, .ref sh2, .ref sh3, .int s0, .int p0] A G w (fun w' => ∃ q1 q2 q3 q4 fS fW, (w q1 = none ∧ w q2 = none ∧ w q3 = none ∧ w q4 = none) ∧ (q1 ≠ q2 ∧ q1 ≠ q3 ∧ q1 ≠ q4 ∧ q2 ≠ q3 ∧ q2 ≠ q4 ∧ q3 ≠ q4) ∧ (fS 0 = some sh1 ∧ fS 1 = some sh2 ∧ fS 2 = some sh3) ∧ (fW 0 = s0 ∧ fW 1 = s0 + 2 * p0 ∧ fW 2 = -(s0 + (s0 + 2 * p0))) ∧ w' = g_up (g_up (g_up (g_up (g_up w q1 (.inr (6, [.ref q2, .ref q3, .ref q4, .int 0]))) q2 (.inl (G.2.1 4, 3, .inr (.inr (.inr (.inr fS)))))) q3 (.inl (G.2.1 0, 3, .inl fW))) q4 (.inr (1, [.long 0, .long 1]))) h (.inr (4, [.int (s0 + (s0 + 2 * p0)), .ref q1]))) 4 12 := by
  refine g_ofV (cc := cX3_init) (maxL := 7) (ret := none) (own := RX3) (by decide) rfl rfl (Nat.le_of_ble_eq_true rfl) ?_
  intro p e R s m args below meth c Q ls hR F hP hS hlocks hr hnm0 hQ hl
  obtain ⟨⟨hx, hb, hml, hown, hts⟩, hK, hZ, hA⟩ := id F
  generalize hH0 : s.heap = H at hP ⊢
  have hS : va_S A s.heap H [] := by rw [← hH0]; exact va_S.rf
  generalize ([] : List Loc) = locs at hS ⊢
  have hl : lv_has ls 7 [(0, .ref h), (1, .ref sh1), (2, .ref sh2), (3, .ref sh3), (4, .int s0), (5, .int p0)] := hl
  have iX3 : ∀ w ∈ u_ws RX3 TX3 2, w ∈ wsX3_init := fun w h => List.mem_cons_of_mem _ (List.mem_append_left _ (List.mem_append_left _ (List.mem_append_right _ (h))))
  have iX5 : ∀ w ∈ u_ws RX5 TX5 4, w ∈ wsX3_init := fun w h => List.mem_cons_of_mem _ (List.mem_append_left _ (List.mem_append_right _ (h)))
  refine lv_aload_n hx hb dX3_init_0 rfl (lv_at hl 0 rfl) ?_
  refine W.objInit hx hb hown (hts _ (List.mem_cons_of_mem _ (List.mem_append_left _ (List.mem_append_left _ (List.mem_append_left _ (List.mem_append_left _ (List.mem_of_getElem? (i := 0) rfl))))))) (hts _ (List.mem_cons_of_mem _ (List.mem_append_left _ (List.mem_append_left _ (List.mem_append_left _ (List.mem_append_left _ (List.mem_of_getElem? (i := 1) rfl))))))) (hts _ (List.mem_cons_of_mem _ (List.mem_append_left _ (List.mem_append_left _ (List.mem_append_left _ (List.mem_append_left _ (List.mem_of_getElem? (i := 2) rfl))))))) rfl (by rw [hml]; exact hl.1) rfl dX3_init_1 (by rw [hR]; exact Nat.le_of_ble_eq_true rfl) (by rw [hR]; exact Nat.le_of_ble_eq_true rfl) ?_
  show W p l e R s m args below meth c H locs _ _ Q (F0 m 4 ls [])
  refine lv_iload hx hb dX3_init_4 (lv_at hl 4 rfl) ?_
  refine lv_iconst (v := 2) hx hb dX3_init_6 (by decide) ?_
  refine lv_iload hx hb dX3_init_7 (lv_at hl 5 rfl) ?_
  refine lv_imul hx hb dX3_init_9 ?_
  refine lv_topi (fun v1 ev1 => ?_)
  obtain rfl : v1 = 2 * p0 := by
    exact ev1
  refine lv_iadd hx hb dX3_init_10 ?_
  refine lv_topi (fun v2 ev2 => ?_)
  obtain rfl : v2 = s0 + 2 * p0 := by
    exact ev2
  refine lv_istore (lv' := [(6, .int (s0 + 2 * p0)), (0, .ref h), (1, .ref sh1), (2, .ref sh2), (3, .ref sh3), (4, .int s0), (5, .int p0)]) hx hb dX3_init_11 hl (by decide) rfl (fun ls hl => ?_)
  refine lv_aload_n hx hb dX3_init_13 rfl (lv_at hl 1 rfl) ?_
  refine lv_iload hx hb dX3_init_14 (lv_at hl 5 rfl) ?_
  refine lv_iload hx hb dX3_init_16 (lv_at hl 0 rfl) ?_
  refine lv_iadd hx hb dX3_init_18 ?_
  refine lv_topi (fun v3 ev3 => ?_)
  obtain rfl : v3 = s0 + (s0 + 2 * p0) := by
    exact ev3
  refine g_putF F hP hS (C := RX3) (T := TX3) (N := 2) (v := .int (s0 + (s0 + 2 * p0))) (ty := .int) iX3 tyX3 tyX3_ok nmX3 hh rfl 0 (by decide) (List.mem_cons_of_mem _ (List.mem_append_left _ (List.mem_append_left _ (List.mem_append_left _ (List.mem_append_left _ (List.mem_of_getElem? (i := 3) rfl)))))) (fun _ h9 => h9) rfl hnm0 rfl (by decide +kernel) rfl rfl (by show 0 < 2; decide) dX3_init_19 (fun H locs hP hS => ?_)
  obtain ⟨w4, ew4⟩ : ∃ z, z = g_up w h (.inr (4, [.int (s0 + (s0 + 2 * p0)), .null])) := ⟨_, rfl⟩
  have hP : g_P A G w4 H := by rw [ew4]; exact hP
  have f5 : w4 sh1 = some (.inr (5, [.int x1, .int y1, .int hd1, .int st1, .ref fr1])) := by rw [ew4]; exact g_up_f hs1 (g_ne hs1 hh rfl)
  have f6 : w4 sh2 = some (.inr (5, [.int x2, .int y2, .int hd2, .int st2, .ref fr2])) := by rw [ew4]; exact g_up_f hs2 (g_ne hs2 hh rfl)
  have f7 : w4 sh3 = some (.inr (5, [.int x3, .int y3, .int hd3, .int st3, .ref fr3])) := by rw [ew4]; exact g_up_f hs3 (g_ne hs3 hh rfl)
  have f8 : w4 h = some (.inr (4, [.int (s0 + (s0 + 2 * p0)), .null])) := by rw [ew4]; exact g_up_s _ _ _
  refine lv_aload_n hx hb dX3_init_22 rfl (lv_at hl 1 rfl) ?_
  refine g_new F hP hS (ci := 6) (C := RX5) (T := TX5) (N := 4) (fs := [.null, .null, .null, .int 0]) iX5 tyX5 tyX5_ok (List.mem_cons_of_mem _ (List.mem_append_left _ (List.mem_append_left _ (List.mem_append_left _ (List.mem_append_left _ (List.mem_of_getElem? (i := 4) rfl)))))) (List.mem_cons_of_mem _ (List.mem_append_left _ (List.mem_append_left _ (List.mem_append_left _ (List.mem_append_left _ (List.mem_of_getElem? (i := 5) rfl)))))) (List.mem_cons_of_mem _ (List.mem_append_left _ (List.mem_append_left _ (List.mem_append_left _ (List.mem_append_left _ (List.mem_of_getElem? (i := 6) rfl)))))) rfl (by intro j hj; match j, hj with | 0, _ => rfl | 1, _ => rfl | 2, _ => rfl | 3, _ => rfl | j + 4, hj => exact absurd hj (by omega)) (by rw [hR]; exact Nat.le_of_ble_eq_true rfl) (by rw [hR]; exact Nat.le_of_ble_eq_true rfl) dX3_init_23 (fun q9 H nq9 hP hS => ?_)
  obtain ⟨w10, ew10⟩ : ∃ z, z = g_up w4 q9 (.inr (6, [.null, .null, .null, .int 0])) := ⟨_, rfl⟩
  have hP : g_P A G w10 H := by rw [ew10]; exact hP
  have f11 : w10 sh1 = some (.inr (5, [.int x1, .int y1, .int hd1, .int st1, .ref fr1])) := by rw [ew10]; exact g_up_f f5 (g_neq f5 nq9)
  have f12 : w10 sh2 = some (.inr (5, [.int x2, .int y2, .int hd2, .int st2, .ref fr2])) := by rw [ew10]; exact g_up_f f6 (g_neq f6 nq9)
  have f13 : w10 sh3 = some (.inr (5, [.int x3, .int y3, .int hd3, .int st3, .ref fr3])) := by rw [ew10]; exact g_up_f f7 (g_neq f7 nq9)
  have f14 : w10 h = some (.inr (4, [.int (s0 + (s0 + 2 * p0)), .null])) := by rw [ew10]; exact g_up_f f8 (g_neq f8 nq9)
  have f15 : w10 q9 = some (.inr (6, [.null, .null, .null, .int 0])) := by rw [ew10]; exact g_up_s _ _ _
  refine lv_dup hx hb dX3_init_26 rfl ?_
  refine lv_iconst (v := 3) hx hb dX3_init_27 (by decide) ?_
  refine g_newqS F hP hS (N' := 3) (List.mem_cons_of_mem _ (List.mem_append_left _ (List.mem_append_left _ (List.mem_append_left _ (List.mem_append_left _ (List.mem_of_getElem? (i := 7) rfl)))))) (by decide) (by decide) (by decide) (by rw [hR]; exact Nat.le_of_ble_eq_true rfl) (by rw [hR]; exact Nat.le_of_ble_eq_true rfl) dX3_init_28 (fun q16 H nq16 hP hS => ?_)
  obtain ⟨w17, ew17⟩ : ∃ z, z = g_up w10 q16 (.inl (G.2.1 4, 3, .inr (.inr (.inr (.inr (fun _ => none)))))) := ⟨_, rfl⟩
  have hP : g_P A G w17 H := by rw [ew17]; exact hP
  have f18 : w17 sh1 = some (.inr (5, [.int x1, .int y1, .int hd1, .int st1, .ref fr1])) := by rw [ew17]; exact g_up_f f11 (g_neq f11 nq16)
  have f19 : w17 sh2 = some (.inr (5, [.int x2, .int y2, .int hd2, .int st2, .ref fr2])) := by rw [ew17]; exact g_up_f f12 (g_neq f12 nq16)
  have f20 : w17 sh3 = some (.inr (5, [.int x3, .int y3, .int hd3, .int st3, .ref fr3])) := by rw [ew17]; exact g_up_f f13 (g_neq f13 nq16)
  have f21 : w17 h = some (.inr (4, [.int (s0 + (s0 + 2 * p0)), .null])) := by rw [ew17]; exact g_up_f f14 (g_neq f14 nq16)
  have f22 : w17 q9 = some (.inr (6, [.null, .null, .null, .int 0])) := by rw [ew17]; exact g_up_f f15 (g_neq f15 nq16)
  have f23 : w17 q16 = some (.inl (G.2.1 4, 3, .inr (.inr (.inr (.inr (fun _ => none)))))) := by rw [ew17]; exact g_up_s _ _ _
  refine lv_dup hx hb dX3_init_31 rfl ?_
  refine lv_iconst (v := 0) hx hb dX3_init_32 (by decide) ?_
  refine lv_aload_n hx hb dX3_init_33 rfl (lv_at hl 2 rfl) ?_
  refine g_astqS F hP hS f23 f18 (by unfold vp_in; decide) dX3_init_34 (fun H locs hP hS => ?_)
  obtain ⟨w24, ew24⟩ : ∃ z, z = g_up w17 q16 (.inl (G.2.1 4, 3, .inr (.inr (.inr (.inr (va_up (fun _ => none) (0 : Int32).toNatClampNeg (some sh1))))))) := ⟨_, rfl⟩
  have hP : g_P A G w24 H := by rw [ew24]; exact hP
  have f25 : w24 sh1 = some (.inr (5, [.int x1, .int y1, .int hd1, .int st1, .ref fr1])) := by rw [ew24]; exact g_up_f f18 (g_neq f11 nq16)
  have f26 : w24 sh2 = some (.inr (5, [.int x2, .int y2, .int hd2, .int st2, .ref fr2])) := by rw [ew24]; exact g_up_f f19 (g_neq f12 nq16)
  have f27 : w24 sh3 = some (.inr (5, [.int x3, .int y3, .int hd3, .int st3, .ref fr3])) := by rw [ew24]; exact g_up_f f20 (g_neq f13 nq16)
  have f28 : w24 h = some (.inr (4, [.int (s0 + (s0 + 2 * p0)), .null])) := by rw [ew24]; exact g_up_f f21 (g_neq f14 nq16)
  have f29 : w24 q9 = some (.inr (6, [.null, .null, .null, .int 0])) := by rw [ew24]; exact g_up_f f22 (g_neq f15 nq16)
  have f30 : w24 q16 = some (.inl (G.2.1 4, 3, .inr (.inr (.inr (.inr (va_up (fun _ => none) (0 : Int32).toNatClampNeg (some sh1))))))) := by rw [ew24]; exact g_up_s _ _ _
  refine lv_dup hx hb dX3_init_35 rfl ?_
  refine lv_iconst (v := 1) hx hb dX3_init_36 (by decide) ?_
  refine lv_aload_n hx hb dX3_init_37 rfl (lv_at hl 3 rfl) ?_
  refine g_astqS F hP hS f30 f26 (by unfold vp_in; decide) dX3_init_38 (fun H locs hP hS => ?_)
  obtain ⟨w31, ew31⟩ : ∃ z, z = g_up w24 q16 (.inl (G.2.1 4, 3, .inr (.inr (.inr (.inr (va_up (va_up (fun _ => none) (0 : Int32).toNatClampNeg (some sh1)) (1 : Int32).toNatClampNeg (some sh2))))))) := ⟨_, rfl⟩
  have hP : g_P A G w31 H := by rw [ew31]; exact hP
  have f32 : w31 sh1 = some (.inr (5, [.int x1, .int y1, .int hd1, .int st1, .ref fr1])) := by rw [ew31]; exact g_up_f f25 (g_neq f11 nq16)
  have f33 : w31 sh2 = some (.inr (5, [.int x2, .int y2, .int hd2, .int st2, .ref fr2])) := by rw [ew31]; exact g_up_f f26 (g_neq f12 nq16)
  have f34 : w31 sh3 = some (.inr (5, [.int x3, .int y3, .int hd3, .int st3, .ref fr3])) := by rw [ew31]; exact g_up_f f27 (g_neq f13 nq16)
  have f35 : w31 h = some (.inr (4, [.int (s0 + (s0 + 2 * p0)), .null])) := by rw [ew31]; exact g_up_f f28 (g_neq f14 nq16)
  have f36 : w31 q9 = some (.inr (6, [.null, .null, .null, .int 0])) := by rw [ew31]; exact g_up_f f29 (g_neq f15 nq16)
  have f37 : w31 q16 = some (.inl (G.2.1 4, 3, .inr (.inr (.inr (.inr (va_up (va_up (fun _ => none) (0 : Int32).toNatClampNeg (some sh1)) (1 : Int32).toNatClampNeg (some sh2))))))) := by rw [ew31]; exact g_up_s _ _ _
  refine lv_dup hx hb dX3_init_39 rfl ?_
  refine lv_iconst (v := 2) hx hb dX3_init_40 (by decide) ?_
  refine lv_aload_n hx hb dX3_init_41 rfl (lv_at hl 4 rfl) ?_
  refine g_astqS F hP hS f37 f34 (by unfold vp_in; decide) dX3_init_42 (fun H locs hP hS => ?_)
  obtain ⟨w38, ew38⟩ : ∃ z, z = g_up w31 q16 (.inl (G.2.1 4, 3, .inr (.inr (.inr (.inr (va_up (va_up (va_up (fun _ => none) (0 : Int32).toNatClampNeg (some sh1)) (1 : Int32).toNatClampNeg (some sh2)) (2 : Int32).toNatClampNeg (some sh3))))))) := ⟨_, rfl⟩
  have hP : g_P A G w38 H := by rw [ew38]; exact hP
  have f39 : w38 sh1 = some (.inr (5, [.int x1, .int y1, .int hd1, .int st1, .ref fr1])) := by rw [ew38]; exact g_up_f f32 (g_neq f11 nq16)
  have f40 : w38 sh2 = some (.inr (5, [.int x2, .int y2, .int hd2, .int st2, .ref fr2])) := by rw [ew38]; exact g_up_f f33 (g_neq f12 nq16)
  have f41 : w38 sh3 = some (.inr (5, [.int x3, .int y3, .int hd3, .int st3, .ref fr3])) := by rw [ew38]; exact g_up_f f34 (g_neq f13 nq16)
  have f42 : w38 h = some (.inr (4, [.int (s0 + (s0 + 2 * p0)), .null])) := by rw [ew38]; exact g_up_f f35 (g_neq f14 nq16)
  have f43 : w38 q9 = some (.inr (6, [.null, .null, .null, .int 0])) := by rw [ew38]; exact g_up_f f36 (g_neq f15 nq16)
  have f44 : w38 q16 = some (.inl (G.2.1 4, 3, .inr (.inr (.inr (.inr (va_up (va_up (va_up (fun _ => none) (0 : Int32).toNatClampNeg (some sh1)) (1 : Int32).toNatClampNeg (some sh2)) (2 : Int32).toNatClampNeg (some sh3))))))) := by rw [ew38]; exact g_up_s _ _ _
  refine lv_iconst (v := 3) hx hb dX3_init_43 (by decide) ?_
  refine g_newaI F hP hS (N' := 3) (List.mem_cons_of_mem _ (List.mem_append_left _ (List.mem_append_left _ (List.mem_append_left _ (List.mem_append_left _ (List.mem_of_getElem? (i := 8) rfl)))))) (by decide) (by decide) (by decide) (by rw [hR]; exact Nat.le_of_ble_eq_true rfl) (by rw [hR]; exact Nat.le_of_ble_eq_true rfl) dX3_init_44 (fun q45 H nq45 hP hS => ?_)
  obtain ⟨w46, ew46⟩ : ∃ z, z = g_up w38 q45 (.inl (G.2.1 0, 3, .inl (fun _ => 0))) := ⟨_, rfl⟩
  have hP : g_P A G w46 H := by rw [ew46]; exact hP
  have f47 : w46 sh1 = some (.inr (5, [.int x1, .int y1, .int hd1, .int st1, .ref fr1])) := by rw [ew46]; exact g_up_f f39 (g_neq f39 nq45)
  have f48 : w46 sh2 = some (.inr (5, [.int x2, .int y2, .int hd2, .int st2, .ref fr2])) := by rw [ew46]; exact g_up_f f40 (g_neq f40 nq45)
  have f49 : w46 sh3 = some (.inr (5, [.int x3, .int y3, .int hd3, .int st3, .ref fr3])) := by rw [ew46]; exact g_up_f f41 (g_neq f41 nq45)
  have f50 : w46 h = some (.inr (4, [.int (s0 + (s0 + 2 * p0)), .null])) := by rw [ew46]; exact g_up_f f42 (g_neq f42 nq45)
  have f51 : w46 q9 = some (.inr (6, [.null, .null, .null, .int 0])) := by rw [ew46]; exact g_up_f f43 (g_neq f43 nq45)
  have f52 : w46 q16 = some (.inl (G.2.1 4, 3, .inr (.inr (.inr (.inr (va_up (va_up (va_up (fun _ => none) (0 : Int32).toNatClampNeg (some sh1)) (1 : Int32).toNatClampNeg (some sh2)) (2 : Int32).toNatClampNeg (some sh3))))))) := by rw [ew46]; exact g_up_f f44 (g_neq f44 nq45)
  have f53 : w46 q45 = some (.inl (G.2.1 0, 3, .inl (fun _ => 0))) := by rw [ew46]; exact g_up_s _ _ _
  refine lv_dup hx hb dX3_init_46 rfl ?_
  refine lv_iconst (v := 0) hx hb dX3_init_47 (by decide) ?_
  refine lv_iload hx hb dX3_init_48 (lv_at hl 5 rfl) ?_
  refine g_iast F hP hS f53 (by unfold vp_in; decide) dX3_init_50 (fun H locs hP hS => ?_)
  obtain ⟨w54, ew54⟩ : ∃ z, z = g_up w46 q45 (.inl (G.2.1 0, 3, .inl (upd (fun _ => 0) (0 : Int32).toNatClampNeg s0))) := ⟨_, rfl⟩
  have hP : g_P A G w54 H := by rw [ew54]; exact hP
  have f55 : w54 sh1 = some (.inr (5, [.int x1, .int y1, .int hd1, .int st1, .ref fr1])) := by rw [ew54]; exact g_up_f f47 (g_neq f39 nq45)
  have f56 : w54 sh2 = some (.inr (5, [.int x2, .int y2, .int hd2, .int st2, .ref fr2])) := by rw [ew54]; exact g_up_f f48 (g_neq f40 nq45)
  have f57 : w54 sh3 = some (.inr (5, [.int x3, .int y3, .int hd3, .int st3, .ref fr3])) := by rw [ew54]; exact g_up_f f49 (g_neq f41 nq45)
  have f58 : w54 h = some (.inr (4, [.int (s0 + (s0 + 2 * p0)), .null])) := by rw [ew54]; exact g_up_f f50 (g_neq f42 nq45)
  have f59 : w54 q9 = some (.inr (6, [.null, .null, .null, .int 0])) := by rw [ew54]; exact g_up_f f51 (g_neq f43 nq45)
  have f60 : w54 q16 = some (.inl (G.2.1 4, 3, .inr (.inr (.inr (.inr (va_up (va_up (va_up (fun _ => none) (0 : Int32).toNatClampNeg (some sh1)) (1 : Int32).toNatClampNeg (some sh2)) (2 : Int32).toNatClampNeg (some sh3))))))) := by rw [ew54]; exact g_up_f f52 (g_neq f44 nq45)
  have f61 : w54 q45 = some (.inl (G.2.1 0, 3, .inl (upd (fun _ => 0) (0 : Int32).toNatClampNeg s0))) := by rw [ew54]; exact g_up_s _ _ _
  refine lv_dup hx hb dX3_init_51 rfl ?_
  refine lv_iconst (v := 1) hx hb dX3_init_52 (by decide) ?_
  refine lv_iload hx hb dX3_init_53 (lv_at hl 0 rfl) ?_
  refine g_iast F hP hS f61 (by unfold vp_in; decide) dX3_init_55 (fun H locs hP hS => ?_)
  obtain ⟨w62, ew62⟩ : ∃ z, z = g_up w54 q45 (.inl (G.2.1 0, 3, .inl (upd (upd (fun _ => 0) (0 : Int32).toNatClampNeg s0) (1 : Int32).toNatClampNeg (s0 + 2 * p0)))) := ⟨_, rfl⟩
  have hP : g_P A G w62 H := by rw [ew62]; exact hP
  have f63 : w62 sh1 = some (.inr (5, [.int x1, .int y1, .int hd1, .int st1, .ref fr1])) := by rw [ew62]; exact g_up_f f55 (g_neq f39 nq45)
  have f64 : w62 sh2 = some (.inr (5, [.int x2, .int y2, .int hd2, .int st2, .ref fr2])) := by rw [ew62]; exact g_up_f f56 (g_neq f40 nq45)
  have f65 : w62 sh3 = some (.inr (5, [.int x3, .int y3, .int hd3, .int st3, .ref fr3])) := by rw [ew62]; exact g_up_f f57 (g_neq f41 nq45)
  have f66 : w62 h = some (.inr (4, [.int (s0 + (s0 + 2 * p0)), .null])) := by rw [ew62]; exact g_up_f f58 (g_neq f42 nq45)
  have f67 : w62 q9 = some (.inr (6, [.null, .null, .null, .int 0])) := by rw [ew62]; exact g_up_f f59 (g_neq f43 nq45)
  have f68 : w62 q16 = some (.inl (G.2.1 4, 3, .inr (.inr (.inr (.inr (va_up (va_up (va_up (fun _ => none) (0 : Int32).toNatClampNeg (some sh1)) (1 : Int32).toNatClampNeg (some sh2)) (2 : Int32).toNatClampNeg (some sh3))))))) := by rw [ew62]; exact g_up_f f60 (g_neq f44 nq45)
  have f69 : w62 q45 = some (.inl (G.2.1 0, 3, .inl (upd (upd (fun _ => 0) (0 : Int32).toNatClampNeg s0) (1 : Int32).toNatClampNeg (s0 + 2 * p0)))) := by rw [ew62]; exact g_up_s _ _ _
  refine lv_dup hx hb dX3_init_56 rfl ?_
  refine lv_iconst (v := 2) hx hb dX3_init_57 (by decide) ?_
  refine lv_aload_n hx hb dX3_init_58 rfl (lv_at hl 1 rfl) ?_
  refine g_get F hP (C := RX3) (T := TX3) (N := 2) iX3 f66 rfl 0 (by decide) (List.mem_cons_of_mem _ (List.mem_append_left _ (List.mem_append_left _ (List.mem_append_left _ (List.mem_append_left _ (List.mem_of_getElem? (i := 3) rfl)))))) (fun _ h9 => h9) rfl dX3_init_59 ?_
  refine lv_ineg hx hb dX3_init_62 ?_
  refine lv_topi (fun v70 ev70 => ?_)
  obtain rfl : v70 = -(s0 + (s0 + 2 * p0)) := by
    exact ev70
  refine g_iast F hP hS f69 (by unfold vp_in; decide) dX3_init_63 (fun H locs hP hS => ?_)
  obtain ⟨w71, ew71⟩ : ∃ z, z = g_up w62 q45 (.inl (G.2.1 0, 3, .inl (upd (upd (upd (fun _ => 0) (0 : Int32).toNatClampNeg s0) (1 : Int32).toNatClampNeg (s0 + 2 * p0)) (2 : Int32).toNatClampNeg (-(s0 + (s0 + 2 * p0)))))) := ⟨_, rfl⟩
  have hP : g_P A G w71 H := by rw [ew71]; exact hP
  have f72 : w71 sh1 = some (.inr (5, [.int x1, .int y1, .int hd1, .int st1, .ref fr1])) := by rw [ew71]; exact g_up_f f63 (g_neq f39 nq45)
  have f73 : w71 sh2 = some (.inr (5, [.int x2, .int y2, .int hd2, .int st2, .ref fr2])) := by rw [ew71]; exact g_up_f f64 (g_neq f40 nq45)
  have f74 : w71 sh3 = some (.inr (5, [.int x3, .int y3, .int hd3, .int st3, .ref fr3])) := by rw [ew71]; exact g_up_f f65 (g_neq f41 nq45)
  have f75 : w71 h = some (.inr (4, [.int (s0 + (s0 + 2 * p0)), .null])) := by rw [ew71]; exact g_up_f f66 (g_neq f42 nq45)
  have f76 : w71 q9 = some (.inr (6, [.null, .null, .null, .int 0])) := by rw [ew71]; exact g_up_f f67 (g_neq f43 nq45)
  have f77 : w71 q16 = some (.inl (G.2.1 4, 3, .inr (.inr (.inr (.inr (va_up (va_up (va_up (fun _ => none) (0 : Int32).toNatClampNeg (some sh1)) (1 : Int32).toNatClampNeg (some sh2)) (2 : Int32).toNatClampNeg (some sh3))))))) := by rw [ew71]; exact g_up_f f68 (g_neq f44 nq45)
  have f78 : w71 q45 = some (.inl (G.2.1 0, 3, .inl (upd (upd (upd (fun _ => 0) (0 : Int32).toNatClampNeg s0) (1 : Int32).toNatClampNeg (s0 + 2 * p0)) (2 : Int32).toNatClampNeg (-(s0 + (s0 + 2 * p0)))))) := by rw [ew71]; exact g_up_s _ _ _
  refine g_Iv (As := [.ref q16, .ref q45]) (rest := [.ref q9, .ref h]) F hP hS (k_X5_init l A G w71 q9 q16 q45 f76) (cwI 2 hts gX3_init_X5_init rfl rfl rfl (hts _ (List.mem_cons_of_mem _ (List.mem_append_left _ (List.mem_append_left _ (List.mem_append_left _ (List.mem_append_left _ (List.mem_of_getElem? (i := 6) rfl))))))) (hts _ (List.mem_cons_of_mem _ (List.mem_append_left _ (List.mem_append_left _ (List.mem_append_left _ (List.mem_append_left _ (List.mem_of_getElem? (i := 10) rfl))))))) (hts _ (List.mem_cons_of_mem _ (List.mem_append_left _ (List.mem_append_left _ (List.mem_append_left _ (List.mem_append_left _ (List.mem_of_getElem? (i := 11) rfl))))))) rfl cd_X5_init ⟨by rw [hR]; exact Nat.le_of_ble_eq_true rfl, by rw [hR]; exact Nat.le_of_ble_eq_true rfl⟩) rfl hl.1 (Nat.le_of_ble_eq_true rfl) dX3_init_64 ⟨by rw [hR]; exact Nat.le_of_ble_eq_true rfl, by rw [hR]; exact Nat.le_of_ble_eq_true rfl⟩ rfl (fun w80 H locs h81 hP hS => ?_)
  obtain ⟨q82, nq82, ew80⟩ := h81
  have f83 : w80 sh1 = some (.inr (5, [.int x1, .int y1, .int hd1, .int st1, .ref fr1])) := by rw [ew80]; exact g_up_f (g_up_f f72 (g_neq f72 nq82)) (g_neq f5 nq9)
  have f84 : w80 sh2 = some (.inr (5, [.int x2, .int y2, .int hd2, .int st2, .ref fr2])) := by rw [ew80]; exact g_up_f (g_up_f f73 (g_neq f73 nq82)) (g_neq f6 nq9)
  have f85 : w80 sh3 = some (.inr (5, [.int x3, .int y3, .int hd3, .int st3, .ref fr3])) := by rw [ew80]; exact g_up_f (g_up_f f74 (g_neq f74 nq82)) (g_neq f7 nq9)
  have f86 : w80 h = some (.inr (4, [.int (s0 + (s0 + 2 * p0)), .null])) := by rw [ew80]; exact g_up_f (g_up_f f75 (g_neq f75 nq82)) (g_neq f8 nq9)
  have f87 : w80 q16 = some (.inl (G.2.1 4, 3, .inr (.inr (.inr (.inr (va_up (va_up (va_up (fun _ => none) (0 : Int32).toNatClampNeg (some sh1)) (1 : Int32).toNatClampNeg (some sh2)) (2 : Int32).toNatClampNeg (some sh3))))))) := by rw [ew80]; exact g_up_f (g_up_f f77 (g_neq f77 nq82)) (g_ne f77 f76 rfl)
  have f88 : w80 q45 = some (.inl (G.2.1 0, 3, .inl (upd (upd (upd (fun _ => 0) (0 : Int32).toNatClampNeg s0) (1 : Int32).toNatClampNeg (s0 + 2 * p0)) (2 : Int32).toNatClampNeg (-(s0 + (s0 + 2 * p0)))))) := by rw [ew80]; exact g_up_f (g_up_f f78 (g_neq f78 nq82)) (g_ne f78 f76 rfl)
  have f89 : w80 q82 = some (.inr (1, [.long 0, .long 1])) := by rw [ew80]; exact g_up_f (g_up_s _ _ _) (Ne.symm (g_neq f76 nq82))
  have f90 : w80 q9 = some (.inr (6, [.ref q16, .ref q45, .ref q82, .int 0])) := by rw [ew80]; exact g_up_s _ _ _
  refine g_putF F hP hS (C := RX3) (T := TX3) (N := 2) (v := .ref q9) (ty := (.object "GearTrains$Tie")) iX3 tyX3 tyX3_ok nmX3 f86 rfl 1 (by decide) (List.mem_cons_of_mem _ (List.mem_append_left _ (List.mem_append_left _ (List.mem_append_left _ (List.mem_append_left _ (List.mem_of_getElem? (i := 9) rfl)))))) (fun _ h9 => h9) rfl hnm0 rfl (by decide +kernel) rfl rfl (by show 1 < 2; decide) dX3_init_67 (fun H locs hP hS => ?_)
  obtain ⟨w91, ew91⟩ : ∃ z, z = g_up w80 h (.inr (4, [.int (s0 + (s0 + 2 * p0)), .ref q9])) := ⟨_, rfl⟩
  have hP : g_P A G w91 H := by rw [ew91]; exact hP
  have f92 : w91 sh1 = some (.inr (5, [.int x1, .int y1, .int hd1, .int st1, .ref fr1])) := by rw [ew91]; exact g_up_f f83 (g_ne f83 f86 rfl)
  have f93 : w91 sh2 = some (.inr (5, [.int x2, .int y2, .int hd2, .int st2, .ref fr2])) := by rw [ew91]; exact g_up_f f84 (g_ne f84 f86 rfl)
  have f94 : w91 sh3 = some (.inr (5, [.int x3, .int y3, .int hd3, .int st3, .ref fr3])) := by rw [ew91]; exact g_up_f f85 (g_ne f85 f86 rfl)
  have f95 : w91 q16 = some (.inl (G.2.1 4, 3, .inr (.inr (.inr (.inr (va_up (va_up (va_up (fun _ => none) (0 : Int32).toNatClampNeg (some sh1)) (1 : Int32).toNatClampNeg (some sh2)) (2 : Int32).toNatClampNeg (some sh3))))))) := by rw [ew91]; exact g_up_f f87 (Ne.symm (g_neq f14 nq16))
  have f96 : w91 q45 = some (.inl (G.2.1 0, 3, .inl (upd (upd (upd (fun _ => 0) (0 : Int32).toNatClampNeg s0) (1 : Int32).toNatClampNeg (s0 + 2 * p0)) (2 : Int32).toNatClampNeg (-(s0 + (s0 + 2 * p0)))))) := by rw [ew91]; exact g_up_f f88 (Ne.symm (g_neq f42 nq45))
  have f97 : w91 q82 = some (.inr (1, [.long 0, .long 1])) := by rw [ew91]; exact g_up_f f89 (g_ne f89 f86 rfl)
  have f98 : w91 q9 = some (.inr (6, [.ref q16, .ref q45, .ref q82, .int 0])) := by rw [ew91]; exact g_up_f f90 (Ne.symm (g_neq f8 nq9))
  have f99 : w91 h = some (.inr (4, [.int (s0 + (s0 + 2 * p0)), .ref q9])) := by rw [ew91]; exact g_up_s _ _ _
  rw [hQ]
  refine g_vret F hP hS hlocks hr dX3_init_70 (by first | exact Nat.le_of_ble_eq_true rfl | omega) (by first | exact Nat.le_of_ble_eq_true rfl | omega) ?_
  have nnq9 := nq9
  rw [ew4] at nnq9
  obtain ⟨ddq9_0, nnq9⟩ := g_up_none nnq9
  have nnq16 := nq16
  rw [ew10] at nnq16
  obtain ⟨ddq16_0, nnq16⟩ := g_up_none nnq16
  rw [ew4] at nnq16
  obtain ⟨ddq16_1, nnq16⟩ := g_up_none nnq16
  have nnq45 := nq45
  rw [ew38] at nnq45
  obtain ⟨ddq45_0, nnq45⟩ := g_up_none nnq45
  rw [ew31] at nnq45
  obtain ⟨ddq45_1, nnq45⟩ := g_up_none nnq45
  rw [ew24] at nnq45
  obtain ⟨ddq45_2, nnq45⟩ := g_up_none nnq45
  rw [ew17] at nnq45
  obtain ⟨ddq45_3, nnq45⟩ := g_up_none nnq45
  rw [ew10] at nnq45
  obtain ⟨ddq45_4, nnq45⟩ := g_up_none nnq45
  rw [ew4] at nnq45
  obtain ⟨ddq45_5, nnq45⟩ := g_up_none nnq45
  have nnq82 := nq82
  rw [ew71] at nnq82
  obtain ⟨ddq82_0, nnq82⟩ := g_up_none nnq82
  rw [ew62] at nnq82
  obtain ⟨ddq82_1, nnq82⟩ := g_up_none nnq82
  rw [ew54] at nnq82
  obtain ⟨ddq82_2, nnq82⟩ := g_up_none nnq82
  rw [ew46] at nnq82
  obtain ⟨ddq82_3, nnq82⟩ := g_up_none nnq82
  rw [ew38] at nnq82
  obtain ⟨ddq82_4, nnq82⟩ := g_up_none nnq82
  rw [ew31] at nnq82
  obtain ⟨ddq82_5, nnq82⟩ := g_up_none nnq82
  rw [ew24] at nnq82
  obtain ⟨ddq82_6, nnq82⟩ := g_up_none nnq82
  rw [ew17] at nnq82
  obtain ⟨ddq82_7, nnq82⟩ := g_up_none nnq82
  rw [ew10] at nnq82
  obtain ⟨ddq82_8, nnq82⟩ := g_up_none nnq82
  rw [ew4] at nnq82
  obtain ⟨ddq82_9, nnq82⟩ := g_up_none nnq82
  refine ⟨q9, q16, q45, q82, (va_up (va_up (va_up (fun _ => none) (0 : Int32).toNatClampNeg (some sh1)) (1 : Int32).toNatClampNeg (some sh2)) (2 : Int32).toNatClampNeg (some sh3)), (upd (upd (upd (fun _ => 0) (0 : Int32).toNatClampNeg s0) (1 : Int32).toNatClampNeg (s0 + 2 * p0)) (2 : Int32).toNatClampNeg (-(s0 + (s0 + 2 * p0)))), ⟨nnq9, nnq16, nnq45, nnq82⟩, ⟨Ne.symm ddq16_0, Ne.symm ddq45_4, Ne.symm ddq82_8, Ne.symm ddq45_0, Ne.symm ddq82_4, Ne.symm ddq82_0⟩, ?_, ?_, ?_⟩
  · exact ⟨by simp [va_up, show (0 : Int32).toNatClampNeg = 0 from by decide, show (1 : Int32).toNatClampNeg = 1 from by decide, show (2 : Int32).toNatClampNeg = 2 from by decide], by simp [va_up, show (0 : Int32).toNatClampNeg = 0 from by decide, show (1 : Int32).toNatClampNeg = 1 from by decide, show (2 : Int32).toNatClampNeg = 2 from by decide], by simp [va_up, show (0 : Int32).toNatClampNeg = 0 from by decide, show (1 : Int32).toNatClampNeg = 1 from by decide, show (2 : Int32).toNatClampNeg = 2 from by decide]⟩
  · exact ⟨by simp [upd, show (0 : Int32).toNatClampNeg = 0 from by decide, show (1 : Int32).toNatClampNeg = 1 from by decide, show (2 : Int32).toNatClampNeg = 2 from by decide], by simp [upd, show (0 : Int32).toNatClampNeg = 0 from by decide, show (1 : Int32).toNatClampNeg = 1 from by decide, show (2 : Int32).toNatClampNeg = 2 from by decide], by simp [upd, show (0 : Int32).toNatClampNeg = 0 from by decide, show (1 : Int32).toNatClampNeg = 1 from by decide, show (2 : Int32).toNatClampNeg = 2 from by decide]⟩
  · funext z
    by_cases z_h : z = h
    · rw [z_h, f99]; exact (g_up_s _ _ _).symm
    rw [g_up_n _ z_h]
    by_cases z_q82 : z = q82
    · rw [z_q82, f97]; exact (g_up_s _ _ _).symm
    rw [g_up_n _ z_q82]
    by_cases z_q45 : z = q45
    · rw [z_q45, f96]; exact (g_up_s _ _ _).symm
    rw [g_up_n _ z_q45]
    by_cases z_q16 : z = q16
    · rw [z_q16, f95]; exact (g_up_s _ _ _).symm
    rw [g_up_n _ z_q16]
    by_cases z_q9 : z = q9
    · rw [z_q9, f98]; exact (g_up_s _ _ _).symm
    rw [g_up_n _ z_q9]
    rw [ew91, g_up_n _ z_h]
    rw [ew80, g_up_n _ z_q9, g_up_n _ z_q82]
    rw [ew71, g_up_n _ z_q45]
    rw [ew62, g_up_n _ z_q45]
    rw [ew54, g_up_n _ z_q45]
    rw [ew46, g_up_n _ z_q45]
    rw [ew38, g_up_n _ z_q16]
    rw [ew31, g_up_n _ z_q16]
    rw [ew24, g_up_n _ z_q16]
    rw [ew17, g_up_n _ z_q16]
    rw [ew10, g_up_n _ z_q9]
    rw [ew4, g_up_n _ z_h]
