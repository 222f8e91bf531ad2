set_option maxHeartbeats 4000000 in
set_option maxRecDepth 100000 in
theorem k_X3_init (l : Launch) (A : Nat → Prop) (G : g_C) (w : g_W) (h sh1 sh2 sh3 : Nat) (s0 p0 : Int32) (x1 y1 hd1 st1 : Int32) (fr1 : Nat) (x2 y2 hd2 st2 : Int32) (fr2 : Nat) (x3 y3 hd3 st3 : Int32) (fr3 : Nat) (hh : w h = some (.inr (4, [.int 0, .null]))) (hs1 : w sh1 = some (.inr (5, [.int x1, .int y1, .int hd1, .int st1, .ref fr1]))) (hs2 : w sh2 = some (.inr (5, [.int x2, .int y2, .int hd2, .int st2, .ref fr2]))) (hs3 : w sh3 = some (.inr (5, [.int x3, .int y3, .int hd3, .int st3, .ref fr3]))) : mV l yX3_init wsX3_init ({ frames := 3, cells := 6, slots := 14, locals := 81 } : Room) [.ref h, .ref sh1, .ref sh2, .ref sh3, .int s0, .int p0] A G w (fun w' => ∃ q1 q2 q3 q4 q5 q6 fS, (w q1 = none ∧ w q2 = none ∧ w q3 = none ∧ w q4 = none ∧ w q5 = none ∧ w q6 = none) ∧ (q1 ≠ q2 ∧ q1 ≠ q3 ∧ q1 ≠ q4 ∧ q1 ≠ q5 ∧ q1 ≠ q6 ∧ q2 ≠ q3 ∧ q2 ≠ q4 ∧ q2 ≠ q5 ∧ q2 ≠ q6 ∧ q3 ≠ q4 ∧ q3 ≠ q5 ∧ q3 ≠ q6 ∧ q4 ≠ q5 ∧ q4 ≠ q6 ∧ q5 ≠ q6) ∧ (fS 0 = some q4 ∧ fS 1 = some q5 ∧ fS 2 = some q6) ∧ w' = g_up (g_up (g_up (g_up (g_up (g_up (g_up w q1 (.inr (6, [.ref q2, .ref q3, .int 0]))) q2 (.inl (G.2.1 4, 3, .inr (.inr (.inr (.inr fS)))))) q3 (.inr (1, [.long 0, .long 1]))) q4 (.inr (9, [.ref sh1, .int s0]))) q5 (.inr (9, [.ref sh2, .int (s0 + 2 * p0)]))) q6 (.inr (9, [.ref sh3, .int (-(s0 + (s0 + 2 * p0)))]))) h (.inr (4, [.int (s0 + (s0 + 2 * p0)), .ref q1]))) 6 14 := by
  refine g_ofV (cc := cX3_init) (maxL := 7) (ret := none) (own := RX3) (by decide) rfl rfl (Nat.le_of_ble_eq_true rfl) ?_
  intro p e R s m args below meth c Q ls hR F hP hS hlocks hr hnm0 hQ hl
  obtain ⟨⟨hx, hb, hml, hown, hts⟩, hK, hZ, hA⟩ := id F
  generalize hH0 : s.heap = H at hP ⊢
  have hS : va_S A s.heap H [] := by rw [← hH0]; exact va_S.rf
  generalize ([] : List Loc) = locs at hS ⊢
  have hl : lv_has ls 7 [(0, .ref h), (1, .ref sh1), (2, .ref sh2), (3, .ref sh3), (4, .int s0), (5, .int p0)] := hl
  have iX3 : ∀ w ∈ u_ws RX3 TX3 2, w ∈ wsX3_init := fun w h => List.mem_cons_of_mem _ (List.mem_append_left _ (List.mem_append_left _ (List.mem_append_left _ (List.mem_append_right _ (h)))))
  have iX5 : ∀ w ∈ u_ws RX5 TX5 3, w ∈ wsX3_init := fun w h => List.mem_cons_of_mem _ (List.mem_append_left _ (List.mem_append_left _ (List.mem_append_right _ (h))))
  have iX9 : ∀ w ∈ u_ws RX9 TX9 2, w ∈ wsX3_init := fun w h => List.mem_cons_of_mem _ (List.mem_append_left _ (List.mem_append_right _ (h)))
  refine lv_aload_n hx hb dX3_init_0 rfl (lv_at hl 0 rfl) ?_
  refine W.objInit hx hb hown (hts _ (List.mem_cons_of_mem _ (List.mem_append_left _ (List.mem_append_left _ (List.mem_append_left _ (List.mem_append_left _ (List.mem_append_left _ (List.mem_of_getElem? (i := 0) rfl)))))))) (hts _ (List.mem_cons_of_mem _ (List.mem_append_left _ (List.mem_append_left _ (List.mem_append_left _ (List.mem_append_left _ (List.mem_append_left _ (List.mem_of_getElem? (i := 1) rfl)))))))) (hts _ (List.mem_cons_of_mem _ (List.mem_append_left _ (List.mem_append_left _ (List.mem_append_left _ (List.mem_append_left _ (List.mem_append_left _ (List.mem_of_getElem? (i := 2) rfl)))))))) rfl (by rw [hml]; exact hl.1) rfl dX3_init_1 (by rw [hR]; exact Nat.le_of_ble_eq_true rfl) (by rw [hR]; exact Nat.le_of_ble_eq_true rfl) ?_
  show W p l e R s m args below meth c H locs _ _ Q (F0 m 4 ls [])
  refine lv_iload hx hb dX3_init_4 (lv_at hl 4 rfl) ?_
  refine lv_iconst (v := 2) hx hb dX3_init_6 (by decide) ?_
  refine lv_iload hx hb dX3_init_7 (lv_at hl 5 rfl) ?_
  refine lv_imul hx hb dX3_init_9 ?_
  refine lv_topi (fun v1 ev1 => ?_)
  obtain rfl : v1 = 2 * p0 := by
    exact ev1
  refine lv_iadd hx hb dX3_init_10 ?_
  refine lv_topi (fun v2 ev2 => ?_)
  obtain rfl : v2 = s0 + 2 * p0 := by
    exact ev2
  refine lv_istore (lv' := [(6, .int (s0 + 2 * p0)), (0, .ref h), (1, .ref sh1), (2, .ref sh2), (3, .ref sh3), (4, .int s0), (5, .int p0)]) hx hb dX3_init_11 hl (by decide) rfl (fun ls hl => ?_)
  refine lv_aload_n hx hb dX3_init_13 rfl (lv_at hl 1 rfl) ?_
  refine lv_iload hx hb dX3_init_14 (lv_at hl 5 rfl) ?_
  refine lv_iload hx hb dX3_init_16 (lv_at hl 0 rfl) ?_
  refine lv_iadd hx hb dX3_init_18 ?_
  refine lv_topi (fun v3 ev3 => ?_)
  obtain rfl : v3 = s0 + (s0 + 2 * p0) := by
    exact ev3
  refine g_putF F hP hS (C := RX3) (T := TX3) (N := 2) (v := .int (s0 + (s0 + 2 * p0))) (ty := .int) iX3 tyX3 tyX3_ok nmX3 hh rfl 0 (by decide) (List.mem_cons_of_mem _ (List.mem_append_left _ (List.mem_append_left _ (List.mem_append_left _ (List.mem_append_left _ (List.mem_append_left _ (List.mem_of_getElem? (i := 3) rfl))))))) (fun _ h9 => h9) rfl hnm0 rfl (by decide +kernel) rfl rfl (by show 0 < 2; decide) dX3_init_19 (fun H locs hP hS => ?_)
  obtain ⟨w4, ew4⟩ : ∃ z, z = g_up w h (.inr (4, [.int (s0 + (s0 + 2 * p0)), .null])) := ⟨_, rfl⟩
  have hP : g_P A G w4 H := by rw [ew4]; exact hP
  have f5 : w4 sh1 = some (.inr (5, [.int x1, .int y1, .int hd1, .int st1, .ref fr1])) := by rw [ew4]; exact g_up_f hs1 (g_ne hs1 hh rfl)
  have f6 : w4 sh2 = some (.inr (5, [.int x2, .int y2, .int hd2, .int st2, .ref fr2])) := by rw [ew4]; exact g_up_f hs2 (g_ne hs2 hh rfl)
  have f7 : w4 sh3 = some (.inr (5, [.int x3, .int y3, .int hd3, .int st3, .ref fr3])) := by rw [ew4]; exact g_up_f hs3 (g_ne hs3 hh rfl)
  have f8 : w4 h = some (.inr (4, [.int (s0 + (s0 + 2 * p0)), .null])) := by rw [ew4]; exact g_up_s _ _ _
  refine lv_aload_n hx hb dX3_init_22 rfl (lv_at hl 1 rfl) ?_
  refine g_new F hP hS (ci := 6) (C := RX5) (T := TX5) (N := 3) (fs := [.null, .null, .int 0]) iX5 tyX5 tyX5_ok (List.mem_cons_of_mem _ (List.mem_append_left _ (List.mem_append_left _ (List.mem_append_left _ (List.mem_append_left _ (List.mem_append_left _ (List.mem_of_getElem? (i := 4) rfl))))))) (List.mem_cons_of_mem _ (List.mem_append_left _ (List.mem_append_left _ (List.mem_append_left _ (List.mem_append_left _ (List.mem_append_left _ (List.mem_of_getElem? (i := 5) rfl))))))) (List.mem_cons_of_mem _ (List.mem_append_left _ (List.mem_append_left _ (List.mem_append_left _ (List.mem_append_left _ (List.mem_append_left _ (List.mem_of_getElem? (i := 6) rfl))))))) rfl (by intro j hj; match j, hj with | 0, _ => rfl | 1, _ => rfl | 2, _ => rfl | j + 3, hj => exact absurd hj (by omega)) (by rw [hR]; exact Nat.le_of_ble_eq_true rfl) (by rw [hR]; exact Nat.le_of_ble_eq_true rfl) dX3_init_23 (fun q9 H nq9 hP hS => ?_)
  obtain ⟨w10, ew10⟩ : ∃ z, z = g_up w4 q9 (.inr (6, [.null, .null, .int 0])) := ⟨_, rfl⟩
  have hP : g_P A G w10 H := by rw [ew10]; exact hP
  have f11 : w10 sh1 = some (.inr (5, [.int x1, .int y1, .int hd1, .int st1, .ref fr1])) := by rw [ew10]; exact g_up_f f5 (g_neq f5 nq9)
  have f12 : w10 sh2 = some (.inr (5, [.int x2, .int y2, .int hd2, .int st2, .ref fr2])) := by rw [ew10]; exact g_up_f f6 (g_neq f6 nq9)
  have f13 : w10 sh3 = some (.inr (5, [.int x3, .int y3, .int hd3, .int st3, .ref fr3])) := by rw [ew10]; exact g_up_f f7 (g_neq f7 nq9)
  have f14 : w10 h = some (.inr (4, [.int (s0 + (s0 + 2 * p0)), .null])) := by rw [ew10]; exact g_up_f f8 (g_neq f8 nq9)
  have f15 : w10 q9 = some (.inr (6, [.null, .null, .int 0])) := by rw [ew10]; exact g_up_s _ _ _
  refine lv_dup hx hb dX3_init_26 rfl ?_
  refine lv_iconst (v := 3) hx hb dX3_init_27 (by decide) ?_
  refine g_newqS F hP hS (N' := 3) (List.mem_cons_of_mem _ (List.mem_append_left _ (List.mem_append_left _ (List.mem_append_left _ (List.mem_append_left _ (List.mem_append_left _ (List.mem_of_getElem? (i := 7) rfl))))))) (by decide) (by decide) (by decide) (by rw [hR]; exact Nat.le_of_ble_eq_true rfl) (by rw [hR]; exact Nat.le_of_ble_eq_true rfl) dX3_init_28 (fun q16 H nq16 hP hS => ?_)
  obtain ⟨w17, ew17⟩ : ∃ z, z = g_up w10 q16 (.inl (G.2.1 4, 3, .inr (.inr (.inr (.inr (fun _ => none)))))) := ⟨_, rfl⟩
  have hP : g_P A G w17 H := by rw [ew17]; exact hP
  have f18 : w17 sh1 = some (.inr (5, [.int x1, .int y1, .int hd1, .int st1, .ref fr1])) := by rw [ew17]; exact g_up_f f11 (g_neq f11 nq16)
  have f19 : w17 sh2 = some (.inr (5, [.int x2, .int y2, .int hd2, .int st2, .ref fr2])) := by rw [ew17]; exact g_up_f f12 (g_neq f12 nq16)
  have f20 : w17 sh3 = some (.inr (5, [.int x3, .int y3, .int hd3, .int st3, .ref fr3])) := by rw [ew17]; exact g_up_f f13 (g_neq f13 nq16)
  have f21 : w17 h = some (.inr (4, [.int (s0 + (s0 + 2 * p0)), .null])) := by rw [ew17]; exact g_up_f f14 (g_neq f14 nq16)
  have f22 : w17 q9 = some (.inr (6, [.null, .null, .int 0])) := by rw [ew17]; exact g_up_f f15 (g_neq f15 nq16)
  have f23 : w17 q16 = some (.inl (G.2.1 4, 3, .inr (.inr (.inr (.inr (fun _ => none)))))) := by rw [ew17]; exact g_up_s _ _ _
  refine lv_dup hx hb dX3_init_31 rfl ?_
  refine lv_iconst (v := 0) hx hb dX3_init_32 (by decide) ?_
  refine g_new F hP hS (ci := 9) (C := RX9) (T := TX9) (N := 2) (fs := [.null, .int 0]) iX9 tyX9 tyX9_ok (List.mem_cons_of_mem _ (List.mem_append_left _ (List.mem_append_left _ (List.mem_append_left _ (List.mem_append_left _ (List.mem_append_left _ (List.mem_of_getElem? (i := 7) rfl))))))) (List.mem_cons_of_mem _ (List.mem_append_left _ (List.mem_append_left _ (List.mem_append_left _ (List.mem_append_left _ (List.mem_append_left _ (List.mem_of_getElem? (i := 8) rfl))))))) (List.mem_cons_of_mem _ (List.mem_append_left _ (List.mem_append_left _ (List.mem_append_left _ (List.mem_append_left _ (List.mem_append_left _ (List.mem_of_getElem? (i := 9) rfl))))))) rfl (by intro j hj; match j, hj with | 0, _ => rfl | 1, _ => rfl | j + 2, hj => exact absurd hj (by omega)) (by rw [hR]; exact Nat.le_of_ble_eq_true rfl) (by rw [hR]; exact Nat.le_of_ble_eq_true rfl) dX3_init_33 (fun q24 H nq24 hP hS => ?_)
  obtain ⟨w25, ew25⟩ : ∃ z, z = g_up w17 q24 (.inr (9, [.null, .int 0])) := ⟨_, rfl⟩
  have hP : g_P A G w25 H := by rw [ew25]; exact hP
  have f26 : w25 sh1 = some (.inr (5, [.int x1, .int y1, .int hd1, .int st1, .ref fr1])) := by rw [ew25]; exact g_up_f f18 (g_neq f18 nq24)
  have f27 : w25 sh2 = some (.inr (5, [.int x2, .int y2, .int hd2, .int st2, .ref fr2])) := by rw [ew25]; exact g_up_f f19 (g_neq f19 nq24)
  have f28 : w25 sh3 = some (.inr (5, [.int x3, .int y3, .int hd3, .int st3, .ref fr3])) := by rw [ew25]; exact g_up_f f20 (g_neq f20 nq24)
  have f29 : w25 h = some (.inr (4, [.int (s0 + (s0 + 2 * p0)), .null])) := by rw [ew25]; exact g_up_f f21 (g_neq f21 nq24)
  have f30 : w25 q9 = some (.inr (6, [.null, .null, .int 0])) := by rw [ew25]; exact g_up_f f22 (g_neq f22 nq24)
  have f31 : w25 q16 = some (.inl (G.2.1 4, 3, .inr (.inr (.inr (.inr (fun _ => none)))))) := by rw [ew25]; exact g_up_f f23 (g_neq f23 nq24)
  have f32 : w25 q24 = some (.inr (9, [.null, .int 0])) := by rw [ew25]; exact g_up_s _ _ _
  refine lv_dup hx hb dX3_init_36 rfl ?_
  refine lv_aload_n hx hb dX3_init_37 rfl (lv_at hl 2 rfl) ?_
  refine lv_iload hx hb dX3_init_38 (lv_at hl 5 rfl) ?_
  refine g_Iv (As := [.ref sh1, .int s0]) (rest := [.ref q24, .int 0, .ref q16, .ref q16, .ref q9, .ref q9, .ref h]) F hP hS (k_X9_init l A G w25 q24 sh1 s0 f32) (cwI 2 hts gX3_init_X9_init rfl rfl rfl (hts _ (List.mem_cons_of_mem _ (List.mem_append_left _ (List.mem_append_left _ (List.mem_append_left _ (List.mem_append_left _ (List.mem_append_left _ (List.mem_of_getElem? (i := 9) rfl)))))))) (hts _ (List.mem_cons_of_mem _ (List.mem_append_left _ (List.mem_append_left _ (List.mem_append_left _ (List.mem_append_left _ (List.mem_append_left _ (List.mem_of_getElem? (i := 11) rfl)))))))) (hts _ (List.mem_cons_of_mem _ (List.mem_append_left _ (List.mem_append_left _ (List.mem_append_left _ (List.mem_append_left _ (List.mem_append_left _ (List.mem_of_getElem? (i := 12) rfl)))))))) rfl cd_X9_init ⟨by rw [hR]; exact Nat.le_of_ble_eq_true rfl, by rw [hR]; exact Nat.le_of_ble_eq_true rfl⟩) rfl hl.1 (Nat.le_of_ble_eq_true rfl) dX3_init_40 ⟨by rw [hR]; exact Nat.le_of_ble_eq_true rfl, by rw [hR]; exact Nat.le_of_ble_eq_true rfl⟩ rfl (fun w34 H locs h35 hP hS => ?_)
  have f36 : w34 sh1 = some (.inr (5, [.int x1, .int y1, .int hd1, .int st1, .ref fr1])) := by rw [h35]; exact g_up_f f26 (g_neq f18 nq24)
  have f37 : w34 sh2 = some (.inr (5, [.int x2, .int y2, .int hd2, .int st2, .ref fr2])) := by rw [h35]; exact g_up_f f27 (g_neq f19 nq24)
  have f38 : w34 sh3 = some (.inr (5, [.int x3, .int y3, .int hd3, .int st3, .ref fr3])) := by rw [h35]; exact g_up_f f28 (g_neq f20 nq24)
  have f39 : w34 h = some (.inr (4, [.int (s0 + (s0 + 2 * p0)), .null])) := by rw [h35]; exact g_up_f f29 (g_neq f21 nq24)
  have f40 : w34 q9 = some (.inr (6, [.null, .null, .int 0])) := by rw [h35]; exact g_up_f f30 (g_neq f22 nq24)
  have f41 : w34 q16 = some (.inl (G.2.1 4, 3, .inr (.inr (.inr (.inr (fun _ => none)))))) := by rw [h35]; exact g_up_f f31 (g_neq f23 nq24)
  have f42 : w34 q24 = some (.inr (9, [.ref sh1, .int s0])) := by rw [h35]; exact g_up_s _ _ _
  refine g_astqS F hP hS f41 f42 (by unfold vp_in; decide) dX3_init_43 (fun H locs hP hS => ?_)
  obtain ⟨w43, ew43⟩ : ∃ z, z = g_up w34 q16 (.inl (G.2.1 4, 3, .inr (.inr (.inr (.inr (va_up (fun _ => none) (0 : Int32).toNatClampNeg (some q24))))))) := ⟨_, rfl⟩
  have hP : g_P A G w43 H := by rw [ew43]; exact hP
  have f44 : w43 sh1 = some (.inr (5, [.int x1, .int y1, .int hd1, .int st1, .ref fr1])) := by rw [ew43]; exact g_up_f f36 (g_neq f11 nq16)
  have f45 : w43 sh2 = some (.inr (5, [.int x2, .int y2, .int hd2, .int st2, .ref fr2])) := by rw [ew43]; exact g_up_f f37 (g_neq f12 nq16)
  have f46 : w43 sh3 = some (.inr (5, [.int x3, .int y3, .int hd3, .int st3, .ref fr3])) := by rw [ew43]; exact g_up_f f38 (g_neq f13 nq16)
  have f47 : w43 h = some (.inr (4, [.int (s0 + (s0 + 2 * p0)), .null])) := by rw [ew43]; exact g_up_f f39 (g_neq f14 nq16)
  have f48 : w43 q9 = some (.inr (6, [.null, .null, .int 0])) := by rw [ew43]; exact g_up_f f40 (g_neq f15 nq16)
  have f49 : w43 q24 = some (.inr (9, [.ref sh1, .int s0])) := by rw [ew43]; exact g_up_f f42 (Ne.symm (g_neq f23 nq24))
  have f50 : w43 q16 = some (.inl (G.2.1 4, 3, .inr (.inr (.inr (.inr (va_up (fun _ => none) (0 : Int32).toNatClampNeg (some q24))))))) := by rw [ew43]; exact g_up_s _ _ _
  refine lv_dup hx hb dX3_init_44 rfl ?_
  refine lv_iconst (v := 1) hx hb dX3_init_45 (by decide) ?_
  refine g_new F hP hS (ci := 9) (C := RX9) (T := TX9) (N := 2) (fs := [.null, .int 0]) iX9 tyX9 tyX9_ok (List.mem_cons_of_mem _ (List.mem_append_left _ (List.mem_append_left _ (List.mem_append_left _ (List.mem_append_left _ (List.mem_append_left _ (List.mem_of_getElem? (i := 7) rfl))))))) (List.mem_cons_of_mem _ (List.mem_append_left _ (List.mem_append_left _ (List.mem_append_left _ (List.mem_append_left _ (List.mem_append_left _ (List.mem_of_getElem? (i := 8) rfl))))))) (List.mem_cons_of_mem _ (List.mem_append_left _ (List.mem_append_left _ (List.mem_append_left _ (List.mem_append_left _ (List.mem_append_left _ (List.mem_of_getElem? (i := 9) rfl))))))) rfl (by intro j hj; match j, hj with | 0, _ => rfl | 1, _ => rfl | j + 2, hj => exact absurd hj (by omega)) (by rw [hR]; exact Nat.le_of_ble_eq_true rfl) (by rw [hR]; exact Nat.le_of_ble_eq_true rfl) dX3_init_46 (fun q51 H nq51 hP hS => ?_)
  obtain ⟨w52, ew52⟩ : ∃ z, z = g_up w43 q51 (.inr (9, [.null, .int 0])) := ⟨_, rfl⟩
  have hP : g_P A G w52 H := by rw [ew52]; exact hP
  have f53 : w52 sh1 = some (.inr (5, [.int x1, .int y1, .int hd1, .int st1, .ref fr1])) := by rw [ew52]; exact g_up_f f44 (g_neq f44 nq51)
  have f54 : w52 sh2 = some (.inr (5, [.int x2, .int y2, .int hd2, .int st2, .ref fr2])) := by rw [ew52]; exact g_up_f f45 (g_neq f45 nq51)
  have f55 : w52 sh3 = some (.inr (5, [.int x3, .int y3, .int hd3, .int st3, .ref fr3])) := by rw [ew52]; exact g_up_f f46 (g_neq f46 nq51)
  have f56 : w52 h = some (.inr (4, [.int (s0 + (s0 + 2 * p0)), .null])) := by rw [ew52]; exact g_up_f f47 (g_neq f47 nq51)
  have f57 : w52 q9 = some (.inr (6, [.null, .null, .int 0])) := by rw [ew52]; exact g_up_f f48 (g_neq f48 nq51)
  have f58 : w52 q24 = some (.inr (9, [.ref sh1, .int s0])) := by rw [ew52]; exact g_up_f f49 (g_neq f49 nq51)
  have f59 : w52 q16 = some (.inl (G.2.1 4, 3, .inr (.inr (.inr (.inr (va_up (fun _ => none) (0 : Int32).toNatClampNeg (some q24))))))) := by rw [ew52]; exact g_up_f f50 (g_neq f50 nq51)
  have f60 : w52 q51 = some (.inr (9, [.null, .int 0])) := by rw [ew52]; exact g_up_s _ _ _
  refine lv_dup hx hb dX3_init_49 rfl ?_
  refine lv_aload_n hx hb dX3_init_50 rfl (lv_at hl 3 rfl) ?_
  refine lv_iload hx hb dX3_init_51 (lv_at hl 0 rfl) ?_
  refine g_Iv (As := [.ref sh2, .int (s0 + 2 * p0)]) (rest := [.ref q51, .int 1, .ref q16, .ref q16, .ref q9, .ref q9, .ref h]) F hP hS (k_X9_init l A G w52 q51 sh2 (s0 + 2 * p0) f60) (cwI 2 hts gX3_init_X9_init rfl rfl rfl (hts _ (List.mem_cons_of_mem _ (List.mem_append_left _ (List.mem_append_left _ (List.mem_append_left _ (List.mem_append_left _ (List.mem_append_left _ (List.mem_of_getElem? (i := 9) rfl)))))))) (hts _ (List.mem_cons_of_mem _ (List.mem_append_left _ (List.mem_append_left _ (List.mem_append_left _ (List.mem_append_left _ (List.mem_append_left _ (List.mem_of_getElem? (i := 11) rfl)))))))) (hts _ (List.mem_cons_of_mem _ (List.mem_append_left _ (List.mem_append_left _ (List.mem_append_left _ (List.mem_append_left _ (List.mem_append_left _ (List.mem_of_getElem? (i := 12) rfl)))))))) rfl cd_X9_init ⟨by rw [hR]; exact Nat.le_of_ble_eq_true rfl, by rw [hR]; exact Nat.le_of_ble_eq_true rfl⟩) rfl hl.1 (Nat.le_of_ble_eq_true rfl) dX3_init_53 ⟨by rw [hR]; exact Nat.le_of_ble_eq_true rfl, by rw [hR]; exact Nat.le_of_ble_eq_true rfl⟩ rfl (fun w62 H locs h63 hP hS => ?_)
  have f64 : w62 sh1 = some (.inr (5, [.int x1, .int y1, .int hd1, .int st1, .ref fr1])) := by rw [h63]; exact g_up_f f53 (g_neq f44 nq51)
  have f65 : w62 sh2 = some (.inr (5, [.int x2, .int y2, .int hd2, .int st2, .ref fr2])) := by rw [h63]; exact g_up_f f54 (g_neq f45 nq51)
  have f66 : w62 sh3 = some (.inr (5, [.int x3, .int y3, .int hd3, .int st3, .ref fr3])) := by rw [h63]; exact g_up_f f55 (g_neq f46 nq51)
  have f67 : w62 h = some (.inr (4, [.int (s0 + (s0 + 2 * p0)), .null])) := by rw [h63]; exact g_up_f f56 (g_neq f47 nq51)
  have f68 : w62 q9 = some (.inr (6, [.null, .null, .int 0])) := by rw [h63]; exact g_up_f f57 (g_neq f48 nq51)
  have f69 : w62 q24 = some (.inr (9, [.ref sh1, .int s0])) := by rw [h63]; exact g_up_f f58 (g_neq f49 nq51)
  have f70 : w62 q16 = some (.inl (G.2.1 4, 3, .inr (.inr (.inr (.inr (va_up (fun _ => none) (0 : Int32).toNatClampNeg (some q24))))))) := by rw [h63]; exact g_up_f f59 (g_neq f50 nq51)
  have f71 : w62 q51 = some (.inr (9, [.ref sh2, .int (s0 + 2 * p0)])) := by rw [h63]; exact g_up_s _ _ _
  refine g_astqS F hP hS f70 f71 (by unfold vp_in; decide) dX3_init_56 (fun H locs hP hS => ?_)
  obtain ⟨w72, ew72⟩ : ∃ z, z = g_up w62 q16 (.inl (G.2.1 4, 3, .inr (.inr (.inr (.inr (va_up (va_up (fun _ => none) (0 : Int32).toNatClampNeg (some q24)) (1 : Int32).toNatClampNeg (some q51))))))) := ⟨_, rfl⟩
  have hP : g_P A G w72 H := by rw [ew72]; exact hP
  have f73 : w72 sh1 = some (.inr (5, [.int x1, .int y1, .int hd1, .int st1, .ref fr1])) := by rw [ew72]; exact g_up_f f64 (g_neq f11 nq16)
  have f74 : w72 sh2 = some (.inr (5, [.int x2, .int y2, .int hd2, .int st2, .ref fr2])) := by rw [ew72]; exact g_up_f f65 (g_neq f12 nq16)
  have f75 : w72 sh3 = some (.inr (5, [.int x3, .int y3, .int hd3, .int st3, .ref fr3])) := by rw [ew72]; exact g_up_f f66 (g_neq f13 nq16)
  have f76 : w72 h = some (.inr (4, [.int (s0 + (s0 + 2 * p0)), .null])) := by rw [ew72]; exact g_up_f f67 (g_neq f14 nq16)
  have f77 : w72 q9 = some (.inr (6, [.null, .null, .int 0])) := by rw [ew72]; exact g_up_f f68 (g_neq f15 nq16)
  have f78 : w72 q24 = some (.inr (9, [.ref sh1, .int s0])) := by rw [ew72]; exact g_up_f f69 (Ne.symm (g_neq f23 nq24))
  have f79 : w72 q51 = some (.inr (9, [.ref sh2, .int (s0 + 2 * p0)])) := by rw [ew72]; exact g_up_f f71 (Ne.symm (g_neq f50 nq51))
  have f80 : w72 q16 = some (.inl (G.2.1 4, 3, .inr (.inr (.inr (.inr (va_up (va_up (fun _ => none) (0 : Int32).toNatClampNeg (some q24)) (1 : Int32).toNatClampNeg (some q51))))))) := by rw [ew72]; exact g_up_s _ _ _
  refine lv_dup hx hb dX3_init_57 rfl ?_
  refine lv_iconst (v := 2) hx hb dX3_init_58 (by decide) ?_
  refine g_new F hP hS (ci := 9) (C := RX9) (T := TX9) (N := 2) (fs := [.null, .int 0]) iX9 tyX9 tyX9_ok (List.mem_cons_of_mem _ (List.mem_append_left _ (List.mem_append_left _ (List.mem_append_left _ (List.mem_append_left _ (List.mem_append_left _ (List.mem_of_getElem? (i := 7) rfl))))))) (List.mem_cons_of_mem _ (List.mem_append_left _ (List.mem_append_left _ (List.mem_append_left _ (List.mem_append_left _ (List.mem_append_left _ (List.mem_of_getElem? (i := 8) rfl))))))) (List.mem_cons_of_mem _ (List.mem_append_left _ (List.mem_append_left _ (List.mem_append_left _ (List.mem_append_left _ (List.mem_append_left _ (List.mem_of_getElem? (i := 9) rfl))))))) rfl (by intro j hj; match j, hj with | 0, _ => rfl | 1, _ => rfl | j + 2, hj => exact absurd hj (by omega)) (by rw [hR]; exact Nat.le_of_ble_eq_true rfl) (by rw [hR]; exact Nat.le_of_ble_eq_true rfl) dX3_init_59 (fun q81 H nq81 hP hS => ?_)
  obtain ⟨w82, ew82⟩ : ∃ z, z = g_up w72 q81 (.inr (9, [.null, .int 0])) := ⟨_, rfl⟩
  have hP : g_P A G w82 H := by rw [ew82]; exact hP
  have f83 : w82 sh1 = some (.inr (5, [.int x1, .int y1, .int hd1, .int st1, .ref fr1])) := by rw [ew82]; exact g_up_f f73 (g_neq f73 nq81)
  have f84 : w82 sh2 = some (.inr (5, [.int x2, .int y2, .int hd2, .int st2, .ref fr2])) := by rw [ew82]; exact g_up_f f74 (g_neq f74 nq81)
  have f85 : w82 sh3 = some (.inr (5, [.int x3, .int y3, .int hd3, .int st3, .ref fr3])) := by rw [ew82]; exact g_up_f f75 (g_neq f75 nq81)
  have f86 : w82 h = some (.inr (4, [.int (s0 + (s0 + 2 * p0)), .null])) := by rw [ew82]; exact g_up_f f76 (g_neq f76 nq81)
  have f87 : w82 q9 = some (.inr (6, [.null, .null, .int 0])) := by rw [ew82]; exact g_up_f f77 (g_neq f77 nq81)
  have f88 : w82 q24 = some (.inr (9, [.ref sh1, .int s0])) := by rw [ew82]; exact g_up_f f78 (g_neq f78 nq81)
  have f89 : w82 q51 = some (.inr (9, [.ref sh2, .int (s0 + 2 * p0)])) := by rw [ew82]; exact g_up_f f79 (g_neq f79 nq81)
  have f90 : w82 q16 = some (.inl (G.2.1 4, 3, .inr (.inr (.inr (.inr (va_up (va_up (fun _ => none) (0 : Int32).toNatClampNeg (some q24)) (1 : Int32).toNatClampNeg (some q51))))))) := by rw [ew82]; exact g_up_f f80 (g_neq f80 nq81)
  have f91 : w82 q81 = some (.inr (9, [.null, .int 0])) := by rw [ew82]; exact g_up_s _ _ _
  refine lv_dup hx hb dX3_init_62 rfl ?_
  refine lv_aload_n hx hb dX3_init_63 rfl (lv_at hl 4 rfl) ?_
  refine lv_aload_n hx hb dX3_init_64 rfl (lv_at hl 1 rfl) ?_
  refine g_get F hP (C := RX3) (T := TX3) (N := 2) iX3 f86 rfl 0 (by decide) (List.mem_cons_of_mem _ (List.mem_append_left _ (List.mem_append_left _ (List.mem_append_left _ (List.mem_append_left _ (List.mem_append_left _ (List.mem_of_getElem? (i := 3) rfl))))))) (fun _ h9 => h9) rfl dX3_init_65 ?_
  refine lv_ineg hx hb dX3_init_68 ?_
  refine lv_topi (fun v92 ev92 => ?_)
  obtain rfl : v92 = -(s0 + (s0 + 2 * p0)) := by
    exact ev92
  refine g_Iv (As := [.ref sh3, .int (-(s0 + (s0 + 2 * p0)))]) (rest := [.ref q81, .int 2, .ref q16, .ref q16, .ref q9, .ref q9, .ref h]) F hP hS (k_X9_init l A G w82 q81 sh3 (-(s0 + (s0 + 2 * p0))) f91) (cwI 2 hts gX3_init_X9_init rfl rfl rfl (hts _ (List.mem_cons_of_mem _ (List.mem_append_left _ (List.mem_append_left _ (List.mem_append_left _ (List.mem_append_left _ (List.mem_append_left _ (List.mem_of_getElem? (i := 9) rfl)))))))) (hts _ (List.mem_cons_of_mem _ (List.mem_append_left _ (List.mem_append_left _ (List.mem_append_left _ (List.mem_append_left _ (List.mem_append_left _ (List.mem_of_getElem? (i := 11) rfl)))))))) (hts _ (List.mem_cons_of_mem _ (List.mem_append_left _ (List.mem_append_left _ (List.mem_append_left _ (List.mem_append_left _ (List.mem_append_left _ (List.mem_of_getElem? (i := 12) rfl)))))))) rfl cd_X9_init ⟨by rw [hR]; exact Nat.le_of_ble_eq_true rfl, by rw [hR]; exact Nat.le_of_ble_eq_true rfl⟩) rfl hl.1 (Nat.le_of_ble_eq_true rfl) dX3_init_69 ⟨by rw [hR]; exact Nat.le_of_ble_eq_true rfl, by rw [hR]; exact Nat.le_of_ble_eq_true rfl⟩ rfl (fun w94 H locs h95 hP hS => ?_)
  have f96 : w94 sh1 = some (.inr (5, [.int x1, .int y1, .int hd1, .int st1, .ref fr1])) := by rw [h95]; exact g_up_f f83 (g_neq f73 nq81)
  have f97 : w94 sh2 = some (.inr (5, [.int x2, .int y2, .int hd2, .int st2, .ref fr2])) := by rw [h95]; exact g_up_f f84 (g_neq f74 nq81)
  have f98 : w94 sh3 = some (.inr (5, [.int x3, .int y3, .int hd3, .int st3, .ref fr3])) := by rw [h95]; exact g_up_f f85 (g_neq f75 nq81)
  have f99 : w94 h = some (.inr (4, [.int (s0 + (s0 + 2 * p0)), .null])) := by rw [h95]; exact g_up_f f86 (g_neq f76 nq81)
  have f100 : w94 q9 = some (.inr (6, [.null, .null, .int 0])) := by rw [h95]; exact g_up_f f87 (g_neq f77 nq81)
  have f101 : w94 q24 = some (.inr (9, [.ref sh1, .int s0])) := by rw [h95]; exact g_up_f f88 (g_neq f78 nq81)
  have f102 : w94 q51 = some (.inr (9, [.ref sh2, .int (s0 + 2 * p0)])) := by rw [h95]; exact g_up_f f89 (g_neq f79 nq81)
  have f103 : w94 q16 = some (.inl (G.2.1 4, 3, .inr (.inr (.inr (.inr (va_up (va_up (fun _ => none) (0 : Int32).toNatClampNeg (some q24)) (1 : Int32).toNatClampNeg (some q51))))))) := by rw [h95]; exact g_up_f f90 (g_neq f80 nq81)
  have f104 : w94 q81 = some (.inr (9, [.ref sh3, .int (-(s0 + (s0 + 2 * p0)))])) := by rw [h95]; exact g_up_s _ _ _
  refine g_astqS F hP hS f103 f104 (by unfold vp_in; decide) dX3_init_72 (fun H locs hP hS => ?_)
  obtain ⟨w105, ew105⟩ : ∃ z, z = g_up w94 q16 (.inl (G.2.1 4, 3, .inr (.inr (.inr (.inr (va_up (va_up (va_up (fun _ => none) (0 : Int32).toNatClampNeg (some q24)) (1 : Int32).toNatClampNeg (some q51)) (2 : Int32).toNatClampNeg (some q81))))))) := ⟨_, rfl⟩
  have hP : g_P A G w105 H := by rw [ew105]; exact hP
  have f106 : w105 sh1 = some (.inr (5, [.int x1, .int y1, .int hd1, .int st1, .ref fr1])) := by rw [ew105]; exact g_up_f f96 (g_neq f11 nq16)
  have f107 : w105 sh2 = some (.inr (5, [.int x2, .int y2, .int hd2, .int st2, .ref fr2])) := by rw [ew105]; exact g_up_f f97 (g_neq f12 nq16)
  have f108 : w105 sh3 = some (.inr (5, [.int x3, .int y3, .int hd3, .int st3, .ref fr3])) := by rw [ew105]; exact g_up_f f98 (g_neq f13 nq16)
  have f109 : w105 h = some (.inr (4, [.int (s0 + (s0 + 2 * p0)), .null])) := by rw [ew105]; exact g_up_f f99 (g_neq f14 nq16)
  have f110 : w105 q9 = some (.inr (6, [.null, .null, .int 0])) := by rw [ew105]; exact g_up_f f100 (g_neq f15 nq16)
  have f111 : w105 q24 = some (.inr (9, [.ref sh1, .int s0])) := by rw [ew105]; exact g_up_f f101 (Ne.symm (g_neq f23 nq24))
  have f112 : w105 q51 = some (.inr (9, [.ref sh2, .int (s0 + 2 * p0)])) := by rw [ew105]; exact g_up_f f102 (Ne.symm (g_neq f50 nq51))
  have f113 : w105 q81 = some (.inr (9, [.ref sh3, .int (-(s0 + (s0 + 2 * p0)))])) := by rw [ew105]; exact g_up_f f104 (Ne.symm (g_neq f80 nq81))
  have f114 : w105 q16 = some (.inl (G.2.1 4, 3, .inr (.inr (.inr (.inr (va_up (va_up (va_up (fun _ => none) (0 : Int32).toNatClampNeg (some q24)) (1 : Int32).toNatClampNeg (some q51)) (2 : Int32).toNatClampNeg (some q81))))))) := by rw [ew105]; exact g_up_s _ _ _
  refine g_Iv (As := [.ref q16]) (rest := [.ref q9, .ref h]) F hP hS (k_X5_init l A G w105 q9 q16 f110) (cwI 1 hts gX3_init_X5_init rfl rfl rfl (hts _ (List.mem_cons_of_mem _ (List.mem_append_left _ (List.mem_append_left _ (List.mem_append_left _ (List.mem_append_left _ (List.mem_append_left _ (List.mem_of_getElem? (i := 6) rfl)))))))) (hts _ (List.mem_cons_of_mem _ (List.mem_append_left _ (List.mem_append_left _ (List.mem_append_left _ (List.mem_append_left _ (List.mem_append_left _ (List.mem_of_getElem? (i := 17) rfl)))))))) (hts _ (List.mem_cons_of_mem _ (List.mem_append_left _ (List.mem_append_left _ (List.mem_append_left _ (List.mem_append_left _ (List.mem_append_left _ (List.mem_of_getElem? (i := 18) rfl)))))))) rfl cd_X5_init ⟨by rw [hR]; exact Nat.le_of_ble_eq_true rfl, by rw [hR]; exact Nat.le_of_ble_eq_true rfl⟩) rfl hl.1 (Nat.le_of_ble_eq_true rfl) dX3_init_73 ⟨by rw [hR]; exact Nat.le_of_ble_eq_true rfl, by rw [hR]; exact Nat.le_of_ble_eq_true rfl⟩ rfl (fun w116 H locs h117 hP hS => ?_)
  obtain ⟨q118, nq118, ew116⟩ := h117
  have f119 : w116 sh1 = some (.inr (5, [.int x1, .int y1, .int hd1, .int st1, .ref fr1])) := by rw [ew116]; exact g_up_f (g_up_f f106 (g_neq f106 nq118)) (g_neq f5 nq9)
  have f120 : w116 sh2 = some (.inr (5, [.int x2, .int y2, .int hd2, .int st2, .ref fr2])) := by rw [ew116]; exact g_up_f (g_up_f f107 (g_neq f107 nq118)) (g_neq f6 nq9)
  have f121 : w116 sh3 = some (.inr (5, [.int x3, .int y3, .int hd3, .int st3, .ref fr3])) := by rw [ew116]; exact g_up_f (g_up_f f108 (g_neq f108 nq118)) (g_neq f7 nq9)
  have f122 : w116 h = some (.inr (4, [.int (s0 + (s0 + 2 * p0)), .null])) := by rw [ew116]; exact g_up_f (g_up_f f109 (g_neq f109 nq118)) (g_neq f8 nq9)
  have f123 : w116 q24 = some (.inr (9, [.ref sh1, .int s0])) := by rw [ew116]; exact g_up_f (g_up_f f111 (g_neq f111 nq118)) (g_ne f111 f110 rfl)
  have f124 : w116 q51 = some (.inr (9, [.ref sh2, .int (s0 + 2 * p0)])) := by rw [ew116]; exact g_up_f (g_up_f f112 (g_neq f112 nq118)) (g_ne f112 f110 rfl)
  have f125 : w116 q81 = some (.inr (9, [.ref sh3, .int (-(s0 + (s0 + 2 * p0)))])) := by rw [ew116]; exact g_up_f (g_up_f f113 (g_neq f113 nq118)) (g_ne f113 f110 rfl)
  have f126 : w116 q16 = some (.inl (G.2.1 4, 3, .inr (.inr (.inr (.inr (va_up (va_up (va_up (fun _ => none) (0 : Int32).toNatClampNeg (some q24)) (1 : Int32).toNatClampNeg (some q51)) (2 : Int32).toNatClampNeg (some q81))))))) := by rw [ew116]; exact g_up_f (g_up_f f114 (g_neq f114 nq118)) (g_ne f114 f110 rfl)
  have f127 : w116 q118 = some (.inr (1, [.long 0, .long 1])) := by rw [ew116]; exact g_up_f (g_up_s _ _ _) (Ne.symm (g_neq f110 nq118))
  have f128 : w116 q9 = some (.inr (6, [.ref q16, .ref q118, .int 0])) := by rw [ew116]; exact g_up_s _ _ _
  refine g_putF F hP hS (C := RX3) (T := TX3) (N := 2) (v := .ref q9) (ty := (.object "GearTrains$Tie")) iX3 tyX3 tyX3_ok nmX3 f122 rfl 1 (by decide) (List.mem_cons_of_mem _ (List.mem_append_left _ (List.mem_append_left _ (List.mem_append_left _ (List.mem_append_left _ (List.mem_append_left _ (List.mem_of_getElem? (i := 10) rfl))))))) (fun _ h9 => h9) rfl hnm0 rfl (by decide +kernel) rfl rfl (by show 1 < 2; decide) dX3_init_76 (fun H locs hP hS => ?_)
  obtain ⟨w129, ew129⟩ : ∃ z, z = g_up w116 h (.inr (4, [.int (s0 + (s0 + 2 * p0)), .ref q9])) := ⟨_, rfl⟩
  have hP : g_P A G w129 H := by rw [ew129]; exact hP
  have f130 : w129 sh1 = some (.inr (5, [.int x1, .int y1, .int hd1, .int st1, .ref fr1])) := by rw [ew129]; exact g_up_f f119 (g_ne f119 f122 rfl)
  have f131 : w129 sh2 = some (.inr (5, [.int x2, .int y2, .int hd2, .int st2, .ref fr2])) := by rw [ew129]; exact g_up_f f120 (g_ne f120 f122 rfl)
  have f132 : w129 sh3 = some (.inr (5, [.int x3, .int y3, .int hd3, .int st3, .ref fr3])) := by rw [ew129]; exact g_up_f f121 (g_ne f121 f122 rfl)
  have f133 : w129 q24 = some (.inr (9, [.ref sh1, .int s0])) := by rw [ew129]; exact g_up_f f123 (Ne.symm (g_neq f21 nq24))
  have f134 : w129 q51 = some (.inr (9, [.ref sh2, .int (s0 + 2 * p0)])) := by rw [ew129]; exact g_up_f f124 (Ne.symm (g_neq f47 nq51))
  have f135 : w129 q81 = some (.inr (9, [.ref sh3, .int (-(s0 + (s0 + 2 * p0)))])) := by rw [ew129]; exact g_up_f f125 (Ne.symm (g_neq f76 nq81))
  have f136 : w129 q16 = some (.inl (G.2.1 4, 3, .inr (.inr (.inr (.inr (va_up (va_up (va_up (fun _ => none) (0 : Int32).toNatClampNeg (some q24)) (1 : Int32).toNatClampNeg (some q51)) (2 : Int32).toNatClampNeg (some q81))))))) := by rw [ew129]; exact g_up_f f126 (Ne.symm (g_neq f14 nq16))
  have f137 : w129 q118 = some (.inr (1, [.long 0, .long 1])) := by rw [ew129]; exact g_up_f f127 (g_ne f127 f122 rfl)
  have f138 : w129 q9 = some (.inr (6, [.ref q16, .ref q118, .int 0])) := by rw [ew129]; exact g_up_f f128 (Ne.symm (g_neq f8 nq9))
  have f139 : w129 h = some (.inr (4, [.int (s0 + (s0 + 2 * p0)), .ref q9])) := by rw [ew129]; exact g_up_s _ _ _
  rw [hQ]
  refine g_vret F hP hS hlocks hr dX3_init_79 (by first | exact Nat.le_of_ble_eq_true rfl | omega) (by first | exact Nat.le_of_ble_eq_true rfl | omega) ?_
  have nnq9 := nq9
  rw [ew4] at nnq9
  obtain ⟨ddq9_0, nnq9⟩ := g_up_none nnq9
  have nnq16 := nq16
  rw [ew10] at nnq16
  obtain ⟨ddq16_0, nnq16⟩ := g_up_none nnq16
  rw [ew4] at nnq16
  obtain ⟨ddq16_1, nnq16⟩ := g_up_none nnq16
  have nnq24 := nq24
  rw [ew17] at nnq24
  obtain ⟨ddq24_0, nnq24⟩ := g_up_none nnq24
  rw [ew10] at nnq24
  obtain ⟨ddq24_1, nnq24⟩ := g_up_none nnq24
  rw [ew4] at nnq24
  obtain ⟨ddq24_2, nnq24⟩ := g_up_none nnq24
  have nnq51 := nq51
  rw [ew43] at nnq51
  obtain ⟨ddq51_0, nnq51⟩ := g_up_none nnq51
  rw [h35] at nnq51
  obtain ⟨ddq51_1, nnq51⟩ := g_up_none nnq51
  rw [ew25] at nnq51
  obtain ⟨ddq51_2, nnq51⟩ := g_up_none nnq51
  rw [ew17] at nnq51
  obtain ⟨ddq51_3, nnq51⟩ := g_up_none nnq51
  rw [ew10] at nnq51
  obtain ⟨ddq51_4, nnq51⟩ := g_up_none nnq51
  rw [ew4] at nnq51
  obtain ⟨ddq51_5, nnq51⟩ := g_up_none nnq51
  have nnq81 := nq81
  rw [ew72] at nnq81
  obtain ⟨ddq81_0, nnq81⟩ := g_up_none nnq81
  rw [h63] at nnq81
  obtain ⟨ddq81_1, nnq81⟩ := g_up_none nnq81
  rw [ew52] at nnq81
  obtain ⟨ddq81_2, nnq81⟩ := g_up_none nnq81
  rw [ew43] at nnq81
  obtain ⟨ddq81_3, nnq81⟩ := g_up_none nnq81
  rw [h35] at nnq81
  obtain ⟨ddq81_4, nnq81⟩ := g_up_none nnq81
  rw [ew25] at nnq81
  obtain ⟨ddq81_5, nnq81⟩ := g_up_none nnq81
  rw [ew17] at nnq81
  obtain ⟨ddq81_6, nnq81⟩ := g_up_none nnq81
  rw [ew10] at nnq81
  obtain ⟨ddq81_7, nnq81⟩ := g_up_none nnq81
  rw [ew4] at nnq81
  obtain ⟨ddq81_8, nnq81⟩ := g_up_none nnq81
  have nnq118 := nq118
  rw [ew105] at nnq118
  obtain ⟨ddq118_0, nnq118⟩ := g_up_none nnq118
  rw [h95] at nnq118
  obtain ⟨ddq118_1, nnq118⟩ := g_up_none nnq118
  rw [ew82] at nnq118
  obtain ⟨ddq118_2, nnq118⟩ := g_up_none nnq118
  rw [ew72] at nnq118
  obtain ⟨ddq118_3, nnq118⟩ := g_up_none nnq118
  rw [h63] at nnq118
  obtain ⟨ddq118_4, nnq118⟩ := g_up_none nnq118
  rw [ew52] at nnq118
  obtain ⟨ddq118_5, nnq118⟩ := g_up_none nnq118
  rw [ew43] at nnq118
  obtain ⟨ddq118_6, nnq118⟩ := g_up_none nnq118
  rw [h35] at nnq118
  obtain ⟨ddq118_7, nnq118⟩ := g_up_none nnq118
  rw [ew25] at nnq118
  obtain ⟨ddq118_8, nnq118⟩ := g_up_none nnq118
  rw [ew17] at nnq118
  obtain ⟨ddq118_9, nnq118⟩ := g_up_none nnq118
  rw [ew10] at nnq118
  obtain ⟨ddq118_10, nnq118⟩ := g_up_none nnq118
  rw [ew4] at nnq118
  obtain ⟨ddq118_11, nnq118⟩ := g_up_none nnq118
  refine ⟨q9, q16, q118, q24, q51, q81, (va_up (va_up (va_up (fun _ => none) (0 : Int32).toNatClampNeg (some q24)) (1 : Int32).toNatClampNeg (some q51)) (2 : Int32).toNatClampNeg (some q81)), ⟨nnq9, nnq16, nnq118, nnq24, nnq51, nnq81⟩, ⟨Ne.symm ddq16_0, Ne.symm ddq118_10, Ne.symm ddq24_1, Ne.symm ddq51_4, Ne.symm ddq81_7, Ne.symm ddq118_0, Ne.symm ddq24_0, Ne.symm ddq51_0, Ne.symm ddq81_0, ddq118_7, ddq118_4, ddq118_1, Ne.symm ddq51_1, Ne.symm ddq81_4, Ne.symm ddq81_1⟩, ?_, ?_⟩
  · exact ⟨by simp [va_up, show (0 : Int32).toNatClampNeg = 0 from by decide, show (1 : Int32).toNatClampNeg = 1 from by decide, show (2 : Int32).toNatClampNeg = 2 from by decide], by simp [va_up, show (0 : Int32).toNatClampNeg = 0 from by decide, show (1 : Int32).toNatClampNeg = 1 from by decide, show (2 : Int32).toNatClampNeg = 2 from by decide], by simp [va_up, show (0 : Int32).toNatClampNeg = 0 from by decide, show (1 : Int32).toNatClampNeg = 1 from by decide, show (2 : Int32).toNatClampNeg = 2 from by decide]⟩
  · funext z
    by_cases z_h : z = h
    · rw [z_h, f139]; exact (g_up_s _ _ _).symm
    rw [g_up_n _ z_h]
    by_cases z_q81 : z = q81
    · rw [z_q81, f135]; exact (g_up_s _ _ _).symm
    rw [g_up_n _ z_q81]
    by_cases z_q51 : z = q51
    · rw [z_q51, f134]; exact (g_up_s _ _ _).symm
    rw [g_up_n _ z_q51]
    by_cases z_q24 : z = q24
    · rw [z_q24, f133]; exact (g_up_s _ _ _).symm
    rw [g_up_n _ z_q24]
    by_cases z_q118 : z = q118
    · rw [z_q118, f137]; exact (g_up_s _ _ _).symm
    rw [g_up_n _ z_q118]
    by_cases z_q16 : z = q16
    · rw [z_q16, f136]; exact (g_up_s _ _ _).symm
    rw [g_up_n _ z_q16]
    by_cases z_q9 : z = q9
    · rw [z_q9, f138]; exact (g_up_s _ _ _).symm
    rw [g_up_n _ z_q9]
    rw [ew129, g_up_n _ z_h]
    rw [ew116, g_up_n _ z_q9, g_up_n _ z_q118]
    rw [ew105, g_up_n _ z_q16]
    rw [h95, g_up_n _ z_q81]
    rw [ew82, g_up_n _ z_q81]
    rw [ew72, g_up_n _ z_q16]
    rw [h63, g_up_n _ z_q51]
    rw [ew52, g_up_n _ z_q51]
    rw [ew43, g_up_n _ z_q16]
    rw [h35, g_up_n _ z_q24]
    rw [ew25, g_up_n _ z_q24]
    rw [ew17, g_up_n _ z_q16]
    rw [ew10, g_up_n _ z_q9]
    rw [ew4, g_up_n _ z_h]
