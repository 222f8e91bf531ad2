theorem cd_Jx4a65c_init_da8c8 : yJx4a65c_init_da8c8.cls ≠ "java/lang/invoke/MethodHandle" ∧ yJx4a65c_init_da8c8.cls ≠ "java/lang/invoke/VarHandle" ∧ (parseMethodDescriptor yJx4a65c_init_da8c8.desc).map (fun d => d.parameters.length) = some 0 := by decide +kernel
set_option maxHeartbeats 4000000 in
set_option maxRecDepth 100000 in
theorem k_X6_init (l : Launch) (A : Nat → Prop) (G : g_C) (w : g_W) (h : Nat) (hh : w h = some (.inr (7, [.null, .null, .null, .null, .int 0, .int 0]))) : mV l yX6_init wsX6_init ({ frames := 4, cells := 4, slots := 12, locals := 100 } : Room) [.ref h] A G w (fun w' => ∃ q1 q2 q3 q4, (w q1 = none ∧ w q2 = none ∧ w q3 = none ∧ w q4 = none) ∧ (q1 ≠ q2 ∧ q1 ≠ q3 ∧ q1 ≠ q4 ∧ q2 ≠ q3 ∧ q2 ≠ q4 ∧ q3 ≠ q4) ∧ w' = g_up (g_up (g_up (g_up (g_up w q1 (.inr (0, [.int 0, .ref (G.2.2 0), .int 0]))) q2 (.inr (0, [.int 0, .ref (G.2.2 0), .int 0]))) q3 (.inr (0, [.int 0, .ref (G.2.2 0), .int 0]))) q4 (.inr (0, [.int 0, .ref (G.2.2 0), .int 0]))) h (.inr (7, [.ref q1, .ref q2, .ref q3, .ref q4, .int (-1), .int 0]))) 4 12 := by
  refine g_ofV (cc := cX6_init) (maxL := 1) (ret := none) (own := RX6) (by decide) rfl rfl (Nat.le_of_ble_eq_true rfl) ?_
  intro p e R s m args below meth c Q ls hR F hP hS hlocks hr hnm0 hQ hl
  obtain ⟨⟨hx, hb, hml, hown, hts⟩, hK, hZ, hA⟩ := id F
  generalize hH0 : s.heap = H at hP ⊢
  have hS : va_S A s.heap H [] := by rw [← hH0]; exact va_S.rf
  generalize ([] : List Loc) = locs at hS ⊢
  have hl : lv_has ls 1 [(0, .ref h)] := hl
  have iJx4a65c : ∀ w ∈ u_ws RJx4a65c TJx4a65c 3, w ∈ wsX6_init := fun w h => List.mem_cons_of_mem _ (List.mem_append_left _ (List.mem_append_right _ (h)))
  have iX6 : ∀ w ∈ u_ws RX6 TX6 6, w ∈ wsX6_init := fun w h => List.mem_cons_of_mem _ (List.mem_append_right _ (h))
  refine lv_aload_n hx hb dX6_init_0 rfl (lv_at hl 0 rfl) ?_
  refine W.objInit hx hb hown (hts _ (List.mem_cons_of_mem _ (List.mem_append_left _ (List.mem_append_left _ (List.mem_append_left _ (List.mem_of_getElem? (i := 0) rfl)))))) (hts _ (List.mem_cons_of_mem _ (List.mem_append_left _ (List.mem_append_left _ (List.mem_append_left _ (List.mem_of_getElem? (i := 1) rfl)))))) (hts _ (List.mem_cons_of_mem _ (List.mem_append_left _ (List.mem_append_left _ (List.mem_append_left _ (List.mem_of_getElem? (i := 2) rfl)))))) rfl (by rw [hml]; exact hl.1) rfl dX6_init_1 (by rw [hR]; exact Nat.le_of_ble_eq_true rfl) (by rw [hR]; exact Nat.le_of_ble_eq_true rfl) ?_
  show W p l e R s m args below meth c H locs _ _ Q (F0 m 4 ls [])
  refine lv_aload_n hx hb dX6_init_4 rfl (lv_at hl 0 rfl) ?_
  refine g_new F hP hS (ci := 0) (C := RJx4a65c) (T := TJx4a65c) (N := 3) (fs := [.int 0, .null, .int 0]) iJx4a65c tyJx4a65c tyJx4a65c_ok (List.mem_cons_of_mem _ (List.mem_append_left _ (List.mem_append_left _ (List.mem_append_left _ (List.mem_of_getElem? (i := 3) rfl))))) (List.mem_cons_of_mem _ (List.mem_append_left _ (List.mem_append_left _ (List.mem_append_left _ (List.mem_of_getElem? (i := 4) rfl))))) (List.mem_cons_of_mem _ (List.mem_append_left _ (List.mem_append_left _ (List.mem_append_left _ (List.mem_of_getElem? (i := 5) rfl))))) rfl (by intro j hj; match j, hj with | 0, _ => rfl | 1, _ => rfl | 2, _ => rfl | j + 3, hj => exact absurd hj (by omega)) (by rw [hR]; exact Nat.le_of_ble_eq_true rfl) (by rw [hR]; exact Nat.le_of_ble_eq_true rfl) dX6_init_5 (fun q1 H nq1 hP hS => ?_)
  obtain ⟨w2, ew2⟩ : ∃ z, z = g_up w q1 (.inr (0, [.int 0, .null, .int 0])) := ⟨_, rfl⟩
  have hP : g_P A G w2 H := by rw [ew2]; exact hP
  have f3 : w2 h = some (.inr (7, [.null, .null, .null, .null, .int 0, .int 0])) := by rw [ew2]; exact g_up_f hh (g_neq hh nq1)
  have f4 : w2 q1 = some (.inr (0, [.int 0, .null, .int 0])) := by rw [ew2]; exact g_up_s _ _ _
  refine lv_dup hx hb dX6_init_8 rfl ?_
  refine g_Iv (As := []) (rest := [.ref q1, .ref h]) F hP hS (k_initA l A G w2 q1 f4) (cwI 0 hts gX6_init_Jx4a65c_init_da8c8 rfl rfl rfl (hts _ (List.mem_cons_of_mem _ (List.mem_append_left _ (List.mem_append_left _ (List.mem_append_left _ (List.mem_of_getElem? (i := 5) rfl)))))) (hts _ (List.mem_cons_of_mem _ (List.mem_append_left _ (List.mem_append_left _ (List.mem_append_left _ (List.mem_of_getElem? (i := 12) rfl)))))) (hts _ (List.mem_cons_of_mem _ (List.mem_append_left _ (List.mem_append_left _ (List.mem_append_left _ (List.mem_of_getElem? (i := 13) rfl)))))) rfl cd_Jx4a65c_init_da8c8 ⟨by rw [hR]; exact Nat.le_of_ble_eq_true rfl, by rw [hR]; exact Nat.le_of_ble_eq_true rfl⟩) rfl hl.1 (Nat.le_of_ble_eq_true rfl) dX6_init_9 ⟨by rw [hR]; exact Nat.le_of_ble_eq_true rfl, by rw [hR]; exact Nat.le_of_ble_eq_true rfl⟩ rfl (fun w6 H locs h7 hP hS => ?_)
  have f8 : w6 h = some (.inr (7, [.null, .null, .null, .null, .int 0, .int 0])) := by rw [h7]; exact g_up_f f3 (g_neq hh nq1)
  have f9 : w6 q1 = some (.inr (0, [.int 0, .ref (G.2.2 0), .int 0])) := by rw [h7]; exact g_up_s _ _ _
  refine g_putF F hP hS (C := RX6) (T := TX6) (N := 6) (v := .ref q1) (ty := (.object "java/util/ArrayList")) iX6 tyX6 tyX6_ok nmX6 f8 rfl 0 (by decide) (List.mem_cons_of_mem _ (List.mem_append_left _ (List.mem_append_left _ (List.mem_append_left _ (List.mem_of_getElem? (i := 6) rfl))))) (fun _ h9 => h9) rfl hnm0 rfl (by decide +kernel) rfl rfl (by show 0 < 6; decide) dX6_init_12 (fun H locs hP hS => ?_)
  obtain ⟨w10, ew10⟩ : ∃ z, z = g_up w6 h (.inr (7, [.ref q1, .null, .null, .null, .int 0, .int 0])) := ⟨_, rfl⟩
  have hP : g_P A G w10 H := by rw [ew10]; exact hP
  have f11 : w10 q1 = some (.inr (0, [.int 0, .ref (G.2.2 0), .int 0])) := by rw [ew10]; exact g_up_f f9 (Ne.symm (g_neq hh nq1))
  have f12 : w10 h = some (.inr (7, [.ref q1, .null, .null, .null, .int 0, .int 0])) := by rw [ew10]; exact g_up_s _ _ _
  refine lv_aload_n hx hb dX6_init_15 rfl (lv_at hl 0 rfl) ?_
  refine g_new F hP hS (ci := 0) (C := RJx4a65c) (T := TJx4a65c) (N := 3) (fs := [.int 0, .null, .int 0]) iJx4a65c tyJx4a65c tyJx4a65c_ok (List.mem_cons_of_mem _ (List.mem_append_left _ (List.mem_append_left _ (List.mem_append_left _ (List.mem_of_getElem? (i := 3) rfl))))) (List.mem_cons_of_mem _ (List.mem_append_left _ (List.mem_append_left _ (List.mem_append_left _ (List.mem_of_getElem? (i := 4) rfl))))) (List.mem_cons_of_mem _ (List.mem_append_left _ (List.mem_append_left _ (List.mem_append_left _ (List.mem_of_getElem? (i := 5) rfl))))) rfl (by intro j hj; match j, hj with | 0, _ => rfl | 1, _ => rfl | 2, _ => rfl | j + 3, hj => exact absurd hj (by omega)) (by rw [hR]; exact Nat.le_of_ble_eq_true rfl) (by rw [hR]; exact Nat.le_of_ble_eq_true rfl) dX6_init_16 (fun q13 H nq13 hP hS => ?_)
  obtain ⟨w14, ew14⟩ : ∃ z, z = g_up w10 q13 (.inr (0, [.int 0, .null, .int 0])) := ⟨_, rfl⟩
  have hP : g_P A G w14 H := by rw [ew14]; exact hP
  have f15 : w14 q1 = some (.inr (0, [.int 0, .ref (G.2.2 0), .int 0])) := by rw [ew14]; exact g_up_f f11 (g_neq f11 nq13)
  have f16 : w14 h = some (.inr (7, [.ref q1, .null, .null, .null, .int 0, .int 0])) := by rw [ew14]; exact g_up_f f12 (g_neq f12 nq13)
  have f17 : w14 q13 = some (.inr (0, [.int 0, .null, .int 0])) := by rw [ew14]; exact g_up_s _ _ _
  refine lv_dup hx hb dX6_init_19 rfl ?_
  refine g_Iv (As := []) (rest := [.ref q13, .ref h]) F hP hS (k_initA l A G w14 q13 f17) (cwI 0 hts gX6_init_Jx4a65c_init_da8c8 rfl rfl rfl (hts _ (List.mem_cons_of_mem _ (List.mem_append_left _ (List.mem_append_left _ (List.mem_append_left _ (List.mem_of_getElem? (i := 5) rfl)))))) (hts _ (List.mem_cons_of_mem _ (List.mem_append_left _ (List.mem_append_left _ (List.mem_append_left _ (List.mem_of_getElem? (i := 12) rfl)))))) (hts _ (List.mem_cons_of_mem _ (List.mem_append_left _ (List.mem_append_left _ (List.mem_append_left _ (List.mem_of_getElem? (i := 13) rfl)))))) rfl cd_Jx4a65c_init_da8c8 ⟨by rw [hR]; exact Nat.le_of_ble_eq_true rfl, by rw [hR]; exact Nat.le_of_ble_eq_true rfl⟩) rfl hl.1 (Nat.le_of_ble_eq_true rfl) dX6_init_20 ⟨by rw [hR]; exact Nat.le_of_ble_eq_true rfl, by rw [hR]; exact Nat.le_of_ble_eq_true rfl⟩ rfl (fun w19 H locs h20 hP hS => ?_)
  have f21 : w19 q1 = some (.inr (0, [.int 0, .ref (G.2.2 0), .int 0])) := by rw [h20]; exact g_up_f f15 (g_neq f11 nq13)
  have f22 : w19 h = some (.inr (7, [.ref q1, .null, .null, .null, .int 0, .int 0])) := by rw [h20]; exact g_up_f f16 (g_neq f12 nq13)
  have f23 : w19 q13 = some (.inr (0, [.int 0, .ref (G.2.2 0), .int 0])) := by rw [h20]; exact g_up_s _ _ _
  refine g_putF F hP hS (C := RX6) (T := TX6) (N := 6) (v := .ref q13) (ty := (.object "java/util/ArrayList")) iX6 tyX6 tyX6_ok nmX6 f22 rfl 1 (by decide) (List.mem_cons_of_mem _ (List.mem_append_left _ (List.mem_append_left _ (List.mem_append_left _ (List.mem_of_getElem? (i := 7) rfl))))) (fun _ h9 => h9) rfl hnm0 rfl (by decide +kernel) rfl rfl (by show 1 < 6; decide) dX6_init_23 (fun H locs hP hS => ?_)
  obtain ⟨w24, ew24⟩ : ∃ z, z = g_up w19 h (.inr (7, [.ref q1, .ref q13, .null, .null, .int 0, .int 0])) := ⟨_, rfl⟩
  have hP : g_P A G w24 H := by rw [ew24]; exact hP
  have f25 : w24 q1 = some (.inr (0, [.int 0, .ref (G.2.2 0), .int 0])) := by rw [ew24]; exact g_up_f f21 (Ne.symm (g_neq hh nq1))
  have f26 : w24 q13 = some (.inr (0, [.int 0, .ref (G.2.2 0), .int 0])) := by rw [ew24]; exact g_up_f f23 (Ne.symm (g_neq f12 nq13))
  have f27 : w24 h = some (.inr (7, [.ref q1, .ref q13, .null, .null, .int 0, .int 0])) := by rw [ew24]; exact g_up_s _ _ _
  refine lv_aload_n hx hb dX6_init_26 rfl (lv_at hl 0 rfl) ?_
  refine g_new F hP hS (ci := 0) (C := RJx4a65c) (T := TJx4a65c) (N := 3) (fs := [.int 0, .null, .int 0]) iJx4a65c tyJx4a65c tyJx4a65c_ok (List.mem_cons_of_mem _ (List.mem_append_left _ (List.mem_append_left _ (List.mem_append_left _ (List.mem_of_getElem? (i := 3) rfl))))) (List.mem_cons_of_mem _ (List.mem_append_left _ (List.mem_append_left _ (List.mem_append_left _ (List.mem_of_getElem? (i := 4) rfl))))) (List.mem_cons_of_mem _ (List.mem_append_left _ (List.mem_append_left _ (List.mem_append_left _ (List.mem_of_getElem? (i := 5) rfl))))) rfl (by intro j hj; match j, hj with | 0, _ => rfl | 1, _ => rfl | 2, _ => rfl | j + 3, hj => exact absurd hj (by omega)) (by rw [hR]; exact Nat.le_of_ble_eq_true rfl) (by rw [hR]; exact Nat.le_of_ble_eq_true rfl) dX6_init_27 (fun q28 H nq28 hP hS => ?_)
  obtain ⟨w29, ew29⟩ : ∃ z, z = g_up w24 q28 (.inr (0, [.int 0, .null, .int 0])) := ⟨_, rfl⟩
  have hP : g_P A G w29 H := by rw [ew29]; exact hP
  have f30 : w29 q1 = some (.inr (0, [.int 0, .ref (G.2.2 0), .int 0])) := by rw [ew29]; exact g_up_f f25 (g_neq f25 nq28)
  have f31 : w29 q13 = some (.inr (0, [.int 0, .ref (G.2.2 0), .int 0])) := by rw [ew29]; exact g_up_f f26 (g_neq f26 nq28)
  have f32 : w29 h = some (.inr (7, [.ref q1, .ref q13, .null, .null, .int 0, .int 0])) := by rw [ew29]; exact g_up_f f27 (g_neq f27 nq28)
  have f33 : w29 q28 = some (.inr (0, [.int 0, .null, .int 0])) := by rw [ew29]; exact g_up_s _ _ _
  refine lv_dup hx hb dX6_init_30 rfl ?_
  refine g_Iv (As := []) (rest := [.ref q28, .ref h]) F hP hS (k_initA l A G w29 q28 f33) (cwI 0 hts gX6_init_Jx4a65c_init_da8c8 rfl rfl rfl (hts _ (List.mem_cons_of_mem _ (List.mem_append_left _ (List.mem_append_left _ (List.mem_append_left _ (List.mem_of_getElem? (i := 5) rfl)))))) (hts _ (List.mem_cons_of_mem _ (List.mem_append_left _ (List.mem_append_left _ (List.mem_append_left _ (List.mem_of_getElem? (i := 12) rfl)))))) (hts _ (List.mem_cons_of_mem _ (List.mem_append_left _ (List.mem_append_left _ (List.mem_append_left _ (List.mem_of_getElem? (i := 13) rfl)))))) rfl cd_Jx4a65c_init_da8c8 ⟨by rw [hR]; exact Nat.le_of_ble_eq_true rfl, by rw [hR]; exact Nat.le_of_ble_eq_true rfl⟩) rfl hl.1 (Nat.le_of_ble_eq_true rfl) dX6_init_31 ⟨by rw [hR]; exact Nat.le_of_ble_eq_true rfl, by rw [hR]; exact Nat.le_of_ble_eq_true rfl⟩ rfl (fun w35 H locs h36 hP hS => ?_)
  have f37 : w35 q1 = some (.inr (0, [.int 0, .ref (G.2.2 0), .int 0])) := by rw [h36]; exact g_up_f f30 (g_neq f25 nq28)
  have f38 : w35 q13 = some (.inr (0, [.int 0, .ref (G.2.2 0), .int 0])) := by rw [h36]; exact g_up_f f31 (g_neq f26 nq28)
  have f39 : w35 h = some (.inr (7, [.ref q1, .ref q13, .null, .null, .int 0, .int 0])) := by rw [h36]; exact g_up_f f32 (g_neq f27 nq28)
  have f40 : w35 q28 = some (.inr (0, [.int 0, .ref (G.2.2 0), .int 0])) := by rw [h36]; exact g_up_s _ _ _
  refine g_putF F hP hS (C := RX6) (T := TX6) (N := 6) (v := .ref q28) (ty := (.object "java/util/ArrayList")) iX6 tyX6 tyX6_ok nmX6 f39 rfl 2 (by decide) (List.mem_cons_of_mem _ (List.mem_append_left _ (List.mem_append_left _ (List.mem_append_left _ (List.mem_of_getElem? (i := 8) rfl))))) (fun _ h9 => h9) rfl hnm0 rfl (by decide +kernel) rfl rfl (by show 2 < 6; decide) dX6_init_34 (fun H locs hP hS => ?_)
  obtain ⟨w41, ew41⟩ : ∃ z, z = g_up w35 h (.inr (7, [.ref q1, .ref q13, .ref q28, .null, .int 0, .int 0])) := ⟨_, rfl⟩
  have hP : g_P A G w41 H := by rw [ew41]; exact hP
  have f42 : w41 q1 = some (.inr (0, [.int 0, .ref (G.2.2 0), .int 0])) := by rw [ew41]; exact g_up_f f37 (Ne.symm (g_neq hh nq1))
  have f43 : w41 q13 = some (.inr (0, [.int 0, .ref (G.2.2 0), .int 0])) := by rw [ew41]; exact g_up_f f38 (Ne.symm (g_neq f12 nq13))
  have f44 : w41 q28 = some (.inr (0, [.int 0, .ref (G.2.2 0), .int 0])) := by rw [ew41]; exact g_up_f f40 (Ne.symm (g_neq f27 nq28))
  have f45 : w41 h = some (.inr (7, [.ref q1, .ref q13, .ref q28, .null, .int 0, .int 0])) := by rw [ew41]; exact g_up_s _ _ _
  refine lv_aload_n hx hb dX6_init_37 rfl (lv_at hl 0 rfl) ?_
  refine g_new F hP hS (ci := 0) (C := RJx4a65c) (T := TJx4a65c) (N := 3) (fs := [.int 0, .null, .int 0]) iJx4a65c tyJx4a65c tyJx4a65c_ok (List.mem_cons_of_mem _ (List.mem_append_left _ (List.mem_append_left _ (List.mem_append_left _ (List.mem_of_getElem? (i := 3) rfl))))) (List.mem_cons_of_mem _ (List.mem_append_left _ (List.mem_append_left _ (List.mem_append_left _ (List.mem_of_getElem? (i := 4) rfl))))) (List.mem_cons_of_mem _ (List.mem_append_left _ (List.mem_append_left _ (List.mem_append_left _ (List.mem_of_getElem? (i := 5) rfl))))) rfl (by intro j hj; match j, hj with | 0, _ => rfl | 1, _ => rfl | 2, _ => rfl | j + 3, hj => exact absurd hj (by omega)) (by rw [hR]; exact Nat.le_of_ble_eq_true rfl) (by rw [hR]; exact Nat.le_of_ble_eq_true rfl) dX6_init_38 (fun q46 H nq46 hP hS => ?_)
  obtain ⟨w47, ew47⟩ : ∃ z, z = g_up w41 q46 (.inr (0, [.int 0, .null, .int 0])) := ⟨_, rfl⟩
  have hP : g_P A G w47 H := by rw [ew47]; exact hP
  have f48 : w47 q1 = some (.inr (0, [.int 0, .ref (G.2.2 0), .int 0])) := by rw [ew47]; exact g_up_f f42 (g_neq f42 nq46)
  have f49 : w47 q13 = some (.inr (0, [.int 0, .ref (G.2.2 0), .int 0])) := by rw [ew47]; exact g_up_f f43 (g_neq f43 nq46)
  have f50 : w47 q28 = some (.inr (0, [.int 0, .ref (G.2.2 0), .int 0])) := by rw [ew47]; exact g_up_f f44 (g_neq f44 nq46)
  have f51 : w47 h = some (.inr (7, [.ref q1, .ref q13, .ref q28, .null, .int 0, .int 0])) := by rw [ew47]; exact g_up_f f45 (g_neq f45 nq46)
  have f52 : w47 q46 = some (.inr (0, [.int 0, .null, .int 0])) := by rw [ew47]; exact g_up_s _ _ _
  refine lv_dup hx hb dX6_init_41 rfl ?_
  refine g_Iv (As := []) (rest := [.ref q46, .ref h]) F hP hS (k_initA l A G w47 q46 f52) (cwI 0 hts gX6_init_Jx4a65c_init_da8c8 rfl rfl rfl (hts _ (List.mem_cons_of_mem _ (List.mem_append_left _ (List.mem_append_left _ (List.mem_append_left _ (List.mem_of_getElem? (i := 5) rfl)))))) (hts _ (List.mem_cons_of_mem _ (List.mem_append_left _ (List.mem_append_left _ (List.mem_append_left _ (List.mem_of_getElem? (i := 12) rfl)))))) (hts _ (List.mem_cons_of_mem _ (List.mem_append_left _ (List.mem_append_left _ (List.mem_append_left _ (List.mem_of_getElem? (i := 13) rfl)))))) rfl cd_Jx4a65c_init_da8c8 ⟨by rw [hR]; exact Nat.le_of_ble_eq_true rfl, by rw [hR]; exact Nat.le_of_ble_eq_true rfl⟩) rfl hl.1 (Nat.le_of_ble_eq_true rfl) dX6_init_42 ⟨by rw [hR]; exact Nat.le_of_ble_eq_true rfl, by rw [hR]; exact Nat.le_of_ble_eq_true rfl⟩ rfl (fun w54 H locs h55 hP hS => ?_)
  have f56 : w54 q1 = some (.inr (0, [.int 0, .ref (G.2.2 0), .int 0])) := by rw [h55]; exact g_up_f f48 (g_neq f42 nq46)
  have f57 : w54 q13 = some (.inr (0, [.int 0, .ref (G.2.2 0), .int 0])) := by rw [h55]; exact g_up_f f49 (g_neq f43 nq46)
  have f58 : w54 q28 = some (.inr (0, [.int 0, .ref (G.2.2 0), .int 0])) := by rw [h55]; exact g_up_f f50 (g_neq f44 nq46)
  have f59 : w54 h = some (.inr (7, [.ref q1, .ref q13, .ref q28, .null, .int 0, .int 0])) := by rw [h55]; exact g_up_f f51 (g_neq f45 nq46)
  have f60 : w54 q46 = some (.inr (0, [.int 0, .ref (G.2.2 0), .int 0])) := by rw [h55]; exact g_up_s _ _ _
  refine g_putF F hP hS (C := RX6) (T := TX6) (N := 6) (v := .ref q46) (ty := (.object "java/util/ArrayList")) iX6 tyX6 tyX6_ok nmX6 f59 rfl 3 (by decide) (List.mem_cons_of_mem _ (List.mem_append_left _ (List.mem_append_left _ (List.mem_append_left _ (List.mem_of_getElem? (i := 9) rfl))))) (fun _ h9 => h9) rfl hnm0 rfl (by decide +kernel) rfl rfl (by show 3 < 6; decide) dX6_init_45 (fun H locs hP hS => ?_)
  obtain ⟨w61, ew61⟩ : ∃ z, z = g_up w54 h (.inr (7, [.ref q1, .ref q13, .ref q28, .ref q46, .int 0, .int 0])) := ⟨_, rfl⟩
  have hP : g_P A G w61 H := by rw [ew61]; exact hP
  have f62 : w61 q1 = some (.inr (0, [.int 0, .ref (G.2.2 0), .int 0])) := by rw [ew61]; exact g_up_f f56 (Ne.symm (g_neq hh nq1))
  have f63 : w61 q13 = some (.inr (0, [.int 0, .ref (G.2.2 0), .int 0])) := by rw [ew61]; exact g_up_f f57 (Ne.symm (g_neq f12 nq13))
  have f64 : w61 q28 = some (.inr (0, [.int 0, .ref (G.2.2 0), .int 0])) := by rw [ew61]; exact g_up_f f58 (Ne.symm (g_neq f27 nq28))
  have f65 : w61 q46 = some (.inr (0, [.int 0, .ref (G.2.2 0), .int 0])) := by rw [ew61]; exact g_up_f f60 (Ne.symm (g_neq f45 nq46))
  have f66 : w61 h = some (.inr (7, [.ref q1, .ref q13, .ref q28, .ref q46, .int 0, .int 0])) := by rw [ew61]; exact g_up_s _ _ _
  refine lv_aload_n hx hb dX6_init_48 rfl (lv_at hl 0 rfl) ?_
  refine lv_iconst (v := (-1)) hx hb dX6_init_49 (by decide) ?_
  refine g_put F hP hS (C := RX6) (T := TX6) (N := 6) (v := .int (-1)) (ty := .int) iX6 tyX6 tyX6_ok nmX6 f66 rfl 4 (by decide) (List.mem_cons_of_mem _ (List.mem_append_left _ (List.mem_append_left _ (List.mem_append_left _ (List.mem_of_getElem? (i := 10) rfl))))) (fun _ h9 => h9) rfl (by decide +kernel) rfl rfl (by show 4 < 6; decide) dX6_init_50 (fun H locs hP hS => ?_)
  obtain ⟨w67, ew67⟩ : ∃ z, z = g_up w61 h (.inr (7, [.ref q1, .ref q13, .ref q28, .ref q46, .int (-1), .int 0])) := ⟨_, rfl⟩
  have hP : g_P A G w67 H := by rw [ew67]; exact hP
  have f68 : w67 q1 = some (.inr (0, [.int 0, .ref (G.2.2 0), .int 0])) := by rw [ew67]; exact g_up_f f62 (Ne.symm (g_neq hh nq1))
  have f69 : w67 q13 = some (.inr (0, [.int 0, .ref (G.2.2 0), .int 0])) := by rw [ew67]; exact g_up_f f63 (Ne.symm (g_neq f12 nq13))
  have f70 : w67 q28 = some (.inr (0, [.int 0, .ref (G.2.2 0), .int 0])) := by rw [ew67]; exact g_up_f f64 (Ne.symm (g_neq f27 nq28))
  have f71 : w67 q46 = some (.inr (0, [.int 0, .ref (G.2.2 0), .int 0])) := by rw [ew67]; exact g_up_f f65 (Ne.symm (g_neq f45 nq46))
  have f72 : w67 h = some (.inr (7, [.ref q1, .ref q13, .ref q28, .ref q46, .int (-1), .int 0])) := by rw [ew67]; exact g_up_s _ _ _
  refine lv_aload_n hx hb dX6_init_53 rfl (lv_at hl 0 rfl) ?_
  refine lv_iconst (v := 0) hx hb dX6_init_54 (by decide) ?_
  refine g_put F hP hS (C := RX6) (T := TX6) (N := 6) (v := .int 0) (ty := .int) iX6 tyX6 tyX6_ok nmX6 f72 rfl 5 (by decide) (List.mem_cons_of_mem _ (List.mem_append_left _ (List.mem_append_left _ (List.mem_append_left _ (List.mem_of_getElem? (i := 11) rfl))))) (fun _ h9 => h9) rfl (by decide +kernel) rfl rfl (by show 5 < 6; decide) dX6_init_55 (fun H locs hP hS => ?_)
  obtain ⟨w73, ew73⟩ : ∃ z, z = g_up w67 h (.inr (7, [.ref q1, .ref q13, .ref q28, .ref q46, .int (-1), .int 0])) := ⟨_, rfl⟩
  have hP : g_P A G w73 H := by rw [ew73]; exact hP
  have f74 : w73 q1 = some (.inr (0, [.int 0, .ref (G.2.2 0), .int 0])) := by rw [ew73]; exact g_up_f f68 (Ne.symm (g_neq hh nq1))
  have f75 : w73 q13 = some (.inr (0, [.int 0, .ref (G.2.2 0), .int 0])) := by rw [ew73]; exact g_up_f f69 (Ne.symm (g_neq f12 nq13))
  have f76 : w73 q28 = some (.inr (0, [.int 0, .ref (G.2.2 0), .int 0])) := by rw [ew73]; exact g_up_f f70 (Ne.symm (g_neq f27 nq28))
  have f77 : w73 q46 = some (.inr (0, [.int 0, .ref (G.2.2 0), .int 0])) := by rw [ew73]; exact g_up_f f71 (Ne.symm (g_neq f45 nq46))
  have f78 : w73 h = some (.inr (7, [.ref q1, .ref q13, .ref q28, .ref q46, .int (-1), .int 0])) := by rw [ew73]; exact g_up_s _ _ _
  rw [hQ]
  refine g_vret F hP hS hlocks hr dX6_init_58 (by first | exact Nat.le_of_ble_eq_true rfl | omega) (by first | exact Nat.le_of_ble_eq_true rfl | omega) ?_
  have nnq1 := nq1
  have nnq13 := nq13
  rw [ew10] at nnq13
  obtain ⟨ddq13_0, nnq13⟩ := g_up_none nnq13
  rw [h7] at nnq13
  obtain ⟨ddq13_1, nnq13⟩ := g_up_none nnq13
  rw [ew2] at nnq13
  obtain ⟨ddq13_2, nnq13⟩ := g_up_none nnq13
  have nnq28 := nq28
  rw [ew24] at nnq28
  obtain ⟨ddq28_0, nnq28⟩ := g_up_none nnq28
  rw [h20] at nnq28
  obtain ⟨ddq28_1, nnq28⟩ := g_up_none nnq28
  rw [ew14] at nnq28
  obtain ⟨ddq28_2, nnq28⟩ := g_up_none nnq28
  rw [ew10] at nnq28
  obtain ⟨ddq28_3, nnq28⟩ := g_up_none nnq28
  rw [h7] at nnq28
  obtain ⟨ddq28_4, nnq28⟩ := g_up_none nnq28
  rw [ew2] at nnq28
  obtain ⟨ddq28_5, nnq28⟩ := g_up_none nnq28
  have nnq46 := nq46
  rw [ew41] at nnq46
  obtain ⟨ddq46_0, nnq46⟩ := g_up_none nnq46
  rw [h36] at nnq46
  obtain ⟨ddq46_1, nnq46⟩ := g_up_none nnq46
  rw [ew29] at nnq46
  obtain ⟨ddq46_2, nnq46⟩ := g_up_none nnq46
  rw [ew24] at nnq46
  obtain ⟨ddq46_3, nnq46⟩ := g_up_none nnq46
  rw [h20] at nnq46
  obtain ⟨ddq46_4, nnq46⟩ := g_up_none nnq46
  rw [ew14] at nnq46
  obtain ⟨ddq46_5, nnq46⟩ := g_up_none nnq46
  rw [ew10] at nnq46
  obtain ⟨ddq46_6, nnq46⟩ := g_up_none nnq46
  rw [h7] at nnq46
  obtain ⟨ddq46_7, nnq46⟩ := g_up_none nnq46
  rw [ew2] at nnq46
  obtain ⟨ddq46_8, nnq46⟩ := g_up_none nnq46
  refine ⟨q1, q13, q28, q46, ⟨nnq1, nnq13, nnq28, nnq46⟩, ⟨Ne.symm ddq13_1, Ne.symm ddq28_4, Ne.symm ddq46_7, Ne.symm ddq28_1, Ne.symm ddq46_4, Ne.symm ddq46_1⟩, ?_⟩
  funext z
  by_cases z_h : z = h
  · rw [z_h, f78]; exact (g_up_s _ _ _).symm
  rw [g_up_n _ z_h]
  by_cases z_q46 : z = q46
  · rw [z_q46, f77]; exact (g_up_s _ _ _).symm
  rw [g_up_n _ z_q46]
  by_cases z_q28 : z = q28
  · rw [z_q28, f76]; exact (g_up_s _ _ _).symm
  rw [g_up_n _ z_q28]
  by_cases z_q13 : z = q13
  · rw [z_q13, f75]; exact (g_up_s _ _ _).symm
  rw [g_up_n _ z_q13]
  by_cases z_q1 : z = q1
  · rw [z_q1, f74]; exact (g_up_s _ _ _).symm
  rw [g_up_n _ z_q1]
  rw [ew73, g_up_n _ z_h]
  rw [ew67, g_up_n _ z_h]
  rw [ew61, g_up_n _ z_h]
  rw [h55, g_up_n _ z_q46]
  rw [ew47, g_up_n _ z_q46]
  rw [ew41, g_up_n _ z_h]
  rw [h36, g_up_n _ z_q28]
  rw [ew29, g_up_n _ z_q28]
  rw [ew24, g_up_n _ z_h]
  rw [h20, g_up_n _ z_q13]
  rw [ew14, g_up_n _ z_q13]
  rw [ew10, g_up_n _ z_h]
  rw [h7, g_up_n _ z_q1]
  rw [ew2, g_up_n _ z_q1]
