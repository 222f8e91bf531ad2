set_option maxHeartbeats 4000000 in
set_option maxRecDepth 100000 in
theorem k_X7_init (l : Launch) (A : Nat → Prop) (G : g_C) (w : g_W) (h : Nat) (hh : w h = some (.inr (8, [.int 0, .int 0, .null, .null, .null, .int 0, .int 0, .int 0, .null, .null, .int 0, .null, .null, .int 0, .null, .null, .null, .null, .long 0, .long 0]))) : mV l yX7_init wsX7_init ({ frames := 1, cells := 11, slots := 192, locals := 40 } : Room) [.ref h] A G w (fun w' => ∃ md : Nat → Nat, md 0 = h ∧ modI md ∧ modW G w' md Sz 0 0 0 (fun _ _ => 0) (fun _ _ => 0) ∧ (∀ i, 1 ≤ i → i < 12 → w (md i) = none) ∧ (∀ a, w a ≠ none → a ≠ h → w' a = w a)) 11 192 := by
  refine g_ofV (cc := cX7_init) (maxL := 1) (ret := none) (own := RX7) (by decide) rfl rfl (Nat.le_of_ble_eq_true rfl) ?_
  intro p e R s m args below meth c Q ls hR F hP hS hlocks hr hnm0 hQ hl
  obtain ⟨⟨hx, hb, hml, hown, hts⟩, hK, hZ, hA⟩ := id F
  generalize hH0 : s.heap = H at hP ⊢
  have hS : va_S A s.heap H [] := by rw [← hH0]; exact va_S.rf
  generalize ([] : List Loc) = locs at hS ⊢
  have hl : lv_has ls 1 [(0, .ref h)] := hl
  have iX7 : ∀ w ∈ u_ws RX7 TX7 20, w ∈ wsX7_init := fun w h => List.mem_cons_of_mem _ (List.mem_append_right _ (h))
  refine lv_aload_n hx hb dX7_init_0 rfl (lv_at hl 0 rfl) ?_
  refine W.objInit hx hb hown (hts _ (List.mem_cons_of_mem _ (List.mem_append_left _ (List.mem_of_getElem? (i := 0) rfl)))) (hts _ (List.mem_cons_of_mem _ (List.mem_append_left _ (List.mem_of_getElem? (i := 1) rfl)))) (hts _ (List.mem_cons_of_mem _ (List.mem_append_left _ (List.mem_of_getElem? (i := 2) rfl)))) rfl (by rw [hml]; exact hl.1) rfl dX7_init_1 (by rw [hR]; exact Nat.le_of_ble_eq_true rfl) (by rw [hR]; exact Nat.le_of_ble_eq_true rfl) ?_
  show W p l e R s m args below meth c H locs _ _ Q (F0 m 4 ls [])
  refine lv_aload_n hx hb dX7_init_4 rfl (lv_at hl 0 rfl) ?_
  refine lv_bipush (v := 10) hx hb dX7_init_5 (by decide) ?_
  refine g_newaI F hP hS (N' := 10) (List.mem_cons_of_mem _ (List.mem_append_left _ (List.mem_of_getElem? (i := 3) rfl))) (by decide) (by decide) (by decide) (by rw [hR]; exact Nat.le_of_ble_eq_true rfl) (by rw [hR]; exact Nat.le_of_ble_eq_true rfl) dX7_init_7 (fun q1 H nq1 hP hS => ?_)
  obtain ⟨w2, ew2⟩ : ∃ z, z = g_up w q1 (.inl (G.2.1 0, 10, .inl (fun _ => 0))) := ⟨_, rfl⟩
  have hP : g_P A G w2 H := by rw [ew2]; exact hP
  have f3 : w2 h = some (.inr (8, [.int 0, .int 0, .null, .null, .null, .int 0, .int 0, .int 0, .null, .null, .int 0, .null, .null, .int 0, .null, .null, .null, .null, .long 0, .long 0])) := by rw [ew2]; exact g_up_f hh (g_neq hh nq1)
  have f4 : w2 q1 = some (.inl (G.2.1 0, 10, .inl (fun _ => 0))) := by rw [ew2]; exact g_up_s _ _ _
  refine g_putF F hP hS (C := RX7) (T := TX7) (N := 20) (v := .ref q1) (ty := (.array .int)) iX7 tyX7 tyX7_ok nmX7 f3 rfl 2 (by decide) (List.mem_cons_of_mem _ (List.mem_append_left _ (List.mem_of_getElem? (i := 4) rfl))) (fun _ h9 => h9) rfl hnm0 rfl (by decide +kernel) rfl rfl (by show 2 < 20; decide) dX7_init_9 (fun H locs hP hS => ?_)
  obtain ⟨w5, ew5⟩ : ∃ z, z = g_up w2 h (.inr (8, [.int 0, .int 0, .ref q1, .null, .null, .int 0, .int 0, .int 0, .null, .null, .int 0, .null, .null, .int 0, .null, .null, .null, .null, .long 0, .long 0])) := ⟨_, rfl⟩
  have hP : g_P A G w5 H := by rw [ew5]; exact hP
  have f6 : w5 q1 = some (.inl (G.2.1 0, 10, .inl (fun _ => 0))) := by rw [ew5]; exact g_up_f f4 (Ne.symm (g_neq hh nq1))
  have f7 : w5 h = some (.inr (8, [.int 0, .int 0, .ref q1, .null, .null, .int 0, .int 0, .int 0, .null, .null, .int 0, .null, .null, .int 0, .null, .null, .null, .null, .long 0, .long 0])) := by rw [ew5]; exact g_up_s _ _ _
  refine lv_aload_n hx hb dX7_init_12 rfl (lv_at hl 0 rfl) ?_
  refine lv_bipush (v := 10) hx hb dX7_init_13 (by decide) ?_
  refine g_newaI F hP hS (N' := 10) (List.mem_cons_of_mem _ (List.mem_append_left _ (List.mem_of_getElem? (i := 3) rfl))) (by decide) (by decide) (by decide) (by rw [hR]; exact Nat.le_of_ble_eq_true rfl) (by rw [hR]; exact Nat.le_of_ble_eq_true rfl) dX7_init_15 (fun q8 H nq8 hP hS => ?_)
  obtain ⟨w9, ew9⟩ : ∃ z, z = g_up w5 q8 (.inl (G.2.1 0, 10, .inl (fun _ => 0))) := ⟨_, rfl⟩
  have hP : g_P A G w9 H := by rw [ew9]; exact hP
  have f10 : w9 q1 = some (.inl (G.2.1 0, 10, .inl (fun _ => 0))) := by rw [ew9]; exact g_up_f f6 (g_neq f6 nq8)
  have f11 : w9 h = some (.inr (8, [.int 0, .int 0, .ref q1, .null, .null, .int 0, .int 0, .int 0, .null, .null, .int 0, .null, .null, .int 0, .null, .null, .null, .null, .long 0, .long 0])) := by rw [ew9]; exact g_up_f f7 (g_neq f7 nq8)
  have f12 : w9 q8 = some (.inl (G.2.1 0, 10, .inl (fun _ => 0))) := by rw [ew9]; exact g_up_s _ _ _
  refine g_putF F hP hS (C := RX7) (T := TX7) (N := 20) (v := .ref q8) (ty := (.array .int)) iX7 tyX7 tyX7_ok nmX7 f11 rfl 3 (by decide) (List.mem_cons_of_mem _ (List.mem_append_left _ (List.mem_of_getElem? (i := 5) rfl))) (fun _ h9 => h9) rfl hnm0 rfl (by decide +kernel) rfl rfl (by show 3 < 20; decide) dX7_init_17 (fun H locs hP hS => ?_)
  obtain ⟨w13, ew13⟩ : ∃ z, z = g_up w9 h (.inr (8, [.int 0, .int 0, .ref q1, .ref q8, .null, .int 0, .int 0, .int 0, .null, .null, .int 0, .null, .null, .int 0, .null, .null, .null, .null, .long 0, .long 0])) := ⟨_, rfl⟩
  have hP : g_P A G w13 H := by rw [ew13]; exact hP
  have f14 : w13 q1 = some (.inl (G.2.1 0, 10, .inl (fun _ => 0))) := by rw [ew13]; exact g_up_f f10 (Ne.symm (g_neq hh nq1))
  have f15 : w13 q8 = some (.inl (G.2.1 0, 10, .inl (fun _ => 0))) := by rw [ew13]; exact g_up_f f12 (Ne.symm (g_neq f7 nq8))
  have f16 : w13 h = some (.inr (8, [.int 0, .int 0, .ref q1, .ref q8, .null, .int 0, .int 0, .int 0, .null, .null, .int 0, .null, .null, .int 0, .null, .null, .null, .null, .long 0, .long 0])) := by rw [ew13]; exact g_up_s _ _ _
  refine lv_aload_n hx hb dX7_init_20 rfl (lv_at hl 0 rfl) ?_
  refine lv_bipush (v := 10) hx hb dX7_init_21 (by decide) ?_
  refine g_newaZ F hP hS (N' := 10) (List.mem_cons_of_mem _ (List.mem_append_left _ (List.mem_of_getElem? (i := 6) rfl))) (by decide) (by decide) (by decide) (by rw [hR]; exact Nat.le_of_ble_eq_true rfl) (by rw [hR]; exact Nat.le_of_ble_eq_true rfl) dX7_init_23 (fun q17 H nq17 hP hS => ?_)
  obtain ⟨w18, ew18⟩ : ∃ z, z = g_up w13 q17 (.inl (G.2.1 2, 10, .inl (fun _ => 0))) := ⟨_, rfl⟩
  have hP : g_P A G w18 H := by rw [ew18]; exact hP
  have f19 : w18 q1 = some (.inl (G.2.1 0, 10, .inl (fun _ => 0))) := by rw [ew18]; exact g_up_f f14 (g_neq f14 nq17)
  have f20 : w18 q8 = some (.inl (G.2.1 0, 10, .inl (fun _ => 0))) := by rw [ew18]; exact g_up_f f15 (g_neq f15 nq17)
  have f21 : w18 h = some (.inr (8, [.int 0, .int 0, .ref q1, .ref q8, .null, .int 0, .int 0, .int 0, .null, .null, .int 0, .null, .null, .int 0, .null, .null, .null, .null, .long 0, .long 0])) := by rw [ew18]; exact g_up_f f16 (g_neq f16 nq17)
  have f22 : w18 q17 = some (.inl (G.2.1 2, 10, .inl (fun _ => 0))) := by rw [ew18]; exact g_up_s _ _ _
  refine g_putF F hP hS (C := RX7) (T := TX7) (N := 20) (v := .ref q17) (ty := (.array .boolean)) iX7 tyX7 tyX7_ok nmX7 f21 rfl 4 (by decide) (List.mem_cons_of_mem _ (List.mem_append_left _ (List.mem_of_getElem? (i := 7) rfl))) (fun _ h9 => h9) rfl hnm0 rfl (by decide +kernel) rfl rfl (by show 4 < 20; decide) dX7_init_25 (fun H locs hP hS => ?_)
  obtain ⟨w23, ew23⟩ : ∃ z, z = g_up w18 h (.inr (8, [.int 0, .int 0, .ref q1, .ref q8, .ref q17, .int 0, .int 0, .int 0, .null, .null, .int 0, .null, .null, .int 0, .null, .null, .null, .null, .long 0, .long 0])) := ⟨_, rfl⟩
  have hP : g_P A G w23 H := by rw [ew23]; exact hP
  have f24 : w23 q1 = some (.inl (G.2.1 0, 10, .inl (fun _ => 0))) := by rw [ew23]; exact g_up_f f19 (Ne.symm (g_neq hh nq1))
  have f25 : w23 q8 = some (.inl (G.2.1 0, 10, .inl (fun _ => 0))) := by rw [ew23]; exact g_up_f f20 (Ne.symm (g_neq f7 nq8))
  have f26 : w23 q17 = some (.inl (G.2.1 2, 10, .inl (fun _ => 0))) := by rw [ew23]; exact g_up_f f22 (Ne.symm (g_neq f16 nq17))
  have f27 : w23 h = some (.inr (8, [.int 0, .int 0, .ref q1, .ref q8, .ref q17, .int 0, .int 0, .int 0, .null, .null, .int 0, .null, .null, .int 0, .null, .null, .null, .null, .long 0, .long 0])) := by rw [ew23]; exact g_up_s _ _ _
  refine lv_aload_n hx hb dX7_init_28 rfl (lv_at hl 0 rfl) ?_
  refine lv_iconst (v := (-1)) hx hb dX7_init_29 (by decide) ?_
  refine g_put F hP hS (C := RX7) (T := TX7) (N := 20) (v := .int (-1)) (ty := .int) iX7 tyX7 tyX7_ok nmX7 f27 rfl 5 (by decide) (List.mem_cons_of_mem _ (List.mem_append_left _ (List.mem_of_getElem? (i := 8) rfl))) (fun _ h9 => h9) rfl (by decide +kernel) rfl rfl (by show 5 < 20; decide) dX7_init_30 (fun H locs hP hS => ?_)
  obtain ⟨w28, ew28⟩ : ∃ z, z = g_up w23 h (.inr (8, [.int 0, .int 0, .ref q1, .ref q8, .ref q17, .int (-1), .int 0, .int 0, .null, .null, .int 0, .null, .null, .int 0, .null, .null, .null, .null, .long 0, .long 0])) := ⟨_, rfl⟩
  have hP : g_P A G w28 H := by rw [ew28]; exact hP
  have f29 : w28 q1 = some (.inl (G.2.1 0, 10, .inl (fun _ => 0))) := by rw [ew28]; exact g_up_f f24 (Ne.symm (g_neq hh nq1))
  have f30 : w28 q8 = some (.inl (G.2.1 0, 10, .inl (fun _ => 0))) := by rw [ew28]; exact g_up_f f25 (Ne.symm (g_neq f7 nq8))
  have f31 : w28 q17 = some (.inl (G.2.1 2, 10, .inl (fun _ => 0))) := by rw [ew28]; exact g_up_f f26 (Ne.symm (g_neq f16 nq17))
  have f32 : w28 h = some (.inr (8, [.int 0, .int 0, .ref q1, .ref q8, .ref q17, .int (-1), .int 0, .int 0, .null, .null, .int 0, .null, .null, .int 0, .null, .null, .null, .null, .long 0, .long 0])) := by rw [ew28]; exact g_up_s _ _ _
  refine lv_aload_n hx hb dX7_init_33 rfl (lv_at hl 0 rfl) ?_
  refine lv_bipush (v := 64) hx hb dX7_init_34 (by decide) ?_
  refine g_newaI F hP hS (N' := 64) (List.mem_cons_of_mem _ (List.mem_append_left _ (List.mem_of_getElem? (i := 3) rfl))) (by decide) (by decide) (by decide) (by rw [hR]; exact Nat.le_of_ble_eq_true rfl) (by rw [hR]; exact Nat.le_of_ble_eq_true rfl) dX7_init_36 (fun q33 H nq33 hP hS => ?_)
  obtain ⟨w34, ew34⟩ : ∃ z, z = g_up w28 q33 (.inl (G.2.1 0, 64, .inl (fun _ => 0))) := ⟨_, rfl⟩
  have hP : g_P A G w34 H := by rw [ew34]; exact hP
  have f35 : w34 q1 = some (.inl (G.2.1 0, 10, .inl (fun _ => 0))) := by rw [ew34]; exact g_up_f f29 (g_neq f29 nq33)
  have f36 : w34 q8 = some (.inl (G.2.1 0, 10, .inl (fun _ => 0))) := by rw [ew34]; exact g_up_f f30 (g_neq f30 nq33)
  have f37 : w34 q17 = some (.inl (G.2.1 2, 10, .inl (fun _ => 0))) := by rw [ew34]; exact g_up_f f31 (g_neq f31 nq33)
  have f38 : w34 h = some (.inr (8, [.int 0, .int 0, .ref q1, .ref q8, .ref q17, .int (-1), .int 0, .int 0, .null, .null, .int 0, .null, .null, .int 0, .null, .null, .null, .null, .long 0, .long 0])) := by rw [ew34]; exact g_up_f f32 (g_neq f32 nq33)
  have f39 : w34 q33 = some (.inl (G.2.1 0, 64, .inl (fun _ => 0))) := by rw [ew34]; exact g_up_s _ _ _
  refine g_putF F hP hS (C := RX7) (T := TX7) (N := 20) (v := .ref q33) (ty := (.array .int)) iX7 tyX7 tyX7_ok nmX7 f38 rfl 8 (by decide) (List.mem_cons_of_mem _ (List.mem_append_left _ (List.mem_of_getElem? (i := 9) rfl))) (fun _ h9 => h9) rfl hnm0 rfl (by decide +kernel) rfl rfl (by show 8 < 20; decide) dX7_init_38 (fun H locs hP hS => ?_)
  obtain ⟨w40, ew40⟩ : ∃ z, z = g_up w34 h (.inr (8, [.int 0, .int 0, .ref q1, .ref q8, .ref q17, .int (-1), .int 0, .int 0, .ref q33, .null, .int 0, .null, .null, .int 0, .null, .null, .null, .null, .long 0, .long 0])) := ⟨_, rfl⟩
  have hP : g_P A G w40 H := by rw [ew40]; exact hP
  have f41 : w40 q1 = some (.inl (G.2.1 0, 10, .inl (fun _ => 0))) := by rw [ew40]; exact g_up_f f35 (Ne.symm (g_neq hh nq1))
  have f42 : w40 q8 = some (.inl (G.2.1 0, 10, .inl (fun _ => 0))) := by rw [ew40]; exact g_up_f f36 (Ne.symm (g_neq f7 nq8))
  have f43 : w40 q17 = some (.inl (G.2.1 2, 10, .inl (fun _ => 0))) := by rw [ew40]; exact g_up_f f37 (Ne.symm (g_neq f16 nq17))
  have f44 : w40 q33 = some (.inl (G.2.1 0, 64, .inl (fun _ => 0))) := by rw [ew40]; exact g_up_f f39 (Ne.symm (g_neq f32 nq33))
  have f45 : w40 h = some (.inr (8, [.int 0, .int 0, .ref q1, .ref q8, .ref q17, .int (-1), .int 0, .int 0, .ref q33, .null, .int 0, .null, .null, .int 0, .null, .null, .null, .null, .long 0, .long 0])) := by rw [ew40]; exact g_up_s _ _ _
  refine lv_aload_n hx hb dX7_init_41 rfl (lv_at hl 0 rfl) ?_
  refine lv_bipush (v := 16) hx hb dX7_init_42 (by decide) ?_
  refine g_newaZ F hP hS (N' := 16) (List.mem_cons_of_mem _ (List.mem_append_left _ (List.mem_of_getElem? (i := 6) rfl))) (by decide) (by decide) (by decide) (by rw [hR]; exact Nat.le_of_ble_eq_true rfl) (by rw [hR]; exact Nat.le_of_ble_eq_true rfl) dX7_init_44 (fun q46 H nq46 hP hS => ?_)
  obtain ⟨w47, ew47⟩ : ∃ z, z = g_up w40 q46 (.inl (G.2.1 2, 16, .inl (fun _ => 0))) := ⟨_, rfl⟩
  have hP : g_P A G w47 H := by rw [ew47]; exact hP
  have f48 : w47 q1 = some (.inl (G.2.1 0, 10, .inl (fun _ => 0))) := by rw [ew47]; exact g_up_f f41 (g_neq f41 nq46)
  have f49 : w47 q8 = some (.inl (G.2.1 0, 10, .inl (fun _ => 0))) := by rw [ew47]; exact g_up_f f42 (g_neq f42 nq46)
  have f50 : w47 q17 = some (.inl (G.2.1 2, 10, .inl (fun _ => 0))) := by rw [ew47]; exact g_up_f f43 (g_neq f43 nq46)
  have f51 : w47 q33 = some (.inl (G.2.1 0, 64, .inl (fun _ => 0))) := by rw [ew47]; exact g_up_f f44 (g_neq f44 nq46)
  have f52 : w47 h = some (.inr (8, [.int 0, .int 0, .ref q1, .ref q8, .ref q17, .int (-1), .int 0, .int 0, .ref q33, .null, .int 0, .null, .null, .int 0, .null, .null, .null, .null, .long 0, .long 0])) := by rw [ew47]; exact g_up_f f45 (g_neq f45 nq46)
  have f53 : w47 q46 = some (.inl (G.2.1 2, 16, .inl (fun _ => 0))) := by rw [ew47]; exact g_up_s _ _ _
  refine g_putF F hP hS (C := RX7) (T := TX7) (N := 20) (v := .ref q46) (ty := (.array .boolean)) iX7 tyX7 tyX7_ok nmX7 f52 rfl 9 (by decide) (List.mem_cons_of_mem _ (List.mem_append_left _ (List.mem_of_getElem? (i := 10) rfl))) (fun _ h9 => h9) rfl hnm0 rfl (by decide +kernel) rfl rfl (by show 9 < 20; decide) dX7_init_46 (fun H locs hP hS => ?_)
  obtain ⟨w54, ew54⟩ : ∃ z, z = g_up w47 h (.inr (8, [.int 0, .int 0, .ref q1, .ref q8, .ref q17, .int (-1), .int 0, .int 0, .ref q33, .ref q46, .int 0, .null, .null, .int 0, .null, .null, .null, .null, .long 0, .long 0])) := ⟨_, rfl⟩
  have hP : g_P A G w54 H := by rw [ew54]; exact hP
  have f55 : w54 q1 = some (.inl (G.2.1 0, 10, .inl (fun _ => 0))) := by rw [ew54]; exact g_up_f f48 (Ne.symm (g_neq hh nq1))
  have f56 : w54 q8 = some (.inl (G.2.1 0, 10, .inl (fun _ => 0))) := by rw [ew54]; exact g_up_f f49 (Ne.symm (g_neq f7 nq8))
  have f57 : w54 q17 = some (.inl (G.2.1 2, 10, .inl (fun _ => 0))) := by rw [ew54]; exact g_up_f f50 (Ne.symm (g_neq f16 nq17))
  have f58 : w54 q33 = some (.inl (G.2.1 0, 64, .inl (fun _ => 0))) := by rw [ew54]; exact g_up_f f51 (Ne.symm (g_neq f32 nq33))
  have f59 : w54 q46 = some (.inl (G.2.1 2, 16, .inl (fun _ => 0))) := by rw [ew54]; exact g_up_f f53 (Ne.symm (g_neq f45 nq46))
  have f60 : w54 h = some (.inr (8, [.int 0, .int 0, .ref q1, .ref q8, .ref q17, .int (-1), .int 0, .int 0, .ref q33, .ref q46, .int 0, .null, .null, .int 0, .null, .null, .null, .null, .long 0, .long 0])) := by rw [ew54]; exact g_up_s _ _ _
  refine lv_aload_n hx hb dX7_init_49 rfl (lv_at hl 0 rfl) ?_
  refine lv_bipush (v := 16) hx hb dX7_init_50 (by decide) ?_
  refine g_newaI F hP hS (N' := 16) (List.mem_cons_of_mem _ (List.mem_append_left _ (List.mem_of_getElem? (i := 3) rfl))) (by decide) (by decide) (by decide) (by rw [hR]; exact Nat.le_of_ble_eq_true rfl) (by rw [hR]; exact Nat.le_of_ble_eq_true rfl) dX7_init_52 (fun q61 H nq61 hP hS => ?_)
  obtain ⟨w62, ew62⟩ : ∃ z, z = g_up w54 q61 (.inl (G.2.1 0, 16, .inl (fun _ => 0))) := ⟨_, rfl⟩
  have hP : g_P A G w62 H := by rw [ew62]; exact hP
  have f63 : w62 q1 = some (.inl (G.2.1 0, 10, .inl (fun _ => 0))) := by rw [ew62]; exact g_up_f f55 (g_neq f55 nq61)
  have f64 : w62 q8 = some (.inl (G.2.1 0, 10, .inl (fun _ => 0))) := by rw [ew62]; exact g_up_f f56 (g_neq f56 nq61)
  have f65 : w62 q17 = some (.inl (G.2.1 2, 10, .inl (fun _ => 0))) := by rw [ew62]; exact g_up_f f57 (g_neq f57 nq61)
  have f66 : w62 q33 = some (.inl (G.2.1 0, 64, .inl (fun _ => 0))) := by rw [ew62]; exact g_up_f f58 (g_neq f58 nq61)
  have f67 : w62 q46 = some (.inl (G.2.1 2, 16, .inl (fun _ => 0))) := by rw [ew62]; exact g_up_f f59 (g_neq f59 nq61)
  have f68 : w62 h = some (.inr (8, [.int 0, .int 0, .ref q1, .ref q8, .ref q17, .int (-1), .int 0, .int 0, .ref q33, .ref q46, .int 0, .null, .null, .int 0, .null, .null, .null, .null, .long 0, .long 0])) := by rw [ew62]; exact g_up_f f60 (g_neq f60 nq61)
  have f69 : w62 q61 = some (.inl (G.2.1 0, 16, .inl (fun _ => 0))) := by rw [ew62]; exact g_up_s _ _ _
  refine g_putF F hP hS (C := RX7) (T := TX7) (N := 20) (v := .ref q61) (ty := (.array .int)) iX7 tyX7 tyX7_ok nmX7 f68 rfl 11 (by decide) (List.mem_cons_of_mem _ (List.mem_append_left _ (List.mem_of_getElem? (i := 11) rfl))) (fun _ h9 => h9) rfl hnm0 rfl (by decide +kernel) rfl rfl (by show 11 < 20; decide) dX7_init_54 (fun H locs hP hS => ?_)
  obtain ⟨w70, ew70⟩ : ∃ z, z = g_up w62 h (.inr (8, [.int 0, .int 0, .ref q1, .ref q8, .ref q17, .int (-1), .int 0, .int 0, .ref q33, .ref q46, .int 0, .ref q61, .null, .int 0, .null, .null, .null, .null, .long 0, .long 0])) := ⟨_, rfl⟩
  have hP : g_P A G w70 H := by rw [ew70]; exact hP
  have f71 : w70 q1 = some (.inl (G.2.1 0, 10, .inl (fun _ => 0))) := by rw [ew70]; exact g_up_f f63 (Ne.symm (g_neq hh nq1))
  have f72 : w70 q8 = some (.inl (G.2.1 0, 10, .inl (fun _ => 0))) := by rw [ew70]; exact g_up_f f64 (Ne.symm (g_neq f7 nq8))
  have f73 : w70 q17 = some (.inl (G.2.1 2, 10, .inl (fun _ => 0))) := by rw [ew70]; exact g_up_f f65 (Ne.symm (g_neq f16 nq17))
  have f74 : w70 q33 = some (.inl (G.2.1 0, 64, .inl (fun _ => 0))) := by rw [ew70]; exact g_up_f f66 (Ne.symm (g_neq f32 nq33))
  have f75 : w70 q46 = some (.inl (G.2.1 2, 16, .inl (fun _ => 0))) := by rw [ew70]; exact g_up_f f67 (Ne.symm (g_neq f45 nq46))
  have f76 : w70 q61 = some (.inl (G.2.1 0, 16, .inl (fun _ => 0))) := by rw [ew70]; exact g_up_f f69 (Ne.symm (g_neq f60 nq61))
  have f77 : w70 h = some (.inr (8, [.int 0, .int 0, .ref q1, .ref q8, .ref q17, .int (-1), .int 0, .int 0, .ref q33, .ref q46, .int 0, .ref q61, .null, .int 0, .null, .null, .null, .null, .long 0, .long 0])) := by rw [ew70]; exact g_up_s _ _ _
  refine lv_aload_n hx hb dX7_init_57 rfl (lv_at hl 0 rfl) ?_
  refine lv_bipush (v := 16) hx hb dX7_init_58 (by decide) ?_
  refine g_newaI F hP hS (N' := 16) (List.mem_cons_of_mem _ (List.mem_append_left _ (List.mem_of_getElem? (i := 3) rfl))) (by decide) (by decide) (by decide) (by rw [hR]; exact Nat.le_of_ble_eq_true rfl) (by rw [hR]; exact Nat.le_of_ble_eq_true rfl) dX7_init_60 (fun q78 H nq78 hP hS => ?_)
  obtain ⟨w79, ew79⟩ : ∃ z, z = g_up w70 q78 (.inl (G.2.1 0, 16, .inl (fun _ => 0))) := ⟨_, rfl⟩
  have hP : g_P A G w79 H := by rw [ew79]; exact hP
  have f80 : w79 q1 = some (.inl (G.2.1 0, 10, .inl (fun _ => 0))) := by rw [ew79]; exact g_up_f f71 (g_neq f71 nq78)
  have f81 : w79 q8 = some (.inl (G.2.1 0, 10, .inl (fun _ => 0))) := by rw [ew79]; exact g_up_f f72 (g_neq f72 nq78)
  have f82 : w79 q17 = some (.inl (G.2.1 2, 10, .inl (fun _ => 0))) := by rw [ew79]; exact g_up_f f73 (g_neq f73 nq78)
  have f83 : w79 q33 = some (.inl (G.2.1 0, 64, .inl (fun _ => 0))) := by rw [ew79]; exact g_up_f f74 (g_neq f74 nq78)
  have f84 : w79 q46 = some (.inl (G.2.1 2, 16, .inl (fun _ => 0))) := by rw [ew79]; exact g_up_f f75 (g_neq f75 nq78)
  have f85 : w79 q61 = some (.inl (G.2.1 0, 16, .inl (fun _ => 0))) := by rw [ew79]; exact g_up_f f76 (g_neq f76 nq78)
  have f86 : w79 h = some (.inr (8, [.int 0, .int 0, .ref q1, .ref q8, .ref q17, .int (-1), .int 0, .int 0, .ref q33, .ref q46, .int 0, .ref q61, .null, .int 0, .null, .null, .null, .null, .long 0, .long 0])) := by rw [ew79]; exact g_up_f f77 (g_neq f77 nq78)
  have f87 : w79 q78 = some (.inl (G.2.1 0, 16, .inl (fun _ => 0))) := by rw [ew79]; exact g_up_s _ _ _
  refine g_putF F hP hS (C := RX7) (T := TX7) (N := 20) (v := .ref q78) (ty := (.array .int)) iX7 tyX7 tyX7_ok nmX7 f86 rfl 12 (by decide) (List.mem_cons_of_mem _ (List.mem_append_left _ (List.mem_of_getElem? (i := 12) rfl))) (fun _ h9 => h9) rfl hnm0 rfl (by decide +kernel) rfl rfl (by show 12 < 20; decide) dX7_init_62 (fun H locs hP hS => ?_)
  obtain ⟨w88, ew88⟩ : ∃ z, z = g_up w79 h (.inr (8, [.int 0, .int 0, .ref q1, .ref q8, .ref q17, .int (-1), .int 0, .int 0, .ref q33, .ref q46, .int 0, .ref q61, .ref q78, .int 0, .null, .null, .null, .null, .long 0, .long 0])) := ⟨_, rfl⟩
  have hP : g_P A G w88 H := by rw [ew88]; exact hP
  have f89 : w88 q1 = some (.inl (G.2.1 0, 10, .inl (fun _ => 0))) := by rw [ew88]; exact g_up_f f80 (Ne.symm (g_neq hh nq1))
  have f90 : w88 q8 = some (.inl (G.2.1 0, 10, .inl (fun _ => 0))) := by rw [ew88]; exact g_up_f f81 (Ne.symm (g_neq f7 nq8))
  have f91 : w88 q17 = some (.inl (G.2.1 2, 10, .inl (fun _ => 0))) := by rw [ew88]; exact g_up_f f82 (Ne.symm (g_neq f16 nq17))
  have f92 : w88 q33 = some (.inl (G.2.1 0, 64, .inl (fun _ => 0))) := by rw [ew88]; exact g_up_f f83 (Ne.symm (g_neq f32 nq33))
  have f93 : w88 q46 = some (.inl (G.2.1 2, 16, .inl (fun _ => 0))) := by rw [ew88]; exact g_up_f f84 (Ne.symm (g_neq f45 nq46))
  have f94 : w88 q61 = some (.inl (G.2.1 0, 16, .inl (fun _ => 0))) := by rw [ew88]; exact g_up_f f85 (Ne.symm (g_neq f60 nq61))
  have f95 : w88 q78 = some (.inl (G.2.1 0, 16, .inl (fun _ => 0))) := by rw [ew88]; exact g_up_f f87 (Ne.symm (g_neq f77 nq78))
  have f96 : w88 h = some (.inr (8, [.int 0, .int 0, .ref q1, .ref q8, .ref q17, .int (-1), .int 0, .int 0, .ref q33, .ref q46, .int 0, .ref q61, .ref q78, .int 0, .null, .null, .null, .null, .long 0, .long 0])) := by rw [ew88]; exact g_up_s _ _ _
  refine lv_aload_n hx hb dX7_init_65 rfl (lv_at hl 0 rfl) ?_
  refine lv_bipush (v := 20) hx hb dX7_init_66 (by decide) ?_
  refine g_newaI F hP hS (N' := 20) (List.mem_cons_of_mem _ (List.mem_append_left _ (List.mem_of_getElem? (i := 3) rfl))) (by decide) (by decide) (by decide) (by rw [hR]; exact Nat.le_of_ble_eq_true rfl) (by rw [hR]; exact Nat.le_of_ble_eq_true rfl) dX7_init_68 (fun q97 H nq97 hP hS => ?_)
  obtain ⟨w98, ew98⟩ : ∃ z, z = g_up w88 q97 (.inl (G.2.1 0, 20, .inl (fun _ => 0))) := ⟨_, rfl⟩
  have hP : g_P A G w98 H := by rw [ew98]; exact hP
  have f99 : w98 q1 = some (.inl (G.2.1 0, 10, .inl (fun _ => 0))) := by rw [ew98]; exact g_up_f f89 (g_neq f89 nq97)
  have f100 : w98 q8 = some (.inl (G.2.1 0, 10, .inl (fun _ => 0))) := by rw [ew98]; exact g_up_f f90 (g_neq f90 nq97)
  have f101 : w98 q17 = some (.inl (G.2.1 2, 10, .inl (fun _ => 0))) := by rw [ew98]; exact g_up_f f91 (g_neq f91 nq97)
  have f102 : w98 q33 = some (.inl (G.2.1 0, 64, .inl (fun _ => 0))) := by rw [ew98]; exact g_up_f f92 (g_neq f92 nq97)
  have f103 : w98 q46 = some (.inl (G.2.1 2, 16, .inl (fun _ => 0))) := by rw [ew98]; exact g_up_f f93 (g_neq f93 nq97)
  have f104 : w98 q61 = some (.inl (G.2.1 0, 16, .inl (fun _ => 0))) := by rw [ew98]; exact g_up_f f94 (g_neq f94 nq97)
  have f105 : w98 q78 = some (.inl (G.2.1 0, 16, .inl (fun _ => 0))) := by rw [ew98]; exact g_up_f f95 (g_neq f95 nq97)
  have f106 : w98 h = some (.inr (8, [.int 0, .int 0, .ref q1, .ref q8, .ref q17, .int (-1), .int 0, .int 0, .ref q33, .ref q46, .int 0, .ref q61, .ref q78, .int 0, .null, .null, .null, .null, .long 0, .long 0])) := by rw [ew98]; exact g_up_f f96 (g_neq f96 nq97)
  have f107 : w98 q97 = some (.inl (G.2.1 0, 20, .inl (fun _ => 0))) := by rw [ew98]; exact g_up_s _ _ _
  refine g_putF F hP hS (C := RX7) (T := TX7) (N := 20) (v := .ref q97) (ty := (.array .int)) iX7 tyX7 tyX7_ok nmX7 f106 rfl 14 (by decide) (List.mem_cons_of_mem _ (List.mem_append_left _ (List.mem_of_getElem? (i := 13) rfl))) (fun _ h9 => h9) rfl hnm0 rfl (by decide +kernel) rfl rfl (by show 14 < 20; decide) dX7_init_70 (fun H locs hP hS => ?_)
  obtain ⟨w108, ew108⟩ : ∃ z, z = g_up w98 h (.inr (8, [.int 0, .int 0, .ref q1, .ref q8, .ref q17, .int (-1), .int 0, .int 0, .ref q33, .ref q46, .int 0, .ref q61, .ref q78, .int 0, .ref q97, .null, .null, .null, .long 0, .long 0])) := ⟨_, rfl⟩
  have hP : g_P A G w108 H := by rw [ew108]; exact hP
  have f109 : w108 q1 = some (.inl (G.2.1 0, 10, .inl (fun _ => 0))) := by rw [ew108]; exact g_up_f f99 (Ne.symm (g_neq hh nq1))
  have f110 : w108 q8 = some (.inl (G.2.1 0, 10, .inl (fun _ => 0))) := by rw [ew108]; exact g_up_f f100 (Ne.symm (g_neq f7 nq8))
  have f111 : w108 q17 = some (.inl (G.2.1 2, 10, .inl (fun _ => 0))) := by rw [ew108]; exact g_up_f f101 (Ne.symm (g_neq f16 nq17))
  have f112 : w108 q33 = some (.inl (G.2.1 0, 64, .inl (fun _ => 0))) := by rw [ew108]; exact g_up_f f102 (Ne.symm (g_neq f32 nq33))
  have f113 : w108 q46 = some (.inl (G.2.1 2, 16, .inl (fun _ => 0))) := by rw [ew108]; exact g_up_f f103 (Ne.symm (g_neq f45 nq46))
  have f114 : w108 q61 = some (.inl (G.2.1 0, 16, .inl (fun _ => 0))) := by rw [ew108]; exact g_up_f f104 (Ne.symm (g_neq f60 nq61))
  have f115 : w108 q78 = some (.inl (G.2.1 0, 16, .inl (fun _ => 0))) := by rw [ew108]; exact g_up_f f105 (Ne.symm (g_neq f77 nq78))
  have f116 : w108 q97 = some (.inl (G.2.1 0, 20, .inl (fun _ => 0))) := by rw [ew108]; exact g_up_f f107 (Ne.symm (g_neq f96 nq97))
  have f117 : w108 h = some (.inr (8, [.int 0, .int 0, .ref q1, .ref q8, .ref q17, .int (-1), .int 0, .int 0, .ref q33, .ref q46, .int 0, .ref q61, .ref q78, .int 0, .ref q97, .null, .null, .null, .long 0, .long 0])) := by rw [ew108]; exact g_up_s _ _ _
  refine lv_aload_n hx hb dX7_init_73 rfl (lv_at hl 0 rfl) ?_
  refine lv_bipush (v := 10) hx hb dX7_init_74 (by decide) ?_
  refine g_newaJ F hP hS (N' := 10) (List.mem_cons_of_mem _ (List.mem_append_left _ (List.mem_of_getElem? (i := 14) rfl))) (by decide) (by decide) (by decide) (by rw [hR]; exact Nat.le_of_ble_eq_true rfl) (by rw [hR]; exact Nat.le_of_ble_eq_true rfl) dX7_init_76 (fun q118 H nq118 hP hS => ?_)
  obtain ⟨w119, ew119⟩ : ∃ z, z = g_up w108 q118 (.inl (G.2.1 1, 10, .inr (.inl (fun _ => 0)))) := ⟨_, rfl⟩
  have hP : g_P A G w119 H := by rw [ew119]; exact hP
  have f120 : w119 q1 = some (.inl (G.2.1 0, 10, .inl (fun _ => 0))) := by rw [ew119]; exact g_up_f f109 (g_neq f109 nq118)
  have f121 : w119 q8 = some (.inl (G.2.1 0, 10, .inl (fun _ => 0))) := by rw [ew119]; exact g_up_f f110 (g_neq f110 nq118)
  have f122 : w119 q17 = some (.inl (G.2.1 2, 10, .inl (fun _ => 0))) := by rw [ew119]; exact g_up_f f111 (g_neq f111 nq118)
  have f123 : w119 q33 = some (.inl (G.2.1 0, 64, .inl (fun _ => 0))) := by rw [ew119]; exact g_up_f f112 (g_neq f112 nq118)
  have f124 : w119 q46 = some (.inl (G.2.1 2, 16, .inl (fun _ => 0))) := by rw [ew119]; exact g_up_f f113 (g_neq f113 nq118)
  have f125 : w119 q61 = some (.inl (G.2.1 0, 16, .inl (fun _ => 0))) := by rw [ew119]; exact g_up_f f114 (g_neq f114 nq118)
  have f126 : w119 q78 = some (.inl (G.2.1 0, 16, .inl (fun _ => 0))) := by rw [ew119]; exact g_up_f f115 (g_neq f115 nq118)
  have f127 : w119 q97 = some (.inl (G.2.1 0, 20, .inl (fun _ => 0))) := by rw [ew119]; exact g_up_f f116 (g_neq f116 nq118)
  have f128 : w119 h = some (.inr (8, [.int 0, .int 0, .ref q1, .ref q8, .ref q17, .int (-1), .int 0, .int 0, .ref q33, .ref q46, .int 0, .ref q61, .ref q78, .int 0, .ref q97, .null, .null, .null, .long 0, .long 0])) := by rw [ew119]; exact g_up_f f117 (g_neq f117 nq118)
  have f129 : w119 q118 = some (.inl (G.2.1 1, 10, .inr (.inl (fun _ => 0)))) := by rw [ew119]; exact g_up_s _ _ _
  refine g_putF F hP hS (C := RX7) (T := TX7) (N := 20) (v := .ref q118) (ty := (.array .long)) iX7 tyX7 tyX7_ok nmX7 f128 rfl 15 (by decide) (List.mem_cons_of_mem _ (List.mem_append_left _ (List.mem_of_getElem? (i := 15) rfl))) (fun _ h9 => h9) rfl hnm0 rfl (by decide +kernel) rfl rfl (by show 15 < 20; decide) dX7_init_78 (fun H locs hP hS => ?_)
  obtain ⟨w130, ew130⟩ : ∃ z, z = g_up w119 h (.inr (8, [.int 0, .int 0, .ref q1, .ref q8, .ref q17, .int (-1), .int 0, .int 0, .ref q33, .ref q46, .int 0, .ref q61, .ref q78, .int 0, .ref q97, .ref q118, .null, .null, .long 0, .long 0])) := ⟨_, rfl⟩
  have hP : g_P A G w130 H := by rw [ew130]; exact hP
  have f131 : w130 q1 = some (.inl (G.2.1 0, 10, .inl (fun _ => 0))) := by rw [ew130]; exact g_up_f f120 (Ne.symm (g_neq hh nq1))
  have f132 : w130 q8 = some (.inl (G.2.1 0, 10, .inl (fun _ => 0))) := by rw [ew130]; exact g_up_f f121 (Ne.symm (g_neq f7 nq8))
  have f133 : w130 q17 = some (.inl (G.2.1 2, 10, .inl (fun _ => 0))) := by rw [ew130]; exact g_up_f f122 (Ne.symm (g_neq f16 nq17))
  have f134 : w130 q33 = some (.inl (G.2.1 0, 64, .inl (fun _ => 0))) := by rw [ew130]; exact g_up_f f123 (Ne.symm (g_neq f32 nq33))
  have f135 : w130 q46 = some (.inl (G.2.1 2, 16, .inl (fun _ => 0))) := by rw [ew130]; exact g_up_f f124 (Ne.symm (g_neq f45 nq46))
  have f136 : w130 q61 = some (.inl (G.2.1 0, 16, .inl (fun _ => 0))) := by rw [ew130]; exact g_up_f f125 (Ne.symm (g_neq f60 nq61))
  have f137 : w130 q78 = some (.inl (G.2.1 0, 16, .inl (fun _ => 0))) := by rw [ew130]; exact g_up_f f126 (Ne.symm (g_neq f77 nq78))
  have f138 : w130 q97 = some (.inl (G.2.1 0, 20, .inl (fun _ => 0))) := by rw [ew130]; exact g_up_f f127 (Ne.symm (g_neq f96 nq97))
  have f139 : w130 q118 = some (.inl (G.2.1 1, 10, .inr (.inl (fun _ => 0)))) := by rw [ew130]; exact g_up_f f129 (Ne.symm (g_neq f117 nq118))
  have f140 : w130 h = some (.inr (8, [.int 0, .int 0, .ref q1, .ref q8, .ref q17, .int (-1), .int 0, .int 0, .ref q33, .ref q46, .int 0, .ref q61, .ref q78, .int 0, .ref q97, .ref q118, .null, .null, .long 0, .long 0])) := by rw [ew130]; exact g_up_s _ _ _
  refine lv_aload_n hx hb dX7_init_81 rfl (lv_at hl 0 rfl) ?_
  refine lv_bipush (v := 10) hx hb dX7_init_82 (by decide) ?_
  refine g_newaJ F hP hS (N' := 10) (List.mem_cons_of_mem _ (List.mem_append_left _ (List.mem_of_getElem? (i := 14) rfl))) (by decide) (by decide) (by decide) (by rw [hR]; exact Nat.le_of_ble_eq_true rfl) (by rw [hR]; exact Nat.le_of_ble_eq_true rfl) dX7_init_84 (fun q141 H nq141 hP hS => ?_)
  obtain ⟨w142, ew142⟩ : ∃ z, z = g_up w130 q141 (.inl (G.2.1 1, 10, .inr (.inl (fun _ => 0)))) := ⟨_, rfl⟩
  have hP : g_P A G w142 H := by rw [ew142]; exact hP
  have f143 : w142 q1 = some (.inl (G.2.1 0, 10, .inl (fun _ => 0))) := by rw [ew142]; exact g_up_f f131 (g_neq f131 nq141)
  have f144 : w142 q8 = some (.inl (G.2.1 0, 10, .inl (fun _ => 0))) := by rw [ew142]; exact g_up_f f132 (g_neq f132 nq141)
  have f145 : w142 q17 = some (.inl (G.2.1 2, 10, .inl (fun _ => 0))) := by rw [ew142]; exact g_up_f f133 (g_neq f133 nq141)
  have f146 : w142 q33 = some (.inl (G.2.1 0, 64, .inl (fun _ => 0))) := by rw [ew142]; exact g_up_f f134 (g_neq f134 nq141)
  have f147 : w142 q46 = some (.inl (G.2.1 2, 16, .inl (fun _ => 0))) := by rw [ew142]; exact g_up_f f135 (g_neq f135 nq141)
  have f148 : w142 q61 = some (.inl (G.2.1 0, 16, .inl (fun _ => 0))) := by rw [ew142]; exact g_up_f f136 (g_neq f136 nq141)
  have f149 : w142 q78 = some (.inl (G.2.1 0, 16, .inl (fun _ => 0))) := by rw [ew142]; exact g_up_f f137 (g_neq f137 nq141)
  have f150 : w142 q97 = some (.inl (G.2.1 0, 20, .inl (fun _ => 0))) := by rw [ew142]; exact g_up_f f138 (g_neq f138 nq141)
  have f151 : w142 q118 = some (.inl (G.2.1 1, 10, .inr (.inl (fun _ => 0)))) := by rw [ew142]; exact g_up_f f139 (g_neq f139 nq141)
  have f152 : w142 h = some (.inr (8, [.int 0, .int 0, .ref q1, .ref q8, .ref q17, .int (-1), .int 0, .int 0, .ref q33, .ref q46, .int 0, .ref q61, .ref q78, .int 0, .ref q97, .ref q118, .null, .null, .long 0, .long 0])) := by rw [ew142]; exact g_up_f f140 (g_neq f140 nq141)
  have f153 : w142 q141 = some (.inl (G.2.1 1, 10, .inr (.inl (fun _ => 0)))) := by rw [ew142]; exact g_up_s _ _ _
  refine g_putF F hP hS (C := RX7) (T := TX7) (N := 20) (v := .ref q141) (ty := (.array .long)) iX7 tyX7 tyX7_ok nmX7 f152 rfl 16 (by decide) (List.mem_cons_of_mem _ (List.mem_append_left _ (List.mem_of_getElem? (i := 16) rfl))) (fun _ h9 => h9) rfl hnm0 rfl (by decide +kernel) rfl rfl (by show 16 < 20; decide) dX7_init_86 (fun H locs hP hS => ?_)
  obtain ⟨w154, ew154⟩ : ∃ z, z = g_up w142 h (.inr (8, [.int 0, .int 0, .ref q1, .ref q8, .ref q17, .int (-1), .int 0, .int 0, .ref q33, .ref q46, .int 0, .ref q61, .ref q78, .int 0, .ref q97, .ref q118, .ref q141, .null, .long 0, .long 0])) := ⟨_, rfl⟩
  have hP : g_P A G w154 H := by rw [ew154]; exact hP
  have f155 : w154 q1 = some (.inl (G.2.1 0, 10, .inl (fun _ => 0))) := by rw [ew154]; exact g_up_f f143 (Ne.symm (g_neq hh nq1))
  have f156 : w154 q8 = some (.inl (G.2.1 0, 10, .inl (fun _ => 0))) := by rw [ew154]; exact g_up_f f144 (Ne.symm (g_neq f7 nq8))
  have f157 : w154 q17 = some (.inl (G.2.1 2, 10, .inl (fun _ => 0))) := by rw [ew154]; exact g_up_f f145 (Ne.symm (g_neq f16 nq17))
  have f158 : w154 q33 = some (.inl (G.2.1 0, 64, .inl (fun _ => 0))) := by rw [ew154]; exact g_up_f f146 (Ne.symm (g_neq f32 nq33))
  have f159 : w154 q46 = some (.inl (G.2.1 2, 16, .inl (fun _ => 0))) := by rw [ew154]; exact g_up_f f147 (Ne.symm (g_neq f45 nq46))
  have f160 : w154 q61 = some (.inl (G.2.1 0, 16, .inl (fun _ => 0))) := by rw [ew154]; exact g_up_f f148 (Ne.symm (g_neq f60 nq61))
  have f161 : w154 q78 = some (.inl (G.2.1 0, 16, .inl (fun _ => 0))) := by rw [ew154]; exact g_up_f f149 (Ne.symm (g_neq f77 nq78))
  have f162 : w154 q97 = some (.inl (G.2.1 0, 20, .inl (fun _ => 0))) := by rw [ew154]; exact g_up_f f150 (Ne.symm (g_neq f96 nq97))
  have f163 : w154 q118 = some (.inl (G.2.1 1, 10, .inr (.inl (fun _ => 0)))) := by rw [ew154]; exact g_up_f f151 (Ne.symm (g_neq f117 nq118))
  have f164 : w154 q141 = some (.inl (G.2.1 1, 10, .inr (.inl (fun _ => 0)))) := by rw [ew154]; exact g_up_f f153 (Ne.symm (g_neq f140 nq141))
  have f165 : w154 h = some (.inr (8, [.int 0, .int 0, .ref q1, .ref q8, .ref q17, .int (-1), .int 0, .int 0, .ref q33, .ref q46, .int 0, .ref q61, .ref q78, .int 0, .ref q97, .ref q118, .ref q141, .null, .long 0, .long 0])) := by rw [ew154]; exact g_up_s _ _ _
  refine lv_aload_n hx hb dX7_init_89 rfl (lv_at hl 0 rfl) ?_
  refine lv_bipush (v := 10) hx hb dX7_init_90 (by decide) ?_
  refine g_newaI F hP hS (N' := 10) (List.mem_cons_of_mem _ (List.mem_append_left _ (List.mem_of_getElem? (i := 3) rfl))) (by decide) (by decide) (by decide) (by rw [hR]; exact Nat.le_of_ble_eq_true rfl) (by rw [hR]; exact Nat.le_of_ble_eq_true rfl) dX7_init_92 (fun q166 H nq166 hP hS => ?_)
  obtain ⟨w167, ew167⟩ : ∃ z, z = g_up w154 q166 (.inl (G.2.1 0, 10, .inl (fun _ => 0))) := ⟨_, rfl⟩
  have hP : g_P A G w167 H := by rw [ew167]; exact hP
  have f168 : w167 q1 = some (.inl (G.2.1 0, 10, .inl (fun _ => 0))) := by rw [ew167]; exact g_up_f f155 (g_neq f155 nq166)
  have f169 : w167 q8 = some (.inl (G.2.1 0, 10, .inl (fun _ => 0))) := by rw [ew167]; exact g_up_f f156 (g_neq f156 nq166)
  have f170 : w167 q17 = some (.inl (G.2.1 2, 10, .inl (fun _ => 0))) := by rw [ew167]; exact g_up_f f157 (g_neq f157 nq166)
  have f171 : w167 q33 = some (.inl (G.2.1 0, 64, .inl (fun _ => 0))) := by rw [ew167]; exact g_up_f f158 (g_neq f158 nq166)
  have f172 : w167 q46 = some (.inl (G.2.1 2, 16, .inl (fun _ => 0))) := by rw [ew167]; exact g_up_f f159 (g_neq f159 nq166)
  have f173 : w167 q61 = some (.inl (G.2.1 0, 16, .inl (fun _ => 0))) := by rw [ew167]; exact g_up_f f160 (g_neq f160 nq166)
  have f174 : w167 q78 = some (.inl (G.2.1 0, 16, .inl (fun _ => 0))) := by rw [ew167]; exact g_up_f f161 (g_neq f161 nq166)
  have f175 : w167 q97 = some (.inl (G.2.1 0, 20, .inl (fun _ => 0))) := by rw [ew167]; exact g_up_f f162 (g_neq f162 nq166)
  have f176 : w167 q118 = some (.inl (G.2.1 1, 10, .inr (.inl (fun _ => 0)))) := by rw [ew167]; exact g_up_f f163 (g_neq f163 nq166)
  have f177 : w167 q141 = some (.inl (G.2.1 1, 10, .inr (.inl (fun _ => 0)))) := by rw [ew167]; exact g_up_f f164 (g_neq f164 nq166)
  have f178 : w167 h = some (.inr (8, [.int 0, .int 0, .ref q1, .ref q8, .ref q17, .int (-1), .int 0, .int 0, .ref q33, .ref q46, .int 0, .ref q61, .ref q78, .int 0, .ref q97, .ref q118, .ref q141, .null, .long 0, .long 0])) := by rw [ew167]; exact g_up_f f165 (g_neq f165 nq166)
  have f179 : w167 q166 = some (.inl (G.2.1 0, 10, .inl (fun _ => 0))) := by rw [ew167]; exact g_up_s _ _ _
  refine g_putF F hP hS (C := RX7) (T := TX7) (N := 20) (v := .ref q166) (ty := (.array .int)) iX7 tyX7 tyX7_ok nmX7 f178 rfl 17 (by decide) (List.mem_cons_of_mem _ (List.mem_append_left _ (List.mem_of_getElem? (i := 17) rfl))) (fun _ h9 => h9) rfl hnm0 rfl (by decide +kernel) rfl rfl (by show 17 < 20; decide) dX7_init_94 (fun H locs hP hS => ?_)
  obtain ⟨w180, ew180⟩ : ∃ z, z = g_up w167 h (.inr (8, [.int 0, .int 0, .ref q1, .ref q8, .ref q17, .int (-1), .int 0, .int 0, .ref q33, .ref q46, .int 0, .ref q61, .ref q78, .int 0, .ref q97, .ref q118, .ref q141, .ref q166, .long 0, .long 0])) := ⟨_, rfl⟩
  have hP : g_P A G w180 H := by rw [ew180]; exact hP
  have f181 : w180 q1 = some (.inl (G.2.1 0, 10, .inl (fun _ => 0))) := by rw [ew180]; exact g_up_f f168 (Ne.symm (g_neq hh nq1))
  have f182 : w180 q8 = some (.inl (G.2.1 0, 10, .inl (fun _ => 0))) := by rw [ew180]; exact g_up_f f169 (Ne.symm (g_neq f7 nq8))
  have f183 : w180 q17 = some (.inl (G.2.1 2, 10, .inl (fun _ => 0))) := by rw [ew180]; exact g_up_f f170 (Ne.symm (g_neq f16 nq17))
  have f184 : w180 q33 = some (.inl (G.2.1 0, 64, .inl (fun _ => 0))) := by rw [ew180]; exact g_up_f f171 (Ne.symm (g_neq f32 nq33))
  have f185 : w180 q46 = some (.inl (G.2.1 2, 16, .inl (fun _ => 0))) := by rw [ew180]; exact g_up_f f172 (Ne.symm (g_neq f45 nq46))
  have f186 : w180 q61 = some (.inl (G.2.1 0, 16, .inl (fun _ => 0))) := by rw [ew180]; exact g_up_f f173 (Ne.symm (g_neq f60 nq61))
  have f187 : w180 q78 = some (.inl (G.2.1 0, 16, .inl (fun _ => 0))) := by rw [ew180]; exact g_up_f f174 (Ne.symm (g_neq f77 nq78))
  have f188 : w180 q97 = some (.inl (G.2.1 0, 20, .inl (fun _ => 0))) := by rw [ew180]; exact g_up_f f175 (Ne.symm (g_neq f96 nq97))
  have f189 : w180 q118 = some (.inl (G.2.1 1, 10, .inr (.inl (fun _ => 0)))) := by rw [ew180]; exact g_up_f f176 (Ne.symm (g_neq f117 nq118))
  have f190 : w180 q141 = some (.inl (G.2.1 1, 10, .inr (.inl (fun _ => 0)))) := by rw [ew180]; exact g_up_f f177 (Ne.symm (g_neq f140 nq141))
  have f191 : w180 q166 = some (.inl (G.2.1 0, 10, .inl (fun _ => 0))) := by rw [ew180]; exact g_up_f f179 (Ne.symm (g_neq f165 nq166))
  have f192 : w180 h = some (.inr (8, [.int 0, .int 0, .ref q1, .ref q8, .ref q17, .int (-1), .int 0, .int 0, .ref q33, .ref q46, .int 0, .ref q61, .ref q78, .int 0, .ref q97, .ref q118, .ref q141, .ref q166, .long 0, .long 0])) := by rw [ew180]; exact g_up_s _ _ _
  rw [hQ]
  refine g_vret F hP hS hlocks hr dX7_init_97 (by first | exact Nat.le_of_ble_eq_true rfl | omega) (by first | exact Nat.le_of_ble_eq_true rfl | omega) ?_
  have nnq1 := nq1
  have nnq8 := nq8
  rw [ew5] at nnq8
  obtain ⟨ddq8_0, nnq8⟩ := g_up_none nnq8
  rw [ew2] at nnq8
  obtain ⟨ddq8_1, nnq8⟩ := g_up_none nnq8
  have nnq17 := nq17
  rw [ew13] at nnq17
  obtain ⟨ddq17_0, nnq17⟩ := g_up_none nnq17
  rw [ew9] at nnq17
  obtain ⟨ddq17_1, nnq17⟩ := g_up_none nnq17
  rw [ew5] at nnq17
  obtain ⟨ddq17_2, nnq17⟩ := g_up_none nnq17
  rw [ew2] at nnq17
  obtain ⟨ddq17_3, nnq17⟩ := g_up_none nnq17
  have nnq33 := nq33
  rw [ew28] at nnq33
  obtain ⟨ddq33_0, nnq33⟩ := g_up_none nnq33
  rw [ew23] at nnq33
  obtain ⟨ddq33_1, nnq33⟩ := g_up_none nnq33
  rw [ew18] at nnq33
  obtain ⟨ddq33_2, nnq33⟩ := g_up_none nnq33
  rw [ew13] at nnq33
  obtain ⟨ddq33_3, nnq33⟩ := g_up_none nnq33
  rw [ew9] at nnq33
  obtain ⟨ddq33_4, nnq33⟩ := g_up_none nnq33
  rw [ew5] at nnq33
  obtain ⟨ddq33_5, nnq33⟩ := g_up_none nnq33
  rw [ew2] at nnq33
  obtain ⟨ddq33_6, nnq33⟩ := g_up_none nnq33
  have nnq46 := nq46
  rw [ew40] at nnq46
  obtain ⟨ddq46_0, nnq46⟩ := g_up_none nnq46
  rw [ew34] at nnq46
  obtain ⟨ddq46_1, nnq46⟩ := g_up_none nnq46
  rw [ew28] at nnq46
  obtain ⟨ddq46_2, nnq46⟩ := g_up_none nnq46
  rw [ew23] at nnq46
  obtain ⟨ddq46_3, nnq46⟩ := g_up_none nnq46
  rw [ew18] at nnq46
  obtain ⟨ddq46_4, nnq46⟩ := g_up_none nnq46
  rw [ew13] at nnq46
  obtain ⟨ddq46_5, nnq46⟩ := g_up_none nnq46
  rw [ew9] at nnq46
  obtain ⟨ddq46_6, nnq46⟩ := g_up_none nnq46
  rw [ew5] at nnq46
  obtain ⟨ddq46_7, nnq46⟩ := g_up_none nnq46
  rw [ew2] at nnq46
  obtain ⟨ddq46_8, nnq46⟩ := g_up_none nnq46
  have nnq61 := nq61
  rw [ew54] at nnq61
  obtain ⟨ddq61_0, nnq61⟩ := g_up_none nnq61
  rw [ew47] at nnq61
  obtain ⟨ddq61_1, nnq61⟩ := g_up_none nnq61
  rw [ew40] at nnq61
  obtain ⟨ddq61_2, nnq61⟩ := g_up_none nnq61
  rw [ew34] at nnq61
  obtain ⟨ddq61_3, nnq61⟩ := g_up_none nnq61
  rw [ew28] at nnq61
  obtain ⟨ddq61_4, nnq61⟩ := g_up_none nnq61
  rw [ew23] at nnq61
  obtain ⟨ddq61_5, nnq61⟩ := g_up_none nnq61
  rw [ew18] at nnq61
  obtain ⟨ddq61_6, nnq61⟩ := g_up_none nnq61
  rw [ew13] at nnq61
  obtain ⟨ddq61_7, nnq61⟩ := g_up_none nnq61
  rw [ew9] at nnq61
  obtain ⟨ddq61_8, nnq61⟩ := g_up_none nnq61
  rw [ew5] at nnq61
  obtain ⟨ddq61_9, nnq61⟩ := g_up_none nnq61
  rw [ew2] at nnq61
  obtain ⟨ddq61_10, nnq61⟩ := g_up_none nnq61
  have nnq78 := nq78
  rw [ew70] at nnq78
  obtain ⟨ddq78_0, nnq78⟩ := g_up_none nnq78
  rw [ew62] at nnq78
  obtain ⟨ddq78_1, nnq78⟩ := g_up_none nnq78
  rw [ew54] at nnq78
  obtain ⟨ddq78_2, nnq78⟩ := g_up_none nnq78
  rw [ew47] at nnq78
  obtain ⟨ddq78_3, nnq78⟩ := g_up_none nnq78
  rw [ew40] at nnq78
  obtain ⟨ddq78_4, nnq78⟩ := g_up_none nnq78
  rw [ew34] at nnq78
  obtain ⟨ddq78_5, nnq78⟩ := g_up_none nnq78
  rw [ew28] at nnq78
  obtain ⟨ddq78_6, nnq78⟩ := g_up_none nnq78
  rw [ew23] at nnq78
  obtain ⟨ddq78_7, nnq78⟩ := g_up_none nnq78
  rw [ew18] at nnq78
  obtain ⟨ddq78_8, nnq78⟩ := g_up_none nnq78
  rw [ew13] at nnq78
  obtain ⟨ddq78_9, nnq78⟩ := g_up_none nnq78
  rw [ew9] at nnq78
  obtain ⟨ddq78_10, nnq78⟩ := g_up_none nnq78
  rw [ew5] at nnq78
  obtain ⟨ddq78_11, nnq78⟩ := g_up_none nnq78
  rw [ew2] at nnq78
  obtain ⟨ddq78_12, nnq78⟩ := g_up_none nnq78
  have nnq97 := nq97
  rw [ew88] at nnq97
  obtain ⟨ddq97_0, nnq97⟩ := g_up_none nnq97
  rw [ew79] at nnq97
  obtain ⟨ddq97_1, nnq97⟩ := g_up_none nnq97
  rw [ew70] at nnq97
  obtain ⟨ddq97_2, nnq97⟩ := g_up_none nnq97
  rw [ew62] at nnq97
  obtain ⟨ddq97_3, nnq97⟩ := g_up_none nnq97
  rw [ew54] at nnq97
  obtain ⟨ddq97_4, nnq97⟩ := g_up_none nnq97
  rw [ew47] at nnq97
  obtain ⟨ddq97_5, nnq97⟩ := g_up_none nnq97
  rw [ew40] at nnq97
  obtain ⟨ddq97_6, nnq97⟩ := g_up_none nnq97
  rw [ew34] at nnq97
  obtain ⟨ddq97_7, nnq97⟩ := g_up_none nnq97
  rw [ew28] at nnq97
  obtain ⟨ddq97_8, nnq97⟩ := g_up_none nnq97
  rw [ew23] at nnq97
  obtain ⟨ddq97_9, nnq97⟩ := g_up_none nnq97
  rw [ew18] at nnq97
  obtain ⟨ddq97_10, nnq97⟩ := g_up_none nnq97
  rw [ew13] at nnq97
  obtain ⟨ddq97_11, nnq97⟩ := g_up_none nnq97
  rw [ew9] at nnq97
  obtain ⟨ddq97_12, nnq97⟩ := g_up_none nnq97
  rw [ew5] at nnq97
  obtain ⟨ddq97_13, nnq97⟩ := g_up_none nnq97
  rw [ew2] at nnq97
  obtain ⟨ddq97_14, nnq97⟩ := g_up_none nnq97
  have nnq118 := nq118
  rw [ew108] at nnq118
  obtain ⟨ddq118_0, nnq118⟩ := g_up_none nnq118
  rw [ew98] at nnq118
  obtain ⟨ddq118_1, nnq118⟩ := g_up_none nnq118
  rw [ew88] at nnq118
  obtain ⟨ddq118_2, nnq118⟩ := g_up_none nnq118
  rw [ew79] at nnq118
  obtain ⟨ddq118_3, nnq118⟩ := g_up_none nnq118
  rw [ew70] at nnq118
  obtain ⟨ddq118_4, nnq118⟩ := g_up_none nnq118
  rw [ew62] at nnq118
  obtain ⟨ddq118_5, nnq118⟩ := g_up_none nnq118
  rw [ew54] at nnq118
  obtain ⟨ddq118_6, nnq118⟩ := g_up_none nnq118
  rw [ew47] at nnq118
  obtain ⟨ddq118_7, nnq118⟩ := g_up_none nnq118
  rw [ew40] at nnq118
  obtain ⟨ddq118_8, nnq118⟩ := g_up_none nnq118
  rw [ew34] at nnq118
  obtain ⟨ddq118_9, nnq118⟩ := g_up_none nnq118
  rw [ew28] at nnq118
  obtain ⟨ddq118_10, nnq118⟩ := g_up_none nnq118
  rw [ew23] at nnq118
  obtain ⟨ddq118_11, nnq118⟩ := g_up_none nnq118
  rw [ew18] at nnq118
  obtain ⟨ddq118_12, nnq118⟩ := g_up_none nnq118
  rw [ew13] at nnq118
  obtain ⟨ddq118_13, nnq118⟩ := g_up_none nnq118
  rw [ew9] at nnq118
  obtain ⟨ddq118_14, nnq118⟩ := g_up_none nnq118
  rw [ew5] at nnq118
  obtain ⟨ddq118_15, nnq118⟩ := g_up_none nnq118
  rw [ew2] at nnq118
  obtain ⟨ddq118_16, nnq118⟩ := g_up_none nnq118
  have nnq141 := nq141
  rw [ew130] at nnq141
  obtain ⟨ddq141_0, nnq141⟩ := g_up_none nnq141
  rw [ew119] at nnq141
  obtain ⟨ddq141_1, nnq141⟩ := g_up_none nnq141
  rw [ew108] at nnq141
  obtain ⟨ddq141_2, nnq141⟩ := g_up_none nnq141
  rw [ew98] at nnq141
  obtain ⟨ddq141_3, nnq141⟩ := g_up_none nnq141
  rw [ew88] at nnq141
  obtain ⟨ddq141_4, nnq141⟩ := g_up_none nnq141
  rw [ew79] at nnq141
  obtain ⟨ddq141_5, nnq141⟩ := g_up_none nnq141
  rw [ew70] at nnq141
  obtain ⟨ddq141_6, nnq141⟩ := g_up_none nnq141
  rw [ew62] at nnq141
  obtain ⟨ddq141_7, nnq141⟩ := g_up_none nnq141
  rw [ew54] at nnq141
  obtain ⟨ddq141_8, nnq141⟩ := g_up_none nnq141
  rw [ew47] at nnq141
  obtain ⟨ddq141_9, nnq141⟩ := g_up_none nnq141
  rw [ew40] at nnq141
  obtain ⟨ddq141_10, nnq141⟩ := g_up_none nnq141
  rw [ew34] at nnq141
  obtain ⟨ddq141_11, nnq141⟩ := g_up_none nnq141
  rw [ew28] at nnq141
  obtain ⟨ddq141_12, nnq141⟩ := g_up_none nnq141
  rw [ew23] at nnq141
  obtain ⟨ddq141_13, nnq141⟩ := g_up_none nnq141
  rw [ew18] at nnq141
  obtain ⟨ddq141_14, nnq141⟩ := g_up_none nnq141
  rw [ew13] at nnq141
  obtain ⟨ddq141_15, nnq141⟩ := g_up_none nnq141
  rw [ew9] at nnq141
  obtain ⟨ddq141_16, nnq141⟩ := g_up_none nnq141
  rw [ew5] at nnq141
  obtain ⟨ddq141_17, nnq141⟩ := g_up_none nnq141
  rw [ew2] at nnq141
  obtain ⟨ddq141_18, nnq141⟩ := g_up_none nnq141
  have nnq166 := nq166
  rw [ew154] at nnq166
  obtain ⟨ddq166_0, nnq166⟩ := g_up_none nnq166
  rw [ew142] at nnq166
  obtain ⟨ddq166_1, nnq166⟩ := g_up_none nnq166
  rw [ew130] at nnq166
  obtain ⟨ddq166_2, nnq166⟩ := g_up_none nnq166
  rw [ew119] at nnq166
  obtain ⟨ddq166_3, nnq166⟩ := g_up_none nnq166
  rw [ew108] at nnq166
  obtain ⟨ddq166_4, nnq166⟩ := g_up_none nnq166
  rw [ew98] at nnq166
  obtain ⟨ddq166_5, nnq166⟩ := g_up_none nnq166
  rw [ew88] at nnq166
  obtain ⟨ddq166_6, nnq166⟩ := g_up_none nnq166
  rw [ew79] at nnq166
  obtain ⟨ddq166_7, nnq166⟩ := g_up_none nnq166
  rw [ew70] at nnq166
  obtain ⟨ddq166_8, nnq166⟩ := g_up_none nnq166
  rw [ew62] at nnq166
  obtain ⟨ddq166_9, nnq166⟩ := g_up_none nnq166
  rw [ew54] at nnq166
  obtain ⟨ddq166_10, nnq166⟩ := g_up_none nnq166
  rw [ew47] at nnq166
  obtain ⟨ddq166_11, nnq166⟩ := g_up_none nnq166
  rw [ew40] at nnq166
  obtain ⟨ddq166_12, nnq166⟩ := g_up_none nnq166
  rw [ew34] at nnq166
  obtain ⟨ddq166_13, nnq166⟩ := g_up_none nnq166
  rw [ew28] at nnq166
  obtain ⟨ddq166_14, nnq166⟩ := g_up_none nnq166
  rw [ew23] at nnq166
  obtain ⟨ddq166_15, nnq166⟩ := g_up_none nnq166
  rw [ew18] at nnq166
  obtain ⟨ddq166_16, nnq166⟩ := g_up_none nnq166
  rw [ew13] at nnq166
  obtain ⟨ddq166_17, nnq166⟩ := g_up_none nnq166
  rw [ew9] at nnq166
  obtain ⟨ddq166_18, nnq166⟩ := g_up_none nnq166
  rw [ew5] at nnq166
  obtain ⟨ddq166_19, nnq166⟩ := g_up_none nnq166
  rw [ew2] at nnq166
  obtain ⟨ddq166_20, nnq166⟩ := g_up_none nnq166
  have nh : w h ≠ none := by rw [hh]; exact fun z => (nomatch z)
  obtain ⟨md, emd⟩ : ∃ md : Nat → Nat, md = fun i => if i = 0 then h else if i = 1 then q1 else if i = 2 then q8 else if i = 3 then q17 else if i = 4 then q33 else if i = 5 then q46 else if i = 6 then q61 else if i = 7 then q78 else if i = 8 then q97 else if i = 9 then q118 else if i = 10 then q141 else q166 := ⟨_, rfl⟩
  have em0 : md 0 = h := by rw [emd]; rfl
  have em1 : md 1 = q1 := by rw [emd]; rfl
  have em2 : md 2 = q8 := by rw [emd]; rfl
  have em3 : md 3 = q17 := by rw [emd]; rfl
  have em4 : md 4 = q33 := by rw [emd]; rfl
  have em5 : md 5 = q46 := by rw [emd]; rfl
  have em6 : md 6 = q61 := by rw [emd]; rfl
  have em7 : md 7 = q78 := by rw [emd]; rfl
  have em8 : md 8 = q97 := by rw [emd]; rfl
  have em9 : md 9 = q118 := by rw [emd]; rfl
  have em10 : md 10 = q141 := by rw [emd]; rfl
  have em11 : md 11 = q166 := by rw [emd]; rfl
  have kk1 : ∀ i, i < 1 → md i ≠ md 1 := fun i hi9 => by
    match i, hi9 with
    | 0, _ => rw [em0, em1]; exact (fun z => nh (by rw [z]; exact nnq1))
    | i + 1, h9 => exact absurd h9 (by omega)
  have kk2 : ∀ i, i < 2 → md i ≠ md 2 := fun i hi9 => by
    match i, hi9 with
    | 0, _ => rw [em0, em2]; exact (fun z => nh (by rw [z]; exact nnq8))
    | 1, _ => rw [em1, em2]; exact (Ne.symm ddq8_1)
    | i + 2, h9 => exact absurd h9 (by omega)
  have kk3 : ∀ i, i < 3 → md i ≠ md 3 := fun i hi9 => by
    match i, hi9 with
    | 0, _ => rw [em0, em3]; exact (fun z => nh (by rw [z]; exact nnq17))
    | 1, _ => rw [em1, em3]; exact (Ne.symm ddq17_3)
    | 2, _ => rw [em2, em3]; exact (Ne.symm ddq17_1)
    | i + 3, h9 => exact absurd h9 (by omega)
  have kk4 : ∀ i, i < 4 → md i ≠ md 4 := fun i hi9 => by
    match i, hi9 with
    | 0, _ => rw [em0, em4]; exact (fun z => nh (by rw [z]; exact nnq33))
    | 1, _ => rw [em1, em4]; exact (Ne.symm ddq33_6)
    | 2, _ => rw [em2, em4]; exact (Ne.symm ddq33_4)
    | 3, _ => rw [em3, em4]; exact (Ne.symm ddq33_2)
    | i + 4, h9 => exact absurd h9 (by omega)
  have kk5 : ∀ i, i < 5 → md i ≠ md 5 := fun i hi9 => by
    match i, hi9 with
    | 0, _ => rw [em0, em5]; exact (fun z => nh (by rw [z]; exact nnq46))
    | 1, _ => rw [em1, em5]; exact (Ne.symm ddq46_8)
    | 2, _ => rw [em2, em5]; exact (Ne.symm ddq46_6)
    | 3, _ => rw [em3, em5]; exact (Ne.symm ddq46_4)
    | 4, _ => rw [em4, em5]; exact (Ne.symm ddq46_1)
    | i + 5, h9 => exact absurd h9 (by omega)
  have kk6 : ∀ i, i < 6 → md i ≠ md 6 := fun i hi9 => by
    match i, hi9 with
    | 0, _ => rw [em0, em6]; exact (fun z => nh (by rw [z]; exact nnq61))
    | 1, _ => rw [em1, em6]; exact (Ne.symm ddq61_10)
    | 2, _ => rw [em2, em6]; exact (Ne.symm ddq61_8)
    | 3, _ => rw [em3, em6]; exact (Ne.symm ddq61_6)
    | 4, _ => rw [em4, em6]; exact (Ne.symm ddq61_3)
    | 5, _ => rw [em5, em6]; exact (Ne.symm ddq61_1)
    | i + 6, h9 => exact absurd h9 (by omega)
  have kk7 : ∀ i, i < 7 → md i ≠ md 7 := fun i hi9 => by
    match i, hi9 with
    | 0, _ => rw [em0, em7]; exact (fun z => nh (by rw [z]; exact nnq78))
    | 1, _ => rw [em1, em7]; exact (Ne.symm ddq78_12)
    | 2, _ => rw [em2, em7]; exact (Ne.symm ddq78_10)
    | 3, _ => rw [em3, em7]; exact (Ne.symm ddq78_8)
    | 4, _ => rw [em4, em7]; exact (Ne.symm ddq78_5)
    | 5, _ => rw [em5, em7]; exact (Ne.symm ddq78_3)
    | 6, _ => rw [em6, em7]; exact (Ne.symm ddq78_1)
    | i + 7, h9 => exact absurd h9 (by omega)
  have kk8 : ∀ i, i < 8 → md i ≠ md 8 := fun i hi9 => by
    match i, hi9 with
    | 0, _ => rw [em0, em8]; exact (fun z => nh (by rw [z]; exact nnq97))
    | 1, _ => rw [em1, em8]; exact (Ne.symm ddq97_14)
    | 2, _ => rw [em2, em8]; exact (Ne.symm ddq97_12)
    | 3, _ => rw [em3, em8]; exact (Ne.symm ddq97_10)
    | 4, _ => rw [em4, em8]; exact (Ne.symm ddq97_7)
    | 5, _ => rw [em5, em8]; exact (Ne.symm ddq97_5)
    | 6, _ => rw [em6, em8]; exact (Ne.symm ddq97_3)
    | 7, _ => rw [em7, em8]; exact (Ne.symm ddq97_1)
    | i + 8, h9 => exact absurd h9 (by omega)
  have kk9 : ∀ i, i < 9 → md i ≠ md 9 := fun i hi9 => by
    match i, hi9 with
    | 0, _ => rw [em0, em9]; exact (fun z => nh (by rw [z]; exact nnq118))
    | 1, _ => rw [em1, em9]; exact (Ne.symm ddq118_16)
    | 2, _ => rw [em2, em9]; exact (Ne.symm ddq118_14)
    | 3, _ => rw [em3, em9]; exact (Ne.symm ddq118_12)
    | 4, _ => rw [em4, em9]; exact (Ne.symm ddq118_9)
    | 5, _ => rw [em5, em9]; exact (Ne.symm ddq118_7)
    | 6, _ => rw [em6, em9]; exact (Ne.symm ddq118_5)
    | 7, _ => rw [em7, em9]; exact (Ne.symm ddq118_3)
    | 8, _ => rw [em8, em9]; exact (Ne.symm ddq118_1)
    | i + 9, h9 => exact absurd h9 (by omega)
  have kk10 : ∀ i, i < 10 → md i ≠ md 10 := fun i hi9 => by
    match i, hi9 with
    | 0, _ => rw [em0, em10]; exact (fun z => nh (by rw [z]; exact nnq141))
    | 1, _ => rw [em1, em10]; exact (Ne.symm ddq141_18)
    | 2, _ => rw [em2, em10]; exact (Ne.symm ddq141_16)
    | 3, _ => rw [em3, em10]; exact (Ne.symm ddq141_14)
    | 4, _ => rw [em4, em10]; exact (Ne.symm ddq141_11)
    | 5, _ => rw [em5, em10]; exact (Ne.symm ddq141_9)
    | 6, _ => rw [em6, em10]; exact (Ne.symm ddq141_7)
    | 7, _ => rw [em7, em10]; exact (Ne.symm ddq141_5)
    | 8, _ => rw [em8, em10]; exact (Ne.symm ddq141_3)
    | 9, _ => rw [em9, em10]; exact (Ne.symm ddq141_1)
    | i + 10, h9 => exact absurd h9 (by omega)
  have kk11 : ∀ i, i < 11 → md i ≠ md 11 := fun i hi9 => by
    match i, hi9 with
    | 0, _ => rw [em0, em11]; exact (fun z => nh (by rw [z]; exact nnq166))
    | 1, _ => rw [em1, em11]; exact (Ne.symm ddq166_20)
    | 2, _ => rw [em2, em11]; exact (Ne.symm ddq166_18)
    | 3, _ => rw [em3, em11]; exact (Ne.symm ddq166_16)
    | 4, _ => rw [em4, em11]; exact (Ne.symm ddq166_13)
    | 5, _ => rw [em5, em11]; exact (Ne.symm ddq166_11)
    | 6, _ => rw [em6, em11]; exact (Ne.symm ddq166_9)
    | 7, _ => rw [em7, em11]; exact (Ne.symm ddq166_7)
    | 8, _ => rw [em8, em11]; exact (Ne.symm ddq166_5)
    | 9, _ => rw [em9, em11]; exact (Ne.symm ddq166_3)
    | 10, _ => rw [em10, em11]; exact (Ne.symm ddq166_1)
    | i + 11, h9 => exact absurd h9 (by omega)
  have kall : ∀ i j, i < j → j < 12 → md i ≠ md j := fun i j hij hj9 => by
    match j, hj9, hij with
    | 0, _, h9 => exact absurd h9 (by omega)
    | 1, _, h9 => exact kk1 i h9
    | 2, _, h9 => exact kk2 i h9
    | 3, _, h9 => exact kk3 i h9
    | 4, _, h9 => exact kk4 i h9
    | 5, _, h9 => exact kk5 i h9
    | 6, _, h9 => exact kk6 i h9
    | 7, _, h9 => exact kk7 i h9
    | 8, _, h9 => exact kk8 i h9
    | 9, _, h9 => exact kk9 i h9
    | 10, _, h9 => exact kk10 i h9
    | 11, _, h9 => exact kk11 i h9
    | j + 12, h9, _ => exact absurd h9 (by omega)
  refine ⟨md, em0, fun i j hi9 hj9 q => ?_, ⟨?_, ?_, ?_, ?_, ?_, ?_, ?_, ?_, ?_, ?_, ?_, ?_⟩, fun i hi9 hj9 => ?_, fun a ha hne => ?_⟩
  · rcases Nat.lt_trichotomy i j with z | z | z
    · exact absurd q (kall i j z hj9)
    · exact z
    · exact absurd q.symm (kall j i z hi9)
  · rw [em0]; unfold mC; rw [em1, em2, em3, em4, em5, em6, em7, em8, em9, em10, em11]; exact f192
  · rw [em1]; exact f181
  · rw [em2]; exact f182
  · rw [em3]; exact f183
  · rw [em4]; exact f184
  · rw [em5]; exact f185
  · rw [em6]; exact f186
  · rw [em7]; exact f187
  · rw [em8]; exact f188
  · rw [em9]; exact f189
  · rw [em10]; exact f190
  · rw [em11]; exact f191
  · match i, hi9, hj9 with
    | 0, h9, _ => exact absurd h9 (by omega)
    | 1, _, _ => rw [em1]; exact nnq1
    | 2, _, _ => rw [em2]; exact nnq8
    | 3, _, _ => rw [em3]; exact nnq17
    | 4, _, _ => rw [em4]; exact nnq33
    | 5, _, _ => rw [em5]; exact nnq46
    | 6, _, _ => rw [em6]; exact nnq61
    | 7, _, _ => rw [em7]; exact nnq78
    | 8, _, _ => rw [em8]; exact nnq97
    | 9, _, _ => rw [em9]; exact nnq118
    | 10, _, _ => rw [em10]; exact nnq141
    | 11, _, _ => rw [em11]; exact nnq166
    | i + 12, _, h9 => exact absurd h9 (by omega)
  · rw [ew180, g_up_n _ hne, ew167, g_up_n _ (fun z => ha (by rw [z]; exact nnq166)), ew154, g_up_n _ hne, ew142, g_up_n _ (fun z => ha (by rw [z]; exact nnq141)), ew130, g_up_n _ hne, ew119, g_up_n _ (fun z => ha (by rw [z]; exact nnq118)), ew108, g_up_n _ hne, ew98, g_up_n _ (fun z => ha (by rw [z]; exact nnq97)), ew88, g_up_n _ hne, ew79, g_up_n _ (fun z => ha (by rw [z]; exact nnq78)), ew70, g_up_n _ hne, ew62, g_up_n _ (fun z => ha (by rw [z]; exact nnq61)), ew54, g_up_n _ hne, ew47, g_up_n _ (fun z => ha (by rw [z]; exact nnq46)), ew40, g_up_n _ hne, ew34, g_up_n _ (fun z => ha (by rw [z]; exact nnq33)), ew28, g_up_n _ hne, ew23, g_up_n _ hne, ew18, g_up_n _ (fun z => ha (by rw [z]; exact nnq17)), ew13, g_up_n _ hne, ew9, g_up_n _ (fun z => ha (by rw [z]; exact nnq8)), ew5, g_up_n _ hne, ew2, g_up_n _ (fun z => ha (by rw [z]; exact nnq1))]
