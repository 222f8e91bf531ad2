set_option maxHeartbeats 4000000 in
set_option maxRecDepth 100000 in
theorem k_X5_init (l : Launch) (A : Nat → Prop) (G : g_C) (w : g_W) (t art : Nat) (ht : w t = some (.inr (6, [.null, .null, .int 0]))) : mV l yX5_init wsX5_init ({ frames := 2, cells := 1, slots := 2, locals := 60 } : Room) [.ref t, .ref art] A G w (fun w' => ∃ q, w q = none ∧ w' = g_up (g_up w q (.inr (1, [.long 0, .long 1]))) t (.inr (6, [.ref art, .ref q, .int 0]))) 1 2 := by
  refine g_ofV (cc := cX5_init) (maxL := 2) (ret := none) (own := RX5) (by decide) rfl rfl (Nat.le_of_ble_eq_true rfl) ?_
  intro p e R s m args below meth c Q ls hR F hP hS hlocks hr hnm0 hQ hl
  obtain ⟨⟨hx, hb, hml, hown, hts⟩, hK, hZ, hA⟩ := id F
  generalize hH0 : s.heap = H at hP ⊢
  have hS : va_S A s.heap H [] := by rw [← hH0]; exact va_S.rf
  generalize ([] : List Loc) = locs at hS ⊢
  have hl : lv_has ls 2 [(0, .ref t), (1, .ref art)] := hl
  have iX0 : ∀ w ∈ u_ws RX0 TX0 2, w ∈ wsX5_init := fun w h => List.mem_cons_of_mem _ (List.mem_append_right _ (h))
  have iX5 : ∀ w ∈ u_ws RX5 TX5 3, w ∈ wsX5_init := fun w h => List.mem_cons_of_mem _ (List.mem_append_left _ (List.mem_append_right _ (h)))
  refine lv_aload_n hx hb dX5_init_0 rfl (lv_at hl 0 rfl) ?_
  refine W.objInit hx hb hown (hts _ (List.mem_cons_of_mem _ (List.mem_append_left _ (List.mem_append_left _ (List.mem_of_getElem? (i := 0) rfl))))) (hts _ (List.mem_cons_of_mem _ (List.mem_append_left _ (List.mem_append_left _ (List.mem_of_getElem? (i := 1) rfl))))) (hts _ (List.mem_cons_of_mem _ (List.mem_append_left _ (List.mem_append_left _ (List.mem_of_getElem? (i := 2) rfl))))) rfl (by rw [hml]; exact hl.1) rfl dX5_init_1 (by rw [hR]; exact Nat.le_of_ble_eq_true rfl) (by rw [hR]; exact Nat.le_of_ble_eq_true rfl) ?_
  show W p l e R s m args below meth c H locs _ _ Q (F0 m 4 ls [])
  refine lv_aload_n hx hb dX5_init_4 rfl (lv_at hl 0 rfl) ?_
  refine lv_aload_n hx hb dX5_init_5 rfl (lv_at hl 1 rfl) ?_
  refine g_putF F hP hS (C := RX5) (T := TX5) (N := 3) (v := .ref art) (ty := (.array (.object "GearTrains$Term"))) iX5 tyX5 tyX5_ok nmX5 ht rfl 0 (by decide) (List.mem_cons_of_mem _ (List.mem_append_left _ (List.mem_append_left _ (List.mem_of_getElem? (i := 3) rfl)))) (fun _ h9 => h9) rfl hnm0 rfl (by decide +kernel) rfl rfl (by show 0 < 3; decide) dX5_init_6 (fun H locs hP hS => ?_)
  obtain ⟨w1, ew1⟩ : ∃ z, z = g_up w t (.inr (6, [.ref art, .null, .int 0])) := ⟨_, rfl⟩
  have hP : g_P A G w1 H := by rw [ew1]; exact hP
  have f2 : w1 t = some (.inr (6, [.ref art, .null, .int 0])) := by rw [ew1]; exact g_up_s _ _ _
  refine lv_aload_n hx hb dX5_init_9 rfl (lv_at hl 0 rfl) ?_
  refine g_new F hP hS (ci := 1) (C := RX0) (T := TX0) (N := 2) (fs := [.long 0, .long 0]) iX0 tyX0 tyX0_ok (List.mem_cons_of_mem _ (List.mem_append_left _ (List.mem_append_left _ (List.mem_of_getElem? (i := 4) rfl)))) (List.mem_cons_of_mem _ (List.mem_append_left _ (List.mem_append_left _ (List.mem_of_getElem? (i := 5) rfl)))) (List.mem_cons_of_mem _ (List.mem_append_left _ (List.mem_append_left _ (List.mem_of_getElem? (i := 6) rfl)))) rfl (by intro j hj; match j, hj with | 0, _ => rfl | 1, _ => rfl | j + 2, hj => exact absurd hj (by omega)) (by rw [hR]; exact Nat.le_of_ble_eq_true rfl) (by rw [hR]; exact Nat.le_of_ble_eq_true rfl) dX5_init_10 (fun q3 H nq3 hP hS => ?_)
  obtain ⟨w4, ew4⟩ : ∃ z, z = g_up w1 q3 (.inr (1, [.long 0, .long 0])) := ⟨_, rfl⟩
  have hP : g_P A G w4 H := by rw [ew4]; exact hP
  have f5 : w4 t = some (.inr (6, [.ref art, .null, .int 0])) := by rw [ew4]; exact g_up_f f2 (g_neq f2 nq3)
  have f6 : w4 q3 = some (.inr (1, [.long 0, .long 0])) := by rw [ew4]; exact g_up_s _ _ _
  refine lv_dup hx hb dX5_init_13 rfl ?_
  refine g_Iv (As := []) (rest := [.ref q3, .ref t]) F hP hS (k_X0_init l A G w4 q3 0 0 f6) (cwI 0 hts gX5_init_X0_init rfl rfl rfl (hts _ (List.mem_cons_of_mem _ (List.mem_append_left _ (List.mem_append_left _ (List.mem_of_getElem? (i := 6) rfl))))) (hts _ (List.mem_cons_of_mem _ (List.mem_append_left _ (List.mem_append_left _ (List.mem_of_getElem? (i := 9) rfl))))) (hts _ (List.mem_cons_of_mem _ (List.mem_append_left _ (List.mem_append_left _ (List.mem_of_getElem? (i := 10) rfl))))) rfl cd_X0_init ⟨by rw [hR]; exact Nat.le_of_ble_eq_true rfl, by rw [hR]; exact Nat.le_of_ble_eq_true rfl⟩) rfl hl.1 (Nat.le_of_ble_eq_true rfl) dX5_init_14 ⟨by rw [hR]; exact Nat.le_of_ble_eq_true rfl, by rw [hR]; exact Nat.le_of_ble_eq_true rfl⟩ rfl (fun w8 H locs h9 hP hS => ?_)
  have f10 : w8 t = some (.inr (6, [.ref art, .null, .int 0])) := by rw [h9]; exact g_up_f f5 (g_neq f2 nq3)
  have f11 : w8 q3 = some (.inr (1, [.long 0, .long 1])) := by rw [h9]; exact g_up_s _ _ _
  refine g_putF F hP hS (C := RX5) (T := TX5) (N := 3) (v := .ref q3) (ty := (.object "GearTrains$Fraction")) iX5 tyX5 tyX5_ok nmX5 f10 rfl 1 (by decide) (List.mem_cons_of_mem _ (List.mem_append_left _ (List.mem_append_left _ (List.mem_of_getElem? (i := 7) rfl)))) (fun _ h9 => h9) rfl hnm0 rfl (by decide +kernel) rfl rfl (by show 1 < 3; decide) dX5_init_17 (fun H locs hP hS => ?_)
  obtain ⟨w12, ew12⟩ : ∃ z, z = g_up w8 t (.inr (6, [.ref art, .ref q3, .int 0])) := ⟨_, rfl⟩
  have hP : g_P A G w12 H := by rw [ew12]; exact hP
  have f13 : w12 q3 = some (.inr (1, [.long 0, .long 1])) := by rw [ew12]; exact g_up_f f11 (Ne.symm (g_neq f2 nq3))
  have f14 : w12 t = some (.inr (6, [.ref art, .ref q3, .int 0])) := by rw [ew12]; exact g_up_s _ _ _
  refine lv_aload_n hx hb dX5_init_20 rfl (lv_at hl 0 rfl) ?_
  refine lv_iconst (v := 0) hx hb dX5_init_21 (by decide) ?_
  refine g_put F hP hS (C := RX5) (T := TX5) (N := 3) (v := .int 0) (ty := .boolean) iX5 tyX5 tyX5_ok nmX5 f14 rfl 2 (by decide) (List.mem_cons_of_mem _ (List.mem_append_left _ (List.mem_append_left _ (List.mem_of_getElem? (i := 8) rfl)))) (fun _ h9 => h9) rfl (by decide +kernel) (by first | rfl | exact g_nb _) (by first | rfl | exact g_fb _) (by show 2 < 3; decide) dX5_init_22 (fun H locs hP hS => ?_)
  obtain ⟨w15, ew15⟩ : ∃ z, z = g_up w12 t (.inr (6, [.ref art, .ref q3, .int 0])) := ⟨_, rfl⟩
  have hP : g_P A G w15 H := by rw [ew15]; exact hP
  have f16 : w15 q3 = some (.inr (1, [.long 0, .long 1])) := by rw [ew15]; exact g_up_f f13 (Ne.symm (g_neq f2 nq3))
  have f17 : w15 t = some (.inr (6, [.ref art, .ref q3, .int 0])) := by rw [ew15]; exact g_up_s _ _ _
  rw [hQ]
  refine g_vret F hP hS hlocks hr dX5_init_25 (by first | exact Nat.le_of_ble_eq_true rfl | omega) (by first | exact Nat.le_of_ble_eq_true rfl | omega) ?_
  simp only [ew15, ew12, h9, ew4, ew1, g_up_up] at nq3
  obtain ⟨z1, z2⟩ := g_up_none nq3
  refine ⟨q3, z2, ?_⟩
  simp only [ew15, ew12, h9, ew4, ew1, g_up_up]
  funext z
  simp only [g_up]
  by_cases z3 : z = t <;> by_cases z4 : z = q3 <;> simp_all
