set_option maxHeartbeats 4000000 in
set_option maxRecDepth 100000 in
theorem k_X5_init (l : Launch) (A : Nat → Prop) (G : g_C) (w : g_W) (t ars arw : Nat) (ht : w t = some (.inr (6, [.null, .null, .null, .int 0]))) : mV l yX5_init wsX5_init ({ frames := 2, cells := 1, slots := 2, locals := 60 } : Room) [.ref t, .ref ars, .ref arw] A G w (fun w' => ∃ q, w q = none ∧ w' = g_up (g_up w q (.inr (1, [.long 0, .long 1]))) t (.inr (6, [.ref ars, .ref arw, .ref q, .int 0]))) 1 2 := by
  refine g_ofV (cc := cX5_init) (maxL := 3) (ret := none) (own := RX5) (by decide) rfl rfl (Nat.le_of_ble_eq_true rfl) ?_
  intro p e R s m args below meth c Q ls hR F hP hS hlocks hr hnm0 hQ hl
  obtain ⟨⟨hx, hb, hml, hown, hts⟩, hK, hZ, hA⟩ := id F
  generalize hH0 : s.heap = H at hP ⊢
  have hS : va_S A s.heap H [] := by rw [← hH0]; exact va_S.rf
  generalize ([] : List Loc) = locs at hS ⊢
  have hl : lv_has ls 3 [(0, .ref t), (1, .ref ars), (2, .ref arw)] := hl
  have iX0 : ∀ w ∈ u_ws RX0 TX0 2, w ∈ wsX5_init := fun w h => List.mem_cons_of_mem _ (List.mem_append_right _ (h))
  have iX5 : ∀ w ∈ u_ws RX5 TX5 4, w ∈ wsX5_init := fun w h => List.mem_cons_of_mem _ (List.mem_append_left _ (List.mem_append_right _ (h)))
  refine lv_aload_n hx hb dX5_init_0 rfl (lv_at hl 0 rfl) ?_
  refine W.objInit hx hb hown (hts _ (List.mem_cons_of_mem _ (List.mem_append_left _ (List.mem_append_left _ (List.mem_of_getElem? (i := 0) rfl))))) (hts _ (List.mem_cons_of_mem _ (List.mem_append_left _ (List.mem_append_left _ (List.mem_of_getElem? (i := 1) rfl))))) (hts _ (List.mem_cons_of_mem _ (List.mem_append_left _ (List.mem_append_left _ (List.mem_of_getElem? (i := 2) rfl))))) rfl (by rw [hml]; exact hl.1) rfl dX5_init_1 (by rw [hR]; exact Nat.le_of_ble_eq_true rfl) (by rw [hR]; exact Nat.le_of_ble_eq_true rfl) ?_
  show W p l e R s m args below meth c H locs _ _ Q (F0 m 4 ls [])
  refine lv_aload_n hx hb dX5_init_4 rfl (lv_at hl 0 rfl) ?_
  refine lv_aload_n hx hb dX5_init_5 rfl (lv_at hl 1 rfl) ?_
  refine g_putF F hP hS (C := RX5) (T := TX5) (N := 4) (v := .ref ars) (ty := (.array (.object "GearTrains$Shaft"))) iX5 tyX5 tyX5_ok nmX5 ht rfl 0 (by decide) (List.mem_cons_of_mem _ (List.mem_append_left _ (List.mem_append_left _ (List.mem_of_getElem? (i := 3) rfl)))) (fun _ h9 => h9) rfl hnm0 rfl (by decide +kernel) rfl rfl (by show 0 < 4; decide) dX5_init_6 (fun H locs hP hS => ?_)
  obtain ⟨w1, ew1⟩ : ∃ z, z = g_up w t (.inr (6, [.ref ars, .null, .null, .int 0])) := ⟨_, rfl⟩
  have hP : g_P A G w1 H := by rw [ew1]; exact hP
  have f2 : w1 t = some (.inr (6, [.ref ars, .null, .null, .int 0])) := by rw [ew1]; exact g_up_s _ _ _
  refine lv_aload_n hx hb dX5_init_9 rfl (lv_at hl 0 rfl) ?_
  refine lv_aload_n hx hb dX5_init_10 rfl (lv_at hl 2 rfl) ?_
  refine g_putF F hP hS (C := RX5) (T := TX5) (N := 4) (v := .ref arw) (ty := (.array .int)) iX5 tyX5 tyX5_ok nmX5 f2 rfl 1 (by decide) (List.mem_cons_of_mem _ (List.mem_append_left _ (List.mem_append_left _ (List.mem_of_getElem? (i := 4) rfl)))) (fun _ h9 => h9) rfl hnm0 rfl (by decide +kernel) rfl rfl (by show 1 < 4; decide) dX5_init_11 (fun H locs hP hS => ?_)
  obtain ⟨w3, ew3⟩ : ∃ z, z = g_up w1 t (.inr (6, [.ref ars, .ref arw, .null, .int 0])) := ⟨_, rfl⟩
  have hP : g_P A G w3 H := by rw [ew3]; exact hP
  have f4 : w3 t = some (.inr (6, [.ref ars, .ref arw, .null, .int 0])) := by rw [ew3]; exact g_up_s _ _ _
  refine lv_aload_n hx hb dX5_init_14 rfl (lv_at hl 0 rfl) ?_
  refine g_new F hP hS (ci := 1) (C := RX0) (T := TX0) (N := 2) (fs := [.long 0, .long 0]) iX0 tyX0 tyX0_ok (List.mem_cons_of_mem _ (List.mem_append_left _ (List.mem_append_left _ (List.mem_of_getElem? (i := 5) rfl)))) (List.mem_cons_of_mem _ (List.mem_append_left _ (List.mem_append_left _ (List.mem_of_getElem? (i := 6) rfl)))) (List.mem_cons_of_mem _ (List.mem_append_left _ (List.mem_append_left _ (List.mem_of_getElem? (i := 7) rfl)))) rfl (by intro j hj; match j, hj with | 0, _ => rfl | 1, _ => rfl | j + 2, hj => exact absurd hj (by omega)) (by rw [hR]; exact Nat.le_of_ble_eq_true rfl) (by rw [hR]; exact Nat.le_of_ble_eq_true rfl) dX5_init_15 (fun q5 H nq5 hP hS => ?_)
  obtain ⟨w6, ew6⟩ : ∃ z, z = g_up w3 q5 (.inr (1, [.long 0, .long 0])) := ⟨_, rfl⟩
  have hP : g_P A G w6 H := by rw [ew6]; exact hP
  have f7 : w6 t = some (.inr (6, [.ref ars, .ref arw, .null, .int 0])) := by rw [ew6]; exact g_up_f f4 (g_neq f4 nq5)
  have f8 : w6 q5 = some (.inr (1, [.long 0, .long 0])) := by rw [ew6]; exact g_up_s _ _ _
  refine lv_dup hx hb dX5_init_18 rfl ?_
  refine g_Iv (As := []) (rest := [.ref q5, .ref t]) F hP hS (k_X0_init l A G w6 q5 0 0 f8) (cwI 0 hts gX5_init_X0_init rfl rfl rfl (hts _ (List.mem_cons_of_mem _ (List.mem_append_left _ (List.mem_append_left _ (List.mem_of_getElem? (i := 7) rfl))))) (hts _ (List.mem_cons_of_mem _ (List.mem_append_left _ (List.mem_append_left _ (List.mem_of_getElem? (i := 10) rfl))))) (hts _ (List.mem_cons_of_mem _ (List.mem_append_left _ (List.mem_append_left _ (List.mem_of_getElem? (i := 11) rfl))))) rfl cd_X0_init ⟨by rw [hR]; exact Nat.le_of_ble_eq_true rfl, by rw [hR]; exact Nat.le_of_ble_eq_true rfl⟩) rfl hl.1 (Nat.le_of_ble_eq_true rfl) dX5_init_19 ⟨by rw [hR]; exact Nat.le_of_ble_eq_true rfl, by rw [hR]; exact Nat.le_of_ble_eq_true rfl⟩ rfl (fun w10 H locs h11 hP hS => ?_)
  have f12 : w10 t = some (.inr (6, [.ref ars, .ref arw, .null, .int 0])) := by rw [h11]; exact g_up_f f7 (g_neq f4 nq5)
  have f13 : w10 q5 = some (.inr (1, [.long 0, .long 1])) := by rw [h11]; exact g_up_s _ _ _
  refine g_putF F hP hS (C := RX5) (T := TX5) (N := 4) (v := .ref q5) (ty := (.object "GearTrains$Fraction")) iX5 tyX5 tyX5_ok nmX5 f12 rfl 2 (by decide) (List.mem_cons_of_mem _ (List.mem_append_left _ (List.mem_append_left _ (List.mem_of_getElem? (i := 8) rfl)))) (fun _ h9 => h9) rfl hnm0 rfl (by decide +kernel) rfl rfl (by show 2 < 4; decide) dX5_init_22 (fun H locs hP hS => ?_)
  obtain ⟨w14, ew14⟩ : ∃ z, z = g_up w10 t (.inr (6, [.ref ars, .ref arw, .ref q5, .int 0])) := ⟨_, rfl⟩
  have hP : g_P A G w14 H := by rw [ew14]; exact hP
  have f15 : w14 q5 = some (.inr (1, [.long 0, .long 1])) := by rw [ew14]; exact g_up_f f13 (Ne.symm (g_neq f4 nq5))
  have f16 : w14 t = some (.inr (6, [.ref ars, .ref arw, .ref q5, .int 0])) := by rw [ew14]; exact g_up_s _ _ _
  refine lv_aload_n hx hb dX5_init_25 rfl (lv_at hl 0 rfl) ?_
  refine lv_iconst (v := 0) hx hb dX5_init_26 (by decide) ?_
  refine g_put F hP hS (C := RX5) (T := TX5) (N := 4) (v := .int 0) (ty := .boolean) iX5 tyX5 tyX5_ok nmX5 f16 rfl 3 (by decide) (List.mem_cons_of_mem _ (List.mem_append_left _ (List.mem_append_left _ (List.mem_of_getElem? (i := 9) rfl)))) (fun _ h9 => h9) rfl (by decide +kernel) (by first | rfl | exact g_nb _) (by first | rfl | exact g_fb _) (by show 3 < 4; decide) dX5_init_27 (fun H locs hP hS => ?_)
  obtain ⟨w17, ew17⟩ : ∃ z, z = g_up w14 t (.inr (6, [.ref ars, .ref arw, .ref q5, .int 0])) := ⟨_, rfl⟩
  have hP : g_P A G w17 H := by rw [ew17]; exact hP
  have f18 : w17 q5 = some (.inr (1, [.long 0, .long 1])) := by rw [ew17]; exact g_up_f f15 (Ne.symm (g_neq f4 nq5))
  have f19 : w17 t = some (.inr (6, [.ref ars, .ref arw, .ref q5, .int 0])) := by rw [ew17]; exact g_up_s _ _ _
  rw [hQ]
  refine g_vret F hP hS hlocks hr dX5_init_30 (by first | exact Nat.le_of_ble_eq_true rfl | omega) (by first | exact Nat.le_of_ble_eq_true rfl | omega) ?_
  simp only [ew17, ew14, h11, ew6, ew3, ew1, g_up_up] at nq5
  obtain ⟨z1, z2⟩ := g_up_none nq5
  refine ⟨q5, z2, ?_⟩
  simp only [ew17, ew14, h11, ew6, ew3, ew1, g_up_up]
  funext z
  simp only [g_up]
  by_cases z3 : z = t <;> by_cases z4 : z = q5 <;> simp_all
