set_option maxHeartbeats 4000000 in
set_option maxRecDepth 100000 in
theorem k_X9_init (l : Launch) (A : Nat → Prop) (G : g_C) (w : g_W) (h sh : Nat) (v : Int32) (hh : w h = some (.inr (9, [.null, .int 0]))) : mV l yX9_init wsX9_init ({ frames := 1, cells := 0, slots := 0, locals := 40 } : Room) [.ref h, .ref sh, .int v] A G w (fun w' => w' = g_up w h (.inr (9, [.ref sh, .int v]))) 0 0 := by
  refine g_ofV (cc := cX9_init) (maxL := 3) (ret := none) (own := RX9) (by decide) rfl rfl (Nat.le_of_ble_eq_true rfl) ?_
  intro p e R s m args below meth c Q ls hR F hP hS hlocks hr hnm0 hQ hl
  obtain ⟨⟨hx, hb, hml, hown, hts⟩, hK, hZ, hA⟩ := id F
  generalize hH0 : s.heap = H at hP ⊢
  have hS : va_S A s.heap H [] := by rw [← hH0]; exact va_S.rf
  generalize ([] : List Loc) = locs at hS ⊢
  have hl : lv_has ls 3 [(0, .ref h), (1, .ref sh), (2, .int v)] := hl
  have iX9 : ∀ w ∈ u_ws RX9 TX9 2, w ∈ wsX9_init := fun w h => List.mem_cons_of_mem _ (List.mem_append_right _ (h))
  refine lv_aload_n hx hb dX9_init_0 rfl (lv_at hl 0 rfl) ?_
  refine W.objInit hx hb hown (hts _ (List.mem_cons_of_mem _ (List.mem_append_left _ (List.mem_of_getElem? (i := 0) rfl)))) (hts _ (List.mem_cons_of_mem _ (List.mem_append_left _ (List.mem_of_getElem? (i := 1) rfl)))) (hts _ (List.mem_cons_of_mem _ (List.mem_append_left _ (List.mem_of_getElem? (i := 2) rfl)))) rfl (by rw [hml]; exact hl.1) rfl dX9_init_1 (by rw [hR]; exact Nat.le_of_ble_eq_true rfl) (by rw [hR]; exact Nat.le_of_ble_eq_true rfl) ?_
  show W p l e R s m args below meth c H locs _ _ Q (F0 m 4 ls [])
  refine lv_aload_n hx hb dX9_init_4 rfl (lv_at hl 0 rfl) ?_
  refine lv_aload_n hx hb dX9_init_5 rfl (lv_at hl 1 rfl) ?_
  refine g_putF F hP hS (C := RX9) (T := TX9) (N := 2) (v := .ref sh) (ty := (.object "GearTrains$Shaft")) iX9 tyX9 tyX9_ok nmX9 hh rfl 0 (by decide) (List.mem_cons_of_mem _ (List.mem_append_left _ (List.mem_of_getElem? (i := 3) rfl))) (fun _ h9 => h9) rfl hnm0 rfl (by decide +kernel) rfl rfl (by show 0 < 2; decide) dX9_init_6 (fun H locs hP hS => ?_)
  obtain ⟨w1, ew1⟩ : ∃ z, z = g_up w h (.inr (9, [.ref sh, .int 0])) := ⟨_, rfl⟩
  have hP : g_P A G w1 H := by rw [ew1]; exact hP
  have f2 : w1 h = some (.inr (9, [.ref sh, .int 0])) := by rw [ew1]; exact g_up_s _ _ _
  refine lv_aload_n hx hb dX9_init_9 rfl (lv_at hl 0 rfl) ?_
  refine lv_iload_n hx hb dX9_init_10 rfl (lv_at hl 2 rfl) ?_
  refine g_putF F hP hS (C := RX9) (T := TX9) (N := 2) (v := .int v) (ty := .int) iX9 tyX9 tyX9_ok nmX9 f2 rfl 1 (by decide) (List.mem_cons_of_mem _ (List.mem_append_left _ (List.mem_of_getElem? (i := 4) rfl))) (fun _ h9 => h9) rfl hnm0 rfl (by decide +kernel) rfl rfl (by show 1 < 2; decide) dX9_init_11 (fun H locs hP hS => ?_)
  obtain ⟨w3, ew3⟩ : ∃ z, z = g_up w1 h (.inr (9, [.ref sh, .int v])) := ⟨_, rfl⟩
  have hP : g_P A G w3 H := by rw [ew3]; exact hP
  have f4 : w3 h = some (.inr (9, [.ref sh, .int v])) := by rw [ew3]; exact g_up_s _ _ _
  rw [hQ]
  refine g_vret F hP hS hlocks hr dX9_init_14 (by first | exact Nat.le_of_ble_eq_true rfl | omega) (by first | exact Nat.le_of_ble_eq_true rfl | omega) ?_
  simp only [ew3, ew1, g_up_up]
