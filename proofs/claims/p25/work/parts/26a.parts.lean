set_option maxHeartbeats 4000000 in
set_option maxRecDepth 100000 in
theorem k_X1_init (l : Launch) (A : Nat → Prop) (G : g_C) (w : g_W) (h sh : Nat) (te mo la : Int32) (ri : Bool) (hh : w h = some (.inr (2, [.null, .int 0, .int 0, .int 0, .int 0]))) : mV l yX1_init wsX1_init ({ frames := 1, cells := 0, slots := 0, locals := 40 } : Room) [.ref h, .ref sh, .int te, .int mo, .int la, .int (g_b ri)] A G w (fun w' => w' = g_up w h (.inr (2, [.ref sh, .int te, .int mo, .int la, .int (g_b ri)]))) 0 0 := by
  refine g_ofV (cc := cX1_init) (maxL := 6) (ret := none) (own := RX1) (by decide) rfl rfl (Nat.le_of_ble_eq_true rfl) ?_
  intro p e R s m args below meth c Q ls hR F hP hS hlocks hr hnm0 hQ hl
  obtain ⟨⟨hx, hb, hml, hown, hts⟩, hK, hZ, hA⟩ := id F
  generalize hH0 : s.heap = H at hP ⊢
  have hS : va_S A s.heap H [] := by rw [← hH0]; exact va_S.rf
  generalize ([] : List Loc) = locs at hS ⊢
  have hl : lv_has ls 6 [(0, .ref h), (1, .ref sh), (2, .int te), (3, .int mo), (4, .int la), (5, .int (g_b ri))] := hl
  have iX1 : ∀ w ∈ u_ws RX1 TX1 5, w ∈ wsX1_init := fun w h => List.mem_cons_of_mem _ (List.mem_append_right _ (h))
  refine lv_aload_n hx hb dX1_init_0 rfl (lv_at hl 0 rfl) ?_
  refine W.objInit hx hb hown (hts _ (List.mem_cons_of_mem _ (List.mem_append_left _ (List.mem_of_getElem? (i := 0) rfl)))) (hts _ (List.mem_cons_of_mem _ (List.mem_append_left _ (List.mem_of_getElem? (i := 1) rfl)))) (hts _ (List.mem_cons_of_mem _ (List.mem_append_left _ (List.mem_of_getElem? (i := 2) rfl)))) rfl (by rw [hml]; exact hl.1) rfl dX1_init_1 (by rw [hR]; exact Nat.le_of_ble_eq_true rfl) (by rw [hR]; exact Nat.le_of_ble_eq_true rfl) ?_
  show W p l e R s m args below meth c H locs _ _ Q (F0 m 4 ls [])
  refine lv_aload_n hx hb dX1_init_4 rfl (lv_at hl 0 rfl) ?_
  refine lv_aload_n hx hb dX1_init_5 rfl (lv_at hl 1 rfl) ?_
  refine g_putF F hP hS (C := RX1) (T := TX1) (N := 5) (v := .ref sh) (ty := (.object "GearTrains$Shaft")) iX1 tyX1 tyX1_ok nmX1 hh rfl 0 (by decide) (List.mem_cons_of_mem _ (List.mem_append_left _ (List.mem_of_getElem? (i := 3) rfl))) (fun _ h9 => h9) rfl hnm0 rfl (by decide +kernel) rfl rfl (by show 0 < 5; decide) dX1_init_6 (fun H locs hP hS => ?_)
  obtain ⟨w1, ew1⟩ : ∃ z, z = g_up w h (.inr (2, [.ref sh, .int 0, .int 0, .int 0, .int 0])) := ⟨_, rfl⟩
  have hP : g_P A G w1 H := by rw [ew1]; exact hP
  have f2 : w1 h = some (.inr (2, [.ref sh, .int 0, .int 0, .int 0, .int 0])) := by rw [ew1]; exact g_up_s _ _ _
  refine lv_aload_n hx hb dX1_init_9 rfl (lv_at hl 0 rfl) ?_
  refine lv_iload_n hx hb dX1_init_10 rfl (lv_at hl 2 rfl) ?_
  refine g_putF F hP hS (C := RX1) (T := TX1) (N := 5) (v := .int te) (ty := .int) iX1 tyX1 tyX1_ok nmX1 f2 rfl 1 (by decide) (List.mem_cons_of_mem _ (List.mem_append_left _ (List.mem_of_getElem? (i := 4) rfl))) (fun _ h9 => h9) rfl hnm0 rfl (by decide +kernel) rfl rfl (by show 1 < 5; decide) dX1_init_11 (fun H locs hP hS => ?_)
  obtain ⟨w3, ew3⟩ : ∃ z, z = g_up w1 h (.inr (2, [.ref sh, .int te, .int 0, .int 0, .int 0])) := ⟨_, rfl⟩
  have hP : g_P A G w3 H := by rw [ew3]; exact hP
  have f4 : w3 h = some (.inr (2, [.ref sh, .int te, .int 0, .int 0, .int 0])) := by rw [ew3]; exact g_up_s _ _ _
  refine lv_aload_n hx hb dX1_init_14 rfl (lv_at hl 0 rfl) ?_
  refine lv_iload_n hx hb dX1_init_15 rfl (lv_at hl 3 rfl) ?_
  refine g_putF F hP hS (C := RX1) (T := TX1) (N := 5) (v := .int mo) (ty := .int) iX1 tyX1 tyX1_ok nmX1 f4 rfl 2 (by decide) (List.mem_cons_of_mem _ (List.mem_append_left _ (List.mem_of_getElem? (i := 5) rfl))) (fun _ h9 => h9) rfl hnm0 rfl (by decide +kernel) rfl rfl (by show 2 < 5; decide) dX1_init_16 (fun H locs hP hS => ?_)
  obtain ⟨w5, ew5⟩ : ∃ z, z = g_up w3 h (.inr (2, [.ref sh, .int te, .int mo, .int 0, .int 0])) := ⟨_, rfl⟩
  have hP : g_P A G w5 H := by rw [ew5]; exact hP
  have f6 : w5 h = some (.inr (2, [.ref sh, .int te, .int mo, .int 0, .int 0])) := by rw [ew5]; exact g_up_s _ _ _
  refine lv_aload_n hx hb dX1_init_19 rfl (lv_at hl 0 rfl) ?_
  refine lv_iload hx hb dX1_init_20 (lv_at hl 4 rfl) ?_
  refine g_putF F hP hS (C := RX1) (T := TX1) (N := 5) (v := .int la) (ty := .int) iX1 tyX1 tyX1_ok nmX1 f6 rfl 3 (by decide) (List.mem_cons_of_mem _ (List.mem_append_left _ (List.mem_of_getElem? (i := 6) rfl))) (fun _ h9 => h9) rfl hnm0 rfl (by decide +kernel) rfl rfl (by show 3 < 5; decide) dX1_init_22 (fun H locs hP hS => ?_)
  obtain ⟨w7, ew7⟩ : ∃ z, z = g_up w5 h (.inr (2, [.ref sh, .int te, .int mo, .int la, .int 0])) := ⟨_, rfl⟩
  have hP : g_P A G w7 H := by rw [ew7]; exact hP
  have f8 : w7 h = some (.inr (2, [.ref sh, .int te, .int mo, .int la, .int 0])) := by rw [ew7]; exact g_up_s _ _ _
  refine lv_aload_n hx hb dX1_init_25 rfl (lv_at hl 0 rfl) ?_
  refine lv_iload hx hb dX1_init_26 (lv_at hl 5 rfl) ?_
  refine g_putF F hP hS (C := RX1) (T := TX1) (N := 5) (v := .int (g_b ri)) (ty := .boolean) iX1 tyX1 tyX1_ok nmX1 f8 rfl 4 (by decide) (List.mem_cons_of_mem _ (List.mem_append_left _ (List.mem_of_getElem? (i := 7) rfl))) (fun _ h9 => h9) rfl hnm0 rfl (by decide +kernel) (by first | rfl | exact g_nb _) (by first | rfl | exact g_fb _) (by show 4 < 5; decide) dX1_init_28 (fun H locs hP hS => ?_)
  obtain ⟨w9, ew9⟩ : ∃ z, z = g_up w7 h (.inr (2, [.ref sh, .int te, .int mo, .int la, .int (g_b ri)])) := ⟨_, rfl⟩
  have hP : g_P A G w9 H := by rw [ew9]; exact hP
  have f10 : w9 h = some (.inr (2, [.ref sh, .int te, .int mo, .int la, .int (g_b ri)])) := by rw [ew9]; exact g_up_s _ _ _
  rw [hQ]
  refine g_vret F hP hS hlocks hr dX1_init_31 (by first | exact Nat.le_of_ble_eq_true rfl | omega) (by first | exact Nat.le_of_ble_eq_true rfl | omega) ?_
  simp only [ew9, ew7, ew5, ew3, ew1, g_up_up]
