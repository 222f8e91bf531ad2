theorem cd_Jxc12de_init_da8c8 : yJxc12de_init_da8c8.cls ≠ "java/lang/invoke/MethodHandle" ∧ yJxc12de_init_da8c8.cls ≠ "java/lang/invoke/VarHandle" ∧ (parseMethodDescriptor yJxc12de_init_da8c8.desc).map (fun d => d.parameters.length) = some 0 := by decide +kernel
set_option maxHeartbeats 4000000 in
set_option maxRecDepth 100000 in
theorem k_initA (l : Launch) (A : Nat → Prop) (G : g_C) (w : g_W) (h : Nat) (hh : w h = some (.inr (0, [.int 0, .null, .int 0]))) : mV l yJx4a65c_init_da8c8 wsJx4a65c_init_da8c8 ({ frames := 3, cells := 0, slots := 0, locals := 80 } : Room) [.ref h] A G w (fun w' => w' = g_up w h (.inr (0, [.int 0, .ref (G.2.2 0), .int 0]))) 0 0 := by
  refine g_ofV (cc := cJx4a65c_init_da8c8) (maxL := 1) (ret := none) (own := RJx4a65c) (by decide) rfl rfl (Nat.le_of_ble_eq_true rfl) ?_
  intro p e R s m args below meth c Q ls hR F hP hS hlocks hr hnm0 hQ hl
  obtain ⟨⟨hx, hb, hml, hown, hts⟩, hK, hZ, hA⟩ := id F
  generalize hH0 : s.heap = H at hP ⊢
  have hS : va_S A s.heap H [] := by rw [← hH0]; exact va_S.rf
  generalize ([] : List Loc) = locs at hS ⊢
  have hl : lv_has ls 1 [(0, .ref h)] := hl
  have iJx4a65c : ∀ w ∈ u_ws RJx4a65c TJx4a65c 3, w ∈ wsJx4a65c_init_da8c8 := fun w h => List.mem_cons_of_mem _ (List.mem_append_right _ (h))
  refine lv_aload_n hx hb dJx4a65c_init_da8c8_0 rfl (lv_at hl 0 rfl) ?_
  refine g_Iv (As := []) (rest := []) F hP hS (k_initL l A G w h hh) (cwI 0 hts gJx4a65c_init_da8c8_Jxc12de_init_da8c8 rfl rfl rfl (hts _ (List.mem_cons_of_mem _ (List.mem_append_left _ (List.mem_of_getElem? (i := 4) rfl)))) (hts _ (List.mem_cons_of_mem _ (List.mem_append_left _ (List.mem_of_getElem? (i := 2) rfl)))) (hts _ (List.mem_cons_of_mem _ (List.mem_append_left _ (List.mem_of_getElem? (i := 3) rfl)))) rfl cd_Jxc12de_init_da8c8 ⟨by rw [hR]; exact Nat.le_of_ble_eq_true rfl, by rw [hR]; exact Nat.le_of_ble_eq_true rfl⟩) rfl hl.1 (Nat.le_of_ble_eq_true rfl) dJx4a65c_init_da8c8_1 ⟨by rw [hR]; exact Nat.le_of_ble_eq_true rfl, by rw [hR]; exact Nat.le_of_ble_eq_true rfl⟩ rfl (fun w2 H locs h3 hP hS => ?_)
  rw [h3] at hP
  refine lv_aload_n hx hb dJx4a65c_init_da8c8_4 rfl (lv_at hl 0 rfl) ?_
  refine g_gets F hS (List.mem_cons_of_mem _ (List.mem_append_left _ (List.mem_of_getElem? (i := 0) rfl))) dJx4a65c_init_da8c8_5 ?_
  refine g_put F hP hS (C := RJx4a65c) (T := TJx4a65c) (N := 3) (v := .ref (G.2.2 0)) (ty := (.array (.object "java/lang/Object"))) iJx4a65c tyJx4a65c tyJx4a65c_ok nmJx4a65c hh rfl 1 (by decide) (List.mem_cons_of_mem _ (List.mem_append_left _ (List.mem_of_getElem? (i := 1) rfl))) (fun _ h9 => h9) rfl (by decide +kernel) rfl rfl (by show 1 < 3; decide) dJx4a65c_init_da8c8_8 (fun H locs hP hS => ?_)
  obtain ⟨w4, ew4⟩ : ∃ z, z = g_up w h (.inr (0, [.int 0, .ref (G.2.2 0), .int 0])) := ⟨_, rfl⟩
  have hP : g_P A G w4 H := by rw [ew4]; exact hP
  have f5 : w4 h = some (.inr (0, [.int 0, .ref (G.2.2 0), .int 0])) := by rw [ew4]; exact g_up_s _ _ _
  rw [hQ]
  refine g_vret F hP hS hlocks hr dJx4a65c_init_da8c8_11 (by first | exact Nat.le_of_ble_eq_true rfl | omega) (by first | exact Nat.le_of_ble_eq_true rfl | omega) ?_
  simp only [ew4]
