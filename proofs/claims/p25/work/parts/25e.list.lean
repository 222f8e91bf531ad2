theorem cd_J15_checkIndex_7cf53 : yJ15_checkIndex_7cf53.cls ≠ "java/lang/invoke/MethodHandle" ∧ yJ15_checkIndex_7cf53.cls ≠ "java/lang/invoke/VarHandle" ∧ (parseMethodDescriptor yJ15_checkIndex_7cf53.desc).map (fun d => d.parameters.length) = some 2 := by decide +kernel
theorem cd_Jx4a65c_elementData_915e3 : yJx4a65c_elementData_915e3.cls = RJx4a65c ∧ yJx4a65c_elementData_915e3.cls ≠ "java/lang/invoke/MethodHandle" ∧ yJx4a65c_elementData_915e3.cls ≠ "java/lang/invoke/VarHandle" ∧ (parseMethodDescriptor yJx4a65c_elementData_915e3.desc).map (fun d => d.parameters.length) = some 1 := by decide +kernel
set_option maxHeartbeats 4000000 in
set_option maxRecDepth 100000 in
theorem k_get (l : Launch) (A : Nat → Prop) (G : g_C) (w : g_W) (h arr n cap : Nat) (mod : Int32) (f : Nat → Option Nat) (k : Nat) (hh : w h = some (.inr (0, [.int mod, .ref arr, .int (nI n)]))) (ha : w arr = some (.inl (G.2.1 3, cap, .inr (.inr (.inr (.inr f)))))) (hk : k < n) (hn : n ≤ cap) (hc : cap < 100000) : mQ l yJx4a65c_get_915e3 wsJx4a65c_get_915e3 ({ frames := 2, cells := 0, slots := 0, locals := 43 } : Room) [.ref h, .int (nI k)] A G w (fun r w' => r = f k ∧ w' = w) 0 0 := by
  refine g_ofQ (cc := cJx4a65c_get_915e3) (maxL := 2) (ret := (some (.object "java/lang/Object"))) (own := RJx4a65c) (by decide) rfl rfl (Nat.le_of_ble_eq_true rfl) ?_
  intro p e R s m args below meth c Q ls hR F hP hS hlocks hr hnm0 hQ hl
  obtain ⟨⟨hx, hb, hml, hown, hts⟩, hK, hZ, hA⟩ := id F
  generalize hH0 : s.heap = H at hP ⊢
  have hS : va_S A s.heap H [] := by rw [← hH0]; exact va_S.rf
  generalize ([] : List Loc) = locs at hS ⊢
  have hl : lv_has ls 2 [(0, .ref h), (1, .int (nI k))] := hl
  have iJx4a65c : ∀ w ∈ u_ws RJx4a65c TJx4a65c 3, w ∈ wsJx4a65c_get_915e3 := fun w h => List.mem_cons_of_mem _ (List.mem_append_right _ (h))
  refine lv_iload_n hx hb dJx4a65c_get_915e3_0 rfl (lv_at hl 1 rfl) ?_
  refine lv_aload_n hx hb dJx4a65c_get_915e3_1 rfl (lv_at hl 0 rfl) ?_
  refine g_get F hP (C := RJx4a65c) (T := TJx4a65c) (N := 3) iJx4a65c hh rfl 2 (by decide) (List.mem_cons_of_mem _ (List.mem_append_left _ (List.mem_of_getElem? (i := 0) rfl))) (fun _ h9 => h9) rfl dJx4a65c_get_915e3_2 ?_
  refine g_Si (As := [.int (nI k), .int (nI n)]) (rest := []) F hP hS (k_checkIndex2 l A G w k n hk (by omega)) (va_cwS 2 hts gJx4a65c_get_915e3_J15_checkIndex_7cf53 rfl rfl rfl cd_J15_checkIndex_7cf53 ⟨by rw [hR]; exact Nat.le_of_ble_eq_true rfl, by rw [hR]; exact Nat.le_of_ble_eq_true rfl⟩) rfl hl.1 (Nat.le_of_ble_eq_true rfl) dJx4a65c_get_915e3_5 ⟨by rw [hR]; exact Nat.le_of_ble_eq_true rfl, by rw [hR]; exact Nat.le_of_ble_eq_true rfl⟩ rfl (fun r1 w2 H locs h3 hP hS => ?_)
  have hr1 := h3.1
  rw [h3.2] at hP
  rw [hr1]
  refine lv_pop hx hb dJx4a65c_get_915e3_8 rfl ?_
  refine lv_aload_n hx hb dJx4a65c_get_915e3_9 rfl (lv_at hl 0 rfl) ?_
  refine lv_iload_n hx hb dJx4a65c_get_915e3_10 rfl (lv_at hl 1 rfl) ?_
  refine g_Vq (As := [.int (nI k)]) (rest := []) F hP hS (k_elementData l A G w h arr n cap mod f k hh ha hk hn hc) (cwV 1 hts gJx4a65c_get_915e3_Jx4a65c_elementData_915e3 rfl rfl rfl cd_Jx4a65c_elementData_915e3 ⟨by rw [hR]; exact Nat.le_of_ble_eq_true rfl, by rw [hR]; exact Nat.le_of_ble_eq_true rfl⟩) hh rfl rfl rfl hl.1 (Nat.le_of_ble_eq_true rfl) dJx4a65c_get_915e3_11 ⟨by rw [hR]; exact Nat.le_of_ble_eq_true rfl, by rw [hR]; exact Nat.le_of_ble_eq_true rfl⟩ rfl (fun r4 w5 H locs h6 hP hS => ?_)
  have hr4 := h6.1
  rw [h6.2] at hP
  rw [hr4]
  rw [hQ]
  refine g_aret (r := (f k)) F hP hS hlocks hr (by first | exact Or.inl ⟨_, rfl⟩ | exact Or.inr ⟨_, rfl⟩) dJx4a65c_get_915e3_14 (by first | exact Nat.le_of_ble_eq_true rfl | omega) (by first | exact Nat.le_of_ble_eq_true rfl | omega) ?_
  exact ⟨rfl, rfl⟩
