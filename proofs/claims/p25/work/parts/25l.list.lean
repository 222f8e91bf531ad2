set_option maxHeartbeats 4000000 in
set_option maxRecDepth 100000 in
theorem k_grow0F (l : Launch) (A : Nat → Prop) (G : g_C) (w : g_W) (h : Nat) (mod : Int32) (hh : w h = some (.inr (0, [.int mod, .ref (G.2.2 0), .int (nI 0)]))) : mQ l yJx4a65c_grow_d5877 wsJx4a65c_grow_d5877 ({ frames := 2, cells := 1, slots := 100, locals := 63 } : Room) [.ref h] A G w (fun r w' => ∃ q, r = some q ∧ w q = none ∧ w' = g_up (g_up w q (.inl (G.2.1 3, 10, .inr (.inr (.inr (.inr (fun _ => none))))))) h (.inr (0, [.int mod, .ref q, .int (nI 0)]))) 1 100 := by
  refine g_ofQ (cc := cJx4a65c_grow_d5877) (maxL := 1) (ret := (some (.array (.object "java/lang/Object")))) (own := RJx4a65c) (by decide) rfl rfl (Nat.le_of_ble_eq_true rfl) ?_
  intro p e R s m args below meth c Q ls hR F hP hS hlocks hr hnm0 hQ hl
  obtain ⟨⟨hx, hb, hml, hown, hts⟩, hK, hZ, hA⟩ := id F
  generalize hH0 : s.heap = H at hP ⊢
  have hS : va_S A s.heap H [] := by rw [← hH0]; exact va_S.rf
  generalize ([] : List Loc) = locs at hS ⊢
  have hl : lv_has ls 1 [(0, .ref h)] := hl
  have iJx4a65c : ∀ w ∈ u_ws RJx4a65c TJx4a65c 3, w ∈ wsJx4a65c_grow_d5877 := fun w h => List.mem_cons_of_mem _ (List.mem_append_right _ (h))
  refine lv_aload_n hx hb dJx4a65c_grow_d5877_0 rfl (lv_at hl 0 rfl) ?_
  refine lv_aload_n hx hb dJx4a65c_grow_d5877_1 rfl (lv_at hl 0 rfl) ?_
  refine g_get F hP (C := RJx4a65c) (T := TJx4a65c) (N := 3) iJx4a65c hh rfl 2 (by decide) (List.mem_cons_of_mem _ (List.mem_append_left _ (List.mem_append_left _ (List.mem_of_getElem? (i := 0) rfl)))) (fun _ h9 => h9) rfl dJx4a65c_grow_d5877_2 ?_
  refine lv_iconst (v := 1) hx hb dJx4a65c_grow_d5877_5 (by decide) ?_
  refine lv_iadd hx hb dJx4a65c_grow_d5877_6 ?_
  refine lv_topi (fun v1 ev1 => ?_)
  obtain rfl : v1 = nI 1 := by
    rw [ev1]
    decide
  refine g_Vq (As := [.int (nI 1)]) (rest := []) F hP hS (k_grow1F l A G w h mod hh) (cwV 1 hts gJx4a65c_grow_d5877_Jx4a65c_grow_92f84 rfl rfl rfl cd_Jx4a65c_grow_92f84 ⟨by rw [hR]; exact Nat.le_of_ble_eq_true rfl, by rw [hR]; exact Nat.le_of_ble_eq_true rfl⟩) hh rfl rfl rfl hl.1 (Nat.le_of_ble_eq_true rfl) dJx4a65c_grow_d5877_7 ⟨by rw [hR]; exact Nat.le_of_ble_eq_true rfl, by rw [hR]; exact Nat.le_of_ble_eq_true rfl⟩ rfl (fun r2 w3 H locs h4 hP hS => ?_)
  rw [hQ]
  refine g_aret (r := r2) F hP hS hlocks hr (by first | exact Or.inl ⟨_, rfl⟩ | exact Or.inr ⟨_, rfl⟩) dJx4a65c_grow_d5877_10 (by first | exact Nat.le_of_ble_eq_true rfl | omega) (by first | exact Nat.le_of_ble_eq_true rfl | omega) ?_
  exact h4
