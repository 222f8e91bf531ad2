set_option maxHeartbeats 4000000 in
set_option maxRecDepth 100000 in
theorem k_addUF (l : Launch) (A : Nat → Prop) (G : g_C) (w : g_W) (h arr : Nat) (mod : Int32) (f : Nat → Option Nat) (hh : w h = some (.inr (0, [.int mod, .ref (G.2.2 0), .int (nI 0)]))) (v ci : Nat) (r0 : vw_C) (vs : List Value) (hv : w v = some (.inr (ci, vs))) (hci : vwCl[ci]? = some r0) (hcs : (r0.1, "java/lang/Object") ∈ g_casts) (hvh : v ≠ h) : mI l yJx4a65c_add_9ea2d wsJx4a65c_add_9ea2d ({ frames := 6, cells := 1, slots := 100, locals := 210 } : Room) [.ref h, .ref v] A G w (fun r w' => addP G w h arr 0 false mod f v w') 1 100 := by
  refine g_ofI (cc := cJx4a65c_add_9ea2d) (maxL := 2) (ret := (some .boolean)) (own := RJx4a65c) (by decide) rfl rfl (Nat.le_of_ble_eq_true rfl) ?_
  intro p e R s m args below meth c Q ls hR F hP hS hlocks hr hnm0 hQ hl
  obtain ⟨⟨hx, hb, hml, hown, hts⟩, hK, hZ, hA⟩ := id F
  generalize hH0 : s.heap = H at hP ⊢
  have hS : va_S A s.heap H [] := by rw [← hH0]; exact va_S.rf
  generalize ([] : List Loc) = locs at hS ⊢
  have hl : lv_has ls 2 [(0, .ref h), (1, .ref v)] := hl
  have iJx4a65c : ∀ w ∈ u_ws RJx4a65c TJx4a65c 3, w ∈ wsJx4a65c_add_9ea2d := fun w h => List.mem_cons_of_mem _ (List.mem_append_right _ (h))
  refine lv_aload_n hx hb dJx4a65c_add_9ea2d_0 rfl (lv_at hl 0 rfl) ?_
  refine lv_dup hx hb dJx4a65c_add_9ea2d_1 rfl ?_
  refine g_get F hP (C := RJx4a65c) (T := TJx4a65c) (N := 3) iJx4a65c hh rfl 0 (by decide) (List.mem_cons_of_mem _ (List.mem_append_left _ (List.mem_append_left _ (List.mem_of_getElem? (i := 0) rfl)))) (u_same (hts _ (List.mem_cons_of_mem _ (List.mem_append_left _ (List.mem_append_left _ (List.mem_of_getElem? (i := 1) rfl)))))) rfl dJx4a65c_add_9ea2d_2 ?_
  refine lv_iconst (v := 1) hx hb dJx4a65c_add_9ea2d_5 (by decide) ?_
  refine lv_iadd hx hb dJx4a65c_add_9ea2d_6 ?_
  refine lv_topi (fun v1 ev1 => ?_)
  obtain rfl : v1 = mod + 1 := by
    exact ev1
  refine g_put F hP hS (C := RJx4a65c) (T := TJx4a65c) (N := 3) (v := .int (mod + 1)) (ty := .int) iJx4a65c tyJx4a65c tyJx4a65c_ok nmJx4a65c hh rfl 0 (by decide) (List.mem_cons_of_mem _ (List.mem_append_left _ (List.mem_append_left _ (List.mem_of_getElem? (i := 0) rfl)))) (u_same (hts _ (List.mem_cons_of_mem _ (List.mem_append_left _ (List.mem_append_left _ (List.mem_of_getElem? (i := 1) rfl)))))) rfl (by decide +kernel) rfl rfl (by show 0 < 3; decide) dJx4a65c_add_9ea2d_7 (fun H locs hP hS => ?_)
  obtain ⟨w2, ew2⟩ : ∃ z, z = g_up w h (.inr (0, [.int (mod + 1), .ref (G.2.2 0), .int (nI 0)])) := ⟨_, rfl⟩
  have hP : g_P A G w2 H := by rw [ew2]; exact hP
  have f3 : w2 v = some (.inr (ci, vs)) := by rw [ew2]; exact g_up_f hv (hvh)
  have f4 : w2 h = some (.inr (0, [.int (mod + 1), .ref (G.2.2 0), .int (nI 0)])) := by rw [ew2]; exact g_up_s _ _ _
  refine lv_aload_n hx hb dJx4a65c_add_9ea2d_10 rfl (lv_at hl 0 rfl) ?_
  refine lv_aload_n hx hb dJx4a65c_add_9ea2d_11 rfl (lv_at hl 1 rfl) ?_
  refine lv_aload_n hx hb dJx4a65c_add_9ea2d_12 rfl (lv_at hl 0 rfl) ?_
  refine g_get F hP (C := RJx4a65c) (T := TJx4a65c) (N := 3) iJx4a65c f4 rfl 1 (by decide) (List.mem_cons_of_mem _ (List.mem_append_left _ (List.mem_append_left _ (List.mem_of_getElem? (i := 2) rfl)))) (fun _ h9 => h9) rfl dJx4a65c_add_9ea2d_13 ?_
  refine lv_aload_n hx hb dJx4a65c_add_9ea2d_16 rfl (lv_at hl 0 rfl) ?_
  refine g_get F hP (C := RJx4a65c) (T := TJx4a65c) (N := 3) iJx4a65c f4 rfl 2 (by decide) (List.mem_cons_of_mem _ (List.mem_append_left _ (List.mem_append_left _ (List.mem_of_getElem? (i := 3) rfl)))) (fun _ h9 => h9) rfl dJx4a65c_add_9ea2d_17 ?_
  refine g_Vv (As := [.ref v, .ref (G.2.2 0), .int (nI 0)]) (rest := []) F hP hS (k_addF l A G w2 h (mod + 1) f4 v ci r0 vs f3 hci hcs hvh) (cwV 3 hts gJx4a65c_add_9ea2d_Jx4a65c_add_72be8 rfl rfl rfl cd_Jx4a65c_add_72be8 ⟨by rw [hR]; exact Nat.le_of_ble_eq_true rfl, by rw [hR]; exact Nat.le_of_ble_eq_true rfl⟩) f4 rfl rfl rfl hl.1 (Nat.le_of_ble_eq_true rfl) dJx4a65c_add_9ea2d_20 ⟨by rw [hR]; exact Nat.le_of_ble_eq_true rfl, by rw [hR]; exact Nat.le_of_ble_eq_true rfl⟩ rfl (fun w6 H locs h7 hP hS => ?_)
  refine lv_iconst (v := 1) hx hb dJx4a65c_add_9ea2d_23 (by decide) ?_
  rw [hQ]
  refine g_zret F hP hS hlocks hr (by first | rfl | exact g_nb _) dJx4a65c_add_9ea2d_24 (by first | exact Nat.le_of_ble_eq_true rfl | omega) (by first | exact Nat.le_of_ble_eq_true rfl | omega) ?_
  obtain ⟨q, f', a1, a3, a4⟩ := h7
  rw [ew2] at a1
  obtain ⟨b1, b2⟩ := g_up_none a1
  refine ⟨q, 10, f', Or.inl b2, by decide, by decide, by decide, fun k hk => absurd hk (Nat.not_lt_zero k), a3, ?_⟩
  rw [a4]
  simp only [ew2]
  funext z
  simp only [g_up]
  by_cases z3 : z = h <;> by_cases z4 : z = q <;> simp_all
