set_option maxHeartbeats 4000000 in
set_option maxRecDepth 100000 in
theorem k_X0_asDouble (l : Launch) (A : Nat → Prop) (G : g_C) (w : g_W) (h : Nat) (n d : Int) (hf : w h = some (.inr (1, [.long (zL n), .long (zL d)]))) (hv : vf_n64 (FP.ddiv (FP.l2d (zL n)) (FP.l2d (zL d)))) : mD l yX0_asDouble wsX0_asDouble ({ frames := 0, cells := 0, slots := 0, locals := 0 } : Room) [.ref h] A G w (fun r w' => r = FP.ddiv (FP.l2d (zL n)) (FP.l2d (zL d)) ∧ w' = w) 0 0 := by
  refine g_ofD (cc := cX0_asDouble) (maxL := 1) (ret := (some .double)) (own := RX0) (by decide) rfl rfl (Nat.le_of_ble_eq_true rfl) ?_
  intro p e R s m args below meth c Q ls hR F hP hS hlocks hr hnm0 hQ hl
  obtain ⟨⟨hx, hb, hml, hown, hts⟩, hK, hZ, hA⟩ := id F
  generalize hH0 : s.heap = H at hP ⊢
  have hS : va_S A s.heap H [] := by rw [← hH0]; exact va_S.rf
  generalize ([] : List Loc) = locs at hS ⊢
  have hl : lv_has ls 1 [(0, .ref h)] := hl
  have iX0 : ∀ w ∈ u_ws RX0 TX0 2, w ∈ wsX0_asDouble := fun w h => List.mem_cons_of_mem _ (List.mem_append_right _ (h))
  refine lv_aload_n hx hb dX0_asDouble_0 rfl (lv_at hl 0 rfl) ?_
  refine g_get F hP (C := RX0) (T := TX0) (N := 2) iX0 hf rfl 0 (by decide) (List.mem_cons_of_mem _ (List.mem_append_left _ (List.mem_of_getElem? (i := 0) rfl))) (fun _ h9 => h9) rfl dX0_asDouble_1 ?_
  refine lv_l2d hx hb dX0_asDouble_4 ?_
  refine lv_topd (fun v1 ev1 => ?_)
  obtain rfl : v1 = FP.l2d (zL n) := by
    exact ev1
  refine lv_aload_n hx hb dX0_asDouble_5 rfl (lv_at hl 0 rfl) ?_
  refine g_get F hP (C := RX0) (T := TX0) (N := 2) iX0 hf rfl 1 (by decide) (List.mem_cons_of_mem _ (List.mem_append_left _ (List.mem_of_getElem? (i := 1) rfl))) (fun _ h9 => h9) rfl dX0_asDouble_6 ?_
  refine lv_l2d hx hb dX0_asDouble_9 ?_
  refine lv_topd (fun v2 ev2 => ?_)
  obtain rfl : v2 = FP.l2d (zL d) := by
    exact ev2
  refine lv_ddiv hx hb dX0_asDouble_10 hv ?_
  refine lv_topd (fun v3 ev3 => ?_)
  obtain rfl : v3 = FP.ddiv (FP.l2d (zL n)) (FP.l2d (zL d)) := by
    exact ev3
  rw [hQ]
  refine g_dret F hP hS hlocks hr dX0_asDouble_11 (by first | exact Nat.le_of_ble_eq_true rfl | omega) (by first | exact Nat.le_of_ble_eq_true rfl | omega) ?_
  exact ⟨rfl, rfl⟩
