set_option maxHeartbeats 4000000 in
set_option maxRecDepth 100000 in
theorem k_X1_size (l : Launch) (A : Nat → Prop) (G : g_C) (w : g_W) (h : Nat) (sh1 : Nat) (te1 mo1 la1 : Int32) (ri1 : Bool) (hh : w h = some (.inr (2, [.ref sh1, .int te1, .int mo1, .int la1, .int (g_b ri1)]))) : mI l yX1_size wsX1_size ({ frames := 0, cells := 0, slots := 0, locals := 0 } : Room) [.ref h] A G w (fun r w' => r = mo1 * (te1 + (if ri1 then 6 else 2)) ∧ w' = w) 0 0 := by
  refine g_ofI (cc := cX1_size) (maxL := 1) (ret := (some .int)) (own := RX1) (by decide) rfl rfl (Nat.le_of_ble_eq_true rfl) ?_
  intro p e R s m args below meth c Q ls hR F hP hS hlocks hr hnm0 hQ hl
  obtain ⟨⟨hx, hb, hml, hown, hts⟩, hK, hZ, hA⟩ := id F
  generalize hH0 : s.heap = H at hP ⊢
  have hS : va_S A s.heap H [] := by rw [← hH0]; exact va_S.rf
  generalize ([] : List Loc) = locs at hS ⊢
  have hl : lv_has ls 1 [(0, .ref h)] := hl
  have iX1 : ∀ w ∈ u_ws RX1 TX1 5, w ∈ wsX1_size := fun w h => List.mem_cons_of_mem _ (List.mem_append_right _ (h))
  refine lv_aload_n hx hb dX1_size_0 rfl (lv_at hl 0 rfl) ?_
  refine g_get F hP (C := RX1) (T := TX1) (N := 5) iX1 hh rfl 2 (by decide) (List.mem_cons_of_mem _ (List.mem_append_left _ (List.mem_of_getElem? (i := 0) rfl))) (fun _ h9 => h9) rfl dX1_size_1 ?_
  refine lv_aload_n hx hb dX1_size_4 rfl (lv_at hl 0 rfl) ?_
  refine g_get F hP (C := RX1) (T := TX1) (N := 5) iX1 hh rfl 1 (by decide) (List.mem_cons_of_mem _ (List.mem_append_left _ (List.mem_of_getElem? (i := 1) rfl))) (fun _ h9 => h9) rfl dX1_size_5 ?_
  refine lv_aload_n hx hb dX1_size_8 rfl (lv_at hl 0 rfl) ?_
  refine g_get F hP (C := RX1) (T := TX1) (N := 5) iX1 hh rfl 4 (by decide) (List.mem_cons_of_mem _ (List.mem_append_left _ (List.mem_of_getElem? (i := 2) rfl))) (fun _ h9 => h9) rfl dX1_size_9 ?_
  refine lv_if_eq (tgt := 20) hx hb dX1_size_12 (by decide) (fun c1 => ?_) (fun c1 => ?_)
  · have yc1 : ri1 = false := g_b0.mp c1
    refine lv_iconst (v := 2) hx hb dX1_size_20 (by decide) ?_
    refine lv_iadd hx hb dX1_size_21 ?_
    refine lv_topi (fun v2 ev2 => ?_)
    refine lv_imul hx hb dX1_size_22 ?_
    refine lv_topi (fun v3 ev3 => ?_)
    rw [hQ]
    refine g_iret F hP hS hlocks hr dX1_size_23 (by first | exact Nat.le_of_ble_eq_true rfl | omega) (by first | exact Nat.le_of_ble_eq_true rfl | omega) ?_
    refine ⟨?_, rfl⟩
    simp_all
  · have yc1 : ri1 = true := g_b1.mp c1
    refine lv_bipush (v := 6) hx hb dX1_size_15 (by decide) ?_
    refine lv_goto (tgt := 21) hx hb dX1_size_17 (by decide) ?_
    refine lv_iadd hx hb dX1_size_21 ?_
    refine lv_topi (fun v4 ev4 => ?_)
    refine lv_imul hx hb dX1_size_22 ?_
    refine lv_topi (fun v5 ev5 => ?_)
    rw [hQ]
    refine g_iret F hP hS hlocks hr dX1_size_23 (by first | exact Nat.le_of_ble_eq_true rfl | omega) (by first | exact Nat.le_of_ble_eq_true rfl | omega) ?_
    refine ⟨?_, rfl⟩
    simp_all
