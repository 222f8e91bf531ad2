set_option maxHeartbeats 4000000 in
set_option maxRecDepth 100000 in
theorem k_X7_square (l : Launch) (A : Nat → Prop) (G : g_C) (w : g_W) (x : Int32) : mI l yX7_square wsX7_square ({ frames := 0, cells := 0, slots := 0, locals := 0 } : Room) [.int x] A G w (fun r w' => r = x * x ∧ w' = w) 0 0 := by
  refine g_ofI (cc := cX7_square) (maxL := 1) (ret := (some .int)) (own := RX7) (by decide) rfl rfl (Nat.le_of_ble_eq_true rfl) ?_
  intro p e R s m args below meth c Q ls hR F hP hS hlocks hr hnm0 hQ hl
  obtain ⟨⟨hx, hb, hml, hown, hts⟩, hK, hZ, hA⟩ := id F
  generalize hH0 : s.heap = H at hP ⊢
  have hS : va_S A s.heap H [] := by rw [← hH0]; exact va_S.rf
  generalize ([] : List Loc) = locs at hS ⊢
  have hl : lv_has ls 1 [(0, .int x)] := hl
  refine lv_iload_n hx hb dX7_square_0 rfl (lv_at hl 0 rfl) ?_
  refine lv_iload_n hx hb dX7_square_1 rfl (lv_at hl 0 rfl) ?_
  refine lv_imul hx hb dX7_square_2 ?_
  refine lv_topi (fun v1 ev1 => ?_)
  obtain rfl : v1 = x * x := by
    exact ev1
  rw [hQ]
  refine g_iret F hP hS hlocks hr dX7_square_3 (by first | exact Nat.le_of_ble_eq_true rfl | omega) (by first | exact Nat.le_of_ble_eq_true rfl | omega) ?_
  exact ⟨rfl, rfl⟩
