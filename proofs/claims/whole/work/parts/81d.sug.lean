set_option maxHeartbeats 4000000 in
set_option maxRecDepth 100000 in
theorem k_X7_off (l : Launch) (A : Nat → Prop) (G : g_C) (w : g_W) (a b P Z : Int) (hp : 1 ≤ P ∧ P ≤ 10000) (hq : 1 ≤ Z ∧ Z ≤ 10000) (ha : 0 ≤ a ∧ a ≤ 120) (hb0 : 0 ≤ b ∧ b ≤ 120) : mL l yX7_off wsX7_off ({ frames := 1, cells := 0, slots := 0, locals := 40 } : Room) [.int (iL a), .int (iL b), .int (iL P), .int (iL Z)] A G w (fun r w' => r = zL (offZ P Z a b) ∧ w' = w) 0 0 := by
  refine g_ofL (cc := cX7_off) (maxL := 4) (ret := (some .long)) (own := RX7) (by decide) rfl rfl (Nat.le_of_ble_eq_true rfl) ?_
  intro p e R s m args below meth c Q ls hR F hP hS hlocks hr hnm0 hQ hl
  obtain ⟨⟨hx, hb, hml, hown, hts⟩, hK, hZ, hA⟩ := id F
  generalize hH0 : s.heap = H at hP ⊢
  have hS : va_S A s.heap H [] := by rw [← hH0]; exact va_S.rf
  generalize ([] : List Loc) = locs at hS ⊢
  have hl : lv_has ls 4 [(0, .int (iL a)), (1, .int (iL b)), (2, .int (iL P)), (3, .int (iL Z))] := hl
  have o1 := off_bd hp hq ha hb0
  refine lv_iload_n hx hb dX7_off_0 rfl (lv_at hl 0 rfl) ?_
  refine lv_i2l hx hb dX7_off_1 rfl ?_
  refine lv_topl (fun v1 ev1 => ?_)
  obtain rfl : v1 = zL a := by
    rw [ev1]
    exact iL64 (by omega) (by omega)
  refine lv_iload_n hx hb dX7_off_2 rfl (lv_at hl 3 rfl) ?_
  refine lv_i2l hx hb dX7_off_3 rfl ?_
  refine lv_topl (fun v2 ev2 => ?_)
  obtain rfl : v2 = zL Z := by
    rw [ev2]
    exact iL64 (by omega) (by omega)
  refine lv_lmul hx hb dX7_off_4 ?_
  refine lv_topl (fun v3 ev3 => ?_)
  obtain rfl : v3 = zL (a * Z) := by
    rw [ev3]
    exact zL_mul _ _
  refine lv_iload_n hx hb dX7_off_5 rfl (lv_at hl 2 rfl) ?_
  refine lv_i2l hx hb dX7_off_6 rfl ?_
  refine lv_topl (fun v4 ev4 => ?_)
  obtain rfl : v4 = zL P := by
    rw [ev4]
    exact iL64 (by omega) (by omega)
  refine lv_iload_n hx hb dX7_off_7 rfl (lv_at hl 1 rfl) ?_
  refine lv_i2l hx hb dX7_off_8 rfl ?_
  refine lv_topl (fun v5 ev5 => ?_)
  obtain rfl : v5 = zL b := by
    rw [ev5]
    exact iL64 (by omega) (by omega)
  refine lv_lmul hx hb dX7_off_9 ?_
  refine lv_topl (fun v6 ev6 => ?_)
  obtain rfl : v6 = zL (P * b) := by
    rw [ev6]
    exact zL_mul _ _
  refine lv_lsub hx hb dX7_off_10 ?_
  refine lv_topl (fun v7 ev7 => ?_)
  obtain rfl : v7 = zL (a * Z - P * b) := by
    rw [ev7]
    exact zL_sub _ _
  refine va_mabs_long hx hb (by rw [hml]; exact hl.1.symm) hown (hts _ (List.mem_cons_of_mem _ (List.mem_of_getElem? (i := 0) rfl))) (hts _ (List.mem_cons_of_mem _ (List.mem_of_getElem? (i := 1) rfl))) (hts _ (List.mem_cons_of_mem _ (List.mem_of_getElem? (i := 2) rfl))) (hts _ (List.mem_cons_of_mem _ (List.mem_of_getElem? (i := 3) rfl))) (by rw [hR]; exact Nat.le_of_ble_eq_true rfl) (by rw [hR]; exact Nat.le_of_ble_eq_true rfl) (by rw [hR]; first | exact Nat.le_of_ble_eq_true rfl | (dsimp only; omega)) (by rw [hR]; first | exact Nat.le_of_ble_eq_true rfl | (dsimp only; omega)) dX7_off_11 ?_
  refine lv_topl (fun v8 ev8 => ?_)
  obtain rfl : v8 = zL (offZ P Z a b) := by
    rw [ev8]
    unfold offZ
    rw [zL_N]
    exact zL_abs (by omega) (by omega)
  rw [hQ]
  refine g_lret F hP hS hlocks hr dX7_off_14 (by first | exact Nat.le_of_ble_eq_true rfl | omega) (by first | exact Nat.le_of_ble_eq_true rfl | omega) ?_
  exact ⟨rfl, rfl⟩
