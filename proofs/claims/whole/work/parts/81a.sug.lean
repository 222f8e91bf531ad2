set_option maxHeartbeats 4000000 in
set_option maxRecDepth 100000 in
theorem k_X6_missOf (l : Launch) (A : Nat → Prop) (G : g_C) (w : g_W) (a b P Z : Int) (hp : 1 ≤ P ∧ P ≤ 10000) (hq : 1 ≤ Z ∧ Z ≤ 10000) (ha : 0 ≤ a ∧ a ≤ 120) (hb0 : 0 ≤ b ∧ b ≤ 120) : mI l yX6_missOf wsX6_missOf ({ frames := 1, cells := 0, slots := 0, locals := 40 } : Room) [.int (iL a), .int (iL b), .int (iL P), .int (iL Z)] A G w (fun r w' => r = iL (offZ P Z a b) ∧ w' = w) 0 0 := by
  refine g_ofI (cc := cX6_missOf) (maxL := 4) (ret := (some .int)) (own := RX6) (by decide) rfl rfl (Nat.le_of_ble_eq_true rfl) ?_
  intro p e R s m args below meth c Q ls hR F hP hS hlocks hr hnm0 hQ hl
  obtain ⟨⟨hx, hb, hml, hown, hts⟩, hK, hZ, hA⟩ := id F
  generalize hH0 : s.heap = H at hP ⊢
  have hS : va_S A s.heap H [] := by rw [← hH0]; exact va_S.rf
  generalize ([] : List Loc) = locs at hS ⊢
  have hl : lv_has ls 4 [(0, .int (iL a)), (1, .int (iL b)), (2, .int (iL P)), (3, .int (iL Z))] := hl
  have o1 := off_bd hp hq ha hb0
  refine lv_iload_n hx hb dX6_missOf_0 rfl (lv_at hl 0 rfl) ?_
  refine lv_iload_n hx hb dX6_missOf_1 rfl (lv_at hl 3 rfl) ?_
  refine lv_imul hx hb dX6_missOf_2 ?_
  refine lv_topi (fun v1 ev1 => ?_)
  obtain rfl : v1 = iL (a * Z) := by
    rw [ev1]
    exact iL_mul _ _
  refine lv_iload_n hx hb dX6_missOf_3 rfl (lv_at hl 1 rfl) ?_
  refine lv_iload_n hx hb dX6_missOf_4 rfl (lv_at hl 2 rfl) ?_
  refine lv_imul hx hb dX6_missOf_5 ?_
  refine lv_topi (fun v2 ev2 => ?_)
  obtain rfl : v2 = iL (P * b) := by
    rw [ev2]
    rw [iL_mul, Int.mul_comm]
  refine lv_isub hx hb dX6_missOf_6 ?_
  refine lv_topi (fun v3 ev3 => ?_)
  obtain rfl : v3 = iL (a * Z - P * b) := by
    rw [ev3]
    exact iL_sub _ _
  refine va_mabs hx hb (by rw [hml]; exact hl.1.symm) hown (hts _ (List.mem_cons_of_mem _ (List.mem_of_getElem? (i := 0) rfl))) (hts _ (List.mem_cons_of_mem _ (List.mem_of_getElem? (i := 1) rfl))) (hts _ (List.mem_cons_of_mem _ (List.mem_of_getElem? (i := 2) rfl))) (hts _ (List.mem_cons_of_mem _ (List.mem_of_getElem? (i := 3) rfl))) (by rw [hR]; exact Nat.le_of_ble_eq_true rfl) (by rw [hR]; exact Nat.le_of_ble_eq_true rfl) (by rw [hR]; first | exact Nat.le_of_ble_eq_true rfl | (dsimp only; omega)) (by rw [hR]; first | exact Nat.le_of_ble_eq_true rfl | (dsimp only; omega)) dX6_missOf_7 ?_
  refine lv_topi (fun v4 ev4 => ?_)
  obtain rfl : v4 = iL (offZ P Z a b) := by
    rw [ev4]
    have k0 : (0 : Int32) ≤ iL (a * Z - P * b) ↔ 0 ≤ a * Z - P * b := iL_le (a := 0) (b := a * Z - P * b) (by omega) (by omega) (by omega) (by omega)
    unfold offZ
    by_cases y : 0 ≤ a * Z - P * b
    · rw [if_pos (k0.mpr y), Int.natAbs_of_nonneg y]
    · rw [if_neg (fun q => y (k0.mp q)), show (0 : Int32) = iL 0 from rfl, iL_sub, show (0 - (a * Z - P * b)) = ((a * Z - P * b).natAbs : Int) from by omega]
  rw [hQ]
  refine g_iret F hP hS hlocks hr dX6_missOf_10 (by first | exact Nat.le_of_ble_eq_true rfl | omega) (by first | exact Nat.le_of_ble_eq_true rfl | omega) ?_
  exact ⟨rfl, rfl⟩
