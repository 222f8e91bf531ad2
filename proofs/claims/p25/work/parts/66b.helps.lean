set_option maxHeartbeats 4000000 in
set_option maxRecDepth 100000 in
theorem k_L_below (l : Launch) (A : Nat → Prop) (G : g_C) (w : g_W) (v : Int32) (k : Nat) (hk0 : 0 < k) (hk : k < 2147483648) : mI l yL_below wsL_below ({ frames := 0, cells := 0, slots := 0, locals := 0 } : Room) [.int v, .int (nI k)] A G w (fun r w' => r = nI (blw v k) ∧ w' = w) 0 0 := by
  refine g_ofI (cc := cL_below) (maxL := 2) (ret := (some .int)) (own := RL) (by decide) rfl rfl (Nat.le_of_ble_eq_true rfl) ?_
  intro p e R s m args below meth c Q ls hR F hP hS hlocks hr hnm0 hQ hl
  obtain ⟨⟨hx, hb, hml, hown, hts⟩, hK, hZ, hA⟩ := id F
  generalize hH0 : s.heap = H at hP ⊢
  have hS : va_S A s.heap H [] := by rw [← hH0]; exact va_S.rf
  generalize ([] : List Loc) = locs at hS ⊢
  have hl : lv_has ls 2 [(0, .int v), (1, .int (nI k))] := hl
  refine lv_iload_n hx hb dL_below_0 rfl (lv_at hl 0 rfl) ?_
  refine lv_ldc (v := 2147483647) hx hb hown (hts _ (List.mem_cons_of_mem _ (List.mem_of_getElem? (i := 0) rfl))) dL_below_1 ?_
  refine lv_iand hx hb dL_below_3 ?_
  refine lv_topi (fun v1 ev1 => ?_)
  obtain rfl : v1 = nI (v.toBitVec.toNat % 2 ^ 31) := by
    rw [ev1]
    exact pk_and v (m := 2147483647) 31 (by decide)
  refine lv_iload_n hx hb dL_below_4 rfl (lv_at hl 1 rfl) ?_
  refine lv_irem hx hb dL_below_5 (nI_ne0 (by omega) (by omega)) ?_
  refine lv_topi (fun v2 ev2 => ?_)
  obtain rfl : v2 = nI (blw v k) := by
    rw [ev2]
    exact pk_rem (a := v.toBitVec.toNat % 2 ^ 31) (Nat.mod_lt _ (by decide)) hk0 (by omega)
  rw [hQ]
  refine g_iret F hP hS hlocks hr dL_below_6 (by first | exact Nat.le_of_ble_eq_true rfl | omega) (by first | exact Nat.le_of_ble_eq_true rfl | omega) ?_
  exact ⟨rfl, rfl⟩
