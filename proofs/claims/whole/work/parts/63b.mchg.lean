set_option maxHeartbeats 4000000 in
set_option maxRecDepth 100000 in
theorem k_X7_arePlace (l : Launch) (A : Nat → Prop) (G : g_C) (w : g_W) (x y : Int32) : mI l yX7_arePlace wsX7_arePlace ({ frames := 1, cells := 0, slots := 0, locals := 22 } : Room) [.int x, .int y] A G w (fun r w' => r = g_b (decide (plQ x y)) ∧ w' = w) 0 0 := by
  refine g_ofI (cc := cX7_arePlace) (maxL := 2) (ret := (some .boolean)) (own := RX7) (by decide) rfl rfl (Nat.le_of_ble_eq_true rfl) ?_
  intro p e R s m args below meth c Q ls hR F hP hS hlocks hr hnm0 hQ hl
  obtain ⟨⟨hx, hb, hml, hown, hts⟩, hK, hZ, hA⟩ := id F
  generalize hH0 : s.heap = H at hP ⊢
  have hS : va_S A s.heap H [] := by rw [← hH0]; exact va_S.rf
  generalize ([] : List Loc) = locs at hS ⊢
  have hl : lv_has ls 2 [(0, .int x), (1, .int y)] := hl
  have kx : ((-1000) ≤ x ∧ x ≤ 1000) ↔ inQ x (-1000) 1000 := by rw [Int32.le_iff_toInt_le, Int32.le_iff_toInt_le]; exact Iff.rfl
  have ky : ((-1000) ≤ y ∧ y ≤ 1000) ↔ inQ y (-1000) 1000 := by rw [Int32.le_iff_toInt_le, Int32.le_iff_toInt_le]; exact Iff.rfl
  
  refine lv_iload_n hx hb dX7_arePlace_0 rfl (lv_at hl 0 rfl) ?_
  refine lv_sipush (v := (-1000)) hx hb dX7_arePlace_1 (by decide) ?_
  refine lv_sipush (v := 1000) hx hb dX7_arePlace_4 (by decide) ?_
  refine g_Si (As := [.int x, .int (-1000), .int 1000]) (rest := []) F hP hS (k_X7_isIn l A G w x (-1000) 1000) (va_cwS 3 hts gX7_arePlace_X7_isIn rfl rfl rfl cd_X7_isIn ⟨by rw [hR]; exact Nat.le_of_ble_eq_true rfl, by rw [hR]; exact Nat.le_of_ble_eq_true rfl⟩) rfl hl.1 (Nat.le_of_ble_eq_true rfl) dX7_arePlace_7 ⟨by rw [hR]; exact Nat.le_of_ble_eq_true rfl, by rw [hR]; exact Nat.le_of_ble_eq_true rfl⟩ rfl (fun r1 w2 H locs h3 hP hS => ?_)
  have hr1 := h3.1
  rw [h3.2] at hP
  rw [hr1]
  refine lv_if_eq (tgt := 30) hx hb dX7_arePlace_10 (by decide) (fun c4 => ?_) (fun c4 => ?_)
  · have yc4 := of_decide_eq_false (g_b0.mp c4)
    rw [kx] at yc4
    refine lv_iconst (v := 0) hx hb dX7_arePlace_30 (by decide) ?_
    rw [hQ]
    refine g_zret F hP hS hlocks hr (by first | rfl | exact g_nb _) dX7_arePlace_31 (by first | exact Nat.le_of_ble_eq_true rfl | omega) (by first | exact Nat.le_of_ble_eq_true rfl | omega) ?_
    exact ⟨g_bf (fun q => yc4 q.1), rfl⟩
  · have yc4 := of_decide_eq_true (g_b1.mp c4)
    rw [kx] at yc4
    refine lv_iload_n hx hb dX7_arePlace_13 rfl (lv_at hl 1 rfl) ?_
    refine lv_sipush (v := (-1000)) hx hb dX7_arePlace_14 (by decide) ?_
    refine lv_sipush (v := 1000) hx hb dX7_arePlace_17 (by decide) ?_
    refine g_Si (As := [.int y, .int (-1000), .int 1000]) (rest := []) F hP hS (k_X7_isIn l A G w y (-1000) 1000) (va_cwS 3 hts gX7_arePlace_X7_isIn rfl rfl rfl cd_X7_isIn ⟨by rw [hR]; exact Nat.le_of_ble_eq_true rfl, by rw [hR]; exact Nat.le_of_ble_eq_true rfl⟩) rfl hl.1 (Nat.le_of_ble_eq_true rfl) dX7_arePlace_20 ⟨by rw [hR]; exact Nat.le_of_ble_eq_true rfl, by rw [hR]; exact Nat.le_of_ble_eq_true rfl⟩ rfl (fun r5 w6 H locs h7 hP hS => ?_)
    have hr5 := h7.1
    rw [h7.2] at hP
    rw [hr5]
    refine lv_if_eq (tgt := 30) hx hb dX7_arePlace_23 (by decide) (fun c8 => ?_) (fun c8 => ?_)
    · have yc8 := of_decide_eq_false (g_b0.mp c8)
      rw [ky] at yc8
      refine lv_iconst (v := 0) hx hb dX7_arePlace_30 (by decide) ?_
      rw [hQ]
      refine g_zret F hP hS hlocks hr (by first | rfl | exact g_nb _) dX7_arePlace_31 (by first | exact Nat.le_of_ble_eq_true rfl | omega) (by first | exact Nat.le_of_ble_eq_true rfl | omega) ?_
      exact ⟨g_bf (fun q => yc8 q.2), rfl⟩
    · have yc8 := of_decide_eq_true (g_b1.mp c8)
      rw [ky] at yc8
      refine lv_iconst (v := 1) hx hb dX7_arePlace_26 (by decide) ?_
      refine lv_goto (tgt := 31) hx hb dX7_arePlace_27 (by decide) ?_
      rw [hQ]
      refine g_zret F hP hS hlocks hr (by first | rfl | exact g_nb _) dX7_arePlace_31 (by first | exact Nat.le_of_ble_eq_true rfl | omega) (by first | exact Nat.le_of_ble_eq_true rfl | omega) ?_
      exact ⟨g_bt ⟨yc4, yc8⟩, rfl⟩
