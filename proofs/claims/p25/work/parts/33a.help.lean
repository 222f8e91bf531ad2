set_option maxHeartbeats 4000000 in
set_option maxRecDepth 100000 in
theorem k_X6_isWithin (l : Launch) (A : Nat → Prop) (G : g_C) (w : g_W) (v lo hi : Int32) : mI l yX6_isWithin wsX6_isWithin ({ frames := 0, cells := 0, slots := 0, locals := 0 } : Room) [.int v, .int lo, .int hi] A G w (fun r w' => r = g_b (decide (lo ≤ v ∧ v ≤ hi)) ∧ w' = w) 0 0 := by
  refine g_ofI (cc := cX6_isWithin) (maxL := 3) (ret := (some .boolean)) (own := RX6) (by decide) rfl rfl (Nat.le_of_ble_eq_true rfl) ?_
  intro p e R s m args below meth c Q ls hR F hP hS hlocks hr hnm0 hQ hl
  obtain ⟨⟨hx, hb, hml, hown, hts⟩, hK, hZ, hA⟩ := id F
  generalize hH0 : s.heap = H at hP ⊢
  have hS : va_S A s.heap H [] := by rw [← hH0]; exact va_S.rf
  generalize ([] : List Loc) = locs at hS ⊢
  have hl : lv_has ls 3 [(0, .int v), (1, .int lo), (2, .int hi)] := hl
  refine lv_iload_n hx hb dX6_isWithin_0 rfl (lv_at hl 0 rfl) ?_
  refine lv_iload_n hx hb dX6_isWithin_1 rfl (lv_at hl 1 rfl) ?_
  refine lv_icmp_lt (tgt := 14) hx hb dX6_isWithin_2 (by decide) (fun c1 => ?_) (fun c1 => ?_)
  · have yc1 : ¬ lo ≤ v := by rw [Int32.not_le]; exact c1
    refine lv_iconst (v := 0) hx hb dX6_isWithin_14 (by decide) ?_
    rw [hQ]
    refine g_zret F hP hS hlocks hr (by first | rfl | exact g_nb _) dX6_isWithin_15 (by first | exact Nat.le_of_ble_eq_true rfl | omega) (by first | exact Nat.le_of_ble_eq_true rfl | omega) ?_
    exact ⟨by first | exact g_bt ⟨by assumption, by assumption⟩ | (refine g_bf (fun q => ?_); first | exact absurd q.1 (by assumption) | exact absurd q.2 (by assumption)), rfl⟩
  · have yc1 : lo ≤ v := Int32.not_lt.mp c1
    refine lv_iload_n hx hb dX6_isWithin_5 rfl (lv_at hl 0 rfl) ?_
    refine lv_iload_n hx hb dX6_isWithin_6 rfl (lv_at hl 2 rfl) ?_
    refine lv_icmp_gt (tgt := 14) hx hb dX6_isWithin_7 (by decide) (fun c2 => ?_) (fun c2 => ?_)
    · have yc2 : ¬ v ≤ hi := by rw [Int32.not_le]; exact c2
      refine lv_iconst (v := 0) hx hb dX6_isWithin_14 (by decide) ?_
      rw [hQ]
      refine g_zret F hP hS hlocks hr (by first | rfl | exact g_nb _) dX6_isWithin_15 (by first | exact Nat.le_of_ble_eq_true rfl | omega) (by first | exact Nat.le_of_ble_eq_true rfl | omega) ?_
      exact ⟨by first | exact g_bt ⟨by assumption, by assumption⟩ | (refine g_bf (fun q => ?_); first | exact absurd q.1 (by assumption) | exact absurd q.2 (by assumption)), rfl⟩
    · have yc2 : v ≤ hi := Int32.not_lt.mp c2
      refine lv_iconst (v := 1) hx hb dX6_isWithin_10 (by decide) ?_
      refine lv_goto (tgt := 15) hx hb dX6_isWithin_11 (by decide) ?_
      rw [hQ]
      refine g_zret F hP hS hlocks hr (by first | rfl | exact g_nb _) dX6_isWithin_15 (by first | exact Nat.le_of_ble_eq_true rfl | omega) (by first | exact Nat.le_of_ble_eq_true rfl | omega) ?_
      exact ⟨by first | exact g_bt ⟨by assumption, by assumption⟩ | (refine g_bf (fun q => ?_); first | exact absurd q.1 (by assumption) | exact absurd q.2 (by assumption)), rfl⟩
