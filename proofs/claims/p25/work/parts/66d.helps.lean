theorem gb_or0 : ∀ b1 b2 : Bool, g_b b1 + g_b b2 ≤ 0 → (b1 || b2) = false := by decide
theorem gb_or1 : ∀ b1 b2 : Bool, ¬ g_b b1 + g_b b2 ≤ 0 → (b1 || b2) = true := by decide
set_option maxHeartbeats 4000000 in
set_option maxRecDepth 100000 in
theorem k_L_isRing (l : Launch) (A : Nat → Prop) (G : g_C) (w : g_W) (k ga me x y : Nat) (Fg Fm : Nat → Int32) (b1 b2 : Bool) (hga : w ga = some (.inl (G.2.1 0, 80, .inl Fg))) (hme : w me = some (.inl (G.2.1 0, 32, .inl Fm))) (hk : k < 16) (hx2 : x < 16) (hy2 : y < 16) (hfx : Fm (2 * k) = nI x) (hfy : Fm (2 * k + 1) = nI y) (h1 : Fg (5 * x + 4) = g_b b1) (h2 : Fg (5 * y + 4) = g_b b2) : mI l yL_isRing wsL_isRing ({ frames := 0, cells := 0, slots := 0, locals := 0 } : Room) [.int (nI k), .ref ga, .ref me] A G w (fun r w' => r = g_b (b1 || b2) ∧ w' = w) 0 0 := by
  refine g_ofI (cc := cL_isRing) (maxL := 3) (ret := (some .boolean)) (own := RL) (by decide) rfl rfl (Nat.le_of_ble_eq_true rfl) ?_
  intro p e R s m args below meth c Q ls hR F hP hS hlocks hr hnm0 hQ hl
  obtain ⟨⟨hx, hb, hml, hown, hts⟩, hK, hZ, hA⟩ := id F
  generalize hH0 : s.heap = H at hP ⊢
  have hS : va_S A s.heap H [] := by rw [← hH0]; exact va_S.rf
  generalize ([] : List Loc) = locs at hS ⊢
  have hl : lv_has ls 3 [(0, .int (nI k)), (1, .ref ga), (2, .ref me)] := hl
  refine lv_aload_n hx hb dL_isRing_0 rfl (lv_at hl 1 rfl) ?_
  refine lv_iconst (v := 5) hx hb dL_isRing_1 (by decide) ?_
  refine lv_aload_n hx hb dL_isRing_2 rfl (lv_at hl 2 rfl) ?_
  refine lv_iconst (v := 2) hx hb dL_isRing_3 (by decide) ?_
  refine lv_iload_n hx hb dL_isRing_4 rfl (lv_at hl 0 rfl) ?_
  refine lv_imul hx hb dL_isRing_5 ?_
  refine lv_topi (fun v1 ev1 => ?_)
  obtain rfl : v1 = nI (2 * k) := by
    rw [ev1]
    exact pk_mul 2 k
  refine g_iald F hP hme (vp_in_nI (by omega) (by omega)) dL_isRing_6 ?_
  refine lv_topi (fun v2 ev2 => ?_)
  obtain rfl : v2 = nI x := by
    rw [ev2]
    rw [nI_clamp (by omega)]; exact hfx
  refine lv_imul hx hb dL_isRing_7 ?_
  refine lv_topi (fun v3 ev3 => ?_)
  obtain rfl : v3 = nI (5 * x) := by
    rw [ev3]
    exact pk_mul 5 x
  refine lv_iconst (v := 4) hx hb dL_isRing_8 (by decide) ?_
  refine lv_iadd hx hb dL_isRing_9 ?_
  refine lv_topi (fun v4 ev4 => ?_)
  obtain rfl : v4 = nI (5 * x + 4) := by
    rw [ev4]
    exact nI_add _ 4
  refine g_iald F hP hga (vp_in_nI (by omega) (by omega)) dL_isRing_10 ?_
  refine lv_topi (fun v5 ev5 => ?_)
  obtain rfl : v5 = g_b b1 := by
    rw [ev5]
    rw [nI_clamp (by omega)]; exact h1
  refine lv_aload_n hx hb dL_isRing_11 rfl (lv_at hl 1 rfl) ?_
  refine lv_iconst (v := 5) hx hb dL_isRing_12 (by decide) ?_
  refine lv_aload_n hx hb dL_isRing_13 rfl (lv_at hl 2 rfl) ?_
  refine lv_iconst (v := 2) hx hb dL_isRing_14 (by decide) ?_
  refine lv_iload_n hx hb dL_isRing_15 rfl (lv_at hl 0 rfl) ?_
  refine lv_imul hx hb dL_isRing_16 ?_
  refine lv_topi (fun v6 ev6 => ?_)
  obtain rfl : v6 = nI (2 * k) := by
    rw [ev6]
    exact pk_mul 2 k
  refine lv_iconst (v := 1) hx hb dL_isRing_17 (by decide) ?_
  refine lv_iadd hx hb dL_isRing_18 ?_
  refine lv_topi (fun v7 ev7 => ?_)
  obtain rfl : v7 = nI (2 * k + 1) := by
    rw [ev7]
    exact nI_add _ 1
  refine g_iald F hP hme (vp_in_nI (by omega) (by omega)) dL_isRing_19 ?_
  refine lv_topi (fun v8 ev8 => ?_)
  obtain rfl : v8 = nI y := by
    rw [ev8]
    rw [nI_clamp (by omega)]; exact hfy
  refine lv_imul hx hb dL_isRing_20 ?_
  refine lv_topi (fun v9 ev9 => ?_)
  obtain rfl : v9 = nI (5 * y) := by
    rw [ev9]
    exact pk_mul 5 y
  refine lv_iconst (v := 4) hx hb dL_isRing_21 (by decide) ?_
  refine lv_iadd hx hb dL_isRing_22 ?_
  refine lv_topi (fun v10 ev10 => ?_)
  obtain rfl : v10 = nI (5 * y + 4) := by
    rw [ev10]
    exact nI_add _ 4
  refine g_iald F hP hga (vp_in_nI (by omega) (by omega)) dL_isRing_23 ?_
  refine lv_topi (fun v11 ev11 => ?_)
  obtain rfl : v11 = g_b b2 := by
    rw [ev11]
    rw [nI_clamp (by omega)]; exact h2
  refine lv_iadd hx hb dL_isRing_24 ?_
  refine lv_topi (fun v12 ev12 => ?_)
  obtain rfl : v12 = g_b b1 + g_b b2 := by
    exact ev12
  refine lv_if_le (tgt := 32) hx hb dL_isRing_25 (by decide) (fun c13 => ?_) (fun c13 => ?_)
  · have yc13 : (b1 || b2) = false := gb_or0 b1 b2 c13
    refine lv_iconst (v := 0) hx hb dL_isRing_32 (by decide) ?_
    rw [hQ]
    refine g_zret F hP hS hlocks hr (by first | rfl | exact g_nb _) dL_isRing_33 (by first | exact Nat.le_of_ble_eq_true rfl | omega) (by first | exact Nat.le_of_ble_eq_true rfl | omega) ?_
    exact ⟨by rw [yc13]; rfl, rfl⟩
  · have yc13 : (b1 || b2) = true := gb_or1 b1 b2 c13
    refine lv_iconst (v := 1) hx hb dL_isRing_28 (by decide) ?_
    refine lv_goto (tgt := 33) hx hb dL_isRing_29 (by decide) ?_
    rw [hQ]
    refine g_zret F hP hS hlocks hr (by first | rfl | exact g_nb _) dL_isRing_33 (by first | exact Nat.le_of_ble_eq_true rfl | omega) (by first | exact Nat.le_of_ble_eq_true rfl | omega) ?_
    exact ⟨by rw [yc13]; rfl, rfl⟩
