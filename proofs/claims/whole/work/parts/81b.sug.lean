theorem cd_X6_missOf : yX6_missOf.cls ≠ "java/lang/invoke/MethodHandle" ∧ yX6_missOf.cls ≠ "java/lang/invoke/VarHandle" ∧ (parseMethodDescriptor yX6_missOf.desc).map (fun d => d.parameters.length) = some 4 := by decide +kernel
set_option maxHeartbeats 4000000 in
set_option maxRecDepth 100000 in
theorem k_X6_isBetterPair (l : Launch) (A : Nat → Prop) (G : g_C) (w : g_W) (a b a2 b2 P Z : Int) (hp : 1 ≤ P ∧ P ≤ 10000) (hq : 1 ≤ Z ∧ Z ≤ 10000) (ha : 0 ≤ a ∧ a ≤ 120) (hb0 : 0 ≤ b ∧ b ≤ 120) (ha2 : 0 ≤ a2 ∧ a2 ≤ 120) (hb2 : 0 ≤ b2 ∧ b2 ≤ 120) : mI l yX6_isBetterPair wsX6_isBetterPair ({ frames := 2, cells := 0, slots := 0, locals := 63 } : Room) [.int (iL a), .int (iL b), .int (iL a2), .int (iL b2), .int (iL P), .int (iL Z)] A G w (fun r w' => (∃ b0 : Bool, r = g_b b0 ∧ (b0 = true ↔ bet P Z a b a2 b2)) ∧ w' = w) 0 0 := by
  refine g_ofI (cc := cX6_isBetterPair) (maxL := 10) (ret := (some .boolean)) (own := RX6) (by decide) rfl rfl (Nat.le_of_ble_eq_true rfl) ?_
  intro p e R s m args below meth c Q ls hR F hP hS hlocks hr hnm0 hQ hl
  obtain ⟨⟨hx, hb, hml, hown, hts⟩, hK, hZ, hA⟩ := id F
  generalize hH0 : s.heap = H at hP ⊢
  have hS : va_S A s.heap H [] := by rw [← hH0]; exact va_S.rf
  generalize ([] : List Loc) = locs at hS ⊢
  have hl : lv_has ls 10 [(0, .int (iL a)), (1, .int (iL b)), (2, .int (iL a2)), (3, .int (iL b2)), (4, .int (iL P)), (5, .int (iL Z))] := hl
  have o1 := off_bd hp hq ha hb0
  have o2 := off_bd hp hq ha2 hb2
  have m1 := mul_bd (x := offZ P Z a b) (y := b2) o1.2.2.1 o1.2.2.2 hb2.1 hb2.2
  have m2 := mul_bd (x := offZ P Z a2 b2) (y := b) o2.2.2.1 o2.2.2.2 hb0.1 hb0.2
  refine lv_iload_n hx hb dX6_isBetterPair_0 rfl (lv_at hl 0 rfl) ?_
  refine lv_iload_n hx hb dX6_isBetterPair_1 rfl (lv_at hl 1 rfl) ?_
  refine lv_iload hx hb dX6_isBetterPair_2 (lv_at hl 4 rfl) ?_
  refine lv_iload hx hb dX6_isBetterPair_4 (lv_at hl 5 rfl) ?_
  refine g_Si (As := [.int (iL a), .int (iL b), .int (iL P), .int (iL Z)]) (rest := []) F hP hS (k_X6_missOf l A G w a b P Z hp hq ha hb0) (va_cwS 4 hts gX6_isBetterPair_X6_missOf rfl rfl rfl cd_X6_missOf ⟨by rw [hR]; exact Nat.le_of_ble_eq_true rfl, by rw [hR]; exact Nat.le_of_ble_eq_true rfl⟩) rfl hl.1 (Nat.le_of_ble_eq_true rfl) dX6_isBetterPair_6 ⟨by rw [hR]; exact Nat.le_of_ble_eq_true rfl, by rw [hR]; exact Nat.le_of_ble_eq_true rfl⟩ rfl (fun r1 w2 H locs h3 hP hS => ?_)
  have hr1 := h3.1
  rw [h3.2] at hP
  rw [hr1]
  refine lv_i2l hx hb dX6_isBetterPair_9 rfl ?_
  refine lv_topl (fun v4 ev4 => ?_)
  obtain rfl : v4 = zL (offZ P Z a b) := by
    rw [ev4]
    exact iL64 (by omega) (by omega)
  refine lv_iload_n hx hb dX6_isBetterPair_10 rfl (lv_at hl 3 rfl) ?_
  refine lv_i2l hx hb dX6_isBetterPair_11 rfl ?_
  refine lv_topl (fun v5 ev5 => ?_)
  obtain rfl : v5 = zL (b2) := by
    rw [ev5]
    exact iL64 (by omega) (by omega)
  refine lv_lmul hx hb dX6_isBetterPair_12 ?_
  refine lv_topl (fun v6 ev6 => ?_)
  obtain rfl : v6 = zL (offZ P Z a b * b2) := by
    rw [ev6]
    exact zL_mul _ _
  refine lv_lstore (lv' := [(6, .long (zL (offZ P Z a b * b2))), (0, .int (iL a)), (1, .int (iL b)), (2, .int (iL a2)), (3, .int (iL b2)), (4, .int (iL P)), (5, .int (iL Z))]) hx hb dX6_isBetterPair_13 hl (by decide) rfl (fun ls hl => ?_)
  refine lv_iload_n hx hb dX6_isBetterPair_15 rfl (lv_at hl 3 rfl) ?_
  refine lv_iload_n hx hb dX6_isBetterPair_16 rfl (lv_at hl 4 rfl) ?_
  refine lv_iload hx hb dX6_isBetterPair_17 (lv_at hl 5 rfl) ?_
  refine lv_iload hx hb dX6_isBetterPair_19 (lv_at hl 6 rfl) ?_
  refine g_Si (As := [.int (iL a2), .int (iL b2), .int (iL P), .int (iL Z)]) (rest := []) F hP hS (k_X6_missOf l A G w a2 b2 P Z hp hq ha2 hb2) (va_cwS 4 hts gX6_isBetterPair_X6_missOf rfl rfl rfl cd_X6_missOf ⟨by rw [hR]; exact Nat.le_of_ble_eq_true rfl, by rw [hR]; exact Nat.le_of_ble_eq_true rfl⟩) rfl hl.1 (Nat.le_of_ble_eq_true rfl) dX6_isBetterPair_21 ⟨by rw [hR]; exact Nat.le_of_ble_eq_true rfl, by rw [hR]; exact Nat.le_of_ble_eq_true rfl⟩ rfl (fun r7 w8 H locs h9 hP hS => ?_)
  have hr7 := h9.1
  rw [h9.2] at hP
  rw [hr7]
  refine lv_i2l hx hb dX6_isBetterPair_24 rfl ?_
  refine lv_topl (fun v10 ev10 => ?_)
  obtain rfl : v10 = zL (offZ P Z a2 b2) := by
    rw [ev10]
    exact iL64 (by omega) (by omega)
  refine lv_iload_n hx hb dX6_isBetterPair_25 rfl (lv_at hl 2 rfl) ?_
  refine lv_i2l hx hb dX6_isBetterPair_26 rfl ?_
  refine lv_topl (fun v11 ev11 => ?_)
  obtain rfl : v11 = zL (b) := by
    rw [ev11]
    exact iL64 (by omega) (by omega)
  refine lv_lmul hx hb dX6_isBetterPair_27 ?_
  refine lv_topl (fun v12 ev12 => ?_)
  obtain rfl : v12 = zL (offZ P Z a2 b2 * b) := by
    rw [ev12]
    exact zL_mul _ _
  refine lv_lstore (lv' := [(8, .long (zL (offZ P Z a2 b2 * b))), (6, .long (zL (offZ P Z a b * b2))), (0, .int (iL a)), (1, .int (iL b)), (2, .int (iL a2)), (3, .int (iL b2)), (4, .int (iL P)), (5, .int (iL Z))]) hx hb dX6_isBetterPair_28 hl (by decide) rfl (fun ls hl => ?_)
  refine lv_lload hx hb dX6_isBetterPair_30 (lv_at hl 1 rfl) ?_
  refine lv_lload hx hb dX6_isBetterPair_32 (lv_at hl 0 rfl) ?_
  refine W.lcmp hx hb dX6_isBetterPair_34 ?_
  refine lv_if_eq (tgt := 52) hx hb dX6_isBetterPair_35 (by decide) (fun c13 => ?_) (fun c13 => ?_)
  · have c13 := (lg_cmp_eq (zL (offZ P Z a b * b2)) (zL (offZ P Z a2 b2 * b))).mp c13
    rw [zL_eq (a := offZ P Z a b * b2) (b := offZ P Z a2 b2 * b) (by omega) (by omega) (by omega) (by omega)] at c13
    refine lv_iload_n hx hb dX6_isBetterPair_52 rfl (lv_at hl 2 rfl) ?_
    refine lv_iload_n hx hb dX6_isBetterPair_53 rfl (lv_at hl 3 rfl) ?_
    refine lv_iadd hx hb dX6_isBetterPair_54 ?_
    refine lv_topi (fun v14 ev14 => ?_)
    obtain rfl : v14 = iL (a + b) := by
      rw [ev14]
      exact iL_add _ _
    refine lv_iload_n hx hb dX6_isBetterPair_55 rfl (lv_at hl 4 rfl) ?_
    refine lv_iload_n hx hb dX6_isBetterPair_56 rfl (lv_at hl 5 rfl) ?_
    refine lv_iadd hx hb dX6_isBetterPair_57 ?_
    refine lv_topi (fun v15 ev15 => ?_)
    obtain rfl : v15 = iL (a2 + b2) := by
      rw [ev15]
      exact iL_add _ _
    refine lv_icmp_eq (tgt := 76) hx hb dX6_isBetterPair_58 (by decide) (fun c16 => ?_) (fun c16 => ?_)
    · rw [iL_eq (a := a + b) (b := a2 + b2) (by omega) (by omega) (by omega) (by omega)] at c16
      refine lv_iload_n hx hb dX6_isBetterPair_76 rfl (lv_at hl 2 rfl) ?_
      refine lv_iload_n hx hb dX6_isBetterPair_77 rfl (lv_at hl 4 rfl) ?_
      refine lv_icmp_ge (tgt := 85) hx hb dX6_isBetterPair_78 (by decide) (fun c17 => ?_) (fun c17 => ?_)
      · rw [iL_le (a := a2) (b := a) (by omega) (by omega) (by omega) (by omega)] at c17
        refine lv_iconst (v := 0) hx hb dX6_isBetterPair_85 (by decide) ?_
        rw [hQ]
        refine g_zret F hP hS hlocks hr (by decide) dX6_isBetterPair_86 (by first | exact Nat.le_of_ble_eq_true rfl | omega) (by first | exact Nat.le_of_ble_eq_true rfl | omega) ?_
        exact ⟨⟨false, rfl, ⟨fun q => (nomatch q), fun q => by unfold bet at q; omega⟩⟩, rfl⟩
      · rw [iL_le (a := a2) (b := a) (by omega) (by omega) (by omega) (by omega)] at c17
        refine lv_iconst (v := 1) hx hb dX6_isBetterPair_81 (by decide) ?_
        refine lv_goto (tgt := 86) hx hb dX6_isBetterPair_82 (by decide) ?_
        rw [hQ]
        refine g_zret F hP hS hlocks hr (by decide) dX6_isBetterPair_86 (by first | exact Nat.le_of_ble_eq_true rfl | omega) (by first | exact Nat.le_of_ble_eq_true rfl | omega) ?_
        exact ⟨⟨true, rfl, ⟨fun _ => by unfold bet; omega, fun _ => rfl⟩⟩, rfl⟩
    · rw [iL_eq (a := a + b) (b := a2 + b2) (by omega) (by omega) (by omega) (by omega)] at c16
      refine lv_iload_n hx hb dX6_isBetterPair_61 rfl (lv_at hl 2 rfl) ?_
      refine lv_iload_n hx hb dX6_isBetterPair_62 rfl (lv_at hl 3 rfl) ?_
      refine lv_iadd hx hb dX6_isBetterPair_63 ?_
      refine lv_topi (fun v18 ev18 => ?_)
      obtain rfl : v18 = iL (a + b) := by
        rw [ev18]
        exact iL_add _ _
      refine lv_iload_n hx hb dX6_isBetterPair_64 rfl (lv_at hl 4 rfl) ?_
      refine lv_iload_n hx hb dX6_isBetterPair_65 rfl (lv_at hl 5 rfl) ?_
      refine lv_iadd hx hb dX6_isBetterPair_66 ?_
      refine lv_topi (fun v19 ev19 => ?_)
      obtain rfl : v19 = iL (a2 + b2) := by
        rw [ev19]
        exact iL_add _ _
      refine lv_icmp_ge (tgt := 74) hx hb dX6_isBetterPair_67 (by decide) (fun c20 => ?_) (fun c20 => ?_)
      · rw [iL_le (a := a2 + b2) (b := a + b) (by omega) (by omega) (by omega) (by omega)] at c20
        refine lv_iconst (v := 0) hx hb dX6_isBetterPair_74 (by decide) ?_
        rw [hQ]
        refine g_zret F hP hS hlocks hr (by decide) dX6_isBetterPair_75 (by first | exact Nat.le_of_ble_eq_true rfl | omega) (by first | exact Nat.le_of_ble_eq_true rfl | omega) ?_
        exact ⟨⟨false, rfl, ⟨fun q => (nomatch q), fun q => by unfold bet at q; omega⟩⟩, rfl⟩
      · rw [iL_le (a := a2 + b2) (b := a + b) (by omega) (by omega) (by omega) (by omega)] at c20
        refine lv_iconst (v := 1) hx hb dX6_isBetterPair_70 (by decide) ?_
        refine lv_goto (tgt := 75) hx hb dX6_isBetterPair_71 (by decide) ?_
        rw [hQ]
        refine g_zret F hP hS hlocks hr (by decide) dX6_isBetterPair_75 (by first | exact Nat.le_of_ble_eq_true rfl | omega) (by first | exact Nat.le_of_ble_eq_true rfl | omega) ?_
        exact ⟨⟨true, rfl, ⟨fun _ => by unfold bet; omega, fun _ => rfl⟩⟩, rfl⟩
  · have c13 : ¬ ((zL (offZ P Z a b * b2)) = (zL (offZ P Z a2 b2 * b))) := fun h => c13 ((lg_cmp_eq (zL (offZ P Z a b * b2)) (zL (offZ P Z a2 b2 * b))).mpr h)
    rw [zL_eq (a := offZ P Z a b * b2) (b := offZ P Z a2 b2 * b) (by omega) (by omega) (by omega) (by omega)] at c13
    refine lv_lload hx hb dX6_isBetterPair_38 (lv_at hl 1 rfl) ?_
    refine lv_lload hx hb dX6_isBetterPair_40 (lv_at hl 0 rfl) ?_
    refine W.lcmp hx hb dX6_isBetterPair_42 ?_
    refine lv_if_ge (tgt := 50) hx hb dX6_isBetterPair_43 (by decide) (fun c21 => ?_) (fun c21 => ?_)
    · have c21 := (lg_cmp_ge (zL (offZ P Z a b * b2)) (zL (offZ P Z a2 b2 * b))).mp c21
      rw [zL_le (a := offZ P Z a2 b2 * b) (b := offZ P Z a b * b2) (by omega) (by omega) (by omega) (by omega)] at c21
      refine lv_iconst (v := 0) hx hb dX6_isBetterPair_50 (by decide) ?_
      rw [hQ]
      refine g_zret F hP hS hlocks hr (by decide) dX6_isBetterPair_51 (by first | exact Nat.le_of_ble_eq_true rfl | omega) (by first | exact Nat.le_of_ble_eq_true rfl | omega) ?_
      exact ⟨⟨false, rfl, ⟨fun q => (nomatch q), fun q => by unfold bet at q; omega⟩⟩, rfl⟩
    · have c21 : ¬ ((zL (offZ P Z a2 b2 * b)) ≤ (zL (offZ P Z a b * b2))) := fun h => c21 ((lg_cmp_ge (zL (offZ P Z a b * b2)) (zL (offZ P Z a2 b2 * b))).mpr h)
      rw [zL_le (a := offZ P Z a2 b2 * b) (b := offZ P Z a b * b2) (by omega) (by omega) (by omega) (by omega)] at c21
      refine lv_iconst (v := 1) hx hb dX6_isBetterPair_46 (by decide) ?_
      refine lv_goto (tgt := 51) hx hb dX6_isBetterPair_47 (by decide) ?_
      rw [hQ]
      refine g_zret F hP hS hlocks hr (by decide) dX6_isBetterPair_51 (by first | exact Nat.le_of_ble_eq_true rfl | omega) (by first | exact Nat.le_of_ble_eq_true rfl | omega) ?_
      exact ⟨⟨true, rfl, ⟨fun _ => by unfold bet; omega, fun _ => rfl⟩⟩, rfl⟩
