theorem cd_L_common : yL_common.cls ≠ "java/lang/invoke/MethodHandle" ∧ yL_common.cls ≠ "java/lang/invoke/VarHandle" ∧ (parseMethodDescriptor yL_common.desc).map (fun d => d.parameters.length) = some 2 := by decide +kernel
theorem tm_lt (x : Int) {y : Int} (h : y ≠ 0) : (x.tmod y).natAbs < y.natAbs := by
  rw [Int.natAbs_tmod]
  exact Nat.mod_lt _ (by omega)
theorem eu_tm {b0 k : Nat} {x y : Int} (h : eu_I b0 k x.natAbs y.natAbs) (hy : y ≠ 0) : eu_I b0 (k + 1) y.natAbs (x.tmod y).natAbs := by
  rw [Int.natAbs_tmod]
  exact eu_step h (by omega)
set_option maxHeartbeats 4000000 in
set_option maxRecDepth 100000 in
theorem k_common_d (l : Launch) (A : Nat → Prop) (G : g_C) (w : g_W) (b0 : Nat) (hb0 : b0 < 1152921504606846976) : ∀ (n k : Nat), k + n = 100 → ∀ (x y : Int), x.natAbs < 1125899906842624 → y.natAbs < 1125899906842624 → eu_I b0 k x.natAbs y.natAbs → mL l yL_common wsL_common ({ frames := n, cells := 0, slots := 0, locals := 23 * n } : Room) [.long (zL x), .long (zL y)] A G w (fun r w' => r = zL (Int.gcd x y : Int) ∧ w' = w) 0 0 := by
  intro n
  induction n with
  | zero =>
    intro k hk x y _ _ hE
    have := eu_end hE (by omega) (by omega)
    omega
  | succ n ih =>
    intro k hk x y hx1 hy1 hE
    refine g_ofL (cc := cL_common) (maxL := 4) (ret := (some .long)) (own := RL) (by decide) rfl rfl (Nat.le_of_ble_eq_true rfl) ?_
    intro p e R s m args below meth c Q ls hR F hP hS hlocks hr hnm0 hQ hl
    obtain ⟨⟨hx, hb, hml, hown, hts⟩, hK, hZ, hA⟩ := id F
    generalize hH0 : s.heap = H at hP ⊢
    have hS : va_S A s.heap H [] := by rw [← hH0]; exact va_S.rf
    generalize ([] : List Loc) = locs at hS ⊢
    have hl : lv_has ls 4 [(0, .long (zL x)), (2, .long (zL y))] := hl
    refine lv_lload_n hx hb dL_common_0 rfl (lv_at hl 1 rfl) ?_
    refine lv_lconst (v := 0) hx hb dL_common_1 (by decide) ?_
    refine W.lcmp hx hb dL_common_2 ?_
    refine lv_if_ne (tgt := 21) hx hb dL_common_3 (by decide) (fun c1 => ?_) (fun c1 => ?_)
    · have c1 : ¬ ((zL y) = 0) := fun h => c1 ((lg_cmp_eq (zL y) 0).mpr h)
      have y0 : y ≠ 0 := fun q => c1 (by rw [q]; rfl)
      refine lv_lload_n hx hb dL_common_21 rfl (lv_at hl 1 rfl) ?_
      refine lv_lload_n hx hb dL_common_22 rfl (lv_at hl 0 rfl) ?_
      refine lv_lload_n hx hb dL_common_23 rfl (lv_at hl 1 rfl) ?_
      refine lv_lrem hx hb dL_common_24 (fun q => y0 ((zL_eq0 (by omega) (by omega)).mp q)) ?_
      refine lv_topl (fun v2 ev2 => ?_)
      obtain rfl : v2 = zL (x.tmod y) := by
        rw [ev2]
        exact zL_rem (by omega) (by omega) (by omega) (by omega)
      have tb := tm_lt x y0
      refine g_Sl (As := [.long (zL y), .long (zL (x.tmod y))]) (rest := []) F hP hS (ih (k + 1) (by omega) y (x.tmod y) (by omega) (by omega) (eu_tm hE y0)) (va_cwS 2 hts gL_common_L_common rfl rfl rfl cd_L_common ⟨by rw [hR]; exact Nat.le_refl _, by rw [hR]; show 8 + (4 + 11) + 23 * n ≤ 23 * (n + 1); omega⟩) rfl hl.1 (Nat.le_of_ble_eq_true rfl) dL_common_25 ⟨by rw [hR]; exact Nat.le_refl _, by rw [hR]; exact Nat.le_refl _⟩ rfl (fun r1 w1 H locs h1 hP hS => ?_)
      rw [h1.2] at hP
      rw [h1.1, gcd_tm x y]
      rw [hQ]
      refine g_lret F hP hS hlocks hr dL_common_28 (by first | exact Nat.le_of_ble_eq_true rfl | omega) (by first | exact Nat.le_of_ble_eq_true rfl | omega) ?_
      exact ⟨rfl, rfl⟩
    · have c1 := (lg_cmp_eq (zL y) 0).mp c1
      have y0 : y = 0 := (zL_eq0 (by omega) (by omega)).mp c1
      refine lv_lload_n hx hb dL_common_6 rfl (lv_at hl 0 rfl) ?_
      refine lv_lconst (v := 0) hx hb dL_common_7 (by decide) ?_
      refine W.lcmp hx hb dL_common_8 ?_
      refine lv_if_ge (tgt := 17) hx hb dL_common_9 (by decide) (fun c3 => ?_) (fun c3 => ?_)
      · have c3 := (lg_cmp_ge (zL x) 0).mp c3
        have x0 : 0 ≤ x := (zL_ge0 (by omega) (by omega)).mp c3
        refine lv_lload_n hx hb dL_common_17 rfl (lv_at hl 0 rfl) ?_
        refine lv_goto (tgt := 28) hx hb dL_common_18 (by decide) ?_
        rw [hQ]
        refine g_lret F hP hS hlocks hr dL_common_28 (by first | exact Nat.le_of_ble_eq_true rfl | omega) (by first | exact Nat.le_of_ble_eq_true rfl | omega) ?_
        exact ⟨by rw [y0, Int.gcd_zero_right, Int.natAbs_of_nonneg x0], rfl⟩
      · have c3 : ¬ (0 ≤ (zL x)) := fun h => c3 ((lg_cmp_ge (zL x) 0).mpr h)
        have x0 : ¬ 0 ≤ x := fun q => c3 ((zL_ge0 (by omega) (by omega)).mpr q)
        refine lv_lload_n hx hb dL_common_12 rfl (lv_at hl 0 rfl) ?_
        refine lv_lneg hx hb dL_common_13 ?_
        refine lv_topl (fun v4 ev4 => ?_)
        obtain rfl : v4 = zL (-x) := by
          rw [ev4]
          exact zL_neg x
        refine lv_goto (tgt := 28) hx hb dL_common_14 (by decide) ?_
        rw [hQ]
        refine g_lret F hP hS hlocks hr dL_common_28 (by first | exact Nat.le_of_ble_eq_true rfl | omega) (by first | exact Nat.le_of_ble_eq_true rfl | omega) ?_
        exact ⟨by rw [y0, Int.gcd_zero_right]; congr 1; omega, rfl⟩
theorem k_L_common (l : Launch) (A : Nat → Prop) (G : g_C) (w : g_W) (x y : Int) (hx1 : x.natAbs < 1125899906842624) (hy1 : y.natAbs < 1125899906842624) : mL l yL_common wsL_common ({ frames := 100, cells := 0, slots := 0, locals := 2300 } : Room) [.long (zL x), .long (zL y)] A G w (fun r w' => r = zL (Int.gcd x y : Int) ∧ w' = w) 0 0 :=
  k_common_d l A G w y.natAbs (by omega) 100 0 rfl x y hx1 hy1 (Or.inl ⟨rfl, rfl⟩)
