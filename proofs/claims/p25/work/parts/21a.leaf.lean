set_option maxHeartbeats 4000000 in
set_option maxRecDepth 100000 in
/-- a new fraction is 0 / 1 -/
theorem k_X0_init (l : Launch) (A : Nat → Prop) (G : g_C) (w : g_W) (h : Nat) (n0 d0 : Int64) (hf : w h = some (.inr (1, [.long n0, .long d0]))) : mV l yX0_init wsX0_init ({ frames := 1, cells := 0, slots := 0, locals := 40 } : Room) [.ref h] A G w (fun w' => w' = g_up w h (.inr (1, [.long 0, .long 1]))) 0 0 := by
  refine g_ofV (cc := cX0_init) (maxL := 1) (ret := none) (own := RX0) (by decide) rfl rfl (Nat.le_of_ble_eq_true rfl) ?_
  intro p e R s m args below meth c Q ls hR F hP hS hlocks hr hnm0 hQ hl
  obtain ⟨⟨hx, hb, hml, hown, hts⟩, hK, hZ, hA⟩ := id F
  generalize hH0 : s.heap = H at hP ⊢
  have hS : va_S A s.heap H [] := by rw [← hH0]; exact va_S.rf
  generalize ([] : List Loc) = locs at hS ⊢
  have hl : lv_has ls 1 [(0, .ref h)] := hl
  have iX0 : ∀ w ∈ u_ws RX0 TX0 2, w ∈ wsX0_init := fun w h => List.mem_cons_of_mem _ (List.mem_append_right _ (h))
  refine lv_aload_n hx hb dX0_init_0 rfl (lv_at hl 0 rfl) ?_
  refine W.objInit hx hb hown (hts _ (List.mem_cons_of_mem _ (List.mem_append_left _ (List.mem_of_getElem? (i := 0) rfl)))) (hts _ (List.mem_cons_of_mem _ (List.mem_append_left _ (List.mem_of_getElem? (i := 1) rfl)))) (hts _ (List.mem_cons_of_mem _ (List.mem_append_left _ (List.mem_of_getElem? (i := 2) rfl)))) rfl (by rw [hml]; exact hl.1) rfl dX0_init_1 (by rw [hR]; exact Nat.le_of_ble_eq_true rfl) (by rw [hR]; exact Nat.le_of_ble_eq_true rfl) ?_
  show W p l e R s m args below meth c H locs _ _ Q (F0 m 4 ls [])
  refine lv_aload_n hx hb dX0_init_4 rfl (lv_at hl 0 rfl) ?_
  refine lv_lconst (v := 0) hx hb dX0_init_5 (by decide) ?_
  refine g_put F hP hS (C := RX0) (T := TX0) (N := 2) (v := .long 0) (ty := .long) iX0 tyX0 tyX0_ok nmX0 hf rfl 0 (by decide) (List.mem_cons_of_mem _ (List.mem_append_left _ (List.mem_of_getElem? (i := 3) rfl))) (fun _ h9 => h9) rfl (by decide +kernel) rfl rfl (by show 0 < 2; decide) dX0_init_6 (fun H locs hP hS => ?_)
  obtain ⟨w1, ew1⟩ : ∃ z, z = g_up w h (.inr (1, [.long 0, .long d0])) := ⟨_, rfl⟩
  have hP : g_P A G w1 H := by rw [ew1]; exact hP
  have f2 : w1 h = some (.inr (1, [.long 0, .long d0])) := by rw [ew1]; exact g_up_s _ _ _
  refine lv_aload_n hx hb dX0_init_9 rfl (lv_at hl 0 rfl) ?_
  refine lv_lconst (v := 1) hx hb dX0_init_10 (by decide) ?_
  refine g_put F hP hS (C := RX0) (T := TX0) (N := 2) (v := .long 1) (ty := .long) iX0 tyX0 tyX0_ok nmX0 f2 rfl 1 (by decide) (List.mem_cons_of_mem _ (List.mem_append_left _ (List.mem_of_getElem? (i := 4) rfl))) (fun _ h9 => h9) rfl (by decide +kernel) rfl rfl (by show 1 < 2; decide) dX0_init_11 (fun H locs hP hS => ?_)
  obtain ⟨w3, ew3⟩ : ∃ z, z = g_up w1 h (.inr (1, [.long 0, .long 1])) := ⟨_, rfl⟩
  have hP : g_P A G w3 H := by rw [ew3]; exact hP
  have f4 : w3 h = some (.inr (1, [.long 0, .long 1])) := by rw [ew3]; exact g_up_s _ _ _
  rw [hQ]
  refine g_vret F hP hS hlocks hr dX0_init_14 (by first | exact Nat.le_of_ble_eq_true rfl | omega) (by first | exact Nat.le_of_ble_eq_true rfl | omega) ?_
  simp only [ew3, ew1, g_up_up]

set_option maxHeartbeats 4000000 in
set_option maxRecDepth 100000 in
/-- the greatest common divisor -/
theorem k_X0_commonDivisor (l : Launch) (A : Nat → Prop) (G : g_C) (w : g_W) (a b : Nat) (ha : a < 1152921504606846976) (hb0 : b < 1152921504606846976) : mL l yX0_commonDivisor wsX0_commonDivisor ({ frames := 0, cells := 0, slots := 0, locals := 0 } : Room) [.long (lN a), .long (lN b)] A G w (fun r w' => r = lN (Nat.gcd a b) ∧ w' = w) 0 0 := by
  refine g_ofL (cc := cX0_commonDivisor) (maxL := 11) (ret := (some .long)) (own := RX0) (by decide) rfl rfl (Nat.le_of_ble_eq_true rfl) ?_
  intro p e R s m args below meth c Q ls hR F hP hS hlocks hr hnm0 hQ hl
  obtain ⟨⟨hx, hb, hml, hown, hts⟩, hK, hZ, hA⟩ := id F
  generalize hH0 : s.heap = H at hP ⊢
  have hS : va_S A s.heap H [] := by rw [← hH0]; exact va_S.rf
  generalize ([] : List Loc) = locs at hS ⊢
  have hl : lv_has ls 11 [(0, .long (lN a)), (2, .long (lN b))] := hl
  refine lv_lload_n hx hb dX0_commonDivisor_0 rfl (lv_at hl 0 rfl) ?_
  refine lv_lstore (lv' := [(4, .long (lN a)), (0, .long (lN a)), (2, .long (lN b))]) hx hb dX0_commonDivisor_1 hl (by decide) rfl (fun ls hl => ?_)
  refine lv_lload_n hx hb dX0_commonDivisor_3 rfl (lv_at hl 2 rfl) ?_
  refine lv_lstore (lv' := [(6, .long (lN b)), (4, .long (lN a)), (0, .long (lN a)), (2, .long (lN b))]) hx hb dX0_commonDivisor_4 hl (by decide) rfl (fun ls hl => ?_)
  refine lv_iconst (v := 0) hx hb dX0_commonDivisor_6 (by decide) ?_
  refine lv_istore (lv' := [(8, .int 0), (6, .long (lN b)), (4, .long (lN a)), (0, .long (lN a)), (2, .long (lN b))]) hx hb dX0_commonDivisor_7 hl (by decide) rfl (fun ls hl => ?_)
  have L9 : ∀ (n : Nat) (a1 : Nat) (b1 : Nat) (k : Nat) (H : Heap) (locs : List Loc) (ls : Array Slot), 101 ≤ k + n → (Nat.gcd a1 b1 = Nat.gcd a b) → (a1 < 1152921504606846976 ∧ b1 < 1152921504606846976) → (eu_I b k a1 b1) → (k ≤ 100) → g_P A G w H → va_S A s.heap H locs → lv_has ls 11 [(8, .int (nI k)), (6, .long (lN b1)), (4, .long (lN a1))] → W p l e R s m args below meth c H locs (0) (0) Q (F0 m 9 ls []) := by
    intro n
    induction n with
    | zero =>
      intro a1 b1 k H locs ls hfu h1 h2 h3 hk hP hS hl
      exact absurd hfu (by omega)
    | succ n ih_L9 =>
      intro a1 b1 k H locs ls hfu h1 h2 h3 hk hP hS hl
      refine lv_lload hx hb dX0_commonDivisor_9 (lv_at hl 1 rfl) ?_
      refine lv_lconst (v := 0) hx hb dX0_commonDivisor_11 (by decide) ?_
      refine W.lcmp hx hb dX0_commonDivisor_12 ?_
      refine lv_if_eq (tgt := 44) hx hb dX0_commonDivisor_13 (by decide) (fun c1 => ?_) (fun c1 => ?_)
      · have c1 := (lg_cmp_eq (lN b1) 0).mp c1
        have z1 : b1 = 0 := by rw [show (0 : Int64) = lN 0 from rfl] at c1; exact (pk_lEQ (by omega) (by omega)).mp c1
        refine lv_lload hx hb dX0_commonDivisor_44 (lv_at hl 2 rfl) ?_
        rw [hQ]
        refine g_lret F hP hS hlocks hr dX0_commonDivisor_46 (by first | exact Nat.le_of_ble_eq_true rfl | omega) (by first | exact Nat.le_of_ble_eq_true rfl | omega) ?_
        exact ⟨by rw [← h1, z1, Nat.gcd_zero_right], rfl⟩
      · have c1 : ¬ ((lN b1) = 0) := fun h => c1 ((lg_cmp_eq (lN b1) 0).mpr h)
        have z1 : b1 ≠ 0 := fun q => c1 (by rw [q]; rfl)
        refine lv_iload hx hb dX0_commonDivisor_16 (lv_at hl 0 rfl) ?_
        refine lv_bipush (v := 100) hx hb dX0_commonDivisor_18 (by decide) ?_
        refine lv_icmp_ge (tgt := 44) hx hb dX0_commonDivisor_20 (by decide) (fun c2 => ?_) (fun c2 => ?_)
        · exact absurd c2 (nI_ge (a := k) (b := 100) (eu_end h3 hb0 hk) (by decide))
        · refine lv_lload hx hb dX0_commonDivisor_23 (lv_at hl 2 rfl) ?_
          refine lv_lload hx hb dX0_commonDivisor_25 (lv_at hl 1 rfl) ?_
          refine lv_lrem hx hb dX0_commonDivisor_27 (fun q => c1 q) ?_
          refine lv_topl (fun v3 ev3 => ?_)
          obtain rfl : v3 = lN (a1 % b1) := by
            rw [ev3]
            exact pk_lRem (by omega) (by omega) (by omega)
          refine lv_lstore (lv' := [(9, .long (lN (a1 % b1))), (8, .int (nI k)), (6, .long (lN b1)), (4, .long (lN a1))]) hx hb dX0_commonDivisor_28 hl (by decide) rfl (fun ls hl => ?_)
          refine lv_lload hx hb dX0_commonDivisor_30 (lv_at hl 2 rfl) ?_
          refine lv_lstore (lv' := [(4, .long (lN b1)), (9, .long (lN (a1 % b1))), (8, .int (nI k)), (6, .long (lN b1))]) hx hb dX0_commonDivisor_32 hl (by decide) rfl (fun ls hl => ?_)
          refine lv_lload hx hb dX0_commonDivisor_34 (lv_at hl 1 rfl) ?_
          refine lv_lstore (lv' := [(6, .long (lN (a1 % b1))), (4, .long (lN b1)), (9, .long (lN (a1 % b1))), (8, .int (nI k))]) hx hb dX0_commonDivisor_36 hl (by decide) rfl (fun ls hl => ?_)
          obtain ⟨i4, ei4⟩ : ∃ y : Int32, y = nI k + (1) := ⟨_, rfl⟩
          refine lv_iinc (v := i4) (lv' := [(8, .int i4), (6, .long (lN (a1 % b1))), (4, .long (lN b1)), (9, .long (lN (a1 % b1)))]) hx hb dX0_commonDivisor_38 hl (k := 3) rfl (by rw [ei4]; rfl) (by decide) rfl (fun ls hl => ?_)
          obtain rfl : i4 = nI (k + 1) := by
            rw [ei4]
            exact nI_1 k
          refine lv_goto (tgt := 9) hx hb dX0_commonDivisor_41 (by decide) ?_
          exact ih_L9 b1 (a1 % b1) (k + 1)  H locs ls (by omega) (by rw [← h1, Nat.gcd_comm a1 b1, Nat.gcd_rec b1 a1, Nat.gcd_comm]) (⟨h2.2, Nat.lt_of_le_of_lt (Nat.mod_le _ _) h2.1⟩) (eu_step h3 z1) (eu_end h3 hb0 hk) hP hS (lv_sub hl [0, 1, 2] rfl)
  exact L9 101 a b 0  H locs ls (by omega) (rfl) (⟨ha, hb0⟩) (Or.inl ⟨rfl, rfl⟩) (by decide) hP hS (lv_sub hl [0, 1, 2] rfl)

theorem cd_X0_commonDivisor : yX0_commonDivisor.cls ≠ "java/lang/invoke/MethodHandle" ∧ yX0_commonDivisor.cls ≠ "java/lang/invoke/VarHandle" ∧ (parseMethodDescriptor yX0_commonDivisor.desc).map (fun d => d.parameters.length) = some 2 := by decide +kernel
set_option maxHeartbeats 4000000 in
set_option maxRecDepth 100000 in
/-- x / y in lowest terms -/
theorem k_X0_become (l : Launch) (A : Nat → Prop) (G : g_C) (w : g_W) (h : Nat) (x y : Int) (n0 d0 : Int64) (hf : w h = some (.inr (1, [.long n0, .long d0]))) (hy : y ≠ 0) (hbx : x.natAbs < 1125899906842624) (hby : y.natAbs < 1125899906842624) : mV l yX0_become wsX0_become ({ frames := 1, cells := 0, slots := 0, locals := 40 } : Room) [.ref h, .long (zL x), .long (zL y)] A G w (fun w' => w' = g_up w h (.inr (1, [.long (zL (fN x y)), .long (zL (fD x y))]))) 0 0 := by
  refine g_ofV (cc := cX0_become) (maxL := 9) (ret := none) (own := RX0) (by decide) rfl rfl (Nat.le_of_ble_eq_true rfl) ?_
  intro p e R s m args below meth c Q ls hR F hP hS hlocks hr hnm0 hQ hl
  obtain ⟨⟨hx, hb, hml, hown, hts⟩, hK, hZ, hA⟩ := id F
  generalize hH0 : s.heap = H at hP ⊢
  have hS : va_S A s.heap H [] := by rw [← hH0]; exact va_S.rf
  generalize ([] : List Loc) = locs at hS ⊢
  have hl : lv_has ls 9 [(0, .ref h), (1, .long (zL x)), (3, .long (zL y))] := hl
  have iX0 : ∀ w ∈ u_ws RX0 TX0 2, w ∈ wsX0_become := fun w h => List.mem_cons_of_mem _ (List.mem_append_right _ (h))
  have hg1 := fG_abs x y
  have hg2 := fG_le (x := x) hy
  have hg3 := fG_ne (x := x) hy
  refine lv_lload_n hx hb dX0_become_0 rfl (lv_at hl 1 rfl) ?_
  refine va_mabs_long hx hb (by rw [hml]; exact hl.1.symm) hown (hts _ (List.mem_cons_of_mem _ (List.mem_append_left _ (List.mem_of_getElem? (i := 0) rfl)))) (hts _ (List.mem_cons_of_mem _ (List.mem_append_left _ (List.mem_of_getElem? (i := 1) rfl)))) (hts _ (List.mem_cons_of_mem _ (List.mem_append_left _ (List.mem_of_getElem? (i := 2) rfl)))) (hts _ (List.mem_cons_of_mem _ (List.mem_append_left _ (List.mem_of_getElem? (i := 3) rfl)))) (by rw [hR]; exact Nat.le_of_ble_eq_true rfl) (by rw [hR]; exact Nat.le_of_ble_eq_true rfl) (by rw [hR]; first | exact Nat.le_of_ble_eq_true rfl | (dsimp only; omega)) (by rw [hR]; first | exact Nat.le_of_ble_eq_true rfl | (dsimp only; omega)) dX0_become_1 ?_
  refine lv_topl (fun v1 ev1 => ?_)
  obtain rfl : v1 = lN x.natAbs := by
    rw [ev1]
    exact zL_abs (by omega) (by omega)
  refine lv_lload_n hx hb dX0_become_4 rfl (lv_at hl 2 rfl) ?_
  refine va_mabs_long hx hb (by rw [hml]; exact hl.1.symm) hown (hts _ (List.mem_cons_of_mem _ (List.mem_append_left _ (List.mem_of_getElem? (i := 0) rfl)))) (hts _ (List.mem_cons_of_mem _ (List.mem_append_left _ (List.mem_of_getElem? (i := 1) rfl)))) (hts _ (List.mem_cons_of_mem _ (List.mem_append_left _ (List.mem_of_getElem? (i := 2) rfl)))) (hts _ (List.mem_cons_of_mem _ (List.mem_append_left _ (List.mem_of_getElem? (i := 3) rfl)))) (by rw [hR]; exact Nat.le_of_ble_eq_true rfl) (by rw [hR]; exact Nat.le_of_ble_eq_true rfl) (by rw [hR]; first | exact Nat.le_of_ble_eq_true rfl | (dsimp only; omega)) (by rw [hR]; first | exact Nat.le_of_ble_eq_true rfl | (dsimp only; omega)) dX0_become_5 ?_
  refine lv_topl (fun v2 ev2 => ?_)
  obtain rfl : v2 = lN y.natAbs := by
    rw [ev2]
    exact zL_abs (by omega) (by omega)
  refine g_Sl (As := [.long (lN x.natAbs), .long (lN y.natAbs)]) (rest := []) F hP hS (k_X0_commonDivisor l A G w x.natAbs y.natAbs (by omega) (by omega)) (va_cwS 2 hts gX0_become_X0_commonDivisor rfl rfl rfl cd_X0_commonDivisor ⟨by rw [hR]; exact Nat.le_of_ble_eq_true rfl, by rw [hR]; exact Nat.le_of_ble_eq_true rfl⟩) rfl hl.1 (Nat.le_of_ble_eq_true rfl) dX0_become_8 ⟨by rw [hR]; exact Nat.le_of_ble_eq_true rfl, by rw [hR]; exact Nat.le_of_ble_eq_true rfl⟩ rfl (fun r3 w4 H locs h5 hP hS => ?_)
  have hr3 := h5.1
  rw [h5.2] at hP
  rw [hr3]
  rw [show (lN (Nat.gcd x.natAbs y.natAbs)) = zL (Int.gcd x y : Int) from (zL_N _).symm]
  refine lv_lstore (lv' := [(5, .long (zL (Int.gcd x y : Int))), (0, .ref h), (1, .long (zL x)), (3, .long (zL y))]) hx hb dX0_become_11 hl (by decide) rfl (fun ls hl => ?_)
  refine lv_lload_n hx hb dX0_become_13 rfl (lv_at hl 3 rfl) ?_
  refine lv_lconst (v := 0) hx hb dX0_become_14 (by decide) ?_
  refine W.lcmp hx hb dX0_become_15 ?_
  refine lv_if_ge (tgt := 25) hx hb dX0_become_16 (by decide) (fun c6 => ?_) (fun c6 => ?_)
  · have c6 := (lg_cmp_ge (zL y) 0).mp c6
    have hs : ¬ y < 0 := by have := (zL_ge0 (by omega) (by omega)).mp c6; omega
    have hl : lv_has ls 9 [(5, .long (zL (fG x y))), (0, .ref h), (1, .long (zL x)), (3, .long (zL y))] := by rw [fG, if_neg hs]; exact hl
    refine lv_lload hx hb dX0_become_25 (lv_at hl 0 rfl) ?_
    refine lv_lstore (lv' := [(7, .long (zL (fG x y))), (5, .long (zL (fG x y))), (0, .ref h), (1, .long (zL x)), (3, .long (zL y))]) hx hb dX0_become_27 hl (by decide) rfl (fun ls hl => ?_)
    refine lv_lload hx hb dX0_become_29 (lv_at hl 0 rfl) ?_
    refine lv_lconst (v := 0) hx hb dX0_become_31 (by decide) ?_
    refine W.lcmp hx hb dX0_become_32 ?_
    refine lv_if_eq (tgt := 52) hx hb dX0_become_33 (by decide) (fun c7 => ?_) (fun c7 => ?_)
    · have c7 := (lg_cmp_eq (zL (fG x y)) 0).mp c7
      exact absurd ((zL_eq0 (by omega) (by omega)).mp c7) hg3
    · have c7 : ¬ ((zL (fG x y)) = 0) := fun h => c7 ((lg_cmp_eq (zL (fG x y)) 0).mpr h)
      refine lv_aload_n hx hb dX0_become_36 rfl (lv_at hl 2 rfl) ?_
      refine lv_lload_n hx hb dX0_become_37 rfl (lv_at hl 3 rfl) ?_
      refine lv_lload hx hb dX0_become_38 (lv_at hl 0 rfl) ?_
      refine lv_ldiv hx hb dX0_become_40 (fun q => hg3 ((zL_eq0 (by omega) (by omega)).mp q)) ?_
      refine lv_topl (fun v8 ev8 => ?_)
      obtain rfl : v8 = zL (fN x y) := by
        rw [ev8]
        exact zL_div (by omega) (by omega) (by omega) (by omega)
      refine g_put F hP hS (C := RX0) (T := TX0) (N := 2) (v := .long (zL (fN x y))) (ty := .long) iX0 tyX0 tyX0_ok nmX0 hf rfl 0 (by decide) (List.mem_cons_of_mem _ (List.mem_append_left _ (List.mem_of_getElem? (i := 4) rfl))) (fun _ h9 => h9) rfl (by decide +kernel) rfl rfl (by show 0 < 2; decide) dX0_become_41 (fun H locs hP hS => ?_)
      obtain ⟨w9, ew9⟩ : ∃ z, z = g_up w h (.inr (1, [.long (zL (fN x y)), .long d0])) := ⟨_, rfl⟩
      have hP : g_P A G w9 H := by rw [ew9]; exact hP
      have f10 : w9 h = some (.inr (1, [.long (zL (fN x y)), .long d0])) := by rw [ew9]; exact g_up_s _ _ _
      refine lv_aload_n hx hb dX0_become_44 rfl (lv_at hl 2 rfl) ?_
      refine lv_lload_n hx hb dX0_become_45 rfl (lv_at hl 4 rfl) ?_
      refine lv_lload hx hb dX0_become_46 (lv_at hl 0 rfl) ?_
      refine lv_ldiv hx hb dX0_become_48 (fun q => hg3 ((zL_eq0 (by omega) (by omega)).mp q)) ?_
      refine lv_topl (fun v11 ev11 => ?_)
      obtain rfl : v11 = zL (fD x y) := by
        rw [ev11]
        exact zL_div (by omega) (by omega) (by omega) (by omega)
      refine g_put F hP hS (C := RX0) (T := TX0) (N := 2) (v := .long (zL (fD x y))) (ty := .long) iX0 tyX0 tyX0_ok nmX0 f10 rfl 1 (by decide) (List.mem_cons_of_mem _ (List.mem_append_left _ (List.mem_of_getElem? (i := 5) rfl))) (fun _ h9 => h9) rfl (by decide +kernel) rfl rfl (by show 1 < 2; decide) dX0_become_49 (fun H locs hP hS => ?_)
      obtain ⟨w12, ew12⟩ : ∃ z, z = g_up w9 h (.inr (1, [.long (zL (fN x y)), .long (zL (fD x y))])) := ⟨_, rfl⟩
      have hP : g_P A G w12 H := by rw [ew12]; exact hP
      have f13 : w12 h = some (.inr (1, [.long (zL (fN x y)), .long (zL (fD x y))])) := by rw [ew12]; exact g_up_s _ _ _
      rw [hQ]
      refine g_vret F hP hS hlocks hr dX0_become_52 (by first | exact Nat.le_of_ble_eq_true rfl | omega) (by first | exact Nat.le_of_ble_eq_true rfl | omega) ?_
      simp only [ew12, ew9, g_up_up]
  · have c6 : ¬ (0 ≤ (zL y)) := fun h => c6 ((lg_cmp_ge (zL y) 0).mpr h)
    have hs : y < 0 := by
      rcases Int.lt_or_le y 0 with q | q
      · exact q
      · exact absurd ((zL_ge0 (by omega) (by omega)).mpr q) c6
    refine lv_lload hx hb dX0_become_19 (lv_at hl 0 rfl) ?_
    refine lv_lneg hx hb dX0_become_21 ?_
    refine lv_topl (fun v14 ev14 => ?_)
    obtain rfl : v14 = zL (fG x y) := by
      rw [ev14]
      rw [zL_neg, fG, if_pos hs]
    refine lv_goto (tgt := 27) hx hb dX0_become_22 (by decide) ?_
    refine lv_lstore (lv' := [(7, .long (zL (fG x y))), (5, .long (zL (Int.gcd x y : Int))), (0, .ref h), (1, .long (zL x)), (3, .long (zL y))]) hx hb dX0_become_27 hl (by decide) rfl (fun ls hl => ?_)
    refine lv_lload hx hb dX0_become_29 (lv_at hl 0 rfl) ?_
    refine lv_lconst (v := 0) hx hb dX0_become_31 (by decide) ?_
    refine W.lcmp hx hb dX0_become_32 ?_
    refine lv_if_eq (tgt := 52) hx hb dX0_become_33 (by decide) (fun c15 => ?_) (fun c15 => ?_)
    · have c15 := (lg_cmp_eq (zL (fG x y)) 0).mp c15
      exact absurd ((zL_eq0 (by omega) (by omega)).mp c15) hg3
    · have c15 : ¬ ((zL (fG x y)) = 0) := fun h => c15 ((lg_cmp_eq (zL (fG x y)) 0).mpr h)
      refine lv_aload_n hx hb dX0_become_36 rfl (lv_at hl 2 rfl) ?_
      refine lv_lload_n hx hb dX0_become_37 rfl (lv_at hl 3 rfl) ?_
      refine lv_lload hx hb dX0_become_38 (lv_at hl 0 rfl) ?_
      refine lv_ldiv hx hb dX0_become_40 (fun q => hg3 ((zL_eq0 (by omega) (by omega)).mp q)) ?_
      refine lv_topl (fun v16 ev16 => ?_)
      obtain rfl : v16 = zL (fN x y) := by
        rw [ev16]
        exact zL_div (by omega) (by omega) (by omega) (by omega)
      refine g_put F hP hS (C := RX0) (T := TX0) (N := 2) (v := .long (zL (fN x y))) (ty := .long) iX0 tyX0 tyX0_ok nmX0 hf rfl 0 (by decide) (List.mem_cons_of_mem _ (List.mem_append_left _ (List.mem_of_getElem? (i := 4) rfl))) (fun _ h9 => h9) rfl (by decide +kernel) rfl rfl (by show 0 < 2; decide) dX0_become_41 (fun H locs hP hS => ?_)
      obtain ⟨w17, ew17⟩ : ∃ z, z = g_up w h (.inr (1, [.long (zL (fN x y)), .long d0])) := ⟨_, rfl⟩
      have hP : g_P A G w17 H := by rw [ew17]; exact hP
      have f18 : w17 h = some (.inr (1, [.long (zL (fN x y)), .long d0])) := by rw [ew17]; exact g_up_s _ _ _
      refine lv_aload_n hx hb dX0_become_44 rfl (lv_at hl 2 rfl) ?_
      refine lv_lload_n hx hb dX0_become_45 rfl (lv_at hl 4 rfl) ?_
      refine lv_lload hx hb dX0_become_46 (lv_at hl 0 rfl) ?_
      refine lv_ldiv hx hb dX0_become_48 (fun q => hg3 ((zL_eq0 (by omega) (by omega)).mp q)) ?_
      refine lv_topl (fun v19 ev19 => ?_)
      obtain rfl : v19 = zL (fD x y) := by
        rw [ev19]
        exact zL_div (by omega) (by omega) (by omega) (by omega)
      refine g_put F hP hS (C := RX0) (T := TX0) (N := 2) (v := .long (zL (fD x y))) (ty := .long) iX0 tyX0 tyX0_ok nmX0 f18 rfl 1 (by decide) (List.mem_cons_of_mem _ (List.mem_append_left _ (List.mem_of_getElem? (i := 5) rfl))) (fun _ h9 => h9) rfl (by decide +kernel) rfl rfl (by show 1 < 2; decide) dX0_become_49 (fun H locs hP hS => ?_)
      obtain ⟨w20, ew20⟩ : ∃ z, z = g_up w17 h (.inr (1, [.long (zL (fN x y)), .long (zL (fD x y))])) := ⟨_, rfl⟩
      have hP : g_P A G w20 H := by rw [ew20]; exact hP
      have f21 : w20 h = some (.inr (1, [.long (zL (fN x y)), .long (zL (fD x y))])) := by rw [ew20]; exact g_up_s _ _ _
      rw [hQ]
      refine g_vret F hP hS hlocks hr dX0_become_52 (by first | exact Nat.le_of_ble_eq_true rfl | omega) (by first | exact Nat.le_of_ble_eq_true rfl | omega) ?_
      simp only [ew20, ew17, g_up_up]

set_option maxHeartbeats 4000000 in
set_option maxRecDepth 100000 in
theorem k_X0_isSameAs (l : Launch) (A : Nat → Prop) (G : g_C) (w : g_W) (h h2 : Nat) (n1 d1 n2 d2 : Int64) (hf : w h = some (.inr (1, [.long n1, .long d1]))) (hf2 : w h2 = some (.inr (1, [.long n2, .long d2]))) : mI l yX0_isSameAs wsX0_isSameAs ({ frames := 0, cells := 0, slots := 0, locals := 0 } : Room) [.ref h, .ref h2] A G w (fun r w' => r = g_b (decide (n1 = n2 ∧ d1 = d2)) ∧ w' = w) 0 0 := by
  refine g_ofI (cc := cX0_isSameAs) (maxL := 2) (ret := (some .boolean)) (own := RX0) (by decide) rfl rfl (Nat.le_of_ble_eq_true rfl) ?_
  intro p e R s m args below meth c Q ls hR F hP hS hlocks hr hnm0 hQ hl
  obtain ⟨⟨hx, hb, hml, hown, hts⟩, hK, hZ, hA⟩ := id F
  generalize hH0 : s.heap = H at hP ⊢
  have hS : va_S A s.heap H [] := by rw [← hH0]; exact va_S.rf
  generalize ([] : List Loc) = locs at hS ⊢
  have hl : lv_has ls 2 [(0, .ref h), (1, .ref h2)] := hl
  have iX0 : ∀ w ∈ u_ws RX0 TX0 2, w ∈ wsX0_isSameAs := fun w h => List.mem_cons_of_mem _ (List.mem_append_right _ (h))
  refine lv_aload_n hx hb dX0_isSameAs_0 rfl (lv_at hl 0 rfl) ?_
  refine g_get F hP (C := RX0) (T := TX0) (N := 2) iX0 hf rfl 0 (by decide) (List.mem_cons_of_mem _ (List.mem_append_left _ (List.mem_of_getElem? (i := 0) rfl))) (fun _ h9 => h9) rfl dX0_isSameAs_1 ?_
  refine lv_aload_n hx hb dX0_isSameAs_4 rfl (lv_at hl 1 rfl) ?_
  refine g_get F hP (C := RX0) (T := TX0) (N := 2) iX0 hf2 rfl 0 (by decide) (List.mem_cons_of_mem _ (List.mem_append_left _ (List.mem_of_getElem? (i := 0) rfl))) (fun _ h9 => h9) rfl dX0_isSameAs_5 ?_
  refine W.lcmp hx hb dX0_isSameAs_8 ?_
  refine lv_if_ne (tgt := 28) hx hb dX0_isSameAs_9 (by decide) (fun c1 => ?_) (fun c1 => ?_)
  · have c1 : ¬ (n1 = n2) := fun h => c1 ((lg_cmp_eq n1 n2).mpr h)
    refine lv_iconst (v := 0) hx hb dX0_isSameAs_28 (by decide) ?_
    rw [hQ]
    refine g_zret F hP hS hlocks hr (by first | rfl | exact g_nb _) dX0_isSameAs_29 (by first | exact Nat.le_of_ble_eq_true rfl | omega) (by first | exact Nat.le_of_ble_eq_true rfl | omega) ?_
    exact ⟨by first | exact g_bt (by simp_all) | exact g_bf (by simp_all) | exact g_bt (by grind) | exact g_bf (by grind), rfl⟩
  · have c1 := (lg_cmp_eq n1 n2).mp c1
    refine lv_aload_n hx hb dX0_isSameAs_12 rfl (lv_at hl 0 rfl) ?_
    refine g_get F hP (C := RX0) (T := TX0) (N := 2) iX0 hf rfl 1 (by decide) (List.mem_cons_of_mem _ (List.mem_append_left _ (List.mem_of_getElem? (i := 1) rfl))) (fun _ h9 => h9) rfl dX0_isSameAs_13 ?_
    refine lv_aload_n hx hb dX0_isSameAs_16 rfl (lv_at hl 1 rfl) ?_
    refine g_get F hP (C := RX0) (T := TX0) (N := 2) iX0 hf2 rfl 1 (by decide) (List.mem_cons_of_mem _ (List.mem_append_left _ (List.mem_of_getElem? (i := 1) rfl))) (fun _ h9 => h9) rfl dX0_isSameAs_17 ?_
    refine W.lcmp hx hb dX0_isSameAs_20 ?_
    refine lv_if_ne (tgt := 28) hx hb dX0_isSameAs_21 (by decide) (fun c2 => ?_) (fun c2 => ?_)
    · have c2 : ¬ (d1 = d2) := fun h => c2 ((lg_cmp_eq d1 d2).mpr h)
      refine lv_iconst (v := 0) hx hb dX0_isSameAs_28 (by decide) ?_
      rw [hQ]
      refine g_zret F hP hS hlocks hr (by first | rfl | exact g_nb _) dX0_isSameAs_29 (by first | exact Nat.le_of_ble_eq_true rfl | omega) (by first | exact Nat.le_of_ble_eq_true rfl | omega) ?_
      exact ⟨by first | exact g_bt (by simp_all) | exact g_bf (by simp_all) | exact g_bt (by grind) | exact g_bf (by grind), rfl⟩
    · have c2 := (lg_cmp_eq d1 d2).mp c2
      refine lv_iconst (v := 1) hx hb dX0_isSameAs_24 (by decide) ?_
      refine lv_goto (tgt := 29) hx hb dX0_isSameAs_25 (by decide) ?_
      rw [hQ]
      refine g_zret F hP hS hlocks hr (by first | rfl | exact g_nb _) dX0_isSameAs_29 (by first | exact Nat.le_of_ble_eq_true rfl | omega) (by first | exact Nat.le_of_ble_eq_true rfl | omega) ?_
      exact ⟨by first | exact g_bt (by simp_all) | exact g_bf (by simp_all) | exact g_bt (by grind) | exact g_bf (by grind), rfl⟩

set_option maxHeartbeats 4000000 in
set_option maxRecDepth 100000 in
theorem k_X0_isTooGreat (l : Launch) (A : Nat → Prop) (G : g_C) (w : g_W) (h : Nat) (n d : Int) (hf : w h = some (.inr (1, [.long (zL n), .long (zL d)]))) (hn : n.natAbs < 1125899906842624) (hd : d.natAbs < 1125899906842624) : mI l yX0_isTooGreat wsX0_isTooGreat ({ frames := 1, cells := 0, slots := 0, locals := 40 } : Room) [.ref h] A G w (fun r w' => r = g_b (decide (1000000 < n.natAbs ∨ 1000000 < d)) ∧ w' = w) 0 0 := by
  refine g_ofI (cc := cX0_isTooGreat) (maxL := 1) (ret := (some .boolean)) (own := RX0) (by decide) rfl rfl (Nat.le_of_ble_eq_true rfl) ?_
  intro p e R s m args below meth c Q ls hR F hP hS hlocks hr hnm0 hQ hl
  obtain ⟨⟨hx, hb, hml, hown, hts⟩, hK, hZ, hA⟩ := id F
  generalize hH0 : s.heap = H at hP ⊢
  have hS : va_S A s.heap H [] := by rw [← hH0]; exact va_S.rf
  generalize ([] : List Loc) = locs at hS ⊢
  have hl : lv_has ls 1 [(0, .ref h)] := hl
  have iX0 : ∀ w ∈ u_ws RX0 TX0 2, w ∈ wsX0_isTooGreat := fun w h => List.mem_cons_of_mem _ (List.mem_append_right _ (h))
  refine lv_aload_n hx hb dX0_isTooGreat_0 rfl (lv_at hl 0 rfl) ?_
  refine g_get F hP (C := RX0) (T := TX0) (N := 2) iX0 hf rfl 0 (by decide) (List.mem_cons_of_mem _ (List.mem_append_left _ (List.mem_of_getElem? (i := 0) rfl))) (fun _ h9 => h9) rfl dX0_isTooGreat_1 ?_
  refine va_mabs_long hx hb (by rw [hml]; exact hl.1.symm) hown (hts _ (List.mem_cons_of_mem _ (List.mem_append_left _ (List.mem_of_getElem? (i := 1) rfl)))) (hts _ (List.mem_cons_of_mem _ (List.mem_append_left _ (List.mem_of_getElem? (i := 2) rfl)))) (hts _ (List.mem_cons_of_mem _ (List.mem_append_left _ (List.mem_of_getElem? (i := 3) rfl)))) (hts _ (List.mem_cons_of_mem _ (List.mem_append_left _ (List.mem_of_getElem? (i := 4) rfl)))) (by rw [hR]; exact Nat.le_of_ble_eq_true rfl) (by rw [hR]; exact Nat.le_of_ble_eq_true rfl) (by rw [hR]; first | exact Nat.le_of_ble_eq_true rfl | (dsimp only; omega)) (by rw [hR]; first | exact Nat.le_of_ble_eq_true rfl | (dsimp only; omega)) dX0_isTooGreat_4 ?_
  refine lv_topl (fun v1 ev1 => ?_)
  obtain rfl : v1 = zL (n.natAbs : Int) := by
    rw [ev1]
    rw [zL_N]; exact zL_abs (by omega) (by omega)
  refine lv_ldc2 (v := 1000000) hx hb hown (hts _ (List.mem_cons_of_mem _ (List.mem_append_left _ (List.mem_of_getElem? (i := 5) rfl)))) dX0_isTooGreat_7 ?_
  refine W.lcmp hx hb dX0_isTooGreat_10 ?_
  refine lv_if_gt (tgt := 25) hx hb dX0_isTooGreat_11 (by decide) (fun c2 => ?_) (fun c2 => ?_)
  · have c2 := (lg_cmp_gt (zL (n.natAbs : Int)) 1000000).mp c2
    rw [show (1000000 : Int64) = zL 1000000 from rfl] at c2
    have := (zL_lt (by omega) (by omega) (by omega) (by omega)).mp c2
    refine lv_iconst (v := 1) hx hb dX0_isTooGreat_25 (by decide) ?_
    refine lv_goto (tgt := 30) hx hb dX0_isTooGreat_26 (by decide) ?_
    rw [hQ]
    refine g_zret F hP hS hlocks hr (by first | rfl | exact g_nb _) dX0_isTooGreat_30 (by first | exact Nat.le_of_ble_eq_true rfl | omega) (by first | exact Nat.le_of_ble_eq_true rfl | omega) ?_
    exact ⟨by first | exact g_bt (by omega) | exact g_bf (by omega), rfl⟩
  · have c2 : ¬ (1000000 < (zL (n.natAbs : Int))) := fun h => c2 ((lg_cmp_gt (zL (n.natAbs : Int)) 1000000).mpr h)
    rw [show (1000000 : Int64) = zL 1000000 from rfl] at c2
    have : ¬ (1000000 < (n.natAbs : Int)) := fun q => c2 ((zL_lt (by omega) (by omega) (by omega) (by omega)).mpr q)
    refine lv_aload_n hx hb dX0_isTooGreat_14 rfl (lv_at hl 0 rfl) ?_
    refine g_get F hP (C := RX0) (T := TX0) (N := 2) iX0 hf rfl 1 (by decide) (List.mem_cons_of_mem _ (List.mem_append_left _ (List.mem_of_getElem? (i := 6) rfl))) (fun _ h9 => h9) rfl dX0_isTooGreat_15 ?_
    refine lv_ldc2 (v := 1000000) hx hb hown (hts _ (List.mem_cons_of_mem _ (List.mem_append_left _ (List.mem_of_getElem? (i := 5) rfl)))) dX0_isTooGreat_18 ?_
    refine W.lcmp hx hb dX0_isTooGreat_21 ?_
    refine lv_if_le (tgt := 29) hx hb dX0_isTooGreat_22 (by decide) (fun c3 => ?_) (fun c3 => ?_)
    · have c3 := (lg_cmp_le (zL d) 1000000).mp c3
      rw [show (1000000 : Int64) = zL 1000000 from rfl] at c3
      have := (zL_le (by omega) (by omega) (by omega) (by omega)).mp c3
      refine lv_iconst (v := 0) hx hb dX0_isTooGreat_29 (by decide) ?_
      rw [hQ]
      refine g_zret F hP hS hlocks hr (by first | rfl | exact g_nb _) dX0_isTooGreat_30 (by first | exact Nat.le_of_ble_eq_true rfl | omega) (by first | exact Nat.le_of_ble_eq_true rfl | omega) ?_
      exact ⟨by first | exact g_bt (by omega) | exact g_bf (by omega), rfl⟩
    · have c3 : ¬ ((zL d) ≤ 1000000) := fun h => c3 ((lg_cmp_le (zL d) 1000000).mpr h)
      rw [show (1000000 : Int64) = zL 1000000 from rfl] at c3
      have : ¬ (d ≤ 1000000) := fun q => c3 ((zL_le (by omega) (by omega) (by omega) (by omega)).mpr q)
      refine lv_iconst (v := 1) hx hb dX0_isTooGreat_25 (by decide) ?_
      refine lv_goto (tgt := 30) hx hb dX0_isTooGreat_26 (by decide) ?_
      rw [hQ]
      refine g_zret F hP hS hlocks hr (by first | rfl | exact g_nb _) dX0_isTooGreat_30 (by first | exact Nat.le_of_ble_eq_true rfl | omega) (by first | exact Nat.le_of_ble_eq_true rfl | omega) ?_
      exact ⟨by first | exact g_bt (by omega) | exact g_bf (by omega), rfl⟩

theorem cd_X0_init : yX0_init.cls ≠ "java/lang/invoke/MethodHandle" ∧ yX0_init.cls ≠ "java/lang/invoke/VarHandle" ∧ (parseMethodDescriptor yX0_init.desc).map (fun d => d.parameters.length) = some 0 := by decide +kernel
set_option maxHeartbeats 4000000 in
set_option maxRecDepth 100000 in
theorem k_X4_init (l : Launch) (A : Nat → Prop) (G : g_C) (w : g_W) (h : Nat) (x y : Int32) (hs : w h = some (.inr (5, [.int 0, .int 0, .int 0, .int 0, .null]))) : mV l yX4_init wsX4_init ({ frames := 2, cells := 1, slots := 2, locals := 60 } : Room) [.ref h, .int x, .int y] A G w (fun w' => ∃ q, w q = none ∧ w' = g_up (g_up w q (.inr (1, [.long 0, .long 1]))) h (.inr (5, [.int x, .int y, .int 0, .int (-1), .ref q]))) 1 2 := by
  refine g_ofV (cc := cX4_init) (maxL := 3) (ret := none) (own := RX4) (by decide) rfl rfl (Nat.le_of_ble_eq_true rfl) ?_
  intro p e R s m args below meth c Q ls hR F hP hS hlocks hr hnm0 hQ hl
  obtain ⟨⟨hx, hb, hml, hown, hts⟩, hK, hZ, hA⟩ := id F
  generalize hH0 : s.heap = H at hP ⊢
  have hS : va_S A s.heap H [] := by rw [← hH0]; exact va_S.rf
  generalize ([] : List Loc) = locs at hS ⊢
  have hl : lv_has ls 3 [(0, .ref h), (1, .int x), (2, .int y)] := hl
  have iX0 : ∀ w ∈ u_ws RX0 TX0 2, w ∈ wsX4_init := fun w h => List.mem_cons_of_mem _ (List.mem_append_right _ (h))
  have iX4 : ∀ w ∈ u_ws RX4 TX4 5, w ∈ wsX4_init := fun w h => List.mem_cons_of_mem _ (List.mem_append_left _ (List.mem_append_right _ (h)))
  refine lv_aload_n hx hb dX4_init_0 rfl (lv_at hl 0 rfl) ?_
  refine W.objInit hx hb hown (hts _ (List.mem_cons_of_mem _ (List.mem_append_left _ (List.mem_append_left _ (List.mem_of_getElem? (i := 0) rfl))))) (hts _ (List.mem_cons_of_mem _ (List.mem_append_left _ (List.mem_append_left _ (List.mem_of_getElem? (i := 1) rfl))))) (hts _ (List.mem_cons_of_mem _ (List.mem_append_left _ (List.mem_append_left _ (List.mem_of_getElem? (i := 2) rfl))))) rfl (by rw [hml]; exact hl.1) rfl dX4_init_1 (by rw [hR]; exact Nat.le_of_ble_eq_true rfl) (by rw [hR]; exact Nat.le_of_ble_eq_true rfl) ?_
  show W p l e R s m args below meth c H locs _ _ Q (F0 m 4 ls [])
  refine lv_aload_n hx hb dX4_init_4 rfl (lv_at hl 0 rfl) ?_
  refine lv_iload_n hx hb dX4_init_5 rfl (lv_at hl 1 rfl) ?_
  refine g_put F hP hS (C := RX4) (T := TX4) (N := 5) (v := .int x) (ty := .int) iX4 tyX4 tyX4_ok nmX4 hs rfl 0 (by decide) (List.mem_cons_of_mem _ (List.mem_append_left _ (List.mem_append_left _ (List.mem_of_getElem? (i := 3) rfl)))) (fun _ h9 => h9) rfl (by decide +kernel) rfl rfl (by show 0 < 5; decide) dX4_init_6 (fun H locs hP hS => ?_)
  obtain ⟨w1, ew1⟩ : ∃ z, z = g_up w h (.inr (5, [.int x, .int 0, .int 0, .int 0, .null])) := ⟨_, rfl⟩
  have hP : g_P A G w1 H := by rw [ew1]; exact hP
  have f2 : w1 h = some (.inr (5, [.int x, .int 0, .int 0, .int 0, .null])) := by rw [ew1]; exact g_up_s _ _ _
  refine lv_aload_n hx hb dX4_init_9 rfl (lv_at hl 0 rfl) ?_
  refine lv_iload_n hx hb dX4_init_10 rfl (lv_at hl 2 rfl) ?_
  refine g_put F hP hS (C := RX4) (T := TX4) (N := 5) (v := .int y) (ty := .int) iX4 tyX4 tyX4_ok nmX4 f2 rfl 1 (by decide) (List.mem_cons_of_mem _ (List.mem_append_left _ (List.mem_append_left _ (List.mem_of_getElem? (i := 4) rfl)))) (fun _ h9 => h9) rfl (by decide +kernel) rfl rfl (by show 1 < 5; decide) dX4_init_11 (fun H locs hP hS => ?_)
  obtain ⟨w3, ew3⟩ : ∃ z, z = g_up w1 h (.inr (5, [.int x, .int y, .int 0, .int 0, .null])) := ⟨_, rfl⟩
  have hP : g_P A G w3 H := by rw [ew3]; exact hP
  have f4 : w3 h = some (.inr (5, [.int x, .int y, .int 0, .int 0, .null])) := by rw [ew3]; exact g_up_s _ _ _
  refine lv_aload_n hx hb dX4_init_14 rfl (lv_at hl 0 rfl) ?_
  refine lv_iconst (v := 0) hx hb dX4_init_15 (by decide) ?_
  refine g_put F hP hS (C := RX4) (T := TX4) (N := 5) (v := .int 0) (ty := .boolean) iX4 tyX4 tyX4_ok nmX4 f4 rfl 2 (by decide) (List.mem_cons_of_mem _ (List.mem_append_left _ (List.mem_append_left _ (List.mem_of_getElem? (i := 5) rfl)))) (fun _ h9 => h9) rfl (by decide +kernel) (by first | rfl | exact g_nb _) (by first | rfl | exact g_fb _) (by show 2 < 5; decide) dX4_init_16 (fun H locs hP hS => ?_)
  obtain ⟨w5, ew5⟩ : ∃ z, z = g_up w3 h (.inr (5, [.int x, .int y, .int 0, .int 0, .null])) := ⟨_, rfl⟩
  have hP : g_P A G w5 H := by rw [ew5]; exact hP
  have f6 : w5 h = some (.inr (5, [.int x, .int y, .int 0, .int 0, .null])) := by rw [ew5]; exact g_up_s _ _ _
  refine lv_aload_n hx hb dX4_init_19 rfl (lv_at hl 0 rfl) ?_
  refine lv_iconst (v := (-1)) hx hb dX4_init_20 (by decide) ?_
  refine g_put F hP hS (C := RX4) (T := TX4) (N := 5) (v := .int (-1)) (ty := .int) iX4 tyX4 tyX4_ok nmX4 f6 rfl 3 (by decide) (List.mem_cons_of_mem _ (List.mem_append_left _ (List.mem_append_left _ (List.mem_of_getElem? (i := 6) rfl)))) (fun _ h9 => h9) rfl (by decide +kernel) rfl rfl (by show 3 < 5; decide) dX4_init_21 (fun H locs hP hS => ?_)
  obtain ⟨w7, ew7⟩ : ∃ z, z = g_up w5 h (.inr (5, [.int x, .int y, .int 0, .int (-1), .null])) := ⟨_, rfl⟩
  have hP : g_P A G w7 H := by rw [ew7]; exact hP
  have f8 : w7 h = some (.inr (5, [.int x, .int y, .int 0, .int (-1), .null])) := by rw [ew7]; exact g_up_s _ _ _
  refine lv_aload_n hx hb dX4_init_24 rfl (lv_at hl 0 rfl) ?_
  refine g_new F hP hS (ci := 1) (C := RX0) (T := TX0) (N := 2) (fs := [.long 0, .long 0]) iX0 tyX0 tyX0_ok (List.mem_cons_of_mem _ (List.mem_append_left _ (List.mem_append_left _ (List.mem_of_getElem? (i := 7) rfl)))) (List.mem_cons_of_mem _ (List.mem_append_left _ (List.mem_append_left _ (List.mem_of_getElem? (i := 8) rfl)))) (List.mem_cons_of_mem _ (List.mem_append_left _ (List.mem_append_left _ (List.mem_of_getElem? (i := 9) rfl)))) rfl (by intro j hj; match j, hj with | 0, _ => rfl | 1, _ => rfl | j + 2, hj => exact absurd hj (by omega)) (by rw [hR]; exact Nat.le_of_ble_eq_true rfl) (by rw [hR]; exact Nat.le_of_ble_eq_true rfl) dX4_init_25 (fun q9 H nq9 hP hS => ?_)
  obtain ⟨w10, ew10⟩ : ∃ z, z = g_up w7 q9 (.inr (1, [.long 0, .long 0])) := ⟨_, rfl⟩
  have hP : g_P A G w10 H := by rw [ew10]; exact hP
  have f11 : w10 h = some (.inr (5, [.int x, .int y, .int 0, .int (-1), .null])) := by rw [ew10]; exact g_up_f f8 (g_neq f8 nq9)
  have f12 : w10 q9 = some (.inr (1, [.long 0, .long 0])) := by rw [ew10]; exact g_up_s _ _ _
  refine lv_dup hx hb dX4_init_28 rfl ?_
  refine g_Iv (As := []) (rest := [.ref q9, .ref h]) F hP hS (k_X0_init l A G w10 q9 0 0 f12) (cwI 0 hts gX4_init_X0_init rfl rfl rfl (hts _ (List.mem_cons_of_mem _ (List.mem_append_left _ (List.mem_append_left _ (List.mem_of_getElem? (i := 9) rfl))))) (hts _ (List.mem_cons_of_mem _ (List.mem_append_left _ (List.mem_append_left _ (List.mem_of_getElem? (i := 11) rfl))))) (hts _ (List.mem_cons_of_mem _ (List.mem_append_left _ (List.mem_append_left _ (List.mem_of_getElem? (i := 12) rfl))))) rfl cd_X0_init ⟨by rw [hR]; exact Nat.le_of_ble_eq_true rfl, by rw [hR]; exact Nat.le_of_ble_eq_true rfl⟩) rfl hl.1 (Nat.le_of_ble_eq_true rfl) dX4_init_29 ⟨by rw [hR]; exact Nat.le_of_ble_eq_true rfl, by rw [hR]; exact Nat.le_of_ble_eq_true rfl⟩ rfl (fun w14 H locs h15 hP hS => ?_)
  have f16 : w14 h = some (.inr (5, [.int x, .int y, .int 0, .int (-1), .null])) := by rw [h15]; exact g_up_f f11 (g_neq f8 nq9)
  have f17 : w14 q9 = some (.inr (1, [.long 0, .long 1])) := by rw [h15]; exact g_up_s _ _ _
  refine g_putF F hP hS (C := RX4) (T := TX4) (N := 5) (v := .ref q9) (ty := (.object "GearTrains$Fraction")) iX4 tyX4 tyX4_ok nmX4 f16 rfl 4 (by decide) (List.mem_cons_of_mem _ (List.mem_append_left _ (List.mem_append_left _ (List.mem_of_getElem? (i := 10) rfl)))) (fun _ h9 => h9) rfl hnm0 rfl (by decide +kernel) rfl rfl (by show 4 < 5; decide) dX4_init_32 (fun H locs hP hS => ?_)
  obtain ⟨w18, ew18⟩ : ∃ z, z = g_up w14 h (.inr (5, [.int x, .int y, .int 0, .int (-1), .ref q9])) := ⟨_, rfl⟩
  have hP : g_P A G w18 H := by rw [ew18]; exact hP
  have f19 : w18 q9 = some (.inr (1, [.long 0, .long 1])) := by rw [ew18]; exact g_up_f f17 (Ne.symm (g_neq f8 nq9))
  have f20 : w18 h = some (.inr (5, [.int x, .int y, .int 0, .int (-1), .ref q9])) := by rw [ew18]; exact g_up_s _ _ _
  rw [hQ]
  refine g_vret F hP hS hlocks hr dX4_init_35 (by first | exact Nat.le_of_ble_eq_true rfl | omega) (by first | exact Nat.le_of_ble_eq_true rfl | omega) ?_
  simp only [ew18, h15, ew10, ew7, ew5, ew3, ew1, g_up_up] at nq9
  obtain ⟨z1, z2⟩ := g_up_none nq9
  refine ⟨q9, z2, ?_⟩
  simp only [ew18, h15, ew10, ew7, ew5, ew3, ew1, g_up_up]
  funext z
  simp only [g_up]
  by_cases z3 : z = h <;> by_cases z4 : z = q9 <;> simp_all

set_option maxHeartbeats 4000000 in
set_option maxRecDepth 100000 in
theorem k_X4_hasSpeed (l : Launch) (A : Nat → Prop) (G : g_C) (w : g_W) (h : Nat) (x y hd stg : Int32) (fr : Nat) (hs : w h = some (.inr (5, [.int x, .int y, .int hd, .int stg, .ref fr]))) : mI l yX4_hasSpeed wsX4_hasSpeed ({ frames := 0, cells := 0, slots := 0, locals := 0 } : Room) [.ref h] A G w (fun r w' => r = g_b (decide (stg ≠ -1)) ∧ w' = w) 0 0 := by
  refine g_ofI (cc := cX4_hasSpeed) (maxL := 1) (ret := (some .boolean)) (own := RX4) (by decide) rfl rfl (Nat.le_of_ble_eq_true rfl) ?_
  intro p e R s m args below meth c Q ls hR F hP hS hlocks hr hnm0 hQ hl
  obtain ⟨⟨hx, hb, hml, hown, hts⟩, hK, hZ, hA⟩ := id F
  generalize hH0 : s.heap = H at hP ⊢
  have hS : va_S A s.heap H [] := by rw [← hH0]; exact va_S.rf
  generalize ([] : List Loc) = locs at hS ⊢
  have hl : lv_has ls 1 [(0, .ref h)] := hl
  have iX4 : ∀ w ∈ u_ws RX4 TX4 5, w ∈ wsX4_hasSpeed := fun w h => List.mem_cons_of_mem _ (List.mem_append_right _ (h))
  refine lv_aload_n hx hb dX4_hasSpeed_0 rfl (lv_at hl 0 rfl) ?_
  refine g_get F hP (C := RX4) (T := TX4) (N := 5) iX4 hs rfl 3 (by decide) (List.mem_cons_of_mem _ (List.mem_append_left _ (List.mem_of_getElem? (i := 0) rfl))) (fun _ h9 => h9) rfl dX4_hasSpeed_1 ?_
  refine lv_iconst (v := (-1)) hx hb dX4_hasSpeed_4 (by decide) ?_
  refine lv_icmp_eq (tgt := 12) hx hb dX4_hasSpeed_5 (by decide) (fun c1 => ?_) (fun c1 => ?_)
  · refine lv_iconst (v := 0) hx hb dX4_hasSpeed_12 (by decide) ?_
    rw [hQ]
    refine g_zret F hP hS hlocks hr (by first | rfl | exact g_nb _) dX4_hasSpeed_13 (by first | exact Nat.le_of_ble_eq_true rfl | omega) (by first | exact Nat.le_of_ble_eq_true rfl | omega) ?_
    exact ⟨by first | exact g_bt (by simp_all) | exact g_bf (by simp_all) | exact g_bt (by grind) | exact g_bf (by grind), rfl⟩
  · refine lv_iconst (v := 1) hx hb dX4_hasSpeed_8 (by decide) ?_
    refine lv_goto (tgt := 13) hx hb dX4_hasSpeed_9 (by decide) ?_
    rw [hQ]
    refine g_zret F hP hS hlocks hr (by first | rfl | exact g_nb _) dX4_hasSpeed_13 (by first | exact Nat.le_of_ble_eq_true rfl | omega) (by first | exact Nat.le_of_ble_eq_true rfl | omega) ?_
    exact ⟨by first | exact g_bt (by simp_all) | exact g_bf (by simp_all) | exact g_bt (by grind) | exact g_bf (by grind), rfl⟩
