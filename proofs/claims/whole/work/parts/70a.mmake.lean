theorem cd_X7_divisor : yX7_divisor.cls ≠ "java/lang/invoke/MethodHandle" ∧ yX7_divisor.cls ≠ "java/lang/invoke/VarHandle" ∧ (parseMethodDescriptor yX7_divisor.desc).map (fun d => d.parameters.length) = some 2 := by decide +kernel
set_option maxHeartbeats 4000000 in
set_option maxRecDepth 100000 in
theorem k_X7_make (l : Launch) (A : Nat → Prop) (G : g_C) (w : g_W) (md : Nat → Nat) (S : Sg) (th : Int32) (tp bt : Int64) (Fm : Nat → Nat → Int32) (L : Nat → Nat → Int64) (x y : Int) (hx0 : w (md 0) = some (.inr (8, [.int th, .int (iL (S 0 0)), .ref (md 1), .ref (md 2), .ref (md 3), .int (iL (S 0 4)), .int (iL (S 0 5)), .int (iL (S 0 1)), .ref (md 4), .ref (md 5), .int (iL (S 0 2)), .ref (md 6), .ref (md 7), .int (iL (S 0 3)), .ref (md 8), .ref (md 9), .ref (md 10), .ref (md 11), .long tp, .long bt]))) (hy : y ≠ 0) (hbx : x.natAbs < 1152921504606846976) (hby : y.natAbs < 1152921504606846976) : mV l yX7_make wsX7_make ({ frames := 2, cells := 0, slots := 0, locals := 69 } : Room) [.ref (md 0), .long (zL x), .long (zL y)] A G w (fun w' => w' = g_up w (md 0) (.inr (8, mC S th (zL (fN x y)) (zL (fD x y)) md))) 0 0 := by
  refine g_ofV (cc := cX7_make) (maxL := 7) (ret := none) (own := RX7) (by decide) rfl rfl (Nat.le_of_ble_eq_true rfl) ?_
  intro p e R s m args below meth c Q ls hR F hP hS hlocks hr hnm0 hQ hl
  obtain ⟨⟨hx, hb, hml, hown, hts⟩, hK, hZ, hA⟩ := id F
  generalize hH0 : s.heap = H at hP ⊢
  have hS : va_S A s.heap H [] := by rw [← hH0]; exact va_S.rf
  generalize ([] : List Loc) = locs at hS ⊢
  have hl : lv_has ls 7 [(0, .ref (md 0)), (1, .long (zL x)), (3, .long (zL y))] := hl
  have iX7 : ∀ w ∈ u_ws RX7 TX7 20, w ∈ wsX7_make := fun w h => List.mem_cons_of_mem _ (List.mem_append_right _ (h))
  have hg1 := fG_abs x y
  have hg2 := fG_le (x := x) hy
  have hg3 := fG_ne (x := x) hy
  refine lv_lload_n hx hb dX7_make_0 rfl (lv_at hl 1 rfl) ?_
  refine lv_lload_n hx hb dX7_make_1 rfl (lv_at hl 2 rfl) ?_
  refine g_Sl (As := [.long (zL x), .long (zL y)]) (rest := []) F hP hS (k_X7_divisor l A G w x y hbx hby) (va_cwS 2 hts gX7_make_X7_divisor rfl rfl rfl cd_X7_divisor ⟨by rw [hR]; exact Nat.le_of_ble_eq_true rfl, by rw [hR]; exact Nat.le_of_ble_eq_true rfl⟩) rfl hl.1 (Nat.le_of_ble_eq_true rfl) dX7_make_2 ⟨by rw [hR]; exact Nat.le_of_ble_eq_true rfl, by rw [hR]; exact Nat.le_of_ble_eq_true rfl⟩ rfl (fun r1 w2 H locs h3 hP hS => ?_)
  have hr1 := h3.1
  rw [h3.2] at hP
  rw [hr1]
  rw [show (lN (Int.gcd x y)) = zL (Int.gcd x y : Int) from (zL_N _).symm]
  refine lv_lstore (lv' := [(5, .long (zL (Int.gcd x y : Int))), (0, .ref (md 0)), (1, .long (zL x)), (3, .long (zL y))]) hx hb dX7_make_5 hl (by decide) rfl (fun ls hl => ?_)
  refine lv_lload_n hx hb dX7_make_7 rfl (lv_at hl 3 rfl) ?_
  refine lv_lconst (v := 0) hx hb dX7_make_8 (by decide) ?_
  refine W.lcmp hx hb dX7_make_9 ?_
  refine lv_if_ge (tgt := 18) hx hb dX7_make_10 (by decide) (fun c4 => ?_) (fun c4 => ?_)
  · have c4 := (lg_cmp_ge (zL y) 0).mp c4
    have hs : ¬ y < 0 := by have := (zL_ge0 (by omega) (by omega)).mp c4; omega
    have hl : lv_has ls 7 [(5, .long (zL (fG x y))), (0, .ref (md 0)), (1, .long (zL x)), (3, .long (zL y))] := by rw [fG, if_neg hs]; exact hl
    refine lv_aload_n hx hb dX7_make_18 rfl (lv_at hl 1 rfl) ?_
    refine lv_lload_n hx hb dX7_make_19 rfl (lv_at hl 2 rfl) ?_
    refine lv_lload hx hb dX7_make_20 (lv_at hl 0 rfl) ?_
    refine lv_ldiv hx hb dX7_make_22 (fun q => hg3 ((zL_eq0 (by omega) (by omega)).mp q)) ?_
    refine lv_topl (fun v5 ev5 => ?_)
    obtain rfl : v5 = zL (fN x y) := by
      rw [ev5]
      exact zL_div (by omega) (by omega) (by omega) (by omega)
    refine g_put F hP hS (C := RX7) (T := TX7) (N := 20) (v := .long (zL (fN x y))) (ty := .long) iX7 tyX7 tyX7_ok nmX7 hx0 rfl 18 (by decide) (List.mem_cons_of_mem _ (List.mem_append_left _ (List.mem_of_getElem? (i := 0) rfl))) (fun _ h9 => h9) rfl (by decide +kernel) rfl rfl (by show 18 < 20; decide) dX7_make_23 (fun H locs hP hS => ?_)
    obtain ⟨w6, ew6⟩ : ∃ z, z = g_up w (md 0) (.inr (8, [.int th, .int (iL (S 0 0)), .ref (md 1), .ref (md 2), .ref (md 3), .int (iL (S 0 4)), .int (iL (S 0 5)), .int (iL (S 0 1)), .ref (md 4), .ref (md 5), .int (iL (S 0 2)), .ref (md 6), .ref (md 7), .int (iL (S 0 3)), .ref (md 8), .ref (md 9), .ref (md 10), .ref (md 11), .long (zL (fN x y)), .long bt])) := ⟨_, rfl⟩
    have hP : g_P A G w6 H := by rw [ew6]; exact hP
    have f7 : w6 (md 0) = some (.inr (8, [.int th, .int (iL (S 0 0)), .ref (md 1), .ref (md 2), .ref (md 3), .int (iL (S 0 4)), .int (iL (S 0 5)), .int (iL (S 0 1)), .ref (md 4), .ref (md 5), .int (iL (S 0 2)), .ref (md 6), .ref (md 7), .int (iL (S 0 3)), .ref (md 8), .ref (md 9), .ref (md 10), .ref (md 11), .long (zL (fN x y)), .long bt])) := by rw [ew6]; exact g_up_s _ _ _
    refine lv_aload_n hx hb dX7_make_26 rfl (lv_at hl 1 rfl) ?_
    refine lv_lload_n hx hb dX7_make_27 rfl (lv_at hl 3 rfl) ?_
    refine lv_lload hx hb dX7_make_28 (lv_at hl 0 rfl) ?_
    refine lv_ldiv hx hb dX7_make_30 (fun q => hg3 ((zL_eq0 (by omega) (by omega)).mp q)) ?_
    refine lv_topl (fun v8 ev8 => ?_)
    obtain rfl : v8 = zL (fD x y) := by
      rw [ev8]
      exact zL_div (by omega) (by omega) (by omega) (by omega)
    refine g_put F hP hS (C := RX7) (T := TX7) (N := 20) (v := .long (zL (fD x y))) (ty := .long) iX7 tyX7 tyX7_ok nmX7 f7 rfl 19 (by decide) (List.mem_cons_of_mem _ (List.mem_append_left _ (List.mem_of_getElem? (i := 1) rfl))) (fun _ h9 => h9) rfl (by decide +kernel) rfl rfl (by show 19 < 20; decide) dX7_make_31 (fun H locs hP hS => ?_)
    obtain ⟨w9, ew9⟩ : ∃ z, z = g_up w6 (md 0) (.inr (8, [.int th, .int (iL (S 0 0)), .ref (md 1), .ref (md 2), .ref (md 3), .int (iL (S 0 4)), .int (iL (S 0 5)), .int (iL (S 0 1)), .ref (md 4), .ref (md 5), .int (iL (S 0 2)), .ref (md 6), .ref (md 7), .int (iL (S 0 3)), .ref (md 8), .ref (md 9), .ref (md 10), .ref (md 11), .long (zL (fN x y)), .long (zL (fD x y))])) := ⟨_, rfl⟩
    have hP : g_P A G w9 H := by rw [ew9]; exact hP
    have f10 : w9 (md 0) = some (.inr (8, [.int th, .int (iL (S 0 0)), .ref (md 1), .ref (md 2), .ref (md 3), .int (iL (S 0 4)), .int (iL (S 0 5)), .int (iL (S 0 1)), .ref (md 4), .ref (md 5), .int (iL (S 0 2)), .ref (md 6), .ref (md 7), .int (iL (S 0 3)), .ref (md 8), .ref (md 9), .ref (md 10), .ref (md 11), .long (zL (fN x y)), .long (zL (fD x y))])) := by rw [ew9]; exact g_up_s _ _ _
    rw [hQ]
    refine g_vret F hP hS hlocks hr dX7_make_34 (by first | exact Nat.le_of_ble_eq_true rfl | omega) (by first | exact Nat.le_of_ble_eq_true rfl | omega) ?_
    simp only [ew9, ew6, g_up_up]
  · have c4 : ¬ (0 ≤ (zL y)) := fun h => c4 ((lg_cmp_ge (zL y) 0).mpr h)
    have hs : y < 0 := by
      rcases Int.lt_or_le y 0 with q | q
      · exact q
      · exact absurd ((zL_ge0 (by omega) (by omega)).mpr q) c4
    refine lv_lload hx hb dX7_make_13 (lv_at hl 0 rfl) ?_
    refine lv_lneg hx hb dX7_make_15 ?_
    refine lv_topl (fun v11 ev11 => ?_)
    obtain rfl : v11 = zL (fG x y) := by
      rw [ev11]
      rw [zL_neg, fG, if_pos hs]
    refine lv_lstore (lv' := [(5, .long (zL (fG x y))), (0, .ref (md 0)), (1, .long (zL x)), (3, .long (zL y))]) hx hb dX7_make_16 hl (by decide) rfl (fun ls hl => ?_)
    refine lv_aload_n hx hb dX7_make_18 rfl (lv_at hl 1 rfl) ?_
    refine lv_lload_n hx hb dX7_make_19 rfl (lv_at hl 2 rfl) ?_
    refine lv_lload hx hb dX7_make_20 (lv_at hl 0 rfl) ?_
    refine lv_ldiv hx hb dX7_make_22 (fun q => hg3 ((zL_eq0 (by omega) (by omega)).mp q)) ?_
    refine lv_topl (fun v12 ev12 => ?_)
    obtain rfl : v12 = zL (fN x y) := by
      rw [ev12]
      exact zL_div (by omega) (by omega) (by omega) (by omega)
    refine g_put F hP hS (C := RX7) (T := TX7) (N := 20) (v := .long (zL (fN x y))) (ty := .long) iX7 tyX7 tyX7_ok nmX7 hx0 rfl 18 (by decide) (List.mem_cons_of_mem _ (List.mem_append_left _ (List.mem_of_getElem? (i := 0) rfl))) (fun _ h9 => h9) rfl (by decide +kernel) rfl rfl (by show 18 < 20; decide) dX7_make_23 (fun H locs hP hS => ?_)
    obtain ⟨w13, ew13⟩ : ∃ z, z = g_up w (md 0) (.inr (8, [.int th, .int (iL (S 0 0)), .ref (md 1), .ref (md 2), .ref (md 3), .int (iL (S 0 4)), .int (iL (S 0 5)), .int (iL (S 0 1)), .ref (md 4), .ref (md 5), .int (iL (S 0 2)), .ref (md 6), .ref (md 7), .int (iL (S 0 3)), .ref (md 8), .ref (md 9), .ref (md 10), .ref (md 11), .long (zL (fN x y)), .long bt])) := ⟨_, rfl⟩
    have hP : g_P A G w13 H := by rw [ew13]; exact hP
    have f14 : w13 (md 0) = some (.inr (8, [.int th, .int (iL (S 0 0)), .ref (md 1), .ref (md 2), .ref (md 3), .int (iL (S 0 4)), .int (iL (S 0 5)), .int (iL (S 0 1)), .ref (md 4), .ref (md 5), .int (iL (S 0 2)), .ref (md 6), .ref (md 7), .int (iL (S 0 3)), .ref (md 8), .ref (md 9), .ref (md 10), .ref (md 11), .long (zL (fN x y)), .long bt])) := by rw [ew13]; exact g_up_s _ _ _
    refine lv_aload_n hx hb dX7_make_26 rfl (lv_at hl 1 rfl) ?_
    refine lv_lload_n hx hb dX7_make_27 rfl (lv_at hl 3 rfl) ?_
    refine lv_lload hx hb dX7_make_28 (lv_at hl 0 rfl) ?_
    refine lv_ldiv hx hb dX7_make_30 (fun q => hg3 ((zL_eq0 (by omega) (by omega)).mp q)) ?_
    refine lv_topl (fun v15 ev15 => ?_)
    obtain rfl : v15 = zL (fD x y) := by
      rw [ev15]
      exact zL_div (by omega) (by omega) (by omega) (by omega)
    refine g_put F hP hS (C := RX7) (T := TX7) (N := 20) (v := .long (zL (fD x y))) (ty := .long) iX7 tyX7 tyX7_ok nmX7 f14 rfl 19 (by decide) (List.mem_cons_of_mem _ (List.mem_append_left _ (List.mem_of_getElem? (i := 1) rfl))) (fun _ h9 => h9) rfl (by decide +kernel) rfl rfl (by show 19 < 20; decide) dX7_make_31 (fun H locs hP hS => ?_)
    obtain ⟨w16, ew16⟩ : ∃ z, z = g_up w13 (md 0) (.inr (8, [.int th, .int (iL (S 0 0)), .ref (md 1), .ref (md 2), .ref (md 3), .int (iL (S 0 4)), .int (iL (S 0 5)), .int (iL (S 0 1)), .ref (md 4), .ref (md 5), .int (iL (S 0 2)), .ref (md 6), .ref (md 7), .int (iL (S 0 3)), .ref (md 8), .ref (md 9), .ref (md 10), .ref (md 11), .long (zL (fN x y)), .long (zL (fD x y))])) := ⟨_, rfl⟩
    have hP : g_P A G w16 H := by rw [ew16]; exact hP
    have f17 : w16 (md 0) = some (.inr (8, [.int th, .int (iL (S 0 0)), .ref (md 1), .ref (md 2), .ref (md 3), .int (iL (S 0 4)), .int (iL (S 0 5)), .int (iL (S 0 1)), .ref (md 4), .ref (md 5), .int (iL (S 0 2)), .ref (md 6), .ref (md 7), .int (iL (S 0 3)), .ref (md 8), .ref (md 9), .ref (md 10), .ref (md 11), .long (zL (fN x y)), .long (zL (fD x y))])) := by rw [ew16]; exact g_up_s _ _ _
    rw [hQ]
    refine g_vret F hP hS hlocks hr dX7_make_34 (by first | exact Nat.le_of_ble_eq_true rfl | omega) (by first | exact Nat.le_of_ble_eq_true rfl | omega) ?_
    simp only [ew16, ew13, g_up_up]
