set_option maxHeartbeats 4000000 in
set_option maxRecDepth 100000 in
theorem k_X7_tell (l : Launch) (A : Nat → Prop) (G : g_C) (w : g_W) (md : Nat → Nat) (S : Sg) (th : Int32) (n d : Int) (Fm : Nat → Nat → Int32) (L : Nat → Nat → Int64) (k : Nat) (sg : Int32) (hx0 : w (md 0) = some (.inr (8, [.int th, .int (iL (S 0 0)), .ref (md 1), .ref (md 2), .ref (md 3), .int (iL (S 0 4)), .int (iL (S 0 5)), .int (iL (S 0 1)), .ref (md 4), .ref (md 5), .int (iL (S 0 2)), .ref (md 6), .ref (md 7), .int (iL (S 0 3)), .ref (md 8), .ref (md 9), .ref (md 10), .ref (md 11), .long (zL n), .long (zL d)]))) (hy9 : w (md 9) = some (.inl (G.2.1 1, 10, .inr (.inl (L 0))))) (hy10 : w (md 10) = some (.inl (G.2.1 1, 10, .inr (.inl (L 1))))) (hy11 : w (md 11) = some (.inl (G.2.1 0, 10, .inl (Fm 11)))) (Hj : modI md) (hk : k < 10) (hbn : n.natAbs < 1152921504606846976) (hbd : d.natAbs < 1152921504606846976) : mI l yX7_tell wsX7_tell ({ frames := 1, cells := 0, slots := 0, locals := 40 } : Room) [.ref (md 0), .int (nI k), .int sg] A G w (fun r w' => r = g_b (decide (¬ (1000000 < n.natAbs ∨ 1000000 < d))) ∧ w' = @ite _ (1000000 < n.natAbs ∨ 1000000 < d) (Classical.propDecidable _) w (g_up (g_up (g_up w (md 9) (.inl (G.2.1 1, 10, .inr (.inl (vp_updL (L 0) k (zL n)))))) (md 10) (.inl (G.2.1 1, 10, .inr (.inl (vp_updL (L 1) k (zL d)))))) (md 11) (.inl (G.2.1 0, 10, .inl (upd (Fm 11) k sg))))) 0 0 := by
  refine g_ofI (cc := cX7_tell) (maxL := 3) (ret := (some .boolean)) (own := RX7) (by decide) rfl rfl (Nat.le_of_ble_eq_true rfl) ?_
  intro p e R s m args below meth c Q ls hR F hP hS hlocks hr hnm0 hQ hl
  obtain ⟨⟨hx, hb, hml, hown, hts⟩, hK, hZ, hA⟩ := id F
  generalize hH0 : s.heap = H at hP ⊢
  have hS : va_S A s.heap H [] := by rw [← hH0]; exact va_S.rf
  generalize ([] : List Loc) = locs at hS ⊢
  have hl : lv_has ls 3 [(0, .ref (md 0)), (1, .int (nI k)), (2, .int sg)] := hl
  have iX7 : ∀ w ∈ u_ws RX7 TX7 20, w ∈ wsX7_tell := fun w h => List.mem_cons_of_mem _ (List.mem_append_right _ (h))
  refine lv_aload_n hx hb dX7_tell_0 rfl (lv_at hl 0 rfl) ?_
  refine g_get F hP (C := RX7) (T := TX7) (N := 20) iX7 hx0 rfl 18 (by decide) (List.mem_cons_of_mem _ (List.mem_append_left _ (List.mem_of_getElem? (i := 0) rfl))) (fun _ h9 => h9) rfl dX7_tell_1 ?_
  refine va_mabs_long hx hb (by rw [hml]; exact hl.1.symm) hown (hts _ (List.mem_cons_of_mem _ (List.mem_append_left _ (List.mem_of_getElem? (i := 1) rfl)))) (hts _ (List.mem_cons_of_mem _ (List.mem_append_left _ (List.mem_of_getElem? (i := 2) rfl)))) (hts _ (List.mem_cons_of_mem _ (List.mem_append_left _ (List.mem_of_getElem? (i := 3) rfl)))) (hts _ (List.mem_cons_of_mem _ (List.mem_append_left _ (List.mem_of_getElem? (i := 4) rfl)))) (by rw [hR]; exact Nat.le_of_ble_eq_true rfl) (by rw [hR]; exact Nat.le_of_ble_eq_true rfl) (by rw [hR]; first | exact Nat.le_of_ble_eq_true rfl | (dsimp only; omega)) (by rw [hR]; first | exact Nat.le_of_ble_eq_true rfl | (dsimp only; omega)) dX7_tell_4 ?_
  refine lv_topl (fun v1 ev1 => ?_)
  obtain rfl : v1 = zL (n.natAbs : Int) := by
    rw [ev1]
    rw [zL_N]; exact zL_abs (by omega) (by omega)
  refine lv_ldc2 (v := 1000000) hx hb hown (hts _ (List.mem_cons_of_mem _ (List.mem_append_left _ (List.mem_of_getElem? (i := 5) rfl)))) dX7_tell_7 ?_
  refine W.lcmp hx hb dX7_tell_10 ?_
  refine lv_if_gt (tgt := 25) hx hb dX7_tell_11 (by decide) (fun c2 => ?_) (fun c2 => ?_)
  · have c2 := (lg_cmp_gt (zL (n.natAbs : Int)) 1000000).mp c2
    rw [show (1000000 : Int64) = zL 1000000 from rfl] at c2
    have yc2 := (zL_lt (by omega) (by omega) (by omega) (by omega)).mp c2
    refine lv_iconst (v := 0) hx hb dX7_tell_25 (by decide) ?_
    rw [hQ]
    refine g_zret F hP hS hlocks hr (by first | rfl | exact g_nb _) dX7_tell_26 (by first | exact Nat.le_of_ble_eq_true rfl | omega) (by first | exact Nat.le_of_ble_eq_true rfl | omega) ?_
    have big : (1000000 < n.natAbs ∨ 1000000 < d) := by omega
    exact ⟨g_bf (fun q => q big), (if_pos big).symm⟩
  · have c2 : ¬ (1000000 < (zL (n.natAbs : Int))) := fun h => c2 ((lg_cmp_gt (zL (n.natAbs : Int)) 1000000).mpr h)
    rw [show (1000000 : Int64) = zL 1000000 from rfl] at c2
    have yc2 : ¬ (1000000 < (n.natAbs : Int)) := fun q => c2 ((zL_lt (by omega) (by omega) (by omega) (by omega)).mpr q)
    refine lv_aload_n hx hb dX7_tell_14 rfl (lv_at hl 0 rfl) ?_
    refine g_get F hP (C := RX7) (T := TX7) (N := 20) iX7 hx0 rfl 19 (by decide) (List.mem_cons_of_mem _ (List.mem_append_left _ (List.mem_of_getElem? (i := 6) rfl))) (fun _ h9 => h9) rfl dX7_tell_15 ?_
    refine lv_ldc2 (v := 1000000) hx hb hown (hts _ (List.mem_cons_of_mem _ (List.mem_append_left _ (List.mem_of_getElem? (i := 5) rfl)))) dX7_tell_18 ?_
    refine W.lcmp hx hb dX7_tell_21 ?_
    refine lv_if_le (tgt := 27) hx hb dX7_tell_22 (by decide) (fun c3 => ?_) (fun c3 => ?_)
    · have c3 := (lg_cmp_le (zL d) 1000000).mp c3
      rw [show (1000000 : Int64) = zL 1000000 from rfl] at c3
      have yc3 := (zL_le (by omega) (by omega) (by omega) (by omega)).mp c3
      refine lv_aload_n hx hb dX7_tell_27 rfl (lv_at hl 0 rfl) ?_
      refine g_get F hP (C := RX7) (T := TX7) (N := 20) iX7 hx0 rfl 15 (by decide) (List.mem_cons_of_mem _ (List.mem_append_left _ (List.mem_of_getElem? (i := 7) rfl))) (fun _ h9 => h9) rfl dX7_tell_28 ?_
      refine lv_iload_n hx hb dX7_tell_31 rfl (lv_at hl 1 rfl) ?_
      refine lv_aload_n hx hb dX7_tell_32 rfl (lv_at hl 0 rfl) ?_
      refine g_get F hP (C := RX7) (T := TX7) (N := 20) iX7 hx0 rfl 18 (by decide) (List.mem_cons_of_mem _ (List.mem_append_left _ (List.mem_of_getElem? (i := 0) rfl))) (fun _ h9 => h9) rfl dX7_tell_33 ?_
      refine g_last F hP hS hy9 (vp_in_nI (by omega) (by decide)) dX7_tell_36 (fun H locs hP hS => ?_)
      obtain ⟨w4, ew4⟩ : ∃ z, z = g_up w (md 9) (.inl (G.2.1 1, 10, .inr (.inl (vp_updL (L 0) (nI k : Int32).toNatClampNeg (zL n))))) := ⟨_, rfl⟩
      have hP : g_P A G w4 H := by rw [ew4]; exact hP
      have f5 : w4 (md 0) = some (.inr (8, [.int th, .int (iL (S 0 0)), .ref (md 1), .ref (md 2), .ref (md 3), .int (iL (S 0 4)), .int (iL (S 0 5)), .int (iL (S 0 1)), .ref (md 4), .ref (md 5), .int (iL (S 0 2)), .ref (md 6), .ref (md 7), .int (iL (S 0 3)), .ref (md 8), .ref (md 9), .ref (md 10), .ref (md 11), .long (zL n), .long (zL d)])) := by rw [ew4]; exact g_up_f hx0 ((fun q => absurd (Hj 0 9 (by decide) (by decide) q) (by decide)))
      have f6 : w4 (md 10) = some (.inl (G.2.1 1, 10, .inr (.inl (L 1)))) := by rw [ew4]; exact g_up_f hy10 ((fun q => absurd (Hj 10 9 (by decide) (by decide) q) (by decide)))
      have f7 : w4 (md 11) = some (.inl (G.2.1 0, 10, .inl (Fm 11))) := by rw [ew4]; exact g_up_f hy11 ((fun q => absurd (Hj 11 9 (by decide) (by decide) q) (by decide)))
      have f8 : w4 (md 9) = some (.inl (G.2.1 1, 10, .inr (.inl (vp_updL (L 0) (nI k : Int32).toNatClampNeg (zL n))))) := by rw [ew4]; exact g_up_s _ _ _
      refine lv_aload_n hx hb dX7_tell_37 rfl (lv_at hl 0 rfl) ?_
      refine g_get F hP (C := RX7) (T := TX7) (N := 20) iX7 f5 rfl 16 (by decide) (List.mem_cons_of_mem _ (List.mem_append_left _ (List.mem_of_getElem? (i := 8) rfl))) (fun _ h9 => h9) rfl dX7_tell_38 ?_
      refine lv_iload_n hx hb dX7_tell_41 rfl (lv_at hl 1 rfl) ?_
      refine lv_aload_n hx hb dX7_tell_42 rfl (lv_at hl 0 rfl) ?_
      refine g_get F hP (C := RX7) (T := TX7) (N := 20) iX7 f5 rfl 19 (by decide) (List.mem_cons_of_mem _ (List.mem_append_left _ (List.mem_of_getElem? (i := 6) rfl))) (fun _ h9 => h9) rfl dX7_tell_43 ?_
      refine g_last F hP hS f6 (vp_in_nI (by omega) (by decide)) dX7_tell_46 (fun H locs hP hS => ?_)
      obtain ⟨w9, ew9⟩ : ∃ z, z = g_up w4 (md 10) (.inl (G.2.1 1, 10, .inr (.inl (vp_updL (L 1) (nI k : Int32).toNatClampNeg (zL d))))) := ⟨_, rfl⟩
      have hP : g_P A G w9 H := by rw [ew9]; exact hP
      have f10 : w9 (md 0) = some (.inr (8, [.int th, .int (iL (S 0 0)), .ref (md 1), .ref (md 2), .ref (md 3), .int (iL (S 0 4)), .int (iL (S 0 5)), .int (iL (S 0 1)), .ref (md 4), .ref (md 5), .int (iL (S 0 2)), .ref (md 6), .ref (md 7), .int (iL (S 0 3)), .ref (md 8), .ref (md 9), .ref (md 10), .ref (md 11), .long (zL n), .long (zL d)])) := by rw [ew9]; exact g_up_f f5 ((fun q => absurd (Hj 0 10 (by decide) (by decide) q) (by decide)))
      have f11 : w9 (md 11) = some (.inl (G.2.1 0, 10, .inl (Fm 11))) := by rw [ew9]; exact g_up_f f7 ((fun q => absurd (Hj 11 10 (by decide) (by decide) q) (by decide)))
      have f12 : w9 (md 9) = some (.inl (G.2.1 1, 10, .inr (.inl (vp_updL (L 0) (nI k : Int32).toNatClampNeg (zL n))))) := by rw [ew9]; exact g_up_f f8 ((fun q => absurd (Hj 9 10 (by decide) (by decide) q) (by decide)))
      have f13 : w9 (md 10) = some (.inl (G.2.1 1, 10, .inr (.inl (vp_updL (L 1) (nI k : Int32).toNatClampNeg (zL d))))) := by rw [ew9]; exact g_up_s _ _ _
      refine lv_aload_n hx hb dX7_tell_47 rfl (lv_at hl 0 rfl) ?_
      refine g_get F hP (C := RX7) (T := TX7) (N := 20) iX7 f10 rfl 17 (by decide) (List.mem_cons_of_mem _ (List.mem_append_left _ (List.mem_of_getElem? (i := 9) rfl))) (fun _ h9 => h9) rfl dX7_tell_48 ?_
      refine lv_iload_n hx hb dX7_tell_51 rfl (lv_at hl 1 rfl) ?_
      refine lv_iload_n hx hb dX7_tell_52 rfl (lv_at hl 2 rfl) ?_
      refine g_iast F hP hS f11 (vp_in_nI (by omega) (by decide)) dX7_tell_53 (fun H locs hP hS => ?_)
      obtain ⟨w14, ew14⟩ : ∃ z, z = g_up w9 (md 11) (.inl (G.2.1 0, 10, .inl (upd (Fm 11) (nI k : Int32).toNatClampNeg sg))) := ⟨_, rfl⟩
      have hP : g_P A G w14 H := by rw [ew14]; exact hP
      have f15 : w14 (md 0) = some (.inr (8, [.int th, .int (iL (S 0 0)), .ref (md 1), .ref (md 2), .ref (md 3), .int (iL (S 0 4)), .int (iL (S 0 5)), .int (iL (S 0 1)), .ref (md 4), .ref (md 5), .int (iL (S 0 2)), .ref (md 6), .ref (md 7), .int (iL (S 0 3)), .ref (md 8), .ref (md 9), .ref (md 10), .ref (md 11), .long (zL n), .long (zL d)])) := by rw [ew14]; exact g_up_f f10 ((fun q => absurd (Hj 0 11 (by decide) (by decide) q) (by decide)))
      have f16 : w14 (md 9) = some (.inl (G.2.1 1, 10, .inr (.inl (vp_updL (L 0) (nI k : Int32).toNatClampNeg (zL n))))) := by rw [ew14]; exact g_up_f f12 ((fun q => absurd (Hj 9 11 (by decide) (by decide) q) (by decide)))
      have f17 : w14 (md 10) = some (.inl (G.2.1 1, 10, .inr (.inl (vp_updL (L 1) (nI k : Int32).toNatClampNeg (zL d))))) := by rw [ew14]; exact g_up_f f13 ((fun q => absurd (Hj 10 11 (by decide) (by decide) q) (by decide)))
      have f18 : w14 (md 11) = some (.inl (G.2.1 0, 10, .inl (upd (Fm 11) (nI k : Int32).toNatClampNeg sg))) := by rw [ew14]; exact g_up_s _ _ _
      refine lv_iconst (v := 1) hx hb dX7_tell_54 (by decide) ?_
      rw [hQ]
      refine g_zret F hP hS hlocks hr (by first | rfl | exact g_nb _) dX7_tell_55 (by first | exact Nat.le_of_ble_eq_true rfl | omega) (by first | exact Nat.le_of_ble_eq_true rfl | omega) ?_
      have big : ¬ (1000000 < n.natAbs ∨ 1000000 < d) := by omega
      refine ⟨g_bt big, ?_⟩
      rw [if_neg big, ew14, ew9, ew4, nI_clamp (by omega)]
    · have c3 : ¬ ((zL d) ≤ 1000000) := fun h => c3 ((lg_cmp_le (zL d) 1000000).mpr h)
      rw [show (1000000 : Int64) = zL 1000000 from rfl] at c3
      have yc3 : ¬ (d ≤ 1000000) := fun q => c3 ((zL_le (by omega) (by omega) (by omega) (by omega)).mpr q)
      refine lv_iconst (v := 0) hx hb dX7_tell_25 (by decide) ?_
      rw [hQ]
      refine g_zret F hP hS hlocks hr (by first | rfl | exact g_nb _) dX7_tell_26 (by first | exact Nat.le_of_ble_eq_true rfl | omega) (by first | exact Nat.le_of_ble_eq_true rfl | omega) ?_
      have big : (1000000 < n.natAbs ∨ 1000000 < d) := by omega
      exact ⟨g_bf (fun q => q big), (if_pos big).symm⟩
