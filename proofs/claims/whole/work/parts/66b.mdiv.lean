set_option maxHeartbeats 4000000 in
set_option maxRecDepth 100000 in
theorem k_X7_hasSpeed (l : Launch) (A : Nat → Prop) (G : g_C) (w : g_W) (md : Nat → Nat) (S : Sg) (th : Int32) (tp bt : Int64) (Fm : Nat → Nat → Int32) (L : Nat → Nat → Int64) (k : Nat) (z : Int) (hx0 : w (md 0) = some (.inr (8, [.int th, .int (iL (S 0 0)), .ref (md 1), .ref (md 2), .ref (md 3), .int (iL (S 0 4)), .int (iL (S 0 5)), .int (iL (S 0 1)), .ref (md 4), .ref (md 5), .int (iL (S 0 2)), .ref (md 6), .ref (md 7), .int (iL (S 0 3)), .ref (md 8), .ref (md 9), .ref (md 10), .ref (md 11), .long tp, .long bt]))) (hy10 : w (md 10) = some (.inl (G.2.1 1, 10, .inr (.inl (L 1))))) (hk : k < 10) (hz : L 1 k = zL z) (hzb : z.natAbs < 1152921504606846976) : mI l yX7_hasSpeed wsX7_hasSpeed ({ frames := 0, cells := 0, slots := 0, locals := 0 } : Room) [.ref (md 0), .int (nI k)] A G w (fun r w' => r = g_b (decide (0 < z)) ∧ w' = w) 0 0 := by
  refine g_ofI (cc := cX7_hasSpeed) (maxL := 2) (ret := (some .boolean)) (own := RX7) (by decide) rfl rfl (Nat.le_of_ble_eq_true rfl) ?_
  intro p e R s m args below meth c Q ls hR F hP hS hlocks hr hnm0 hQ hl
  obtain ⟨⟨hx, hb, hml, hown, hts⟩, hK, hZ, hA⟩ := id F
  generalize hH0 : s.heap = H at hP ⊢
  have hS : va_S A s.heap H [] := by rw [← hH0]; exact va_S.rf
  generalize ([] : List Loc) = locs at hS ⊢
  have hl : lv_has ls 2 [(0, .ref (md 0)), (1, .int (nI k))] := hl
  have iX7 : ∀ w ∈ u_ws RX7 TX7 20, w ∈ wsX7_hasSpeed := fun w h => List.mem_cons_of_mem _ (List.mem_append_right _ (h))
  refine lv_aload_n hx hb dX7_hasSpeed_0 rfl (lv_at hl 0 rfl) ?_
  refine g_get F hP (C := RX7) (T := TX7) (N := 20) iX7 hx0 rfl 16 (by decide) (List.mem_cons_of_mem _ (List.mem_append_left _ (List.mem_of_getElem? (i := 0) rfl))) (fun _ h9 => h9) rfl dX7_hasSpeed_1 ?_
  refine lv_iload_n hx hb dX7_hasSpeed_4 rfl (lv_at hl 1 rfl) ?_
  refine g_lald F hP hy10 (vp_in_nI (by omega) (by decide)) dX7_hasSpeed_5 ?_
  rw [show (.long ((L 1) (nI k : Int32).toNatClampNeg) : Value) = .long (zL z) from by rw [nI_clamp (by omega), hz]]
  refine lv_lconst (v := 0) hx hb dX7_hasSpeed_6 (by decide) ?_
  refine W.lcmp hx hb dX7_hasSpeed_7 ?_
  refine lv_if_le (tgt := 15) hx hb dX7_hasSpeed_8 (by decide) (fun c1 => ?_) (fun c1 => ?_)
  · have c1 := (lg_cmp_le (zL z) 0).mp c1
    have yc1 : ¬ 0 < z := fun q => by
      have q1 := (zL_gt0 (a := z) (by omega) (by omega)).mpr q
      exact absurd c1 (by rw [Int64.not_le]; exact q1)
    refine lv_iconst (v := 0) hx hb dX7_hasSpeed_15 (by decide) ?_
    rw [hQ]
    refine g_zret F hP hS hlocks hr (by first | rfl | exact g_nb _) dX7_hasSpeed_16 (by first | exact Nat.le_of_ble_eq_true rfl | omega) (by first | exact Nat.le_of_ble_eq_true rfl | omega) ?_
    exact ⟨g_bf yc1, rfl⟩
  · have c1 : ¬ ((zL z) ≤ 0) := fun h => c1 ((lg_cmp_le (zL z) 0).mpr h)
    have yc1 : 0 < z := (zL_gt0 (a := z) (by omega) (by omega)).mp (Int64.not_le.mp c1)
    refine lv_iconst (v := 1) hx hb dX7_hasSpeed_11 (by decide) ?_
    refine lv_goto (tgt := 16) hx hb dX7_hasSpeed_12 (by decide) ?_
    rw [hQ]
    refine g_zret F hP hS hlocks hr (by first | rfl | exact g_nb _) dX7_hasSpeed_16 (by first | exact Nat.le_of_ble_eq_true rfl | omega) (by first | exact Nat.le_of_ble_eq_true rfl | omega) ?_
    exact ⟨g_bt yc1, rfl⟩
