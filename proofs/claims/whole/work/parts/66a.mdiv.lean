set_option maxHeartbeats 4000000 in
set_option maxRecDepth 100000 in
theorem k_X7_divisor (l : Launch) (A : Nat → Prop) (G : g_C) (w : g_W) (x y : Int) (hx1 : x.natAbs < 1152921504606846976) (hy1 : y.natAbs < 1152921504606846976) : mL l yX7_divisor wsX7_divisor ({ frames := 1, cells := 0, slots := 0, locals := 40 } : Room) [.long (zL x), .long (zL y)] A G w (fun r w' => r = lN (Int.gcd x y) ∧ w' = w) 0 0 := by
  refine g_ofL (cc := cX7_divisor) (maxL := 10) (ret := (some .long)) (own := RX7) (by decide) rfl rfl (Nat.le_of_ble_eq_true rfl) ?_
  intro p e R s m args below meth c Q ls hR F hP hS hlocks hr hnm0 hQ hl
  obtain ⟨⟨hx, hb, hml, hown, hts⟩, hK, hZ, hA⟩ := id F
  generalize hH0 : s.heap = H at hP ⊢
  have hS : va_S A s.heap H [] := by rw [← hH0]; exact va_S.rf
  generalize ([] : List Loc) = locs at hS ⊢
  have hl : lv_has ls 10 [(0, .long (zL x)), (2, .long (zL y))] := hl
  refine lv_lload_n hx hb dX7_divisor_0 rfl (lv_at hl 0 rfl) ?_
  refine va_mabs_long hx hb (by rw [hml]; exact hl.1.symm) hown (hts _ (List.mem_cons_of_mem _ (List.mem_of_getElem? (i := 0) rfl))) (hts _ (List.mem_cons_of_mem _ (List.mem_of_getElem? (i := 1) rfl))) (hts _ (List.mem_cons_of_mem _ (List.mem_of_getElem? (i := 2) rfl))) (hts _ (List.mem_cons_of_mem _ (List.mem_of_getElem? (i := 3) rfl))) (by rw [hR]; exact Nat.le_of_ble_eq_true rfl) (by rw [hR]; exact Nat.le_of_ble_eq_true rfl) (by rw [hR]; first | exact Nat.le_of_ble_eq_true rfl | (dsimp only; omega)) (by rw [hR]; first | exact Nat.le_of_ble_eq_true rfl | (dsimp only; omega)) dX7_divisor_1 ?_
  refine lv_topl (fun v1 ev1 => ?_)
  obtain rfl : v1 = lN x.natAbs := by
    rw [ev1]
    exact zL_abs (by omega) (by omega)
  refine lv_lstore (lv' := [(4, .long (lN x.natAbs)), (0, .long (zL x)), (2, .long (zL y))]) hx hb dX7_divisor_4 hl (by decide) rfl (fun ls hl => ?_)
  refine lv_lload_n hx hb dX7_divisor_6 rfl (lv_at hl 2 rfl) ?_
  refine va_mabs_long hx hb (by rw [hml]; exact hl.1.symm) hown (hts _ (List.mem_cons_of_mem _ (List.mem_of_getElem? (i := 0) rfl))) (hts _ (List.mem_cons_of_mem _ (List.mem_of_getElem? (i := 1) rfl))) (hts _ (List.mem_cons_of_mem _ (List.mem_of_getElem? (i := 2) rfl))) (hts _ (List.mem_cons_of_mem _ (List.mem_of_getElem? (i := 3) rfl))) (by rw [hR]; exact Nat.le_of_ble_eq_true rfl) (by rw [hR]; exact Nat.le_of_ble_eq_true rfl) (by rw [hR]; first | exact Nat.le_of_ble_eq_true rfl | (dsimp only; omega)) (by rw [hR]; first | exact Nat.le_of_ble_eq_true rfl | (dsimp only; omega)) dX7_divisor_7 ?_
  refine lv_topl (fun v2 ev2 => ?_)
  obtain rfl : v2 = lN y.natAbs := by
    rw [ev2]
    exact zL_abs (by omega) (by omega)
  refine lv_lstore (lv' := [(6, .long (lN y.natAbs)), (4, .long (lN x.natAbs)), (0, .long (zL x)), (2, .long (zL y))]) hx hb dX7_divisor_10 hl (by decide) rfl (fun ls hl => ?_)
  have L12 : ∀ (n : Nat) (a1 : Nat) (b1 : Nat) (H : Heap) (locs : List Loc) (ls : Array Slot), b1 + 1 ≤ n → (Nat.gcd a1 b1 = Nat.gcd x.natAbs y.natAbs) → (a1 < 1152921504606846976 ∧ b1 < 1152921504606846976) → g_P A G w H → va_S A s.heap H locs → lv_has ls 10 [(6, .long (lN b1)), (4, .long (lN a1))] → W p l e R s m args below meth c H locs (0) (0) Q (F0 m 12 ls []) := by
    intro n
    induction n with
    | zero =>
      intro a1 b1 H locs ls hfu h1 h2 hP hS hl
      exact absurd hfu (by omega)
    | succ n ih_L12 =>
      intro a1 b1 H locs ls hfu h1 h2 hP hS hl
      refine lv_lload hx hb dX7_divisor_12 (lv_at hl 0 rfl) ?_
      refine lv_lconst (v := 0) hx hb dX7_divisor_14 (by decide) ?_
      refine W.lcmp hx hb dX7_divisor_15 ?_
      refine lv_if_eq (tgt := 37) hx hb dX7_divisor_16 (by decide) (fun c3 => ?_) (fun c3 => ?_)
      · have c3 := (lg_cmp_eq (lN b1) 0).mp c3
        have z1 : b1 = 0 := by rw [show (0 : Int64) = lN 0 from rfl] at c3; exact (pk_lEQ (by omega) (by omega)).mp c3
        refine lv_lload hx hb dX7_divisor_37 (lv_at hl 1 rfl) ?_
        rw [hQ]
        refine g_lret F hP hS hlocks hr dX7_divisor_39 (by first | exact Nat.le_of_ble_eq_true rfl | omega) (by first | exact Nat.le_of_ble_eq_true rfl | omega) ?_
        exact ⟨by rw [← (show Nat.gcd x.natAbs y.natAbs = Int.gcd x y from rfl), ← h1, z1, Nat.gcd_zero_right], rfl⟩
      · have c3 : ¬ ((lN b1) = 0) := fun h => c3 ((lg_cmp_eq (lN b1) 0).mpr h)
        have z1 : b1 ≠ 0 := fun q => c3 (by rw [q]; rfl)
        refine lv_lload hx hb dX7_divisor_19 (lv_at hl 1 rfl) ?_
        refine lv_lload hx hb dX7_divisor_21 (lv_at hl 0 rfl) ?_
        refine lv_lrem hx hb dX7_divisor_23 (fun q => c3 q) ?_
        refine lv_topl (fun v4 ev4 => ?_)
        obtain rfl : v4 = lN (a1 % b1) := by
          rw [ev4]
          exact pk_lRem (by omega) (by omega) (by omega)
        refine lv_lstore (lv' := [(8, .long (lN (a1 % b1))), (6, .long (lN b1)), (4, .long (lN a1))]) hx hb dX7_divisor_24 hl (by decide) rfl (fun ls hl => ?_)
        refine lv_lload hx hb dX7_divisor_26 (lv_at hl 1 rfl) ?_
        refine lv_lstore (lv' := [(4, .long (lN b1)), (8, .long (lN (a1 % b1))), (6, .long (lN b1))]) hx hb dX7_divisor_28 hl (by decide) rfl (fun ls hl => ?_)
        refine lv_lload hx hb dX7_divisor_30 (lv_at hl 1 rfl) ?_
        refine lv_lstore (lv' := [(6, .long (lN (a1 % b1))), (4, .long (lN b1)), (8, .long (lN (a1 % b1)))]) hx hb dX7_divisor_32 hl (by decide) rfl (fun ls hl => ?_)
        have hml2 := Nat.mod_lt a1 (Nat.pos_of_ne_zero z1)
        refine lv_goto (tgt := 12) hx hb dX7_divisor_34 (by decide) ?_
        exact ih_L12 b1 (a1 % b1)  H locs ls (by omega) (by rw [← h1, Nat.gcd_comm a1 b1, Nat.gcd_rec b1 a1, Nat.gcd_comm]) (⟨h2.2, Nat.lt_of_le_of_lt (Nat.mod_le _ _) h2.1⟩) hP hS (lv_sub hl [0, 1] rfl)
  exact L12 (y.natAbs + 1) x.natAbs y.natAbs  H locs ls (by omega) (rfl) (⟨hx1, hy1⟩) hP hS (lv_sub hl [0, 1] rfl)
