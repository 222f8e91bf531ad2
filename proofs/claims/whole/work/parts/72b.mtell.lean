set_option maxHeartbeats 4000000 in
set_option maxRecDepth 100000 in
theorem k_X7_toldOf (l : Launch) (A : Nat → Prop) (G : g_C) (w : g_W) (md : Nat → Nat) (S : Sg) (th : Int32) (tp bt : Int64) (Fm : Nat → Nat → Int32) (L : Nat → Nat → Int64) (T : Sg) (mm : Nat) (hx0 : w (md 0) = some (.inr (8, [.int th, .int (iL (S 0 0)), .ref (md 1), .ref (md 2), .ref (md 3), .int (iL (S 0 4)), .int (iL (S 0 5)), .int (iL (S 0 1)), .ref (md 4), .ref (md 5), .int (iL (S 0 2)), .ref (md 6), .ref (md 7), .int (iL (S 0 3)), .ref (md 8), .ref (md 9), .ref (md 10), .ref (md 11), .long tp, .long bt]))) (hy8 : w (md 8) = some (.inl (G.2.1 0, 20, .inl (Fm 8)))) (hy10 : w (md 10) = some (.inl (G.2.1 1, 10, .inr (.inl (L 1))))) (Hf : modF S Fm) (Hi : invS S) (Ht : invT S T) (HT : modT S T Fm L) (hm : (mm : Int) < S 0 3) : mI l yX7_toldOf wsX7_toldOf ({ frames := 1, cells := 0, slots := 0, locals := 21 } : Room) [.ref (md 0), .int (nI mm)] A G w (fun r w' => r = nI (tcN S T mm 3) ∧ w' = w) 0 0 := by
  refine g_ofI (cc := cX7_toldOf) (maxL := 4) (ret := (some .int)) (own := RX7) (by decide) rfl rfl (Nat.le_of_ble_eq_true rfl) ?_
  intro p e R s m args below meth c Q ls hR F hP hS hlocks hr hnm0 hQ hl
  obtain ⟨⟨hx, hb, hml, hown, hts⟩, hK, hZ, hA⟩ := id F
  generalize hH0 : s.heap = H at hP ⊢
  have hS : va_S A s.heap H [] := by rw [← hH0]; exact va_S.rf
  generalize ([] : List Loc) = locs at hS ⊢
  have hl : lv_has ls 4 [(0, .ref (md 0)), (1, .int (nI mm))] := hl
  have iX7 : ∀ w ∈ u_ws RX7 TX7 20, w ∈ wsX7_toldOf := fun w h => List.mem_cons_of_mem _ (List.mem_append_right _ (h))
  have hi := Hi.1
  have ps := Hi.2.2.2.2 mm hm
  have hs0 : ((saP S mm 0 : Nat) : Int) < S 0 0 := tSa_lt (b := 1) Hi (by decide) hm 0
  have hs1 : ((saP S mm 1 : Nat) : Int) < S 0 0 := tSa_lt (b := 1) Hi (by decide) hm 1
  have hs2 : ((saP S mm 2 : Nat) : Int) < S 0 0 := tSa_lt (b := 1) Hi (by decide) hm 2
  have hsk : ∀ k, ((saP S mm k : Nat) : Int) < S 0 0 := fun k => tSa_lt (b := 1) Hi (by decide) hm k
  have q8 : ∀ k, k < 3 → Fm 8 (5 * mm + k) = nI (saP S mm k) := fun k hk => by
    rcases (show k = 0 ∨ k = 1 ∨ k = 2 by omega) with rfl | rfl | rfl
    · rw [Nat.add_zero, (Hf.2.2.2.1 mm hm).1, iL_nn (by omega)]; rfl
    · rw [(Hf.2.2.2.1 mm hm).2.1, iL_nn (by omega)]; rfl
    · rw [(Hf.2.2.2.1 mm hm).2.2.1, iL_nn (by omega)]; rfl
  refine lv_iconst (v := 0) hx hb dX7_toldOf_0 (by decide) ?_
  refine lv_istore_n (lv' := [(2, .int 0), (0, .ref (md 0)), (1, .int (nI mm))]) hx hb dX7_toldOf_1 rfl hl (by decide) rfl (fun ls hl => ?_)
  refine lv_iconst (v := 0) hx hb dX7_toldOf_2 (by decide) ?_
  refine lv_istore_n (lv' := [(3, .int 0), (2, .int 0), (0, .ref (md 0)), (1, .int (nI mm))]) hx hb dX7_toldOf_3 rfl hl (by decide) rfl (fun ls hl => ?_)
  have L4 : ∀ (n : Nat) (k : Nat) (H : Heap) (locs : List Loc) (ls : Array Slot), 4 ≤ k + n → (k ≤ 3) → g_P A G w H → va_S A s.heap H locs → lv_has ls 4 [(3, .int (nI k)), (2, .int (nI (tcN S T mm k))), (0, .ref (md 0)), (1, .int (nI mm))] → W p l e R s m args below meth c H locs (0) (0) Q (F0 m 4 ls []) := by
    intro n
    induction n with
    | zero =>
      intro k H locs ls hfu hk3 hP hS hl
      exact absurd hfu (by omega)
    | succ n ih_L4 =>
      intro k H locs ls hfu hk3 hP hS hl
      refine lv_iload_n hx hb dX7_toldOf_4 rfl (lv_at hl 0 rfl) ?_
      refine lv_iconst (v := 3) hx hb dX7_toldOf_5 (by decide) ?_
      refine lv_icmp_ge (tgt := 40) hx hb dX7_toldOf_6 (by decide) (fun c1 => ?_) (fun c1 => ?_)
      · have zc1 : 3 ≤ k := (n3_le (k := k) (by omega)).mp c1
        refine lv_iload_n hx hb dX7_toldOf_40 rfl (lv_at hl 1 rfl) ?_
        rw [hQ]
        refine g_iret F hP hS hlocks hr dX7_toldOf_41 (by first | exact Nat.le_of_ble_eq_true rfl | omega) (by first | exact Nat.le_of_ble_eq_true rfl | omega) ?_
        exact ⟨by rw [show k = 3 by omega], rfl⟩
      · have zc1 : k < 3 := by
          rcases Nat.lt_or_ge k 3 with q | q
          · exact q
          · exact absurd ((n3_le (k := k) (by omega)).mpr q) c1
        refine lv_iload_n hx hb dX7_toldOf_9 rfl (lv_at hl 1 rfl) ?_
        refine lv_aload_n hx hb dX7_toldOf_10 rfl (lv_at hl 2 rfl) ?_
        refine lv_aload_n hx hb dX7_toldOf_11 rfl (lv_at hl 2 rfl) ?_
        refine g_get F hP (C := RX7) (T := TX7) (N := 20) iX7 hx0 rfl 14 (by decide) (List.mem_cons_of_mem _ (List.mem_append_left _ (List.mem_of_getElem? (i := 0) rfl))) (fun _ h9 => h9) rfl dX7_toldOf_12 ?_
        refine lv_iconst (v := 5) hx hb dX7_toldOf_15 (by decide) ?_
        refine lv_iload_n hx hb dX7_toldOf_16 rfl (lv_at hl 3 rfl) ?_
        refine lv_imul hx hb dX7_toldOf_17 ?_
        refine lv_topi (fun v2 ev2 => ?_)
        obtain rfl : v2 = nI (5 * mm) := by
          rw [ev2]
          exact nI_mul 5 mm
        refine lv_iload_n hx hb dX7_toldOf_18 rfl (lv_at hl 0 rfl) ?_
        refine lv_iadd hx hb dX7_toldOf_19 ?_
        refine lv_topi (fun v3 ev3 => ?_)
        obtain rfl : v3 = nI (5 * mm + k) := by
          rw [ev3]
          exact nI_add _ _
        refine g_iald F hP hy8 (vp_in_nI (n := 5 * mm + k) (by omega) (by decide)) dX7_toldOf_20 ?_
        rw [show (.int ((Fm 8) (nI (5 * mm + k) : Int32).toNatClampNeg) : Value) = .int (nI (saP S mm k)) from by rw [nI_clamp (n := 5 * mm + k) (by omega), q8 k zc1]]
        refine g_Vi (As := [.int (nI (saP S mm k))]) (rest := [.int (nI (tcN S T mm k))]) F hP hS (k_X7_hasSpeed l A G w md S _ _ _ Fm L (saP S mm k) (zB T (saP S mm k)) hx0 hy10 (by have := (hsk k); omega) (zB_z HT (hsk k)) (zB_b Ht (hsk k))) (cwV 1 hts gX7_toldOf_X7_hasSpeed rfl rfl rfl cd_X7_hasSpeed ⟨by rw [hR]; exact Nat.le_of_ble_eq_true rfl, by rw [hR]; exact Nat.le_of_ble_eq_true rfl⟩) hx0 rfl rfl rfl hl.1 (Nat.le_of_ble_eq_true rfl) dX7_toldOf_21 ⟨by rw [hR]; exact Nat.le_of_ble_eq_true rfl, by rw [hR]; exact Nat.le_of_ble_eq_true rfl⟩ rfl (fun r4 w5 H locs h6 hP hS => ?_)
        have hr4 := h6.1
        rw [h6.2] at hP
        rw [hr4]
        rw [zB_d Ht (hsk k)]
        refine lv_if_eq (tgt := 31) hx hb dX7_toldOf_24 (by decide) (fun c7 => ?_) (fun c7 => ?_)
        · have yc7 := of_decide_eq_false (g_b0.mp c7)
          refine lv_iconst (v := 0) hx hb dX7_toldOf_31 (by decide) ?_
          refine lv_iadd hx hb dX7_toldOf_32 ?_
          refine lv_topi (fun v8 ev8 => ?_)
          obtain rfl : v8 = nI (tcN S T mm (k + 1)) := by
            rw [ev8]
            rw [show tcN S T mm (k + 1) = tcN S T mm k + (if T 2 (saP S mm k) ≠ -1 then 1 else 0) from rfl, if_neg yc7]; exact nI_add _ 0
          refine lv_istore_n (lv' := [(2, .int (nI (tcN S T mm (k + 1)))), (3, .int (nI k)), (0, .ref (md 0)), (1, .int (nI mm))]) hx hb dX7_toldOf_33 rfl hl (by decide) rfl (fun ls hl => ?_)
          obtain ⟨i9, ei9⟩ : ∃ y : Int32, y = nI k + (1) := ⟨_, rfl⟩
          refine lv_iinc (v := i9) (lv' := [(3, .int i9), (2, .int (nI (tcN S T mm (k + 1)))), (0, .ref (md 0)), (1, .int (nI mm))]) hx hb dX7_toldOf_34 hl (k := 1) rfl (by rw [ei9]; rfl) (by decide) rfl (fun ls hl => ?_)
          obtain rfl : i9 = nI (k + 1) := by
            rw [ei9]
            exact nI_1 k
          refine lv_goto (tgt := 4) hx hb dX7_toldOf_37 (by decide) ?_
          exact ih_L4 (k + 1)  H locs ls (by omega) (by omega) hP hS (lv_sub hl [0, 1, 2, 3] rfl)
        · have yc7 := of_decide_eq_true (g_b1.mp c7)
          refine lv_iconst (v := 1) hx hb dX7_toldOf_27 (by decide) ?_
          refine lv_goto (tgt := 32) hx hb dX7_toldOf_28 (by decide) ?_
          refine lv_iadd hx hb dX7_toldOf_32 ?_
          refine lv_topi (fun v10 ev10 => ?_)
          obtain rfl : v10 = nI (tcN S T mm (k + 1)) := by
            rw [ev10]
            rw [show tcN S T mm (k + 1) = tcN S T mm k + (if T 2 (saP S mm k) ≠ -1 then 1 else 0) from rfl, if_pos yc7]; exact nI_add _ 1
          refine lv_istore_n (lv' := [(2, .int (nI (tcN S T mm (k + 1)))), (3, .int (nI k)), (0, .ref (md 0)), (1, .int (nI mm))]) hx hb dX7_toldOf_33 rfl hl (by decide) rfl (fun ls hl => ?_)
          obtain ⟨i11, ei11⟩ : ∃ y : Int32, y = nI k + (1) := ⟨_, rfl⟩
          refine lv_iinc (v := i11) (lv' := [(3, .int i11), (2, .int (nI (tcN S T mm (k + 1)))), (0, .ref (md 0)), (1, .int (nI mm))]) hx hb dX7_toldOf_34 hl (k := 1) rfl (by rw [ei11]; rfl) (by decide) rfl (fun ls hl => ?_)
          obtain rfl : i11 = nI (k + 1) := by
            rw [ei11]
            exact nI_1 k
          refine lv_goto (tgt := 4) hx hb dX7_toldOf_37 (by decide) ?_
          exact ih_L4 (k + 1)  H locs ls (by omega) (by omega) hP hS (lv_sub hl [0, 1, 2, 3] rfl)
  exact L4 4 0  H locs ls (by omega) (by decide) hP hS (lv_sub hl [0, 1, 2, 3] rfl)
