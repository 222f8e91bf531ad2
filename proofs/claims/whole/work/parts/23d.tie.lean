theorem cd_X4_hasSpeed : yX4_hasSpeed.cls = RX4 ∧ yX4_hasSpeed.cls ≠ "java/lang/invoke/MethodHandle" ∧ yX4_hasSpeed.cls ≠ "java/lang/invoke/VarHandle" ∧ (parseMethodDescriptor yX4_hasSpeed.desc).map (fun d => d.parameters.length) = some 0 := by decide +kernel
set_option maxHeartbeats 4000000 in
set_option maxRecDepth 100000 in
theorem k_X5_onlyUnknown (l : Launch) (A : Nat → Prop) (G : g_C) (w : g_W) (t ars arw fr N : Nat) (sa sf : Nat → Nat) (wt : Nat → Int) (X Y HD ST : Nat → Int32) (nu de : Nat → Int) (asd : Int32) (T : tieW G w t ars arw fr N sa sf wt X Y HD ST nu de asd) (hN : N ≤ 3) : mI l yX5_onlyUnknown wsX5_onlyUnknown ({ frames := 1, cells := 0, slots := 0, locals := 20 } : Room) [.ref t] A G w (fun r w' => ((∃ k, r = nI k ∧ onlyU ST N k) ∨ (r = -1 ∧ ∀ k, ¬ onlyU ST N k)) ∧ w' = w) 0 0 := by
  refine g_ofI (cc := cX5_onlyUnknown) (maxL := 3) (ret := (some .int)) (own := RX5) (by decide) rfl rfl (Nat.le_of_ble_eq_true rfl) ?_
  intro p e R s m args below meth c Q ls hR F hP hS hlocks hr hnm0 hQ hl
  obtain ⟨⟨hx, hb, hml, hown, hts⟩, hK, hZ, hA⟩ := id F
  generalize hH0 : s.heap = H at hP ⊢
  have hS : va_S A s.heap H [] := by rw [← hH0]; exact va_S.rf
  generalize ([] : List Loc) = locs at hS ⊢
  have hl : lv_has ls 3 [(0, .ref t)] := hl
  have iX5 : ∀ w ∈ u_ws RX5 TX5 4, w ∈ wsX5_onlyUnknown := fun w h => List.mem_cons_of_mem _ (List.mem_append_left _ (List.mem_append_right _ (h)))
  obtain ⟨ht, ⟨fS, has, hfS⟩, ⟨fW, haw, hfW⟩, ⟨n0, d0, hfr⟩, hsa, hsf⟩ := T
  refine lv_iconst (v := (-1)) hx hb dX5_onlyUnknown_0 (by decide) ?_
  refine lv_istore_n (lv' := [(1, .int (-1)), (0, .ref t)]) hx hb dX5_onlyUnknown_1 rfl hl (by decide) rfl (fun ls hl => ?_)
  refine lv_iconst (v := 0) hx hb dX5_onlyUnknown_2 (by decide) ?_
  refine lv_istore_n (lv' := [(2, .int 0), (1, .int (-1)), (0, .ref t)]) hx hb dX5_onlyUnknown_3 rfl hl (by decide) rfl (fun ls hl => ?_)
  have L4 : ∀ (n : Nat) (k : Nat) (pl : Int32) (H : Heap) (locs : List Loc) (ls : Array Slot), N + 1 ≤ k + n → (k ≤ N) → ((pl = -1 ∧ ∀ j, j < k → ST j ≠ -1) ∨ ∃ j0, j0 < k ∧ pl = nI j0 ∧ ST j0 = -1 ∧ ∀ j, j < k → j ≠ j0 → ST j ≠ -1) → g_P A G w H → va_S A s.heap H locs → lv_has ls 3 [(2, .int (nI k)), (1, .int pl), (0, .ref t)] → W p l e R s m args below meth c H locs (0) (0) Q (F0 m 4 ls []) := by
    intro n
    induction n with
    | zero =>
      intro k pl H locs ls hfu hkN hinv hP hS hl
      exact absurd hfu (by omega)
    | succ n ih_L4 =>
      intro k pl H locs ls hfu hkN hinv hP hS hl
      refine lv_iload_n hx hb dX5_onlyUnknown_4 rfl (lv_at hl 0 rfl) ?_
      refine lv_aload_n hx hb dX5_onlyUnknown_5 rfl (lv_at hl 2 rfl) ?_
      refine g_get F hP (C := RX5) (T := TX5) (N := 4) iX5 ht rfl 0 (by decide) (List.mem_cons_of_mem _ (List.mem_append_left _ (List.mem_append_left _ (List.mem_of_getElem? (i := 0) rfl)))) (fun _ h9 => h9) rfl dX5_onlyUnknown_6 ?_
      refine g_alen F hP 4 rfl has (v := nI N) rfl dX5_onlyUnknown_9 ?_
      refine lv_icmp_ge (tgt := 39) hx hb dX5_onlyUnknown_10 (by decide) (fun c1 => ?_) (fun c1 => ?_)
      · have zc1 : N ≤ k := (nI_leI (by omega) (by omega)).mp c1
        refine lv_iload_n hx hb dX5_onlyUnknown_39 rfl (lv_at hl 1 rfl) ?_
        rw [hQ]
        refine g_iret F hP hS hlocks hr dX5_onlyUnknown_40 (by first | exact Nat.le_of_ble_eq_true rfl | omega) (by first | exact Nat.le_of_ble_eq_true rfl | omega) ?_
        obtain rfl : k = N := by omega
        refine ⟨?_, rfl⟩
        rcases hinv with ⟨a1, a2⟩ | ⟨j0, a1, a2, a3, a4⟩
        · exact Or.inr ⟨a1, fun j hj => a2 j hj.1 hj.2.1⟩
        · exact Or.inl ⟨j0, a2, a1, a3, a4⟩
      · have hk : k < N := Nat.not_le.mp (fun q => c1 (nI_le q (by omega)))
        refine lv_aload_n hx hb dX5_onlyUnknown_13 rfl (lv_at hl 2 rfl) ?_
        refine g_get F hP (C := RX5) (T := TX5) (N := 4) iX5 ht rfl 0 (by decide) (List.mem_cons_of_mem _ (List.mem_append_left _ (List.mem_append_left _ (List.mem_of_getElem? (i := 0) rfl)))) (fun _ h9 => h9) rfl dX5_onlyUnknown_14 ?_
        refine lv_iload_n hx hb dX5_onlyUnknown_17 rfl (lv_at hl 0 rfl) ?_
        refine g_aldqS F hP has (vp_in_nI hk (by omega)) dX5_onlyUnknown_18 ?_
        have f2 := hsa k hk
        have f3 := hsf k hk
        rw [show (va_rf (fS (nI k : Int32).toNatClampNeg) : Value) = .ref (sa k) from by rw [nI_clamp (by omega), hfS k hk]; rfl]
        refine g_Vi (As := []) (rest := []) F hP hS (k_X4_hasSpeed l A G w (sa k) (X k) (Y k) (HD k) (ST k) (sf k) f2) (cwV 0 hts gX5_onlyUnknown_X4_hasSpeed rfl rfl rfl cd_X4_hasSpeed ⟨by rw [hR]; exact Nat.le_of_ble_eq_true rfl, by rw [hR]; exact Nat.le_of_ble_eq_true rfl⟩) f2 rfl rfl rfl hl.1 (Nat.le_of_ble_eq_true rfl) dX5_onlyUnknown_19 ⟨by rw [hR]; exact Nat.le_of_ble_eq_true rfl, by rw [hR]; exact Nat.le_of_ble_eq_true rfl⟩ rfl (fun r4 w5 H locs h6 hP hS => ?_)
        have hr4 := h6.1
        rw [h6.2] at hP
        rw [hr4]
        refine lv_if_ne (tgt := 33) hx hb dX5_onlyUnknown_22 (by decide) (fun c7 => ?_) (fun c7 => ?_)
        · have yc7 : ST k ≠ -1 := of_decide_eq_true (g_b1.mp c7)
          obtain ⟨i8, ei8⟩ : ∃ y : Int32, y = nI k + (1) := ⟨_, rfl⟩
          refine lv_iinc (v := i8) (lv' := [(2, .int i8), (1, .int pl), (0, .ref t)]) hx hb dX5_onlyUnknown_33 hl (k := 0) rfl (by rw [ei8]; rfl) (by decide) rfl (fun ls hl => ?_)
          obtain rfl : i8 = nI (k + 1) := by
            rw [ei8]
            exact nI_1 k
          refine lv_goto (tgt := 4) hx hb dX5_onlyUnknown_36 (by decide) ?_
          exact ih_L4 (k + 1) pl  H locs ls (by omega) (hk) (by
            rcases hinv with ⟨a1, a2⟩ | ⟨j0, a1, a2, a3, a4⟩
            · exact Or.inl ⟨a1, fun j hj => (Nat.lt_succ_iff_lt_or_eq.mp hj).elim (a2 j) (fun e => e ▸ yc7)⟩
            · exact Or.inr ⟨j0, by omega, a2, a3, fun j hj hn => (Nat.lt_succ_iff_lt_or_eq.mp hj).elim (fun q => a4 j q hn) (fun e => e ▸ yc7)⟩) hP hS (lv_sub hl [0, 1, 2] rfl)
        · have yc7 : ST k = -1 := Decidable.not_not.mp (of_decide_eq_false (g_b0.mp c7))
          refine lv_iload_n hx hb dX5_onlyUnknown_25 rfl (lv_at hl 1 rfl) ?_
          refine lv_if_lt (tgt := 31) hx hb dX5_onlyUnknown_26 (by decide) (fun c9 => ?_) (fun c9 => ?_)
          · refine lv_iload_n hx hb dX5_onlyUnknown_31 rfl (lv_at hl 0 rfl) ?_
            refine lv_istore_n (lv' := [(1, .int (nI k)), (2, .int (nI k)), (0, .ref t)]) hx hb dX5_onlyUnknown_32 rfl hl (by decide) rfl (fun ls hl => ?_)
            obtain ⟨i10, ei10⟩ : ∃ y : Int32, y = nI k + (1) := ⟨_, rfl⟩
            refine lv_iinc (v := i10) (lv' := [(2, .int i10), (1, .int (nI k)), (0, .ref t)]) hx hb dX5_onlyUnknown_33 hl (k := 1) rfl (by rw [ei10]; rfl) (by decide) rfl (fun ls hl => ?_)
            obtain rfl : i10 = nI (k + 1) := by
              rw [ei10]
              exact nI_1 k
            refine lv_goto (tgt := 4) hx hb dX5_onlyUnknown_36 (by decide) ?_
            exact ih_L4 (k + 1) (nI k)  H locs ls (by omega) (hk) (by
              rcases hinv with ⟨a1, a2⟩ | ⟨j0, a1, a2, a3, a4⟩
              · exact Or.inr ⟨k, by omega, rfl, yc7, fun j hj hn => (Nat.lt_succ_iff_lt_or_eq.mp hj).elim (a2 j) (fun e => absurd e hn)⟩
              · exact absurd c9 (by rw [a2]; exact nI_pos (by omega))) hP hS (lv_sub hl [0, 1, 2] rfl)
          · refine lv_iconst (v := (-1)) hx hb dX5_onlyUnknown_29 (by decide) ?_
            rw [hQ]
            refine g_iret F hP hS hlocks hr dX5_onlyUnknown_30 (by first | exact Nat.le_of_ble_eq_true rfl | omega) (by first | exact Nat.le_of_ble_eq_true rfl | omega) ?_
            refine ⟨Or.inr ⟨rfl, fun j hj => ?_⟩, rfl⟩
            rcases hinv with ⟨a1, a2⟩ | ⟨j0, a1, a2, a3, a4⟩
            · exact absurd (by rw [a1]; decide) c9
            · rcases Nat.decEq j k with q | q
              · exact hj.2.2 k hk (fun z => q z.symm) yc7
              · exact hj.2.2 j0 (by omega) (by omega) a3
  exact L4 (N + 1) 0 (-1)  H locs ls (by omega) (Nat.zero_le _) (Or.inl ⟨rfl, fun j hj => absurd hj (Nat.not_lt_zero j)⟩) hP hS (lv_sub hl [0, 1, 2] rfl)
