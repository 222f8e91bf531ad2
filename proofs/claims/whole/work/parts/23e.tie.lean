set_option maxHeartbeats 4000000 in
set_option maxRecDepth 100000 in
theorem k_X5_greatestStage (l : Launch) (A : Nat → Prop) (G : g_C) (w : g_W) (t ars arw fr N : Nat) (sa sf : Nat → Nat) (wt : Nat → Int) (X Y HD ST : Nat → Int32) (nu de : Nat → Int) (asd : Int32) (T : tieW G w t ars arw fr N sa sf wt X Y HD ST nu de asd) (hN : N ≤ 3) : mI l yX5_greatestStage wsX5_greatestStage ({ frames := 1, cells := 0, slots := 0, locals := 40 } : Room) [.ref t] A G w (fun r w' => r = gS ST N ∧ w' = w) 0 0 := by
  refine g_ofI (cc := cX5_greatestStage) (maxL := 3) (ret := (some .int)) (own := RX5) (by decide) rfl rfl (Nat.le_of_ble_eq_true rfl) ?_
  intro p e R s m args below meth c Q ls hR F hP hS hlocks hr hnm0 hQ hl
  obtain ⟨⟨hx, hb, hml, hown, hts⟩, hK, hZ, hA⟩ := id F
  generalize hH0 : s.heap = H at hP ⊢
  have hS : va_S A s.heap H [] := by rw [← hH0]; exact va_S.rf
  generalize ([] : List Loc) = locs at hS ⊢
  have hl : lv_has ls 3 [(0, .ref t)] := hl
  have iX4 : ∀ w ∈ u_ws RX4 TX4 5, w ∈ wsX5_greatestStage := fun w h => List.mem_cons_of_mem _ (List.mem_append_right _ (h))
  have iX5 : ∀ w ∈ u_ws RX5 TX5 4, w ∈ wsX5_greatestStage := fun w h => List.mem_cons_of_mem _ (List.mem_append_left _ (List.mem_append_right _ (h)))
  obtain ⟨ht, ⟨fS, has, hfS⟩, ⟨fW, haw, hfW⟩, ⟨n0, d0, hfr⟩, hsa, hsf⟩ := T
  refine lv_iconst (v := (-1)) hx hb dX5_greatestStage_0 (by decide) ?_
  refine lv_istore_n (lv' := [(1, .int (-1)), (0, .ref t)]) hx hb dX5_greatestStage_1 rfl hl (by decide) rfl (fun ls hl => ?_)
  refine lv_iconst (v := 0) hx hb dX5_greatestStage_2 (by decide) ?_
  refine lv_istore_n (lv' := [(2, .int 0), (1, .int (-1)), (0, .ref t)]) hx hb dX5_greatestStage_3 rfl hl (by decide) rfl (fun ls hl => ?_)
  have L4 : ∀ (n : Nat) (k : Nat) (H : Heap) (locs : List Loc) (ls : Array Slot), N + 1 ≤ k + n → (k ≤ N) → g_P A G w H → va_S A s.heap H locs → lv_has ls 3 [(2, .int (nI k)), (1, .int (gS ST k)), (0, .ref t)] → W p l e R s m args below meth c H locs (0) (0) Q (F0 m 4 ls []) := by
    intro n
    induction n with
    | zero =>
      intro k H locs ls hfu hkN hP hS hl
      exact absurd hfu (by omega)
    | succ n ih_L4 =>
      intro k H locs ls hfu hkN hP hS hl
      refine lv_iload_n hx hb dX5_greatestStage_4 rfl (lv_at hl 0 rfl) ?_
      refine lv_aload_n hx hb dX5_greatestStage_5 rfl (lv_at hl 2 rfl) ?_
      refine g_get F hP (C := RX5) (T := TX5) (N := 4) iX5 ht rfl 0 (by decide) (List.mem_cons_of_mem _ (List.mem_append_left _ (List.mem_append_left _ (List.mem_of_getElem? (i := 0) rfl)))) (fun _ h9 => h9) rfl dX5_greatestStage_6 ?_
      refine g_alen F hP 4 rfl has (v := nI N) rfl dX5_greatestStage_9 ?_
      refine lv_icmp_ge (tgt := 33) hx hb dX5_greatestStage_10 (by decide) (fun c1 => ?_) (fun c1 => ?_)
      · have zc1 : N ≤ k := (nI_leI (by omega) (by omega)).mp c1
        refine lv_iload_n hx hb dX5_greatestStage_33 rfl (lv_at hl 1 rfl) ?_
        rw [hQ]
        refine g_iret F hP hS hlocks hr dX5_greatestStage_34 (by first | exact Nat.le_of_ble_eq_true rfl | omega) (by first | exact Nat.le_of_ble_eq_true rfl | omega) ?_
        obtain rfl : k = N := by omega
        exact ⟨rfl, rfl⟩
      · have hk : k < N := Nat.not_le.mp (fun q => c1 (nI_le q (by omega)))
        refine lv_iload_n hx hb dX5_greatestStage_13 rfl (lv_at hl 1 rfl) ?_
        refine lv_aload_n hx hb dX5_greatestStage_14 rfl (lv_at hl 2 rfl) ?_
        refine g_get F hP (C := RX5) (T := TX5) (N := 4) iX5 ht rfl 0 (by decide) (List.mem_cons_of_mem _ (List.mem_append_left _ (List.mem_append_left _ (List.mem_of_getElem? (i := 0) rfl)))) (fun _ h9 => h9) rfl dX5_greatestStage_15 ?_
        refine lv_iload_n hx hb dX5_greatestStage_18 rfl (lv_at hl 0 rfl) ?_
        refine g_aldqS F hP has (vp_in_nI hk (by omega)) dX5_greatestStage_19 ?_
        have f2 := hsa k hk
        have f3 := hsf k hk
        rw [show (va_rf (fS (nI k : Int32).toNatClampNeg) : Value) = .ref (sa k) from by rw [nI_clamp (by omega), hfS k hk]; rfl]
        refine g_get F hP (C := RX4) (T := TX4) (N := 5) iX4 f2 rfl 3 (by decide) (List.mem_cons_of_mem _ (List.mem_append_left _ (List.mem_append_left _ (List.mem_of_getElem? (i := 1) rfl)))) (fun _ h9 => h9) rfl dX5_greatestStage_20 ?_
        refine va_mmax hx hb (by rw [hml]; exact hl.1.symm) hown (hts _ (List.mem_cons_of_mem _ (List.mem_append_left _ (List.mem_append_left _ (List.mem_of_getElem? (i := 2) rfl))))) (hts _ (List.mem_cons_of_mem _ (List.mem_append_left _ (List.mem_append_left _ (List.mem_of_getElem? (i := 3) rfl))))) (hts _ (List.mem_cons_of_mem _ (List.mem_append_left _ (List.mem_append_left _ (List.mem_of_getElem? (i := 4) rfl))))) (hts _ (List.mem_cons_of_mem _ (List.mem_append_left _ (List.mem_append_left _ (List.mem_of_getElem? (i := 5) rfl))))) (by rw [hR]; exact Nat.le_of_ble_eq_true rfl) (by rw [hR]; exact Nat.le_of_ble_eq_true rfl) (by rw [hR]; first | exact Nat.le_of_ble_eq_true rfl | (dsimp only; omega)) (by rw [hR]; first | exact Nat.le_of_ble_eq_true rfl | (dsimp only; omega)) dX5_greatestStage_23 ?_
        refine lv_topi (fun v4 ev4 => ?_)
        obtain rfl : v4 = gS ST (k + 1) := by
          exact ev4
        refine lv_istore_n (lv' := [(1, .int (gS ST (k + 1))), (2, .int (nI k)), (0, .ref t)]) hx hb dX5_greatestStage_26 rfl hl (by decide) rfl (fun ls hl => ?_)
        obtain ⟨i5, ei5⟩ : ∃ y : Int32, y = nI k + (1) := ⟨_, rfl⟩
        refine lv_iinc (v := i5) (lv' := [(2, .int i5), (1, .int (gS ST (k + 1))), (0, .ref t)]) hx hb dX5_greatestStage_27 hl (k := 1) rfl (by rw [ei5]; rfl) (by decide) rfl (fun ls hl => ?_)
        obtain rfl : i5 = nI (k + 1) := by
          rw [ei5]
          exact nI_1 k
        refine lv_goto (tgt := 4) hx hb dX5_greatestStage_30 (by decide) ?_
        exact ih_L4 (k + 1)  H locs ls (by omega) (hk) hP hS (lv_sub hl [0, 1, 2] rfl)
  exact L4 (N + 1) 0  H locs ls (by omega) (Nat.zero_le _) hP hS (lv_sub hl [0, 1, 2] rfl)
