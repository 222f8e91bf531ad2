set_option maxHeartbeats 4000000 in
set_option maxRecDepth 100000 in
theorem k_X5_greatestStage (l : Launch) (A : Nat → Prop) (G : g_C) (w : g_W) (t art : Nat) (te : Nat → Nat) (fr N : Nat) (sa sf : Nat → Nat) (wt : Nat → Int) (X Y HD ST : Nat → Int32) (nu de : Nat → Int) (asd : Int32) (T : tieW G w t art te fr N sa sf wt X Y HD ST nu de asd) (hN : N ≤ 3) : mI l yX5_greatestStage wsX5_greatestStage ({ frames := 1, cells := 0, slots := 0, locals := 40 } : Room) [.ref t] A G w (fun r w' => r = gS ST N ∧ w' = w) 0 0 := by
  refine g_ofI (cc := cX5_greatestStage) (maxL := 6) (ret := (some .int)) (own := RX5) (by decide) rfl rfl (Nat.le_of_ble_eq_true rfl) ?_
  intro p e R s m args below meth c Q ls hR F hP hS hlocks hr hnm0 hQ hl
  obtain ⟨⟨hx, hb, hml, hown, hts⟩, hK, hZ, hA⟩ := id F
  generalize hH0 : s.heap = H at hP ⊢
  have hS : va_S A s.heap H [] := by rw [← hH0]; exact va_S.rf
  generalize ([] : List Loc) = locs at hS ⊢
  have hl : lv_has ls 6 [(0, .ref t)] := hl
  have iX4 : ∀ w ∈ u_ws RX4 TX4 5, w ∈ wsX5_greatestStage := fun w h => List.mem_cons_of_mem _ (List.mem_append_right _ (h))
  have iX5 : ∀ w ∈ u_ws RX5 TX5 3, w ∈ wsX5_greatestStage := fun w h => List.mem_cons_of_mem _ (List.mem_append_left _ (List.mem_append_left _ (List.mem_append_right _ (h))))
  have iX9 : ∀ w ∈ u_ws RX9 TX9 2, w ∈ wsX5_greatestStage := fun w h => List.mem_cons_of_mem _ (List.mem_append_left _ (List.mem_append_right _ (h)))
  obtain ⟨ht, ⟨fS, has, hfS⟩, ⟨hte, hti⟩, ⟨n0, d0, hfr⟩, hsa, hsf⟩ := T
  refine lv_iconst (v := (-1)) hx hb dX5_greatestStage_0 (by decide) ?_
  refine lv_istore_n (lv' := [(1, .int (-1)), (0, .ref t)]) hx hb dX5_greatestStage_1 rfl hl (by decide) rfl (fun ls hl => ?_)
  refine lv_aload_n hx hb dX5_greatestStage_2 rfl (lv_at hl 1 rfl) ?_
  refine g_get F hP (C := RX5) (T := TX5) (N := 3) iX5 ht rfl 0 (by decide) (List.mem_cons_of_mem _ (List.mem_append_left _ (List.mem_append_left _ (List.mem_append_left _ (List.mem_of_getElem? (i := 0) rfl))))) (fun _ h9 => h9) rfl dX5_greatestStage_3 ?_
  refine lv_astore_n (lv' := [(2, .ref art), (1, .int (-1)), (0, .ref t)]) hx hb dX5_greatestStage_6 rfl hl (by decide) rfl (fun ls hl => ?_)
  refine lv_aload_n hx hb dX5_greatestStage_7 rfl (lv_at hl 0 rfl) ?_
  refine g_alen F hP 4 rfl has (v := nI N) rfl dX5_greatestStage_8 ?_
  refine lv_istore_n (lv' := [(3, .int (nI N)), (2, .ref art), (1, .int (-1)), (0, .ref t)]) hx hb dX5_greatestStage_9 rfl hl (by decide) rfl (fun ls hl => ?_)
  refine lv_iconst (v := 0) hx hb dX5_greatestStage_10 (by decide) ?_
  refine lv_istore (lv' := [(4, .int 0), (3, .int (nI N)), (2, .ref art), (1, .int (-1)), (0, .ref t)]) hx hb dX5_greatestStage_11 hl (by decide) rfl (fun ls hl => ?_)
  have L13 : ∀ (n : Nat) (k : Nat) (H : Heap) (locs : List Loc) (ls : Array Slot), N + 1 ≤ k + n → (k ≤ N) → g_P A G w H → va_S A s.heap H locs → lv_has ls 6 [(4, .int (nI k)), (3, .int (nI N)), (2, .ref art), (1, .int (gS ST k)), (0, .ref t)] → W p l e R s m args below meth c H locs (0) (0) Q (F0 m 13 ls []) := by
    intro n
    induction n with
    | zero =>
      intro k H locs ls hfu hkN hP hS hl
      exact absurd hfu (by omega)
    | succ n ih_L13 =>
      intro k H locs ls hfu hkN hP hS hl
      refine lv_iload hx hb dX5_greatestStage_13 (lv_at hl 0 rfl) ?_
      refine lv_iload_n hx hb dX5_greatestStage_15 rfl (lv_at hl 1 rfl) ?_
      refine lv_icmp_ge (tgt := 44) hx hb dX5_greatestStage_16 (by decide) (fun c1 => ?_) (fun c1 => ?_)
      · have zc1 : N ≤ k := (nI_leI (by omega) (by omega)).mp c1
        refine lv_iload_n hx hb dX5_greatestStage_44 rfl (lv_at hl 3 rfl) ?_
        rw [hQ]
        refine g_iret F hP hS hlocks hr dX5_greatestStage_45 (by first | exact Nat.le_of_ble_eq_true rfl | omega) (by first | exact Nat.le_of_ble_eq_true rfl | omega) ?_
        obtain rfl : k = N := by omega
        exact ⟨rfl, rfl⟩
      · have hk : k < N := Nat.not_le.mp (fun q => c1 (nI_le q (by omega)))
        refine lv_aload_n hx hb dX5_greatestStage_19 rfl (lv_at hl 2 rfl) ?_
        refine lv_iload hx hb dX5_greatestStage_20 (lv_at hl 0 rfl) ?_
        refine g_aldqS F hP has (vp_in_nI hk (by omega)) dX5_greatestStage_22 ?_
        have f2 := hte k hk
        have f3 := hsa k hk
        have f4 := hsf k hk
        rw [show (va_rf (fS (nI k : Int32).toNatClampNeg) : Value) = .ref (te k) from by rw [nI_clamp (by omega), hfS k hk]; rfl]
        refine lv_astore (lv' := [(5, .ref (te k)), (4, .int (nI k)), (3, .int (nI N)), (2, .ref art), (1, .int (gS ST k)), (0, .ref t)]) hx hb dX5_greatestStage_23 hl (by decide) rfl (fun ls hl => ?_)
        refine lv_iload_n hx hb dX5_greatestStage_25 rfl (lv_at hl 4 rfl) ?_
        refine lv_aload hx hb dX5_greatestStage_26 (lv_at hl 0 rfl) ?_
        refine g_get F hP (C := RX9) (T := TX9) (N := 2) iX9 f2 rfl 0 (by decide) (List.mem_cons_of_mem _ (List.mem_append_left _ (List.mem_append_left _ (List.mem_append_left _ (List.mem_of_getElem? (i := 1) rfl))))) (fun _ h9 => h9) rfl dX5_greatestStage_28 ?_
        refine g_get F hP (C := RX4) (T := TX4) (N := 5) iX4 f3 rfl 3 (by decide) (List.mem_cons_of_mem _ (List.mem_append_left _ (List.mem_append_left _ (List.mem_append_left _ (List.mem_of_getElem? (i := 2) rfl))))) (fun _ h9 => h9) rfl dX5_greatestStage_31 ?_
        refine va_mmax hx hb (by rw [hml]; exact hl.1.symm) hown (hts _ (List.mem_cons_of_mem _ (List.mem_append_left _ (List.mem_append_left _ (List.mem_append_left _ (List.mem_of_getElem? (i := 3) rfl)))))) (hts _ (List.mem_cons_of_mem _ (List.mem_append_left _ (List.mem_append_left _ (List.mem_append_left _ (List.mem_of_getElem? (i := 4) rfl)))))) (hts _ (List.mem_cons_of_mem _ (List.mem_append_left _ (List.mem_append_left _ (List.mem_append_left _ (List.mem_of_getElem? (i := 5) rfl)))))) (hts _ (List.mem_cons_of_mem _ (List.mem_append_left _ (List.mem_append_left _ (List.mem_append_left _ (List.mem_of_getElem? (i := 6) rfl)))))) (by rw [hR]; exact Nat.le_of_ble_eq_true rfl) (by rw [hR]; exact Nat.le_of_ble_eq_true rfl) (by rw [hR]; first | exact Nat.le_of_ble_eq_true rfl | (dsimp only; omega)) (by rw [hR]; first | exact Nat.le_of_ble_eq_true rfl | (dsimp only; omega)) dX5_greatestStage_34 ?_
        refine lv_topi (fun v5 ev5 => ?_)
        obtain rfl : v5 = gS ST (k + 1) := by
          exact ev5
        refine lv_istore_n (lv' := [(1, .int (gS ST (k + 1))), (5, .ref (te k)), (4, .int (nI k)), (3, .int (nI N)), (2, .ref art), (0, .ref t)]) hx hb dX5_greatestStage_37 rfl hl (by decide) rfl (fun ls hl => ?_)
        obtain ⟨i6, ei6⟩ : ∃ y : Int32, y = nI k + (1) := ⟨_, rfl⟩
        refine lv_iinc (v := i6) (lv' := [(4, .int i6), (1, .int (gS ST (k + 1))), (5, .ref (te k)), (3, .int (nI N)), (2, .ref art), (0, .ref t)]) hx hb dX5_greatestStage_38 hl (k := 2) rfl (by rw [ei6]; rfl) (by decide) rfl (fun ls hl => ?_)
        obtain rfl : i6 = nI (k + 1) := by
          rw [ei6]
          exact nI_1 k
        refine lv_goto (tgt := 13) hx hb dX5_greatestStage_41 (by decide) ?_
        exact ih_L13 (k + 1)  H locs ls (by omega) (hk) hP hS (lv_sub hl [0, 3, 4, 1, 5] rfl)
  exact L13 (N + 1) 0  H locs ls (by omega) (Nat.zero_le _) hP hS (lv_sub hl [0, 1, 2, 3, 4] rfl)
