theorem cd_X4_hasSpeed : yX4_hasSpeed.cls = RX4 ∧ yX4_hasSpeed.cls ≠ "java/lang/invoke/MethodHandle" ∧ yX4_hasSpeed.cls ≠ "java/lang/invoke/VarHandle" ∧ (parseMethodDescriptor yX4_hasSpeed.desc).map (fun d => d.parameters.length) = some 0 := by decide +kernel
set_option maxHeartbeats 4000000 in
set_option maxRecDepth 100000 in
theorem k_X5_onlyUnknown (l : Launch) (A : Nat → Prop) (G : g_C) (w : g_W) (t art : Nat) (te : Nat → Nat) (fr N : Nat) (sa sf : Nat → Nat) (wt : Nat → Int) (X Y HD ST : Nat → Int32) (nu de : Nat → Int) (asd : Int32) (T : tieW G w t art te fr N sa sf wt X Y HD ST nu de asd) (hN : N ≤ 3) : mQ l yX5_onlyUnknown wsX5_onlyUnknown ({ frames := 1, cells := 0, slots := 0, locals := 20 } : Room) [.ref t] A G w (fun r w' => ((∃ k, r = some (te k) ∧ onlyU ST N k) ∨ (r = none ∧ ∀ k, ¬ onlyU ST N k)) ∧ w' = w) 0 0 := by
  refine g_ofQ (cc := cX5_onlyUnknown) (maxL := 6) (ret := (some (.object "GearTrains$Term"))) (own := RX5) (by decide) rfl rfl (Nat.le_of_ble_eq_true rfl) ?_
  intro p e R s m args below meth c Q ls hR F hP hS hlocks hr hnm0 hQ hl
  obtain ⟨⟨hx, hb, hml, hown, hts⟩, hK, hZ, hA⟩ := id F
  generalize hH0 : s.heap = H at hP ⊢
  have hS : va_S A s.heap H [] := by rw [← hH0]; exact va_S.rf
  generalize ([] : List Loc) = locs at hS ⊢
  have hl : lv_has ls 6 [(0, .ref t)] := hl
  have iX5 : ∀ w ∈ u_ws RX5 TX5 3, w ∈ wsX5_onlyUnknown := fun w h => List.mem_cons_of_mem _ (List.mem_append_left _ (List.mem_append_left _ (List.mem_append_right _ (h))))
  have iX9 : ∀ w ∈ u_ws RX9 TX9 2, w ∈ wsX5_onlyUnknown := fun w h => List.mem_cons_of_mem _ (List.mem_append_left _ (List.mem_append_right _ (h)))
  obtain ⟨ht, ⟨fS, has, hfS⟩, ⟨hte, hti⟩, ⟨n0, d0, hfr⟩, hsa, hsf⟩ := T
  refine lv_null hx hb dX5_onlyUnknown_0 ?_
  refine lv_astore_nN (lv' := [(1, .null), (0, .ref t)]) hx hb dX5_onlyUnknown_1 rfl hl (by decide) rfl (fun ls hl => ?_)
  refine lv_aload_n hx hb dX5_onlyUnknown_2 rfl (lv_at hl 1 rfl) ?_
  refine g_get F hP (C := RX5) (T := TX5) (N := 3) iX5 ht rfl 0 (by decide) (List.mem_cons_of_mem _ (List.mem_append_left _ (List.mem_append_left _ (List.mem_append_left _ (List.mem_of_getElem? (i := 0) rfl))))) (fun _ h9 => h9) rfl dX5_onlyUnknown_3 ?_
  refine lv_astore_n (lv' := [(2, .ref art), (1, .null), (0, .ref t)]) hx hb dX5_onlyUnknown_6 rfl hl (by decide) rfl (fun ls hl => ?_)
  refine lv_aload_n hx hb dX5_onlyUnknown_7 rfl (lv_at hl 0 rfl) ?_
  refine g_alen F hP 4 rfl has (v := nI N) rfl dX5_onlyUnknown_8 ?_
  refine lv_istore_n (lv' := [(3, .int (nI N)), (2, .ref art), (1, .null), (0, .ref t)]) hx hb dX5_onlyUnknown_9 rfl hl (by decide) rfl (fun ls hl => ?_)
  refine lv_iconst (v := 0) hx hb dX5_onlyUnknown_10 (by decide) ?_
  refine lv_istore (lv' := [(4, .int 0), (3, .int (nI N)), (2, .ref art), (1, .null), (0, .ref t)]) hx hb dX5_onlyUnknown_11 hl (by decide) rfl (fun ls hl => ?_)
  have L13 : ∀ (n : Nat) (k : Nat) (u : Option Nat) (H : Heap) (locs : List Loc) (ls : Array Slot), N + 1 ≤ k + n → (k ≤ N) → ((u = none ∧ ∀ j, j < k → ST j ≠ -1) ∨ ∃ j0, j0 < k ∧ u = some (te j0) ∧ ST j0 = -1 ∧ ∀ j, j < k → j ≠ j0 → ST j ≠ -1) → g_P A G w H → va_S A s.heap H locs → lv_has ls 6 [(4, .int (nI k)), (3, .int (nI N)), (2, .ref art), (1, va_rf u), (0, .ref t)] → W p l e R s m args below meth c H locs (0) (0) Q (F0 m 13 ls []) := by
    intro n
    induction n with
    | zero =>
      intro k u H locs ls hfu hkN hinv hP hS hl
      exact absurd hfu (by omega)
    | succ n ih_L13 =>
      intro k u H locs ls hfu hkN hinv hP hS hl
      refine lv_iload hx hb dX5_onlyUnknown_13 (lv_at hl 0 rfl) ?_
      refine lv_iload_n hx hb dX5_onlyUnknown_15 rfl (lv_at hl 1 rfl) ?_
      refine lv_icmp_ge (tgt := 51) hx hb dX5_onlyUnknown_16 (by decide) (fun c1 => ?_) (fun c1 => ?_)
      · have zc1 : N ≤ k := (nI_leI (by omega) (by omega)).mp c1
        rcases hinv with ⟨rfl, a2⟩ | ⟨j0, a1, rfl, a3, a4⟩
        · refine lv_aload_nN hx hb dX5_onlyUnknown_51 rfl (lv_at hl 3 rfl) ?_
          rw [hQ]
          refine g_aret (r := none) F hP hS hlocks hr (by first | exact Or.inl ⟨_, rfl⟩ | exact Or.inr ⟨_, rfl⟩) dX5_onlyUnknown_52 (by first | exact Nat.le_of_ble_eq_true rfl | omega) (by first | exact Nat.le_of_ble_eq_true rfl | omega) ?_
          have ekN : k = N := by omega
          refine ⟨?_, rfl⟩
          exact Or.inr ⟨rfl, fun j hj => a2 j (by have := hj.1; omega) hj.2.1⟩
        · refine lv_aload_n hx hb dX5_onlyUnknown_51 rfl (lv_at hl 3 rfl) ?_
          rw [hQ]
          refine g_aret (r := (some (te j0))) F hP hS hlocks hr (by first | exact Or.inl ⟨_, rfl⟩ | exact Or.inr ⟨_, rfl⟩) dX5_onlyUnknown_52 (by first | exact Nat.le_of_ble_eq_true rfl | omega) (by first | exact Nat.le_of_ble_eq_true rfl | omega) ?_
          have ekN : k = N := by omega
          refine ⟨?_, rfl⟩
          exact Or.inl ⟨j0, rfl, by omega, a3, fun j hj hn => a4 j (by omega) hn⟩
      · have hk : k < N := Nat.not_le.mp (fun q => c1 (nI_le q (by omega)))
        refine lv_aload_n hx hb dX5_onlyUnknown_19 rfl (lv_at hl 2 rfl) ?_
        refine lv_iload hx hb dX5_onlyUnknown_20 (lv_at hl 0 rfl) ?_
        refine g_aldqS F hP has (vp_in_nI hk (by omega)) dX5_onlyUnknown_22 ?_
        have f2 := hte k hk
        have f3 := hsa k hk
        have f4 := hsf k hk
        rw [show (va_rf (fS (nI k : Int32).toNatClampNeg) : Value) = .ref (te k) from by rw [nI_clamp (by omega), hfS k hk]; rfl]
        refine lv_astore (lv' := [(5, .ref (te k)), (4, .int (nI k)), (3, .int (nI N)), (2, .ref art), (1, va_rf u), (0, .ref t)]) hx hb dX5_onlyUnknown_23 hl (by decide) rfl (fun ls hl => ?_)
        refine lv_aload hx hb dX5_onlyUnknown_25 (lv_at hl 0 rfl) ?_
        refine g_get F hP (C := RX9) (T := TX9) (N := 2) iX9 f2 rfl 0 (by decide) (List.mem_cons_of_mem _ (List.mem_append_left _ (List.mem_append_left _ (List.mem_append_left _ (List.mem_of_getElem? (i := 1) rfl))))) (fun _ h9 => h9) rfl dX5_onlyUnknown_27 ?_
        refine g_Vi (As := []) (rest := []) F hP hS (k_X4_hasSpeed l A G w (sa k) (X k) (Y k) (HD k) (ST k) (sf k) f3) (cwV 0 hts gX5_onlyUnknown_X4_hasSpeed rfl rfl rfl cd_X4_hasSpeed ⟨by rw [hR]; exact Nat.le_of_ble_eq_true rfl, by rw [hR]; exact Nat.le_of_ble_eq_true rfl⟩) f3 rfl rfl rfl hl.1 (Nat.le_of_ble_eq_true rfl) dX5_onlyUnknown_30 ⟨by rw [hR]; exact Nat.le_of_ble_eq_true rfl, by rw [hR]; exact Nat.le_of_ble_eq_true rfl⟩ rfl (fun r5 w6 H locs h7 hP hS => ?_)
        have hr5 := h7.1
        rw [h7.2] at hP
        rw [hr5]
        refine lv_if_ne (tgt := 45) hx hb dX5_onlyUnknown_33 (by decide) (fun c8 => ?_) (fun c8 => ?_)
        · have yc8 : ST k ≠ -1 := of_decide_eq_true (g_b1.mp c8)
          obtain ⟨i9, ei9⟩ : ∃ y : Int32, y = nI k + (1) := ⟨_, rfl⟩
          refine lv_iinc (v := i9) (lv' := [(4, .int i9), (5, .ref (te k)), (3, .int (nI N)), (2, .ref art), (1, va_rf u), (0, .ref t)]) hx hb dX5_onlyUnknown_45 hl (k := 1) rfl (by rw [ei9]; rfl) (by decide) rfl (fun ls hl => ?_)
          obtain rfl : i9 = nI (k + 1) := by
            rw [ei9]
            exact nI_1 k
          refine lv_goto (tgt := 13) hx hb dX5_onlyUnknown_48 (by decide) ?_
          exact ih_L13 (k + 1) u  H locs ls (by omega) (hk) (by
            rcases hinv with ⟨a1, a2⟩ | ⟨j0, a1, a2, a3, a4⟩
            · exact Or.inl ⟨a1, fun j hj => (Nat.lt_succ_iff_lt_or_eq.mp hj).elim (a2 j) (fun e => e ▸ yc8)⟩
            · exact Or.inr ⟨j0, by omega, a2, a3, fun j hj hn => (Nat.lt_succ_iff_lt_or_eq.mp hj).elim (fun q => a4 j q hn) (fun e => e ▸ yc8)⟩) hP hS (lv_sub hl [0, 2, 3, 4, 5] rfl)
        · have yc8 : ST k = -1 := Decidable.not_not.mp (of_decide_eq_false (g_b0.mp c8))
          rcases hinv with ⟨rfl, a2⟩ | ⟨j0, a1, rfl, a3, a4⟩
          · refine lv_aload_nN hx hb dX5_onlyUnknown_36 rfl (lv_at hl 4 rfl) ?_
            refine lv_ifnullN (tgt := 42) hx hb dX5_onlyUnknown_37 (by decide) ?_
            refine lv_aload hx hb dX5_onlyUnknown_42 (lv_at hl 0 rfl) ?_
            refine lv_astore_n (lv' := [(1, .ref (te k)), (5, .ref (te k)), (4, .int (nI k)), (3, .int (nI N)), (2, .ref art), (0, .ref t)]) hx hb dX5_onlyUnknown_44 rfl hl (by decide) rfl (fun ls hl => ?_)
            obtain ⟨i10, ei10⟩ : ∃ y : Int32, y = nI k + (1) := ⟨_, rfl⟩
            refine lv_iinc (v := i10) (lv' := [(4, .int i10), (1, .ref (te k)), (5, .ref (te k)), (3, .int (nI N)), (2, .ref art), (0, .ref t)]) hx hb dX5_onlyUnknown_45 hl (k := 2) rfl (by rw [ei10]; rfl) (by decide) rfl (fun ls hl => ?_)
            obtain rfl : i10 = nI (k + 1) := by
              rw [ei10]
              exact nI_1 k
            refine lv_goto (tgt := 13) hx hb dX5_onlyUnknown_48 (by decide) ?_
            exact ih_L13 (k + 1) (some (te k))  H locs ls (by omega) (hk) (Or.inr ⟨k, by omega, rfl, yc8, fun j hj hn => (Nat.lt_succ_iff_lt_or_eq.mp hj).elim (a2 j) (fun e => absurd e hn)⟩) hP hS (lv_sub hl [0, 3, 4, 1, 5] rfl)
          · refine lv_aload_n hx hb dX5_onlyUnknown_36 rfl (lv_at hl 4 rfl) ?_
            refine lv_ifnull hx hb dX5_onlyUnknown_37 ?_
            refine lv_null hx hb dX5_onlyUnknown_40 ?_
            rw [hQ]
            refine g_aret (r := none) F hP hS hlocks hr (by first | exact Or.inl ⟨_, rfl⟩ | exact Or.inr ⟨_, rfl⟩) dX5_onlyUnknown_41 (by first | exact Nat.le_of_ble_eq_true rfl | omega) (by first | exact Nat.le_of_ble_eq_true rfl | omega) ?_
            refine ⟨Or.inr ⟨rfl, fun j hj => ?_⟩, rfl⟩
            rcases Nat.decEq j k with q | q
            · exact hj.2.2 k hk (fun z => q z.symm) yc8
            · exact hj.2.2 j0 (by omega) (by omega) a3
  exact L13 (N + 1) 0 none  H locs ls (by omega) (Nat.zero_le _) (Or.inl ⟨rfl, fun j hj => absurd hj (Nat.not_lt_zero j)⟩) hP hS (lv_sub hl [0, 1, 2, 3, 4] rfl)
