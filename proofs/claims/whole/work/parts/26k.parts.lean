set_option maxHeartbeats 4000000 in
set_option maxRecDepth 100000 in
theorem k_X3_mostPlanets (l : Launch) (A : Nat → Prop) (G : g_C) (w : g_W) (h t a n0 : Nat) (hh : w h = some (.inr (4, [.int (nI a), .ref t]))) (ha : a < 100000) (hn : n0 < 100) : mI l yX3_mostPlanets wsX3_mostPlanets ({ frames := 0, cells := 0, slots := 0, locals := 0 } : Room) [.ref h, .int (nI n0)] A G w (fun r w' => r = nI (mostP a n0) ∧ w' = w) 0 0 := by
  refine g_ofI (cc := cX3_mostPlanets) (maxL := 3) (ret := (some .int)) (own := RX3) (by decide) rfl rfl (Nat.le_of_ble_eq_true rfl) ?_
  intro p e R s m args below meth c Q ls hR F hP hS hlocks hr hnm0 hQ hl
  obtain ⟨⟨hx, hb, hml, hown, hts⟩, hK, hZ, hA⟩ := id F
  generalize hH0 : s.heap = H at hP ⊢
  have hS : va_S A s.heap H [] := by rw [← hH0]; exact va_S.rf
  generalize ([] : List Loc) = locs at hS ⊢
  have hl : lv_has ls 3 [(0, .ref h), (1, .int (nI n0))] := hl
  have iX3 : ∀ w ∈ u_ws RX3 TX3 2, w ∈ wsX3_mostPlanets := fun w h => List.mem_cons_of_mem _ (List.mem_append_right _ (h))
  refine lv_iload_n hx hb dX3_mostPlanets_0 rfl (lv_at hl 1 rfl) ?_
  refine lv_istore_n (lv' := [(2, .int (nI n0)), (0, .ref h), (1, .int (nI n0))]) hx hb dX3_mostPlanets_1 rfl hl (by decide) rfl (fun ls hl => ?_)
  have L2 : ∀ (n : Nat) (k : Nat) (H : Heap) (locs : List Loc) (ls : Array Slot), k + 1 ≤ n → (k ≤ n0) → (mostP a k = mostP a n0) → g_P A G w H → va_S A s.heap H locs → lv_has ls 3 [(2, .int (nI k)), (0, .ref h), (1, .int (nI n0))] → W p l e R s m args below meth c H locs (0) (0) Q (F0 m 2 ls []) := by
    intro n
    induction n with
    | zero =>
      intro k H locs ls hfu hk hm hP hS hl
      exact absurd hfu (by omega)
    | succ n ih_L2 =>
      intro k H locs ls hfu hk hm hP hS hl
      refine lv_iload_n hx hb dX3_mostPlanets_2 rfl (lv_at hl 0 rfl) ?_
      refine lv_iconst (v := 1) hx hb dX3_mostPlanets_3 (by decide) ?_
      refine lv_icmp_le (tgt := 24) hx hb dX3_mostPlanets_4 (by decide) (fun c1 => ?_) (fun c1 => ?_)
      · have zc1 : k ≤ 1 := (nI_leI (a := k) (b := 1) (by omega) (by omega)).mp c1
        refine lv_iconst (v := 1) hx hb dX3_mostPlanets_24 (by decide) ?_
        rw [hQ]
        refine g_iret F hP hS hlocks hr dX3_mostPlanets_25 (by first | exact Nat.le_of_ble_eq_true rfl | omega) (by first | exact Nat.le_of_ble_eq_true rfl | omega) ?_
        refine ⟨?_, rfl⟩
        rw [← hm]
        rcases (show k = 0 ∨ k = 1 by omega) with rfl | rfl <;> rfl
      · have zc1 : ¬ k ≤ 1 := fun q => c1 (nI_le (b := 1) q (by omega))
        refine lv_aload_n hx hb dX3_mostPlanets_7 rfl (lv_at hl 1 rfl) ?_
        refine g_get F hP (C := RX3) (T := TX3) (N := 2) iX3 hh rfl 0 (by decide) (List.mem_cons_of_mem _ (List.mem_append_left _ (List.mem_of_getElem? (i := 0) rfl))) (fun _ h9 => h9) rfl dX3_mostPlanets_8 ?_
        refine lv_iload_n hx hb dX3_mostPlanets_11 rfl (lv_at hl 0 rfl) ?_
        refine lv_irem hx hb dX3_mostPlanets_12 (nI_ne0 (by omega) (by omega)) ?_
        refine lv_topi (fun v2 ev2 => ?_)
        obtain rfl : v2 = nI (a % k) := by
          rw [ev2]
          exact pk_rem (by omega) (by omega) (by omega)
        refine lv_if_ne (tgt := 18) hx hb dX3_mostPlanets_13 (by decide) (fun c3 => ?_) (fun c3 => ?_)
        · have zc3 : a % k ≠ 0 := fun q => c3 (by rw [q]; rfl)
          obtain ⟨i4, ei4⟩ : ∃ y : Int32, y = nI k + (-1) := ⟨_, rfl⟩
          refine lv_iinc (v := i4) (lv' := [(2, .int i4), (0, .ref h), (1, .int (nI n0))]) hx hb dX3_mostPlanets_18 hl (k := 0) rfl (by rw [ei4]; rfl) (by decide) rfl (fun ls hl => ?_)
          obtain rfl : i4 = nI (k - 1) := by
            rw [ei4]
            obtain ⟨j, rfl⟩ : ∃ j, k = j + 1 := ⟨k - 1, by omega⟩
            exact pk_m1 j
          refine lv_goto (tgt := 2) hx hb dX3_mostPlanets_21 (by decide) ?_
          exact ih_L2 (k - 1)  H locs ls (by omega) (by omega) (by
            rw [← hm]
            obtain ⟨j, rfl⟩ : ∃ j, k = j + 1 := ⟨k - 1, by omega⟩
            rw [mostP, if_neg (by omega), if_neg zc3]; rfl) hP hS (lv_sub hl [0, 1, 2] rfl)
        · have zc3 : a % k = 0 := (nI_eq (a := a % k) (b := 0) (by have := Nat.mod_lt a (show 0 < k by omega); omega) (by omega)).mp c3
          refine lv_iload_n hx hb dX3_mostPlanets_16 rfl (lv_at hl 0 rfl) ?_
          rw [hQ]
          refine g_iret F hP hS hlocks hr dX3_mostPlanets_17 (by first | exact Nat.le_of_ble_eq_true rfl | omega) (by first | exact Nat.le_of_ble_eq_true rfl | omega) ?_
          refine ⟨?_, rfl⟩
          rw [← hm]
          obtain ⟨j, rfl⟩ : ∃ j, k = j + 1 := ⟨k - 1, by omega⟩
          rw [mostP, if_neg (by omega), if_pos zc3]
  exact L2 (n0 + 1) n0  H locs ls (by omega) (Nat.le_refl _) (rfl) hP hS (lv_sub hl [0, 1, 2] rfl)
