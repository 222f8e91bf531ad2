set_option maxHeartbeats 4000000 in
set_option maxRecDepth 100000 in
theorem k_X6_free (l : Launch) (A : Nat → Prop) (G : g_C) (w : g_W) (ad : Nat → Nat → Nat) (Cn : Nat → Nat → Option va_E) (S T : Sg) (Hh : holds w ad Cn) (Hr : rep G S T ad Cn) (Hi : invS S) (Ht : invT S T) : mI l yX6_free wsX6_free ({ frames := 3, cells := 0, slots := 0, locals := 64 } : Room) [.ref (ad 0 0)] A G w (fun r w' => r = vlFree S T ∧ w' = w) 0 0 := by
  refine g_ofI (cc := cX6_free) (maxL := 3) (ret := (some .int)) (own := RX6) (by decide) rfl rfl (Nat.le_of_ble_eq_true rfl) ?_
  intro p e R s m args below meth c Q ls hR F hP hS hlocks hr hnm0 hQ hl
  obtain ⟨⟨hx, hb, hml, hown, hts⟩, hK, hZ, hA⟩ := id F
  generalize hH0 : s.heap = H at hP ⊢
  have hS : va_S A s.heap H [] := by rw [← hH0]; exact va_S.rf
  generalize ([] : List Loc) = locs at hS ⊢
  have hl : lv_has ls 3 [(0, .ref (ad 0 0))] := hl
  have iX6 : ∀ w ∈ u_ws RX6 TX6 6, w ∈ wsX6_free := fun w h => List.mem_cons_of_mem _ (List.mem_append_left _ (List.mem_append_left _ (List.mem_append_right _ (h))))
  have hx0 := rep_x Hh Hr
  obtain ⟨m0, a0, hz0⟩ := rep_size Hh Hr 0 (by decide)
  have hi := Hi.1
  refine lv_iconst (v := 0) hx hb dX6_free_0 (by decide) ?_
  refine lv_istore_n (lv' := [(1, .int 0), (0, .ref (ad 0 0))]) hx hb dX6_free_1 rfl hl (by decide) rfl (fun ls hl => ?_)
  refine lv_iconst (v := 0) hx hb dX6_free_2 (by decide) ?_
  refine lv_istore_n (lv' := [(2, .int 0), (1, .int 0), (0, .ref (ad 0 0))]) hx hb dX6_free_3 rfl hl (by decide) rfl (fun ls hl => ?_)
  have L4 : ∀ (n : Nat) (k : Nat) (H : Heap) (locs : List Loc) (ls : Array Slot), (S 0 0).toNat + 1 ≤ k + n → ((k : Int) ≤ S 0 0) → g_P A G w H → va_S A s.heap H locs → lv_has ls 3 [(2, .int (nI k)), (1, .int (iL (cntI (fun k => decide (T 2 k = -1)) k))), (0, .ref (ad 0 0))] → W p l e R s m args below meth c H locs (0) (0) Q (F0 m 4 ls []) := by
    intro n
    induction n with
    | zero =>
      intro k H locs ls hfu hkN hP hS hl
      exact absurd hfu (by omega)
    | succ n ih_L4 =>
      intro k H locs ls hfu hkN hP hS hl
      refine lv_iload_n hx hb dX6_free_4 rfl (lv_at hl 0 rfl) ?_
      refine lv_aload_n hx hb dX6_free_5 rfl (lv_at hl 2 rfl) ?_
      refine g_get F hP (C := RX6) (T := TX6) (N := 6) iX6 hx0 rfl 0 (by decide) (List.mem_cons_of_mem _ (List.mem_append_left _ (List.mem_append_left _ (List.mem_append_left _ (List.mem_append_left _ (List.mem_of_getElem? (i := 0) rfl)))))) (fun _ h9 => h9) rfl dX6_free_6 ?_
      refine g_Vi (As := []) (rest := [.int (nI k)]) F hP hS (k_size l A G w (ad 1 0) a0 m0 (iL (S 0 0)) hz0) (cwV 0 hts gX6_free_Jx4a65c_size_8abf5 rfl rfl rfl cd_Jx4a65c_size_8abf5 ⟨by rw [hR]; exact Nat.le_of_ble_eq_true rfl, by rw [hR]; exact Nat.le_of_ble_eq_true rfl⟩) hz0 rfl rfl rfl hl.1 (Nat.le_of_ble_eq_true rfl) dX6_free_9 ⟨by rw [hR]; exact Nat.le_of_ble_eq_true rfl, by rw [hR]; exact Nat.le_of_ble_eq_true rfl⟩ rfl (fun r1 w2 H locs h3 hP hS => ?_)
      have hr1 := h3.1
      rw [h3.2] at hP
      rw [hr1]
      refine lv_icmp_ge (tgt := 46) hx hb dX6_free_12 (by decide) (fun c4 => ?_) (fun c4 => ?_)
      · have zc4 : S 0 0 ≤ k := (iL_nle (by omega) (by omega) (by omega)).mp c4
        refine lv_iload_n hx hb dX6_free_46 rfl (lv_at hl 1 rfl) ?_
        rw [hQ]
        refine g_iret F hP hS hlocks hr dX6_free_47 (by first | exact Nat.le_of_ble_eq_true rfl | omega) (by first | exact Nat.le_of_ble_eq_true rfl | omega) ?_
        exact ⟨by unfold vlFree; rw [show (S 0 0).toNat = k from by omega], rfl⟩
      · have hk : (k : Int) < S 0 0 := Int.not_le.mp (fun q => c4 ((iL_nle (z := S 0 0) (k := k) (by omega) (by omega) (by omega)).mpr q))
        refine lv_iload_n hx hb dX6_free_15 rfl (lv_at hl 1 rfl) ?_
        refine lv_aload_n hx hb dX6_free_16 rfl (lv_at hl 2 rfl) ?_
        refine g_get F hP (C := RX6) (T := TX6) (N := 6) iX6 hx0 rfl 0 (by decide) (List.mem_cons_of_mem _ (List.mem_append_left _ (List.mem_append_left _ (List.mem_append_left _ (List.mem_append_left _ (List.mem_of_getElem? (i := 0) rfl)))))) (fun _ h9 => h9) rfl dX6_free_17 ?_
        refine lv_iload_n hx hb dX6_free_20 rfl (lv_at hl 0 rfl) ?_
        obtain ⟨gm5, gc5, gf5, ga5, gb5, gk5, gn5, gd5, ge5⟩ := rep_get Hh Hr 0 (by decide) hk
        refine g_Vq (As := [.int (nI k)]) (rest := [.int (iL (cntI (fun k => decide (T 2 k = -1)) k))]) F hP hS (k_get l A G w (ad 1 0) (ad 2 0) (S 0 0).toNat gc5 gm5 gf5 k ga5 gb5 gk5 gn5 gd5) (cwV 1 hts gX6_free_Jx4a65c_get_915e3 rfl rfl rfl cd_Jx4a65c_get_915e3 ⟨by rw [hR]; exact Nat.le_of_ble_eq_true rfl, by rw [hR]; exact Nat.le_of_ble_eq_true rfl⟩) ga5 rfl rfl rfl hl.1 (Nat.le_of_ble_eq_true rfl) dX6_free_21 ⟨by rw [hR]; exact Nat.le_of_ble_eq_true rfl, by rw [hR]; exact Nat.le_of_ble_eq_true rfl⟩ rfl (fun r6 w7 H locs h8 hP hS => ?_)
        have hr6 := h8.1
        rw [h8.2] at hP
        have f9 := rep_sh Hh Hr hk
        have f10 := rep_fr Hh Hr hk
        rw [hr6, ge5, show va_rf (some (ad (elk 0) k)) = .ref (ad 3 k) from rfl]
        refine g_cast F hP (C := RX4) (T := TX4) (N := 5) f9 rfl (List.mem_cons_of_mem _ (List.mem_append_left _ (List.mem_append_left _ (List.mem_append_left _ (List.mem_append_left _ (List.mem_of_getElem? (i := 1) rfl)))))) dX6_free_24 ?_
        refine g_Vi (As := []) (rest := [.int (iL (cntI (fun k => decide (T 2 k = -1)) k))]) F hP hS (k_X4_hasSpeed l A G w (ad 3 k) (iL (S 1 k)) (iL (S 2 k)) (iL (S 3 k)) (iL (T 2 k)) (ad 4 k) f9) (cwV 0 hts gX6_free_X4_hasSpeed rfl rfl rfl cd_X4_hasSpeed ⟨by rw [hR]; exact Nat.le_of_ble_eq_true rfl, by rw [hR]; exact Nat.le_of_ble_eq_true rfl⟩) f9 rfl rfl rfl hl.1 (Nat.le_of_ble_eq_true rfl) dX6_free_27 ⟨by rw [hR]; exact Nat.le_of_ble_eq_true rfl, by rw [hR]; exact Nat.le_of_ble_eq_true rfl⟩ rfl (fun r11 w12 H locs h13 hP hS => ?_)
        have hr11 := h13.1
        rw [h13.2] at hP
        rw [hr11]
        refine lv_if_eq (tgt := 37) hx hb dX6_free_30 (by decide) (fun c14 => ?_) (fun c14 => ?_)
        · have yc14 := of_decide_eq_false (g_b0.mp c14)
          refine lv_iconst (v := 1) hx hb dX6_free_37 (by decide) ?_
          refine lv_iadd hx hb dX6_free_38 ?_
          refine lv_topi (fun v15 ev15 => ?_)
          have tk := (Ht.1 k hk).2.2.2.2
          have t2 : (iL (T 2 k) ≠ -1) ↔ T 2 k ≠ -1 := by rw [show (-1 : Int32) = iL (-1) from rfl, ne_eq, iL_eq (by omega) (by omega) (by omega) (by omega)]
          rw [t2] at yc14
          obtain rfl : v15 = iL (cntI (fun k => decide (T 2 k = -1)) (k + 1)) := by
            rw [ev15]
            have e9 : cntI (fun k => decide (T 2 k = -1)) (k + 1) = cntI (fun k => decide (T 2 k = -1)) k + 1 := by show cntI (fun k => decide (T 2 k = -1)) k + (if decide (T 2 k = -1) then 1 else 0) = _; rw [if_pos (by simp at yc14; simp [yc14])]
            rw [e9, ← iL_add]
            rfl
          refine lv_istore_n (lv' := [(1, .int (iL (cntI (fun k => decide (T 2 k = -1)) (k + 1)))), (2, .int (nI k)), (0, .ref (ad 0 0))]) hx hb dX6_free_39 rfl hl (by decide) rfl (fun ls hl => ?_)
          obtain ⟨i16, ei16⟩ : ∃ y : Int32, y = nI k + (1) := ⟨_, rfl⟩
          refine lv_iinc (v := i16) (lv' := [(2, .int i16), (1, .int (iL (cntI (fun k => decide (T 2 k = -1)) (k + 1)))), (0, .ref (ad 0 0))]) hx hb dX6_free_40 hl (k := 1) rfl (by rw [ei16]; rfl) (by decide) rfl (fun ls hl => ?_)
          obtain rfl : i16 = nI (k + 1) := by
            rw [ei16]
            exact nI_1 k
          refine lv_goto (tgt := 4) hx hb dX6_free_43 (by decide) ?_
          exact ih_L4 (k + 1)  H locs ls (by omega) (by omega) hP hS (lv_sub hl [0, 1, 2] rfl)
        · have yc14 := of_decide_eq_true (g_b1.mp c14)
          refine lv_iconst (v := 0) hx hb dX6_free_33 (by decide) ?_
          refine lv_goto (tgt := 38) hx hb dX6_free_34 (by decide) ?_
          refine lv_iadd hx hb dX6_free_38 ?_
          refine lv_topi (fun v17 ev17 => ?_)
          have tk := (Ht.1 k hk).2.2.2.2
          have t2 : (iL (T 2 k) ≠ -1) ↔ T 2 k ≠ -1 := by rw [show (-1 : Int32) = iL (-1) from rfl, ne_eq, iL_eq (by omega) (by omega) (by omega) (by omega)]
          rw [t2] at yc14
          obtain rfl : v17 = iL (cntI (fun k => decide (T 2 k = -1)) (k + 1)) := by
            rw [ev17]
            have e9 : cntI (fun k => decide (T 2 k = -1)) (k + 1) = cntI (fun k => decide (T 2 k = -1)) k + 0 := by show cntI (fun k => decide (T 2 k = -1)) k + (if decide (T 2 k = -1) then 1 else 0) = _; rw [if_neg (by simp [yc14])]
            rw [e9, ← iL_add]
            rfl
          refine lv_istore_n (lv' := [(1, .int (iL (cntI (fun k => decide (T 2 k = -1)) (k + 1)))), (2, .int (nI k)), (0, .ref (ad 0 0))]) hx hb dX6_free_39 rfl hl (by decide) rfl (fun ls hl => ?_)
          obtain ⟨i18, ei18⟩ : ∃ y : Int32, y = nI k + (1) := ⟨_, rfl⟩
          refine lv_iinc (v := i18) (lv' := [(2, .int i18), (1, .int (iL (cntI (fun k => decide (T 2 k = -1)) (k + 1)))), (0, .ref (ad 0 0))]) hx hb dX6_free_40 hl (k := 1) rfl (by rw [ei18]; rfl) (by decide) rfl (fun ls hl => ?_)
          obtain rfl : i18 = nI (k + 1) := by
            rw [ei18]
            exact nI_1 k
          refine lv_goto (tgt := 4) hx hb dX6_free_43 (by decide) ?_
          exact ih_L4 (k + 1)  H locs ls (by omega) (by omega) hP hS (lv_sub hl [0, 1, 2] rfl)
  exact L4 ((S 0 0).toNat + 1) 0  H locs ls (by omega) (by omega) hP hS (lv_sub hl [0, 1, 2] rfl)
