theorem cd_X2_isOf : yX2_isOf.cls = RX2 ∧ yX2_isOf.cls ≠ "java/lang/invoke/MethodHandle" ∧ yX2_isOf.cls ≠ "java/lang/invoke/VarHandle" ∧ (parseMethodDescriptor yX2_isOf.desc).map (fun d => d.parameters.length) = some 2 := by decide +kernel
set_option maxHeartbeats 4000000 in
set_option maxRecDepth 100000 in
theorem k_X6_areMeshed (l : Launch) (A : Nat → Prop) (G : g_C) (w : g_W) (ad : Nat → Nat → Nat) (Cn : Nat → Nat → Option va_E) (S T : Sg) (ga gb : Nat) (Hh : holds w ad Cn) (Hr : rep G S T ad Cn) (Hi : invS S) (hga : (ga : Int) < S 0 1) (hgb : (gb : Int) < S 0 1) : mI l yX6_areMeshed wsX6_areMeshed ({ frames := 3, cells := 0, slots := 0, locals := 64 } : Room) [.ref (ad 0 0), .ref (ad 5 ga), .ref (ad 5 gb)] A G w (fun r w' => (∃ b0 : Bool, r = g_b b0 ∧ (b0 = true ↔ meshedP S ga gb)) ∧ w' = w) 0 0 := by
  refine g_ofI (cc := cX6_areMeshed) (maxL := 4) (ret := (some .boolean)) (own := RX6) (by decide) rfl rfl (Nat.le_of_ble_eq_true rfl) ?_
  intro p e R s m args below meth c Q ls hR F hP hS hlocks hr hnm0 hQ hl
  obtain ⟨⟨hx, hb, hml, hown, hts⟩, hK, hZ, hA⟩ := id F
  generalize hH0 : s.heap = H at hP ⊢
  have hS : va_S A s.heap H [] := by rw [← hH0]; exact va_S.rf
  generalize ([] : List Loc) = locs at hS ⊢
  have hl : lv_has ls 4 [(0, .ref (ad 0 0)), (1, .ref (ad 5 ga)), (2, .ref (ad 5 gb))] := hl
  have iX6 : ∀ w ∈ u_ws RX6 TX6 6, w ∈ wsX6_areMeshed := fun w h => List.mem_cons_of_mem _ (List.mem_append_left _ (List.mem_append_left _ (List.mem_append_right _ (h))))
  have hx0 := rep_x Hh Hr
  obtain ⟨m2, a2, hz2⟩ := rep_size Hh Hr 2 (by decide)
  have hi := Hi.1
  refine lv_iconst (v := 0) hx hb dX6_areMeshed_0 (by decide) ?_
  refine lv_istore_n (lv' := [(3, .int 0), (0, .ref (ad 0 0)), (1, .ref (ad 5 ga)), (2, .ref (ad 5 gb))]) hx hb dX6_areMeshed_1 rfl hl (by decide) rfl (fun ls hl => ?_)
  have L2 : ∀ (n : Nat) (k : Nat) (H : Heap) (locs : List Loc) (ls : Array Slot), (S 0 2).toNat + 1 ≤ k + n → ((k : Int) ≤ S 0 2) → (∀ j, j < k → ¬ meshAt S j ga gb) → g_P A G w H → va_S A s.heap H locs → lv_has ls 4 [(3, .int (nI k)), (2, .ref (ad 5 gb)), (1, .ref (ad 5 ga)), (0, .ref (ad 0 0))] → W p l e R s m args below meth c H locs (0) (0) Q (F0 m 2 ls []) := by
    intro n
    induction n with
    | zero =>
      intro k H locs ls hfu hkN hno hP hS hl
      exact absurd hfu (by omega)
    | succ n ih_L2 =>
      intro k H locs ls hfu hkN hno hP hS hl
      refine lv_iload_n hx hb dX6_areMeshed_2 rfl (lv_at hl 0 rfl) ?_
      refine lv_aload_n hx hb dX6_areMeshed_3 rfl (lv_at hl 3 rfl) ?_
      refine g_get F hP (C := RX6) (T := TX6) (N := 6) iX6 hx0 rfl 2 (by decide) (List.mem_cons_of_mem _ (List.mem_append_left _ (List.mem_append_left _ (List.mem_append_left _ (List.mem_append_left _ (List.mem_of_getElem? (i := 0) rfl)))))) (fun _ h9 => h9) rfl dX6_areMeshed_4 ?_
      refine g_Vi (As := []) (rest := [.int (nI k)]) F hP hS (k_size l A G w (ad 1 2) a2 m2 (iL (S 0 2)) hz2) (cwV 0 hts gX6_areMeshed_Jx4a65c_size_8abf5 rfl rfl rfl cd_Jx4a65c_size_8abf5 ⟨by rw [hR]; exact Nat.le_of_ble_eq_true rfl, by rw [hR]; exact Nat.le_of_ble_eq_true rfl⟩) hz2 rfl rfl rfl hl.1 (Nat.le_of_ble_eq_true rfl) dX6_areMeshed_7 ⟨by rw [hR]; exact Nat.le_of_ble_eq_true rfl, by rw [hR]; exact Nat.le_of_ble_eq_true rfl⟩ rfl (fun r1 w2 H locs h3 hP hS => ?_)
      have hr1 := h3.1
      rw [h3.2] at hP
      rw [hr1]
      refine lv_icmp_ge (tgt := 40) hx hb dX6_areMeshed_10 (by decide) (fun c4 => ?_) (fun c4 => ?_)
      · have zc4 : S 0 2 ≤ k := (iL_nle (by omega) (by omega) (by omega)).mp c4
        refine lv_iconst (v := 0) hx hb dX6_areMeshed_40 (by decide) ?_
        rw [hQ]
        refine g_zret F hP hS hlocks hr (by first | rfl | exact g_nb _) dX6_areMeshed_41 (by first | exact Nat.le_of_ble_eq_true rfl | omega) (by first | exact Nat.le_of_ble_eq_true rfl | omega) ?_
        exact ⟨⟨false, rfl, ⟨fun q => (nomatch q), fun ⟨j, j1, j2⟩ => absurd j2 (hno j (by omega))⟩⟩, rfl⟩
      · have hk : (k : Int) < S 0 2 := Int.not_le.mp (fun q => c4 ((iL_nle (z := S 0 2) (k := k) (by omega) (by omega) (by omega)).mpr q))
        refine lv_aload_n hx hb dX6_areMeshed_13 rfl (lv_at hl 3 rfl) ?_
        refine g_get F hP (C := RX6) (T := TX6) (N := 6) iX6 hx0 rfl 2 (by decide) (List.mem_cons_of_mem _ (List.mem_append_left _ (List.mem_append_left _ (List.mem_append_left _ (List.mem_append_left _ (List.mem_of_getElem? (i := 0) rfl)))))) (fun _ h9 => h9) rfl dX6_areMeshed_14 ?_
        refine lv_iload_n hx hb dX6_areMeshed_17 rfl (lv_at hl 0 rfl) ?_
        obtain ⟨gm5, gc5, gf5, ga5, gb5, gk5, gn5, gd5, ge5⟩ := rep_get Hh Hr 2 (by decide) hk
        refine g_Vq (As := [.int (nI k)]) (rest := []) F hP hS (k_get l A G w (ad 1 2) (ad 2 2) (S 0 2).toNat gc5 gm5 gf5 k ga5 gb5 gk5 gn5 gd5) (cwV 1 hts gX6_areMeshed_Jx4a65c_get_915e3 rfl rfl rfl cd_Jx4a65c_get_915e3 ⟨by rw [hR]; exact Nat.le_of_ble_eq_true rfl, by rw [hR]; exact Nat.le_of_ble_eq_true rfl⟩) ga5 rfl rfl rfl hl.1 (Nat.le_of_ble_eq_true rfl) dX6_areMeshed_18 ⟨by rw [hR]; exact Nat.le_of_ble_eq_true rfl, by rw [hR]; exact Nat.le_of_ble_eq_true rfl⟩ rfl (fun r6 w7 H locs h8 hP hS => ?_)
        have hr6 := h8.1
        rw [h8.2] at hP
        have f9 := rep_me Hh Hr hk
        rw [hr6, ge5, show va_rf (some (ad (elk 2) k)) = .ref (ad 6 k) from rfl]
        refine g_cast F hP (C := RX2) (T := TX2) (N := 3) f9 rfl (List.mem_cons_of_mem _ (List.mem_append_left _ (List.mem_append_left _ (List.mem_append_left _ (List.mem_append_left _ (List.mem_of_getElem? (i := 1) rfl)))))) dX6_areMeshed_21 ?_
        refine lv_aload_n hx hb dX6_areMeshed_24 rfl (lv_at hl 2 rfl) ?_
        refine lv_aload_n hx hb dX6_areMeshed_25 rfl (lv_at hl 1 rfl) ?_
        refine g_Vi (As := [.ref (ad 5 ga), .ref (ad 5 gb)]) (rest := []) F hP hS (k_X2_isOf l A G w (ad 6 k) (ad 5 ga) (ad 5 gb) (ad 5 (S 9 k).toNat) (ad 5 (S 10 k).toNat) (ad 7 k) f9) (cwV 2 hts gX6_areMeshed_X2_isOf rfl rfl rfl cd_X2_isOf ⟨by rw [hR]; exact Nat.le_of_ble_eq_true rfl, by rw [hR]; exact Nat.le_of_ble_eq_true rfl⟩) f9 rfl rfl rfl hl.1 (Nat.le_of_ble_eq_true rfl) dX6_areMeshed_26 ⟨by rw [hR]; exact Nat.le_of_ble_eq_true rfl, by rw [hR]; exact Nat.le_of_ble_eq_true rfl⟩ rfl (fun r10 w11 H locs h12 hP hS => ?_)
        have hr10 := h12.1
        rw [h12.2] at hP
        rw [hr10]
        refine lv_if_eq (tgt := 34) hx hb dX6_areMeshed_29 (by decide) (fun c13 => ?_) (fun c13 => ?_)
        · have yc13 := of_decide_eq_false (g_b0.mp c13)
          rw [isOf_ad Hh Hr Hi hk hga hgb] at yc13
          obtain ⟨i14, ei14⟩ : ∃ y : Int32, y = nI k + (1) := ⟨_, rfl⟩
          refine lv_iinc (v := i14) (lv' := [(3, .int i14), (2, .ref (ad 5 gb)), (1, .ref (ad 5 ga)), (0, .ref (ad 0 0))]) hx hb dX6_areMeshed_34 hl (k := 0) rfl (by rw [ei14]; rfl) (by decide) rfl (fun ls hl => ?_)
          obtain rfl : i14 = nI (k + 1) := by
            rw [ei14]
            exact nI_1 k
          refine lv_goto (tgt := 2) hx hb dX6_areMeshed_37 (by decide) ?_
          exact ih_L2 (k + 1)  H locs ls (by omega) (by omega) (fun j hj => (Nat.lt_succ_iff_lt_or_eq.mp hj).elim (hno j) (fun e => e ▸ yc13)) hP hS (lv_sub hl [0, 1, 2, 3] rfl)
        · have yc13 := of_decide_eq_true (g_b1.mp c13)
          rw [isOf_ad Hh Hr Hi hk hga hgb] at yc13
          refine lv_iconst (v := 1) hx hb dX6_areMeshed_32 (by decide) ?_
          rw [hQ]
          refine g_zret F hP hS hlocks hr (by first | rfl | exact g_nb _) dX6_areMeshed_33 (by first | exact Nat.le_of_ble_eq_true rfl | omega) (by first | exact Nat.le_of_ble_eq_true rfl | omega) ?_
          exact ⟨⟨true, rfl, ⟨fun _ => ⟨k, hk, yc13⟩, fun _ => rfl⟩⟩, rfl⟩
  exact L2 ((S 0 2).toNat + 1) 0  H locs ls (by omega) (by omega) (fun j hj => absurd hj (Nat.not_lt_zero j)) hP hS (lv_sub hl [0, 3, 2, 1] rfl)
