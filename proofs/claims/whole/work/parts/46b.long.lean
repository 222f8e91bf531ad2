theorem cd_X6_mixed : yX6_mixed.cls ≠ "java/lang/invoke/MethodHandle" ∧ yX6_mixed.cls ≠ "java/lang/invoke/VarHandle" ∧ (parseMethodDescriptor yX6_mixed.desc).map (fun d => d.parameters.length) = some 2 := by decide +kernel
set_option maxHeartbeats 4000000 in
set_option maxRecDepth 100000 in
theorem k_X6_mixedShaft (l : Launch) (A : Nat → Prop) (G : g_C) (w : g_W) (ad : Nat → Nat → Nat) (Cn : Nat → Nat → Option va_E) (S T : Sg) (d : Int64) (k : Nat) (Hh : holds w ad Cn) (Hr : rep G S T ad Cn) (Hi : invS S) (Ht : invT S T) (hk : (k : Int) < S 0 0) : mL l yX6_mixedShaft wsX6_mixedShaft ({ frames := 1, cells := 0, slots := 0, locals := 23 } : Room) [.long d, .ref (ad 3 k)] A G w (fun r w' => r = mxS S T k d ∧ w' = w) 0 0 := by
  refine g_ofL (cc := cX6_mixedShaft) (maxL := 5) (ret := (some .long)) (own := RX6) (by decide) rfl rfl (Nat.le_of_ble_eq_true rfl) ?_
  intro p e R s m args below meth c Q ls hR F hP hS hlocks hr hnm0 hQ hl
  obtain ⟨⟨hx, hb, hml, hown, hts⟩, hK, hZ, hA⟩ := id F
  generalize hH0 : s.heap = H at hP ⊢
  have hS : va_S A s.heap H [] := by rw [← hH0]; exact va_S.rf
  generalize ([] : List Loc) = locs at hS ⊢
  have hl : lv_has ls 5 [(0, .long d), (2, .ref (ad 3 k))] := hl
  have iX0 : ∀ w ∈ u_ws RX0 TX0 2, w ∈ wsX6_mixedShaft := fun w h => List.mem_cons_of_mem _ (List.mem_append_right _ (h))
  have iX4 : ∀ w ∈ u_ws RX4 TX4 5, w ∈ wsX6_mixedShaft := fun w h => List.mem_cons_of_mem _ (List.mem_append_left _ (List.mem_append_right _ (h)))
  have hx0 := rep_x Hh Hr
  have hi := Hi.1
  have sk := Hi.2.1 k hk
  have tk := Ht.1 k hk
  have hs := rep_sh Hh Hr hk
  have hf := rep_fr Hh Hr hk
  have e3 := iL_b sk.2.2.2.2
  rw [e3] at hs
  refine lv_lload_n hx hb dX6_mixedShaft_0 rfl (lv_at hl 0 rfl) ?_
  refine lv_aload_n hx hb dX6_mixedShaft_1 rfl (lv_at hl 1 rfl) ?_
  refine g_get F hP (C := RX4) (T := TX4) (N := 5) iX4 hs rfl 0 (by decide) (List.mem_cons_of_mem _ (List.mem_append_left _ (List.mem_append_left _ (List.mem_of_getElem? (i := 0) rfl)))) (fun _ h9 => h9) rfl dX6_mixedShaft_2 ?_
  refine lv_i2l hx hb dX6_mixedShaft_5 rfl ?_
  refine lv_topl (fun v1 ev1 => ?_)
  obtain rfl : v1 = zL (S 1 k) := by
    rw [ev1]
    exact iL64 (by omega) (by omega)
  refine g_Sl (As := [.long d, .long (zL (S 1 k))]) (rest := []) F hP hS (k_X6_mixed l A G w d (zL (S 1 k))) (va_cwS 2 hts gX6_mixedShaft_X6_mixed rfl rfl rfl cd_X6_mixed ⟨by rw [hR]; exact Nat.le_of_ble_eq_true rfl, by rw [hR]; exact Nat.le_of_ble_eq_true rfl⟩) rfl hl.1 (Nat.le_of_ble_eq_true rfl) dX6_mixedShaft_6 ⟨by rw [hR]; exact Nat.le_of_ble_eq_true rfl, by rw [hR]; exact Nat.le_of_ble_eq_true rfl⟩ rfl (fun r2 w3 H locs h4 hP hS => ?_)
  have hr2 := h4.1
  rw [h4.2] at hP
  rw [hr2]
  refine lv_lstore_n (lv' := [(3, .long (mxL d (zL (S 1 k)))), (0, .long d), (2, .ref (ad 3 k))]) hx hb dX6_mixedShaft_9 rfl hl (by decide) rfl (fun ls hl => ?_)
  refine lv_lload_n hx hb dX6_mixedShaft_10 rfl (lv_at hl 0 rfl) ?_
  refine lv_aload_n hx hb dX6_mixedShaft_11 rfl (lv_at hl 2 rfl) ?_
  refine g_get F hP (C := RX4) (T := TX4) (N := 5) iX4 hs rfl 1 (by decide) (List.mem_cons_of_mem _ (List.mem_append_left _ (List.mem_append_left _ (List.mem_of_getElem? (i := 1) rfl)))) (fun _ h9 => h9) rfl dX6_mixedShaft_12 ?_
  refine lv_i2l hx hb dX6_mixedShaft_15 rfl ?_
  refine lv_topl (fun v5 ev5 => ?_)
  obtain rfl : v5 = zL (S 2 k) := by
    rw [ev5]
    exact iL64 (by omega) (by omega)
  refine g_Sl (As := [.long (mxL d (zL (S 1 k))), .long (zL (S 2 k))]) (rest := []) F hP hS (k_X6_mixed l A G w (mxL d (zL (S 1 k))) (zL (S 2 k))) (va_cwS 2 hts gX6_mixedShaft_X6_mixed rfl rfl rfl cd_X6_mixed ⟨by rw [hR]; exact Nat.le_of_ble_eq_true rfl, by rw [hR]; exact Nat.le_of_ble_eq_true rfl⟩) rfl hl.1 (Nat.le_of_ble_eq_true rfl) dX6_mixedShaft_16 ⟨by rw [hR]; exact Nat.le_of_ble_eq_true rfl, by rw [hR]; exact Nat.le_of_ble_eq_true rfl⟩ rfl (fun r6 w7 H locs h8 hP hS => ?_)
  have hr6 := h8.1
  rw [h8.2] at hP
  rw [hr6]
  refine lv_lstore_n (lv' := [(3, .long (mxL (mxL d (zL (S 1 k))) (zL (S 2 k)))), (0, .long d), (2, .ref (ad 3 k))]) hx hb dX6_mixedShaft_19 rfl hl (by decide) rfl (fun ls hl => ?_)
  refine lv_lload_n hx hb dX6_mixedShaft_20 rfl (lv_at hl 0 rfl) ?_
  refine lv_aload_n hx hb dX6_mixedShaft_21 rfl (lv_at hl 2 rfl) ?_
  refine g_get F hP (C := RX4) (T := TX4) (N := 5) iX4 hs rfl 2 (by decide) (List.mem_cons_of_mem _ (List.mem_append_left _ (List.mem_append_left _ (List.mem_of_getElem? (i := 2) rfl)))) (fun _ h9 => h9) rfl dX6_mixedShaft_22 ?_
  refine lv_if_eq (tgt := 32) hx hb dX6_mixedShaft_25 (by decide) (fun c9 => ?_) (fun c9 => ?_)
  · have yc9 : ¬ S 3 k = 1 := of_decide_eq_false (g_b0.mp c9)
    have zc9 : (0 : Int64) = zL (S 3 k) := by rw [show S 3 k = 0 from by omega]; rfl
    refine lv_lconst (v := 0) hx hb dX6_mixedShaft_32 (by decide) ?_
    rw [show (.long 0 : Value) = .long (zL (S 3 k)) from by rw [← zc9]]
    refine g_Sl (As := [.long (mxL (mxL d (zL (S 1 k))) (zL (S 2 k))), .long (zL (S 3 k))]) (rest := []) F hP hS (k_X6_mixed l A G w (mxL (mxL d (zL (S 1 k))) (zL (S 2 k))) (zL (S 3 k))) (va_cwS 2 hts gX6_mixedShaft_X6_mixed rfl rfl rfl cd_X6_mixed ⟨by rw [hR]; exact Nat.le_of_ble_eq_true rfl, by rw [hR]; exact Nat.le_of_ble_eq_true rfl⟩) rfl hl.1 (Nat.le_of_ble_eq_true rfl) dX6_mixedShaft_33 ⟨by rw [hR]; exact Nat.le_of_ble_eq_true rfl, by rw [hR]; exact Nat.le_of_ble_eq_true rfl⟩ rfl (fun r10 w11 H locs h12 hP hS => ?_)
    have hr10 := h12.1
    rw [h12.2] at hP
    rw [hr10]
    refine lv_lstore_n (lv' := [(3, .long (mxL (mxL (mxL d (zL (S 1 k))) (zL (S 2 k))) (zL (S 3 k)))), (0, .long d), (2, .ref (ad 3 k))]) hx hb dX6_mixedShaft_36 rfl hl (by decide) rfl (fun ls hl => ?_)
    refine lv_lload_n hx hb dX6_mixedShaft_37 rfl (lv_at hl 0 rfl) ?_
    refine lv_aload_n hx hb dX6_mixedShaft_38 rfl (lv_at hl 2 rfl) ?_
    refine g_get F hP (C := RX4) (T := TX4) (N := 5) iX4 hs rfl 3 (by decide) (List.mem_cons_of_mem _ (List.mem_append_left _ (List.mem_append_left _ (List.mem_of_getElem? (i := 3) rfl)))) (fun _ h9 => h9) rfl dX6_mixedShaft_39 ?_
    refine lv_i2l hx hb dX6_mixedShaft_42 rfl ?_
    refine lv_topl (fun v13 ev13 => ?_)
    obtain rfl : v13 = zL (T 2 k) := by
      rw [ev13]
      exact iL64 (by omega) (by omega)
    refine g_Sl (As := [.long (mxL (mxL (mxL d (zL (S 1 k))) (zL (S 2 k))) (zL (S 3 k))), .long (zL (T 2 k))]) (rest := []) F hP hS (k_X6_mixed l A G w (mxL (mxL (mxL d (zL (S 1 k))) (zL (S 2 k))) (zL (S 3 k))) (zL (T 2 k))) (va_cwS 2 hts gX6_mixedShaft_X6_mixed rfl rfl rfl cd_X6_mixed ⟨by rw [hR]; exact Nat.le_of_ble_eq_true rfl, by rw [hR]; exact Nat.le_of_ble_eq_true rfl⟩) rfl hl.1 (Nat.le_of_ble_eq_true rfl) dX6_mixedShaft_43 ⟨by rw [hR]; exact Nat.le_of_ble_eq_true rfl, by rw [hR]; exact Nat.le_of_ble_eq_true rfl⟩ rfl (fun r14 w15 H locs h16 hP hS => ?_)
    have hr14 := h16.1
    rw [h16.2] at hP
    rw [hr14]
    refine lv_lstore_n (lv' := [(3, .long (mxL (mxL (mxL (mxL d (zL (S 1 k))) (zL (S 2 k))) (zL (S 3 k))) (zL (T 2 k)))), (0, .long d), (2, .ref (ad 3 k))]) hx hb dX6_mixedShaft_46 rfl hl (by decide) rfl (fun ls hl => ?_)
    refine lv_aload_n hx hb dX6_mixedShaft_47 rfl (lv_at hl 2 rfl) ?_
    refine g_Vi (As := []) (rest := []) F hP hS (k_X4_hasSpeed l A G w (ad 3 k) (iL (S 1 k)) (iL (S 2 k)) _ (iL (T 2 k)) (ad 4 k) hs) (cwV 0 hts gX6_mixedShaft_X4_hasSpeed rfl rfl rfl cd_X4_hasSpeed ⟨by rw [hR]; exact Nat.le_of_ble_eq_true rfl, by rw [hR]; exact Nat.le_of_ble_eq_true rfl⟩) hs rfl rfl rfl hl.1 (Nat.le_of_ble_eq_true rfl) dX6_mixedShaft_48 ⟨by rw [hR]; exact Nat.le_of_ble_eq_true rfl, by rw [hR]; exact Nat.le_of_ble_eq_true rfl⟩ rfl (fun r17 w18 H locs h19 hP hS => ?_)
    have hr17 := h19.1
    rw [h19.2] at hP
    rw [hr17]
    refine lv_if_eq (tgt := 78) hx hb dX6_mixedShaft_51 (by decide) (fun c20 => ?_) (fun c20 => ?_)
    · have t2 : (iL (T 2 k) ≠ -1) ↔ T 2 k ≠ -1 := by rw [show (-1 : Int32) = iL (-1) from rfl, ne_eq, iL_eq (by omega) (by omega) (by omega) (by omega)]
      have yc20 : ¬ (T 2 k ≠ -1) := by rw [← t2]; exact of_decide_eq_false (g_b0.mp c20)
      refine lv_lload_n hx hb dX6_mixedShaft_78 rfl (lv_at hl 0 rfl) ?_
      rw [hQ]
      refine g_lret F hP hS hlocks hr dX6_mixedShaft_79 (by first | exact Nat.le_of_ble_eq_true rfl | omega) (by first | exact Nat.le_of_ble_eq_true rfl | omega) ?_
      exact ⟨by unfold mxS; rw [if_neg yc20], rfl⟩
    · have t2 : (iL (T 2 k) ≠ -1) ↔ T 2 k ≠ -1 := by rw [show (-1 : Int32) = iL (-1) from rfl, ne_eq, iL_eq (by omega) (by omega) (by omega) (by omega)]
      have yc20 : T 2 k ≠ -1 := by rw [← t2]; exact of_decide_eq_true (g_b1.mp c20)
      refine lv_lload_n hx hb dX6_mixedShaft_54 rfl (lv_at hl 0 rfl) ?_
      refine lv_aload_n hx hb dX6_mixedShaft_55 rfl (lv_at hl 2 rfl) ?_
      refine g_get F hP (C := RX4) (T := TX4) (N := 5) iX4 hs rfl 4 (by decide) (List.mem_cons_of_mem _ (List.mem_append_left _ (List.mem_append_left _ (List.mem_of_getElem? (i := 4) rfl)))) (fun _ h9 => h9) rfl dX6_mixedShaft_56 ?_
      refine g_get F hP (C := RX0) (T := TX0) (N := 2) iX0 hf rfl 0 (by decide) (List.mem_cons_of_mem _ (List.mem_append_left _ (List.mem_append_left _ (List.mem_of_getElem? (i := 5) rfl)))) (fun _ h9 => h9) rfl dX6_mixedShaft_59 ?_
      refine g_Sl (As := [.long (mxL (mxL (mxL (mxL d (zL (S 1 k))) (zL (S 2 k))) (zL (S 3 k))) (zL (T 2 k))), .long (zL (T 0 k))]) (rest := []) F hP hS (k_X6_mixed l A G w (mxL (mxL (mxL (mxL d (zL (S 1 k))) (zL (S 2 k))) (zL (S 3 k))) (zL (T 2 k))) (zL (T 0 k))) (va_cwS 2 hts gX6_mixedShaft_X6_mixed rfl rfl rfl cd_X6_mixed ⟨by rw [hR]; exact Nat.le_of_ble_eq_true rfl, by rw [hR]; exact Nat.le_of_ble_eq_true rfl⟩) rfl hl.1 (Nat.le_of_ble_eq_true rfl) dX6_mixedShaft_62 ⟨by rw [hR]; exact Nat.le_of_ble_eq_true rfl, by rw [hR]; exact Nat.le_of_ble_eq_true rfl⟩ rfl (fun r21 w22 H locs h23 hP hS => ?_)
      have hr21 := h23.1
      rw [h23.2] at hP
      rw [hr21]
      refine lv_lstore_n (lv' := [(3, .long (mxL (mxL (mxL (mxL (mxL d (zL (S 1 k))) (zL (S 2 k))) (zL (S 3 k))) (zL (T 2 k))) (zL (T 0 k)))), (0, .long d), (2, .ref (ad 3 k))]) hx hb dX6_mixedShaft_65 rfl hl (by decide) rfl (fun ls hl => ?_)
      refine lv_lload_n hx hb dX6_mixedShaft_66 rfl (lv_at hl 0 rfl) ?_
      refine lv_aload_n hx hb dX6_mixedShaft_67 rfl (lv_at hl 2 rfl) ?_
      refine g_get F hP (C := RX4) (T := TX4) (N := 5) iX4 hs rfl 4 (by decide) (List.mem_cons_of_mem _ (List.mem_append_left _ (List.mem_append_left _ (List.mem_of_getElem? (i := 4) rfl)))) (fun _ h9 => h9) rfl dX6_mixedShaft_68 ?_
      refine g_get F hP (C := RX0) (T := TX0) (N := 2) iX0 hf rfl 1 (by decide) (List.mem_cons_of_mem _ (List.mem_append_left _ (List.mem_append_left _ (List.mem_of_getElem? (i := 6) rfl)))) (fun _ h9 => h9) rfl dX6_mixedShaft_71 ?_
      refine g_Sl (As := [.long (mxL (mxL (mxL (mxL (mxL d (zL (S 1 k))) (zL (S 2 k))) (zL (S 3 k))) (zL (T 2 k))) (zL (T 0 k))), .long (zL (T 1 k))]) (rest := []) F hP hS (k_X6_mixed l A G w (mxL (mxL (mxL (mxL (mxL d (zL (S 1 k))) (zL (S 2 k))) (zL (S 3 k))) (zL (T 2 k))) (zL (T 0 k))) (zL (T 1 k))) (va_cwS 2 hts gX6_mixedShaft_X6_mixed rfl rfl rfl cd_X6_mixed ⟨by rw [hR]; exact Nat.le_of_ble_eq_true rfl, by rw [hR]; exact Nat.le_of_ble_eq_true rfl⟩) rfl hl.1 (Nat.le_of_ble_eq_true rfl) dX6_mixedShaft_74 ⟨by rw [hR]; exact Nat.le_of_ble_eq_true rfl, by rw [hR]; exact Nat.le_of_ble_eq_true rfl⟩ rfl (fun r24 w25 H locs h26 hP hS => ?_)
      have hr24 := h26.1
      rw [h26.2] at hP
      rw [hr24]
      refine lv_lstore_n (lv' := [(3, .long (mxL (mxL (mxL (mxL (mxL (mxL d (zL (S 1 k))) (zL (S 2 k))) (zL (S 3 k))) (zL (T 2 k))) (zL (T 0 k))) (zL (T 1 k)))), (0, .long d), (2, .ref (ad 3 k))]) hx hb dX6_mixedShaft_77 rfl hl (by decide) rfl (fun ls hl => ?_)
      refine lv_lload_n hx hb dX6_mixedShaft_78 rfl (lv_at hl 0 rfl) ?_
      rw [hQ]
      refine g_lret F hP hS hlocks hr dX6_mixedShaft_79 (by first | exact Nat.le_of_ble_eq_true rfl | omega) (by first | exact Nat.le_of_ble_eq_true rfl | omega) ?_
      exact ⟨by unfold mxS; rw [if_pos yc20], rfl⟩
  · have yc9 : S 3 k = 1 := of_decide_eq_true (g_b1.mp c9)
    have zc9 : (1 : Int64) = zL (S 3 k) := by rw [yc9]; rfl
    refine lv_lconst (v := 1) hx hb dX6_mixedShaft_28 (by decide) ?_
    refine lv_goto (tgt := 33) hx hb dX6_mixedShaft_29 (by decide) ?_
    rw [show (.long 1 : Value) = .long (zL (S 3 k)) from by rw [← zc9]]
    refine g_Sl (As := [.long (mxL (mxL d (zL (S 1 k))) (zL (S 2 k))), .long (zL (S 3 k))]) (rest := []) F hP hS (k_X6_mixed l A G w (mxL (mxL d (zL (S 1 k))) (zL (S 2 k))) (zL (S 3 k))) (va_cwS 2 hts gX6_mixedShaft_X6_mixed rfl rfl rfl cd_X6_mixed ⟨by rw [hR]; exact Nat.le_of_ble_eq_true rfl, by rw [hR]; exact Nat.le_of_ble_eq_true rfl⟩) rfl hl.1 (Nat.le_of_ble_eq_true rfl) dX6_mixedShaft_33 ⟨by rw [hR]; exact Nat.le_of_ble_eq_true rfl, by rw [hR]; exact Nat.le_of_ble_eq_true rfl⟩ rfl (fun r27 w28 H locs h29 hP hS => ?_)
    have hr27 := h29.1
    rw [h29.2] at hP
    rw [hr27]
    refine lv_lstore_n (lv' := [(3, .long (mxL (mxL (mxL d (zL (S 1 k))) (zL (S 2 k))) (zL (S 3 k)))), (0, .long d), (2, .ref (ad 3 k))]) hx hb dX6_mixedShaft_36 rfl hl (by decide) rfl (fun ls hl => ?_)
    refine lv_lload_n hx hb dX6_mixedShaft_37 rfl (lv_at hl 0 rfl) ?_
    refine lv_aload_n hx hb dX6_mixedShaft_38 rfl (lv_at hl 2 rfl) ?_
    refine g_get F hP (C := RX4) (T := TX4) (N := 5) iX4 hs rfl 3 (by decide) (List.mem_cons_of_mem _ (List.mem_append_left _ (List.mem_append_left _ (List.mem_of_getElem? (i := 3) rfl)))) (fun _ h9 => h9) rfl dX6_mixedShaft_39 ?_
    refine lv_i2l hx hb dX6_mixedShaft_42 rfl ?_
    refine lv_topl (fun v30 ev30 => ?_)
    obtain rfl : v30 = zL (T 2 k) := by
      rw [ev30]
      exact iL64 (by omega) (by omega)
    refine g_Sl (As := [.long (mxL (mxL (mxL d (zL (S 1 k))) (zL (S 2 k))) (zL (S 3 k))), .long (zL (T 2 k))]) (rest := []) F hP hS (k_X6_mixed l A G w (mxL (mxL (mxL d (zL (S 1 k))) (zL (S 2 k))) (zL (S 3 k))) (zL (T 2 k))) (va_cwS 2 hts gX6_mixedShaft_X6_mixed rfl rfl rfl cd_X6_mixed ⟨by rw [hR]; exact Nat.le_of_ble_eq_true rfl, by rw [hR]; exact Nat.le_of_ble_eq_true rfl⟩) rfl hl.1 (Nat.le_of_ble_eq_true rfl) dX6_mixedShaft_43 ⟨by rw [hR]; exact Nat.le_of_ble_eq_true rfl, by rw [hR]; exact Nat.le_of_ble_eq_true rfl⟩ rfl (fun r31 w32 H locs h33 hP hS => ?_)
    have hr31 := h33.1
    rw [h33.2] at hP
    rw [hr31]
    refine lv_lstore_n (lv' := [(3, .long (mxL (mxL (mxL (mxL d (zL (S 1 k))) (zL (S 2 k))) (zL (S 3 k))) (zL (T 2 k)))), (0, .long d), (2, .ref (ad 3 k))]) hx hb dX6_mixedShaft_46 rfl hl (by decide) rfl (fun ls hl => ?_)
    refine lv_aload_n hx hb dX6_mixedShaft_47 rfl (lv_at hl 2 rfl) ?_
    refine g_Vi (As := []) (rest := []) F hP hS (k_X4_hasSpeed l A G w (ad 3 k) (iL (S 1 k)) (iL (S 2 k)) _ (iL (T 2 k)) (ad 4 k) hs) (cwV 0 hts gX6_mixedShaft_X4_hasSpeed rfl rfl rfl cd_X4_hasSpeed ⟨by rw [hR]; exact Nat.le_of_ble_eq_true rfl, by rw [hR]; exact Nat.le_of_ble_eq_true rfl⟩) hs rfl rfl rfl hl.1 (Nat.le_of_ble_eq_true rfl) dX6_mixedShaft_48 ⟨by rw [hR]; exact Nat.le_of_ble_eq_true rfl, by rw [hR]; exact Nat.le_of_ble_eq_true rfl⟩ rfl (fun r34 w35 H locs h36 hP hS => ?_)
    have hr34 := h36.1
    rw [h36.2] at hP
    rw [hr34]
    refine lv_if_eq (tgt := 78) hx hb dX6_mixedShaft_51 (by decide) (fun c37 => ?_) (fun c37 => ?_)
    · have t2 : (iL (T 2 k) ≠ -1) ↔ T 2 k ≠ -1 := by rw [show (-1 : Int32) = iL (-1) from rfl, ne_eq, iL_eq (by omega) (by omega) (by omega) (by omega)]
      have yc37 : ¬ (T 2 k ≠ -1) := by rw [← t2]; exact of_decide_eq_false (g_b0.mp c37)
      refine lv_lload_n hx hb dX6_mixedShaft_78 rfl (lv_at hl 0 rfl) ?_
      rw [hQ]
      refine g_lret F hP hS hlocks hr dX6_mixedShaft_79 (by first | exact Nat.le_of_ble_eq_true rfl | omega) (by first | exact Nat.le_of_ble_eq_true rfl | omega) ?_
      exact ⟨by unfold mxS; rw [if_neg yc37], rfl⟩
    · have t2 : (iL (T 2 k) ≠ -1) ↔ T 2 k ≠ -1 := by rw [show (-1 : Int32) = iL (-1) from rfl, ne_eq, iL_eq (by omega) (by omega) (by omega) (by omega)]
      have yc37 : T 2 k ≠ -1 := by rw [← t2]; exact of_decide_eq_true (g_b1.mp c37)
      refine lv_lload_n hx hb dX6_mixedShaft_54 rfl (lv_at hl 0 rfl) ?_
      refine lv_aload_n hx hb dX6_mixedShaft_55 rfl (lv_at hl 2 rfl) ?_
      refine g_get F hP (C := RX4) (T := TX4) (N := 5) iX4 hs rfl 4 (by decide) (List.mem_cons_of_mem _ (List.mem_append_left _ (List.mem_append_left _ (List.mem_of_getElem? (i := 4) rfl)))) (fun _ h9 => h9) rfl dX6_mixedShaft_56 ?_
      refine g_get F hP (C := RX0) (T := TX0) (N := 2) iX0 hf rfl 0 (by decide) (List.mem_cons_of_mem _ (List.mem_append_left _ (List.mem_append_left _ (List.mem_of_getElem? (i := 5) rfl)))) (fun _ h9 => h9) rfl dX6_mixedShaft_59 ?_
      refine g_Sl (As := [.long (mxL (mxL (mxL (mxL d (zL (S 1 k))) (zL (S 2 k))) (zL (S 3 k))) (zL (T 2 k))), .long (zL (T 0 k))]) (rest := []) F hP hS (k_X6_mixed l A G w (mxL (mxL (mxL (mxL d (zL (S 1 k))) (zL (S 2 k))) (zL (S 3 k))) (zL (T 2 k))) (zL (T 0 k))) (va_cwS 2 hts gX6_mixedShaft_X6_mixed rfl rfl rfl cd_X6_mixed ⟨by rw [hR]; exact Nat.le_of_ble_eq_true rfl, by rw [hR]; exact Nat.le_of_ble_eq_true rfl⟩) rfl hl.1 (Nat.le_of_ble_eq_true rfl) dX6_mixedShaft_62 ⟨by rw [hR]; exact Nat.le_of_ble_eq_true rfl, by rw [hR]; exact Nat.le_of_ble_eq_true rfl⟩ rfl (fun r38 w39 H locs h40 hP hS => ?_)
      have hr38 := h40.1
      rw [h40.2] at hP
      rw [hr38]
      refine lv_lstore_n (lv' := [(3, .long (mxL (mxL (mxL (mxL (mxL d (zL (S 1 k))) (zL (S 2 k))) (zL (S 3 k))) (zL (T 2 k))) (zL (T 0 k)))), (0, .long d), (2, .ref (ad 3 k))]) hx hb dX6_mixedShaft_65 rfl hl (by decide) rfl (fun ls hl => ?_)
      refine lv_lload_n hx hb dX6_mixedShaft_66 rfl (lv_at hl 0 rfl) ?_
      refine lv_aload_n hx hb dX6_mixedShaft_67 rfl (lv_at hl 2 rfl) ?_
      refine g_get F hP (C := RX4) (T := TX4) (N := 5) iX4 hs rfl 4 (by decide) (List.mem_cons_of_mem _ (List.mem_append_left _ (List.mem_append_left _ (List.mem_of_getElem? (i := 4) rfl)))) (fun _ h9 => h9) rfl dX6_mixedShaft_68 ?_
      refine g_get F hP (C := RX0) (T := TX0) (N := 2) iX0 hf rfl 1 (by decide) (List.mem_cons_of_mem _ (List.mem_append_left _ (List.mem_append_left _ (List.mem_of_getElem? (i := 6) rfl)))) (fun _ h9 => h9) rfl dX6_mixedShaft_71 ?_
      refine g_Sl (As := [.long (mxL (mxL (mxL (mxL (mxL d (zL (S 1 k))) (zL (S 2 k))) (zL (S 3 k))) (zL (T 2 k))) (zL (T 0 k))), .long (zL (T 1 k))]) (rest := []) F hP hS (k_X6_mixed l A G w (mxL (mxL (mxL (mxL (mxL d (zL (S 1 k))) (zL (S 2 k))) (zL (S 3 k))) (zL (T 2 k))) (zL (T 0 k))) (zL (T 1 k))) (va_cwS 2 hts gX6_mixedShaft_X6_mixed rfl rfl rfl cd_X6_mixed ⟨by rw [hR]; exact Nat.le_of_ble_eq_true rfl, by rw [hR]; exact Nat.le_of_ble_eq_true rfl⟩) rfl hl.1 (Nat.le_of_ble_eq_true rfl) dX6_mixedShaft_74 ⟨by rw [hR]; exact Nat.le_of_ble_eq_true rfl, by rw [hR]; exact Nat.le_of_ble_eq_true rfl⟩ rfl (fun r41 w42 H locs h43 hP hS => ?_)
      have hr41 := h43.1
      rw [h43.2] at hP
      rw [hr41]
      refine lv_lstore_n (lv' := [(3, .long (mxL (mxL (mxL (mxL (mxL (mxL d (zL (S 1 k))) (zL (S 2 k))) (zL (S 3 k))) (zL (T 2 k))) (zL (T 0 k))) (zL (T 1 k)))), (0, .long d), (2, .ref (ad 3 k))]) hx hb dX6_mixedShaft_77 rfl hl (by decide) rfl (fun ls hl => ?_)
      refine lv_lload_n hx hb dX6_mixedShaft_78 rfl (lv_at hl 0 rfl) ?_
      rw [hQ]
      refine g_lret F hP hS hlocks hr dX6_mixedShaft_79 (by first | exact Nat.le_of_ble_eq_true rfl | omega) (by first | exact Nat.le_of_ble_eq_true rfl | omega) ?_
      exact ⟨by unfold mxS; rw [if_pos yc37], rfl⟩
