theorem cd_X6_broken : yX6_broken.cls = RX6 ∧ yX6_broken.cls ≠ "java/lang/invoke/MethodHandle" ∧ yX6_broken.cls ≠ "java/lang/invoke/VarHandle" ∧ (parseMethodDescriptor yX6_broken.desc).map (fun d => d.parameters.length) = some 1 := by decide +kernel
theorem cd_X6_misfits : yX6_misfits.cls = RX6 ∧ yX6_misfits.cls ≠ "java/lang/invoke/MethodHandle" ∧ yX6_misfits.cls ≠ "java/lang/invoke/VarHandle" ∧ (parseMethodDescriptor yX6_misfits.desc).map (fun d => d.parameters.length) = some 0 := by decide +kernel
theorem cd_X6_mixedShaft : yX6_mixedShaft.cls ≠ "java/lang/invoke/MethodHandle" ∧ yX6_mixedShaft.cls ≠ "java/lang/invoke/VarHandle" ∧ (parseMethodDescriptor yX6_mixedShaft.desc).map (fun d => d.parameters.length) = some 2 := by decide +kernel
set_option maxHeartbeats 4000000 in
set_option maxRecDepth 100000 in
theorem k_X6_digest (l : Launch) (A : Nat → Prop) (G : g_C) (w : g_W) (ad : Nat → Nat → Nat) (Cn : Nat → Nat → Option va_E) (S T : Sg) (Hh : holds w ad Cn) (Hr : rep G S T ad Cn) (Hi : invS S) (Ht : invT S T) : mL l yX6_digest wsX6_digest ({ frames := 5, cells := 0, slots := 0, locals := 146 } : Room) [.ref (ad 0 0)] A G w (fun r w' => r = vlDigest S T ∧ ∃ Cn', upto ad Cn w w' Cn' ∧ rep G S T ad Cn') 0 0 := by
  refine g_ofL (cc := cX6_digest) (maxL := 4) (ret := (some .long)) (own := RX6) (by decide) rfl rfl (Nat.le_of_ble_eq_true rfl) ?_
  intro p e R s m args below meth c Q ls hR F hP hS hlocks hr hnm0 hQ hl
  obtain ⟨⟨hx, hb, hml, hown, hts⟩, hK, hZ, hA⟩ := id F
  generalize hH0 : s.heap = H at hP ⊢
  have hS : va_S A s.heap H [] := by rw [← hH0]; exact va_S.rf
  generalize ([] : List Loc) = locs at hS ⊢
  have hl : lv_has ls 4 [(0, .ref (ad 0 0))] := hl
  have iX6 : ∀ w ∈ u_ws RX6 TX6 6, w ∈ wsX6_digest := fun w h => List.mem_cons_of_mem _ (List.mem_append_left _ (List.mem_append_left _ (List.mem_append_left _ (List.mem_append_left _ (List.mem_append_left _ (List.mem_append_left _ (List.mem_append_left _ (List.mem_append_left _ (List.mem_append_right _ (h))))))))))
  have hx0 := rep_x Hh Hr
  obtain ⟨m0, a0, hz0⟩ := rep_size Hh Hr 0 (by decide)
  obtain ⟨m1, a1, hz1⟩ := rep_size Hh Hr 1 (by decide)
  obtain ⟨m2, a2, hz2⟩ := rep_size Hh Hr 2 (by decide)
  obtain ⟨m3, a3, hz3⟩ := rep_size Hh Hr 3 (by decide)
  have hi := Hi.1
  refine lv_ldc2 (v := 263) hx hb hown (hts _ (List.mem_cons_of_mem _ (List.mem_append_left _ (List.mem_append_left _ (List.mem_append_left _ (List.mem_append_left _ (List.mem_append_left _ (List.mem_append_left _ (List.mem_append_left _ (List.mem_append_left _ (List.mem_append_left _ (List.mem_append_left _ (List.mem_of_getElem? (i := 0) rfl))))))))))))) dX6_digest_0 ?_
  refine lv_aload_n hx hb dX6_digest_3 rfl (lv_at hl 0 rfl) ?_
  refine g_get F hP (C := RX6) (T := TX6) (N := 6) iX6 hx0 rfl 0 (by decide) (List.mem_cons_of_mem _ (List.mem_append_left _ (List.mem_append_left _ (List.mem_append_left _ (List.mem_append_left _ (List.mem_append_left _ (List.mem_append_left _ (List.mem_append_left _ (List.mem_append_left _ (List.mem_append_left _ (List.mem_append_left _ (List.mem_of_getElem? (i := 1) rfl)))))))))))) (fun _ h9 => h9) rfl dX6_digest_4 ?_
  refine g_Vi (As := []) (rest := [.long 263]) F hP hS (k_size l A G w (ad 1 0) a0 m0 (iL (S 0 0)) hz0) (cwV 0 hts gX6_digest_Jx4a65c_size_8abf5 rfl rfl rfl cd_Jx4a65c_size_8abf5 ⟨by rw [hR]; exact Nat.le_of_ble_eq_true rfl, by rw [hR]; exact Nat.le_of_ble_eq_true rfl⟩) hz0 rfl rfl rfl hl.1 (Nat.le_of_ble_eq_true rfl) dX6_digest_7 ⟨by rw [hR]; exact Nat.le_of_ble_eq_true rfl, by rw [hR]; exact Nat.le_of_ble_eq_true rfl⟩ rfl (fun r1 w2 H locs h3 hP hS => ?_)
  have hr1 := h3.1
  rw [h3.2] at hP
  rw [hr1]
  refine lv_i2l hx hb dX6_digest_10 rfl ?_
  refine lv_topl (fun v4 ev4 => ?_)
  obtain rfl : v4 = zL (S 0 0) := by
    rw [ev4]
    exact iL64 (by omega) (by omega)
  refine g_Sl (As := [.long 263, .long (zL (S 0 0))]) (rest := []) F hP hS (k_X6_mixed l A G w 263 (zL (S 0 0))) (va_cwS 2 hts gX6_digest_X6_mixed rfl rfl rfl cd_X6_mixed ⟨by rw [hR]; exact Nat.le_of_ble_eq_true rfl, by rw [hR]; exact Nat.le_of_ble_eq_true rfl⟩) rfl hl.1 (Nat.le_of_ble_eq_true rfl) dX6_digest_11 ⟨by rw [hR]; exact Nat.le_of_ble_eq_true rfl, by rw [hR]; exact Nat.le_of_ble_eq_true rfl⟩ rfl (fun r5 w6 H locs h7 hP hS => ?_)
  have hr5 := h7.1
  rw [h7.2] at hP
  rw [hr5]
  refine lv_lstore_n (lv' := [(1, .long (mxL 263 (zL (S 0 0)))), (0, .ref (ad 0 0))]) hx hb dX6_digest_14 rfl hl (by decide) rfl (fun ls hl => ?_)
  refine lv_iconst (v := 0) hx hb dX6_digest_15 (by decide) ?_
  refine lv_istore_n (lv' := [(3, .int 0), (1, .long (dgL S T 0)), (0, .ref (ad 0 0))]) hx hb dX6_digest_16 rfl hl (by decide) rfl (fun ls hl => ?_)
  have L17 : ∀ (n : Nat) (k : Nat) (H : Heap) (locs : List Loc) (ls : Array Slot), (S 0 0).toNat + 1 ≤ k + n → ((k : Int) ≤ S 0 0) → g_P A G w H → va_S A s.heap H locs → lv_has ls 4 [(3, .int (nI k)), (1, .long (dgL S T k)), (0, .ref (ad 0 0))] → W p l e R s m args below meth c H locs (0) (0) Q (F0 m 17 ls []) := by
    intro n
    induction n with
    | zero =>
      intro k H locs ls hfu hkN hP hS hl
      exact absurd hfu (by omega)
    | succ n ih_L17 =>
      intro k H locs ls hfu hkN hP hS hl
      refine lv_iload_n hx hb dX6_digest_17 rfl (lv_at hl 0 rfl) ?_
      refine lv_aload_n hx hb dX6_digest_18 rfl (lv_at hl 2 rfl) ?_
      refine g_get F hP (C := RX6) (T := TX6) (N := 6) iX6 hx0 rfl 0 (by decide) (List.mem_cons_of_mem _ (List.mem_append_left _ (List.mem_append_left _ (List.mem_append_left _ (List.mem_append_left _ (List.mem_append_left _ (List.mem_append_left _ (List.mem_append_left _ (List.mem_append_left _ (List.mem_append_left _ (List.mem_append_left _ (List.mem_of_getElem? (i := 1) rfl)))))))))))) (fun _ h9 => h9) rfl dX6_digest_19 ?_
      refine g_Vi (As := []) (rest := [.int (nI k)]) F hP hS (k_size l A G w (ad 1 0) a0 m0 (iL (S 0 0)) hz0) (cwV 0 hts gX6_digest_Jx4a65c_size_8abf5 rfl rfl rfl cd_Jx4a65c_size_8abf5 ⟨by rw [hR]; exact Nat.le_of_ble_eq_true rfl, by rw [hR]; exact Nat.le_of_ble_eq_true rfl⟩) hz0 rfl rfl rfl hl.1 (Nat.le_of_ble_eq_true rfl) dX6_digest_22 ⟨by rw [hR]; exact Nat.le_of_ble_eq_true rfl, by rw [hR]; exact Nat.le_of_ble_eq_true rfl⟩ rfl (fun r8 w9 H locs h10 hP hS => ?_)
      have hr8 := h10.1
      rw [h10.2] at hP
      rw [hr8]
      refine lv_icmp_ge (tgt := 50) hx hb dX6_digest_25 (by decide) (fun c11 => ?_) (fun c11 => ?_)
      · have zc11 : S 0 0 ≤ k := (iL_nle (by omega) (by omega) (by omega)).mp c11
        have ek9 : k = (S 0 0).toNat := by omega
        rw [ek9] at hl
        refine lv_lload_n hx hb dX6_digest_50 rfl (lv_at hl 1 rfl) ?_
        refine lv_aload_n hx hb dX6_digest_51 rfl (lv_at hl 2 rfl) ?_
        refine g_get F hP (C := RX6) (T := TX6) (N := 6) iX6 hx0 rfl 4 (by decide) (List.mem_cons_of_mem _ (List.mem_append_left _ (List.mem_append_left _ (List.mem_append_left _ (List.mem_append_left _ (List.mem_append_left _ (List.mem_append_left _ (List.mem_append_left _ (List.mem_append_left _ (List.mem_append_left _ (List.mem_append_left _ (List.mem_of_getElem? (i := 3) rfl)))))))))))) (fun _ h9 => h9) rfl dX6_digest_52 ?_
        refine lv_i2l hx hb dX6_digest_55 rfl ?_
        refine lv_topl (fun v12 ev12 => ?_)
        obtain rfl : v12 = zL (S 0 4) := by
          rw [ev12]
          exact iL64 (by omega) (by omega)
        refine g_Sl (As := [.long (dgL S T (S 0 0).toNat), .long (zL (S 0 4))]) (rest := []) F hP hS (k_X6_mixed l A G w (dgL S T (S 0 0).toNat) (zL (S 0 4))) (va_cwS 2 hts gX6_digest_X6_mixed rfl rfl rfl cd_X6_mixed ⟨by rw [hR]; exact Nat.le_of_ble_eq_true rfl, by rw [hR]; exact Nat.le_of_ble_eq_true rfl⟩) rfl hl.1 (Nat.le_of_ble_eq_true rfl) dX6_digest_56 ⟨by rw [hR]; exact Nat.le_of_ble_eq_true rfl, by rw [hR]; exact Nat.le_of_ble_eq_true rfl⟩ rfl (fun r13 w14 H locs h15 hP hS => ?_)
        have hr13 := h15.1
        rw [h15.2] at hP
        rw [hr13]
        refine lv_lstore_n (lv' := [(1, .long (mxL (dgL S T (S 0 0).toNat) (zL (S 0 4)))), (3, .int (nI (S 0 0).toNat)), (0, .ref (ad 0 0))]) hx hb dX6_digest_59 rfl hl (by decide) rfl (fun ls hl => ?_)
        refine lv_lload_n hx hb dX6_digest_60 rfl (lv_at hl 0 rfl) ?_
        refine lv_aload_n hx hb dX6_digest_61 rfl (lv_at hl 2 rfl) ?_
        refine g_get F hP (C := RX6) (T := TX6) (N := 6) iX6 hx0 rfl 1 (by decide) (List.mem_cons_of_mem _ (List.mem_append_left _ (List.mem_append_left _ (List.mem_append_left _ (List.mem_append_left _ (List.mem_append_left _ (List.mem_append_left _ (List.mem_append_left _ (List.mem_append_left _ (List.mem_append_left _ (List.mem_append_left _ (List.mem_of_getElem? (i := 4) rfl)))))))))))) (fun _ h9 => h9) rfl dX6_digest_62 ?_
        refine g_Vi (As := []) (rest := [.long (mxL (dgL S T (S 0 0).toNat) (zL (S 0 4)))]) F hP hS (k_size l A G w (ad 1 1) a1 m1 (iL (S 0 1)) hz1) (cwV 0 hts gX6_digest_Jx4a65c_size_8abf5 rfl rfl rfl cd_Jx4a65c_size_8abf5 ⟨by rw [hR]; exact Nat.le_of_ble_eq_true rfl, by rw [hR]; exact Nat.le_of_ble_eq_true rfl⟩) hz1 rfl rfl rfl hl.1 (Nat.le_of_ble_eq_true rfl) dX6_digest_65 ⟨by rw [hR]; exact Nat.le_of_ble_eq_true rfl, by rw [hR]; exact Nat.le_of_ble_eq_true rfl⟩ rfl (fun r16 w17 H locs h18 hP hS => ?_)
        have hr16 := h18.1
        rw [h18.2] at hP
        rw [hr16]
        refine lv_i2l hx hb dX6_digest_68 rfl ?_
        refine lv_topl (fun v19 ev19 => ?_)
        obtain rfl : v19 = zL (S 0 1) := by
          rw [ev19]
          exact iL64 (by omega) (by omega)
        refine g_Sl (As := [.long (mxL (dgL S T (S 0 0).toNat) (zL (S 0 4))), .long (zL (S 0 1))]) (rest := []) F hP hS (k_X6_mixed l A G w (mxL (dgL S T (S 0 0).toNat) (zL (S 0 4))) (zL (S 0 1))) (va_cwS 2 hts gX6_digest_X6_mixed rfl rfl rfl cd_X6_mixed ⟨by rw [hR]; exact Nat.le_of_ble_eq_true rfl, by rw [hR]; exact Nat.le_of_ble_eq_true rfl⟩) rfl hl.1 (Nat.le_of_ble_eq_true rfl) dX6_digest_69 ⟨by rw [hR]; exact Nat.le_of_ble_eq_true rfl, by rw [hR]; exact Nat.le_of_ble_eq_true rfl⟩ rfl (fun r20 w21 H locs h22 hP hS => ?_)
        have hr20 := h22.1
        rw [h22.2] at hP
        rw [hr20]
        refine lv_lstore_n (lv' := [(1, .long (mxL (mxL (dgL S T (S 0 0).toNat) (zL (S 0 4))) (zL (S 0 1)))), (3, .int (nI (S 0 0).toNat)), (0, .ref (ad 0 0))]) hx hb dX6_digest_72 rfl hl (by decide) rfl (fun ls hl => ?_)
        refine lv_lload_n hx hb dX6_digest_73 rfl (lv_at hl 0 rfl) ?_
        refine lv_aload_n hx hb dX6_digest_74 rfl (lv_at hl 2 rfl) ?_
        refine g_get F hP (C := RX6) (T := TX6) (N := 6) iX6 hx0 rfl 2 (by decide) (List.mem_cons_of_mem _ (List.mem_append_left _ (List.mem_append_left _ (List.mem_append_left _ (List.mem_append_left _ (List.mem_append_left _ (List.mem_append_left _ (List.mem_append_left _ (List.mem_append_left _ (List.mem_append_left _ (List.mem_append_left _ (List.mem_of_getElem? (i := 5) rfl)))))))))))) (fun _ h9 => h9) rfl dX6_digest_75 ?_
        refine g_Vi (As := []) (rest := [.long (mxL (mxL (dgL S T (S 0 0).toNat) (zL (S 0 4))) (zL (S 0 1)))]) F hP hS (k_size l A G w (ad 1 2) a2 m2 (iL (S 0 2)) hz2) (cwV 0 hts gX6_digest_Jx4a65c_size_8abf5 rfl rfl rfl cd_Jx4a65c_size_8abf5 ⟨by rw [hR]; exact Nat.le_of_ble_eq_true rfl, by rw [hR]; exact Nat.le_of_ble_eq_true rfl⟩) hz2 rfl rfl rfl hl.1 (Nat.le_of_ble_eq_true rfl) dX6_digest_78 ⟨by rw [hR]; exact Nat.le_of_ble_eq_true rfl, by rw [hR]; exact Nat.le_of_ble_eq_true rfl⟩ rfl (fun r23 w24 H locs h25 hP hS => ?_)
        have hr23 := h25.1
        rw [h25.2] at hP
        rw [hr23]
        refine lv_i2l hx hb dX6_digest_81 rfl ?_
        refine lv_topl (fun v26 ev26 => ?_)
        obtain rfl : v26 = zL (S 0 2) := by
          rw [ev26]
          exact iL64 (by omega) (by omega)
        refine g_Sl (As := [.long (mxL (mxL (dgL S T (S 0 0).toNat) (zL (S 0 4))) (zL (S 0 1))), .long (zL (S 0 2))]) (rest := []) F hP hS (k_X6_mixed l A G w (mxL (mxL (dgL S T (S 0 0).toNat) (zL (S 0 4))) (zL (S 0 1))) (zL (S 0 2))) (va_cwS 2 hts gX6_digest_X6_mixed rfl rfl rfl cd_X6_mixed ⟨by rw [hR]; exact Nat.le_of_ble_eq_true rfl, by rw [hR]; exact Nat.le_of_ble_eq_true rfl⟩) rfl hl.1 (Nat.le_of_ble_eq_true rfl) dX6_digest_82 ⟨by rw [hR]; exact Nat.le_of_ble_eq_true rfl, by rw [hR]; exact Nat.le_of_ble_eq_true rfl⟩ rfl (fun r27 w28 H locs h29 hP hS => ?_)
        have hr27 := h29.1
        rw [h29.2] at hP
        rw [hr27]
        refine lv_lstore_n (lv' := [(1, .long (mxL (mxL (mxL (dgL S T (S 0 0).toNat) (zL (S 0 4))) (zL (S 0 1))) (zL (S 0 2)))), (3, .int (nI (S 0 0).toNat)), (0, .ref (ad 0 0))]) hx hb dX6_digest_85 rfl hl (by decide) rfl (fun ls hl => ?_)
        refine lv_lload_n hx hb dX6_digest_86 rfl (lv_at hl 0 rfl) ?_
        refine lv_aload_n hx hb dX6_digest_87 rfl (lv_at hl 2 rfl) ?_
        refine g_get F hP (C := RX6) (T := TX6) (N := 6) iX6 hx0 rfl 3 (by decide) (List.mem_cons_of_mem _ (List.mem_append_left _ (List.mem_append_left _ (List.mem_append_left _ (List.mem_append_left _ (List.mem_append_left _ (List.mem_append_left _ (List.mem_append_left _ (List.mem_append_left _ (List.mem_append_left _ (List.mem_append_left _ (List.mem_of_getElem? (i := 6) rfl)))))))))))) (fun _ h9 => h9) rfl dX6_digest_88 ?_
        refine g_Vi (As := []) (rest := [.long (mxL (mxL (mxL (dgL S T (S 0 0).toNat) (zL (S 0 4))) (zL (S 0 1))) (zL (S 0 2)))]) F hP hS (k_size l A G w (ad 1 3) a3 m3 (iL (S 0 3)) hz3) (cwV 0 hts gX6_digest_Jx4a65c_size_8abf5 rfl rfl rfl cd_Jx4a65c_size_8abf5 ⟨by rw [hR]; exact Nat.le_of_ble_eq_true rfl, by rw [hR]; exact Nat.le_of_ble_eq_true rfl⟩) hz3 rfl rfl rfl hl.1 (Nat.le_of_ble_eq_true rfl) dX6_digest_91 ⟨by rw [hR]; exact Nat.le_of_ble_eq_true rfl, by rw [hR]; exact Nat.le_of_ble_eq_true rfl⟩ rfl (fun r30 w31 H locs h32 hP hS => ?_)
        have hr30 := h32.1
        rw [h32.2] at hP
        rw [hr30]
        refine lv_i2l hx hb dX6_digest_94 rfl ?_
        refine lv_topl (fun v33 ev33 => ?_)
        obtain rfl : v33 = zL (S 0 3) := by
          rw [ev33]
          exact iL64 (by omega) (by omega)
        refine g_Sl (As := [.long (mxL (mxL (mxL (dgL S T (S 0 0).toNat) (zL (S 0 4))) (zL (S 0 1))) (zL (S 0 2))), .long (zL (S 0 3))]) (rest := []) F hP hS (k_X6_mixed l A G w (mxL (mxL (mxL (dgL S T (S 0 0).toNat) (zL (S 0 4))) (zL (S 0 1))) (zL (S 0 2))) (zL (S 0 3))) (va_cwS 2 hts gX6_digest_X6_mixed rfl rfl rfl cd_X6_mixed ⟨by rw [hR]; exact Nat.le_of_ble_eq_true rfl, by rw [hR]; exact Nat.le_of_ble_eq_true rfl⟩) rfl hl.1 (Nat.le_of_ble_eq_true rfl) dX6_digest_95 ⟨by rw [hR]; exact Nat.le_of_ble_eq_true rfl, by rw [hR]; exact Nat.le_of_ble_eq_true rfl⟩ rfl (fun r34 w35 H locs h36 hP hS => ?_)
        have hr34 := h36.1
        rw [h36.2] at hP
        rw [hr34]
        refine lv_lstore_n (lv' := [(1, .long (mxL (mxL (mxL (mxL (dgL S T (S 0 0).toNat) (zL (S 0 4))) (zL (S 0 1))) (zL (S 0 2))) (zL (S 0 3)))), (3, .int (nI (S 0 0).toNat)), (0, .ref (ad 0 0))]) hx hb dX6_digest_98 rfl hl (by decide) rfl (fun ls hl => ?_)
        refine lv_lload_n hx hb dX6_digest_99 rfl (lv_at hl 0 rfl) ?_
        refine lv_aload_n hx hb dX6_digest_100 rfl (lv_at hl 2 rfl) ?_
        refine lv_iconst (v := 0) hx hb dX6_digest_101 (by decide) ?_
        rw [show (.int 0 : Value) = .int (g_b false) from rfl]
        refine g_Vi (As := [.int (g_b false)]) (rest := [.long (mxL (mxL (mxL (mxL (dgL S T (S 0 0).toNat) (zL (S 0 4))) (zL (S 0 1))) (zL (S 0 2))) (zL (S 0 3)))]) F hP hS (k_X6_broken l A G w ad _ S T false Hh Hr Hi Ht) (cwV 1 hts gX6_digest_X6_broken rfl rfl rfl cd_X6_broken ⟨by rw [hR]; exact Nat.le_of_ble_eq_true rfl, by rw [hR]; exact Nat.le_of_ble_eq_true rfl⟩) hx0 rfl rfl rfl hl.1 (Nat.le_of_ble_eq_true rfl) dX6_digest_102 ⟨by rw [hR]; exact Nat.le_of_ble_eq_true rfl, by rw [hR]; exact Nat.le_of_ble_eq_true rfl⟩ rfl (fun r37 w38 H locs h39 hP hS => ?_)
        obtain ⟨er0, C0, u0, R0⟩ := h39
        rw [er0]
        have Hh := u0.1
        have Hr := R0
        have hx0 := rep_x Hh Hr
        obtain ⟨m2, a2, hz2⟩ := rep_size Hh Hr 2 (by decide)
        refine lv_i2l hx hb dX6_digest_105 rfl ?_
        refine lv_topl (fun v40 ev40 => ?_)
        obtain rfl : v40 = (vlBroken S T false).toInt64 := by
          exact ev40
        refine g_Sl (As := [.long (mxL (mxL (mxL (mxL (dgL S T (S 0 0).toNat) (zL (S 0 4))) (zL (S 0 1))) (zL (S 0 2))) (zL (S 0 3))), .long ((vlBroken S T false).toInt64)]) (rest := []) F hP hS (k_X6_mixed l A G w38 (mxL (mxL (mxL (mxL (dgL S T (S 0 0).toNat) (zL (S 0 4))) (zL (S 0 1))) (zL (S 0 2))) (zL (S 0 3))) ((vlBroken S T false).toInt64)) (va_cwS 2 hts gX6_digest_X6_mixed rfl rfl rfl cd_X6_mixed ⟨by rw [hR]; exact Nat.le_of_ble_eq_true rfl, by rw [hR]; exact Nat.le_of_ble_eq_true rfl⟩) rfl hl.1 (Nat.le_of_ble_eq_true rfl) dX6_digest_106 ⟨by rw [hR]; exact Nat.le_of_ble_eq_true rfl, by rw [hR]; exact Nat.le_of_ble_eq_true rfl⟩ rfl (fun r41 w42 H locs h43 hP hS => ?_)
        have hr41 := h43.1
        rw [h43.2] at hP
        rw [hr41]
        refine lv_lstore_n (lv' := [(1, .long (mxL (mxL (mxL (mxL (mxL (dgL S T (S 0 0).toNat) (zL (S 0 4))) (zL (S 0 1))) (zL (S 0 2))) (zL (S 0 3))) ((vlBroken S T false).toInt64))), (3, .int (nI (S 0 0).toNat)), (0, .ref (ad 0 0))]) hx hb dX6_digest_109 rfl hl (by decide) rfl (fun ls hl => ?_)
        refine lv_lload_n hx hb dX6_digest_110 rfl (lv_at hl 0 rfl) ?_
        refine lv_aload_n hx hb dX6_digest_111 rfl (lv_at hl 2 rfl) ?_
        refine lv_iconst (v := 1) hx hb dX6_digest_112 (by decide) ?_
        rw [show (.int 1 : Value) = .int (g_b true) from rfl]
        refine g_Vi (As := [.int (g_b true)]) (rest := [.long (mxL (mxL (mxL (mxL (mxL (dgL S T (S 0 0).toNat) (zL (S 0 4))) (zL (S 0 1))) (zL (S 0 2))) (zL (S 0 3))) ((vlBroken S T false).toInt64))]) F hP hS (k_X6_broken l A G w38 ad _ S T true Hh Hr Hi Ht) (cwV 1 hts gX6_digest_X6_broken rfl rfl rfl cd_X6_broken ⟨by rw [hR]; exact Nat.le_of_ble_eq_true rfl, by rw [hR]; exact Nat.le_of_ble_eq_true rfl⟩) hx0 rfl rfl rfl hl.1 (Nat.le_of_ble_eq_true rfl) dX6_digest_113 ⟨by rw [hR]; exact Nat.le_of_ble_eq_true rfl, by rw [hR]; exact Nat.le_of_ble_eq_true rfl⟩ rfl (fun r44 w45 H locs h46 hP hS => ?_)
        obtain ⟨er1, C1, u1, R1⟩ := h46
        rw [er1]
        have Hh := u1.1
        have Hr := R1
        have hx0 := rep_x Hh Hr
        obtain ⟨m2, a2, hz2⟩ := rep_size Hh Hr 2 (by decide)
        refine lv_i2l hx hb dX6_digest_116 rfl ?_
        refine lv_topl (fun v47 ev47 => ?_)
        obtain rfl : v47 = (vlBroken S T true).toInt64 := by
          exact ev47
        refine g_Sl (As := [.long (mxL (mxL (mxL (mxL (mxL (dgL S T (S 0 0).toNat) (zL (S 0 4))) (zL (S 0 1))) (zL (S 0 2))) (zL (S 0 3))) ((vlBroken S T false).toInt64)), .long ((vlBroken S T true).toInt64)]) (rest := []) F hP hS (k_X6_mixed l A G w45 (mxL (mxL (mxL (mxL (mxL (dgL S T (S 0 0).toNat) (zL (S 0 4))) (zL (S 0 1))) (zL (S 0 2))) (zL (S 0 3))) ((vlBroken S T false).toInt64)) ((vlBroken S T true).toInt64)) (va_cwS 2 hts gX6_digest_X6_mixed rfl rfl rfl cd_X6_mixed ⟨by rw [hR]; exact Nat.le_of_ble_eq_true rfl, by rw [hR]; exact Nat.le_of_ble_eq_true rfl⟩) rfl hl.1 (Nat.le_of_ble_eq_true rfl) dX6_digest_117 ⟨by rw [hR]; exact Nat.le_of_ble_eq_true rfl, by rw [hR]; exact Nat.le_of_ble_eq_true rfl⟩ rfl (fun r48 w49 H locs h50 hP hS => ?_)
        have hr48 := h50.1
        rw [h50.2] at hP
        rw [hr48]
        refine lv_lstore_n (lv' := [(1, .long (mxL (mxL (mxL (mxL (mxL (mxL (dgL S T (S 0 0).toNat) (zL (S 0 4))) (zL (S 0 1))) (zL (S 0 2))) (zL (S 0 3))) ((vlBroken S T false).toInt64)) ((vlBroken S T true).toInt64))), (3, .int (nI (S 0 0).toNat)), (0, .ref (ad 0 0))]) hx hb dX6_digest_120 rfl hl (by decide) rfl (fun ls hl => ?_)
        refine lv_lload_n hx hb dX6_digest_121 rfl (lv_at hl 0 rfl) ?_
        refine lv_aload_n hx hb dX6_digest_122 rfl (lv_at hl 2 rfl) ?_
        refine g_Vi (As := []) (rest := [.long (mxL (mxL (mxL (mxL (mxL (mxL (dgL S T (S 0 0).toNat) (zL (S 0 4))) (zL (S 0 1))) (zL (S 0 2))) (zL (S 0 3))) ((vlBroken S T false).toInt64)) ((vlBroken S T true).toInt64))]) F hP hS (k_X6_misfits l A G w45 ad _ S T Hh Hr Hi) (cwV 0 hts gX6_digest_X6_misfits rfl rfl rfl cd_X6_misfits ⟨by rw [hR]; exact Nat.le_of_ble_eq_true rfl, by rw [hR]; exact Nat.le_of_ble_eq_true rfl⟩) hx0 rfl rfl rfl hl.1 (Nat.le_of_ble_eq_true rfl) dX6_digest_123 ⟨by rw [hR]; exact Nat.le_of_ble_eq_true rfl, by rw [hR]; exact Nat.le_of_ble_eq_true rfl⟩ rfl (fun r51 w52 H locs h53 hP hS => ?_)
        have hr51 := h53.1
        rw [h53.2] at hP
        rw [hr51]
        refine lv_i2l hx hb dX6_digest_126 rfl ?_
        refine lv_topl (fun v54 ev54 => ?_)
        obtain rfl : v54 = (vlMisfits S).toInt64 := by
          exact ev54
        refine g_Sl (As := [.long (mxL (mxL (mxL (mxL (mxL (mxL (dgL S T (S 0 0).toNat) (zL (S 0 4))) (zL (S 0 1))) (zL (S 0 2))) (zL (S 0 3))) ((vlBroken S T false).toInt64)) ((vlBroken S T true).toInt64)), .long ((vlMisfits S).toInt64)]) (rest := []) F hP hS (k_X6_mixed l A G w45 (mxL (mxL (mxL (mxL (mxL (mxL (dgL S T (S 0 0).toNat) (zL (S 0 4))) (zL (S 0 1))) (zL (S 0 2))) (zL (S 0 3))) ((vlBroken S T false).toInt64)) ((vlBroken S T true).toInt64)) ((vlMisfits S).toInt64)) (va_cwS 2 hts gX6_digest_X6_mixed rfl rfl rfl cd_X6_mixed ⟨by rw [hR]; exact Nat.le_of_ble_eq_true rfl, by rw [hR]; exact Nat.le_of_ble_eq_true rfl⟩) rfl hl.1 (Nat.le_of_ble_eq_true rfl) dX6_digest_127 ⟨by rw [hR]; exact Nat.le_of_ble_eq_true rfl, by rw [hR]; exact Nat.le_of_ble_eq_true rfl⟩ rfl (fun r55 w56 H locs h57 hP hS => ?_)
        have hr55 := h57.1
        rw [h57.2] at hP
        rw [hr55]
        rw [hQ]
        refine g_lret F hP hS hlocks hr dX6_digest_130 (by first | exact Nat.le_of_ble_eq_true rfl | omega) (by first | exact Nat.le_of_ble_eq_true rfl | omega) ?_
        exact ⟨rfl, C1, upto_tr u0 u1, R1⟩
      · have hk : (k : Int) < S 0 0 := Int.not_le.mp (fun q => c11 ((iL_nle (z := S 0 0) (k := k) (by omega) (by omega) (by omega)).mpr q))
        refine lv_lload_n hx hb dX6_digest_28 rfl (lv_at hl 1 rfl) ?_
        refine lv_aload_n hx hb dX6_digest_29 rfl (lv_at hl 2 rfl) ?_
        refine g_get F hP (C := RX6) (T := TX6) (N := 6) iX6 hx0 rfl 0 (by decide) (List.mem_cons_of_mem _ (List.mem_append_left _ (List.mem_append_left _ (List.mem_append_left _ (List.mem_append_left _ (List.mem_append_left _ (List.mem_append_left _ (List.mem_append_left _ (List.mem_append_left _ (List.mem_append_left _ (List.mem_append_left _ (List.mem_of_getElem? (i := 1) rfl)))))))))))) (fun _ h9 => h9) rfl dX6_digest_30 ?_
        refine lv_iload_n hx hb dX6_digest_33 rfl (lv_at hl 0 rfl) ?_
        obtain ⟨gm58, gc58, gf58, ga58, gb58, gk58, gn58, gd58, ge58⟩ := rep_get Hh Hr 0 (by decide) hk
        refine g_Vq (As := [.int (nI k)]) (rest := [.long (dgL S T k)]) F hP hS (k_get l A G w (ad 1 0) (ad 2 0) (S 0 0).toNat gc58 gm58 gf58 k ga58 gb58 gk58 gn58 gd58) (cwV 1 hts gX6_digest_Jx4a65c_get_915e3 rfl rfl rfl cd_Jx4a65c_get_915e3 ⟨by rw [hR]; exact Nat.le_of_ble_eq_true rfl, by rw [hR]; exact Nat.le_of_ble_eq_true rfl⟩) ga58 rfl rfl rfl hl.1 (Nat.le_of_ble_eq_true rfl) dX6_digest_34 ⟨by rw [hR]; exact Nat.le_of_ble_eq_true rfl, by rw [hR]; exact Nat.le_of_ble_eq_true rfl⟩ rfl (fun r59 w60 H locs h61 hP hS => ?_)
        have hr59 := h61.1
        rw [h61.2] at hP
        have f62 := rep_sh Hh Hr hk
        have f63 := rep_fr Hh Hr hk
        rw [hr59, ge58, show va_rf (some (ad (elk 0) k)) = .ref (ad 3 k) from rfl]
        refine g_cast F hP (C := RX4) (T := TX4) (N := 5) f62 rfl (List.mem_cons_of_mem _ (List.mem_append_left _ (List.mem_append_left _ (List.mem_append_left _ (List.mem_append_left _ (List.mem_append_left _ (List.mem_append_left _ (List.mem_append_left _ (List.mem_append_left _ (List.mem_append_left _ (List.mem_append_left _ (List.mem_of_getElem? (i := 2) rfl)))))))))))) dX6_digest_37 ?_
        refine g_Sl (As := [.long (dgL S T k), .ref (ad 3 k)]) (rest := []) F hP hS (k_X6_mixedShaft l A G w ad Cn S T (dgL S T k) k Hh Hr Hi Ht hk) (va_cwS 2 hts gX6_digest_X6_mixedShaft rfl rfl rfl cd_X6_mixedShaft ⟨by rw [hR]; exact Nat.le_of_ble_eq_true rfl, by rw [hR]; exact Nat.le_of_ble_eq_true rfl⟩) rfl hl.1 (Nat.le_of_ble_eq_true rfl) dX6_digest_40 ⟨by rw [hR]; exact Nat.le_of_ble_eq_true rfl, by rw [hR]; exact Nat.le_of_ble_eq_true rfl⟩ rfl (fun r64 w65 H locs h66 hP hS => ?_)
        have hr64 := h66.1
        rw [h66.2] at hP
        rw [hr64]
        refine lv_lstore_n (lv' := [(1, .long (dgL S T (k + 1))), (3, .int (nI k)), (0, .ref (ad 0 0))]) hx hb dX6_digest_43 rfl hl (by decide) rfl (fun ls hl => ?_)
        obtain ⟨i67, ei67⟩ : ∃ y : Int32, y = nI k + (1) := ⟨_, rfl⟩
        refine lv_iinc (v := i67) (lv' := [(3, .int i67), (1, .long (dgL S T (k + 1))), (0, .ref (ad 0 0))]) hx hb dX6_digest_44 hl (k := 1) rfl (by rw [ei67]; rfl) (by decide) rfl (fun ls hl => ?_)
        obtain rfl : i67 = nI (k + 1) := by
          rw [ei67]
          exact nI_1 k
        refine lv_goto (tgt := 17) hx hb dX6_digest_47 (by decide) ?_
        exact ih_L17 (k + 1)  H locs ls (by omega) (by omega) hP hS (lv_sub hl [0, 1, 2] rfl)
  exact L17 ((S 0 0).toNat + 1) 0  H locs ls (by omega) (by omega) hP hS (lv_sub hl [0, 1, 2] rfl)
