theorem cd_X0_isSameAs : yX0_isSameAs.cls = RX0 ∧ yX0_isSameAs.cls ≠ "java/lang/invoke/MethodHandle" ∧ yX0_isSameAs.cls ≠ "java/lang/invoke/VarHandle" ∧ (parseMethodDescriptor yX0_isSameAs.desc).map (fun d => d.parameters.length) = some 1 := by decide +kernel
set_option maxHeartbeats 4000000 in
set_option maxRecDepth 100000 in
theorem k_X5_isBroken (l : Launch) (A : Nat → Prop) (G : g_C) (w : g_W) (t ars arw fr N : Nat) (sa sf : Nat → Nat) (wt : Nat → Int) (X Y HD ST : Nat → Int32) (nu de : Nat → Int) (ab : Bool) (T : tieW G w t ars arw fr N sa sf wt X Y HD ST nu de (g_b ab)) (hN : N ≤ 3) (hwt : ∀ k, k < N → (wt k).natAbs ≤ 400) (hB : ∀ pl, pl < N → askB pl nu de wt N) (hsfr : ∀ k, k < N → sf k ≠ fr) (hN1 : 0 < N) (hnb : (nu 0).natAbs < 1125899906842624 ∧ (de 0).natAbs < 1125899906842624) : mI l yX5_isBroken wsX5_isBroken ({ frames := 3, cells := 0, slots := 0, locals := 95 } : Room) [.ref t] A G w (fun r w' => ∃ b : Bool, r = g_b b ∧ (b = true ↔ (∀ k, k < N → ST k ≠ -1) ∧ ¬ (fN (askX 0 nu de wt N) (askY 0 nu de wt N) = nu 0 ∧ fD (askX 0 nu de wt N) (askY 0 nu de wt N) = de 0)) ∧ ∃ x y : Int64, w' = g_up w fr (.inr (1, [.long x, .long y]))) 0 0 := by
  refine g_ofI (cc := cX5_isBroken) (maxL := 2) (ret := (some .boolean)) (own := RX5) (by decide) rfl rfl (Nat.le_of_ble_eq_true rfl) ?_
  intro p e R s m args below meth c Q ls hR F hP hS hlocks hr hnm0 hQ hl
  obtain ⟨⟨hx, hb, hml, hown, hts⟩, hK, hZ, hA⟩ := id F
  generalize hH0 : s.heap = H at hP ⊢
  have hS : va_S A s.heap H [] := by rw [← hH0]; exact va_S.rf
  generalize ([] : List Loc) = locs at hS ⊢
  have hl : lv_has ls 2 [(0, .ref t)] := hl
  have iX4 : ∀ w ∈ u_ws RX4 TX4 5, w ∈ wsX5_isBroken := fun w h => List.mem_cons_of_mem _ (List.mem_append_left _ (List.mem_append_right _ (h)))
  have iX5 : ∀ w ∈ u_ws RX5 TX5 4, w ∈ wsX5_isBroken := fun w h => List.mem_cons_of_mem _ (List.mem_append_left _ (List.mem_append_left _ (List.mem_append_right _ (h))))
  have T0 := T
  obtain ⟨ht, ⟨fS, has, hfS⟩, ⟨fW, haw, hfW⟩, ⟨n0, d0, hfr⟩, hsa, hsf⟩ := T
  refine lv_iconst (v := 0) hx hb dX5_isBroken_0 (by decide) ?_
  refine lv_istore_n (lv' := [(1, .int 0), (0, .ref t)]) hx hb dX5_isBroken_1 rfl hl (by decide) rfl (fun ls hl => ?_)
  have L2 : ∀ (n : Nat) (k : Nat) (H : Heap) (locs : List Loc) (ls : Array Slot), N + 1 ≤ k + n → (k ≤ N) → (∀ j, j < k → ST j ≠ -1) → g_P A G w H → va_S A s.heap H locs → lv_has ls 2 [(1, .int (nI k)), (0, .ref t)] → W p l e R s m args below meth c H locs (0) (0) Q (F0 m 2 ls []) := by
    intro n
    induction n with
    | zero =>
      intro k H locs ls hfu hkN hal hP hS hl
      exact absurd hfu (by omega)
    | succ n ih_L2 =>
      intro k H locs ls hfu hkN hal hP hS hl
      refine lv_iload_n hx hb dX5_isBroken_2 rfl (lv_at hl 0 rfl) ?_
      refine lv_aload_n hx hb dX5_isBroken_3 rfl (lv_at hl 1 rfl) ?_
      refine g_get F hP (C := RX5) (T := TX5) (N := 4) iX5 ht rfl 0 (by decide) (List.mem_cons_of_mem _ (List.mem_append_left _ (List.mem_append_left _ (List.mem_append_left _ (List.mem_append_left _ (List.mem_of_getElem? (i := 0) rfl)))))) (fun _ h9 => h9) rfl dX5_isBroken_4 ?_
      refine g_alen F hP 4 rfl has (v := nI N) rfl dX5_isBroken_7 ?_
      refine lv_icmp_ge (tgt := 31) hx hb dX5_isBroken_8 (by decide) (fun c1 => ?_) (fun c1 => ?_)
      · have zc1 : N ≤ k := (nI_leI (by omega) (by omega)).mp c1
        have ekN : k = N := by omega
        rw [ekN] at hl
        have hall : ∀ j, j < N → ST j ≠ -1 := fun j hj => hal j (by omega)
        have f2 := hsa 0 hN1
        have f3 := hsf 0 hN1
        obtain ⟨hB1, hB2, hB3⟩ := hB 0 hN1
        have kn := fN_le (askX 0 nu de wt N) (askY 0 nu de wt N); have kd := fD_le (askX 0 nu de wt N) (askY 0 nu de wt N)
        refine lv_aload_n hx hb dX5_isBroken_31 rfl (lv_at hl 1 rfl) ?_
        refine lv_iconst (v := 0) hx hb dX5_isBroken_32 (by decide) ?_
        rw [show (0 : Int32) = nI 0 from rfl]
        refine g_Vv (As := [.int (nI 0)]) (rest := []) F hP hS (k_X5_ask l A G w t ars arw fr N sa sf wt X Y HD ST nu de (g_b ab) 0 T0 hN hN1 hwt ⟨hB1, hB2, hB3⟩) (cwV 1 hts gX5_isBroken_X5_ask rfl rfl rfl cd_X5_ask ⟨by rw [hR]; exact Nat.le_of_ble_eq_true rfl, by rw [hR]; exact Nat.le_of_ble_eq_true rfl⟩) ht rfl rfl rfl hl.1 (Nat.le_of_ble_eq_true rfl) dX5_isBroken_33 ⟨by rw [hR]; exact Nat.le_of_ble_eq_true rfl, by rw [hR]; exact Nat.le_of_ble_eq_true rfl⟩ rfl (fun w5 H locs h6 hP hS => ?_)
        have f7 : w5 t = some (.inr (6, [.ref ars, .ref arw, .ref fr, .int (g_b ab)])) := by rw [h6]; exact g_up_f ht (g_ne ht hfr rfl)
        have f8 : w5 ars = some (.inl (G.2.1 4, N, .inr (.inr (.inr (.inr fS))))) := by rw [h6]; exact g_up_f has (g_ne has hfr rfl)
        have f9 : w5 arw = some (.inl (G.2.1 0, N, .inl fW)) := by rw [h6]; exact g_up_f haw (g_ne haw hfr rfl)
        have f10 : w5 (sa 0) = some (.inr (5, [.int (X 0), .int (Y 0), .int (HD 0), .int (ST 0), .ref (sf 0)])) := by rw [h6]; exact g_up_f f2 (g_ne f2 hfr rfl)
        have f11 : w5 (sf 0) = some (.inr (1, [.long (zL (nu 0)), .long (zL (de 0))])) := by rw [h6]; exact g_up_f f3 (hsfr 0 hN1)
        have f12 : w5 fr = some (.inr (1, [.long (zL (fN (askX 0 nu de wt N) (askY 0 nu de wt N))), .long (zL (fD (askX 0 nu de wt N) (askY 0 nu de wt N)))])) := by rw [h6]; exact g_up_s _ _ _
        have T1 := tieW_fr T0 hsfr (zL (fN (askX 0 nu de wt N) (askY 0 nu de wt N))) (zL (fD (askX 0 nu de wt N) (askY 0 nu de wt N)))
        rw [← h6] at T1
        refine lv_aload_n hx hb dX5_isBroken_36 rfl (lv_at hl 1 rfl) ?_
        refine g_get F hP (C := RX5) (T := TX5) (N := 4) iX5 f7 rfl 2 (by decide) (List.mem_cons_of_mem _ (List.mem_append_left _ (List.mem_append_left _ (List.mem_append_left _ (List.mem_append_left _ (List.mem_of_getElem? (i := 1) rfl)))))) (fun _ h9 => h9) rfl dX5_isBroken_37 ?_
        refine lv_aload_n hx hb dX5_isBroken_40 rfl (lv_at hl 1 rfl) ?_
        refine g_get F hP (C := RX5) (T := TX5) (N := 4) iX5 f7 rfl 0 (by decide) (List.mem_cons_of_mem _ (List.mem_append_left _ (List.mem_append_left _ (List.mem_append_left _ (List.mem_append_left _ (List.mem_of_getElem? (i := 0) rfl)))))) (fun _ h9 => h9) rfl dX5_isBroken_41 ?_
        refine lv_iconst (v := 0) hx hb dX5_isBroken_44 (by decide) ?_
        refine g_aldqS F hP f8 (by rw [show (0 : Int32) = nI 0 from rfl]; exact vp_in_nI hN1 (by omega)) dX5_isBroken_45 ?_
        rw [show (va_rf (fS (0 : Int32).toNatClampNeg) : Value) = .ref (sa 0) from by rw [show (0 : Int32).toNatClampNeg = 0 from by decide, hfS 0 hN1]; rfl]
        refine g_get F hP (C := RX4) (T := TX4) (N := 5) iX4 f10 rfl 4 (by decide) (List.mem_cons_of_mem _ (List.mem_append_left _ (List.mem_append_left _ (List.mem_append_left _ (List.mem_append_left _ (List.mem_of_getElem? (i := 2) rfl)))))) (fun _ h9 => h9) rfl dX5_isBroken_46 ?_
        refine g_Vi (As := [.ref (sf 0)]) (rest := []) F hP hS (k_X0_isSameAs l A G w5 fr (sf 0) (zL (fN (askX 0 nu de wt N) (askY 0 nu de wt N))) (zL (fD (askX 0 nu de wt N) (askY 0 nu de wt N))) (zL (nu 0)) (zL (de 0)) f12 f11) (cwV 1 hts gX5_isBroken_X0_isSameAs rfl rfl rfl cd_X0_isSameAs ⟨by rw [hR]; exact Nat.le_of_ble_eq_true rfl, by rw [hR]; exact Nat.le_of_ble_eq_true rfl⟩) f12 rfl rfl rfl hl.1 (Nat.le_of_ble_eq_true rfl) dX5_isBroken_49 ⟨by rw [hR]; exact Nat.le_of_ble_eq_true rfl, by rw [hR]; exact Nat.le_of_ble_eq_true rfl⟩ rfl (fun r13 w14 H locs h15 hP hS => ?_)
        have hr13 := h15.1
        rw [h15.2] at hP
        rw [hr13]
        refine lv_if_ne (tgt := 59) hx hb dX5_isBroken_52 (by decide) (fun c16 => ?_) (fun c16 => ?_)
        · have yc16 := of_decide_eq_true (g_b1.mp c16)
          refine lv_iconst (v := 0) hx hb dX5_isBroken_59 (by decide) ?_
          rw [hQ]
          refine g_zret F hP hS hlocks hr (by first | rfl | exact g_nb _) dX5_isBroken_60 (by first | exact Nat.le_of_ble_eq_true rfl | omega) (by first | exact Nat.le_of_ble_eq_true rfl | omega) ?_
          rw [zL_eq (by omega) (by omega) (by omega) (by omega), zL_eq (by omega) (by omega) (by omega) (by omega)] at yc16
          exact ⟨false, rfl, ⟨(fun q => nomatch q), fun q => absurd yc16 q.2⟩, _, _, h6⟩
        · have yc16 := of_decide_eq_false (g_b0.mp c16)
          refine lv_iconst (v := 1) hx hb dX5_isBroken_55 (by decide) ?_
          refine lv_goto (tgt := 60) hx hb dX5_isBroken_56 (by decide) ?_
          rw [hQ]
          refine g_zret F hP hS hlocks hr (by first | rfl | exact g_nb _) dX5_isBroken_60 (by first | exact Nat.le_of_ble_eq_true rfl | omega) (by first | exact Nat.le_of_ble_eq_true rfl | omega) ?_
          rw [zL_eq (by omega) (by omega) (by omega) (by omega), zL_eq (by omega) (by omega) (by omega) (by omega)] at yc16
          exact ⟨true, rfl, ⟨fun _ => ⟨hall, yc16⟩, fun _ => rfl⟩, _, _, h6⟩
      · have hk : k < N := Nat.not_le.mp (fun q => c1 (nI_le q (by omega)))
        refine lv_aload_n hx hb dX5_isBroken_11 rfl (lv_at hl 1 rfl) ?_
        refine g_get F hP (C := RX5) (T := TX5) (N := 4) iX5 ht rfl 0 (by decide) (List.mem_cons_of_mem _ (List.mem_append_left _ (List.mem_append_left _ (List.mem_append_left _ (List.mem_append_left _ (List.mem_of_getElem? (i := 0) rfl)))))) (fun _ h9 => h9) rfl dX5_isBroken_12 ?_
        refine lv_iload_n hx hb dX5_isBroken_15 rfl (lv_at hl 0 rfl) ?_
        refine g_aldqS F hP has (vp_in_nI hk (by omega)) dX5_isBroken_16 ?_
        have f17 := hsa k hk
        have f18 := hsf k hk
        rw [show (va_rf (fS (nI k : Int32).toNatClampNeg) : Value) = .ref (sa k) from by rw [nI_clamp (by omega), hfS k hk]; rfl]
        refine g_Vi (As := []) (rest := []) F hP hS (k_X4_hasSpeed l A G w (sa k) (X k) (Y k) (HD k) (ST k) (sf k) f17) (cwV 0 hts gX5_isBroken_X4_hasSpeed rfl rfl rfl cd_X4_hasSpeed ⟨by rw [hR]; exact Nat.le_of_ble_eq_true rfl, by rw [hR]; exact Nat.le_of_ble_eq_true rfl⟩) f17 rfl rfl rfl hl.1 (Nat.le_of_ble_eq_true rfl) dX5_isBroken_17 ⟨by rw [hR]; exact Nat.le_of_ble_eq_true rfl, by rw [hR]; exact Nat.le_of_ble_eq_true rfl⟩ rfl (fun r19 w20 H locs h21 hP hS => ?_)
        have hr19 := h21.1
        rw [h21.2] at hP
        rw [hr19]
        refine lv_if_ne (tgt := 25) hx hb dX5_isBroken_20 (by decide) (fun c22 => ?_) (fun c22 => ?_)
        · have yc22 := of_decide_eq_true (g_b1.mp c22)
          obtain ⟨i23, ei23⟩ : ∃ y : Int32, y = nI k + (1) := ⟨_, rfl⟩
          refine lv_iinc (v := i23) (lv' := [(1, .int i23), (0, .ref t)]) hx hb dX5_isBroken_25 hl (k := 0) rfl (by rw [ei23]; rfl) (by decide) rfl (fun ls hl => ?_)
          obtain rfl : i23 = nI (k + 1) := by
            rw [ei23]
            exact nI_1 k
          refine lv_goto (tgt := 2) hx hb dX5_isBroken_28 (by decide) ?_
          exact ih_L2 (k + 1)  H locs ls (by omega) (hk) (fun j hj => (Nat.lt_succ_iff_lt_or_eq.mp hj).elim (hal j) (fun e => e ▸ yc22)) hP hS (lv_sub hl [0, 1] rfl)
        · have yc22 : ST k = -1 := Decidable.not_not.mp (of_decide_eq_false (g_b0.mp c22))
          refine lv_iconst (v := 0) hx hb dX5_isBroken_23 (by decide) ?_
          rw [hQ]
          refine g_zret F hP hS hlocks hr (by first | rfl | exact g_nb _) dX5_isBroken_24 (by first | exact Nat.le_of_ble_eq_true rfl | omega) (by first | exact Nat.le_of_ble_eq_true rfl | omega) ?_
          exact ⟨false, rfl, ⟨(fun q => nomatch q), fun q => absurd yc22 (q.1 k hk)⟩, n0, d0, (g_up_id hfr).symm⟩
  exact L2 (N + 1) 0  H locs ls (by omega) (Nat.zero_le _) (fun j hj => absurd hj (Nat.not_lt_zero j)) hP hS (lv_sub hl [0, 1] rfl)
