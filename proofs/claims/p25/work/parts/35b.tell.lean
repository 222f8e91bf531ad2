theorem cd_X0_isSameAs : yX0_isSameAs.cls = RX0 ∧ yX0_isSameAs.cls ≠ "java/lang/invoke/MethodHandle" ∧ yX0_isSameAs.cls ≠ "java/lang/invoke/VarHandle" ∧ (parseMethodDescriptor yX0_isSameAs.desc).map (fun d => d.parameters.length) = some 1 := by decide +kernel
set_option maxHeartbeats 4000000 in
set_option maxRecDepth 100000 in
theorem k_X5_isBroken (l : Launch) (A : Nat → Prop) (G : g_C) (w : g_W) (t art : Nat) (te : Nat → Nat) (fr N : Nat) (sa sf : Nat → Nat) (wt : Nat → Int) (X Y HD ST : Nat → Int32) (nu de : Nat → Int) (ab : Bool) (pl : Nat) (T : tieW G w t art te fr N sa sf wt X Y HD ST nu de (g_b ab)) (hN : N ≤ 3) (hwt : ∀ k, k < N → (wt k).natAbs ≤ 400) (hB : ∀ pl, pl < N → askB pl nu de wt N) (hsfr : ∀ k, k < N → sf k ≠ fr) (hpN : N = pl + 1) (hnb : (nu pl).natAbs < 1125899906842624 ∧ (de pl).natAbs < 1125899906842624) : mI l yX5_isBroken wsX5_isBroken ({ frames := 3, cells := 0, slots := 0, locals := 98 } : Room) [.ref t] A G w (fun r w' => ∃ b : Bool, r = g_b b ∧ (b = true ↔ (∀ k, k < N → ST k ≠ -1) ∧ ¬ (fN (askX pl nu de wt N) (askY pl nu de wt N) = nu pl ∧ fD (askX pl nu de wt N) (askY pl nu de wt N) = de pl)) ∧ ∃ x y : Int64, w' = g_up w fr (.inr (1, [.long x, .long y]))) 0 0 := by
  refine g_ofI (cc := cX5_isBroken) (maxL := 6) (ret := (some .boolean)) (own := RX5) (by decide) rfl rfl (Nat.le_of_ble_eq_true rfl) ?_
  intro p e R s m args below meth c Q ls hR F hP hS hlocks hr hnm0 hQ hl
  obtain ⟨⟨hx, hb, hml, hown, hts⟩, hK, hZ, hA⟩ := id F
  generalize hH0 : s.heap = H at hP ⊢
  have hS : va_S A s.heap H [] := by rw [← hH0]; exact va_S.rf
  generalize ([] : List Loc) = locs at hS ⊢
  have hl : lv_has ls 6 [(0, .ref t)] := hl
  have iX4 : ∀ w ∈ u_ws RX4 TX4 5, w ∈ wsX5_isBroken := fun w h => List.mem_cons_of_mem _ (List.mem_append_left _ (List.mem_append_right _ (h)))
  have iX5 : ∀ w ∈ u_ws RX5 TX5 3, w ∈ wsX5_isBroken := fun w h => List.mem_cons_of_mem _ (List.mem_append_left _ (List.mem_append_left _ (List.mem_append_left _ (List.mem_append_right _ (h)))))
  have iX9 : ∀ w ∈ u_ws RX9 TX9 2, w ∈ wsX5_isBroken := fun w h => List.mem_cons_of_mem _ (List.mem_append_left _ (List.mem_append_left _ (List.mem_append_right _ (h))))
  have T0 := T
  have hL : pl < N := by omega
  obtain ⟨ht, ⟨fS, has, hfS⟩, ⟨hte, hti⟩, ⟨n0, d0, hfr⟩, hsa, hsf⟩ := T
  refine lv_null hx hb dX5_isBroken_0 ?_
  refine lv_astore_nN (lv' := [(1, .null), (0, .ref t)]) hx hb dX5_isBroken_1 rfl hl (by decide) rfl (fun ls hl => ?_)
  refine lv_aload_n hx hb dX5_isBroken_2 rfl (lv_at hl 1 rfl) ?_
  refine g_get F hP (C := RX5) (T := TX5) (N := 3) iX5 ht rfl 0 (by decide) (List.mem_cons_of_mem _ (List.mem_append_left _ (List.mem_append_left _ (List.mem_append_left _ (List.mem_append_left _ (List.mem_append_left _ (List.mem_of_getElem? (i := 0) rfl))))))) (fun _ h9 => h9) rfl dX5_isBroken_3 ?_
  refine lv_astore_n (lv' := [(2, .ref art), (1, .null), (0, .ref t)]) hx hb dX5_isBroken_6 rfl hl (by decide) rfl (fun ls hl => ?_)
  refine lv_aload_n hx hb dX5_isBroken_7 rfl (lv_at hl 0 rfl) ?_
  refine g_alen F hP 4 rfl has (v := nI N) rfl dX5_isBroken_8 ?_
  refine lv_istore_n (lv' := [(3, .int (nI N)), (2, .ref art), (1, .null), (0, .ref t)]) hx hb dX5_isBroken_9 rfl hl (by decide) rfl (fun ls hl => ?_)
  refine lv_iconst (v := 0) hx hb dX5_isBroken_10 (by decide) ?_
  refine lv_istore (lv' := [(4, .int 0), (3, .int (nI N)), (2, .ref art), (1, .null), (0, .ref t)]) hx hb dX5_isBroken_11 hl (by decide) rfl (fun ls hl => ?_)
  have L13 : ∀ (n : Nat) (k : Nat) (u : Option Nat) (H : Heap) (locs : List Loc) (ls : Array Slot), N + 1 ≤ k + n → (k ≤ N) → (∀ j, j < k → ST j ≠ -1) → ((k = 0 ∧ u = none) ∨ ∃ j, k = j + 1 ∧ u = some (te j)) → g_P A G w H → va_S A s.heap H locs → lv_has ls 6 [(4, .int (nI k)), (3, .int (nI N)), (2, .ref art), (1, va_rf u), (0, .ref t)] → W p l e R s m args below meth c H locs (0) (0) Q (F0 m 13 ls []) := by
    intro n
    induction n with
    | zero =>
      intro k u H locs ls hfu hkN hal hu hP hS hl
      exact absurd hfu (by omega)
    | succ n ih_L13 =>
      intro k u H locs ls hfu hkN hal hu hP hS hl
      refine lv_iload hx hb dX5_isBroken_13 (lv_at hl 0 rfl) ?_
      refine lv_iload_n hx hb dX5_isBroken_15 rfl (lv_at hl 1 rfl) ?_
      refine lv_icmp_ge (tgt := 47) hx hb dX5_isBroken_16 (by decide) (fun c1 => ?_) (fun c1 => ?_)
      · have zc1 : N ≤ k := (nI_leI (by omega) (by omega)).mp c1
        have ekN : k = N := by omega
        have hu9 : u = some (te pl) := by
          rcases hu with ⟨q, _⟩ | ⟨j, q1, q2⟩
          · omega
          · rw [q2, show j = pl by omega]
        clear hu
        rw [ekN, hu9] at hl
        have hall : ∀ j, j < N → ST j ≠ -1 := fun j hj => hal j (by omega)
        have f2 := hte pl hL
        have f3 := hsa pl hL
        have f4 := hsf pl hL
        obtain ⟨hB1, hB2, hB3⟩ := hB pl hL
        have kn := fN_le (askX pl nu de wt N) (askY pl nu de wt N); have kd := fD_le (askX pl nu de wt N) (askY pl nu de wt N)
        refine lv_aload_n hx hb dX5_isBroken_47 rfl (lv_at hl 3 rfl) ?_
        refine lv_ifnonnull (tgt := 53) hx hb dX5_isBroken_48 (by decide) ?_
        refine lv_aload_n hx hb dX5_isBroken_53 rfl (lv_at hl 4 rfl) ?_
        refine lv_aload_n hx hb dX5_isBroken_54 rfl (lv_at hl 3 rfl) ?_
        refine g_Vv (As := [.ref (te pl)]) (rest := []) F hP hS (k_X5_ask l A G w t art te fr N sa sf wt X Y HD ST nu de (g_b ab) pl T0 hN hL hwt ⟨hB1, hB2, hB3⟩) (cwV 1 hts gX5_isBroken_X5_ask rfl rfl rfl cd_X5_ask ⟨by rw [hR]; exact Nat.le_of_ble_eq_true rfl, by rw [hR]; exact Nat.le_of_ble_eq_true rfl⟩) ht rfl rfl rfl hl.1 (Nat.le_of_ble_eq_true rfl) dX5_isBroken_55 ⟨by rw [hR]; exact Nat.le_of_ble_eq_true rfl, by rw [hR]; exact Nat.le_of_ble_eq_true rfl⟩ rfl (fun w6 H locs h7 hP hS => ?_)
        have f8 : w6 t = some (.inr (6, [.ref art, .ref fr, .int (g_b ab)])) := by rw [h7]; exact g_up_f ht (g_ne ht hfr rfl)
        have f9 : w6 art = some (.inl (G.2.1 4, N, .inr (.inr (.inr (.inr fS))))) := by rw [h7]; exact g_up_f has (g_ne has hfr rfl)
        have f10 : w6 (te pl) = some (.inr (9, [.ref (sa pl), .int (Int32.ofInt (wt pl))])) := by rw [h7]; exact g_up_f f2 (g_ne f2 hfr rfl)
        have f11 : w6 (sa pl) = some (.inr (5, [.int (X pl), .int (Y pl), .int (HD pl), .int (ST pl), .ref (sf pl)])) := by rw [h7]; exact g_up_f f3 (g_ne f3 hfr rfl)
        have f12 : w6 (sf pl) = some (.inr (1, [.long (zL (nu pl)), .long (zL (de pl))])) := by rw [h7]; exact g_up_f f4 (hsfr pl hL)
        have f13 : w6 fr = some (.inr (1, [.long (zL (fN (askX pl nu de wt N) (askY pl nu de wt N))), .long (zL (fD (askX pl nu de wt N) (askY pl nu de wt N)))])) := by rw [h7]; exact g_up_s _ _ _
        have T1 := tieW_fr T0 hsfr (zL (fN (askX pl nu de wt N) (askY pl nu de wt N))) (zL (fD (askX pl nu de wt N) (askY pl nu de wt N)))
        rw [← h7] at T1
        refine lv_aload_n hx hb dX5_isBroken_58 rfl (lv_at hl 4 rfl) ?_
        refine g_get F hP (C := RX5) (T := TX5) (N := 3) iX5 f8 rfl 1 (by decide) (List.mem_cons_of_mem _ (List.mem_append_left _ (List.mem_append_left _ (List.mem_append_left _ (List.mem_append_left _ (List.mem_append_left _ (List.mem_of_getElem? (i := 2) rfl))))))) (fun _ h9 => h9) rfl dX5_isBroken_59 ?_
        refine lv_aload_n hx hb dX5_isBroken_62 rfl (lv_at hl 3 rfl) ?_
        refine g_get F hP (C := RX9) (T := TX9) (N := 2) iX9 f10 rfl 0 (by decide) (List.mem_cons_of_mem _ (List.mem_append_left _ (List.mem_append_left _ (List.mem_append_left _ (List.mem_append_left _ (List.mem_append_left _ (List.mem_of_getElem? (i := 1) rfl))))))) (fun _ h9 => h9) rfl dX5_isBroken_63 ?_
        refine g_get F hP (C := RX4) (T := TX4) (N := 5) iX4 f11 rfl 4 (by decide) (List.mem_cons_of_mem _ (List.mem_append_left _ (List.mem_append_left _ (List.mem_append_left _ (List.mem_append_left _ (List.mem_append_left _ (List.mem_of_getElem? (i := 3) rfl))))))) (fun _ h9 => h9) rfl dX5_isBroken_66 ?_
        refine g_Vi (As := [.ref (sf pl)]) (rest := []) F hP hS (k_X0_isSameAs l A G w6 fr (sf pl) (zL (fN (askX pl nu de wt N) (askY pl nu de wt N))) (zL (fD (askX pl nu de wt N) (askY pl nu de wt N))) (zL (nu pl)) (zL (de pl)) f13 f12) (cwV 1 hts gX5_isBroken_X0_isSameAs rfl rfl rfl cd_X0_isSameAs ⟨by rw [hR]; exact Nat.le_of_ble_eq_true rfl, by rw [hR]; exact Nat.le_of_ble_eq_true rfl⟩) f13 rfl rfl rfl hl.1 (Nat.le_of_ble_eq_true rfl) dX5_isBroken_69 ⟨by rw [hR]; exact Nat.le_of_ble_eq_true rfl, by rw [hR]; exact Nat.le_of_ble_eq_true rfl⟩ rfl (fun r14 w15 H locs h16 hP hS => ?_)
        have hr14 := h16.1
        rw [h16.2] at hP
        rw [hr14]
        refine lv_if_ne (tgt := 79) hx hb dX5_isBroken_72 (by decide) (fun c17 => ?_) (fun c17 => ?_)
        · have yc17 := of_decide_eq_true (g_b1.mp c17)
          refine lv_iconst (v := 0) hx hb dX5_isBroken_79 (by decide) ?_
          rw [hQ]
          refine g_zret F hP hS hlocks hr (by first | rfl | exact g_nb _) dX5_isBroken_80 (by first | exact Nat.le_of_ble_eq_true rfl | omega) (by first | exact Nat.le_of_ble_eq_true rfl | omega) ?_
          rw [zL_eq (by omega) (by omega) (by omega) (by omega), zL_eq (by omega) (by omega) (by omega) (by omega)] at yc17
          exact ⟨false, rfl, ⟨(fun q => nomatch q), fun q => absurd yc17 q.2⟩, _, _, h7⟩
        · have yc17 := of_decide_eq_false (g_b0.mp c17)
          refine lv_iconst (v := 1) hx hb dX5_isBroken_75 (by decide) ?_
          refine lv_goto (tgt := 80) hx hb dX5_isBroken_76 (by decide) ?_
          rw [hQ]
          refine g_zret F hP hS hlocks hr (by first | rfl | exact g_nb _) dX5_isBroken_80 (by first | exact Nat.le_of_ble_eq_true rfl | omega) (by first | exact Nat.le_of_ble_eq_true rfl | omega) ?_
          rw [zL_eq (by omega) (by omega) (by omega) (by omega), zL_eq (by omega) (by omega) (by omega) (by omega)] at yc17
          exact ⟨true, rfl, ⟨fun _ => ⟨hall, yc17⟩, fun _ => rfl⟩, _, _, h7⟩
      · have hk : k < N := Nat.not_le.mp (fun q => c1 (nI_le q (by omega)))
        refine lv_aload_n hx hb dX5_isBroken_19 rfl (lv_at hl 2 rfl) ?_
        refine lv_iload hx hb dX5_isBroken_20 (lv_at hl 0 rfl) ?_
        refine g_aldqS F hP has (vp_in_nI hk (by omega)) dX5_isBroken_22 ?_
        have f18 := hte k hk
        have f19 := hsa k hk
        have f20 := hsf k hk
        rw [show (va_rf (fS (nI k : Int32).toNatClampNeg) : Value) = .ref (te k) from by rw [nI_clamp (by omega), hfS k hk]; rfl]
        refine lv_astore (lv' := [(5, .ref (te k)), (4, .int (nI k)), (3, .int (nI N)), (2, .ref art), (1, va_rf u), (0, .ref t)]) hx hb dX5_isBroken_23 hl (by decide) rfl (fun ls hl => ?_)
        refine lv_aload hx hb dX5_isBroken_25 (lv_at hl 0 rfl) ?_
        refine g_get F hP (C := RX9) (T := TX9) (N := 2) iX9 f18 rfl 0 (by decide) (List.mem_cons_of_mem _ (List.mem_append_left _ (List.mem_append_left _ (List.mem_append_left _ (List.mem_append_left _ (List.mem_append_left _ (List.mem_of_getElem? (i := 1) rfl))))))) (fun _ h9 => h9) rfl dX5_isBroken_27 ?_
        refine g_Vi (As := []) (rest := []) F hP hS (k_X4_hasSpeed l A G w (sa k) (X k) (Y k) (HD k) (ST k) (sf k) f19) (cwV 0 hts gX5_isBroken_X4_hasSpeed rfl rfl rfl cd_X4_hasSpeed ⟨by rw [hR]; exact Nat.le_of_ble_eq_true rfl, by rw [hR]; exact Nat.le_of_ble_eq_true rfl⟩) f19 rfl rfl rfl hl.1 (Nat.le_of_ble_eq_true rfl) dX5_isBroken_30 ⟨by rw [hR]; exact Nat.le_of_ble_eq_true rfl, by rw [hR]; exact Nat.le_of_ble_eq_true rfl⟩ rfl (fun r21 w22 H locs h23 hP hS => ?_)
        have hr21 := h23.1
        rw [h23.2] at hP
        rw [hr21]
        refine lv_if_ne (tgt := 38) hx hb dX5_isBroken_33 (by decide) (fun c24 => ?_) (fun c24 => ?_)
        · have yc24 := of_decide_eq_true (g_b1.mp c24)
          refine lv_aload hx hb dX5_isBroken_38 (lv_at hl 0 rfl) ?_
          refine lv_astore_n (lv' := [(1, .ref (te k)), (5, .ref (te k)), (4, .int (nI k)), (3, .int (nI N)), (2, .ref art), (0, .ref t)]) hx hb dX5_isBroken_40 rfl hl (by decide) rfl (fun ls hl => ?_)
          obtain ⟨i25, ei25⟩ : ∃ y : Int32, y = nI k + (1) := ⟨_, rfl⟩
          refine lv_iinc (v := i25) (lv' := [(4, .int i25), (1, .ref (te k)), (5, .ref (te k)), (3, .int (nI N)), (2, .ref art), (0, .ref t)]) hx hb dX5_isBroken_41 hl (k := 2) rfl (by rw [ei25]; rfl) (by decide) rfl (fun ls hl => ?_)
          obtain rfl : i25 = nI (k + 1) := by
            rw [ei25]
            exact nI_1 k
          refine lv_goto (tgt := 13) hx hb dX5_isBroken_44 (by decide) ?_
          exact ih_L13 (k + 1) (some (te k))  H locs ls (by omega) (hk) (fun j hj => (Nat.lt_succ_iff_lt_or_eq.mp hj).elim (hal j) (fun e => e ▸ yc24)) (Or.inr ⟨k, rfl, rfl⟩) hP hS (lv_sub hl [0, 3, 4, 1, 5] rfl)
        · have yc24 : ST k = -1 := Decidable.not_not.mp (of_decide_eq_false (g_b0.mp c24))
          refine lv_iconst (v := 0) hx hb dX5_isBroken_36 (by decide) ?_
          rw [hQ]
          refine g_zret F hP hS hlocks hr (by first | rfl | exact g_nb _) dX5_isBroken_37 (by first | exact Nat.le_of_ble_eq_true rfl | omega) (by first | exact Nat.le_of_ble_eq_true rfl | omega) ?_
          exact ⟨false, rfl, ⟨(fun q => nomatch q), fun q => absurd yc24 (q.1 k hk)⟩, n0, d0, (g_up_id hfr).symm⟩
  exact L13 (N + 1) 0 none  H locs ls (by omega) (Nat.zero_le _) (fun j hj => absurd hj (Nat.not_lt_zero j)) (Or.inl ⟨rfl, rfl⟩) hP hS (lv_sub hl [0, 1, 2, 3, 4] rfl)
