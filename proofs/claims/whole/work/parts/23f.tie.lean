set_option maxHeartbeats 4000000 in
set_option maxRecDepth 100000 in
theorem k_X5_ask (l : Launch) (A : Nat → Prop) (G : g_C) (w : g_W) (t ars arw fr N : Nat) (sa sf : Nat → Nat) (wt : Nat → Int) (X Y HD ST : Nat → Int32) (nu de : Nat → Int) (asd : Int32) (pl : Nat) (T : tieW G w t ars arw fr N sa sf wt X Y HD ST nu de asd) (hN : N ≤ 3) (hpl : pl < N) (hwt : ∀ k, k < N → (wt k).natAbs ≤ 400) (hB : askB pl nu de wt N) : mV l yX5_ask wsX5_ask ({ frames := 2, cells := 0, slots := 0, locals := 68 } : Room) [.ref t, .int (nI pl)] A G w (fun w' => w' = g_up w fr (.inr (1, [.long (zL (fN (askX pl nu de wt N) (askY pl nu de wt N))), .long (zL (fD (askX pl nu de wt N) (askY pl nu de wt N)))]))) 0 0 := by
  refine g_ofV (cc := cX5_ask) (maxL := 8) (ret := none) (own := RX5) (by decide) rfl rfl (Nat.le_of_ble_eq_true rfl) ?_
  intro p e R s m args below meth c Q ls hR F hP hS hlocks hr hnm0 hQ hl
  obtain ⟨⟨hx, hb, hml, hown, hts⟩, hK, hZ, hA⟩ := id F
  generalize hH0 : s.heap = H at hP ⊢
  have hS : va_S A s.heap H [] := by rw [← hH0]; exact va_S.rf
  generalize ([] : List Loc) = locs at hS ⊢
  have hl : lv_has ls 8 [(0, .ref t), (1, .int (nI pl))] := hl
  have iX0 : ∀ w ∈ u_ws RX0 TX0 2, w ∈ wsX5_ask := fun w h => List.mem_cons_of_mem _ (List.mem_append_right _ (h))
  have iX4 : ∀ w ∈ u_ws RX4 TX4 5, w ∈ wsX5_ask := fun w h => List.mem_cons_of_mem _ (List.mem_append_left _ (List.mem_append_right _ (h)))
  have iX5 : ∀ w ∈ u_ws RX5 TX5 4, w ∈ wsX5_ask := fun w h => List.mem_cons_of_mem _ (List.mem_append_left _ (List.mem_append_left _ (List.mem_append_right _ (h))))
  obtain ⟨ht, ⟨fS, has, hfS⟩, ⟨fW, haw, hfW⟩, ⟨n0, d0, hfr⟩, hsa, hsf⟩ := T
  refine lv_lconst (v := 0) hx hb dX5_ask_0 (by decide) ?_
  refine lv_lstore_n (lv' := [(2, .long 0), (0, .ref t), (1, .int (nI pl))]) hx hb dX5_ask_1 rfl hl (by decide) rfl (fun ls hl => ?_)
  refine lv_lconst (v := 1) hx hb dX5_ask_2 (by decide) ?_
  refine lv_lstore (lv' := [(4, .long 1), (2, .long 0), (0, .ref t), (1, .int (nI pl))]) hx hb dX5_ask_3 hl (by decide) rfl (fun ls hl => ?_)
  refine lv_iconst (v := 0) hx hb dX5_ask_5 (by decide) ?_
  refine lv_istore (lv' := [(6, .int 0), (4, .long 1), (2, .long 0), (0, .ref t), (1, .int (nI pl))]) hx hb dX5_ask_6 hl (by decide) rfl (fun ls hl => ?_)
  have L8 : ∀ (n : Nat) (k : Nat) (H : Heap) (locs : List Loc) (ls : Array Slot), N + 1 ≤ k + n → (k ≤ N) → g_P A G w H → va_S A s.heap H locs → lv_has ls 8 [(6, .int (nI k)), (4, .long (zL (askS pl nu de wt k).2)), (2, .long (zL (askS pl nu de wt k).1)), (0, .ref t), (1, .int (nI pl))] → W p l e R s m args below meth c H locs (0) (0) Q (F0 m 8 ls []) := by
    intro n
    induction n with
    | zero =>
      intro k H locs ls hfu hkN hP hS hl
      exact absurd hfu (by omega)
    | succ n ih_L8 =>
      intro k H locs ls hfu hkN hP hS hl
      refine lv_iload hx hb dX5_ask_8 (lv_at hl 0 rfl) ?_
      refine lv_aload_n hx hb dX5_ask_10 rfl (lv_at hl 3 rfl) ?_
      refine g_get F hP (C := RX5) (T := TX5) (N := 4) iX5 ht rfl 0 (by decide) (List.mem_cons_of_mem _ (List.mem_append_left _ (List.mem_append_left _ (List.mem_append_left _ (List.mem_of_getElem? (i := 0) rfl))))) (fun _ h9 => h9) rfl dX5_ask_11 ?_
      refine g_alen F hP 4 rfl has (v := nI N) rfl dX5_ask_14 ?_
      refine lv_icmp_ge (tgt := 78) hx hb dX5_ask_15 (by decide) (fun c1 => ?_) (fun c1 => ?_)
      · have zc1 : N ≤ k := (nI_leI (by omega) (by omega)).mp c1
        have ekN : k = N := by omega
        rw [ekN] at hl
        refine lv_aload_n hx hb dX5_ask_78 rfl (lv_at hl 3 rfl) ?_
        refine g_get F hP (C := RX5) (T := TX5) (N := 4) iX5 ht rfl 2 (by decide) (List.mem_cons_of_mem _ (List.mem_append_left _ (List.mem_append_left _ (List.mem_append_left _ (List.mem_of_getElem? (i := 5) rfl))))) (fun _ h9 => h9) rfl dX5_ask_79 ?_
        refine lv_lload_n hx hb dX5_ask_82 rfl (lv_at hl 2 rfl) ?_
        refine lv_lneg hx hb dX5_ask_83 ?_
        refine lv_topl (fun v2 ev2 => ?_)
        obtain rfl : v2 = zL (askX pl nu de wt N) := by
          rw [ev2]
          exact zL_neg _
        refine lv_aload_n hx hb dX5_ask_84 rfl (lv_at hl 3 rfl) ?_
        refine g_get F hP (C := RX5) (T := TX5) (N := 4) iX5 ht rfl 1 (by decide) (List.mem_cons_of_mem _ (List.mem_append_left _ (List.mem_append_left _ (List.mem_append_left _ (List.mem_of_getElem? (i := 3) rfl))))) (fun _ h9 => h9) rfl dX5_ask_85 ?_
        refine lv_iload_n hx hb dX5_ask_88 rfl (lv_at hl 4 rfl) ?_
        refine g_iald F hP haw (vp_in_nI hpl (by omega)) dX5_ask_89 ?_
        refine lv_topi (fun v3 ev3 => ?_)
        obtain rfl : v3 = Int32.ofInt (wt pl) := by
          rw [ev3]
          rw [nI_clamp (by omega)]; exact hfW pl hpl
        refine lv_i2l hx hb dX5_ask_90 rfl ?_
        refine lv_topl (fun v4 ev4 => ?_)
        obtain rfl : v4 = zL (wt pl) := by
          rw [ev4]
          have := hwt pl hpl
          exact iL_64 (by omega) (by omega)
        refine lv_lload hx hb dX5_ask_91 (lv_at hl 1 rfl) ?_
        refine lv_lmul hx hb dX5_ask_93 ?_
        refine lv_topl (fun v5 ev5 => ?_)
        obtain rfl : v5 = zL (askY pl nu de wt N) := by
          rw [ev5]
          exact zL_mul _ _
        refine g_Vv (As := [.long (zL (askX pl nu de wt N)), .long (zL (askY pl nu de wt N))]) (rest := []) F hP hS (k_X0_become l A G w fr (askX pl nu de wt N) (askY pl nu de wt N) n0 d0 hfr hB.1 hB.2.1 hB.2.2) (cwV 2 hts gX5_ask_X0_become rfl rfl rfl cd_X0_become ⟨by rw [hR]; exact Nat.le_of_ble_eq_true rfl, by rw [hR]; exact Nat.le_of_ble_eq_true rfl⟩) hfr rfl rfl rfl hl.1 (Nat.le_of_ble_eq_true rfl) dX5_ask_94 ⟨by rw [hR]; exact Nat.le_of_ble_eq_true rfl, by rw [hR]; exact Nat.le_of_ble_eq_true rfl⟩ rfl (fun w7 H locs h8 hP hS => ?_)
        have f9 : w7 t = some (.inr (6, [.ref ars, .ref arw, .ref fr, .int asd])) := by rw [h8]; exact g_up_f ht (g_ne ht hfr rfl)
        have f10 : w7 ars = some (.inl (G.2.1 4, N, .inr (.inr (.inr (.inr fS))))) := by rw [h8]; exact g_up_f has (g_ne has hfr rfl)
        have f11 : w7 arw = some (.inl (G.2.1 0, N, .inl fW)) := by rw [h8]; exact g_up_f haw (g_ne haw hfr rfl)
        have f12 : w7 fr = some (.inr (1, [.long (zL (fN (askX pl nu de wt N) (askY pl nu de wt N))), .long (zL (fD (askX pl nu de wt N) (askY pl nu de wt N)))])) := by rw [h8]; exact g_up_s _ _ _
        rw [hQ]
        refine g_vret F hP hS hlocks hr dX5_ask_97 (by first | exact Nat.le_of_ble_eq_true rfl | omega) (by first | exact Nat.le_of_ble_eq_true rfl | omega) ?_
        exact h8
      · have hk : k < N := Nat.not_le.mp (fun q => c1 (nI_le q (by omega)))
        have hwk := hwt k hk
        refine lv_iload hx hb dX5_ask_18 (lv_at hl 0 rfl) ?_
        refine lv_iload_n hx hb dX5_ask_20 rfl (lv_at hl 4 rfl) ?_
        refine lv_icmp_eq (tgt := 72) hx hb dX5_ask_21 (by decide) (fun c13 => ?_) (fun c13 => ?_)
        · have ec13 : k = pl := (nI_eq (by omega) (by omega)).mp c13
          have hl : lv_has ls 8 [(6, .int (nI k)), (4, .long (zL (askS pl nu de wt (k + 1)).2)), (2, .long (zL (askS pl nu de wt (k + 1)).1)), (0, .ref t), (1, .int (nI pl))] := by rw [askS_eq ec13]; exact hl
          obtain ⟨i14, ei14⟩ : ∃ y : Int32, y = nI k + (1) := ⟨_, rfl⟩
          refine lv_iinc (v := i14) (lv' := [(6, .int i14), (4, .long (zL (askS pl nu de wt (k + 1)).2)), (2, .long (zL (askS pl nu de wt (k + 1)).1)), (0, .ref t), (1, .int (nI pl))]) hx hb dX5_ask_72 hl (k := 0) rfl (by rw [ei14]; rfl) (by decide) rfl (fun ls hl => ?_)
          obtain rfl : i14 = nI (k + 1) := by
            rw [ei14]
            exact nI_1 k
          refine lv_goto (tgt := 8) hx hb dX5_ask_75 (by decide) ?_
          exact ih_L8 (k + 1)  H locs ls (by omega) (hk) hP hS (lv_sub hl [0, 1, 2, 3, 4] rfl)
        · have ec13 : k ≠ pl := fun q => c13 (by rw [q])
          refine lv_aload_n hx hb dX5_ask_24 rfl (lv_at hl 3 rfl) ?_
          refine g_get F hP (C := RX5) (T := TX5) (N := 4) iX5 ht rfl 0 (by decide) (List.mem_cons_of_mem _ (List.mem_append_left _ (List.mem_append_left _ (List.mem_append_left _ (List.mem_of_getElem? (i := 0) rfl))))) (fun _ h9 => h9) rfl dX5_ask_25 ?_
          refine lv_iload hx hb dX5_ask_28 (lv_at hl 0 rfl) ?_
          refine g_aldqS F hP has (vp_in_nI hk (by omega)) dX5_ask_30 ?_
          have f15 := hsa k hk
          have f16 := hsf k hk
          rw [show (va_rf (fS (nI k : Int32).toNatClampNeg) : Value) = .ref (sa k) from by rw [nI_clamp (by omega), hfS k hk]; rfl]
          refine g_get F hP (C := RX4) (T := TX4) (N := 5) iX4 f15 rfl 4 (by decide) (List.mem_cons_of_mem _ (List.mem_append_left _ (List.mem_append_left _ (List.mem_append_left _ (List.mem_of_getElem? (i := 1) rfl))))) (fun _ h9 => h9) rfl dX5_ask_31 ?_
          refine lv_astore (lv' := [(7, .ref (sf k)), (6, .int (nI k)), (4, .long (zL (askS pl nu de wt k).2)), (2, .long (zL (askS pl nu de wt k).1)), (0, .ref t), (1, .int (nI pl))]) hx hb dX5_ask_34 hl (by decide) rfl (fun ls hl => ?_)
          refine lv_lload_n hx hb dX5_ask_36 rfl (lv_at hl 3 rfl) ?_
          refine lv_aload hx hb dX5_ask_37 (lv_at hl 0 rfl) ?_
          refine g_get F hP (C := RX0) (T := TX0) (N := 2) iX0 f16 rfl 1 (by decide) (List.mem_cons_of_mem _ (List.mem_append_left _ (List.mem_append_left _ (List.mem_append_left _ (List.mem_of_getElem? (i := 2) rfl))))) (fun _ h9 => h9) rfl dX5_ask_39 ?_
          refine lv_lmul hx hb dX5_ask_42 ?_
          refine lv_topl (fun v17 ev17 => ?_)
          obtain rfl : v17 = zL ((askS pl nu de wt k).1 * de k) := by
            rw [ev17]
            exact zL_mul _ _
          refine lv_aload_n hx hb dX5_ask_43 rfl (lv_at hl 4 rfl) ?_
          refine g_get F hP (C := RX5) (T := TX5) (N := 4) iX5 ht rfl 1 (by decide) (List.mem_cons_of_mem _ (List.mem_append_left _ (List.mem_append_left _ (List.mem_append_left _ (List.mem_of_getElem? (i := 3) rfl))))) (fun _ h9 => h9) rfl dX5_ask_44 ?_
          refine lv_iload hx hb dX5_ask_47 (lv_at hl 1 rfl) ?_
          refine g_iald F hP haw (vp_in_nI hk (by omega)) dX5_ask_49 ?_
          refine lv_topi (fun v18 ev18 => ?_)
          obtain rfl : v18 = Int32.ofInt (wt k) := by
            rw [ev18]
            rw [nI_clamp (by omega)]; exact hfW k hk
          refine lv_i2l hx hb dX5_ask_50 rfl ?_
          refine lv_topl (fun v19 ev19 => ?_)
          obtain rfl : v19 = zL (wt k) := by
            rw [ev19]
            exact iL_64 (by omega) (by omega)
          refine lv_aload hx hb dX5_ask_51 (lv_at hl 0 rfl) ?_
          refine g_get F hP (C := RX0) (T := TX0) (N := 2) iX0 f16 rfl 0 (by decide) (List.mem_cons_of_mem _ (List.mem_append_left _ (List.mem_append_left _ (List.mem_append_left _ (List.mem_of_getElem? (i := 4) rfl))))) (fun _ h9 => h9) rfl dX5_ask_53 ?_
          refine lv_lmul hx hb dX5_ask_56 ?_
          refine lv_topl (fun v20 ev20 => ?_)
          obtain rfl : v20 = zL (wt k * nu k) := by
            rw [ev20]
            exact zL_mul _ _
          refine lv_lload hx hb dX5_ask_57 (lv_at hl 2 rfl) ?_
          refine lv_lmul hx hb dX5_ask_59 ?_
          refine lv_topl (fun v21 ev21 => ?_)
          obtain rfl : v21 = zL (wt k * nu k * (askS pl nu de wt k).2) := by
            rw [ev21]
            exact zL_mul _ _
          refine lv_ladd hx hb dX5_ask_60 ?_
          refine lv_topl (fun v22 ev22 => ?_)
          obtain rfl : v22 = zL (askS pl nu de wt (k + 1)).1 := by
            rw [ev22]
            rw [zL_add, askS_ne ec13]
          refine lv_lstore_n (lv' := [(2, .long (zL (askS pl nu de wt (k + 1)).1)), (7, .ref (sf k)), (6, .int (nI k)), (4, .long (zL (askS pl nu de wt k).2)), (0, .ref t), (1, .int (nI pl))]) hx hb dX5_ask_61 rfl hl (by decide) rfl (fun ls hl => ?_)
          refine lv_lload hx hb dX5_ask_62 (lv_at hl 3 rfl) ?_
          refine lv_aload hx hb dX5_ask_64 (lv_at hl 1 rfl) ?_
          refine g_get F hP (C := RX0) (T := TX0) (N := 2) iX0 f16 rfl 1 (by decide) (List.mem_cons_of_mem _ (List.mem_append_left _ (List.mem_append_left _ (List.mem_append_left _ (List.mem_of_getElem? (i := 2) rfl))))) (fun _ h9 => h9) rfl dX5_ask_66 ?_
          refine lv_lmul hx hb dX5_ask_69 ?_
          refine lv_topl (fun v23 ev23 => ?_)
          obtain rfl : v23 = zL (askS pl nu de wt (k + 1)).2 := by
            rw [ev23]
            rw [zL_mul, askS_ne ec13]
          refine lv_lstore (lv' := [(4, .long (zL (askS pl nu de wt (k + 1)).2)), (2, .long (zL (askS pl nu de wt (k + 1)).1)), (7, .ref (sf k)), (6, .int (nI k)), (0, .ref t), (1, .int (nI pl))]) hx hb dX5_ask_70 hl (by decide) rfl (fun ls hl => ?_)
          obtain ⟨i24, ei24⟩ : ∃ y : Int32, y = nI k + (1) := ⟨_, rfl⟩
          refine lv_iinc (v := i24) (lv' := [(6, .int i24), (4, .long (zL (askS pl nu de wt (k + 1)).2)), (2, .long (zL (askS pl nu de wt (k + 1)).1)), (7, .ref (sf k)), (0, .ref t), (1, .int (nI pl))]) hx hb dX5_ask_72 hl (k := 3) rfl (by rw [ei24]; rfl) (by decide) rfl (fun ls hl => ?_)
          obtain rfl : i24 = nI (k + 1) := by
            rw [ei24]
            exact nI_1 k
          refine lv_goto (tgt := 8) hx hb dX5_ask_75 (by decide) ?_
          exact ih_L8 (k + 1)  H locs ls (by omega) (hk) hP hS (lv_sub hl [0, 1, 2, 4, 5] rfl)
  exact L8 (N + 1) 0  H locs ls (by omega) (Nat.zero_le _) hP hS (lv_sub hl [0, 1, 2, 3, 4] rfl)
