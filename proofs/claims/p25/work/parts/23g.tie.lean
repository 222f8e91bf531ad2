set_option maxHeartbeats 4000000 in
set_option maxRecDepth 100000 in
theorem k_X5_ask (l : Launch) (A : Nat → Prop) (G : g_C) (w : g_W) (t art : Nat) (te : Nat → Nat) (fr N : Nat) (sa sf : Nat → Nat) (wt : Nat → Int) (X Y HD ST : Nat → Int32) (nu de : Nat → Int) (asd : Int32) (pl : Nat) (T : tieW G w t art te fr N sa sf wt X Y HD ST nu de asd) (hN : N ≤ 3) (hpl : pl < N) (hwt : ∀ k, k < N → (wt k).natAbs ≤ 400) (hB : askB pl nu de wt N) : mV l yX5_ask wsX5_ask ({ frames := 2, cells := 0, slots := 0, locals := 68 } : Room) [.ref t, .ref (te pl)] A G w (fun w' => w' = g_up w fr (.inr (1, [.long (zL (fN (askX pl nu de wt N) (askY pl nu de wt N))), .long (zL (fD (askX pl nu de wt N) (askY pl nu de wt N)))]))) 0 0 := by
  refine g_ofV (cc := cX5_ask) (maxL := 11) (ret := none) (own := RX5) (by decide) rfl rfl (Nat.le_of_ble_eq_true rfl) ?_
  intro p e R s m args below meth c Q ls hR F hP hS hlocks hr hnm0 hQ hl
  obtain ⟨⟨hx, hb, hml, hown, hts⟩, hK, hZ, hA⟩ := id F
  generalize hH0 : s.heap = H at hP ⊢
  have hS : va_S A s.heap H [] := by rw [← hH0]; exact va_S.rf
  generalize ([] : List Loc) = locs at hS ⊢
  have hl : lv_has ls 11 [(0, .ref t), (1, .ref (te pl))] := hl
  have iX0 : ∀ w ∈ u_ws RX0 TX0 2, w ∈ wsX5_ask := fun w h => List.mem_cons_of_mem _ (List.mem_append_right _ (h))
  have iX4 : ∀ w ∈ u_ws RX4 TX4 5, w ∈ wsX5_ask := fun w h => List.mem_cons_of_mem _ (List.mem_append_left _ (List.mem_append_right _ (h)))
  have iX5 : ∀ w ∈ u_ws RX5 TX5 3, w ∈ wsX5_ask := fun w h => List.mem_cons_of_mem _ (List.mem_append_left _ (List.mem_append_left _ (List.mem_append_left _ (List.mem_append_right _ (h)))))
  have iX9 : ∀ w ∈ u_ws RX9 TX9 2, w ∈ wsX5_ask := fun w h => List.mem_cons_of_mem _ (List.mem_append_left _ (List.mem_append_left _ (List.mem_append_right _ (h))))
  obtain ⟨ht, ⟨fS, has, hfS⟩, ⟨hte, hti⟩, ⟨n0, d0, hfr⟩, hsa, hsf⟩ := T
  refine lv_lconst (v := 0) hx hb dX5_ask_0 (by decide) ?_
  refine lv_lstore_n (lv' := [(2, .long 0), (0, .ref t), (1, .ref (te pl))]) hx hb dX5_ask_1 rfl hl (by decide) rfl (fun ls hl => ?_)
  refine lv_lconst (v := 1) hx hb dX5_ask_2 (by decide) ?_
  refine lv_lstore (lv' := [(4, .long 1), (2, .long 0), (0, .ref t), (1, .ref (te pl))]) hx hb dX5_ask_3 hl (by decide) rfl (fun ls hl => ?_)
  refine lv_aload_n hx hb dX5_ask_5 rfl (lv_at hl 2 rfl) ?_
  refine g_get F hP (C := RX5) (T := TX5) (N := 3) iX5 ht rfl 0 (by decide) (List.mem_cons_of_mem _ (List.mem_append_left _ (List.mem_append_left _ (List.mem_append_left _ (List.mem_append_left _ (List.mem_of_getElem? (i := 0) rfl)))))) (fun _ h9 => h9) rfl dX5_ask_6 ?_
  refine lv_astore (lv' := [(6, .ref art), (4, .long 1), (2, .long 0), (0, .ref t), (1, .ref (te pl))]) hx hb dX5_ask_9 hl (by decide) rfl (fun ls hl => ?_)
  refine lv_aload hx hb dX5_ask_11 (lv_at hl 0 rfl) ?_
  refine g_alen F hP 4 rfl has (v := nI N) rfl dX5_ask_13 ?_
  refine lv_istore (lv' := [(7, .int (nI N)), (6, .ref art), (4, .long 1), (2, .long 0), (0, .ref t), (1, .ref (te pl))]) hx hb dX5_ask_14 hl (by decide) rfl (fun ls hl => ?_)
  refine lv_iconst (v := 0) hx hb dX5_ask_16 (by decide) ?_
  refine lv_istore (lv' := [(8, .int 0), (7, .int (nI N)), (6, .ref art), (4, .long 1), (2, .long 0), (0, .ref t), (1, .ref (te pl))]) hx hb dX5_ask_17 hl (by decide) rfl (fun ls hl => ?_)
  have L19 : ∀ (n : Nat) (k : Nat) (H : Heap) (locs : List Loc) (ls : Array Slot), N + 1 ≤ k + n → (k ≤ N) → g_P A G w H → va_S A s.heap H locs → lv_has ls 11 [(8, .int (nI k)), (7, .int (nI N)), (6, .ref art), (4, .long (zL (askS pl nu de wt k).2)), (2, .long (zL (askS pl nu de wt k).1)), (0, .ref t), (1, .ref (te pl))] → W p l e R s m args below meth c H locs (0) (0) Q (F0 m 19 ls []) := by
    intro n
    induction n with
    | zero =>
      intro k H locs ls hfu hkN hP hS hl
      exact absurd hfu (by omega)
    | succ n ih_L19 =>
      intro k H locs ls hfu hkN hP hS hl
      refine lv_iload hx hb dX5_ask_19 (lv_at hl 0 rfl) ?_
      refine lv_iload hx hb dX5_ask_21 (lv_at hl 1 rfl) ?_
      refine lv_icmp_ge (tgt := 89) hx hb dX5_ask_23 (by decide) (fun c1 => ?_) (fun c1 => ?_)
      · have zc1 : N ≤ k := (nI_leI (by omega) (by omega)).mp c1
        have ekN : k = N := by omega
        rw [ekN] at hl
        have f2 := hte pl hpl
        have f3 := hsa pl hpl
        refine lv_aload_n hx hb dX5_ask_89 rfl (lv_at hl 5 rfl) ?_
        refine g_get F hP (C := RX5) (T := TX5) (N := 3) iX5 ht rfl 1 (by decide) (List.mem_cons_of_mem _ (List.mem_append_left _ (List.mem_append_left _ (List.mem_append_left _ (List.mem_append_left _ (List.mem_of_getElem? (i := 6) rfl)))))) (fun _ h9 => h9) rfl dX5_ask_90 ?_
        refine lv_lload_n hx hb dX5_ask_93 rfl (lv_at hl 4 rfl) ?_
        refine lv_lneg hx hb dX5_ask_94 ?_
        refine lv_topl (fun v4 ev4 => ?_)
        obtain rfl : v4 = zL (askX pl nu de wt N) := by
          rw [ev4]
          exact zL_neg _
        refine lv_aload_n hx hb dX5_ask_95 rfl (lv_at hl 6 rfl) ?_
        refine g_get F hP (C := RX9) (T := TX9) (N := 2) iX9 f2 rfl 1 (by decide) (List.mem_cons_of_mem _ (List.mem_append_left _ (List.mem_append_left _ (List.mem_append_left _ (List.mem_append_left _ (List.mem_of_getElem? (i := 4) rfl)))))) (fun _ h9 => h9) rfl dX5_ask_96 ?_
        refine lv_i2l hx hb dX5_ask_99 rfl ?_
        refine lv_topl (fun v5 ev5 => ?_)
        obtain rfl : v5 = zL (wt pl) := by
          rw [ev5]
          have := hwt pl hpl
          exact iL_64 (by omega) (by omega)
        refine lv_lload hx hb dX5_ask_100 (lv_at hl 3 rfl) ?_
        refine lv_lmul hx hb dX5_ask_102 ?_
        refine lv_topl (fun v6 ev6 => ?_)
        obtain rfl : v6 = zL (askY pl nu de wt N) := by
          rw [ev6]
          exact zL_mul _ _
        refine g_Vv (As := [.long (zL (askX pl nu de wt N)), .long (zL (askY pl nu de wt N))]) (rest := []) F hP hS (k_X0_become l A G w fr (askX pl nu de wt N) (askY pl nu de wt N) n0 d0 hfr hB.1 hB.2.1 hB.2.2) (cwV 2 hts gX5_ask_X0_become rfl rfl rfl cd_X0_become ⟨by rw [hR]; exact Nat.le_of_ble_eq_true rfl, by rw [hR]; exact Nat.le_of_ble_eq_true rfl⟩) hfr rfl rfl rfl hl.1 (Nat.le_of_ble_eq_true rfl) dX5_ask_103 ⟨by rw [hR]; exact Nat.le_of_ble_eq_true rfl, by rw [hR]; exact Nat.le_of_ble_eq_true rfl⟩ rfl (fun w8 H locs h9 hP hS => ?_)
        have f10 : w8 t = some (.inr (6, [.ref art, .ref fr, .int asd])) := by rw [h9]; exact g_up_f ht (g_ne ht hfr rfl)
        have f11 : w8 art = some (.inl (G.2.1 4, N, .inr (.inr (.inr (.inr fS))))) := by rw [h9]; exact g_up_f has (g_ne has hfr rfl)
        have f12 : w8 (te pl) = some (.inr (9, [.ref (sa pl), .int (Int32.ofInt (wt pl))])) := by rw [h9]; exact g_up_f f2 (g_ne f2 hfr rfl)
        have f13 : w8 (sa pl) = some (.inr (5, [.int (X pl), .int (Y pl), .int (HD pl), .int (ST pl), .ref (sf pl)])) := by rw [h9]; exact g_up_f f3 (g_ne f3 hfr rfl)
        have f14 : w8 fr = some (.inr (1, [.long (zL (fN (askX pl nu de wt N) (askY pl nu de wt N))), .long (zL (fD (askX pl nu de wt N) (askY pl nu de wt N)))])) := by rw [h9]; exact g_up_s _ _ _
        rw [hQ]
        refine g_vret F hP hS hlocks hr dX5_ask_106 (by first | exact Nat.le_of_ble_eq_true rfl | omega) (by first | exact Nat.le_of_ble_eq_true rfl | omega) ?_
        exact h9
      · have hk : k < N := Nat.not_le.mp (fun q => c1 (nI_le q (by omega)))
        have hwk := hwt k hk
        refine lv_aload hx hb dX5_ask_26 (lv_at hl 2 rfl) ?_
        refine lv_iload hx hb dX5_ask_28 (lv_at hl 0 rfl) ?_
        refine g_aldqS F hP has (vp_in_nI hk (by omega)) dX5_ask_30 ?_
        have f15 := hte k hk
        have f16 := hsa k hk
        have f17 := hsf k hk
        rw [show (va_rf (fS (nI k : Int32).toNatClampNeg) : Value) = .ref (te k) from by rw [nI_clamp (by omega), hfS k hk]; rfl]
        refine lv_astore (lv' := [(9, .ref (te k)), (8, .int (nI k)), (7, .int (nI N)), (6, .ref art), (4, .long (zL (askS pl nu de wt k).2)), (2, .long (zL (askS pl nu de wt k).1)), (0, .ref t), (1, .ref (te pl))]) hx hb dX5_ask_31 hl (by decide) rfl (fun ls hl => ?_)
        refine lv_aload hx hb dX5_ask_33 (lv_at hl 0 rfl) ?_
        refine lv_aload_n hx hb dX5_ask_35 rfl (lv_at hl 7 rfl) ?_
        refine lv_acmp_eq (tgt := 83) (rx := (some (te k))) (ry := (some (te pl))) hx hb dX5_ask_36 (by decide) (fun c18 => ?_) (fun c18 => ?_)
        · have ec18 : k = pl := hti k pl hk hpl (Option.some.inj c18)
          have hl : lv_has ls 11 [(9, .ref (te k)), (8, .int (nI k)), (7, .int (nI N)), (6, .ref art), (4, .long (zL (askS pl nu de wt (k + 1)).2)), (2, .long (zL (askS pl nu de wt (k + 1)).1)), (0, .ref t), (1, .ref (te pl))] := by rw [askS_eq ec18]; exact hl
          obtain ⟨i19, ei19⟩ : ∃ y : Int32, y = nI k + (1) := ⟨_, rfl⟩
          refine lv_iinc (v := i19) (lv' := [(8, .int i19), (9, .ref (te k)), (7, .int (nI N)), (6, .ref art), (4, .long (zL (askS pl nu de wt (k + 1)).2)), (2, .long (zL (askS pl nu de wt (k + 1)).1)), (0, .ref t), (1, .ref (te pl))]) hx hb dX5_ask_83 hl (k := 1) rfl (by rw [ei19]; rfl) (by decide) rfl (fun ls hl => ?_)
          obtain rfl : i19 = nI (k + 1) := by
            rw [ei19]
            exact nI_1 k
          refine lv_goto (tgt := 19) hx hb dX5_ask_86 (by decide) ?_
          exact ih_L19 (k + 1)  H locs ls (by omega) (hk) hP hS (lv_sub hl [0, 2, 3, 4, 5, 6, 7] rfl)
        · have ec18 : k ≠ pl := fun q => c18 (by rw [q])
          refine lv_aload hx hb dX5_ask_39 (lv_at hl 0 rfl) ?_
          refine g_get F hP (C := RX9) (T := TX9) (N := 2) iX9 f15 rfl 0 (by decide) (List.mem_cons_of_mem _ (List.mem_append_left _ (List.mem_append_left _ (List.mem_append_left _ (List.mem_append_left _ (List.mem_of_getElem? (i := 1) rfl)))))) (fun _ h9 => h9) rfl dX5_ask_41 ?_
          refine g_get F hP (C := RX4) (T := TX4) (N := 5) iX4 f16 rfl 4 (by decide) (List.mem_cons_of_mem _ (List.mem_append_left _ (List.mem_append_left _ (List.mem_append_left _ (List.mem_append_left _ (List.mem_of_getElem? (i := 2) rfl)))))) (fun _ h9 => h9) rfl dX5_ask_44 ?_
          refine lv_astore (lv' := [(10, .ref (sf k)), (9, .ref (te k)), (8, .int (nI k)), (7, .int (nI N)), (6, .ref art), (4, .long (zL (askS pl nu de wt k).2)), (2, .long (zL (askS pl nu de wt k).1)), (0, .ref t), (1, .ref (te pl))]) hx hb dX5_ask_47 hl (by decide) rfl (fun ls hl => ?_)
          refine lv_lload_n hx hb dX5_ask_49 rfl (lv_at hl 6 rfl) ?_
          refine lv_aload hx hb dX5_ask_50 (lv_at hl 0 rfl) ?_
          refine g_get F hP (C := RX0) (T := TX0) (N := 2) iX0 f17 rfl 1 (by decide) (List.mem_cons_of_mem _ (List.mem_append_left _ (List.mem_append_left _ (List.mem_append_left _ (List.mem_append_left _ (List.mem_of_getElem? (i := 3) rfl)))))) (fun _ h9 => h9) rfl dX5_ask_52 ?_
          refine lv_lmul hx hb dX5_ask_55 ?_
          refine lv_topl (fun v20 ev20 => ?_)
          obtain rfl : v20 = zL ((askS pl nu de wt k).1 * de k) := by
            rw [ev20]
            exact zL_mul _ _
          refine lv_aload hx hb dX5_ask_56 (lv_at hl 1 rfl) ?_
          refine g_get F hP (C := RX9) (T := TX9) (N := 2) iX9 f15 rfl 1 (by decide) (List.mem_cons_of_mem _ (List.mem_append_left _ (List.mem_append_left _ (List.mem_append_left _ (List.mem_append_left _ (List.mem_of_getElem? (i := 4) rfl)))))) (fun _ h9 => h9) rfl dX5_ask_58 ?_
          refine lv_i2l hx hb dX5_ask_61 rfl ?_
          refine lv_topl (fun v21 ev21 => ?_)
          obtain rfl : v21 = zL (wt k) := by
            rw [ev21]
            exact iL_64 (by omega) (by omega)
          refine lv_aload hx hb dX5_ask_62 (lv_at hl 0 rfl) ?_
          refine g_get F hP (C := RX0) (T := TX0) (N := 2) iX0 f17 rfl 0 (by decide) (List.mem_cons_of_mem _ (List.mem_append_left _ (List.mem_append_left _ (List.mem_append_left _ (List.mem_append_left _ (List.mem_of_getElem? (i := 5) rfl)))))) (fun _ h9 => h9) rfl dX5_ask_64 ?_
          refine lv_lmul hx hb dX5_ask_67 ?_
          refine lv_topl (fun v22 ev22 => ?_)
          obtain rfl : v22 = zL (wt k * nu k) := by
            rw [ev22]
            exact zL_mul _ _
          refine lv_lload hx hb dX5_ask_68 (lv_at hl 5 rfl) ?_
          refine lv_lmul hx hb dX5_ask_70 ?_
          refine lv_topl (fun v23 ev23 => ?_)
          obtain rfl : v23 = zL (wt k * nu k * (askS pl nu de wt k).2) := by
            rw [ev23]
            exact zL_mul _ _
          refine lv_ladd hx hb dX5_ask_71 ?_
          refine lv_topl (fun v24 ev24 => ?_)
          obtain rfl : v24 = zL (askS pl nu de wt (k + 1)).1 := by
            rw [ev24]
            rw [zL_add, askS_ne ec18]
          refine lv_lstore_n (lv' := [(2, .long (zL (askS pl nu de wt (k + 1)).1)), (10, .ref (sf k)), (9, .ref (te k)), (8, .int (nI k)), (7, .int (nI N)), (6, .ref art), (4, .long (zL (askS pl nu de wt k).2)), (0, .ref t), (1, .ref (te pl))]) hx hb dX5_ask_72 rfl hl (by decide) rfl (fun ls hl => ?_)
          refine lv_lload hx hb dX5_ask_73 (lv_at hl 6 rfl) ?_
          refine lv_aload hx hb dX5_ask_75 (lv_at hl 1 rfl) ?_
          refine g_get F hP (C := RX0) (T := TX0) (N := 2) iX0 f17 rfl 1 (by decide) (List.mem_cons_of_mem _ (List.mem_append_left _ (List.mem_append_left _ (List.mem_append_left _ (List.mem_append_left _ (List.mem_of_getElem? (i := 3) rfl)))))) (fun _ h9 => h9) rfl dX5_ask_77 ?_
          refine lv_lmul hx hb dX5_ask_80 ?_
          refine lv_topl (fun v25 ev25 => ?_)
          obtain rfl : v25 = zL (askS pl nu de wt (k + 1)).2 := by
            rw [ev25]
            rw [zL_mul, askS_ne ec18]
          refine lv_lstore (lv' := [(4, .long (zL (askS pl nu de wt (k + 1)).2)), (2, .long (zL (askS pl nu de wt (k + 1)).1)), (10, .ref (sf k)), (9, .ref (te k)), (8, .int (nI k)), (7, .int (nI N)), (6, .ref art), (0, .ref t), (1, .ref (te pl))]) hx hb dX5_ask_81 hl (by decide) rfl (fun ls hl => ?_)
          obtain ⟨i26, ei26⟩ : ∃ y : Int32, y = nI k + (1) := ⟨_, rfl⟩
          refine lv_iinc (v := i26) (lv' := [(8, .int i26), (4, .long (zL (askS pl nu de wt (k + 1)).2)), (2, .long (zL (askS pl nu de wt (k + 1)).1)), (10, .ref (sf k)), (9, .ref (te k)), (7, .int (nI N)), (6, .ref art), (0, .ref t), (1, .ref (te pl))]) hx hb dX5_ask_83 hl (k := 4) rfl (by rw [ei26]; rfl) (by decide) rfl (fun ls hl => ?_)
          obtain rfl : i26 = nI (k + 1) := by
            rw [ei26]
            exact nI_1 k
          refine lv_goto (tgt := 19) hx hb dX5_ask_86 (by decide) ?_
          exact ih_L19 (k + 1)  H locs ls (by omega) (hk) hP hS (lv_sub hl [0, 5, 6, 1, 2, 7, 8] rfl)
  exact L19 (N + 1) 0  H locs ls (by omega) (Nat.zero_le _) hP hS (lv_sub hl [0, 1, 2, 3, 4, 5, 6] rfl)
