theorem cd_X5_onlyUnknown : yX5_onlyUnknown.cls = RX5 ∧ yX5_onlyUnknown.cls ≠ "java/lang/invoke/MethodHandle" ∧ yX5_onlyUnknown.cls ≠ "java/lang/invoke/VarHandle" ∧ (parseMethodDescriptor yX5_onlyUnknown.desc).map (fun d => d.parameters.length) = some 0 := by decide +kernel
theorem cd_X5_ask : yX5_ask.cls = RX5 ∧ yX5_ask.cls ≠ "java/lang/invoke/MethodHandle" ∧ yX5_ask.cls ≠ "java/lang/invoke/VarHandle" ∧ (parseMethodDescriptor yX5_ask.desc).map (fun d => d.parameters.length) = some 1 := by decide +kernel
theorem cd_X0_isTooGreat : yX0_isTooGreat.cls = RX0 ∧ yX0_isTooGreat.cls ≠ "java/lang/invoke/MethodHandle" ∧ yX0_isTooGreat.cls ≠ "java/lang/invoke/VarHandle" ∧ (parseMethodDescriptor yX0_isTooGreat.desc).map (fun d => d.parameters.length) = some 0 := by decide +kernel
theorem cd_X5_greatestStage : yX5_greatestStage.cls = RX5 ∧ yX5_greatestStage.cls ≠ "java/lang/invoke/MethodHandle" ∧ yX5_greatestStage.cls ≠ "java/lang/invoke/VarHandle" ∧ (parseMethodDescriptor yX5_greatestStage.desc).map (fun d => d.parameters.length) = some 0 := by decide +kernel
theorem cd_X4_learn : yX4_learn.cls = RX4 ∧ yX4_learn.cls ≠ "java/lang/invoke/MethodHandle" ∧ yX4_learn.cls ≠ "java/lang/invoke/VarHandle" ∧ (parseMethodDescriptor yX4_learn.desc).map (fun d => d.parameters.length) = some 2 := by decide +kernel
set_option maxHeartbeats 4000000 in
set_option maxRecDepth 100000 in
theorem k_X5_tellsOrStepsAside (l : Launch) (A : Nat → Prop) (G : g_C) (w : g_W) (t art : Nat) (te : Nat → Nat) (fr N : Nat) (sa sf : Nat → Nat) (wt : Nat → Int) (X Y HD ST : Nat → Int32) (nu de : Nat → Int) (ab : Bool) (T : tieW G w t art te fr N sa sf wt X Y HD ST nu de (g_b ab)) (hN : N ≤ 3) (hwt : ∀ k, k < N → (wt k).natAbs ≤ 400) (hB : ∀ pl, pl < N → askB pl nu de wt N) (hsfr : ∀ k, k < N → sf k ≠ fr) : mI l yX5_tellsOrStepsAside wsX5_tellsOrStepsAside ({ frames := 3, cells := 0, slots := 0, locals := 98 } : Room) [.ref t] A G w (fun r w' => ((ab = true ∨ ∀ k, ¬ onlyU ST N k) ∧ r = 0 ∧ w' = w) ∨ (ab = false ∧ ∃ pl, onlyU ST N pl ∧ r = 1 ∧ (((1000000 < (fN (askX pl nu de wt N) (askY pl nu de wt N)).natAbs ∨ 1000000 < (fD (askX pl nu de wt N) (askY pl nu de wt N))) ∧ w' = g_up (g_up w fr (.inr (1, [.long (zL (fN (askX pl nu de wt N) (askY pl nu de wt N))), .long (zL (fD (askX pl nu de wt N) (askY pl nu de wt N)))]))) t (.inr (6, [.ref art, .ref fr, .int 1]))) ∨ (¬ (1000000 < (fN (askX pl nu de wt N) (askY pl nu de wt N)).natAbs ∨ 1000000 < (fD (askX pl nu de wt N) (askY pl nu de wt N))) ∧ w' = g_up (g_up (g_up w fr (.inr (1, [.long (zL (fN (askX pl nu de wt N) (askY pl nu de wt N))), .long (zL (fD (askX pl nu de wt N) (askY pl nu de wt N)))]))) (sf pl) (.inr (1, [.long (zL (fN (askX pl nu de wt N) (askY pl nu de wt N))), .long (zL (fD (askX pl nu de wt N) (askY pl nu de wt N)))]))) (sa pl) (.inr (5, [.int (X pl), .int (Y pl), .int (HD pl), .int (1 + gS ST N), .ref (sf pl)])))))) 0 0 := by
  refine g_ofI (cc := cX5_tellsOrStepsAside) (maxL := 2) (ret := (some .boolean)) (own := RX5) (by decide) rfl rfl (Nat.le_of_ble_eq_true rfl) ?_
  intro p e R s m args below meth c Q ls hR F hP hS hlocks hr hnm0 hQ hl
  obtain ⟨⟨hx, hb, hml, hown, hts⟩, hK, hZ, hA⟩ := id F
  generalize hH0 : s.heap = H at hP ⊢
  have hS : va_S A s.heap H [] := by rw [← hH0]; exact va_S.rf
  generalize ([] : List Loc) = locs at hS ⊢
  have hl : lv_has ls 2 [(0, .ref t)] := hl
  have iX5 : ∀ w ∈ u_ws RX5 TX5 3, w ∈ wsX5_tellsOrStepsAside := fun w h => List.mem_cons_of_mem _ (List.mem_append_left _ (List.mem_append_left _ (List.mem_append_left _ (List.mem_append_right _ (h)))))
  have iX9 : ∀ w ∈ u_ws RX9 TX9 2, w ∈ wsX5_tellsOrStepsAside := fun w h => List.mem_cons_of_mem _ (List.mem_append_left _ (List.mem_append_left _ (List.mem_append_right _ (h))))
  have T0 := T
  obtain ⟨ht, ⟨fS, has, hfS⟩, ⟨hte, hti⟩, ⟨n0, d0, hfr⟩, hsa, hsf⟩ := T
  refine lv_aload_n hx hb dX5_tellsOrStepsAside_0 rfl (lv_at hl 0 rfl) ?_
  refine g_get F hP (C := RX5) (T := TX5) (N := 3) iX5 ht rfl 2 (by decide) (List.mem_cons_of_mem _ (List.mem_append_left _ (List.mem_append_left _ (List.mem_append_left _ (List.mem_append_left _ (List.mem_append_left _ (List.mem_of_getElem? (i := 0) rfl))))))) (fun _ h9 => h9) rfl dX5_tellsOrStepsAside_1 ?_
  refine lv_if_eq (tgt := 11) hx hb dX5_tellsOrStepsAside_4 (by decide) (fun c1 => ?_) (fun c1 => ?_)
  · have yc1 : ab = false := g_b0.mp c1
    refine lv_aload_n hx hb dX5_tellsOrStepsAside_11 rfl (lv_at hl 0 rfl) ?_
    refine g_Vq (As := []) (rest := []) F hP hS (k_X5_onlyUnknown l A G w t art te fr N sa sf wt X Y HD ST nu de (g_b ab) T0 hN) (cwV 0 hts gX5_tellsOrStepsAside_X5_onlyUnknown rfl rfl rfl cd_X5_onlyUnknown ⟨by rw [hR]; exact Nat.le_of_ble_eq_true rfl, by rw [hR]; exact Nat.le_of_ble_eq_true rfl⟩) ht rfl rfl rfl hl.1 (Nat.le_of_ble_eq_true rfl) dX5_tellsOrStepsAside_12 ⟨by rw [hR]; exact Nat.le_of_ble_eq_true rfl, by rw [hR]; exact Nat.le_of_ble_eq_true rfl⟩ rfl (fun r2 w3 H locs h4 hP hS => ?_)
    rw [h4.2] at hP
    rcases h4.1 with ⟨pl, er, hU⟩ | ⟨er, hno⟩
    · rw [er, show va_rf (some (te pl)) = (.ref (te pl) : Value) from rfl]
      have f5 := hte pl hU.1
      have f6 := hsa pl hU.1
      have f7 := hsf pl hU.1
      obtain ⟨hB1, hB2, hB3⟩ := hB pl hU.1
      have kn := fN_le (askX pl nu de wt N) (askY pl nu de wt N); have kd := fD_le (askX pl nu de wt N) (askY pl nu de wt N)
      refine lv_astore_n (lv' := [(1, .ref (te pl)), (0, .ref t)]) hx hb dX5_tellsOrStepsAside_15 rfl hl (by decide) rfl (fun ls hl => ?_)
      refine lv_aload_n hx hb dX5_tellsOrStepsAside_16 rfl (lv_at hl 0 rfl) ?_
      refine lv_ifnonnull (tgt := 22) hx hb dX5_tellsOrStepsAside_17 (by decide) ?_
      refine lv_aload_n hx hb dX5_tellsOrStepsAside_22 rfl (lv_at hl 1 rfl) ?_
      refine lv_aload_n hx hb dX5_tellsOrStepsAside_23 rfl (lv_at hl 0 rfl) ?_
      refine g_Vv (As := [.ref (te pl)]) (rest := []) F hP hS (k_X5_ask l A G w t art te fr N sa sf wt X Y HD ST nu de (g_b ab) pl T0 hN hU.1 hwt ⟨hB1, hB2, hB3⟩) (cwV 1 hts gX5_tellsOrStepsAside_X5_ask rfl rfl rfl cd_X5_ask ⟨by rw [hR]; exact Nat.le_of_ble_eq_true rfl, by rw [hR]; exact Nat.le_of_ble_eq_true rfl⟩) ht rfl rfl rfl hl.1 (Nat.le_of_ble_eq_true rfl) dX5_tellsOrStepsAside_24 ⟨by rw [hR]; exact Nat.le_of_ble_eq_true rfl, by rw [hR]; exact Nat.le_of_ble_eq_true rfl⟩ rfl (fun w9 H locs h10 hP hS => ?_)
      have f11 : w9 t = some (.inr (6, [.ref art, .ref fr, .int (g_b ab)])) := by rw [h10]; exact g_up_f ht (g_ne ht hfr rfl)
      have f12 : w9 art = some (.inl (G.2.1 4, N, .inr (.inr (.inr (.inr fS))))) := by rw [h10]; exact g_up_f has (g_ne has hfr rfl)
      have f13 : w9 (te pl) = some (.inr (9, [.ref (sa pl), .int (Int32.ofInt (wt pl))])) := by rw [h10]; exact g_up_f f5 (g_ne f5 hfr rfl)
      have f14 : w9 (sa pl) = some (.inr (5, [.int (X pl), .int (Y pl), .int (HD pl), .int (ST pl), .ref (sf pl)])) := by rw [h10]; exact g_up_f f6 (g_ne f6 hfr rfl)
      have f15 : w9 (sf pl) = some (.inr (1, [.long (zL (nu pl)), .long (zL (de pl))])) := by rw [h10]; exact g_up_f f7 (hsfr pl hU.1)
      have f16 : w9 fr = some (.inr (1, [.long (zL (fN (askX pl nu de wt N) (askY pl nu de wt N))), .long (zL (fD (askX pl nu de wt N) (askY pl nu de wt N)))])) := by rw [h10]; exact g_up_s _ _ _
      have T1 := tieW_fr T0 hsfr (zL (fN (askX pl nu de wt N) (askY pl nu de wt N))) (zL (fD (askX pl nu de wt N) (askY pl nu de wt N)))
      rw [← h10] at T1
      refine lv_aload_n hx hb dX5_tellsOrStepsAside_27 rfl (lv_at hl 1 rfl) ?_
      refine g_get F hP (C := RX5) (T := TX5) (N := 3) iX5 f11 rfl 1 (by decide) (List.mem_cons_of_mem _ (List.mem_append_left _ (List.mem_append_left _ (List.mem_append_left _ (List.mem_append_left _ (List.mem_append_left _ (List.mem_of_getElem? (i := 1) rfl))))))) (fun _ h9 => h9) rfl dX5_tellsOrStepsAside_28 ?_
      refine g_Vi (As := []) (rest := []) F hP hS (k_X0_isTooGreat l A G w9 fr (fN (askX pl nu de wt N) (askY pl nu de wt N)) (fD (askX pl nu de wt N) (askY pl nu de wt N)) f16 (by omega) (by omega)) (cwV 0 hts gX5_tellsOrStepsAside_X0_isTooGreat rfl rfl rfl cd_X0_isTooGreat ⟨by rw [hR]; exact Nat.le_of_ble_eq_true rfl, by rw [hR]; exact Nat.le_of_ble_eq_true rfl⟩) f16 rfl rfl rfl hl.1 (Nat.le_of_ble_eq_true rfl) dX5_tellsOrStepsAside_31 ⟨by rw [hR]; exact Nat.le_of_ble_eq_true rfl, by rw [hR]; exact Nat.le_of_ble_eq_true rfl⟩ rfl (fun r17 w18 H locs h19 hP hS => ?_)
      have hr17 := h19.1
      rw [h19.2] at hP
      rw [hr17]
      refine lv_if_eq (tgt := 45) hx hb dX5_tellsOrStepsAside_34 (by decide) (fun c20 => ?_) (fun c20 => ?_)
      · have yc20 := of_decide_eq_false (g_b0.mp c20)
        refine lv_aload_n hx hb dX5_tellsOrStepsAside_45 rfl (lv_at hl 0 rfl) ?_
        refine g_get F hP (C := RX9) (T := TX9) (N := 2) iX9 f13 rfl 0 (by decide) (List.mem_cons_of_mem _ (List.mem_append_left _ (List.mem_append_left _ (List.mem_append_left _ (List.mem_append_left _ (List.mem_append_left _ (List.mem_of_getElem? (i := 2) rfl))))))) (fun _ h9 => h9) rfl dX5_tellsOrStepsAside_46 ?_
        refine lv_aload_n hx hb dX5_tellsOrStepsAside_49 rfl (lv_at hl 1 rfl) ?_
        refine g_get F hP (C := RX5) (T := TX5) (N := 3) iX5 f11 rfl 1 (by decide) (List.mem_cons_of_mem _ (List.mem_append_left _ (List.mem_append_left _ (List.mem_append_left _ (List.mem_append_left _ (List.mem_append_left _ (List.mem_of_getElem? (i := 1) rfl))))))) (fun _ h9 => h9) rfl dX5_tellsOrStepsAside_50 ?_
        refine lv_iconst (v := 1) hx hb dX5_tellsOrStepsAside_53 (by decide) ?_
        refine lv_aload_n hx hb dX5_tellsOrStepsAside_54 rfl (lv_at hl 1 rfl) ?_
        refine g_Vi (As := []) (rest := [.int 1, .ref fr, .ref (sa pl)]) F hP hS (k_X5_greatestStage l A G w9 t art te fr N sa sf wt X Y HD ST nu de (g_b ab) T1 hN) (cwV 0 hts gX5_tellsOrStepsAside_X5_greatestStage rfl rfl rfl cd_X5_greatestStage ⟨by rw [hR]; exact Nat.le_of_ble_eq_true rfl, by rw [hR]; exact Nat.le_of_ble_eq_true rfl⟩) f11 rfl rfl rfl hl.1 (Nat.le_of_ble_eq_true rfl) dX5_tellsOrStepsAside_55 ⟨by rw [hR]; exact Nat.le_of_ble_eq_true rfl, by rw [hR]; exact Nat.le_of_ble_eq_true rfl⟩ rfl (fun r21 w22 H locs h23 hP hS => ?_)
        have hr21 := h23.1
        rw [h23.2] at hP
        rw [hr21]
        refine lv_iadd hx hb dX5_tellsOrStepsAside_58 ?_
        refine lv_topi (fun v24 ev24 => ?_)
        obtain rfl : v24 = 1 + gS ST N := by
          exact ev24
        refine g_Vv (As := [.ref fr, .int (1 + gS ST N)]) (rest := []) F hP hS (k_X4_learn l A G w9 (sa pl) fr (1 + gS ST N) (X pl) (Y pl) (HD pl) (ST pl) (sf pl) (zL (nu pl)) (zL (de pl)) (fN (askX pl nu de wt N) (askY pl nu de wt N)) (fD (askX pl nu de wt N) (askY pl nu de wt N)) f14 f15 f16 (hsfr pl hU.1) (fD_pos hB1) (fND_co hB1) (by omega) (by omega)) (cwV 2 hts gX5_tellsOrStepsAside_X4_learn rfl rfl rfl cd_X4_learn ⟨by rw [hR]; exact Nat.le_of_ble_eq_true rfl, by rw [hR]; exact Nat.le_of_ble_eq_true rfl⟩) f14 rfl rfl rfl hl.1 (Nat.le_of_ble_eq_true rfl) dX5_tellsOrStepsAside_59 ⟨by rw [hR]; exact Nat.le_of_ble_eq_true rfl, by rw [hR]; exact Nat.le_of_ble_eq_true rfl⟩ rfl (fun w26 H locs h27 hP hS => ?_)
        refine lv_iconst (v := 1) hx hb dX5_tellsOrStepsAside_62 (by decide) ?_
        rw [hQ]
        refine g_zret F hP hS hlocks hr (by first | rfl | exact g_nb _) dX5_tellsOrStepsAside_63 (by first | exact Nat.le_of_ble_eq_true rfl | omega) (by first | exact Nat.le_of_ble_eq_true rfl | omega) ?_
        exact Or.inr ⟨yc1, pl, hU, rfl, Or.inr ⟨yc20, by rw [h27, h10]⟩⟩
      · have yc20 := of_decide_eq_true (g_b1.mp c20)
        refine lv_aload_n hx hb dX5_tellsOrStepsAside_37 rfl (lv_at hl 1 rfl) ?_
        refine lv_iconst (v := 1) hx hb dX5_tellsOrStepsAside_38 (by decide) ?_
        refine g_put F hP hS (C := RX5) (T := TX5) (N := 3) (v := .int 1) (ty := .boolean) iX5 tyX5 tyX5_ok nmX5 f11 rfl 2 (by decide) (List.mem_cons_of_mem _ (List.mem_append_left _ (List.mem_append_left _ (List.mem_append_left _ (List.mem_append_left _ (List.mem_append_left _ (List.mem_of_getElem? (i := 0) rfl))))))) (fun _ h9 => h9) rfl (by decide +kernel) (by first | rfl | exact g_nb _) (by first | rfl | exact g_fb _) (by show 2 < 3; decide) dX5_tellsOrStepsAside_39 (fun H locs hP hS => ?_)
        obtain ⟨w28, ew28⟩ : ∃ z, z = g_up w9 t (.inr (6, [.ref art, .ref fr, .int 1])) := ⟨_, rfl⟩
        have hP : g_P A G w28 H := by rw [ew28]; exact hP
        have f29 : w28 art = some (.inl (G.2.1 4, N, .inr (.inr (.inr (.inr fS))))) := by rw [ew28]; exact g_up_f f12 (g_ne f12 f11 rfl)
        have f30 : w28 (te pl) = some (.inr (9, [.ref (sa pl), .int (Int32.ofInt (wt pl))])) := by rw [ew28]; exact g_up_f f13 (g_ne f13 f11 rfl)
        have f31 : w28 (sa pl) = some (.inr (5, [.int (X pl), .int (Y pl), .int (HD pl), .int (ST pl), .ref (sf pl)])) := by rw [ew28]; exact g_up_f f14 (g_ne f14 f11 rfl)
        have f32 : w28 (sf pl) = some (.inr (1, [.long (zL (nu pl)), .long (zL (de pl))])) := by rw [ew28]; exact g_up_f f15 (g_ne f15 f11 rfl)
        have f33 : w28 fr = some (.inr (1, [.long (zL (fN (askX pl nu de wt N) (askY pl nu de wt N))), .long (zL (fD (askX pl nu de wt N) (askY pl nu de wt N)))])) := by rw [ew28]; exact g_up_f f16 (g_ne f16 f11 rfl)
        have f34 : w28 t = some (.inr (6, [.ref art, .ref fr, .int 1])) := by rw [ew28]; exact g_up_s _ _ _
        refine lv_goto (tgt := 62) hx hb dX5_tellsOrStepsAside_42 (by decide) ?_
        refine lv_iconst (v := 1) hx hb dX5_tellsOrStepsAside_62 (by decide) ?_
        rw [hQ]
        refine g_zret F hP hS hlocks hr (by first | rfl | exact g_nb _) dX5_tellsOrStepsAside_63 (by first | exact Nat.le_of_ble_eq_true rfl | omega) (by first | exact Nat.le_of_ble_eq_true rfl | omega) ?_
        exact Or.inr ⟨yc1, pl, hU, rfl, Or.inl ⟨yc20, by rw [ew28, h10]⟩⟩
    · rw [er, show va_rf none = (.null : Value) from rfl]
      refine lv_astore_nN (lv' := [(1, .null), (0, .ref t)]) hx hb dX5_tellsOrStepsAside_15 rfl hl (by decide) rfl (fun ls hl => ?_)
      refine lv_aload_nN hx hb dX5_tellsOrStepsAside_16 rfl (lv_at hl 0 rfl) ?_
      refine lv_ifnonnullN hx hb dX5_tellsOrStepsAside_17 ?_
      refine lv_iconst (v := 0) hx hb dX5_tellsOrStepsAside_20 (by decide) ?_
      rw [hQ]
      refine g_zret F hP hS hlocks hr (by first | rfl | exact g_nb _) dX5_tellsOrStepsAside_21 (by first | exact Nat.le_of_ble_eq_true rfl | omega) (by first | exact Nat.le_of_ble_eq_true rfl | omega) ?_
      exact Or.inl ⟨Or.inr hno, rfl, rfl⟩
  · have yc1 : ab = true := g_b1.mp c1
    refine lv_null hx hb dX5_tellsOrStepsAside_7 ?_
    refine lv_goto (tgt := 15) hx hb dX5_tellsOrStepsAside_8 (by decide) ?_
    refine lv_astore_nN (lv' := [(1, .null), (0, .ref t)]) hx hb dX5_tellsOrStepsAside_15 rfl hl (by decide) rfl (fun ls hl => ?_)
    refine lv_aload_nN hx hb dX5_tellsOrStepsAside_16 rfl (lv_at hl 0 rfl) ?_
    refine lv_ifnonnullN hx hb dX5_tellsOrStepsAside_17 ?_
    refine lv_iconst (v := 0) hx hb dX5_tellsOrStepsAside_20 (by decide) ?_
    rw [hQ]
    refine g_zret F hP hS hlocks hr (by first | rfl | exact g_nb _) dX5_tellsOrStepsAside_21 (by first | exact Nat.le_of_ble_eq_true rfl | omega) (by first | exact Nat.le_of_ble_eq_true rfl | omega) ?_
    exact Or.inl ⟨Or.inl yc1, rfl, rfl⟩
