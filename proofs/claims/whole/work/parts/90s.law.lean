set_option maxHeartbeats 4000000 in
set_option maxRecDepth 100000 in
theorem law_c14 {p : Program} {l : Launch} {e : Env} {R : Room} {s : State} {m : MethodId} {args : Array Value} {below : List Frame} {meth : Method} {c : Code} {Q : State → Prop} {A : Nat → Prop} {G : g_C} (F : g_F p m c cL_law 9 s args wsL_law RL A G) (hRf : R.frames = 12) (hRl : R.locals = 434) (hRc : R.cells = 601024) (hRs : R.slots = 7293034) (hlt : l.stackTraces = false) {b N : Nat} {xs : Nat → Int32} (hX : va_X b N xs s s.heap) (hbl : b < s.heap.size) (hbA : ¬ A b) {k : Nat} (hkN : 6 * k + 6 ≤ N) (hN : N ≤ 3072) {w : g_W} {x mo o od : Nat} {S : Sg} (J : lwJ G w x mo o od S) {H : Heap} {locs : List Loc} {ls : Array Slot} (hP : g_P A G w H) (hS : va_S A s.heap H locs) (hl : lv_has ls 9 [(0, .ref b), (1, .ref x), (2, .ref mo), (3, .ref o), (4, .ref od), (5, .int (nI (6 * k)))])
    (cont : ∀ (S' : Sg) (w' : g_W) (H' : Heap) (locs' : List Loc) (ls' : Array Slot), lwJ G w' x mo o od S' → g_P A G w' H' → va_S A s.heap H' locs' → lv_has ls' 9 [(0, .ref b), (1, .ref x), (2, .ref mo), (3, .ref o), (4, .ref od), (5, .int (nI (6 * k)))] → W p l e R s m args below meth c H' locs' (20 + 12 * k + 12) (300 + 180 * k + 180) Q (F0 m 1516 ls' [])) : W p l e R s m args below meth c H locs (20 + 12 * k) (300 + 180 * k) Q (F0 m 1207 ls []) := by
  obtain ⟨⟨hx, hb, hml, hown, hts⟩, hK, hZ, hA⟩ := id F
  obtain ⟨ad, Cn, T, md, th, tp, bt, Fm, L, fo, fd, rfl, rfl, hB, hT3, Hj, HM, Hf, ho, hod, hsep⟩ := J
  have hne := g_ne hod ho rfl
  refine lv_aload_n hx hb dL_law_1207 rfl (lv_at hl 1 rfl) ?_
  refine lv_aload_n hx hb dL_law_1208 rfl (lv_at hl 0 rfl) ?_
  refine lv_iload hx hb dL_law_1209 (lv_at hl 5 rfl) ?_
  refine lv_iconst (v := 1) hx hb dL_law_1211 (by decide) ?_
  refine lv_iadd hx hb dL_law_1212 ?_
  refine lv_topi (fun v1 ev1 => ?_)
  obtain rfl : v1 = nI (6 * k + 1) := by
    rw [ev1]
    exact nI_add _ 1
  refine va_sld hx hb hX hbl hbA hS (vp_in_nI (n := 6 * k + 1) (by omega) (by omega)) dL_law_1213 ?_
  rw [nI_clamp (n := 6 * k + 1) (by omega)]
  refine lv_if_eq (tgt := 1221) hx hb dL_law_1214 (by decide) (fun c2 => ?_) (fun c2 => ?_)
  · have zb := c2
    refine lv_iconst (v := 0) hx hb dL_law_1221 (by decide) ?_
    rw [show (.int 0 : Value) = .int (g_b (decide (xs (6 * k + 1) ≠ 0))) from by rw [decide_eq_false (fun q => q zb)]; rfl]
    have hx0 := rep_x hB.1 hB.2.1
    refine g_Vi (As := [.int (g_b (decide (xs (6 * k + 1) ≠ 0)))]) (rest := []) F hP hS (k_X6_broken l A G w ad Cn S T (decide (xs (6 * k + 1) ≠ 0)) hB.1 hB.2.1 hB.2.2.1 hB.2.2.2.1) (cwV 1 hts gL_law_X6_broken rfl rfl rfl cd_X6_broken ⟨by rw [hRf]; exact Nat.le_of_ble_eq_true rfl, by rw [hRl]; exact Nat.le_of_ble_eq_true rfl⟩) (hx0) rfl rfl rfl hl.1 (Nat.le_of_ble_eq_true rfl) dL_law_1222 ⟨by omega, by omega⟩ rfl (fun r3 w4 H locs h5 hP hS => ?_)
    obtain ⟨er, Cn1, hu1, hr1⟩ := h5
    have hA9 := after_up hB hu1 hr1
    have h1f : ∀ a, w4 a ≠ none → a ≠ o → a ≠ od → w4 a = w4 a := fun _ _ _ _ => rfl
    have HM1 := lw_m1 hA9 hsep HM
    have g1 := lw_o hA9 hsep (Or.inl rfl) ho
    have g2 := lw_o hA9 hsep (Or.inr rfl) hod
    rw [er, t3_broken hT3]
    refine lv_aload_n hx hb dL_law_1225 rfl (lv_at hl 2 rfl) ?_
    refine lv_aload_n hx hb dL_law_1226 rfl (lv_at hl 0 rfl) ?_
    refine lv_iload hx hb dL_law_1227 (lv_at hl 5 rfl) ?_
    refine lv_iconst (v := 1) hx hb dL_law_1229 (by decide) ?_
    refine lv_iadd hx hb dL_law_1230 ?_
    refine lv_topi (fun v6 ev6 => ?_)
    obtain rfl : v6 = nI (6 * k + 1) := by
      rw [ev6]
      exact nI_add _ 1
    refine va_sld hx hb hX hbl hbA hS (vp_in_nI (n := 6 * k + 1) (by omega) (by omega)) dL_law_1231 ?_
    rw [nI_clamp (n := 6 * k + 1) (by omega)]
    refine lv_if_eq (tgt := 1239) hx hb dL_law_1232 (by decide) (fun c7 => ?_) (fun c7 => ?_)
    · refine lv_iconst (v := 0) hx hb dL_law_1239 (by decide) ?_
      rw [show (.int 0 : Value) = .int (g_b (decide (xs (6 * k + 1) ≠ 0))) from by rw [decide_eq_false (fun q => q zb)]; rfl]
      refine g_Vi (As := [.int (g_b (decide (xs (6 * k + 1) ≠ 0)))]) (rest := [.int (vlBroken S (told S) (decide (xs (6 * k + 1) ≠ 0)))]) F hP hS (k_X7_broken l A G w4 md S th tp bt Fm L (decide (xs (6 * k + 1) ≠ 0)) HM1 Hj Hf hB.2.2.1) (cwV 1 hts gL_law_X7_broken rfl rfl rfl cd_X7_broken ⟨by rw [hRf]; exact Nat.le_of_ble_eq_true rfl, by rw [hRl]; exact Nat.le_of_ble_eq_true rfl⟩) (HM1.1) rfl rfl rfl hl.1 (Nat.le_of_ble_eq_true rfl) dL_law_1240 ⟨by omega, by omega⟩ rfl (fun r2 w8 H locs h9 hP hS => ?_)
      obtain ⟨ok, hM2⟩ := h9
      rw [ok]
      refine lv_icmp_eq (tgt := 1516) hx hb dL_law_1243 (by decide) (fun c10 => ?_) (fun c10 => ?_)
      · refine W.widen (k := 20 + 12 * k + 12) (n := 300 + 180 * k + 180) (by omega) (by omega) ?_
        exact cont _ w8 H locs ls (lw_step hB hsep Hj HM ho hod hA9 h1f g1 g2 hM2) hP hS (lv_sub hl [0, 1, 2, 3, 4, 5] rfl)
      · exact absurd rfl c10
    · exact absurd zb c7
  · have zb := c2
    refine lv_iconst (v := 1) hx hb dL_law_1217 (by decide) ?_
    refine lv_goto (tgt := 1222) hx hb dL_law_1218 (by decide) ?_
    rw [show (.int 1 : Value) = .int (g_b (decide (xs (6 * k + 1) ≠ 0))) from by rw [decide_eq_true zb]; rfl]
    have hx0 := rep_x hB.1 hB.2.1
    refine g_Vi (As := [.int (g_b (decide (xs (6 * k + 1) ≠ 0)))]) (rest := []) F hP hS (k_X6_broken l A G w ad Cn S T (decide (xs (6 * k + 1) ≠ 0)) hB.1 hB.2.1 hB.2.2.1 hB.2.2.2.1) (cwV 1 hts gL_law_X6_broken rfl rfl rfl cd_X6_broken ⟨by rw [hRf]; exact Nat.le_of_ble_eq_true rfl, by rw [hRl]; exact Nat.le_of_ble_eq_true rfl⟩) (hx0) rfl rfl rfl hl.1 (Nat.le_of_ble_eq_true rfl) dL_law_1222 ⟨by omega, by omega⟩ rfl (fun r11 w12 H locs h13 hP hS => ?_)
    obtain ⟨er, Cn1, hu1, hr1⟩ := h13
    have hA9 := after_up hB hu1 hr1
    have h1f : ∀ a, w12 a ≠ none → a ≠ o → a ≠ od → w12 a = w12 a := fun _ _ _ _ => rfl
    have HM1 := lw_m1 hA9 hsep HM
    have g1 := lw_o hA9 hsep (Or.inl rfl) ho
    have g2 := lw_o hA9 hsep (Or.inr rfl) hod
    rw [er, t3_broken hT3]
    refine lv_aload_n hx hb dL_law_1225 rfl (lv_at hl 2 rfl) ?_
    refine lv_aload_n hx hb dL_law_1226 rfl (lv_at hl 0 rfl) ?_
    refine lv_iload hx hb dL_law_1227 (lv_at hl 5 rfl) ?_
    refine lv_iconst (v := 1) hx hb dL_law_1229 (by decide) ?_
    refine lv_iadd hx hb dL_law_1230 ?_
    refine lv_topi (fun v14 ev14 => ?_)
    obtain rfl : v14 = nI (6 * k + 1) := by
      rw [ev14]
      exact nI_add _ 1
    refine va_sld hx hb hX hbl hbA hS (vp_in_nI (n := 6 * k + 1) (by omega) (by omega)) dL_law_1231 ?_
    rw [nI_clamp (n := 6 * k + 1) (by omega)]
    refine lv_if_eq (tgt := 1239) hx hb dL_law_1232 (by decide) (fun c15 => ?_) (fun c15 => ?_)
    · exact absurd c15 zb
    · refine lv_iconst (v := 1) hx hb dL_law_1235 (by decide) ?_
      refine lv_goto (tgt := 1240) hx hb dL_law_1236 (by decide) ?_
      rw [show (.int 1 : Value) = .int (g_b (decide (xs (6 * k + 1) ≠ 0))) from by rw [decide_eq_true zb]; rfl]
      refine g_Vi (As := [.int (g_b (decide (xs (6 * k + 1) ≠ 0)))]) (rest := [.int (vlBroken S (told S) (decide (xs (6 * k + 1) ≠ 0)))]) F hP hS (k_X7_broken l A G w12 md S th tp bt Fm L (decide (xs (6 * k + 1) ≠ 0)) HM1 Hj Hf hB.2.2.1) (cwV 1 hts gL_law_X7_broken rfl rfl rfl cd_X7_broken ⟨by rw [hRf]; exact Nat.le_of_ble_eq_true rfl, by rw [hRl]; exact Nat.le_of_ble_eq_true rfl⟩) (HM1.1) rfl rfl rfl hl.1 (Nat.le_of_ble_eq_true rfl) dL_law_1240 ⟨by omega, by omega⟩ rfl (fun r2 w16 H locs h17 hP hS => ?_)
      obtain ⟨ok, hM2⟩ := h17
      rw [ok]
      refine lv_icmp_eq (tgt := 1516) hx hb dL_law_1243 (by decide) (fun c18 => ?_) (fun c18 => ?_)
      · refine W.widen (k := 20 + 12 * k + 12) (n := 300 + 180 * k + 180) (by omega) (by omega) ?_
        exact cont _ w16 H locs ls (lw_step hB hsep Hj HM ho hod hA9 h1f g1 g2 hM2) hP hS (lv_sub hl [0, 1, 2, 3, 4, 5] rfl)
      · exact absurd rfl c18
