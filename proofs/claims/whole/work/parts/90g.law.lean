set_option maxHeartbeats 4000000 in
set_option maxRecDepth 100000 in
theorem law_c5 {p : Program} {l : Launch} {e : Env} {R : Room} {s : State} {m : MethodId} {args : Array Value} {below : List Frame} {meth : Method} {c : Code} {Q : State → Prop} {A : Nat → Prop} {G : g_C} (F : g_F p m c cL_law 9 s args wsL_law RL A G) (hRf : R.frames = 12) (hRl : R.locals = 434) (hRc : R.cells = 601024) (hRs : R.slots = 7293034) (hlt : l.stackTraces = false) {b N : Nat} {xs : Nat → Int32} (hX : va_X b N xs s s.heap) (hbl : b < s.heap.size) (hbA : ¬ A b) {k : Nat} (hkN : 6 * k + 6 ≤ N) (hN : N ≤ 3072) {w : g_W} {x mo o od : Nat} {S : Sg} (J : lwJ G w x mo o od S) {H : Heap} {locs : List Loc} {ls : Array Slot} (hP : g_P A G w H) (hS : va_S A s.heap H locs) (hl : lv_has ls 9 [(0, .ref b), (1, .ref x), (2, .ref mo), (3, .ref o), (4, .ref od), (5, .int (nI (6 * k)))])
    (cont : ∀ (S' : Sg) (w' : g_W) (H' : Heap) (locs' : List Loc) (ls' : Array Slot), lwJ G w' x mo o od S' → g_P A G w' H' → va_S A s.heap H' locs' → lv_has ls' 9 [(0, .ref b), (1, .ref x), (2, .ref mo), (3, .ref o), (4, .ref od), (5, .int (nI (6 * k)))] → W p l e R s m args below meth c H' locs' (20 + 12 * k + 12) (300 + 180 * k + 180) Q (F0 m 1516 ls' [])) : W p l e R s m args below meth c H locs (20 + 12 * k) (300 + 180 * k) Q (F0 m 528 ls []) := by
  obtain ⟨⟨hx, hb, hml, hown, hts⟩, hK, hZ, hA⟩ := id F
  obtain ⟨ad, Cn, T, md, th, tp, bt, Fm, L, fo, fd, rfl, rfl, hB, hT3, Hj, HM, Hf, ho, hod, hsep⟩ := J
  have hne := g_ne hod ho rfl
  refine lv_aload_n hx hb dL_law_528 rfl (lv_at hl 1 rfl) ?_
  refine lv_aload_n hx hb dL_law_529 rfl (lv_at hl 0 rfl) ?_
  refine lv_iload hx hb dL_law_530 (lv_at hl 5 rfl) ?_
  refine lv_iconst (v := 1) hx hb dL_law_532 (by decide) ?_
  refine lv_iadd hx hb dL_law_533 ?_
  refine lv_topi (fun v1 ev1 => ?_)
  obtain rfl : v1 = nI (6 * k + 1) := by
    rw [ev1]
    exact nI_add _ 1
  refine va_sld hx hb hX hbl hbA hS (vp_in_nI (n := 6 * k + 1) (by omega) (by omega)) dL_law_534 ?_
  rw [nI_clamp (n := 6 * k + 1) (by omega)]
  refine lv_aload_n hx hb dL_law_535 rfl (lv_at hl 0 rfl) ?_
  refine lv_iload hx hb dL_law_536 (lv_at hl 5 rfl) ?_
  refine lv_iconst (v := 2) hx hb dL_law_538 (by decide) ?_
  refine lv_iadd hx hb dL_law_539 ?_
  refine lv_topi (fun v2 ev2 => ?_)
  obtain rfl : v2 = nI (6 * k + 2) := by
    rw [ev2]
    exact nI_add _ 2
  refine va_sld hx hb hX hbl hbA hS (vp_in_nI (n := 6 * k + 2) (by omega) (by omega)) dL_law_540 ?_
  rw [nI_clamp (n := 6 * k + 2) (by omega)]
  refine lv_aload_n hx hb dL_law_541 rfl (lv_at hl 0 rfl) ?_
  refine lv_iload hx hb dL_law_542 (lv_at hl 5 rfl) ?_
  refine lv_iconst (v := 3) hx hb dL_law_544 (by decide) ?_
  refine lv_iadd hx hb dL_law_545 ?_
  refine lv_topi (fun v3 ev3 => ?_)
  obtain rfl : v3 = nI (6 * k + 3) := by
    rw [ev3]
    exact nI_add _ 3
  refine va_sld hx hb hX hbl hbA hS (vp_in_nI (n := 6 * k + 3) (by omega) (by omega)) dL_law_546 ?_
  rw [nI_clamp (n := 6 * k + 3) (by omega)]
  refine lv_aload_n hx hb dL_law_547 rfl (lv_at hl 0 rfl) ?_
  refine lv_iload hx hb dL_law_548 (lv_at hl 5 rfl) ?_
  refine lv_iconst (v := 4) hx hb dL_law_550 (by decide) ?_
  refine lv_iadd hx hb dL_law_551 ?_
  refine lv_topi (fun v4 ev4 => ?_)
  obtain rfl : v4 = nI (6 * k + 4) := by
    rw [ev4]
    exact nI_add _ 4
  refine va_sld hx hb hX hbl hbA hS (vp_in_nI (n := 6 * k + 4) (by omega) (by omega)) dL_law_552 ?_
  rw [nI_clamp (n := 6 * k + 4) (by omega)]
  refine lv_aload_n hx hb dL_law_553 rfl (lv_at hl 0 rfl) ?_
  refine lv_iload hx hb dL_law_554 (lv_at hl 5 rfl) ?_
  refine lv_iconst (v := 5) hx hb dL_law_556 (by decide) ?_
  refine lv_iadd hx hb dL_law_557 ?_
  refine lv_topi (fun v5 ev5 => ?_)
  obtain rfl : v5 = nI (6 * k + 5) := by
    rw [ev5]
    exact nI_add _ 5
  refine va_sld hx hb hX hbl hbA hS (vp_in_nI (n := 6 * k + 5) (by omega) (by omega)) dL_law_558 ?_
  rw [nI_clamp (n := 6 * k + 5) (by omega)]
  refine lv_aload_n hx hb dL_law_559 rfl (lv_at hl 3 rfl) ?_
  refine g_Sxi (As := [.ref (ad 0 0), .int (xs (6 * k + 1)), .int (xs (6 * k + 2)), .int (xs (6 * k + 3)), .int (xs (6 * k + 4)), .int (xs (6 * k + 5)), .ref o]) (rest := []) F hP hS (k_L_addPlanets l hlt A G w ad Cn S T (xs (6 * k + 1)) (xs (6 * k + 2)) (xs (6 * k + 3)) (xs (6 * k + 4)) (xs (6 * k + 5)) hB.1 hB.2.1 hB.2.2.1 hB.2.2.2.1 hB.2.2.2.2 o fo ho (fun k i h => (hsep.1 k i h).2.1)) (vx_cwSW 7 hts gL_law_L_addPlanets rfl rfl rfl cdS_L_addPlanets ⟨by rw [hRf]; exact Nat.le_of_ble_eq_true rfl, by rw [hRl]; exact Nat.le_of_ble_eq_true rfl⟩) rfl hl.1 (Nat.le_of_ble_eq_true rfl) dL_law_560 ⟨by omega, by omega⟩ rfl (fun r6 w7 H locs h8 hP hS => ?_)
  rcases h8 with c9 | c9
  · obtain ⟨⟨c0, c4⟩, er, ew⟩ := c9
    rw [ew] at hP
    rw [er]
    have hA9 := after_rf hB
    have HM1 := HM
    have g1 := ho
    have g2 := hod
    have h1f : ∀ a, w a ≠ none → a ≠ o → a ≠ od → w a = w a := fun _ _ _ _ => rfl
    refine lv_istore (lv' := [(6, .int (nI (cdAddPl S (xs (6 * k + 1)) (xs (6 * k + 2)) (xs (6 * k + 3)) (xs (6 * k + 4)) (xs (6 * k + 5))))), (0, .ref b), (1, .ref (ad 0 0)), (2, .ref (md 0)), (3, .ref o), (4, .ref od), (5, .int (nI (6 * k)))]) hx hb dL_law_563 hl (by decide) rfl (fun ls hl => ?_)
    refine lv_aload_n hx hb dL_law_565 rfl (lv_at hl 3 rfl) ?_
    refine lv_aload_n hx hb dL_law_566 rfl (lv_at hl 1 rfl) ?_
    refine lv_iload hx hb dL_law_567 (lv_at hl 6 rfl) ?_
    refine lv_iconst (v := 1) hx hb dL_law_569 (by decide) ?_
    refine lv_iadd hx hb dL_law_570 ?_
    refine lv_topi (fun v9 ev9 => ?_)
    obtain rfl : v9 = nI (6 * k + 1) := by
      rw [ev9]
      exact nI_add _ 1
    refine va_sld hx hb hX hbl hbA hS (vp_in_nI (n := 6 * k + 1) (by omega) (by omega)) dL_law_571 ?_
    rw [nI_clamp (n := 6 * k + 1) (by omega)]
    refine lv_aload_n hx hb dL_law_572 rfl (lv_at hl 1 rfl) ?_
    refine lv_iload hx hb dL_law_573 (lv_at hl 6 rfl) ?_
    refine lv_iconst (v := 2) hx hb dL_law_575 (by decide) ?_
    refine lv_iadd hx hb dL_law_576 ?_
    refine lv_topi (fun v10 ev10 => ?_)
    obtain rfl : v10 = nI (6 * k + 2) := by
      rw [ev10]
      exact nI_add _ 2
    refine va_sld hx hb hX hbl hbA hS (vp_in_nI (n := 6 * k + 2) (by omega) (by omega)) dL_law_577 ?_
    rw [nI_clamp (n := 6 * k + 2) (by omega)]
    refine lv_aload_n hx hb dL_law_578 rfl (lv_at hl 1 rfl) ?_
    refine lv_iload hx hb dL_law_579 (lv_at hl 6 rfl) ?_
    refine lv_iconst (v := 3) hx hb dL_law_581 (by decide) ?_
    refine lv_iadd hx hb dL_law_582 ?_
    refine lv_topi (fun v11 ev11 => ?_)
    obtain rfl : v11 = nI (6 * k + 3) := by
      rw [ev11]
      exact nI_add _ 3
    refine va_sld hx hb hX hbl hbA hS (vp_in_nI (n := 6 * k + 3) (by omega) (by omega)) dL_law_583 ?_
    rw [nI_clamp (n := 6 * k + 3) (by omega)]
    refine lv_aload_n hx hb dL_law_584 rfl (lv_at hl 1 rfl) ?_
    refine lv_iload hx hb dL_law_585 (lv_at hl 6 rfl) ?_
    refine lv_iconst (v := 4) hx hb dL_law_587 (by decide) ?_
    refine lv_iadd hx hb dL_law_588 ?_
    refine lv_topi (fun v12 ev12 => ?_)
    obtain rfl : v12 = nI (6 * k + 4) := by
      rw [ev12]
      exact nI_add _ 4
    refine va_sld hx hb hX hbl hbA hS (vp_in_nI (n := 6 * k + 4) (by omega) (by omega)) dL_law_589 ?_
    rw [nI_clamp (n := 6 * k + 4) (by omega)]
    refine lv_aload_n hx hb dL_law_590 rfl (lv_at hl 1 rfl) ?_
    refine lv_iload hx hb dL_law_591 (lv_at hl 6 rfl) ?_
    refine lv_iconst (v := 5) hx hb dL_law_593 (by decide) ?_
    refine lv_iadd hx hb dL_law_594 ?_
    refine lv_topi (fun v13 ev13 => ?_)
    obtain rfl : v13 = nI (6 * k + 5) := by
      rw [ev13]
      exact nI_add _ 5
    refine va_sld hx hb hX hbl hbA hS (vp_in_nI (n := 6 * k + 5) (by omega) (by omega)) dL_law_595 ?_
    rw [nI_clamp (n := 6 * k + 5) (by omega)]
    refine g_Vi (As := [.int (xs (6 * k + 1)), .int (xs (6 * k + 2)), .int (xs (6 * k + 3)), .int (xs (6 * k + 4)), .int (xs (6 * k + 5))]) (rest := []) F hP hS (k_X7_addPlanets l A G w md S th tp bt Fm L (xs (6 * k + 1)) (xs (6 * k + 2)) (xs (6 * k + 3)) (xs (6 * k + 4)) (xs (6 * k + 5)) HM1 Hj Hf hB.2.2.1) (cwV 5 hts gL_law_X7_addPlanets rfl rfl rfl cd_X7_addPlanets ⟨by rw [hRf]; exact Nat.le_of_ble_eq_true rfl, by rw [hRl]; exact Nat.le_of_ble_eq_true rfl⟩) (HM1.1) rfl rfl rfl hl.1 (Nat.le_of_ble_eq_true rfl) dL_law_596 ⟨by omega, by omega⟩ rfl (fun r2 w14 H locs h15 hP hS => ?_)
    rcases h15 with ⟨d0, hM2⟩ | ⟨d0, hM2⟩
    rotate_left
    · exact absurd d0 c0
    obtain ⟨hfr2, tp2, bt2, F2, L2, HW2, HF2⟩ := id hM2
    refine lv_istore (lv' := [(7, .int r2), (6, .int (nI (cdAddPl S (xs (6 * k + 1)) (xs (6 * k + 2)) (xs (6 * k + 3)) (xs (6 * k + 4)) (xs (6 * k + 5))))), (0, .ref b), (1, .ref (ad 0 0)), (2, .ref (md 0)), (3, .ref o), (4, .ref od), (5, .int (nI (6 * k)))]) hx hb dL_law_599 hl (by decide) rfl (fun ls hl => ?_)
    refine lv_aload_n hx hb dL_law_601 rfl (lv_at hl 4 rfl) ?_
    refine g_Vi (As := []) (rest := []) F hP hS (k_X7_thrown l A G w14 md S (nI (cdAddPl S (xs (6 * k + 1)) (xs (6 * k + 2)) (xs (6 * k + 3)) (xs (6 * k + 4)) (xs (6 * k + 5)))) _ _ F2 L2 HW2.1) (cwV 0 hts gL_law_X7_thrown rfl rfl rfl cd_X7_thrown ⟨by rw [hRf]; exact Nat.le_of_ble_eq_true rfl, by rw [hRl]; exact Nat.le_of_ble_eq_true rfl⟩) (HW2.1) rfl rfl rfl hl.1 (Nat.le_of_ble_eq_true rfl) dL_law_602 ⟨by omega, by omega⟩ rfl (fun r16 w17 H locs h18 hP hS => ?_)
    rw [h18.2] at hP
    rw [h18.1]
    refine lv_iload hx hb dL_law_605 (lv_at hl 1 rfl) ?_
    refine lv_icmp_eq (tgt := 612) hx hb dL_law_607 (by decide) (fun c19 => ?_) (fun c19 => ?_)
    · refine lv_iload hx hb dL_law_612 (lv_at hl 1 rfl) ?_
      refine lv_if_ne (tgt := 629) hx hb dL_law_614 (by decide) (fun c20 => ?_) (fun c20 => ?_)
      · refine lv_goto (tgt := 1516) hx hb dL_law_629 (by decide) ?_
        refine W.widen (k := 20 + 12 * k + 12) (n := 300 + 180 * k + 180) (by omega) (by omega) ?_
        exact cont _ w14 H locs ls (lw_step hB hsep Hj HM ho hod hA9 h1f g1 g2 hM2) hP hS (lv_sub hl [2, 3, 4, 5, 6, 7] rfl)
      · exact absurd ((nI_eq (a := cdAddPl S (xs (6 * k + 1)) (xs (6 * k + 2)) (xs (6 * k + 3)) (xs (6 * k + 4)) (xs (6 * k + 5))) (b := 0) (by omega) (by omega)).mp c20) c0
    · exact absurd rfl c19
  · obtain ⟨c0, er, wA, hWp, ew⟩ := c9
    have hA9 := hWp
    have HM1 := lw_m2 hsep (lw_m1 hA9 hsep HM) (Or.inl rfl) ew
    have g1 : w7 o = some (.inl (G.2.1 1, 1, .inr (.inl (vp_updL fo 0 ((vlAddPl S).toInt64))))) := by rw [ew]; exact g_up_s _ _ _
    have g2 : w7 od = some (.inl (G.2.1 5, 1, .inr (.inr (.inr (.inl fd))))) := by rw [ew, g_up_n _ hne]; exact lw_o hA9 hsep (Or.inr rfl) hod
    have h1f : ∀ a, wA a ≠ none → a ≠ o → a ≠ od → w7 a = wA a := fun a _ h2 _ => by rw [ew]; exact g_up_n _ h2
    rw [er]
    refine lv_istore (lv' := [(6, .int 0), (0, .ref b), (1, .ref (ad 0 0)), (2, .ref (md 0)), (3, .ref o), (4, .ref od), (5, .int (nI (6 * k)))]) hx hb dL_law_563 hl (by decide) rfl (fun ls hl => ?_)
    refine lv_aload_n hx hb dL_law_565 rfl (lv_at hl 3 rfl) ?_
    refine lv_aload_n hx hb dL_law_566 rfl (lv_at hl 1 rfl) ?_
    refine lv_iload hx hb dL_law_567 (lv_at hl 6 rfl) ?_
    refine lv_iconst (v := 1) hx hb dL_law_569 (by decide) ?_
    refine lv_iadd hx hb dL_law_570 ?_
    refine lv_topi (fun v21 ev21 => ?_)
    obtain rfl : v21 = nI (6 * k + 1) := by
      rw [ev21]
      exact nI_add _ 1
    refine va_sld hx hb hX hbl hbA hS (vp_in_nI (n := 6 * k + 1) (by omega) (by omega)) dL_law_571 ?_
    rw [nI_clamp (n := 6 * k + 1) (by omega)]
    refine lv_aload_n hx hb dL_law_572 rfl (lv_at hl 1 rfl) ?_
    refine lv_iload hx hb dL_law_573 (lv_at hl 6 rfl) ?_
    refine lv_iconst (v := 2) hx hb dL_law_575 (by decide) ?_
    refine lv_iadd hx hb dL_law_576 ?_
    refine lv_topi (fun v22 ev22 => ?_)
    obtain rfl : v22 = nI (6 * k + 2) := by
      rw [ev22]
      exact nI_add _ 2
    refine va_sld hx hb hX hbl hbA hS (vp_in_nI (n := 6 * k + 2) (by omega) (by omega)) dL_law_577 ?_
    rw [nI_clamp (n := 6 * k + 2) (by omega)]
    refine lv_aload_n hx hb dL_law_578 rfl (lv_at hl 1 rfl) ?_
    refine lv_iload hx hb dL_law_579 (lv_at hl 6 rfl) ?_
    refine lv_iconst (v := 3) hx hb dL_law_581 (by decide) ?_
    refine lv_iadd hx hb dL_law_582 ?_
    refine lv_topi (fun v23 ev23 => ?_)
    obtain rfl : v23 = nI (6 * k + 3) := by
      rw [ev23]
      exact nI_add _ 3
    refine va_sld hx hb hX hbl hbA hS (vp_in_nI (n := 6 * k + 3) (by omega) (by omega)) dL_law_583 ?_
    rw [nI_clamp (n := 6 * k + 3) (by omega)]
    refine lv_aload_n hx hb dL_law_584 rfl (lv_at hl 1 rfl) ?_
    refine lv_iload hx hb dL_law_585 (lv_at hl 6 rfl) ?_
    refine lv_iconst (v := 4) hx hb dL_law_587 (by decide) ?_
    refine lv_iadd hx hb dL_law_588 ?_
    refine lv_topi (fun v24 ev24 => ?_)
    obtain rfl : v24 = nI (6 * k + 4) := by
      rw [ev24]
      exact nI_add _ 4
    refine va_sld hx hb hX hbl hbA hS (vp_in_nI (n := 6 * k + 4) (by omega) (by omega)) dL_law_589 ?_
    rw [nI_clamp (n := 6 * k + 4) (by omega)]
    refine lv_aload_n hx hb dL_law_590 rfl (lv_at hl 1 rfl) ?_
    refine lv_iload hx hb dL_law_591 (lv_at hl 6 rfl) ?_
    refine lv_iconst (v := 5) hx hb dL_law_593 (by decide) ?_
    refine lv_iadd hx hb dL_law_594 ?_
    refine lv_topi (fun v25 ev25 => ?_)
    obtain rfl : v25 = nI (6 * k + 5) := by
      rw [ev25]
      exact nI_add _ 5
    refine va_sld hx hb hX hbl hbA hS (vp_in_nI (n := 6 * k + 5) (by omega) (by omega)) dL_law_595 ?_
    rw [nI_clamp (n := 6 * k + 5) (by omega)]
    refine g_Vi (As := [.int (xs (6 * k + 1)), .int (xs (6 * k + 2)), .int (xs (6 * k + 3)), .int (xs (6 * k + 4)), .int (xs (6 * k + 5))]) (rest := []) F hP hS (k_X7_addPlanets l A G w7 md S th tp bt Fm L (xs (6 * k + 1)) (xs (6 * k + 2)) (xs (6 * k + 3)) (xs (6 * k + 4)) (xs (6 * k + 5)) HM1 Hj Hf hB.2.2.1) (cwV 5 hts gL_law_X7_addPlanets rfl rfl rfl cd_X7_addPlanets ⟨by rw [hRf]; exact Nat.le_of_ble_eq_true rfl, by rw [hRl]; exact Nat.le_of_ble_eq_true rfl⟩) (HM1.1) rfl rfl rfl hl.1 (Nat.le_of_ble_eq_true rfl) dL_law_596 ⟨by omega, by omega⟩ rfl (fun r2 w26 H locs h27 hP hS => ?_)
    rcases h27 with ⟨d0, hM2⟩ | ⟨d0, ok, hM2⟩
    · exact absurd c0 d0
    rw [ok]
    obtain ⟨hfr2, tp2, bt2, F2, L2, HW2, HF2⟩ := id hM2
    have HO2 : w26 o = some (.inl (G.2.1 1, 1, .inr (.inl (vp_updL fo 0 ((vlAddPl S).toInt64))))) := by rw [hfr2.1 o (by rw [g1]; exact fun q => (nomatch q)) (fun j hj => (hsep.2 j hj).1)]; exact g1
    refine lv_istore (lv' := [(7, .int (vlAddPl S)), (6, .int 0), (0, .ref b), (1, .ref (ad 0 0)), (2, .ref (md 0)), (3, .ref o), (4, .ref od), (5, .int (nI (6 * k)))]) hx hb dL_law_599 hl (by decide) rfl (fun ls hl => ?_)
    refine lv_aload_n hx hb dL_law_601 rfl (lv_at hl 4 rfl) ?_
    refine g_Vi (As := []) (rest := []) F hP hS (k_X7_thrown l A G w26 md (nxAddPl S (xs (6 * k + 1)) (xs (6 * k + 2)) (xs (6 * k + 3)) (xs (6 * k + 4)) (xs (6 * k + 5))) (nI 0) _ _ F2 L2 HW2.1) (cwV 0 hts gL_law_X7_thrown rfl rfl rfl cd_X7_thrown ⟨by rw [hRf]; exact Nat.le_of_ble_eq_true rfl, by rw [hRl]; exact Nat.le_of_ble_eq_true rfl⟩) (HW2.1) rfl rfl rfl hl.1 (Nat.le_of_ble_eq_true rfl) dL_law_602 ⟨by omega, by omega⟩ rfl (fun r28 w29 H locs h30 hP hS => ?_)
    rw [h30.2] at hP
    rw [h30.1]
    refine lv_iload hx hb dL_law_605 (lv_at hl 1 rfl) ?_
    refine lv_icmp_eq (tgt := 612) hx hb dL_law_607 (by decide) (fun c31 => ?_) (fun c31 => ?_)
    · refine lv_iload hx hb dL_law_612 (lv_at hl 1 rfl) ?_
      refine lv_if_ne (tgt := 629) hx hb dL_law_614 (by decide) (fun c32 => ?_) (fun c32 => ?_)
      · exact absurd c32 (by decide)
      · refine lv_aload_n hx hb dL_law_617 rfl (lv_at hl 5 rfl) ?_
        refine lv_iconst (v := 0) hx hb dL_law_618 (by decide) ?_
        refine g_lald F hP HO2 (by unfold vp_in; decide) dL_law_619 ?_
        rw [show (.long ((vp_updL fo 0 ((vlAddPl S).toInt64)) (0 : Int32).toNatClampNeg) : Value) = .long ((vlAddPl S).toInt64) from by rw [show ((0 : Int32).toNatClampNeg) = 0 from by decide]; unfold vp_updL; rw [if_pos rfl]]
        refine lv_iload hx hb dL_law_620 (lv_at hl 0 rfl) ?_
        refine lv_i2l hx hb dL_law_622 rfl ?_
        refine lv_topl (fun v33 ev33 => ?_)
        obtain rfl : v33 = ((vlAddPl S).toInt64) := by
          exact ev33
        refine W.lcmp hx hb dL_law_623 ?_
        refine lv_if_eq (tgt := 629) hx hb dL_law_624 (by decide) (fun c34 => ?_) (fun c34 => ?_)
        · have c34 := (lg_cmp_eq ((vlAddPl S).toInt64) ((vlAddPl S).toInt64)).mp c34
          refine lv_goto (tgt := 1516) hx hb dL_law_629 (by decide) ?_
          refine W.widen (k := 20 + 12 * k + 12) (n := 300 + 180 * k + 180) (by omega) (by omega) ?_
          exact cont _ w26 H locs ls (lw_step hB hsep Hj HM ho hod hA9 h1f g1 g2 hM2) hP hS (lv_sub hl [2, 3, 4, 5, 6, 7] rfl)
        · have c34 : ¬ (((vlAddPl S).toInt64) = ((vlAddPl S).toInt64)) := fun h => c34 ((lg_cmp_eq ((vlAddPl S).toInt64) ((vlAddPl S).toInt64)).mpr h)
          exact absurd rfl c34
    · exact absurd (show nI 0 = (0 : Int32) from rfl) c31
