set_option maxHeartbeats 4000000 in
set_option maxRecDepth 100000 in
theorem law_c20 {p : Program} {l : Launch} {e : Env} {R : Room} {s : State} {m : MethodId} {args : Array Value} {below : List Frame} {meth : Method} {c : Code} {Q : State → Prop} {A : Nat → Prop} {G : g_C} (F : g_F p m c cL_law 9 s args wsL_law RL A G) (hRf : R.frames = 12) (hRl : R.locals = 434) (hRc : R.cells = 601024) (hRs : R.slots = 7293034) (hlt : l.stackTraces = false) {b N : Nat} {xs : Nat → Int32} (hX : va_X b N xs s s.heap) (hbl : b < s.heap.size) (hbA : ¬ A b) {k : Nat} (hkN : 6 * k + 6 ≤ N) (hN : N ≤ 3072) {w : g_W} {x mo o od : Nat} {S : Sg} (J : lwJ G w x mo o od S) {H : Heap} {locs : List Loc} {ls : Array Slot} (hP : g_P A G w H) (hS : va_S A s.heap H locs) (hl : lv_has ls 9 [(0, .ref b), (1, .ref x), (2, .ref mo), (3, .ref o), (4, .ref od), (5, .int (nI (6 * k)))])
    (cont : ∀ (S' : Sg) (w' : g_W) (H' : Heap) (locs' : List Loc) (ls' : Array Slot), lwJ G w' x mo o od S' → g_P A G w' H' → va_S A s.heap H' locs' → lv_has ls' 9 [(0, .ref b), (1, .ref x), (2, .ref mo), (3, .ref o), (4, .ref od), (5, .int (nI (6 * k)))] → W p l e R s m args below meth c H' locs' (20 + 12 * k + 12) (300 + 180 * k + 180) Q (F0 m 1516 ls' [])) : W p l e R s m args below meth c H locs (20 + 12 * k) (300 + 180 * k) Q (F0 m 1410 ls []) := by
  obtain ⟨⟨hx, hb, hml, hown, hts⟩, hK, hZ, hA⟩ := id F
  obtain ⟨ad, Cn, T, md, th, tp, bt, Fm, L, fo, fd, rfl, rfl, hB, hT3, Hj, HM, Hf, ho, hod, hsep⟩ := J
  have hne := g_ne hod ho rfl
  refine lv_aload_n hx hb dL_law_1410 rfl (lv_at hl 1 rfl) ?_
  refine lv_aload_n hx hb dL_law_1411 rfl (lv_at hl 0 rfl) ?_
  refine lv_iload hx hb dL_law_1412 (lv_at hl 5 rfl) ?_
  refine lv_iconst (v := 1) hx hb dL_law_1414 (by decide) ?_
  refine lv_iadd hx hb dL_law_1415 ?_
  refine lv_topi (fun v1 ev1 => ?_)
  obtain rfl : v1 = nI (6 * k + 1) := by
    rw [ev1]
    exact nI_add _ 1
  refine va_sld hx hb hX hbl hbA hS (vp_in_nI (n := 6 * k + 1) (by omega) (by omega)) dL_law_1416 ?_
  rw [nI_clamp (n := 6 * k + 1) (by omega)]
  refine lv_aload_n hx hb dL_law_1417 rfl (lv_at hl 0 rfl) ?_
  refine lv_iload hx hb dL_law_1418 (lv_at hl 5 rfl) ?_
  refine lv_iconst (v := 2) hx hb dL_law_1420 (by decide) ?_
  refine lv_iadd hx hb dL_law_1421 ?_
  refine lv_topi (fun v2 ev2 => ?_)
  obtain rfl : v2 = nI (6 * k + 2) := by
    rw [ev2]
    exact nI_add _ 2
  refine va_sld hx hb hX hbl hbA hS (vp_in_nI (n := 6 * k + 2) (by omega) (by omega)) dL_law_1422 ?_
  rw [nI_clamp (n := 6 * k + 2) (by omega)]
  refine lv_aload_n hx hb dL_law_1423 rfl (lv_at hl 0 rfl) ?_
  refine lv_iload hx hb dL_law_1424 (lv_at hl 5 rfl) ?_
  refine lv_iconst (v := 3) hx hb dL_law_1426 (by decide) ?_
  refine lv_iadd hx hb dL_law_1427 ?_
  refine lv_topi (fun v3 ev3 => ?_)
  obtain rfl : v3 = nI (6 * k + 3) := by
    rw [ev3]
    exact nI_add _ 3
  refine va_sld hx hb hX hbl hbA hS (vp_in_nI (n := 6 * k + 3) (by omega) (by omega)) dL_law_1428 ?_
  rw [nI_clamp (n := 6 * k + 3) (by omega)]
  refine lv_aload_n hx hb dL_law_1429 rfl (lv_at hl 0 rfl) ?_
  refine lv_iload hx hb dL_law_1430 (lv_at hl 5 rfl) ?_
  refine lv_iconst (v := 4) hx hb dL_law_1432 (by decide) ?_
  refine lv_iadd hx hb dL_law_1433 ?_
  refine lv_topi (fun v4 ev4 => ?_)
  obtain rfl : v4 = nI (6 * k + 4) := by
    rw [ev4]
    exact nI_add _ 4
  refine va_sld hx hb hX hbl hbA hS (vp_in_nI (n := 6 * k + 4) (by omega) (by omega)) dL_law_1434 ?_
  rw [nI_clamp (n := 6 * k + 4) (by omega)]
  refine lv_aload_n hx hb dL_law_1435 rfl (lv_at hl 3 rfl) ?_
  refine g_Sxi (As := [.ref (ad 0 0), .int (xs (6 * k + 1)), .int (xs (6 * k + 2)), .int (xs (6 * k + 3)), .int (xs (6 * k + 4)), .ref o]) (rest := []) F hP hS (k_L_suggest l hlt A G w ad Cn S T (xs (6 * k + 1)) (xs (6 * k + 2)) (xs (6 * k + 3)) (xs (6 * k + 4)) hB.1 hB.2.1 hB.2.2.1 hB.2.2.2.1 hB.2.2.2.2 o fo ho (fun k i h => (hsep.1 k i h).2.1)) (vx_cwSW 6 hts gL_law_L_suggest rfl rfl rfl cdS_L_suggest ⟨by rw [hRf]; exact Nat.le_of_ble_eq_true rfl, by rw [hRl]; exact Nat.le_of_ble_eq_true rfl⟩) rfl hl.1 (Nat.le_of_ble_eq_true rfl) dL_law_1436 ⟨by omega, by omega⟩ rfl (fun r5 w6 H locs h7 hP hS => ?_)
  rcases h7 with ⟨cN, h7⟩ | ⟨r0, hsug, h7⟩
  · rcases h7 with c9 | c9
    · obtain ⟨⟨c0, c4⟩, er, ew⟩ := c9
      rw [ew] at hP
      rw [er]
      have hA9 := after_rf hB
      have HM1 := HM
      have g1 := ho
      have g2 := hod
      have h1f : ∀ a, w a ≠ none → a ≠ o → a ≠ od → w a = w a := fun _ _ _ _ => rfl
      refine lv_istore (lv' := [(6, .int (nI (cdSug (xs (6 * k + 1)) (xs (6 * k + 2)) (xs (6 * k + 3)) (xs (6 * k + 4))))), (0, .ref b), (1, .ref (ad 0 0)), (2, .ref (md 0)), (3, .ref o), (4, .ref od), (5, .int (nI (6 * k)))]) hx hb dL_law_1439 hl (by decide) rfl (fun ls hl => ?_)
      refine lv_aload_n hx hb dL_law_1441 rfl (lv_at hl 3 rfl) ?_
      refine lv_aload_n hx hb dL_law_1442 rfl (lv_at hl 1 rfl) ?_
      refine lv_iload hx hb dL_law_1443 (lv_at hl 6 rfl) ?_
      refine lv_iconst (v := 1) hx hb dL_law_1445 (by decide) ?_
      refine lv_iadd hx hb dL_law_1446 ?_
      refine lv_topi (fun v8 ev8 => ?_)
      obtain rfl : v8 = nI (6 * k + 1) := by
        rw [ev8]
        exact nI_add _ 1
      refine va_sld hx hb hX hbl hbA hS (vp_in_nI (n := 6 * k + 1) (by omega) (by omega)) dL_law_1447 ?_
      rw [nI_clamp (n := 6 * k + 1) (by omega)]
      refine lv_aload_n hx hb dL_law_1448 rfl (lv_at hl 1 rfl) ?_
      refine lv_iload hx hb dL_law_1449 (lv_at hl 6 rfl) ?_
      refine lv_iconst (v := 2) hx hb dL_law_1451 (by decide) ?_
      refine lv_iadd hx hb dL_law_1452 ?_
      refine lv_topi (fun v9 ev9 => ?_)
      obtain rfl : v9 = nI (6 * k + 2) := by
        rw [ev9]
        exact nI_add _ 2
      refine va_sld hx hb hX hbl hbA hS (vp_in_nI (n := 6 * k + 2) (by omega) (by omega)) dL_law_1453 ?_
      rw [nI_clamp (n := 6 * k + 2) (by omega)]
      refine lv_aload_n hx hb dL_law_1454 rfl (lv_at hl 1 rfl) ?_
      refine lv_iload hx hb dL_law_1455 (lv_at hl 6 rfl) ?_
      refine lv_iconst (v := 3) hx hb dL_law_1457 (by decide) ?_
      refine lv_iadd hx hb dL_law_1458 ?_
      refine lv_topi (fun v10 ev10 => ?_)
      obtain rfl : v10 = nI (6 * k + 3) := by
        rw [ev10]
        exact nI_add _ 3
      refine va_sld hx hb hX hbl hbA hS (vp_in_nI (n := 6 * k + 3) (by omega) (by omega)) dL_law_1459 ?_
      rw [nI_clamp (n := 6 * k + 3) (by omega)]
      refine lv_aload_n hx hb dL_law_1460 rfl (lv_at hl 1 rfl) ?_
      refine lv_iload hx hb dL_law_1461 (lv_at hl 6 rfl) ?_
      refine lv_iconst (v := 4) hx hb dL_law_1463 (by decide) ?_
      refine lv_iadd hx hb dL_law_1464 ?_
      refine lv_topi (fun v11 ev11 => ?_)
      obtain rfl : v11 = nI (6 * k + 4) := by
        rw [ev11]
        exact nI_add _ 4
      refine va_sld hx hb hX hbl hbA hS (vp_in_nI (n := 6 * k + 4) (by omega) (by omega)) dL_law_1465 ?_
      rw [nI_clamp (n := 6 * k + 4) (by omega)]
      refine g_Vi (As := [.int (xs (6 * k + 1)), .int (xs (6 * k + 2)), .int (xs (6 * k + 3)), .int (xs (6 * k + 4))]) (rest := []) F hP hS (k_X7_suggest l A G w md S th tp bt Fm L (xs (6 * k + 1)) (xs (6 * k + 2)) (xs (6 * k + 3)) (xs (6 * k + 4)) HM1 Hj Hf hB.2.2.1) (cwV 4 hts gL_law_X7_suggest rfl rfl rfl cd_X7_suggest ⟨by rw [hRf]; exact Nat.le_of_ble_eq_true rfl, by rw [hRl]; exact Nat.le_of_ble_eq_true rfl⟩) (HM1.1) rfl rfl rfl hl.1 (Nat.le_of_ble_eq_true rfl) dL_law_1466 ⟨by omega, by omega⟩ rfl (fun r2 w12 H locs h13 hP hS => ?_)
      rcases h13 with ⟨d0, hM2⟩ | ⟨d0, hM2⟩
      rotate_left
      · exact absurd d0 c0
      obtain ⟨hfr2, tp2, bt2, F2, L2, HW2, HF2⟩ := id hM2
      refine lv_istore (lv' := [(7, .int r2), (6, .int (nI (cdSug (xs (6 * k + 1)) (xs (6 * k + 2)) (xs (6 * k + 3)) (xs (6 * k + 4))))), (0, .ref b), (1, .ref (ad 0 0)), (2, .ref (md 0)), (3, .ref o), (4, .ref od), (5, .int (nI (6 * k)))]) hx hb dL_law_1469 hl (by decide) rfl (fun ls hl => ?_)
      refine lv_aload_n hx hb dL_law_1471 rfl (lv_at hl 4 rfl) ?_
      refine g_Vi (As := []) (rest := []) F hP hS (k_X7_thrown l A G w12 md S (nI (cdSug (xs (6 * k + 1)) (xs (6 * k + 2)) (xs (6 * k + 3)) (xs (6 * k + 4)))) _ _ F2 L2 HW2.1) (cwV 0 hts gL_law_X7_thrown rfl rfl rfl cd_X7_thrown ⟨by rw [hRf]; exact Nat.le_of_ble_eq_true rfl, by rw [hRl]; exact Nat.le_of_ble_eq_true rfl⟩) (HW2.1) rfl rfl rfl hl.1 (Nat.le_of_ble_eq_true rfl) dL_law_1472 ⟨by omega, by omega⟩ rfl (fun r14 w15 H locs h16 hP hS => ?_)
      rw [h16.2] at hP
      rw [h16.1]
      refine lv_iload hx hb dL_law_1475 (lv_at hl 1 rfl) ?_
      refine lv_icmp_eq (tgt := 1482) hx hb dL_law_1477 (by decide) (fun c17 => ?_) (fun c17 => ?_)
      · refine lv_iload hx hb dL_law_1482 (lv_at hl 1 rfl) ?_
        refine lv_if_ne (tgt := 1499) hx hb dL_law_1484 (by decide) (fun c18 => ?_) (fun c18 => ?_)
        · refine lv_goto (tgt := 1516) hx hb dL_law_1499 (by decide) ?_
          refine W.widen (k := 20 + 12 * k + 12) (n := 300 + 180 * k + 180) (by omega) (by omega) ?_
          exact cont _ w12 H locs ls (lw_step hB hsep Hj HM ho hod hA9 h1f g1 g2 hM2) hP hS (lv_sub hl [2, 3, 4, 5, 6, 7] rfl)
        · exact absurd ((nI_eq (a := cdSug (xs (6 * k + 1)) (xs (6 * k + 2)) (xs (6 * k + 3)) (xs (6 * k + 4))) (b := 0) (by omega) (by omega)).mp c18) c0
      · exact absurd rfl c17
    · exact absurd c9.1 cN
  · rcases h7 with c9 | c9
    · obtain ⟨⟨c0, c4⟩, er, ew⟩ := c9
      rw [ew] at hP
      rw [er]
      have hA9 := after_rf hB
      have HM1 := HM
      have g1 := ho
      have g2 := hod
      have h1f : ∀ a, w a ≠ none → a ≠ o → a ≠ od → w a = w a := fun _ _ _ _ => rfl
      refine lv_istore (lv' := [(6, .int (nI (cdSug (xs (6 * k + 1)) (xs (6 * k + 2)) (xs (6 * k + 3)) (xs (6 * k + 4))))), (0, .ref b), (1, .ref (ad 0 0)), (2, .ref (md 0)), (3, .ref o), (4, .ref od), (5, .int (nI (6 * k)))]) hx hb dL_law_1439 hl (by decide) rfl (fun ls hl => ?_)
      refine lv_aload_n hx hb dL_law_1441 rfl (lv_at hl 3 rfl) ?_
      refine lv_aload_n hx hb dL_law_1442 rfl (lv_at hl 1 rfl) ?_
      refine lv_iload hx hb dL_law_1443 (lv_at hl 6 rfl) ?_
      refine lv_iconst (v := 1) hx hb dL_law_1445 (by decide) ?_
      refine lv_iadd hx hb dL_law_1446 ?_
      refine lv_topi (fun v19 ev19 => ?_)
      obtain rfl : v19 = nI (6 * k + 1) := by
        rw [ev19]
        exact nI_add _ 1
      refine va_sld hx hb hX hbl hbA hS (vp_in_nI (n := 6 * k + 1) (by omega) (by omega)) dL_law_1447 ?_
      rw [nI_clamp (n := 6 * k + 1) (by omega)]
      refine lv_aload_n hx hb dL_law_1448 rfl (lv_at hl 1 rfl) ?_
      refine lv_iload hx hb dL_law_1449 (lv_at hl 6 rfl) ?_
      refine lv_iconst (v := 2) hx hb dL_law_1451 (by decide) ?_
      refine lv_iadd hx hb dL_law_1452 ?_
      refine lv_topi (fun v20 ev20 => ?_)
      obtain rfl : v20 = nI (6 * k + 2) := by
        rw [ev20]
        exact nI_add _ 2
      refine va_sld hx hb hX hbl hbA hS (vp_in_nI (n := 6 * k + 2) (by omega) (by omega)) dL_law_1453 ?_
      rw [nI_clamp (n := 6 * k + 2) (by omega)]
      refine lv_aload_n hx hb dL_law_1454 rfl (lv_at hl 1 rfl) ?_
      refine lv_iload hx hb dL_law_1455 (lv_at hl 6 rfl) ?_
      refine lv_iconst (v := 3) hx hb dL_law_1457 (by decide) ?_
      refine lv_iadd hx hb dL_law_1458 ?_
      refine lv_topi (fun v21 ev21 => ?_)
      obtain rfl : v21 = nI (6 * k + 3) := by
        rw [ev21]
        exact nI_add _ 3
      refine va_sld hx hb hX hbl hbA hS (vp_in_nI (n := 6 * k + 3) (by omega) (by omega)) dL_law_1459 ?_
      rw [nI_clamp (n := 6 * k + 3) (by omega)]
      refine lv_aload_n hx hb dL_law_1460 rfl (lv_at hl 1 rfl) ?_
      refine lv_iload hx hb dL_law_1461 (lv_at hl 6 rfl) ?_
      refine lv_iconst (v := 4) hx hb dL_law_1463 (by decide) ?_
      refine lv_iadd hx hb dL_law_1464 ?_
      refine lv_topi (fun v22 ev22 => ?_)
      obtain rfl : v22 = nI (6 * k + 4) := by
        rw [ev22]
        exact nI_add _ 4
      refine va_sld hx hb hX hbl hbA hS (vp_in_nI (n := 6 * k + 4) (by omega) (by omega)) dL_law_1465 ?_
      rw [nI_clamp (n := 6 * k + 4) (by omega)]
      refine g_Vi (As := [.int (xs (6 * k + 1)), .int (xs (6 * k + 2)), .int (xs (6 * k + 3)), .int (xs (6 * k + 4))]) (rest := []) F hP hS (k_X7_suggest l A G w md S th tp bt Fm L (xs (6 * k + 1)) (xs (6 * k + 2)) (xs (6 * k + 3)) (xs (6 * k + 4)) HM1 Hj Hf hB.2.2.1) (cwV 4 hts gL_law_X7_suggest rfl rfl rfl cd_X7_suggest ⟨by rw [hRf]; exact Nat.le_of_ble_eq_true rfl, by rw [hRl]; exact Nat.le_of_ble_eq_true rfl⟩) (HM1.1) rfl rfl rfl hl.1 (Nat.le_of_ble_eq_true rfl) dL_law_1466 ⟨by omega, by omega⟩ rfl (fun r2 w23 H locs h24 hP hS => ?_)
      rcases h24 with ⟨d0, hM2⟩ | ⟨d0, hM2⟩
      rotate_left
      · exact absurd d0 c0
      obtain ⟨hfr2, tp2, bt2, F2, L2, HW2, HF2⟩ := id hM2
      refine lv_istore (lv' := [(7, .int r2), (6, .int (nI (cdSug (xs (6 * k + 1)) (xs (6 * k + 2)) (xs (6 * k + 3)) (xs (6 * k + 4))))), (0, .ref b), (1, .ref (ad 0 0)), (2, .ref (md 0)), (3, .ref o), (4, .ref od), (5, .int (nI (6 * k)))]) hx hb dL_law_1469 hl (by decide) rfl (fun ls hl => ?_)
      refine lv_aload_n hx hb dL_law_1471 rfl (lv_at hl 4 rfl) ?_
      refine g_Vi (As := []) (rest := []) F hP hS (k_X7_thrown l A G w23 md S (nI (cdSug (xs (6 * k + 1)) (xs (6 * k + 2)) (xs (6 * k + 3)) (xs (6 * k + 4)))) _ _ F2 L2 HW2.1) (cwV 0 hts gL_law_X7_thrown rfl rfl rfl cd_X7_thrown ⟨by rw [hRf]; exact Nat.le_of_ble_eq_true rfl, by rw [hRl]; exact Nat.le_of_ble_eq_true rfl⟩) (HW2.1) rfl rfl rfl hl.1 (Nat.le_of_ble_eq_true rfl) dL_law_1472 ⟨by omega, by omega⟩ rfl (fun r25 w26 H locs h27 hP hS => ?_)
      rw [h27.2] at hP
      rw [h27.1]
      refine lv_iload hx hb dL_law_1475 (lv_at hl 1 rfl) ?_
      refine lv_icmp_eq (tgt := 1482) hx hb dL_law_1477 (by decide) (fun c28 => ?_) (fun c28 => ?_)
      · refine lv_iload hx hb dL_law_1482 (lv_at hl 1 rfl) ?_
        refine lv_if_ne (tgt := 1499) hx hb dL_law_1484 (by decide) (fun c29 => ?_) (fun c29 => ?_)
        · refine lv_goto (tgt := 1516) hx hb dL_law_1499 (by decide) ?_
          refine W.widen (k := 20 + 12 * k + 12) (n := 300 + 180 * k + 180) (by omega) (by omega) ?_
          exact cont _ w23 H locs ls (lw_step hB hsep Hj HM ho hod hA9 h1f g1 g2 hM2) hP hS (lv_sub hl [2, 3, 4, 5, 6, 7] rfl)
        · exact absurd ((nI_eq (a := cdSug (xs (6 * k + 1)) (xs (6 * k + 2)) (xs (6 * k + 3)) (xs (6 * k + 4))) (b := 0) (by omega) (by omega)).mp c29) c0
      · exact absurd rfl c28
    · obtain ⟨c0, er, wA, hWp, ew⟩ := c9
      have hWp : wA = w := hWp
      have hA9 : after G w ad Cn wA S := by rw [hWp]; exact after_rf hB
      have HM1 := lw_m2 hsep (lw_m1 hA9 hsep HM) (Or.inl rfl) ew
      have g1 : w6 o = some (.inl (G.2.1 1, 1, .inr (.inl (vp_updL fo 0 (r0.toInt64))))) := by rw [ew]; exact g_up_s _ _ _
      have g2 : w6 od = some (.inl (G.2.1 5, 1, .inr (.inr (.inr (.inl fd))))) := by rw [ew, g_up_n _ hne]; exact lw_o hA9 hsep (Or.inr rfl) hod
      have h1f : ∀ a, wA a ≠ none → a ≠ o → a ≠ od → w6 a = wA a := fun a _ h2 _ => by rw [ew]; exact g_up_n _ h2
      rw [er]
      refine lv_istore (lv' := [(6, .int 0), (0, .ref b), (1, .ref (ad 0 0)), (2, .ref (md 0)), (3, .ref o), (4, .ref od), (5, .int (nI (6 * k)))]) hx hb dL_law_1439 hl (by decide) rfl (fun ls hl => ?_)
      refine lv_aload_n hx hb dL_law_1441 rfl (lv_at hl 3 rfl) ?_
      refine lv_aload_n hx hb dL_law_1442 rfl (lv_at hl 1 rfl) ?_
      refine lv_iload hx hb dL_law_1443 (lv_at hl 6 rfl) ?_
      refine lv_iconst (v := 1) hx hb dL_law_1445 (by decide) ?_
      refine lv_iadd hx hb dL_law_1446 ?_
      refine lv_topi (fun v30 ev30 => ?_)
      obtain rfl : v30 = nI (6 * k + 1) := by
        rw [ev30]
        exact nI_add _ 1
      refine va_sld hx hb hX hbl hbA hS (vp_in_nI (n := 6 * k + 1) (by omega) (by omega)) dL_law_1447 ?_
      rw [nI_clamp (n := 6 * k + 1) (by omega)]
      refine lv_aload_n hx hb dL_law_1448 rfl (lv_at hl 1 rfl) ?_
      refine lv_iload hx hb dL_law_1449 (lv_at hl 6 rfl) ?_
      refine lv_iconst (v := 2) hx hb dL_law_1451 (by decide) ?_
      refine lv_iadd hx hb dL_law_1452 ?_
      refine lv_topi (fun v31 ev31 => ?_)
      obtain rfl : v31 = nI (6 * k + 2) := by
        rw [ev31]
        exact nI_add _ 2
      refine va_sld hx hb hX hbl hbA hS (vp_in_nI (n := 6 * k + 2) (by omega) (by omega)) dL_law_1453 ?_
      rw [nI_clamp (n := 6 * k + 2) (by omega)]
      refine lv_aload_n hx hb dL_law_1454 rfl (lv_at hl 1 rfl) ?_
      refine lv_iload hx hb dL_law_1455 (lv_at hl 6 rfl) ?_
      refine lv_iconst (v := 3) hx hb dL_law_1457 (by decide) ?_
      refine lv_iadd hx hb dL_law_1458 ?_
      refine lv_topi (fun v32 ev32 => ?_)
      obtain rfl : v32 = nI (6 * k + 3) := by
        rw [ev32]
        exact nI_add _ 3
      refine va_sld hx hb hX hbl hbA hS (vp_in_nI (n := 6 * k + 3) (by omega) (by omega)) dL_law_1459 ?_
      rw [nI_clamp (n := 6 * k + 3) (by omega)]
      refine lv_aload_n hx hb dL_law_1460 rfl (lv_at hl 1 rfl) ?_
      refine lv_iload hx hb dL_law_1461 (lv_at hl 6 rfl) ?_
      refine lv_iconst (v := 4) hx hb dL_law_1463 (by decide) ?_
      refine lv_iadd hx hb dL_law_1464 ?_
      refine lv_topi (fun v33 ev33 => ?_)
      obtain rfl : v33 = nI (6 * k + 4) := by
        rw [ev33]
        exact nI_add _ 4
      refine va_sld hx hb hX hbl hbA hS (vp_in_nI (n := 6 * k + 4) (by omega) (by omega)) dL_law_1465 ?_
      rw [nI_clamp (n := 6 * k + 4) (by omega)]
      refine g_Vi (As := [.int (xs (6 * k + 1)), .int (xs (6 * k + 2)), .int (xs (6 * k + 3)), .int (xs (6 * k + 4))]) (rest := []) F hP hS (k_X7_suggest l A G w6 md S th tp bt Fm L (xs (6 * k + 1)) (xs (6 * k + 2)) (xs (6 * k + 3)) (xs (6 * k + 4)) HM1 Hj Hf hB.2.2.1) (cwV 4 hts gL_law_X7_suggest rfl rfl rfl cd_X7_suggest ⟨by rw [hRf]; exact Nat.le_of_ble_eq_true rfl, by rw [hRl]; exact Nat.le_of_ble_eq_true rfl⟩) (HM1.1) rfl rfl rfl hl.1 (Nat.le_of_ble_eq_true rfl) dL_law_1466 ⟨by omega, by omega⟩ rfl (fun r2 w34 H locs h35 hP hS => ?_)
      rcases h35 with ⟨d0, hM2⟩ | ⟨d0, ok, hM2⟩
      · exact absurd c0 d0
      have ok := sug_one ok hsug
      rw [ok]
      obtain ⟨hfr2, tp2, bt2, F2, L2, HW2, HF2⟩ := id hM2
      have HO2 : w34 o = some (.inl (G.2.1 1, 1, .inr (.inl (vp_updL fo 0 (r0.toInt64))))) := by rw [hfr2.1 o (by rw [g1]; exact fun q => (nomatch q)) (fun j hj => (hsep.2 j hj).1)]; exact g1
      refine lv_istore (lv' := [(7, .int r0), (6, .int 0), (0, .ref b), (1, .ref (ad 0 0)), (2, .ref (md 0)), (3, .ref o), (4, .ref od), (5, .int (nI (6 * k)))]) hx hb dL_law_1469 hl (by decide) rfl (fun ls hl => ?_)
      refine lv_aload_n hx hb dL_law_1471 rfl (lv_at hl 4 rfl) ?_
      refine g_Vi (As := []) (rest := []) F hP hS (k_X7_thrown l A G w34 md S (nI 0) _ _ F2 L2 HW2.1) (cwV 0 hts gL_law_X7_thrown rfl rfl rfl cd_X7_thrown ⟨by rw [hRf]; exact Nat.le_of_ble_eq_true rfl, by rw [hRl]; exact Nat.le_of_ble_eq_true rfl⟩) (HW2.1) rfl rfl rfl hl.1 (Nat.le_of_ble_eq_true rfl) dL_law_1472 ⟨by omega, by omega⟩ rfl (fun r36 w37 H locs h38 hP hS => ?_)
      rw [h38.2] at hP
      rw [h38.1]
      refine lv_iload hx hb dL_law_1475 (lv_at hl 1 rfl) ?_
      refine lv_icmp_eq (tgt := 1482) hx hb dL_law_1477 (by decide) (fun c39 => ?_) (fun c39 => ?_)
      · refine lv_iload hx hb dL_law_1482 (lv_at hl 1 rfl) ?_
        refine lv_if_ne (tgt := 1499) hx hb dL_law_1484 (by decide) (fun c40 => ?_) (fun c40 => ?_)
        · exact absurd c40 (by decide)
        · refine lv_aload_n hx hb dL_law_1487 rfl (lv_at hl 5 rfl) ?_
          refine lv_iconst (v := 0) hx hb dL_law_1488 (by decide) ?_
          refine g_lald F hP HO2 (by unfold vp_in; decide) dL_law_1489 ?_
          rw [show (.long ((vp_updL fo 0 (r0.toInt64)) (0 : Int32).toNatClampNeg) : Value) = .long (r0.toInt64) from by rw [show ((0 : Int32).toNatClampNeg) = 0 from by decide]; unfold vp_updL; rw [if_pos rfl]]
          refine lv_iload hx hb dL_law_1490 (lv_at hl 0 rfl) ?_
          refine lv_i2l hx hb dL_law_1492 rfl ?_
          refine lv_topl (fun v41 ev41 => ?_)
          obtain rfl : v41 = (r0.toInt64) := by
            exact ev41
          refine W.lcmp hx hb dL_law_1493 ?_
          refine lv_if_eq (tgt := 1499) hx hb dL_law_1494 (by decide) (fun c42 => ?_) (fun c42 => ?_)
          · have c42 := (lg_cmp_eq (r0.toInt64) (r0.toInt64)).mp c42
            refine lv_goto (tgt := 1516) hx hb dL_law_1499 (by decide) ?_
            refine W.widen (k := 20 + 12 * k + 12) (n := 300 + 180 * k + 180) (by omega) (by omega) ?_
            exact cont _ w34 H locs ls (lw_step hB hsep Hj HM ho hod hA9 h1f g1 g2 hM2) hP hS (lv_sub hl [2, 3, 4, 5, 6, 7] rfl)
          · have c42 : ¬ ((r0.toInt64) = (r0.toInt64)) := fun h => c42 ((lg_cmp_eq (r0.toInt64) (r0.toInt64)).mpr h)
            exact absurd rfl c42
      · exact absurd (show nI 0 = (0 : Int32) from rfl) c39
