set_option maxHeartbeats 4000000 in
set_option maxRecDepth 100000 in
theorem law_c2 {p : Program} {l : Launch} {e : Env} {R : Room} {s : State} {m : MethodId} {args : Array Value} {below : List Frame} {meth : Method} {c : Code} {Q : State → Prop} {A : Nat → Prop} {G : g_C} (F : g_F p m c cL_law 9 s args wsL_law RL A G) (hRf : R.frames = 12) (hRl : R.locals = 434) (hRc : R.cells = 601024) (hRs : R.slots = 7293034) (hlt : l.stackTraces = false) {b N : Nat} {xs : Nat → Int32} (hX : va_X b N xs s s.heap) (hbl : b < s.heap.size) (hbA : ¬ A b) {k : Nat} (hkN : 6 * k + 6 ≤ N) (hN : N ≤ 3072) {w : g_W} {x mo o od : Nat} {S : Sg} (J : lwJ G w x mo o od S) {H : Heap} {locs : List Loc} {ls : Array Slot} (hP : g_P A G w H) (hS : va_S A s.heap H locs) (hl : lv_has ls 9 [(0, .ref b), (1, .ref x), (2, .ref mo), (3, .ref o), (4, .ref od), (5, .int (nI (6 * k)))])
    (cont : ∀ (S' : Sg) (w' : g_W) (H' : Heap) (locs' : List Loc) (ls' : Array Slot), lwJ G w' x mo o od S' → g_P A G w' H' → va_S A s.heap H' locs' → lv_has ls' 9 [(0, .ref b), (1, .ref x), (2, .ref mo), (3, .ref o), (4, .ref od), (5, .int (nI (6 * k)))] → W p l e R s m args below meth c H' locs' (20 + 12 * k + 12) (300 + 180 * k + 180) Q (F0 m 1516 ls' [])) : W p l e R s m args below meth c H locs (20 + 12 * k) (300 + 180 * k) Q (F0 m 296 ls []) := by
  obtain ⟨⟨hx, hb, hml, hown, hts⟩, hK, hZ, hA⟩ := id F
  obtain ⟨ad, Cn, T, md, th, tp, bt, Fm, L, fo, fd, rfl, rfl, hB, hT3, Hj, HM, Hf, ho, hod, hsep⟩ := J
  have hne := g_ne hod ho rfl
  refine lv_aload_n hx hb dL_law_296 rfl (lv_at hl 1 rfl) ?_
  refine lv_aload_n hx hb dL_law_297 rfl (lv_at hl 0 rfl) ?_
  refine lv_iload hx hb dL_law_298 (lv_at hl 5 rfl) ?_
  refine lv_iconst (v := 1) hx hb dL_law_300 (by decide) ?_
  refine lv_iadd hx hb dL_law_301 ?_
  refine lv_topi (fun v1 ev1 => ?_)
  obtain rfl : v1 = nI (6 * k + 1) := by
    rw [ev1]
    exact nI_add _ 1
  refine va_sld hx hb hX hbl hbA hS (vp_in_nI (n := 6 * k + 1) (by omega) (by omega)) dL_law_302 ?_
  rw [nI_clamp (n := 6 * k + 1) (by omega)]
  refine lv_aload_n hx hb dL_law_303 rfl (lv_at hl 0 rfl) ?_
  refine lv_iload hx hb dL_law_304 (lv_at hl 5 rfl) ?_
  refine lv_iconst (v := 2) hx hb dL_law_306 (by decide) ?_
  refine lv_iadd hx hb dL_law_307 ?_
  refine lv_topi (fun v2 ev2 => ?_)
  obtain rfl : v2 = nI (6 * k + 2) := by
    rw [ev2]
    exact nI_add _ 2
  refine va_sld hx hb hX hbl hbA hS (vp_in_nI (n := 6 * k + 2) (by omega) (by omega)) dL_law_308 ?_
  rw [nI_clamp (n := 6 * k + 2) (by omega)]
  refine lv_aload_n hx hb dL_law_309 rfl (lv_at hl 0 rfl) ?_
  refine lv_iload hx hb dL_law_310 (lv_at hl 5 rfl) ?_
  refine lv_iconst (v := 3) hx hb dL_law_312 (by decide) ?_
  refine lv_iadd hx hb dL_law_313 ?_
  refine lv_topi (fun v3 ev3 => ?_)
  obtain rfl : v3 = nI (6 * k + 3) := by
    rw [ev3]
    exact nI_add _ 3
  refine va_sld hx hb hX hbl hbA hS (vp_in_nI (n := 6 * k + 3) (by omega) (by omega)) dL_law_314 ?_
  rw [nI_clamp (n := 6 * k + 3) (by omega)]
  refine lv_aload_n hx hb dL_law_315 rfl (lv_at hl 0 rfl) ?_
  refine lv_iload hx hb dL_law_316 (lv_at hl 5 rfl) ?_
  refine lv_iconst (v := 4) hx hb dL_law_318 (by decide) ?_
  refine lv_iadd hx hb dL_law_319 ?_
  refine lv_topi (fun v4 ev4 => ?_)
  obtain rfl : v4 = nI (6 * k + 4) := by
    rw [ev4]
    exact nI_add _ 4
  refine va_sld hx hb hX hbl hbA hS (vp_in_nI (n := 6 * k + 4) (by omega) (by omega)) dL_law_320 ?_
  rw [nI_clamp (n := 6 * k + 4) (by omega)]
  refine lv_aload_n hx hb dL_law_321 rfl (lv_at hl 0 rfl) ?_
  refine lv_iload hx hb dL_law_322 (lv_at hl 5 rfl) ?_
  refine lv_iconst (v := 5) hx hb dL_law_324 (by decide) ?_
  refine lv_iadd hx hb dL_law_325 ?_
  refine lv_topi (fun v5 ev5 => ?_)
  obtain rfl : v5 = nI (6 * k + 5) := by
    rw [ev5]
    exact nI_add _ 5
  refine va_sld hx hb hX hbl hbA hS (vp_in_nI (n := 6 * k + 5) (by omega) (by omega)) dL_law_326 ?_
  rw [nI_clamp (n := 6 * k + 5) (by omega)]
  refine lv_if_eq (tgt := 334) hx hb dL_law_327 (by decide) (fun c6 => ?_) (fun c6 => ?_)
  · have zb := c6
    refine lv_iconst (v := 0) hx hb dL_law_334 (by decide) ?_
    refine lv_aload_n hx hb dL_law_335 rfl (lv_at hl 3 rfl) ?_
    rw [show (.int 0 : Value) = .int (g_b (decide (xs (6 * k + 5) ≠ 0))) from by rw [decide_eq_false (fun q => q zb)]; rfl]
    refine g_Sxi (As := [.ref (ad 0 0), .int (xs (6 * k + 1)), .int (xs (6 * k + 2)), .int (xs (6 * k + 3)), .int (xs (6 * k + 4)), .int (g_b (decide (xs (6 * k + 5) ≠ 0))), .ref o]) (rest := []) F hP hS (k_L_addGear l hlt A G w ad Cn S T (xs (6 * k + 1)) (xs (6 * k + 2)) (xs (6 * k + 3)) (xs (6 * k + 4)) (decide (xs (6 * k + 5) ≠ 0)) hB.1 hB.2.1 hB.2.2.1 hB.2.2.2.1 hB.2.2.2.2 o fo ho (fun k i h => (hsep.1 k i h).2.1)) (vx_cwSW 7 hts gL_law_L_addGear rfl rfl rfl cdS_L_addGear ⟨by rw [hRf]; exact Nat.le_of_ble_eq_true rfl, by rw [hRl]; exact Nat.le_of_ble_eq_true rfl⟩) rfl hl.1 (Nat.le_of_ble_eq_true rfl) dL_law_336 ⟨by omega, by omega⟩ rfl (fun r7 w8 H locs h9 hP hS => ?_)
    rcases h9 with c9 | c9
    · obtain ⟨⟨c0, c4⟩, er, ew⟩ := c9
      rw [ew] at hP
      rw [er]
      have hA9 := after_rf hB
      have HM1 := HM
      have g1 := ho
      have g2 := hod
      have h1f : ∀ a, w a ≠ none → a ≠ o → a ≠ od → w a = w a := fun _ _ _ _ => rfl
      refine lv_istore (lv' := [(6, .int (nI (cdAddGear S (xs (6 * k + 1)) (xs (6 * k + 2)) (xs (6 * k + 3)) (xs (6 * k + 4))))), (0, .ref b), (1, .ref (ad 0 0)), (2, .ref (md 0)), (3, .ref o), (4, .ref od), (5, .int (nI (6 * k)))]) hx hb dL_law_339 hl (by decide) rfl (fun ls hl => ?_)
      refine lv_aload_n hx hb dL_law_341 rfl (lv_at hl 3 rfl) ?_
      refine lv_aload_n hx hb dL_law_342 rfl (lv_at hl 1 rfl) ?_
      refine lv_iload hx hb dL_law_343 (lv_at hl 6 rfl) ?_
      refine lv_iconst (v := 1) hx hb dL_law_345 (by decide) ?_
      refine lv_iadd hx hb dL_law_346 ?_
      refine lv_topi (fun v10 ev10 => ?_)
      obtain rfl : v10 = nI (6 * k + 1) := by
        rw [ev10]
        exact nI_add _ 1
      refine va_sld hx hb hX hbl hbA hS (vp_in_nI (n := 6 * k + 1) (by omega) (by omega)) dL_law_347 ?_
      rw [nI_clamp (n := 6 * k + 1) (by omega)]
      refine lv_aload_n hx hb dL_law_348 rfl (lv_at hl 1 rfl) ?_
      refine lv_iload hx hb dL_law_349 (lv_at hl 6 rfl) ?_
      refine lv_iconst (v := 2) hx hb dL_law_351 (by decide) ?_
      refine lv_iadd hx hb dL_law_352 ?_
      refine lv_topi (fun v11 ev11 => ?_)
      obtain rfl : v11 = nI (6 * k + 2) := by
        rw [ev11]
        exact nI_add _ 2
      refine va_sld hx hb hX hbl hbA hS (vp_in_nI (n := 6 * k + 2) (by omega) (by omega)) dL_law_353 ?_
      rw [nI_clamp (n := 6 * k + 2) (by omega)]
      refine lv_aload_n hx hb dL_law_354 rfl (lv_at hl 1 rfl) ?_
      refine lv_iload hx hb dL_law_355 (lv_at hl 6 rfl) ?_
      refine lv_iconst (v := 3) hx hb dL_law_357 (by decide) ?_
      refine lv_iadd hx hb dL_law_358 ?_
      refine lv_topi (fun v12 ev12 => ?_)
      obtain rfl : v12 = nI (6 * k + 3) := by
        rw [ev12]
        exact nI_add _ 3
      refine va_sld hx hb hX hbl hbA hS (vp_in_nI (n := 6 * k + 3) (by omega) (by omega)) dL_law_359 ?_
      rw [nI_clamp (n := 6 * k + 3) (by omega)]
      refine lv_aload_n hx hb dL_law_360 rfl (lv_at hl 1 rfl) ?_
      refine lv_iload hx hb dL_law_361 (lv_at hl 6 rfl) ?_
      refine lv_iconst (v := 4) hx hb dL_law_363 (by decide) ?_
      refine lv_iadd hx hb dL_law_364 ?_
      refine lv_topi (fun v13 ev13 => ?_)
      obtain rfl : v13 = nI (6 * k + 4) := by
        rw [ev13]
        exact nI_add _ 4
      refine va_sld hx hb hX hbl hbA hS (vp_in_nI (n := 6 * k + 4) (by omega) (by omega)) dL_law_365 ?_
      rw [nI_clamp (n := 6 * k + 4) (by omega)]
      refine lv_aload_n hx hb dL_law_366 rfl (lv_at hl 1 rfl) ?_
      refine lv_iload hx hb dL_law_367 (lv_at hl 6 rfl) ?_
      refine lv_iconst (v := 5) hx hb dL_law_369 (by decide) ?_
      refine lv_iadd hx hb dL_law_370 ?_
      refine lv_topi (fun v14 ev14 => ?_)
      obtain rfl : v14 = nI (6 * k + 5) := by
        rw [ev14]
        exact nI_add _ 5
      refine va_sld hx hb hX hbl hbA hS (vp_in_nI (n := 6 * k + 5) (by omega) (by omega)) dL_law_371 ?_
      rw [nI_clamp (n := 6 * k + 5) (by omega)]
      refine lv_if_eq (tgt := 379) hx hb dL_law_372 (by decide) (fun c15 => ?_) (fun c15 => ?_)
      · refine lv_iconst (v := 0) hx hb dL_law_379 (by decide) ?_
        rw [show (.int 0 : Value) = .int (g_b (decide (xs (6 * k + 5) ≠ 0))) from by rw [decide_eq_false (fun q => q zb)]; rfl]
        refine g_Vi (As := [.int (xs (6 * k + 1)), .int (xs (6 * k + 2)), .int (xs (6 * k + 3)), .int (xs (6 * k + 4)), .int (g_b (decide (xs (6 * k + 5) ≠ 0)))]) (rest := []) F hP hS (k_X7_addGear l A G w md S th tp bt Fm L (xs (6 * k + 1)) (xs (6 * k + 2)) (xs (6 * k + 3)) (xs (6 * k + 4)) (decide (xs (6 * k + 5) ≠ 0)) HM1 Hj Hf hB.2.2.1) (cwV 5 hts gL_law_X7_addGear rfl rfl rfl cd_X7_addGear ⟨by rw [hRf]; exact Nat.le_of_ble_eq_true rfl, by rw [hRl]; exact Nat.le_of_ble_eq_true rfl⟩) (HM1.1) rfl rfl rfl hl.1 (Nat.le_of_ble_eq_true rfl) dL_law_380 ⟨by omega, by omega⟩ rfl (fun r2 w16 H locs h17 hP hS => ?_)
        rcases h17 with ⟨d0, hM2⟩ | ⟨d0, hM2⟩
        rotate_left
        · exact absurd d0 c0
        obtain ⟨hfr2, tp2, bt2, F2, L2, HW2, HF2⟩ := id hM2
        refine lv_istore (lv' := [(7, .int r2), (6, .int (nI (cdAddGear S (xs (6 * k + 1)) (xs (6 * k + 2)) (xs (6 * k + 3)) (xs (6 * k + 4))))), (0, .ref b), (1, .ref (ad 0 0)), (2, .ref (md 0)), (3, .ref o), (4, .ref od), (5, .int (nI (6 * k)))]) hx hb dL_law_383 hl (by decide) rfl (fun ls hl => ?_)
        refine lv_aload_n hx hb dL_law_385 rfl (lv_at hl 4 rfl) ?_
        refine g_Vi (As := []) (rest := []) F hP hS (k_X7_thrown l A G w16 md S (nI (cdAddGear S (xs (6 * k + 1)) (xs (6 * k + 2)) (xs (6 * k + 3)) (xs (6 * k + 4)))) _ _ F2 L2 HW2.1) (cwV 0 hts gL_law_X7_thrown rfl rfl rfl cd_X7_thrown ⟨by rw [hRf]; exact Nat.le_of_ble_eq_true rfl, by rw [hRl]; exact Nat.le_of_ble_eq_true rfl⟩) (HW2.1) rfl rfl rfl hl.1 (Nat.le_of_ble_eq_true rfl) dL_law_386 ⟨by omega, by omega⟩ rfl (fun r18 w19 H locs h20 hP hS => ?_)
        rw [h20.2] at hP
        rw [h20.1]
        refine lv_iload hx hb dL_law_389 (lv_at hl 1 rfl) ?_
        refine lv_icmp_eq (tgt := 396) hx hb dL_law_391 (by decide) (fun c21 => ?_) (fun c21 => ?_)
        · refine lv_iload hx hb dL_law_396 (lv_at hl 1 rfl) ?_
          refine lv_if_ne (tgt := 413) hx hb dL_law_398 (by decide) (fun c22 => ?_) (fun c22 => ?_)
          · refine lv_goto (tgt := 1516) hx hb dL_law_413 (by decide) ?_
            refine W.widen (k := 20 + 12 * k + 12) (n := 300 + 180 * k + 180) (by omega) (by omega) ?_
            exact cont _ w16 H locs ls (lw_step hB hsep Hj HM ho hod hA9 h1f g1 g2 hM2) hP hS (lv_sub hl [2, 3, 4, 5, 6, 7] rfl)
          · exact absurd ((nI_eq (a := cdAddGear S (xs (6 * k + 1)) (xs (6 * k + 2)) (xs (6 * k + 3)) (xs (6 * k + 4))) (b := 0) (by omega) (by omega)).mp c22) c0
        · exact absurd rfl c21
      · exact absurd zb c15
    · obtain ⟨c0, er, wA, hWp, ew⟩ := c9
      have hA9 := hWp
      have HM1 := lw_m2 hsep (lw_m1 hA9 hsep HM) (Or.inl rfl) ew
      have g1 : w8 o = some (.inl (G.2.1 1, 1, .inr (.inl (vp_updL fo 0 ((vlAddGear S).toInt64))))) := by rw [ew]; exact g_up_s _ _ _
      have g2 : w8 od = some (.inl (G.2.1 5, 1, .inr (.inr (.inr (.inl fd))))) := by rw [ew, g_up_n _ hne]; exact lw_o hA9 hsep (Or.inr rfl) hod
      have h1f : ∀ a, wA a ≠ none → a ≠ o → a ≠ od → w8 a = wA a := fun a _ h2 _ => by rw [ew]; exact g_up_n _ h2
      rw [er]
      refine lv_istore (lv' := [(6, .int 0), (0, .ref b), (1, .ref (ad 0 0)), (2, .ref (md 0)), (3, .ref o), (4, .ref od), (5, .int (nI (6 * k)))]) hx hb dL_law_339 hl (by decide) rfl (fun ls hl => ?_)
      refine lv_aload_n hx hb dL_law_341 rfl (lv_at hl 3 rfl) ?_
      refine lv_aload_n hx hb dL_law_342 rfl (lv_at hl 1 rfl) ?_
      refine lv_iload hx hb dL_law_343 (lv_at hl 6 rfl) ?_
      refine lv_iconst (v := 1) hx hb dL_law_345 (by decide) ?_
      refine lv_iadd hx hb dL_law_346 ?_
      refine lv_topi (fun v23 ev23 => ?_)
      obtain rfl : v23 = nI (6 * k + 1) := by
        rw [ev23]
        exact nI_add _ 1
      refine va_sld hx hb hX hbl hbA hS (vp_in_nI (n := 6 * k + 1) (by omega) (by omega)) dL_law_347 ?_
      rw [nI_clamp (n := 6 * k + 1) (by omega)]
      refine lv_aload_n hx hb dL_law_348 rfl (lv_at hl 1 rfl) ?_
      refine lv_iload hx hb dL_law_349 (lv_at hl 6 rfl) ?_
      refine lv_iconst (v := 2) hx hb dL_law_351 (by decide) ?_
      refine lv_iadd hx hb dL_law_352 ?_
      refine lv_topi (fun v24 ev24 => ?_)
      obtain rfl : v24 = nI (6 * k + 2) := by
        rw [ev24]
        exact nI_add _ 2
      refine va_sld hx hb hX hbl hbA hS (vp_in_nI (n := 6 * k + 2) (by omega) (by omega)) dL_law_353 ?_
      rw [nI_clamp (n := 6 * k + 2) (by omega)]
      refine lv_aload_n hx hb dL_law_354 rfl (lv_at hl 1 rfl) ?_
      refine lv_iload hx hb dL_law_355 (lv_at hl 6 rfl) ?_
      refine lv_iconst (v := 3) hx hb dL_law_357 (by decide) ?_
      refine lv_iadd hx hb dL_law_358 ?_
      refine lv_topi (fun v25 ev25 => ?_)
      obtain rfl : v25 = nI (6 * k + 3) := by
        rw [ev25]
        exact nI_add _ 3
      refine va_sld hx hb hX hbl hbA hS (vp_in_nI (n := 6 * k + 3) (by omega) (by omega)) dL_law_359 ?_
      rw [nI_clamp (n := 6 * k + 3) (by omega)]
      refine lv_aload_n hx hb dL_law_360 rfl (lv_at hl 1 rfl) ?_
      refine lv_iload hx hb dL_law_361 (lv_at hl 6 rfl) ?_
      refine lv_iconst (v := 4) hx hb dL_law_363 (by decide) ?_
      refine lv_iadd hx hb dL_law_364 ?_
      refine lv_topi (fun v26 ev26 => ?_)
      obtain rfl : v26 = nI (6 * k + 4) := by
        rw [ev26]
        exact nI_add _ 4
      refine va_sld hx hb hX hbl hbA hS (vp_in_nI (n := 6 * k + 4) (by omega) (by omega)) dL_law_365 ?_
      rw [nI_clamp (n := 6 * k + 4) (by omega)]
      refine lv_aload_n hx hb dL_law_366 rfl (lv_at hl 1 rfl) ?_
      refine lv_iload hx hb dL_law_367 (lv_at hl 6 rfl) ?_
      refine lv_iconst (v := 5) hx hb dL_law_369 (by decide) ?_
      refine lv_iadd hx hb dL_law_370 ?_
      refine lv_topi (fun v27 ev27 => ?_)
      obtain rfl : v27 = nI (6 * k + 5) := by
        rw [ev27]
        exact nI_add _ 5
      refine va_sld hx hb hX hbl hbA hS (vp_in_nI (n := 6 * k + 5) (by omega) (by omega)) dL_law_371 ?_
      rw [nI_clamp (n := 6 * k + 5) (by omega)]
      refine lv_if_eq (tgt := 379) hx hb dL_law_372 (by decide) (fun c28 => ?_) (fun c28 => ?_)
      · refine lv_iconst (v := 0) hx hb dL_law_379 (by decide) ?_
        rw [show (.int 0 : Value) = .int (g_b (decide (xs (6 * k + 5) ≠ 0))) from by rw [decide_eq_false (fun q => q zb)]; rfl]
        refine g_Vi (As := [.int (xs (6 * k + 1)), .int (xs (6 * k + 2)), .int (xs (6 * k + 3)), .int (xs (6 * k + 4)), .int (g_b (decide (xs (6 * k + 5) ≠ 0)))]) (rest := []) F hP hS (k_X7_addGear l A G w8 md S th tp bt Fm L (xs (6 * k + 1)) (xs (6 * k + 2)) (xs (6 * k + 3)) (xs (6 * k + 4)) (decide (xs (6 * k + 5) ≠ 0)) HM1 Hj Hf hB.2.2.1) (cwV 5 hts gL_law_X7_addGear rfl rfl rfl cd_X7_addGear ⟨by rw [hRf]; exact Nat.le_of_ble_eq_true rfl, by rw [hRl]; exact Nat.le_of_ble_eq_true rfl⟩) (HM1.1) rfl rfl rfl hl.1 (Nat.le_of_ble_eq_true rfl) dL_law_380 ⟨by omega, by omega⟩ rfl (fun r2 w29 H locs h30 hP hS => ?_)
        rcases h30 with ⟨d0, hM2⟩ | ⟨d0, ok, hM2⟩
        · exact absurd c0 d0
        rw [ok]
        obtain ⟨hfr2, tp2, bt2, F2, L2, HW2, HF2⟩ := id hM2
        have HO2 : w29 o = some (.inl (G.2.1 1, 1, .inr (.inl (vp_updL fo 0 ((vlAddGear S).toInt64))))) := by rw [hfr2.1 o (by rw [g1]; exact fun q => (nomatch q)) (fun j hj => (hsep.2 j hj).1)]; exact g1
        refine lv_istore (lv' := [(7, .int (vlAddGear S)), (6, .int 0), (0, .ref b), (1, .ref (ad 0 0)), (2, .ref (md 0)), (3, .ref o), (4, .ref od), (5, .int (nI (6 * k)))]) hx hb dL_law_383 hl (by decide) rfl (fun ls hl => ?_)
        refine lv_aload_n hx hb dL_law_385 rfl (lv_at hl 4 rfl) ?_
        refine g_Vi (As := []) (rest := []) F hP hS (k_X7_thrown l A G w29 md (nxAddGear S (xs (6 * k + 1)) (xs (6 * k + 2)) (xs (6 * k + 3)) (xs (6 * k + 4)) (decide (xs (6 * k + 5) ≠ 0))) (nI 0) _ _ F2 L2 HW2.1) (cwV 0 hts gL_law_X7_thrown rfl rfl rfl cd_X7_thrown ⟨by rw [hRf]; exact Nat.le_of_ble_eq_true rfl, by rw [hRl]; exact Nat.le_of_ble_eq_true rfl⟩) (HW2.1) rfl rfl rfl hl.1 (Nat.le_of_ble_eq_true rfl) dL_law_386 ⟨by omega, by omega⟩ rfl (fun r31 w32 H locs h33 hP hS => ?_)
        rw [h33.2] at hP
        rw [h33.1]
        refine lv_iload hx hb dL_law_389 (lv_at hl 1 rfl) ?_
        refine lv_icmp_eq (tgt := 396) hx hb dL_law_391 (by decide) (fun c34 => ?_) (fun c34 => ?_)
        · refine lv_iload hx hb dL_law_396 (lv_at hl 1 rfl) ?_
          refine lv_if_ne (tgt := 413) hx hb dL_law_398 (by decide) (fun c35 => ?_) (fun c35 => ?_)
          · exact absurd c35 (by decide)
          · refine lv_aload_n hx hb dL_law_401 rfl (lv_at hl 5 rfl) ?_
            refine lv_iconst (v := 0) hx hb dL_law_402 (by decide) ?_
            refine g_lald F hP HO2 (by unfold vp_in; decide) dL_law_403 ?_
            rw [show (.long ((vp_updL fo 0 ((vlAddGear S).toInt64)) (0 : Int32).toNatClampNeg) : Value) = .long ((vlAddGear S).toInt64) from by rw [show ((0 : Int32).toNatClampNeg) = 0 from by decide]; unfold vp_updL; rw [if_pos rfl]]
            refine lv_iload hx hb dL_law_404 (lv_at hl 0 rfl) ?_
            refine lv_i2l hx hb dL_law_406 rfl ?_
            refine lv_topl (fun v36 ev36 => ?_)
            obtain rfl : v36 = ((vlAddGear S).toInt64) := by
              exact ev36
            refine W.lcmp hx hb dL_law_407 ?_
            refine lv_if_eq (tgt := 413) hx hb dL_law_408 (by decide) (fun c37 => ?_) (fun c37 => ?_)
            · have c37 := (lg_cmp_eq ((vlAddGear S).toInt64) ((vlAddGear S).toInt64)).mp c37
              refine lv_goto (tgt := 1516) hx hb dL_law_413 (by decide) ?_
              refine W.widen (k := 20 + 12 * k + 12) (n := 300 + 180 * k + 180) (by omega) (by omega) ?_
              exact cont _ w29 H locs ls (lw_step hB hsep Hj HM ho hod hA9 h1f g1 g2 hM2) hP hS (lv_sub hl [2, 3, 4, 5, 6, 7] rfl)
            · have c37 : ¬ (((vlAddGear S).toInt64) = ((vlAddGear S).toInt64)) := fun h => c37 ((lg_cmp_eq ((vlAddGear S).toInt64) ((vlAddGear S).toInt64)).mpr h)
              exact absurd rfl c37
        · exact absurd (show nI 0 = (0 : Int32) from rfl) c34
      · exact absurd zb c28
  · have zb := c6
    refine lv_iconst (v := 1) hx hb dL_law_330 (by decide) ?_
    refine lv_goto (tgt := 335) hx hb dL_law_331 (by decide) ?_
    refine lv_aload_n hx hb dL_law_335 rfl (lv_at hl 3 rfl) ?_
    rw [show (.int 1 : Value) = .int (g_b (decide (xs (6 * k + 5) ≠ 0))) from by rw [decide_eq_true zb]; rfl]
    refine g_Sxi (As := [.ref (ad 0 0), .int (xs (6 * k + 1)), .int (xs (6 * k + 2)), .int (xs (6 * k + 3)), .int (xs (6 * k + 4)), .int (g_b (decide (xs (6 * k + 5) ≠ 0))), .ref o]) (rest := []) F hP hS (k_L_addGear l hlt A G w ad Cn S T (xs (6 * k + 1)) (xs (6 * k + 2)) (xs (6 * k + 3)) (xs (6 * k + 4)) (decide (xs (6 * k + 5) ≠ 0)) hB.1 hB.2.1 hB.2.2.1 hB.2.2.2.1 hB.2.2.2.2 o fo ho (fun k i h => (hsep.1 k i h).2.1)) (vx_cwSW 7 hts gL_law_L_addGear rfl rfl rfl cdS_L_addGear ⟨by rw [hRf]; exact Nat.le_of_ble_eq_true rfl, by rw [hRl]; exact Nat.le_of_ble_eq_true rfl⟩) rfl hl.1 (Nat.le_of_ble_eq_true rfl) dL_law_336 ⟨by omega, by omega⟩ rfl (fun r38 w39 H locs h40 hP hS => ?_)
    rcases h40 with c9 | c9
    · obtain ⟨⟨c0, c4⟩, er, ew⟩ := c9
      rw [ew] at hP
      rw [er]
      have hA9 := after_rf hB
      have HM1 := HM
      have g1 := ho
      have g2 := hod
      have h1f : ∀ a, w a ≠ none → a ≠ o → a ≠ od → w a = w a := fun _ _ _ _ => rfl
      refine lv_istore (lv' := [(6, .int (nI (cdAddGear S (xs (6 * k + 1)) (xs (6 * k + 2)) (xs (6 * k + 3)) (xs (6 * k + 4))))), (0, .ref b), (1, .ref (ad 0 0)), (2, .ref (md 0)), (3, .ref o), (4, .ref od), (5, .int (nI (6 * k)))]) hx hb dL_law_339 hl (by decide) rfl (fun ls hl => ?_)
      refine lv_aload_n hx hb dL_law_341 rfl (lv_at hl 3 rfl) ?_
      refine lv_aload_n hx hb dL_law_342 rfl (lv_at hl 1 rfl) ?_
      refine lv_iload hx hb dL_law_343 (lv_at hl 6 rfl) ?_
      refine lv_iconst (v := 1) hx hb dL_law_345 (by decide) ?_
      refine lv_iadd hx hb dL_law_346 ?_
      refine lv_topi (fun v41 ev41 => ?_)
      obtain rfl : v41 = nI (6 * k + 1) := by
        rw [ev41]
        exact nI_add _ 1
      refine va_sld hx hb hX hbl hbA hS (vp_in_nI (n := 6 * k + 1) (by omega) (by omega)) dL_law_347 ?_
      rw [nI_clamp (n := 6 * k + 1) (by omega)]
      refine lv_aload_n hx hb dL_law_348 rfl (lv_at hl 1 rfl) ?_
      refine lv_iload hx hb dL_law_349 (lv_at hl 6 rfl) ?_
      refine lv_iconst (v := 2) hx hb dL_law_351 (by decide) ?_
      refine lv_iadd hx hb dL_law_352 ?_
      refine lv_topi (fun v42 ev42 => ?_)
      obtain rfl : v42 = nI (6 * k + 2) := by
        rw [ev42]
        exact nI_add _ 2
      refine va_sld hx hb hX hbl hbA hS (vp_in_nI (n := 6 * k + 2) (by omega) (by omega)) dL_law_353 ?_
      rw [nI_clamp (n := 6 * k + 2) (by omega)]
      refine lv_aload_n hx hb dL_law_354 rfl (lv_at hl 1 rfl) ?_
      refine lv_iload hx hb dL_law_355 (lv_at hl 6 rfl) ?_
      refine lv_iconst (v := 3) hx hb dL_law_357 (by decide) ?_
      refine lv_iadd hx hb dL_law_358 ?_
      refine lv_topi (fun v43 ev43 => ?_)
      obtain rfl : v43 = nI (6 * k + 3) := by
        rw [ev43]
        exact nI_add _ 3
      refine va_sld hx hb hX hbl hbA hS (vp_in_nI (n := 6 * k + 3) (by omega) (by omega)) dL_law_359 ?_
      rw [nI_clamp (n := 6 * k + 3) (by omega)]
      refine lv_aload_n hx hb dL_law_360 rfl (lv_at hl 1 rfl) ?_
      refine lv_iload hx hb dL_law_361 (lv_at hl 6 rfl) ?_
      refine lv_iconst (v := 4) hx hb dL_law_363 (by decide) ?_
      refine lv_iadd hx hb dL_law_364 ?_
      refine lv_topi (fun v44 ev44 => ?_)
      obtain rfl : v44 = nI (6 * k + 4) := by
        rw [ev44]
        exact nI_add _ 4
      refine va_sld hx hb hX hbl hbA hS (vp_in_nI (n := 6 * k + 4) (by omega) (by omega)) dL_law_365 ?_
      rw [nI_clamp (n := 6 * k + 4) (by omega)]
      refine lv_aload_n hx hb dL_law_366 rfl (lv_at hl 1 rfl) ?_
      refine lv_iload hx hb dL_law_367 (lv_at hl 6 rfl) ?_
      refine lv_iconst (v := 5) hx hb dL_law_369 (by decide) ?_
      refine lv_iadd hx hb dL_law_370 ?_
      refine lv_topi (fun v45 ev45 => ?_)
      obtain rfl : v45 = nI (6 * k + 5) := by
        rw [ev45]
        exact nI_add _ 5
      refine va_sld hx hb hX hbl hbA hS (vp_in_nI (n := 6 * k + 5) (by omega) (by omega)) dL_law_371 ?_
      rw [nI_clamp (n := 6 * k + 5) (by omega)]
      refine lv_if_eq (tgt := 379) hx hb dL_law_372 (by decide) (fun c46 => ?_) (fun c46 => ?_)
      · exact absurd c46 zb
      · refine lv_iconst (v := 1) hx hb dL_law_375 (by decide) ?_
        refine lv_goto (tgt := 380) hx hb dL_law_376 (by decide) ?_
        rw [show (.int 1 : Value) = .int (g_b (decide (xs (6 * k + 5) ≠ 0))) from by rw [decide_eq_true zb]; rfl]
        refine g_Vi (As := [.int (xs (6 * k + 1)), .int (xs (6 * k + 2)), .int (xs (6 * k + 3)), .int (xs (6 * k + 4)), .int (g_b (decide (xs (6 * k + 5) ≠ 0)))]) (rest := []) F hP hS (k_X7_addGear l A G w md S th tp bt Fm L (xs (6 * k + 1)) (xs (6 * k + 2)) (xs (6 * k + 3)) (xs (6 * k + 4)) (decide (xs (6 * k + 5) ≠ 0)) HM1 Hj Hf hB.2.2.1) (cwV 5 hts gL_law_X7_addGear rfl rfl rfl cd_X7_addGear ⟨by rw [hRf]; exact Nat.le_of_ble_eq_true rfl, by rw [hRl]; exact Nat.le_of_ble_eq_true rfl⟩) (HM1.1) rfl rfl rfl hl.1 (Nat.le_of_ble_eq_true rfl) dL_law_380 ⟨by omega, by omega⟩ rfl (fun r2 w47 H locs h48 hP hS => ?_)
        rcases h48 with ⟨d0, hM2⟩ | ⟨d0, hM2⟩
        rotate_left
        · exact absurd d0 c0
        obtain ⟨hfr2, tp2, bt2, F2, L2, HW2, HF2⟩ := id hM2
        refine lv_istore (lv' := [(7, .int r2), (6, .int (nI (cdAddGear S (xs (6 * k + 1)) (xs (6 * k + 2)) (xs (6 * k + 3)) (xs (6 * k + 4))))), (0, .ref b), (1, .ref (ad 0 0)), (2, .ref (md 0)), (3, .ref o), (4, .ref od), (5, .int (nI (6 * k)))]) hx hb dL_law_383 hl (by decide) rfl (fun ls hl => ?_)
        refine lv_aload_n hx hb dL_law_385 rfl (lv_at hl 4 rfl) ?_
        refine g_Vi (As := []) (rest := []) F hP hS (k_X7_thrown l A G w47 md S (nI (cdAddGear S (xs (6 * k + 1)) (xs (6 * k + 2)) (xs (6 * k + 3)) (xs (6 * k + 4)))) _ _ F2 L2 HW2.1) (cwV 0 hts gL_law_X7_thrown rfl rfl rfl cd_X7_thrown ⟨by rw [hRf]; exact Nat.le_of_ble_eq_true rfl, by rw [hRl]; exact Nat.le_of_ble_eq_true rfl⟩) (HW2.1) rfl rfl rfl hl.1 (Nat.le_of_ble_eq_true rfl) dL_law_386 ⟨by omega, by omega⟩ rfl (fun r49 w50 H locs h51 hP hS => ?_)
        rw [h51.2] at hP
        rw [h51.1]
        refine lv_iload hx hb dL_law_389 (lv_at hl 1 rfl) ?_
        refine lv_icmp_eq (tgt := 396) hx hb dL_law_391 (by decide) (fun c52 => ?_) (fun c52 => ?_)
        · refine lv_iload hx hb dL_law_396 (lv_at hl 1 rfl) ?_
          refine lv_if_ne (tgt := 413) hx hb dL_law_398 (by decide) (fun c53 => ?_) (fun c53 => ?_)
          · refine lv_goto (tgt := 1516) hx hb dL_law_413 (by decide) ?_
            refine W.widen (k := 20 + 12 * k + 12) (n := 300 + 180 * k + 180) (by omega) (by omega) ?_
            exact cont _ w47 H locs ls (lw_step hB hsep Hj HM ho hod hA9 h1f g1 g2 hM2) hP hS (lv_sub hl [2, 3, 4, 5, 6, 7] rfl)
          · exact absurd ((nI_eq (a := cdAddGear S (xs (6 * k + 1)) (xs (6 * k + 2)) (xs (6 * k + 3)) (xs (6 * k + 4))) (b := 0) (by omega) (by omega)).mp c53) c0
        · exact absurd rfl c52
    · obtain ⟨c0, er, wA, hWp, ew⟩ := c9
      have hA9 := hWp
      have HM1 := lw_m2 hsep (lw_m1 hA9 hsep HM) (Or.inl rfl) ew
      have g1 : w39 o = some (.inl (G.2.1 1, 1, .inr (.inl (vp_updL fo 0 ((vlAddGear S).toInt64))))) := by rw [ew]; exact g_up_s _ _ _
      have g2 : w39 od = some (.inl (G.2.1 5, 1, .inr (.inr (.inr (.inl fd))))) := by rw [ew, g_up_n _ hne]; exact lw_o hA9 hsep (Or.inr rfl) hod
      have h1f : ∀ a, wA a ≠ none → a ≠ o → a ≠ od → w39 a = wA a := fun a _ h2 _ => by rw [ew]; exact g_up_n _ h2
      rw [er]
      refine lv_istore (lv' := [(6, .int 0), (0, .ref b), (1, .ref (ad 0 0)), (2, .ref (md 0)), (3, .ref o), (4, .ref od), (5, .int (nI (6 * k)))]) hx hb dL_law_339 hl (by decide) rfl (fun ls hl => ?_)
      refine lv_aload_n hx hb dL_law_341 rfl (lv_at hl 3 rfl) ?_
      refine lv_aload_n hx hb dL_law_342 rfl (lv_at hl 1 rfl) ?_
      refine lv_iload hx hb dL_law_343 (lv_at hl 6 rfl) ?_
      refine lv_iconst (v := 1) hx hb dL_law_345 (by decide) ?_
      refine lv_iadd hx hb dL_law_346 ?_
      refine lv_topi (fun v54 ev54 => ?_)
      obtain rfl : v54 = nI (6 * k + 1) := by
        rw [ev54]
        exact nI_add _ 1
      refine va_sld hx hb hX hbl hbA hS (vp_in_nI (n := 6 * k + 1) (by omega) (by omega)) dL_law_347 ?_
      rw [nI_clamp (n := 6 * k + 1) (by omega)]
      refine lv_aload_n hx hb dL_law_348 rfl (lv_at hl 1 rfl) ?_
      refine lv_iload hx hb dL_law_349 (lv_at hl 6 rfl) ?_
      refine lv_iconst (v := 2) hx hb dL_law_351 (by decide) ?_
      refine lv_iadd hx hb dL_law_352 ?_
      refine lv_topi (fun v55 ev55 => ?_)
      obtain rfl : v55 = nI (6 * k + 2) := by
        rw [ev55]
        exact nI_add _ 2
      refine va_sld hx hb hX hbl hbA hS (vp_in_nI (n := 6 * k + 2) (by omega) (by omega)) dL_law_353 ?_
      rw [nI_clamp (n := 6 * k + 2) (by omega)]
      refine lv_aload_n hx hb dL_law_354 rfl (lv_at hl 1 rfl) ?_
      refine lv_iload hx hb dL_law_355 (lv_at hl 6 rfl) ?_
      refine lv_iconst (v := 3) hx hb dL_law_357 (by decide) ?_
      refine lv_iadd hx hb dL_law_358 ?_
      refine lv_topi (fun v56 ev56 => ?_)
      obtain rfl : v56 = nI (6 * k + 3) := by
        rw [ev56]
        exact nI_add _ 3
      refine va_sld hx hb hX hbl hbA hS (vp_in_nI (n := 6 * k + 3) (by omega) (by omega)) dL_law_359 ?_
      rw [nI_clamp (n := 6 * k + 3) (by omega)]
      refine lv_aload_n hx hb dL_law_360 rfl (lv_at hl 1 rfl) ?_
      refine lv_iload hx hb dL_law_361 (lv_at hl 6 rfl) ?_
      refine lv_iconst (v := 4) hx hb dL_law_363 (by decide) ?_
      refine lv_iadd hx hb dL_law_364 ?_
      refine lv_topi (fun v57 ev57 => ?_)
      obtain rfl : v57 = nI (6 * k + 4) := by
        rw [ev57]
        exact nI_add _ 4
      refine va_sld hx hb hX hbl hbA hS (vp_in_nI (n := 6 * k + 4) (by omega) (by omega)) dL_law_365 ?_
      rw [nI_clamp (n := 6 * k + 4) (by omega)]
      refine lv_aload_n hx hb dL_law_366 rfl (lv_at hl 1 rfl) ?_
      refine lv_iload hx hb dL_law_367 (lv_at hl 6 rfl) ?_
      refine lv_iconst (v := 5) hx hb dL_law_369 (by decide) ?_
      refine lv_iadd hx hb dL_law_370 ?_
      refine lv_topi (fun v58 ev58 => ?_)
      obtain rfl : v58 = nI (6 * k + 5) := by
        rw [ev58]
        exact nI_add _ 5
      refine va_sld hx hb hX hbl hbA hS (vp_in_nI (n := 6 * k + 5) (by omega) (by omega)) dL_law_371 ?_
      rw [nI_clamp (n := 6 * k + 5) (by omega)]
      refine lv_if_eq (tgt := 379) hx hb dL_law_372 (by decide) (fun c59 => ?_) (fun c59 => ?_)
      · exact absurd c59 zb
      · refine lv_iconst (v := 1) hx hb dL_law_375 (by decide) ?_
        refine lv_goto (tgt := 380) hx hb dL_law_376 (by decide) ?_
        rw [show (.int 1 : Value) = .int (g_b (decide (xs (6 * k + 5) ≠ 0))) from by rw [decide_eq_true zb]; rfl]
        refine g_Vi (As := [.int (xs (6 * k + 1)), .int (xs (6 * k + 2)), .int (xs (6 * k + 3)), .int (xs (6 * k + 4)), .int (g_b (decide (xs (6 * k + 5) ≠ 0)))]) (rest := []) F hP hS (k_X7_addGear l A G w39 md S th tp bt Fm L (xs (6 * k + 1)) (xs (6 * k + 2)) (xs (6 * k + 3)) (xs (6 * k + 4)) (decide (xs (6 * k + 5) ≠ 0)) HM1 Hj Hf hB.2.2.1) (cwV 5 hts gL_law_X7_addGear rfl rfl rfl cd_X7_addGear ⟨by rw [hRf]; exact Nat.le_of_ble_eq_true rfl, by rw [hRl]; exact Nat.le_of_ble_eq_true rfl⟩) (HM1.1) rfl rfl rfl hl.1 (Nat.le_of_ble_eq_true rfl) dL_law_380 ⟨by omega, by omega⟩ rfl (fun r2 w60 H locs h61 hP hS => ?_)
        rcases h61 with ⟨d0, hM2⟩ | ⟨d0, ok, hM2⟩
        · exact absurd c0 d0
        rw [ok]
        obtain ⟨hfr2, tp2, bt2, F2, L2, HW2, HF2⟩ := id hM2
        have HO2 : w60 o = some (.inl (G.2.1 1, 1, .inr (.inl (vp_updL fo 0 ((vlAddGear S).toInt64))))) := by rw [hfr2.1 o (by rw [g1]; exact fun q => (nomatch q)) (fun j hj => (hsep.2 j hj).1)]; exact g1
        refine lv_istore (lv' := [(7, .int (vlAddGear S)), (6, .int 0), (0, .ref b), (1, .ref (ad 0 0)), (2, .ref (md 0)), (3, .ref o), (4, .ref od), (5, .int (nI (6 * k)))]) hx hb dL_law_383 hl (by decide) rfl (fun ls hl => ?_)
        refine lv_aload_n hx hb dL_law_385 rfl (lv_at hl 4 rfl) ?_
        refine g_Vi (As := []) (rest := []) F hP hS (k_X7_thrown l A G w60 md (nxAddGear S (xs (6 * k + 1)) (xs (6 * k + 2)) (xs (6 * k + 3)) (xs (6 * k + 4)) (decide (xs (6 * k + 5) ≠ 0))) (nI 0) _ _ F2 L2 HW2.1) (cwV 0 hts gL_law_X7_thrown rfl rfl rfl cd_X7_thrown ⟨by rw [hRf]; exact Nat.le_of_ble_eq_true rfl, by rw [hRl]; exact Nat.le_of_ble_eq_true rfl⟩) (HW2.1) rfl rfl rfl hl.1 (Nat.le_of_ble_eq_true rfl) dL_law_386 ⟨by omega, by omega⟩ rfl (fun r62 w63 H locs h64 hP hS => ?_)
        rw [h64.2] at hP
        rw [h64.1]
        refine lv_iload hx hb dL_law_389 (lv_at hl 1 rfl) ?_
        refine lv_icmp_eq (tgt := 396) hx hb dL_law_391 (by decide) (fun c65 => ?_) (fun c65 => ?_)
        · refine lv_iload hx hb dL_law_396 (lv_at hl 1 rfl) ?_
          refine lv_if_ne (tgt := 413) hx hb dL_law_398 (by decide) (fun c66 => ?_) (fun c66 => ?_)
          · exact absurd c66 (by decide)
          · refine lv_aload_n hx hb dL_law_401 rfl (lv_at hl 5 rfl) ?_
            refine lv_iconst (v := 0) hx hb dL_law_402 (by decide) ?_
            refine g_lald F hP HO2 (by unfold vp_in; decide) dL_law_403 ?_
            rw [show (.long ((vp_updL fo 0 ((vlAddGear S).toInt64)) (0 : Int32).toNatClampNeg) : Value) = .long ((vlAddGear S).toInt64) from by rw [show ((0 : Int32).toNatClampNeg) = 0 from by decide]; unfold vp_updL; rw [if_pos rfl]]
            refine lv_iload hx hb dL_law_404 (lv_at hl 0 rfl) ?_
            refine lv_i2l hx hb dL_law_406 rfl ?_
            refine lv_topl (fun v67 ev67 => ?_)
            obtain rfl : v67 = ((vlAddGear S).toInt64) := by
              exact ev67
            refine W.lcmp hx hb dL_law_407 ?_
            refine lv_if_eq (tgt := 413) hx hb dL_law_408 (by decide) (fun c68 => ?_) (fun c68 => ?_)
            · have c68 := (lg_cmp_eq ((vlAddGear S).toInt64) ((vlAddGear S).toInt64)).mp c68
              refine lv_goto (tgt := 1516) hx hb dL_law_413 (by decide) ?_
              refine W.widen (k := 20 + 12 * k + 12) (n := 300 + 180 * k + 180) (by omega) (by omega) ?_
              exact cont _ w60 H locs ls (lw_step hB hsep Hj HM ho hod hA9 h1f g1 g2 hM2) hP hS (lv_sub hl [2, 3, 4, 5, 6, 7] rfl)
            · have c68 : ¬ (((vlAddGear S).toInt64) = ((vlAddGear S).toInt64)) := fun h => c68 ((lg_cmp_eq ((vlAddGear S).toInt64) ((vlAddGear S).toInt64)).mpr h)
              exact absurd rfl c68
        · exact absurd (show nI 0 = (0 : Int32) from rfl) c65
