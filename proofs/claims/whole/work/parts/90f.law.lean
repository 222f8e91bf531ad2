set_option maxHeartbeats 4000000 in
set_option maxRecDepth 100000 in
theorem law_c4 {p : Program} {l : Launch} {e : Env} {R : Room} {s : State} {m : MethodId} {args : Array Value} {below : List Frame} {meth : Method} {c : Code} {Q : State → Prop} {A : Nat → Prop} {G : g_C} (F : g_F p m c cL_law 9 s args wsL_law RL A G) (hRf : R.frames = 12) (hRl : R.locals = 434) (hRc : R.cells = 601024) (hRs : R.slots = 7293034) (hlt : l.stackTraces = false) {b N : Nat} {xs : Nat → Int32} (hX : va_X b N xs s s.heap) (hbl : b < s.heap.size) (hbA : ¬ A b) {k : Nat} (hkN : 6 * k + 6 ≤ N) (hN : N ≤ 3072) {w : g_W} {x mo o od : Nat} {S : Sg} (J : lwJ G w x mo o od S) {H : Heap} {locs : List Loc} {ls : Array Slot} (hP : g_P A G w H) (hS : va_S A s.heap H locs) (hl : lv_has ls 9 [(0, .ref b), (1, .ref x), (2, .ref mo), (3, .ref o), (4, .ref od), (5, .int (nI (6 * k)))])
    (cont : ∀ (S' : Sg) (w' : g_W) (H' : Heap) (locs' : List Loc) (ls' : Array Slot), lwJ G w' x mo o od S' → g_P A G w' H' → va_S A s.heap H' locs' → lv_has ls' 9 [(0, .ref b), (1, .ref x), (2, .ref mo), (3, .ref o), (4, .ref od), (5, .int (nI (6 * k)))] → W p l e R s m args below meth c H' locs' (20 + 12 * k + 12) (300 + 180 * k + 180) Q (F0 m 1516 ls' [])) : W p l e R s m args below meth c H locs (20 + 12 * k) (300 + 180 * k) Q (F0 m 484 ls []) := by
  obtain ⟨⟨hx, hb, hml, hown, hts⟩, hK, hZ, hA⟩ := id F
  obtain ⟨ad, Cn, T, md, th, tp, bt, Fm, L, fo, fd, rfl, rfl, hB, hT3, Hj, HM, Hf, ho, hod, hsep⟩ := J
  have hne := g_ne hod ho rfl
  refine lv_aload_n hx hb dL_law_484 rfl (lv_at hl 1 rfl) ?_
  refine lv_aload_n hx hb dL_law_485 rfl (lv_at hl 3 rfl) ?_
  refine g_Sxi (As := [.ref (ad 0 0), .ref o]) (rest := []) F hP hS (k_L_unmesh l hlt A G w ad Cn S T  hB.1 hB.2.1 hB.2.2.1 hB.2.2.2.1 hB.2.2.2.2 o fo ho (fun k i h => (hsep.1 k i h).2.1)) (vx_cwSW 2 hts gL_law_L_unmesh rfl rfl rfl cdS_L_unmesh ⟨by rw [hRf]; exact Nat.le_of_ble_eq_true rfl, by rw [hRl]; exact Nat.le_of_ble_eq_true rfl⟩) rfl hl.1 (Nat.le_of_ble_eq_true rfl) dL_law_486 ⟨by omega, by omega⟩ rfl (fun r1 w2 H locs h3 hP hS => ?_)
  rcases h3 with c9 | c9
  · obtain ⟨⟨c0, c4⟩, er, ew⟩ := c9
    rw [ew] at hP
    rw [er]
    have hA9 := after_rf hB
    have HM1 := HM
    have g1 := ho
    have g2 := hod
    have h1f : ∀ a, w a ≠ none → a ≠ o → a ≠ od → w a = w a := fun _ _ _ _ => rfl
    refine lv_istore (lv' := [(6, .int (nI (cdUnmesh S))), (0, .ref b), (1, .ref (ad 0 0)), (2, .ref (md 0)), (3, .ref o), (4, .ref od), (5, .int (nI (6 * k)))]) hx hb dL_law_489 hl (by decide) rfl (fun ls hl => ?_)
    refine lv_aload_n hx hb dL_law_491 rfl (lv_at hl 3 rfl) ?_
    refine g_Vi (As := []) (rest := []) F hP hS (k_X7_unmesh l A G w md S th tp bt Fm L  HM1 Hj Hf hB.2.2.1) (cwV 0 hts gL_law_X7_unmesh rfl rfl rfl cd_X7_unmesh ⟨by rw [hRf]; exact Nat.le_of_ble_eq_true rfl, by rw [hRl]; exact Nat.le_of_ble_eq_true rfl⟩) (HM1.1) rfl rfl rfl hl.1 (Nat.le_of_ble_eq_true rfl) dL_law_492 ⟨by omega, by omega⟩ rfl (fun r2 w4 H locs h5 hP hS => ?_)
    rcases h5 with ⟨d0, hM2⟩ | ⟨d0, hM2⟩
    rotate_left
    · exact absurd d0 c0
    obtain ⟨hfr2, tp2, bt2, F2, L2, HW2, HF2⟩ := id hM2
    refine lv_istore (lv' := [(7, .int r2), (6, .int (nI (cdUnmesh S))), (0, .ref b), (1, .ref (ad 0 0)), (2, .ref (md 0)), (3, .ref o), (4, .ref od), (5, .int (nI (6 * k)))]) hx hb dL_law_495 hl (by decide) rfl (fun ls hl => ?_)
    refine lv_aload_n hx hb dL_law_497 rfl (lv_at hl 4 rfl) ?_
    refine g_Vi (As := []) (rest := []) F hP hS (k_X7_thrown l A G w4 md S (nI (cdUnmesh S)) _ _ F2 L2 HW2.1) (cwV 0 hts gL_law_X7_thrown rfl rfl rfl cd_X7_thrown ⟨by rw [hRf]; exact Nat.le_of_ble_eq_true rfl, by rw [hRl]; exact Nat.le_of_ble_eq_true rfl⟩) (HW2.1) rfl rfl rfl hl.1 (Nat.le_of_ble_eq_true rfl) dL_law_498 ⟨by omega, by omega⟩ rfl (fun r6 w7 H locs h8 hP hS => ?_)
    rw [h8.2] at hP
    rw [h8.1]
    refine lv_iload hx hb dL_law_501 (lv_at hl 1 rfl) ?_
    refine lv_icmp_eq (tgt := 508) hx hb dL_law_503 (by decide) (fun c9 => ?_) (fun c9 => ?_)
    · refine lv_iload hx hb dL_law_508 (lv_at hl 1 rfl) ?_
      refine lv_if_ne (tgt := 525) hx hb dL_law_510 (by decide) (fun c10 => ?_) (fun c10 => ?_)
      · refine lv_goto (tgt := 1516) hx hb dL_law_525 (by decide) ?_
        refine W.widen (k := 20 + 12 * k + 12) (n := 300 + 180 * k + 180) (by omega) (by omega) ?_
        exact cont _ w4 H locs ls (lw_step hB hsep Hj HM ho hod hA9 h1f g1 g2 hM2) hP hS (lv_sub hl [2, 3, 4, 5, 6, 7] rfl)
      · exact absurd ((nI_eq (a := cdUnmesh S) (b := 0) (by omega) (by omega)).mp c10) c0
    · exact absurd rfl c9
  · obtain ⟨c0, er, wA, hWp, ew⟩ := c9
    have hA9 := hWp
    have HM1 := lw_m2 hsep (lw_m1 hA9 hsep HM) (Or.inl rfl) ew
    have g1 : w2 o = some (.inl (G.2.1 1, 1, .inr (.inl (vp_updL fo 0 ((vlUnmesh S).toInt64))))) := by rw [ew]; exact g_up_s _ _ _
    have g2 : w2 od = some (.inl (G.2.1 5, 1, .inr (.inr (.inr (.inl fd))))) := by rw [ew, g_up_n _ hne]; exact lw_o hA9 hsep (Or.inr rfl) hod
    have h1f : ∀ a, wA a ≠ none → a ≠ o → a ≠ od → w2 a = wA a := fun a _ h2 _ => by rw [ew]; exact g_up_n _ h2
    rw [er]
    refine lv_istore (lv' := [(6, .int 0), (0, .ref b), (1, .ref (ad 0 0)), (2, .ref (md 0)), (3, .ref o), (4, .ref od), (5, .int (nI (6 * k)))]) hx hb dL_law_489 hl (by decide) rfl (fun ls hl => ?_)
    refine lv_aload_n hx hb dL_law_491 rfl (lv_at hl 3 rfl) ?_
    refine g_Vi (As := []) (rest := []) F hP hS (k_X7_unmesh l A G w2 md S th tp bt Fm L  HM1 Hj Hf hB.2.2.1) (cwV 0 hts gL_law_X7_unmesh rfl rfl rfl cd_X7_unmesh ⟨by rw [hRf]; exact Nat.le_of_ble_eq_true rfl, by rw [hRl]; exact Nat.le_of_ble_eq_true rfl⟩) (HM1.1) rfl rfl rfl hl.1 (Nat.le_of_ble_eq_true rfl) dL_law_492 ⟨by omega, by omega⟩ rfl (fun r2 w11 H locs h12 hP hS => ?_)
    rcases h12 with ⟨d0, hM2⟩ | ⟨d0, ok, hM2⟩
    · exact absurd c0 d0
    rw [ok]
    obtain ⟨hfr2, tp2, bt2, F2, L2, HW2, HF2⟩ := id hM2
    have HO2 : w11 o = some (.inl (G.2.1 1, 1, .inr (.inl (vp_updL fo 0 ((vlUnmesh S).toInt64))))) := by rw [hfr2.1 o (by rw [g1]; exact fun q => (nomatch q)) (fun j hj => (hsep.2 j hj).1)]; exact g1
    refine lv_istore (lv' := [(7, .int (vlUnmesh S)), (6, .int 0), (0, .ref b), (1, .ref (ad 0 0)), (2, .ref (md 0)), (3, .ref o), (4, .ref od), (5, .int (nI (6 * k)))]) hx hb dL_law_495 hl (by decide) rfl (fun ls hl => ?_)
    refine lv_aload_n hx hb dL_law_497 rfl (lv_at hl 4 rfl) ?_
    refine g_Vi (As := []) (rest := []) F hP hS (k_X7_thrown l A G w11 md (nxUnmesh S) (nI 0) _ _ F2 L2 HW2.1) (cwV 0 hts gL_law_X7_thrown rfl rfl rfl cd_X7_thrown ⟨by rw [hRf]; exact Nat.le_of_ble_eq_true rfl, by rw [hRl]; exact Nat.le_of_ble_eq_true rfl⟩) (HW2.1) rfl rfl rfl hl.1 (Nat.le_of_ble_eq_true rfl) dL_law_498 ⟨by omega, by omega⟩ rfl (fun r13 w14 H locs h15 hP hS => ?_)
    rw [h15.2] at hP
    rw [h15.1]
    refine lv_iload hx hb dL_law_501 (lv_at hl 1 rfl) ?_
    refine lv_icmp_eq (tgt := 508) hx hb dL_law_503 (by decide) (fun c16 => ?_) (fun c16 => ?_)
    · refine lv_iload hx hb dL_law_508 (lv_at hl 1 rfl) ?_
      refine lv_if_ne (tgt := 525) hx hb dL_law_510 (by decide) (fun c17 => ?_) (fun c17 => ?_)
      · exact absurd c17 (by decide)
      · refine lv_aload_n hx hb dL_law_513 rfl (lv_at hl 5 rfl) ?_
        refine lv_iconst (v := 0) hx hb dL_law_514 (by decide) ?_
        refine g_lald F hP HO2 (by unfold vp_in; decide) dL_law_515 ?_
        rw [show (.long ((vp_updL fo 0 ((vlUnmesh S).toInt64)) (0 : Int32).toNatClampNeg) : Value) = .long ((vlUnmesh S).toInt64) from by rw [show ((0 : Int32).toNatClampNeg) = 0 from by decide]; unfold vp_updL; rw [if_pos rfl]]
        refine lv_iload hx hb dL_law_516 (lv_at hl 0 rfl) ?_
        refine lv_i2l hx hb dL_law_518 rfl ?_
        refine lv_topl (fun v18 ev18 => ?_)
        obtain rfl : v18 = ((vlUnmesh S).toInt64) := by
          exact ev18
        refine W.lcmp hx hb dL_law_519 ?_
        refine lv_if_eq (tgt := 525) hx hb dL_law_520 (by decide) (fun c19 => ?_) (fun c19 => ?_)
        · have c19 := (lg_cmp_eq ((vlUnmesh S).toInt64) ((vlUnmesh S).toInt64)).mp c19
          refine lv_goto (tgt := 1516) hx hb dL_law_525 (by decide) ?_
          refine W.widen (k := 20 + 12 * k + 12) (n := 300 + 180 * k + 180) (by omega) (by omega) ?_
          exact cont _ w11 H locs ls (lw_step hB hsep Hj HM ho hod hA9 h1f g1 g2 hM2) hP hS (lv_sub hl [2, 3, 4, 5, 6, 7] rfl)
        · have c19 : ¬ (((vlUnmesh S).toInt64) = ((vlUnmesh S).toInt64)) := fun h => c19 ((lg_cmp_eq ((vlUnmesh S).toInt64) ((vlUnmesh S).toInt64)).mpr h)
          exact absurd rfl c19
    · exact absurd (show nI 0 = (0 : Int32) from rfl) c16
