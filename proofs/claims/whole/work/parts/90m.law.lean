set_option maxHeartbeats 4000000 in
set_option maxRecDepth 100000 in
theorem law_c11 {p : Program} {l : Launch} {e : Env} {R : Room} {s : State} {m : MethodId} {args : Array Value} {below : List Frame} {meth : Method} {c : Code} {Q : State → Prop} {A : Nat → Prop} {G : g_C} (F : g_F p m c cL_law 9 s args wsL_law RL A G) (hRf : R.frames = 12) (hRl : R.locals = 434) (hRc : R.cells = 601024) (hRs : R.slots = 7293034) (hlt : l.stackTraces = false) {b N : Nat} {xs : Nat → Int32} (hX : va_X b N xs s s.heap) (hbl : b < s.heap.size) (hbA : ¬ A b) {k : Nat} (hkN : 6 * k + 6 ≤ N) (hN : N ≤ 3072) {w : g_W} {x mo o od : Nat} {S : Sg} (J : lwJ G w x mo o od S) {H : Heap} {locs : List Loc} {ls : Array Slot} (hP : g_P A G w H) (hS : va_S A s.heap H locs) (hl : lv_has ls 9 [(0, .ref b), (1, .ref x), (2, .ref mo), (3, .ref o), (4, .ref od), (5, .int (nI (6 * k)))])
    (cont : ∀ (S' : Sg) (w' : g_W) (H' : Heap) (locs' : List Loc) (ls' : Array Slot), lwJ G w' x mo o od S' → g_P A G w' H' → va_S A s.heap H' locs' → lv_has ls' 9 [(0, .ref b), (1, .ref x), (2, .ref mo), (3, .ref o), (4, .ref od), (5, .int (nI (6 * k)))] → W p l e R s m args below meth c H' locs' (20 + 12 * k + 12) (300 + 180 * k + 180) Q (F0 m 1516 ls' [])) : W p l e R s m args below meth c H locs (20 + 12 * k) (300 + 180 * k) Q (F0 m 978 ls []) := by
  obtain ⟨⟨hx, hb, hml, hown, hts⟩, hK, hZ, hA⟩ := id F
  obtain ⟨ad, Cn, T, md, th, tp, bt, Fm, L, fo, fd, rfl, rfl, hB, hT3, Hj, HM, Hf, ho, hod, hsep⟩ := J
  have hne := g_ne hod ho rfl
  refine lv_aload_n hx hb dL_law_978 rfl (lv_at hl 1 rfl) ?_
  refine lv_aload_n hx hb dL_law_979 rfl (lv_at hl 0 rfl) ?_
  refine lv_iload hx hb dL_law_980 (lv_at hl 5 rfl) ?_
  refine lv_iconst (v := 1) hx hb dL_law_982 (by decide) ?_
  refine lv_iadd hx hb dL_law_983 ?_
  refine lv_topi (fun v1 ev1 => ?_)
  obtain rfl : v1 = nI (6 * k + 1) := by
    rw [ev1]
    exact nI_add _ 1
  refine va_sld hx hb hX hbl hbA hS (vp_in_nI (n := 6 * k + 1) (by omega) (by omega)) dL_law_984 ?_
  rw [nI_clamp (n := 6 * k + 1) (by omega)]
  refine lv_aload_n hx hb dL_law_985 rfl (lv_at hl 0 rfl) ?_
  refine lv_iload hx hb dL_law_986 (lv_at hl 5 rfl) ?_
  refine lv_iconst (v := 2) hx hb dL_law_988 (by decide) ?_
  refine lv_iadd hx hb dL_law_989 ?_
  refine lv_topi (fun v2 ev2 => ?_)
  obtain rfl : v2 = nI (6 * k + 2) := by
    rw [ev2]
    exact nI_add _ 2
  refine va_sld hx hb hX hbl hbA hS (vp_in_nI (n := 6 * k + 2) (by omega) (by omega)) dL_law_990 ?_
  rw [nI_clamp (n := 6 * k + 2) (by omega)]
  refine lv_if_eq (tgt := 998) hx hb dL_law_991 (by decide) (fun c3 => ?_) (fun c3 => ?_)
  · have zb := c3
    refine lv_iconst (v := 0) hx hb dL_law_998 (by decide) ?_
    refine lv_aload_n hx hb dL_law_999 rfl (lv_at hl 3 rfl) ?_
    rw [show (.int 0 : Value) = .int (g_b (decide (xs (6 * k + 2) ≠ 0))) from by rw [decide_eq_false (fun q => q zb)]; rfl]
    refine g_Sxi (As := [.ref (ad 0 0), .int (xs (6 * k + 1)), .int (g_b (decide (xs (6 * k + 2) ≠ 0))), .ref o]) (rest := []) F hP hS (k_L_speed l hlt A G w ad Cn S T (xs (6 * k + 1)) (decide (xs (6 * k + 2) ≠ 0)) hB.1 hB.2.1 hB.2.2.1 hB.2.2.2.1 hB.2.2.2.2 o fo ho (fun k i h => (hsep.1 k i h).2.1)) (vx_cwSW 4 hts gL_law_L_speed rfl rfl rfl cdS_L_speed ⟨by rw [hRf]; exact Nat.le_of_ble_eq_true rfl, by rw [hRl]; exact Nat.le_of_ble_eq_true rfl⟩) rfl hl.1 (Nat.le_of_ble_eq_true rfl) dL_law_1000 ⟨by omega, by omega⟩ rfl (fun r4 w5 H locs h6 hP hS => ?_)
    rw [t3_cdSpeed hT3, t3_speed hT3] at h6
    rcases h6 with c9 | c9
    · obtain ⟨⟨c0, c4⟩, er, ew⟩ := c9
      rw [ew] at hP
      rw [er]
      have hA9 := after_rf hB
      have HM1 := HM
      have g1 := ho
      have g2 := hod
      have h1f : ∀ a, w a ≠ none → a ≠ o → a ≠ od → w a = w a := fun _ _ _ _ => rfl
      refine lv_istore (lv' := [(6, .int (nI (cdSpeed S (told S) (xs (6 * k + 1))))), (0, .ref b), (1, .ref (ad 0 0)), (2, .ref (md 0)), (3, .ref o), (4, .ref od), (5, .int (nI (6 * k)))]) hx hb dL_law_1003 hl (by decide) rfl (fun ls hl => ?_)
      refine lv_aload_n hx hb dL_law_1005 rfl (lv_at hl 3 rfl) ?_
      refine lv_aload_n hx hb dL_law_1006 rfl (lv_at hl 1 rfl) ?_
      refine lv_iload hx hb dL_law_1007 (lv_at hl 6 rfl) ?_
      refine lv_iconst (v := 1) hx hb dL_law_1009 (by decide) ?_
      refine lv_iadd hx hb dL_law_1010 ?_
      refine lv_topi (fun v7 ev7 => ?_)
      obtain rfl : v7 = nI (6 * k + 1) := by
        rw [ev7]
        exact nI_add _ 1
      refine va_sld hx hb hX hbl hbA hS (vp_in_nI (n := 6 * k + 1) (by omega) (by omega)) dL_law_1011 ?_
      rw [nI_clamp (n := 6 * k + 1) (by omega)]
      refine lv_aload_n hx hb dL_law_1012 rfl (lv_at hl 1 rfl) ?_
      refine lv_iload hx hb dL_law_1013 (lv_at hl 6 rfl) ?_
      refine lv_iconst (v := 2) hx hb dL_law_1015 (by decide) ?_
      refine lv_iadd hx hb dL_law_1016 ?_
      refine lv_topi (fun v8 ev8 => ?_)
      obtain rfl : v8 = nI (6 * k + 2) := by
        rw [ev8]
        exact nI_add _ 2
      refine va_sld hx hb hX hbl hbA hS (vp_in_nI (n := 6 * k + 2) (by omega) (by omega)) dL_law_1017 ?_
      rw [nI_clamp (n := 6 * k + 2) (by omega)]
      refine lv_if_eq (tgt := 1025) hx hb dL_law_1018 (by decide) (fun c9 => ?_) (fun c9 => ?_)
      · refine lv_iconst (v := 0) hx hb dL_law_1025 (by decide) ?_
        rw [show (.int 0 : Value) = .int (g_b (decide (xs (6 * k + 2) ≠ 0))) from by rw [decide_eq_false (fun q => q zb)]; rfl]
        refine g_Vi (As := [.int (xs (6 * k + 1)), .int (g_b (decide (xs (6 * k + 2) ≠ 0)))]) (rest := []) F hP hS (k_X7_speed l A G w md S th tp bt Fm L (xs (6 * k + 1)) (decide (xs (6 * k + 2) ≠ 0)) HM1 Hj Hf hB.2.2.1) (cwV 2 hts gL_law_X7_speed rfl rfl rfl cd_X7_speed ⟨by rw [hRf]; exact Nat.le_of_ble_eq_true rfl, by rw [hRl]; exact Nat.le_of_ble_eq_true rfl⟩) (HM1.1) rfl rfl rfl hl.1 (Nat.le_of_ble_eq_true rfl) dL_law_1026 ⟨by omega, by omega⟩ rfl (fun r2 w10 H locs h11 hP hS => ?_)
        rcases h11 with ⟨d0, hM2⟩ | ⟨d0, hM2⟩
        rotate_left
        · exact absurd d0 c0
        obtain ⟨hfr2, tp2, bt2, F2, L2, HW2, HF2⟩ := id hM2
        refine lv_istore (lv' := [(7, .int r2), (6, .int (nI (cdSpeed S (told S) (xs (6 * k + 1))))), (0, .ref b), (1, .ref (ad 0 0)), (2, .ref (md 0)), (3, .ref o), (4, .ref od), (5, .int (nI (6 * k)))]) hx hb dL_law_1029 hl (by decide) rfl (fun ls hl => ?_)
        refine lv_aload_n hx hb dL_law_1031 rfl (lv_at hl 4 rfl) ?_
        refine g_Vi (As := []) (rest := []) F hP hS (k_X7_thrown l A G w10 md S (nI (cdSpeed S (told S) (xs (6 * k + 1)))) _ _ F2 L2 HW2.1) (cwV 0 hts gL_law_X7_thrown rfl rfl rfl cd_X7_thrown ⟨by rw [hRf]; exact Nat.le_of_ble_eq_true rfl, by rw [hRl]; exact Nat.le_of_ble_eq_true rfl⟩) (HW2.1) rfl rfl rfl hl.1 (Nat.le_of_ble_eq_true rfl) dL_law_1032 ⟨by omega, by omega⟩ rfl (fun r12 w13 H locs h14 hP hS => ?_)
        rw [h14.2] at hP
        rw [h14.1]
        refine lv_iload hx hb dL_law_1035 (lv_at hl 1 rfl) ?_
        refine lv_icmp_eq (tgt := 1042) hx hb dL_law_1037 (by decide) (fun c15 => ?_) (fun c15 => ?_)
        · refine lv_iload hx hb dL_law_1042 (lv_at hl 1 rfl) ?_
          refine lv_if_ne (tgt := 1059) hx hb dL_law_1044 (by decide) (fun c16 => ?_) (fun c16 => ?_)
          · refine lv_goto (tgt := 1516) hx hb dL_law_1059 (by decide) ?_
            refine W.widen (k := 20 + 12 * k + 12) (n := 300 + 180 * k + 180) (by omega) (by omega) ?_
            exact cont _ w10 H locs ls (lw_step hB hsep Hj HM ho hod hA9 h1f g1 g2 hM2) hP hS (lv_sub hl [2, 3, 4, 5, 6, 7] rfl)
          · exact absurd ((nI_eq (a := cdSpeed S (told S) (xs (6 * k + 1))) (b := 0) (by omega) (by omega)).mp c16) c0
        · exact absurd rfl c15
      · exact absurd zb c9
    · obtain ⟨c0, er, wA, hWp, ew⟩ := c9
      have hWp : wA = w := hWp
      have hA9 : after G w ad Cn wA S := by rw [hWp]; exact after_rf hB
      have HM1 := lw_m2 hsep (lw_m1 hA9 hsep HM) (Or.inl rfl) ew
      have g1 : w5 o = some (.inl (G.2.1 1, 1, .inr (.inl (vp_updL fo 0 ((vlSpeed (told S) (xs (6 * k + 1)) (decide (xs (6 * k + 2) ≠ 0))).toInt64))))) := by rw [ew]; exact g_up_s _ _ _
      have g2 : w5 od = some (.inl (G.2.1 5, 1, .inr (.inr (.inr (.inl fd))))) := by rw [ew, g_up_n _ hne]; exact lw_o hA9 hsep (Or.inr rfl) hod
      have h1f : ∀ a, wA a ≠ none → a ≠ o → a ≠ od → w5 a = wA a := fun a _ h2 _ => by rw [ew]; exact g_up_n _ h2
      rw [er]
      refine lv_istore (lv' := [(6, .int 0), (0, .ref b), (1, .ref (ad 0 0)), (2, .ref (md 0)), (3, .ref o), (4, .ref od), (5, .int (nI (6 * k)))]) hx hb dL_law_1003 hl (by decide) rfl (fun ls hl => ?_)
      refine lv_aload_n hx hb dL_law_1005 rfl (lv_at hl 3 rfl) ?_
      refine lv_aload_n hx hb dL_law_1006 rfl (lv_at hl 1 rfl) ?_
      refine lv_iload hx hb dL_law_1007 (lv_at hl 6 rfl) ?_
      refine lv_iconst (v := 1) hx hb dL_law_1009 (by decide) ?_
      refine lv_iadd hx hb dL_law_1010 ?_
      refine lv_topi (fun v17 ev17 => ?_)
      obtain rfl : v17 = nI (6 * k + 1) := by
        rw [ev17]
        exact nI_add _ 1
      refine va_sld hx hb hX hbl hbA hS (vp_in_nI (n := 6 * k + 1) (by omega) (by omega)) dL_law_1011 ?_
      rw [nI_clamp (n := 6 * k + 1) (by omega)]
      refine lv_aload_n hx hb dL_law_1012 rfl (lv_at hl 1 rfl) ?_
      refine lv_iload hx hb dL_law_1013 (lv_at hl 6 rfl) ?_
      refine lv_iconst (v := 2) hx hb dL_law_1015 (by decide) ?_
      refine lv_iadd hx hb dL_law_1016 ?_
      refine lv_topi (fun v18 ev18 => ?_)
      obtain rfl : v18 = nI (6 * k + 2) := by
        rw [ev18]
        exact nI_add _ 2
      refine va_sld hx hb hX hbl hbA hS (vp_in_nI (n := 6 * k + 2) (by omega) (by omega)) dL_law_1017 ?_
      rw [nI_clamp (n := 6 * k + 2) (by omega)]
      refine lv_if_eq (tgt := 1025) hx hb dL_law_1018 (by decide) (fun c19 => ?_) (fun c19 => ?_)
      · refine lv_iconst (v := 0) hx hb dL_law_1025 (by decide) ?_
        rw [show (.int 0 : Value) = .int (g_b (decide (xs (6 * k + 2) ≠ 0))) from by rw [decide_eq_false (fun q => q zb)]; rfl]
        refine g_Vi (As := [.int (xs (6 * k + 1)), .int (g_b (decide (xs (6 * k + 2) ≠ 0)))]) (rest := []) F hP hS (k_X7_speed l A G w5 md S th tp bt Fm L (xs (6 * k + 1)) (decide (xs (6 * k + 2) ≠ 0)) HM1 Hj Hf hB.2.2.1) (cwV 2 hts gL_law_X7_speed rfl rfl rfl cd_X7_speed ⟨by rw [hRf]; exact Nat.le_of_ble_eq_true rfl, by rw [hRl]; exact Nat.le_of_ble_eq_true rfl⟩) (HM1.1) rfl rfl rfl hl.1 (Nat.le_of_ble_eq_true rfl) dL_law_1026 ⟨by omega, by omega⟩ rfl (fun r2 w20 H locs h21 hP hS => ?_)
        rcases h21 with ⟨d0, hM2⟩ | ⟨d0, ok, hM2⟩
        · exact absurd c0 d0
        rw [ok]
        obtain ⟨hfr2, tp2, bt2, F2, L2, HW2, HF2⟩ := id hM2
        have HO2 : w20 o = some (.inl (G.2.1 1, 1, .inr (.inl (vp_updL fo 0 ((vlSpeed (told S) (xs (6 * k + 1)) (decide (xs (6 * k + 2) ≠ 0))).toInt64))))) := by rw [hfr2.1 o (by rw [g1]; exact fun q => (nomatch q)) (fun j hj => (hsep.2 j hj).1)]; exact g1
        refine lv_istore (lv' := [(7, .int (vlSpeed (told S) (xs (6 * k + 1)) (decide (xs (6 * k + 2) ≠ 0)))), (6, .int 0), (0, .ref b), (1, .ref (ad 0 0)), (2, .ref (md 0)), (3, .ref o), (4, .ref od), (5, .int (nI (6 * k)))]) hx hb dL_law_1029 hl (by decide) rfl (fun ls hl => ?_)
        refine lv_aload_n hx hb dL_law_1031 rfl (lv_at hl 4 rfl) ?_
        refine g_Vi (As := []) (rest := []) F hP hS (k_X7_thrown l A G w20 md S (nI 0) _ _ F2 L2 HW2.1) (cwV 0 hts gL_law_X7_thrown rfl rfl rfl cd_X7_thrown ⟨by rw [hRf]; exact Nat.le_of_ble_eq_true rfl, by rw [hRl]; exact Nat.le_of_ble_eq_true rfl⟩) (HW2.1) rfl rfl rfl hl.1 (Nat.le_of_ble_eq_true rfl) dL_law_1032 ⟨by omega, by omega⟩ rfl (fun r22 w23 H locs h24 hP hS => ?_)
        rw [h24.2] at hP
        rw [h24.1]
        refine lv_iload hx hb dL_law_1035 (lv_at hl 1 rfl) ?_
        refine lv_icmp_eq (tgt := 1042) hx hb dL_law_1037 (by decide) (fun c25 => ?_) (fun c25 => ?_)
        · refine lv_iload hx hb dL_law_1042 (lv_at hl 1 rfl) ?_
          refine lv_if_ne (tgt := 1059) hx hb dL_law_1044 (by decide) (fun c26 => ?_) (fun c26 => ?_)
          · exact absurd c26 (by decide)
          · refine lv_aload_n hx hb dL_law_1047 rfl (lv_at hl 5 rfl) ?_
            refine lv_iconst (v := 0) hx hb dL_law_1048 (by decide) ?_
            refine g_lald F hP HO2 (by unfold vp_in; decide) dL_law_1049 ?_
            rw [show (.long ((vp_updL fo 0 ((vlSpeed (told S) (xs (6 * k + 1)) (decide (xs (6 * k + 2) ≠ 0))).toInt64)) (0 : Int32).toNatClampNeg) : Value) = .long ((vlSpeed (told S) (xs (6 * k + 1)) (decide (xs (6 * k + 2) ≠ 0))).toInt64) from by rw [show ((0 : Int32).toNatClampNeg) = 0 from by decide]; unfold vp_updL; rw [if_pos rfl]]
            refine lv_iload hx hb dL_law_1050 (lv_at hl 0 rfl) ?_
            refine lv_i2l hx hb dL_law_1052 rfl ?_
            refine lv_topl (fun v27 ev27 => ?_)
            obtain rfl : v27 = ((vlSpeed (told S) (xs (6 * k + 1)) (decide (xs (6 * k + 2) ≠ 0))).toInt64) := by
              exact ev27
            refine W.lcmp hx hb dL_law_1053 ?_
            refine lv_if_eq (tgt := 1059) hx hb dL_law_1054 (by decide) (fun c28 => ?_) (fun c28 => ?_)
            · have c28 := (lg_cmp_eq ((vlSpeed (told S) (xs (6 * k + 1)) (decide (xs (6 * k + 2) ≠ 0))).toInt64) ((vlSpeed (told S) (xs (6 * k + 1)) (decide (xs (6 * k + 2) ≠ 0))).toInt64)).mp c28
              refine lv_goto (tgt := 1516) hx hb dL_law_1059 (by decide) ?_
              refine W.widen (k := 20 + 12 * k + 12) (n := 300 + 180 * k + 180) (by omega) (by omega) ?_
              exact cont _ w20 H locs ls (lw_step hB hsep Hj HM ho hod hA9 h1f g1 g2 hM2) hP hS (lv_sub hl [2, 3, 4, 5, 6, 7] rfl)
            · have c28 : ¬ (((vlSpeed (told S) (xs (6 * k + 1)) (decide (xs (6 * k + 2) ≠ 0))).toInt64) = ((vlSpeed (told S) (xs (6 * k + 1)) (decide (xs (6 * k + 2) ≠ 0))).toInt64)) := fun h => c28 ((lg_cmp_eq ((vlSpeed (told S) (xs (6 * k + 1)) (decide (xs (6 * k + 2) ≠ 0))).toInt64) ((vlSpeed (told S) (xs (6 * k + 1)) (decide (xs (6 * k + 2) ≠ 0))).toInt64)).mpr h)
              exact absurd rfl c28
        · exact absurd (show nI 0 = (0 : Int32) from rfl) c25
      · exact absurd zb c19
  · have zb := c3
    refine lv_iconst (v := 1) hx hb dL_law_994 (by decide) ?_
    refine lv_goto (tgt := 999) hx hb dL_law_995 (by decide) ?_
    refine lv_aload_n hx hb dL_law_999 rfl (lv_at hl 3 rfl) ?_
    rw [show (.int 1 : Value) = .int (g_b (decide (xs (6 * k + 2) ≠ 0))) from by rw [decide_eq_true zb]; rfl]
    refine g_Sxi (As := [.ref (ad 0 0), .int (xs (6 * k + 1)), .int (g_b (decide (xs (6 * k + 2) ≠ 0))), .ref o]) (rest := []) F hP hS (k_L_speed l hlt A G w ad Cn S T (xs (6 * k + 1)) (decide (xs (6 * k + 2) ≠ 0)) hB.1 hB.2.1 hB.2.2.1 hB.2.2.2.1 hB.2.2.2.2 o fo ho (fun k i h => (hsep.1 k i h).2.1)) (vx_cwSW 4 hts gL_law_L_speed rfl rfl rfl cdS_L_speed ⟨by rw [hRf]; exact Nat.le_of_ble_eq_true rfl, by rw [hRl]; exact Nat.le_of_ble_eq_true rfl⟩) rfl hl.1 (Nat.le_of_ble_eq_true rfl) dL_law_1000 ⟨by omega, by omega⟩ rfl (fun r29 w30 H locs h31 hP hS => ?_)
    rw [t3_cdSpeed hT3, t3_speed hT3] at h31
    rcases h31 with c9 | c9
    · obtain ⟨⟨c0, c4⟩, er, ew⟩ := c9
      rw [ew] at hP
      rw [er]
      have hA9 := after_rf hB
      have HM1 := HM
      have g1 := ho
      have g2 := hod
      have h1f : ∀ a, w a ≠ none → a ≠ o → a ≠ od → w a = w a := fun _ _ _ _ => rfl
      refine lv_istore (lv' := [(6, .int (nI (cdSpeed S (told S) (xs (6 * k + 1))))), (0, .ref b), (1, .ref (ad 0 0)), (2, .ref (md 0)), (3, .ref o), (4, .ref od), (5, .int (nI (6 * k)))]) hx hb dL_law_1003 hl (by decide) rfl (fun ls hl => ?_)
      refine lv_aload_n hx hb dL_law_1005 rfl (lv_at hl 3 rfl) ?_
      refine lv_aload_n hx hb dL_law_1006 rfl (lv_at hl 1 rfl) ?_
      refine lv_iload hx hb dL_law_1007 (lv_at hl 6 rfl) ?_
      refine lv_iconst (v := 1) hx hb dL_law_1009 (by decide) ?_
      refine lv_iadd hx hb dL_law_1010 ?_
      refine lv_topi (fun v32 ev32 => ?_)
      obtain rfl : v32 = nI (6 * k + 1) := by
        rw [ev32]
        exact nI_add _ 1
      refine va_sld hx hb hX hbl hbA hS (vp_in_nI (n := 6 * k + 1) (by omega) (by omega)) dL_law_1011 ?_
      rw [nI_clamp (n := 6 * k + 1) (by omega)]
      refine lv_aload_n hx hb dL_law_1012 rfl (lv_at hl 1 rfl) ?_
      refine lv_iload hx hb dL_law_1013 (lv_at hl 6 rfl) ?_
      refine lv_iconst (v := 2) hx hb dL_law_1015 (by decide) ?_
      refine lv_iadd hx hb dL_law_1016 ?_
      refine lv_topi (fun v33 ev33 => ?_)
      obtain rfl : v33 = nI (6 * k + 2) := by
        rw [ev33]
        exact nI_add _ 2
      refine va_sld hx hb hX hbl hbA hS (vp_in_nI (n := 6 * k + 2) (by omega) (by omega)) dL_law_1017 ?_
      rw [nI_clamp (n := 6 * k + 2) (by omega)]
      refine lv_if_eq (tgt := 1025) hx hb dL_law_1018 (by decide) (fun c34 => ?_) (fun c34 => ?_)
      · exact absurd c34 zb
      · refine lv_iconst (v := 1) hx hb dL_law_1021 (by decide) ?_
        refine lv_goto (tgt := 1026) hx hb dL_law_1022 (by decide) ?_
        rw [show (.int 1 : Value) = .int (g_b (decide (xs (6 * k + 2) ≠ 0))) from by rw [decide_eq_true zb]; rfl]
        refine g_Vi (As := [.int (xs (6 * k + 1)), .int (g_b (decide (xs (6 * k + 2) ≠ 0)))]) (rest := []) F hP hS (k_X7_speed l A G w md S th tp bt Fm L (xs (6 * k + 1)) (decide (xs (6 * k + 2) ≠ 0)) HM1 Hj Hf hB.2.2.1) (cwV 2 hts gL_law_X7_speed rfl rfl rfl cd_X7_speed ⟨by rw [hRf]; exact Nat.le_of_ble_eq_true rfl, by rw [hRl]; exact Nat.le_of_ble_eq_true rfl⟩) (HM1.1) rfl rfl rfl hl.1 (Nat.le_of_ble_eq_true rfl) dL_law_1026 ⟨by omega, by omega⟩ rfl (fun r2 w35 H locs h36 hP hS => ?_)
        rcases h36 with ⟨d0, hM2⟩ | ⟨d0, hM2⟩
        rotate_left
        · exact absurd d0 c0
        obtain ⟨hfr2, tp2, bt2, F2, L2, HW2, HF2⟩ := id hM2
        refine lv_istore (lv' := [(7, .int r2), (6, .int (nI (cdSpeed S (told S) (xs (6 * k + 1))))), (0, .ref b), (1, .ref (ad 0 0)), (2, .ref (md 0)), (3, .ref o), (4, .ref od), (5, .int (nI (6 * k)))]) hx hb dL_law_1029 hl (by decide) rfl (fun ls hl => ?_)
        refine lv_aload_n hx hb dL_law_1031 rfl (lv_at hl 4 rfl) ?_
        refine g_Vi (As := []) (rest := []) F hP hS (k_X7_thrown l A G w35 md S (nI (cdSpeed S (told S) (xs (6 * k + 1)))) _ _ F2 L2 HW2.1) (cwV 0 hts gL_law_X7_thrown rfl rfl rfl cd_X7_thrown ⟨by rw [hRf]; exact Nat.le_of_ble_eq_true rfl, by rw [hRl]; exact Nat.le_of_ble_eq_true rfl⟩) (HW2.1) rfl rfl rfl hl.1 (Nat.le_of_ble_eq_true rfl) dL_law_1032 ⟨by omega, by omega⟩ rfl (fun r37 w38 H locs h39 hP hS => ?_)
        rw [h39.2] at hP
        rw [h39.1]
        refine lv_iload hx hb dL_law_1035 (lv_at hl 1 rfl) ?_
        refine lv_icmp_eq (tgt := 1042) hx hb dL_law_1037 (by decide) (fun c40 => ?_) (fun c40 => ?_)
        · refine lv_iload hx hb dL_law_1042 (lv_at hl 1 rfl) ?_
          refine lv_if_ne (tgt := 1059) hx hb dL_law_1044 (by decide) (fun c41 => ?_) (fun c41 => ?_)
          · refine lv_goto (tgt := 1516) hx hb dL_law_1059 (by decide) ?_
            refine W.widen (k := 20 + 12 * k + 12) (n := 300 + 180 * k + 180) (by omega) (by omega) ?_
            exact cont _ w35 H locs ls (lw_step hB hsep Hj HM ho hod hA9 h1f g1 g2 hM2) hP hS (lv_sub hl [2, 3, 4, 5, 6, 7] rfl)
          · exact absurd ((nI_eq (a := cdSpeed S (told S) (xs (6 * k + 1))) (b := 0) (by omega) (by omega)).mp c41) c0
        · exact absurd rfl c40
    · obtain ⟨c0, er, wA, hWp, ew⟩ := c9
      have hWp : wA = w := hWp
      have hA9 : after G w ad Cn wA S := by rw [hWp]; exact after_rf hB
      have HM1 := lw_m2 hsep (lw_m1 hA9 hsep HM) (Or.inl rfl) ew
      have g1 : w30 o = some (.inl (G.2.1 1, 1, .inr (.inl (vp_updL fo 0 ((vlSpeed (told S) (xs (6 * k + 1)) (decide (xs (6 * k + 2) ≠ 0))).toInt64))))) := by rw [ew]; exact g_up_s _ _ _
      have g2 : w30 od = some (.inl (G.2.1 5, 1, .inr (.inr (.inr (.inl fd))))) := by rw [ew, g_up_n _ hne]; exact lw_o hA9 hsep (Or.inr rfl) hod
      have h1f : ∀ a, wA a ≠ none → a ≠ o → a ≠ od → w30 a = wA a := fun a _ h2 _ => by rw [ew]; exact g_up_n _ h2
      rw [er]
      refine lv_istore (lv' := [(6, .int 0), (0, .ref b), (1, .ref (ad 0 0)), (2, .ref (md 0)), (3, .ref o), (4, .ref od), (5, .int (nI (6 * k)))]) hx hb dL_law_1003 hl (by decide) rfl (fun ls hl => ?_)
      refine lv_aload_n hx hb dL_law_1005 rfl (lv_at hl 3 rfl) ?_
      refine lv_aload_n hx hb dL_law_1006 rfl (lv_at hl 1 rfl) ?_
      refine lv_iload hx hb dL_law_1007 (lv_at hl 6 rfl) ?_
      refine lv_iconst (v := 1) hx hb dL_law_1009 (by decide) ?_
      refine lv_iadd hx hb dL_law_1010 ?_
      refine lv_topi (fun v42 ev42 => ?_)
      obtain rfl : v42 = nI (6 * k + 1) := by
        rw [ev42]
        exact nI_add _ 1
      refine va_sld hx hb hX hbl hbA hS (vp_in_nI (n := 6 * k + 1) (by omega) (by omega)) dL_law_1011 ?_
      rw [nI_clamp (n := 6 * k + 1) (by omega)]
      refine lv_aload_n hx hb dL_law_1012 rfl (lv_at hl 1 rfl) ?_
      refine lv_iload hx hb dL_law_1013 (lv_at hl 6 rfl) ?_
      refine lv_iconst (v := 2) hx hb dL_law_1015 (by decide) ?_
      refine lv_iadd hx hb dL_law_1016 ?_
      refine lv_topi (fun v43 ev43 => ?_)
      obtain rfl : v43 = nI (6 * k + 2) := by
        rw [ev43]
        exact nI_add _ 2
      refine va_sld hx hb hX hbl hbA hS (vp_in_nI (n := 6 * k + 2) (by omega) (by omega)) dL_law_1017 ?_
      rw [nI_clamp (n := 6 * k + 2) (by omega)]
      refine lv_if_eq (tgt := 1025) hx hb dL_law_1018 (by decide) (fun c44 => ?_) (fun c44 => ?_)
      · exact absurd c44 zb
      · refine lv_iconst (v := 1) hx hb dL_law_1021 (by decide) ?_
        refine lv_goto (tgt := 1026) hx hb dL_law_1022 (by decide) ?_
        rw [show (.int 1 : Value) = .int (g_b (decide (xs (6 * k + 2) ≠ 0))) from by rw [decide_eq_true zb]; rfl]
        refine g_Vi (As := [.int (xs (6 * k + 1)), .int (g_b (decide (xs (6 * k + 2) ≠ 0)))]) (rest := []) F hP hS (k_X7_speed l A G w30 md S th tp bt Fm L (xs (6 * k + 1)) (decide (xs (6 * k + 2) ≠ 0)) HM1 Hj Hf hB.2.2.1) (cwV 2 hts gL_law_X7_speed rfl rfl rfl cd_X7_speed ⟨by rw [hRf]; exact Nat.le_of_ble_eq_true rfl, by rw [hRl]; exact Nat.le_of_ble_eq_true rfl⟩) (HM1.1) rfl rfl rfl hl.1 (Nat.le_of_ble_eq_true rfl) dL_law_1026 ⟨by omega, by omega⟩ rfl (fun r2 w45 H locs h46 hP hS => ?_)
        rcases h46 with ⟨d0, hM2⟩ | ⟨d0, ok, hM2⟩
        · exact absurd c0 d0
        rw [ok]
        obtain ⟨hfr2, tp2, bt2, F2, L2, HW2, HF2⟩ := id hM2
        have HO2 : w45 o = some (.inl (G.2.1 1, 1, .inr (.inl (vp_updL fo 0 ((vlSpeed (told S) (xs (6 * k + 1)) (decide (xs (6 * k + 2) ≠ 0))).toInt64))))) := by rw [hfr2.1 o (by rw [g1]; exact fun q => (nomatch q)) (fun j hj => (hsep.2 j hj).1)]; exact g1
        refine lv_istore (lv' := [(7, .int (vlSpeed (told S) (xs (6 * k + 1)) (decide (xs (6 * k + 2) ≠ 0)))), (6, .int 0), (0, .ref b), (1, .ref (ad 0 0)), (2, .ref (md 0)), (3, .ref o), (4, .ref od), (5, .int (nI (6 * k)))]) hx hb dL_law_1029 hl (by decide) rfl (fun ls hl => ?_)
        refine lv_aload_n hx hb dL_law_1031 rfl (lv_at hl 4 rfl) ?_
        refine g_Vi (As := []) (rest := []) F hP hS (k_X7_thrown l A G w45 md S (nI 0) _ _ F2 L2 HW2.1) (cwV 0 hts gL_law_X7_thrown rfl rfl rfl cd_X7_thrown ⟨by rw [hRf]; exact Nat.le_of_ble_eq_true rfl, by rw [hRl]; exact Nat.le_of_ble_eq_true rfl⟩) (HW2.1) rfl rfl rfl hl.1 (Nat.le_of_ble_eq_true rfl) dL_law_1032 ⟨by omega, by omega⟩ rfl (fun r47 w48 H locs h49 hP hS => ?_)
        rw [h49.2] at hP
        rw [h49.1]
        refine lv_iload hx hb dL_law_1035 (lv_at hl 1 rfl) ?_
        refine lv_icmp_eq (tgt := 1042) hx hb dL_law_1037 (by decide) (fun c50 => ?_) (fun c50 => ?_)
        · refine lv_iload hx hb dL_law_1042 (lv_at hl 1 rfl) ?_
          refine lv_if_ne (tgt := 1059) hx hb dL_law_1044 (by decide) (fun c51 => ?_) (fun c51 => ?_)
          · exact absurd c51 (by decide)
          · refine lv_aload_n hx hb dL_law_1047 rfl (lv_at hl 5 rfl) ?_
            refine lv_iconst (v := 0) hx hb dL_law_1048 (by decide) ?_
            refine g_lald F hP HO2 (by unfold vp_in; decide) dL_law_1049 ?_
            rw [show (.long ((vp_updL fo 0 ((vlSpeed (told S) (xs (6 * k + 1)) (decide (xs (6 * k + 2) ≠ 0))).toInt64)) (0 : Int32).toNatClampNeg) : Value) = .long ((vlSpeed (told S) (xs (6 * k + 1)) (decide (xs (6 * k + 2) ≠ 0))).toInt64) from by rw [show ((0 : Int32).toNatClampNeg) = 0 from by decide]; unfold vp_updL; rw [if_pos rfl]]
            refine lv_iload hx hb dL_law_1050 (lv_at hl 0 rfl) ?_
            refine lv_i2l hx hb dL_law_1052 rfl ?_
            refine lv_topl (fun v52 ev52 => ?_)
            obtain rfl : v52 = ((vlSpeed (told S) (xs (6 * k + 1)) (decide (xs (6 * k + 2) ≠ 0))).toInt64) := by
              exact ev52
            refine W.lcmp hx hb dL_law_1053 ?_
            refine lv_if_eq (tgt := 1059) hx hb dL_law_1054 (by decide) (fun c53 => ?_) (fun c53 => ?_)
            · have c53 := (lg_cmp_eq ((vlSpeed (told S) (xs (6 * k + 1)) (decide (xs (6 * k + 2) ≠ 0))).toInt64) ((vlSpeed (told S) (xs (6 * k + 1)) (decide (xs (6 * k + 2) ≠ 0))).toInt64)).mp c53
              refine lv_goto (tgt := 1516) hx hb dL_law_1059 (by decide) ?_
              refine W.widen (k := 20 + 12 * k + 12) (n := 300 + 180 * k + 180) (by omega) (by omega) ?_
              exact cont _ w45 H locs ls (lw_step hB hsep Hj HM ho hod hA9 h1f g1 g2 hM2) hP hS (lv_sub hl [2, 3, 4, 5, 6, 7] rfl)
            · have c53 : ¬ (((vlSpeed (told S) (xs (6 * k + 1)) (decide (xs (6 * k + 2) ≠ 0))).toInt64) = ((vlSpeed (told S) (xs (6 * k + 1)) (decide (xs (6 * k + 2) ≠ 0))).toInt64)) := fun h => c53 ((lg_cmp_eq ((vlSpeed (told S) (xs (6 * k + 1)) (decide (xs (6 * k + 2) ≠ 0))).toInt64) ((vlSpeed (told S) (xs (6 * k + 1)) (decide (xs (6 * k + 2) ≠ 0))).toInt64)).mpr h)
              exact absurd rfl c53
        · exact absurd (show nI 0 = (0 : Int32) from rfl) c50
