set_option maxHeartbeats 4000000 in
set_option maxRecDepth 100000 in
theorem law_c9 {p : Program} {l : Launch} {e : Env} {R : Room} {s : State} {m : MethodId} {args : Array Value} {below : List Frame} {meth : Method} {c : Code} {Q : State → Prop} {A : Nat → Prop} {G : g_C} (F : g_F p m c cL_law 9 s args wsL_law RL A G) (hRf : R.frames = 12) (hRl : R.locals = 434) (hRc : R.cells = 601024) (hRs : R.slots = 7293034) (hlt : l.stackTraces = false) {b N : Nat} {xs : Nat → Int32} (hX : va_X b N xs s s.heap) (hbl : b < s.heap.size) (hbA : ¬ A b) {k : Nat} (hkN : 6 * k + 6 ≤ N) (hN : N ≤ 3072) {w : g_W} {x mo o od : Nat} {S : Sg} (J : lwJ G w x mo o od S) {H : Heap} {locs : List Loc} {ls : Array Slot} (hP : g_P A G w H) (hS : va_S A s.heap H locs) (hl : lv_has ls 9 [(0, .ref b), (1, .ref x), (2, .ref mo), (3, .ref o), (4, .ref od), (5, .int (nI (6 * k)))])
    (cont : ∀ (S' : Sg) (w' : g_W) (H' : Heap) (locs' : List Loc) (ls' : Array Slot), lwJ G w' x mo o od S' → g_P A G w' H' → va_S A s.heap H' locs' → lv_has ls' 9 [(0, .ref b), (1, .ref x), (2, .ref mo), (3, .ref o), (4, .ref od), (5, .int (nI (6 * k)))] → W p l e R s m args below meth c H' locs' (20 + 12 * k + 12) (300 + 180 * k + 180) Q (F0 m 1516 ls' [])) : W p l e R s m args below meth c H locs (20 + 12 * k) (300 + 180 * k) Q (F0 m 824 ls []) := by
  obtain ⟨⟨hx, hb, hml, hown, hts⟩, hK, hZ, hA⟩ := id F
  obtain ⟨ad, Cn, T, md, th, tp, bt, Fm, L, fo, fd, rfl, rfl, hB, hT3, Hj, HM, Hf, ho, hod, hsep⟩ := J
  have hne := g_ne hod ho rfl
  refine lv_aload_n hx hb dL_law_824 rfl (lv_at hl 1 rfl) ?_
  refine lv_aload_n hx hb dL_law_825 rfl (lv_at hl 0 rfl) ?_
  refine lv_iload hx hb dL_law_826 (lv_at hl 5 rfl) ?_
  refine lv_iconst (v := 1) hx hb dL_law_828 (by decide) ?_
  refine lv_iadd hx hb dL_law_829 ?_
  refine lv_topi (fun v1 ev1 => ?_)
  obtain rfl : v1 = nI (6 * k + 1) := by
    rw [ev1]
    exact nI_add _ 1
  refine va_sld hx hb hX hbl hbA hS (vp_in_nI (n := 6 * k + 1) (by omega) (by omega)) dL_law_830 ?_
  rw [nI_clamp (n := 6 * k + 1) (by omega)]
  refine lv_aload_n hx hb dL_law_831 rfl (lv_at hl 0 rfl) ?_
  refine lv_iload hx hb dL_law_832 (lv_at hl 5 rfl) ?_
  refine lv_iconst (v := 2) hx hb dL_law_834 (by decide) ?_
  refine lv_iadd hx hb dL_law_835 ?_
  refine lv_topi (fun v2 ev2 => ?_)
  obtain rfl : v2 = nI (6 * k + 2) := by
    rw [ev2]
    exact nI_add _ 2
  refine va_sld hx hb hX hbl hbA hS (vp_in_nI (n := 6 * k + 2) (by omega) (by omega)) dL_law_836 ?_
  rw [nI_clamp (n := 6 * k + 2) (by omega)]
  refine lv_if_eq (tgt := 844) hx hb dL_law_837 (by decide) (fun c3 => ?_) (fun c3 => ?_)
  · have zb := c3
    refine lv_iconst (v := 0) hx hb dL_law_844 (by decide) ?_
    refine lv_aload_n hx hb dL_law_845 rfl (lv_at hl 3 rfl) ?_
    rw [show (.int 0 : Value) = .int (g_b (decide (xs (6 * k + 2) ≠ 0))) from by rw [decide_eq_false (fun q => q zb)]; rfl]
    refine g_Sxi (As := [.ref (ad 0 0), .int (xs (6 * k + 1)), .int (g_b (decide (xs (6 * k + 2) ≠ 0))), .ref o]) (rest := []) F hP hS (k_L_hold l hlt A G w ad Cn S T (xs (6 * k + 1)) (decide (xs (6 * k + 2) ≠ 0)) hB.1 hB.2.1 hB.2.2.1 hB.2.2.2.1 hB.2.2.2.2 o fo ho (fun k i h => (hsep.1 k i h).2.1)) (vx_cwSW 4 hts gL_law_L_hold rfl rfl rfl cdS_L_hold ⟨by rw [hRf]; exact Nat.le_of_ble_eq_true rfl, by rw [hRl]; exact Nat.le_of_ble_eq_true rfl⟩) rfl hl.1 (Nat.le_of_ble_eq_true rfl) dL_law_846 ⟨by omega, by omega⟩ rfl (fun r4 w5 H locs h6 hP hS => ?_)
    rcases h6 with c9 | c9
    · obtain ⟨⟨c0, c4⟩, er, ew⟩ := c9
      rw [ew] at hP
      rw [er]
      have hA9 := after_rf hB
      have HM1 := HM
      have g1 := ho
      have g2 := hod
      have h1f : ∀ a, w a ≠ none → a ≠ o → a ≠ od → w a = w a := fun _ _ _ _ => rfl
      refine lv_istore (lv' := [(6, .int (nI (cdHold S (xs (6 * k + 1))))), (0, .ref b), (1, .ref (ad 0 0)), (2, .ref (md 0)), (3, .ref o), (4, .ref od), (5, .int (nI (6 * k)))]) hx hb dL_law_849 hl (by decide) rfl (fun ls hl => ?_)
      refine lv_aload_n hx hb dL_law_851 rfl (lv_at hl 3 rfl) ?_
      refine lv_aload_n hx hb dL_law_852 rfl (lv_at hl 1 rfl) ?_
      refine lv_iload hx hb dL_law_853 (lv_at hl 6 rfl) ?_
      refine lv_iconst (v := 1) hx hb dL_law_855 (by decide) ?_
      refine lv_iadd hx hb dL_law_856 ?_
      refine lv_topi (fun v7 ev7 => ?_)
      obtain rfl : v7 = nI (6 * k + 1) := by
        rw [ev7]
        exact nI_add _ 1
      refine va_sld hx hb hX hbl hbA hS (vp_in_nI (n := 6 * k + 1) (by omega) (by omega)) dL_law_857 ?_
      rw [nI_clamp (n := 6 * k + 1) (by omega)]
      refine lv_aload_n hx hb dL_law_858 rfl (lv_at hl 1 rfl) ?_
      refine lv_iload hx hb dL_law_859 (lv_at hl 6 rfl) ?_
      refine lv_iconst (v := 2) hx hb dL_law_861 (by decide) ?_
      refine lv_iadd hx hb dL_law_862 ?_
      refine lv_topi (fun v8 ev8 => ?_)
      obtain rfl : v8 = nI (6 * k + 2) := by
        rw [ev8]
        exact nI_add _ 2
      refine va_sld hx hb hX hbl hbA hS (vp_in_nI (n := 6 * k + 2) (by omega) (by omega)) dL_law_863 ?_
      rw [nI_clamp (n := 6 * k + 2) (by omega)]
      refine lv_if_eq (tgt := 871) hx hb dL_law_864 (by decide) (fun c9 => ?_) (fun c9 => ?_)
      · refine lv_iconst (v := 0) hx hb dL_law_871 (by decide) ?_
        rw [show (.int 0 : Value) = .int (g_b (decide (xs (6 * k + 2) ≠ 0))) from by rw [decide_eq_false (fun q => q zb)]; rfl]
        refine g_Vi (As := [.int (xs (6 * k + 1)), .int (g_b (decide (xs (6 * k + 2) ≠ 0)))]) (rest := []) F hP hS (k_X7_hold l A G w md S th tp bt Fm L (xs (6 * k + 1)) (decide (xs (6 * k + 2) ≠ 0)) HM1 Hj Hf hB.2.2.1) (cwV 2 hts gL_law_X7_hold rfl rfl rfl cd_X7_hold ⟨by rw [hRf]; exact Nat.le_of_ble_eq_true rfl, by rw [hRl]; exact Nat.le_of_ble_eq_true rfl⟩) (HM1.1) rfl rfl rfl hl.1 (Nat.le_of_ble_eq_true rfl) dL_law_872 ⟨by omega, by omega⟩ rfl (fun r2 w10 H locs h11 hP hS => ?_)
        rcases h11 with ⟨d0, hM2⟩ | ⟨d0, hM2⟩
        rotate_left
        · exact absurd d0 c0
        obtain ⟨hfr2, tp2, bt2, F2, L2, HW2, HF2⟩ := id hM2
        refine lv_istore (lv' := [(7, .int r2), (6, .int (nI (cdHold S (xs (6 * k + 1))))), (0, .ref b), (1, .ref (ad 0 0)), (2, .ref (md 0)), (3, .ref o), (4, .ref od), (5, .int (nI (6 * k)))]) hx hb dL_law_875 hl (by decide) rfl (fun ls hl => ?_)
        refine lv_aload_n hx hb dL_law_877 rfl (lv_at hl 4 rfl) ?_
        refine g_Vi (As := []) (rest := []) F hP hS (k_X7_thrown l A G w10 md S (nI (cdHold S (xs (6 * k + 1)))) _ _ F2 L2 HW2.1) (cwV 0 hts gL_law_X7_thrown rfl rfl rfl cd_X7_thrown ⟨by rw [hRf]; exact Nat.le_of_ble_eq_true rfl, by rw [hRl]; exact Nat.le_of_ble_eq_true rfl⟩) (HW2.1) rfl rfl rfl hl.1 (Nat.le_of_ble_eq_true rfl) dL_law_878 ⟨by omega, by omega⟩ rfl (fun r12 w13 H locs h14 hP hS => ?_)
        rw [h14.2] at hP
        rw [h14.1]
        refine lv_iload hx hb dL_law_881 (lv_at hl 1 rfl) ?_
        refine lv_icmp_eq (tgt := 888) hx hb dL_law_883 (by decide) (fun c15 => ?_) (fun c15 => ?_)
        · refine lv_iload hx hb dL_law_888 (lv_at hl 1 rfl) ?_
          refine lv_if_ne (tgt := 912) hx hb dL_law_890 (by decide) (fun c16 => ?_) (fun c16 => ?_)
          · refine lv_goto (tgt := 1516) hx hb dL_law_912 (by decide) ?_
            refine W.widen (k := 20 + 12 * k + 12) (n := 300 + 180 * k + 180) (by omega) (by omega) ?_
            exact cont _ w10 H locs ls (lw_step hB hsep Hj HM ho hod hA9 h1f g1 g2 hM2) hP hS (lv_sub hl [2, 3, 4, 5, 6, 7] rfl)
          · exact absurd ((nI_eq (a := cdHold S (xs (6 * k + 1))) (b := 0) (by omega) (by omega)).mp c16) c0
        · exact absurd rfl c15
      · exact absurd zb c9
    · obtain ⟨c0, er, wA, hWp, ew⟩ := c9
      have hA9 := hWp
      have HM1 := lw_m2 hsep (lw_m1 hA9 hsep HM) (Or.inl rfl) ew
      have g1 : w5 o = some (.inl (G.2.1 1, 1, .inr (.inl (vp_updL fo 0 (if vlHold S (xs (6 * k + 1)) then (1 : Int64) else 0))))) := by rw [ew]; exact g_up_s _ _ _
      have g2 : w5 od = some (.inl (G.2.1 5, 1, .inr (.inr (.inr (.inl fd))))) := by rw [ew, g_up_n _ hne]; exact lw_o hA9 hsep (Or.inr rfl) hod
      have h1f : ∀ a, wA a ≠ none → a ≠ o → a ≠ od → w5 a = wA a := fun a _ h2 _ => by rw [ew]; exact g_up_n _ h2
      rw [er]
      refine lv_istore (lv' := [(6, .int 0), (0, .ref b), (1, .ref (ad 0 0)), (2, .ref (md 0)), (3, .ref o), (4, .ref od), (5, .int (nI (6 * k)))]) hx hb dL_law_849 hl (by decide) rfl (fun ls hl => ?_)
      refine lv_aload_n hx hb dL_law_851 rfl (lv_at hl 3 rfl) ?_
      refine lv_aload_n hx hb dL_law_852 rfl (lv_at hl 1 rfl) ?_
      refine lv_iload hx hb dL_law_853 (lv_at hl 6 rfl) ?_
      refine lv_iconst (v := 1) hx hb dL_law_855 (by decide) ?_
      refine lv_iadd hx hb dL_law_856 ?_
      refine lv_topi (fun v17 ev17 => ?_)
      obtain rfl : v17 = nI (6 * k + 1) := by
        rw [ev17]
        exact nI_add _ 1
      refine va_sld hx hb hX hbl hbA hS (vp_in_nI (n := 6 * k + 1) (by omega) (by omega)) dL_law_857 ?_
      rw [nI_clamp (n := 6 * k + 1) (by omega)]
      refine lv_aload_n hx hb dL_law_858 rfl (lv_at hl 1 rfl) ?_
      refine lv_iload hx hb dL_law_859 (lv_at hl 6 rfl) ?_
      refine lv_iconst (v := 2) hx hb dL_law_861 (by decide) ?_
      refine lv_iadd hx hb dL_law_862 ?_
      refine lv_topi (fun v18 ev18 => ?_)
      obtain rfl : v18 = nI (6 * k + 2) := by
        rw [ev18]
        exact nI_add _ 2
      refine va_sld hx hb hX hbl hbA hS (vp_in_nI (n := 6 * k + 2) (by omega) (by omega)) dL_law_863 ?_
      rw [nI_clamp (n := 6 * k + 2) (by omega)]
      refine lv_if_eq (tgt := 871) hx hb dL_law_864 (by decide) (fun c19 => ?_) (fun c19 => ?_)
      · refine lv_iconst (v := 0) hx hb dL_law_871 (by decide) ?_
        rw [show (.int 0 : Value) = .int (g_b (decide (xs (6 * k + 2) ≠ 0))) from by rw [decide_eq_false (fun q => q zb)]; rfl]
        refine g_Vi (As := [.int (xs (6 * k + 1)), .int (g_b (decide (xs (6 * k + 2) ≠ 0)))]) (rest := []) F hP hS (k_X7_hold l A G w5 md S th tp bt Fm L (xs (6 * k + 1)) (decide (xs (6 * k + 2) ≠ 0)) HM1 Hj Hf hB.2.2.1) (cwV 2 hts gL_law_X7_hold rfl rfl rfl cd_X7_hold ⟨by rw [hRf]; exact Nat.le_of_ble_eq_true rfl, by rw [hRl]; exact Nat.le_of_ble_eq_true rfl⟩) (HM1.1) rfl rfl rfl hl.1 (Nat.le_of_ble_eq_true rfl) dL_law_872 ⟨by omega, by omega⟩ rfl (fun r2 w20 H locs h21 hP hS => ?_)
        rcases h21 with ⟨d0, hM2⟩ | ⟨d0, ok, hM2⟩
        · exact absurd c0 d0
        rw [ok]
        obtain ⟨hfr2, tp2, bt2, F2, L2, HW2, HF2⟩ := id hM2
        have HO2 : w20 o = some (.inl (G.2.1 1, 1, .inr (.inl (vp_updL fo 0 (if vlHold S (xs (6 * k + 1)) then (1 : Int64) else 0))))) := by rw [hfr2.1 o (by rw [g1]; exact fun q => (nomatch q)) (fun j hj => (hsep.2 j hj).1)]; exact g1
        refine lv_istore (lv' := [(7, .int (g_b (vlHold S (xs (6 * k + 1))))), (6, .int 0), (0, .ref b), (1, .ref (ad 0 0)), (2, .ref (md 0)), (3, .ref o), (4, .ref od), (5, .int (nI (6 * k)))]) hx hb dL_law_875 hl (by decide) rfl (fun ls hl => ?_)
        refine lv_aload_n hx hb dL_law_877 rfl (lv_at hl 4 rfl) ?_
        refine g_Vi (As := []) (rest := []) F hP hS (k_X7_thrown l A G w20 md (nxHold S (xs (6 * k + 1)) (decide (xs (6 * k + 2) ≠ 0))) (nI 0) _ _ F2 L2 HW2.1) (cwV 0 hts gL_law_X7_thrown rfl rfl rfl cd_X7_thrown ⟨by rw [hRf]; exact Nat.le_of_ble_eq_true rfl, by rw [hRl]; exact Nat.le_of_ble_eq_true rfl⟩) (HW2.1) rfl rfl rfl hl.1 (Nat.le_of_ble_eq_true rfl) dL_law_878 ⟨by omega, by omega⟩ rfl (fun r22 w23 H locs h24 hP hS => ?_)
        rw [h24.2] at hP
        rw [h24.1]
        refine lv_iload hx hb dL_law_881 (lv_at hl 1 rfl) ?_
        refine lv_icmp_eq (tgt := 888) hx hb dL_law_883 (by decide) (fun c25 => ?_) (fun c25 => ?_)
        · refine lv_iload hx hb dL_law_888 (lv_at hl 1 rfl) ?_
          refine lv_if_ne (tgt := 912) hx hb dL_law_890 (by decide) (fun c26 => ?_) (fun c26 => ?_)
          · exact absurd c26 (by decide)
          · refine lv_aload_n hx hb dL_law_893 rfl (lv_at hl 5 rfl) ?_
            refine lv_iconst (v := 0) hx hb dL_law_894 (by decide) ?_
            refine g_lald F hP HO2 (by unfold vp_in; decide) dL_law_895 ?_
            rw [show (.long ((vp_updL fo 0 (if vlHold S (xs (6 * k + 1)) then (1 : Int64) else 0)) (0 : Int32).toNatClampNeg) : Value) = .long (if vlHold S (xs (6 * k + 1)) then (1 : Int64) else 0) from by rw [show ((0 : Int32).toNatClampNeg) = 0 from by decide]; unfold vp_updL; rw [if_pos rfl]]
            refine lv_iload hx hb dL_law_896 (lv_at hl 0 rfl) ?_
            refine lv_if_eq (tgt := 905) hx hb dL_law_898 (by decide) (fun c27 => ?_) (fun c27 => ?_)
            · have yb : vlHold S (xs (6 * k + 1)) = false := g_b0.mp c27
              refine lv_lconst (v := 0) hx hb dL_law_905 (by decide) ?_
              refine W.lcmp hx hb dL_law_906 ?_
              refine lv_if_eq (tgt := 912) hx hb dL_law_907 (by decide) (fun c28 => ?_) (fun c28 => ?_)
              · have c28 := (lg_cmp_eq (if vlHold S (xs (6 * k + 1)) then (1 : Int64) else 0) 0).mp c28
                refine lv_goto (tgt := 1516) hx hb dL_law_912 (by decide) ?_
                refine W.widen (k := 20 + 12 * k + 12) (n := 300 + 180 * k + 180) (by omega) (by omega) ?_
                exact cont _ w20 H locs ls (lw_step hB hsep Hj HM ho hod hA9 h1f g1 g2 hM2) hP hS (lv_sub hl [2, 3, 4, 5, 6, 7] rfl)
              · have c28 : ¬ ((if vlHold S (xs (6 * k + 1)) then (1 : Int64) else 0) = 0) := fun h => c28 ((lg_cmp_eq (if vlHold S (xs (6 * k + 1)) then (1 : Int64) else 0) 0).mpr h)
                exact absurd (by rw [yb]; rfl) c28
            · have yb : vlHold S (xs (6 * k + 1)) = true := g_b1.mp c27
              refine lv_lconst (v := 1) hx hb dL_law_901 (by decide) ?_
              refine lv_goto (tgt := 906) hx hb dL_law_902 (by decide) ?_
              refine W.lcmp hx hb dL_law_906 ?_
              refine lv_if_eq (tgt := 912) hx hb dL_law_907 (by decide) (fun c29 => ?_) (fun c29 => ?_)
              · have c29 := (lg_cmp_eq (if vlHold S (xs (6 * k + 1)) then (1 : Int64) else 0) 1).mp c29
                refine lv_goto (tgt := 1516) hx hb dL_law_912 (by decide) ?_
                refine W.widen (k := 20 + 12 * k + 12) (n := 300 + 180 * k + 180) (by omega) (by omega) ?_
                exact cont _ w20 H locs ls (lw_step hB hsep Hj HM ho hod hA9 h1f g1 g2 hM2) hP hS (lv_sub hl [2, 3, 4, 5, 6, 7] rfl)
              · have c29 : ¬ ((if vlHold S (xs (6 * k + 1)) then (1 : Int64) else 0) = 1) := fun h => c29 ((lg_cmp_eq (if vlHold S (xs (6 * k + 1)) then (1 : Int64) else 0) 1).mpr h)
                exact absurd (by rw [yb]; rfl) c29
        · exact absurd (show nI 0 = (0 : Int32) from rfl) c25
      · exact absurd zb c19
  · have zb := c3
    refine lv_iconst (v := 1) hx hb dL_law_840 (by decide) ?_
    refine lv_goto (tgt := 845) hx hb dL_law_841 (by decide) ?_
    refine lv_aload_n hx hb dL_law_845 rfl (lv_at hl 3 rfl) ?_
    rw [show (.int 1 : Value) = .int (g_b (decide (xs (6 * k + 2) ≠ 0))) from by rw [decide_eq_true zb]; rfl]
    refine g_Sxi (As := [.ref (ad 0 0), .int (xs (6 * k + 1)), .int (g_b (decide (xs (6 * k + 2) ≠ 0))), .ref o]) (rest := []) F hP hS (k_L_hold l hlt A G w ad Cn S T (xs (6 * k + 1)) (decide (xs (6 * k + 2) ≠ 0)) hB.1 hB.2.1 hB.2.2.1 hB.2.2.2.1 hB.2.2.2.2 o fo ho (fun k i h => (hsep.1 k i h).2.1)) (vx_cwSW 4 hts gL_law_L_hold rfl rfl rfl cdS_L_hold ⟨by rw [hRf]; exact Nat.le_of_ble_eq_true rfl, by rw [hRl]; exact Nat.le_of_ble_eq_true rfl⟩) rfl hl.1 (Nat.le_of_ble_eq_true rfl) dL_law_846 ⟨by omega, by omega⟩ rfl (fun r30 w31 H locs h32 hP hS => ?_)
    rcases h32 with c9 | c9
    · obtain ⟨⟨c0, c4⟩, er, ew⟩ := c9
      rw [ew] at hP
      rw [er]
      have hA9 := after_rf hB
      have HM1 := HM
      have g1 := ho
      have g2 := hod
      have h1f : ∀ a, w a ≠ none → a ≠ o → a ≠ od → w a = w a := fun _ _ _ _ => rfl
      refine lv_istore (lv' := [(6, .int (nI (cdHold S (xs (6 * k + 1))))), (0, .ref b), (1, .ref (ad 0 0)), (2, .ref (md 0)), (3, .ref o), (4, .ref od), (5, .int (nI (6 * k)))]) hx hb dL_law_849 hl (by decide) rfl (fun ls hl => ?_)
      refine lv_aload_n hx hb dL_law_851 rfl (lv_at hl 3 rfl) ?_
      refine lv_aload_n hx hb dL_law_852 rfl (lv_at hl 1 rfl) ?_
      refine lv_iload hx hb dL_law_853 (lv_at hl 6 rfl) ?_
      refine lv_iconst (v := 1) hx hb dL_law_855 (by decide) ?_
      refine lv_iadd hx hb dL_law_856 ?_
      refine lv_topi (fun v33 ev33 => ?_)
      obtain rfl : v33 = nI (6 * k + 1) := by
        rw [ev33]
        exact nI_add _ 1
      refine va_sld hx hb hX hbl hbA hS (vp_in_nI (n := 6 * k + 1) (by omega) (by omega)) dL_law_857 ?_
      rw [nI_clamp (n := 6 * k + 1) (by omega)]
      refine lv_aload_n hx hb dL_law_858 rfl (lv_at hl 1 rfl) ?_
      refine lv_iload hx hb dL_law_859 (lv_at hl 6 rfl) ?_
      refine lv_iconst (v := 2) hx hb dL_law_861 (by decide) ?_
      refine lv_iadd hx hb dL_law_862 ?_
      refine lv_topi (fun v34 ev34 => ?_)
      obtain rfl : v34 = nI (6 * k + 2) := by
        rw [ev34]
        exact nI_add _ 2
      refine va_sld hx hb hX hbl hbA hS (vp_in_nI (n := 6 * k + 2) (by omega) (by omega)) dL_law_863 ?_
      rw [nI_clamp (n := 6 * k + 2) (by omega)]
      refine lv_if_eq (tgt := 871) hx hb dL_law_864 (by decide) (fun c35 => ?_) (fun c35 => ?_)
      · exact absurd c35 zb
      · refine lv_iconst (v := 1) hx hb dL_law_867 (by decide) ?_
        refine lv_goto (tgt := 872) hx hb dL_law_868 (by decide) ?_
        rw [show (.int 1 : Value) = .int (g_b (decide (xs (6 * k + 2) ≠ 0))) from by rw [decide_eq_true zb]; rfl]
        refine g_Vi (As := [.int (xs (6 * k + 1)), .int (g_b (decide (xs (6 * k + 2) ≠ 0)))]) (rest := []) F hP hS (k_X7_hold l A G w md S th tp bt Fm L (xs (6 * k + 1)) (decide (xs (6 * k + 2) ≠ 0)) HM1 Hj Hf hB.2.2.1) (cwV 2 hts gL_law_X7_hold rfl rfl rfl cd_X7_hold ⟨by rw [hRf]; exact Nat.le_of_ble_eq_true rfl, by rw [hRl]; exact Nat.le_of_ble_eq_true rfl⟩) (HM1.1) rfl rfl rfl hl.1 (Nat.le_of_ble_eq_true rfl) dL_law_872 ⟨by omega, by omega⟩ rfl (fun r2 w36 H locs h37 hP hS => ?_)
        rcases h37 with ⟨d0, hM2⟩ | ⟨d0, hM2⟩
        rotate_left
        · exact absurd d0 c0
        obtain ⟨hfr2, tp2, bt2, F2, L2, HW2, HF2⟩ := id hM2
        refine lv_istore (lv' := [(7, .int r2), (6, .int (nI (cdHold S (xs (6 * k + 1))))), (0, .ref b), (1, .ref (ad 0 0)), (2, .ref (md 0)), (3, .ref o), (4, .ref od), (5, .int (nI (6 * k)))]) hx hb dL_law_875 hl (by decide) rfl (fun ls hl => ?_)
        refine lv_aload_n hx hb dL_law_877 rfl (lv_at hl 4 rfl) ?_
        refine g_Vi (As := []) (rest := []) F hP hS (k_X7_thrown l A G w36 md S (nI (cdHold S (xs (6 * k + 1)))) _ _ F2 L2 HW2.1) (cwV 0 hts gL_law_X7_thrown rfl rfl rfl cd_X7_thrown ⟨by rw [hRf]; exact Nat.le_of_ble_eq_true rfl, by rw [hRl]; exact Nat.le_of_ble_eq_true rfl⟩) (HW2.1) rfl rfl rfl hl.1 (Nat.le_of_ble_eq_true rfl) dL_law_878 ⟨by omega, by omega⟩ rfl (fun r38 w39 H locs h40 hP hS => ?_)
        rw [h40.2] at hP
        rw [h40.1]
        refine lv_iload hx hb dL_law_881 (lv_at hl 1 rfl) ?_
        refine lv_icmp_eq (tgt := 888) hx hb dL_law_883 (by decide) (fun c41 => ?_) (fun c41 => ?_)
        · refine lv_iload hx hb dL_law_888 (lv_at hl 1 rfl) ?_
          refine lv_if_ne (tgt := 912) hx hb dL_law_890 (by decide) (fun c42 => ?_) (fun c42 => ?_)
          · refine lv_goto (tgt := 1516) hx hb dL_law_912 (by decide) ?_
            refine W.widen (k := 20 + 12 * k + 12) (n := 300 + 180 * k + 180) (by omega) (by omega) ?_
            exact cont _ w36 H locs ls (lw_step hB hsep Hj HM ho hod hA9 h1f g1 g2 hM2) hP hS (lv_sub hl [2, 3, 4, 5, 6, 7] rfl)
          · exact absurd ((nI_eq (a := cdHold S (xs (6 * k + 1))) (b := 0) (by omega) (by omega)).mp c42) c0
        · exact absurd rfl c41
    · obtain ⟨c0, er, wA, hWp, ew⟩ := c9
      have hA9 := hWp
      have HM1 := lw_m2 hsep (lw_m1 hA9 hsep HM) (Or.inl rfl) ew
      have g1 : w31 o = some (.inl (G.2.1 1, 1, .inr (.inl (vp_updL fo 0 (if vlHold S (xs (6 * k + 1)) then (1 : Int64) else 0))))) := by rw [ew]; exact g_up_s _ _ _
      have g2 : w31 od = some (.inl (G.2.1 5, 1, .inr (.inr (.inr (.inl fd))))) := by rw [ew, g_up_n _ hne]; exact lw_o hA9 hsep (Or.inr rfl) hod
      have h1f : ∀ a, wA a ≠ none → a ≠ o → a ≠ od → w31 a = wA a := fun a _ h2 _ => by rw [ew]; exact g_up_n _ h2
      rw [er]
      refine lv_istore (lv' := [(6, .int 0), (0, .ref b), (1, .ref (ad 0 0)), (2, .ref (md 0)), (3, .ref o), (4, .ref od), (5, .int (nI (6 * k)))]) hx hb dL_law_849 hl (by decide) rfl (fun ls hl => ?_)
      refine lv_aload_n hx hb dL_law_851 rfl (lv_at hl 3 rfl) ?_
      refine lv_aload_n hx hb dL_law_852 rfl (lv_at hl 1 rfl) ?_
      refine lv_iload hx hb dL_law_853 (lv_at hl 6 rfl) ?_
      refine lv_iconst (v := 1) hx hb dL_law_855 (by decide) ?_
      refine lv_iadd hx hb dL_law_856 ?_
      refine lv_topi (fun v43 ev43 => ?_)
      obtain rfl : v43 = nI (6 * k + 1) := by
        rw [ev43]
        exact nI_add _ 1
      refine va_sld hx hb hX hbl hbA hS (vp_in_nI (n := 6 * k + 1) (by omega) (by omega)) dL_law_857 ?_
      rw [nI_clamp (n := 6 * k + 1) (by omega)]
      refine lv_aload_n hx hb dL_law_858 rfl (lv_at hl 1 rfl) ?_
      refine lv_iload hx hb dL_law_859 (lv_at hl 6 rfl) ?_
      refine lv_iconst (v := 2) hx hb dL_law_861 (by decide) ?_
      refine lv_iadd hx hb dL_law_862 ?_
      refine lv_topi (fun v44 ev44 => ?_)
      obtain rfl : v44 = nI (6 * k + 2) := by
        rw [ev44]
        exact nI_add _ 2
      refine va_sld hx hb hX hbl hbA hS (vp_in_nI (n := 6 * k + 2) (by omega) (by omega)) dL_law_863 ?_
      rw [nI_clamp (n := 6 * k + 2) (by omega)]
      refine lv_if_eq (tgt := 871) hx hb dL_law_864 (by decide) (fun c45 => ?_) (fun c45 => ?_)
      · exact absurd c45 zb
      · refine lv_iconst (v := 1) hx hb dL_law_867 (by decide) ?_
        refine lv_goto (tgt := 872) hx hb dL_law_868 (by decide) ?_
        rw [show (.int 1 : Value) = .int (g_b (decide (xs (6 * k + 2) ≠ 0))) from by rw [decide_eq_true zb]; rfl]
        refine g_Vi (As := [.int (xs (6 * k + 1)), .int (g_b (decide (xs (6 * k + 2) ≠ 0)))]) (rest := []) F hP hS (k_X7_hold l A G w31 md S th tp bt Fm L (xs (6 * k + 1)) (decide (xs (6 * k + 2) ≠ 0)) HM1 Hj Hf hB.2.2.1) (cwV 2 hts gL_law_X7_hold rfl rfl rfl cd_X7_hold ⟨by rw [hRf]; exact Nat.le_of_ble_eq_true rfl, by rw [hRl]; exact Nat.le_of_ble_eq_true rfl⟩) (HM1.1) rfl rfl rfl hl.1 (Nat.le_of_ble_eq_true rfl) dL_law_872 ⟨by omega, by omega⟩ rfl (fun r2 w46 H locs h47 hP hS => ?_)
        rcases h47 with ⟨d0, hM2⟩ | ⟨d0, ok, hM2⟩
        · exact absurd c0 d0
        rw [ok]
        obtain ⟨hfr2, tp2, bt2, F2, L2, HW2, HF2⟩ := id hM2
        have HO2 : w46 o = some (.inl (G.2.1 1, 1, .inr (.inl (vp_updL fo 0 (if vlHold S (xs (6 * k + 1)) then (1 : Int64) else 0))))) := by rw [hfr2.1 o (by rw [g1]; exact fun q => (nomatch q)) (fun j hj => (hsep.2 j hj).1)]; exact g1
        refine lv_istore (lv' := [(7, .int (g_b (vlHold S (xs (6 * k + 1))))), (6, .int 0), (0, .ref b), (1, .ref (ad 0 0)), (2, .ref (md 0)), (3, .ref o), (4, .ref od), (5, .int (nI (6 * k)))]) hx hb dL_law_875 hl (by decide) rfl (fun ls hl => ?_)
        refine lv_aload_n hx hb dL_law_877 rfl (lv_at hl 4 rfl) ?_
        refine g_Vi (As := []) (rest := []) F hP hS (k_X7_thrown l A G w46 md (nxHold S (xs (6 * k + 1)) (decide (xs (6 * k + 2) ≠ 0))) (nI 0) _ _ F2 L2 HW2.1) (cwV 0 hts gL_law_X7_thrown rfl rfl rfl cd_X7_thrown ⟨by rw [hRf]; exact Nat.le_of_ble_eq_true rfl, by rw [hRl]; exact Nat.le_of_ble_eq_true rfl⟩) (HW2.1) rfl rfl rfl hl.1 (Nat.le_of_ble_eq_true rfl) dL_law_878 ⟨by omega, by omega⟩ rfl (fun r48 w49 H locs h50 hP hS => ?_)
        rw [h50.2] at hP
        rw [h50.1]
        refine lv_iload hx hb dL_law_881 (lv_at hl 1 rfl) ?_
        refine lv_icmp_eq (tgt := 888) hx hb dL_law_883 (by decide) (fun c51 => ?_) (fun c51 => ?_)
        · refine lv_iload hx hb dL_law_888 (lv_at hl 1 rfl) ?_
          refine lv_if_ne (tgt := 912) hx hb dL_law_890 (by decide) (fun c52 => ?_) (fun c52 => ?_)
          · exact absurd c52 (by decide)
          · refine lv_aload_n hx hb dL_law_893 rfl (lv_at hl 5 rfl) ?_
            refine lv_iconst (v := 0) hx hb dL_law_894 (by decide) ?_
            refine g_lald F hP HO2 (by unfold vp_in; decide) dL_law_895 ?_
            rw [show (.long ((vp_updL fo 0 (if vlHold S (xs (6 * k + 1)) then (1 : Int64) else 0)) (0 : Int32).toNatClampNeg) : Value) = .long (if vlHold S (xs (6 * k + 1)) then (1 : Int64) else 0) from by rw [show ((0 : Int32).toNatClampNeg) = 0 from by decide]; unfold vp_updL; rw [if_pos rfl]]
            refine lv_iload hx hb dL_law_896 (lv_at hl 0 rfl) ?_
            refine lv_if_eq (tgt := 905) hx hb dL_law_898 (by decide) (fun c53 => ?_) (fun c53 => ?_)
            · have yb : vlHold S (xs (6 * k + 1)) = false := g_b0.mp c53
              refine lv_lconst (v := 0) hx hb dL_law_905 (by decide) ?_
              refine W.lcmp hx hb dL_law_906 ?_
              refine lv_if_eq (tgt := 912) hx hb dL_law_907 (by decide) (fun c54 => ?_) (fun c54 => ?_)
              · have c54 := (lg_cmp_eq (if vlHold S (xs (6 * k + 1)) then (1 : Int64) else 0) 0).mp c54
                refine lv_goto (tgt := 1516) hx hb dL_law_912 (by decide) ?_
                refine W.widen (k := 20 + 12 * k + 12) (n := 300 + 180 * k + 180) (by omega) (by omega) ?_
                exact cont _ w46 H locs ls (lw_step hB hsep Hj HM ho hod hA9 h1f g1 g2 hM2) hP hS (lv_sub hl [2, 3, 4, 5, 6, 7] rfl)
              · have c54 : ¬ ((if vlHold S (xs (6 * k + 1)) then (1 : Int64) else 0) = 0) := fun h => c54 ((lg_cmp_eq (if vlHold S (xs (6 * k + 1)) then (1 : Int64) else 0) 0).mpr h)
                exact absurd (by rw [yb]; rfl) c54
            · have yb : vlHold S (xs (6 * k + 1)) = true := g_b1.mp c53
              refine lv_lconst (v := 1) hx hb dL_law_901 (by decide) ?_
              refine lv_goto (tgt := 906) hx hb dL_law_902 (by decide) ?_
              refine W.lcmp hx hb dL_law_906 ?_
              refine lv_if_eq (tgt := 912) hx hb dL_law_907 (by decide) (fun c55 => ?_) (fun c55 => ?_)
              · have c55 := (lg_cmp_eq (if vlHold S (xs (6 * k + 1)) then (1 : Int64) else 0) 1).mp c55
                refine lv_goto (tgt := 1516) hx hb dL_law_912 (by decide) ?_
                refine W.widen (k := 20 + 12 * k + 12) (n := 300 + 180 * k + 180) (by omega) (by omega) ?_
                exact cont _ w46 H locs ls (lw_step hB hsep Hj HM ho hod hA9 h1f g1 g2 hM2) hP hS (lv_sub hl [2, 3, 4, 5, 6, 7] rfl)
              · have c55 : ¬ ((if vlHold S (xs (6 * k + 1)) then (1 : Int64) else 0) = 1) := fun h => c55 ((lg_cmp_eq (if vlHold S (xs (6 * k + 1)) then (1 : Int64) else 0) 1).mpr h)
                exact absurd (by rw [yb]; rfl) c55
        · exact absurd (show nI 0 = (0 : Int32) from rfl) c51
