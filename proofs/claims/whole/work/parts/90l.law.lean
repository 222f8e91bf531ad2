set_option maxHeartbeats 4000000 in
set_option maxRecDepth 100000 in
theorem law_c10 {p : Program} {l : Launch} {e : Env} {R : Room} {s : State} {m : MethodId} {args : Array Value} {below : List Frame} {meth : Method} {c : Code} {Q : State → Prop} {A : Nat → Prop} {G : g_C} (F : g_F p m c cL_law 9 s args wsL_law RL A G) (hRf : R.frames = 12) (hRl : R.locals = 434) (hRc : R.cells = 601024) (hRs : R.slots = 7293034) (hlt : l.stackTraces = false) {b N : Nat} {xs : Nat → Int32} (hX : va_X b N xs s s.heap) (hbl : b < s.heap.size) (hbA : ¬ A b) {k : Nat} (hkN : 6 * k + 6 ≤ N) (hN : N ≤ 3072) {w : g_W} {x mo o od : Nat} {S : Sg} (J : lwJ G w x mo o od S) {H : Heap} {locs : List Loc} {ls : Array Slot} (hP : g_P A G w H) (hS : va_S A s.heap H locs) (hl : lv_has ls 9 [(0, .ref b), (1, .ref x), (2, .ref mo), (3, .ref o), (4, .ref od), (5, .int (nI (6 * k)))])
    (cont : ∀ (S' : Sg) (w' : g_W) (H' : Heap) (locs' : List Loc) (ls' : Array Slot), lwJ G w' x mo o od S' → g_P A G w' H' → va_S A s.heap H' locs' → lv_has ls' 9 [(0, .ref b), (1, .ref x), (2, .ref mo), (3, .ref o), (4, .ref od), (5, .int (nI (6 * k)))] → W p l e R s m args below meth c H' locs' (20 + 12 * k + 12) (300 + 180 * k + 180) Q (F0 m 1516 ls' [])) : W p l e R s m args below meth c H locs (20 + 12 * k) (300 + 180 * k) Q (F0 m 915 ls []) := by
  obtain ⟨⟨hx, hb, hml, hown, hts⟩, hK, hZ, hA⟩ := id F
  obtain ⟨ad, Cn, T, md, th, tp, bt, Fm, L, fo, fd, rfl, rfl, hB, hT3, Hj, HM, Hf, ho, hod, hsep⟩ := J
  have hne := g_ne hod ho rfl
  refine lv_aload_n hx hb dL_law_915 rfl (lv_at hl 1 rfl) ?_
  refine lv_aload_n hx hb dL_law_916 rfl (lv_at hl 0 rfl) ?_
  refine lv_iload hx hb dL_law_917 (lv_at hl 5 rfl) ?_
  refine lv_iconst (v := 1) hx hb dL_law_919 (by decide) ?_
  refine lv_iadd hx hb dL_law_920 ?_
  refine lv_topi (fun v1 ev1 => ?_)
  obtain rfl : v1 = nI (6 * k + 1) := by
    rw [ev1]
    exact nI_add _ 1
  refine va_sld hx hb hX hbl hbA hS (vp_in_nI (n := 6 * k + 1) (by omega) (by omega)) dL_law_921 ?_
  rw [nI_clamp (n := 6 * k + 1) (by omega)]
  refine lv_aload_n hx hb dL_law_922 rfl (lv_at hl 3 rfl) ?_
  refine g_Sxi (As := [.ref (ad 0 0), .int (xs (6 * k + 1)), .ref o]) (rest := []) F hP hS (k_L_isTold l hlt A G w ad Cn S T (xs (6 * k + 1)) hB.1 hB.2.1 hB.2.2.1 hB.2.2.2.1 hB.2.2.2.2 o fo ho (fun k i h => (hsep.1 k i h).2.1)) (vx_cwSW 3 hts gL_law_L_isTold rfl rfl rfl cdS_L_isTold ⟨by rw [hRf]; exact Nat.le_of_ble_eq_true rfl, by rw [hRl]; exact Nat.le_of_ble_eq_true rfl⟩) rfl hl.1 (Nat.le_of_ble_eq_true rfl) dL_law_923 ⟨by omega, by omega⟩ rfl (fun r2 w3 H locs h4 hP hS => ?_)
  rw [t3_isTold hT3] at h4
  rcases h4 with c9 | c9
  · obtain ⟨⟨c0, c4⟩, er, ew⟩ := c9
    rw [ew] at hP
    rw [er]
    have hA9 := after_rf hB
    have HM1 := HM
    have g1 := ho
    have g2 := hod
    have h1f : ∀ a, w a ≠ none → a ≠ o → a ≠ od → w a = w a := fun _ _ _ _ => rfl
    refine lv_istore (lv' := [(6, .int (nI (cdShaft S (xs (6 * k + 1))))), (0, .ref b), (1, .ref (ad 0 0)), (2, .ref (md 0)), (3, .ref o), (4, .ref od), (5, .int (nI (6 * k)))]) hx hb dL_law_926 hl (by decide) rfl (fun ls hl => ?_)
    refine lv_aload_n hx hb dL_law_928 rfl (lv_at hl 3 rfl) ?_
    refine lv_aload_n hx hb dL_law_929 rfl (lv_at hl 1 rfl) ?_
    refine lv_iload hx hb dL_law_930 (lv_at hl 6 rfl) ?_
    refine lv_iconst (v := 1) hx hb dL_law_932 (by decide) ?_
    refine lv_iadd hx hb dL_law_933 ?_
    refine lv_topi (fun v5 ev5 => ?_)
    obtain rfl : v5 = nI (6 * k + 1) := by
      rw [ev5]
      exact nI_add _ 1
    refine va_sld hx hb hX hbl hbA hS (vp_in_nI (n := 6 * k + 1) (by omega) (by omega)) dL_law_934 ?_
    rw [nI_clamp (n := 6 * k + 1) (by omega)]
    refine g_Vi (As := [.int (xs (6 * k + 1))]) (rest := []) F hP hS (k_X7_isTold l A G w md S th tp bt Fm L (xs (6 * k + 1)) HM1 Hj Hf hB.2.2.1) (cwV 1 hts gL_law_X7_isTold rfl rfl rfl cd_X7_isTold ⟨by rw [hRf]; exact Nat.le_of_ble_eq_true rfl, by rw [hRl]; exact Nat.le_of_ble_eq_true rfl⟩) (HM1.1) rfl rfl rfl hl.1 (Nat.le_of_ble_eq_true rfl) dL_law_935 ⟨by omega, by omega⟩ rfl (fun r2 w6 H locs h7 hP hS => ?_)
    rcases h7 with ⟨d0, hM2⟩ | ⟨d0, hM2⟩
    rotate_left
    · exact absurd d0 c0
    obtain ⟨hfr2, tp2, bt2, F2, L2, HW2, HF2⟩ := id hM2
    refine lv_istore (lv' := [(7, .int r2), (6, .int (nI (cdShaft S (xs (6 * k + 1))))), (0, .ref b), (1, .ref (ad 0 0)), (2, .ref (md 0)), (3, .ref o), (4, .ref od), (5, .int (nI (6 * k)))]) hx hb dL_law_938 hl (by decide) rfl (fun ls hl => ?_)
    refine lv_aload_n hx hb dL_law_940 rfl (lv_at hl 4 rfl) ?_
    refine g_Vi (As := []) (rest := []) F hP hS (k_X7_thrown l A G w6 md S (nI (cdShaft S (xs (6 * k + 1)))) _ _ F2 L2 HW2.1) (cwV 0 hts gL_law_X7_thrown rfl rfl rfl cd_X7_thrown ⟨by rw [hRf]; exact Nat.le_of_ble_eq_true rfl, by rw [hRl]; exact Nat.le_of_ble_eq_true rfl⟩) (HW2.1) rfl rfl rfl hl.1 (Nat.le_of_ble_eq_true rfl) dL_law_941 ⟨by omega, by omega⟩ rfl (fun r8 w9 H locs h10 hP hS => ?_)
    rw [h10.2] at hP
    rw [h10.1]
    refine lv_iload hx hb dL_law_944 (lv_at hl 1 rfl) ?_
    refine lv_icmp_eq (tgt := 951) hx hb dL_law_946 (by decide) (fun c11 => ?_) (fun c11 => ?_)
    · refine lv_iload hx hb dL_law_951 (lv_at hl 1 rfl) ?_
      refine lv_if_ne (tgt := 975) hx hb dL_law_953 (by decide) (fun c12 => ?_) (fun c12 => ?_)
      · refine lv_goto (tgt := 1516) hx hb dL_law_975 (by decide) ?_
        refine W.widen (k := 20 + 12 * k + 12) (n := 300 + 180 * k + 180) (by omega) (by omega) ?_
        exact cont _ w6 H locs ls (lw_step hB hsep Hj HM ho hod hA9 h1f g1 g2 hM2) hP hS (lv_sub hl [2, 3, 4, 5, 6, 7] rfl)
      · exact absurd ((nI_eq (a := cdShaft S (xs (6 * k + 1))) (b := 0) (by omega) (by omega)).mp c12) c0
    · exact absurd rfl c11
  · obtain ⟨c0, er, wA, hWp, ew⟩ := c9
    have hWp : wA = w := hWp
    have hA9 : after G w ad Cn wA S := by rw [hWp]; exact after_rf hB
    have HM1 := lw_m2 hsep (lw_m1 hA9 hsep HM) (Or.inl rfl) ew
    have g1 : w3 o = some (.inl (G.2.1 1, 1, .inr (.inl (vp_updL fo 0 (if vlIsTold (told S) (xs (6 * k + 1)) then (1 : Int64) else 0))))) := by rw [ew]; exact g_up_s _ _ _
    have g2 : w3 od = some (.inl (G.2.1 5, 1, .inr (.inr (.inr (.inl fd))))) := by rw [ew, g_up_n _ hne]; exact lw_o hA9 hsep (Or.inr rfl) hod
    have h1f : ∀ a, wA a ≠ none → a ≠ o → a ≠ od → w3 a = wA a := fun a _ h2 _ => by rw [ew]; exact g_up_n _ h2
    rw [er]
    refine lv_istore (lv' := [(6, .int 0), (0, .ref b), (1, .ref (ad 0 0)), (2, .ref (md 0)), (3, .ref o), (4, .ref od), (5, .int (nI (6 * k)))]) hx hb dL_law_926 hl (by decide) rfl (fun ls hl => ?_)
    refine lv_aload_n hx hb dL_law_928 rfl (lv_at hl 3 rfl) ?_
    refine lv_aload_n hx hb dL_law_929 rfl (lv_at hl 1 rfl) ?_
    refine lv_iload hx hb dL_law_930 (lv_at hl 6 rfl) ?_
    refine lv_iconst (v := 1) hx hb dL_law_932 (by decide) ?_
    refine lv_iadd hx hb dL_law_933 ?_
    refine lv_topi (fun v13 ev13 => ?_)
    obtain rfl : v13 = nI (6 * k + 1) := by
      rw [ev13]
      exact nI_add _ 1
    refine va_sld hx hb hX hbl hbA hS (vp_in_nI (n := 6 * k + 1) (by omega) (by omega)) dL_law_934 ?_
    rw [nI_clamp (n := 6 * k + 1) (by omega)]
    refine g_Vi (As := [.int (xs (6 * k + 1))]) (rest := []) F hP hS (k_X7_isTold l A G w3 md S th tp bt Fm L (xs (6 * k + 1)) HM1 Hj Hf hB.2.2.1) (cwV 1 hts gL_law_X7_isTold rfl rfl rfl cd_X7_isTold ⟨by rw [hRf]; exact Nat.le_of_ble_eq_true rfl, by rw [hRl]; exact Nat.le_of_ble_eq_true rfl⟩) (HM1.1) rfl rfl rfl hl.1 (Nat.le_of_ble_eq_true rfl) dL_law_935 ⟨by omega, by omega⟩ rfl (fun r2 w14 H locs h15 hP hS => ?_)
    rcases h15 with ⟨d0, hM2⟩ | ⟨d0, ok, hM2⟩
    · exact absurd c0 d0
    rw [ok]
    obtain ⟨hfr2, tp2, bt2, F2, L2, HW2, HF2⟩ := id hM2
    have HO2 : w14 o = some (.inl (G.2.1 1, 1, .inr (.inl (vp_updL fo 0 (if vlIsTold (told S) (xs (6 * k + 1)) then (1 : Int64) else 0))))) := by rw [hfr2.1 o (by rw [g1]; exact fun q => (nomatch q)) (fun j hj => (hsep.2 j hj).1)]; exact g1
    refine lv_istore (lv' := [(7, .int (g_b (vlIsTold (told S) (xs (6 * k + 1))))), (6, .int 0), (0, .ref b), (1, .ref (ad 0 0)), (2, .ref (md 0)), (3, .ref o), (4, .ref od), (5, .int (nI (6 * k)))]) hx hb dL_law_938 hl (by decide) rfl (fun ls hl => ?_)
    refine lv_aload_n hx hb dL_law_940 rfl (lv_at hl 4 rfl) ?_
    refine g_Vi (As := []) (rest := []) F hP hS (k_X7_thrown l A G w14 md S (nI 0) _ _ F2 L2 HW2.1) (cwV 0 hts gL_law_X7_thrown rfl rfl rfl cd_X7_thrown ⟨by rw [hRf]; exact Nat.le_of_ble_eq_true rfl, by rw [hRl]; exact Nat.le_of_ble_eq_true rfl⟩) (HW2.1) rfl rfl rfl hl.1 (Nat.le_of_ble_eq_true rfl) dL_law_941 ⟨by omega, by omega⟩ rfl (fun r16 w17 H locs h18 hP hS => ?_)
    rw [h18.2] at hP
    rw [h18.1]
    refine lv_iload hx hb dL_law_944 (lv_at hl 1 rfl) ?_
    refine lv_icmp_eq (tgt := 951) hx hb dL_law_946 (by decide) (fun c19 => ?_) (fun c19 => ?_)
    · refine lv_iload hx hb dL_law_951 (lv_at hl 1 rfl) ?_
      refine lv_if_ne (tgt := 975) hx hb dL_law_953 (by decide) (fun c20 => ?_) (fun c20 => ?_)
      · exact absurd c20 (by decide)
      · refine lv_aload_n hx hb dL_law_956 rfl (lv_at hl 5 rfl) ?_
        refine lv_iconst (v := 0) hx hb dL_law_957 (by decide) ?_
        refine g_lald F hP HO2 (by unfold vp_in; decide) dL_law_958 ?_
        rw [show (.long ((vp_updL fo 0 (if vlIsTold (told S) (xs (6 * k + 1)) then (1 : Int64) else 0)) (0 : Int32).toNatClampNeg) : Value) = .long (if vlIsTold (told S) (xs (6 * k + 1)) then (1 : Int64) else 0) from by rw [show ((0 : Int32).toNatClampNeg) = 0 from by decide]; unfold vp_updL; rw [if_pos rfl]]
        refine lv_iload hx hb dL_law_959 (lv_at hl 0 rfl) ?_
        refine lv_if_eq (tgt := 968) hx hb dL_law_961 (by decide) (fun c21 => ?_) (fun c21 => ?_)
        · have yb : vlIsTold (told S) (xs (6 * k + 1)) = false := g_b0.mp c21
          refine lv_lconst (v := 0) hx hb dL_law_968 (by decide) ?_
          refine W.lcmp hx hb dL_law_969 ?_
          refine lv_if_eq (tgt := 975) hx hb dL_law_970 (by decide) (fun c22 => ?_) (fun c22 => ?_)
          · have c22 := (lg_cmp_eq (if vlIsTold (told S) (xs (6 * k + 1)) then (1 : Int64) else 0) 0).mp c22
            refine lv_goto (tgt := 1516) hx hb dL_law_975 (by decide) ?_
            refine W.widen (k := 20 + 12 * k + 12) (n := 300 + 180 * k + 180) (by omega) (by omega) ?_
            exact cont _ w14 H locs ls (lw_step hB hsep Hj HM ho hod hA9 h1f g1 g2 hM2) hP hS (lv_sub hl [2, 3, 4, 5, 6, 7] rfl)
          · have c22 : ¬ ((if vlIsTold (told S) (xs (6 * k + 1)) then (1 : Int64) else 0) = 0) := fun h => c22 ((lg_cmp_eq (if vlIsTold (told S) (xs (6 * k + 1)) then (1 : Int64) else 0) 0).mpr h)
            exact absurd (by rw [yb]; rfl) c22
        · have yb : vlIsTold (told S) (xs (6 * k + 1)) = true := g_b1.mp c21
          refine lv_lconst (v := 1) hx hb dL_law_964 (by decide) ?_
          refine lv_goto (tgt := 969) hx hb dL_law_965 (by decide) ?_
          refine W.lcmp hx hb dL_law_969 ?_
          refine lv_if_eq (tgt := 975) hx hb dL_law_970 (by decide) (fun c23 => ?_) (fun c23 => ?_)
          · have c23 := (lg_cmp_eq (if vlIsTold (told S) (xs (6 * k + 1)) then (1 : Int64) else 0) 1).mp c23
            refine lv_goto (tgt := 1516) hx hb dL_law_975 (by decide) ?_
            refine W.widen (k := 20 + 12 * k + 12) (n := 300 + 180 * k + 180) (by omega) (by omega) ?_
            exact cont _ w14 H locs ls (lw_step hB hsep Hj HM ho hod hA9 h1f g1 g2 hM2) hP hS (lv_sub hl [2, 3, 4, 5, 6, 7] rfl)
          · have c23 : ¬ ((if vlIsTold (told S) (xs (6 * k + 1)) then (1 : Int64) else 0) = 1) := fun h => c23 ((lg_cmp_eq (if vlIsTold (told S) (xs (6 * k + 1)) then (1 : Int64) else 0) 1).mpr h)
            exact absurd (by rw [yb]; rfl) c23
    · exact absurd (show nI 0 = (0 : Int32) from rfl) c19
