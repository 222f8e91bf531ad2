set_option maxHeartbeats 4000000 in
set_option maxRecDepth 100000 in
theorem law_c0 {p : Program} {l : Launch} {e : Env} {R : Room} {s : State} {m : MethodId} {args : Array Value} {below : List Frame} {meth : Method} {c : Code} {Q : State → Prop} {A : Nat → Prop} {G : g_C} (F : g_F p m c cL_law 9 s args wsL_law RL A G) (hRf : R.frames = 12) (hRl : R.locals = 434) (hRc : R.cells = 601024) (hRs : R.slots = 7293034) (hlt : l.stackTraces = false) {b N : Nat} {xs : Nat → Int32} (hX : va_X b N xs s s.heap) (hbl : b < s.heap.size) (hbA : ¬ A b) {k : Nat} (hkN : 6 * k + 6 ≤ N) (hN : N ≤ 3072) {w : g_W} {x mo o od : Nat} {S : Sg} (J : lwJ G w x mo o od S) {H : Heap} {locs : List Loc} {ls : Array Slot} (hP : g_P A G w H) (hS : va_S A s.heap H locs) (hl : lv_has ls 9 [(0, .ref b), (1, .ref x), (2, .ref mo), (3, .ref o), (4, .ref od), (5, .int (nI (6 * k)))])
    (cont : ∀ (S' : Sg) (w' : g_W) (H' : Heap) (locs' : List Loc) (ls' : Array Slot), lwJ G w' x mo o od S' → g_P A G w' H' → va_S A s.heap H' locs' → lv_has ls' 9 [(0, .ref b), (1, .ref x), (2, .ref mo), (3, .ref o), (4, .ref od), (5, .int (nI (6 * k)))] → W p l e R s m args below meth c H' locs' (20 + 12 * k + 12) (300 + 180 * k + 180) Q (F0 m 1516 ls' [])) : W p l e R s m args below meth c H locs (20 + 12 * k) (300 + 180 * k) Q (F0 m 148 ls []) := by
  obtain ⟨⟨hx, hb, hml, hown, hts⟩, hK, hZ, hA⟩ := id F
  obtain ⟨ad, Cn, T, md, th, tp, bt, Fm, L, fo, fd, rfl, rfl, hB, hT3, Hj, HM, Hf, ho, hod, hsep⟩ := J
  have hne := g_ne hod ho rfl
  refine lv_aload_n hx hb dL_law_148 rfl (lv_at hl 1 rfl) ?_
  refine lv_aload_n hx hb dL_law_149 rfl (lv_at hl 0 rfl) ?_
  refine lv_iload hx hb dL_law_150 (lv_at hl 5 rfl) ?_
  refine lv_iconst (v := 1) hx hb dL_law_152 (by decide) ?_
  refine lv_iadd hx hb dL_law_153 ?_
  refine lv_topi (fun v1 ev1 => ?_)
  obtain rfl : v1 = nI (6 * k + 1) := by
    rw [ev1]
    exact nI_add _ 1
  refine va_sld hx hb hX hbl hbA hS (vp_in_nI (n := 6 * k + 1) (by omega) (by omega)) dL_law_154 ?_
  rw [nI_clamp (n := 6 * k + 1) (by omega)]
  refine lv_aload_n hx hb dL_law_155 rfl (lv_at hl 0 rfl) ?_
  refine lv_iload hx hb dL_law_156 (lv_at hl 5 rfl) ?_
  refine lv_iconst (v := 2) hx hb dL_law_158 (by decide) ?_
  refine lv_iadd hx hb dL_law_159 ?_
  refine lv_topi (fun v2 ev2 => ?_)
  obtain rfl : v2 = nI (6 * k + 2) := by
    rw [ev2]
    exact nI_add _ 2
  refine va_sld hx hb hX hbl hbA hS (vp_in_nI (n := 6 * k + 2) (by omega) (by omega)) dL_law_160 ?_
  rw [nI_clamp (n := 6 * k + 2) (by omega)]
  refine lv_aload_n hx hb dL_law_161 rfl (lv_at hl 3 rfl) ?_
  refine g_Sxi (As := [.ref (ad 0 0), .int (xs (6 * k + 1)), .int (xs (6 * k + 2)), .ref o]) (rest := []) F hP hS (k_L_addShaft l hlt A G w ad Cn S T (xs (6 * k + 1)) (xs (6 * k + 2)) hB.1 hB.2.1 hB.2.2.1 hB.2.2.2.1 hB.2.2.2.2 o fo ho (fun k i h => (hsep.1 k i h).2.1)) (vx_cwSW 4 hts gL_law_L_addShaft rfl rfl rfl cdS_L_addShaft ⟨by rw [hRf]; exact Nat.le_of_ble_eq_true rfl, by rw [hRl]; exact Nat.le_of_ble_eq_true rfl⟩) rfl hl.1 (Nat.le_of_ble_eq_true rfl) dL_law_162 ⟨by omega, by omega⟩ rfl (fun r3 w4 H locs h5 hP hS => ?_)
  rcases h5 with c9 | c9
  · obtain ⟨⟨c0, c4⟩, er, ew⟩ := c9
    rw [ew] at hP
    rw [er]
    have hA9 := after_rf hB
    have HM1 := HM
    have g1 := ho
    have g2 := hod
    have h1f : ∀ a, w a ≠ none → a ≠ o → a ≠ od → w a = w a := fun _ _ _ _ => rfl
    refine lv_istore (lv' := [(6, .int (nI (cdAddShaft S (xs (6 * k + 1)) (xs (6 * k + 2))))), (0, .ref b), (1, .ref (ad 0 0)), (2, .ref (md 0)), (3, .ref o), (4, .ref od), (5, .int (nI (6 * k)))]) hx hb dL_law_165 hl (by decide) rfl (fun ls hl => ?_)
    refine lv_aload_n hx hb dL_law_167 rfl (lv_at hl 3 rfl) ?_
    refine lv_aload_n hx hb dL_law_168 rfl (lv_at hl 1 rfl) ?_
    refine lv_iload hx hb dL_law_169 (lv_at hl 6 rfl) ?_
    refine lv_iconst (v := 1) hx hb dL_law_171 (by decide) ?_
    refine lv_iadd hx hb dL_law_172 ?_
    refine lv_topi (fun v6 ev6 => ?_)
    obtain rfl : v6 = nI (6 * k + 1) := by
      rw [ev6]
      exact nI_add _ 1
    refine va_sld hx hb hX hbl hbA hS (vp_in_nI (n := 6 * k + 1) (by omega) (by omega)) dL_law_173 ?_
    rw [nI_clamp (n := 6 * k + 1) (by omega)]
    refine lv_aload_n hx hb dL_law_174 rfl (lv_at hl 1 rfl) ?_
    refine lv_iload hx hb dL_law_175 (lv_at hl 6 rfl) ?_
    refine lv_iconst (v := 2) hx hb dL_law_177 (by decide) ?_
    refine lv_iadd hx hb dL_law_178 ?_
    refine lv_topi (fun v7 ev7 => ?_)
    obtain rfl : v7 = nI (6 * k + 2) := by
      rw [ev7]
      exact nI_add _ 2
    refine va_sld hx hb hX hbl hbA hS (vp_in_nI (n := 6 * k + 2) (by omega) (by omega)) dL_law_179 ?_
    rw [nI_clamp (n := 6 * k + 2) (by omega)]
    refine g_Vi (As := [.int (xs (6 * k + 1)), .int (xs (6 * k + 2))]) (rest := []) F hP hS (k_X7_addShaft l A G w md S th tp bt Fm L (xs (6 * k + 1)) (xs (6 * k + 2)) HM1 Hj Hf hB.2.2.1) (cwV 2 hts gL_law_X7_addShaft rfl rfl rfl cd_X7_addShaft ⟨by rw [hRf]; exact Nat.le_of_ble_eq_true rfl, by rw [hRl]; exact Nat.le_of_ble_eq_true rfl⟩) (HM1.1) rfl rfl rfl hl.1 (Nat.le_of_ble_eq_true rfl) dL_law_180 ⟨by omega, by omega⟩ rfl (fun r2 w8 H locs h9 hP hS => ?_)
    rcases h9 with ⟨d0, hM2⟩ | ⟨d0, hM2⟩
    rotate_left
    · exact absurd d0 c0
    obtain ⟨hfr2, tp2, bt2, F2, L2, HW2, HF2⟩ := id hM2
    refine lv_istore (lv' := [(7, .int r2), (6, .int (nI (cdAddShaft S (xs (6 * k + 1)) (xs (6 * k + 2))))), (0, .ref b), (1, .ref (ad 0 0)), (2, .ref (md 0)), (3, .ref o), (4, .ref od), (5, .int (nI (6 * k)))]) hx hb dL_law_183 hl (by decide) rfl (fun ls hl => ?_)
    refine lv_aload_n hx hb dL_law_185 rfl (lv_at hl 4 rfl) ?_
    refine g_Vi (As := []) (rest := []) F hP hS (k_X7_thrown l A G w8 md S (nI (cdAddShaft S (xs (6 * k + 1)) (xs (6 * k + 2)))) _ _ F2 L2 HW2.1) (cwV 0 hts gL_law_X7_thrown rfl rfl rfl cd_X7_thrown ⟨by rw [hRf]; exact Nat.le_of_ble_eq_true rfl, by rw [hRl]; exact Nat.le_of_ble_eq_true rfl⟩) (HW2.1) rfl rfl rfl hl.1 (Nat.le_of_ble_eq_true rfl) dL_law_186 ⟨by omega, by omega⟩ rfl (fun r10 w11 H locs h12 hP hS => ?_)
    rw [h12.2] at hP
    rw [h12.1]
    refine lv_iload hx hb dL_law_189 (lv_at hl 1 rfl) ?_
    refine lv_icmp_eq (tgt := 196) hx hb dL_law_191 (by decide) (fun c13 => ?_) (fun c13 => ?_)
    · refine lv_iload hx hb dL_law_196 (lv_at hl 1 rfl) ?_
      refine lv_if_ne (tgt := 213) hx hb dL_law_198 (by decide) (fun c14 => ?_) (fun c14 => ?_)
      · refine lv_goto (tgt := 1516) hx hb dL_law_213 (by decide) ?_
        refine W.widen (k := 20 + 12 * k + 12) (n := 300 + 180 * k + 180) (by omega) (by omega) ?_
        exact cont _ w8 H locs ls (lw_step hB hsep Hj HM ho hod hA9 h1f g1 g2 hM2) hP hS (lv_sub hl [2, 3, 4, 5, 6, 7] rfl)
      · exact absurd ((nI_eq (a := cdAddShaft S (xs (6 * k + 1)) (xs (6 * k + 2))) (b := 0) (by omega) (by omega)).mp c14) c0
    · exact absurd rfl c13
  · obtain ⟨c0, er, wA, hWp, ew⟩ := c9
    have hA9 := hWp
    have HM1 := lw_m2 hsep (lw_m1 hA9 hsep HM) (Or.inl rfl) ew
    have g1 : w4 o = some (.inl (G.2.1 1, 1, .inr (.inl (vp_updL fo 0 ((vlAddShaft S).toInt64))))) := by rw [ew]; exact g_up_s _ _ _
    have g2 : w4 od = some (.inl (G.2.1 5, 1, .inr (.inr (.inr (.inl fd))))) := by rw [ew, g_up_n _ hne]; exact lw_o hA9 hsep (Or.inr rfl) hod
    have h1f : ∀ a, wA a ≠ none → a ≠ o → a ≠ od → w4 a = wA a := fun a _ h2 _ => by rw [ew]; exact g_up_n _ h2
    rw [er]
    refine lv_istore (lv' := [(6, .int 0), (0, .ref b), (1, .ref (ad 0 0)), (2, .ref (md 0)), (3, .ref o), (4, .ref od), (5, .int (nI (6 * k)))]) hx hb dL_law_165 hl (by decide) rfl (fun ls hl => ?_)
    refine lv_aload_n hx hb dL_law_167 rfl (lv_at hl 3 rfl) ?_
    refine lv_aload_n hx hb dL_law_168 rfl (lv_at hl 1 rfl) ?_
    refine lv_iload hx hb dL_law_169 (lv_at hl 6 rfl) ?_
    refine lv_iconst (v := 1) hx hb dL_law_171 (by decide) ?_
    refine lv_iadd hx hb dL_law_172 ?_
    refine lv_topi (fun v15 ev15 => ?_)
    obtain rfl : v15 = nI (6 * k + 1) := by
      rw [ev15]
      exact nI_add _ 1
    refine va_sld hx hb hX hbl hbA hS (vp_in_nI (n := 6 * k + 1) (by omega) (by omega)) dL_law_173 ?_
    rw [nI_clamp (n := 6 * k + 1) (by omega)]
    refine lv_aload_n hx hb dL_law_174 rfl (lv_at hl 1 rfl) ?_
    refine lv_iload hx hb dL_law_175 (lv_at hl 6 rfl) ?_
    refine lv_iconst (v := 2) hx hb dL_law_177 (by decide) ?_
    refine lv_iadd hx hb dL_law_178 ?_
    refine lv_topi (fun v16 ev16 => ?_)
    obtain rfl : v16 = nI (6 * k + 2) := by
      rw [ev16]
      exact nI_add _ 2
    refine va_sld hx hb hX hbl hbA hS (vp_in_nI (n := 6 * k + 2) (by omega) (by omega)) dL_law_179 ?_
    rw [nI_clamp (n := 6 * k + 2) (by omega)]
    refine g_Vi (As := [.int (xs (6 * k + 1)), .int (xs (6 * k + 2))]) (rest := []) F hP hS (k_X7_addShaft l A G w4 md S th tp bt Fm L (xs (6 * k + 1)) (xs (6 * k + 2)) HM1 Hj Hf hB.2.2.1) (cwV 2 hts gL_law_X7_addShaft rfl rfl rfl cd_X7_addShaft ⟨by rw [hRf]; exact Nat.le_of_ble_eq_true rfl, by rw [hRl]; exact Nat.le_of_ble_eq_true rfl⟩) (HM1.1) rfl rfl rfl hl.1 (Nat.le_of_ble_eq_true rfl) dL_law_180 ⟨by omega, by omega⟩ rfl (fun r2 w17 H locs h18 hP hS => ?_)
    rcases h18 with ⟨d0, hM2⟩ | ⟨d0, ok, hM2⟩
    · exact absurd c0 d0
    rw [ok]
    obtain ⟨hfr2, tp2, bt2, F2, L2, HW2, HF2⟩ := id hM2
    have HO2 : w17 o = some (.inl (G.2.1 1, 1, .inr (.inl (vp_updL fo 0 ((vlAddShaft S).toInt64))))) := by rw [hfr2.1 o (by rw [g1]; exact fun q => (nomatch q)) (fun j hj => (hsep.2 j hj).1)]; exact g1
    refine lv_istore (lv' := [(7, .int (vlAddShaft S)), (6, .int 0), (0, .ref b), (1, .ref (ad 0 0)), (2, .ref (md 0)), (3, .ref o), (4, .ref od), (5, .int (nI (6 * k)))]) hx hb dL_law_183 hl (by decide) rfl (fun ls hl => ?_)
    refine lv_aload_n hx hb dL_law_185 rfl (lv_at hl 4 rfl) ?_
    refine g_Vi (As := []) (rest := []) F hP hS (k_X7_thrown l A G w17 md (nxAddShaft S (xs (6 * k + 1)) (xs (6 * k + 2))) (nI 0) _ _ F2 L2 HW2.1) (cwV 0 hts gL_law_X7_thrown rfl rfl rfl cd_X7_thrown ⟨by rw [hRf]; exact Nat.le_of_ble_eq_true rfl, by rw [hRl]; exact Nat.le_of_ble_eq_true rfl⟩) (HW2.1) rfl rfl rfl hl.1 (Nat.le_of_ble_eq_true rfl) dL_law_186 ⟨by omega, by omega⟩ rfl (fun r19 w20 H locs h21 hP hS => ?_)
    rw [h21.2] at hP
    rw [h21.1]
    refine lv_iload hx hb dL_law_189 (lv_at hl 1 rfl) ?_
    refine lv_icmp_eq (tgt := 196) hx hb dL_law_191 (by decide) (fun c22 => ?_) (fun c22 => ?_)
    · refine lv_iload hx hb dL_law_196 (lv_at hl 1 rfl) ?_
      refine lv_if_ne (tgt := 213) hx hb dL_law_198 (by decide) (fun c23 => ?_) (fun c23 => ?_)
      · exact absurd c23 (by decide)
      · refine lv_aload_n hx hb dL_law_201 rfl (lv_at hl 5 rfl) ?_
        refine lv_iconst (v := 0) hx hb dL_law_202 (by decide) ?_
        refine g_lald F hP HO2 (by unfold vp_in; decide) dL_law_203 ?_
        rw [show (.long ((vp_updL fo 0 ((vlAddShaft S).toInt64)) (0 : Int32).toNatClampNeg) : Value) = .long ((vlAddShaft S).toInt64) from by rw [show ((0 : Int32).toNatClampNeg) = 0 from by decide]; unfold vp_updL; rw [if_pos rfl]]
        refine lv_iload hx hb dL_law_204 (lv_at hl 0 rfl) ?_
        refine lv_i2l hx hb dL_law_206 rfl ?_
        refine lv_topl (fun v24 ev24 => ?_)
        obtain rfl : v24 = ((vlAddShaft S).toInt64) := by
          exact ev24
        refine W.lcmp hx hb dL_law_207 ?_
        refine lv_if_eq (tgt := 213) hx hb dL_law_208 (by decide) (fun c25 => ?_) (fun c25 => ?_)
        · have c25 := (lg_cmp_eq ((vlAddShaft S).toInt64) ((vlAddShaft S).toInt64)).mp c25
          refine lv_goto (tgt := 1516) hx hb dL_law_213 (by decide) ?_
          refine W.widen (k := 20 + 12 * k + 12) (n := 300 + 180 * k + 180) (by omega) (by omega) ?_
          exact cont _ w17 H locs ls (lw_step hB hsep Hj HM ho hod hA9 h1f g1 g2 hM2) hP hS (lv_sub hl [2, 3, 4, 5, 6, 7] rfl)
        · have c25 : ¬ (((vlAddShaft S).toInt64) = ((vlAddShaft S).toInt64)) := fun h => c25 ((lg_cmp_eq ((vlAddShaft S).toInt64) ((vlAddShaft S).toInt64)).mpr h)
          exact absurd rfl c25
    · exact absurd (show nI 0 = (0 : Int32) from rfl) c22
