set_option maxHeartbeats 4000000 in
set_option maxRecDepth 100000 in
theorem law_c16 {p : Program} {l : Launch} {e : Env} {R : Room} {s : State} {m : MethodId} {args : Array Value} {below : List Frame} {meth : Method} {c : Code} {Q : State → Prop} {A : Nat → Prop} {G : g_C} (F : g_F p m c cL_law 9 s args wsL_law RL A G) (hRf : R.frames = 12) (hRl : R.locals = 434) (hRc : R.cells = 601024) (hRs : R.slots = 7293034) (hlt : l.stackTraces = false) {b N : Nat} {xs : Nat → Int32} (hX : va_X b N xs s s.heap) (hbl : b < s.heap.size) (hbA : ¬ A b) {k : Nat} (hkN : 6 * k + 6 ≤ N) (hN : N ≤ 3072) {w : g_W} {x mo o od : Nat} {S : Sg} (J : lwJ G w x mo o od S) {H : Heap} {locs : List Loc} {ls : Array Slot} (hP : g_P A G w H) (hS : va_S A s.heap H locs) (hl : lv_has ls 9 [(0, .ref b), (1, .ref x), (2, .ref mo), (3, .ref o), (4, .ref od), (5, .int (nI (6 * k)))])
    (cont : ∀ (S' : Sg) (w' : g_W) (H' : Heap) (locs' : List Loc) (ls' : Array Slot), lwJ G w' x mo o od S' → g_P A G w' H' → va_S A s.heap H' locs' → lv_has ls' 9 [(0, .ref b), (1, .ref x), (2, .ref mo), (3, .ref o), (4, .ref od), (5, .int (nI (6 * k)))] → W p l e R s m args below meth c H' locs' (20 + 12 * k + 12) (300 + 180 * k + 180) Q (F0 m 1516 ls' [])) : W p l e R s m args below meth c H locs (20 + 12 * k) (300 + 180 * k) Q (F0 m 1261 ls []) := by
  obtain ⟨⟨hx, hb, hml, hown, hts⟩, hK, hZ, hA⟩ := id F
  obtain ⟨ad, Cn, T, md, th, tp, bt, Fm, L, fo, fd, rfl, rfl, hB, hT3, Hj, HM, Hf, ho, hod, hsep⟩ := J
  have hne := g_ne hod ho rfl
  refine lv_aload_n hx hb dL_law_1261 rfl (lv_at hl 1 rfl) ?_
  refine lv_aload_n hx hb dL_law_1262 rfl (lv_at hl 0 rfl) ?_
  refine lv_iload hx hb dL_law_1263 (lv_at hl 5 rfl) ?_
  refine lv_iconst (v := 1) hx hb dL_law_1265 (by decide) ?_
  refine lv_iadd hx hb dL_law_1266 ?_
  refine lv_topi (fun v1 ev1 => ?_)
  obtain rfl : v1 = nI (6 * k + 1) := by
    rw [ev1]
    exact nI_add _ 1
  refine va_sld hx hb hX hbl hbA hS (vp_in_nI (n := 6 * k + 1) (by omega) (by omega)) dL_law_1267 ?_
  rw [nI_clamp (n := 6 * k + 1) (by omega)]
  refine lv_aload_n hx hb dL_law_1268 rfl (lv_at hl 0 rfl) ?_
  refine lv_iload hx hb dL_law_1269 (lv_at hl 5 rfl) ?_
  refine lv_iconst (v := 2) hx hb dL_law_1271 (by decide) ?_
  refine lv_iadd hx hb dL_law_1272 ?_
  refine lv_topi (fun v2 ev2 => ?_)
  obtain rfl : v2 = nI (6 * k + 2) := by
    rw [ev2]
    exact nI_add _ 2
  refine va_sld hx hb hX hbl hbA hS (vp_in_nI (n := 6 * k + 2) (by omega) (by omega)) dL_law_1273 ?_
  rw [nI_clamp (n := 6 * k + 2) (by omega)]
  refine lv_aload_n hx hb dL_law_1274 rfl (lv_at hl 3 rfl) ?_
  refine g_Sxi (As := [.ref (ad 0 0), .int (xs (6 * k + 1)), .int (xs (6 * k + 2)), .ref o]) (rest := []) F hP hS (k_L_torque l hlt A G w ad Cn S T (xs (6 * k + 1)) (xs (6 * k + 2)) hB.1 hB.2.1 hB.2.2.1 hB.2.2.2.1 hB.2.2.2.2 o fo ho (fun k i h => (hsep.1 k i h).2.1)) (vx_cwSW 4 hts gL_law_L_torque rfl rfl rfl cdS_L_torque ⟨by rw [hRf]; exact Nat.le_of_ble_eq_true rfl, by rw [hRl]; exact Nat.le_of_ble_eq_true rfl⟩) rfl hl.1 (Nat.le_of_ble_eq_true rfl) dL_law_1275 ⟨by omega, by omega⟩ rfl (fun r3 w4 H locs h5 hP hS => ?_)
  rw [t3_cdTorque hT3, t3_torque hT3] at h5
  rcases h5 with c9 | c9
  · obtain ⟨⟨c0, c4⟩, er, ew⟩ := c9
    rw [ew] at hP
    rw [er]
    have hA9 := after_rf hB
    have HM1 := HM
    have g1 := ho
    have g2 := hod
    have h1f : ∀ a, w a ≠ none → a ≠ o → a ≠ od → w a = w a := fun _ _ _ _ => rfl
    refine lv_istore (lv' := [(6, .int (nI (cdTorque S (told S) (xs (6 * k + 1)) (xs (6 * k + 2))))), (0, .ref b), (1, .ref (ad 0 0)), (2, .ref (md 0)), (3, .ref o), (4, .ref od), (5, .int (nI (6 * k)))]) hx hb dL_law_1278 hl (by decide) rfl (fun ls hl => ?_)
    refine lv_aload_n hx hb dL_law_1280 rfl (lv_at hl 3 rfl) ?_
    refine lv_aload_n hx hb dL_law_1281 rfl (lv_at hl 1 rfl) ?_
    refine lv_iload hx hb dL_law_1282 (lv_at hl 6 rfl) ?_
    refine lv_iconst (v := 1) hx hb dL_law_1284 (by decide) ?_
    refine lv_iadd hx hb dL_law_1285 ?_
    refine lv_topi (fun v6 ev6 => ?_)
    obtain rfl : v6 = nI (6 * k + 1) := by
      rw [ev6]
      exact nI_add _ 1
    refine va_sld hx hb hX hbl hbA hS (vp_in_nI (n := 6 * k + 1) (by omega) (by omega)) dL_law_1286 ?_
    rw [nI_clamp (n := 6 * k + 1) (by omega)]
    refine lv_aload_n hx hb dL_law_1287 rfl (lv_at hl 1 rfl) ?_
    refine lv_iload hx hb dL_law_1288 (lv_at hl 6 rfl) ?_
    refine lv_iconst (v := 2) hx hb dL_law_1290 (by decide) ?_
    refine lv_iadd hx hb dL_law_1291 ?_
    refine lv_topi (fun v7 ev7 => ?_)
    obtain rfl : v7 = nI (6 * k + 2) := by
      rw [ev7]
      exact nI_add _ 2
    refine va_sld hx hb hX hbl hbA hS (vp_in_nI (n := 6 * k + 2) (by omega) (by omega)) dL_law_1292 ?_
    rw [nI_clamp (n := 6 * k + 2) (by omega)]
    refine g_Vl (As := [.int (xs (6 * k + 1)), .int (xs (6 * k + 2))]) (rest := []) F hP hS (k_X7_torque l A G w md S th tp bt Fm L (xs (6 * k + 1)) (xs (6 * k + 2)) HM1 Hj Hf hB.2.2.1) (cwV 2 hts gL_law_X7_torque rfl rfl rfl cd_X7_torque ⟨by rw [hRf]; exact Nat.le_of_ble_eq_true rfl, by rw [hRl]; exact Nat.le_of_ble_eq_true rfl⟩) (HM1.1) rfl rfl rfl hl.1 (Nat.le_of_ble_eq_true rfl) dL_law_1293 ⟨by omega, by omega⟩ rfl (fun r2 w8 H locs h9 hP hS => ?_)
    rcases h9 with ⟨d0, hM2⟩ | ⟨d0, hM2⟩
    rotate_left
    · exact absurd d0 c0
    obtain ⟨hfr2, tp2, bt2, F2, L2, HW2, HF2⟩ := id hM2
    refine lv_lstore (lv' := [(7, .long r2), (6, .int (nI (cdTorque S (told S) (xs (6 * k + 1)) (xs (6 * k + 2))))), (0, .ref b), (1, .ref (ad 0 0)), (2, .ref (md 0)), (3, .ref o), (4, .ref od), (5, .int (nI (6 * k)))]) hx hb dL_law_1296 hl (by decide) rfl (fun ls hl => ?_)
    refine lv_aload_n hx hb dL_law_1298 rfl (lv_at hl 4 rfl) ?_
    refine g_Vi (As := []) (rest := []) F hP hS (k_X7_thrown l A G w8 md S (nI (cdTorque S (told S) (xs (6 * k + 1)) (xs (6 * k + 2)))) _ _ F2 L2 HW2.1) (cwV 0 hts gL_law_X7_thrown rfl rfl rfl cd_X7_thrown ⟨by rw [hRf]; exact Nat.le_of_ble_eq_true rfl, by rw [hRl]; exact Nat.le_of_ble_eq_true rfl⟩) (HW2.1) rfl rfl rfl hl.1 (Nat.le_of_ble_eq_true rfl) dL_law_1299 ⟨by omega, by omega⟩ rfl (fun r10 w11 H locs h12 hP hS => ?_)
    rw [h12.2] at hP
    rw [h12.1]
    refine lv_iload hx hb dL_law_1302 (lv_at hl 1 rfl) ?_
    refine lv_icmp_eq (tgt := 1309) hx hb dL_law_1304 (by decide) (fun c13 => ?_) (fun c13 => ?_)
    · refine lv_iload hx hb dL_law_1309 (lv_at hl 1 rfl) ?_
      refine lv_if_ne (tgt := 1325) hx hb dL_law_1311 (by decide) (fun c14 => ?_) (fun c14 => ?_)
      · refine lv_goto (tgt := 1516) hx hb dL_law_1325 (by decide) ?_
        refine W.widen (k := 20 + 12 * k + 12) (n := 300 + 180 * k + 180) (by omega) (by omega) ?_
        exact cont _ w8 H locs ls (lw_step hB hsep Hj HM ho hod hA9 h1f g1 g2 hM2) hP hS (lv_sub hl [2, 3, 4, 5, 6, 7] rfl)
      · exact absurd ((nI_eq (a := cdTorque S (told S) (xs (6 * k + 1)) (xs (6 * k + 2))) (b := 0) (by omega) (by omega)).mp c14) c0
    · exact absurd rfl c13
  · obtain ⟨c0, er, wA, hWp, ew⟩ := c9
    have hWp : wA = w := hWp
    have hA9 : after G w ad Cn wA S := by rw [hWp]; exact after_rf hB
    have HM1 := lw_m2 hsep (lw_m1 hA9 hsep HM) (Or.inl rfl) ew
    have g1 : w4 o = some (.inl (G.2.1 1, 1, .inr (.inl (vp_updL fo 0 (vlTorque S (told S) (xs (6 * k + 1)) (xs (6 * k + 2))))))) := by rw [ew]; exact g_up_s _ _ _
    have g2 : w4 od = some (.inl (G.2.1 5, 1, .inr (.inr (.inr (.inl fd))))) := by rw [ew, g_up_n _ hne]; exact lw_o hA9 hsep (Or.inr rfl) hod
    have h1f : ∀ a, wA a ≠ none → a ≠ o → a ≠ od → w4 a = wA a := fun a _ h2 _ => by rw [ew]; exact g_up_n _ h2
    rw [er]
    refine lv_istore (lv' := [(6, .int 0), (0, .ref b), (1, .ref (ad 0 0)), (2, .ref (md 0)), (3, .ref o), (4, .ref od), (5, .int (nI (6 * k)))]) hx hb dL_law_1278 hl (by decide) rfl (fun ls hl => ?_)
    refine lv_aload_n hx hb dL_law_1280 rfl (lv_at hl 3 rfl) ?_
    refine lv_aload_n hx hb dL_law_1281 rfl (lv_at hl 1 rfl) ?_
    refine lv_iload hx hb dL_law_1282 (lv_at hl 6 rfl) ?_
    refine lv_iconst (v := 1) hx hb dL_law_1284 (by decide) ?_
    refine lv_iadd hx hb dL_law_1285 ?_
    refine lv_topi (fun v15 ev15 => ?_)
    obtain rfl : v15 = nI (6 * k + 1) := by
      rw [ev15]
      exact nI_add _ 1
    refine va_sld hx hb hX hbl hbA hS (vp_in_nI (n := 6 * k + 1) (by omega) (by omega)) dL_law_1286 ?_
    rw [nI_clamp (n := 6 * k + 1) (by omega)]
    refine lv_aload_n hx hb dL_law_1287 rfl (lv_at hl 1 rfl) ?_
    refine lv_iload hx hb dL_law_1288 (lv_at hl 6 rfl) ?_
    refine lv_iconst (v := 2) hx hb dL_law_1290 (by decide) ?_
    refine lv_iadd hx hb dL_law_1291 ?_
    refine lv_topi (fun v16 ev16 => ?_)
    obtain rfl : v16 = nI (6 * k + 2) := by
      rw [ev16]
      exact nI_add _ 2
    refine va_sld hx hb hX hbl hbA hS (vp_in_nI (n := 6 * k + 2) (by omega) (by omega)) dL_law_1292 ?_
    rw [nI_clamp (n := 6 * k + 2) (by omega)]
    refine g_Vl (As := [.int (xs (6 * k + 1)), .int (xs (6 * k + 2))]) (rest := []) F hP hS (k_X7_torque l A G w4 md S th tp bt Fm L (xs (6 * k + 1)) (xs (6 * k + 2)) HM1 Hj Hf hB.2.2.1) (cwV 2 hts gL_law_X7_torque rfl rfl rfl cd_X7_torque ⟨by rw [hRf]; exact Nat.le_of_ble_eq_true rfl, by rw [hRl]; exact Nat.le_of_ble_eq_true rfl⟩) (HM1.1) rfl rfl rfl hl.1 (Nat.le_of_ble_eq_true rfl) dL_law_1293 ⟨by omega, by omega⟩ rfl (fun r2 w17 H locs h18 hP hS => ?_)
    rcases h18 with ⟨d0, hM2⟩ | ⟨d0, ok, hM2⟩
    · exact absurd c0 d0
    rw [ok]
    obtain ⟨hfr2, tp2, bt2, F2, L2, HW2, HF2⟩ := id hM2
    have HO2 : w17 o = some (.inl (G.2.1 1, 1, .inr (.inl (vp_updL fo 0 (vlTorque S (told S) (xs (6 * k + 1)) (xs (6 * k + 2))))))) := by rw [hfr2.1 o (by rw [g1]; exact fun q => (nomatch q)) (fun j hj => (hsep.2 j hj).1)]; exact g1
    refine lv_lstore (lv' := [(7, .long (vlTorque S (told S) (xs (6 * k + 1)) (xs (6 * k + 2)))), (6, .int 0), (0, .ref b), (1, .ref (ad 0 0)), (2, .ref (md 0)), (3, .ref o), (4, .ref od), (5, .int (nI (6 * k)))]) hx hb dL_law_1296 hl (by decide) rfl (fun ls hl => ?_)
    refine lv_aload_n hx hb dL_law_1298 rfl (lv_at hl 4 rfl) ?_
    refine g_Vi (As := []) (rest := []) F hP hS (k_X7_thrown l A G w17 md S (nI 0) _ _ F2 L2 HW2.1) (cwV 0 hts gL_law_X7_thrown rfl rfl rfl cd_X7_thrown ⟨by rw [hRf]; exact Nat.le_of_ble_eq_true rfl, by rw [hRl]; exact Nat.le_of_ble_eq_true rfl⟩) (HW2.1) rfl rfl rfl hl.1 (Nat.le_of_ble_eq_true rfl) dL_law_1299 ⟨by omega, by omega⟩ rfl (fun r19 w20 H locs h21 hP hS => ?_)
    rw [h21.2] at hP
    rw [h21.1]
    refine lv_iload hx hb dL_law_1302 (lv_at hl 1 rfl) ?_
    refine lv_icmp_eq (tgt := 1309) hx hb dL_law_1304 (by decide) (fun c22 => ?_) (fun c22 => ?_)
    · refine lv_iload hx hb dL_law_1309 (lv_at hl 1 rfl) ?_
      refine lv_if_ne (tgt := 1325) hx hb dL_law_1311 (by decide) (fun c23 => ?_) (fun c23 => ?_)
      · exact absurd c23 (by decide)
      · refine lv_aload_n hx hb dL_law_1314 rfl (lv_at hl 5 rfl) ?_
        refine lv_iconst (v := 0) hx hb dL_law_1315 (by decide) ?_
        refine g_lald F hP HO2 (by unfold vp_in; decide) dL_law_1316 ?_
        rw [show (.long ((vp_updL fo 0 (vlTorque S (told S) (xs (6 * k + 1)) (xs (6 * k + 2)))) (0 : Int32).toNatClampNeg) : Value) = .long (vlTorque S (told S) (xs (6 * k + 1)) (xs (6 * k + 2))) from by rw [show ((0 : Int32).toNatClampNeg) = 0 from by decide]; unfold vp_updL; rw [if_pos rfl]]
        refine lv_lload hx hb dL_law_1317 (lv_at hl 0 rfl) ?_
        refine W.lcmp hx hb dL_law_1319 ?_
        refine lv_if_eq (tgt := 1325) hx hb dL_law_1320 (by decide) (fun c24 => ?_) (fun c24 => ?_)
        · have c24 := (lg_cmp_eq (vlTorque S (told S) (xs (6 * k + 1)) (xs (6 * k + 2))) (vlTorque S (told S) (xs (6 * k + 1)) (xs (6 * k + 2)))).mp c24
          refine lv_goto (tgt := 1516) hx hb dL_law_1325 (by decide) ?_
          refine W.widen (k := 20 + 12 * k + 12) (n := 300 + 180 * k + 180) (by omega) (by omega) ?_
          exact cont _ w17 H locs ls (lw_step hB hsep Hj HM ho hod hA9 h1f g1 g2 hM2) hP hS (lv_sub hl [2, 3, 4, 5, 6, 7] rfl)
        · have c24 : ¬ ((vlTorque S (told S) (xs (6 * k + 1)) (xs (6 * k + 2))) = (vlTorque S (told S) (xs (6 * k + 1)) (xs (6 * k + 2)))) := fun h => c24 ((lg_cmp_eq (vlTorque S (told S) (xs (6 * k + 1)) (xs (6 * k + 2))) (vlTorque S (told S) (xs (6 * k + 1)) (xs (6 * k + 2)))).mpr h)
          exact absurd rfl c24
    · exact absurd (show nI 0 = (0 : Int32) from rfl) c22
