set_option maxHeartbeats 4000000 in
set_option maxRecDepth 100000 in
theorem law_c18 {p : Program} {l : Launch} {e : Env} {R : Room} {s : State} {m : MethodId} {args : Array Value} {below : List Frame} {meth : Method} {c : Code} {Q : State → Prop} {A : Nat → Prop} {G : g_C} (F : g_F p m c cL_law 9 s args wsL_law RL A G) (hRf : R.frames = 12) (hRl : R.locals = 434) (hRc : R.cells = 601024) (hRs : R.slots = 7293034) (hlt : l.stackTraces = false) {b N : Nat} {xs : Nat → Int32} (hX : va_X b N xs s s.heap) (hbl : b < s.heap.size) (hbA : ¬ A b) {k : Nat} (hkN : 6 * k + 6 ≤ N) (hN : N ≤ 3072) {w : g_W} {x mo o od : Nat} {S : Sg} (J : lwJ G w x mo o od S) {H : Heap} {locs : List Loc} {ls : Array Slot} (hP : g_P A G w H) (hS : va_S A s.heap H locs) (hl : lv_has ls 9 [(0, .ref b), (1, .ref x), (2, .ref mo), (3, .ref o), (4, .ref od), (5, .int (nI (6 * k)))])
    (cont : ∀ (S' : Sg) (w' : g_W) (H' : Heap) (locs' : List Loc) (ls' : Array Slot), lwJ G w' x mo o od S' → g_P A G w' H' → va_S A s.heap H' locs' → lv_has ls' 9 [(0, .ref b), (1, .ref x), (2, .ref mo), (3, .ref o), (4, .ref od), (5, .int (nI (6 * k)))] → W p l e R s m args below meth c H' locs' (20 + 12 * k + 12) (300 + 180 * k + 180) Q (F0 m 1516 ls' [])) : W p l e R s m args below meth c H locs (20 + 12 * k) (300 + 180 * k) Q (F0 m 1384 ls []) := by
  obtain ⟨⟨hx, hb, hml, hown, hts⟩, hK, hZ, hA⟩ := id F
  obtain ⟨ad, Cn, T, md, th, tp, bt, Fm, L, fo, fd, rfl, rfl, hB, hT3, Hj, HM, Hf, ho, hod, hsep⟩ := J
  have hne := g_ne hod ho rfl
  refine lv_aload_n hx hb dL_law_1384 rfl (lv_at hl 1 rfl) ?_
  have hx0 := rep_x hB.1 hB.2.1
  refine g_Vi (As := []) (rest := []) F hP hS (k_X6_misfits l A G w ad Cn S T  hB.1 hB.2.1 hB.2.2.1) (cwV 0 hts gL_law_X6_misfits rfl rfl rfl cd_X6_misfits ⟨by rw [hRf]; exact Nat.le_of_ble_eq_true rfl, by rw [hRl]; exact Nat.le_of_ble_eq_true rfl⟩) (hx0) rfl rfl rfl hl.1 (Nat.le_of_ble_eq_true rfl) dL_law_1385 ⟨by omega, by omega⟩ rfl (fun r1 w2 H locs h3 hP hS => ?_)
  obtain ⟨er, ew⟩ := h3
  rw [ew] at hP
  have hA9 := after_rf hB
  have h1f : ∀ a, w a ≠ none → a ≠ o → a ≠ od → w a = w a := fun _ _ _ _ => rfl
  have HM1 := lw_m1 hA9 hsep HM
  have g1 := lw_o hA9 hsep (Or.inl rfl) ho
  have g2 := lw_o hA9 hsep (Or.inr rfl) hod
  rw [er]
  refine lv_aload_n hx hb dL_law_1388 rfl (lv_at hl 2 rfl) ?_
  refine g_Vi (As := []) (rest := [.int (vlMisfits S)]) F hP hS (k_X7_misfits l A G w md S th tp bt Fm L  HM1 Hj Hf hB.2.2.1) (cwV 0 hts gL_law_X7_misfits rfl rfl rfl cd_X7_misfits ⟨by rw [hRf]; exact Nat.le_of_ble_eq_true rfl, by rw [hRl]; exact Nat.le_of_ble_eq_true rfl⟩) (HM1.1) rfl rfl rfl hl.1 (Nat.le_of_ble_eq_true rfl) dL_law_1389 ⟨by omega, by omega⟩ rfl (fun r2 w4 H locs h5 hP hS => ?_)
  obtain ⟨ok, hM2⟩ := h5
  rw [ok]
  refine lv_icmp_eq (tgt := 1516) hx hb dL_law_1392 (by decide) (fun c6 => ?_) (fun c6 => ?_)
  · refine W.widen (k := 20 + 12 * k + 12) (n := 300 + 180 * k + 180) (by omega) (by omega) ?_
    exact cont _ w4 H locs ls (lw_step hB hsep Hj HM ho hod hA9 h1f g1 g2 hM2) hP hS (lv_sub hl [0, 1, 2, 3, 4, 5] rfl)
  · exact absurd rfl c6
