set_option maxHeartbeats 4000000 in
set_option maxRecDepth 100000 in
/-- the law's loop: at its head, with 6 k ints read -/
theorem law_loop {p : Program} {l : Launch} {e : Env} {R : Room} {s : State} {m : MethodId} {args : Array Value} {below : List Frame} {meth : Method} {c : Code} {Q : State → Prop} {A : Nat → Prop} {G : g_C} (F : g_F p m c cL_law 9 s args wsL_law RL A G) (hRf : R.frames = 12) (hRl : R.locals = 434) (hRc : R.cells = 601024) (hRs : R.slots = 7293034) (hlt : l.stackTraces = false) {b N : Nat} {xs : Nat → Int32} (hX : va_X b N xs s s.heap) (hbl : b < s.heap.size) (hbA : ¬ A b) (hN : N ≤ 3072) {x mo o od : Nat}
    (fin : ∀ (H : Heap) (locs : List Loc) (ls : Array Slot) (k : Nat), va_S A s.heap H locs → 6 * k ≤ N → W p l e R s m args below meth c H locs (20 + 12 * k) (300 + 180 * k) Q (F0 m 1522 ls [])) :
    ∀ (n k : Nat) (S : Sg) (w : g_W) (H : Heap) (locs : List Loc) (ls : Array Slot), N + 6 ≤ 6 * k + 6 * n → 6 * k ≤ N → lwJ G w x mo o od S → g_P A G w H → va_S A s.heap H locs → lv_has ls 9 [(0, .ref b), (1, .ref x), (2, .ref mo), (3, .ref o), (4, .ref od), (5, .int (nI (6 * k)))] → W p l e R s m args below meth c H locs (20 + 12 * k) (300 + 180 * k) Q (F0 m 28 ls []) := by
  obtain ⟨⟨hx, hb, hml, hown, hts⟩, hK, hZ, hA⟩ := id F
  intro n
  induction n with
  | zero =>
    intro k S w H locs ls hfu hk
    exact absurd hfu (by omega)
  | succ n ih =>
    intro k S w H locs ls hfu hk J hP hS hl
    refine lv_iload hx hb dL_law_28 (lv_at hl 5 rfl) ?_
    refine lv_aload_n hx hb dL_law_30 rfl (lv_at hl 0 rfl) ?_
    refine va_slen hx hb hX hbl hbA hS dL_law_31 ?_
    refine lv_bipush (v := 6) hx hb dL_law_32 (by decide) ?_
    refine lv_isub hx hb dL_law_34 ?_
    refine lv_topi (fun v1 ev1 => ?_)
    obtain rfl : v1 = iL ((N : Int) - 6) := by
      rw [ev1]
      rw [show (Int32.ofNat N : Int32) = iL (N : Int) from (iL_n N).symm]
      exact iL_sub _ 6
    refine lv_icmp_gt (tgt := 1522) hx hb dL_law_35 (by decide) (fun c2 => ?_) (fun c2 => ?_)
    · have kc2 : iL ((N : Int) - 6) < nI (6 * k) ↔ (N : Int) - 6 < ((6 * k : Nat) : Int) := by
        rw [← iL_n]
        exact iL_lt (by omega) (by omega) (by omega) (by omega)
      rw [kc2] at c2
      exact fin H locs ls k hS hk
    · have kc2 : iL ((N : Int) - 6) < nI (6 * k) ↔ (N : Int) - 6 < ((6 * k : Nat) : Int) := by
        rw [← iL_n]
        exact iL_lt (by omega) (by omega) (by omega) (by omega)
      rw [kc2] at c2
      have hkN : 6 * k + 6 ≤ N := by omega
      have cont : ∀ (S' : Sg) (w' : g_W) (H' : Heap) (locs' : List Loc) (ls' : Array Slot), lwJ G w' x mo o od S' → g_P A G w' H' → va_S A s.heap H' locs' → lv_has ls' 9 [(0, .ref b), (1, .ref x), (2, .ref mo), (3, .ref o), (4, .ref od), (5, .int (nI (6 * k)))] → W p l e R s m args below meth c H' locs' (20 + 12 * k + 12) (300 + 180 * k + 180) Q (F0 m 1516 ls' []) := by
        intro S' w' H' locs' ls' J' hP' hS' hl'
        rw [show 20 + 12 * k + 12 = 20 + 12 * (k + 1) from by omega, show 300 + 180 * k + 180 = 300 + 180 * (k + 1) from by omega]
        obtain ⟨i6, ei6⟩ : ∃ y : Int32, y = nI (6 * k) + (6) := ⟨_, rfl⟩
        refine lv_iinc (v := i6) (lv' := [(5, .int i6), (0, .ref b), (1, .ref x), (2, .ref mo), (3, .ref o), (4, .ref od)]) hx hb dL_law_1516 hl' (k := 5) rfl (by rw [ei6]; rfl) (by decide) rfl (fun ls hl => ?_)
        have ei7 : i6 = nI (6 * (k + 1)) := by rw [ei6, show 6 * (k + 1) = 6 * k + 6 from by omega]; exact nI_add _ 6
        rw [ei7] at hl
        refine lv_goto (tgt := 28) hx hb dL_law_1519 (by decide) ?_
        exact ih (k + 1) S' w' H' locs' ls (by omega) (by omega) J' hP' hS' (lv_sub hl [1, 2, 3, 4, 5, 0] rfl)
      refine lv_aload_n hx hb dL_law_38 rfl (lv_at hl 0 rfl) ?_
      refine lv_iload hx hb dL_law_39 (lv_at hl 5 rfl) ?_
      refine va_sld hx hb hX hbl hbA hS (vp_in_nI (n := 6 * k) (by omega) (by omega)) dL_law_41 ?_
      rw [nI_clamp (n := 6 * k) (by omega)]
      refine lv_bipush (v := 31) hx hb dL_law_42 (by decide) ?_
      refine lv_iand hx hb dL_law_44 ?_
      refine lv_topi (fun v3 ev3 => ?_)
      obtain rfl : v3 = xs (6 * k) &&& 31 := by
        exact ev3
      by_cases t4 : (xs (6 * k) &&& 31).toInt < 0 ∨ (xs (6 * k) &&& 31).toInt > 21
      · refine lv_tsOut (tgt := 1516) hx hb dL_law_45 t4 (by decide) ?_
        refine W.widen (k := 20 + 12 * k + 12) (n := 300 + 180 * k + 180) (by omega) (by omega) ?_
        exact cont S w H locs ls J hP hS (lv_sub hl [0, 1, 2, 3, 4, 5] rfl)
      · by_cases t5 : (xs (6 * k) &&& 31).toInt = 0
        · refine lv_tsIn (off := 103) (tgt := 148) hx hb dL_law_45 t4 (by rw [t5]; rfl) (by decide) ?_
          exact law_c0 F hRf hRl hRc hRs hlt hX hbl hbA hkN hN J hP hS (lv_sub hl [0, 1, 2, 3, 4, 5] rfl) cont
        by_cases t6 : (xs (6 * k) &&& 31).toInt = 1
        · refine lv_tsIn (off := 171) (tgt := 216) hx hb dL_law_45 t4 (by rw [t6]; rfl) (by decide) ?_
          exact law_c1 F hRf hRl hRc hRs hlt hX hbl hbA hkN hN J hP hS (lv_sub hl [0, 1, 2, 3, 4, 5] rfl) cont
        by_cases t7 : (xs (6 * k) &&& 31).toInt = 2
        · refine lv_tsIn (off := 251) (tgt := 296) hx hb dL_law_45 t4 (by rw [t7]; rfl) (by decide) ?_
          exact law_c2 F hRf hRl hRc hRs hlt hX hbl hbA hkN hN J hP hS (lv_sub hl [0, 1, 2, 3, 4, 5] rfl) cont
        by_cases t8 : (xs (6 * k) &&& 31).toInt = 3
        · refine lv_tsIn (off := 371) (tgt := 416) hx hb dL_law_45 t4 (by rw [t8]; rfl) (by decide) ?_
          exact law_c3 F hRf hRl hRc hRs hlt hX hbl hbA hkN hN J hP hS (lv_sub hl [0, 1, 2, 3, 4, 5] rfl) cont
        by_cases t9 : (xs (6 * k) &&& 31).toInt = 4
        · refine lv_tsIn (off := 439) (tgt := 484) hx hb dL_law_45 t4 (by rw [t9]; rfl) (by decide) ?_
          exact law_c4 F hRf hRl hRc hRs hlt hX hbl hbA hkN hN J hP hS (lv_sub hl [0, 1, 2, 3, 4, 5] rfl) cont
        by_cases t10 : (xs (6 * k) &&& 31).toInt = 5
        · refine lv_tsIn (off := 483) (tgt := 528) hx hb dL_law_45 t4 (by rw [t10]; rfl) (by decide) ?_
          exact law_c5 F hRf hRl hRc hRs hlt hX hbl hbA hkN hN J hP hS (lv_sub hl [0, 1, 2, 3, 4, 5] rfl) cont
        by_cases t11 : (xs (6 * k) &&& 31).toInt = 6
        · refine lv_tsIn (off := 587) (tgt := 632) hx hb dL_law_45 t4 (by rw [t11]; rfl) (by decide) ?_
          exact law_c6 F hRf hRl hRc hRs hlt hX hbl hbA hkN hN J hP hS (lv_sub hl [0, 1, 2, 3, 4, 5] rfl) cont
        by_cases t12 : (xs (6 * k) &&& 31).toInt = 7
        · refine lv_tsIn (off := 655) (tgt := 700) hx hb dL_law_45 t4 (by rw [t12]; rfl) (by decide) ?_
          exact law_c7 F hRf hRl hRc hRs hlt hX hbl hbA hkN hN J hP hS (lv_sub hl [0, 1, 2, 3, 4, 5] rfl) cont
        by_cases t13 : (xs (6 * k) &&& 31).toInt = 8
        · refine lv_tsIn (off := 711) (tgt := 756) hx hb dL_law_45 t4 (by rw [t13]; rfl) (by decide) ?_
          exact law_c8 F hRf hRl hRc hRs hlt hX hbl hbA hkN hN J hP hS (lv_sub hl [0, 1, 2, 3, 4, 5] rfl) cont
        by_cases t14 : (xs (6 * k) &&& 31).toInt = 9
        · refine lv_tsIn (off := 779) (tgt := 824) hx hb dL_law_45 t4 (by rw [t14]; rfl) (by decide) ?_
          exact law_c9 F hRf hRl hRc hRs hlt hX hbl hbA hkN hN J hP hS (lv_sub hl [0, 1, 2, 3, 4, 5] rfl) cont
        by_cases t15 : (xs (6 * k) &&& 31).toInt = 10
        · refine lv_tsIn (off := 870) (tgt := 915) hx hb dL_law_45 t4 (by rw [t15]; rfl) (by decide) ?_
          exact law_c10 F hRf hRl hRc hRs hlt hX hbl hbA hkN hN J hP hS (lv_sub hl [0, 1, 2, 3, 4, 5] rfl) cont
        by_cases t16 : (xs (6 * k) &&& 31).toInt = 11
        · refine lv_tsIn (off := 933) (tgt := 978) hx hb dL_law_45 t4 (by rw [t16]; rfl) (by decide) ?_
          exact law_c11 F hRf hRl hRc hRs hlt hX hbl hbA hkN hN J hP hS (lv_sub hl [0, 1, 2, 3, 4, 5] rfl) cont
        by_cases t17 : (xs (6 * k) &&& 31).toInt = 12
        · refine lv_tsIn (off := 1017) (tgt := 1062) hx hb dL_law_45 t4 (by rw [t17]; rfl) (by decide) ?_
          exact law_c12 F hRf hRl hRc hRs hlt hX hbl hbA hkN hN J hP hS (lv_sub hl [0, 1, 2, 3, 4, 5] rfl) cont
        by_cases t18 : (xs (6 * k) &&& 31).toInt = 13
        · refine lv_tsIn (off := 1073) (tgt := 1118) hx hb dL_law_45 t4 (by rw [t18]; rfl) (by decide) ?_
          exact law_c13 F hRf hRl hRc hRs hlt hX hbl hbA hkN hN J hP hS (lv_sub hl [0, 1, 2, 3, 4, 5] rfl) cont
        by_cases t19 : (xs (6 * k) &&& 31).toInt = 14
        · refine lv_tsIn (off := 1162) (tgt := 1207) hx hb dL_law_45 t4 (by rw [t19]; rfl) (by decide) ?_
          exact law_c14 F hRf hRl hRc hRs hlt hX hbl hbA hkN hN J hP hS (lv_sub hl [0, 1, 2, 3, 4, 5] rfl) cont
        by_cases t20 : (xs (6 * k) &&& 31).toInt = 15
        · refine lv_tsIn (off := 1203) (tgt := 1248) hx hb dL_law_45 t4 (by rw [t20]; rfl) (by decide) ?_
          exact law_c15 F hRf hRl hRc hRs hlt hX hbl hbA hkN hN J hP hS (lv_sub hl [0, 1, 2, 3, 4, 5] rfl) cont
        by_cases t21 : (xs (6 * k) &&& 31).toInt = 16
        · refine lv_tsIn (off := 1216) (tgt := 1261) hx hb dL_law_45 t4 (by rw [t21]; rfl) (by decide) ?_
          exact law_c16 F hRf hRl hRc hRs hlt hX hbl hbA hkN hN J hP hS (lv_sub hl [0, 1, 2, 3, 4, 5] rfl) cont
        by_cases t22 : (xs (6 * k) &&& 31).toInt = 17
        · refine lv_tsIn (off := 1283) (tgt := 1328) hx hb dL_law_45 t4 (by rw [t22]; rfl) (by decide) ?_
          exact law_c17 F hRf hRl hRc hRs hlt hX hbl hbA hkN hN J hP hS (lv_sub hl [0, 1, 2, 3, 4, 5] rfl) cont
        by_cases t23 : (xs (6 * k) &&& 31).toInt = 18
        · refine lv_tsIn (off := 1339) (tgt := 1384) hx hb dL_law_45 t4 (by rw [t23]; rfl) (by decide) ?_
          exact law_c18 F hRf hRl hRc hRs hlt hX hbl hbA hkN hN J hP hS (lv_sub hl [0, 1, 2, 3, 4, 5] rfl) cont
        by_cases t24 : (xs (6 * k) &&& 31).toInt = 19
        · refine lv_tsIn (off := 1352) (tgt := 1397) hx hb dL_law_45 t4 (by rw [t24]; rfl) (by decide) ?_
          exact law_c19 F hRf hRl hRc hRs hlt hX hbl hbA hkN hN J hP hS (lv_sub hl [0, 1, 2, 3, 4, 5] rfl) cont
        by_cases t25 : (xs (6 * k) &&& 31).toInt = 20
        · refine lv_tsIn (off := 1365) (tgt := 1410) hx hb dL_law_45 t4 (by rw [t25]; rfl) (by decide) ?_
          exact law_c20 F hRf hRl hRc hRs hlt hX hbl hbA hkN hN J hP hS (lv_sub hl [0, 1, 2, 3, 4, 5] rfl) cont
        by_cases t26 : (xs (6 * k) &&& 31).toInt = 21
        · refine lv_tsIn (off := 1457) (tgt := 1502) hx hb dL_law_45 t4 (by rw [t26]; rfl) (by decide) ?_
          exact law_c21 F hRf hRl hRc hRs hlt hX hbl hbA hkN hN J hP hS (lv_sub hl [0, 1, 2, 3, 4, 5] rfl) cont
        exact absurd t4 (by omega)
