
set_option maxHeartbeats 4000000 in
set_option maxRecDepth 100000 in
theorem law_4 {p : Program} {l : Launch} {e : Env} {R : Room} {s : State} {m : MethodId} {args : Array Value} {below : List Frame} {meth : Method} {c : Code} {Q : State → Prop} {A : Nat → Prop} {G : g_C} (F : g_F p m c cL_law 22 s args wsL_law RL A G) (hR : R = ({ frames := 2048, cells := 699085, slots := 7004443, locals := 84000 } : Room)) (hlt : l.stackTraces = false) {b9 x hs bz nn sh ge me pl n0 n1 n2 n3 : Nat} (dhsbz : hs ≠ bz) (dhsnn : hs ≠ nn) (dhssh : hs ≠ sh) (dhsge : hs ≠ ge) (dhsme : hs ≠ me) (dhspl : hs ≠ pl) (dbznn : bz ≠ nn) (dbzsh : bz ≠ sh) (dbzge : bz ≠ ge) (dbzme : bz ≠ me) (dbzpl : bz ≠ pl) (dnnsh : nn ≠ sh) (dnnge : nn ≠ ge) (dnnme : nn ≠ me) (dnnpl : nn ≠ pl) (dshge : sh ≠ ge) (dshme : sh ≠ me) (dshpl : sh ≠ pl) (dgeme : ge ≠ me) (dgepl : ge ≠ pl) (dmepl : me ≠ pl) {S T1 : Sg} {Fs Fg Fm Fp Fn : Nat → Int32} (eT1 : T1 = told S) (Hi : invS S) (Ht : invT S T1) (Wi : witI S T1) (hfx : step S T1 = none) (hbp : bldP S Fs Fg Fm Fp Fn) (hn0 : S 0 0 = n0) (hn1 : S 0 1 = n1) (hn2 : S 0 2 = n2) (hn3 : S 0 3 = n3) {Fh : Nat → Int32} {Fb : Nat → Int32} {B : Nat → Bool} {w : g_W} (hFh : ∀ k : Nat, (k : Int) < S 0 0 → Fh k = g_b (decide (T1 2 k ≠ -1))) (hBy : byB S T1 n2 n3 Fb B) (hhs : w hs = some (.inl (G.2.1 2, n0, .inl Fh))) (hbz : w bz = some (.inl (G.2.1 2, n0, .inl Fb))) (hnn : w nn = some (.inl (G.2.1 0, 6, .inl Fn))) (hsh : w sh = some (.inl (G.2.1 0, 30, .inl Fs))) (hge : w ge = some (.inl (G.2.1 0, 80, .inl Fg))) (hme : w me = some (.inl (G.2.1 0, 32, .inl Fm))) (hpl : w pl = some (.inl (G.2.1 0, 20, .inl Fp))) {H : Heap} {locs : List Loc} {ls : Array Slot} (hP : g_P A G w H) (hS : va_S A s.heap H locs) (hl : lv_has ls 22 [(10, .ref bz), (9, .ref hs), (8, .int (vlBroken S T1 true)), (7, .int (vlBroken S T1 false)), (6, .ref nn), (5, .ref pl), (4, .ref me), (3, .ref ge), (2, .ref sh), (1, .ref x), (0, .ref b9)])
    (cont : ∀  (w : g_W) (H : Heap) (locs : List Loc) (ls : Array Slot), g_P A G w H → va_S A s.heap H locs → lv_has ls 22 [] → W p l e R s m args below meth c H locs 1300 15000 Q (F0 m 825 ls [])) : W p l e R s m args below meth c H locs 1200 14000 Q (F0 m 792 ls []) := by
  obtain ⟨⟨hx, hb, hml, hown, hts⟩, hK, hZ, hA⟩ := id F
  have hi := Hi.1
  obtain ⟨⟨b2, b8⟩, ⟨fn0, fn2, fn3, fn4, fn5⟩, has, hag, ham, hap⟩ := id hbp
  have kn0 : Fn 0 = nI n0 := by rw [fn0]; exact iL_nat hn0
  have kn2 : Fn 2 = nI n2 := by rw [fn2]; exact iL_nat hn2
  have kn3 : Fn 3 = nI n3 := by rw [fn3]; exact iL_nat hn3
  have kn4 : Fn 4 = iL (S 0 4) := fn4
  have q0 : (S 0 0).toNat = n0 := by omega
  have q1 : (S 0 1).toNat = n1 := by omega
  have q2 : (S 0 2).toNat = n2 := by omega
  have q3 : (S 0 3).toNat = n3 := by omega
  rw [q0] at has
  rw [q1] at hag
  rw [q2] at ham
  rw [q3] at hap
  refine lv_iconst (v := 0) hx hb dL_law_792 (by decide) ?_
  refine lv_istore (lv' := [(11, .int 0), (10, .ref bz), (9, .ref hs), (8, .int (vlBroken S T1 true)), (7, .int (vlBroken S T1 false)), (6, .ref nn), (5, .ref pl), (4, .ref me), (3, .ref ge), (2, .ref sh), (1, .ref x), (0, .ref b9)]) hx hb dL_law_793 hl (by decide) rfl (fun ls hl => ?_)
  have L795 : ∀ (n : Nat) (k : Nat) (H : Heap) (locs : List Loc) (ls : Array Slot), n0 + 1 ≤ k + n → (k ≤ n0) → g_P A G w H → va_S A s.heap H locs → lv_has ls 22 [(11, .int (nI k)), (10, .ref bz), (9, .ref hs), (8, .int (vlBroken S T1 true)), (7, .int (vlBroken S T1 false)), (6, .ref nn), (5, .ref pl), (4, .ref me), (3, .ref ge), (2, .ref sh), (1, .ref x), (0, .ref b9)] → W p l e R s m args below meth c H locs ((1200)) ((14000)) Q (F0 m 795 ls []) := by
    intro n
    induction n with
    | zero =>
      intro k H locs ls hfu hk hP hS hl
      exact absurd hfu (by omega)
    | succ n ih_L795 =>
      intro k H locs ls hfu hk hP hS hl
      refine lv_iload hx hb dL_law_795 (lv_at hl 0 rfl) ?_
      refine lv_aload hx hb dL_law_797 (lv_at hl 5 rfl) ?_
      refine lv_iconst (v := 0) hx hb dL_law_799 (by decide) ?_
      refine g_iald F hP hnn (by unfold vp_in; decide) dL_law_800 ?_
      refine lv_topi (fun v1 ev1 => ?_)
      have hv1 : v1 = nI n0 := by
        rw [ev1]
        rw [show (0 : Int32).toNatClampNeg = 0 from by decide]
        exact kn0
      rw [hv1]
      refine lv_icmp_ge (tgt := 825) hx hb dL_law_801 (by decide) (fun c2 => ?_) (fun c2 => ?_)
      · have zc2 : n0 ≤ k := (nI_leI (by omega) (by omega)).mp c2
        refine W.widen (k := 1300) (n := 15000) (by omega) (by omega) ?_
        exact cont w H locs ls hP hS (lv_sub hl [] rfl)
      · have hkn : k < n0 := Nat.not_le.mp (fun q => c2 (nI_le q (by omega)))
        have hk0 : (k : Int) < S 0 0 := by omega
        refine lv_aload hx hb dL_law_804 (lv_at hl 2 rfl) ?_
        refine lv_iload hx hb dL_law_806 (lv_at hl 0 rfl) ?_
        refine g_zald F hP hhs (vp_in_nI (by omega) (by omega)) dL_law_808 ?_
        refine lv_topi (fun v3 ev3 => ?_)
        have hv3 : v3 = g_b (decide (T1 2 k ≠ -1)) := by
          rw [ev3]
          rw [nI_clamp (n := k) (by omega)]
          exact hFh k hk0
        rw [hv3]
        refine lv_aload hx hb dL_law_809 (lv_at hl 1 rfl) ?_
        refine lv_iload hx hb dL_law_811 (lv_at hl 0 rfl) ?_
        refine g_zald F hP hbz (vp_in_nI (by omega) (by omega)) dL_law_813 ?_
        refine lv_topi (fun v4 ev4 => ?_)
        have hv4 : v4 = g_b (decide (T1 2 k ≠ -1)) := by
          rw [ev4]
          rw [nI_clamp (n := k) (by omega)]
          exact byB_end Hi Ht Wi (by rw [q2, q3]; exact hBy) hk0
        rw [hv4]
        refine lv_icmp_eq (tgt := 819) hx hb dL_law_814 (by decide) (fun c5 => ?_) (fun c5 => ?_)
        · obtain ⟨i6, ei6⟩ : ∃ y : Int32, y = nI k + (1) := ⟨_, rfl⟩
          refine lv_iinc (v := i6) (lv' := [(11, .int i6), (10, .ref bz), (9, .ref hs), (8, .int (vlBroken S T1 true)), (7, .int (vlBroken S T1 false)), (6, .ref nn), (5, .ref pl), (4, .ref me), (3, .ref ge), (2, .ref sh), (1, .ref x), (0, .ref b9)]) hx hb dL_law_819 hl (k := 0) rfl (by rw [ei6]; rfl) (by decide) rfl (fun ls hl => ?_)
          have hi6 : i6 = nI (k + 1) := by
            rw [ei6]
            exact nI_1 k
          rw [hi6] at hl
          refine lv_goto (tgt := 795) hx hb dL_law_822 (by decide) ?_
          exact ih_L795 (k + 1)  H locs ls (by omega) (by omega) hP hS (lv_sub hl [0, 1, 2, 3, 4, 5, 6, 7, 8, 9, 10, 11] rfl)
        · exact absurd rfl c5
  exact L795 (n0 + 1) 0  H locs ls (by omega) (by omega) hP hS (lv_sub hl [0, 1, 2, 3, 4, 5, 6, 7, 8, 9, 10, 11] rfl)
