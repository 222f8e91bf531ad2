
set_option maxHeartbeats 4000000 in
set_option maxRecDepth 100000 in
theorem law_3 {p : Program} {l : Launch} {e : Env} {R : Room} {s : State} {m : MethodId} {args : Array Value} {below : List Frame} {meth : Method} {c : Code} {Q : State → Prop} {A : Nat → Prop} {G : g_C} (F : g_F p m c cL_law 22 s args wsL_law RL A G) (hR : R = ({ frames := 2048, cells := 699085, slots := 7004443, locals := 84000 } : Room)) (hlt : l.stackTraces = false) {b9 x hs bz nn sh ge me pl n0 n1 n2 n3 : Nat} (dhsbz : hs ≠ bz) (dhsnn : hs ≠ nn) (dhssh : hs ≠ sh) (dhsge : hs ≠ ge) (dhsme : hs ≠ me) (dhspl : hs ≠ pl) (dbznn : bz ≠ nn) (dbzsh : bz ≠ sh) (dbzge : bz ≠ ge) (dbzme : bz ≠ me) (dbzpl : bz ≠ pl) (dnnsh : nn ≠ sh) (dnnge : nn ≠ ge) (dnnme : nn ≠ me) (dnnpl : nn ≠ pl) (dshge : sh ≠ ge) (dshme : sh ≠ me) (dshpl : sh ≠ pl) (dgeme : ge ≠ me) (dgepl : ge ≠ pl) (dmepl : me ≠ pl) {S T1 : Sg} {Fs Fg Fm Fp Fn : Nat → Int32} (eT1 : T1 = told S) (Hi : invS S) (Ht : invT S T1) (Wi : witI S T1) (hfx : step S T1 = none) (hbp : bldP S Fs Fg Fm Fp Fn) (hn0 : S 0 0 = n0) (hn1 : S 0 1 = n1) (hn2 : S 0 2 = n2) (hn3 : S 0 3 = n3) {Fh : Nat → Int32} {Fb : Nat → Int32} {B : Nat → Bool} {w : g_W} (hB : lwC G w x S [hs, bz, nn, sh, ge, me, pl]) (hFh : ∀ k : Nat, (k : Int) < S 0 0 → Fh k = g_b (decide (T1 2 k ≠ -1))) (hBy : byB S T1 n2 0 Fb B) (hhs : w hs = some (.inl (G.2.1 2, n0, .inl Fh))) (hbz : w bz = some (.inl (G.2.1 2, n0, .inl Fb))) (hnn : w nn = some (.inl (G.2.1 0, 6, .inl Fn))) (hsh : w sh = some (.inl (G.2.1 0, 30, .inl Fs))) (hge : w ge = some (.inl (G.2.1 0, 80, .inl Fg))) (hme : w me = some (.inl (G.2.1 0, 32, .inl Fm))) (hpl : w pl = some (.inl (G.2.1 0, 20, .inl Fp))) {H : Heap} {locs : List Loc} {ls : Array Slot} (hP : g_P A G w H) (hS : va_S A s.heap H locs) (hl : lv_has ls 22 [(10, .ref bz), (9, .ref hs), (8, .int (vlBroken S T1 true)), (7, .int (vlBroken S T1 false)), (6, .ref nn), (5, .ref pl), (4, .ref me), (3, .ref ge), (2, .ref sh), (1, .ref x), (0, .ref b9)])
    (cont : ∀ (Fh : Nat → Int32) (Fb : Nat → Int32) (B : Nat → Bool) (w : g_W) (H : Heap) (locs : List Loc) (ls : Array Slot), (∀ k : Nat, (k : Int) < S 0 0 → Fh k = g_b (decide (T1 2 k ≠ -1))) → (byB S T1 n2 n3 Fb B) → w hs = some (.inl (G.2.1 2, n0, .inl Fh)) → w bz = some (.inl (G.2.1 2, n0, .inl Fb)) → w nn = some (.inl (G.2.1 0, 6, .inl Fn)) → w sh = some (.inl (G.2.1 0, 30, .inl Fs)) → w ge = some (.inl (G.2.1 0, 80, .inl Fg)) → w me = some (.inl (G.2.1 0, 32, .inl Fm)) → w pl = some (.inl (G.2.1 0, 20, .inl Fp)) → g_P A G w H → va_S A s.heap H locs → lv_has ls 22 [(10, .ref bz), (9, .ref hs), (8, .int (vlBroken S T1 true)), (7, .int (vlBroken S T1 false)), (6, .ref nn), (5, .ref pl), (4, .ref me), (3, .ref ge), (2, .ref sh), (1, .ref x), (0, .ref b9)] → W p l e R s m args below meth c H locs 1200 14000 Q (F0 m 792 ls [])) : W p l e R s m args below meth c H locs 1000 12000 Q (F0 m 647 ls []) := by
  obtain ⟨⟨hx, hb, hml, hown, hts⟩, hK, hZ, hA⟩ := id F
  have hi := Hi.1
  obtain ⟨⟨b2, b8⟩, ⟨fn0, fn2, fn3, fn4, fn5⟩, has, hag, ham, hap⟩ := id hbp
  have kn0 : Fn 0 = nI n0 := by rw [fn0]; exact iL_nat hn0
  have kn2 : Fn 2 = nI n2 := by rw [fn2]; exact iL_nat hn2
  have kn3 : Fn 3 = nI n3 := by rw [fn3]; exact iL_nat hn3
  have kn4 : Fn 4 = iL (S 0 4) := fn4
  have q0 : (S 0 0).toNat = n0 := by omega
  have q1 : (S 0 1).toNat = n1 := by omega
  have q2 : (S 0 2).toNat = n2 := by omega
  have q3 : (S 0 3).toNat = n3 := by omega
  rw [q0] at has
  rw [q1] at hag
  rw [q2] at ham
  rw [q3] at hap
  refine lv_iconst (v := 0) hx hb dL_law_647 (by decide) ?_
  refine lv_istore (lv' := [(11, .int 0), (10, .ref bz), (9, .ref hs), (8, .int (vlBroken S T1 true)), (7, .int (vlBroken S T1 false)), (6, .ref nn), (5, .ref pl), (4, .ref me), (3, .ref ge), (2, .ref sh), (1, .ref x), (0, .ref b9)]) hx hb dL_law_648 hl (by decide) rfl (fun ls hl => ?_)
  have L650 : ∀ (n : Nat) (k : Nat) (Fb : Nat → Int32) (B : Nat → Bool) (w : g_W) (H : Heap) (locs : List Loc) (ls : Array Slot), n3 + 1 ≤ k + n → (k ≤ n3) → (lwC G w x S [hs, bz, nn, sh, ge, me, pl]) → (byB S T1 n2 k Fb B) → w hs = some (.inl (G.2.1 2, n0, .inl Fh)) → w bz = some (.inl (G.2.1 2, n0, .inl Fb)) → w nn = some (.inl (G.2.1 0, 6, .inl Fn)) → w sh = some (.inl (G.2.1 0, 30, .inl Fs)) → w ge = some (.inl (G.2.1 0, 80, .inl Fg)) → w me = some (.inl (G.2.1 0, 32, .inl Fm)) → w pl = some (.inl (G.2.1 0, 20, .inl Fp)) → g_P A G w H → va_S A s.heap H locs → lv_has ls 22 [(11, .int (nI k)), (10, .ref bz), (9, .ref hs), (8, .int (vlBroken S T1 true)), (7, .int (vlBroken S T1 false)), (6, .ref nn), (5, .ref pl), (4, .ref me), (3, .ref ge), (2, .ref sh), (1, .ref x), (0, .ref b9)] → W p l e R s m args below meth c H locs ((1000 + 10 * k)) ((12000 + 60 * k)) Q (F0 m 650 ls []) := by
    intro n
    induction n with
    | zero =>
      intro k Fb B w H locs ls hfu hk hB hBy hhs hbz hnn hsh hge hme hpl hP hS hl
      exact absurd hfu (by omega)
    | succ n ih_L650 =>
      intro k Fb B w H locs ls hfu hk hB hBy hhs hbz hnn hsh hge hme hpl hP hS hl
      refine lv_iload hx hb dL_law_650 (lv_at hl 0 rfl) ?_
      refine lv_aload hx hb dL_law_652 (lv_at hl 5 rfl) ?_
      refine lv_iconst (v := 3) hx hb dL_law_654 (by decide) ?_
      refine g_iald F hP hnn (by unfold vp_in; decide) dL_law_655 ?_
      refine lv_topi (fun v1 ev1 => ?_)
      have hv1 : v1 = nI n3 := by
        rw [ev1]
        rw [show (3 : Int32).toNatClampNeg = 3 from by decide]
        exact kn3
      rw [hv1]
      refine lv_icmp_ge (tgt := 792) hx hb dL_law_656 (by decide) (fun c2 => ?_) (fun c2 => ?_)
      · have zc2 : n3 ≤ k := (nI_leI (by omega) (by omega)).mp c2
        have ekn : k = n3 := by omega
        rw [ekn] at hBy
        refine W.widen (k := 1200) (n := 14000) (by omega) (by omega) ?_
        exact cont Fh Fb B w H locs ls (hFh) (hBy) hhs hbz hnn hsh hge hme hpl hP hS (lv_sub hl [1, 2, 3, 4, 5, 6, 7, 8, 9, 10, 11] rfl)
      · have hkn : k < n3 := Nat.not_le.mp (fun q => c2 (nI_le q (by omega)))
        have hkm : (k : Int) < S 0 3 := by omega
        have PQ := Hi.2.2.2.2 k hkm
        obtain ⟨p11, p12, p13⟩ := hap k hkn
        have sp0 : ∀ i, i < 3 → (saP S k i : Int) < S 0 0 := fun i _ => saP_lt Hi hkm i
        have fps : ∀ i, i < 3 → Fp (5 * k + i) = nI (saP S k i) := fun i hi3 => by
          rcases (show i = 0 ∨ i = 1 ∨ i = 2 by omega) with rfl | rfl | rfl
          · rw [Nat.add_zero, p11]; exact iL_nat (show S 11 k = (((S 11 k).toNat : Nat) : Int) by omega)
          · rw [p12]; exact iL_nat (show S 12 k = (((S 12 k).toNat : Nat) : Int) by omega)
          · rw [p13]; exact iL_nat (show S 13 k = (((S 13 k).toNat : Nat) : Int) by omega)
        have brs := brk_set Hi Ht hkm
        refine lv_iconst (v := 0) hx hb dL_law_659 (by decide) ?_
        refine lv_istore (lv' := [(12, .int 0), (11, .int (nI k)), (10, .ref bz), (9, .ref hs), (8, .int (vlBroken S T1 true)), (7, .int (vlBroken S T1 false)), (6, .ref nn), (5, .ref pl), (4, .ref me), (3, .ref ge), (2, .ref sh), (1, .ref x), (0, .ref b9)]) hx hb dL_law_660 hl (by decide) rfl (fun ls hl => ?_)
        refine lv_iconst (v := 0) hx hb dL_law_662 (by decide) ?_
        refine lv_istore (lv' := [(13, .int 0), (12, .int 0), (11, .int (nI k)), (10, .ref bz), (9, .ref hs), (8, .int (vlBroken S T1 true)), (7, .int (vlBroken S T1 false)), (6, .ref nn), (5, .ref pl), (4, .ref me), (3, .ref ge), (2, .ref sh), (1, .ref x), (0, .ref b9)]) hx hb dL_law_663 hl (by decide) rfl (fun ls hl => ?_)
        refine lv_iconst (v := 0) hx hb dL_law_665 (by decide) ?_
        refine lv_istore (lv' := [(14, .int 0), (13, .int 0), (12, .int 0), (11, .int (nI k)), (10, .ref bz), (9, .ref hs), (8, .int (vlBroken S T1 true)), (7, .int (vlBroken S T1 false)), (6, .ref nn), (5, .ref pl), (4, .ref me), (3, .ref ge), (2, .ref sh), (1, .ref x), (0, .ref b9)]) hx hb dL_law_666 hl (by decide) rfl (fun ls hl => ?_)
        have L668 : ∀ (n : Nat) (i : Nat) (H : Heap) (locs : List Loc) (ls : Array Slot), 4 ≤ i + n → (i ≤ 3) → g_P A G w H → va_S A s.heap H locs → lv_has ls 22 [(14, .int (nI i)), (13, .int (nI (latP S T1 k i))), (12, .int (nI (tcP S T1 k i))), (11, .int (nI k)), (10, .ref bz), (9, .ref hs), (8, .int (vlBroken S T1 true)), (7, .int (vlBroken S T1 false)), (6, .ref nn), (5, .ref pl), (4, .ref me), (3, .ref ge), (2, .ref sh), (1, .ref x), (0, .ref b9)] → W p l e R s m args below meth c H locs ((1000 + 10 * k + 2 * i)) ((12000 + 60 * k + 12 * i)) Q (F0 m 668 ls []) := by
          intro n
          induction n with
          | zero =>
            intro i H locs ls hfu hi3 hP hS hl
            exact absurd hfu (by omega)
          | succ n ih_L668 =>
            intro i H locs ls hfu hi3 hP hS hl
            refine lv_iload hx hb dL_law_668 (lv_at hl 0 rfl) ?_
            refine lv_iconst (v := 3) hx hb dL_law_670 (by decide) ?_
            refine lv_icmp_ge (tgt := 737) hx hb dL_law_671 (by decide) (fun c3 => ?_) (fun c3 => ?_)
            · have zc3 : 3 ≤ i := (nI_leI (a := 3) (b := i) (by omega) (by omega)).mp c3
              have ei3 : i = 3 := by omega
              rw [ei3] at hl
              obtain ⟨t3, et3⟩ : ∃ z, z = tcP S T1 k 3 := ⟨_, rfl⟩
              have ht3 : t3 ≤ 3 := by rw [et3]; exact tcP_le S T1 k 3
              have tal3 : t3 = 3 ↔ ∀ j, j < 3 → T1 2 (saP S k j) ≠ -1 := by rw [et3]; exact tcP_all 3
              obtain ⟨l3, el3⟩ : ∃ z, z = latP S T1 k 3 := ⟨_, rfl⟩
              have hl3 : l3 < 3 := by rw [el3]; exact latP_lt k 3 (by omega)
              rw [← el3, ← et3] at hl
              obtain ⟨lv, elv⟩ : ∃ z, z = saP S k l3 := ⟨_, rfl⟩
              have hlv : (lv : Int) < S 0 0 := by rw [elv]; exact sp0 l3 hl3
              have flv : Fp (5 * k + l3) = nI lv := by rw [elv]; exact fps l3 hl3
              refine lv_iload hx hb dL_law_737 (lv_at hl 2 rfl) ?_
              refine lv_iconst (v := 3) hx hb dL_law_739 (by decide) ?_
              refine lv_icmp_ge (tgt := 756) hx hb dL_law_740 (by decide) (fun c4 => ?_) (fun c4 => ?_)
              · have yc4 : 3 ≤ t3 := (nI_leI (a := 3) (b := t3) (by omega) (by omega)).mp c4
                refine lv_iload hx hb dL_law_756 (lv_at hl 2 rfl) ?_
                refine lv_iconst (v := 3) hx hb dL_law_758 (by decide) ?_
                refine lv_icmp_ne (tgt := 786) hx hb dL_law_759 (by decide) (fun c5 => ?_) (fun c5 => ?_)
                · have yc5 : t3 ≠ 3 := fun q => c5 (by rw [q]; rfl)
                  have nal2 : ¬ ∀ j, j < 3 → T1 2 (saP S k j) ≠ -1 := fun q => yc5 (tal3.mpr q)
                  refine W.widen (k := 1000 + 10 * (k + 1)) (n := 12000 + 60 * (k + 1)) (by omega) (by omega) ?_
                  have hyx := byB_p hBy (fun j hj q => absurd q.1 nal2)
                  obtain ⟨i6, ei6⟩ : ∃ y : Int32, y = nI k + (1) := ⟨_, rfl⟩
                  refine lv_iinc (v := i6) (lv' := [(11, .int i6), (14, .int (nI 3)), (13, .int (nI l3)), (12, .int (nI t3)), (10, .ref bz), (9, .ref hs), (8, .int (vlBroken S T1 true)), (7, .int (vlBroken S T1 false)), (6, .ref nn), (5, .ref pl), (4, .ref me), (3, .ref ge), (2, .ref sh), (1, .ref x), (0, .ref b9)]) hx hb dL_law_786 hl (k := 3) rfl (by rw [ei6]; rfl) (by decide) rfl (fun ls hl => ?_)
                  have hi6 : i6 = nI (k + 1) := by
                    rw [ei6]
                    exact nI_1 k
                  rw [hi6] at hl
                  refine lv_goto (tgt := 650) hx hb dL_law_789 (by decide) ?_
                  exact ih_L650 (k + 1) Fb B w H locs ls (by omega) (by omega) (hB) (hyx) hhs hbz hnn hsh hge hme hpl hP hS (lv_sub hl [0, 4, 5, 6, 7, 8, 9, 10, 11, 12, 13, 14] rfl)
                · have yc5 : t3 = 3 := (nI_eq (b := 3) (by omega) (by omega)).mp c5
                  have al3 := tal3.mp yc5
                  refine lv_iload hx hb dL_law_762 (lv_at hl 6 rfl) ?_
                  refine lv_iload hx hb dL_law_764 (lv_at hl 3 rfl) ?_
                  refine lv_ishr hx hb dL_law_766 ?_
                  refine lv_topi (fun v7 ev7 => ?_)
                  refine lv_iconst (v := 1) hx hb dL_law_767 (by decide) ?_
                  refine lv_iand hx hb dL_law_768 ?_
                  refine lv_topi (fun v8 ev8 => ?_)
                  have hv8 : v8 = g_b (brkB S T1 1 k) := by
                    rw [ev8]
                    rw [ev7]
                    unfold vlBroken
                    rw [q3]
                    exact bits_at (brkB S T1 1) (by omega) (by omega)
                  rw [hv8]
                  refine lv_if_ne (tgt := 786) hx hb dL_law_769 (by decide) (fun c9 => ?_) (fun c9 => ?_)
                  · have yc9 : brkB S T1 1 k = true := g_b1.mp c9
                    refine W.widen (k := 1000 + 10 * (k + 1)) (n := 12000 + 60 * (k + 1)) (by omega) (by omega) ?_
                    have hyx := byB_p hBy (fun j hj q => absurd q.2.1 (brs.mp yc9).2)
                    obtain ⟨i10, ei10⟩ : ∃ y : Int32, y = nI k + (1) := ⟨_, rfl⟩
                    refine lv_iinc (v := i10) (lv' := [(11, .int i10), (14, .int (nI 3)), (13, .int (nI l3)), (12, .int (nI t3)), (10, .ref bz), (9, .ref hs), (8, .int (vlBroken S T1 true)), (7, .int (vlBroken S T1 false)), (6, .ref nn), (5, .ref pl), (4, .ref me), (3, .ref ge), (2, .ref sh), (1, .ref x), (0, .ref b9)]) hx hb dL_law_786 hl (k := 3) rfl (by rw [ei10]; rfl) (by decide) rfl (fun ls hl => ?_)
                    have hi10 : i10 = nI (k + 1) := by
                      rw [ei10]
                      exact nI_1 k
                    rw [hi10] at hl
                    refine lv_goto (tgt := 650) hx hb dL_law_789 (by decide) ?_
                    exact ih_L650 (k + 1) Fb B w H locs ls (by omega) (by omega) (hB) (hyx) hhs hbz hnn hsh hge hme hpl hP hS (lv_sub hl [0, 4, 5, 6, 7, 8, 9, 10, 11, 12, 13, 14] rfl)
                  · have yc9 : brkB S T1 1 k = false := g_b0.mp (Decidable.not_not.mp (fun q => q c9))
                    have hlp : lawP S T1 k := by
                      rcases Classical.em (lawP S T1 k) with q | q
                      · exact q
                      · rw [brs.mpr ⟨al3, q⟩] at yc9; cases yc9
                    refine lv_aload hx hb dL_law_772 (lv_at hl 4 rfl) ?_
                    refine lv_aload hx hb dL_law_774 (lv_at hl 9 rfl) ?_
                    refine lv_iconst (v := 5) hx hb dL_law_776 (by decide) ?_
                    refine lv_iload hx hb dL_law_777 (lv_at hl 3 rfl) ?_
                    refine lv_imul hx hb dL_law_779 ?_
                    refine lv_topi (fun v11 ev11 => ?_)
                    have hv11 : v11 = nI (5 * k) := by
                      rw [ev11]
                      exact pk_mul 5 k
                    rw [hv11]
                    refine lv_iload hx hb dL_law_780 (lv_at hl 1 rfl) ?_
                    refine lv_iadd hx hb dL_law_782 ?_
                    refine lv_topi (fun v12 ev12 => ?_)
                    have hv12 : v12 = nI (5 * k + l3) := by
                      rw [ev12]
                      exact nI_add (5 * k) l3
                    rw [hv12]
                    refine g_iald F hP hpl (vp_in_nI (by omega) (by omega)) dL_law_783 ?_
                    refine lv_topi (fun v13 ev13 => ?_)
                    have hv13 : v13 = nI lv := by
                      rw [ev13]
                      rw [nI_clamp (n := 5 * k + l3) (by omega)]
                      exact flv
                    rw [hv13]
                    refine lv_iconst (v := 1) hx hb dL_law_784 (by decide) ?_
                    refine g_zast F hP hS hbz (vp_in_nI (by omega) (by omega)) (by first | rfl | exact g_nb8 _) dL_law_785 (fun H locs hP hS => ?_)
                    rw [nI_clamp (n := lv) (by omega)] at hP
                    obtain ⟨w14, ew14⟩ : ∃ z, z = g_up w bz (.inl (G.2.1 2, n0, .inl (upd Fb lv 1))) := ⟨_, rfl⟩
                    have hP : g_P A G w14 H := by rw [ew14]; exact hP
                    have f15 : w14 hs = some (.inl (G.2.1 2, n0, .inl Fh)) := by rw [ew14]; exact g_up_f hhs (dhsbz)
                    have f16 : w14 nn = some (.inl (G.2.1 0, 6, .inl Fn)) := by rw [ew14]; exact g_up_f hnn (Ne.symm (dbznn))
                    have f17 : w14 sh = some (.inl (G.2.1 0, 30, .inl Fs)) := by rw [ew14]; exact g_up_f hsh (Ne.symm (dbzsh))
                    have f18 : w14 ge = some (.inl (G.2.1 0, 80, .inl Fg)) := by rw [ew14]; exact g_up_f hge (Ne.symm (dbzge))
                    have f19 : w14 me = some (.inl (G.2.1 0, 32, .inl Fm)) := by rw [ew14]; exact g_up_f hme (Ne.symm (dbzme))
                    have f20 : w14 pl = some (.inl (G.2.1 0, 20, .inl Fp)) := by rw [ew14]; exact g_up_f hpl (Ne.symm (dbzpl))
                    have f21 : w14 bz = some (.inl (G.2.1 2, n0, .inl (upd Fb lv 1))) := by rw [ew14]; exact g_up_s _ _ _
                    have hB22 := lwC_set hB (List.mem_of_getElem? (i := 1) rfl) ew14
                    refine W.widen (k := 1000 + 10 * (k + 1)) (n := 12000 + 60 * (k + 1)) (by omega) (by omega) ?_
                    obtain ⟨hy1, hy2, hy3⟩ := byB_set hBy (j := lv) (by rw [elv]; exact al3 l3 hl3)
                    have hyx := byB_p hy1 (fun j hj q => by rw [q.2.2, ← el3, ← elv]; exact hy2)
                    obtain ⟨i23, ei23⟩ : ∃ y : Int32, y = nI k + (1) := ⟨_, rfl⟩
                    refine lv_iinc (v := i23) (lv' := [(11, .int i23), (14, .int (nI 3)), (13, .int (nI l3)), (12, .int (nI t3)), (10, .ref bz), (9, .ref hs), (8, .int (vlBroken S T1 true)), (7, .int (vlBroken S T1 false)), (6, .ref nn), (5, .ref pl), (4, .ref me), (3, .ref ge), (2, .ref sh), (1, .ref x), (0, .ref b9)]) hx hb dL_law_786 hl (k := 3) rfl (by rw [ei23]; rfl) (by decide) rfl (fun ls hl => ?_)
                    have hi23 : i23 = nI (k + 1) := by
                      rw [ei23]
                      exact nI_1 k
                    rw [hi23] at hl
                    refine lv_goto (tgt := 650) hx hb dL_law_789 (by decide) ?_
                    exact ih_L650 (k + 1) (upd Fb lv 1) (setB B lv) w14 H locs ls (by omega) (by omega) (hB22) (hyx) f15 f21 f16 f17 f18 f19 f20 hP hS (lv_sub hl [0, 4, 5, 6, 7, 8, 9, 10, 11, 12, 13, 14] rfl)
              · have yc4 : ¬ 3 ≤ t3 := fun q => c4 (nI_le (a := 3) q (by omega))
                have nal : ¬ ∀ j, j < 3 → T1 2 (saP S k j) ≠ -1 := fun q => by have := tal3.mpr q; omega
                refine lv_iload hx hb dL_law_743 (lv_at hl 6 rfl) ?_
                refine lv_iload hx hb dL_law_745 (lv_at hl 3 rfl) ?_
                refine lv_ishr hx hb dL_law_747 ?_
                refine lv_topi (fun v24 ev24 => ?_)
                refine lv_iconst (v := 1) hx hb dL_law_748 (by decide) ?_
                refine lv_iand hx hb dL_law_749 ?_
                refine lv_topi (fun v25 ev25 => ?_)
                have hv25 : v25 = g_b (brkB S T1 1 k) := by
                  rw [ev25]
                  rw [ev24]
                  unfold vlBroken
                  rw [q3]
                  exact bits_at (brkB S T1 1) (by omega) (by omega)
                rw [hv25]
                refine lv_iconst (v := 1) hx hb dL_law_750 (by decide) ?_
                refine lv_icmp_ne (tgt := 756) hx hb dL_law_751 (by decide) (fun c26 => ?_) (fun c26 => ?_)
                · refine lv_iload hx hb dL_law_756 (lv_at hl 2 rfl) ?_
                  refine lv_iconst (v := 3) hx hb dL_law_758 (by decide) ?_
                  refine lv_icmp_ne (tgt := 786) hx hb dL_law_759 (by decide) (fun c27 => ?_) (fun c27 => ?_)
                  · have yc27 : t3 ≠ 3 := fun q => c27 (by rw [q]; rfl)
                    have nal2 : ¬ ∀ j, j < 3 → T1 2 (saP S k j) ≠ -1 := fun q => yc27 (tal3.mpr q)
                    refine W.widen (k := 1000 + 10 * (k + 1)) (n := 12000 + 60 * (k + 1)) (by omega) (by omega) ?_
                    have hyx := byB_p hBy (fun j hj q => absurd q.1 nal2)
                    obtain ⟨i28, ei28⟩ : ∃ y : Int32, y = nI k + (1) := ⟨_, rfl⟩
                    refine lv_iinc (v := i28) (lv' := [(11, .int i28), (14, .int (nI 3)), (13, .int (nI l3)), (12, .int (nI t3)), (10, .ref bz), (9, .ref hs), (8, .int (vlBroken S T1 true)), (7, .int (vlBroken S T1 false)), (6, .ref nn), (5, .ref pl), (4, .ref me), (3, .ref ge), (2, .ref sh), (1, .ref x), (0, .ref b9)]) hx hb dL_law_786 hl (k := 3) rfl (by rw [ei28]; rfl) (by decide) rfl (fun ls hl => ?_)
                    have hi28 : i28 = nI (k + 1) := by
                      rw [ei28]
                      exact nI_1 k
                    rw [hi28] at hl
                    refine lv_goto (tgt := 650) hx hb dL_law_789 (by decide) ?_
                    exact ih_L650 (k + 1) Fb B w H locs ls (by omega) (by omega) (hB) (hyx) hhs hbz hnn hsh hge hme hpl hP hS (lv_sub hl [0, 4, 5, 6, 7, 8, 9, 10, 11, 12, 13, 14] rfl)
                  · have yc27 : t3 = 3 := (nI_eq (b := 3) (by omega) (by omega)).mp c27
                    have al3 := tal3.mp yc27
                    refine lv_iload hx hb dL_law_762 (lv_at hl 6 rfl) ?_
                    refine lv_iload hx hb dL_law_764 (lv_at hl 3 rfl) ?_
                    refine lv_ishr hx hb dL_law_766 ?_
                    refine lv_topi (fun v29 ev29 => ?_)
                    refine lv_iconst (v := 1) hx hb dL_law_767 (by decide) ?_
                    refine lv_iand hx hb dL_law_768 ?_
                    refine lv_topi (fun v30 ev30 => ?_)
                    have hv30 : v30 = g_b (brkB S T1 1 k) := by
                      rw [ev30]
                      rw [ev29]
                      unfold vlBroken
                      rw [q3]
                      exact bits_at (brkB S T1 1) (by omega) (by omega)
                    rw [hv30]
                    refine lv_if_ne (tgt := 786) hx hb dL_law_769 (by decide) (fun c31 => ?_) (fun c31 => ?_)
                    · have yc31 : brkB S T1 1 k = true := g_b1.mp c31
                      refine W.widen (k := 1000 + 10 * (k + 1)) (n := 12000 + 60 * (k + 1)) (by omega) (by omega) ?_
                      have hyx := byB_p hBy (fun j hj q => absurd q.2.1 (brs.mp yc31).2)
                      obtain ⟨i32, ei32⟩ : ∃ y : Int32, y = nI k + (1) := ⟨_, rfl⟩
                      refine lv_iinc (v := i32) (lv' := [(11, .int i32), (14, .int (nI 3)), (13, .int (nI l3)), (12, .int (nI t3)), (10, .ref bz), (9, .ref hs), (8, .int (vlBroken S T1 true)), (7, .int (vlBroken S T1 false)), (6, .ref nn), (5, .ref pl), (4, .ref me), (3, .ref ge), (2, .ref sh), (1, .ref x), (0, .ref b9)]) hx hb dL_law_786 hl (k := 3) rfl (by rw [ei32]; rfl) (by decide) rfl (fun ls hl => ?_)
                      have hi32 : i32 = nI (k + 1) := by
                        rw [ei32]
                        exact nI_1 k
                      rw [hi32] at hl
                      refine lv_goto (tgt := 650) hx hb dL_law_789 (by decide) ?_
                      exact ih_L650 (k + 1) Fb B w H locs ls (by omega) (by omega) (hB) (hyx) hhs hbz hnn hsh hge hme hpl hP hS (lv_sub hl [0, 4, 5, 6, 7, 8, 9, 10, 11, 12, 13, 14] rfl)
                    · have yc31 : brkB S T1 1 k = false := g_b0.mp (Decidable.not_not.mp (fun q => q c31))
                      have hlp : lawP S T1 k := by
                        rcases Classical.em (lawP S T1 k) with q | q
                        · exact q
                        · rw [brs.mpr ⟨al3, q⟩] at yc31; cases yc31
                      refine lv_aload hx hb dL_law_772 (lv_at hl 4 rfl) ?_
                      refine lv_aload hx hb dL_law_774 (lv_at hl 9 rfl) ?_
                      refine lv_iconst (v := 5) hx hb dL_law_776 (by decide) ?_
                      refine lv_iload hx hb dL_law_777 (lv_at hl 3 rfl) ?_
                      refine lv_imul hx hb dL_law_779 ?_
                      refine lv_topi (fun v33 ev33 => ?_)
                      have hv33 : v33 = nI (5 * k) := by
                        rw [ev33]
                        exact pk_mul 5 k
                      rw [hv33]
                      refine lv_iload hx hb dL_law_780 (lv_at hl 1 rfl) ?_
                      refine lv_iadd hx hb dL_law_782 ?_
                      refine lv_topi (fun v34 ev34 => ?_)
                      have hv34 : v34 = nI (5 * k + l3) := by
                        rw [ev34]
                        exact nI_add (5 * k) l3
                      rw [hv34]
                      refine g_iald F hP hpl (vp_in_nI (by omega) (by omega)) dL_law_783 ?_
                      refine lv_topi (fun v35 ev35 => ?_)
                      have hv35 : v35 = nI lv := by
                        rw [ev35]
                        rw [nI_clamp (n := 5 * k + l3) (by omega)]
                        exact flv
                      rw [hv35]
                      refine lv_iconst (v := 1) hx hb dL_law_784 (by decide) ?_
                      refine g_zast F hP hS hbz (vp_in_nI (by omega) (by omega)) (by first | rfl | exact g_nb8 _) dL_law_785 (fun H locs hP hS => ?_)
                      rw [nI_clamp (n := lv) (by omega)] at hP
                      obtain ⟨w36, ew36⟩ : ∃ z, z = g_up w bz (.inl (G.2.1 2, n0, .inl (upd Fb lv 1))) := ⟨_, rfl⟩
                      have hP : g_P A G w36 H := by rw [ew36]; exact hP
                      have f37 : w36 hs = some (.inl (G.2.1 2, n0, .inl Fh)) := by rw [ew36]; exact g_up_f hhs (dhsbz)
                      have f38 : w36 nn = some (.inl (G.2.1 0, 6, .inl Fn)) := by rw [ew36]; exact g_up_f hnn (Ne.symm (dbznn))
                      have f39 : w36 sh = some (.inl (G.2.1 0, 30, .inl Fs)) := by rw [ew36]; exact g_up_f hsh (Ne.symm (dbzsh))
                      have f40 : w36 ge = some (.inl (G.2.1 0, 80, .inl Fg)) := by rw [ew36]; exact g_up_f hge (Ne.symm (dbzge))
                      have f41 : w36 me = some (.inl (G.2.1 0, 32, .inl Fm)) := by rw [ew36]; exact g_up_f hme (Ne.symm (dbzme))
                      have f42 : w36 pl = some (.inl (G.2.1 0, 20, .inl Fp)) := by rw [ew36]; exact g_up_f hpl (Ne.symm (dbzpl))
                      have f43 : w36 bz = some (.inl (G.2.1 2, n0, .inl (upd Fb lv 1))) := by rw [ew36]; exact g_up_s _ _ _
                      have hB44 := lwC_set hB (List.mem_of_getElem? (i := 1) rfl) ew36
                      refine W.widen (k := 1000 + 10 * (k + 1)) (n := 12000 + 60 * (k + 1)) (by omega) (by omega) ?_
                      obtain ⟨hy1, hy2, hy3⟩ := byB_set hBy (j := lv) (by rw [elv]; exact al3 l3 hl3)
                      have hyx := byB_p hy1 (fun j hj q => by rw [q.2.2, ← el3, ← elv]; exact hy2)
                      obtain ⟨i45, ei45⟩ : ∃ y : Int32, y = nI k + (1) := ⟨_, rfl⟩
                      refine lv_iinc (v := i45) (lv' := [(11, .int i45), (14, .int (nI 3)), (13, .int (nI l3)), (12, .int (nI t3)), (10, .ref bz), (9, .ref hs), (8, .int (vlBroken S T1 true)), (7, .int (vlBroken S T1 false)), (6, .ref nn), (5, .ref pl), (4, .ref me), (3, .ref ge), (2, .ref sh), (1, .ref x), (0, .ref b9)]) hx hb dL_law_786 hl (k := 3) rfl (by rw [ei45]; rfl) (by decide) rfl (fun ls hl => ?_)
                      have hi45 : i45 = nI (k + 1) := by
                        rw [ei45]
                        exact nI_1 k
                      rw [hi45] at hl
                      refine lv_goto (tgt := 650) hx hb dL_law_789 (by decide) ?_
                      exact ih_L650 (k + 1) (upd Fb lv 1) (setB B lv) w36 H locs ls (by omega) (by omega) (hB44) (hyx) f37 f43 f38 f39 f40 f41 f42 hP hS (lv_sub hl [0, 4, 5, 6, 7, 8, 9, 10, 11, 12, 13, 14] rfl)
                · exact absurd (brs.mp (g_b1.mp (by rw [c26]; decide))).1 nal
            · have hin : i < 3 := Nat.not_le.mp (fun q => c3 (nI_le (a := 3) q (by omega)))
              obtain ⟨u, eu⟩ : ∃ z, z = saP S k i := ⟨_, rfl⟩
              obtain ⟨la, ela⟩ : ∃ z, z = latP S T1 k i := ⟨_, rfl⟩
              have hla : la < 3 := by rw [ela]; exact latP_lt k i (by omega)
              obtain ⟨lu, elu⟩ : ∃ z, z = saP S k la := ⟨_, rfl⟩
              have hu0 : (u : Int) < S 0 0 := by rw [eu]; exact sp0 i hin
              have hlu : (lu : Int) < S 0 0 := by rw [elu]; exact sp0 la hla
              have fu : Fp (5 * k + i) = nI u := by rw [eu]; exact fps i hin
              have flu : Fp (5 * k + la) = nI lu := by rw [elu]; exact fps la hla
              have tu := Ht.1 u hu0
              have tlu := Ht.1 lu hlu
              obtain ⟨tc, etc⟩ : ∃ z, z = tcP S T1 k i := ⟨_, rfl⟩
              have htc : tc ≤ i := by rw [etc]; exact tcP_le S T1 k i
              rw [← ela, ← etc] at hl
              have etc1 : tcP S T1 k (i + 1) = tc + (if T1 2 u ≠ -1 then 1 else 0) := by rw [etc, eu]; rfl
              have ela1 : latP S T1 k (i + 1) = if T1 2 lu < T1 2 u then i else la := by rw [elu, eu, ela]; rfl
              refine lv_aload hx hb dL_law_674 (lv_at hl 9 rfl) ?_
              refine lv_iconst (v := 5) hx hb dL_law_676 (by decide) ?_
              refine lv_iload hx hb dL_law_677 (lv_at hl 3 rfl) ?_
              refine lv_imul hx hb dL_law_679 ?_
              refine lv_topi (fun v46 ev46 => ?_)
              have hv46 : v46 = nI (5 * k) := by
                rw [ev46]
                exact pk_mul 5 k
              rw [hv46]
              refine lv_iload hx hb dL_law_680 (lv_at hl 0 rfl) ?_
              refine lv_iadd hx hb dL_law_682 ?_
              refine lv_topi (fun v47 ev47 => ?_)
              have hv47 : v47 = nI (5 * k + i) := by
                rw [ev47]
                exact nI_add (5 * k) i
              rw [hv47]
              refine g_iald F hP hpl (vp_in_nI (by omega) (by omega)) dL_law_683 ?_
              refine lv_topi (fun v48 ev48 => ?_)
              have hv48 : v48 = nI u := by
                rw [ev48]
                rw [nI_clamp (n := 5 * k + i) (by omega)]
                exact fu
              rw [hv48]
              refine lv_istore (lv' := [(15, .int (nI u)), (14, .int (nI i)), (13, .int (nI la)), (12, .int (nI tc)), (11, .int (nI k)), (10, .ref bz), (9, .ref hs), (8, .int (vlBroken S T1 true)), (7, .int (vlBroken S T1 false)), (6, .ref nn), (5, .ref pl), (4, .ref me), (3, .ref ge), (2, .ref sh), (1, .ref x), (0, .ref b9)]) hx hb dL_law_684 hl (by decide) rfl (fun ls hl => ?_)
              refine lv_iload hx hb dL_law_686 (lv_at hl 3 rfl) ?_
              refine lv_aload hx hb dL_law_688 (lv_at hl 6 rfl) ?_
              refine lv_iload hx hb dL_law_690 (lv_at hl 0 rfl) ?_
              refine g_zald F hP hhs (vp_in_nI (by omega) (by omega)) dL_law_692 ?_
              refine lv_topi (fun v49 ev49 => ?_)
              have hv49 : v49 = g_b (decide (T1 2 u ≠ -1)) := by
                rw [ev49]
                rw [nI_clamp (n := u) (by omega)]
                exact hFh u hu0
              rw [hv49]
              refine lv_if_eq (tgt := 700) hx hb dL_law_693 (by decide) (fun c50 => ?_) (fun c50 => ?_)
              · have yc50 : ¬ T1 2 u ≠ -1 := of_decide_eq_false (g_b0.mp c50)
                refine lv_iconst (v := 0) hx hb dL_law_700 (by decide) ?_
                refine lv_iadd hx hb dL_law_701 ?_
                refine lv_topi (fun v51 ev51 => ?_)
                have hv51 : v51 = nI (tcP S T1 k (i + 1)) := by
                  rw [ev51]
                  rw [etc1, if_neg yc50]
                  exact nI_add tc 0
                rw [hv51]
                refine lv_istore (lv' := [(12, .int (nI (tcP S T1 k (i + 1)))), (15, .int (nI u)), (14, .int (nI i)), (13, .int (nI la)), (11, .int (nI k)), (10, .ref bz), (9, .ref hs), (8, .int (vlBroken S T1 true)), (7, .int (vlBroken S T1 false)), (6, .ref nn), (5, .ref pl), (4, .ref me), (3, .ref ge), (2, .ref sh), (1, .ref x), (0, .ref b9)]) hx hb dL_law_702 hl (by decide) rfl (fun ls hl => ?_)
                refine lv_aload_n hx hb dL_law_704 rfl (lv_at hl 14 rfl) ?_
                refine lv_iload hx hb dL_law_705 (lv_at hl 1 rfl) ?_
                have hk0 : ((u : Nat) : Int) < S 0 0 := by omega
                have kk0 := kN_n (k := u) (by omega)
                have ki := nI_i u (by omega)
                obtain ⟨ad, Cn, T, h00, hBn, hT3, hLn⟩ := id hB
                rw [← eT1] at hT3
                have hCo := k_X6_stage l hlt A G w ad Cn S T (nI u) hBn.1 hBn.2.1 hBn.2.2.1 hBn.2.2.2.1
                rw [h00] at hCo
                have hx0 := rep_x hBn.1 hBn.2.1
                rw [h00] at hx0
                have hcd := (show cdShaft S (nI u) = 0 from if_pos ⟨by omega, by omega⟩)
                refine g_cVi (As := [.int (nI u)]) (rest := []) F hP hS hCo (cwV 1 hts gL_law_X6_stage rfl rfl rfl cd_X6_stage ⟨by rw [hR]; exact Nat.le_of_ble_eq_true rfl, by rw [hR]; exact Nat.le_of_ble_eq_true rfl⟩) hx0 rfl rfl rfl hl.1 (Nat.le_of_ble_eq_true rfl) dL_law_707 ⟨by rw [hR]; dsimp only; omega, by rw [hR]; dsimp only; omega⟩ rfl (fun E w9 ce q9 H locs hpx hP hS hce hcv hcl => ?_) (fun r52 w53 H locs h54 hP hS => ?_)
                · obtain ⟨_, q⟩ := hpx.2
                  exact absurd (hcd.symm.trans q) (by decide)
                · obtain ⟨hc0, er, ew⟩ := h54
                  rw [ew] at hP
                  rw [er.trans ((show vlStage T (nI u) = iL (T1 2 u) from by unfold vlStage; rw [kk0, hT3 2 (by decide)]))]
                  refine lv_aload_n hx hb dL_law_710 rfl (lv_at hl 14 rfl) ?_
                  refine lv_aload hx hb dL_law_711 (lv_at hl 10 rfl) ?_
                  refine lv_iconst (v := 5) hx hb dL_law_713 (by decide) ?_
                  refine lv_iload hx hb dL_law_714 (lv_at hl 4 rfl) ?_
                  refine lv_imul hx hb dL_law_716 ?_
                  refine lv_topi (fun v55 ev55 => ?_)
                  have hv55 : v55 = nI (5 * k) := by
                    rw [ev55]
                    exact pk_mul 5 k
                  rw [hv55]
                  refine lv_iload hx hb dL_law_717 (lv_at hl 3 rfl) ?_
                  refine lv_iadd hx hb dL_law_719 ?_
                  refine lv_topi (fun v56 ev56 => ?_)
                  have hv56 : v56 = nI (5 * k + la) := by
                    rw [ev56]
                    exact nI_add (5 * k) la
                  rw [hv56]
                  refine g_iald F hP hpl (vp_in_nI (by omega) (by omega)) dL_law_720 ?_
                  refine lv_topi (fun v57 ev57 => ?_)
                  have hv57 : v57 = nI lu := by
                    rw [ev57]
                    rw [nI_clamp (n := 5 * k + la) (by omega)]
                    exact flu
                  rw [hv57]
                  have hk0 : ((lu : Nat) : Int) < S 0 0 := by omega
                  have kk0 := kN_n (k := lu) (by omega)
                  have ki := nI_i lu (by omega)
                  obtain ⟨ad, Cn, T, h00, hBn, hT3, hLn⟩ := id hB
                  rw [← eT1] at hT3
                  have hCo := k_X6_stage l hlt A G w ad Cn S T (nI lu) hBn.1 hBn.2.1 hBn.2.2.1 hBn.2.2.2.1
                  rw [h00] at hCo
                  have hx0 := rep_x hBn.1 hBn.2.1
                  rw [h00] at hx0
                  have hcd := (show cdShaft S (nI lu) = 0 from if_pos ⟨by omega, by omega⟩)
                  refine g_cVi (As := [.int (nI lu)]) (rest := [.int (iL (T1 2 u))]) F hP hS hCo (cwV 1 hts gL_law_X6_stage rfl rfl rfl cd_X6_stage ⟨by rw [hR]; exact Nat.le_of_ble_eq_true rfl, by rw [hR]; exact Nat.le_of_ble_eq_true rfl⟩) hx0 rfl rfl rfl hl.1 (Nat.le_of_ble_eq_true rfl) dL_law_721 ⟨by rw [hR]; dsimp only; omega, by rw [hR]; dsimp only; omega⟩ rfl (fun E w9 ce q9 H locs hpx hP hS hce hcv hcl => ?_) (fun r58 w59 H locs h60 hP hS => ?_)
                  · obtain ⟨_, q⟩ := hpx.2
                    exact absurd (hcd.symm.trans q) (by decide)
                  · obtain ⟨hc0, er, ew⟩ := h60
                    rw [ew] at hP
                    rw [er.trans ((show vlStage T (nI lu) = iL (T1 2 lu) from by unfold vlStage; rw [kk0, hT3 2 (by decide)]))]
                    refine lv_icmp_le (tgt := 731) hx hb dL_law_724 (by decide) (fun c61 => ?_) (fun c61 => ?_)
                    · have yc61 : ¬ T1 2 lu < T1 2 u := by have := (iL_le (by omega) (by omega) (by omega) (by omega)).mp c61; omega
                      have e13 : nI (latP S T1 k (i + 1)) = nI la := by rw [ela1, if_neg yc61]
                      have hl : lv_has ls 22 [(12, .int (nI (tcP S T1 k (i + 1)))), (15, .int (nI u)), (14, .int (nI i)), (13, .int (nI (latP S T1 k (i + 1)))), (11, .int (nI k)), (10, .ref bz), (9, .ref hs), (8, .int (vlBroken S T1 true)), (7, .int (vlBroken S T1 false)), (6, .ref nn), (5, .ref pl), (4, .ref me), (3, .ref ge), (2, .ref sh), (1, .ref x), (0, .ref b9)] := by rw [e13]; exact hl
                      refine W.widen (k := 1000 + 10 * k + 2 * (i + 1)) (n := 12000 + 60 * k + 12 * (i + 1)) (by omega) (by omega) ?_
                      obtain ⟨i62, ei62⟩ : ∃ y : Int32, y = nI i + (1) := ⟨_, rfl⟩
                      refine lv_iinc (v := i62) (lv' := [(14, .int i62), (12, .int (nI (tcP S T1 k (i + 1)))), (15, .int (nI u)), (13, .int (nI (latP S T1 k (i + 1)))), (11, .int (nI k)), (10, .ref bz), (9, .ref hs), (8, .int (vlBroken S T1 true)), (7, .int (vlBroken S T1 false)), (6, .ref nn), (5, .ref pl), (4, .ref me), (3, .ref ge), (2, .ref sh), (1, .ref x), (0, .ref b9)]) hx hb dL_law_731 hl (k := 2) rfl (by rw [ei62]; rfl) (by decide) rfl (fun ls hl => ?_)
                      have hi62 : i62 = nI (i + 1) := by
                        rw [ei62]
                        exact nI_1 i
                      rw [hi62] at hl
                      refine lv_goto (tgt := 668) hx hb dL_law_734 (by decide) ?_
                      exact ih_L668 (i + 1)  H locs ls (by omega) (by omega) hP hS (lv_sub hl [0, 3, 1, 4, 5, 6, 7, 8, 9, 10, 11, 12, 13, 14, 15] rfl)
                    · have yc61 : T1 2 lu < T1 2 u := by
                        rcases Int.lt_or_le (T1 2 lu) (T1 2 u) with q | q
                        · exact q
                        · exact absurd ((iL_le (by omega) (by omega) (by omega) (by omega)).mpr q) c61
                      refine lv_iload hx hb dL_law_727 (lv_at hl 2 rfl) ?_
                      refine lv_istore (lv' := [(13, .int (nI i)), (12, .int (nI (tcP S T1 k (i + 1)))), (15, .int (nI u)), (14, .int (nI i)), (11, .int (nI k)), (10, .ref bz), (9, .ref hs), (8, .int (vlBroken S T1 true)), (7, .int (vlBroken S T1 false)), (6, .ref nn), (5, .ref pl), (4, .ref me), (3, .ref ge), (2, .ref sh), (1, .ref x), (0, .ref b9)]) hx hb dL_law_729 hl (by decide) rfl (fun ls hl => ?_)
                      have e13 : nI (latP S T1 k (i + 1)) = nI i := by rw [ela1, if_pos yc61]
                      have hl : lv_has ls 22 [(13, .int (nI (latP S T1 k (i + 1)))), (12, .int (nI (tcP S T1 k (i + 1)))), (15, .int (nI u)), (14, .int (nI i)), (11, .int (nI k)), (10, .ref bz), (9, .ref hs), (8, .int (vlBroken S T1 true)), (7, .int (vlBroken S T1 false)), (6, .ref nn), (5, .ref pl), (4, .ref me), (3, .ref ge), (2, .ref sh), (1, .ref x), (0, .ref b9)] := by rw [e13]; exact hl
                      refine W.widen (k := 1000 + 10 * k + 2 * (i + 1)) (n := 12000 + 60 * k + 12 * (i + 1)) (by omega) (by omega) ?_
                      obtain ⟨i63, ei63⟩ : ∃ y : Int32, y = nI i + (1) := ⟨_, rfl⟩
                      refine lv_iinc (v := i63) (lv' := [(14, .int i63), (13, .int (nI (latP S T1 k (i + 1)))), (12, .int (nI (tcP S T1 k (i + 1)))), (15, .int (nI u)), (11, .int (nI k)), (10, .ref bz), (9, .ref hs), (8, .int (vlBroken S T1 true)), (7, .int (vlBroken S T1 false)), (6, .ref nn), (5, .ref pl), (4, .ref me), (3, .ref ge), (2, .ref sh), (1, .ref x), (0, .ref b9)]) hx hb dL_law_731 hl (k := 3) rfl (by rw [ei63]; rfl) (by decide) rfl (fun ls hl => ?_)
                      have hi63 : i63 = nI (i + 1) := by
                        rw [ei63]
                        exact nI_1 i
                      rw [hi63] at hl
                      refine lv_goto (tgt := 668) hx hb dL_law_734 (by decide) ?_
                      exact ih_L668 (i + 1)  H locs ls (by omega) (by omega) hP hS (lv_sub hl [0, 1, 2, 4, 5, 6, 7, 8, 9, 10, 11, 12, 13, 14, 15] rfl)
              · have yc50 : T1 2 u ≠ -1 := of_decide_eq_true (g_b1.mp c50)
                refine lv_iconst (v := 1) hx hb dL_law_696 (by decide) ?_
                refine lv_goto (tgt := 701) hx hb dL_law_697 (by decide) ?_
                refine lv_iadd hx hb dL_law_701 ?_
                refine lv_topi (fun v64 ev64 => ?_)
                have hv64 : v64 = nI (tcP S T1 k (i + 1)) := by
                  rw [ev64]
                  rw [etc1, if_pos yc50]
                  exact nI_add tc 1
                rw [hv64]
                refine lv_istore (lv' := [(12, .int (nI (tcP S T1 k (i + 1)))), (15, .int (nI u)), (14, .int (nI i)), (13, .int (nI la)), (11, .int (nI k)), (10, .ref bz), (9, .ref hs), (8, .int (vlBroken S T1 true)), (7, .int (vlBroken S T1 false)), (6, .ref nn), (5, .ref pl), (4, .ref me), (3, .ref ge), (2, .ref sh), (1, .ref x), (0, .ref b9)]) hx hb dL_law_702 hl (by decide) rfl (fun ls hl => ?_)
                refine lv_aload_n hx hb dL_law_704 rfl (lv_at hl 14 rfl) ?_
                refine lv_iload hx hb dL_law_705 (lv_at hl 1 rfl) ?_
                have hk0 : ((u : Nat) : Int) < S 0 0 := by omega
                have kk0 := kN_n (k := u) (by omega)
                have ki := nI_i u (by omega)
                obtain ⟨ad, Cn, T, h00, hBn, hT3, hLn⟩ := id hB
                rw [← eT1] at hT3
                have hCo := k_X6_stage l hlt A G w ad Cn S T (nI u) hBn.1 hBn.2.1 hBn.2.2.1 hBn.2.2.2.1
                rw [h00] at hCo
                have hx0 := rep_x hBn.1 hBn.2.1
                rw [h00] at hx0
                have hcd := (show cdShaft S (nI u) = 0 from if_pos ⟨by omega, by omega⟩)
                refine g_cVi (As := [.int (nI u)]) (rest := []) F hP hS hCo (cwV 1 hts gL_law_X6_stage rfl rfl rfl cd_X6_stage ⟨by rw [hR]; exact Nat.le_of_ble_eq_true rfl, by rw [hR]; exact Nat.le_of_ble_eq_true rfl⟩) hx0 rfl rfl rfl hl.1 (Nat.le_of_ble_eq_true rfl) dL_law_707 ⟨by rw [hR]; dsimp only; omega, by rw [hR]; dsimp only; omega⟩ rfl (fun E w9 ce q9 H locs hpx hP hS hce hcv hcl => ?_) (fun r65 w66 H locs h67 hP hS => ?_)
                · obtain ⟨_, q⟩ := hpx.2
                  exact absurd (hcd.symm.trans q) (by decide)
                · obtain ⟨hc0, er, ew⟩ := h67
                  rw [ew] at hP
                  rw [er.trans ((show vlStage T (nI u) = iL (T1 2 u) from by unfold vlStage; rw [kk0, hT3 2 (by decide)]))]
                  refine lv_aload_n hx hb dL_law_710 rfl (lv_at hl 14 rfl) ?_
                  refine lv_aload hx hb dL_law_711 (lv_at hl 10 rfl) ?_
                  refine lv_iconst (v := 5) hx hb dL_law_713 (by decide) ?_
                  refine lv_iload hx hb dL_law_714 (lv_at hl 4 rfl) ?_
                  refine lv_imul hx hb dL_law_716 ?_
                  refine lv_topi (fun v68 ev68 => ?_)
                  have hv68 : v68 = nI (5 * k) := by
                    rw [ev68]
                    exact pk_mul 5 k
                  rw [hv68]
                  refine lv_iload hx hb dL_law_717 (lv_at hl 3 rfl) ?_
                  refine lv_iadd hx hb dL_law_719 ?_
                  refine lv_topi (fun v69 ev69 => ?_)
                  have hv69 : v69 = nI (5 * k + la) := by
                    rw [ev69]
                    exact nI_add (5 * k) la
                  rw [hv69]
                  refine g_iald F hP hpl (vp_in_nI (by omega) (by omega)) dL_law_720 ?_
                  refine lv_topi (fun v70 ev70 => ?_)
                  have hv70 : v70 = nI lu := by
                    rw [ev70]
                    rw [nI_clamp (n := 5 * k + la) (by omega)]
                    exact flu
                  rw [hv70]
                  have hk0 : ((lu : Nat) : Int) < S 0 0 := by omega
                  have kk0 := kN_n (k := lu) (by omega)
                  have ki := nI_i lu (by omega)
                  obtain ⟨ad, Cn, T, h00, hBn, hT3, hLn⟩ := id hB
                  rw [← eT1] at hT3
                  have hCo := k_X6_stage l hlt A G w ad Cn S T (nI lu) hBn.1 hBn.2.1 hBn.2.2.1 hBn.2.2.2.1
                  rw [h00] at hCo
                  have hx0 := rep_x hBn.1 hBn.2.1
                  rw [h00] at hx0
                  have hcd := (show cdShaft S (nI lu) = 0 from if_pos ⟨by omega, by omega⟩)
                  refine g_cVi (As := [.int (nI lu)]) (rest := [.int (iL (T1 2 u))]) F hP hS hCo (cwV 1 hts gL_law_X6_stage rfl rfl rfl cd_X6_stage ⟨by rw [hR]; exact Nat.le_of_ble_eq_true rfl, by rw [hR]; exact Nat.le_of_ble_eq_true rfl⟩) hx0 rfl rfl rfl hl.1 (Nat.le_of_ble_eq_true rfl) dL_law_721 ⟨by rw [hR]; dsimp only; omega, by rw [hR]; dsimp only; omega⟩ rfl (fun E w9 ce q9 H locs hpx hP hS hce hcv hcl => ?_) (fun r71 w72 H locs h73 hP hS => ?_)
                  · obtain ⟨_, q⟩ := hpx.2
                    exact absurd (hcd.symm.trans q) (by decide)
                  · obtain ⟨hc0, er, ew⟩ := h73
                    rw [ew] at hP
                    rw [er.trans ((show vlStage T (nI lu) = iL (T1 2 lu) from by unfold vlStage; rw [kk0, hT3 2 (by decide)]))]
                    refine lv_icmp_le (tgt := 731) hx hb dL_law_724 (by decide) (fun c74 => ?_) (fun c74 => ?_)
                    · have yc74 : ¬ T1 2 lu < T1 2 u := by have := (iL_le (by omega) (by omega) (by omega) (by omega)).mp c74; omega
                      have e13 : nI (latP S T1 k (i + 1)) = nI la := by rw [ela1, if_neg yc74]
                      have hl : lv_has ls 22 [(12, .int (nI (tcP S T1 k (i + 1)))), (15, .int (nI u)), (14, .int (nI i)), (13, .int (nI (latP S T1 k (i + 1)))), (11, .int (nI k)), (10, .ref bz), (9, .ref hs), (8, .int (vlBroken S T1 true)), (7, .int (vlBroken S T1 false)), (6, .ref nn), (5, .ref pl), (4, .ref me), (3, .ref ge), (2, .ref sh), (1, .ref x), (0, .ref b9)] := by rw [e13]; exact hl
                      refine W.widen (k := 1000 + 10 * k + 2 * (i + 1)) (n := 12000 + 60 * k + 12 * (i + 1)) (by omega) (by omega) ?_
                      obtain ⟨i75, ei75⟩ : ∃ y : Int32, y = nI i + (1) := ⟨_, rfl⟩
                      refine lv_iinc (v := i75) (lv' := [(14, .int i75), (12, .int (nI (tcP S T1 k (i + 1)))), (15, .int (nI u)), (13, .int (nI (latP S T1 k (i + 1)))), (11, .int (nI k)), (10, .ref bz), (9, .ref hs), (8, .int (vlBroken S T1 true)), (7, .int (vlBroken S T1 false)), (6, .ref nn), (5, .ref pl), (4, .ref me), (3, .ref ge), (2, .ref sh), (1, .ref x), (0, .ref b9)]) hx hb dL_law_731 hl (k := 2) rfl (by rw [ei75]; rfl) (by decide) rfl (fun ls hl => ?_)
                      have hi75 : i75 = nI (i + 1) := by
                        rw [ei75]
                        exact nI_1 i
                      rw [hi75] at hl
                      refine lv_goto (tgt := 668) hx hb dL_law_734 (by decide) ?_
                      exact ih_L668 (i + 1)  H locs ls (by omega) (by omega) hP hS (lv_sub hl [0, 3, 1, 4, 5, 6, 7, 8, 9, 10, 11, 12, 13, 14, 15] rfl)
                    · have yc74 : T1 2 lu < T1 2 u := by
                        rcases Int.lt_or_le (T1 2 lu) (T1 2 u) with q | q
                        · exact q
                        · exact absurd ((iL_le (by omega) (by omega) (by omega) (by omega)).mpr q) c74
                      refine lv_iload hx hb dL_law_727 (lv_at hl 2 rfl) ?_
                      refine lv_istore (lv' := [(13, .int (nI i)), (12, .int (nI (tcP S T1 k (i + 1)))), (15, .int (nI u)), (14, .int (nI i)), (11, .int (nI k)), (10, .ref bz), (9, .ref hs), (8, .int (vlBroken S T1 true)), (7, .int (vlBroken S T1 false)), (6, .ref nn), (5, .ref pl), (4, .ref me), (3, .ref ge), (2, .ref sh), (1, .ref x), (0, .ref b9)]) hx hb dL_law_729 hl (by decide) rfl (fun ls hl => ?_)
                      have e13 : nI (latP S T1 k (i + 1)) = nI i := by rw [ela1, if_pos yc74]
                      have hl : lv_has ls 22 [(13, .int (nI (latP S T1 k (i + 1)))), (12, .int (nI (tcP S T1 k (i + 1)))), (15, .int (nI u)), (14, .int (nI i)), (11, .int (nI k)), (10, .ref bz), (9, .ref hs), (8, .int (vlBroken S T1 true)), (7, .int (vlBroken S T1 false)), (6, .ref nn), (5, .ref pl), (4, .ref me), (3, .ref ge), (2, .ref sh), (1, .ref x), (0, .ref b9)] := by rw [e13]; exact hl
                      refine W.widen (k := 1000 + 10 * k + 2 * (i + 1)) (n := 12000 + 60 * k + 12 * (i + 1)) (by omega) (by omega) ?_
                      obtain ⟨i76, ei76⟩ : ∃ y : Int32, y = nI i + (1) := ⟨_, rfl⟩
                      refine lv_iinc (v := i76) (lv' := [(14, .int i76), (13, .int (nI (latP S T1 k (i + 1)))), (12, .int (nI (tcP S T1 k (i + 1)))), (15, .int (nI u)), (11, .int (nI k)), (10, .ref bz), (9, .ref hs), (8, .int (vlBroken S T1 true)), (7, .int (vlBroken S T1 false)), (6, .ref nn), (5, .ref pl), (4, .ref me), (3, .ref ge), (2, .ref sh), (1, .ref x), (0, .ref b9)]) hx hb dL_law_731 hl (k := 3) rfl (by rw [ei76]; rfl) (by decide) rfl (fun ls hl => ?_)
                      have hi76 : i76 = nI (i + 1) := by
                        rw [ei76]
                        exact nI_1 i
                      rw [hi76] at hl
                      refine lv_goto (tgt := 668) hx hb dL_law_734 (by decide) ?_
                      exact ih_L668 (i + 1)  H locs ls (by omega) (by omega) hP hS (lv_sub hl [0, 1, 2, 4, 5, 6, 7, 8, 9, 10, 11, 12, 13, 14, 15] rfl)
        exact L668 4 0  H locs ls (by omega) (by omega) hP hS (lv_sub hl [0, 1, 2, 3, 4, 5, 6, 7, 8, 9, 10, 11, 12, 13, 14] rfl)
  exact L650 (n3 + 1) 0 Fb B w H locs ls (by omega) (by omega) (hB) (hBy) hhs hbz hnn hsh hge hme hpl hP hS (lv_sub hl [0, 1, 2, 3, 4, 5, 6, 7, 8, 9, 10, 11] rfl)
