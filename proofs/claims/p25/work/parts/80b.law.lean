theorem cd_L_fraction : yL_fraction.cls ≠ "java/lang/invoke/MethodHandle" ∧ yL_fraction.cls ≠ "java/lang/invoke/VarHandle" ∧ (parseMethodDescriptor yL_fraction.desc).map (fun d => d.parameters.length) = some 2 := by decide +kernel
theorem cd_L_isRing : yL_isRing.cls ≠ "java/lang/invoke/MethodHandle" ∧ yL_isRing.cls ≠ "java/lang/invoke/VarHandle" ∧ (parseMethodDescriptor yL_isRing.desc).map (fun d => d.parameters.length) = some 3 := by decide +kernel
set_option maxHeartbeats 4000000 in
set_option maxRecDepth 100000 in
theorem law_2 {p : Program} {l : Launch} {e : Env} {R : Room} {s : State} {m : MethodId} {args : Array Value} {below : List Frame} {meth : Method} {c : Code} {Q : State → Prop} {A : Nat → Prop} {G : g_C} (F : g_F p m c cL_law 22 s args wsL_law RL A G) (hR : R = ({ frames := 2048, cells := 699085, slots := 7004443, locals := 84000 } : Room)) (hlt : l.stackTraces = false) {b9 x hs bz nn sh ge me pl n0 n1 n2 n3 : Nat} (dhsbz : hs ≠ bz) (dhsnn : hs ≠ nn) (dhssh : hs ≠ sh) (dhsge : hs ≠ ge) (dhsme : hs ≠ me) (dhspl : hs ≠ pl) (dbznn : bz ≠ nn) (dbzsh : bz ≠ sh) (dbzge : bz ≠ ge) (dbzme : bz ≠ me) (dbzpl : bz ≠ pl) (dnnsh : nn ≠ sh) (dnnge : nn ≠ ge) (dnnme : nn ≠ me) (dnnpl : nn ≠ pl) (dshge : sh ≠ ge) (dshme : sh ≠ me) (dshpl : sh ≠ pl) (dgeme : ge ≠ me) (dgepl : ge ≠ pl) (dmepl : me ≠ pl) {S T1 : Sg} {Fs Fg Fm Fp Fn : Nat → Int32} (eT1 : T1 = told S) (Hi : invS S) (Ht : invT S T1) (Wi : witI S T1) (hfx : step S T1 = none) (hbp : bldP S Fs Fg Fm Fp Fn) (hn0 : S 0 0 = n0) (hn1 : S 0 1 = n1) (hn2 : S 0 2 = n2) (hn3 : S 0 3 = n3) {Fh : Nat → Int32} {Fb : Nat → Int32} {B : Nat → Bool} {w : g_W} (hB : lwC G w x S [hs, bz, nn, sh, ge, me, pl]) (hFh : ∀ k : Nat, (k : Int) < S 0 0 → Fh k = g_b (decide (T1 2 k ≠ -1))) (hBy : byB S T1 0 0 Fb B) (hhs : w hs = some (.inl (G.2.1 2, n0, .inl Fh))) (hbz : w bz = some (.inl (G.2.1 2, n0, .inl Fb))) (hnn : w nn = some (.inl (G.2.1 0, 6, .inl Fn))) (hsh : w sh = some (.inl (G.2.1 0, 30, .inl Fs))) (hge : w ge = some (.inl (G.2.1 0, 80, .inl Fg))) (hme : w me = some (.inl (G.2.1 0, 32, .inl Fm))) (hpl : w pl = some (.inl (G.2.1 0, 20, .inl Fp))) {H : Heap} {locs : List Loc} {ls : Array Slot} (hP : g_P A G w H) (hS : va_S A s.heap H locs) (hl : lv_has ls 22 [(10, .ref bz), (9, .ref hs), (8, .int (vlBroken S T1 true)), (7, .int (vlBroken S T1 false)), (6, .ref nn), (5, .ref pl), (4, .ref me), (3, .ref ge), (2, .ref sh), (1, .ref x), (0, .ref b9)])
    (cont : ∀ (Fh : Nat → Int32) (Fb : Nat → Int32) (B : Nat → Bool) (w : g_W) (H : Heap) (locs : List Loc) (ls : Array Slot), (lwC G w x S [hs, bz, nn, sh, ge, me, pl]) → (∀ k : Nat, (k : Int) < S 0 0 → Fh k = g_b (decide (T1 2 k ≠ -1))) → (byB S T1 n2 0 Fb B) → w hs = some (.inl (G.2.1 2, n0, .inl Fh)) → w bz = some (.inl (G.2.1 2, n0, .inl Fb)) → w nn = some (.inl (G.2.1 0, 6, .inl Fn)) → w sh = some (.inl (G.2.1 0, 30, .inl Fs)) → w ge = some (.inl (G.2.1 0, 80, .inl Fg)) → w me = some (.inl (G.2.1 0, 32, .inl Fm)) → w pl = some (.inl (G.2.1 0, 20, .inl Fp)) → g_P A G w H → va_S A s.heap H locs → lv_has ls 22 [(10, .ref bz), (9, .ref hs), (8, .int (vlBroken S T1 true)), (7, .int (vlBroken S T1 false)), (6, .ref nn), (5, .ref pl), (4, .ref me), (3, .ref ge), (2, .ref sh), (1, .ref x), (0, .ref b9)] → W p l e R s m args below meth c H locs 1000 12000 Q (F0 m 647 ls [])) : W p l e R s m args below meth c H locs 600 9000 Q (F0 m 267 ls []) := by
  obtain ⟨⟨hx, hb, hml, hown, hts⟩, hK, hZ, hA⟩ := id F
  have hi := Hi.1
  obtain ⟨⟨b2, b8⟩, ⟨fn0, fn2, fn3, fn4, fn5⟩, has, hag, ham, hap⟩ := id hbp
  have kn0 : Fn 0 = nI n0 := by rw [fn0]; exact iL_nat hn0
  have kn2 : Fn 2 = nI n2 := by rw [fn2]; exact iL_nat hn2
  have kn3 : Fn 3 = nI n3 := by rw [fn3]; exact iL_nat hn3
  have kn4 : Fn 4 = iL (S 0 4) := fn4
  have q0 : (S 0 0).toNat = n0 := by omega
  have q1 : (S 0 1).toNat = n1 := by omega
  have q2 : (S 0 2).toNat = n2 := by omega
  have q3 : (S 0 3).toNat = n3 := by omega
  rw [q0] at has
  rw [q1] at hag
  rw [q2] at ham
  rw [q3] at hap
  refine lv_iconst (v := 0) hx hb dL_law_267 (by decide) ?_
  refine lv_istore (lv' := [(11, .int 0), (10, .ref bz), (9, .ref hs), (8, .int (vlBroken S T1 true)), (7, .int (vlBroken S T1 false)), (6, .ref nn), (5, .ref pl), (4, .ref me), (3, .ref ge), (2, .ref sh), (1, .ref x), (0, .ref b9)]) hx hb dL_law_268 hl (by decide) rfl (fun ls hl => ?_)
  have L270 : ∀ (n : Nat) (k : Nat) (Fb : Nat → Int32) (B : Nat → Bool) (w : g_W) (H : Heap) (locs : List Loc) (ls : Array Slot), n2 + 1 ≤ k + n → (k ≤ n2) → (lwC G w x S [hs, bz, nn, sh, ge, me, pl]) → (byB S T1 k 0 Fb B) → w hs = some (.inl (G.2.1 2, n0, .inl Fh)) → w bz = some (.inl (G.2.1 2, n0, .inl Fb)) → w nn = some (.inl (G.2.1 0, 6, .inl Fn)) → w sh = some (.inl (G.2.1 0, 30, .inl Fs)) → w ge = some (.inl (G.2.1 0, 80, .inl Fg)) → w me = some (.inl (G.2.1 0, 32, .inl Fm)) → w pl = some (.inl (G.2.1 0, 20, .inl Fp)) → g_P A G w H → va_S A s.heap H locs → lv_has ls 22 [(11, .int (nI k)), (10, .ref bz), (9, .ref hs), (8, .int (vlBroken S T1 true)), (7, .int (vlBroken S T1 false)), (6, .ref nn), (5, .ref pl), (4, .ref me), (3, .ref ge), (2, .ref sh), (1, .ref x), (0, .ref b9)] → W p l e R s m args below meth c H locs ((600 + 20 * k)) ((9000 + 120 * k)) Q (F0 m 270 ls []) := by
    intro n
    induction n with
    | zero =>
      intro k Fb B w H locs ls hfu hk hB hBy hhs hbz hnn hsh hge hme hpl hP hS hl
      exact absurd hfu (by omega)
    | succ n ih_L270 =>
      intro k Fb B w H locs ls hfu hk hB hBy hhs hbz hnn hsh hge hme hpl hP hS hl
      refine lv_iload hx hb dL_law_270 (lv_at hl 0 rfl) ?_
      refine lv_aload hx hb dL_law_272 (lv_at hl 5 rfl) ?_
      refine lv_iconst (v := 2) hx hb dL_law_274 (by decide) ?_
      refine g_iald F hP hnn (by unfold vp_in; decide) dL_law_275 ?_
      refine lv_topi (fun v1 ev1 => ?_)
      have hv1 : v1 = nI n2 := by
        rw [ev1]
        rw [show (2 : Int32).toNatClampNeg = 2 from by decide]
        exact kn2
      rw [hv1]
      refine lv_icmp_ge (tgt := 647) hx hb dL_law_276 (by decide) (fun c2 => ?_) (fun c2 => ?_)
      · have zc2 : n2 ≤ k := (nI_leI (by omega) (by omega)).mp c2
        have ekn : k = n2 := by omega
        rw [ekn] at hBy
        refine W.widen (k := 1000) (n := 12000) (by omega) (by omega) ?_
        exact cont Fh Fb B w H locs ls (hB) (hFh) (hBy) hhs hbz hnn hsh hge hme hpl hP hS (lv_sub hl [1, 2, 3, 4, 5, 6, 7, 8, 9, 10, 11] rfl)
      · have hkn : k < n2 := Nat.not_le.mp (fun q => c2 (nI_le q (by omega)))
        have hkm : (k : Int) < S 0 2 := by omega
        obtain ⟨c1, c2, c3, c4, c5⟩ := Hi.2.2.2.1 k hkm
        obtain ⟨ga, ega⟩ : ∃ z, z = (S 9 k).toNat := ⟨_, rfl⟩
        obtain ⟨gb, egb⟩ : ∃ z, z = (S 10 k).toNat := ⟨_, rfl⟩
        have hga : ga < n1 := by omega
        have hgb : gb < n1 := by omega
        have Ga := Hi.2.2.1 ga (by omega)
        have Gb := Hi.2.2.1 gb (by omega)
        obtain ⟨va, eva⟩ : ∃ z, z = saM S k 0 := ⟨_, rfl⟩
        obtain ⟨wa, ewa⟩ : ∃ z, z = saM S k 1 := ⟨_, rfl⟩
        have eva2 : va = (S 4 ga).toNat := by rw [eva, ega]; rfl
        have ewa2 : wa = (S 4 gb).toNat := by rw [ewa, egb]; rfl
        have hva : (va : Int) < S 0 0 := by omega
        have hwa : (wa : Int) < S 0 0 := by omega
        have tva := Ht.1 va hva
        have twa := Ht.1 wa hwa
        obtain ⟨m9, m10⟩ := ham k hkn
        have f9 : Fm (2 * k) = nI ga := by rw [m9]; exact iL_nat (by omega)
        have f10 : Fm (2 * k + 1) = nI gb := by rw [m10]; exact iL_nat (by omega)
        obtain ⟨a4, a5, a6, a7, a8⟩ := hag ga hga
        obtain ⟨b4, b5, b6, b7, b8g⟩ := hag gb hgb
        have f4a : Fg (5 * ga) = nI va := by rw [a4]; exact iL_nat (by omega)
        have f4b : Fg (5 * gb) = nI wa := by rw [b4]; exact iL_nat (by omega)
        have hsg : (inner S k ∧ sgI S k = 1) ∨ (¬ inner S k ∧ sgI S k = -1) := by
          unfold sgI
          by_cases z : inner S k
          · rw [if_pos z]; exact Or.inl ⟨z, rfl⟩
          · rw [if_neg z]; exact Or.inr ⟨z, rfl⟩
        have hinn : inner S k ↔ (S 8 ga = 1 ∨ S 8 gb = 1) := by rw [ega, egb]
        have brl := brk_law Hi Ht hkm
        have tal : (∀ j, j < 2 → T1 2 (saM S k j) ≠ -1) ↔ (T1 2 va ≠ -1 ∧ T1 2 wa ≠ -1) := by
          rw [eva, ewa]
          constructor
          · intro q; exact ⟨q 0 (by decide), q 1 (by decide)⟩
          · intro q j hj
            rcases (show j = 0 ∨ j = 1 by omega) with rfl | rfl
            · exact q.1
            · exact q.2
        rw [tal] at brl
        have lawE : lawM S T1 k ↔ T1 0 va * S 5 ga * T1 1 wa = sgI S k * T1 0 wa * S 5 gb * T1 1 va := by unfold lawM; rw [← ega, ← egb, ← eva, ← ewa]
        have byE : ∀ j, byM S T1 k j ↔ ((T1 2 va ≠ -1 ∧ T1 2 wa ≠ -1) ∧ lawM S T1 k ∧ ((j = wa ∧ T1 2 wa = T1 2 va + 1) ∨ (j = va ∧ T1 2 va = T1 2 wa + 1))) := fun j => by unfold byM; rw [tal, ← eva, ← ewa]
        refine lv_aload_n hx hb dL_law_279 rfl (lv_at hl 8 rfl) ?_
        refine lv_iconst (v := 5) hx hb dL_law_280 (by decide) ?_
        refine lv_aload hx hb dL_law_281 (lv_at hl 7 rfl) ?_
        refine lv_iconst (v := 2) hx hb dL_law_283 (by decide) ?_
        refine lv_iload hx hb dL_law_284 (lv_at hl 0 rfl) ?_
        refine lv_imul hx hb dL_law_286 ?_
        refine lv_topi (fun v3 ev3 => ?_)
        have hv3 : v3 = nI (2 * k) := by
          rw [ev3]
          exact pk_mul 2 k
        rw [hv3]
        refine g_iald F hP hme (vp_in_nI (by omega) (by omega)) dL_law_287 ?_
        refine lv_topi (fun v4 ev4 => ?_)
        have hv4 : v4 = nI ga := by
          rw [ev4]
          rw [nI_clamp (n := 2 * k) (by omega)]
          exact f9
        rw [hv4]
        refine lv_imul hx hb dL_law_288 ?_
        refine lv_topi (fun v5 ev5 => ?_)
        have hv5 : v5 = nI (5 * ga) := by
          rw [ev5]
          exact pk_mul 5 ga
        rw [hv5]
        refine g_iald F hP hge (vp_in_nI (by omega) (by omega)) dL_law_289 ?_
        refine lv_topi (fun v6 ev6 => ?_)
        have hv6 : v6 = nI va := by
          rw [ev6]
          rw [nI_clamp (n := 5 * ga) (by omega)]
          exact f4a
        rw [hv6]
        refine lv_istore (lv' := [(12, .int (nI va)), (11, .int (nI k)), (10, .ref bz), (9, .ref hs), (8, .int (vlBroken S T1 true)), (7, .int (vlBroken S T1 false)), (6, .ref nn), (5, .ref pl), (4, .ref me), (3, .ref ge), (2, .ref sh), (1, .ref x), (0, .ref b9)]) hx hb dL_law_290 hl (by decide) rfl (fun ls hl => ?_)
        refine lv_aload_n hx hb dL_law_292 rfl (lv_at hl 9 rfl) ?_
        refine lv_iconst (v := 5) hx hb dL_law_293 (by decide) ?_
        refine lv_aload hx hb dL_law_294 (lv_at hl 8 rfl) ?_
        refine lv_iconst (v := 2) hx hb dL_law_296 (by decide) ?_
        refine lv_iload hx hb dL_law_297 (lv_at hl 1 rfl) ?_
        refine lv_imul hx hb dL_law_299 ?_
        refine lv_topi (fun v7 ev7 => ?_)
        have hv7 : v7 = nI (2 * k) := by
          rw [ev7]
          exact pk_mul 2 k
        rw [hv7]
        refine lv_iconst (v := 1) hx hb dL_law_300 (by decide) ?_
        refine lv_iadd hx hb dL_law_301 ?_
        refine lv_topi (fun v8 ev8 => ?_)
        have hv8 : v8 = nI (2 * k + 1) := by
          rw [ev8]
          exact nI_add (2 * k) 1
        rw [hv8]
        refine g_iald F hP hme (vp_in_nI (by omega) (by omega)) dL_law_302 ?_
        refine lv_topi (fun v9 ev9 => ?_)
        have hv9 : v9 = nI gb := by
          rw [ev9]
          rw [nI_clamp (n := 2 * k + 1) (by omega)]
          exact f10
        rw [hv9]
        refine lv_imul hx hb dL_law_303 ?_
        refine lv_topi (fun v10 ev10 => ?_)
        have hv10 : v10 = nI (5 * gb) := by
          rw [ev10]
          exact pk_mul 5 gb
        rw [hv10]
        refine g_iald F hP hge (vp_in_nI (by omega) (by omega)) dL_law_304 ?_
        refine lv_topi (fun v11 ev11 => ?_)
        have hv11 : v11 = nI wa := by
          rw [ev11]
          rw [nI_clamp (n := 5 * gb) (by omega)]
          exact f4b
        rw [hv11]
        refine lv_istore (lv' := [(13, .int (nI wa)), (12, .int (nI va)), (11, .int (nI k)), (10, .ref bz), (9, .ref hs), (8, .int (vlBroken S T1 true)), (7, .int (vlBroken S T1 false)), (6, .ref nn), (5, .ref pl), (4, .ref me), (3, .ref ge), (2, .ref sh), (1, .ref x), (0, .ref b9)]) hx hb dL_law_305 hl (by decide) rfl (fun ls hl => ?_)
        have J323 : ∀  (H : Heap) (locs : List Loc) (ls : Array Slot), g_P A G w H → va_S A s.heap H locs → lv_has ls 22 [(13, .int (nI wa)), (12, .int (nI va)), (11, .int (nI k)), (10, .ref bz), (9, .ref hs), (8, .int (vlBroken S T1 true)), (7, .int (vlBroken S T1 false)), (6, .ref nn), (5, .ref pl), (4, .ref me), (3, .ref ge), (2, .ref sh), (1, .ref x), (0, .ref b9)] → W p l e R s m args below meth c H locs (600 + 20 * k) (9000 + 120 * k) Q (F0 m 323 ls [.int (g_b (brkB S T1 0 k))]) := by
          intro  H locs ls  hP hS hl
          refine lv_istore (lv' := [(14, .int (g_b (brkB S T1 0 k))), (13, .int (nI wa)), (12, .int (nI va)), (11, .int (nI k)), (10, .ref bz), (9, .ref hs), (8, .int (vlBroken S T1 true)), (7, .int (vlBroken S T1 false)), (6, .ref nn), (5, .ref pl), (4, .ref me), (3, .ref ge), (2, .ref sh), (1, .ref x), (0, .ref b9)]) hx hb dL_law_323 hl (by decide) rfl (fun ls hl => ?_)
          have J348 : ∀  (H : Heap) (locs : List Loc) (ls : Array Slot), (T1 2 va ≠ -1 ∨ T1 2 wa ≠ -1) → g_P A G w H → va_S A s.heap H locs → lv_has ls 22 [(14, .int (g_b (brkB S T1 0 k))), (13, .int (nI wa)), (12, .int (nI va)), (11, .int (nI k)), (10, .ref bz), (9, .ref hs), (8, .int (vlBroken S T1 true)), (7, .int (vlBroken S T1 false)), (6, .ref nn), (5, .ref pl), (4, .ref me), (3, .ref ge), (2, .ref sh), (1, .ref x), (0, .ref b9)] → W p l e R s m args below meth c H locs (600 + 20 * k) (9000 + 120 * k) Q (F0 m 348 ls []) := by
            intro  H locs ls hone hP hS hl
            refine lv_aload_n hx hb dL_law_348 rfl (lv_at hl 11 rfl) ?_
            refine lv_iconst (v := 5) hx hb dL_law_349 (by decide) ?_
            refine lv_aload hx hb dL_law_350 (lv_at hl 10 rfl) ?_
            refine lv_iconst (v := 2) hx hb dL_law_352 (by decide) ?_
            refine lv_iload hx hb dL_law_353 (lv_at hl 3 rfl) ?_
            refine lv_imul hx hb dL_law_355 ?_
            refine lv_topi (fun v12 ev12 => ?_)
            have hv12 : v12 = nI (2 * k) := by
              rw [ev12]
              exact pk_mul 2 k
            rw [hv12]
            refine g_iald F hP hme (vp_in_nI (by omega) (by omega)) dL_law_356 ?_
            refine lv_topi (fun v13 ev13 => ?_)
            have hv13 : v13 = nI ga := by
              rw [ev13]
              rw [nI_clamp (n := 2 * k) (by omega)]
              exact f9
            rw [hv13]
            refine lv_imul hx hb dL_law_357 ?_
            refine lv_topi (fun v14 ev14 => ?_)
            have hv14 : v14 = nI (5 * ga) := by
              rw [ev14]
              exact pk_mul 5 ga
            rw [hv14]
            refine lv_iconst (v := 1) hx hb dL_law_358 (by decide) ?_
            refine lv_iadd hx hb dL_law_359 ?_
            refine lv_topi (fun v15 ev15 => ?_)
            have hv15 : v15 = nI (5 * ga + 1) := by
              rw [ev15]
              exact nI_add (5 * ga) 1
            rw [hv15]
            refine g_iald F hP hge (vp_in_nI (by omega) (by omega)) dL_law_360 ?_
            refine lv_topi (fun v16 ev16 => ?_)
            have hv16 : v16 = iL (S 5 ga) := by
              rw [ev16]
              rw [nI_clamp (n := 5 * ga + 1) (by omega)]
              exact a5
            rw [hv16]
            refine lv_i2l hx hb dL_law_361 rfl ?_
            refine lv_topl (fun v17 ev17 => ?_)
            have hv17 : v17 = zL (S 5 ga) := by
              rw [ev17]
              exact iL64 (by omega) (by omega)
            rw [hv17]
            refine lv_lstore (lv' := [(15, .long (zL (S 5 ga))), (14, .int (g_b (brkB S T1 0 k))), (13, .int (nI wa)), (12, .int (nI va)), (11, .int (nI k)), (10, .ref bz), (9, .ref hs), (8, .int (vlBroken S T1 true)), (7, .int (vlBroken S T1 false)), (6, .ref nn), (5, .ref pl), (4, .ref me), (3, .ref ge), (2, .ref sh), (1, .ref x), (0, .ref b9)]) hx hb dL_law_362 hl (by decide) rfl (fun ls hl => ?_)
            refine lv_aload_n hx hb dL_law_364 rfl (lv_at hl 12 rfl) ?_
            refine lv_iconst (v := 5) hx hb dL_law_365 (by decide) ?_
            refine lv_aload hx hb dL_law_366 (lv_at hl 11 rfl) ?_
            refine lv_iconst (v := 2) hx hb dL_law_368 (by decide) ?_
            refine lv_iload hx hb dL_law_369 (lv_at hl 4 rfl) ?_
            refine lv_imul hx hb dL_law_371 ?_
            refine lv_topi (fun v18 ev18 => ?_)
            have hv18 : v18 = nI (2 * k) := by
              rw [ev18]
              exact pk_mul 2 k
            rw [hv18]
            refine lv_iconst (v := 1) hx hb dL_law_372 (by decide) ?_
            refine lv_iadd hx hb dL_law_373 ?_
            refine lv_topi (fun v19 ev19 => ?_)
            have hv19 : v19 = nI (2 * k + 1) := by
              rw [ev19]
              exact nI_add (2 * k) 1
            rw [hv19]
            refine g_iald F hP hme (vp_in_nI (by omega) (by omega)) dL_law_374 ?_
            refine lv_topi (fun v20 ev20 => ?_)
            have hv20 : v20 = nI gb := by
              rw [ev20]
              rw [nI_clamp (n := 2 * k + 1) (by omega)]
              exact f10
            rw [hv20]
            refine lv_imul hx hb dL_law_375 ?_
            refine lv_topi (fun v21 ev21 => ?_)
            have hv21 : v21 = nI (5 * gb) := by
              rw [ev21]
              exact pk_mul 5 gb
            rw [hv21]
            refine lv_iconst (v := 1) hx hb dL_law_376 (by decide) ?_
            refine lv_iadd hx hb dL_law_377 ?_
            refine lv_topi (fun v22 ev22 => ?_)
            have hv22 : v22 = nI (5 * gb + 1) := by
              rw [ev22]
              exact nI_add (5 * gb) 1
            rw [hv22]
            refine g_iald F hP hge (vp_in_nI (by omega) (by omega)) dL_law_378 ?_
            refine lv_topi (fun v23 ev23 => ?_)
            have hv23 : v23 = iL (S 5 gb) := by
              rw [ev23]
              rw [nI_clamp (n := 5 * gb + 1) (by omega)]
              exact b5
            rw [hv23]
            refine lv_i2l hx hb dL_law_379 rfl ?_
            refine lv_topl (fun v24 ev24 => ?_)
            have hv24 : v24 = zL (S 5 gb) := by
              rw [ev24]
              exact iL64 (by omega) (by omega)
            rw [hv24]
            refine lv_lstore (lv' := [(17, .long (zL (S 5 gb))), (15, .long (zL (S 5 ga))), (14, .int (g_b (brkB S T1 0 k))), (13, .int (nI wa)), (12, .int (nI va)), (11, .int (nI k)), (10, .ref bz), (9, .ref hs), (8, .int (vlBroken S T1 true)), (7, .int (vlBroken S T1 false)), (6, .ref nn), (5, .ref pl), (4, .ref me), (3, .ref ge), (2, .ref sh), (1, .ref x), (0, .ref b9)]) hx hb dL_law_380 hl (by decide) rfl (fun ls hl => ?_)
            have J400 : ∀  (H : Heap) (locs : List Loc) (ls : Array Slot), g_P A G w H → va_S A s.heap H locs → lv_has ls 22 [(17, .long (zL (S 5 gb))), (15, .long (zL (S 5 ga))), (14, .int (g_b (brkB S T1 0 k))), (13, .int (nI wa)), (12, .int (nI va)), (11, .int (nI k)), (10, .ref bz), (9, .ref hs), (8, .int (vlBroken S T1 true)), (7, .int (vlBroken S T1 false)), (6, .ref nn), (5, .ref pl), (4, .ref me), (3, .ref ge), (2, .ref sh), (1, .ref x), (0, .ref b9)] → W p l e R s m args below meth c H locs (600 + 20 * k) (9000 + 120 * k) Q (F0 m 400 ls [.long (zL (sgI S k))]) := by
              intro  H locs ls  hP hS hl
              refine lv_lstore (lv' := [(19, .long (zL (sgI S k))), (17, .long (zL (S 5 gb))), (15, .long (zL (S 5 ga))), (14, .int (g_b (brkB S T1 0 k))), (13, .int (nI wa)), (12, .int (nI va)), (11, .int (nI k)), (10, .ref bz), (9, .ref hs), (8, .int (vlBroken S T1 true)), (7, .int (vlBroken S T1 false)), (6, .ref nn), (5, .ref pl), (4, .ref me), (3, .ref ge), (2, .ref sh), (1, .ref x), (0, .ref b9)]) hx hb dL_law_400 hl (by decide) rfl (fun ls hl => ?_)
              have J540 : ∀  (H : Heap) (locs : List Loc) (ls : Array Slot), (¬ (T1 2 va ≠ -1 ∧ T1 2 wa ≠ -1)) → g_P A G w H → va_S A s.heap H locs → lv_has ls 22 [(19, .long (zL (sgI S k))), (17, .long (zL (S 5 gb))), (15, .long (zL (S 5 ga))), (14, .int (g_b (brkB S T1 0 k))), (13, .int (nI wa)), (12, .int (nI va)), (11, .int (nI k)), (10, .ref bz), (9, .ref hs), (8, .int (vlBroken S T1 true)), (7, .int (vlBroken S T1 false)), (6, .ref nn), (5, .ref pl), (4, .ref me), (3, .ref ge), (2, .ref sh), (1, .ref x), (0, .ref b9)] → W p l e R s m args below meth c H locs (600 + 20 * k) (9000 + 120 * k) Q (F0 m 540 ls []) := by
                intro  H locs ls hnb hP hS hl
                refine lv_aload hx hb dL_law_540 (lv_at hl 8 rfl) ?_
                refine lv_iload hx hb dL_law_542 (lv_at hl 5 rfl) ?_
                refine g_zald F hP hhs (vp_in_nI (by omega) (by omega)) dL_law_544 ?_
                refine lv_topi (fun v25 ev25 => ?_)
                have hv25 : v25 = g_b (decide (T1 2 va ≠ -1)) := by
                  rw [ev25]
                  rw [nI_clamp (n := va) (by omega)]
                  exact hFh va hva
                rw [hv25]
                refine lv_if_eq (tgt := 579) hx hb dL_law_545 (by decide) (fun c26 => ?_) (fun c26 => ?_)
                · have yc26 : T1 2 va = -1 := Decidable.not_not.mp (of_decide_eq_false (g_b0.mp c26))
                  have ywa : T1 2 wa ≠ -1 := hone.resolve_left (fun q => q yc26)
                  refine lv_lload hx hb dL_law_579 (lv_at hl 0 rfl) ?_
                  refine lv_aload_n hx hb dL_law_581 rfl (lv_at hl 16 rfl) ?_
                  refine lv_iload hx hb dL_law_582 (lv_at hl 4 rfl) ?_
                  refine lv_iconst (v := 0) hx hb dL_law_584 (by decide) ?_
                  rw [show (.int 0 : Value) = .int (g_b false) from rfl]
                  have hk0 : ((wa : Nat) : Int) < S 0 0 := by omega
                  have kk0 := kN_n (k := wa) (by omega)
                  have ki := nI_i wa (by omega)
                  obtain ⟨ad, Cn, T, h00, hBn, hT3, hLn⟩ := id hB
                  rw [← eT1] at hT3
                  have hCo := k_X6_speed l hlt A G w ad Cn S T (nI wa) false hBn.1 hBn.2.1 hBn.2.2.1 hBn.2.2.2.1
                  rw [h00] at hCo
                  have hx0 := rep_x hBn.1 hBn.2.1
                  rw [h00] at hx0
                  have hcd := (show cdSpeed S T (nI wa) = 0 from (if_pos ⟨by omega, by omega⟩).trans (if_pos (by rw [kk0, hT3 2 (by decide)]; exact ywa)))
                  refine g_cVi (As := [.int (nI wa), .int (g_b false)]) (rest := [.long (zL (sgI S k))]) F hP hS hCo (cwV 2 hts gL_law_X6_speed rfl rfl rfl cd_X6_speed ⟨by rw [hR]; exact Nat.le_of_ble_eq_true rfl, by rw [hR]; exact Nat.le_of_ble_eq_true rfl⟩) hx0 rfl rfl rfl hl.1 (Nat.le_of_ble_eq_true rfl) dL_law_585 ⟨by rw [hR]; dsimp only; omega, by rw [hR]; dsimp only; omega⟩ rfl (fun E w9 ce q9 H locs hpx hP hS hce hcv hcl => ?_) (fun r27 w28 H locs h29 hP hS => ?_)
                  · rcases hpx.2 with ⟨_, q⟩ | ⟨_, q⟩ <;> exact absurd (hcd.symm.trans q) (by decide)
                  · obtain ⟨hc0, er, ew⟩ := h29
                    rw [ew] at hP
                    rw [er.trans ((show vlSpeed T (nI wa) false = iL (T1 0 wa) from by unfold vlSpeed; rw [kk0, hT3 0 (by decide), hT3 1 (by decide)]; rfl))]
                    refine lv_i2l hx hb dL_law_588 rfl ?_
                    refine lv_topl (fun v30 ev30 => ?_)
                    have hv30 : v30 = zL (T1 0 wa) := by
                      rw [ev30]
                      exact iL64 (by omega) (by omega)
                    rw [hv30]
                    refine lv_lmul hx hb dL_law_589 ?_
                    refine lv_topl (fun v31 ev31 => ?_)
                    have hv31 : v31 = zL (sgI S k * T1 0 wa) := by
                      rw [ev31]
                      exact zL_mul _ _
                    rw [hv31]
                    refine lv_lload hx hb dL_law_590 (lv_at hl 1 rfl) ?_
                    refine lv_lmul hx hb dL_law_592 ?_
                    refine lv_topl (fun v32 ev32 => ?_)
                    have hv32 : v32 = zL (sgI S k * T1 0 wa * S 5 gb) := by
                      rw [ev32]
                      exact zL_mul _ _
                    rw [hv32]
                    refine lv_aload_n hx hb dL_law_593 rfl (lv_at hl 16 rfl) ?_
                    refine lv_iload hx hb dL_law_594 (lv_at hl 4 rfl) ?_
                    refine lv_iconst (v := 1) hx hb dL_law_596 (by decide) ?_
                    rw [show (.int 1 : Value) = .int (g_b true) from rfl]
                    have hk0 : ((wa : Nat) : Int) < S 0 0 := by omega
                    have kk0 := kN_n (k := wa) (by omega)
                    have ki := nI_i wa (by omega)
                    obtain ⟨ad, Cn, T, h00, hBn, hT3, hLn⟩ := id hB
                    rw [← eT1] at hT3
                    have hCo := k_X6_speed l hlt A G w ad Cn S T (nI wa) true hBn.1 hBn.2.1 hBn.2.2.1 hBn.2.2.2.1
                    rw [h00] at hCo
                    have hx0 := rep_x hBn.1 hBn.2.1
                    rw [h00] at hx0
                    have hcd := (show cdSpeed S T (nI wa) = 0 from (if_pos ⟨by omega, by omega⟩).trans (if_pos (by rw [kk0, hT3 2 (by decide)]; exact ywa)))
                    refine g_cVi (As := [.int (nI wa), .int (g_b true)]) (rest := [.long (zL (sgI S k * T1 0 wa * S 5 gb))]) F hP hS hCo (cwV 2 hts gL_law_X6_speed rfl rfl rfl cd_X6_speed ⟨by rw [hR]; exact Nat.le_of_ble_eq_true rfl, by rw [hR]; exact Nat.le_of_ble_eq_true rfl⟩) hx0 rfl rfl rfl hl.1 (Nat.le_of_ble_eq_true rfl) dL_law_597 ⟨by rw [hR]; dsimp only; omega, by rw [hR]; dsimp only; omega⟩ rfl (fun E w9 ce q9 H locs hpx hP hS hce hcv hcl => ?_) (fun r33 w34 H locs h35 hP hS => ?_)
                    · rcases hpx.2 with ⟨_, q⟩ | ⟨_, q⟩ <;> exact absurd (hcd.symm.trans q) (by decide)
                    · obtain ⟨hc0, er, ew⟩ := h35
                      rw [ew] at hP
                      rw [er.trans ((show vlSpeed T (nI wa) true = iL (T1 1 wa) from by unfold vlSpeed; rw [kk0, hT3 0 (by decide), hT3 1 (by decide)]; rfl))]
                      refine lv_i2l hx hb dL_law_600 rfl ?_
                      refine lv_topl (fun v36 ev36 => ?_)
                      have hv36 : v36 = zL (T1 1 wa) := by
                        rw [ev36]
                        exact iL64 (by omega) (by omega)
                      rw [hv36]
                      refine lv_lload hx hb dL_law_601 (lv_at hl 2 rfl) ?_
                      refine lv_lmul hx hb dL_law_603 ?_
                      refine lv_topl (fun v37 ev37 => ?_)
                      have hv37 : v37 = zL (T1 1 wa * S 5 ga) := by
                        rw [ev37]
                        exact zL_mul _ _
                      rw [hv37]
                      have bS : (sgI S k * T1 0 wa * S 5 gb).natAbs ≤ 1 * 1000000 * 200 := mul3_le (by rcases hsg with q | q <;> rw [q.2] <;> decide) (by omega) (by omega)
                      have bY : (T1 1 wa * S 5 ga).natAbs ≤ 1000000 * 200 := by rw [Int.natAbs_mul]; exact Nat.mul_le_mul (by omega) (by omega)
                      have bY0 : 0 < T1 1 wa * S 5 ga := Int.mul_pos (by omega) (by omega)
                      refine g_Sq (As := [.long (zL (sgI S k * T1 0 wa * S 5 gb)), .long (zL (T1 1 wa * S 5 ga))]) (rest := []) F hP hS (k_L_fraction l A G w (sgI S k * T1 0 wa * S 5 gb) (T1 1 wa * S 5 ga) (by omega) (by omega) bY0) (va_cwS 2 hts gL_law_L_fraction rfl rfl rfl cd_L_fraction ⟨by rw [hR]; exact Nat.le_of_ble_eq_true rfl, by rw [hR]; exact Nat.le_of_ble_eq_true rfl⟩) rfl hl.1 (Nat.le_of_ble_eq_true rfl) dL_law_604 ⟨by rw [hR]; dsimp only; omega, by rw [hR]; dsimp only; omega⟩ rfl (fun r38 w39 H locs h40 hP hS => ?_)
                      obtain ⟨q41, ff42, er, nq, ff0, ff1, ewq⟩ := h40
                      rw [er, show va_rf (some q41) = (.ref q41 : Value) from rfl]
                      have f43 : w39 hs = some (.inl (G.2.1 2, n0, .inl Fh)) := by rw [ewq]; exact g_up_f hhs (g_neq hhs nq)
                      have f44 : w39 bz = some (.inl (G.2.1 2, n0, .inl Fb)) := by rw [ewq]; exact g_up_f hbz (g_neq hbz nq)
                      have f45 : w39 nn = some (.inl (G.2.1 0, 6, .inl Fn)) := by rw [ewq]; exact g_up_f hnn (g_neq hnn nq)
                      have f46 : w39 sh = some (.inl (G.2.1 0, 30, .inl Fs)) := by rw [ewq]; exact g_up_f hsh (g_neq hsh nq)
                      have f47 : w39 ge = some (.inl (G.2.1 0, 80, .inl Fg)) := by rw [ewq]; exact g_up_f hge (g_neq hge nq)
                      have f48 : w39 me = some (.inl (G.2.1 0, 32, .inl Fm)) := by rw [ewq]; exact g_up_f hme (g_neq hme nq)
                      have f49 : w39 pl = some (.inl (G.2.1 0, 20, .inl Fp)) := by rw [ewq]; exact g_up_f hpl (g_neq hpl nq)
                      have f50 : w39 q41 = some (.inl (G.2.1 1, 2, .inr (.inl ff42))) := by rw [ewq]; exact g_up_s _ _ _
                      have hB51 := lwC_sub (L' := [hs, bz, nn, sh, ge, me, pl]) (lwC_new hB nq ewq) (fun a ha => List.mem_cons_of_mem _ ha)
                      have hu9 : tUnk S T1 0 k 0 := ⟨by decide, by show T1 2 (saM S k 0) = -1; rw [← eva]; exact yc26, fun j hj hn => by
                        have j0 : j = 1 := by have : j < 2 := hj; omega
                        rw [j0]; show T1 2 (saM S k 1) ≠ -1; rw [← ewa]; exact ywa⟩
                      have big := mesh_big Hi Wi hfx hkm hu9
                      obtain ⟨s1, s2⟩ := mesh_s0 Hi Ht hkm hsg
                      rw [← ewa, ← ega, ← egb] at s1 s2
                      unfold bigF at big
                      rw [← s1, ← s2] at big
                      have lN := fN_le (sgI S k * T1 0 wa * S 5 gb) (T1 1 wa * S 5 ga)
                      have lD := fD_le (sgI S k * T1 0 wa * S 5 gb) (T1 1 wa * S 5 ga)
                      refine lv_astore (lv' := [(21, .ref q41), (19, .long (zL (sgI S k))), (17, .long (zL (S 5 gb))), (15, .long (zL (S 5 ga))), (14, .int (g_b (brkB S T1 0 k))), (13, .int (nI wa)), (12, .int (nI va)), (11, .int (nI k)), (10, .ref bz), (9, .ref hs), (8, .int (vlBroken S T1 true)), (7, .int (vlBroken S T1 false)), (6, .ref nn), (5, .ref pl), (4, .ref me), (3, .ref ge), (2, .ref sh), (1, .ref x), (0, .ref b9)]) hx hb dL_law_607 hl (by decide) rfl (fun ls hl => ?_)
                      refine lv_iload hx hb dL_law_609 (lv_at hl 4 rfl) ?_
                      refine lv_if_ne (tgt := 639) hx hb dL_law_611 (by decide) (fun c52 => ?_) (fun c52 => ?_)
                      · exact absurd (g_b1.mp c52) (fun q => hnb (brl.mp q).1)
                      · refine lv_aload hx hb dL_law_614 (lv_at hl 0 rfl) ?_
                        refine lv_iconst (v := 0) hx hb dL_law_616 (by decide) ?_
                        refine g_lald F hP f50 (by unfold vp_in; decide) dL_law_617 ?_
                        refine lv_topl (fun v53 ev53 => ?_)
                        have hv53 : v53 = zL (fN (sgI S k * T1 0 wa * S 5 gb) (T1 1 wa * S 5 ga)) := by
                          rw [ev53]
                          rw [show (0 : Int32).toNatClampNeg = 0 from by decide]
                          exact ff0
                        rw [hv53]
                        refine va_mabs_long hx hb (by rw [hml]; exact hl.1.symm) hown (hts _ (List.mem_append_left _ (List.mem_append_left _ (List.mem_append_left _ (List.mem_append_left _ (List.mem_append_left _ (List.mem_append_left _ (List.mem_append_left _ (List.mem_append_left _ (List.mem_append_left _ (List.mem_append_left _ (List.mem_append_left _ (List.mem_append_left _ (List.mem_append_left _ (List.mem_append_left _ (List.mem_of_getElem? (i := 8) rfl)))))))))))))))) (hts _ (List.mem_append_left _ (List.mem_append_left _ (List.mem_append_left _ (List.mem_append_left _ (List.mem_append_left _ (List.mem_append_left _ (List.mem_append_left _ (List.mem_append_left _ (List.mem_append_left _ (List.mem_append_left _ (List.mem_append_left _ (List.mem_append_left _ (List.mem_append_left _ (List.mem_append_left _ (List.mem_of_getElem? (i := 9) rfl)))))))))))))))) (hts _ (List.mem_append_left _ (List.mem_append_left _ (List.mem_append_left _ (List.mem_append_left _ (List.mem_append_left _ (List.mem_append_left _ (List.mem_append_left _ (List.mem_append_left _ (List.mem_append_left _ (List.mem_append_left _ (List.mem_append_left _ (List.mem_append_left _ (List.mem_append_left _ (List.mem_append_left _ (List.mem_of_getElem? (i := 10) rfl)))))))))))))))) (hts _ (List.mem_append_left _ (List.mem_append_left _ (List.mem_append_left _ (List.mem_append_left _ (List.mem_append_left _ (List.mem_append_left _ (List.mem_append_left _ (List.mem_append_left _ (List.mem_append_left _ (List.mem_append_left _ (List.mem_append_left _ (List.mem_append_left _ (List.mem_append_left _ (List.mem_append_left _ (List.mem_of_getElem? (i := 11) rfl)))))))))))))))) (by rw [hR]; exact Nat.le_of_ble_eq_true rfl) (by rw [hR]; exact Nat.le_of_ble_eq_true rfl) (by rw [hR]; first | exact Nat.le_of_ble_eq_true rfl | (dsimp only; omega)) (by rw [hR]; first | exact Nat.le_of_ble_eq_true rfl | (dsimp only; omega)) dL_law_618 ?_
                        refine lv_topl (fun v54 ev54 => ?_)
                        have hv54 : v54 = zL ((fN (sgI S k * T1 0 wa * S 5 gb) (T1 1 wa * S 5 ga)).natAbs : Int) := by
                          rw [ev54]
                          rw [zL_N]; exact zL_abs (by omega) (by omega)
                        rw [hv54]
                        refine lv_ldc2 (v := 1000000) hx hb hown (hts _ (List.mem_append_left _ (List.mem_append_left _ (List.mem_append_left _ (List.mem_append_left _ (List.mem_append_left _ (List.mem_append_left _ (List.mem_append_left _ (List.mem_append_left _ (List.mem_append_left _ (List.mem_append_left _ (List.mem_append_left _ (List.mem_append_left _ (List.mem_append_left _ (List.mem_append_left _ (List.mem_of_getElem? (i := 12) rfl)))))))))))))))) dL_law_621 ?_
                        refine W.lcmp hx hb dL_law_624 ?_
                        refine lv_if_gt (tgt := 641) hx hb dL_law_625 (by decide) (fun c55 => ?_) (fun c55 => ?_)
                        · have c55 := (lg_cmp_gt (zL ((fN (sgI S k * T1 0 wa * S 5 gb) (T1 1 wa * S 5 ga)).natAbs : Int)) 1000000).mp c55
                          skip
                          refine W.widen (k := 600 + 20 * (k + 1)) (n := 9000 + 120 * (k + 1)) (by omega) (by omega) ?_
                          have hyx := byB_m hBy (fun j hj q => absurd ((byE j).mp q).1 hnb)
                          obtain ⟨i56, ei56⟩ : ∃ y : Int32, y = nI k + (1) := ⟨_, rfl⟩
                          refine lv_iinc (v := i56) (lv' := [(11, .int i56), (21, .ref q41), (19, .long (zL (sgI S k))), (17, .long (zL (S 5 gb))), (15, .long (zL (S 5 ga))), (14, .int (g_b (brkB S T1 0 k))), (13, .int (nI wa)), (12, .int (nI va)), (10, .ref bz), (9, .ref hs), (8, .int (vlBroken S T1 true)), (7, .int (vlBroken S T1 false)), (6, .ref nn), (5, .ref pl), (4, .ref me), (3, .ref ge), (2, .ref sh), (1, .ref x), (0, .ref b9)]) hx hb dL_law_641 hl (k := 7) rfl (by rw [ei56]; rfl) (by decide) rfl (fun ls hl => ?_)
                          have hi56 : i56 = nI (k + 1) := by
                            rw [ei56]
                            exact nI_1 k
                          rw [hi56] at hl
                          refine lv_goto (tgt := 270) hx hb dL_law_644 (by decide) ?_
                          exact ih_L270 (k + 1) Fb B w39 H locs ls (by omega) (by omega) (hB51) (hyx) f43 f44 f45 f46 f47 f48 f49 hP hS (lv_sub hl [0, 8, 9, 10, 11, 12, 13, 14, 15, 16, 17, 18] rfl)
                        · have c55 : ¬ (1000000 < (zL ((fN (sgI S k * T1 0 wa * S 5 gb) (T1 1 wa * S 5 ga)).natAbs : Int))) := fun h => c55 ((lg_cmp_gt (zL ((fN (sgI S k * T1 0 wa * S 5 gb) (T1 1 wa * S 5 ga)).natAbs : Int)) 1000000).mpr h)
                          have yc55 : ¬ (1000000 < ((fN (sgI S k * T1 0 wa * S 5 gb) (T1 1 wa * S 5 ga)).natAbs : Int)) := fun q => c55 ((zL_lt (a := 1000000) (by omega) (by omega) (by omega) (by omega)).mpr q)
                          refine lv_aload hx hb dL_law_628 (lv_at hl 0 rfl) ?_
                          refine lv_iconst (v := 1) hx hb dL_law_630 (by decide) ?_
                          refine g_lald F hP f50 (by unfold vp_in; decide) dL_law_631 ?_
                          refine lv_topl (fun v57 ev57 => ?_)
                          have hv57 : v57 = zL (fD (sgI S k * T1 0 wa * S 5 gb) (T1 1 wa * S 5 ga)) := by
                            rw [ev57]
                            rw [show (1 : Int32).toNatClampNeg = 1 from by decide]
                            exact ff1
                          rw [hv57]
                          refine lv_ldc2 (v := 1000000) hx hb hown (hts _ (List.mem_append_left _ (List.mem_append_left _ (List.mem_append_left _ (List.mem_append_left _ (List.mem_append_left _ (List.mem_append_left _ (List.mem_append_left _ (List.mem_append_left _ (List.mem_append_left _ (List.mem_append_left _ (List.mem_append_left _ (List.mem_append_left _ (List.mem_append_left _ (List.mem_append_left _ (List.mem_of_getElem? (i := 12) rfl)))))))))))))))) dL_law_632 ?_
                          refine W.lcmp hx hb dL_law_635 ?_
                          refine lv_if_gt (tgt := 641) hx hb dL_law_636 (by decide) (fun c58 => ?_) (fun c58 => ?_)
                          · have c58 := (lg_cmp_gt (zL (fD (sgI S k * T1 0 wa * S 5 gb) (T1 1 wa * S 5 ga))) 1000000).mp c58
                            refine W.widen (k := 600 + 20 * (k + 1)) (n := 9000 + 120 * (k + 1)) (by omega) (by omega) ?_
                            have hyx := byB_m hBy (fun j hj q => absurd ((byE j).mp q).1 hnb)
                            obtain ⟨i59, ei59⟩ : ∃ y : Int32, y = nI k + (1) := ⟨_, rfl⟩
                            refine lv_iinc (v := i59) (lv' := [(11, .int i59), (21, .ref q41), (19, .long (zL (sgI S k))), (17, .long (zL (S 5 gb))), (15, .long (zL (S 5 ga))), (14, .int (g_b (brkB S T1 0 k))), (13, .int (nI wa)), (12, .int (nI va)), (10, .ref bz), (9, .ref hs), (8, .int (vlBroken S T1 true)), (7, .int (vlBroken S T1 false)), (6, .ref nn), (5, .ref pl), (4, .ref me), (3, .ref ge), (2, .ref sh), (1, .ref x), (0, .ref b9)]) hx hb dL_law_641 hl (k := 7) rfl (by rw [ei59]; rfl) (by decide) rfl (fun ls hl => ?_)
                            have hi59 : i59 = nI (k + 1) := by
                              rw [ei59]
                              exact nI_1 k
                            rw [hi59] at hl
                            refine lv_goto (tgt := 270) hx hb dL_law_644 (by decide) ?_
                            exact ih_L270 (k + 1) Fb B w39 H locs ls (by omega) (by omega) (hB51) (hyx) f43 f44 f45 f46 f47 f48 f49 hP hS (lv_sub hl [0, 8, 9, 10, 11, 12, 13, 14, 15, 16, 17, 18] rfl)
                          · have c58 : ¬ (1000000 < (zL (fD (sgI S k * T1 0 wa * S 5 gb) (T1 1 wa * S 5 ga)))) := fun h => c58 ((lg_cmp_gt (zL (fD (sgI S k * T1 0 wa * S 5 gb) (T1 1 wa * S 5 ga))) 1000000).mpr h)
                            exact absurd ((zL_lt (a := 1000000) (by omega) (by omega) (by omega) (by omega)).mpr (show 1000000 < fD (sgI S k * T1 0 wa * S 5 gb) (T1 1 wa * S 5 ga) from by omega)) c58
                · have yc26 : T1 2 va ≠ -1 := of_decide_eq_true (g_b1.mp c26)
                  refine lv_lload hx hb dL_law_548 (lv_at hl 0 rfl) ?_
                  refine lv_aload_n hx hb dL_law_550 rfl (lv_at hl 16 rfl) ?_
                  refine lv_iload hx hb dL_law_551 (lv_at hl 5 rfl) ?_
                  refine lv_iconst (v := 0) hx hb dL_law_553 (by decide) ?_
                  rw [show (.int 0 : Value) = .int (g_b false) from rfl]
                  have hk0 : ((va : Nat) : Int) < S 0 0 := by omega
                  have kk0 := kN_n (k := va) (by omega)
                  have ki := nI_i va (by omega)
                  obtain ⟨ad, Cn, T, h00, hBn, hT3, hLn⟩ := id hB
                  rw [← eT1] at hT3
                  have hCo := k_X6_speed l hlt A G w ad Cn S T (nI va) false hBn.1 hBn.2.1 hBn.2.2.1 hBn.2.2.2.1
                  rw [h00] at hCo
                  have hx0 := rep_x hBn.1 hBn.2.1
                  rw [h00] at hx0
                  have hcd := (show cdSpeed S T (nI va) = 0 from (if_pos ⟨by omega, by omega⟩).trans (if_pos (by rw [kk0, hT3 2 (by decide)]; exact yc26)))
                  refine g_cVi (As := [.int (nI va), .int (g_b false)]) (rest := [.long (zL (sgI S k))]) F hP hS hCo (cwV 2 hts gL_law_X6_speed rfl rfl rfl cd_X6_speed ⟨by rw [hR]; exact Nat.le_of_ble_eq_true rfl, by rw [hR]; exact Nat.le_of_ble_eq_true rfl⟩) hx0 rfl rfl rfl hl.1 (Nat.le_of_ble_eq_true rfl) dL_law_554 ⟨by rw [hR]; dsimp only; omega, by rw [hR]; dsimp only; omega⟩ rfl (fun E w9 ce q9 H locs hpx hP hS hce hcv hcl => ?_) (fun r60 w61 H locs h62 hP hS => ?_)
                  · rcases hpx.2 with ⟨_, q⟩ | ⟨_, q⟩ <;> exact absurd (hcd.symm.trans q) (by decide)
                  · obtain ⟨hc0, er, ew⟩ := h62
                    rw [ew] at hP
                    rw [er.trans ((show vlSpeed T (nI va) false = iL (T1 0 va) from by unfold vlSpeed; rw [kk0, hT3 0 (by decide), hT3 1 (by decide)]; rfl))]
                    refine lv_i2l hx hb dL_law_557 rfl ?_
                    refine lv_topl (fun v63 ev63 => ?_)
                    have hv63 : v63 = zL (T1 0 va) := by
                      rw [ev63]
                      exact iL64 (by omega) (by omega)
                    rw [hv63]
                    refine lv_lmul hx hb dL_law_558 ?_
                    refine lv_topl (fun v64 ev64 => ?_)
                    have hv64 : v64 = zL (sgI S k * T1 0 va) := by
                      rw [ev64]
                      exact zL_mul _ _
                    rw [hv64]
                    refine lv_lload hx hb dL_law_559 (lv_at hl 2 rfl) ?_
                    refine lv_lmul hx hb dL_law_561 ?_
                    refine lv_topl (fun v65 ev65 => ?_)
                    have hv65 : v65 = zL (sgI S k * T1 0 va * S 5 ga) := by
                      rw [ev65]
                      exact zL_mul _ _
                    rw [hv65]
                    refine lv_aload_n hx hb dL_law_562 rfl (lv_at hl 16 rfl) ?_
                    refine lv_iload hx hb dL_law_563 (lv_at hl 5 rfl) ?_
                    refine lv_iconst (v := 1) hx hb dL_law_565 (by decide) ?_
                    rw [show (.int 1 : Value) = .int (g_b true) from rfl]
                    have hk0 : ((va : Nat) : Int) < S 0 0 := by omega
                    have kk0 := kN_n (k := va) (by omega)
                    have ki := nI_i va (by omega)
                    obtain ⟨ad, Cn, T, h00, hBn, hT3, hLn⟩ := id hB
                    rw [← eT1] at hT3
                    have hCo := k_X6_speed l hlt A G w ad Cn S T (nI va) true hBn.1 hBn.2.1 hBn.2.2.1 hBn.2.2.2.1
                    rw [h00] at hCo
                    have hx0 := rep_x hBn.1 hBn.2.1
                    rw [h00] at hx0
                    have hcd := (show cdSpeed S T (nI va) = 0 from (if_pos ⟨by omega, by omega⟩).trans (if_pos (by rw [kk0, hT3 2 (by decide)]; exact yc26)))
                    refine g_cVi (As := [.int (nI va), .int (g_b true)]) (rest := [.long (zL (sgI S k * T1 0 va * S 5 ga))]) F hP hS hCo (cwV 2 hts gL_law_X6_speed rfl rfl rfl cd_X6_speed ⟨by rw [hR]; exact Nat.le_of_ble_eq_true rfl, by rw [hR]; exact Nat.le_of_ble_eq_true rfl⟩) hx0 rfl rfl rfl hl.1 (Nat.le_of_ble_eq_true rfl) dL_law_566 ⟨by rw [hR]; dsimp only; omega, by rw [hR]; dsimp only; omega⟩ rfl (fun E w9 ce q9 H locs hpx hP hS hce hcv hcl => ?_) (fun r66 w67 H locs h68 hP hS => ?_)
                    · rcases hpx.2 with ⟨_, q⟩ | ⟨_, q⟩ <;> exact absurd (hcd.symm.trans q) (by decide)
                    · obtain ⟨hc0, er, ew⟩ := h68
                      rw [ew] at hP
                      rw [er.trans ((show vlSpeed T (nI va) true = iL (T1 1 va) from by unfold vlSpeed; rw [kk0, hT3 0 (by decide), hT3 1 (by decide)]; rfl))]
                      refine lv_i2l hx hb dL_law_569 rfl ?_
                      refine lv_topl (fun v69 ev69 => ?_)
                      have hv69 : v69 = zL (T1 1 va) := by
                        rw [ev69]
                        exact iL64 (by omega) (by omega)
                      rw [hv69]
                      refine lv_lload hx hb dL_law_570 (lv_at hl 1 rfl) ?_
                      refine lv_lmul hx hb dL_law_572 ?_
                      refine lv_topl (fun v70 ev70 => ?_)
                      have hv70 : v70 = zL (T1 1 va * S 5 gb) := by
                        rw [ev70]
                        exact zL_mul _ _
                      rw [hv70]
                      have ynw : T1 2 wa = -1 := by
                        rcases Decidable.em (T1 2 wa = -1) with q | q
                        · exact q
                        · exact absurd ⟨yc26, q⟩ hnb
                      have bS : (sgI S k * T1 0 va * S 5 ga).natAbs ≤ 1 * 1000000 * 200 := mul3_le (by rcases hsg with q | q <;> rw [q.2] <;> decide) (by omega) (by omega)
                      have bY : (T1 1 va * S 5 gb).natAbs ≤ 1000000 * 200 := by rw [Int.natAbs_mul]; exact Nat.mul_le_mul (by omega) (by omega)
                      have bY0 : 0 < T1 1 va * S 5 gb := Int.mul_pos (by omega) (by omega)
                      refine g_Sq (As := [.long (zL (sgI S k * T1 0 va * S 5 ga)), .long (zL (T1 1 va * S 5 gb))]) (rest := []) F hP hS (k_L_fraction l A G w (sgI S k * T1 0 va * S 5 ga) (T1 1 va * S 5 gb) (by omega) (by omega) bY0) (va_cwS 2 hts gL_law_L_fraction rfl rfl rfl cd_L_fraction ⟨by rw [hR]; exact Nat.le_of_ble_eq_true rfl, by rw [hR]; exact Nat.le_of_ble_eq_true rfl⟩) rfl hl.1 (Nat.le_of_ble_eq_true rfl) dL_law_573 ⟨by rw [hR]; dsimp only; omega, by rw [hR]; dsimp only; omega⟩ rfl (fun r71 w72 H locs h73 hP hS => ?_)
                      obtain ⟨q74, ff75, er, nq, ff0, ff1, ewq⟩ := h73
                      rw [er, show va_rf (some q74) = (.ref q74 : Value) from rfl]
                      have f76 : w72 hs = some (.inl (G.2.1 2, n0, .inl Fh)) := by rw [ewq]; exact g_up_f hhs (g_neq hhs nq)
                      have f77 : w72 bz = some (.inl (G.2.1 2, n0, .inl Fb)) := by rw [ewq]; exact g_up_f hbz (g_neq hbz nq)
                      have f78 : w72 nn = some (.inl (G.2.1 0, 6, .inl Fn)) := by rw [ewq]; exact g_up_f hnn (g_neq hnn nq)
                      have f79 : w72 sh = some (.inl (G.2.1 0, 30, .inl Fs)) := by rw [ewq]; exact g_up_f hsh (g_neq hsh nq)
                      have f80 : w72 ge = some (.inl (G.2.1 0, 80, .inl Fg)) := by rw [ewq]; exact g_up_f hge (g_neq hge nq)
                      have f81 : w72 me = some (.inl (G.2.1 0, 32, .inl Fm)) := by rw [ewq]; exact g_up_f hme (g_neq hme nq)
                      have f82 : w72 pl = some (.inl (G.2.1 0, 20, .inl Fp)) := by rw [ewq]; exact g_up_f hpl (g_neq hpl nq)
                      have f83 : w72 q74 = some (.inl (G.2.1 1, 2, .inr (.inl ff75))) := by rw [ewq]; exact g_up_s _ _ _
                      have hB84 := lwC_sub (L' := [hs, bz, nn, sh, ge, me, pl]) (lwC_new hB nq ewq) (fun a ha => List.mem_cons_of_mem _ ha)
                      have hu9 : tUnk S T1 0 k 1 := ⟨by decide, by show T1 2 (saM S k 1) = -1; rw [← ewa]; exact ynw, fun j hj hn => by
                        have j0 : j = 0 := by have : j < 2 := hj; omega
                        rw [j0]; show T1 2 (saM S k 0) ≠ -1; rw [← eva]; exact yc26⟩
                      have big := mesh_big Hi Wi hfx hkm hu9
                      obtain ⟨s1, s2⟩ := mesh_s1 Hi Ht hkm hsg
                      rw [← eva, ← ega, ← egb] at s1 s2
                      unfold bigF at big
                      rw [← s1, ← s2] at big
                      have lN := fN_le (sgI S k * T1 0 va * S 5 ga) (T1 1 va * S 5 gb)
                      have lD := fD_le (sgI S k * T1 0 va * S 5 ga) (T1 1 va * S 5 gb)
                      refine lv_goto (tgt := 607) hx hb dL_law_576 (by decide) ?_
                      refine lv_astore (lv' := [(21, .ref q74), (19, .long (zL (sgI S k))), (17, .long (zL (S 5 gb))), (15, .long (zL (S 5 ga))), (14, .int (g_b (brkB S T1 0 k))), (13, .int (nI wa)), (12, .int (nI va)), (11, .int (nI k)), (10, .ref bz), (9, .ref hs), (8, .int (vlBroken S T1 true)), (7, .int (vlBroken S T1 false)), (6, .ref nn), (5, .ref pl), (4, .ref me), (3, .ref ge), (2, .ref sh), (1, .ref x), (0, .ref b9)]) hx hb dL_law_607 hl (by decide) rfl (fun ls hl => ?_)
                      refine lv_iload hx hb dL_law_609 (lv_at hl 4 rfl) ?_
                      refine lv_if_ne (tgt := 639) hx hb dL_law_611 (by decide) (fun c85 => ?_) (fun c85 => ?_)
                      · exact absurd (g_b1.mp c85) (fun q => hnb (brl.mp q).1)
                      · refine lv_aload hx hb dL_law_614 (lv_at hl 0 rfl) ?_
                        refine lv_iconst (v := 0) hx hb dL_law_616 (by decide) ?_
                        refine g_lald F hP f83 (by unfold vp_in; decide) dL_law_617 ?_
                        refine lv_topl (fun v86 ev86 => ?_)
                        have hv86 : v86 = zL (fN (sgI S k * T1 0 va * S 5 ga) (T1 1 va * S 5 gb)) := by
                          rw [ev86]
                          rw [show (0 : Int32).toNatClampNeg = 0 from by decide]
                          exact ff0
                        rw [hv86]
                        refine va_mabs_long hx hb (by rw [hml]; exact hl.1.symm) hown (hts _ (List.mem_append_left _ (List.mem_append_left _ (List.mem_append_left _ (List.mem_append_left _ (List.mem_append_left _ (List.mem_append_left _ (List.mem_append_left _ (List.mem_append_left _ (List.mem_append_left _ (List.mem_append_left _ (List.mem_append_left _ (List.mem_append_left _ (List.mem_append_left _ (List.mem_append_left _ (List.mem_of_getElem? (i := 8) rfl)))))))))))))))) (hts _ (List.mem_append_left _ (List.mem_append_left _ (List.mem_append_left _ (List.mem_append_left _ (List.mem_append_left _ (List.mem_append_left _ (List.mem_append_left _ (List.mem_append_left _ (List.mem_append_left _ (List.mem_append_left _ (List.mem_append_left _ (List.mem_append_left _ (List.mem_append_left _ (List.mem_append_left _ (List.mem_of_getElem? (i := 9) rfl)))))))))))))))) (hts _ (List.mem_append_left _ (List.mem_append_left _ (List.mem_append_left _ (List.mem_append_left _ (List.mem_append_left _ (List.mem_append_left _ (List.mem_append_left _ (List.mem_append_left _ (List.mem_append_left _ (List.mem_append_left _ (List.mem_append_left _ (List.mem_append_left _ (List.mem_append_left _ (List.mem_append_left _ (List.mem_of_getElem? (i := 10) rfl)))))))))))))))) (hts _ (List.mem_append_left _ (List.mem_append_left _ (List.mem_append_left _ (List.mem_append_left _ (List.mem_append_left _ (List.mem_append_left _ (List.mem_append_left _ (List.mem_append_left _ (List.mem_append_left _ (List.mem_append_left _ (List.mem_append_left _ (List.mem_append_left _ (List.mem_append_left _ (List.mem_append_left _ (List.mem_of_getElem? (i := 11) rfl)))))))))))))))) (by rw [hR]; exact Nat.le_of_ble_eq_true rfl) (by rw [hR]; exact Nat.le_of_ble_eq_true rfl) (by rw [hR]; first | exact Nat.le_of_ble_eq_true rfl | (dsimp only; omega)) (by rw [hR]; first | exact Nat.le_of_ble_eq_true rfl | (dsimp only; omega)) dL_law_618 ?_
                        refine lv_topl (fun v87 ev87 => ?_)
                        have hv87 : v87 = zL ((fN (sgI S k * T1 0 va * S 5 ga) (T1 1 va * S 5 gb)).natAbs : Int) := by
                          rw [ev87]
                          rw [zL_N]; exact zL_abs (by omega) (by omega)
                        rw [hv87]
                        refine lv_ldc2 (v := 1000000) hx hb hown (hts _ (List.mem_append_left _ (List.mem_append_left _ (List.mem_append_left _ (List.mem_append_left _ (List.mem_append_left _ (List.mem_append_left _ (List.mem_append_left _ (List.mem_append_left _ (List.mem_append_left _ (List.mem_append_left _ (List.mem_append_left _ (List.mem_append_left _ (List.mem_append_left _ (List.mem_append_left _ (List.mem_of_getElem? (i := 12) rfl)))))))))))))))) dL_law_621 ?_
                        refine W.lcmp hx hb dL_law_624 ?_
                        refine lv_if_gt (tgt := 641) hx hb dL_law_625 (by decide) (fun c88 => ?_) (fun c88 => ?_)
                        · have c88 := (lg_cmp_gt (zL ((fN (sgI S k * T1 0 va * S 5 ga) (T1 1 va * S 5 gb)).natAbs : Int)) 1000000).mp c88
                          skip
                          refine W.widen (k := 600 + 20 * (k + 1)) (n := 9000 + 120 * (k + 1)) (by omega) (by omega) ?_
                          have hyx := byB_m hBy (fun j hj q => absurd ((byE j).mp q).1 hnb)
                          obtain ⟨i89, ei89⟩ : ∃ y : Int32, y = nI k + (1) := ⟨_, rfl⟩
                          refine lv_iinc (v := i89) (lv' := [(11, .int i89), (21, .ref q74), (19, .long (zL (sgI S k))), (17, .long (zL (S 5 gb))), (15, .long (zL (S 5 ga))), (14, .int (g_b (brkB S T1 0 k))), (13, .int (nI wa)), (12, .int (nI va)), (10, .ref bz), (9, .ref hs), (8, .int (vlBroken S T1 true)), (7, .int (vlBroken S T1 false)), (6, .ref nn), (5, .ref pl), (4, .ref me), (3, .ref ge), (2, .ref sh), (1, .ref x), (0, .ref b9)]) hx hb dL_law_641 hl (k := 7) rfl (by rw [ei89]; rfl) (by decide) rfl (fun ls hl => ?_)
                          have hi89 : i89 = nI (k + 1) := by
                            rw [ei89]
                            exact nI_1 k
                          rw [hi89] at hl
                          refine lv_goto (tgt := 270) hx hb dL_law_644 (by decide) ?_
                          exact ih_L270 (k + 1) Fb B w72 H locs ls (by omega) (by omega) (hB84) (hyx) f76 f77 f78 f79 f80 f81 f82 hP hS (lv_sub hl [0, 8, 9, 10, 11, 12, 13, 14, 15, 16, 17, 18] rfl)
                        · have c88 : ¬ (1000000 < (zL ((fN (sgI S k * T1 0 va * S 5 ga) (T1 1 va * S 5 gb)).natAbs : Int))) := fun h => c88 ((lg_cmp_gt (zL ((fN (sgI S k * T1 0 va * S 5 ga) (T1 1 va * S 5 gb)).natAbs : Int)) 1000000).mpr h)
                          have yc88 : ¬ (1000000 < ((fN (sgI S k * T1 0 va * S 5 ga) (T1 1 va * S 5 gb)).natAbs : Int)) := fun q => c88 ((zL_lt (a := 1000000) (by omega) (by omega) (by omega) (by omega)).mpr q)
                          refine lv_aload hx hb dL_law_628 (lv_at hl 0 rfl) ?_
                          refine lv_iconst (v := 1) hx hb dL_law_630 (by decide) ?_
                          refine g_lald F hP f83 (by unfold vp_in; decide) dL_law_631 ?_
                          refine lv_topl (fun v90 ev90 => ?_)
                          have hv90 : v90 = zL (fD (sgI S k * T1 0 va * S 5 ga) (T1 1 va * S 5 gb)) := by
                            rw [ev90]
                            rw [show (1 : Int32).toNatClampNeg = 1 from by decide]
                            exact ff1
                          rw [hv90]
                          refine lv_ldc2 (v := 1000000) hx hb hown (hts _ (List.mem_append_left _ (List.mem_append_left _ (List.mem_append_left _ (List.mem_append_left _ (List.mem_append_left _ (List.mem_append_left _ (List.mem_append_left _ (List.mem_append_left _ (List.mem_append_left _ (List.mem_append_left _ (List.mem_append_left _ (List.mem_append_left _ (List.mem_append_left _ (List.mem_append_left _ (List.mem_of_getElem? (i := 12) rfl)))))))))))))))) dL_law_632 ?_
                          refine W.lcmp hx hb dL_law_635 ?_
                          refine lv_if_gt (tgt := 641) hx hb dL_law_636 (by decide) (fun c91 => ?_) (fun c91 => ?_)
                          · have c91 := (lg_cmp_gt (zL (fD (sgI S k * T1 0 va * S 5 ga) (T1 1 va * S 5 gb))) 1000000).mp c91
                            refine W.widen (k := 600 + 20 * (k + 1)) (n := 9000 + 120 * (k + 1)) (by omega) (by omega) ?_
                            have hyx := byB_m hBy (fun j hj q => absurd ((byE j).mp q).1 hnb)
                            obtain ⟨i92, ei92⟩ : ∃ y : Int32, y = nI k + (1) := ⟨_, rfl⟩
                            refine lv_iinc (v := i92) (lv' := [(11, .int i92), (21, .ref q74), (19, .long (zL (sgI S k))), (17, .long (zL (S 5 gb))), (15, .long (zL (S 5 ga))), (14, .int (g_b (brkB S T1 0 k))), (13, .int (nI wa)), (12, .int (nI va)), (10, .ref bz), (9, .ref hs), (8, .int (vlBroken S T1 true)), (7, .int (vlBroken S T1 false)), (6, .ref nn), (5, .ref pl), (4, .ref me), (3, .ref ge), (2, .ref sh), (1, .ref x), (0, .ref b9)]) hx hb dL_law_641 hl (k := 7) rfl (by rw [ei92]; rfl) (by decide) rfl (fun ls hl => ?_)
                            have hi92 : i92 = nI (k + 1) := by
                              rw [ei92]
                              exact nI_1 k
                            rw [hi92] at hl
                            refine lv_goto (tgt := 270) hx hb dL_law_644 (by decide) ?_
                            exact ih_L270 (k + 1) Fb B w72 H locs ls (by omega) (by omega) (hB84) (hyx) f76 f77 f78 f79 f80 f81 f82 hP hS (lv_sub hl [0, 8, 9, 10, 11, 12, 13, 14, 15, 16, 17, 18] rfl)
                          · have c91 : ¬ (1000000 < (zL (fD (sgI S k * T1 0 va * S 5 ga) (T1 1 va * S 5 gb)))) := fun h => c91 ((lg_cmp_gt (zL (fD (sgI S k * T1 0 va * S 5 ga) (T1 1 va * S 5 gb))) 1000000).mpr h)
                            exact absurd ((zL_lt (a := 1000000) (by omega) (by omega) (by omega) (by omega)).mpr (show 1000000 < fD (sgI S k * T1 0 va * S 5 ga) (T1 1 va * S 5 gb) from by omega)) c91
              refine lv_aload hx hb dL_law_402 (lv_at hl 8 rfl) ?_
              refine lv_iload hx hb dL_law_404 (lv_at hl 5 rfl) ?_
              refine g_zald F hP hhs (vp_in_nI (by omega) (by omega)) dL_law_406 ?_
              refine lv_topi (fun v93 ev93 => ?_)
              have hv93 : v93 = g_b (decide (T1 2 va ≠ -1)) := by
                rw [ev93]
                rw [nI_clamp (n := va) (by omega)]
                exact hFh va hva
              rw [hv93]
              refine lv_if_eq (tgt := 540) hx hb dL_law_407 (by decide) (fun c94 => ?_) (fun c94 => ?_)
              · have yc94 : T1 2 va = -1 := Decidable.not_not.mp (of_decide_eq_false (g_b0.mp c94))
                refine W.widen (k := (600 + 20 * k)) (n := (9000 + 120 * k)) (by omega) (by omega) ?_
                exact J540  H locs ls (fun q => q.1 yc94) hP hS (lv_sub hl [0, 1, 2, 3, 4, 5, 6, 7, 8, 9, 10, 11, 12, 13, 14, 15, 16, 17] rfl)
              · have yc94 : T1 2 va ≠ -1 := of_decide_eq_true (g_b1.mp c94)
                refine lv_aload hx hb dL_law_410 (lv_at hl 8 rfl) ?_
                refine lv_iload hx hb dL_law_412 (lv_at hl 4 rfl) ?_
                refine g_zald F hP hhs (vp_in_nI (by omega) (by omega)) dL_law_414 ?_
                refine lv_topi (fun v95 ev95 => ?_)
                have hv95 : v95 = g_b (decide (T1 2 wa ≠ -1)) := by
                  rw [ev95]
                  rw [nI_clamp (n := wa) (by omega)]
                  exact hFh wa hwa
                rw [hv95]
                refine lv_if_eq (tgt := 540) hx hb dL_law_415 (by decide) (fun c96 => ?_) (fun c96 => ?_)
                · have yc96 : T1 2 wa = -1 := Decidable.not_not.mp (of_decide_eq_false (g_b0.mp c96))
                  refine W.widen (k := (600 + 20 * k)) (n := (9000 + 120 * k)) (by omega) (by omega) ?_
                  exact J540  H locs ls (fun q => q.2 yc96) hP hS (lv_sub hl [0, 1, 2, 3, 4, 5, 6, 7, 8, 9, 10, 11, 12, 13, 14, 15, 16, 17] rfl)
                · have yc96 : T1 2 wa ≠ -1 := of_decide_eq_true (g_b1.mp c96)
                  refine lv_aload_n hx hb dL_law_418 rfl (lv_at hl 16 rfl) ?_
                  refine lv_iload hx hb dL_law_419 (lv_at hl 5 rfl) ?_
                  refine lv_iconst (v := 0) hx hb dL_law_421 (by decide) ?_
                  rw [show (.int 0 : Value) = .int (g_b false) from rfl]
                  have hk0 : ((va : Nat) : Int) < S 0 0 := by omega
                  have kk0 := kN_n (k := va) (by omega)
                  have ki := nI_i va (by omega)
                  obtain ⟨ad, Cn, T, h00, hBn, hT3, hLn⟩ := id hB
                  rw [← eT1] at hT3
                  have hCo := k_X6_speed l hlt A G w ad Cn S T (nI va) false hBn.1 hBn.2.1 hBn.2.2.1 hBn.2.2.2.1
                  rw [h00] at hCo
                  have hx0 := rep_x hBn.1 hBn.2.1
                  rw [h00] at hx0
                  have hcd := (show cdSpeed S T (nI va) = 0 from (if_pos ⟨by omega, by omega⟩).trans (if_pos (by rw [kk0, hT3 2 (by decide)]; exact yc94)))
                  refine g_cVi (As := [.int (nI va), .int (g_b false)]) (rest := []) F hP hS hCo (cwV 2 hts gL_law_X6_speed rfl rfl rfl cd_X6_speed ⟨by rw [hR]; exact Nat.le_of_ble_eq_true rfl, by rw [hR]; exact Nat.le_of_ble_eq_true rfl⟩) hx0 rfl rfl rfl hl.1 (Nat.le_of_ble_eq_true rfl) dL_law_422 ⟨by rw [hR]; dsimp only; omega, by rw [hR]; dsimp only; omega⟩ rfl (fun E w9 ce q9 H locs hpx hP hS hce hcv hcl => ?_) (fun r97 w98 H locs h99 hP hS => ?_)
                  · rcases hpx.2 with ⟨_, q⟩ | ⟨_, q⟩ <;> exact absurd (hcd.symm.trans q) (by decide)
                  · obtain ⟨hc0, er, ew⟩ := h99
                    rw [ew] at hP
                    rw [er.trans ((show vlSpeed T (nI va) false = iL (T1 0 va) from by unfold vlSpeed; rw [kk0, hT3 0 (by decide), hT3 1 (by decide)]; rfl))]
                    refine lv_i2l hx hb dL_law_425 rfl ?_
                    refine lv_topl (fun v100 ev100 => ?_)
                    have hv100 : v100 = zL (T1 0 va) := by
                      rw [ev100]
                      exact iL64 (by omega) (by omega)
                    rw [hv100]
                    refine lv_lload hx hb dL_law_426 (lv_at hl 2 rfl) ?_
                    refine lv_lmul hx hb dL_law_428 ?_
                    refine lv_topl (fun v101 ev101 => ?_)
                    have hv101 : v101 = zL (T1 0 va * S 5 ga) := by
                      rw [ev101]
                      exact zL_mul _ _
                    rw [hv101]
                    refine lv_aload_n hx hb dL_law_429 rfl (lv_at hl 16 rfl) ?_
                    refine lv_iload hx hb dL_law_430 (lv_at hl 4 rfl) ?_
                    refine lv_iconst (v := 1) hx hb dL_law_432 (by decide) ?_
                    rw [show (.int 1 : Value) = .int (g_b true) from rfl]
                    have hk0 : ((wa : Nat) : Int) < S 0 0 := by omega
                    have kk0 := kN_n (k := wa) (by omega)
                    have ki := nI_i wa (by omega)
                    obtain ⟨ad, Cn, T, h00, hBn, hT3, hLn⟩ := id hB
                    rw [← eT1] at hT3
                    have hCo := k_X6_speed l hlt A G w ad Cn S T (nI wa) true hBn.1 hBn.2.1 hBn.2.2.1 hBn.2.2.2.1
                    rw [h00] at hCo
                    have hx0 := rep_x hBn.1 hBn.2.1
                    rw [h00] at hx0
                    have hcd := (show cdSpeed S T (nI wa) = 0 from (if_pos ⟨by omega, by omega⟩).trans (if_pos (by rw [kk0, hT3 2 (by decide)]; exact yc96)))
                    refine g_cVi (As := [.int (nI wa), .int (g_b true)]) (rest := [.long (zL (T1 0 va * S 5 ga))]) F hP hS hCo (cwV 2 hts gL_law_X6_speed rfl rfl rfl cd_X6_speed ⟨by rw [hR]; exact Nat.le_of_ble_eq_true rfl, by rw [hR]; exact Nat.le_of_ble_eq_true rfl⟩) hx0 rfl rfl rfl hl.1 (Nat.le_of_ble_eq_true rfl) dL_law_433 ⟨by rw [hR]; dsimp only; omega, by rw [hR]; dsimp only; omega⟩ rfl (fun E w9 ce q9 H locs hpx hP hS hce hcv hcl => ?_) (fun r102 w103 H locs h104 hP hS => ?_)
                    · rcases hpx.2 with ⟨_, q⟩ | ⟨_, q⟩ <;> exact absurd (hcd.symm.trans q) (by decide)
                    · obtain ⟨hc0, er, ew⟩ := h104
                      rw [ew] at hP
                      rw [er.trans ((show vlSpeed T (nI wa) true = iL (T1 1 wa) from by unfold vlSpeed; rw [kk0, hT3 0 (by decide), hT3 1 (by decide)]; rfl))]
                      refine lv_i2l hx hb dL_law_436 rfl ?_
                      refine lv_topl (fun v105 ev105 => ?_)
                      have hv105 : v105 = zL (T1 1 wa) := by
                        rw [ev105]
                        exact iL64 (by omega) (by omega)
                      rw [hv105]
                      refine lv_lmul hx hb dL_law_437 ?_
                      refine lv_topl (fun v106 ev106 => ?_)
                      have hv106 : v106 = zL (T1 0 va * S 5 ga * T1 1 wa) := by
                        rw [ev106]
                        exact zL_mul _ _
                      rw [hv106]
                      refine lv_lload hx hb dL_law_438 (lv_at hl 0 rfl) ?_
                      refine lv_aload_n hx hb dL_law_440 rfl (lv_at hl 16 rfl) ?_
                      refine lv_iload hx hb dL_law_441 (lv_at hl 4 rfl) ?_
                      refine lv_iconst (v := 0) hx hb dL_law_443 (by decide) ?_
                      rw [show (.int 0 : Value) = .int (g_b false) from rfl]
                      have hk0 : ((wa : Nat) : Int) < S 0 0 := by omega
                      have kk0 := kN_n (k := wa) (by omega)
                      have ki := nI_i wa (by omega)
                      obtain ⟨ad, Cn, T, h00, hBn, hT3, hLn⟩ := id hB
                      rw [← eT1] at hT3
                      have hCo := k_X6_speed l hlt A G w ad Cn S T (nI wa) false hBn.1 hBn.2.1 hBn.2.2.1 hBn.2.2.2.1
                      rw [h00] at hCo
                      have hx0 := rep_x hBn.1 hBn.2.1
                      rw [h00] at hx0
                      have hcd := (show cdSpeed S T (nI wa) = 0 from (if_pos ⟨by omega, by omega⟩).trans (if_pos (by rw [kk0, hT3 2 (by decide)]; exact yc96)))
                      refine g_cVi (As := [.int (nI wa), .int (g_b false)]) (rest := [.long (zL (sgI S k)), .long (zL (T1 0 va * S 5 ga * T1 1 wa))]) F hP hS hCo (cwV 2 hts gL_law_X6_speed rfl rfl rfl cd_X6_speed ⟨by rw [hR]; exact Nat.le_of_ble_eq_true rfl, by rw [hR]; exact Nat.le_of_ble_eq_true rfl⟩) hx0 rfl rfl rfl hl.1 (Nat.le_of_ble_eq_true rfl) dL_law_444 ⟨by rw [hR]; dsimp only; omega, by rw [hR]; dsimp only; omega⟩ rfl (fun E w9 ce q9 H locs hpx hP hS hce hcv hcl => ?_) (fun r107 w108 H locs h109 hP hS => ?_)
                      · rcases hpx.2 with ⟨_, q⟩ | ⟨_, q⟩ <;> exact absurd (hcd.symm.trans q) (by decide)
                      · obtain ⟨hc0, er, ew⟩ := h109
                        rw [ew] at hP
                        rw [er.trans ((show vlSpeed T (nI wa) false = iL (T1 0 wa) from by unfold vlSpeed; rw [kk0, hT3 0 (by decide), hT3 1 (by decide)]; rfl))]
                        refine lv_i2l hx hb dL_law_447 rfl ?_
                        refine lv_topl (fun v110 ev110 => ?_)
                        have hv110 : v110 = zL (T1 0 wa) := by
                          rw [ev110]
                          exact iL64 (by omega) (by omega)
                        rw [hv110]
                        refine lv_lmul hx hb dL_law_448 ?_
                        refine lv_topl (fun v111 ev111 => ?_)
                        have hv111 : v111 = zL (sgI S k * T1 0 wa) := by
                          rw [ev111]
                          exact zL_mul _ _
                        rw [hv111]
                        refine lv_lload hx hb dL_law_449 (lv_at hl 1 rfl) ?_
                        refine lv_lmul hx hb dL_law_451 ?_
                        refine lv_topl (fun v112 ev112 => ?_)
                        have hv112 : v112 = zL (sgI S k * T1 0 wa * S 5 gb) := by
                          rw [ev112]
                          exact zL_mul _ _
                        rw [hv112]
                        refine lv_aload_n hx hb dL_law_452 rfl (lv_at hl 16 rfl) ?_
                        refine lv_iload hx hb dL_law_453 (lv_at hl 5 rfl) ?_
                        refine lv_iconst (v := 1) hx hb dL_law_455 (by decide) ?_
                        rw [show (.int 1 : Value) = .int (g_b true) from rfl]
                        have hk0 : ((va : Nat) : Int) < S 0 0 := by omega
                        have kk0 := kN_n (k := va) (by omega)
                        have ki := nI_i va (by omega)
                        obtain ⟨ad, Cn, T, h00, hBn, hT3, hLn⟩ := id hB
                        rw [← eT1] at hT3
                        have hCo := k_X6_speed l hlt A G w ad Cn S T (nI va) true hBn.1 hBn.2.1 hBn.2.2.1 hBn.2.2.2.1
                        rw [h00] at hCo
                        have hx0 := rep_x hBn.1 hBn.2.1
                        rw [h00] at hx0
                        have hcd := (show cdSpeed S T (nI va) = 0 from (if_pos ⟨by omega, by omega⟩).trans (if_pos (by rw [kk0, hT3 2 (by decide)]; exact yc94)))
                        refine g_cVi (As := [.int (nI va), .int (g_b true)]) (rest := [.long (zL (sgI S k * T1 0 wa * S 5 gb)), .long (zL (T1 0 va * S 5 ga * T1 1 wa))]) F hP hS hCo (cwV 2 hts gL_law_X6_speed rfl rfl rfl cd_X6_speed ⟨by rw [hR]; exact Nat.le_of_ble_eq_true rfl, by rw [hR]; exact Nat.le_of_ble_eq_true rfl⟩) hx0 rfl rfl rfl hl.1 (Nat.le_of_ble_eq_true rfl) dL_law_456 ⟨by rw [hR]; dsimp only; omega, by rw [hR]; dsimp only; omega⟩ rfl (fun E w9 ce q9 H locs hpx hP hS hce hcv hcl => ?_) (fun r113 w114 H locs h115 hP hS => ?_)
                        · rcases hpx.2 with ⟨_, q⟩ | ⟨_, q⟩ <;> exact absurd (hcd.symm.trans q) (by decide)
                        · obtain ⟨hc0, er, ew⟩ := h115
                          rw [ew] at hP
                          rw [er.trans ((show vlSpeed T (nI va) true = iL (T1 1 va) from by unfold vlSpeed; rw [kk0, hT3 0 (by decide), hT3 1 (by decide)]; rfl))]
                          refine lv_i2l hx hb dL_law_459 rfl ?_
                          refine lv_topl (fun v116 ev116 => ?_)
                          have hv116 : v116 = zL (T1 1 va) := by
                            rw [ev116]
                            exact iL64 (by omega) (by omega)
                          rw [hv116]
                          refine lv_lmul hx hb dL_law_460 ?_
                          refine lv_topl (fun v117 ev117 => ?_)
                          have hv117 : v117 = zL (sgI S k * T1 0 wa * S 5 gb * T1 1 va) := by
                            rw [ev117]
                            exact zL_mul _ _
                          rw [hv117]
                          have bA : (T1 0 va * S 5 ga * T1 1 wa).natAbs ≤ 1000000 * 200 * 1000000 := mul3_le (by omega) (by omega) (by omega)
                          have bS : (sgI S k * T1 0 wa * S 5 gb).natAbs ≤ 1 * 1000000 * 200 := mul3_le (by rcases hsg with q | q <;> rw [q.2] <;> decide) (by omega) (by omega)
                          have bB : (sgI S k * T1 0 wa * S 5 gb * T1 1 va).natAbs ≤ 1 * 1000000 * 200 * 1000000 := by rw [Int.natAbs_mul]; exact Nat.mul_le_mul bS (by omega)
                          have eqz : zL (T1 0 va * S 5 ga * T1 1 wa) = zL (sgI S k * T1 0 wa * S 5 gb * T1 1 va) ↔ lawM S T1 k := by
                            rw [lawE]
                            exact zL_eq (by omega) (by omega) (by omega) (by omega)
                          refine W.lcmp hx hb dL_law_461 ?_
                          refine lv_if_ne (tgt := 469) hx hb dL_law_462 (by decide) (fun c118 => ?_) (fun c118 => ?_)
                          · have c118 : ¬ ((zL (T1 0 va * S 5 ga * T1 1 wa)) = (zL (sgI S k * T1 0 wa * S 5 gb * T1 1 va))) := fun h => c118 ((lg_cmp_eq (zL (T1 0 va * S 5 ga * T1 1 wa)) (zL (sgI S k * T1 0 wa * S 5 gb * T1 1 va))).mpr h)
                            have yc118 : ¬ lawM S T1 k := fun q => c118 (eqz.mpr q)
                            have hbr : brkB S T1 0 k = true := brl.mpr ⟨⟨yc94, yc96⟩, yc118⟩
                            refine lv_iconst (v := 0) hx hb dL_law_469 (by decide) ?_
                            refine lv_istore (lv' := [(21, .int 0), (19, .long (zL (sgI S k))), (17, .long (zL (S 5 gb))), (15, .long (zL (S 5 ga))), (14, .int (g_b (brkB S T1 0 k))), (13, .int (nI wa)), (12, .int (nI va)), (11, .int (nI k)), (10, .ref bz), (9, .ref hs), (8, .int (vlBroken S T1 true)), (7, .int (vlBroken S T1 false)), (6, .ref nn), (5, .ref pl), (4, .ref me), (3, .ref ge), (2, .ref sh), (1, .ref x), (0, .ref b9)]) hx hb dL_law_470 hl (by decide) rfl (fun ls hl => ?_)
                            refine lv_iload hx hb dL_law_472 (lv_at hl 0 rfl) ?_
                            refine lv_iload hx hb dL_law_474 (lv_at hl 4 rfl) ?_
                            refine lv_icmp_ne (tgt := 481) hx hb dL_law_476 (by decide) (fun c119 => ?_) (fun c119 => ?_)
                            · refine lv_iload hx hb dL_law_481 (lv_at hl 0 rfl) ?_
                              refine lv_if_eq (tgt := 509) hx hb dL_law_483 (by decide) (fun c120 => ?_) (fun c120 => ?_)
                              · refine lv_iload hx hb dL_law_509 (lv_at hl 0 rfl) ?_
                                refine lv_if_eq (tgt := 641) hx hb dL_law_511 (by decide) (fun c121 => ?_) (fun c121 => ?_)
                                · refine W.widen (k := 600 + 20 * (k + 1)) (n := 9000 + 120 * (k + 1)) (by omega) (by omega) ?_
                                  have hyx := byB_m hBy (fun j hj q => absurd ((byE j).mp q).2.1 yc118)
                                  obtain ⟨i122, ei122⟩ : ∃ y : Int32, y = nI k + (1) := ⟨_, rfl⟩
                                  refine lv_iinc (v := i122) (lv' := [(11, .int i122), (21, .int 0), (19, .long (zL (sgI S k))), (17, .long (zL (S 5 gb))), (15, .long (zL (S 5 ga))), (14, .int (g_b (brkB S T1 0 k))), (13, .int (nI wa)), (12, .int (nI va)), (10, .ref bz), (9, .ref hs), (8, .int (vlBroken S T1 true)), (7, .int (vlBroken S T1 false)), (6, .ref nn), (5, .ref pl), (4, .ref me), (3, .ref ge), (2, .ref sh), (1, .ref x), (0, .ref b9)]) hx hb dL_law_641 hl (k := 7) rfl (by rw [ei122]; rfl) (by decide) rfl (fun ls hl => ?_)
                                  have hi122 : i122 = nI (k + 1) := by
                                    rw [ei122]
                                    exact nI_1 k
                                  rw [hi122] at hl
                                  refine lv_goto (tgt := 270) hx hb dL_law_644 (by decide) ?_
                                  exact ih_L270 (k + 1) Fb B w H locs ls (by omega) (by omega) (hB) (hyx) hhs hbz hnn hsh hge hme hpl hP hS (lv_sub hl [0, 8, 9, 10, 11, 12, 13, 14, 15, 16, 17, 18] rfl)
                                · exact absurd (by decide) c121
                              · exact absurd (by decide) c120
                            · rw [hbr] at c119
                              exact absurd c119 (by decide)
                          · have c118 := (lg_cmp_eq (zL (T1 0 va * S 5 ga * T1 1 wa)) (zL (sgI S k * T1 0 wa * S 5 gb * T1 1 va))).mp c118
                            have yc118 : lawM S T1 k := eqz.mp c118
                            have hbr : brkB S T1 0 k = false := by
                              cases hq : brkB S T1 0 k
                              · rfl
                              · exact absurd yc118 (brl.mp hq).2
                            refine lv_iconst (v := 1) hx hb dL_law_465 (by decide) ?_
                            refine lv_goto (tgt := 470) hx hb dL_law_466 (by decide) ?_
                            refine lv_istore (lv' := [(21, .int 1), (19, .long (zL (sgI S k))), (17, .long (zL (S 5 gb))), (15, .long (zL (S 5 ga))), (14, .int (g_b (brkB S T1 0 k))), (13, .int (nI wa)), (12, .int (nI va)), (11, .int (nI k)), (10, .ref bz), (9, .ref hs), (8, .int (vlBroken S T1 true)), (7, .int (vlBroken S T1 false)), (6, .ref nn), (5, .ref pl), (4, .ref me), (3, .ref ge), (2, .ref sh), (1, .ref x), (0, .ref b9)]) hx hb dL_law_470 hl (by decide) rfl (fun ls hl => ?_)
                            refine lv_iload hx hb dL_law_472 (lv_at hl 0 rfl) ?_
                            refine lv_iload hx hb dL_law_474 (lv_at hl 4 rfl) ?_
                            refine lv_icmp_ne (tgt := 481) hx hb dL_law_476 (by decide) (fun c123 => ?_) (fun c123 => ?_)
                            · refine lv_iload hx hb dL_law_481 (lv_at hl 0 rfl) ?_
                              refine lv_if_eq (tgt := 509) hx hb dL_law_483 (by decide) (fun c124 => ?_) (fun c124 => ?_)
                              · exact absurd c124 (by decide)
                              · refine lv_aload_n hx hb dL_law_486 rfl (lv_at hl 17 rfl) ?_
                                refine lv_iload hx hb dL_law_487 (lv_at hl 5 rfl) ?_
                                have hk0 : ((wa : Nat) : Int) < S 0 0 := by omega
                                have kk0 := kN_n (k := wa) (by omega)
                                have ki := nI_i wa (by omega)
                                obtain ⟨ad, Cn, T, h00, hBn, hT3, hLn⟩ := id hB
                                rw [← eT1] at hT3
                                have hCo := k_X6_stage l hlt A G w ad Cn S T (nI wa) hBn.1 hBn.2.1 hBn.2.2.1 hBn.2.2.2.1
                                rw [h00] at hCo
                                have hx0 := rep_x hBn.1 hBn.2.1
                                rw [h00] at hx0
                                have hcd := (show cdShaft S (nI wa) = 0 from if_pos ⟨by omega, by omega⟩)
                                refine g_cVi (As := [.int (nI wa)]) (rest := []) F hP hS hCo (cwV 1 hts gL_law_X6_stage rfl rfl rfl cd_X6_stage ⟨by rw [hR]; exact Nat.le_of_ble_eq_true rfl, by rw [hR]; exact Nat.le_of_ble_eq_true rfl⟩) hx0 rfl rfl rfl hl.1 (Nat.le_of_ble_eq_true rfl) dL_law_489 ⟨by rw [hR]; dsimp only; omega, by rw [hR]; dsimp only; omega⟩ rfl (fun E w9 ce q9 H locs hpx hP hS hce hcv hcl => ?_) (fun r125 w126 H locs h127 hP hS => ?_)
                                · obtain ⟨_, q⟩ := hpx.2
                                  exact absurd (hcd.symm.trans q) (by decide)
                                · obtain ⟨hc0, er, ew⟩ := h127
                                  rw [ew] at hP
                                  rw [er.trans ((show vlStage T (nI wa) = iL (T1 2 wa) from by unfold vlStage; rw [kk0, hT3 2 (by decide)]))]
                                  refine lv_aload_n hx hb dL_law_492 rfl (lv_at hl 17 rfl) ?_
                                  refine lv_iload hx hb dL_law_493 (lv_at hl 6 rfl) ?_
                                  have hk0 : ((va : Nat) : Int) < S 0 0 := by omega
                                  have kk0 := kN_n (k := va) (by omega)
                                  have ki := nI_i va (by omega)
                                  obtain ⟨ad, Cn, T, h00, hBn, hT3, hLn⟩ := id hB
                                  rw [← eT1] at hT3
                                  have hCo := k_X6_stage l hlt A G w ad Cn S T (nI va) hBn.1 hBn.2.1 hBn.2.2.1 hBn.2.2.2.1
                                  rw [h00] at hCo
                                  have hx0 := rep_x hBn.1 hBn.2.1
                                  rw [h00] at hx0
                                  have hcd := (show cdShaft S (nI va) = 0 from if_pos ⟨by omega, by omega⟩)
                                  refine g_cVi (As := [.int (nI va)]) (rest := [.int (iL (T1 2 wa))]) F hP hS hCo (cwV 1 hts gL_law_X6_stage rfl rfl rfl cd_X6_stage ⟨by rw [hR]; exact Nat.le_of_ble_eq_true rfl, by rw [hR]; exact Nat.le_of_ble_eq_true rfl⟩) hx0 rfl rfl rfl hl.1 (Nat.le_of_ble_eq_true rfl) dL_law_495 ⟨by rw [hR]; dsimp only; omega, by rw [hR]; dsimp only; omega⟩ rfl (fun E w9 ce q9 H locs hpx hP hS hce hcv hcl => ?_) (fun r128 w129 H locs h130 hP hS => ?_)
                                  · obtain ⟨_, q⟩ := hpx.2
                                    exact absurd (hcd.symm.trans q) (by decide)
                                  · obtain ⟨hc0, er, ew⟩ := h130
                                    rw [ew] at hP
                                    rw [er.trans ((show vlStage T (nI va) = iL (T1 2 va) from by unfold vlStage; rw [kk0, hT3 2 (by decide)]))]
                                    refine lv_iconst (v := 1) hx hb dL_law_498 (by decide) ?_
                                    refine lv_iadd hx hb dL_law_499 ?_
                                    refine lv_topi (fun v131 ev131 => ?_)
                                    have hv131 : v131 = iL (T1 2 va + 1) := by
                                      rw [ev131]
                                      exact iL_add _ 1
                                    rw [hv131]
                                    refine lv_icmp_ne (tgt := 509) hx hb dL_law_500 (by decide) (fun c132 => ?_) (fun c132 => ?_)
                                    · have kc132 : iL (T1 2 wa) = iL (T1 2 va + 1) ↔ T1 2 wa = T1 2 va + 1 := iL_eq (by omega) (by omega) (by omega) (by omega)
                                      rw [kc132] at c132
                                      refine lv_iload hx hb dL_law_509 (lv_at hl 0 rfl) ?_
                                      refine lv_if_eq (tgt := 641) hx hb dL_law_511 (by decide) (fun c133 => ?_) (fun c133 => ?_)
                                      · exact absurd c133 (by decide)
                                      · refine lv_aload_n hx hb dL_law_514 rfl (lv_at hl 17 rfl) ?_
                                        refine lv_iload hx hb dL_law_515 (lv_at hl 6 rfl) ?_
                                        have hk0 : ((va : Nat) : Int) < S 0 0 := by omega
                                        have kk0 := kN_n (k := va) (by omega)
                                        have ki := nI_i va (by omega)
                                        obtain ⟨ad, Cn, T, h00, hBn, hT3, hLn⟩ := id hB
                                        rw [← eT1] at hT3
                                        have hCo := k_X6_stage l hlt A G w ad Cn S T (nI va) hBn.1 hBn.2.1 hBn.2.2.1 hBn.2.2.2.1
                                        rw [h00] at hCo
                                        have hx0 := rep_x hBn.1 hBn.2.1
                                        rw [h00] at hx0
                                        have hcd := (show cdShaft S (nI va) = 0 from if_pos ⟨by omega, by omega⟩)
                                        refine g_cVi (As := [.int (nI va)]) (rest := []) F hP hS hCo (cwV 1 hts gL_law_X6_stage rfl rfl rfl cd_X6_stage ⟨by rw [hR]; exact Nat.le_of_ble_eq_true rfl, by rw [hR]; exact Nat.le_of_ble_eq_true rfl⟩) hx0 rfl rfl rfl hl.1 (Nat.le_of_ble_eq_true rfl) dL_law_517 ⟨by rw [hR]; dsimp only; omega, by rw [hR]; dsimp only; omega⟩ rfl (fun E w9 ce q9 H locs hpx hP hS hce hcv hcl => ?_) (fun r134 w135 H locs h136 hP hS => ?_)
                                        · obtain ⟨_, q⟩ := hpx.2
                                          exact absurd (hcd.symm.trans q) (by decide)
                                        · obtain ⟨hc0, er, ew⟩ := h136
                                          rw [ew] at hP
                                          rw [er.trans ((show vlStage T (nI va) = iL (T1 2 va) from by unfold vlStage; rw [kk0, hT3 2 (by decide)]))]
                                          refine lv_aload_n hx hb dL_law_520 rfl (lv_at hl 17 rfl) ?_
                                          refine lv_iload hx hb dL_law_521 (lv_at hl 5 rfl) ?_
                                          have hk0 : ((wa : Nat) : Int) < S 0 0 := by omega
                                          have kk0 := kN_n (k := wa) (by omega)
                                          have ki := nI_i wa (by omega)
                                          obtain ⟨ad, Cn, T, h00, hBn, hT3, hLn⟩ := id hB
                                          rw [← eT1] at hT3
                                          have hCo := k_X6_stage l hlt A G w ad Cn S T (nI wa) hBn.1 hBn.2.1 hBn.2.2.1 hBn.2.2.2.1
                                          rw [h00] at hCo
                                          have hx0 := rep_x hBn.1 hBn.2.1
                                          rw [h00] at hx0
                                          have hcd := (show cdShaft S (nI wa) = 0 from if_pos ⟨by omega, by omega⟩)
                                          refine g_cVi (As := [.int (nI wa)]) (rest := [.int (iL (T1 2 va))]) F hP hS hCo (cwV 1 hts gL_law_X6_stage rfl rfl rfl cd_X6_stage ⟨by rw [hR]; exact Nat.le_of_ble_eq_true rfl, by rw [hR]; exact Nat.le_of_ble_eq_true rfl⟩) hx0 rfl rfl rfl hl.1 (Nat.le_of_ble_eq_true rfl) dL_law_523 ⟨by rw [hR]; dsimp only; omega, by rw [hR]; dsimp only; omega⟩ rfl (fun E w9 ce q9 H locs hpx hP hS hce hcv hcl => ?_) (fun r137 w138 H locs h139 hP hS => ?_)
                                          · obtain ⟨_, q⟩ := hpx.2
                                            exact absurd (hcd.symm.trans q) (by decide)
                                          · obtain ⟨hc0, er, ew⟩ := h139
                                            rw [ew] at hP
                                            rw [er.trans ((show vlStage T (nI wa) = iL (T1 2 wa) from by unfold vlStage; rw [kk0, hT3 2 (by decide)]))]
                                            refine lv_iconst (v := 1) hx hb dL_law_526 (by decide) ?_
                                            refine lv_iadd hx hb dL_law_527 ?_
                                            refine lv_topi (fun v140 ev140 => ?_)
                                            have hv140 : v140 = iL (T1 2 wa + 1) := by
                                              rw [ev140]
                                              exact iL_add _ 1
                                            rw [hv140]
                                            refine lv_icmp_ne (tgt := 641) hx hb dL_law_528 (by decide) (fun c141 => ?_) (fun c141 => ?_)
                                            · have kc141 : iL (T1 2 va) = iL (T1 2 wa + 1) ↔ T1 2 va = T1 2 wa + 1 := iL_eq (by omega) (by omega) (by omega) (by omega)
                                              rw [kc141] at c141
                                              refine W.widen (k := 600 + 20 * (k + 1)) (n := 9000 + 120 * (k + 1)) (by omega) (by omega) ?_
                                              have hyx := byB_m hBy (fun j hj q => ((byE j).mp q).2.2.elim (fun q1 => (absurd q1.2 c132)) (fun q1 => (absurd q1.2 c141)))
                                              obtain ⟨i142, ei142⟩ : ∃ y : Int32, y = nI k + (1) := ⟨_, rfl⟩
                                              refine lv_iinc (v := i142) (lv' := [(11, .int i142), (21, .int 1), (19, .long (zL (sgI S k))), (17, .long (zL (S 5 gb))), (15, .long (zL (S 5 ga))), (14, .int (g_b (brkB S T1 0 k))), (13, .int (nI wa)), (12, .int (nI va)), (10, .ref bz), (9, .ref hs), (8, .int (vlBroken S T1 true)), (7, .int (vlBroken S T1 false)), (6, .ref nn), (5, .ref pl), (4, .ref me), (3, .ref ge), (2, .ref sh), (1, .ref x), (0, .ref b9)]) hx hb dL_law_641 hl (k := 7) rfl (by rw [ei142]; rfl) (by decide) rfl (fun ls hl => ?_)
                                              have hi142 : i142 = nI (k + 1) := by
                                                rw [ei142]
                                                exact nI_1 k
                                              rw [hi142] at hl
                                              refine lv_goto (tgt := 270) hx hb dL_law_644 (by decide) ?_
                                              exact ih_L270 (k + 1) Fb B w H locs ls (by omega) (by omega) (hB) (hyx) hhs hbz hnn hsh hge hme hpl hP hS (lv_sub hl [0, 8, 9, 10, 11, 12, 13, 14, 15, 16, 17, 18] rfl)
                                            · have kc141 : iL (T1 2 va) = iL (T1 2 wa + 1) ↔ T1 2 va = T1 2 wa + 1 := iL_eq (by omega) (by omega) (by omega) (by omega)
                                              rw [kc141] at c141
                                              refine lv_aload hx hb dL_law_531 (lv_at hl 8 rfl) ?_
                                              refine lv_iload hx hb dL_law_533 (lv_at hl 6 rfl) ?_
                                              refine lv_iconst (v := 1) hx hb dL_law_535 (by decide) ?_
                                              refine g_zast F hP hS hbz (vp_in_nI (by omega) (by omega)) (by first | rfl | exact g_nb8 _) dL_law_536 (fun H locs hP hS => ?_)
                                              rw [nI_clamp (n := va) (by omega)] at hP
                                              obtain ⟨w143, ew143⟩ : ∃ z, z = g_up w bz (.inl (G.2.1 2, n0, .inl (upd Fb va 1))) := ⟨_, rfl⟩
                                              have hP : g_P A G w143 H := by rw [ew143]; exact hP
                                              have f144 : w143 hs = some (.inl (G.2.1 2, n0, .inl Fh)) := by rw [ew143]; exact g_up_f hhs (dhsbz)
                                              have f145 : w143 nn = some (.inl (G.2.1 0, 6, .inl Fn)) := by rw [ew143]; exact g_up_f hnn (Ne.symm (dbznn))
                                              have f146 : w143 sh = some (.inl (G.2.1 0, 30, .inl Fs)) := by rw [ew143]; exact g_up_f hsh (Ne.symm (dbzsh))
                                              have f147 : w143 ge = some (.inl (G.2.1 0, 80, .inl Fg)) := by rw [ew143]; exact g_up_f hge (Ne.symm (dbzge))
                                              have f148 : w143 me = some (.inl (G.2.1 0, 32, .inl Fm)) := by rw [ew143]; exact g_up_f hme (Ne.symm (dbzme))
                                              have f149 : w143 pl = some (.inl (G.2.1 0, 20, .inl Fp)) := by rw [ew143]; exact g_up_f hpl (Ne.symm (dbzpl))
                                              have f150 : w143 bz = some (.inl (G.2.1 2, n0, .inl (upd Fb va 1))) := by rw [ew143]; exact g_up_s _ _ _
                                              have hB151 := lwC_set hB (List.mem_of_getElem? (i := 1) rfl) ew143
                                              obtain ⟨hy152, hy152a, hy152b⟩ := byB_set hBy (j := va) yc94
                                              refine lv_goto (tgt := 641) hx hb dL_law_537 (by decide) ?_
                                              refine W.widen (k := 600 + 20 * (k + 1)) (n := 9000 + 120 * (k + 1)) (by omega) (by omega) ?_
                                              have hyx := byB_m hy152 (fun j hj q => ((byE j).mp q).2.2.elim (fun q1 => (absurd q1.2 c132)) (fun q1 => (by rw [q1.1]; exact hy152a)))
                                              obtain ⟨i153, ei153⟩ : ∃ y : Int32, y = nI k + (1) := ⟨_, rfl⟩
                                              refine lv_iinc (v := i153) (lv' := [(11, .int i153), (21, .int 1), (19, .long (zL (sgI S k))), (17, .long (zL (S 5 gb))), (15, .long (zL (S 5 ga))), (14, .int (g_b (brkB S T1 0 k))), (13, .int (nI wa)), (12, .int (nI va)), (10, .ref bz), (9, .ref hs), (8, .int (vlBroken S T1 true)), (7, .int (vlBroken S T1 false)), (6, .ref nn), (5, .ref pl), (4, .ref me), (3, .ref ge), (2, .ref sh), (1, .ref x), (0, .ref b9)]) hx hb dL_law_641 hl (k := 7) rfl (by rw [ei153]; rfl) (by decide) rfl (fun ls hl => ?_)
                                              have hi153 : i153 = nI (k + 1) := by
                                                rw [ei153]
                                                exact nI_1 k
                                              rw [hi153] at hl
                                              refine lv_goto (tgt := 270) hx hb dL_law_644 (by decide) ?_
                                              exact ih_L270 (k + 1) (upd Fb va 1) (setB B va) w143 H locs ls (by omega) (by omega) (hB151) (hyx) f144 f150 f145 f146 f147 f148 f149 hP hS (lv_sub hl [0, 8, 9, 10, 11, 12, 13, 14, 15, 16, 17, 18] rfl)
                                    · have kc132 : iL (T1 2 wa) = iL (T1 2 va + 1) ↔ T1 2 wa = T1 2 va + 1 := iL_eq (by omega) (by omega) (by omega) (by omega)
                                      rw [kc132] at c132
                                      refine lv_aload hx hb dL_law_503 (lv_at hl 8 rfl) ?_
                                      refine lv_iload hx hb dL_law_505 (lv_at hl 5 rfl) ?_
                                      refine lv_iconst (v := 1) hx hb dL_law_507 (by decide) ?_
                                      refine g_zast F hP hS hbz (vp_in_nI (by omega) (by omega)) (by first | rfl | exact g_nb8 _) dL_law_508 (fun H locs hP hS => ?_)
                                      rw [nI_clamp (n := wa) (by omega)] at hP
                                      obtain ⟨w154, ew154⟩ : ∃ z, z = g_up w bz (.inl (G.2.1 2, n0, .inl (upd Fb wa 1))) := ⟨_, rfl⟩
                                      have hP : g_P A G w154 H := by rw [ew154]; exact hP
                                      have f155 : w154 hs = some (.inl (G.2.1 2, n0, .inl Fh)) := by rw [ew154]; exact g_up_f hhs (dhsbz)
                                      have f156 : w154 nn = some (.inl (G.2.1 0, 6, .inl Fn)) := by rw [ew154]; exact g_up_f hnn (Ne.symm (dbznn))
                                      have f157 : w154 sh = some (.inl (G.2.1 0, 30, .inl Fs)) := by rw [ew154]; exact g_up_f hsh (Ne.symm (dbzsh))
                                      have f158 : w154 ge = some (.inl (G.2.1 0, 80, .inl Fg)) := by rw [ew154]; exact g_up_f hge (Ne.symm (dbzge))
                                      have f159 : w154 me = some (.inl (G.2.1 0, 32, .inl Fm)) := by rw [ew154]; exact g_up_f hme (Ne.symm (dbzme))
                                      have f160 : w154 pl = some (.inl (G.2.1 0, 20, .inl Fp)) := by rw [ew154]; exact g_up_f hpl (Ne.symm (dbzpl))
                                      have f161 : w154 bz = some (.inl (G.2.1 2, n0, .inl (upd Fb wa 1))) := by rw [ew154]; exact g_up_s _ _ _
                                      have hB162 := lwC_set hB (List.mem_of_getElem? (i := 1) rfl) ew154
                                      obtain ⟨hy163, hy163a, hy163b⟩ := byB_set hBy (j := wa) yc96
                                      refine lv_iload hx hb dL_law_509 (lv_at hl 0 rfl) ?_
                                      refine lv_if_eq (tgt := 641) hx hb dL_law_511 (by decide) (fun c164 => ?_) (fun c164 => ?_)
                                      · exact absurd c164 (by decide)
                                      · refine lv_aload_n hx hb dL_law_514 rfl (lv_at hl 17 rfl) ?_
                                        refine lv_iload hx hb dL_law_515 (lv_at hl 6 rfl) ?_
                                        have hk0 : ((va : Nat) : Int) < S 0 0 := by omega
                                        have kk0 := kN_n (k := va) (by omega)
                                        have ki := nI_i va (by omega)
                                        obtain ⟨ad, Cn, T, h00, hBn, hT3, hLn⟩ := id hB162
                                        rw [← eT1] at hT3
                                        have hCo := k_X6_stage l hlt A G w154 ad Cn S T (nI va) hBn.1 hBn.2.1 hBn.2.2.1 hBn.2.2.2.1
                                        rw [h00] at hCo
                                        have hx0 := rep_x hBn.1 hBn.2.1
                                        rw [h00] at hx0
                                        have hcd := (show cdShaft S (nI va) = 0 from if_pos ⟨by omega, by omega⟩)
                                        refine g_cVi (As := [.int (nI va)]) (rest := []) F hP hS hCo (cwV 1 hts gL_law_X6_stage rfl rfl rfl cd_X6_stage ⟨by rw [hR]; exact Nat.le_of_ble_eq_true rfl, by rw [hR]; exact Nat.le_of_ble_eq_true rfl⟩) hx0 rfl rfl rfl hl.1 (Nat.le_of_ble_eq_true rfl) dL_law_517 ⟨by rw [hR]; dsimp only; omega, by rw [hR]; dsimp only; omega⟩ rfl (fun E w9 ce q9 H locs hpx hP hS hce hcv hcl => ?_) (fun r165 w166 H locs h167 hP hS => ?_)
                                        · obtain ⟨_, q⟩ := hpx.2
                                          exact absurd (hcd.symm.trans q) (by decide)
                                        · obtain ⟨hc0, er, ew⟩ := h167
                                          rw [ew] at hP
                                          rw [er.trans ((show vlStage T (nI va) = iL (T1 2 va) from by unfold vlStage; rw [kk0, hT3 2 (by decide)]))]
                                          refine lv_aload_n hx hb dL_law_520 rfl (lv_at hl 17 rfl) ?_
                                          refine lv_iload hx hb dL_law_521 (lv_at hl 5 rfl) ?_
                                          have hk0 : ((wa : Nat) : Int) < S 0 0 := by omega
                                          have kk0 := kN_n (k := wa) (by omega)
                                          have ki := nI_i wa (by omega)
                                          obtain ⟨ad, Cn, T, h00, hBn, hT3, hLn⟩ := id hB162
                                          rw [← eT1] at hT3
                                          have hCo := k_X6_stage l hlt A G w154 ad Cn S T (nI wa) hBn.1 hBn.2.1 hBn.2.2.1 hBn.2.2.2.1
                                          rw [h00] at hCo
                                          have hx0 := rep_x hBn.1 hBn.2.1
                                          rw [h00] at hx0
                                          have hcd := (show cdShaft S (nI wa) = 0 from if_pos ⟨by omega, by omega⟩)
                                          refine g_cVi (As := [.int (nI wa)]) (rest := [.int (iL (T1 2 va))]) F hP hS hCo (cwV 1 hts gL_law_X6_stage rfl rfl rfl cd_X6_stage ⟨by rw [hR]; exact Nat.le_of_ble_eq_true rfl, by rw [hR]; exact Nat.le_of_ble_eq_true rfl⟩) hx0 rfl rfl rfl hl.1 (Nat.le_of_ble_eq_true rfl) dL_law_523 ⟨by rw [hR]; dsimp only; omega, by rw [hR]; dsimp only; omega⟩ rfl (fun E w9 ce q9 H locs hpx hP hS hce hcv hcl => ?_) (fun r168 w169 H locs h170 hP hS => ?_)
                                          · obtain ⟨_, q⟩ := hpx.2
                                            exact absurd (hcd.symm.trans q) (by decide)
                                          · obtain ⟨hc0, er, ew⟩ := h170
                                            rw [ew] at hP
                                            rw [er.trans ((show vlStage T (nI wa) = iL (T1 2 wa) from by unfold vlStage; rw [kk0, hT3 2 (by decide)]))]
                                            refine lv_iconst (v := 1) hx hb dL_law_526 (by decide) ?_
                                            refine lv_iadd hx hb dL_law_527 ?_
                                            refine lv_topi (fun v171 ev171 => ?_)
                                            have hv171 : v171 = iL (T1 2 wa + 1) := by
                                              rw [ev171]
                                              exact iL_add _ 1
                                            rw [hv171]
                                            refine lv_icmp_ne (tgt := 641) hx hb dL_law_528 (by decide) (fun c172 => ?_) (fun c172 => ?_)
                                            · have kc172 : iL (T1 2 va) = iL (T1 2 wa + 1) ↔ T1 2 va = T1 2 wa + 1 := iL_eq (by omega) (by omega) (by omega) (by omega)
                                              rw [kc172] at c172
                                              refine W.widen (k := 600 + 20 * (k + 1)) (n := 9000 + 120 * (k + 1)) (by omega) (by omega) ?_
                                              have hyx := byB_m hy163 (fun j hj q => ((byE j).mp q).2.2.elim (fun q1 => (by rw [q1.1]; exact hy163a)) (fun q1 => (absurd q1.2 c172)))
                                              obtain ⟨i173, ei173⟩ : ∃ y : Int32, y = nI k + (1) := ⟨_, rfl⟩
                                              refine lv_iinc (v := i173) (lv' := [(11, .int i173), (21, .int 1), (19, .long (zL (sgI S k))), (17, .long (zL (S 5 gb))), (15, .long (zL (S 5 ga))), (14, .int (g_b (brkB S T1 0 k))), (13, .int (nI wa)), (12, .int (nI va)), (10, .ref bz), (9, .ref hs), (8, .int (vlBroken S T1 true)), (7, .int (vlBroken S T1 false)), (6, .ref nn), (5, .ref pl), (4, .ref me), (3, .ref ge), (2, .ref sh), (1, .ref x), (0, .ref b9)]) hx hb dL_law_641 hl (k := 7) rfl (by rw [ei173]; rfl) (by decide) rfl (fun ls hl => ?_)
                                              have hi173 : i173 = nI (k + 1) := by
                                                rw [ei173]
                                                exact nI_1 k
                                              rw [hi173] at hl
                                              refine lv_goto (tgt := 270) hx hb dL_law_644 (by decide) ?_
                                              exact ih_L270 (k + 1) (upd Fb wa 1) (setB B wa) w154 H locs ls (by omega) (by omega) (hB162) (hyx) f155 f161 f156 f157 f158 f159 f160 hP hS (lv_sub hl [0, 8, 9, 10, 11, 12, 13, 14, 15, 16, 17, 18] rfl)
                                            · have kc172 : iL (T1 2 va) = iL (T1 2 wa + 1) ↔ T1 2 va = T1 2 wa + 1 := iL_eq (by omega) (by omega) (by omega) (by omega)
                                              rw [kc172] at c172
                                              refine lv_aload hx hb dL_law_531 (lv_at hl 8 rfl) ?_
                                              refine lv_iload hx hb dL_law_533 (lv_at hl 6 rfl) ?_
                                              refine lv_iconst (v := 1) hx hb dL_law_535 (by decide) ?_
                                              refine g_zast F hP hS f161 (vp_in_nI (by omega) (by omega)) (by first | rfl | exact g_nb8 _) dL_law_536 (fun H locs hP hS => ?_)
                                              rw [nI_clamp (n := va) (by omega)] at hP
                                              obtain ⟨w174, ew174⟩ : ∃ z, z = g_up w154 bz (.inl (G.2.1 2, n0, .inl (upd (upd Fb wa 1) va 1))) := ⟨_, rfl⟩
                                              have hP : g_P A G w174 H := by rw [ew174]; exact hP
                                              have f175 : w174 hs = some (.inl (G.2.1 2, n0, .inl Fh)) := by rw [ew174]; exact g_up_f f155 (dhsbz)
                                              have f176 : w174 nn = some (.inl (G.2.1 0, 6, .inl Fn)) := by rw [ew174]; exact g_up_f f156 (Ne.symm (dbznn))
                                              have f177 : w174 sh = some (.inl (G.2.1 0, 30, .inl Fs)) := by rw [ew174]; exact g_up_f f157 (Ne.symm (dbzsh))
                                              have f178 : w174 ge = some (.inl (G.2.1 0, 80, .inl Fg)) := by rw [ew174]; exact g_up_f f158 (Ne.symm (dbzge))
                                              have f179 : w174 me = some (.inl (G.2.1 0, 32, .inl Fm)) := by rw [ew174]; exact g_up_f f159 (Ne.symm (dbzme))
                                              have f180 : w174 pl = some (.inl (G.2.1 0, 20, .inl Fp)) := by rw [ew174]; exact g_up_f f160 (Ne.symm (dbzpl))
                                              have f181 : w174 bz = some (.inl (G.2.1 2, n0, .inl (upd (upd Fb wa 1) va 1))) := by rw [ew174]; exact g_up_s _ _ _
                                              have hB182 := lwC_set hB162 (List.mem_of_getElem? (i := 1) rfl) ew174
                                              obtain ⟨hy183, hy183a, hy183b⟩ := byB_set hy163 (j := va) yc94
                                              refine lv_goto (tgt := 641) hx hb dL_law_537 (by decide) ?_
                                              refine W.widen (k := 600 + 20 * (k + 1)) (n := 9000 + 120 * (k + 1)) (by omega) (by omega) ?_
                                              have hyx := byB_m hy183 (fun j hj q => ((byE j).mp q).2.2.elim (fun q1 => (by rw [q1.1]; exact hy183b _ hy163a)) (fun q1 => (by rw [q1.1]; exact hy183a)))
                                              obtain ⟨i184, ei184⟩ : ∃ y : Int32, y = nI k + (1) := ⟨_, rfl⟩
                                              refine lv_iinc (v := i184) (lv' := [(11, .int i184), (21, .int 1), (19, .long (zL (sgI S k))), (17, .long (zL (S 5 gb))), (15, .long (zL (S 5 ga))), (14, .int (g_b (brkB S T1 0 k))), (13, .int (nI wa)), (12, .int (nI va)), (10, .ref bz), (9, .ref hs), (8, .int (vlBroken S T1 true)), (7, .int (vlBroken S T1 false)), (6, .ref nn), (5, .ref pl), (4, .ref me), (3, .ref ge), (2, .ref sh), (1, .ref x), (0, .ref b9)]) hx hb dL_law_641 hl (k := 7) rfl (by rw [ei184]; rfl) (by decide) rfl (fun ls hl => ?_)
                                              have hi184 : i184 = nI (k + 1) := by
                                                rw [ei184]
                                                exact nI_1 k
                                              rw [hi184] at hl
                                              refine lv_goto (tgt := 270) hx hb dL_law_644 (by decide) ?_
                                              exact ih_L270 (k + 1) (upd (upd Fb wa 1) va 1) (setB (setB B wa) va) w174 H locs ls (by omega) (by omega) (hB182) (hyx) f175 f181 f176 f177 f178 f179 f180 hP hS (lv_sub hl [0, 8, 9, 10, 11, 12, 13, 14, 15, 16, 17, 18] rfl)
                            · rw [hbr] at c123
                              exact absurd c123 (by decide)
            refine lv_iload hx hb dL_law_382 (lv_at hl 5 rfl) ?_
            refine lv_aload_n hx hb dL_law_384 rfl (lv_at hl 13 rfl) ?_
            refine lv_aload hx hb dL_law_385 (lv_at hl 12 rfl) ?_
            have e8a := iL_b Ga.2.2.2.2.2.2.2.2
            have e8b := iL_b Gb.2.2.2.2.2.2.2.2
            refine g_Si (As := [.int (nI k), .ref ge, .ref me]) (rest := []) F hP hS (k_L_isRing l A G w k ge me ga gb Fg Fm (decide (S 8 ga = 1)) (decide (S 8 gb = 1)) hge hme (by omega) (by omega) (by omega) f9 f10 (a8.trans e8a) (b8g.trans e8b)) (va_cwS 3 hts gL_law_L_isRing rfl rfl rfl cd_L_isRing ⟨by rw [hR]; exact Nat.le_of_ble_eq_true rfl, by rw [hR]; exact Nat.le_of_ble_eq_true rfl⟩) rfl hl.1 (Nat.le_of_ble_eq_true rfl) dL_law_387 ⟨by rw [hR]; dsimp only; omega, by rw [hR]; dsimp only; omega⟩ rfl (fun r185 w186 H locs h187 hP hS => ?_)
            have hr185 := h187.1
            rw [h187.2] at hP
            rw [hr185]
            refine lv_if_eq (tgt := 397) hx hb dL_law_390 (by decide) (fun c188 => ?_) (fun c188 => ?_)
            · have qc188 := g_b0.mp c188
              have yc188 : sgI S k = -1 := by
                rcases hsg with q | q
                · exfalso
                  rcases hinn.mp q.1 with z | z <;> simp [z] at qc188
                · exact q.2
              refine lv_ldc2 (v := (-1)) hx hb hown (hts _ (List.mem_append_left _ (List.mem_append_left _ (List.mem_append_left _ (List.mem_append_left _ (List.mem_append_left _ (List.mem_append_left _ (List.mem_append_left _ (List.mem_append_left _ (List.mem_append_left _ (List.mem_append_left _ (List.mem_append_left _ (List.mem_append_left _ (List.mem_append_left _ (List.mem_append_left _ (List.mem_of_getElem? (i := 7) rfl)))))))))))))))) dL_law_397 ?_
              rw [show (.long (-1) : Value) = .long (zL (sgI S k)) from by rw [yc188]; rfl]
              refine W.widen (k := (600 + 20 * k)) (n := (9000 + 120 * k)) (by omega) (by omega) ?_
              exact J400  H locs ls  hP hS (lv_sub hl [0, 1, 2, 3, 4, 5, 6, 7, 8, 9, 10, 11, 12, 13, 14, 15, 16] rfl)
            · have qc188 := g_b1.mp c188
              have yc188 : sgI S k = 1 := by
                rcases hsg with q | q
                · exact q.2
                · exact absurd (hinn.mpr (by simpa using qc188)) q.1
              refine lv_lconst (v := 1) hx hb dL_law_393 (by decide) ?_
              rw [show (.long 1 : Value) = .long (zL (sgI S k)) from by rw [yc188]; rfl]
              refine lv_goto (tgt := 400) hx hb dL_law_394 (by decide) ?_
              refine W.widen (k := (600 + 20 * k)) (n := (9000 + 120 * k)) (by omega) (by omega) ?_
              exact J400  H locs ls  hP hS (lv_sub hl [0, 1, 2, 3, 4, 5, 6, 7, 8, 9, 10, 11, 12, 13, 14, 15, 16] rfl)
          refine lv_aload hx hb dL_law_325 (lv_at hl 5 rfl) ?_
          refine lv_iload hx hb dL_law_327 (lv_at hl 2 rfl) ?_
          refine g_zald F hP hhs (vp_in_nI (by omega) (by omega)) dL_law_329 ?_
          refine lv_topi (fun v189 ev189 => ?_)
          have hv189 : v189 = g_b (decide (T1 2 va ≠ -1)) := by
            rw [ev189]
            rw [nI_clamp (n := va) (by omega)]
            exact hFh va hva
          rw [hv189]
          refine lv_if_ne (tgt := 348) hx hb dL_law_330 (by decide) (fun c190 => ?_) (fun c190 => ?_)
          · have yc190 : T1 2 va ≠ -1 := of_decide_eq_true (g_b1.mp c190)
            refine W.widen (k := (600 + 20 * k)) (n := (9000 + 120 * k)) (by omega) (by omega) ?_
            exact J348  H locs ls (Or.inl yc190) hP hS (lv_sub hl [0, 1, 2, 3, 4, 5, 6, 7, 8, 9, 10, 11, 12, 13, 14] rfl)
          · have yc190 : T1 2 va = -1 := Decidable.not_not.mp (of_decide_eq_false (g_b0.mp c190))
            refine lv_aload hx hb dL_law_333 (lv_at hl 5 rfl) ?_
            refine lv_iload hx hb dL_law_335 (lv_at hl 1 rfl) ?_
            refine g_zald F hP hhs (vp_in_nI (by omega) (by omega)) dL_law_337 ?_
            refine lv_topi (fun v191 ev191 => ?_)
            have hv191 : v191 = g_b (decide (T1 2 wa ≠ -1)) := by
              rw [ev191]
              rw [nI_clamp (n := wa) (by omega)]
              exact hFh wa hwa
            rw [hv191]
            refine lv_if_ne (tgt := 348) hx hb dL_law_338 (by decide) (fun c192 => ?_) (fun c192 => ?_)
            · have yc192 : T1 2 wa ≠ -1 := of_decide_eq_true (g_b1.mp c192)
              refine W.widen (k := (600 + 20 * k)) (n := (9000 + 120 * k)) (by omega) (by omega) ?_
              exact J348  H locs ls (Or.inr yc192) hP hS (lv_sub hl [0, 1, 2, 3, 4, 5, 6, 7, 8, 9, 10, 11, 12, 13, 14] rfl)
            · have yc192 : T1 2 wa = -1 := Decidable.not_not.mp (of_decide_eq_false (g_b0.mp c192))
              refine lv_iload hx hb dL_law_341 (lv_at hl 0 rfl) ?_
              refine lv_if_eq (tgt := 641) hx hb dL_law_343 (by decide) (fun c193 => ?_) (fun c193 => ?_)
              · refine W.widen (k := 600 + 20 * (k + 1)) (n := 9000 + 120 * (k + 1)) (by omega) (by omega) ?_
                have hyx := byB_m hBy (fun j hj q => absurd yc190 ((byE j).mp q).1.1)
                obtain ⟨i194, ei194⟩ : ∃ y : Int32, y = nI k + (1) := ⟨_, rfl⟩
                refine lv_iinc (v := i194) (lv' := [(11, .int i194), (14, .int (g_b (brkB S T1 0 k))), (13, .int (nI wa)), (12, .int (nI va)), (10, .ref bz), (9, .ref hs), (8, .int (vlBroken S T1 true)), (7, .int (vlBroken S T1 false)), (6, .ref nn), (5, .ref pl), (4, .ref me), (3, .ref ge), (2, .ref sh), (1, .ref x), (0, .ref b9)]) hx hb dL_law_641 hl (k := 3) rfl (by rw [ei194]; rfl) (by decide) rfl (fun ls hl => ?_)
                have hi194 : i194 = nI (k + 1) := by
                  rw [ei194]
                  exact nI_1 k
                rw [hi194] at hl
                refine lv_goto (tgt := 270) hx hb dL_law_644 (by decide) ?_
                exact ih_L270 (k + 1) Fb B w H locs ls (by omega) (by omega) (hB) (hyx) hhs hbz hnn hsh hge hme hpl hP hS (lv_sub hl [0, 4, 5, 6, 7, 8, 9, 10, 11, 12, 13, 14] rfl)
              · exact absurd (g_b1.mp c193) (fun q => (brl.mp q).1.1 yc190)
        refine lv_iload hx hb dL_law_307 (lv_at hl 6 rfl) ?_
        refine lv_iload hx hb dL_law_309 (lv_at hl 2 rfl) ?_
        refine lv_ishr hx hb dL_law_311 ?_
        refine lv_topi (fun v195 ev195 => ?_)
        refine lv_iconst (v := 1) hx hb dL_law_312 (by decide) ?_
        refine lv_iand hx hb dL_law_313 ?_
        refine lv_topi (fun v196 ev196 => ?_)
        have hv196 : v196 = g_b (brkB S T1 0 k) := by
          rw [ev196]
          rw [ev195]
          unfold vlBroken
          rw [q2]
          exact bits_at (brkB S T1 0) (by omega) (by omega)
        rw [hv196]
        refine lv_iconst (v := 1) hx hb dL_law_314 (by decide) ?_
        refine lv_icmp_ne (tgt := 322) hx hb dL_law_315 (by decide) (fun c197 => ?_) (fun c197 => ?_)
        · have yc197 : brkB S T1 0 k = false := by
            cases hq : brkB S T1 0 k
            · rfl
            · exact absurd (by rw [hq]; rfl) c197
          refine lv_iconst (v := 0) hx hb dL_law_322 (by decide) ?_
          rw [show (.int 0 : Value) = .int (g_b (brkB S T1 0 k)) from by rw [yc197]; rfl]
          refine W.widen (k := (600 + 20 * k)) (n := (9000 + 120 * k)) (by omega) (by omega) ?_
          exact J323  H locs ls  hP hS (lv_sub hl [0, 1, 2, 3, 4, 5, 6, 7, 8, 9, 10, 11, 12, 13] rfl)
        · have yc197 : brkB S T1 0 k = true := by
            cases hq : brkB S T1 0 k
            · rw [hq] at c197; exact absurd c197 (by decide)
            · rfl
          refine lv_iconst (v := 1) hx hb dL_law_318 (by decide) ?_
          rw [show (.int 1 : Value) = .int (g_b (brkB S T1 0 k)) from by rw [yc197]; rfl]
          refine lv_goto (tgt := 323) hx hb dL_law_319 (by decide) ?_
          refine W.widen (k := (600 + 20 * k)) (n := (9000 + 120 * k)) (by omega) (by omega) ?_
          exact J323  H locs ls  hP hS (lv_sub hl [0, 1, 2, 3, 4, 5, 6, 7, 8, 9, 10, 11, 12, 13] rfl)
  exact L270 (n2 + 1) 0 Fb B w H locs ls (by omega) (by omega) (hB) (hBy) hhs hbz hnn hsh hge hme hpl hP hS (lv_sub hl [0, 1, 2, 3, 4, 5, 6, 7, 8, 9, 10, 11] rfl)
