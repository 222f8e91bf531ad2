theorem cd_X6_isTold : yX6_isTold.cls = RX6 ∧ yX6_isTold.cls ≠ "java/lang/invoke/MethodHandle" ∧ yX6_isTold.cls ≠ "java/lang/invoke/VarHandle" ∧ (parseMethodDescriptor yX6_isTold.desc).map (fun d => d.parameters.length) = some 1 := by decide +kernel
theorem cd_X6_speed : yX6_speed.cls = RX6 ∧ yX6_speed.cls ≠ "java/lang/invoke/MethodHandle" ∧ yX6_speed.cls ≠ "java/lang/invoke/VarHandle" ∧ (parseMethodDescriptor yX6_speed.desc).map (fun d => d.parameters.length) = some 2 := by decide +kernel
theorem cd_X6_stage : yX6_stage.cls = RX6 ∧ yX6_stage.cls ≠ "java/lang/invoke/MethodHandle" ∧ yX6_stage.cls ≠ "java/lang/invoke/VarHandle" ∧ (parseMethodDescriptor yX6_stage.desc).map (fun d => d.parameters.length) = some 1 := by decide +kernel
set_option maxHeartbeats 4000000 in
set_option maxRecDepth 100000 in
theorem law_1 {p : Program} {l : Launch} {e : Env} {R : Room} {s : State} {m : MethodId} {args : Array Value} {below : List Frame} {meth : Method} {c : Code} {Q : State → Prop} {A : Nat → Prop} {G : g_C} (F : g_F p m c cL_law 22 s args wsL_law RL A G) (hR : R = ({ frames := 2048, cells := 699085, slots := 7004443, locals := 84000 } : Room)) (hlt : l.stackTraces = false) {b9 x hs bz nn sh ge me pl n0 n1 n2 n3 : Nat} (dhsbz : hs ≠ bz) (dhsnn : hs ≠ nn) (dhssh : hs ≠ sh) (dhsge : hs ≠ ge) (dhsme : hs ≠ me) (dhspl : hs ≠ pl) (dbznn : bz ≠ nn) (dbzsh : bz ≠ sh) (dbzge : bz ≠ ge) (dbzme : bz ≠ me) (dbzpl : bz ≠ pl) (dnnsh : nn ≠ sh) (dnnge : nn ≠ ge) (dnnme : nn ≠ me) (dnnpl : nn ≠ pl) (dshge : sh ≠ ge) (dshme : sh ≠ me) (dshpl : sh ≠ pl) (dgeme : ge ≠ me) (dgepl : ge ≠ pl) (dmepl : me ≠ pl) {S T1 : Sg} {Fs Fg Fm Fp Fn : Nat → Int32} (eT1 : T1 = told S) (Hi : invS S) (Ht : invT S T1) (Wi : witI S T1) (hfx : step S T1 = none) (hbp : bldP S Fs Fg Fm Fp Fn) (hn0 : S 0 0 = n0) (hn1 : S 0 1 = n1) (hn2 : S 0 2 = n2) (hn3 : S 0 3 = n3) {Fh : Nat → Int32} {Fb : Nat → Int32} {w : g_W} (hB : lwC G w x S [hs, bz, nn, sh, ge, me, pl]) (hhs : w hs = some (.inl (G.2.1 2, n0, .inl Fh))) (hbz : w bz = some (.inl (G.2.1 2, n0, .inl Fb))) (hnn : w nn = some (.inl (G.2.1 0, 6, .inl Fn))) (hsh : w sh = some (.inl (G.2.1 0, 30, .inl Fs))) (hge : w ge = some (.inl (G.2.1 0, 80, .inl Fg))) (hme : w me = some (.inl (G.2.1 0, 32, .inl Fm))) (hpl : w pl = some (.inl (G.2.1 0, 20, .inl Fp))) {H : Heap} {locs : List Loc} {ls : Array Slot} (hP : g_P A G w H) (hS : va_S A s.heap H locs) (hl : lv_has ls 22 [(10, .ref bz), (9, .ref hs), (8, .int (vlBroken S T1 true)), (7, .int (vlBroken S T1 false)), (6, .ref nn), (5, .ref pl), (4, .ref me), (3, .ref ge), (2, .ref sh), (1, .ref x), (0, .ref b9)])
    (cont : ∀ (Fh : Nat → Int32) (Fb : Nat → Int32) (B : Nat → Bool) (w : g_W) (H : Heap) (locs : List Loc) (ls : Array Slot), (lwC G w x S [hs, bz, nn, sh, ge, me, pl]) → (∀ k : Nat, (k : Int) < S 0 0 → Fh k = g_b (decide (T1 2 k ≠ -1))) → (byB S T1 0 0 Fb B) → w hs = some (.inl (G.2.1 2, n0, .inl Fh)) → w bz = some (.inl (G.2.1 2, n0, .inl Fb)) → w nn = some (.inl (G.2.1 0, 6, .inl Fn)) → w sh = some (.inl (G.2.1 0, 30, .inl Fs)) → w ge = some (.inl (G.2.1 0, 80, .inl Fg)) → w me = some (.inl (G.2.1 0, 32, .inl Fm)) → w pl = some (.inl (G.2.1 0, 20, .inl Fp)) → g_P A G w H → va_S A s.heap H locs → lv_has ls 22 [(10, .ref bz), (9, .ref hs), (8, .int (vlBroken S T1 true)), (7, .int (vlBroken S T1 false)), (6, .ref nn), (5, .ref pl), (4, .ref me), (3, .ref ge), (2, .ref sh), (1, .ref x), (0, .ref b9)] → W p l e R s m args below meth c H locs 600 9000 Q (F0 m 267 ls [])) : W p l e R s m args below meth c H locs 500 8000 Q (F0 m 81 ls []) := by
  obtain ⟨⟨hx, hb, hml, hown, hts⟩, hK, hZ, hA⟩ := id F
  have hi := Hi.1
  obtain ⟨⟨b2, b8⟩, ⟨fn0, fn2, fn3, fn4, fn5⟩, has, hag, ham, hap⟩ := id hbp
  have kn0 : Fn 0 = nI n0 := by rw [fn0]; exact iL_nat hn0
  have kn2 : Fn 2 = nI n2 := by rw [fn2]; exact iL_nat hn2
  have kn3 : Fn 3 = nI n3 := by rw [fn3]; exact iL_nat hn3
  have kn4 : Fn 4 = iL (S 0 4) := fn4
  have q0 : (S 0 0).toNat = n0 := by omega
  have q1 : (S 0 1).toNat = n1 := by omega
  have q2 : (S 0 2).toNat = n2 := by omega
  have q3 : (S 0 3).toNat = n3 := by omega
  rw [q0] at has
  rw [q1] at hag
  rw [q2] at ham
  rw [q3] at hap
  refine lv_iconst (v := 0) hx hb dL_law_81 (by decide) ?_
  refine lv_istore (lv' := [(11, .int 0), (10, .ref bz), (9, .ref hs), (8, .int (vlBroken S T1 true)), (7, .int (vlBroken S T1 false)), (6, .ref nn), (5, .ref pl), (4, .ref me), (3, .ref ge), (2, .ref sh), (1, .ref x), (0, .ref b9)]) hx hb dL_law_82 hl (by decide) rfl (fun ls hl => ?_)
  have L84 : ∀ (n : Nat) (k : Nat) (Fh : Nat → Int32) (Fb : Nat → Int32) (B : Nat → Bool) (w : g_W) (H : Heap) (locs : List Loc) (ls : Array Slot), n0 + 1 ≤ k + n → (k ≤ n0) → (lwC G w x S [hs, bz, nn, sh, ge, me, pl]) → (∀ j, j < k → Fh j = g_b (decide (T1 2 j ≠ -1))) → (∀ j, j < k → Fb j = g_b (B j) ∧ (B j = true ↔ bas S j)) → w hs = some (.inl (G.2.1 2, n0, .inl Fh)) → w bz = some (.inl (G.2.1 2, n0, .inl Fb)) → w nn = some (.inl (G.2.1 0, 6, .inl Fn)) → w sh = some (.inl (G.2.1 0, 30, .inl Fs)) → w ge = some (.inl (G.2.1 0, 80, .inl Fg)) → w me = some (.inl (G.2.1 0, 32, .inl Fm)) → w pl = some (.inl (G.2.1 0, 20, .inl Fp)) → g_P A G w H → va_S A s.heap H locs → lv_has ls 22 [(11, .int (nI k)), (10, .ref bz), (9, .ref hs), (8, .int (vlBroken S T1 true)), (7, .int (vlBroken S T1 false)), (6, .ref nn), (5, .ref pl), (4, .ref me), (3, .ref ge), (2, .ref sh), (1, .ref x), (0, .ref b9)] → W p l e R s m args below meth c H locs ((500 + 8 * k)) ((8000 + 50 * k)) Q (F0 m 84 ls []) := by
    intro n
    induction n with
    | zero =>
      intro k Fh Fb B w H locs ls hfu hk hB hFh hFb hhs hbz hnn hsh hge hme hpl hP hS hl
      exact absurd hfu (by omega)
    | succ n ih_L84 =>
      intro k Fh Fb B w H locs ls hfu hk hB hFh hFb hhs hbz hnn hsh hge hme hpl hP hS hl
      refine lv_iload hx hb dL_law_84 (lv_at hl 0 rfl) ?_
      refine lv_aload hx hb dL_law_86 (lv_at hl 5 rfl) ?_
      refine lv_iconst (v := 0) hx hb dL_law_88 (by decide) ?_
      refine g_iald F hP hnn (by unfold vp_in; decide) dL_law_89 ?_
      refine lv_topi (fun v1 ev1 => ?_)
      have hv1 : v1 = nI n0 := by
        rw [ev1]
        rw [show (0 : Int32).toNatClampNeg = 0 from by decide]
        exact kn0
      rw [hv1]
      refine lv_icmp_ge (tgt := 267) hx hb dL_law_90 (by decide) (fun c2 => ?_) (fun c2 => ?_)
      · have zc2 : n0 ≤ k := (nI_leI (by omega) (by omega)).mp c2
        have ekn : k = n0 := by omega
        rw [ekn] at hFh hFb
        have hBy0 : byB S T1 0 0 Fb B := ⟨fun j hj => (hFb j (by omega)).1, fun j hj hb2 => by
          have := (Wi.1 j hj ((hFb j (by omega)).2.mp hb2)).2.2
          omega, fun j hj hb2 => (hFb j (by omega)).2.mpr hb2, fun m k hm => absurd hm (Nat.not_lt_zero m), fun m k hm => absurd hm (Nat.not_lt_zero m)⟩
        refine W.widen (k := 600) (n := 9000) (by omega) (by omega) ?_
        exact cont Fh Fb B w H locs ls (hB) (fun j hj => hFh j (by omega)) (hBy0) hhs hbz hnn hsh hge hme hpl hP hS (lv_sub hl [1, 2, 3, 4, 5, 6, 7, 8, 9, 10, 11] rfl)
      · have hkn : k < n0 := Nat.not_le.mp (fun q => c2 (nI_le q (by omega)))
        have tk := Ht.1 k (by omega)
        have sk := (Hi.2.1 k (by omega)).2.2.2.2
        refine lv_aload hx hb dL_law_93 (lv_at hl 2 rfl) ?_
        refine lv_iload hx hb dL_law_95 (lv_at hl 0 rfl) ?_
        refine lv_aload_n hx hb dL_law_97 rfl (lv_at hl 10 rfl) ?_
        refine lv_iload hx hb dL_law_98 (lv_at hl 0 rfl) ?_
        have hk0 : ((k : Nat) : Int) < S 0 0 := by omega
        have kk0 := kN_n (k := k) (by omega)
        have ki := nI_i k (by omega)
        obtain ⟨ad, Cn, T, h00, hBn, hT3, hLn⟩ := id hB
        rw [← eT1] at hT3
        have hCo := k_X6_isTold l hlt A G w ad Cn S T (nI k) hBn.1 hBn.2.1 hBn.2.2.1 hBn.2.2.2.1
        rw [h00] at hCo
        have hx0 := rep_x hBn.1 hBn.2.1
        rw [h00] at hx0
        have hcd := (show cdShaft S (nI k) = 0 from if_pos ⟨by omega, by omega⟩)
        refine g_cVi (As := [.int (nI k)]) (rest := [.int (nI k), .ref hs]) F hP hS hCo (cwV 1 hts gL_law_X6_isTold rfl rfl rfl cd_X6_isTold ⟨by rw [hR]; exact Nat.le_of_ble_eq_true rfl, by rw [hR]; exact Nat.le_of_ble_eq_true rfl⟩) hx0 rfl rfl rfl hl.1 (Nat.le_of_ble_eq_true rfl) dL_law_100 ⟨by rw [hR]; dsimp only; omega, by rw [hR]; dsimp only; omega⟩ rfl (fun E w9 ce q9 H locs hpx hP hS hce hcv hcl => ?_) (fun r3 w4 H locs h5 hP hS => ?_)
        · obtain ⟨_, q⟩ := hpx.2
          exact absurd (hcd.symm.trans q) (by decide)
        · obtain ⟨hc0, er, ew⟩ := h5
          rw [ew] at hP
          rw [er.trans ((show g_b (vlIsTold T (nI k)) = g_b (decide (T1 2 k ≠ -1)) from by unfold vlIsTold; rw [kk0, hT3 2 (by decide)]))]
          refine g_zast F hP hS hhs (vp_in_nI (by omega) (by omega)) (by first | rfl | exact g_nb8 _) dL_law_103 (fun H locs hP hS => ?_)
          rw [nI_clamp (n := k) (by omega)] at hP
          obtain ⟨w6, ew6⟩ : ∃ z, z = g_up w hs (.inl (G.2.1 2, n0, .inl (upd Fh k (g_b (decide (T1 2 k ≠ -1)))))) := ⟨_, rfl⟩
          have hP : g_P A G w6 H := by rw [ew6]; exact hP
          have f7 : w6 bz = some (.inl (G.2.1 2, n0, .inl Fb)) := by rw [ew6]; exact g_up_f hbz (Ne.symm (dhsbz))
          have f8 : w6 nn = some (.inl (G.2.1 0, 6, .inl Fn)) := by rw [ew6]; exact g_up_f hnn (Ne.symm (dhsnn))
          have f9 : w6 sh = some (.inl (G.2.1 0, 30, .inl Fs)) := by rw [ew6]; exact g_up_f hsh (Ne.symm (dhssh))
          have f10 : w6 ge = some (.inl (G.2.1 0, 80, .inl Fg)) := by rw [ew6]; exact g_up_f hge (Ne.symm (dhsge))
          have f11 : w6 me = some (.inl (G.2.1 0, 32, .inl Fm)) := by rw [ew6]; exact g_up_f hme (Ne.symm (dhsme))
          have f12 : w6 pl = some (.inl (G.2.1 0, 20, .inl Fp)) := by rw [ew6]; exact g_up_f hpl (Ne.symm (dhspl))
          have f13 : w6 hs = some (.inl (G.2.1 2, n0, .inl (upd Fh k (g_b (decide (T1 2 k ≠ -1)))))) := by rw [ew6]; exact g_up_s _ _ _
          have hB14 := lwC_set hB (List.mem_of_getElem? (i := 0) rfl) ew6
          refine lv_aload hx hb dL_law_104 (lv_at hl 1 rfl) ?_
          refine lv_iload hx hb dL_law_106 (lv_at hl 0 rfl) ?_
          have J134 : ∀ (bb : Bool) (H : Heap) (locs : List Loc) (ls : Array Slot), (bb = true ↔ bas S k) → g_P A G w6 H → va_S A s.heap H locs → lv_has ls 22 [(11, .int (nI k)), (10, .ref bz), (9, .ref hs), (8, .int (vlBroken S T1 true)), (7, .int (vlBroken S T1 false)), (6, .ref nn), (5, .ref pl), (4, .ref me), (3, .ref ge), (2, .ref sh), (1, .ref x), (0, .ref b9)] → W p l e R s m args below meth c H locs (500 + 8 * k + 1) (8000 + 50 * k + 6) Q (F0 m 134 ls [.int (g_b bb), .int (nI k), .ref bz]) := by
            intro bb H locs ls hbb hP hS hl
            refine g_zast F hP hS f7 (vp_in_nI (by omega) (by omega)) (by first | rfl | exact g_nb8 _) dL_law_134 (fun H locs hP hS => ?_)
            rw [nI_clamp (n := k) (by omega)] at hP
            obtain ⟨w15, ew15⟩ : ∃ z, z = g_up w6 bz (.inl (G.2.1 2, n0, .inl (upd Fb k (g_b bb)))) := ⟨_, rfl⟩
            have hP : g_P A G w15 H := by rw [ew15]; exact hP
            have f16 : w15 nn = some (.inl (G.2.1 0, 6, .inl Fn)) := by rw [ew15]; exact g_up_f f8 (Ne.symm (dbznn))
            have f17 : w15 sh = some (.inl (G.2.1 0, 30, .inl Fs)) := by rw [ew15]; exact g_up_f f9 (Ne.symm (dbzsh))
            have f18 : w15 ge = some (.inl (G.2.1 0, 80, .inl Fg)) := by rw [ew15]; exact g_up_f f10 (Ne.symm (dbzge))
            have f19 : w15 me = some (.inl (G.2.1 0, 32, .inl Fm)) := by rw [ew15]; exact g_up_f f11 (Ne.symm (dbzme))
            have f20 : w15 pl = some (.inl (G.2.1 0, 20, .inl Fp)) := by rw [ew15]; exact g_up_f f12 (Ne.symm (dbzpl))
            have f21 : w15 hs = some (.inl (G.2.1 2, n0, .inl (upd Fh k (g_b (decide (T1 2 k ≠ -1)))))) := by rw [ew15]; exact g_up_f f13 (dhsbz)
            have f22 : w15 bz = some (.inl (G.2.1 2, n0, .inl (upd Fb k (g_b bb)))) := by rw [ew15]; exact g_up_s _ _ _
            have hB23 := lwC_set hB14 (List.mem_of_getElem? (i := 1) rfl) ew15
            obtain ⟨B2, eB2⟩ : ∃ z : Nat → Bool, z = fun j => if j = k then bb else B j := ⟨_, rfl⟩
            have hFh2 : ∀ j, j < k + 1 → (upd Fh k (g_b (decide (T1 2 k ≠ -1)))) j = g_b (decide (T1 2 j ≠ -1)) := fun j hj => by
              rcases Nat.lt_succ_iff_lt_or_eq.mp hj with q | q
              · rw [pk_un (by omega)]; exact hFh j q
              · rw [q]; exact pk_us
            have hFb2 : ∀ j, j < k + 1 → (upd Fb k (g_b bb)) j = g_b (B2 j) ∧ (B2 j = true ↔ bas S j) := fun j hj => by
              rcases Nat.lt_succ_iff_lt_or_eq.mp hj with q | q
              · rw [pk_un (by omega), eB2]; dsimp only; rw [if_neg (by omega)]; exact hFb j q
              · rw [q, pk_us, eB2]; dsimp only; rw [if_pos rfl]; exact ⟨rfl, hbb⟩
            have J189 : ∀  (H : Heap) (locs : List Loc) (ls : Array Slot), g_P A G w15 H → va_S A s.heap H locs → lv_has ls 22 [(11, .int (nI k)), (10, .ref bz), (9, .ref hs), (8, .int (vlBroken S T1 true)), (7, .int (vlBroken S T1 false)), (6, .ref nn), (5, .ref pl), (4, .ref me), (3, .ref ge), (2, .ref sh), (1, .ref x), (0, .ref b9)] → W p l e R s m args below meth c H locs (500 + 8 * k + 4) (8000 + 50 * k + 24) Q (F0 m 189 ls []) := by
              intro  H locs ls  hP hS hl
              refine lv_aload hx hb dL_law_189 (lv_at hl 2 rfl) ?_
              refine lv_iload hx hb dL_law_191 (lv_at hl 0 rfl) ?_
              refine g_zald F hP f21 (vp_in_nI (by omega) (by omega)) dL_law_193 ?_
              refine lv_topi (fun v24 ev24 => ?_)
              have hv24 : v24 = g_b (decide (T1 2 k ≠ -1)) := by
                rw [ev24]
                rw [nI_clamp (n := k) (by omega)]
                exact pk_us
              rw [hv24]
              refine lv_if_ne (tgt := 200) hx hb dL_law_194 (by decide) (fun c25 => ?_) (fun c25 => ?_)
              · have yc25 : T1 2 k ≠ -1 := of_decide_eq_true (g_b1.mp c25)
                refine lv_aload_n hx hb dL_law_200 rfl (lv_at hl 10 rfl) ?_
                refine lv_iload hx hb dL_law_201 (lv_at hl 0 rfl) ?_
                refine lv_iconst (v := 0) hx hb dL_law_203 (by decide) ?_
                rw [show (.int 0 : Value) = .int (g_b false) from rfl]
                have hk0 : ((k : Nat) : Int) < S 0 0 := by omega
                have kk0 := kN_n (k := k) (by omega)
                have ki := nI_i k (by omega)
                obtain ⟨ad, Cn, T, h00, hBn, hT3, hLn⟩ := id hB23
                rw [← eT1] at hT3
                have hCo := k_X6_speed l hlt A G w15 ad Cn S T (nI k) false hBn.1 hBn.2.1 hBn.2.2.1 hBn.2.2.2.1
                rw [h00] at hCo
                have hx0 := rep_x hBn.1 hBn.2.1
                rw [h00] at hx0
                have hcd := (show cdSpeed S T (nI k) = 0 from (if_pos ⟨by omega, by omega⟩).trans (if_pos (by rw [kk0, hT3 2 (by decide)]; exact yc25)))
                refine g_cVi (As := [.int (nI k), .int (g_b false)]) (rest := []) F hP hS hCo (cwV 2 hts gL_law_X6_speed rfl rfl rfl cd_X6_speed ⟨by rw [hR]; exact Nat.le_of_ble_eq_true rfl, by rw [hR]; exact Nat.le_of_ble_eq_true rfl⟩) hx0 rfl rfl rfl hl.1 (Nat.le_of_ble_eq_true rfl) dL_law_204 ⟨by rw [hR]; dsimp only; omega, by rw [hR]; dsimp only; omega⟩ rfl (fun E w9 ce q9 H locs hpx hP hS hce hcv hcl => ?_) (fun r26 w27 H locs h28 hP hS => ?_)
                · rcases hpx.2 with ⟨_, q⟩ | ⟨_, q⟩ <;> exact absurd (hcd.symm.trans q) (by decide)
                · obtain ⟨hc0, er, ew⟩ := h28
                  rw [ew] at hP
                  rw [er.trans ((show vlSpeed T (nI k) false = iL (T1 0 k) from by unfold vlSpeed; rw [kk0, hT3 0 (by decide), hT3 1 (by decide)]; rfl))]
                  refine lv_istore (lv' := [(12, .int (iL (T1 0 k))), (11, .int (nI k)), (10, .ref bz), (9, .ref hs), (8, .int (vlBroken S T1 true)), (7, .int (vlBroken S T1 false)), (6, .ref nn), (5, .ref pl), (4, .ref me), (3, .ref ge), (2, .ref sh), (1, .ref x), (0, .ref b9)]) hx hb dL_law_207 hl (by decide) rfl (fun ls hl => ?_)
                  refine lv_aload_n hx hb dL_law_209 rfl (lv_at hl 11 rfl) ?_
                  refine lv_iload hx hb dL_law_210 (lv_at hl 1 rfl) ?_
                  refine lv_iconst (v := 1) hx hb dL_law_212 (by decide) ?_
                  rw [show (.int 1 : Value) = .int (g_b true) from rfl]
                  have hk0 : ((k : Nat) : Int) < S 0 0 := by omega
                  have kk0 := kN_n (k := k) (by omega)
                  have ki := nI_i k (by omega)
                  obtain ⟨ad, Cn, T, h00, hBn, hT3, hLn⟩ := id hB23
                  rw [← eT1] at hT3
                  have hCo := k_X6_speed l hlt A G w15 ad Cn S T (nI k) true hBn.1 hBn.2.1 hBn.2.2.1 hBn.2.2.2.1
                  rw [h00] at hCo
                  have hx0 := rep_x hBn.1 hBn.2.1
                  rw [h00] at hx0
                  have hcd := (show cdSpeed S T (nI k) = 0 from (if_pos ⟨by omega, by omega⟩).trans (if_pos (by rw [kk0, hT3 2 (by decide)]; exact yc25)))
                  refine g_cVi (As := [.int (nI k), .int (g_b true)]) (rest := []) F hP hS hCo (cwV 2 hts gL_law_X6_speed rfl rfl rfl cd_X6_speed ⟨by rw [hR]; exact Nat.le_of_ble_eq_true rfl, by rw [hR]; exact Nat.le_of_ble_eq_true rfl⟩) hx0 rfl rfl rfl hl.1 (Nat.le_of_ble_eq_true rfl) dL_law_213 ⟨by rw [hR]; dsimp only; omega, by rw [hR]; dsimp only; omega⟩ rfl (fun E w9 ce q9 H locs hpx hP hS hce hcv hcl => ?_) (fun r29 w30 H locs h31 hP hS => ?_)
                  · rcases hpx.2 with ⟨_, q⟩ | ⟨_, q⟩ <;> exact absurd (hcd.symm.trans q) (by decide)
                  · obtain ⟨hc0, er, ew⟩ := h31
                    rw [ew] at hP
                    rw [er.trans ((show vlSpeed T (nI k) true = iL (T1 1 k) from by unfold vlSpeed; rw [kk0, hT3 0 (by decide), hT3 1 (by decide)]; rfl))]
                    refine lv_istore (lv' := [(13, .int (iL (T1 1 k))), (12, .int (iL (T1 0 k))), (11, .int (nI k)), (10, .ref bz), (9, .ref hs), (8, .int (vlBroken S T1 true)), (7, .int (vlBroken S T1 false)), (6, .ref nn), (5, .ref pl), (4, .ref me), (3, .ref ge), (2, .ref sh), (1, .ref x), (0, .ref b9)]) hx hb dL_law_216 hl (by decide) rfl (fun ls hl => ?_)
                    refine lv_iload hx hb dL_law_218 (lv_at hl 0 rfl) ?_
                    refine lv_iconst (v := 1) hx hb dL_law_220 (by decide) ?_
                    refine lv_icmp_lt (tgt := 259) hx hb dL_law_221 (by decide) (fun c32 => ?_) (fun c32 => ?_)
                    · exact absurd ((iL_lt (b := 1) (by omega) (by omega) (by omega) (by omega)).mp c32) (by omega)
                    · refine lv_iload hx hb dL_law_224 (lv_at hl 1 rfl) ?_
                      refine lv_i2l hx hb dL_law_226 rfl ?_
                      refine lv_topl (fun v33 ev33 => ?_)
                      have hv33 : v33 = zL (T1 0 k) := by
                        rw [ev33]
                        exact iL64 (by omega) (by omega)
                      rw [hv33]
                      refine lv_iload hx hb dL_law_227 (lv_at hl 0 rfl) ?_
                      refine lv_i2l hx hb dL_law_229 rfl ?_
                      refine lv_topl (fun v34 ev34 => ?_)
                      have hv34 : v34 = zL (T1 1 k) := by
                        rw [ev34]
                        exact iL64 (by omega) (by omega)
                      rw [hv34]
                      refine g_Sl (As := [.long (zL (T1 0 k)), .long (zL (T1 1 k))]) (rest := []) F hP hS (k_L_common l A G w15 (T1 0 k) (T1 1 k) (by omega) (by omega)) (va_cwS 2 hts gL_law_L_common rfl rfl rfl cd_L_common ⟨by rw [hR]; exact Nat.le_of_ble_eq_true rfl, by rw [hR]; exact Nat.le_of_ble_eq_true rfl⟩) rfl hl.1 (Nat.le_of_ble_eq_true rfl) dL_law_230 ⟨by rw [hR]; dsimp only; omega, by rw [hR]; dsimp only; omega⟩ rfl (fun r35 w36 H locs h37 hP hS => ?_)
                      have hr35 := h37.1
                      rw [h37.2] at hP
                      rw [hr35]
                      refine lv_lconst (v := 1) hx hb dL_law_233 (by decide) ?_
                      refine W.lcmp hx hb dL_law_234 ?_
                      refine lv_if_ne (tgt := 259) hx hb dL_law_235 (by decide) (fun c38 => ?_) (fun c38 => ?_)
                      · have c38 : ¬ ((zL (Int.gcd (T1 0 k) (T1 1 k) : Int)) = 1) := fun h => c38 ((lg_cmp_eq (zL (Int.gcd (T1 0 k) (T1 1 k) : Int)) 1).mpr h)
                        exact absurd (show zL (Int.gcd (T1 0 k) (T1 1 k) : Int) = 1 from by rw [tk.2.2.2.1]; rfl) c38
                      · have c38 := (lg_cmp_eq (zL (Int.gcd (T1 0 k) (T1 1 k) : Int)) 1).mp c38
                        refine lv_iload hx hb dL_law_238 (lv_at hl 1 rfl) ?_
                        refine lv_ldc (v := 1000000) hx hb hown (hts _ (List.mem_append_left _ (List.mem_append_left _ (List.mem_append_left _ (List.mem_append_left _ (List.mem_append_left _ (List.mem_append_left _ (List.mem_append_left _ (List.mem_append_left _ (List.mem_append_left _ (List.mem_append_left _ (List.mem_append_left _ (List.mem_append_left _ (List.mem_append_left _ (List.mem_append_left _ (List.mem_of_getElem? (i := 5) rfl)))))))))))))))) dL_law_240 ?_
                        refine lv_icmp_gt (tgt := 259) hx hb dL_law_242 (by decide) (fun c39 => ?_) (fun c39 => ?_)
                        · exact absurd ((iL_lt (a := 1000000) (by omega) (by omega) (by omega) (by omega)).mp c39) (by omega)
                        · refine lv_iload hx hb dL_law_245 (lv_at hl 1 rfl) ?_
                          refine lv_ldc (v := -1000000) hx hb hown (hts _ (List.mem_append_left _ (List.mem_append_left _ (List.mem_append_left _ (List.mem_append_left _ (List.mem_append_left _ (List.mem_append_left _ (List.mem_append_left _ (List.mem_append_left _ (List.mem_append_left _ (List.mem_append_left _ (List.mem_append_left _ (List.mem_append_left _ (List.mem_append_left _ (List.mem_append_left _ (List.mem_of_getElem? (i := 6) rfl)))))))))))))))) dL_law_247 ?_
                          refine lv_icmp_lt (tgt := 259) hx hb dL_law_249 (by decide) (fun c40 => ?_) (fun c40 => ?_)
                          · exact absurd ((iL_lt (b := -1000000) (by omega) (by omega) (by omega) (by omega)).mp c40) (by omega)
                          · refine lv_iload hx hb dL_law_252 (lv_at hl 0 rfl) ?_
                            refine lv_ldc (v := 1000000) hx hb hown (hts _ (List.mem_append_left _ (List.mem_append_left _ (List.mem_append_left _ (List.mem_append_left _ (List.mem_append_left _ (List.mem_append_left _ (List.mem_append_left _ (List.mem_append_left _ (List.mem_append_left _ (List.mem_append_left _ (List.mem_append_left _ (List.mem_append_left _ (List.mem_append_left _ (List.mem_append_left _ (List.mem_of_getElem? (i := 5) rfl)))))))))))))))) dL_law_254 ?_
                            refine lv_icmp_le (tgt := 261) hx hb dL_law_256 (by decide) (fun c41 => ?_) (fun c41 => ?_)
                            · refine W.widen (k := 500 + 8 * (k + 1)) (n := 8000 + 50 * (k + 1)) (by omega) (by omega) ?_
                              obtain ⟨i42, ei42⟩ : ∃ y : Int32, y = nI k + (1) := ⟨_, rfl⟩
                              refine lv_iinc (v := i42) (lv' := [(11, .int i42), (13, .int (iL (T1 1 k))), (12, .int (iL (T1 0 k))), (10, .ref bz), (9, .ref hs), (8, .int (vlBroken S T1 true)), (7, .int (vlBroken S T1 false)), (6, .ref nn), (5, .ref pl), (4, .ref me), (3, .ref ge), (2, .ref sh), (1, .ref x), (0, .ref b9)]) hx hb dL_law_261 hl (k := 2) rfl (by rw [ei42]; rfl) (by decide) rfl (fun ls hl => ?_)
                              have hi42 : i42 = nI (k + 1) := by
                                rw [ei42]
                                exact nI_1 k
                              rw [hi42] at hl
                              refine lv_goto (tgt := 84) hx hb dL_law_264 (by decide) ?_
                              exact ih_L84 (k + 1) (upd Fh k (g_b (decide (T1 2 k ≠ -1)))) (upd Fb k (g_b bb)) B2 w15 H locs ls (by omega) (by omega) (hB23) (hFh2) (hFb2) f21 f22 f16 f17 f18 f19 f20 hP hS (lv_sub hl [0, 3, 4, 5, 6, 7, 8, 9, 10, 11, 12, 13] rfl)
                            · exact absurd ((iL_le (b := 1000000) (by omega) (by omega) (by omega) (by omega)).mpr (by omega)) c41
              · skip
                refine lv_goto (tgt := 261) hx hb dL_law_197 (by decide) ?_
                refine W.widen (k := 500 + 8 * (k + 1)) (n := 8000 + 50 * (k + 1)) (by omega) (by omega) ?_
                obtain ⟨i43, ei43⟩ : ∃ y : Int32, y = nI k + (1) := ⟨_, rfl⟩
                refine lv_iinc (v := i43) (lv' := [(11, .int i43), (10, .ref bz), (9, .ref hs), (8, .int (vlBroken S T1 true)), (7, .int (vlBroken S T1 false)), (6, .ref nn), (5, .ref pl), (4, .ref me), (3, .ref ge), (2, .ref sh), (1, .ref x), (0, .ref b9)]) hx hb dL_law_261 hl (k := 0) rfl (by rw [ei43]; rfl) (by decide) rfl (fun ls hl => ?_)
                have hi43 : i43 = nI (k + 1) := by
                  rw [ei43]
                  exact nI_1 k
                rw [hi43] at hl
                refine lv_goto (tgt := 84) hx hb dL_law_264 (by decide) ?_
                exact ih_L84 (k + 1) (upd Fh k (g_b (decide (T1 2 k ≠ -1)))) (upd Fb k (g_b bb)) B2 w15 H locs ls (by omega) (by omega) (hB23) (hFh2) (hFb2) f21 f22 f16 f17 f18 f19 f20 hP hS (lv_sub hl [0, 1, 2, 3, 4, 5, 6, 7, 8, 9, 10, 11] rfl)
            refine lv_aload hx hb dL_law_135 (lv_at hl 1 rfl) ?_
            refine lv_iload hx hb dL_law_137 (lv_at hl 0 rfl) ?_
            refine g_zald F hP f22 (vp_in_nI (by omega) (by omega)) dL_law_139 ?_
            refine lv_topi (fun v44 ev44 => ?_)
            have hv44 : v44 = g_b bb := by
              rw [ev44]
              rw [nI_clamp (n := k) (by omega)]
              exact pk_us
            rw [hv44]
            refine lv_if_eq (tgt := 189) hx hb dL_law_140 (by decide) (fun c45 => ?_) (fun c45 => ?_)
            · have yc45 : bb = false := g_b0.mp c45
              refine W.widen (k := (500 + 8 * k + 4)) (n := (8000 + 50 * k + 24)) (by omega) (by omega) ?_
              exact J189  H locs ls  hP hS (lv_sub hl [0, 1, 2, 3, 4, 5, 6, 7, 8, 9, 10, 11] rfl)
            · have yc45 : bb = true := g_b1.mp c45
              have hbs := hbb.mp yc45
              obtain ⟨w0, w1a, w2⟩ := Wi.1 k (by omega) hbs
              refine lv_aload hx hb dL_law_143 (lv_at hl 2 rfl) ?_
              refine lv_iload hx hb dL_law_145 (lv_at hl 0 rfl) ?_
              refine g_zald F hP f21 (vp_in_nI (by omega) (by omega)) dL_law_147 ?_
              refine lv_topi (fun v46 ev46 => ?_)
              have hv46 : v46 = g_b (decide (T1 2 k ≠ -1)) := by
                rw [ev46]
                rw [nI_clamp (n := k) (by omega)]
                exact pk_us
              rw [hv46]
              refine lv_if_eq (tgt := 187) hx hb dL_law_148 (by decide) (fun c47 => ?_) (fun c47 => ?_)
              · exact absurd (of_decide_eq_false (g_b0.mp c47)) (fun q => q (by omega))
              · refine lv_aload_n hx hb dL_law_151 rfl (lv_at hl 10 rfl) ?_
                refine lv_iload hx hb dL_law_152 (lv_at hl 0 rfl) ?_
                have hk0 : ((k : Nat) : Int) < S 0 0 := by omega
                have kk0 := kN_n (k := k) (by omega)
                have ki := nI_i k (by omega)
                obtain ⟨ad, Cn, T, h00, hBn, hT3, hLn⟩ := id hB23
                rw [← eT1] at hT3
                have hCo := k_X6_stage l hlt A G w15 ad Cn S T (nI k) hBn.1 hBn.2.1 hBn.2.2.1 hBn.2.2.2.1
                rw [h00] at hCo
                have hx0 := rep_x hBn.1 hBn.2.1
                rw [h00] at hx0
                have hcd := (show cdShaft S (nI k) = 0 from if_pos ⟨by omega, by omega⟩)
                refine g_cVi (As := [.int (nI k)]) (rest := []) F hP hS hCo (cwV 1 hts gL_law_X6_stage rfl rfl rfl cd_X6_stage ⟨by rw [hR]; exact Nat.le_of_ble_eq_true rfl, by rw [hR]; exact Nat.le_of_ble_eq_true rfl⟩) hx0 rfl rfl rfl hl.1 (Nat.le_of_ble_eq_true rfl) dL_law_154 ⟨by rw [hR]; dsimp only; omega, by rw [hR]; dsimp only; omega⟩ rfl (fun E w9 ce q9 H locs hpx hP hS hce hcv hcl => ?_) (fun r48 w49 H locs h50 hP hS => ?_)
                · obtain ⟨_, q⟩ := hpx.2
                  exact absurd (hcd.symm.trans q) (by decide)
                · obtain ⟨hc0, er, ew⟩ := h50
                  rw [ew] at hP
                  rw [er.trans ((show vlStage T (nI k) = iL (T1 2 k) from by unfold vlStage; rw [kk0, hT3 2 (by decide)]))]
                  refine lv_if_ne (tgt := 187) hx hb dL_law_157 (by decide) (fun c51 => ?_) (fun c51 => ?_)
                  · exact absurd (show iL (T1 2 k) = 0 from by rw [w2]; rfl) c51
                  · refine lv_aload_n hx hb dL_law_160 rfl (lv_at hl 10 rfl) ?_
                    refine lv_iload hx hb dL_law_161 (lv_at hl 0 rfl) ?_
                    refine lv_iconst (v := 0) hx hb dL_law_163 (by decide) ?_
                    rw [show (.int 0 : Value) = .int (g_b false) from rfl]
                    have hk0 : ((k : Nat) : Int) < S 0 0 := by omega
                    have kk0 := kN_n (k := k) (by omega)
                    have ki := nI_i k (by omega)
                    obtain ⟨ad, Cn, T, h00, hBn, hT3, hLn⟩ := id hB23
                    rw [← eT1] at hT3
                    have hCo := k_X6_speed l hlt A G w15 ad Cn S T (nI k) false hBn.1 hBn.2.1 hBn.2.2.1 hBn.2.2.2.1
                    rw [h00] at hCo
                    have hx0 := rep_x hBn.1 hBn.2.1
                    rw [h00] at hx0
                    have hcd := (show cdSpeed S T (nI k) = 0 from (if_pos ⟨by omega, by omega⟩).trans (if_pos (by rw [kk0, hT3 2 (by decide)]; exact (show T1 2 k ≠ -1 from by omega))))
                    refine g_cVi (As := [.int (nI k), .int (g_b false)]) (rest := []) F hP hS hCo (cwV 2 hts gL_law_X6_speed rfl rfl rfl cd_X6_speed ⟨by rw [hR]; exact Nat.le_of_ble_eq_true rfl, by rw [hR]; exact Nat.le_of_ble_eq_true rfl⟩) hx0 rfl rfl rfl hl.1 (Nat.le_of_ble_eq_true rfl) dL_law_164 ⟨by rw [hR]; dsimp only; omega, by rw [hR]; dsimp only; omega⟩ rfl (fun E w9 ce q9 H locs hpx hP hS hce hcv hcl => ?_) (fun r52 w53 H locs h54 hP hS => ?_)
                    · rcases hpx.2 with ⟨_, q⟩ | ⟨_, q⟩ <;> exact absurd (hcd.symm.trans q) (by decide)
                    · obtain ⟨hc0, er, ew⟩ := h54
                      rw [ew] at hP
                      rw [er.trans ((show vlSpeed T (nI k) false = iL (T1 0 k) from by unfold vlSpeed; rw [kk0, hT3 0 (by decide), hT3 1 (by decide)]; rfl))]
                      refine lv_iload hx hb dL_law_167 (lv_at hl 0 rfl) ?_
                      refine lv_aload hx hb dL_law_169 (lv_at hl 5 rfl) ?_
                      refine lv_iconst (v := 4) hx hb dL_law_171 (by decide) ?_
                      refine g_iald F hP f16 (by unfold vp_in; decide) dL_law_172 ?_
                      refine lv_topi (fun v55 ev55 => ?_)
                      have hv55 : v55 = iL (S 0 4) := by
                        rw [ev55]
                        rw [show (4 : Int32).toNatClampNeg = 4 from by decide]
                        exact kn4
                      rw [hv55]
                      refine lv_icmp_ne (tgt := 183) hx hb dL_law_173 (by decide) (fun c56 => ?_) (fun c56 => ?_)
                      · have yc56 : ¬ (k : Int) = S 0 4 := fun q => c56 ((nI_eqi (by omega) (by omega) (by omega)).mpr q)
                        refine lv_iconst (v := 0) hx hb dL_law_183 (by decide) ?_
                        refine lv_icmp_eq (tgt := 189) hx hb dL_law_184 (by decide) (fun c57 => ?_) (fun c57 => ?_)
                        · refine W.widen (k := (500 + 8 * k + 4)) (n := (8000 + 50 * k + 24)) (by omega) (by omega) ?_
                          exact J189  H locs ls  hP hS (lv_sub hl [0, 1, 2, 3, 4, 5, 6, 7, 8, 9, 10, 11] rfl)
                        · exact absurd (by rw [w0, if_neg yc56]; rfl) c57
                      · have yc56 : (k : Int) = S 0 4 := (nI_eqi (by omega) (by omega) (by omega)).mp c56
                        have kn5 : Fn 5 = iL (S 0 5) := fn5 (by omega)
                        refine lv_aload hx hb dL_law_176 (lv_at hl 5 rfl) ?_
                        refine lv_iconst (v := 5) hx hb dL_law_178 (by decide) ?_
                        refine g_iald F hP f16 (by unfold vp_in; decide) dL_law_179 ?_
                        refine lv_topi (fun v58 ev58 => ?_)
                        have hv58 : v58 = iL (S 0 5) := by
                          rw [ev58]
                          rw [show ((5 : Int32).toNatClampNeg) = 5 from by decide]
                          exact kn5
                        rw [hv58]
                        refine lv_goto (tgt := 184) hx hb dL_law_180 (by decide) ?_
                        refine lv_icmp_eq (tgt := 189) hx hb dL_law_184 (by decide) (fun c59 => ?_) (fun c59 => ?_)
                        · refine W.widen (k := (500 + 8 * k + 4)) (n := (8000 + 50 * k + 24)) (by omega) (by omega) ?_
                          exact J189  H locs ls  hP hS (lv_sub hl [0, 1, 2, 3, 4, 5, 6, 7, 8, 9, 10, 11] rfl)
                        · exact absurd (by rw [w0, if_pos yc56]) c59
          refine lv_iload hx hb dL_law_108 (lv_at hl 0 rfl) ?_
          refine lv_aload hx hb dL_law_110 (lv_at hl 5 rfl) ?_
          refine lv_iconst (v := 4) hx hb dL_law_112 (by decide) ?_
          refine g_iald F hP f8 (by unfold vp_in; decide) dL_law_113 ?_
          refine lv_topi (fun v60 ev60 => ?_)
          have hv60 : v60 = iL (S 0 4) := by
            rw [ev60]
            rw [show (4 : Int32).toNatClampNeg = 4 from by decide]
            exact kn4
          rw [hv60]
          refine lv_icmp_eq (tgt := 129) hx hb dL_law_114 (by decide) (fun c61 => ?_) (fun c61 => ?_)
          · have yc61 : (k : Int) = S 0 4 := (nI_eqi (by omega) (by omega) (by omega)).mp c61
            refine lv_iconst (v := 1) hx hb dL_law_129 (by decide) ?_
            refine lv_goto (tgt := 134) hx hb dL_law_130 (by decide) ?_
            refine W.widen (k := (500 + 8 * k + 1)) (n := (8000 + 50 * k + 6)) (by omega) (by omega) ?_
            exact J134 true H locs ls (iff_of_true rfl (Or.inl yc61)) hP hS (lv_sub hl [0, 1, 2, 3, 4, 5, 6, 7, 8, 9, 10, 11] rfl)
          · have yc61 : ¬ (k : Int) = S 0 4 := fun q => c61 ((nI_eqi (by omega) (by omega) (by omega)).mpr q)
            refine lv_aload_n hx hb dL_law_117 rfl (lv_at hl 9 rfl) ?_
            refine lv_iconst (v := 3) hx hb dL_law_118 (by decide) ?_
            refine lv_iload hx hb dL_law_119 (lv_at hl 0 rfl) ?_
            refine lv_imul hx hb dL_law_121 ?_
            refine lv_topi (fun v62 ev62 => ?_)
            have hv62 : v62 = nI (3 * k) := by
              rw [ev62]
              exact pk_mul 3 k
            rw [hv62]
            refine lv_iconst (v := 2) hx hb dL_law_122 (by decide) ?_
            refine lv_iadd hx hb dL_law_123 ?_
            refine lv_topi (fun v63 ev63 => ?_)
            have hv63 : v63 = nI (3 * k + 2) := by
              rw [ev63]
              exact nI_add (3 * k) 2
            rw [hv63]
            refine g_iald F hP f9 (vp_in_nI (by omega) (by omega)) dL_law_124 ?_
            refine lv_topi (fun v64 ev64 => ?_)
            have hv64 : v64 = iL (S 3 k) := by
              rw [ev64]
              rw [nI_clamp (n := 3 * k + 2) (by omega)]
              exact has k (by omega)
            rw [hv64]
            refine lv_iconst (v := 1) hx hb dL_law_125 (by decide) ?_
            refine lv_icmp_ne (tgt := 133) hx hb dL_law_126 (by decide) (fun c65 => ?_) (fun c65 => ?_)
            · have yc65 : ¬ S 3 k = 1 := fun q => c65 (by rw [q]; rfl)
              refine lv_iconst (v := 0) hx hb dL_law_133 (by decide) ?_
              refine W.widen (k := (500 + 8 * k + 1)) (n := (8000 + 50 * k + 6)) (by omega) (by omega) ?_
              exact J134 false H locs ls (iff_of_false (by decide) (fun q => q.elim yc61 yc65)) hP hS (lv_sub hl [0, 1, 2, 3, 4, 5, 6, 7, 8, 9, 10, 11] rfl)
            · have yc65 : S 3 k = 1 := (iL_eq (b := 1) (by omega) (by omega) (by omega) (by omega)).mp c65
              refine lv_iconst (v := 1) hx hb dL_law_129 (by decide) ?_
              refine lv_goto (tgt := 134) hx hb dL_law_130 (by decide) ?_
              refine W.widen (k := (500 + 8 * k + 1)) (n := (8000 + 50 * k + 6)) (by omega) (by omega) ?_
              exact J134 true H locs ls (iff_of_true rfl (Or.inr yc65)) hP hS (lv_sub hl [0, 1, 2, 3, 4, 5, 6, 7, 8, 9, 10, 11] rfl)
  exact L84 (n0 + 1) 0 Fh Fb (fun _ => true) w H locs ls (by omega) (by omega) (hB) (fun j hj => absurd hj (Nat.not_lt_zero j)) (fun j hj => absurd hj (Nat.not_lt_zero j)) hhs hbz hnn hsh hge hme hpl hP hS (lv_sub hl [0, 1, 2, 3, 4, 5, 6, 7, 8, 9, 10, 11] rfl)
