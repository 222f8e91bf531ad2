theorem cd_X6_mesh : yX6_mesh.cls = RX6 ∧ yX6_mesh.cls ≠ "java/lang/invoke/MethodHandle" ∧ yX6_mesh.cls ≠ "java/lang/invoke/VarHandle" ∧ (parseMethodDescriptor yX6_mesh.desc).map (fun d => d.parameters.length) = some 2 := by decide +kernel
set_option maxHeartbeats 4000000 in
set_option maxRecDepth 100000 in
theorem bld_3 {p : Program} {l : Launch} {e : Env} {R : Room} {s : State} {m : MethodId} {args : Array Value} {below : List Frame} {meth : Method} {c : Code} {Q : State → Prop} {A : Nat → Prop} {G : g_C} (F : g_F p m c cL_build 15 s args wsL_build RL A G) (hR : R = ({ frames := 8, cells := 400, slots := 7000, locals := 256 } : Room)) (hlt : l.stackTraces = false) {b9 N9 : Nat} {xs : Nat → Int32} (hX : va_X b9 N9 xs s s.heap) (hbl : b9 < s.heap.size) (hbA : ¬ A b9) (hN9 : N9 ≤ 260) (htab : c.exceptionTable.toList = tableOf [(731, 741, 744, 35)]) {x sh ge me pl nn : Nat} (dshge : sh ≠ ge) (dshme : sh ≠ me) (dshpl : sh ≠ pl) (dgeme : ge ≠ me) (dgepl : ge ≠ pl) (dmepl : me ≠ pl) (dnnsh : sh ≠ nn) (dnnge : ge ≠ nn) (dnnme : me ≠ nn) (dnnpl : pl ≠ nn) {nn : Nat} {Fm0 : Nat → Int32} {Fp0 : Nat → Int32} {n0 : Nat} {n1 : Nat} {S : Sg} {Fs2 : Nat → Int32} {Fg2 : Nat → Int32} {Fn2 : Nat → Int32} {w : g_W} (dnnsh : sh ≠ nn) (dnnge : ge ≠ nn) (dnnme : me ≠ nn) (dnnpl : pl ≠ nn) (hn0 : 2 ≤ n0 ∧ n0 ≤ 8) (hn1 : n1 ≤ 12) (zz0 : S 0 0 = n0) (zz1 : S 0 1 = n1) (zz2 : S 0 2 = 0) (zz3 : S 0 3 = 0) (zz4 : S 0 4 = -1) (has : arS S n0 Fs2) (hag : arG S n1 Fg2) (hg0 : Fn2 0 = nI n0) (hg1 : Fn2 1 = nI n1) (hgz : ∀ i, 2 ≤ i → Fn2 i = 0) (hB : lwB G w x S [nn, sh, ge, me, pl]) (hnn : w nn = some (.inl (G.2.1 0, 6, .inl Fn2))) (hsh : w sh = some (.inl (G.2.1 0, 30, .inl Fs2))) (hge : w ge = some (.inl (G.2.1 0, 80, .inl Fg2))) (hme : w me = some (.inl (G.2.1 0, 32, .inl Fm0))) (hpl : w pl = some (.inl (G.2.1 0, 20, .inl Fp0))) {H : Heap} {locs : List Loc} {ls : Array Slot} (hP : g_P A G w H) (hS : va_S A s.heap H locs) (hl : lv_has ls 15 [(7, .ref nn), (6, .ref pl), (5, .ref me), (4, .ref ge), (3, .ref sh), (2, .int (nI 0)), (1, .ref b9), (0, .ref x)])
    (cont : ∀ (nn : Nat) (Fp0 : Nat → Int32) (n0 : Nat) (n1 : Nat) (m2 : Nat) (S : Sg) (Fs2 : Nat → Int32) (Fg2 : Nat → Int32) (Fm2 : Nat → Int32) (Fn : Nat → Int32) (w : g_W) (H : Heap) (locs : List Loc) (ls : Array Slot), (sh ≠ nn) → (ge ≠ nn) → (me ≠ nn) → (pl ≠ nn) → (2 ≤ n0 ∧ n0 ≤ 8) → (n1 ≤ 12) → (m2 ≤ 16) → (S 0 0 = n0) → (S 0 1 = n1) → (S 0 2 = m2) → (S 0 3 = 0) → (S 0 4 = -1) → (arS S n0 Fs2) → (arG S n1 Fg2) → (arM S m2 Fm2) → (Fn 0 = nI n0) → (Fn 1 = nI n1) → (Fn 2 = nI m2) → (Fn 3 = 0) → (lwB G w x S [nn, sh, ge, me, pl]) → w nn = some (.inl (G.2.1 0, 6, .inl Fn)) → w sh = some (.inl (G.2.1 0, 30, .inl Fs2)) → w ge = some (.inl (G.2.1 0, 80, .inl Fg2)) → w me = some (.inl (G.2.1 0, 32, .inl Fm2)) → w pl = some (.inl (G.2.1 0, 20, .inl Fp0)) → g_P A G w H → va_S A s.heap H locs → lv_has ls 15 [(7, .ref nn), (6, .ref pl), (5, .ref me), (4, .ref ge), (3, .ref sh), (2, .int (nI 0)), (1, .ref b9), (0, .ref x)] → W p l e R s m args below meth c H locs 340 6100 Q (F0 m 817 ls [])) : W p l e R s m args below meth c H locs 100 2500 Q (F0 m 390 ls []) := by
  obtain ⟨⟨hx, hb, hml, hown, hts⟩, hK, hZ, hA⟩ := id F
  refine lv_iconst (v := 0) hx hb dL_build_390 (by decide) ?_
  refine lv_istore (lv' := [(8, .int 0), (7, .ref nn), (6, .ref pl), (5, .ref me), (4, .ref ge), (3, .ref sh), (2, .int (nI 0)), (1, .ref b9), (0, .ref x)]) hx hb dL_build_391 hl (by decide) rfl (fun ls hl => ?_)
  have L393 : ∀ (n : Nat) (k : Nat) (S : Sg) (Fm : Nat → Int32) (Fn : Nat → Int32) (c2 : Nat) (w : g_W) (H : Heap) (locs : List Loc) (ls : Array Slot), 25 ≤ k + n → (k ≤ 24) → (c2 ≤ 16) → (lwB G w x S [nn, sh, ge, me, pl]) → (S 0 0 = n0 ∧ S 0 1 = n1 ∧ S 0 2 = c2 ∧ S 0 3 = 0 ∧ S 0 4 = -1) → (Fn 0 = nI n0) → (Fn 1 = nI n1) → (Fn 2 = nI c2) → (Fn 3 = 0) → (arS S n0 Fs2) → (arG S n1 Fg2) → (arM S c2 Fm) → w nn = some (.inl (G.2.1 0, 6, .inl Fn)) → w sh = some (.inl (G.2.1 0, 30, .inl Fs2)) → w ge = some (.inl (G.2.1 0, 80, .inl Fg2)) → w me = some (.inl (G.2.1 0, 32, .inl Fm)) → w pl = some (.inl (G.2.1 0, 20, .inl Fp0)) → g_P A G w H → va_S A s.heap H locs → lv_has ls 15 [(8, .int (nI k)), (7, .ref nn), (6, .ref pl), (5, .ref me), (4, .ref ge), (3, .ref sh), (2, .int (nI 0)), (1, .ref b9), (0, .ref x)] → W p l e R s m args below meth c H locs ((100 + 10 * k)) ((2500 + 150 * k)) Q (F0 m 393 ls []) := by
    intro n
    induction n with
    | zero =>
      intro k S Fm Fn c2 w H locs ls hfu hk hc2 hB hz hf0 hf1 hf2 hf3 has hag ham hnn hsh hge hme hpl hP hS hl
      exact absurd hfu (by omega)
    | succ n ih_L393 =>
      intro k S Fm Fn c2 w H locs ls hfu hk hc2 hB hz hf0 hf1 hf2 hf3 has hag ham hnn hsh hge hme hpl hP hS hl
      have Hi := lwB_inv hB
      refine lv_iload hx hb dL_build_393 (lv_at hl 0 rfl) ?_
      refine lv_bipush (v := 24) hx hb dL_build_395 (by decide) ?_
      refine lv_icmp_ge (tgt := 817) hx hb dL_build_397 (by decide) (fun c1 => ?_) (fun c1 => ?_)
      · have zc1 : 24 ≤ k := (nI_leI (a := 24) (b := k) (by omega) (by omega)).mp c1
        refine W.widen (k := 340) (n := 6100) (by omega) (by omega) ?_
        obtain ⟨zz0, zz1, zz2, zz3, zz4⟩ := hz
        exact cont nn Fp0 n0 n1 c2 S Fs2 Fg2 Fm Fn w H locs ls (dnnsh) (dnnge) (dnnme) (dnnpl) (hn0) (hn1) (hc2) (zz0) (zz1) (zz2) (zz3) (zz4) (has) (hag) (ham) (hf0) (hf1) (hf2) (hf3) (hB) hnn hsh hge hme hpl hP hS (lv_sub hl [1, 2, 3, 4, 5, 6, 7, 8] rfl)
      · have hkn : k < 24 := Nat.not_le.mp (fun q => c1 (nI_le (a := 24) q (by omega)))
        refine lv_aload_n hx hb dL_build_400 rfl (lv_at hl 7 rfl) ?_
        refine lv_iload_n hx hb dL_build_401 rfl (lv_at hl 6 rfl) ?_
        refine lv_iconst (v := 5) hx hb dL_build_402 (by decide) ?_
        refine lv_iadd hx hb dL_build_403 ?_
        refine lv_topi (fun v2 ev2 => ?_)
        have hv2 : v2 = nI (0 + 5) := by
          rw [ev2]
          exact nI_add 0 5
        rw [hv2]
        refine lv_iload hx hb dL_build_404 (lv_at hl 0 rfl) ?_
        refine lv_iconst (v := 4) hx hb dL_build_406 (by decide) ?_
        refine lv_irem hx hb dL_build_407 (by first | exact nI_ne0 (by omega) (by omega) | decide) ?_
        refine lv_topi (fun v3 ev3 => ?_)
        have hv3 : v3 = nI (k % 4) := by
          rw [ev3]
          exact nI_mod (a := k) (d := 4) (by omega) (by omega) (by omega)
        rw [hv3]
        refine lv_iadd hx hb dL_build_408 ?_
        refine lv_topi (fun v4 ev4 => ?_)
        have hv4 : v4 = nI (0 + 5 + (k % 4)) := by
          rw [ev4]
          exact nI_add (0 + 5) (k % 4)
        rw [hv4]
        refine g_SiS (As := [.ref b9, .int (nI (0 + 5 + (k % 4)))]) (rest := []) F hP hS hX hbl hbA (k_L_cell l A G w b9 N9 xs hbA (0 + 5 + (k % 4)) (by omega) hN9) (va_cwS 2 hts gL_build_L_cell rfl rfl rfl cd_L_cell ⟨by rw [hR]; exact Nat.le_of_ble_eq_true rfl, by rw [hR]; exact Nat.le_of_ble_eq_true rfl⟩) rfl hl.1 (Nat.le_of_ble_eq_true rfl) dL_build_409 ⟨by rw [hR]; dsimp only; omega, by rw [hR]; dsimp only; omega⟩ rfl (fun r5 w6 H locs h7 hP hS => ?_)
        rw [h7] at hP
        refine lv_iload hx hb dL_build_412 (lv_at hl 0 rfl) ?_
        refine lv_iconst (v := 4) hx hb dL_build_414 (by decide) ?_
        refine lv_idiv hx hb dL_build_415 (by first | exact nI_ne0 (by omega) (by omega) | decide) ?_
        refine lv_topi (fun v8 ev8 => ?_)
        have hv8 : v8 = nI (k / 4) := by
          rw [ev8]
          exact nI_dv (a := k) (d := 4) (by omega) (by omega) (by omega)
        rw [hv8]
        refine lv_iconst (v := 4) hx hb dL_build_416 (by decide) ?_
        refine lv_imul hx hb dL_build_417 ?_
        refine lv_topi (fun v9 ev9 => ?_)
        have hv9 : v9 = nI ((k / 4) * 4) := by
          rw [ev9]
          exact pk_mul (k / 4) 4
        rw [hv9]
        refine lv_ishr hx hb dL_build_418 ?_
        refine lv_topi (fun v10 ev10 => ?_)
        refine lv_istore (lv' := [(9, .int v10), (8, .int (nI k)), (7, .ref nn), (6, .ref pl), (5, .ref me), (4, .ref ge), (3, .ref sh), (2, .int (nI 0)), (1, .ref b9), (0, .ref x)]) hx hb dL_build_419 hl (by decide) rfl (fun ls hl => ?_)
        refine lv_aload hx hb dL_build_421 (lv_at hl 2 rfl) ?_
        refine lv_iconst (v := 1) hx hb dL_build_423 (by decide) ?_
        refine g_iald F hP hnn (by unfold vp_in; decide) dL_build_424 ?_
        refine lv_topi (fun v11 ev11 => ?_)
        have hv11 : v11 = nI n1 := by
          rw [ev11]
          rw [show (1 : Int32).toNatClampNeg = 1 from by decide]
          exact hf1
        rw [hv11]
        refine lv_if_eq (tgt := 811) hx hb dL_build_425 (by decide) (fun c12 => ?_) (fun c12 => ?_)
        · refine W.widen (k := 100 + 10 * (k + 1)) (n := 2500 + 150 * (k + 1)) (by omega) (by omega) ?_
          obtain ⟨i13, ei13⟩ : ∃ y : Int32, y = nI k + (1) := ⟨_, rfl⟩
          refine lv_iinc (v := i13) (lv' := [(8, .int i13), (9, .int v10), (7, .ref nn), (6, .ref pl), (5, .ref me), (4, .ref ge), (3, .ref sh), (2, .int (nI 0)), (1, .ref b9), (0, .ref x)]) hx hb dL_build_811 hl (k := 1) rfl (by rw [ei13]; rfl) (by decide) rfl (fun ls hl => ?_)
          have hi13 : i13 = nI (k + 1) := by
            rw [ei13]
            exact nI_1 k
          rw [hi13] at hl
          refine lv_goto (tgt := 393) hx hb dL_build_814 (by decide) ?_
          exact ih_L393 (k + 1) S Fm Fn c2 w H locs ls (by omega) (by omega) (hc2) (hB) (hz) (hf0) (hf1) (hf2) (hf3) (has) (hag) (ham) hnn hsh hge hme hpl hP hS (lv_sub hl [0, 2, 3, 4, 5, 6, 7, 8, 9] rfl)
        · have hn1p : 0 < n1 := by
            rcases Nat.eq_zero_or_pos n1 with q | q
            · exact absurd (by rw [q]; rfl) c12
            · exact q
          refine lv_aload hx hb dL_build_428 (lv_at hl 2 rfl) ?_
          refine lv_iconst (v := 2) hx hb dL_build_430 (by decide) ?_
          refine g_iald F hP hnn (by unfold vp_in; decide) dL_build_431 ?_
          refine lv_topi (fun v14 ev14 => ?_)
          have hv14 : v14 = nI c2 := by
            rw [ev14]
            rw [show (2 : Int32).toNatClampNeg = 2 from by decide]
            exact hf2
          rw [hv14]
          refine lv_bipush (v := 16) hx hb dL_build_432 (by decide) ?_
          refine lv_icmp_ne (tgt := 440) hx hb dL_build_434 (by decide) (fun c15 => ?_) (fun c15 => ?_)
          · have hc16 : c2 < 16 := by
              rcases Nat.lt_or_ge c2 16 with q | q
              · exact q
              · exact absurd (by rw [show c2 = 16 by omega]; rfl) c15
            refine lv_iload hx hb dL_build_440 (lv_at hl 0 rfl) ?_
            refine lv_aload hx hb dL_build_442 (lv_at hl 2 rfl) ?_
            refine lv_iconst (v := 1) hx hb dL_build_444 (by decide) ?_
            refine g_iald F hP hnn (by unfold vp_in; decide) dL_build_445 ?_
            refine lv_topi (fun v16 ev16 => ?_)
            have hv16 : v16 = nI n1 := by
              rw [ev16]
              rw [show (1 : Int32).toNatClampNeg = 1 from by decide]
              exact hf1
            rw [hv16]
            refine g_Si (As := [.int v10, .int (nI n1)]) (rest := []) F hP hS (k_L_below l A G w v10 n1 (by omega) (by omega)) (va_cwS 2 hts gL_build_L_below rfl rfl rfl cd_L_below ⟨by rw [hR]; exact Nat.le_of_ble_eq_true rfl, by rw [hR]; exact Nat.le_of_ble_eq_true rfl⟩) rfl hl.1 (Nat.le_of_ble_eq_true rfl) dL_build_446 ⟨by rw [hR]; dsimp only; omega, by rw [hR]; dsimp only; omega⟩ rfl (fun r17 w18 H locs h19 hP hS => ?_)
            have hr17 := h19.1
            rw [h19.2] at hP
            rw [hr17]
            obtain ⟨b20, eb20⟩ : ∃ z, z = blw v10 n1 := ⟨_, rfl⟩
            rw [← eb20]
            have k21 : b20 < n1 := by rw [eb20]; exact blw_lt _ (by omega)
            obtain ⟨ga, ega⟩ : ∃ z, z = b20 := ⟨_, rfl⟩
            rw [← ega]
            have hga : ga < n1 := by omega
            refine lv_istore (lv' := [(10, .int (nI ga)), (9, .int v10), (8, .int (nI k)), (7, .ref nn), (6, .ref pl), (5, .ref me), (4, .ref ge), (3, .ref sh), (2, .int (nI 0)), (1, .ref b9), (0, .ref x)]) hx hb dL_build_449 hl (by decide) rfl (fun ls hl => ?_)
            refine lv_iload hx hb dL_build_451 (lv_at hl 1 rfl) ?_
            refine lv_iconst (v := 3) hx hb dL_build_453 (by decide) ?_
            refine lv_ishr hx hb dL_build_454 ?_
            refine lv_topi (fun v22 ev22 => ?_)
            refine lv_aload hx hb dL_build_455 (lv_at hl 3 rfl) ?_
            refine lv_iconst (v := 1) hx hb dL_build_457 (by decide) ?_
            refine g_iald F hP hnn (by unfold vp_in; decide) dL_build_458 ?_
            refine lv_topi (fun v23 ev23 => ?_)
            have hv23 : v23 = nI n1 := by
              rw [ev23]
              rw [show (1 : Int32).toNatClampNeg = 1 from by decide]
              exact hf1
            rw [hv23]
            refine g_Si (As := [.int v22, .int (nI n1)]) (rest := []) F hP hS (k_L_below l A G w v22 n1 (by omega) (by omega)) (va_cwS 2 hts gL_build_L_below rfl rfl rfl cd_L_below ⟨by rw [hR]; exact Nat.le_of_ble_eq_true rfl, by rw [hR]; exact Nat.le_of_ble_eq_true rfl⟩) rfl hl.1 (Nat.le_of_ble_eq_true rfl) dL_build_459 ⟨by rw [hR]; dsimp only; omega, by rw [hR]; dsimp only; omega⟩ rfl (fun r24 w25 H locs h26 hP hS => ?_)
            have hr24 := h26.1
            rw [h26.2] at hP
            rw [hr24]
            obtain ⟨b27, eb27⟩ : ∃ z, z = blw v22 n1 := ⟨_, rfl⟩
            rw [← eb27]
            have k28 : b27 < n1 := by rw [eb27]; exact blw_lt _ (by omega)
            obtain ⟨gb, egb⟩ : ∃ z, z = b27 := ⟨_, rfl⟩
            rw [← egb]
            have hgb : gb < n1 := by omega
            obtain ⟨ga4, ga5, ga6, ga7, ga8⟩ := hag ga hga
            have Gga := Hi.2.2.1 ga (by omega)
            obtain ⟨gb4, gb5, gb6, gb7, gb8⟩ := hag gb hgb
            have Ggb := Hi.2.2.1 gb (by omega)
            refine lv_istore (lv' := [(11, .int (nI gb)), (10, .int (nI ga)), (9, .int v10), (8, .int (nI k)), (7, .ref nn), (6, .ref pl), (5, .ref me), (4, .ref ge), (3, .ref sh), (2, .int (nI 0)), (1, .ref b9), (0, .ref x)]) hx hb dL_build_462 hl (by decide) rfl (fun ls hl => ?_)
            refine W.widen (k := (100 + 10 * k)) (n := (2500 + 150 * k)) (by omega) (by omega) ?_
            have J551 : ∀ (cb : Bool) (H : Heap) (locs : List Loc) (ls : Array Slot), (cb = true ↔ (S 4 ga ≠ S 4 gb ∧ S 6 ga = S 6 gb ∧ S 7 ga = S 7 gb ∧ S 8 ga + S 8 gb < 2)) → g_P A G w H → va_S A s.heap H locs → lv_has ls 15 [(11, .int (nI gb)), (10, .int (nI ga)), (8, .int (nI k)), (7, .ref nn), (6, .ref pl), (5, .ref me), (4, .ref ge), (3, .ref sh), (2, .int (nI 0)), (1, .ref b9), (0, .ref x)] → W p l e R s m args below meth c H locs (100 + 10 * k) (2500 + 150 * k) Q (F0 m 551 ls [.int (g_b cb)]) := by
              intro cb H locs ls h1 hP hS hl
              refine lv_istore (lv' := [(12, .int (g_b cb)), (11, .int (nI gb)), (10, .int (nI ga)), (8, .int (nI k)), (7, .ref nn), (6, .ref pl), (5, .ref me), (4, .ref ge), (3, .ref sh), (2, .int (nI 0)), (1, .ref b9), (0, .ref x)]) hx hb dL_build_551 hl (by decide) rfl (fun ls hl => ?_)
              refine W.widen (k := (100 + 10 * k)) (n := (2500 + 150 * k)) (by omega) (by omega) ?_
              have J599 : ∀ (cc : Bool) (H : Heap) (locs : List Loc) (ls : Array Slot), (cc = true ↔ (cb = true ∧ (S 8 ga = 1 → S 5 gb < S 5 ga))) → g_P A G w H → va_S A s.heap H locs → lv_has ls 15 [(12, .int (g_b cc)), (11, .int (nI gb)), (10, .int (nI ga)), (8, .int (nI k)), (7, .ref nn), (6, .ref pl), (5, .ref me), (4, .ref ge), (3, .ref sh), (2, .int (nI 0)), (1, .ref b9), (0, .ref x)] → W p l e R s m args below meth c H locs (100 + 10 * k) (2500 + 150 * k) Q (F0 m 599 ls []) := by
                intro cc H locs ls h2 hP hS hl
                refine W.widen (k := (100 + 10 * k)) (n := (2500 + 150 * k)) (by omega) (by omega) ?_
                have J645 : ∀ (cd : Bool) (H : Heap) (locs : List Loc) (ls : Array Slot), (cd = true ↔ (cc = true ∧ (S 8 gb = 1 → S 5 ga < S 5 gb))) → g_P A G w H → va_S A s.heap H locs → lv_has ls 15 [(12, .int (g_b cd)), (11, .int (nI gb)), (10, .int (nI ga)), (8, .int (nI k)), (7, .ref nn), (6, .ref pl), (5, .ref me), (4, .ref ge), (3, .ref sh), (2, .int (nI 0)), (1, .ref b9), (0, .ref x)] → W p l e R s m args below meth c H locs (100 + 10 * k) (2500 + 150 * k) Q (F0 m 645 ls []) := by
                  intro cd H locs ls h3 hP hS hl
                  refine lv_iconst (v := 0) hx hb dL_build_645 (by decide) ?_
                  refine lv_istore (lv' := [(13, .int 0), (12, .int (g_b cd)), (11, .int (nI gb)), (10, .int (nI ga)), (8, .int (nI k)), (7, .ref nn), (6, .ref pl), (5, .ref me), (4, .ref ge), (3, .ref sh), (2, .int (nI 0)), (1, .ref b9), (0, .ref x)]) hx hb dL_build_646 hl (by decide) rfl (fun ls hl => ?_)
                  have L648 : ∀ (n : Nat) (j : Nat) (cf : Bool) (H : Heap) (locs : List Loc) (ls : Array Slot), c2 + 1 ≤ j + n → (j ≤ c2) → (cf = true ↔ cd = true ∧ ∀ i, i < j → ¬ meshAt S i ga gb) → g_P A G w H → va_S A s.heap H locs → lv_has ls 15 [(13, .int (nI j)), (12, .int (g_b cf)), (11, .int (nI gb)), (10, .int (nI ga)), (8, .int (nI k)), (7, .ref nn), (6, .ref pl), (5, .ref me), (4, .ref ge), (3, .ref sh), (2, .int (nI 0)), (1, .ref b9), (0, .ref x)] → W p l e R s m args below meth c H locs ((100 + 10 * k)) ((2500 + 150 * k)) Q (F0 m 648 ls []) := by
                    intro n
                    induction n with
                    | zero =>
                      intro j cf H locs ls hfu hj h4 hP hS hl
                      exact absurd hfu (by omega)
                    | succ n ih_L648 =>
                      intro j cf H locs ls hfu hj h4 hP hS hl
                      refine lv_iload hx hb dL_build_648 (lv_at hl 0 rfl) ?_
                      refine lv_aload hx hb dL_build_650 (lv_at hl 5 rfl) ?_
                      refine lv_iconst (v := 2) hx hb dL_build_652 (by decide) ?_
                      refine g_iald F hP hnn (by unfold vp_in; decide) dL_build_653 ?_
                      refine lv_topi (fun v29 ev29 => ?_)
                      have hv29 : v29 = nI c2 := by
                        rw [ev29]
                        rw [show (2 : Int32).toNatClampNeg = 2 from by decide]
                        exact hf2
                      rw [hv29]
                      refine lv_icmp_ge (tgt := 727) hx hb dL_build_654 (by decide) (fun c30 => ?_) (fun c30 => ?_)
                      · have zc30 : c2 ≤ j := (nI_leI (by omega) (by omega)).mp c30
                        have ejn : j = c2 := by omega
                        rw [ejn] at h4
                        have hcan : cf = true ↔ canM S ga gb := by
                          rw [h4, h3, h2, h1]
                          constructor
                          · intro q
                            refine ⟨by omega, fun ⟨i, i1, i2⟩ => q.2 i (by omega) i2⟩
                          · intro q
                            obtain ⟨q1, q2⟩ := q
                            exact ⟨by omega, fun i hi z => q2 ⟨i, by omega, z⟩⟩
                        refine lv_bipush (v := (-2)) hx hb dL_build_727 (by decide) ?_
                        refine lv_istore (lv' := [(13, .int (-2)), (12, .int (g_b cf)), (11, .int (nI gb)), (10, .int (nI ga)), (8, .int (nI k)), (7, .ref nn), (6, .ref pl), (5, .ref me), (4, .ref ge), (3, .ref sh), (2, .int (nI 0)), (1, .ref b9), (0, .ref x)]) hx hb dL_build_729 hl (by decide) rfl (fun ls hl => ?_)
                        refine lv_aload_n hx hb dL_build_731 rfl (lv_at hl 12 rfl) ?_
                        refine lv_iload hx hb dL_build_732 (lv_at hl 3 rfl) ?_
                        refine lv_iload hx hb dL_build_734 (lv_at hl 2 rfl) ?_
                        have tka := kN_n (k := ga) (by omega)
                        have tkb := kN_n (k := gb) (by omega)
                        have ta := nI_i ga (by omega)
                        have tb := nI_i gb (by omega)
                        have shq : shQ S 1 (nI ga) ∧ shQ S 1 (nI gb) := ⟨⟨by omega, by omega⟩, by omega, by omega⟩
                        have cd1 : canM S ga gb → cdMesh S (nI ga) (nI gb) = 0 := fun q => (if_pos shq).trans (by rw [tka, tkb]; exact (if_pos q).trans (if_pos (by omega)))
                        have cd2 : ¬ canM S ga gb → cdMesh S (nI ga) (nI gb) = 2 := fun q => (if_pos shq).trans (by rw [tka, tkb]; exact if_neg q)
                        obtain ⟨ad, Cn, T, h00, hBn, hLn⟩ := id hB
                        have hCo := k_X6_mesh l hlt A G w ad Cn S T (nI ga) (nI gb) hBn.1 hBn.2.1 hBn.2.2.1 hBn.2.2.2.1 hBn.2.2.2.2
                        rw [h00] at hCo
                        have hx0 := rep_x hBn.1 hBn.2.1
                        rw [h00] at hx0
                        refine g_cVi (As := [.int (nI ga), .int (nI gb)]) (rest := []) F hP hS hCo (cwV 2 hts gL_build_X6_mesh rfl rfl rfl cd_X6_mesh ⟨by rw [hR]; exact Nat.le_of_ble_eq_true rfl, by rw [hR]; exact Nat.le_of_ble_eq_true rfl⟩) hx0 rfl rfl rfl hl.1 (Nat.le_of_ble_eq_true rfl) dL_build_736 ⟨by rw [hR]; dsimp only; omega, by rw [hR]; dsimp only; omega⟩ rfl (fun E w9 ce q9 H locs hpx hP hS hce hcv hcl => ?_) (fun r31 w32 H locs h33 hP hS => ?_)
                        · obtain ⟨ew9, hpx⟩ := hpx
                          have ew9 : w9 = w := ew9
                          rw [ew9] at hP
                          have hno : ¬ canM S ga gb := fun q => by
                            rcases hpx with ⟨_, z⟩ | ⟨_, z⟩ | ⟨_, z⟩ <;> exact absurd ((cd1 q).symm.trans z) (by decide)
                          have eE : E = "java/lang/IllegalArgumentException" := by
                            rcases hpx with ⟨_, z⟩ | ⟨z, _⟩ | ⟨_, z⟩
                            · exact absurd ((cd2 hno).symm.trans z) (by decide)
                            · exact z
                            · exact absurd ((cd2 hno).symm.trans z) (by decide)
                          subst eE
                          refine vx_catch hown [] ⟨731, 741, 744, 35⟩ [] htab (fun z hz => (nomatch hz)) (by decide) (by decide) (hts _ (List.mem_cons_of_mem _ (List.mem_append_left _ (List.mem_append_left _ (List.mem_append_left _ (List.mem_append_left _ (List.mem_append_left _ (List.mem_append_left _ (List.mem_append_left _ (List.mem_append_left _ (List.mem_append_left _ (List.mem_append_left _ (List.mem_append_left _ (List.mem_append_left _ (List.mem_append_left _ (List.mem_of_getElem? (i := 0) rfl)))))))))))))))) (va_Nw.use rfl (hZ.2.2.2.2.2.2.2.1 ("java/lang/IllegalArgumentException", "java/lang/IllegalArgumentException") (List.mem_of_getElem? (i := 0) rfl))) hce hcv hcl ?_
                          have yce : cf = false := by
                            cases hq : cf
                            · rfl
                            · exact absurd (hcan.mp hq) hno
                          refine lv_astore (lv' := [(14, .ref q9), (13, .int (-2)), (12, .int (g_b cf)), (11, .int (nI gb)), (10, .int (nI ga)), (8, .int (nI k)), (7, .ref nn), (6, .ref pl), (5, .ref me), (4, .ref ge), (3, .ref sh), (2, .int (nI 0)), (1, .ref b9), (0, .ref x)]) hx hb dL_build_744 hl (by decide) rfl (fun ls hl => ?_)
                          refine lv_bipush (v := (-2)) hx hb dL_build_746 (by decide) ?_
                          refine lv_istore (lv' := [(13, .int (-2)), (14, .ref q9), (12, .int (g_b cf)), (11, .int (nI gb)), (10, .int (nI ga)), (8, .int (nI k)), (7, .ref nn), (6, .ref pl), (5, .ref me), (4, .ref ge), (3, .ref sh), (2, .int (nI 0)), (1, .ref b9), (0, .ref x)]) hx hb dL_build_748 hl (by decide) rfl (fun ls hl => ?_)
                          refine lv_iload hx hb dL_build_750 (lv_at hl 0 rfl) ?_
                          refine lv_iload hx hb dL_build_752 (lv_at hl 2 rfl) ?_
                          refine lv_if_eq (tgt := 764) hx hb dL_build_754 (by decide) (fun c34 => ?_) (fun c34 => ?_)
                          · refine lv_bipush (v := (-2)) hx hb dL_build_764 (by decide) ?_
                            refine lv_icmp_eq (tgt := 771) hx hb dL_build_766 (by decide) (fun c35 => ?_) (fun c35 => ?_)
                            · refine lv_iload hx hb dL_build_771 (lv_at hl 2 rfl) ?_
                              refine lv_if_ne (tgt := 779) hx hb dL_build_773 (by decide) (fun c36 => ?_) (fun c36 => ?_)
                              · exact absurd (by rw [yce]; rfl) c36
                              · refine lv_goto (tgt := 811) hx hb dL_build_776 (by decide) ?_
                                refine W.widen (k := 100 + 10 * (k + 1)) (n := 2500 + 150 * (k + 1)) (by omega) (by omega) ?_
                                obtain ⟨i37, ei37⟩ : ∃ y : Int32, y = nI k + (1) := ⟨_, rfl⟩
                                refine lv_iinc (v := i37) (lv' := [(8, .int i37), (13, .int (-2)), (14, .ref q9), (12, .int (g_b cf)), (11, .int (nI gb)), (10, .int (nI ga)), (7, .ref nn), (6, .ref pl), (5, .ref me), (4, .ref ge), (3, .ref sh), (2, .int (nI 0)), (1, .ref b9), (0, .ref x)]) hx hb dL_build_811 hl (k := 5) rfl (by rw [ei37]; rfl) (by decide) rfl (fun ls hl => ?_)
                                have hi37 : i37 = nI (k + 1) := by
                                  rw [ei37]
                                  exact nI_1 k
                                rw [hi37] at hl
                                refine lv_goto (tgt := 393) hx hb dL_build_814 (by decide) ?_
                                exact ih_L393 (k + 1) S Fm Fn c2 w H locs ls (by omega) (by omega) (hc2) (hB) (hz) (hf0) (hf1) (hf2) (hf3) (has) (hag) (ham) hnn hsh hge hme hpl hP hS (lv_sub hl [0, 6, 7, 8, 9, 10, 11, 12, 13] rfl)
                            · exact absurd rfl c35
                          · exact absurd (by rw [yce]; rfl) c34
                        · obtain ⟨hc0, er, hAf⟩ := h33
                          obtain ⟨S38, eS38⟩ : ∃ z, z = nxMesh S (nI ga) (nI gb) := ⟨_, rfl⟩
                          rw [← eS38] at hAf
                          obtain ⟨hB39, kp40⟩ := lwB_aft h00 hLn hAf
                          have f41 : w32 nn = some (.inl (G.2.1 0, 6, .inl Fn)) := (kp40 nn (List.mem_of_getElem? (i := 0) rfl)).trans hnn
                          have f42 : w32 sh = some (.inl (G.2.1 0, 30, .inl Fs2)) := (kp40 sh (List.mem_of_getElem? (i := 1) rfl)).trans hsh
                          have f43 : w32 ge = some (.inl (G.2.1 0, 80, .inl Fg2)) := (kp40 ge (List.mem_of_getElem? (i := 2) rfl)).trans hge
                          have f44 : w32 me = some (.inl (G.2.1 0, 32, .inl Fm)) := (kp40 me (List.mem_of_getElem? (i := 3) rfl)).trans hme
                          have f45 : w32 pl = some (.inl (G.2.1 0, 20, .inl Fp0)) := (kp40 pl (List.mem_of_getElem? (i := 4) rfl)).trans hpl
                          rw [er]
                          have yes : canM S ga gb := by
                            rcases Classical.em (canM S ga gb) with q | q
                            · exact q
                            · exact absurd ((cd2 q).symm.trans hc0) (by decide)
                          have yce := hcan.mpr yes
                          obtain ⟨a1, a2, a9, a10, a4, a5⟩ := nx_mesh eS38
                          have s0n : (S 0 2).toNat = c2 := by omega
                          rw [s0n, ta] at a9
                          rw [s0n, tb] at a10
                          rw [s0n] at a4
                          have zk : S38 0 0 = n0 ∧ S38 0 1 = n1 ∧ S38 0 2 = ((c2 + 1 : Nat) : Int) ∧ S38 0 3 = 0 ∧ S38 0 4 = -1 := by rw [a2 0 (by decide), a2 1 (by decide), a1, a2 3 (by decide), a2 4 (by decide)]; omega
                          unfold vlMesh
                          rw [iL_nat (n := c2) (by omega : S 0 2 = (c2 : Int))]
                          refine lv_istore (lv' := [(13, .int (nI c2)), (12, .int (g_b cf)), (11, .int (nI gb)), (10, .int (nI ga)), (8, .int (nI k)), (7, .ref nn), (6, .ref pl), (5, .ref me), (4, .ref ge), (3, .ref sh), (2, .int (nI 0)), (1, .ref b9), (0, .ref x)]) hx hb dL_build_739 hl (by decide) rfl (fun ls hl => ?_)
                          refine lv_goto (tgt := 750) hx hb dL_build_741 (by decide) ?_
                          refine lv_iload hx hb dL_build_750 (lv_at hl 0 rfl) ?_
                          refine lv_iload hx hb dL_build_752 (lv_at hl 1 rfl) ?_
                          refine lv_if_eq (tgt := 764) hx hb dL_build_754 (by decide) (fun c46 => ?_) (fun c46 => ?_)
                          · exact absurd (g_b0.mp c46) (by rw [yce]; decide)
                          · refine lv_aload hx hb dL_build_757 (lv_at hl 5 rfl) ?_
                            refine lv_iconst (v := 2) hx hb dL_build_759 (by decide) ?_
                            refine g_iald F hP f41 (by unfold vp_in; decide) dL_build_760 ?_
                            refine lv_topi (fun v47 ev47 => ?_)
                            have hv47 : v47 = nI c2 := by
                              rw [ev47]
                              rw [show (2 : Int32).toNatClampNeg = 2 from by decide]
                              exact hf2
                            rw [hv47]
                            refine lv_goto (tgt := 766) hx hb dL_build_761 (by decide) ?_
                            refine lv_icmp_eq (tgt := 771) hx hb dL_build_766 (by decide) (fun c48 => ?_) (fun c48 => ?_)
                            · refine lv_iload hx hb dL_build_771 (lv_at hl 1 rfl) ?_
                              refine lv_if_ne (tgt := 779) hx hb dL_build_773 (by decide) (fun c49 => ?_) (fun c49 => ?_)
                              · refine lv_aload hx hb dL_build_779 (lv_at hl 7 rfl) ?_
                                refine lv_iconst (v := 2) hx hb dL_build_781 (by decide) ?_
                                refine lv_aload hx hb dL_build_782 (lv_at hl 5 rfl) ?_
                                refine lv_iconst (v := 2) hx hb dL_build_784 (by decide) ?_
                                refine g_iald F hP f41 (by unfold vp_in; decide) dL_build_785 ?_
                                refine lv_topi (fun v50 ev50 => ?_)
                                have hv50 : v50 = nI c2 := by
                                  rw [ev50]
                                  rw [show (2 : Int32).toNatClampNeg = 2 from by decide]
                                  exact hf2
                                rw [hv50]
                                refine lv_imul hx hb dL_build_786 ?_
                                refine lv_topi (fun v51 ev51 => ?_)
                                have hv51 : v51 = nI (2 * c2) := by
                                  rw [ev51]
                                  exact pk_mul 2 c2
                                rw [hv51]
                                refine lv_iload hx hb dL_build_787 (lv_at hl 3 rfl) ?_
                                refine g_iast F hP hS f44 (vp_in_nI (by omega) (by omega)) dL_build_789 (fun H locs hP hS => ?_)
                                rw [nI_clamp (n := 2 * c2) (by omega)] at hP
                                obtain ⟨w52, ew52⟩ : ∃ z, z = g_up w32 me (.inl (G.2.1 0, 32, .inl (upd Fm (2 * c2) (nI ga)))) := ⟨_, rfl⟩
                                have hP : g_P A G w52 H := by rw [ew52]; exact hP
                                have f53 : w52 nn = some (.inl (G.2.1 0, 6, .inl Fn)) := by rw [ew52]; exact g_up_f f41 (Ne.symm (dnnme))
                                have f54 : w52 sh = some (.inl (G.2.1 0, 30, .inl Fs2)) := by rw [ew52]; exact g_up_f f42 (dshme)
                                have f55 : w52 ge = some (.inl (G.2.1 0, 80, .inl Fg2)) := by rw [ew52]; exact g_up_f f43 (dgeme)
                                have f56 : w52 pl = some (.inl (G.2.1 0, 20, .inl Fp0)) := by rw [ew52]; exact g_up_f f45 (Ne.symm (dmepl))
                                have f57 : w52 me = some (.inl (G.2.1 0, 32, .inl (upd Fm (2 * c2) (nI ga)))) := by rw [ew52]; exact g_up_s _ _ _
                                have hB58 := lwB_set hB39 (List.mem_of_getElem? (i := 3) rfl) ew52
                                refine lv_aload hx hb dL_build_790 (lv_at hl 7 rfl) ?_
                                refine lv_iconst (v := 2) hx hb dL_build_792 (by decide) ?_
                                refine lv_aload hx hb dL_build_793 (lv_at hl 5 rfl) ?_
                                refine lv_iconst (v := 2) hx hb dL_build_795 (by decide) ?_
                                refine g_iald F hP f53 (by unfold vp_in; decide) dL_build_796 ?_
                                refine lv_topi (fun v59 ev59 => ?_)
                                have hv59 : v59 = nI c2 := by
                                  rw [ev59]
                                  rw [show (2 : Int32).toNatClampNeg = 2 from by decide]
                                  exact hf2
                                rw [hv59]
                                refine lv_imul hx hb dL_build_797 ?_
                                refine lv_topi (fun v60 ev60 => ?_)
                                have hv60 : v60 = nI (2 * c2) := by
                                  rw [ev60]
                                  exact pk_mul 2 c2
                                rw [hv60]
                                refine lv_iconst (v := 1) hx hb dL_build_798 (by decide) ?_
                                refine lv_iadd hx hb dL_build_799 ?_
                                refine lv_topi (fun v61 ev61 => ?_)
                                have hv61 : v61 = nI (2 * c2 + 1) := by
                                  rw [ev61]
                                  exact nI_add (2 * c2) 1
                                rw [hv61]
                                refine lv_iload hx hb dL_build_800 (lv_at hl 2 rfl) ?_
                                refine g_iast F hP hS f57 (vp_in_nI (by omega) (by omega)) dL_build_802 (fun H locs hP hS => ?_)
                                rw [nI_clamp (n := 2 * c2 + 1) (by omega)] at hP
                                obtain ⟨w62, ew62⟩ : ∃ z, z = g_up w52 me (.inl (G.2.1 0, 32, .inl (upd (upd Fm (2 * c2) (nI ga)) (2 * c2 + 1) (nI gb)))) := ⟨_, rfl⟩
                                have hP : g_P A G w62 H := by rw [ew62]; exact hP
                                have f63 : w62 nn = some (.inl (G.2.1 0, 6, .inl Fn)) := by rw [ew62]; exact g_up_f f53 (Ne.symm (dnnme))
                                have f64 : w62 sh = some (.inl (G.2.1 0, 30, .inl Fs2)) := by rw [ew62]; exact g_up_f f54 (dshme)
                                have f65 : w62 ge = some (.inl (G.2.1 0, 80, .inl Fg2)) := by rw [ew62]; exact g_up_f f55 (dgeme)
                                have f66 : w62 pl = some (.inl (G.2.1 0, 20, .inl Fp0)) := by rw [ew62]; exact g_up_f f56 (Ne.symm (dmepl))
                                have f67 : w62 me = some (.inl (G.2.1 0, 32, .inl (upd (upd Fm (2 * c2) (nI ga)) (2 * c2 + 1) (nI gb)))) := by rw [ew62]; exact g_up_s _ _ _
                                have hB68 := lwB_set hB58 (List.mem_of_getElem? (i := 3) rfl) ew62
                                refine lv_aload hx hb dL_build_803 (lv_at hl 5 rfl) ?_
                                refine lv_iconst (v := 2) hx hb dL_build_805 (by decide) ?_
                                refine lv_dup2_11 hx hb dL_build_806 rfl rfl ?_
                                refine g_iald F hP f63 (by unfold vp_in; decide) dL_build_807 ?_
                                refine lv_topi (fun v69 ev69 => ?_)
                                have hv69 : v69 = nI c2 := by
                                  rw [ev69]
                                  rw [show (2 : Int32).toNatClampNeg = 2 from by decide]
                                  exact hf2
                                rw [hv69]
                                refine lv_iconst (v := 1) hx hb dL_build_808 (by decide) ?_
                                refine lv_iadd hx hb dL_build_809 ?_
                                refine lv_topi (fun v70 ev70 => ?_)
                                have hv70 : v70 = nI (c2 + 1) := by
                                  rw [ev70]
                                  exact nI_add c2 1
                                rw [hv70]
                                refine g_iast F hP hS f63 (by unfold vp_in; decide) dL_build_810 (fun H locs hP hS => ?_)
                                rw [show (2 : Int32).toNatClampNeg = 2 from by decide] at hP
                                obtain ⟨w71, ew71⟩ : ∃ z, z = g_up w62 nn (.inl (G.2.1 0, 6, .inl (upd Fn 2 (nI (c2 + 1))))) := ⟨_, rfl⟩
                                have hP : g_P A G w71 H := by rw [ew71]; exact hP
                                have f72 : w71 sh = some (.inl (G.2.1 0, 30, .inl Fs2)) := by rw [ew71]; exact g_up_f f64 (dnnsh)
                                have f73 : w71 ge = some (.inl (G.2.1 0, 80, .inl Fg2)) := by rw [ew71]; exact g_up_f f65 (dnnge)
                                have f74 : w71 pl = some (.inl (G.2.1 0, 20, .inl Fp0)) := by rw [ew71]; exact g_up_f f66 (dnnpl)
                                have f75 : w71 me = some (.inl (G.2.1 0, 32, .inl (upd (upd Fm (2 * c2) (nI ga)) (2 * c2 + 1) (nI gb)))) := by rw [ew71]; exact g_up_f f67 (dnnme)
                                have f76 : w71 nn = some (.inl (G.2.1 0, 6, .inl (upd Fn 2 (nI (c2 + 1))))) := by rw [ew71]; exact g_up_s _ _ _
                                have hB77 := lwB_set hB68 (List.mem_of_getElem? (i := 0) rfl) ew71
                                refine W.widen (k := 100 + 10 * (k + 1)) (n := 2500 + 150 * (k + 1)) (by omega) (by omega) ?_
                                have amk : arM S38 (c2 + 1) (upd (upd Fm (2 * c2) (nI ga)) (2 * c2 + 1) (nI gb)) := arM_1 ham (fun f j hj _ _ => a4 f j (by omega) (by omega)) (fun j hj => by rw [pk_un (by omega), pk_un (by omega)]) ⟨by rw [a9, pk_un (by omega), pk_us]; exact (iL_n ga).symm, by rw [a10, pk_us]; exact (iL_n gb).symm⟩
                                have ask : arS S38 n0 Fs2 := arS_c has (fun j _ => a5 3 j (by decide) (by decide) (by decide))
                                have agk : arG S38 n1 Fg2 := arG_c hag (fun f j _ q1 q2 => a5 f j (by omega) (by omega) (by omega))
                                obtain ⟨i78, ei78⟩ : ∃ y : Int32, y = nI k + (1) := ⟨_, rfl⟩
                                refine lv_iinc (v := i78) (lv' := [(8, .int i78), (13, .int (nI c2)), (12, .int (g_b cf)), (11, .int (nI gb)), (10, .int (nI ga)), (7, .ref nn), (6, .ref pl), (5, .ref me), (4, .ref ge), (3, .ref sh), (2, .int (nI 0)), (1, .ref b9), (0, .ref x)]) hx hb dL_build_811 hl (k := 4) rfl (by rw [ei78]; rfl) (by decide) rfl (fun ls hl => ?_)
                                have hi78 : i78 = nI (k + 1) := by
                                  rw [ei78]
                                  exact nI_1 k
                                rw [hi78] at hl
                                refine lv_goto (tgt := 393) hx hb dL_build_814 (by decide) ?_
                                exact ih_L393 (k + 1) S38 (upd (upd Fm (2 * c2) (nI ga)) (2 * c2 + 1) (nI gb)) (upd Fn 2 (nI (c2 + 1))) (c2 + 1) w71 H locs ls (by omega) (by omega) (by omega) (hB77) (zk) (by rw [pk_un (by decide)]; exact hf0) (by rw [pk_un (by decide)]; exact hf1) (pk_us) (by rw [pk_un (by decide)]; exact hf3) (ask) (agk) (amk) f76 f72 f73 f75 f74 hP hS (lv_sub hl [0, 5, 6, 7, 8, 9, 10, 11, 12] rfl)
                              · exact absurd (g_b0.mp c49) (by rw [yce]; decide)
                            · exact absurd rfl c48
                      · have hjn : j < c2 := Nat.not_le.mp (fun q => c30 (nI_le q (by omega)))
                        obtain ⟨m9, m10⟩ := ham j hjn
                        have GM := Hi.2.2.2.1 j (by omega)
                        refine lv_iload hx hb dL_build_657 (lv_at hl 1 rfl) ?_
                        refine lv_if_eq (tgt := 718) hx hb dL_build_659 (by decide) (fun c79 => ?_) (fun c79 => ?_)
                        · have yc79 : cf = false := g_b0.mp c79
                          refine lv_iconst (v := 0) hx hb dL_build_718 (by decide) ?_
                          refine lv_istore (lv' := [(12, .int 0), (13, .int (nI j)), (11, .int (nI gb)), (10, .int (nI ga)), (8, .int (nI k)), (7, .ref nn), (6, .ref pl), (5, .ref me), (4, .ref ge), (3, .ref sh), (2, .int (nI 0)), (1, .ref b9), (0, .ref x)]) hx hb dL_build_719 hl (by decide) rfl (fun ls hl => ?_)
                          obtain ⟨i80, ei80⟩ : ∃ y : Int32, y = nI j + (1) := ⟨_, rfl⟩
                          refine lv_iinc (v := i80) (lv' := [(13, .int i80), (12, .int 0), (11, .int (nI gb)), (10, .int (nI ga)), (8, .int (nI k)), (7, .ref nn), (6, .ref pl), (5, .ref me), (4, .ref ge), (3, .ref sh), (2, .int (nI 0)), (1, .ref b9), (0, .ref x)]) hx hb dL_build_721 hl (k := 1) rfl (by rw [ei80]; rfl) (by decide) rfl (fun ls hl => ?_)
                          have hi80 : i80 = nI (j + 1) := by
                            rw [ei80]
                            exact nI_1 j
                          rw [hi80] at hl
                          refine lv_goto (tgt := 648) hx hb dL_build_724 (by decide) ?_
                          exact ih_L648 (j + 1) false  H locs ls (by omega) (by omega) (at_0 h4 yc79) hP hS (lv_sub hl [0, 1, 2, 3, 4, 5, 6, 7, 8, 9, 10, 11, 12] rfl)
                        · have yc79 : cf = true := g_b1.mp c79
                          refine lv_aload hx hb dL_build_662 (lv_at hl 7 rfl) ?_
                          refine lv_iconst (v := 2) hx hb dL_build_664 (by decide) ?_
                          refine lv_iload hx hb dL_build_665 (lv_at hl 0 rfl) ?_
                          refine lv_imul hx hb dL_build_667 ?_
                          refine lv_topi (fun v81 ev81 => ?_)
                          have hv81 : v81 = nI (2 * j) := by
                            rw [ev81]
                            exact pk_mul 2 j
                          rw [hv81]
                          refine g_iald F hP hme (vp_in_nI (by omega) (by omega)) dL_build_668 ?_
                          refine lv_topi (fun v82 ev82 => ?_)
                          have hv82 : v82 = iL (S 9 j) := by
                            rw [ev82]
                            rw [nI_clamp (n := 2 * j) (by omega)]
                            exact m9
                          rw [hv82]
                          refine lv_iload hx hb dL_build_669 (lv_at hl 3 rfl) ?_
                          refine lv_icmp_ne (tgt := 688) hx hb dL_build_671 (by decide) (fun c83 => ?_) (fun c83 => ?_)
                          · have yc83 : ¬ S 9 j = (ga : Int) := fun q => c83 (iL_nat q)
                            refine lv_aload hx hb dL_build_688 (lv_at hl 7 rfl) ?_
                            refine lv_iconst (v := 2) hx hb dL_build_690 (by decide) ?_
                            refine lv_iload hx hb dL_build_691 (lv_at hl 0 rfl) ?_
                            refine lv_imul hx hb dL_build_693 ?_
                            refine lv_topi (fun v84 ev84 => ?_)
                            have hv84 : v84 = nI (2 * j) := by
                              rw [ev84]
                              exact pk_mul 2 j
                            rw [hv84]
                            refine g_iald F hP hme (vp_in_nI (by omega) (by omega)) dL_build_694 ?_
                            refine lv_topi (fun v85 ev85 => ?_)
                            have hv85 : v85 = iL (S 9 j) := by
                              rw [ev85]
                              rw [nI_clamp (n := 2 * j) (by omega)]
                              exact m9
                            rw [hv85]
                            refine lv_iload hx hb dL_build_695 (lv_at hl 2 rfl) ?_
                            refine lv_icmp_ne (tgt := 714) hx hb dL_build_697 (by decide) (fun c86 => ?_) (fun c86 => ?_)
                            · have yc86 : ¬ S 9 j = (gb : Int) := fun q => c86 (iL_nat q)
                              refine lv_iconst (v := 1) hx hb dL_build_714 (by decide) ?_
                              refine lv_goto (tgt := 719) hx hb dL_build_715 (by decide) ?_
                              refine lv_istore (lv' := [(12, .int 1), (13, .int (nI j)), (11, .int (nI gb)), (10, .int (nI ga)), (8, .int (nI k)), (7, .ref nn), (6, .ref pl), (5, .ref me), (4, .ref ge), (3, .ref sh), (2, .int (nI 0)), (1, .ref b9), (0, .ref x)]) hx hb dL_build_719 hl (by decide) rfl (fun ls hl => ?_)
                              obtain ⟨i87, ei87⟩ : ∃ y : Int32, y = nI j + (1) := ⟨_, rfl⟩
                              refine lv_iinc (v := i87) (lv' := [(13, .int i87), (12, .int 1), (11, .int (nI gb)), (10, .int (nI ga)), (8, .int (nI k)), (7, .ref nn), (6, .ref pl), (5, .ref me), (4, .ref ge), (3, .ref sh), (2, .int (nI 0)), (1, .ref b9), (0, .ref x)]) hx hb dL_build_721 hl (k := 1) rfl (by rw [ei87]; rfl) (by decide) rfl (fun ls hl => ?_)
                              have hi87 : i87 = nI (j + 1) := by
                                rw [ei87]
                                exact nI_1 j
                              rw [hi87] at hl
                              refine lv_goto (tgt := 648) hx hb dL_build_724 (by decide) ?_
                              exact ih_L648 (j + 1) true  H locs ls (by omega) (by omega) (at_1 h4 yc79 (fun q => by unfold meshAt at q; omega)) hP hS (lv_sub hl [0, 1, 2, 3, 4, 5, 6, 7, 8, 9, 10, 11, 12] rfl)
                            · have yc86 : S 9 j = (gb : Int) := by have := (nI_eqi (z := S 9 j) (k := gb) (by omega) (by omega) (by omega)).mp c86.symm; omega
                              refine lv_aload hx hb dL_build_700 (lv_at hl 7 rfl) ?_
                              refine lv_iconst (v := 2) hx hb dL_build_702 (by decide) ?_
                              refine lv_iload hx hb dL_build_703 (lv_at hl 0 rfl) ?_
                              refine lv_imul hx hb dL_build_705 ?_
                              refine lv_topi (fun v88 ev88 => ?_)
                              have hv88 : v88 = nI (2 * j) := by
                                rw [ev88]
                                exact pk_mul 2 j
                              rw [hv88]
                              refine lv_iconst (v := 1) hx hb dL_build_706 (by decide) ?_
                              refine lv_iadd hx hb dL_build_707 ?_
                              refine lv_topi (fun v89 ev89 => ?_)
                              have hv89 : v89 = nI (2 * j + 1) := by
                                rw [ev89]
                                exact nI_add (2 * j) 1
                              rw [hv89]
                              refine g_iald F hP hme (vp_in_nI (by omega) (by omega)) dL_build_708 ?_
                              refine lv_topi (fun v90 ev90 => ?_)
                              have hv90 : v90 = iL (S 10 j) := by
                                rw [ev90]
                                rw [nI_clamp (n := 2 * j + 1) (by omega)]
                                exact m10
                              rw [hv90]
                              refine lv_iload hx hb dL_build_709 (lv_at hl 3 rfl) ?_
                              refine lv_icmp_eq (tgt := 718) hx hb dL_build_711 (by decide) (fun c91 => ?_) (fun c91 => ?_)
                              · have yc91 : S 10 j = (ga : Int) := by have := (nI_eqi (z := S 10 j) (k := ga) (by omega) (by omega) (by omega)).mp c91.symm; omega
                                refine lv_iconst (v := 0) hx hb dL_build_718 (by decide) ?_
                                refine lv_istore (lv' := [(12, .int 0), (13, .int (nI j)), (11, .int (nI gb)), (10, .int (nI ga)), (8, .int (nI k)), (7, .ref nn), (6, .ref pl), (5, .ref me), (4, .ref ge), (3, .ref sh), (2, .int (nI 0)), (1, .ref b9), (0, .ref x)]) hx hb dL_build_719 hl (by decide) rfl (fun ls hl => ?_)
                                obtain ⟨i92, ei92⟩ : ∃ y : Int32, y = nI j + (1) := ⟨_, rfl⟩
                                refine lv_iinc (v := i92) (lv' := [(13, .int i92), (12, .int 0), (11, .int (nI gb)), (10, .int (nI ga)), (8, .int (nI k)), (7, .ref nn), (6, .ref pl), (5, .ref me), (4, .ref ge), (3, .ref sh), (2, .int (nI 0)), (1, .ref b9), (0, .ref x)]) hx hb dL_build_721 hl (k := 1) rfl (by rw [ei92]; rfl) (by decide) rfl (fun ls hl => ?_)
                                have hi92 : i92 = nI (j + 1) := by
                                  rw [ei92]
                                  exact nI_1 j
                                rw [hi92] at hl
                                refine lv_goto (tgt := 648) hx hb dL_build_724 (by decide) ?_
                                exact ih_L648 (j + 1) false  H locs ls (by omega) (by omega) (at_m (M := fun i => meshAt S i ga gb) (by unfold meshAt; omega)) hP hS (lv_sub hl [0, 1, 2, 3, 4, 5, 6, 7, 8, 9, 10, 11, 12] rfl)
                              · have yc91 : ¬ S 10 j = (ga : Int) := fun q => c91 (iL_nat q)
                                refine lv_iconst (v := 1) hx hb dL_build_714 (by decide) ?_
                                refine lv_goto (tgt := 719) hx hb dL_build_715 (by decide) ?_
                                refine lv_istore (lv' := [(12, .int 1), (13, .int (nI j)), (11, .int (nI gb)), (10, .int (nI ga)), (8, .int (nI k)), (7, .ref nn), (6, .ref pl), (5, .ref me), (4, .ref ge), (3, .ref sh), (2, .int (nI 0)), (1, .ref b9), (0, .ref x)]) hx hb dL_build_719 hl (by decide) rfl (fun ls hl => ?_)
                                obtain ⟨i93, ei93⟩ : ∃ y : Int32, y = nI j + (1) := ⟨_, rfl⟩
                                refine lv_iinc (v := i93) (lv' := [(13, .int i93), (12, .int 1), (11, .int (nI gb)), (10, .int (nI ga)), (8, .int (nI k)), (7, .ref nn), (6, .ref pl), (5, .ref me), (4, .ref ge), (3, .ref sh), (2, .int (nI 0)), (1, .ref b9), (0, .ref x)]) hx hb dL_build_721 hl (k := 1) rfl (by rw [ei93]; rfl) (by decide) rfl (fun ls hl => ?_)
                                have hi93 : i93 = nI (j + 1) := by
                                  rw [ei93]
                                  exact nI_1 j
                                rw [hi93] at hl
                                refine lv_goto (tgt := 648) hx hb dL_build_724 (by decide) ?_
                                exact ih_L648 (j + 1) true  H locs ls (by omega) (by omega) (at_1 h4 yc79 (fun q => by unfold meshAt at q; omega)) hP hS (lv_sub hl [0, 1, 2, 3, 4, 5, 6, 7, 8, 9, 10, 11, 12] rfl)
                          · have yc83 : S 9 j = (ga : Int) := by have := (nI_eqi (z := S 9 j) (k := ga) (by omega) (by omega) (by omega)).mp c83.symm; omega
                            refine lv_aload hx hb dL_build_674 (lv_at hl 7 rfl) ?_
                            refine lv_iconst (v := 2) hx hb dL_build_676 (by decide) ?_
                            refine lv_iload hx hb dL_build_677 (lv_at hl 0 rfl) ?_
                            refine lv_imul hx hb dL_build_679 ?_
                            refine lv_topi (fun v94 ev94 => ?_)
                            have hv94 : v94 = nI (2 * j) := by
                              rw [ev94]
                              exact pk_mul 2 j
                            rw [hv94]
                            refine lv_iconst (v := 1) hx hb dL_build_680 (by decide) ?_
                            refine lv_iadd hx hb dL_build_681 ?_
                            refine lv_topi (fun v95 ev95 => ?_)
                            have hv95 : v95 = nI (2 * j + 1) := by
                              rw [ev95]
                              exact nI_add (2 * j) 1
                            rw [hv95]
                            refine g_iald F hP hme (vp_in_nI (by omega) (by omega)) dL_build_682 ?_
                            refine lv_topi (fun v96 ev96 => ?_)
                            have hv96 : v96 = iL (S 10 j) := by
                              rw [ev96]
                              rw [nI_clamp (n := 2 * j + 1) (by omega)]
                              exact m10
                            rw [hv96]
                            refine lv_iload hx hb dL_build_683 (lv_at hl 2 rfl) ?_
                            refine lv_icmp_eq (tgt := 718) hx hb dL_build_685 (by decide) (fun c97 => ?_) (fun c97 => ?_)
                            · have yc97 : S 10 j = (gb : Int) := by have := (nI_eqi (z := S 10 j) (k := gb) (by omega) (by omega) (by omega)).mp c97.symm; omega
                              refine lv_iconst (v := 0) hx hb dL_build_718 (by decide) ?_
                              refine lv_istore (lv' := [(12, .int 0), (13, .int (nI j)), (11, .int (nI gb)), (10, .int (nI ga)), (8, .int (nI k)), (7, .ref nn), (6, .ref pl), (5, .ref me), (4, .ref ge), (3, .ref sh), (2, .int (nI 0)), (1, .ref b9), (0, .ref x)]) hx hb dL_build_719 hl (by decide) rfl (fun ls hl => ?_)
                              obtain ⟨i98, ei98⟩ : ∃ y : Int32, y = nI j + (1) := ⟨_, rfl⟩
                              refine lv_iinc (v := i98) (lv' := [(13, .int i98), (12, .int 0), (11, .int (nI gb)), (10, .int (nI ga)), (8, .int (nI k)), (7, .ref nn), (6, .ref pl), (5, .ref me), (4, .ref ge), (3, .ref sh), (2, .int (nI 0)), (1, .ref b9), (0, .ref x)]) hx hb dL_build_721 hl (k := 1) rfl (by rw [ei98]; rfl) (by decide) rfl (fun ls hl => ?_)
                              have hi98 : i98 = nI (j + 1) := by
                                rw [ei98]
                                exact nI_1 j
                              rw [hi98] at hl
                              refine lv_goto (tgt := 648) hx hb dL_build_724 (by decide) ?_
                              exact ih_L648 (j + 1) false  H locs ls (by omega) (by omega) (at_m (M := fun i => meshAt S i ga gb) (by unfold meshAt; omega)) hP hS (lv_sub hl [0, 1, 2, 3, 4, 5, 6, 7, 8, 9, 10, 11, 12] rfl)
                            · have yc97 : ¬ S 10 j = (gb : Int) := fun q => c97 (iL_nat q)
                              refine lv_aload hx hb dL_build_688 (lv_at hl 7 rfl) ?_
                              refine lv_iconst (v := 2) hx hb dL_build_690 (by decide) ?_
                              refine lv_iload hx hb dL_build_691 (lv_at hl 0 rfl) ?_
                              refine lv_imul hx hb dL_build_693 ?_
                              refine lv_topi (fun v99 ev99 => ?_)
                              have hv99 : v99 = nI (2 * j) := by
                                rw [ev99]
                                exact pk_mul 2 j
                              rw [hv99]
                              refine g_iald F hP hme (vp_in_nI (by omega) (by omega)) dL_build_694 ?_
                              refine lv_topi (fun v100 ev100 => ?_)
                              have hv100 : v100 = iL (S 9 j) := by
                                rw [ev100]
                                rw [nI_clamp (n := 2 * j) (by omega)]
                                exact m9
                              rw [hv100]
                              refine lv_iload hx hb dL_build_695 (lv_at hl 2 rfl) ?_
                              refine lv_icmp_ne (tgt := 714) hx hb dL_build_697 (by decide) (fun c101 => ?_) (fun c101 => ?_)
                              · have yc101 : ¬ S 9 j = (gb : Int) := fun q => c101 (iL_nat q)
                                refine lv_iconst (v := 1) hx hb dL_build_714 (by decide) ?_
                                refine lv_goto (tgt := 719) hx hb dL_build_715 (by decide) ?_
                                refine lv_istore (lv' := [(12, .int 1), (13, .int (nI j)), (11, .int (nI gb)), (10, .int (nI ga)), (8, .int (nI k)), (7, .ref nn), (6, .ref pl), (5, .ref me), (4, .ref ge), (3, .ref sh), (2, .int (nI 0)), (1, .ref b9), (0, .ref x)]) hx hb dL_build_719 hl (by decide) rfl (fun ls hl => ?_)
                                obtain ⟨i102, ei102⟩ : ∃ y : Int32, y = nI j + (1) := ⟨_, rfl⟩
                                refine lv_iinc (v := i102) (lv' := [(13, .int i102), (12, .int 1), (11, .int (nI gb)), (10, .int (nI ga)), (8, .int (nI k)), (7, .ref nn), (6, .ref pl), (5, .ref me), (4, .ref ge), (3, .ref sh), (2, .int (nI 0)), (1, .ref b9), (0, .ref x)]) hx hb dL_build_721 hl (k := 1) rfl (by rw [ei102]; rfl) (by decide) rfl (fun ls hl => ?_)
                                have hi102 : i102 = nI (j + 1) := by
                                  rw [ei102]
                                  exact nI_1 j
                                rw [hi102] at hl
                                refine lv_goto (tgt := 648) hx hb dL_build_724 (by decide) ?_
                                exact ih_L648 (j + 1) true  H locs ls (by omega) (by omega) (at_1 h4 yc79 (fun q => by unfold meshAt at q; omega)) hP hS (lv_sub hl [0, 1, 2, 3, 4, 5, 6, 7, 8, 9, 10, 11, 12] rfl)
                              · have yc101 : S 9 j = (gb : Int) := by have := (nI_eqi (z := S 9 j) (k := gb) (by omega) (by omega) (by omega)).mp c101.symm; omega
                                refine lv_aload hx hb dL_build_700 (lv_at hl 7 rfl) ?_
                                refine lv_iconst (v := 2) hx hb dL_build_702 (by decide) ?_
                                refine lv_iload hx hb dL_build_703 (lv_at hl 0 rfl) ?_
                                refine lv_imul hx hb dL_build_705 ?_
                                refine lv_topi (fun v103 ev103 => ?_)
                                have hv103 : v103 = nI (2 * j) := by
                                  rw [ev103]
                                  exact pk_mul 2 j
                                rw [hv103]
                                refine lv_iconst (v := 1) hx hb dL_build_706 (by decide) ?_
                                refine lv_iadd hx hb dL_build_707 ?_
                                refine lv_topi (fun v104 ev104 => ?_)
                                have hv104 : v104 = nI (2 * j + 1) := by
                                  rw [ev104]
                                  exact nI_add (2 * j) 1
                                rw [hv104]
                                refine g_iald F hP hme (vp_in_nI (by omega) (by omega)) dL_build_708 ?_
                                refine lv_topi (fun v105 ev105 => ?_)
                                have hv105 : v105 = iL (S 10 j) := by
                                  rw [ev105]
                                  rw [nI_clamp (n := 2 * j + 1) (by omega)]
                                  exact m10
                                rw [hv105]
                                refine lv_iload hx hb dL_build_709 (lv_at hl 3 rfl) ?_
                                refine lv_icmp_eq (tgt := 718) hx hb dL_build_711 (by decide) (fun c106 => ?_) (fun c106 => ?_)
                                · have yc106 : S 10 j = (ga : Int) := by have := (nI_eqi (z := S 10 j) (k := ga) (by omega) (by omega) (by omega)).mp c106.symm; omega
                                  refine lv_iconst (v := 0) hx hb dL_build_718 (by decide) ?_
                                  refine lv_istore (lv' := [(12, .int 0), (13, .int (nI j)), (11, .int (nI gb)), (10, .int (nI ga)), (8, .int (nI k)), (7, .ref nn), (6, .ref pl), (5, .ref me), (4, .ref ge), (3, .ref sh), (2, .int (nI 0)), (1, .ref b9), (0, .ref x)]) hx hb dL_build_719 hl (by decide) rfl (fun ls hl => ?_)
                                  obtain ⟨i107, ei107⟩ : ∃ y : Int32, y = nI j + (1) := ⟨_, rfl⟩
                                  refine lv_iinc (v := i107) (lv' := [(13, .int i107), (12, .int 0), (11, .int (nI gb)), (10, .int (nI ga)), (8, .int (nI k)), (7, .ref nn), (6, .ref pl), (5, .ref me), (4, .ref ge), (3, .ref sh), (2, .int (nI 0)), (1, .ref b9), (0, .ref x)]) hx hb dL_build_721 hl (k := 1) rfl (by rw [ei107]; rfl) (by decide) rfl (fun ls hl => ?_)
                                  have hi107 : i107 = nI (j + 1) := by
                                    rw [ei107]
                                    exact nI_1 j
                                  rw [hi107] at hl
                                  refine lv_goto (tgt := 648) hx hb dL_build_724 (by decide) ?_
                                  exact ih_L648 (j + 1) false  H locs ls (by omega) (by omega) (at_m (M := fun i => meshAt S i ga gb) (by unfold meshAt; omega)) hP hS (lv_sub hl [0, 1, 2, 3, 4, 5, 6, 7, 8, 9, 10, 11, 12] rfl)
                                · have yc106 : ¬ S 10 j = (ga : Int) := fun q => c106 (iL_nat q)
                                  refine lv_iconst (v := 1) hx hb dL_build_714 (by decide) ?_
                                  refine lv_goto (tgt := 719) hx hb dL_build_715 (by decide) ?_
                                  refine lv_istore (lv' := [(12, .int 1), (13, .int (nI j)), (11, .int (nI gb)), (10, .int (nI ga)), (8, .int (nI k)), (7, .ref nn), (6, .ref pl), (5, .ref me), (4, .ref ge), (3, .ref sh), (2, .int (nI 0)), (1, .ref b9), (0, .ref x)]) hx hb dL_build_719 hl (by decide) rfl (fun ls hl => ?_)
                                  obtain ⟨i108, ei108⟩ : ∃ y : Int32, y = nI j + (1) := ⟨_, rfl⟩
                                  refine lv_iinc (v := i108) (lv' := [(13, .int i108), (12, .int 1), (11, .int (nI gb)), (10, .int (nI ga)), (8, .int (nI k)), (7, .ref nn), (6, .ref pl), (5, .ref me), (4, .ref ge), (3, .ref sh), (2, .int (nI 0)), (1, .ref b9), (0, .ref x)]) hx hb dL_build_721 hl (k := 1) rfl (by rw [ei108]; rfl) (by decide) rfl (fun ls hl => ?_)
                                  have hi108 : i108 = nI (j + 1) := by
                                    rw [ei108]
                                    exact nI_1 j
                                  rw [hi108] at hl
                                  refine lv_goto (tgt := 648) hx hb dL_build_724 (by decide) ?_
                                  exact ih_L648 (j + 1) true  H locs ls (by omega) (by omega) (at_1 h4 yc79 (fun q => by unfold meshAt at q; omega)) hP hS (lv_sub hl [0, 1, 2, 3, 4, 5, 6, 7, 8, 9, 10, 11, 12] rfl)
                  exact L648 (c2 + 1) 0 cd  H locs ls (by omega) (by omega) (⟨fun q => ⟨q, fun i hi => absurd hi (Nat.not_lt_zero i)⟩, fun q => q.1⟩) hP hS (lv_sub hl [0, 1, 2, 3, 4, 5, 6, 7, 8, 9, 10, 11, 12] rfl)
                refine lv_aload hx hb dL_build_599 (lv_at hl 7 rfl) ?_
                refine lv_iconst (v := 5) hx hb dL_build_601 (by decide) ?_
                refine lv_iload hx hb dL_build_602 (lv_at hl 1 rfl) ?_
                refine lv_imul hx hb dL_build_604 ?_
                refine lv_topi (fun v109 ev109 => ?_)
                have hv109 : v109 = nI (5 * gb) := by
                  rw [ev109]
                  exact pk_mul 5 gb
                rw [hv109]
                refine lv_iconst (v := 4) hx hb dL_build_605 (by decide) ?_
                refine lv_iadd hx hb dL_build_606 ?_
                refine lv_topi (fun v110 ev110 => ?_)
                have hv110 : v110 = nI (5 * gb + 4) := by
                  rw [ev110]
                  exact nI_add (5 * gb) 4
                rw [hv110]
                refine g_iald F hP hge (vp_in_nI (by omega) (by omega)) dL_build_607 ?_
                refine lv_topi (fun v111 ev111 => ?_)
                have hv111 : v111 = iL (S 8 gb) := by
                  rw [ev111]
                  rw [nI_clamp (n := 5 * gb + 4) (by omega)]
                  exact gb8
                rw [hv111]
                refine lv_iconst (v := 1) hx hb dL_build_608 (by decide) ?_
                refine lv_icmp_ne (tgt := 645) hx hb dL_build_609 (by decide) (fun c112 => ?_) (fun c112 => ?_)
                · have yc112 : ¬ S 8 gb = 1 := fun q => c112 (by rw [q]; rfl)
                  exact J645 cc H locs ls (⟨fun q => ⟨q, fun z => absurd z yc112⟩, fun q => q.1⟩) hP hS (lv_sub hl [0, 1, 2, 3, 4, 5, 6, 7, 8, 9, 10, 11] rfl)
                · have yc112 : S 8 gb = 1 := (iL_eq (b := 1) (by omega) (by omega) (by omega) (by omega)).mp c112
                  refine lv_iload hx hb dL_build_612 (lv_at hl 0 rfl) ?_
                  refine lv_if_eq (tgt := 642) hx hb dL_build_614 (by decide) (fun c113 => ?_) (fun c113 => ?_)
                  · have yc113 : cc = false := g_b0.mp c113
                    refine lv_iconst (v := 0) hx hb dL_build_642 (by decide) ?_
                    refine lv_istore (lv' := [(12, .int 0), (11, .int (nI gb)), (10, .int (nI ga)), (8, .int (nI k)), (7, .ref nn), (6, .ref pl), (5, .ref me), (4, .ref ge), (3, .ref sh), (2, .int (nI 0)), (1, .ref b9), (0, .ref x)]) hx hb dL_build_643 hl (by decide) rfl (fun ls hl => ?_)
                    exact J645 false H locs ls (⟨fun q => (nomatch q), fun q => by have q1 := q.1; rw [yc113] at q1; cases q1⟩) hP hS (lv_sub hl [0, 1, 2, 3, 4, 5, 6, 7, 8, 9, 10, 11] rfl)
                  · have yc113 : cc = true := g_b1.mp c113
                    refine lv_aload hx hb dL_build_617 (lv_at hl 7 rfl) ?_
                    refine lv_iconst (v := 5) hx hb dL_build_619 (by decide) ?_
                    refine lv_iload hx hb dL_build_620 (lv_at hl 1 rfl) ?_
                    refine lv_imul hx hb dL_build_622 ?_
                    refine lv_topi (fun v114 ev114 => ?_)
                    have hv114 : v114 = nI (5 * gb) := by
                      rw [ev114]
                      exact pk_mul 5 gb
                    rw [hv114]
                    refine lv_iconst (v := 1) hx hb dL_build_623 (by decide) ?_
                    refine lv_iadd hx hb dL_build_624 ?_
                    refine lv_topi (fun v115 ev115 => ?_)
                    have hv115 : v115 = nI (5 * gb + 1) := by
                      rw [ev115]
                      exact nI_add (5 * gb) 1
                    rw [hv115]
                    refine g_iald F hP hge (vp_in_nI (by omega) (by omega)) dL_build_625 ?_
                    refine lv_topi (fun v116 ev116 => ?_)
                    have hv116 : v116 = iL (S 5 gb) := by
                      rw [ev116]
                      rw [nI_clamp (n := 5 * gb + 1) (by omega)]
                      exact gb5
                    rw [hv116]
                    refine lv_aload hx hb dL_build_626 (lv_at hl 7 rfl) ?_
                    refine lv_iconst (v := 5) hx hb dL_build_628 (by decide) ?_
                    refine lv_iload hx hb dL_build_629 (lv_at hl 2 rfl) ?_
                    refine lv_imul hx hb dL_build_631 ?_
                    refine lv_topi (fun v117 ev117 => ?_)
                    have hv117 : v117 = nI (5 * ga) := by
                      rw [ev117]
                      exact pk_mul 5 ga
                    rw [hv117]
                    refine lv_iconst (v := 1) hx hb dL_build_632 (by decide) ?_
                    refine lv_iadd hx hb dL_build_633 ?_
                    refine lv_topi (fun v118 ev118 => ?_)
                    have hv118 : v118 = nI (5 * ga + 1) := by
                      rw [ev118]
                      exact nI_add (5 * ga) 1
                    rw [hv118]
                    refine g_iald F hP hge (vp_in_nI (by omega) (by omega)) dL_build_634 ?_
                    refine lv_topi (fun v119 ev119 => ?_)
                    have hv119 : v119 = iL (S 5 ga) := by
                      rw [ev119]
                      rw [nI_clamp (n := 5 * ga + 1) (by omega)]
                      exact ga5
                    rw [hv119]
                    refine lv_icmp_le (tgt := 642) hx hb dL_build_635 (by decide) (fun c120 => ?_) (fun c120 => ?_)
                    · have kc120 : iL (S 5 gb) ≤ iL (S 5 ga) ↔ S 5 gb ≤ S 5 ga := iL_le (by omega) (by omega) (by omega) (by omega)
                      rw [kc120] at c120
                      refine lv_iconst (v := 0) hx hb dL_build_642 (by decide) ?_
                      refine lv_istore (lv' := [(12, .int 0), (11, .int (nI gb)), (10, .int (nI ga)), (8, .int (nI k)), (7, .ref nn), (6, .ref pl), (5, .ref me), (4, .ref ge), (3, .ref sh), (2, .int (nI 0)), (1, .ref b9), (0, .ref x)]) hx hb dL_build_643 hl (by decide) rfl (fun ls hl => ?_)
                      exact J645 false H locs ls (iff_of_false (by decide) (fun q => by have := q.2 yc112; omega)) hP hS (lv_sub hl [0, 1, 2, 3, 4, 5, 6, 7, 8, 9, 10, 11] rfl)
                    · have kc120 : iL (S 5 gb) ≤ iL (S 5 ga) ↔ S 5 gb ≤ S 5 ga := iL_le (by omega) (by omega) (by omega) (by omega)
                      rw [kc120] at c120
                      refine lv_iconst (v := 1) hx hb dL_build_638 (by decide) ?_
                      refine lv_goto (tgt := 643) hx hb dL_build_639 (by decide) ?_
                      refine lv_istore (lv' := [(12, .int 1), (11, .int (nI gb)), (10, .int (nI ga)), (8, .int (nI k)), (7, .ref nn), (6, .ref pl), (5, .ref me), (4, .ref ge), (3, .ref sh), (2, .int (nI 0)), (1, .ref b9), (0, .ref x)]) hx hb dL_build_643 hl (by decide) rfl (fun ls hl => ?_)
                      exact J645 true H locs ls (iff_of_true rfl ⟨yc113, fun _ => by omega⟩) hP hS (lv_sub hl [0, 1, 2, 3, 4, 5, 6, 7, 8, 9, 10, 11] rfl)
              refine lv_aload hx hb dL_build_553 (lv_at hl 7 rfl) ?_
              refine lv_iconst (v := 5) hx hb dL_build_555 (by decide) ?_
              refine lv_iload hx hb dL_build_556 (lv_at hl 2 rfl) ?_
              refine lv_imul hx hb dL_build_558 ?_
              refine lv_topi (fun v121 ev121 => ?_)
              have hv121 : v121 = nI (5 * ga) := by
                rw [ev121]
                exact pk_mul 5 ga
              rw [hv121]
              refine lv_iconst (v := 4) hx hb dL_build_559 (by decide) ?_
              refine lv_iadd hx hb dL_build_560 ?_
              refine lv_topi (fun v122 ev122 => ?_)
              have hv122 : v122 = nI (5 * ga + 4) := by
                rw [ev122]
                exact nI_add (5 * ga) 4
              rw [hv122]
              refine g_iald F hP hge (vp_in_nI (by omega) (by omega)) dL_build_561 ?_
              refine lv_topi (fun v123 ev123 => ?_)
              have hv123 : v123 = iL (S 8 ga) := by
                rw [ev123]
                rw [nI_clamp (n := 5 * ga + 4) (by omega)]
                exact ga8
              rw [hv123]
              refine lv_iconst (v := 1) hx hb dL_build_562 (by decide) ?_
              refine lv_icmp_ne (tgt := 599) hx hb dL_build_563 (by decide) (fun c124 => ?_) (fun c124 => ?_)
              · have yc124 : ¬ S 8 ga = 1 := fun q => c124 (by rw [q]; rfl)
                exact J599 cb H locs ls (⟨fun q => ⟨q, fun z => absurd z yc124⟩, fun q => q.1⟩) hP hS (lv_sub hl [0, 1, 2, 3, 4, 5, 6, 7, 8, 9, 10, 11] rfl)
              · have yc124 : S 8 ga = 1 := (iL_eq (b := 1) (by omega) (by omega) (by omega) (by omega)).mp c124
                refine lv_iload hx hb dL_build_566 (lv_at hl 0 rfl) ?_
                refine lv_if_eq (tgt := 596) hx hb dL_build_568 (by decide) (fun c125 => ?_) (fun c125 => ?_)
                · have yc125 : cb = false := g_b0.mp c125
                  refine lv_iconst (v := 0) hx hb dL_build_596 (by decide) ?_
                  refine lv_istore (lv' := [(12, .int 0), (11, .int (nI gb)), (10, .int (nI ga)), (8, .int (nI k)), (7, .ref nn), (6, .ref pl), (5, .ref me), (4, .ref ge), (3, .ref sh), (2, .int (nI 0)), (1, .ref b9), (0, .ref x)]) hx hb dL_build_597 hl (by decide) rfl (fun ls hl => ?_)
                  exact J599 false H locs ls (⟨fun q => (nomatch q), fun q => by have q1 := q.1; rw [yc125] at q1; cases q1⟩) hP hS (lv_sub hl [0, 1, 2, 3, 4, 5, 6, 7, 8, 9, 10, 11] rfl)
                · have yc125 : cb = true := g_b1.mp c125
                  refine lv_aload hx hb dL_build_571 (lv_at hl 7 rfl) ?_
                  refine lv_iconst (v := 5) hx hb dL_build_573 (by decide) ?_
                  refine lv_iload hx hb dL_build_574 (lv_at hl 2 rfl) ?_
                  refine lv_imul hx hb dL_build_576 ?_
                  refine lv_topi (fun v126 ev126 => ?_)
                  have hv126 : v126 = nI (5 * ga) := by
                    rw [ev126]
                    exact pk_mul 5 ga
                  rw [hv126]
                  refine lv_iconst (v := 1) hx hb dL_build_577 (by decide) ?_
                  refine lv_iadd hx hb dL_build_578 ?_
                  refine lv_topi (fun v127 ev127 => ?_)
                  have hv127 : v127 = nI (5 * ga + 1) := by
                    rw [ev127]
                    exact nI_add (5 * ga) 1
                  rw [hv127]
                  refine g_iald F hP hge (vp_in_nI (by omega) (by omega)) dL_build_579 ?_
                  refine lv_topi (fun v128 ev128 => ?_)
                  have hv128 : v128 = iL (S 5 ga) := by
                    rw [ev128]
                    rw [nI_clamp (n := 5 * ga + 1) (by omega)]
                    exact ga5
                  rw [hv128]
                  refine lv_aload hx hb dL_build_580 (lv_at hl 7 rfl) ?_
                  refine lv_iconst (v := 5) hx hb dL_build_582 (by decide) ?_
                  refine lv_iload hx hb dL_build_583 (lv_at hl 1 rfl) ?_
                  refine lv_imul hx hb dL_build_585 ?_
                  refine lv_topi (fun v129 ev129 => ?_)
                  have hv129 : v129 = nI (5 * gb) := by
                    rw [ev129]
                    exact pk_mul 5 gb
                  rw [hv129]
                  refine lv_iconst (v := 1) hx hb dL_build_586 (by decide) ?_
                  refine lv_iadd hx hb dL_build_587 ?_
                  refine lv_topi (fun v130 ev130 => ?_)
                  have hv130 : v130 = nI (5 * gb + 1) := by
                    rw [ev130]
                    exact nI_add (5 * gb) 1
                  rw [hv130]
                  refine g_iald F hP hge (vp_in_nI (by omega) (by omega)) dL_build_588 ?_
                  refine lv_topi (fun v131 ev131 => ?_)
                  have hv131 : v131 = iL (S 5 gb) := by
                    rw [ev131]
                    rw [nI_clamp (n := 5 * gb + 1) (by omega)]
                    exact gb5
                  rw [hv131]
                  refine lv_icmp_le (tgt := 596) hx hb dL_build_589 (by decide) (fun c132 => ?_) (fun c132 => ?_)
                  · have kc132 : iL (S 5 ga) ≤ iL (S 5 gb) ↔ S 5 ga ≤ S 5 gb := iL_le (by omega) (by omega) (by omega) (by omega)
                    rw [kc132] at c132
                    refine lv_iconst (v := 0) hx hb dL_build_596 (by decide) ?_
                    refine lv_istore (lv' := [(12, .int 0), (11, .int (nI gb)), (10, .int (nI ga)), (8, .int (nI k)), (7, .ref nn), (6, .ref pl), (5, .ref me), (4, .ref ge), (3, .ref sh), (2, .int (nI 0)), (1, .ref b9), (0, .ref x)]) hx hb dL_build_597 hl (by decide) rfl (fun ls hl => ?_)
                    exact J599 false H locs ls (iff_of_false (by decide) (fun q => by have := q.2 yc124; omega)) hP hS (lv_sub hl [0, 1, 2, 3, 4, 5, 6, 7, 8, 9, 10, 11] rfl)
                  · have kc132 : iL (S 5 ga) ≤ iL (S 5 gb) ↔ S 5 ga ≤ S 5 gb := iL_le (by omega) (by omega) (by omega) (by omega)
                    rw [kc132] at c132
                    refine lv_iconst (v := 1) hx hb dL_build_592 (by decide) ?_
                    refine lv_goto (tgt := 597) hx hb dL_build_593 (by decide) ?_
                    refine lv_istore (lv' := [(12, .int 1), (11, .int (nI gb)), (10, .int (nI ga)), (8, .int (nI k)), (7, .ref nn), (6, .ref pl), (5, .ref me), (4, .ref ge), (3, .ref sh), (2, .int (nI 0)), (1, .ref b9), (0, .ref x)]) hx hb dL_build_597 hl (by decide) rfl (fun ls hl => ?_)
                    exact J599 true H locs ls (iff_of_true rfl ⟨yc125, fun _ => by omega⟩) hP hS (lv_sub hl [0, 1, 2, 3, 4, 5, 6, 7, 8, 9, 10, 11] rfl)
            refine lv_aload hx hb dL_build_464 (lv_at hl 7 rfl) ?_
            refine lv_iconst (v := 5) hx hb dL_build_466 (by decide) ?_
            refine lv_iload hx hb dL_build_467 (lv_at hl 1 rfl) ?_
            refine lv_imul hx hb dL_build_469 ?_
            refine lv_topi (fun v133 ev133 => ?_)
            have hv133 : v133 = nI (5 * ga) := by
              rw [ev133]
              exact pk_mul 5 ga
            rw [hv133]
            refine g_iald F hP hge (vp_in_nI (by omega) (by omega)) dL_build_470 ?_
            refine lv_topi (fun v134 ev134 => ?_)
            have hv134 : v134 = iL (S 4 ga) := by
              rw [ev134]
              rw [nI_clamp (n := 5 * ga) (by omega)]
              exact ga4
            rw [hv134]
            refine lv_aload hx hb dL_build_471 (lv_at hl 7 rfl) ?_
            refine lv_iconst (v := 5) hx hb dL_build_473 (by decide) ?_
            refine lv_iload hx hb dL_build_474 (lv_at hl 0 rfl) ?_
            refine lv_imul hx hb dL_build_476 ?_
            refine lv_topi (fun v135 ev135 => ?_)
            have hv135 : v135 = nI (5 * gb) := by
              rw [ev135]
              exact pk_mul 5 gb
            rw [hv135]
            refine g_iald F hP hge (vp_in_nI (by omega) (by omega)) dL_build_477 ?_
            refine lv_topi (fun v136 ev136 => ?_)
            have hv136 : v136 = iL (S 4 gb) := by
              rw [ev136]
              rw [nI_clamp (n := 5 * gb) (by omega)]
              exact gb4
            rw [hv136]
            refine lv_icmp_eq (tgt := 550) hx hb dL_build_478 (by decide) (fun c137 => ?_) (fun c137 => ?_)
            · have yc137 : S 4 ga = S 4 gb := (iL_eq (by omega) (by omega) (by omega) (by omega)).mp c137
              refine lv_iconst (v := 0) hx hb dL_build_550 (by decide) ?_
              exact J551 false H locs ls (iff_of_false (by decide) (by omega)) hP hS (lv_sub hl [0, 1, 3, 4, 5, 6, 7, 8, 9, 10, 11] rfl)
            · have yc137 : ¬ S 4 ga = S 4 gb := fun q => c137 (by rw [q])
              refine lv_aload hx hb dL_build_481 (lv_at hl 7 rfl) ?_
              refine lv_iconst (v := 5) hx hb dL_build_483 (by decide) ?_
              refine lv_iload hx hb dL_build_484 (lv_at hl 1 rfl) ?_
              refine lv_imul hx hb dL_build_486 ?_
              refine lv_topi (fun v138 ev138 => ?_)
              have hv138 : v138 = nI (5 * ga) := by
                rw [ev138]
                exact pk_mul 5 ga
              rw [hv138]
              refine lv_iconst (v := 2) hx hb dL_build_487 (by decide) ?_
              refine lv_iadd hx hb dL_build_488 ?_
              refine lv_topi (fun v139 ev139 => ?_)
              have hv139 : v139 = nI (5 * ga + 2) := by
                rw [ev139]
                exact nI_add (5 * ga) 2
              rw [hv139]
              refine g_iald F hP hge (vp_in_nI (by omega) (by omega)) dL_build_489 ?_
              refine lv_topi (fun v140 ev140 => ?_)
              have hv140 : v140 = iL (S 6 ga) := by
                rw [ev140]
                rw [nI_clamp (n := 5 * ga + 2) (by omega)]
                exact ga6
              rw [hv140]
              refine lv_aload hx hb dL_build_490 (lv_at hl 7 rfl) ?_
              refine lv_iconst (v := 5) hx hb dL_build_492 (by decide) ?_
              refine lv_iload hx hb dL_build_493 (lv_at hl 0 rfl) ?_
              refine lv_imul hx hb dL_build_495 ?_
              refine lv_topi (fun v141 ev141 => ?_)
              have hv141 : v141 = nI (5 * gb) := by
                rw [ev141]
                exact pk_mul 5 gb
              rw [hv141]
              refine lv_iconst (v := 2) hx hb dL_build_496 (by decide) ?_
              refine lv_iadd hx hb dL_build_497 ?_
              refine lv_topi (fun v142 ev142 => ?_)
              have hv142 : v142 = nI (5 * gb + 2) := by
                rw [ev142]
                exact nI_add (5 * gb) 2
              rw [hv142]
              refine g_iald F hP hge (vp_in_nI (by omega) (by omega)) dL_build_498 ?_
              refine lv_topi (fun v143 ev143 => ?_)
              have hv143 : v143 = iL (S 6 gb) := by
                rw [ev143]
                rw [nI_clamp (n := 5 * gb + 2) (by omega)]
                exact gb6
              rw [hv143]
              refine lv_icmp_ne (tgt := 550) hx hb dL_build_499 (by decide) (fun c144 => ?_) (fun c144 => ?_)
              · have yc144 : ¬ S 6 ga = S 6 gb := fun q => c144 (by rw [q])
                refine lv_iconst (v := 0) hx hb dL_build_550 (by decide) ?_
                exact J551 false H locs ls (iff_of_false (by decide) (by omega)) hP hS (lv_sub hl [0, 1, 3, 4, 5, 6, 7, 8, 9, 10, 11] rfl)
              · have yc144 : S 6 ga = S 6 gb := (iL_eq (by omega) (by omega) (by omega) (by omega)).mp c144
                refine lv_aload hx hb dL_build_502 (lv_at hl 7 rfl) ?_
                refine lv_iconst (v := 5) hx hb dL_build_504 (by decide) ?_
                refine lv_iload hx hb dL_build_505 (lv_at hl 1 rfl) ?_
                refine lv_imul hx hb dL_build_507 ?_
                refine lv_topi (fun v145 ev145 => ?_)
                have hv145 : v145 = nI (5 * ga) := by
                  rw [ev145]
                  exact pk_mul 5 ga
                rw [hv145]
                refine lv_iconst (v := 3) hx hb dL_build_508 (by decide) ?_
                refine lv_iadd hx hb dL_build_509 ?_
                refine lv_topi (fun v146 ev146 => ?_)
                have hv146 : v146 = nI (5 * ga + 3) := by
                  rw [ev146]
                  exact nI_add (5 * ga) 3
                rw [hv146]
                refine g_iald F hP hge (vp_in_nI (by omega) (by omega)) dL_build_510 ?_
                refine lv_topi (fun v147 ev147 => ?_)
                have hv147 : v147 = iL (S 7 ga) := by
                  rw [ev147]
                  rw [nI_clamp (n := 5 * ga + 3) (by omega)]
                  exact ga7
                rw [hv147]
                refine lv_aload hx hb dL_build_511 (lv_at hl 7 rfl) ?_
                refine lv_iconst (v := 5) hx hb dL_build_513 (by decide) ?_
                refine lv_iload hx hb dL_build_514 (lv_at hl 0 rfl) ?_
                refine lv_imul hx hb dL_build_516 ?_
                refine lv_topi (fun v148 ev148 => ?_)
                have hv148 : v148 = nI (5 * gb) := by
                  rw [ev148]
                  exact pk_mul 5 gb
                rw [hv148]
                refine lv_iconst (v := 3) hx hb dL_build_517 (by decide) ?_
                refine lv_iadd hx hb dL_build_518 ?_
                refine lv_topi (fun v149 ev149 => ?_)
                have hv149 : v149 = nI (5 * gb + 3) := by
                  rw [ev149]
                  exact nI_add (5 * gb) 3
                rw [hv149]
                refine g_iald F hP hge (vp_in_nI (by omega) (by omega)) dL_build_519 ?_
                refine lv_topi (fun v150 ev150 => ?_)
                have hv150 : v150 = iL (S 7 gb) := by
                  rw [ev150]
                  rw [nI_clamp (n := 5 * gb + 3) (by omega)]
                  exact gb7
                rw [hv150]
                refine lv_icmp_ne (tgt := 550) hx hb dL_build_520 (by decide) (fun c151 => ?_) (fun c151 => ?_)
                · have yc151 : ¬ S 7 ga = S 7 gb := fun q => c151 (by rw [q])
                  refine lv_iconst (v := 0) hx hb dL_build_550 (by decide) ?_
                  exact J551 false H locs ls (iff_of_false (by decide) (by omega)) hP hS (lv_sub hl [0, 1, 3, 4, 5, 6, 7, 8, 9, 10, 11] rfl)
                · have yc151 : S 7 ga = S 7 gb := (iL_eq (by omega) (by omega) (by omega) (by omega)).mp c151
                  refine lv_aload hx hb dL_build_523 (lv_at hl 7 rfl) ?_
                  refine lv_iconst (v := 5) hx hb dL_build_525 (by decide) ?_
                  refine lv_iload hx hb dL_build_526 (lv_at hl 1 rfl) ?_
                  refine lv_imul hx hb dL_build_528 ?_
                  refine lv_topi (fun v152 ev152 => ?_)
                  have hv152 : v152 = nI (5 * ga) := by
                    rw [ev152]
                    exact pk_mul 5 ga
                  rw [hv152]
                  refine lv_iconst (v := 4) hx hb dL_build_529 (by decide) ?_
                  refine lv_iadd hx hb dL_build_530 ?_
                  refine lv_topi (fun v153 ev153 => ?_)
                  have hv153 : v153 = nI (5 * ga + 4) := by
                    rw [ev153]
                    exact nI_add (5 * ga) 4
                  rw [hv153]
                  refine g_iald F hP hge (vp_in_nI (by omega) (by omega)) dL_build_531 ?_
                  refine lv_topi (fun v154 ev154 => ?_)
                  have hv154 : v154 = iL (S 8 ga) := by
                    rw [ev154]
                    rw [nI_clamp (n := 5 * ga + 4) (by omega)]
                    exact ga8
                  rw [hv154]
                  refine lv_aload hx hb dL_build_532 (lv_at hl 7 rfl) ?_
                  refine lv_iconst (v := 5) hx hb dL_build_534 (by decide) ?_
                  refine lv_iload hx hb dL_build_535 (lv_at hl 0 rfl) ?_
                  refine lv_imul hx hb dL_build_537 ?_
                  refine lv_topi (fun v155 ev155 => ?_)
                  have hv155 : v155 = nI (5 * gb) := by
                    rw [ev155]
                    exact pk_mul 5 gb
                  rw [hv155]
                  refine lv_iconst (v := 4) hx hb dL_build_538 (by decide) ?_
                  refine lv_iadd hx hb dL_build_539 ?_
                  refine lv_topi (fun v156 ev156 => ?_)
                  have hv156 : v156 = nI (5 * gb + 4) := by
                    rw [ev156]
                    exact nI_add (5 * gb) 4
                  rw [hv156]
                  refine g_iald F hP hge (vp_in_nI (by omega) (by omega)) dL_build_540 ?_
                  refine lv_topi (fun v157 ev157 => ?_)
                  have hv157 : v157 = iL (S 8 gb) := by
                    rw [ev157]
                    rw [nI_clamp (n := 5 * gb + 4) (by omega)]
                    exact gb8
                  rw [hv157]
                  refine lv_iadd hx hb dL_build_541 ?_
                  refine lv_topi (fun v158 ev158 => ?_)
                  have hv158 : v158 = iL (S 8 ga + S 8 gb) := by
                    rw [ev158]
                    exact iL_add _ _
                  rw [hv158]
                  refine lv_iconst (v := 2) hx hb dL_build_542 (by decide) ?_
                  refine lv_icmp_ge (tgt := 550) hx hb dL_build_543 (by decide) (fun c159 => ?_) (fun c159 => ?_)
                  · have kc159 : (2 : Int32) ≤ iL (S 8 ga + S 8 gb) ↔ 2 ≤ S 8 ga + S 8 gb := iL_le (a := 2) (by omega) (by omega) (by omega) (by omega)
                    rw [kc159] at c159
                    refine lv_iconst (v := 0) hx hb dL_build_550 (by decide) ?_
                    exact J551 false H locs ls (iff_of_false (by decide) (by omega)) hP hS (lv_sub hl [0, 1, 3, 4, 5, 6, 7, 8, 9, 10, 11] rfl)
                  · have kc159 : (2 : Int32) ≤ iL (S 8 ga + S 8 gb) ↔ 2 ≤ S 8 ga + S 8 gb := iL_le (a := 2) (by omega) (by omega) (by omega) (by omega)
                    rw [kc159] at c159
                    refine lv_iconst (v := 1) hx hb dL_build_546 (by decide) ?_
                    refine lv_goto (tgt := 551) hx hb dL_build_547 (by decide) ?_
                    exact J551 true H locs ls (iff_of_true rfl (by omega)) hP hS (lv_sub hl [0, 1, 3, 4, 5, 6, 7, 8, 9, 10, 11] rfl)
          · refine lv_goto (tgt := 811) hx hb dL_build_437 (by decide) ?_
            refine W.widen (k := 100 + 10 * (k + 1)) (n := 2500 + 150 * (k + 1)) (by omega) (by omega) ?_
            obtain ⟨i160, ei160⟩ : ∃ y : Int32, y = nI k + (1) := ⟨_, rfl⟩
            refine lv_iinc (v := i160) (lv' := [(8, .int i160), (9, .int v10), (7, .ref nn), (6, .ref pl), (5, .ref me), (4, .ref ge), (3, .ref sh), (2, .int (nI 0)), (1, .ref b9), (0, .ref x)]) hx hb dL_build_811 hl (k := 1) rfl (by rw [ei160]; rfl) (by decide) rfl (fun ls hl => ?_)
            have hi160 : i160 = nI (k + 1) := by
              rw [ei160]
              exact nI_1 k
            rw [hi160] at hl
            refine lv_goto (tgt := 393) hx hb dL_build_814 (by decide) ?_
            exact ih_L393 (k + 1) S Fm Fn c2 w H locs ls (by omega) (by omega) (hc2) (hB) (hz) (hf0) (hf1) (hf2) (hf3) (has) (hag) (ham) hnn hsh hge hme hpl hP hS (lv_sub hl [0, 2, 3, 4, 5, 6, 7, 8, 9] rfl)
  exact L393 25 0 S Fm0 Fn2 0 w H locs ls (by omega) (by omega) (by omega) (hB) (⟨zz0, zz1, zz2, zz3, zz4⟩) (hg0) (hg1) (hgz 2 (by decide)) (hgz 3 (by decide)) (has) (hag) (arM_0 _ _) hnn hsh hge hme hpl hP hS (lv_sub hl [0, 1, 2, 3, 4, 5, 6, 7, 8] rfl)
