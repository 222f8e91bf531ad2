theorem cd_X6_count : yX6_count.cls = RX6 ∧ yX6_count.cls ≠ "java/lang/invoke/MethodHandle" ∧ yX6_count.cls ≠ "java/lang/invoke/VarHandle" ∧ (parseMethodDescriptor yX6_count.desc).map (fun d => d.parameters.length) = some 1 := by decide +kernel
theorem cd_X6_drive : yX6_drive.cls = RX6 ∧ yX6_drive.cls ≠ "java/lang/invoke/MethodHandle" ∧ yX6_drive.cls ≠ "java/lang/invoke/VarHandle" ∧ (parseMethodDescriptor yX6_drive.desc).map (fun d => d.parameters.length) = some 2 := by decide +kernel
set_option maxHeartbeats 4000000 in
set_option maxRecDepth 100000 in
theorem bld_5 {p : Program} {l : Launch} {e : Env} {R : Room} {s : State} {m : MethodId} {args : Array Value} {below : List Frame} {meth : Method} {c : Code} {Q : State → Prop} {A : Nat → Prop} {G : g_C} (F : g_F p m c cL_build 15 s args wsL_build RL A G) (hR : R = ({ frames := 8, cells := 400, slots := 7000, locals := 256 } : Room)) (hlt : l.stackTraces = false) {b9 N9 : Nat} {xs : Nat → Int32} (hX : va_X b9 N9 xs s s.heap) (hbl : b9 < s.heap.size) (hbA : ¬ A b9) (hN9 : N9 ≤ 260) (htab : c.exceptionTable.toList = tableOf [(731, 741, 744, 35)]) {x sh ge me pl nn : Nat} (dshge : sh ≠ ge) (dshme : sh ≠ me) (dshpl : sh ≠ pl) (dgeme : ge ≠ me) (dgepl : ge ≠ pl) (dmepl : me ≠ pl) (dnnsh : sh ≠ nn) (dnnge : ge ≠ nn) (dnnme : me ≠ nn) (dnnpl : pl ≠ nn) {nn : Nat} {n0 : Nat} {n1 : Nat} {m2 : Nat} {k : Nat} {S : Sg} {Fs2 : Nat → Int32} {Fg2 : Nat → Int32} {Fm2 : Nat → Int32} {Fp : Nat → Int32} {Fn : Nat → Int32} {w : g_W} (dnnsh : sh ≠ nn) (dnnge : ge ≠ nn) (dnnme : me ≠ nn) (dnnpl : pl ≠ nn) (hn0 : 2 ≤ n0 ∧ n0 ≤ 8) (hn1 : n1 ≤ 12) (hm2 : m2 ≤ 16) (hk3 : k ≤ 3) (zz0 : S 0 0 = n0) (zz1 : S 0 1 = n1) (zz2 : S 0 2 = m2) (zz3 : S 0 3 = k) (zz4 : S 0 4 = -1) (has : arS S n0 Fs2) (hag : arG S n1 Fg2) (ham : arM S m2 Fm2) (hap : arP S k Fp) (hf0 : Fn 0 = nI n0) (hf1 : Fn 1 = nI n1) (hf2 : Fn 2 = nI m2) (hf3 : Fn 3 = nI k) (hB : lwB G w x S [nn, sh, ge, me, pl]) (hnn : w nn = some (.inl (G.2.1 0, 6, .inl Fn))) (hsh : w sh = some (.inl (G.2.1 0, 30, .inl Fs2))) (hge : w ge = some (.inl (G.2.1 0, 80, .inl Fg2))) (hme : w me = some (.inl (G.2.1 0, 32, .inl Fm2))) (hpl : w pl = some (.inl (G.2.1 0, 20, .inl Fp))) {H : Heap} {locs : List Loc} {ls : Array Slot} (hP : g_P A G w H) (hS : va_S A s.heap H locs) (hl : lv_has ls 15 [(7, .ref nn), (6, .ref pl), (5, .ref me), (4, .ref ge), (3, .ref sh), (2, .int (nI 0)), (1, .ref b9), (0, .ref x)])
    (cont : ∀ (nn : Nat) (S9 : Sg) (Fs9 : Nat → Int32) (Fg2 : Nat → Int32) (Fm2 : Nat → Int32) (Fp : Nat → Int32) (Fn9 : Nat → Int32) (w : g_W) (H : Heap) (locs : List Loc) (ls : Array Slot), (sh ≠ nn) → (ge ≠ nn) → (me ≠ nn) → (pl ≠ nn) → (lwB G w x S9 [nn, sh, ge, me, pl]) → (bldP S9 Fs9 Fg2 Fm2 Fp Fn9) → w nn = some (.inl (G.2.1 0, 6, .inl Fn9)) → w sh = some (.inl (G.2.1 0, 30, .inl Fs9)) → w ge = some (.inl (G.2.1 0, 80, .inl Fg2)) → w me = some (.inl (G.2.1 0, 32, .inl Fm2)) → w pl = some (.inl (G.2.1 0, 20, .inl Fp)) → g_P A G w H → va_S A s.heap H locs → lv_has ls 15 [(7, .ref nn)] → W p l e R s m args below meth c H locs 400 7000 Q (F0 m 1153 ls [])) : W p l e R s m args below meth c H locs 380 6600 Q (F0 m 1033 ls []) := by
  obtain ⟨⟨hx, hb, hml, hown, hts⟩, hK, hZ, hA⟩ := id F
  refine lv_aload hx hb dL_build_1033 (lv_at hl 0 rfl) ?_
  refine lv_iconst (v := 4) hx hb dL_build_1035 (by decide) ?_
  refine lv_iconst (v := (-1)) hx hb dL_build_1036 (by decide) ?_
  refine g_iast F hP hS hnn (by unfold vp_in; decide) dL_build_1037 (fun H locs hP hS => ?_)
  rw [show (4 : Int32).toNatClampNeg = 4 from by decide] at hP
  obtain ⟨w1, ew1⟩ : ∃ z, z = g_up w nn (.inl (G.2.1 0, 6, .inl (upd Fn 4 (-1)))) := ⟨_, rfl⟩
  have hP : g_P A G w1 H := by rw [ew1]; exact hP
  have f2 : w1 sh = some (.inl (G.2.1 0, 30, .inl Fs2)) := by rw [ew1]; exact g_up_f hsh (dnnsh)
  have f3 : w1 ge = some (.inl (G.2.1 0, 80, .inl Fg2)) := by rw [ew1]; exact g_up_f hge (dnnge)
  have f4 : w1 me = some (.inl (G.2.1 0, 32, .inl Fm2)) := by rw [ew1]; exact g_up_f hme (dnnme)
  have f5 : w1 pl = some (.inl (G.2.1 0, 20, .inl Fp)) := by rw [ew1]; exact g_up_f hpl (dnnpl)
  have f6 : w1 nn = some (.inl (G.2.1 0, 6, .inl (upd Fn 4 (-1)))) := by rw [ew1]; exact g_up_s _ _ _
  have hB7 := lwB_set hB (List.mem_of_getElem? (i := 0) rfl) ew1
  refine lv_aload_n hx hb dL_build_1038 rfl (lv_at hl 6 rfl) ?_
  refine lv_iload_n hx hb dL_build_1039 rfl (lv_at hl 5 rfl) ?_
  refine g_SiS (As := [.ref b9, .int (nI 0)]) (rest := []) F hP hS hX hbl hbA (k_L_cell l A G w1 b9 N9 xs hbA 0 (by omega) hN9) (va_cwS 2 hts gL_build_L_cell rfl rfl rfl cd_L_cell ⟨by rw [hR]; exact Nat.le_of_ble_eq_true rfl, by rw [hR]; exact Nat.le_of_ble_eq_true rfl⟩) rfl hl.1 (Nat.le_of_ble_eq_true rfl) dL_build_1040 ⟨by rw [hR]; dsimp only; omega, by rw [hR]; dsimp only; omega⟩ rfl (fun r8 w9 H locs h10 hP hS => ?_)
  rw [h10] at hP
  refine lv_bipush (v := 11) hx hb dL_build_1043 (by decide) ?_
  refine lv_ishr hx hb dL_build_1045 ?_
  refine lv_topi (fun v11 ev11 => ?_)
  refine lv_iconst (v := 5) hx hb dL_build_1046 (by decide) ?_
  refine g_Si (As := [.int v11, .int 5]) (rest := []) F hP hS (k_L_below l A G w1 v11 5 (by omega) (by omega)) (va_cwS 2 hts gL_build_L_below rfl rfl rfl cd_L_below ⟨by rw [hR]; exact Nat.le_of_ble_eq_true rfl, by rw [hR]; exact Nat.le_of_ble_eq_true rfl⟩) rfl hl.1 (Nat.le_of_ble_eq_true rfl) dL_build_1047 ⟨by rw [hR]; dsimp only; omega, by rw [hR]; dsimp only; omega⟩ rfl (fun r12 w13 H locs h14 hP hS => ?_)
  have hr12 := h14.1
  rw [h14.2] at hP
  rw [hr12]
  obtain ⟨b15, eb15⟩ : ∃ z, z = blw v11 5 := ⟨_, rfl⟩
  rw [← eb15]
  have k16 : b15 < 5 := by rw [eb15]; exact blw_lt _ (by omega)
  refine lv_if_le (tgt := 1122) hx hb dL_build_1050 (by decide) (fun c17 => ?_) (fun c17 => ?_)
  · have fin : bldP S Fs2 Fg2 Fm2 Fp (upd Fn 4 (-1)) := by
      have q0 : (S 0 0).toNat = n0 := by omega
      have q1 : (S 0 1).toNat = n1 := by omega
      have q2 : (S 0 2).toNat = m2 := by omega
      have q3 : (S 0 3).toNat = k := by omega
      refine ⟨by omega, ⟨?_, ?_, ?_, ?_, fun q => by omega⟩, by rw [q0]; exact has, by rw [q1]; exact hag, by rw [q2]; exact ham, by rw [q3]; exact hap⟩
      · rw [pk_un (by decide), hf0]; exact (iL_nat (by omega)).symm
      · rw [pk_un (by decide), hf2]; exact (iL_nat (by omega)).symm
      · rw [pk_un (by decide), hf3]; exact (iL_nat (by omega)).symm
      · rw [pk_us, show S 0 4 = -1 by omega]; rfl
    have zc : ∀ i : Nat, i < 4 → (upd Fn 4 (-1)) i = iL (S 0 i) := fun i hi => by
      rcases (show i = 0 ∨ i = 1 ∨ i = 2 ∨ i = 3 by omega) with rfl | rfl | rfl | rfl
      · exact fin.2.1.1
      · rw [pk_un (by decide), hf1]; exact (iL_nat (by omega)).symm
      · exact fin.2.1.2.1
      · exact fin.2.1.2.2.1
    refine W.widen (k := 390) (n := 6700) (by omega) (by omega) ?_
    obtain ⟨S9, eS9⟩ : ∃ z, z = S := ⟨_, rfl⟩
    rw [← eS9] at fin zc hB7
    obtain ⟨Fs9, eFs9⟩ : ∃ z : Nat → Int32, z = Fs2 := ⟨_, rfl⟩
    rw [← eFs9] at fin f2
    obtain ⟨Fn9, eFn9⟩ : ∃ z : Nat → Int32, z = upd Fn 4 (-1) := ⟨_, rfl⟩
    rw [← eFn9] at fin zc f6
    refine lv_iconst (v := 0) hx hb dL_build_1122 (by decide) ?_
    refine lv_istore (lv' := [(9, .int 0), (7, .ref nn), (6, .ref pl), (5, .ref me), (4, .ref ge), (3, .ref sh), (2, .int (nI 0)), (1, .ref b9), (0, .ref x)]) hx hb dL_build_1123 hl (by decide) rfl (fun ls hl => ?_)
    have L1125 : ∀ (n : Nat) (i : Nat) (H : Heap) (locs : List Loc) (ls : Array Slot), 5 ≤ i + n → (i ≤ 4) → g_P A G w1 H → va_S A s.heap H locs → lv_has ls 15 [(9, .int (nI i)), (7, .ref nn), (6, .ref pl), (5, .ref me), (4, .ref ge), (3, .ref sh), (2, .int (nI 0)), (1, .ref b9), (0, .ref x)] → W p l e R s m args below meth c H locs ((390 + i)) ((6700 + 6 * i)) Q (F0 m 1125 ls []) := by
      intro n
      induction n with
      | zero =>
        intro i H locs ls hfu hi4 hP hS hl
        exact absurd hfu (by omega)
      | succ n ih_L1125 =>
        intro i H locs ls hfu hi4 hP hS hl
        refine lv_iload hx hb dL_build_1125 (lv_at hl 0 rfl) ?_
        refine lv_iconst (v := 4) hx hb dL_build_1127 (by decide) ?_
        refine lv_icmp_ge (tgt := 1153) hx hb dL_build_1128 (by decide) (fun c18 => ?_) (fun c18 => ?_)
        · have zc18 : 4 ≤ i := (nI_leI (a := 4) (b := i) (by omega) (by omega)).mp c18
          refine W.widen (k := 400) (n := 7000) (by omega) (by omega) ?_
          exact cont nn S9 Fs9 Fg2 Fm2 Fp Fn9 w1 H locs ls (dnnsh) (dnnge) (dnnme) (dnnpl) (hB7) (fin) f6 f2 f3 f4 f5 hP hS (lv_sub hl [1] rfl)
        · have hin : i < 4 := Nat.not_le.mp (fun q => c18 (nI_le (a := 4) q (by omega)))
          refine lv_aload_n hx hb dL_build_1131 rfl (lv_at hl 8 rfl) ?_
          refine lv_iload hx hb dL_build_1132 (lv_at hl 0 rfl) ?_
          have ti := nI_i i (by omega)
          obtain ⟨ad, Cn, T, h00, hBn, hLn⟩ := id hB7
          have hCo := k_X6_count l hlt A G w1 ad Cn S9 T (nI i) hBn.1 hBn.2.1 hBn.2.2.1
          rw [h00] at hCo
          have hx0 := rep_x hBn.1 hBn.2.1
          rw [h00] at hx0
          refine g_cVi (As := [.int (nI i)]) (rest := []) F hP hS hCo (cwV 1 hts gL_build_X6_count rfl rfl rfl cd_X6_count ⟨by rw [hR]; exact Nat.le_of_ble_eq_true rfl, by rw [hR]; exact Nat.le_of_ble_eq_true rfl⟩) hx0 rfl rfl rfl hl.1 (Nat.le_of_ble_eq_true rfl) dL_build_1134 ⟨by rw [hR]; dsimp only; omega, by rw [hR]; dsimp only; omega⟩ rfl (fun E w9 ce q9 H locs hpx hP hS hce hcv hcl => ?_) (fun r19 w20 H locs h21 hP hS => ?_)
          · have hcd := (show cdCount (nI i) = 0 from if_pos ⟨by omega, by omega⟩)
            obtain ⟨_, q⟩ := hpx.2
            exact absurd (hcd.symm.trans q) (by decide)
          · obtain ⟨hc0, er, ew⟩ := h21
            rw [ew] at hP
            rw [er]
            unfold vlCount
            rw [kN_n (k := i) (by omega)]
            refine lv_aload hx hb dL_build_1137 (lv_at hl 1 rfl) ?_
            refine lv_iload hx hb dL_build_1139 (lv_at hl 0 rfl) ?_
            refine g_iald F hP f6 (vp_in_nI (by omega) (by omega)) dL_build_1141 ?_
            refine lv_topi (fun v22 ev22 => ?_)
            have hv22 : v22 = iL (S9 0 i) := by
              rw [ev22]
              rw [nI_clamp (n := i) (by omega)]
              exact zc i hin
            rw [hv22]
            refine lv_icmp_eq (tgt := 1147) hx hb dL_build_1142 (by decide) (fun c23 => ?_) (fun c23 => ?_)
            · refine W.widen (k := 390 + (i + 1)) (n := 6700 + 6 * (i + 1)) (by omega) (by omega) ?_
              obtain ⟨i24, ei24⟩ : ∃ y : Int32, y = nI i + (1) := ⟨_, rfl⟩
              refine lv_iinc (v := i24) (lv' := [(9, .int i24), (7, .ref nn), (6, .ref pl), (5, .ref me), (4, .ref ge), (3, .ref sh), (2, .int (nI 0)), (1, .ref b9), (0, .ref x)]) hx hb dL_build_1147 hl (k := 0) rfl (by rw [ei24]; rfl) (by decide) rfl (fun ls hl => ?_)
              have hi24 : i24 = nI (i + 1) := by
                rw [ei24]
                exact nI_1 i
              rw [hi24] at hl
              refine lv_goto (tgt := 1125) hx hb dL_build_1150 (by decide) ?_
              exact ih_L1125 (i + 1)  H locs ls (by omega) (by omega) hP hS (lv_sub hl [0, 1, 2, 3, 4, 5, 6, 7, 8] rfl)
            · exact absurd rfl c23
    exact L1125 5 0  H locs ls (by omega) (by omega) hP hS (lv_sub hl [0, 1, 2, 3, 4, 5, 6, 7, 8] rfl)
  · refine lv_aload hx hb dL_build_1053 (lv_at hl 0 rfl) ?_
    refine lv_iconst (v := 4) hx hb dL_build_1055 (by decide) ?_
    refine lv_aload_n hx hb dL_build_1056 rfl (lv_at hl 6 rfl) ?_
    refine lv_iload_n hx hb dL_build_1057 rfl (lv_at hl 5 rfl) ?_
    refine g_SiS (As := [.ref b9, .int (nI 0)]) (rest := [.int 4, .ref nn]) F hP hS hX hbl hbA (k_L_cell l A G w1 b9 N9 xs hbA 0 (by omega) hN9) (va_cwS 2 hts gL_build_L_cell rfl rfl rfl cd_L_cell ⟨by rw [hR]; exact Nat.le_of_ble_eq_true rfl, by rw [hR]; exact Nat.le_of_ble_eq_true rfl⟩) rfl hl.1 (Nat.le_of_ble_eq_true rfl) dL_build_1058 ⟨by rw [hR]; dsimp only; omega, by rw [hR]; dsimp only; omega⟩ rfl (fun r25 w26 H locs h27 hP hS => ?_)
    rw [h27] at hP
    refine lv_bipush (v := 12) hx hb dL_build_1061 (by decide) ?_
    refine lv_ishr hx hb dL_build_1063 ?_
    refine lv_topi (fun v28 ev28 => ?_)
    refine lv_aload hx hb dL_build_1064 (lv_at hl 0 rfl) ?_
    refine lv_iconst (v := 0) hx hb dL_build_1066 (by decide) ?_
    refine g_iald F hP f6 (by unfold vp_in; decide) dL_build_1067 ?_
    refine lv_topi (fun v29 ev29 => ?_)
    have hv29 : v29 = nI n0 := by
      rw [ev29]
      rw [show (0 : Int32).toNatClampNeg = 0 from by decide]
      exact (pk_un (k := 4) (j := 0) (by omega)).trans (hf0)
    rw [hv29]
    refine g_Si (As := [.int v28, .int (nI n0)]) (rest := [.int 4, .ref nn]) F hP hS (k_L_below l A G w1 v28 n0 (by omega) (by omega)) (va_cwS 2 hts gL_build_L_below rfl rfl rfl cd_L_below ⟨by rw [hR]; exact Nat.le_of_ble_eq_true rfl, by rw [hR]; exact Nat.le_of_ble_eq_true rfl⟩) rfl hl.1 (Nat.le_of_ble_eq_true rfl) dL_build_1068 ⟨by rw [hR]; dsimp only; omega, by rw [hR]; dsimp only; omega⟩ rfl (fun r30 w31 H locs h32 hP hS => ?_)
    have hr30 := h32.1
    rw [h32.2] at hP
    rw [hr30]
    obtain ⟨b33, eb33⟩ : ∃ z, z = blw v28 n0 := ⟨_, rfl⟩
    rw [← eb33]
    have k34 : b33 < n0 := by rw [eb33]; exact blw_lt _ (by omega)
    refine g_iast F hP hS f6 (by unfold vp_in; decide) dL_build_1071 (fun H locs hP hS => ?_)
    rw [show (4 : Int32).toNatClampNeg = 4 from by decide] at hP
    obtain ⟨w35, ew35⟩ : ∃ z, z = g_up w1 nn (.inl (G.2.1 0, 6, .inl (upd (upd Fn 4 (-1)) 4 (nI b33)))) := ⟨_, rfl⟩
    have hP : g_P A G w35 H := by rw [ew35]; exact hP
    have f36 : w35 sh = some (.inl (G.2.1 0, 30, .inl Fs2)) := by rw [ew35]; exact g_up_f f2 (dnnsh)
    have f37 : w35 ge = some (.inl (G.2.1 0, 80, .inl Fg2)) := by rw [ew35]; exact g_up_f f3 (dnnge)
    have f38 : w35 me = some (.inl (G.2.1 0, 32, .inl Fm2)) := by rw [ew35]; exact g_up_f f4 (dnnme)
    have f39 : w35 pl = some (.inl (G.2.1 0, 20, .inl Fp)) := by rw [ew35]; exact g_up_f f5 (dnnpl)
    have f40 : w35 nn = some (.inl (G.2.1 0, 6, .inl (upd (upd Fn 4 (-1)) 4 (nI b33)))) := by rw [ew35]; exact g_up_s _ _ _
    have hB41 := lwB_set hB7 (List.mem_of_getElem? (i := 0) rfl) ew35
    refine lv_aload hx hb dL_build_1072 (lv_at hl 0 rfl) ?_
    refine lv_iconst (v := 5) hx hb dL_build_1074 (by decide) ?_
    refine lv_aload_n hx hb dL_build_1075 rfl (lv_at hl 6 rfl) ?_
    refine lv_iload_n hx hb dL_build_1076 rfl (lv_at hl 5 rfl) ?_
    refine g_SiS (As := [.ref b9, .int (nI 0)]) (rest := [.int 5, .ref nn]) F hP hS hX hbl hbA (k_L_cell l A G w35 b9 N9 xs hbA 0 (by omega) hN9) (va_cwS 2 hts gL_build_L_cell rfl rfl rfl cd_L_cell ⟨by rw [hR]; exact Nat.le_of_ble_eq_true rfl, by rw [hR]; exact Nat.le_of_ble_eq_true rfl⟩) rfl hl.1 (Nat.le_of_ble_eq_true rfl) dL_build_1077 ⟨by rw [hR]; dsimp only; omega, by rw [hR]; dsimp only; omega⟩ rfl (fun r42 w43 H locs h44 hP hS => ?_)
    rw [h44] at hP
    refine lv_bipush (v := 14) hx hb dL_build_1080 (by decide) ?_
    refine lv_ishr hx hb dL_build_1082 ?_
    refine lv_topi (fun v45 ev45 => ?_)
    refine lv_sipush (v := 201) hx hb dL_build_1083 (by decide) ?_
    refine g_Si (As := [.int v45, .int 201]) (rest := [.int 5, .ref nn]) F hP hS (k_L_below l A G w35 v45 201 (by omega) (by omega)) (va_cwS 2 hts gL_build_L_below rfl rfl rfl cd_L_below ⟨by rw [hR]; exact Nat.le_of_ble_eq_true rfl, by rw [hR]; exact Nat.le_of_ble_eq_true rfl⟩) rfl hl.1 (Nat.le_of_ble_eq_true rfl) dL_build_1086 ⟨by rw [hR]; dsimp only; omega, by rw [hR]; dsimp only; omega⟩ rfl (fun r46 w47 H locs h48 hP hS => ?_)
    have hr46 := h48.1
    rw [h48.2] at hP
    rw [hr46]
    obtain ⟨b49, eb49⟩ : ∃ z, z = blw v45 201 := ⟨_, rfl⟩
    rw [← eb49]
    have k50 : b49 < 201 := by rw [eb49]; exact blw_lt _ (by omega)
    refine lv_bipush (v := 100) hx hb dL_build_1089 (by decide) ?_
    refine lv_isub hx hb dL_build_1091 ?_
    refine lv_topi (fun v51 ev51 => ?_)
    have hv51 : v51 = iL (((b49 : Nat) : Int) - 100) := by
      rw [ev51]
      rw [← iL_n]; exact iL_sub _ 100
    rw [hv51]
    refine g_iast F hP hS f40 (by unfold vp_in; decide) dL_build_1092 (fun H locs hP hS => ?_)
    rw [show (5 : Int32).toNatClampNeg = 5 from by decide] at hP
    obtain ⟨w52, ew52⟩ : ∃ z, z = g_up w35 nn (.inl (G.2.1 0, 6, .inl (upd (upd (upd Fn 4 (-1)) 4 (nI b33)) 5 (iL (((b49 : Nat) : Int) - 100))))) := ⟨_, rfl⟩
    have hP : g_P A G w52 H := by rw [ew52]; exact hP
    have f53 : w52 sh = some (.inl (G.2.1 0, 30, .inl Fs2)) := by rw [ew52]; exact g_up_f f36 (dnnsh)
    have f54 : w52 ge = some (.inl (G.2.1 0, 80, .inl Fg2)) := by rw [ew52]; exact g_up_f f37 (dnnge)
    have f55 : w52 me = some (.inl (G.2.1 0, 32, .inl Fm2)) := by rw [ew52]; exact g_up_f f38 (dnnme)
    have f56 : w52 pl = some (.inl (G.2.1 0, 20, .inl Fp)) := by rw [ew52]; exact g_up_f f39 (dnnpl)
    have f57 : w52 nn = some (.inl (G.2.1 0, 6, .inl (upd (upd (upd Fn 4 (-1)) 4 (nI b33)) 5 (iL (((b49 : Nat) : Int) - 100))))) := by rw [ew52]; exact g_up_s _ _ _
    have hB58 := lwB_set hB41 (List.mem_of_getElem? (i := 0) rfl) ew52
    refine lv_aload_n hx hb dL_build_1093 rfl (lv_at hl 4 rfl) ?_
    refine lv_iconst (v := 3) hx hb dL_build_1094 (by decide) ?_
    refine lv_aload hx hb dL_build_1095 (lv_at hl 0 rfl) ?_
    refine lv_iconst (v := 4) hx hb dL_build_1097 (by decide) ?_
    refine g_iald F hP f57 (by unfold vp_in; decide) dL_build_1098 ?_
    refine lv_topi (fun v59 ev59 => ?_)
    have hv59 : v59 = nI b33 := by
      rw [ev59]
      rw [show (4 : Int32).toNatClampNeg = 4 from by decide]
      exact (pk_un (k := 5) (j := 4) (by omega)).trans (pk_us)
    rw [hv59]
    refine lv_imul hx hb dL_build_1099 ?_
    refine lv_topi (fun v60 ev60 => ?_)
    have hv60 : v60 = nI (3 * b33) := by
      rw [ev60]
      exact pk_mul 3 b33
    rw [hv60]
    refine lv_iconst (v := 2) hx hb dL_build_1100 (by decide) ?_
    refine lv_iadd hx hb dL_build_1101 ?_
    refine lv_topi (fun v61 ev61 => ?_)
    have hv61 : v61 = nI (3 * b33 + 2) := by
      rw [ev61]
      exact nI_add (3 * b33) 2
    rw [hv61]
    refine lv_iconst (v := 0) hx hb dL_build_1102 (by decide) ?_
    refine g_iast F hP hS f53 (vp_in_nI (by omega) (by omega)) dL_build_1103 (fun H locs hP hS => ?_)
    rw [nI_clamp (n := 3 * b33 + 2) (by omega)] at hP
    obtain ⟨w62, ew62⟩ : ∃ z, z = g_up w52 sh (.inl (G.2.1 0, 30, .inl (upd Fs2 (3 * b33 + 2) 0))) := ⟨_, rfl⟩
    have hP : g_P A G w62 H := by rw [ew62]; exact hP
    have f63 : w62 ge = some (.inl (G.2.1 0, 80, .inl Fg2)) := by rw [ew62]; exact g_up_f f54 (Ne.symm (dshge))
    have f64 : w62 me = some (.inl (G.2.1 0, 32, .inl Fm2)) := by rw [ew62]; exact g_up_f f55 (Ne.symm (dshme))
    have f65 : w62 pl = some (.inl (G.2.1 0, 20, .inl Fp)) := by rw [ew62]; exact g_up_f f56 (Ne.symm (dshpl))
    have f66 : w62 nn = some (.inl (G.2.1 0, 6, .inl (upd (upd (upd Fn 4 (-1)) 4 (nI b33)) 5 (iL (((b49 : Nat) : Int) - 100))))) := by rw [ew62]; exact g_up_f f57 (Ne.symm (dnnsh))
    have f67 : w62 sh = some (.inl (G.2.1 0, 30, .inl (upd Fs2 (3 * b33 + 2) 0))) := by rw [ew62]; exact g_up_s _ _ _
    have hB68 := lwB_set hB58 (List.mem_of_getElem? (i := 1) rfl) ew62
    refine lv_aload_n hx hb dL_build_1104 rfl (lv_at hl 7 rfl) ?_
    refine lv_aload hx hb dL_build_1105 (lv_at hl 0 rfl) ?_
    refine lv_iconst (v := 4) hx hb dL_build_1107 (by decide) ?_
    refine g_iald F hP f66 (by unfold vp_in; decide) dL_build_1108 ?_
    refine lv_topi (fun v69 ev69 => ?_)
    have hv69 : v69 = nI b33 := by
      rw [ev69]
      rw [show (4 : Int32).toNatClampNeg = 4 from by decide]
      exact (pk_un (k := 5) (j := 4) (by omega)).trans (pk_us)
    rw [hv69]
    refine lv_aload hx hb dL_build_1109 (lv_at hl 0 rfl) ?_
    refine lv_iconst (v := 5) hx hb dL_build_1111 (by decide) ?_
    refine g_iald F hP f66 (by unfold vp_in; decide) dL_build_1112 ?_
    refine lv_topi (fun v70 ev70 => ?_)
    have hv70 : v70 = iL (((b49 : Nat) : Int) - 100) := by
      rw [ev70]
      rw [show (5 : Int32).toNatClampNeg = 5 from by decide]
      exact pk_us
    rw [hv70]
    have t1 := nI_i b33 (by omega)
    have t2 : (iL (((b49 : Nat) : Int) - 100)).toInt = ((b49 : Nat) : Int) - 100 := iL_t (by omega) (by omega)
    have k1 := kN_n (k := b33) (by omega)
    obtain ⟨ad, Cn, T, h00, hBn, hLn⟩ := id hB68
    have hCo := k_X6_drive l hlt A G w62 ad Cn S T (nI b33) (iL (((b49 : Nat) : Int) - 100)) hBn.1 hBn.2.1 hBn.2.2.1 hBn.2.2.2.1 hBn.2.2.2.2
    rw [h00] at hCo
    have hx0 := rep_x hBn.1 hBn.2.1
    rw [h00] at hx0
    refine g_cVi (As := [.int (nI b33), .int (iL (((b49 : Nat) : Int) - 100))]) (rest := []) F hP hS hCo (cwV 2 hts gL_build_X6_drive rfl rfl rfl cd_X6_drive ⟨by rw [hR]; exact Nat.le_of_ble_eq_true rfl, by rw [hR]; exact Nat.le_of_ble_eq_true rfl⟩) hx0 rfl rfl rfl hl.1 (Nat.le_of_ble_eq_true rfl) dL_build_1113 ⟨by rw [hR]; dsimp only; omega, by rw [hR]; dsimp only; omega⟩ rfl (fun E w9 ce q9 H locs hpx hP hS hce hcv hcl => ?_) (fun r71 w72 H locs h73 hP hS => ?_)
    · have hcd := (show cdDrive S (nI b33) (iL (((b49 : Nat) : Int) - 100)) = 0 from (if_pos ⟨by omega, by omega⟩).trans (if_pos ⟨by rw [t2]; omega, by rw [t2]; omega⟩))
      rcases hpx.2 with ⟨_, q⟩ | ⟨_, q⟩ <;> exact absurd (hcd.symm.trans q) (by decide)
    · obtain ⟨hc0, er, hAf⟩ := h73
      obtain ⟨S74, eS74⟩ : ∃ z, z = nxDrive S (nI b33) (iL (((b49 : Nat) : Int) - 100)) := ⟨_, rfl⟩
      rw [← eS74] at hAf
      obtain ⟨hB75, kp76⟩ := lwB_aft h00 hLn hAf
      have f77 : w72 ge = some (.inl (G.2.1 0, 80, .inl Fg2)) := (kp76 ge (List.mem_of_getElem? (i := 2) rfl)).trans f63
      have f78 : w72 me = some (.inl (G.2.1 0, 32, .inl Fm2)) := (kp76 me (List.mem_of_getElem? (i := 3) rfl)).trans f64
      have f79 : w72 pl = some (.inl (G.2.1 0, 20, .inl Fp)) := (kp76 pl (List.mem_of_getElem? (i := 4) rfl)).trans f65
      have f80 : w72 nn = some (.inl (G.2.1 0, 6, .inl (upd (upd (upd Fn 4 (-1)) 4 (nI b33)) 5 (iL (((b49 : Nat) : Int) - 100))))) := (kp76 nn (List.mem_of_getElem? (i := 0) rfl)).trans f66
      have f81 : w72 sh = some (.inl (G.2.1 0, 30, .inl (upd Fs2 (3 * b33 + 2) 0))) := (kp76 sh (List.mem_of_getElem? (i := 1) rfl)).trans f67
      rw [er]
      unfold vlDrive
      rw [show iL (S 0 4) = -1 from by rw [show S 0 4 = -1 by omega]; rfl]
      refine lv_iconst (v := (-1)) hx hb dL_build_1116 (by decide) ?_
      refine lv_icmp_eq (tgt := 1122) hx hb dL_build_1117 (by decide) (fun c82 => ?_) (fun c82 => ?_)
      · obtain ⟨a4, a5, a3, a30, a0, ao⟩ := nx_drive (by omega) eS74
        rw [t2] at a5
        have fin : bldP S74 (upd Fs2 (3 * b33 + 2) 0) Fg2 Fm2 Fp (upd (upd (upd Fn 4 (-1)) 4 (nI b33)) 5 (iL (((b49 : Nat) : Int) - 100))) := by
          have q0 : (S74 0 0).toNat = n0 := by rw [a0 0 (by decide) (by decide)]; omega
          have q1 : (S74 0 1).toNat = n1 := by rw [a0 1 (by decide) (by decide)]; omega
          have q2 : (S74 0 2).toNat = m2 := by rw [a0 2 (by decide) (by decide)]; omega
          have q3 : (S74 0 3).toNat = k := by rw [a0 3 (by decide) (by decide)]; omega
          refine ⟨by rw [a0 0 (by decide) (by decide)]; omega, ⟨?_, ?_, ?_, ?_, fun _ => ?_⟩, ?_, by rw [q1]; exact arG_c hag (fun f j _ z1 z2 => ao f j (by omega) (by omega)), by rw [q2]; exact arM_c ham (fun f j _ z1 z2 => ao f j (by omega) (by omega)), by rw [q3]; exact arP_c hap (fun f j _ z1 z2 => ao f j (by omega) (by omega))⟩
          · rw [pk_un (by decide), pk_un (by decide), pk_un (by decide), hf0, a0 0 (by decide) (by decide)]; exact (iL_nat (by omega)).symm
          · rw [pk_un (by decide), pk_un (by decide), pk_un (by decide), hf2, a0 2 (by decide) (by decide)]; exact (iL_nat (by omega)).symm
          · rw [pk_un (by decide), pk_un (by decide), pk_un (by decide), hf3, a0 3 (by decide) (by decide)]; exact (iL_nat (by omega)).symm
          · rw [pk_un (by decide), pk_us, a4]; exact (iL_n _).symm
          · rw [pk_us, a5]
          · rw [q0]
            intro j hj
            by_cases z : j = b33
            · rw [z, pk_us, a3]; rfl
            · rw [pk_un (by omega), a30 j z]; exact has j hj
        have zc : ∀ i : Nat, i < 4 → (upd (upd (upd Fn 4 (-1)) 4 (nI b33)) 5 (iL (((b49 : Nat) : Int) - 100))) i = iL (S74 0 i) := fun i hi => by
          rcases (show i = 0 ∨ i = 1 ∨ i = 2 ∨ i = 3 by omega) with rfl | rfl | rfl | rfl
          · exact fin.2.1.1
          · rw [pk_un (by decide), pk_un (by decide), pk_un (by decide), hf1, a0 1 (by decide) (by decide)]; exact (iL_nat (by omega)).symm
          · exact fin.2.1.2.1
          · exact fin.2.1.2.2.1
        refine W.widen (k := 390) (n := 6700) (by omega) (by omega) ?_
        obtain ⟨S9, eS9⟩ : ∃ z, z = S74 := ⟨_, rfl⟩
        rw [← eS9] at fin zc hB75
        obtain ⟨Fs9, eFs9⟩ : ∃ z : Nat → Int32, z = upd Fs2 (3 * b33 + 2) 0 := ⟨_, rfl⟩
        rw [← eFs9] at fin f81
        obtain ⟨Fn9, eFn9⟩ : ∃ z : Nat → Int32, z = upd (upd (upd Fn 4 (-1)) 4 (nI b33)) 5 (iL (((b49 : Nat) : Int) - 100)) := ⟨_, rfl⟩
        rw [← eFn9] at fin zc f80
        refine lv_iconst (v := 0) hx hb dL_build_1122 (by decide) ?_
        refine lv_istore (lv' := [(9, .int 0), (7, .ref nn), (6, .ref pl), (5, .ref me), (4, .ref ge), (3, .ref sh), (2, .int (nI 0)), (1, .ref b9), (0, .ref x)]) hx hb dL_build_1123 hl (by decide) rfl (fun ls hl => ?_)
        have L1125 : ∀ (n : Nat) (i : Nat) (H : Heap) (locs : List Loc) (ls : Array Slot), 5 ≤ i + n → (i ≤ 4) → g_P A G w72 H → va_S A s.heap H locs → lv_has ls 15 [(9, .int (nI i)), (7, .ref nn), (6, .ref pl), (5, .ref me), (4, .ref ge), (3, .ref sh), (2, .int (nI 0)), (1, .ref b9), (0, .ref x)] → W p l e R s m args below meth c H locs ((390 + i)) ((6700 + 6 * i)) Q (F0 m 1125 ls []) := by
          intro n
          induction n with
          | zero =>
            intro i H locs ls hfu hi4 hP hS hl
            exact absurd hfu (by omega)
          | succ n ih_L1125 =>
            intro i H locs ls hfu hi4 hP hS hl
            refine lv_iload hx hb dL_build_1125 (lv_at hl 0 rfl) ?_
            refine lv_iconst (v := 4) hx hb dL_build_1127 (by decide) ?_
            refine lv_icmp_ge (tgt := 1153) hx hb dL_build_1128 (by decide) (fun c83 => ?_) (fun c83 => ?_)
            · have zc83 : 4 ≤ i := (nI_leI (a := 4) (b := i) (by omega) (by omega)).mp c83
              refine W.widen (k := 400) (n := 7000) (by omega) (by omega) ?_
              exact cont nn S9 Fs9 Fg2 Fm2 Fp Fn9 w72 H locs ls (dnnsh) (dnnge) (dnnme) (dnnpl) (hB75) (fin) f80 f81 f77 f78 f79 hP hS (lv_sub hl [1] rfl)
            · have hin : i < 4 := Nat.not_le.mp (fun q => c83 (nI_le (a := 4) q (by omega)))
              refine lv_aload_n hx hb dL_build_1131 rfl (lv_at hl 8 rfl) ?_
              refine lv_iload hx hb dL_build_1132 (lv_at hl 0 rfl) ?_
              have ti := nI_i i (by omega)
              obtain ⟨ad, Cn, T, h00, hBn, hLn⟩ := id hB75
              have hCo := k_X6_count l hlt A G w72 ad Cn S9 T (nI i) hBn.1 hBn.2.1 hBn.2.2.1
              rw [h00] at hCo
              have hx0 := rep_x hBn.1 hBn.2.1
              rw [h00] at hx0
              refine g_cVi (As := [.int (nI i)]) (rest := []) F hP hS hCo (cwV 1 hts gL_build_X6_count rfl rfl rfl cd_X6_count ⟨by rw [hR]; exact Nat.le_of_ble_eq_true rfl, by rw [hR]; exact Nat.le_of_ble_eq_true rfl⟩) hx0 rfl rfl rfl hl.1 (Nat.le_of_ble_eq_true rfl) dL_build_1134 ⟨by rw [hR]; dsimp only; omega, by rw [hR]; dsimp only; omega⟩ rfl (fun E w9 ce q9 H locs hpx hP hS hce hcv hcl => ?_) (fun r84 w85 H locs h86 hP hS => ?_)
              · have hcd := (show cdCount (nI i) = 0 from if_pos ⟨by omega, by omega⟩)
                obtain ⟨_, q⟩ := hpx.2
                exact absurd (hcd.symm.trans q) (by decide)
              · obtain ⟨hc0, er, ew⟩ := h86
                rw [ew] at hP
                rw [er]
                unfold vlCount
                rw [kN_n (k := i) (by omega)]
                refine lv_aload hx hb dL_build_1137 (lv_at hl 1 rfl) ?_
                refine lv_iload hx hb dL_build_1139 (lv_at hl 0 rfl) ?_
                refine g_iald F hP f80 (vp_in_nI (by omega) (by omega)) dL_build_1141 ?_
                refine lv_topi (fun v87 ev87 => ?_)
                have hv87 : v87 = iL (S9 0 i) := by
                  rw [ev87]
                  rw [nI_clamp (n := i) (by omega)]
                  exact zc i hin
                rw [hv87]
                refine lv_icmp_eq (tgt := 1147) hx hb dL_build_1142 (by decide) (fun c88 => ?_) (fun c88 => ?_)
                · refine W.widen (k := 390 + (i + 1)) (n := 6700 + 6 * (i + 1)) (by omega) (by omega) ?_
                  obtain ⟨i89, ei89⟩ : ∃ y : Int32, y = nI i + (1) := ⟨_, rfl⟩
                  refine lv_iinc (v := i89) (lv' := [(9, .int i89), (7, .ref nn), (6, .ref pl), (5, .ref me), (4, .ref ge), (3, .ref sh), (2, .int (nI 0)), (1, .ref b9), (0, .ref x)]) hx hb dL_build_1147 hl (k := 0) rfl (by rw [ei89]; rfl) (by decide) rfl (fun ls hl => ?_)
                  have hi89 : i89 = nI (i + 1) := by
                    rw [ei89]
                    exact nI_1 i
                  rw [hi89] at hl
                  refine lv_goto (tgt := 1125) hx hb dL_build_1150 (by decide) ?_
                  exact ih_L1125 (i + 1)  H locs ls (by omega) (by omega) hP hS (lv_sub hl [0, 1, 2, 3, 4, 5, 6, 7, 8] rfl)
                · exact absurd rfl c88
        exact L1125 5 0  H locs ls (by omega) (by omega) hP hS (lv_sub hl [0, 1, 2, 3, 4, 5, 6, 7, 8] rfl)
      · exact absurd rfl c82
