theorem cd_L_cell : yL_cell.cls ≠ "java/lang/invoke/MethodHandle" ∧ yL_cell.cls ≠ "java/lang/invoke/VarHandle" ∧ (parseMethodDescriptor yL_cell.desc).map (fun d => d.parameters.length) = some 2 := by decide +kernel
theorem cd_L_below : yL_below.cls ≠ "java/lang/invoke/MethodHandle" ∧ yL_below.cls ≠ "java/lang/invoke/VarHandle" ∧ (parseMethodDescriptor yL_below.desc).map (fun d => d.parameters.length) = some 2 := by decide +kernel
theorem cd_X6_count : yX6_count.cls = RX6 ∧ yX6_count.cls ≠ "java/lang/invoke/MethodHandle" ∧ yX6_count.cls ≠ "java/lang/invoke/VarHandle" ∧ (parseMethodDescriptor yX6_count.desc).map (fun d => d.parameters.length) = some 1 := by decide +kernel
theorem cd_X6_drive : yX6_drive.cls = RX6 ∧ yX6_drive.cls ≠ "java/lang/invoke/MethodHandle" ∧ yX6_drive.cls ≠ "java/lang/invoke/VarHandle" ∧ (parseMethodDescriptor yX6_drive.desc).map (fun d => d.parameters.length) = some 2 := by decide +kernel
theorem cd_X6_addPlanets : yX6_addPlanets.cls = RX6 ∧ yX6_addPlanets.cls ≠ "java/lang/invoke/MethodHandle" ∧ yX6_addPlanets.cls ≠ "java/lang/invoke/VarHandle" ∧ (parseMethodDescriptor yX6_addPlanets.desc).map (fun d => d.parameters.length) = some 5 := by decide +kernel
theorem cd_X6_mesh : yX6_mesh.cls = RX6 ∧ yX6_mesh.cls ≠ "java/lang/invoke/MethodHandle" ∧ yX6_mesh.cls ≠ "java/lang/invoke/VarHandle" ∧ (parseMethodDescriptor yX6_mesh.desc).map (fun d => d.parameters.length) = some 2 := by decide +kernel
theorem cd_X6_addGear : yX6_addGear.cls = RX6 ∧ yX6_addGear.cls ≠ "java/lang/invoke/MethodHandle" ∧ yX6_addGear.cls ≠ "java/lang/invoke/VarHandle" ∧ (parseMethodDescriptor yX6_addGear.desc).map (fun d => d.parameters.length) = some 5 := by decide +kernel
theorem cd_X6_addShaft : yX6_addShaft.cls = RX6 ∧ yX6_addShaft.cls ≠ "java/lang/invoke/MethodHandle" ∧ yX6_addShaft.cls ≠ "java/lang/invoke/VarHandle" ∧ (parseMethodDescriptor yX6_addShaft.desc).map (fun d => d.parameters.length) = some 2 := by decide +kernel
theorem cd_X6_hold : yX6_hold.cls = RX6 ∧ yX6_hold.cls ≠ "java/lang/invoke/MethodHandle" ∧ yX6_hold.cls ≠ "java/lang/invoke/VarHandle" ∧ (parseMethodDescriptor yX6_hold.desc).map (fun d => d.parameters.length) = some 2 := by decide +kernel
set_option maxHeartbeats 4000000 in
set_option maxRecDepth 100000 in
theorem k_L_build (l : Launch) (hlt : l.stackTraces = false) (A : Nat → Prop) (G : g_C) (w : g_W) (b9 N9 : Nat) (xs : Nat → Int32) (hbA : ¬ A b9) (hN9 : N9 ≤ 260) (x sh ge me pl : Nat) (Fs0 Fg0 Fm0 Fp0 : Nat → Int32) (hB0 : lwB G w x Sz [sh, ge, me, pl]) (hsh : w sh = some (.inl (G.2.1 0, 30, .inl Fs0))) (hge : w ge = some (.inl (G.2.1 0, 80, .inl Fg0))) (hme : w me = some (.inl (G.2.1 0, 32, .inl Fm0))) (hpl : w pl = some (.inl (G.2.1 0, 20, .inl Fp0))) (dshge : sh ≠ ge) (dshme : sh ≠ me) (dshpl : sh ≠ pl) (dgeme : ge ≠ me) (dgepl : ge ≠ pl) (dmepl : me ≠ pl) : xQS l yL_build wsL_build ({ frames := 8, cells := 400, slots := 7000, locals := 256 } : Room) [.ref x, .ref b9, .int (nI 0), .ref sh, .ref ge, .ref me, .ref pl] A G w b9 N9 xs (fun r w' => ∃ (nn : Nat) (S' : Sg) (Fs' Fg' Fm' Fp' Fn' : Nat → Int32), r = some nn ∧ lwB G w' x S' [nn, sh, ge, me, pl] ∧ (w' sh = some (.inl (G.2.1 0, 30, .inl Fs')) ∧ w' ge = some (.inl (G.2.1 0, 80, .inl Fg')) ∧ w' me = some (.inl (G.2.1 0, 32, .inl Fm')) ∧ w' pl = some (.inl (G.2.1 0, 20, .inl Fp')) ∧ w' nn = some (.inl (G.2.1 0, 6, .inl Fn'))) ∧ bldP S' Fs' Fg' Fm' Fp' Fn') (fun _ => False) 400 7000 := by
  refine g_xofQSH (hh := [(731, 741, 744, 35)]) (cc := cL_build) (maxL := 15) (ret := (some (.array .int))) (own := RL) (by decide) rfl rfl (Nat.le_of_ble_eq_true rfl) ?_
  intro p e R s m args below meth c Q ls hR F hP hS hX hbl hlocks hr htab hQ hl
  obtain ⟨⟨hx, hb, hml, hown, hts⟩, hK, hZ, hA⟩ := id F
  generalize hH0 : s.heap = H at hP ⊢
  have hS : va_S A s.heap H [] := by rw [← hH0]; exact va_S.rf
  generalize ([] : List Loc) = locs at hS ⊢
  have hl : lv_has ls 15 [(0, .ref x), (1, .ref b9), (2, .int (nI 0)), (3, .ref sh), (4, .ref ge), (5, .ref me), (6, .ref pl)] := hl
  have hz0 : Sz 0 0 = 0 ∧ Sz 0 1 = 0 ∧ Sz 0 2 = 0 ∧ Sz 0 3 = 0 ∧ Sz 0 4 = -1 := ⟨rfl, rfl, rfl, rfl, rfl⟩
  refine lv_bipush (v := 6) hx hb dL_build_0 (by decide) ?_
  refine g_newaI F hP hS (N' := 6) (List.mem_cons_of_mem _ (List.mem_append_left _ (List.mem_append_left _ (List.mem_append_left _ (List.mem_append_left _ (List.mem_append_left _ (List.mem_append_left _ (List.mem_append_left _ (List.mem_append_left _ (List.mem_append_left _ (List.mem_append_left _ (List.mem_append_left _ (List.mem_append_left _ (List.mem_append_left _ (List.mem_of_getElem? (i := 1) rfl))))))))))))))) (by decide) (by decide) (by decide) (by rw [hR]; exact Nat.le_of_ble_eq_true rfl) (by rw [hR]; exact Nat.le_of_ble_eq_true rfl) dL_build_2 (fun q1 H nq1 hP hS => ?_)
  obtain ⟨w2, ew2⟩ : ∃ z, z = g_up w q1 (.inl (G.2.1 0, 6, .inl (fun _ => 0))) := ⟨_, rfl⟩
  have hP : g_P A G w2 H := by rw [ew2]; exact hP
  have f3 : w2 sh = some (.inl (G.2.1 0, 30, .inl Fs0)) := by rw [ew2]; exact g_up_f hsh (g_neq hsh nq1)
  have f4 : w2 ge = some (.inl (G.2.1 0, 80, .inl Fg0)) := by rw [ew2]; exact g_up_f hge (g_neq hge nq1)
  have f5 : w2 me = some (.inl (G.2.1 0, 32, .inl Fm0)) := by rw [ew2]; exact g_up_f hme (g_neq hme nq1)
  have f6 : w2 pl = some (.inl (G.2.1 0, 20, .inl Fp0)) := by rw [ew2]; exact g_up_f hpl (g_neq hpl nq1)
  have f7 : w2 q1 = some (.inl (G.2.1 0, 6, .inl (fun _ => 0))) := by rw [ew2]; exact g_up_s _ _ _
  have hB8 := lwB_new hB0 nq1 ew2
  have dnnsh : sh ≠ q1 := g_neq hsh nq1
  have dnnge : ge ≠ q1 := g_neq hge nq1
  have dnnme : me ≠ q1 := g_neq hme nq1
  have dnnpl : pl ≠ q1 := g_neq hpl nq1
  obtain ⟨nn, enn⟩ : ∃ z, z = q1 := ⟨_, rfl⟩
  rw [← enn] at *
  refine lv_astore (lv' := [(7, .ref nn), (0, .ref x), (1, .ref b9), (2, .int (nI 0)), (3, .ref sh), (4, .ref ge), (5, .ref me), (6, .ref pl)]) hx hb dL_build_4 hl (by decide) rfl (fun ls hl => ?_)
  refine lv_aload hx hb dL_build_6 (lv_at hl 0 rfl) ?_
  refine lv_iconst (v := 0) hx hb dL_build_8 (by decide) ?_
  refine lv_iconst (v := 2) hx hb dL_build_9 (by decide) ?_
  refine lv_aload_n hx hb dL_build_10 rfl (lv_at hl 2 rfl) ?_
  refine lv_iload_n hx hb dL_build_11 rfl (lv_at hl 3 rfl) ?_
  refine g_SiS (As := [.ref b9, .int (nI 0)]) (rest := [.int 2, .int 0, .ref nn]) F hP hS hX hbl hbA (k_L_cell l A G w2 b9 N9 xs hbA 0 (by omega) hN9) (va_cwS 2 hts gL_build_L_cell rfl rfl rfl cd_L_cell ⟨by rw [hR]; exact Nat.le_of_ble_eq_true rfl, by rw [hR]; exact Nat.le_of_ble_eq_true rfl⟩) rfl hl.1 (Nat.le_of_ble_eq_true rfl) dL_build_12 ⟨by rw [hR]; dsimp only; omega, by rw [hR]; dsimp only; omega⟩ rfl (fun r9 w10 H locs h11 hP hS => ?_)
  rw [h11] at hP
  refine lv_bipush (v := 7) hx hb dL_build_15 (by decide) ?_
  refine g_Si (As := [.int r9, .int 7]) (rest := [.int 2, .int 0, .ref nn]) F hP hS (k_L_below l A G w2 r9 7 (by omega) (by omega)) (va_cwS 2 hts gL_build_L_below rfl rfl rfl cd_L_below ⟨by rw [hR]; exact Nat.le_of_ble_eq_true rfl, by rw [hR]; exact Nat.le_of_ble_eq_true rfl⟩) rfl hl.1 (Nat.le_of_ble_eq_true rfl) dL_build_17 ⟨by rw [hR]; dsimp only; omega, by rw [hR]; dsimp only; omega⟩ rfl (fun r12 w13 H locs h14 hP hS => ?_)
  have hr12 := h14.1
  rw [h14.2] at hP
  rw [hr12]
  obtain ⟨b15, eb15⟩ : ∃ z, z = blw r9 7 := ⟨_, rfl⟩
  rw [← eb15]
  have k16 : b15 < 7 := by rw [eb15]; exact blw_lt _ (by omega)
  refine lv_iadd hx hb dL_build_20 ?_
  refine lv_topi (fun v17 ev17 => ?_)
  have hv17 : v17 = nI (2 + b15) := by
    rw [ev17]
    exact nI_add 2 b15
  rw [hv17]
  refine g_iast F hP hS f7 (by unfold vp_in; decide) dL_build_21 (fun H locs hP hS => ?_)
  rw [show (0 : Int32).toNatClampNeg = 0 from by decide] at hP
  obtain ⟨w18, ew18⟩ : ∃ z, z = g_up w2 nn (.inl (G.2.1 0, 6, .inl (upd (fun _ => 0) 0 (nI (2 + b15))))) := ⟨_, rfl⟩
  have hP : g_P A G w18 H := by rw [ew18]; exact hP
  have f19 : w18 sh = some (.inl (G.2.1 0, 30, .inl Fs0)) := by rw [ew18]; exact g_up_f f3 (dnnsh)
  have f20 : w18 ge = some (.inl (G.2.1 0, 80, .inl Fg0)) := by rw [ew18]; exact g_up_f f4 (dnnge)
  have f21 : w18 me = some (.inl (G.2.1 0, 32, .inl Fm0)) := by rw [ew18]; exact g_up_f f5 (dnnme)
  have f22 : w18 pl = some (.inl (G.2.1 0, 20, .inl Fp0)) := by rw [ew18]; exact g_up_f f6 (dnnpl)
  have f23 : w18 nn = some (.inl (G.2.1 0, 6, .inl (upd (fun _ => 0) 0 (nI (2 + b15))))) := by rw [ew18]; exact g_up_s _ _ _
  have hB24 := lwB_set hB8 (List.mem_of_getElem? (i := 0) rfl) ew18
  obtain ⟨n0, en0⟩ : ∃ z, z = 2 + b15 := ⟨_, rfl⟩
  obtain ⟨Fn1, eFn⟩ : ∃ f : Nat → Int32, f = upd (fun _ => 0) 0 (nI (2 + b15)) := ⟨_, rfl⟩
  rw [← eFn] at f23
  have hf0 : Fn1 0 = nI n0 := by rw [eFn, en0]; exact pk_us
  have hfz : ∀ i, i ≠ 0 → Fn1 i = 0 := fun i hi => by rw [eFn]; exact pk_un hi
  have hn0 : 2 ≤ n0 ∧ n0 ≤ 8 := by omega
  refine lv_iconst (v := 0) hx hb dL_build_22 (by decide) ?_
  refine lv_istore (lv' := [(8, .int 0), (7, .ref nn), (0, .ref x), (1, .ref b9), (2, .int (nI 0)), (3, .ref sh), (4, .ref ge), (5, .ref me), (6, .ref pl)]) hx hb dL_build_23 hl (by decide) rfl (fun ls hl => ?_)
  have L25 : ∀ (n : Nat) (k : Nat) (S : Sg) (Fs : Nat → Int32) (w : g_W) (H : Heap) (locs : List Loc) (ls : Array Slot), n0 + 1 ≤ k + n → (k ≤ n0) → (lwB G w x S [nn, sh, ge, me, pl]) → (S 0 0 = k ∧ S 0 1 = 0 ∧ S 0 2 = 0 ∧ S 0 3 = 0 ∧ S 0 4 = -1) → (arS S k Fs) → w nn = some (.inl (G.2.1 0, 6, .inl Fn1)) → w sh = some (.inl (G.2.1 0, 30, .inl Fs)) → w ge = some (.inl (G.2.1 0, 80, .inl Fg0)) → w me = some (.inl (G.2.1 0, 32, .inl Fm0)) → w pl = some (.inl (G.2.1 0, 20, .inl Fp0)) → g_P A G w H → va_S A s.heap H locs → lv_has ls 15 [(8, .int (nI k)), (7, .ref nn), (6, .ref pl), (5, .ref me), (4, .ref ge), (3, .ref sh), (2, .int (nI 0)), (1, .ref b9), (0, .ref x)] → W p l e R s m args below meth c H locs ((1 + 6 * k)) ((6 + 126 * k)) Q (F0 m 25 ls []) := by
    intro n
    induction n with
    | zero =>
      intro k S Fs w H locs ls hfu hk hB hz has hnn hsh hge hme hpl hP hS hl
      exact absurd hfu (by omega)
    | succ n ih_L25 =>
      intro k S Fs w H locs ls hfu hk hB hz has hnn hsh hge hme hpl hP hS hl
      refine lv_iload hx hb dL_build_25 (lv_at hl 0 rfl) ?_
      refine lv_aload hx hb dL_build_27 (lv_at hl 1 rfl) ?_
      refine lv_iconst (v := 0) hx hb dL_build_29 (by decide) ?_
      refine g_iald F hP hnn (by unfold vp_in; decide) dL_build_30 ?_
      refine lv_topi (fun v25 ev25 => ?_)
      have hv25 : v25 = nI n0 := by
        rw [ev25]
        rw [show (0 : Int32).toNatClampNeg = 0 from by decide]
        exact hf0
      rw [hv25]
      refine lv_icmp_ge (tgt := 168) hx hb dL_build_31 (by decide) (fun c26 => ?_) (fun c26 => ?_)
      · have zc26 : n0 ≤ k := (nI_leI (by omega) (by omega)).mp c26
        refine W.widen (k := 60) (n := 1100) (by omega) (by omega) ?_
        have ekn : k = n0 := by omega
        rw [ekn] at has hz
        obtain ⟨zz0, zz1, zz2, zz3, zz4⟩ := hz
        refine lv_aload hx hb dL_build_168 (lv_at hl 0 rfl) ?_
        refine lv_iconst (v := 1) hx hb dL_build_170 (by decide) ?_
        refine lv_aload_n hx hb dL_build_171 rfl (lv_at hl 6 rfl) ?_
        refine lv_iload_n hx hb dL_build_172 rfl (lv_at hl 5 rfl) ?_
        refine g_SiS (As := [.ref b9, .int (nI 0)]) (rest := [.int 1, .ref nn]) F hP hS hX hbl hbA (k_L_cell l A G w b9 N9 xs hbA 0 (by omega) hN9) (va_cwS 2 hts gL_build_L_cell rfl rfl rfl cd_L_cell ⟨by rw [hR]; exact Nat.le_of_ble_eq_true rfl, by rw [hR]; exact Nat.le_of_ble_eq_true rfl⟩) rfl hl.1 (Nat.le_of_ble_eq_true rfl) dL_build_173 ⟨by rw [hR]; dsimp only; omega, by rw [hR]; dsimp only; omega⟩ rfl (fun r27 w28 H locs h29 hP hS => ?_)
        rw [h29] at hP
        refine lv_iconst (v := 4) hx hb dL_build_176 (by decide) ?_
        refine lv_ishr hx hb dL_build_177 ?_
        refine lv_topi (fun v30 ev30 => ?_)
        refine lv_bipush (v := 13) hx hb dL_build_178 (by decide) ?_
        refine g_Si (As := [.int v30, .int 13]) (rest := [.int 1, .ref nn]) F hP hS (k_L_below l A G w v30 13 (by omega) (by omega)) (va_cwS 2 hts gL_build_L_below rfl rfl rfl cd_L_below ⟨by rw [hR]; exact Nat.le_of_ble_eq_true rfl, by rw [hR]; exact Nat.le_of_ble_eq_true rfl⟩) rfl hl.1 (Nat.le_of_ble_eq_true rfl) dL_build_180 ⟨by rw [hR]; dsimp only; omega, by rw [hR]; dsimp only; omega⟩ rfl (fun r31 w32 H locs h33 hP hS => ?_)
        have hr31 := h33.1
        rw [h33.2] at hP
        rw [hr31]
        obtain ⟨b34, eb34⟩ : ∃ z, z = blw v30 13 := ⟨_, rfl⟩
        rw [← eb34]
        have k35 : b34 < 13 := by rw [eb34]; exact blw_lt _ (by omega)
        refine g_iast F hP hS hnn (by unfold vp_in; decide) dL_build_183 (fun H locs hP hS => ?_)
        rw [show (1 : Int32).toNatClampNeg = 1 from by decide] at hP
        obtain ⟨w36, ew36⟩ : ∃ z, z = g_up w nn (.inl (G.2.1 0, 6, .inl (upd Fn1 1 (nI b34)))) := ⟨_, rfl⟩
        have hP : g_P A G w36 H := by rw [ew36]; exact hP
        have f37 : w36 sh = some (.inl (G.2.1 0, 30, .inl Fs)) := by rw [ew36]; exact g_up_f hsh (dnnsh)
        have f38 : w36 ge = some (.inl (G.2.1 0, 80, .inl Fg0)) := by rw [ew36]; exact g_up_f hge (dnnge)
        have f39 : w36 me = some (.inl (G.2.1 0, 32, .inl Fm0)) := by rw [ew36]; exact g_up_f hme (dnnme)
        have f40 : w36 pl = some (.inl (G.2.1 0, 20, .inl Fp0)) := by rw [ew36]; exact g_up_f hpl (dnnpl)
        have f41 : w36 nn = some (.inl (G.2.1 0, 6, .inl (upd Fn1 1 (nI b34)))) := by rw [ew36]; exact g_up_s _ _ _
        have hB42 := lwB_set hB (List.mem_of_getElem? (i := 0) rfl) ew36
        obtain ⟨n1, en1⟩ : ∃ z, z = b34 := ⟨_, rfl⟩
        obtain ⟨Fn2, eFn2⟩ : ∃ f : Nat → Int32, f = upd Fn1 1 (nI b34) := ⟨_, rfl⟩
        rw [← eFn2] at f41
        have hn1 : n1 ≤ 12 := by omega
        have hg0 : Fn2 0 = nI n0 := by rw [eFn2, pk_un (by decide)]; exact hf0
        have hg1 : Fn2 1 = nI n1 := by rw [eFn2, en1]; exact pk_us
        have hgz : ∀ i, 2 ≤ i → Fn2 i = 0 := fun i hi => by rw [eFn2, pk_un (by omega)]; exact hfz i (by omega)
        obtain ⟨Fs2, eFs2⟩ : ∃ f : Nat → Int32, f = Fs := ⟨_, rfl⟩
        rw [← eFs2] at has f37
        refine lv_iconst (v := 0) hx hb dL_build_184 (by decide) ?_
        refine lv_istore (lv' := [(8, .int 0), (7, .ref nn), (6, .ref pl), (5, .ref me), (4, .ref ge), (3, .ref sh), (2, .int (nI 0)), (1, .ref b9), (0, .ref x)]) hx hb dL_build_185 hl (by decide) rfl (fun ls hl => ?_)
        have L187 : ∀ (n : Nat) (k : Nat) (S : Sg) (Fg : Nat → Int32) (w : g_W) (H : Heap) (locs : List Loc) (ls : Array Slot), n1 + 1 ≤ k + n → (k ≤ n1) → (lwB G w x S [nn, sh, ge, me, pl]) → (S 0 0 = n0 ∧ S 0 1 = k ∧ S 0 2 = 0 ∧ S 0 3 = 0 ∧ S 0 4 = -1) → (arS S n0 Fs2) → (arG S k Fg) → w nn = some (.inl (G.2.1 0, 6, .inl Fn2)) → w sh = some (.inl (G.2.1 0, 30, .inl Fs2)) → w ge = some (.inl (G.2.1 0, 80, .inl Fg)) → w me = some (.inl (G.2.1 0, 32, .inl Fm0)) → w pl = some (.inl (G.2.1 0, 20, .inl Fp0)) → g_P A G w H → va_S A s.heap H locs → lv_has ls 15 [(8, .int (nI k)), (7, .ref nn), (6, .ref pl), (5, .ref me), (4, .ref ge), (3, .ref sh), (2, .int (nI 0)), (1, .ref b9), (0, .ref x)] → W p l e R s m args below meth c H locs ((60 + 3 * k)) ((1100 + 112 * k)) Q (F0 m 187 ls []) := by
          intro n
          induction n with
          | zero =>
            intro k S Fg w H locs ls hfu hk hB hz has hag hnn hsh hge hme hpl hP hS hl
            exact absurd hfu (by omega)
          | succ n ih_L187 =>
            intro k S Fg w H locs ls hfu hk hB hz has hag hnn hsh hge hme hpl hP hS hl
            refine lv_iload hx hb dL_build_187 (lv_at hl 0 rfl) ?_
            refine lv_aload hx hb dL_build_189 (lv_at hl 1 rfl) ?_
            refine lv_iconst (v := 1) hx hb dL_build_191 (by decide) ?_
            refine g_iald F hP hnn (by unfold vp_in; decide) dL_build_192 ?_
            refine lv_topi (fun v43 ev43 => ?_)
            have hv43 : v43 = nI n1 := by
              rw [ev43]
              rw [show (1 : Int32).toNatClampNeg = 1 from by decide]
              exact hg1
            rw [hv43]
            refine lv_icmp_ge (tgt := 390) hx hb dL_build_193 (by decide) (fun c44 => ?_) (fun c44 => ?_)
            · have zc44 : n1 ≤ k := (nI_leI (by omega) (by omega)).mp c44
              refine W.widen (k := 100) (n := 2500) (by omega) (by omega) ?_
              have ekn : k = n1 := by omega
              rw [ekn] at hag hz
              obtain ⟨zz0, zz1, zz2, zz3, zz4⟩ := hz
              obtain ⟨Fg2, eFg2⟩ : ∃ f : Nat → Int32, f = Fg := ⟨_, rfl⟩
              rw [← eFg2] at hag hge
              refine lv_iconst (v := 0) hx hb dL_build_390 (by decide) ?_
              refine lv_istore (lv' := [(8, .int 0), (7, .ref nn), (6, .ref pl), (5, .ref me), (4, .ref ge), (3, .ref sh), (2, .int (nI 0)), (1, .ref b9), (0, .ref x)]) hx hb dL_build_391 hl (by decide) rfl (fun ls hl => ?_)
              have L393 : ∀ (n : Nat) (k : Nat) (S : Sg) (Fm : Nat → Int32) (Fn : Nat → Int32) (c2 : Nat) (w : g_W) (H : Heap) (locs : List Loc) (ls : Array Slot), 25 ≤ k + n → (k ≤ 24) → (c2 ≤ 16) → (lwB G w x S [nn, sh, ge, me, pl]) → (S 0 0 = n0 ∧ S 0 1 = n1 ∧ S 0 2 = c2 ∧ S 0 3 = 0 ∧ S 0 4 = -1) → (Fn 0 = nI n0) → (Fn 1 = nI n1) → (Fn 2 = nI c2) → (Fn 3 = 0) → (arS S n0 Fs2) → (arG S n1 Fg2) → (arM S c2 Fm) → w nn = some (.inl (G.2.1 0, 6, .inl Fn)) → w sh = some (.inl (G.2.1 0, 30, .inl Fs2)) → w ge = some (.inl (G.2.1 0, 80, .inl Fg2)) → w me = some (.inl (G.2.1 0, 32, .inl Fm)) → w pl = some (.inl (G.2.1 0, 20, .inl Fp0)) → g_P A G w H → va_S A s.heap H locs → lv_has ls 15 [(8, .int (nI k)), (7, .ref nn), (6, .ref pl), (5, .ref me), (4, .ref ge), (3, .ref sh), (2, .int (nI 0)), (1, .ref b9), (0, .ref x)] → W p l e R s m args below meth c H locs ((100 + 10 * k)) ((2500 + 150 * k)) Q (F0 m 393 ls []) := by
                intro n
                induction n with
                | zero =>
                  intro k S Fm Fn c2 w H locs ls hfu hk hc2 hB hz hf0 hf1 hf2 hf3 has hag ham hnn hsh hge hme hpl hP hS hl
                  exact absurd hfu (by omega)
                | succ n ih_L393 =>
                  intro k S Fm Fn c2 w H locs ls hfu hk hc2 hB hz hf0 hf1 hf2 hf3 has hag ham hnn hsh hge hme hpl hP hS hl
                  have Hi := lwB_inv hB
                  refine lv_iload hx hb dL_build_393 (lv_at hl 0 rfl) ?_
                  refine lv_bipush (v := 24) hx hb dL_build_395 (by decide) ?_
                  refine lv_icmp_ge (tgt := 817) hx hb dL_build_397 (by decide) (fun c45 => ?_) (fun c45 => ?_)
                  · have zc45 : 24 ≤ k := (nI_leI (a := 24) (b := k) (by omega) (by omega)).mp c45
                    refine W.widen (k := 340) (n := 6100) (by omega) (by omega) ?_
                    obtain ⟨zz0, zz1, zz2, zz3, zz4⟩ := hz
                    obtain ⟨Fm2, eFm2⟩ : ∃ f : Nat → Int32, f = Fm := ⟨_, rfl⟩
                    rw [← eFm2] at ham hme
                    obtain ⟨m2, em2⟩ : ∃ z, z = c2 := ⟨_, rfl⟩
                    rw [← em2] at ham zz2 hf2
                    refine lv_aload_n hx hb dL_build_817 rfl (lv_at hl 6 rfl) ?_
                    refine lv_iload_n hx hb dL_build_818 rfl (lv_at hl 5 rfl) ?_
                    refine g_SiS (As := [.ref b9, .int (nI 0)]) (rest := []) F hP hS hX hbl hbA (k_L_cell l A G w b9 N9 xs hbA 0 (by omega) hN9) (va_cwS 2 hts gL_build_L_cell rfl rfl rfl cd_L_cell ⟨by rw [hR]; exact Nat.le_of_ble_eq_true rfl, by rw [hR]; exact Nat.le_of_ble_eq_true rfl⟩) rfl hl.1 (Nat.le_of_ble_eq_true rfl) dL_build_819 ⟨by rw [hR]; dsimp only; omega, by rw [hR]; dsimp only; omega⟩ rfl (fun r46 w47 H locs h48 hP hS => ?_)
                    rw [h48] at hP
                    refine lv_bipush (v := 8) hx hb dL_build_822 (by decide) ?_
                    refine lv_ishr hx hb dL_build_824 ?_
                    refine lv_topi (fun v49 ev49 => ?_)
                    refine lv_iconst (v := 4) hx hb dL_build_825 (by decide) ?_
                    refine g_Si (As := [.int v49, .int 4]) (rest := []) F hP hS (k_L_below l A G w v49 4 (by omega) (by omega)) (va_cwS 2 hts gL_build_L_below rfl rfl rfl cd_L_below ⟨by rw [hR]; exact Nat.le_of_ble_eq_true rfl, by rw [hR]; exact Nat.le_of_ble_eq_true rfl⟩) rfl hl.1 (Nat.le_of_ble_eq_true rfl) dL_build_826 ⟨by rw [hR]; dsimp only; omega, by rw [hR]; dsimp only; omega⟩ rfl (fun r50 w51 H locs h52 hP hS => ?_)
                    have hr50 := h52.1
                    rw [h52.2] at hP
                    rw [hr50]
                    obtain ⟨b53, eb53⟩ : ∃ z, z = blw v49 4 := ⟨_, rfl⟩
                    rw [← eb53]
                    have k54 : b53 < 4 := by rw [eb53]; exact blw_lt _ (by omega)
                    obtain ⟨tr, etr⟩ : ∃ z, z = b53 := ⟨_, rfl⟩
                    rw [← etr]
                    have htr : tr ≤ 3 := by omega
                    refine lv_istore (lv' := [(8, .int (nI tr)), (7, .ref nn), (6, .ref pl), (5, .ref me), (4, .ref ge), (3, .ref sh), (2, .int (nI 0)), (1, .ref b9), (0, .ref x)]) hx hb dL_build_829 hl (by decide) rfl (fun ls hl => ?_)
                    refine lv_iconst (v := 0) hx hb dL_build_831 (by decide) ?_
                    refine lv_istore (lv' := [(9, .int 0), (8, .int (nI tr)), (7, .ref nn), (6, .ref pl), (5, .ref me), (4, .ref ge), (3, .ref sh), (2, .int (nI 0)), (1, .ref b9), (0, .ref x)]) hx hb dL_build_832 hl (by decide) rfl (fun ls hl => ?_)
                    have L834 : ∀ (n : Nat) (k : Nat) (S : Sg) (Fp : Nat → Int32) (Fn : Nat → Int32) (w : g_W) (H : Heap) (locs : List Loc) (ls : Array Slot), tr + 1 ≤ k + n → (k ≤ tr) → (lwB G w x S [nn, sh, ge, me, pl]) → (S 0 0 = n0 ∧ S 0 1 = n1 ∧ S 0 2 = m2 ∧ S 0 3 = k ∧ S 0 4 = -1) → (Fn 0 = nI n0) → (Fn 1 = nI n1) → (Fn 2 = nI m2) → (Fn 3 = nI k) → (arS S n0 Fs2) → (arG S n1 Fg2) → (arM S m2 Fm2) → (arP S k Fp) → w nn = some (.inl (G.2.1 0, 6, .inl Fn)) → w sh = some (.inl (G.2.1 0, 30, .inl Fs2)) → w ge = some (.inl (G.2.1 0, 80, .inl Fg2)) → w me = some (.inl (G.2.1 0, 32, .inl Fm2)) → w pl = some (.inl (G.2.1 0, 20, .inl Fp)) → g_P A G w H → va_S A s.heap H locs → lv_has ls 15 [(9, .int (nI k)), (8, .int (nI tr)), (7, .ref nn), (6, .ref pl), (5, .ref me), (4, .ref ge), (3, .ref sh), (2, .int (nI 0)), (1, .ref b9), (0, .ref x)] → W p l e R s m args below meth c H locs ((340 + 11 * k)) ((6100 + 150 * k)) Q (F0 m 834 ls []) := by
                      intro n
                      induction n with
                      | zero =>
                        intro k S Fp Fn w H locs ls hfu hk hB hz hf0 hf1 hf2 hf3 has hag ham hap hnn hsh hge hme hpl hP hS hl
                        exact absurd hfu (by omega)
                      | succ n ih_L834 =>
                        intro k S Fp Fn w H locs ls hfu hk hB hz hf0 hf1 hf2 hf3 has hag ham hap hnn hsh hge hme hpl hP hS hl
                        refine lv_iload hx hb dL_build_834 (lv_at hl 0 rfl) ?_
                        refine lv_iload hx hb dL_build_836 (lv_at hl 1 rfl) ?_
                        refine lv_icmp_ge (tgt := 1033) hx hb dL_build_838 (by decide) (fun c55 => ?_) (fun c55 => ?_)
                        · have zc55 : tr ≤ k := (nI_leI (by omega) (by omega)).mp c55
                          refine W.widen (k := 380) (n := 6600) (by omega) (by omega) ?_
                          refine lv_aload hx hb dL_build_1033 (lv_at hl 0 rfl) ?_
                          refine lv_iconst (v := 4) hx hb dL_build_1035 (by decide) ?_
                          refine lv_iconst (v := (-1)) hx hb dL_build_1036 (by decide) ?_
                          refine g_iast F hP hS hnn (by unfold vp_in; decide) dL_build_1037 (fun H locs hP hS => ?_)
                          rw [show (4 : Int32).toNatClampNeg = 4 from by decide] at hP
                          obtain ⟨w56, ew56⟩ : ∃ z, z = g_up w nn (.inl (G.2.1 0, 6, .inl (upd Fn 4 (-1)))) := ⟨_, rfl⟩
                          have hP : g_P A G w56 H := by rw [ew56]; exact hP
                          have f57 : w56 sh = some (.inl (G.2.1 0, 30, .inl Fs2)) := by rw [ew56]; exact g_up_f hsh (dnnsh)
                          have f58 : w56 ge = some (.inl (G.2.1 0, 80, .inl Fg2)) := by rw [ew56]; exact g_up_f hge (dnnge)
                          have f59 : w56 me = some (.inl (G.2.1 0, 32, .inl Fm2)) := by rw [ew56]; exact g_up_f hme (dnnme)
                          have f60 : w56 pl = some (.inl (G.2.1 0, 20, .inl Fp)) := by rw [ew56]; exact g_up_f hpl (dnnpl)
                          have f61 : w56 nn = some (.inl (G.2.1 0, 6, .inl (upd Fn 4 (-1)))) := by rw [ew56]; exact g_up_s _ _ _
                          have hB62 := lwB_set hB (List.mem_of_getElem? (i := 0) rfl) ew56
                          refine lv_aload_n hx hb dL_build_1038 rfl (lv_at hl 6 rfl) ?_
                          refine lv_iload_n hx hb dL_build_1039 rfl (lv_at hl 5 rfl) ?_
                          refine g_SiS (As := [.ref b9, .int (nI 0)]) (rest := []) F hP hS hX hbl hbA (k_L_cell l A G w56 b9 N9 xs hbA 0 (by omega) hN9) (va_cwS 2 hts gL_build_L_cell rfl rfl rfl cd_L_cell ⟨by rw [hR]; exact Nat.le_of_ble_eq_true rfl, by rw [hR]; exact Nat.le_of_ble_eq_true rfl⟩) rfl hl.1 (Nat.le_of_ble_eq_true rfl) dL_build_1040 ⟨by rw [hR]; dsimp only; omega, by rw [hR]; dsimp only; omega⟩ rfl (fun r63 w64 H locs h65 hP hS => ?_)
                          rw [h65] at hP
                          refine lv_bipush (v := 11) hx hb dL_build_1043 (by decide) ?_
                          refine lv_ishr hx hb dL_build_1045 ?_
                          refine lv_topi (fun v66 ev66 => ?_)
                          refine lv_iconst (v := 5) hx hb dL_build_1046 (by decide) ?_
                          refine g_Si (As := [.int v66, .int 5]) (rest := []) F hP hS (k_L_below l A G w56 v66 5 (by omega) (by omega)) (va_cwS 2 hts gL_build_L_below rfl rfl rfl cd_L_below ⟨by rw [hR]; exact Nat.le_of_ble_eq_true rfl, by rw [hR]; exact Nat.le_of_ble_eq_true rfl⟩) rfl hl.1 (Nat.le_of_ble_eq_true rfl) dL_build_1047 ⟨by rw [hR]; dsimp only; omega, by rw [hR]; dsimp only; omega⟩ rfl (fun r67 w68 H locs h69 hP hS => ?_)
                          have hr67 := h69.1
                          rw [h69.2] at hP
                          rw [hr67]
                          obtain ⟨b70, eb70⟩ : ∃ z, z = blw v66 5 := ⟨_, rfl⟩
                          rw [← eb70]
                          have k71 : b70 < 5 := by rw [eb70]; exact blw_lt _ (by omega)
                          refine lv_if_le (tgt := 1122) hx hb dL_build_1050 (by decide) (fun c72 => ?_) (fun c72 => ?_)
                          · have fin : bldP S Fs2 Fg2 Fm2 Fp (upd Fn 4 (-1)) := by
                              have q0 : (S 0 0).toNat = n0 := by omega
                              have q1 : (S 0 1).toNat = n1 := by omega
                              have q2 : (S 0 2).toNat = m2 := by omega
                              have q3 : (S 0 3).toNat = k := by omega
                              refine ⟨by omega, ⟨?_, ?_, ?_, ?_, fun q => by omega⟩, by rw [q0]; exact has, by rw [q1]; exact hag, by rw [q2]; exact ham, by rw [q3]; exact hap⟩
                              · rw [pk_un (by decide), hf0]; exact (iL_nat (by omega)).symm
                              · rw [pk_un (by decide), hf2]; exact (iL_nat (by omega)).symm
                              · rw [pk_un (by decide), hf3]; exact (iL_nat (by omega)).symm
                              · rw [pk_us, show S 0 4 = -1 by omega]; rfl
                            have zc : ∀ i : Nat, i < 4 → (upd Fn 4 (-1)) i = iL (S 0 i) := fun i hi => by
                              rcases (show i = 0 ∨ i = 1 ∨ i = 2 ∨ i = 3 by omega) with rfl | rfl | rfl | rfl
                              · exact fin.2.1.1
                              · rw [pk_un (by decide), hf1]; exact (iL_nat (by omega)).symm
                              · exact fin.2.1.2.1
                              · exact fin.2.1.2.2.1
                            refine W.widen (k := 390) (n := 6700) (by omega) (by omega) ?_
                            obtain ⟨S9, eS9⟩ : ∃ z, z = S := ⟨_, rfl⟩
                            rw [← eS9] at fin zc hB62
                            obtain ⟨Fs9, eFs9⟩ : ∃ z : Nat → Int32, z = Fs2 := ⟨_, rfl⟩
                            rw [← eFs9] at fin f57
                            obtain ⟨Fn9, eFn9⟩ : ∃ z : Nat → Int32, z = upd Fn 4 (-1) := ⟨_, rfl⟩
                            rw [← eFn9] at fin zc f61
                            refine lv_iconst (v := 0) hx hb dL_build_1122 (by decide) ?_
                            refine lv_istore (lv' := [(9, .int 0), (7, .ref nn), (6, .ref pl), (5, .ref me), (4, .ref ge), (3, .ref sh), (2, .int (nI 0)), (1, .ref b9), (0, .ref x)]) hx hb dL_build_1123 hl (by decide) rfl (fun ls hl => ?_)
                            have L1125 : ∀ (n : Nat) (i : Nat) (H : Heap) (locs : List Loc) (ls : Array Slot), 5 ≤ i + n → (i ≤ 4) → g_P A G w56 H → va_S A s.heap H locs → lv_has ls 15 [(9, .int (nI i)), (7, .ref nn), (6, .ref pl), (5, .ref me), (4, .ref ge), (3, .ref sh), (2, .int (nI 0)), (1, .ref b9), (0, .ref x)] → W p l e R s m args below meth c H locs ((390 + i)) ((6700 + 6 * i)) Q (F0 m 1125 ls []) := by
                              intro n
                              induction n with
                              | zero =>
                                intro i H locs ls hfu hi4 hP hS hl
                                exact absurd hfu (by omega)
                              | succ n ih_L1125 =>
                                intro i H locs ls hfu hi4 hP hS hl
                                refine lv_iload hx hb dL_build_1125 (lv_at hl 0 rfl) ?_
                                refine lv_iconst (v := 4) hx hb dL_build_1127 (by decide) ?_
                                refine lv_icmp_ge (tgt := 1153) hx hb dL_build_1128 (by decide) (fun c73 => ?_) (fun c73 => ?_)
                                · have zc73 : 4 ≤ i := (nI_leI (a := 4) (b := i) (by omega) (by omega)).mp c73
                                  refine lv_aload hx hb dL_build_1153 (lv_at hl 1 rfl) ?_
                                  rw [hQ]
                                  refine g_xaret (r := (some nn)) F hP hS hlocks hr (by first | exact Or.inl ⟨_, rfl⟩ | exact Or.inr ⟨_, rfl⟩) dL_build_1155 (by first | exact Nat.le_of_ble_eq_true rfl | omega) (by first | exact Nat.le_of_ble_eq_true rfl | omega) ?_
                                  exact ⟨nn, S9, Fs9, Fg2, Fm2, Fp, Fn9, rfl, hB62, ⟨f57, f58, f59, f60, f61⟩, fin⟩
                                · have hin : i < 4 := Nat.not_le.mp (fun q => c73 (nI_le (a := 4) q (by omega)))
                                  refine lv_aload_n hx hb dL_build_1131 rfl (lv_at hl 8 rfl) ?_
                                  refine lv_iload hx hb dL_build_1132 (lv_at hl 0 rfl) ?_
                                  have ti := nI_i i (by omega)
                                  obtain ⟨ad, Cn, T, h00, hBn, hLn⟩ := id hB62
                                  have hCo := k_X6_count l hlt A G w56 ad Cn S9 T (nI i) hBn.1 hBn.2.1 hBn.2.2.1
                                  rw [h00] at hCo
                                  have hx0 := rep_x hBn.1 hBn.2.1
                                  rw [h00] at hx0
                                  refine g_cVi (As := [.int (nI i)]) (rest := []) F hP hS hCo (cwV 1 hts gL_build_X6_count rfl rfl rfl cd_X6_count ⟨by rw [hR]; exact Nat.le_of_ble_eq_true rfl, by rw [hR]; exact Nat.le_of_ble_eq_true rfl⟩) hx0 rfl rfl rfl hl.1 (Nat.le_of_ble_eq_true rfl) dL_build_1134 ⟨by rw [hR]; dsimp only; omega, by rw [hR]; dsimp only; omega⟩ rfl (fun E w9 ce q9 H locs hpx hP hS hce hcv hcl => ?_) (fun r74 w75 H locs h76 hP hS => ?_)
                                  · have hcd := (show cdCount (nI i) = 0 from if_pos ⟨by omega, by omega⟩)
                                    obtain ⟨_, q⟩ := hpx.2
                                    exact absurd (hcd.symm.trans q) (by decide)
                                  · obtain ⟨hc0, er, ew⟩ := h76
                                    rw [ew] at hP
                                    rw [er]
                                    unfold vlCount
                                    rw [kN_n (k := i) (by omega)]
                                    refine lv_aload hx hb dL_build_1137 (lv_at hl 1 rfl) ?_
                                    refine lv_iload hx hb dL_build_1139 (lv_at hl 0 rfl) ?_
                                    refine g_iald F hP f61 (vp_in_nI (by omega) (by omega)) dL_build_1141 ?_
                                    refine lv_topi (fun v77 ev77 => ?_)
                                    have hv77 : v77 = iL (S9 0 i) := by
                                      rw [ev77]
                                      rw [nI_clamp (n := i) (by omega)]
                                      exact zc i hin
                                    rw [hv77]
                                    refine lv_icmp_eq (tgt := 1147) hx hb dL_build_1142 (by decide) (fun c78 => ?_) (fun c78 => ?_)
                                    · refine W.widen (k := 390 + (i + 1)) (n := 6700 + 6 * (i + 1)) (by omega) (by omega) ?_
                                      obtain ⟨i79, ei79⟩ : ∃ y : Int32, y = nI i + (1) := ⟨_, rfl⟩
                                      refine lv_iinc (v := i79) (lv' := [(9, .int i79), (7, .ref nn), (6, .ref pl), (5, .ref me), (4, .ref ge), (3, .ref sh), (2, .int (nI 0)), (1, .ref b9), (0, .ref x)]) hx hb dL_build_1147 hl (k := 0) rfl (by rw [ei79]; rfl) (by decide) rfl (fun ls hl => ?_)
                                      have hi79 : i79 = nI (i + 1) := by
                                        rw [ei79]
                                        exact nI_1 i
                                      rw [hi79]
                                      refine lv_goto (tgt := 1125) hx hb dL_build_1150 (by decide) ?_
                                      exact ih_L1125 (i + 1)  H locs ls (by omega) (by omega) hP hS (lv_sub hl [0, 1, 2, 3, 4, 5, 6, 7, 8] rfl)
                                    · exact absurd rfl c78
                            exact L1125 5 0  H locs ls (by omega) (by omega) hP hS (lv_sub hl [0, 1, 2, 3, 4, 5, 6, 7, 8] rfl)
                          · refine lv_aload hx hb dL_build_1053 (lv_at hl 0 rfl) ?_
                            refine lv_iconst (v := 4) hx hb dL_build_1055 (by decide) ?_
                            refine lv_aload_n hx hb dL_build_1056 rfl (lv_at hl 6 rfl) ?_
                            refine lv_iload_n hx hb dL_build_1057 rfl (lv_at hl 5 rfl) ?_
                            refine g_SiS (As := [.ref b9, .int (nI 0)]) (rest := [.int 4, .ref nn]) F hP hS hX hbl hbA (k_L_cell l A G w56 b9 N9 xs hbA 0 (by omega) hN9) (va_cwS 2 hts gL_build_L_cell rfl rfl rfl cd_L_cell ⟨by rw [hR]; exact Nat.le_of_ble_eq_true rfl, by rw [hR]; exact Nat.le_of_ble_eq_true rfl⟩) rfl hl.1 (Nat.le_of_ble_eq_true rfl) dL_build_1058 ⟨by rw [hR]; dsimp only; omega, by rw [hR]; dsimp only; omega⟩ rfl (fun r80 w81 H locs h82 hP hS => ?_)
                            rw [h82] at hP
                            refine lv_bipush (v := 12) hx hb dL_build_1061 (by decide) ?_
                            refine lv_ishr hx hb dL_build_1063 ?_
                            refine lv_topi (fun v83 ev83 => ?_)
                            refine lv_aload hx hb dL_build_1064 (lv_at hl 0 rfl) ?_
                            refine lv_iconst (v := 0) hx hb dL_build_1066 (by decide) ?_
                            refine g_iald F hP f61 (by unfold vp_in; decide) dL_build_1067 ?_
                            refine lv_topi (fun v84 ev84 => ?_)
                            have hv84 : v84 = nI n0 := by
                              rw [ev84]
                              rw [show (0 : Int32).toNatClampNeg = 0 from by decide]
                              exact (pk_un (k := 4) (j := 0) (by omega)).trans (hf0)
                            rw [hv84]
                            refine g_Si (As := [.int v83, .int (nI n0)]) (rest := [.int 4, .ref nn]) F hP hS (k_L_below l A G w56 v83 n0 (by omega) (by omega)) (va_cwS 2 hts gL_build_L_below rfl rfl rfl cd_L_below ⟨by rw [hR]; exact Nat.le_of_ble_eq_true rfl, by rw [hR]; exact Nat.le_of_ble_eq_true rfl⟩) rfl hl.1 (Nat.le_of_ble_eq_true rfl) dL_build_1068 ⟨by rw [hR]; dsimp only; omega, by rw [hR]; dsimp only; omega⟩ rfl (fun r85 w86 H locs h87 hP hS => ?_)
                            have hr85 := h87.1
                            rw [h87.2] at hP
                            rw [hr85]
                            obtain ⟨b88, eb88⟩ : ∃ z, z = blw v83 n0 := ⟨_, rfl⟩
                            rw [← eb88]
                            have k89 : b88 < n0 := by rw [eb88]; exact blw_lt _ (by omega)
                            refine g_iast F hP hS f61 (by unfold vp_in; decide) dL_build_1071 (fun H locs hP hS => ?_)
                            rw [show (4 : Int32).toNatClampNeg = 4 from by decide] at hP
                            obtain ⟨w90, ew90⟩ : ∃ z, z = g_up w56 nn (.inl (G.2.1 0, 6, .inl (upd (upd Fn 4 (-1)) 4 (nI b88)))) := ⟨_, rfl⟩
                            have hP : g_P A G w90 H := by rw [ew90]; exact hP
                            have f91 : w90 sh = some (.inl (G.2.1 0, 30, .inl Fs2)) := by rw [ew90]; exact g_up_f f57 (dnnsh)
                            have f92 : w90 ge = some (.inl (G.2.1 0, 80, .inl Fg2)) := by rw [ew90]; exact g_up_f f58 (dnnge)
                            have f93 : w90 me = some (.inl (G.2.1 0, 32, .inl Fm2)) := by rw [ew90]; exact g_up_f f59 (dnnme)
                            have f94 : w90 pl = some (.inl (G.2.1 0, 20, .inl Fp)) := by rw [ew90]; exact g_up_f f60 (dnnpl)
                            have f95 : w90 nn = some (.inl (G.2.1 0, 6, .inl (upd (upd Fn 4 (-1)) 4 (nI b88)))) := by rw [ew90]; exact g_up_s _ _ _
                            have hB96 := lwB_set hB62 (List.mem_of_getElem? (i := 0) rfl) ew90
                            refine lv_aload hx hb dL_build_1072 (lv_at hl 0 rfl) ?_
                            refine lv_iconst (v := 5) hx hb dL_build_1074 (by decide) ?_
                            refine lv_aload_n hx hb dL_build_1075 rfl (lv_at hl 6 rfl) ?_
                            refine lv_iload_n hx hb dL_build_1076 rfl (lv_at hl 5 rfl) ?_
                            refine g_SiS (As := [.ref b9, .int (nI 0)]) (rest := [.int 5, .ref nn]) F hP hS hX hbl hbA (k_L_cell l A G w90 b9 N9 xs hbA 0 (by omega) hN9) (va_cwS 2 hts gL_build_L_cell rfl rfl rfl cd_L_cell ⟨by rw [hR]; exact Nat.le_of_ble_eq_true rfl, by rw [hR]; exact Nat.le_of_ble_eq_true rfl⟩) rfl hl.1 (Nat.le_of_ble_eq_true rfl) dL_build_1077 ⟨by rw [hR]; dsimp only; omega, by rw [hR]; dsimp only; omega⟩ rfl (fun r97 w98 H locs h99 hP hS => ?_)
                            rw [h99] at hP
                            refine lv_bipush (v := 14) hx hb dL_build_1080 (by decide) ?_
                            refine lv_ishr hx hb dL_build_1082 ?_
                            refine lv_topi (fun v100 ev100 => ?_)
                            refine lv_sipush (v := 201) hx hb dL_build_1083 (by decide) ?_
                            refine g_Si (As := [.int v100, .int 201]) (rest := [.int 5, .ref nn]) F hP hS (k_L_below l A G w90 v100 201 (by omega) (by omega)) (va_cwS 2 hts gL_build_L_below rfl rfl rfl cd_L_below ⟨by rw [hR]; exact Nat.le_of_ble_eq_true rfl, by rw [hR]; exact Nat.le_of_ble_eq_true rfl⟩) rfl hl.1 (Nat.le_of_ble_eq_true rfl) dL_build_1086 ⟨by rw [hR]; dsimp only; omega, by rw [hR]; dsimp only; omega⟩ rfl (fun r101 w102 H locs h103 hP hS => ?_)
                            have hr101 := h103.1
                            rw [h103.2] at hP
                            rw [hr101]
                            obtain ⟨b104, eb104⟩ : ∃ z, z = blw v100 201 := ⟨_, rfl⟩
                            rw [← eb104]
                            have k105 : b104 < 201 := by rw [eb104]; exact blw_lt _ (by omega)
                            refine lv_bipush (v := 100) hx hb dL_build_1089 (by decide) ?_
                            refine lv_isub hx hb dL_build_1091 ?_
                            refine lv_topi (fun v106 ev106 => ?_)
                            have hv106 : v106 = iL (((b104 : Nat) : Int) - 100) := by
                              rw [ev106]
                              rw [← iL_n]; exact iL_sub _ 100
                            rw [hv106]
                            refine g_iast F hP hS f95 (by unfold vp_in; decide) dL_build_1092 (fun H locs hP hS => ?_)
                            rw [show (5 : Int32).toNatClampNeg = 5 from by decide] at hP
                            obtain ⟨w107, ew107⟩ : ∃ z, z = g_up w90 nn (.inl (G.2.1 0, 6, .inl (upd (upd (upd Fn 4 (-1)) 4 (nI b88)) 5 (iL (((b104 : Nat) : Int) - 100))))) := ⟨_, rfl⟩
                            have hP : g_P A G w107 H := by rw [ew107]; exact hP
                            have f108 : w107 sh = some (.inl (G.2.1 0, 30, .inl Fs2)) := by rw [ew107]; exact g_up_f f91 (dnnsh)
                            have f109 : w107 ge = some (.inl (G.2.1 0, 80, .inl Fg2)) := by rw [ew107]; exact g_up_f f92 (dnnge)
                            have f110 : w107 me = some (.inl (G.2.1 0, 32, .inl Fm2)) := by rw [ew107]; exact g_up_f f93 (dnnme)
                            have f111 : w107 pl = some (.inl (G.2.1 0, 20, .inl Fp)) := by rw [ew107]; exact g_up_f f94 (dnnpl)
                            have f112 : w107 nn = some (.inl (G.2.1 0, 6, .inl (upd (upd (upd Fn 4 (-1)) 4 (nI b88)) 5 (iL (((b104 : Nat) : Int) - 100))))) := by rw [ew107]; exact g_up_s _ _ _
                            have hB113 := lwB_set hB96 (List.mem_of_getElem? (i := 0) rfl) ew107
                            refine lv_aload_n hx hb dL_build_1093 rfl (lv_at hl 4 rfl) ?_
                            refine lv_iconst (v := 3) hx hb dL_build_1094 (by decide) ?_
                            refine lv_aload hx hb dL_build_1095 (lv_at hl 0 rfl) ?_
                            refine lv_iconst (v := 4) hx hb dL_build_1097 (by decide) ?_
                            refine g_iald F hP f112 (by unfold vp_in; decide) dL_build_1098 ?_
                            refine lv_topi (fun v114 ev114 => ?_)
                            have hv114 : v114 = nI b88 := by
                              rw [ev114]
                              rw [show (4 : Int32).toNatClampNeg = 4 from by decide]
                              exact (pk_un (k := 5) (j := 4) (by omega)).trans (pk_us)
                            rw [hv114]
                            refine lv_imul hx hb dL_build_1099 ?_
                            refine lv_topi (fun v115 ev115 => ?_)
                            have hv115 : v115 = nI (3 * b88) := by
                              rw [ev115]
                              exact pk_mul 3 b88
                            rw [hv115]
                            refine lv_iconst (v := 2) hx hb dL_build_1100 (by decide) ?_
                            refine lv_iadd hx hb dL_build_1101 ?_
                            refine lv_topi (fun v116 ev116 => ?_)
                            have hv116 : v116 = nI ((3 * b88) + 2) := by
                              rw [ev116]
                              exact nI_add (3 * b88) 2
                            rw [hv116]
                            refine lv_iconst (v := 0) hx hb dL_build_1102 (by decide) ?_
                            refine g_iast F hP hS f108 (vp_in_nI (by omega) (by omega)) dL_build_1103 (fun H locs hP hS => ?_)
                            rw [nI_clamp (n := (3 * b88) + 2) (by omega)] at hP
                            obtain ⟨w117, ew117⟩ : ∃ z, z = g_up w107 sh (.inl (G.2.1 0, 30, .inl (upd Fs2 ((3 * b88) + 2) 0))) := ⟨_, rfl⟩
                            have hP : g_P A G w117 H := by rw [ew117]; exact hP
                            have f118 : w117 ge = some (.inl (G.2.1 0, 80, .inl Fg2)) := by rw [ew117]; exact g_up_f f109 (Ne.symm (dshge))
                            have f119 : w117 me = some (.inl (G.2.1 0, 32, .inl Fm2)) := by rw [ew117]; exact g_up_f f110 (Ne.symm (dshme))
                            have f120 : w117 pl = some (.inl (G.2.1 0, 20, .inl Fp)) := by rw [ew117]; exact g_up_f f111 (Ne.symm (dshpl))
                            have f121 : w117 nn = some (.inl (G.2.1 0, 6, .inl (upd (upd (upd Fn 4 (-1)) 4 (nI b88)) 5 (iL (((b104 : Nat) : Int) - 100))))) := by rw [ew117]; exact g_up_f f112 (Ne.symm (dnnsh))
                            have f122 : w117 sh = some (.inl (G.2.1 0, 30, .inl (upd Fs2 ((3 * b88) + 2) 0))) := by rw [ew117]; exact g_up_s _ _ _
                            have hB123 := lwB_set hB113 (List.mem_of_getElem? (i := 1) rfl) ew117
                            refine lv_aload_n hx hb dL_build_1104 rfl (lv_at hl 7 rfl) ?_
                            refine lv_aload hx hb dL_build_1105 (lv_at hl 0 rfl) ?_
                            refine lv_iconst (v := 4) hx hb dL_build_1107 (by decide) ?_
                            refine g_iald F hP f121 (by unfold vp_in; decide) dL_build_1108 ?_
                            refine lv_topi (fun v124 ev124 => ?_)
                            have hv124 : v124 = nI b88 := by
                              rw [ev124]
                              rw [show (4 : Int32).toNatClampNeg = 4 from by decide]
                              exact (pk_un (k := 5) (j := 4) (by omega)).trans (pk_us)
                            rw [hv124]
                            refine lv_aload hx hb dL_build_1109 (lv_at hl 0 rfl) ?_
                            refine lv_iconst (v := 5) hx hb dL_build_1111 (by decide) ?_
                            refine g_iald F hP f121 (by unfold vp_in; decide) dL_build_1112 ?_
                            refine lv_topi (fun v125 ev125 => ?_)
                            have hv125 : v125 = iL (((b104 : Nat) : Int) - 100) := by
                              rw [ev125]
                              rw [show (5 : Int32).toNatClampNeg = 5 from by decide]
                              exact pk_us
                            rw [hv125]
                            have t1 := nI_i b88 (by omega)
                            have t2 : (iL (((b104 : Nat) : Int) - 100)).toInt = ((b104 : Nat) : Int) - 100 := iL_t (by omega) (by omega)
                            have k1 := kN_n (k := b88) (by omega)
                            obtain ⟨ad, Cn, T, h00, hBn, hLn⟩ := id hB123
                            have hCo := k_X6_drive l hlt A G w117 ad Cn S T (nI b88) (iL (((b104 : Nat) : Int) - 100)) hBn.1 hBn.2.1 hBn.2.2.1 hBn.2.2.2.1 hBn.2.2.2.2
                            rw [h00] at hCo
                            have hx0 := rep_x hBn.1 hBn.2.1
                            rw [h00] at hx0
                            refine g_cVi (As := [.int (nI b88), .int (iL (((b104 : Nat) : Int) - 100))]) (rest := []) F hP hS hCo (cwV 2 hts gL_build_X6_drive rfl rfl rfl cd_X6_drive ⟨by rw [hR]; exact Nat.le_of_ble_eq_true rfl, by rw [hR]; exact Nat.le_of_ble_eq_true rfl⟩) hx0 rfl rfl rfl hl.1 (Nat.le_of_ble_eq_true rfl) dL_build_1113 ⟨by rw [hR]; dsimp only; omega, by rw [hR]; dsimp only; omega⟩ rfl (fun E w9 ce q9 H locs hpx hP hS hce hcv hcl => ?_) (fun r126 w127 H locs h128 hP hS => ?_)
                            · have hcd := (show cdDrive S (nI b88) (iL (((b104 : Nat) : Int) - 100)) = 0 from (if_pos ⟨by omega, by omega⟩).trans (if_pos ⟨by rw [t2]; omega, by rw [t2]; omega⟩))
                              rcases hpx.2 with ⟨_, q⟩ | ⟨_, q⟩ <;> exact absurd (hcd.symm.trans q) (by decide)
                            · obtain ⟨hc0, er, hAf⟩ := h128
                              obtain ⟨S129, eS129⟩ : ∃ z, z = nxDrive S (nI b88) (iL (((b104 : Nat) : Int) - 100)) := ⟨_, rfl⟩
                              rw [← eS129] at hAf
                              obtain ⟨hB130, kp131⟩ := lwB_aft h00 hLn hAf
                              have f132 : w127 ge = some (.inl (G.2.1 0, 80, .inl Fg2)) := (kp131 ge (List.mem_of_getElem? (i := 2) rfl)).trans f118
                              have f133 : w127 me = some (.inl (G.2.1 0, 32, .inl Fm2)) := (kp131 me (List.mem_of_getElem? (i := 3) rfl)).trans f119
                              have f134 : w127 pl = some (.inl (G.2.1 0, 20, .inl Fp)) := (kp131 pl (List.mem_of_getElem? (i := 4) rfl)).trans f120
                              have f135 : w127 nn = some (.inl (G.2.1 0, 6, .inl (upd (upd (upd Fn 4 (-1)) 4 (nI b88)) 5 (iL (((b104 : Nat) : Int) - 100))))) := (kp131 nn (List.mem_of_getElem? (i := 0) rfl)).trans f121
                              have f136 : w127 sh = some (.inl (G.2.1 0, 30, .inl (upd Fs2 ((3 * b88) + 2) 0))) := (kp131 sh (List.mem_of_getElem? (i := 1) rfl)).trans f122
                              rw [er]
                              unfold vlDrive
                              rw [show iL (S 0 4) = -1 from by rw [show S 0 4 = -1 by omega]; rfl]
                              refine lv_iconst (v := (-1)) hx hb dL_build_1116 (by decide) ?_
                              refine lv_icmp_eq (tgt := 1122) hx hb dL_build_1117 (by decide) (fun c137 => ?_) (fun c137 => ?_)
                              · obtain ⟨a4, a5, a3, a30, a0, ao⟩ := nx_drive (by omega) eS129
                                rw [t2] at a5
                                have fin : bldP S129 (upd Fs2 ((3 * b88) + 2) 0) Fg2 Fm2 Fp (upd (upd (upd Fn 4 (-1)) 4 (nI b88)) 5 (iL (((b104 : Nat) : Int) - 100))) := by
                                  have q0 : (S129 0 0).toNat = n0 := by rw [a0 0 (by decide) (by decide)]; omega
                                  have q1 : (S129 0 1).toNat = n1 := by rw [a0 1 (by decide) (by decide)]; omega
                                  have q2 : (S129 0 2).toNat = m2 := by rw [a0 2 (by decide) (by decide)]; omega
                                  have q3 : (S129 0 3).toNat = k := by rw [a0 3 (by decide) (by decide)]; omega
                                  refine ⟨by rw [a0 0 (by decide) (by decide)]; omega, ⟨?_, ?_, ?_, ?_, fun _ => ?_⟩, ?_, by rw [q1]; exact arG_c hag (fun f j _ z1 z2 => ao f j (by omega) (by omega)), by rw [q2]; exact arM_c ham (fun f j _ z1 z2 => ao f j (by omega) (by omega)), by rw [q3]; exact arP_c hap (fun f j _ z1 z2 => ao f j (by omega) (by omega))⟩
                                  · rw [pk_un (by decide), pk_un (by decide), pk_un (by decide), hf0, a0 0 (by decide) (by decide)]; exact (iL_nat (by omega)).symm
                                  · rw [pk_un (by decide), pk_un (by decide), pk_un (by decide), hf2, a0 2 (by decide) (by decide)]; exact (iL_nat (by omega)).symm
                                  · rw [pk_un (by decide), pk_un (by decide), pk_un (by decide), hf3, a0 3 (by decide) (by decide)]; exact (iL_nat (by omega)).symm
                                  · rw [pk_un (by decide), pk_us, a4]; exact (iL_n _).symm
                                  · rw [pk_us, a5]
                                  · rw [q0]
                                    intro j hj
                                    by_cases z : j = b88
                                    · rw [z, pk_us, a3]; rfl
                                    · rw [pk_un (by omega), a30 j z]; exact has j hj
                                have zc : ∀ i : Nat, i < 4 → (upd (upd (upd Fn 4 (-1)) 4 (nI b88)) 5 (iL (((b104 : Nat) : Int) - 100))) i = iL (S129 0 i) := fun i hi => by
                                  rcases (show i = 0 ∨ i = 1 ∨ i = 2 ∨ i = 3 by omega) with rfl | rfl | rfl | rfl
                                  · exact fin.2.1.1
                                  · rw [pk_un (by decide), pk_un (by decide), pk_un (by decide), hf1, a0 1 (by decide) (by decide)]; exact (iL_nat (by omega)).symm
                                  · exact fin.2.1.2.1
                                  · exact fin.2.1.2.2.1
                                refine W.widen (k := 390) (n := 6700) (by omega) (by omega) ?_
                                obtain ⟨S9, eS9⟩ : ∃ z, z = S129 := ⟨_, rfl⟩
                                rw [← eS9] at fin zc hB130
                                obtain ⟨Fs9, eFs9⟩ : ∃ z : Nat → Int32, z = upd Fs2 ((3 * b88) + 2) 0 := ⟨_, rfl⟩
                                rw [← eFs9] at fin f136
                                obtain ⟨Fn9, eFn9⟩ : ∃ z : Nat → Int32, z = upd (upd (upd Fn 4 (-1)) 4 (nI b88)) 5 (iL (((b104 : Nat) : Int) - 100)) := ⟨_, rfl⟩
                                rw [← eFn9] at fin zc f135
                                refine lv_iconst (v := 0) hx hb dL_build_1122 (by decide) ?_
                                refine lv_istore (lv' := [(9, .int 0), (7, .ref nn), (6, .ref pl), (5, .ref me), (4, .ref ge), (3, .ref sh), (2, .int (nI 0)), (1, .ref b9), (0, .ref x)]) hx hb dL_build_1123 hl (by decide) rfl (fun ls hl => ?_)
                                have L1125 : ∀ (n : Nat) (i : Nat) (H : Heap) (locs : List Loc) (ls : Array Slot), 5 ≤ i + n → (i ≤ 4) → g_P A G w127 H → va_S A s.heap H locs → lv_has ls 15 [(9, .int (nI i)), (7, .ref nn), (6, .ref pl), (5, .ref me), (4, .ref ge), (3, .ref sh), (2, .int (nI 0)), (1, .ref b9), (0, .ref x)] → W p l e R s m args below meth c H locs ((390 + i)) ((6700 + 6 * i)) Q (F0 m 1125 ls []) := by
                                  intro n
                                  induction n with
                                  | zero =>
                                    intro i H locs ls hfu hi4 hP hS hl
                                    exact absurd hfu (by omega)
                                  | succ n ih_L1125 =>
                                    intro i H locs ls hfu hi4 hP hS hl
                                    refine lv_iload hx hb dL_build_1125 (lv_at hl 0 rfl) ?_
                                    refine lv_iconst (v := 4) hx hb dL_build_1127 (by decide) ?_
                                    refine lv_icmp_ge (tgt := 1153) hx hb dL_build_1128 (by decide) (fun c138 => ?_) (fun c138 => ?_)
                                    · have zc138 : 4 ≤ i := (nI_leI (a := 4) (b := i) (by omega) (by omega)).mp c138
                                      refine lv_aload hx hb dL_build_1153 (lv_at hl 1 rfl) ?_
                                      rw [hQ]
                                      refine g_xaret (r := (some nn)) F hP hS hlocks hr (by first | exact Or.inl ⟨_, rfl⟩ | exact Or.inr ⟨_, rfl⟩) dL_build_1155 (by first | exact Nat.le_of_ble_eq_true rfl | omega) (by first | exact Nat.le_of_ble_eq_true rfl | omega) ?_
                                      exact ⟨nn, S9, Fs9, Fg2, Fm2, Fp, Fn9, rfl, hB130, ⟨f136, f132, f133, f134, f135⟩, fin⟩
                                    · have hin : i < 4 := Nat.not_le.mp (fun q => c138 (nI_le (a := 4) q (by omega)))
                                      refine lv_aload_n hx hb dL_build_1131 rfl (lv_at hl 8 rfl) ?_
                                      refine lv_iload hx hb dL_build_1132 (lv_at hl 0 rfl) ?_
                                      have ti := nI_i i (by omega)
                                      obtain ⟨ad, Cn, T, h00, hBn, hLn⟩ := id hB130
                                      have hCo := k_X6_count l hlt A G w127 ad Cn S9 T (nI i) hBn.1 hBn.2.1 hBn.2.2.1
                                      rw [h00] at hCo
                                      have hx0 := rep_x hBn.1 hBn.2.1
                                      rw [h00] at hx0
                                      refine g_cVi (As := [.int (nI i)]) (rest := []) F hP hS hCo (cwV 1 hts gL_build_X6_count rfl rfl rfl cd_X6_count ⟨by rw [hR]; exact Nat.le_of_ble_eq_true rfl, by rw [hR]; exact Nat.le_of_ble_eq_true rfl⟩) hx0 rfl rfl rfl hl.1 (Nat.le_of_ble_eq_true rfl) dL_build_1134 ⟨by rw [hR]; dsimp only; omega, by rw [hR]; dsimp only; omega⟩ rfl (fun E w9 ce q9 H locs hpx hP hS hce hcv hcl => ?_) (fun r139 w140 H locs h141 hP hS => ?_)
                                      · have hcd := (show cdCount (nI i) = 0 from if_pos ⟨by omega, by omega⟩)
                                        obtain ⟨_, q⟩ := hpx.2
                                        exact absurd (hcd.symm.trans q) (by decide)
                                      · obtain ⟨hc0, er, ew⟩ := h141
                                        rw [ew] at hP
                                        rw [er]
                                        unfold vlCount
                                        rw [kN_n (k := i) (by omega)]
                                        refine lv_aload hx hb dL_build_1137 (lv_at hl 1 rfl) ?_
                                        refine lv_iload hx hb dL_build_1139 (lv_at hl 0 rfl) ?_
                                        refine g_iald F hP f135 (vp_in_nI (by omega) (by omega)) dL_build_1141 ?_
                                        refine lv_topi (fun v142 ev142 => ?_)
                                        have hv142 : v142 = iL (S9 0 i) := by
                                          rw [ev142]
                                          rw [nI_clamp (n := i) (by omega)]
                                          exact zc i hin
                                        rw [hv142]
                                        refine lv_icmp_eq (tgt := 1147) hx hb dL_build_1142 (by decide) (fun c143 => ?_) (fun c143 => ?_)
                                        · refine W.widen (k := 390 + (i + 1)) (n := 6700 + 6 * (i + 1)) (by omega) (by omega) ?_
                                          obtain ⟨i144, ei144⟩ : ∃ y : Int32, y = nI i + (1) := ⟨_, rfl⟩
                                          refine lv_iinc (v := i144) (lv' := [(9, .int i144), (7, .ref nn), (6, .ref pl), (5, .ref me), (4, .ref ge), (3, .ref sh), (2, .int (nI 0)), (1, .ref b9), (0, .ref x)]) hx hb dL_build_1147 hl (k := 0) rfl (by rw [ei144]; rfl) (by decide) rfl (fun ls hl => ?_)
                                          have hi144 : i144 = nI (i + 1) := by
                                            rw [ei144]
                                            exact nI_1 i
                                          rw [hi144]
                                          refine lv_goto (tgt := 1125) hx hb dL_build_1150 (by decide) ?_
                                          exact ih_L1125 (i + 1)  H locs ls (by omega) (by omega) hP hS (lv_sub hl [0, 1, 2, 3, 4, 5, 6, 7, 8] rfl)
                                        · exact absurd rfl c143
                                exact L1125 5 0  H locs ls (by omega) (by omega) hP hS (lv_sub hl [0, 1, 2, 3, 4, 5, 6, 7, 8] rfl)
                              · exact absurd rfl c137
                        · have hkn : k < tr := Nat.not_le.mp (fun q => c55 (nI_le q (by omega)))
                          refine lv_aload hx hb dL_build_841 (lv_at hl 2 rfl) ?_
                          refine lv_iconst (v := 0) hx hb dL_build_843 (by decide) ?_
                          refine g_iald F hP hnn (by unfold vp_in; decide) dL_build_844 ?_
                          refine lv_topi (fun v145 ev145 => ?_)
                          have hv145 : v145 = nI n0 := by
                            rw [ev145]
                            rw [show (0 : Int32).toNatClampNeg = 0 from by decide]
                            exact hf0
                          rw [hv145]
                          refine lv_iconst (v := 2) hx hb dL_build_845 (by decide) ?_
                          refine lv_icmp_le (tgt := 1033) hx hb dL_build_846 (by decide) (fun c146 => ?_) (fun c146 => ?_)
                          · refine W.widen (k := 380) (n := 6600) (by omega) (by omega) ?_
                            refine lv_aload hx hb dL_build_1033 (lv_at hl 0 rfl) ?_
                            refine lv_iconst (v := 4) hx hb dL_build_1035 (by decide) ?_
                            refine lv_iconst (v := (-1)) hx hb dL_build_1036 (by decide) ?_
                            refine g_iast F hP hS hnn (by unfold vp_in; decide) dL_build_1037 (fun H locs hP hS => ?_)
                            rw [show (4 : Int32).toNatClampNeg = 4 from by decide] at hP
                            obtain ⟨w147, ew147⟩ : ∃ z, z = g_up w nn (.inl (G.2.1 0, 6, .inl (upd Fn 4 (-1)))) := ⟨_, rfl⟩
                            have hP : g_P A G w147 H := by rw [ew147]; exact hP
                            have f148 : w147 sh = some (.inl (G.2.1 0, 30, .inl Fs2)) := by rw [ew147]; exact g_up_f hsh (dnnsh)
                            have f149 : w147 ge = some (.inl (G.2.1 0, 80, .inl Fg2)) := by rw [ew147]; exact g_up_f hge (dnnge)
                            have f150 : w147 me = some (.inl (G.2.1 0, 32, .inl Fm2)) := by rw [ew147]; exact g_up_f hme (dnnme)
                            have f151 : w147 pl = some (.inl (G.2.1 0, 20, .inl Fp)) := by rw [ew147]; exact g_up_f hpl (dnnpl)
                            have f152 : w147 nn = some (.inl (G.2.1 0, 6, .inl (upd Fn 4 (-1)))) := by rw [ew147]; exact g_up_s _ _ _
                            have hB153 := lwB_set hB (List.mem_of_getElem? (i := 0) rfl) ew147
                            refine lv_aload_n hx hb dL_build_1038 rfl (lv_at hl 6 rfl) ?_
                            refine lv_iload_n hx hb dL_build_1039 rfl (lv_at hl 5 rfl) ?_
                            refine g_SiS (As := [.ref b9, .int (nI 0)]) (rest := []) F hP hS hX hbl hbA (k_L_cell l A G w147 b9 N9 xs hbA 0 (by omega) hN9) (va_cwS 2 hts gL_build_L_cell rfl rfl rfl cd_L_cell ⟨by rw [hR]; exact Nat.le_of_ble_eq_true rfl, by rw [hR]; exact Nat.le_of_ble_eq_true rfl⟩) rfl hl.1 (Nat.le_of_ble_eq_true rfl) dL_build_1040 ⟨by rw [hR]; dsimp only; omega, by rw [hR]; dsimp only; omega⟩ rfl (fun r154 w155 H locs h156 hP hS => ?_)
                            rw [h156] at hP
                            refine lv_bipush (v := 11) hx hb dL_build_1043 (by decide) ?_
                            refine lv_ishr hx hb dL_build_1045 ?_
                            refine lv_topi (fun v157 ev157 => ?_)
                            refine lv_iconst (v := 5) hx hb dL_build_1046 (by decide) ?_
                            refine g_Si (As := [.int v157, .int 5]) (rest := []) F hP hS (k_L_below l A G w147 v157 5 (by omega) (by omega)) (va_cwS 2 hts gL_build_L_below rfl rfl rfl cd_L_below ⟨by rw [hR]; exact Nat.le_of_ble_eq_true rfl, by rw [hR]; exact Nat.le_of_ble_eq_true rfl⟩) rfl hl.1 (Nat.le_of_ble_eq_true rfl) dL_build_1047 ⟨by rw [hR]; dsimp only; omega, by rw [hR]; dsimp only; omega⟩ rfl (fun r158 w159 H locs h160 hP hS => ?_)
                            have hr158 := h160.1
                            rw [h160.2] at hP
                            rw [hr158]
                            obtain ⟨b161, eb161⟩ : ∃ z, z = blw v157 5 := ⟨_, rfl⟩
                            rw [← eb161]
                            have k162 : b161 < 5 := by rw [eb161]; exact blw_lt _ (by omega)
                            refine lv_if_le (tgt := 1122) hx hb dL_build_1050 (by decide) (fun c163 => ?_) (fun c163 => ?_)
                            · have fin : bldP S Fs2 Fg2 Fm2 Fp (upd Fn 4 (-1)) := by
                                have q0 : (S 0 0).toNat = n0 := by omega
                                have q1 : (S 0 1).toNat = n1 := by omega
                                have q2 : (S 0 2).toNat = m2 := by omega
                                have q3 : (S 0 3).toNat = k := by omega
                                refine ⟨by omega, ⟨?_, ?_, ?_, ?_, fun q => by omega⟩, by rw [q0]; exact has, by rw [q1]; exact hag, by rw [q2]; exact ham, by rw [q3]; exact hap⟩
                                · rw [pk_un (by decide), hf0]; exact (iL_nat (by omega)).symm
                                · rw [pk_un (by decide), hf2]; exact (iL_nat (by omega)).symm
                                · rw [pk_un (by decide), hf3]; exact (iL_nat (by omega)).symm
                                · rw [pk_us, show S 0 4 = -1 by omega]; rfl
                              have zc : ∀ i : Nat, i < 4 → (upd Fn 4 (-1)) i = iL (S 0 i) := fun i hi => by
                                rcases (show i = 0 ∨ i = 1 ∨ i = 2 ∨ i = 3 by omega) with rfl | rfl | rfl | rfl
                                · exact fin.2.1.1
                                · rw [pk_un (by decide), hf1]; exact (iL_nat (by omega)).symm
                                · exact fin.2.1.2.1
                                · exact fin.2.1.2.2.1
                              refine W.widen (k := 390) (n := 6700) (by omega) (by omega) ?_
                              obtain ⟨S9, eS9⟩ : ∃ z, z = S := ⟨_, rfl⟩
                              rw [← eS9] at fin zc hB153
                              obtain ⟨Fs9, eFs9⟩ : ∃ z : Nat → Int32, z = Fs2 := ⟨_, rfl⟩
                              rw [← eFs9] at fin f148
                              obtain ⟨Fn9, eFn9⟩ : ∃ z : Nat → Int32, z = upd Fn 4 (-1) := ⟨_, rfl⟩
                              rw [← eFn9] at fin zc f152
                              refine lv_iconst (v := 0) hx hb dL_build_1122 (by decide) ?_
                              refine lv_istore (lv' := [(9, .int 0), (7, .ref nn), (6, .ref pl), (5, .ref me), (4, .ref ge), (3, .ref sh), (2, .int (nI 0)), (1, .ref b9), (0, .ref x)]) hx hb dL_build_1123 hl (by decide) rfl (fun ls hl => ?_)
                              have L1125 : ∀ (n : Nat) (i : Nat) (H : Heap) (locs : List Loc) (ls : Array Slot), 5 ≤ i + n → (i ≤ 4) → g_P A G w147 H → va_S A s.heap H locs → lv_has ls 15 [(9, .int (nI i)), (7, .ref nn), (6, .ref pl), (5, .ref me), (4, .ref ge), (3, .ref sh), (2, .int (nI 0)), (1, .ref b9), (0, .ref x)] → W p l e R s m args below meth c H locs ((390 + i)) ((6700 + 6 * i)) Q (F0 m 1125 ls []) := by
                                intro n
                                induction n with
                                | zero =>
                                  intro i H locs ls hfu hi4 hP hS hl
                                  exact absurd hfu (by omega)
                                | succ n ih_L1125 =>
                                  intro i H locs ls hfu hi4 hP hS hl
                                  refine lv_iload hx hb dL_build_1125 (lv_at hl 0 rfl) ?_
                                  refine lv_iconst (v := 4) hx hb dL_build_1127 (by decide) ?_
                                  refine lv_icmp_ge (tgt := 1153) hx hb dL_build_1128 (by decide) (fun c164 => ?_) (fun c164 => ?_)
                                  · have zc164 : 4 ≤ i := (nI_leI (a := 4) (b := i) (by omega) (by omega)).mp c164
                                    refine lv_aload hx hb dL_build_1153 (lv_at hl 1 rfl) ?_
                                    rw [hQ]
                                    refine g_xaret (r := (some nn)) F hP hS hlocks hr (by first | exact Or.inl ⟨_, rfl⟩ | exact Or.inr ⟨_, rfl⟩) dL_build_1155 (by first | exact Nat.le_of_ble_eq_true rfl | omega) (by first | exact Nat.le_of_ble_eq_true rfl | omega) ?_
                                    exact ⟨nn, S9, Fs9, Fg2, Fm2, Fp, Fn9, rfl, hB153, ⟨f148, f149, f150, f151, f152⟩, fin⟩
                                  · have hin : i < 4 := Nat.not_le.mp (fun q => c164 (nI_le (a := 4) q (by omega)))
                                    refine lv_aload_n hx hb dL_build_1131 rfl (lv_at hl 8 rfl) ?_
                                    refine lv_iload hx hb dL_build_1132 (lv_at hl 0 rfl) ?_
                                    have ti := nI_i i (by omega)
                                    obtain ⟨ad, Cn, T, h00, hBn, hLn⟩ := id hB153
                                    have hCo := k_X6_count l hlt A G w147 ad Cn S9 T (nI i) hBn.1 hBn.2.1 hBn.2.2.1
                                    rw [h00] at hCo
                                    have hx0 := rep_x hBn.1 hBn.2.1
                                    rw [h00] at hx0
                                    refine g_cVi (As := [.int (nI i)]) (rest := []) F hP hS hCo (cwV 1 hts gL_build_X6_count rfl rfl rfl cd_X6_count ⟨by rw [hR]; exact Nat.le_of_ble_eq_true rfl, by rw [hR]; exact Nat.le_of_ble_eq_true rfl⟩) hx0 rfl rfl rfl hl.1 (Nat.le_of_ble_eq_true rfl) dL_build_1134 ⟨by rw [hR]; dsimp only; omega, by rw [hR]; dsimp only; omega⟩ rfl (fun E w9 ce q9 H locs hpx hP hS hce hcv hcl => ?_) (fun r165 w166 H locs h167 hP hS => ?_)
                                    · have hcd := (show cdCount (nI i) = 0 from if_pos ⟨by omega, by omega⟩)
                                      obtain ⟨_, q⟩ := hpx.2
                                      exact absurd (hcd.symm.trans q) (by decide)
                                    · obtain ⟨hc0, er, ew⟩ := h167
                                      rw [ew] at hP
                                      rw [er]
                                      unfold vlCount
                                      rw [kN_n (k := i) (by omega)]
                                      refine lv_aload hx hb dL_build_1137 (lv_at hl 1 rfl) ?_
                                      refine lv_iload hx hb dL_build_1139 (lv_at hl 0 rfl) ?_
                                      refine g_iald F hP f152 (vp_in_nI (by omega) (by omega)) dL_build_1141 ?_
                                      refine lv_topi (fun v168 ev168 => ?_)
                                      have hv168 : v168 = iL (S9 0 i) := by
                                        rw [ev168]
                                        rw [nI_clamp (n := i) (by omega)]
                                        exact zc i hin
                                      rw [hv168]
                                      refine lv_icmp_eq (tgt := 1147) hx hb dL_build_1142 (by decide) (fun c169 => ?_) (fun c169 => ?_)
                                      · refine W.widen (k := 390 + (i + 1)) (n := 6700 + 6 * (i + 1)) (by omega) (by omega) ?_
                                        obtain ⟨i170, ei170⟩ : ∃ y : Int32, y = nI i + (1) := ⟨_, rfl⟩
                                        refine lv_iinc (v := i170) (lv' := [(9, .int i170), (7, .ref nn), (6, .ref pl), (5, .ref me), (4, .ref ge), (3, .ref sh), (2, .int (nI 0)), (1, .ref b9), (0, .ref x)]) hx hb dL_build_1147 hl (k := 0) rfl (by rw [ei170]; rfl) (by decide) rfl (fun ls hl => ?_)
                                        have hi170 : i170 = nI (i + 1) := by
                                          rw [ei170]
                                          exact nI_1 i
                                        rw [hi170]
                                        refine lv_goto (tgt := 1125) hx hb dL_build_1150 (by decide) ?_
                                        exact ih_L1125 (i + 1)  H locs ls (by omega) (by omega) hP hS (lv_sub hl [0, 1, 2, 3, 4, 5, 6, 7, 8] rfl)
                                      · exact absurd rfl c169
                              exact L1125 5 0  H locs ls (by omega) (by omega) hP hS (lv_sub hl [0, 1, 2, 3, 4, 5, 6, 7, 8] rfl)
                            · refine lv_aload hx hb dL_build_1053 (lv_at hl 0 rfl) ?_
                              refine lv_iconst (v := 4) hx hb dL_build_1055 (by decide) ?_
                              refine lv_aload_n hx hb dL_build_1056 rfl (lv_at hl 6 rfl) ?_
                              refine lv_iload_n hx hb dL_build_1057 rfl (lv_at hl 5 rfl) ?_
                              refine g_SiS (As := [.ref b9, .int (nI 0)]) (rest := [.int 4, .ref nn]) F hP hS hX hbl hbA (k_L_cell l A G w147 b9 N9 xs hbA 0 (by omega) hN9) (va_cwS 2 hts gL_build_L_cell rfl rfl rfl cd_L_cell ⟨by rw [hR]; exact Nat.le_of_ble_eq_true rfl, by rw [hR]; exact Nat.le_of_ble_eq_true rfl⟩) rfl hl.1 (Nat.le_of_ble_eq_true rfl) dL_build_1058 ⟨by rw [hR]; dsimp only; omega, by rw [hR]; dsimp only; omega⟩ rfl (fun r171 w172 H locs h173 hP hS => ?_)
                              rw [h173] at hP
                              refine lv_bipush (v := 12) hx hb dL_build_1061 (by decide) ?_
                              refine lv_ishr hx hb dL_build_1063 ?_
                              refine lv_topi (fun v174 ev174 => ?_)
                              refine lv_aload hx hb dL_build_1064 (lv_at hl 0 rfl) ?_
                              refine lv_iconst (v := 0) hx hb dL_build_1066 (by decide) ?_
                              refine g_iald F hP f152 (by unfold vp_in; decide) dL_build_1067 ?_
                              refine lv_topi (fun v175 ev175 => ?_)
                              have hv175 : v175 = nI n0 := by
                                rw [ev175]
                                rw [show (0 : Int32).toNatClampNeg = 0 from by decide]
                                exact (pk_un (k := 4) (j := 0) (by omega)).trans (hf0)
                              rw [hv175]
                              refine g_Si (As := [.int v174, .int (nI n0)]) (rest := [.int 4, .ref nn]) F hP hS (k_L_below l A G w147 v174 n0 (by omega) (by omega)) (va_cwS 2 hts gL_build_L_below rfl rfl rfl cd_L_below ⟨by rw [hR]; exact Nat.le_of_ble_eq_true rfl, by rw [hR]; exact Nat.le_of_ble_eq_true rfl⟩) rfl hl.1 (Nat.le_of_ble_eq_true rfl) dL_build_1068 ⟨by rw [hR]; dsimp only; omega, by rw [hR]; dsimp only; omega⟩ rfl (fun r176 w177 H locs h178 hP hS => ?_)
                              have hr176 := h178.1
                              rw [h178.2] at hP
                              rw [hr176]
                              obtain ⟨b179, eb179⟩ : ∃ z, z = blw v174 n0 := ⟨_, rfl⟩
                              rw [← eb179]
                              have k180 : b179 < n0 := by rw [eb179]; exact blw_lt _ (by omega)
                              refine g_iast F hP hS f152 (by unfold vp_in; decide) dL_build_1071 (fun H locs hP hS => ?_)
                              rw [show (4 : Int32).toNatClampNeg = 4 from by decide] at hP
                              obtain ⟨w181, ew181⟩ : ∃ z, z = g_up w147 nn (.inl (G.2.1 0, 6, .inl (upd (upd Fn 4 (-1)) 4 (nI b179)))) := ⟨_, rfl⟩
                              have hP : g_P A G w181 H := by rw [ew181]; exact hP
                              have f182 : w181 sh = some (.inl (G.2.1 0, 30, .inl Fs2)) := by rw [ew181]; exact g_up_f f148 (dnnsh)
                              have f183 : w181 ge = some (.inl (G.2.1 0, 80, .inl Fg2)) := by rw [ew181]; exact g_up_f f149 (dnnge)
                              have f184 : w181 me = some (.inl (G.2.1 0, 32, .inl Fm2)) := by rw [ew181]; exact g_up_f f150 (dnnme)
                              have f185 : w181 pl = some (.inl (G.2.1 0, 20, .inl Fp)) := by rw [ew181]; exact g_up_f f151 (dnnpl)
                              have f186 : w181 nn = some (.inl (G.2.1 0, 6, .inl (upd (upd Fn 4 (-1)) 4 (nI b179)))) := by rw [ew181]; exact g_up_s _ _ _
                              have hB187 := lwB_set hB153 (List.mem_of_getElem? (i := 0) rfl) ew181
                              refine lv_aload hx hb dL_build_1072 (lv_at hl 0 rfl) ?_
                              refine lv_iconst (v := 5) hx hb dL_build_1074 (by decide) ?_
                              refine lv_aload_n hx hb dL_build_1075 rfl (lv_at hl 6 rfl) ?_
                              refine lv_iload_n hx hb dL_build_1076 rfl (lv_at hl 5 rfl) ?_
                              refine g_SiS (As := [.ref b9, .int (nI 0)]) (rest := [.int 5, .ref nn]) F hP hS hX hbl hbA (k_L_cell l A G w181 b9 N9 xs hbA 0 (by omega) hN9) (va_cwS 2 hts gL_build_L_cell rfl rfl rfl cd_L_cell ⟨by rw [hR]; exact Nat.le_of_ble_eq_true rfl, by rw [hR]; exact Nat.le_of_ble_eq_true rfl⟩) rfl hl.1 (Nat.le_of_ble_eq_true rfl) dL_build_1077 ⟨by rw [hR]; dsimp only; omega, by rw [hR]; dsimp only; omega⟩ rfl (fun r188 w189 H locs h190 hP hS => ?_)
                              rw [h190] at hP
                              refine lv_bipush (v := 14) hx hb dL_build_1080 (by decide) ?_
                              refine lv_ishr hx hb dL_build_1082 ?_
                              refine lv_topi (fun v191 ev191 => ?_)
                              refine lv_sipush (v := 201) hx hb dL_build_1083 (by decide) ?_
                              refine g_Si (As := [.int v191, .int 201]) (rest := [.int 5, .ref nn]) F hP hS (k_L_below l A G w181 v191 201 (by omega) (by omega)) (va_cwS 2 hts gL_build_L_below rfl rfl rfl cd_L_below ⟨by rw [hR]; exact Nat.le_of_ble_eq_true rfl, by rw [hR]; exact Nat.le_of_ble_eq_true rfl⟩) rfl hl.1 (Nat.le_of_ble_eq_true rfl) dL_build_1086 ⟨by rw [hR]; dsimp only; omega, by rw [hR]; dsimp only; omega⟩ rfl (fun r192 w193 H locs h194 hP hS => ?_)
                              have hr192 := h194.1
                              rw [h194.2] at hP
                              rw [hr192]
                              obtain ⟨b195, eb195⟩ : ∃ z, z = blw v191 201 := ⟨_, rfl⟩
                              rw [← eb195]
                              have k196 : b195 < 201 := by rw [eb195]; exact blw_lt _ (by omega)
                              refine lv_bipush (v := 100) hx hb dL_build_1089 (by decide) ?_
                              refine lv_isub hx hb dL_build_1091 ?_
                              refine lv_topi (fun v197 ev197 => ?_)
                              have hv197 : v197 = iL (((b195 : Nat) : Int) - 100) := by
                                rw [ev197]
                                rw [← iL_n]; exact iL_sub _ 100
                              rw [hv197]
                              refine g_iast F hP hS f186 (by unfold vp_in; decide) dL_build_1092 (fun H locs hP hS => ?_)
                              rw [show (5 : Int32).toNatClampNeg = 5 from by decide] at hP
                              obtain ⟨w198, ew198⟩ : ∃ z, z = g_up w181 nn (.inl (G.2.1 0, 6, .inl (upd (upd (upd Fn 4 (-1)) 4 (nI b179)) 5 (iL (((b195 : Nat) : Int) - 100))))) := ⟨_, rfl⟩
                              have hP : g_P A G w198 H := by rw [ew198]; exact hP
                              have f199 : w198 sh = some (.inl (G.2.1 0, 30, .inl Fs2)) := by rw [ew198]; exact g_up_f f182 (dnnsh)
                              have f200 : w198 ge = some (.inl (G.2.1 0, 80, .inl Fg2)) := by rw [ew198]; exact g_up_f f183 (dnnge)
                              have f201 : w198 me = some (.inl (G.2.1 0, 32, .inl Fm2)) := by rw [ew198]; exact g_up_f f184 (dnnme)
                              have f202 : w198 pl = some (.inl (G.2.1 0, 20, .inl Fp)) := by rw [ew198]; exact g_up_f f185 (dnnpl)
                              have f203 : w198 nn = some (.inl (G.2.1 0, 6, .inl (upd (upd (upd Fn 4 (-1)) 4 (nI b179)) 5 (iL (((b195 : Nat) : Int) - 100))))) := by rw [ew198]; exact g_up_s _ _ _
                              have hB204 := lwB_set hB187 (List.mem_of_getElem? (i := 0) rfl) ew198
                              refine lv_aload_n hx hb dL_build_1093 rfl (lv_at hl 4 rfl) ?_
                              refine lv_iconst (v := 3) hx hb dL_build_1094 (by decide) ?_
                              refine lv_aload hx hb dL_build_1095 (lv_at hl 0 rfl) ?_
                              refine lv_iconst (v := 4) hx hb dL_build_1097 (by decide) ?_
                              refine g_iald F hP f203 (by unfold vp_in; decide) dL_build_1098 ?_
                              refine lv_topi (fun v205 ev205 => ?_)
                              have hv205 : v205 = nI b179 := by
                                rw [ev205]
                                rw [show (4 : Int32).toNatClampNeg = 4 from by decide]
                                exact (pk_un (k := 5) (j := 4) (by omega)).trans (pk_us)
                              rw [hv205]
                              refine lv_imul hx hb dL_build_1099 ?_
                              refine lv_topi (fun v206 ev206 => ?_)
                              have hv206 : v206 = nI (3 * b179) := by
                                rw [ev206]
                                exact pk_mul 3 b179
                              rw [hv206]
                              refine lv_iconst (v := 2) hx hb dL_build_1100 (by decide) ?_
                              refine lv_iadd hx hb dL_build_1101 ?_
                              refine lv_topi (fun v207 ev207 => ?_)
                              have hv207 : v207 = nI ((3 * b179) + 2) := by
                                rw [ev207]
                                exact nI_add (3 * b179) 2
                              rw [hv207]
                              refine lv_iconst (v := 0) hx hb dL_build_1102 (by decide) ?_
                              refine g_iast F hP hS f199 (vp_in_nI (by omega) (by omega)) dL_build_1103 (fun H locs hP hS => ?_)
                              rw [nI_clamp (n := (3 * b179) + 2) (by omega)] at hP
                              obtain ⟨w208, ew208⟩ : ∃ z, z = g_up w198 sh (.inl (G.2.1 0, 30, .inl (upd Fs2 ((3 * b179) + 2) 0))) := ⟨_, rfl⟩
                              have hP : g_P A G w208 H := by rw [ew208]; exact hP
                              have f209 : w208 ge = some (.inl (G.2.1 0, 80, .inl Fg2)) := by rw [ew208]; exact g_up_f f200 (Ne.symm (dshge))
                              have f210 : w208 me = some (.inl (G.2.1 0, 32, .inl Fm2)) := by rw [ew208]; exact g_up_f f201 (Ne.symm (dshme))
                              have f211 : w208 pl = some (.inl (G.2.1 0, 20, .inl Fp)) := by rw [ew208]; exact g_up_f f202 (Ne.symm (dshpl))
                              have f212 : w208 nn = some (.inl (G.2.1 0, 6, .inl (upd (upd (upd Fn 4 (-1)) 4 (nI b179)) 5 (iL (((b195 : Nat) : Int) - 100))))) := by rw [ew208]; exact g_up_f f203 (Ne.symm (dnnsh))
                              have f213 : w208 sh = some (.inl (G.2.1 0, 30, .inl (upd Fs2 ((3 * b179) + 2) 0))) := by rw [ew208]; exact g_up_s _ _ _
                              have hB214 := lwB_set hB204 (List.mem_of_getElem? (i := 1) rfl) ew208
                              refine lv_aload_n hx hb dL_build_1104 rfl (lv_at hl 7 rfl) ?_
                              refine lv_aload hx hb dL_build_1105 (lv_at hl 0 rfl) ?_
                              refine lv_iconst (v := 4) hx hb dL_build_1107 (by decide) ?_
                              refine g_iald F hP f212 (by unfold vp_in; decide) dL_build_1108 ?_
                              refine lv_topi (fun v215 ev215 => ?_)
                              have hv215 : v215 = nI b179 := by
                                rw [ev215]
                                rw [show (4 : Int32).toNatClampNeg = 4 from by decide]
                                exact (pk_un (k := 5) (j := 4) (by omega)).trans (pk_us)
                              rw [hv215]
                              refine lv_aload hx hb dL_build_1109 (lv_at hl 0 rfl) ?_
                              refine lv_iconst (v := 5) hx hb dL_build_1111 (by decide) ?_
                              refine g_iald F hP f212 (by unfold vp_in; decide) dL_build_1112 ?_
                              refine lv_topi (fun v216 ev216 => ?_)
                              have hv216 : v216 = iL (((b195 : Nat) : Int) - 100) := by
                                rw [ev216]
                                rw [show (5 : Int32).toNatClampNeg = 5 from by decide]
                                exact pk_us
                              rw [hv216]
                              have t1 := nI_i b179 (by omega)
                              have t2 : (iL (((b195 : Nat) : Int) - 100)).toInt = ((b195 : Nat) : Int) - 100 := iL_t (by omega) (by omega)
                              have k1 := kN_n (k := b179) (by omega)
                              obtain ⟨ad, Cn, T, h00, hBn, hLn⟩ := id hB214
                              have hCo := k_X6_drive l hlt A G w208 ad Cn S T (nI b179) (iL (((b195 : Nat) : Int) - 100)) hBn.1 hBn.2.1 hBn.2.2.1 hBn.2.2.2.1 hBn.2.2.2.2
                              rw [h00] at hCo
                              have hx0 := rep_x hBn.1 hBn.2.1
                              rw [h00] at hx0
                              refine g_cVi (As := [.int (nI b179), .int (iL (((b195 : Nat) : Int) - 100))]) (rest := []) F hP hS hCo (cwV 2 hts gL_build_X6_drive rfl rfl rfl cd_X6_drive ⟨by rw [hR]; exact Nat.le_of_ble_eq_true rfl, by rw [hR]; exact Nat.le_of_ble_eq_true rfl⟩) hx0 rfl rfl rfl hl.1 (Nat.le_of_ble_eq_true rfl) dL_build_1113 ⟨by rw [hR]; dsimp only; omega, by rw [hR]; dsimp only; omega⟩ rfl (fun E w9 ce q9 H locs hpx hP hS hce hcv hcl => ?_) (fun r217 w218 H locs h219 hP hS => ?_)
                              · have hcd := (show cdDrive S (nI b179) (iL (((b195 : Nat) : Int) - 100)) = 0 from (if_pos ⟨by omega, by omega⟩).trans (if_pos ⟨by rw [t2]; omega, by rw [t2]; omega⟩))
                                rcases hpx.2 with ⟨_, q⟩ | ⟨_, q⟩ <;> exact absurd (hcd.symm.trans q) (by decide)
                              · obtain ⟨hc0, er, hAf⟩ := h219
                                obtain ⟨S220, eS220⟩ : ∃ z, z = nxDrive S (nI b179) (iL (((b195 : Nat) : Int) - 100)) := ⟨_, rfl⟩
                                rw [← eS220] at hAf
                                obtain ⟨hB221, kp222⟩ := lwB_aft h00 hLn hAf
                                have f223 : w218 ge = some (.inl (G.2.1 0, 80, .inl Fg2)) := (kp222 ge (List.mem_of_getElem? (i := 2) rfl)).trans f209
                                have f224 : w218 me = some (.inl (G.2.1 0, 32, .inl Fm2)) := (kp222 me (List.mem_of_getElem? (i := 3) rfl)).trans f210
                                have f225 : w218 pl = some (.inl (G.2.1 0, 20, .inl Fp)) := (kp222 pl (List.mem_of_getElem? (i := 4) rfl)).trans f211
                                have f226 : w218 nn = some (.inl (G.2.1 0, 6, .inl (upd (upd (upd Fn 4 (-1)) 4 (nI b179)) 5 (iL (((b195 : Nat) : Int) - 100))))) := (kp222 nn (List.mem_of_getElem? (i := 0) rfl)).trans f212
                                have f227 : w218 sh = some (.inl (G.2.1 0, 30, .inl (upd Fs2 ((3 * b179) + 2) 0))) := (kp222 sh (List.mem_of_getElem? (i := 1) rfl)).trans f213
                                rw [er]
                                unfold vlDrive
                                rw [show iL (S 0 4) = -1 from by rw [show S 0 4 = -1 by omega]; rfl]
                                refine lv_iconst (v := (-1)) hx hb dL_build_1116 (by decide) ?_
                                refine lv_icmp_eq (tgt := 1122) hx hb dL_build_1117 (by decide) (fun c228 => ?_) (fun c228 => ?_)
                                · obtain ⟨a4, a5, a3, a30, a0, ao⟩ := nx_drive (by omega) eS220
                                  rw [t2] at a5
                                  have fin : bldP S220 (upd Fs2 ((3 * b179) + 2) 0) Fg2 Fm2 Fp (upd (upd (upd Fn 4 (-1)) 4 (nI b179)) 5 (iL (((b195 : Nat) : Int) - 100))) := by
                                    have q0 : (S220 0 0).toNat = n0 := by rw [a0 0 (by decide) (by decide)]; omega
                                    have q1 : (S220 0 1).toNat = n1 := by rw [a0 1 (by decide) (by decide)]; omega
                                    have q2 : (S220 0 2).toNat = m2 := by rw [a0 2 (by decide) (by decide)]; omega
                                    have q3 : (S220 0 3).toNat = k := by rw [a0 3 (by decide) (by decide)]; omega
                                    refine ⟨by rw [a0 0 (by decide) (by decide)]; omega, ⟨?_, ?_, ?_, ?_, fun _ => ?_⟩, ?_, by rw [q1]; exact arG_c hag (fun f j _ z1 z2 => ao f j (by omega) (by omega)), by rw [q2]; exact arM_c ham (fun f j _ z1 z2 => ao f j (by omega) (by omega)), by rw [q3]; exact arP_c hap (fun f j _ z1 z2 => ao f j (by omega) (by omega))⟩
                                    · rw [pk_un (by decide), pk_un (by decide), pk_un (by decide), hf0, a0 0 (by decide) (by decide)]; exact (iL_nat (by omega)).symm
                                    · rw [pk_un (by decide), pk_un (by decide), pk_un (by decide), hf2, a0 2 (by decide) (by decide)]; exact (iL_nat (by omega)).symm
                                    · rw [pk_un (by decide), pk_un (by decide), pk_un (by decide), hf3, a0 3 (by decide) (by decide)]; exact (iL_nat (by omega)).symm
                                    · rw [pk_un (by decide), pk_us, a4]; exact (iL_n _).symm
                                    · rw [pk_us, a5]
                                    · rw [q0]
                                      intro j hj
                                      by_cases z : j = b179
                                      · rw [z, pk_us, a3]; rfl
                                      · rw [pk_un (by omega), a30 j z]; exact has j hj
                                  have zc : ∀ i : Nat, i < 4 → (upd (upd (upd Fn 4 (-1)) 4 (nI b179)) 5 (iL (((b195 : Nat) : Int) - 100))) i = iL (S220 0 i) := fun i hi => by
                                    rcases (show i = 0 ∨ i = 1 ∨ i = 2 ∨ i = 3 by omega) with rfl | rfl | rfl | rfl
                                    · exact fin.2.1.1
                                    · rw [pk_un (by decide), pk_un (by decide), pk_un (by decide), hf1, a0 1 (by decide) (by decide)]; exact (iL_nat (by omega)).symm
                                    · exact fin.2.1.2.1
                                    · exact fin.2.1.2.2.1
                                  refine W.widen (k := 390) (n := 6700) (by omega) (by omega) ?_
                                  obtain ⟨S9, eS9⟩ : ∃ z, z = S220 := ⟨_, rfl⟩
                                  rw [← eS9] at fin zc hB221
                                  obtain ⟨Fs9, eFs9⟩ : ∃ z : Nat → Int32, z = upd Fs2 ((3 * b179) + 2) 0 := ⟨_, rfl⟩
                                  rw [← eFs9] at fin f227
                                  obtain ⟨Fn9, eFn9⟩ : ∃ z : Nat → Int32, z = upd (upd (upd Fn 4 (-1)) 4 (nI b179)) 5 (iL (((b195 : Nat) : Int) - 100)) := ⟨_, rfl⟩
                                  rw [← eFn9] at fin zc f226
                                  refine lv_iconst (v := 0) hx hb dL_build_1122 (by decide) ?_
                                  refine lv_istore (lv' := [(9, .int 0), (7, .ref nn), (6, .ref pl), (5, .ref me), (4, .ref ge), (3, .ref sh), (2, .int (nI 0)), (1, .ref b9), (0, .ref x)]) hx hb dL_build_1123 hl (by decide) rfl (fun ls hl => ?_)
                                  have L1125 : ∀ (n : Nat) (i : Nat) (H : Heap) (locs : List Loc) (ls : Array Slot), 5 ≤ i + n → (i ≤ 4) → g_P A G w218 H → va_S A s.heap H locs → lv_has ls 15 [(9, .int (nI i)), (7, .ref nn), (6, .ref pl), (5, .ref me), (4, .ref ge), (3, .ref sh), (2, .int (nI 0)), (1, .ref b9), (0, .ref x)] → W p l e R s m args below meth c H locs ((390 + i)) ((6700 + 6 * i)) Q (F0 m 1125 ls []) := by
                                    intro n
                                    induction n with
                                    | zero =>
                                      intro i H locs ls hfu hi4 hP hS hl
                                      exact absurd hfu (by omega)
                                    | succ n ih_L1125 =>
                                      intro i H locs ls hfu hi4 hP hS hl
                                      refine lv_iload hx hb dL_build_1125 (lv_at hl 0 rfl) ?_
                                      refine lv_iconst (v := 4) hx hb dL_build_1127 (by decide) ?_
                                      refine lv_icmp_ge (tgt := 1153) hx hb dL_build_1128 (by decide) (fun c229 => ?_) (fun c229 => ?_)
                                      · have zc229 : 4 ≤ i := (nI_leI (a := 4) (b := i) (by omega) (by omega)).mp c229
                                        refine lv_aload hx hb dL_build_1153 (lv_at hl 1 rfl) ?_
                                        rw [hQ]
                                        refine g_xaret (r := (some nn)) F hP hS hlocks hr (by first | exact Or.inl ⟨_, rfl⟩ | exact Or.inr ⟨_, rfl⟩) dL_build_1155 (by first | exact Nat.le_of_ble_eq_true rfl | omega) (by first | exact Nat.le_of_ble_eq_true rfl | omega) ?_
                                        exact ⟨nn, S9, Fs9, Fg2, Fm2, Fp, Fn9, rfl, hB221, ⟨f227, f223, f224, f225, f226⟩, fin⟩
                                      · have hin : i < 4 := Nat.not_le.mp (fun q => c229 (nI_le (a := 4) q (by omega)))
                                        refine lv_aload_n hx hb dL_build_1131 rfl (lv_at hl 8 rfl) ?_
                                        refine lv_iload hx hb dL_build_1132 (lv_at hl 0 rfl) ?_
                                        have ti := nI_i i (by omega)
                                        obtain ⟨ad, Cn, T, h00, hBn, hLn⟩ := id hB221
                                        have hCo := k_X6_count l hlt A G w218 ad Cn S9 T (nI i) hBn.1 hBn.2.1 hBn.2.2.1
                                        rw [h00] at hCo
                                        have hx0 := rep_x hBn.1 hBn.2.1
                                        rw [h00] at hx0
                                        refine g_cVi (As := [.int (nI i)]) (rest := []) F hP hS hCo (cwV 1 hts gL_build_X6_count rfl rfl rfl cd_X6_count ⟨by rw [hR]; exact Nat.le_of_ble_eq_true rfl, by rw [hR]; exact Nat.le_of_ble_eq_true rfl⟩) hx0 rfl rfl rfl hl.1 (Nat.le_of_ble_eq_true rfl) dL_build_1134 ⟨by rw [hR]; dsimp only; omega, by rw [hR]; dsimp only; omega⟩ rfl (fun E w9 ce q9 H locs hpx hP hS hce hcv hcl => ?_) (fun r230 w231 H locs h232 hP hS => ?_)
                                        · have hcd := (show cdCount (nI i) = 0 from if_pos ⟨by omega, by omega⟩)
                                          obtain ⟨_, q⟩ := hpx.2
                                          exact absurd (hcd.symm.trans q) (by decide)
                                        · obtain ⟨hc0, er, ew⟩ := h232
                                          rw [ew] at hP
                                          rw [er]
                                          unfold vlCount
                                          rw [kN_n (k := i) (by omega)]
                                          refine lv_aload hx hb dL_build_1137 (lv_at hl 1 rfl) ?_
                                          refine lv_iload hx hb dL_build_1139 (lv_at hl 0 rfl) ?_
                                          refine g_iald F hP f226 (vp_in_nI (by omega) (by omega)) dL_build_1141 ?_
                                          refine lv_topi (fun v233 ev233 => ?_)
                                          have hv233 : v233 = iL (S9 0 i) := by
                                            rw [ev233]
                                            rw [nI_clamp (n := i) (by omega)]
                                            exact zc i hin
                                          rw [hv233]
                                          refine lv_icmp_eq (tgt := 1147) hx hb dL_build_1142 (by decide) (fun c234 => ?_) (fun c234 => ?_)
                                          · refine W.widen (k := 390 + (i + 1)) (n := 6700 + 6 * (i + 1)) (by omega) (by omega) ?_
                                            obtain ⟨i235, ei235⟩ : ∃ y : Int32, y = nI i + (1) := ⟨_, rfl⟩
                                            refine lv_iinc (v := i235) (lv' := [(9, .int i235), (7, .ref nn), (6, .ref pl), (5, .ref me), (4, .ref ge), (3, .ref sh), (2, .int (nI 0)), (1, .ref b9), (0, .ref x)]) hx hb dL_build_1147 hl (k := 0) rfl (by rw [ei235]; rfl) (by decide) rfl (fun ls hl => ?_)
                                            have hi235 : i235 = nI (i + 1) := by
                                              rw [ei235]
                                              exact nI_1 i
                                            rw [hi235]
                                            refine lv_goto (tgt := 1125) hx hb dL_build_1150 (by decide) ?_
                                            exact ih_L1125 (i + 1)  H locs ls (by omega) (by omega) hP hS (lv_sub hl [0, 1, 2, 3, 4, 5, 6, 7, 8] rfl)
                                          · exact absurd rfl c234
                                  exact L1125 5 0  H locs ls (by omega) (by omega) hP hS (lv_sub hl [0, 1, 2, 3, 4, 5, 6, 7, 8] rfl)
                                · exact absurd rfl c228
                          · have hn03 : 3 ≤ n0 := by
                              rcases Nat.lt_or_ge 2 n0 with q | q
                              · exact q
                              · exact absurd (nI_le (b := 2) q (by omega)) c146
                            refine lv_aload_n hx hb dL_build_849 rfl (lv_at hl 8 rfl) ?_
                            refine lv_iload_n hx hb dL_build_850 rfl (lv_at hl 7 rfl) ?_
                            refine lv_bipush (v := 9) hx hb dL_build_851 (by decide) ?_
                            refine lv_iadd hx hb dL_build_853 ?_
                            refine lv_topi (fun v236 ev236 => ?_)
                            have hv236 : v236 = nI (0 + 9) := by
                              rw [ev236]
                              exact nI_add 0 9
                            rw [hv236]
                            refine g_SiS (As := [.ref b9, .int (nI (0 + 9))]) (rest := []) F hP hS hX hbl hbA (k_L_cell l A G w b9 N9 xs hbA (0 + 9) (by omega) hN9) (va_cwS 2 hts gL_build_L_cell rfl rfl rfl cd_L_cell ⟨by rw [hR]; exact Nat.le_of_ble_eq_true rfl, by rw [hR]; exact Nat.le_of_ble_eq_true rfl⟩) rfl hl.1 (Nat.le_of_ble_eq_true rfl) dL_build_854 ⟨by rw [hR]; dsimp only; omega, by rw [hR]; dsimp only; omega⟩ rfl (fun r237 w238 H locs h239 hP hS => ?_)
                            rw [h239] at hP
                            refine lv_bipush (v := 6) hx hb dL_build_857 (by decide) ?_
                            refine lv_iload hx hb dL_build_859 (lv_at hl 0 rfl) ?_
                            refine lv_imul hx hb dL_build_861 ?_
                            refine lv_topi (fun v240 ev240 => ?_)
                            have hv240 : v240 = nI (6 * k) := by
                              rw [ev240]
                              exact pk_mul 6 k
                            rw [hv240]
                            refine lv_ishr hx hb dL_build_862 ?_
                            refine lv_topi (fun v241 ev241 => ?_)
                            refine lv_istore (lv' := [(10, .int v241), (9, .int (nI k)), (8, .int (nI tr)), (7, .ref nn), (6, .ref pl), (5, .ref me), (4, .ref ge), (3, .ref sh), (2, .int (nI 0)), (1, .ref b9), (0, .ref x)]) hx hb dL_build_863 hl (by decide) rfl (fun ls hl => ?_)
                            refine lv_iconst (v := 5) hx hb dL_build_865 (by decide) ?_
                            refine lv_aload hx hb dL_build_866 (lv_at hl 3 rfl) ?_
                            refine lv_iconst (v := 3) hx hb dL_build_868 (by decide) ?_
                            refine g_iald F hP hnn (by unfold vp_in; decide) dL_build_869 ?_
                            refine lv_topi (fun v242 ev242 => ?_)
                            have hv242 : v242 = nI k := by
                              rw [ev242]
                              rw [show (3 : Int32).toNatClampNeg = 3 from by decide]
                              exact hf3
                            rw [hv242]
                            refine lv_imul hx hb dL_build_870 ?_
                            refine lv_topi (fun v243 ev243 => ?_)
                            have hv243 : v243 = nI (5 * k) := by
                              rw [ev243]
                              exact pk_mul 5 k
                            rw [hv243]
                            refine lv_istore (lv' := [(11, .int (nI (5 * k))), (10, .int v241), (9, .int (nI k)), (8, .int (nI tr)), (7, .ref nn), (6, .ref pl), (5, .ref me), (4, .ref ge), (3, .ref sh), (2, .int (nI 0)), (1, .ref b9), (0, .ref x)]) hx hb dL_build_871 hl (by decide) rfl (fun ls hl => ?_)
                            refine lv_aload hx hb dL_build_873 (lv_at hl 5 rfl) ?_
                            refine lv_iload hx hb dL_build_875 (lv_at hl 0 rfl) ?_
                            refine lv_iload hx hb dL_build_877 (lv_at hl 1 rfl) ?_
                            refine lv_aload hx hb dL_build_879 (lv_at hl 4 rfl) ?_
                            refine lv_iconst (v := 0) hx hb dL_build_881 (by decide) ?_
                            refine g_iald F hP hnn (by unfold vp_in; decide) dL_build_882 ?_
                            refine lv_topi (fun v244 ev244 => ?_)
                            have hv244 : v244 = nI n0 := by
                              rw [ev244]
                              rw [show (0 : Int32).toNatClampNeg = 0 from by decide]
                              exact hf0
                            rw [hv244]
                            refine g_Si (As := [.int v241, .int (nI n0)]) (rest := [.int (nI (5 * k)), .ref pl]) F hP hS (k_L_below l A G w v241 n0 (by omega) (by omega)) (va_cwS 2 hts gL_build_L_below rfl rfl rfl cd_L_below ⟨by rw [hR]; exact Nat.le_of_ble_eq_true rfl, by rw [hR]; exact Nat.le_of_ble_eq_true rfl⟩) rfl hl.1 (Nat.le_of_ble_eq_true rfl) dL_build_883 ⟨by rw [hR]; dsimp only; omega, by rw [hR]; dsimp only; omega⟩ rfl (fun r245 w246 H locs h247 hP hS => ?_)
                            have hr245 := h247.1
                            rw [h247.2] at hP
                            rw [hr245]
                            obtain ⟨b248, eb248⟩ : ∃ z, z = blw v241 n0 := ⟨_, rfl⟩
                            rw [← eb248]
                            have k249 : b248 < n0 := by rw [eb248]; exact blw_lt _ (by omega)
                            refine g_iast F hP hS hpl (vp_in_nI (by omega) (by omega)) dL_build_886 (fun H locs hP hS => ?_)
                            rw [nI_clamp (n := 5 * k) (by omega)] at hP
                            obtain ⟨w250, ew250⟩ : ∃ z, z = g_up w pl (.inl (G.2.1 0, 20, .inl (upd Fp (5 * k) (nI b248)))) := ⟨_, rfl⟩
                            have hP : g_P A G w250 H := by rw [ew250]; exact hP
                            have f251 : w250 nn = some (.inl (G.2.1 0, 6, .inl Fn)) := by rw [ew250]; exact g_up_f hnn (Ne.symm (dnnpl))
                            have f252 : w250 sh = some (.inl (G.2.1 0, 30, .inl Fs2)) := by rw [ew250]; exact g_up_f hsh (dshpl)
                            have f253 : w250 ge = some (.inl (G.2.1 0, 80, .inl Fg2)) := by rw [ew250]; exact g_up_f hge (dgepl)
                            have f254 : w250 me = some (.inl (G.2.1 0, 32, .inl Fm2)) := by rw [ew250]; exact g_up_f hme (dmepl)
                            have f255 : w250 pl = some (.inl (G.2.1 0, 20, .inl (upd Fp (5 * k) (nI b248)))) := by rw [ew250]; exact g_up_s _ _ _
                            have hB256 := lwB_set hB (List.mem_of_getElem? (i := 4) rfl) ew250
                            refine lv_aload hx hb dL_build_887 (lv_at hl 5 rfl) ?_
                            refine lv_iload hx hb dL_build_889 (lv_at hl 0 rfl) ?_
                            refine lv_iconst (v := 1) hx hb dL_build_891 (by decide) ?_
                            refine lv_iadd hx hb dL_build_892 ?_
                            refine lv_topi (fun v257 ev257 => ?_)
                            have hv257 : v257 = nI ((5 * k) + 1) := by
                              rw [ev257]
                              exact nI_add (5 * k) 1
                            rw [hv257]
                            refine lv_aload hx hb dL_build_893 (lv_at hl 5 rfl) ?_
                            refine lv_iload hx hb dL_build_895 (lv_at hl 0 rfl) ?_
                            refine g_iald F hP f255 (vp_in_nI (by omega) (by omega)) dL_build_897 ?_
                            refine lv_topi (fun v258 ev258 => ?_)
                            have hv258 : v258 = nI b248 := by
                              rw [ev258]
                              rw [nI_clamp (n := 5 * k) (by omega)]
                              exact pk_us
                            rw [hv258]
                            refine lv_iconst (v := 1) hx hb dL_build_898 (by decide) ?_
                            refine lv_iadd hx hb dL_build_899 ?_
                            refine lv_topi (fun v259 ev259 => ?_)
                            have hv259 : v259 = nI (b248 + 1) := by
                              rw [ev259]
                              exact nI_add b248 1
                            rw [hv259]
                            refine lv_aload hx hb dL_build_900 (lv_at hl 4 rfl) ?_
                            refine lv_iconst (v := 0) hx hb dL_build_902 (by decide) ?_
                            refine g_iald F hP f251 (by unfold vp_in; decide) dL_build_903 ?_
                            refine lv_topi (fun v260 ev260 => ?_)
                            have hv260 : v260 = nI n0 := by
                              rw [ev260]
                              rw [show (0 : Int32).toNatClampNeg = 0 from by decide]
                              exact hf0
                            rw [hv260]
                            refine lv_irem hx hb dL_build_904 (by decide) ?_
                            refine lv_topi (fun v261 ev261 => ?_)
                            have hv261 : v261 = nI ((b248 + 1) % n0) := by
                              rw [ev261]
                              exact nI_mod (a := (b248 + 1)) (d := n0) (by omega) (by omega) (by omega)
                            rw [hv261]
                            refine g_iast F hP hS f255 (vp_in_nI (by omega) (by omega)) dL_build_905 (fun H locs hP hS => ?_)
                            rw [nI_clamp (n := (5 * k) + 1) (by omega)] at hP
                            obtain ⟨w262, ew262⟩ : ∃ z, z = g_up w250 pl (.inl (G.2.1 0, 20, .inl (upd (upd Fp (5 * k) (nI b248)) ((5 * k) + 1) (nI ((b248 + 1) % n0))))) := ⟨_, rfl⟩
                            have hP : g_P A G w262 H := by rw [ew262]; exact hP
                            have f263 : w262 nn = some (.inl (G.2.1 0, 6, .inl Fn)) := by rw [ew262]; exact g_up_f f251 (Ne.symm (dnnpl))
                            have f264 : w262 sh = some (.inl (G.2.1 0, 30, .inl Fs2)) := by rw [ew262]; exact g_up_f f252 (dshpl)
                            have f265 : w262 ge = some (.inl (G.2.1 0, 80, .inl Fg2)) := by rw [ew262]; exact g_up_f f253 (dgepl)
                            have f266 : w262 me = some (.inl (G.2.1 0, 32, .inl Fm2)) := by rw [ew262]; exact g_up_f f254 (dmepl)
                            have f267 : w262 pl = some (.inl (G.2.1 0, 20, .inl (upd (upd Fp (5 * k) (nI b248)) ((5 * k) + 1) (nI ((b248 + 1) % n0))))) := by rw [ew262]; exact g_up_s _ _ _
                            have hB268 := lwB_set hB256 (List.mem_of_getElem? (i := 4) rfl) ew262
                            refine lv_aload hx hb dL_build_906 (lv_at hl 5 rfl) ?_
                            refine lv_iload hx hb dL_build_908 (lv_at hl 0 rfl) ?_
                            refine lv_iconst (v := 2) hx hb dL_build_910 (by decide) ?_
                            refine lv_iadd hx hb dL_build_911 ?_
                            refine lv_topi (fun v269 ev269 => ?_)
                            have hv269 : v269 = nI ((5 * k) + 2) := by
                              rw [ev269]
                              exact nI_add (5 * k) 2
                            rw [hv269]
                            refine lv_aload hx hb dL_build_912 (lv_at hl 5 rfl) ?_
                            refine lv_iload hx hb dL_build_914 (lv_at hl 0 rfl) ?_
                            refine g_iald F hP f267 (vp_in_nI (by omega) (by omega)) dL_build_916 ?_
                            refine lv_topi (fun v270 ev270 => ?_)
                            have hv270 : v270 = nI b248 := by
                              rw [ev270]
                              rw [nI_clamp (n := 5 * k) (by omega)]
                              exact (pk_un (k := ((5 * k) + 1)) (j := (5 * k)) (by omega)).trans (pk_us)
                            rw [hv270]
                            refine lv_iconst (v := 2) hx hb dL_build_917 (by decide) ?_
                            refine lv_iadd hx hb dL_build_918 ?_
                            refine lv_topi (fun v271 ev271 => ?_)
                            have hv271 : v271 = nI (b248 + 2) := by
                              rw [ev271]
                              exact nI_add b248 2
                            rw [hv271]
                            refine lv_aload hx hb dL_build_919 (lv_at hl 4 rfl) ?_
                            refine lv_iconst (v := 0) hx hb dL_build_921 (by decide) ?_
                            refine g_iald F hP f263 (by unfold vp_in; decide) dL_build_922 ?_
                            refine lv_topi (fun v272 ev272 => ?_)
                            have hv272 : v272 = nI n0 := by
                              rw [ev272]
                              rw [show (0 : Int32).toNatClampNeg = 0 from by decide]
                              exact hf0
                            rw [hv272]
                            refine lv_irem hx hb dL_build_923 (by decide) ?_
                            refine lv_topi (fun v273 ev273 => ?_)
                            have hv273 : v273 = nI ((b248 + 2) % n0) := by
                              rw [ev273]
                              exact nI_mod (a := (b248 + 2)) (d := n0) (by omega) (by omega) (by omega)
                            rw [hv273]
                            refine g_iast F hP hS f267 (vp_in_nI (by omega) (by omega)) dL_build_924 (fun H locs hP hS => ?_)
                            rw [nI_clamp (n := (5 * k) + 2) (by omega)] at hP
                            obtain ⟨w274, ew274⟩ : ∃ z, z = g_up w262 pl (.inl (G.2.1 0, 20, .inl (upd (upd (upd Fp (5 * k) (nI b248)) ((5 * k) + 1) (nI ((b248 + 1) % n0))) ((5 * k) + 2) (nI ((b248 + 2) % n0))))) := ⟨_, rfl⟩
                            have hP : g_P A G w274 H := by rw [ew274]; exact hP
                            have f275 : w274 nn = some (.inl (G.2.1 0, 6, .inl Fn)) := by rw [ew274]; exact g_up_f f263 (Ne.symm (dnnpl))
                            have f276 : w274 sh = some (.inl (G.2.1 0, 30, .inl Fs2)) := by rw [ew274]; exact g_up_f f264 (dshpl)
                            have f277 : w274 ge = some (.inl (G.2.1 0, 80, .inl Fg2)) := by rw [ew274]; exact g_up_f f265 (dgepl)
                            have f278 : w274 me = some (.inl (G.2.1 0, 32, .inl Fm2)) := by rw [ew274]; exact g_up_f f266 (dmepl)
                            have f279 : w274 pl = some (.inl (G.2.1 0, 20, .inl (upd (upd (upd Fp (5 * k) (nI b248)) ((5 * k) + 1) (nI ((b248 + 1) % n0))) ((5 * k) + 2) (nI ((b248 + 2) % n0))))) := by rw [ew274]; exact g_up_s _ _ _
                            have hB280 := lwB_set hB268 (List.mem_of_getElem? (i := 4) rfl) ew274
                            refine lv_aload hx hb dL_build_925 (lv_at hl 5 rfl) ?_
                            refine lv_iload hx hb dL_build_927 (lv_at hl 0 rfl) ?_
                            refine lv_iconst (v := 3) hx hb dL_build_929 (by decide) ?_
                            refine lv_iadd hx hb dL_build_930 ?_
                            refine lv_topi (fun v281 ev281 => ?_)
                            have hv281 : v281 = nI ((5 * k) + 3) := by
                              rw [ev281]
                              exact nI_add (5 * k) 3
                            rw [hv281]
                            refine lv_bipush (v := 8) hx hb dL_build_931 (by decide) ?_
                            refine lv_iload hx hb dL_build_933 (lv_at hl 1 rfl) ?_
                            refine lv_iconst (v := 2) hx hb dL_build_935 (by decide) ?_
                            refine lv_ishr hx hb dL_build_936 ?_
                            refine lv_topi (fun v282 ev282 => ?_)
                            refine lv_bipush (v := 93) hx hb dL_build_937 (by decide) ?_
                            refine g_Si (As := [.int v282, .int 93]) (rest := [.int 8, .int (nI ((5 * k) + 3)), .ref pl]) F hP hS (k_L_below l A G w274 v282 93 (by omega) (by omega)) (va_cwS 2 hts gL_build_L_below rfl rfl rfl cd_L_below ⟨by rw [hR]; exact Nat.le_of_ble_eq_true rfl, by rw [hR]; exact Nat.le_of_ble_eq_true rfl⟩) rfl hl.1 (Nat.le_of_ble_eq_true rfl) dL_build_939 ⟨by rw [hR]; dsimp only; omega, by rw [hR]; dsimp only; omega⟩ rfl (fun r283 w284 H locs h285 hP hS => ?_)
                            have hr283 := h285.1
                            rw [h285.2] at hP
                            rw [hr283]
                            obtain ⟨b286, eb286⟩ : ∃ z, z = blw v282 93 := ⟨_, rfl⟩
                            rw [← eb286]
                            have k287 : b286 < 93 := by rw [eb286]; exact blw_lt _ (by omega)
                            refine lv_iadd hx hb dL_build_942 ?_
                            refine lv_topi (fun v288 ev288 => ?_)
                            have hv288 : v288 = nI (8 + b286) := by
                              rw [ev288]
                              exact nI_add 8 b286
                            rw [hv288]
                            refine g_iast F hP hS f279 (vp_in_nI (by omega) (by omega)) dL_build_943 (fun H locs hP hS => ?_)
                            rw [nI_clamp (n := (5 * k) + 3) (by omega)] at hP
                            obtain ⟨w289, ew289⟩ : ∃ z, z = g_up w274 pl (.inl (G.2.1 0, 20, .inl (upd (upd (upd (upd Fp (5 * k) (nI b248)) ((5 * k) + 1) (nI ((b248 + 1) % n0))) ((5 * k) + 2) (nI ((b248 + 2) % n0))) ((5 * k) + 3) (nI (8 + b286))))) := ⟨_, rfl⟩
                            have hP : g_P A G w289 H := by rw [ew289]; exact hP
                            have f290 : w289 nn = some (.inl (G.2.1 0, 6, .inl Fn)) := by rw [ew289]; exact g_up_f f275 (Ne.symm (dnnpl))
                            have f291 : w289 sh = some (.inl (G.2.1 0, 30, .inl Fs2)) := by rw [ew289]; exact g_up_f f276 (dshpl)
                            have f292 : w289 ge = some (.inl (G.2.1 0, 80, .inl Fg2)) := by rw [ew289]; exact g_up_f f277 (dgepl)
                            have f293 : w289 me = some (.inl (G.2.1 0, 32, .inl Fm2)) := by rw [ew289]; exact g_up_f f278 (dmepl)
                            have f294 : w289 pl = some (.inl (G.2.1 0, 20, .inl (upd (upd (upd (upd Fp (5 * k) (nI b248)) ((5 * k) + 1) (nI ((b248 + 1) % n0))) ((5 * k) + 2) (nI ((b248 + 2) % n0))) ((5 * k) + 3) (nI (8 + b286))))) := by rw [ew289]; exact g_up_s _ _ _
                            have hB295 := lwB_set hB280 (List.mem_of_getElem? (i := 4) rfl) ew289
                            refine lv_bipush (v := 8) hx hb dL_build_944 (by decide) ?_
                            refine lv_iload hx hb dL_build_946 (lv_at hl 1 rfl) ?_
                            refine lv_iconst (v := 4) hx hb dL_build_948 (by decide) ?_
                            refine lv_ishr hx hb dL_build_949 ?_
                            refine lv_topi (fun v296 ev296 => ?_)
                            refine lv_bipush (v := 93) hx hb dL_build_950 (by decide) ?_
                            refine g_Si (As := [.int v296, .int 93]) (rest := [.int 8]) F hP hS (k_L_below l A G w289 v296 93 (by omega) (by omega)) (va_cwS 2 hts gL_build_L_below rfl rfl rfl cd_L_below ⟨by rw [hR]; exact Nat.le_of_ble_eq_true rfl, by rw [hR]; exact Nat.le_of_ble_eq_true rfl⟩) rfl hl.1 (Nat.le_of_ble_eq_true rfl) dL_build_952 ⟨by rw [hR]; dsimp only; omega, by rw [hR]; dsimp only; omega⟩ rfl (fun r297 w298 H locs h299 hP hS => ?_)
                            have hr297 := h299.1
                            rw [h299.2] at hP
                            rw [hr297]
                            obtain ⟨b300, eb300⟩ : ∃ z, z = blw v296 93 := ⟨_, rfl⟩
                            rw [← eb300]
                            have k301 : b300 < 93 := by rw [eb300]; exact blw_lt _ (by omega)
                            refine lv_iadd hx hb dL_build_955 ?_
                            refine lv_topi (fun v302 ev302 => ?_)
                            have hv302 : v302 = nI (8 + b300) := by
                              rw [ev302]
                              exact nI_add 8 b300
                            rw [hv302]
                            refine lv_istore (lv' := [(12, .int (nI (8 + b300))), (11, .int (nI (5 * k))), (10, .int v241), (9, .int (nI k)), (8, .int (nI tr)), (7, .ref nn), (6, .ref pl), (5, .ref me), (4, .ref ge), (3, .ref sh), (2, .int (nI 0)), (1, .ref b9), (0, .ref x)]) hx hb dL_build_956 hl (by decide) rfl (fun ls hl => ?_)
                            refine lv_aload hx hb dL_build_958 (lv_at hl 6 rfl) ?_
                            refine lv_iload hx hb dL_build_960 (lv_at hl 1 rfl) ?_
                            refine lv_iconst (v := 4) hx hb dL_build_962 (by decide) ?_
                            refine lv_iadd hx hb dL_build_963 ?_
                            refine lv_topi (fun v303 ev303 => ?_)
                            have hv303 : v303 = nI ((5 * k) + 4) := by
                              rw [ev303]
                              exact nI_add (5 * k) 4
                            rw [hv303]
                            refine lv_aload hx hb dL_build_964 (lv_at hl 6 rfl) ?_
                            refine lv_iload hx hb dL_build_966 (lv_at hl 1 rfl) ?_
                            refine lv_iconst (v := 3) hx hb dL_build_968 (by decide) ?_
                            refine lv_iadd hx hb dL_build_969 ?_
                            refine lv_topi (fun v304 ev304 => ?_)
                            have hv304 : v304 = nI ((5 * k) + 3) := by
                              rw [ev304]
                              exact nI_add (5 * k) 3
                            rw [hv304]
                            refine g_iald F hP f294 (vp_in_nI (by omega) (by omega)) dL_build_970 ?_
                            refine lv_topi (fun v305 ev305 => ?_)
                            have hv305 : v305 = nI (8 + b286) := by
                              rw [ev305]
                              rw [nI_clamp (n := (5 * k) + 3) (by omega)]
                              exact pk_us
                            rw [hv305]
                            refine lv_iload hx hb dL_build_971 (lv_at hl 0 rfl) ?_
                            refine lv_iadd hx hb dL_build_973 ?_
                            refine lv_topi (fun v306 ev306 => ?_)
                            have hv306 : v306 = nI ((8 + b286) + (8 + b300)) := by
                              rw [ev306]
                              exact nI_add (8 + b286) (8 + b300)
                            rw [hv306]
                            refine lv_iload hx hb dL_build_974 (lv_at hl 0 rfl) ?_
                            refine lv_iadd hx hb dL_build_976 ?_
                            refine lv_topi (fun v307 ev307 => ?_)
                            have hv307 : v307 = nI (((8 + b286) + (8 + b300)) + (8 + b300)) := by
                              rw [ev307]
                              exact nI_add ((8 + b286) + (8 + b300)) (8 + b300)
                            rw [hv307]
                            refine g_iast F hP hS f294 (vp_in_nI (by omega) (by omega)) dL_build_977 (fun H locs hP hS => ?_)
                            rw [nI_clamp (n := (5 * k) + 4) (by omega)] at hP
                            obtain ⟨w308, ew308⟩ : ∃ z, z = g_up w289 pl (.inl (G.2.1 0, 20, .inl (upd (upd (upd (upd (upd Fp (5 * k) (nI b248)) ((5 * k) + 1) (nI ((b248 + 1) % n0))) ((5 * k) + 2) (nI ((b248 + 2) % n0))) ((5 * k) + 3) (nI (8 + b286))) ((5 * k) + 4) (nI (((8 + b286) + (8 + b300)) + (8 + b300)))))) := ⟨_, rfl⟩
                            have hP : g_P A G w308 H := by rw [ew308]; exact hP
                            have f309 : w308 nn = some (.inl (G.2.1 0, 6, .inl Fn)) := by rw [ew308]; exact g_up_f f290 (Ne.symm (dnnpl))
                            have f310 : w308 sh = some (.inl (G.2.1 0, 30, .inl Fs2)) := by rw [ew308]; exact g_up_f f291 (dshpl)
                            have f311 : w308 ge = some (.inl (G.2.1 0, 80, .inl Fg2)) := by rw [ew308]; exact g_up_f f292 (dgepl)
                            have f312 : w308 me = some (.inl (G.2.1 0, 32, .inl Fm2)) := by rw [ew308]; exact g_up_f f293 (dmepl)
                            have f313 : w308 pl = some (.inl (G.2.1 0, 20, .inl (upd (upd (upd (upd (upd Fp (5 * k) (nI b248)) ((5 * k) + 1) (nI ((b248 + 1) % n0))) ((5 * k) + 2) (nI ((b248 + 2) % n0))) ((5 * k) + 3) (nI (8 + b286))) ((5 * k) + 4) (nI (((8 + b286) + (8 + b300)) + (8 + b300)))))) := by rw [ew308]; exact g_up_s _ _ _
                            have hB314 := lwB_set hB295 (List.mem_of_getElem? (i := 4) rfl) ew308
                            refine lv_aload_n hx hb dL_build_978 rfl (lv_at hl 12 rfl) ?_
                            refine lv_aload hx hb dL_build_979 (lv_at hl 6 rfl) ?_
                            refine lv_iload hx hb dL_build_981 (lv_at hl 1 rfl) ?_
                            refine g_iald F hP f313 (vp_in_nI (by omega) (by omega)) dL_build_983 ?_
                            refine lv_topi (fun v315 ev315 => ?_)
                            have hv315 : v315 = nI b248 := by
                              rw [ev315]
                              rw [nI_clamp (n := 5 * k) (by omega)]
                              exact (pk_un (k := ((5 * k) + 4)) (j := (5 * k)) (by omega)).trans ((pk_un (k := ((5 * k) + 3)) (j := (5 * k)) (by omega)).trans ((pk_un (k := ((5 * k) + 2)) (j := (5 * k)) (by omega)).trans ((pk_un (k := ((5 * k) + 1)) (j := (5 * k)) (by omega)).trans (pk_us))))
                            rw [hv315]
                            refine lv_aload hx hb dL_build_984 (lv_at hl 6 rfl) ?_
                            refine lv_iload hx hb dL_build_986 (lv_at hl 1 rfl) ?_
                            refine lv_iconst (v := 1) hx hb dL_build_988 (by decide) ?_
                            refine lv_iadd hx hb dL_build_989 ?_
                            refine lv_topi (fun v316 ev316 => ?_)
                            have hv316 : v316 = nI ((5 * k) + 1) := by
                              rw [ev316]
                              exact nI_add (5 * k) 1
                            rw [hv316]
                            refine g_iald F hP f313 (vp_in_nI (by omega) (by omega)) dL_build_990 ?_
                            refine lv_topi (fun v317 ev317 => ?_)
                            have hv317 : v317 = nI ((b248 + 1) % n0) := by
                              rw [ev317]
                              rw [nI_clamp (n := (5 * k) + 1) (by omega)]
                              exact (pk_un (k := ((5 * k) + 4)) (j := ((5 * k) + 1)) (by omega)).trans ((pk_un (k := ((5 * k) + 3)) (j := ((5 * k) + 1)) (by omega)).trans ((pk_un (k := ((5 * k) + 2)) (j := ((5 * k) + 1)) (by omega)).trans (pk_us)))
                            rw [hv317]
                            refine lv_aload hx hb dL_build_991 (lv_at hl 6 rfl) ?_
                            refine lv_iload hx hb dL_build_993 (lv_at hl 1 rfl) ?_
                            refine lv_iconst (v := 2) hx hb dL_build_995 (by decide) ?_
                            refine lv_iadd hx hb dL_build_996 ?_
                            refine lv_topi (fun v318 ev318 => ?_)
                            have hv318 : v318 = nI ((5 * k) + 2) := by
                              rw [ev318]
                              exact nI_add (5 * k) 2
                            rw [hv318]
                            refine g_iald F hP f313 (vp_in_nI (by omega) (by omega)) dL_build_997 ?_
                            refine lv_topi (fun v319 ev319 => ?_)
                            have hv319 : v319 = nI ((b248 + 2) % n0) := by
                              rw [ev319]
                              rw [nI_clamp (n := (5 * k) + 2) (by omega)]
                              exact (pk_un (k := ((5 * k) + 4)) (j := ((5 * k) + 2)) (by omega)).trans ((pk_un (k := ((5 * k) + 3)) (j := ((5 * k) + 2)) (by omega)).trans (pk_us))
                            rw [hv319]
                            refine lv_aload hx hb dL_build_998 (lv_at hl 6 rfl) ?_
                            refine lv_iload hx hb dL_build_1000 (lv_at hl 1 rfl) ?_
                            refine lv_iconst (v := 3) hx hb dL_build_1002 (by decide) ?_
                            refine lv_iadd hx hb dL_build_1003 ?_
                            refine lv_topi (fun v320 ev320 => ?_)
                            have hv320 : v320 = nI ((5 * k) + 3) := by
                              rw [ev320]
                              exact nI_add (5 * k) 3
                            rw [hv320]
                            refine g_iald F hP f313 (vp_in_nI (by omega) (by omega)) dL_build_1004 ?_
                            refine lv_topi (fun v321 ev321 => ?_)
                            have hv321 : v321 = nI (8 + b286) := by
                              rw [ev321]
                              rw [nI_clamp (n := (5 * k) + 3) (by omega)]
                              exact (pk_un (k := ((5 * k) + 4)) (j := ((5 * k) + 3)) (by omega)).trans (pk_us)
                            rw [hv321]
                            refine lv_iload hx hb dL_build_1005 (lv_at hl 0 rfl) ?_
                            have r1 := md_eq (u := b248) (n := n0) (d := 1) (by omega) (by omega)
                            have r2 := md_eq (u := b248) (n := n0) (d := 2) (by omega) (by omega)
                            obtain ⟨u1, eu1⟩ : ∃ z, z = (b248 + 1) % n0 := ⟨_, rfl⟩
                            obtain ⟨u2, eu2⟩ : ∃ z, z = (b248 + 2) % n0 := ⟨_, rfl⟩
                            rw [← eu1] at r1
                            rw [← eu2] at r2
                            have d1 : u1 < n0 ∧ u1 ≠ b248 ∧ u2 < n0 ∧ u2 ≠ b248 ∧ u1 ≠ u2 := by
                              split at r1 <;> split at r2 <;> omega
                            have t1 := nI_i b248 (by omega)
                            have t2 := nI_i u1 (by omega)
                            have t3 := nI_i u2 (by omega)
                            have t4 := nI_i (8 + b286) (by omega)
                            have t5 := nI_i (8 + b300) (by omega)
                            have ne : ∀ a b : Nat, a < 100 → b < 100 → a ≠ b → nI a ≠ nI b := fun a b h1 h2 h3 q => h3 ((nI_eq (by omega) (by omega)).mp q)
                            have hcp : cdAddPl S (nI b248) (nI u1) (nI u2) (nI (8 + b286)) (nI (8 + b300)) = 0 := (if_pos ⟨⟨by omega, by omega⟩, ⟨by omega, by omega⟩, by omega, by omega⟩).trans ((if_pos ⟨⟨ne _ _ (by omega) (by omega) (by omega), ne _ _ (by omega) (by omega) (by omega), ne _ _ (by omega) (by omega) (by omega)⟩, ⟨by rw [t4]; omega, by rw [t4]; omega⟩, by rw [t5]; omega, by rw [t5]; omega⟩).trans (if_pos (by omega)))
                            rw [eu1, eu2] at hcp
                            obtain ⟨ad, Cn, T, h00, hBn, hLn⟩ := id hB314
                            have hCo := k_X6_addPlanets l hlt A G w308 ad Cn S T (nI b248) (nI ((b248 + 1) % n0)) (nI ((b248 + 2) % n0)) (nI (8 + b286)) (nI (8 + b300)) hBn.1 hBn.2.1 hBn.2.2.1 hBn.2.2.2.1 hBn.2.2.2.2
                            rw [h00] at hCo
                            have hx0 := rep_x hBn.1 hBn.2.1
                            rw [h00] at hx0
                            refine g_cVi (As := [.int (nI b248), .int (nI ((b248 + 1) % n0)), .int (nI ((b248 + 2) % n0)), .int (nI (8 + b286)), .int (nI (8 + b300))]) (rest := []) F hP hS hCo (cwV 5 hts gL_build_X6_addPlanets rfl rfl rfl cd_X6_addPlanets ⟨by rw [hR]; exact Nat.le_of_ble_eq_true rfl, by rw [hR]; exact Nat.le_of_ble_eq_true rfl⟩) hx0 rfl rfl rfl hl.1 (Nat.le_of_ble_eq_true rfl) dL_build_1007 ⟨by rw [hR]; dsimp only; omega, by rw [hR]; dsimp only; omega⟩ rfl (fun E w9 ce q9 H locs hpx hP hS hce hcv hcl => ?_) (fun r322 w323 H locs h324 hP hS => ?_)
                            · have hcd := hcp
                              rcases hpx.2 with ⟨_, q⟩ | ⟨_, q⟩ | ⟨_, q⟩ <;> exact absurd (hcd.symm.trans q) (by decide)
                            · obtain ⟨hc0, er, hAf⟩ := h324
                              obtain ⟨S325, eS325⟩ : ∃ z, z = nxAddPl S (nI b248) (nI ((b248 + 1) % n0)) (nI ((b248 + 2) % n0)) (nI (8 + b286)) (nI (8 + b300)) := ⟨_, rfl⟩
                              rw [← eS325] at hAf
                              obtain ⟨hB326, kp327⟩ := lwB_aft h00 hLn hAf
                              have f328 : w323 nn = some (.inl (G.2.1 0, 6, .inl Fn)) := (kp327 nn (List.mem_of_getElem? (i := 0) rfl)).trans f309
                              have f329 : w323 sh = some (.inl (G.2.1 0, 30, .inl Fs2)) := (kp327 sh (List.mem_of_getElem? (i := 1) rfl)).trans f310
                              have f330 : w323 ge = some (.inl (G.2.1 0, 80, .inl Fg2)) := (kp327 ge (List.mem_of_getElem? (i := 2) rfl)).trans f311
                              have f331 : w323 me = some (.inl (G.2.1 0, 32, .inl Fm2)) := (kp327 me (List.mem_of_getElem? (i := 3) rfl)).trans f312
                              have f332 : w323 pl = some (.inl (G.2.1 0, 20, .inl (upd (upd (upd (upd (upd Fp (5 * k) (nI b248)) ((5 * k) + 1) (nI ((b248 + 1) % n0))) ((5 * k) + 2) (nI ((b248 + 2) % n0))) ((5 * k) + 3) (nI (8 + b286))) ((5 * k) + 4) (nI (((8 + b286) + (8 + b300)) + (8 + b300)))))) := (kp327 pl (List.mem_of_getElem? (i := 4) rfl)).trans f313
                              rw [er]
                              rw [← eu1, ← eu2] at eS325
                              obtain ⟨a1, a2, ⟨a11, a12, a13⟩, a4, a5⟩ := nx_planets eS325
                              have s0n : (S 0 3).toNat = k := by omega
                              rw [s0n] at a11 a12 a13 a4
                              rw [t1] at a11
                              rw [t2] at a12
                              rw [t3] at a13
                              have zk : S325 0 0 = n0 ∧ S325 0 1 = n1 ∧ S325 0 2 = m2 ∧ S325 0 3 = ((k + 1 : Nat) : Int) ∧ S325 0 4 = -1 := by rw [a2 0 (by decide), a2 1 (by decide), a2 2 (by decide), a1, a2 4 (by decide)]; omega
                              unfold vlAddPl
                              refine lv_aload hx hb dL_build_1010 (lv_at hl 5 rfl) ?_
                              refine lv_iconst (v := 3) hx hb dL_build_1012 (by decide) ?_
                              refine g_iald F hP f328 (by unfold vp_in; decide) dL_build_1013 ?_
                              refine lv_topi (fun v333 ev333 => ?_)
                              have hv333 : v333 = nI k := by
                                rw [ev333]
                                rw [show (3 : Int32).toNatClampNeg = 3 from by decide]
                                exact hf3
                              rw [hv333]
                              refine lv_icmp_eq (tgt := 1019) hx hb dL_build_1014 (by decide) (fun c334 => ?_) (fun c334 => ?_)
                              · refine lv_aload hx hb dL_build_1019 (lv_at hl 5 rfl) ?_
                                refine lv_iconst (v := 3) hx hb dL_build_1021 (by decide) ?_
                                refine lv_dup2_11 hx hb dL_build_1022 rfl rfl ?_
                                refine g_iald F hP f328 (by unfold vp_in; decide) dL_build_1023 ?_
                                refine lv_topi (fun v335 ev335 => ?_)
                                have hv335 : v335 = nI k := by
                                  rw [ev335]
                                  rw [show (3 : Int32).toNatClampNeg = 3 from by decide]
                                  exact hf3
                                rw [hv335]
                                refine lv_iconst (v := 1) hx hb dL_build_1024 (by decide) ?_
                                refine lv_iadd hx hb dL_build_1025 ?_
                                refine lv_topi (fun v336 ev336 => ?_)
                                have hv336 : v336 = nI (k + 1) := by
                                  rw [ev336]
                                  exact nI_add k 1
                                rw [hv336]
                                refine g_iast F hP hS f328 (by unfold vp_in; decide) dL_build_1026 (fun H locs hP hS => ?_)
                                rw [show (3 : Int32).toNatClampNeg = 3 from by decide] at hP
                                obtain ⟨w337, ew337⟩ : ∃ z, z = g_up w323 nn (.inl (G.2.1 0, 6, .inl (upd Fn 3 (nI (k + 1))))) := ⟨_, rfl⟩
                                have hP : g_P A G w337 H := by rw [ew337]; exact hP
                                have f338 : w337 sh = some (.inl (G.2.1 0, 30, .inl Fs2)) := by rw [ew337]; exact g_up_f f329 (dnnsh)
                                have f339 : w337 ge = some (.inl (G.2.1 0, 80, .inl Fg2)) := by rw [ew337]; exact g_up_f f330 (dnnge)
                                have f340 : w337 me = some (.inl (G.2.1 0, 32, .inl Fm2)) := by rw [ew337]; exact g_up_f f331 (dnnme)
                                have f341 : w337 pl = some (.inl (G.2.1 0, 20, .inl (upd (upd (upd (upd (upd Fp (5 * k) (nI b248)) ((5 * k) + 1) (nI ((b248 + 1) % n0))) ((5 * k) + 2) (nI ((b248 + 2) % n0))) ((5 * k) + 3) (nI (8 + b286))) ((5 * k) + 4) (nI (((8 + b286) + (8 + b300)) + (8 + b300)))))) := by rw [ew337]; exact g_up_f f332 (dnnpl)
                                have f342 : w337 nn = some (.inl (G.2.1 0, 6, .inl (upd Fn 3 (nI (k + 1))))) := by rw [ew337]; exact g_up_s _ _ _
                                have hB343 := lwB_set hB326 (List.mem_of_getElem? (i := 0) rfl) ew337
                                refine W.widen (k := 340 + 11 * (k + 1)) (n := 6100 + 150 * (k + 1)) (by omega) (by omega) ?_
                                have apk : arP S325 (k + 1) (upd (upd (upd (upd (upd Fp (5 * k) (nI b248)) ((5 * k) + 1) (nI ((b248 + 1) % n0))) ((5 * k) + 2) (nI ((b248 + 2) % n0))) ((5 * k) + 3) (nI (8 + b286))) ((5 * k) + 4) (nI (((8 + b286) + (8 + b300)) + (8 + b300)))) := arP_1 hap (fun f j hj _ _ => a4 f j (by omega) (by omega)) (fun j hj => by rw [pk_un (by omega), pk_un (by omega), pk_un (by omega), pk_un (by omega), pk_un (by omega)]) ⟨by rw [a11, pk_un (by omega), pk_un (by omega), pk_un (by omega), pk_un (by omega), pk_us]; exact (iL_n _).symm, by rw [a12, pk_un (by omega), pk_un (by omega), pk_un (by omega), pk_us, eu1]; exact (iL_n _).symm, by rw [a13, pk_un (by omega), pk_un (by omega), pk_us, eu2]; exact (iL_n _).symm⟩
                                have ask : arS S325 n0 Fs2 := arS_c has (fun j _ => a5 3 j (by decide) (Or.inl (by decide)))
                                have agk : arG S325 n1 Fg2 := arG_c hag (fun f j _ q1 q2 => a5 f j (by omega) (Or.inl (by omega)))
                                have amk : arM S325 m2 Fm2 := arM_c ham (fun f j _ q1 q2 => a5 f j (by omega) (Or.inl (by omega)))
                                obtain ⟨i344, ei344⟩ : ∃ y : Int32, y = nI k + (1) := ⟨_, rfl⟩
                                refine lv_iinc (v := i344) (lv' := [(9, .int i344), (12, .int (nI (8 + b300))), (11, .int (nI (5 * k))), (10, .int v241), (8, .int (nI tr)), (7, .ref nn), (6, .ref pl), (5, .ref me), (4, .ref ge), (3, .ref sh), (2, .int (nI 0)), (1, .ref b9), (0, .ref x)]) hx hb dL_build_1027 hl (k := 3) rfl (by rw [ei344]; rfl) (by decide) rfl (fun ls hl => ?_)
                                have hi344 : i344 = nI (k + 1) := by
                                  rw [ei344]
                                  exact nI_1 k
                                rw [hi344]
                                refine lv_goto (tgt := 834) hx hb dL_build_1030 (by decide) ?_
                                exact ih_L834 (k + 1) S325 (upd (upd (upd (upd (upd Fp (5 * k) (nI b248)) ((5 * k) + 1) (nI ((b248 + 1) % n0))) ((5 * k) + 2) (nI ((b248 + 2) % n0))) ((5 * k) + 3) (nI (8 + b286))) ((5 * k) + 4) (nI (((8 + b286) + (8 + b300)) + (8 + b300)))) (upd Fn 3 (nI (k + 1))) w337 H locs ls (by omega) (by omega) (hB343) (zk) (by rw [pk_un (by decide)]; exact hf0) (by rw [pk_un (by decide)]; exact hf1) (by rw [pk_un (by decide)]; exact hf2) (pk_us) (ask) (agk) (amk) (apk) f342 f338 f339 f340 f341 hP hS (lv_sub hl [0, 4, 5, 6, 7, 8, 9, 10, 11, 12] rfl)
                              · exact absurd (iL_nat (by omega)) c334
                    exact L834 (tr + 1) 0 S Fp0 Fn w H locs ls (by omega) (by omega) (hB) (⟨zz0, zz1, zz2, zz3, zz4⟩) (hf0) (hf1) (hf2) (hf3) (has) (hag) (ham) (arP_0 _ _) hnn hsh hge hme hpl hP hS (lv_sub hl [0, 1, 2, 3, 4, 5, 6, 7, 8, 9] rfl)
                  · have hkn : k < 24 := Nat.not_le.mp (fun q => c45 (nI_le (a := 24) q (by omega)))
                    refine lv_aload_n hx hb dL_build_400 rfl (lv_at hl 7 rfl) ?_
                    refine lv_iload_n hx hb dL_build_401 rfl (lv_at hl 6 rfl) ?_
                    refine lv_iconst (v := 5) hx hb dL_build_402 (by decide) ?_
                    refine lv_iadd hx hb dL_build_403 ?_
                    refine lv_topi (fun v345 ev345 => ?_)
                    have hv345 : v345 = nI (0 + 5) := by
                      rw [ev345]
                      exact nI_add 0 5
                    rw [hv345]
                    refine lv_iload hx hb dL_build_404 (lv_at hl 0 rfl) ?_
                    refine lv_iconst (v := 4) hx hb dL_build_406 (by decide) ?_
                    refine lv_irem hx hb dL_build_407 (by decide) ?_
                    refine lv_topi (fun v346 ev346 => ?_)
                    have hv346 : v346 = nI (k % 4) := by
                      rw [ev346]
                      exact nI_mod (a := k) (d := 4) (by omega) (by omega) (by omega)
                    rw [hv346]
                    refine lv_iadd hx hb dL_build_408 ?_
                    refine lv_topi (fun v347 ev347 => ?_)
                    have hv347 : v347 = nI ((0 + 5) + (k % 4)) := by
                      rw [ev347]
                      exact nI_add (0 + 5) (k % 4)
                    rw [hv347]
                    refine g_SiS (As := [.ref b9, .int (nI ((0 + 5) + (k % 4)))]) (rest := []) F hP hS hX hbl hbA (k_L_cell l A G w b9 N9 xs hbA ((0 + 5) + (k % 4)) (by omega) hN9) (va_cwS 2 hts gL_build_L_cell rfl rfl rfl cd_L_cell ⟨by rw [hR]; exact Nat.le_of_ble_eq_true rfl, by rw [hR]; exact Nat.le_of_ble_eq_true rfl⟩) rfl hl.1 (Nat.le_of_ble_eq_true rfl) dL_build_409 ⟨by rw [hR]; dsimp only; omega, by rw [hR]; dsimp only; omega⟩ rfl (fun r348 w349 H locs h350 hP hS => ?_)
                    rw [h350] at hP
                    refine lv_iload hx hb dL_build_412 (lv_at hl 0 rfl) ?_
                    refine lv_iconst (v := 4) hx hb dL_build_414 (by decide) ?_
                    refine lv_idiv hx hb dL_build_415 (by decide) ?_
                    refine lv_topi (fun v351 ev351 => ?_)
                    have hv351 : v351 = nI (k / 4) := by
                      rw [ev351]
                      exact nI_dv (a := k) (d := 4) (by omega) (by omega) (by omega)
                    rw [hv351]
                    refine lv_iconst (v := 4) hx hb dL_build_416 (by decide) ?_
                    refine lv_imul hx hb dL_build_417 ?_
                    refine lv_topi (fun v352 ev352 => ?_)
                    have hv352 : v352 = nI ((k / 4) * 4) := by
                      rw [ev352]
                      exact pk_mul (k / 4) 4
                    rw [hv352]
                    refine lv_ishr hx hb dL_build_418 ?_
                    refine lv_topi (fun v353 ev353 => ?_)
                    refine lv_istore (lv' := [(9, .int v353), (8, .int (nI k)), (7, .ref nn), (6, .ref pl), (5, .ref me), (4, .ref ge), (3, .ref sh), (2, .int (nI 0)), (1, .ref b9), (0, .ref x)]) hx hb dL_build_419 hl (by decide) rfl (fun ls hl => ?_)
                    refine lv_aload hx hb dL_build_421 (lv_at hl 2 rfl) ?_
                    refine lv_iconst (v := 1) hx hb dL_build_423 (by decide) ?_
                    refine g_iald F hP hnn (by unfold vp_in; decide) dL_build_424 ?_
                    refine lv_topi (fun v354 ev354 => ?_)
                    have hv354 : v354 = nI n1 := by
                      rw [ev354]
                      rw [show (1 : Int32).toNatClampNeg = 1 from by decide]
                      exact hf1
                    rw [hv354]
                    refine lv_if_eq (tgt := 811) hx hb dL_build_425 (by decide) (fun c355 => ?_) (fun c355 => ?_)
                    · refine W.widen (k := 100 + 10 * (k + 1)) (n := 2500 + 150 * (k + 1)) (by omega) (by omega) ?_
                      obtain ⟨i356, ei356⟩ : ∃ y : Int32, y = nI k + (1) := ⟨_, rfl⟩
                      refine lv_iinc (v := i356) (lv' := [(8, .int i356), (9, .int v353), (7, .ref nn), (6, .ref pl), (5, .ref me), (4, .ref ge), (3, .ref sh), (2, .int (nI 0)), (1, .ref b9), (0, .ref x)]) hx hb dL_build_811 hl (k := 1) rfl (by rw [ei356]; rfl) (by decide) rfl (fun ls hl => ?_)
                      have hi356 : i356 = nI (k + 1) := by
                        rw [ei356]
                        exact nI_1 k
                      rw [hi356]
                      refine lv_goto (tgt := 393) hx hb dL_build_814 (by decide) ?_
                      exact ih_L393 (k + 1) S Fm Fn c2 w H locs ls (by omega) (by omega) (hc2) (hB) (hz) (hf0) (hf1) (hf2) (hf3) (has) (hag) (ham) hnn hsh hge hme hpl hP hS (lv_sub hl [0, 2, 3, 4, 5, 6, 7, 8, 9] rfl)
                    · have hn1p : 0 < n1 := by
                        rcases Nat.eq_zero_or_pos n1 with q | q
                        · exact absurd (by rw [q]; rfl) c355
                        · exact q
                      refine lv_aload hx hb dL_build_428 (lv_at hl 2 rfl) ?_
                      refine lv_iconst (v := 2) hx hb dL_build_430 (by decide) ?_
                      refine g_iald F hP hnn (by unfold vp_in; decide) dL_build_431 ?_
                      refine lv_topi (fun v357 ev357 => ?_)
                      have hv357 : v357 = nI c2 := by
                        rw [ev357]
                        rw [show (2 : Int32).toNatClampNeg = 2 from by decide]
                        exact hf2
                      rw [hv357]
                      refine lv_bipush (v := 16) hx hb dL_build_432 (by decide) ?_
                      refine lv_icmp_ne (tgt := 440) hx hb dL_build_434 (by decide) (fun c358 => ?_) (fun c358 => ?_)
                      · have hc16 : c2 < 16 := by
                          rcases Nat.lt_or_ge c2 16 with q | q
                          · exact q
                          · exact absurd (by rw [show c2 = 16 by omega]; rfl) c358
                        refine lv_iload hx hb dL_build_440 (lv_at hl 0 rfl) ?_
                        refine lv_aload hx hb dL_build_442 (lv_at hl 2 rfl) ?_
                        refine lv_iconst (v := 1) hx hb dL_build_444 (by decide) ?_
                        refine g_iald F hP hnn (by unfold vp_in; decide) dL_build_445 ?_
                        refine lv_topi (fun v359 ev359 => ?_)
                        have hv359 : v359 = nI n1 := by
                          rw [ev359]
                          rw [show (1 : Int32).toNatClampNeg = 1 from by decide]
                          exact hf1
                        rw [hv359]
                        refine g_Si (As := [.int v353, .int (nI n1)]) (rest := []) F hP hS (k_L_below l A G w v353 n1 (by omega) (by omega)) (va_cwS 2 hts gL_build_L_below rfl rfl rfl cd_L_below ⟨by rw [hR]; exact Nat.le_of_ble_eq_true rfl, by rw [hR]; exact Nat.le_of_ble_eq_true rfl⟩) rfl hl.1 (Nat.le_of_ble_eq_true rfl) dL_build_446 ⟨by rw [hR]; dsimp only; omega, by rw [hR]; dsimp only; omega⟩ rfl (fun r360 w361 H locs h362 hP hS => ?_)
                        have hr360 := h362.1
                        rw [h362.2] at hP
                        rw [hr360]
                        obtain ⟨b363, eb363⟩ : ∃ z, z = blw v353 n1 := ⟨_, rfl⟩
                        rw [← eb363]
                        have k364 : b363 < n1 := by rw [eb363]; exact blw_lt _ (by omega)
                        obtain ⟨ga, ega⟩ : ∃ z, z = b363 := ⟨_, rfl⟩
                        rw [← ega]
                        have hga : ga < n1 := by omega
                        refine lv_istore (lv' := [(10, .int (nI ga)), (9, .int v353), (8, .int (nI k)), (7, .ref nn), (6, .ref pl), (5, .ref me), (4, .ref ge), (3, .ref sh), (2, .int (nI 0)), (1, .ref b9), (0, .ref x)]) hx hb dL_build_449 hl (by decide) rfl (fun ls hl => ?_)
                        refine lv_iload hx hb dL_build_451 (lv_at hl 1 rfl) ?_
                        refine lv_iconst (v := 3) hx hb dL_build_453 (by decide) ?_
                        refine lv_ishr hx hb dL_build_454 ?_
                        refine lv_topi (fun v365 ev365 => ?_)
                        refine lv_aload hx hb dL_build_455 (lv_at hl 3 rfl) ?_
                        refine lv_iconst (v := 1) hx hb dL_build_457 (by decide) ?_
                        refine g_iald F hP hnn (by unfold vp_in; decide) dL_build_458 ?_
                        refine lv_topi (fun v366 ev366 => ?_)
                        have hv366 : v366 = nI n1 := by
                          rw [ev366]
                          rw [show (1 : Int32).toNatClampNeg = 1 from by decide]
                          exact hf1
                        rw [hv366]
                        refine g_Si (As := [.int v365, .int (nI n1)]) (rest := []) F hP hS (k_L_below l A G w v365 n1 (by omega) (by omega)) (va_cwS 2 hts gL_build_L_below rfl rfl rfl cd_L_below ⟨by rw [hR]; exact Nat.le_of_ble_eq_true rfl, by rw [hR]; exact Nat.le_of_ble_eq_true rfl⟩) rfl hl.1 (Nat.le_of_ble_eq_true rfl) dL_build_459 ⟨by rw [hR]; dsimp only; omega, by rw [hR]; dsimp only; omega⟩ rfl (fun r367 w368 H locs h369 hP hS => ?_)
                        have hr367 := h369.1
                        rw [h369.2] at hP
                        rw [hr367]
                        obtain ⟨b370, eb370⟩ : ∃ z, z = blw v365 n1 := ⟨_, rfl⟩
                        rw [← eb370]
                        have k371 : b370 < n1 := by rw [eb370]; exact blw_lt _ (by omega)
                        obtain ⟨gb, egb⟩ : ∃ z, z = b370 := ⟨_, rfl⟩
                        rw [← egb]
                        have hgb : gb < n1 := by omega
                        refine lv_istore (lv' := [(11, .int (nI gb)), (10, .int (nI ga)), (9, .int v353), (8, .int (nI k)), (7, .ref nn), (6, .ref pl), (5, .ref me), (4, .ref ge), (3, .ref sh), (2, .int (nI 0)), (1, .ref b9), (0, .ref x)]) hx hb dL_build_462 hl (by decide) rfl (fun ls hl => ?_)
                        refine W.widen (k := (100 + 10 * k)) (n := (2500 + 150 * k)) (by omega) (by omega) ?_
                        have J551 : ∀ (cb : Bool) (H : Heap) (locs : List Loc) (ls : Array Slot), (cb = true ↔ (S 4 ga ≠ S 4 gb ∧ S 6 ga = S 6 gb ∧ S 7 ga = S 7 gb ∧ S 8 ga + S 8 gb < 2)) → g_P A G w H → va_S A s.heap H locs → lv_has ls 15 [(11, .int (nI gb)), (10, .int (nI ga)), (8, .int (nI k)), (7, .ref nn), (6, .ref pl), (5, .ref me), (4, .ref ge), (3, .ref sh), (2, .int (nI 0)), (1, .ref b9), (0, .ref x)] → W p l e R s m args below meth c H locs (100 + 10 * k) (2500 + 150 * k) Q (F0 m 551 ls [.int (g_b cb)]) := by
                          intro cb H locs ls h1 hP hS hl
                          refine lv_istore (lv' := [(12, .int (g_b cb)), (11, .int (nI gb)), (10, .int (nI ga)), (8, .int (nI k)), (7, .ref nn), (6, .ref pl), (5, .ref me), (4, .ref ge), (3, .ref sh), (2, .int (nI 0)), (1, .ref b9), (0, .ref x)]) hx hb dL_build_551 hl (by decide) rfl (fun ls hl => ?_)
                          refine W.widen (k := (100 + 10 * k)) (n := (2500 + 150 * k)) (by omega) (by omega) ?_
                          have J599 : ∀ (cc : Bool) (H : Heap) (locs : List Loc) (ls : Array Slot), (cc = true ↔ (cb = true ∧ (S 8 ga = 1 → S 5 gb < S 5 ga))) → g_P A G w H → va_S A s.heap H locs → lv_has ls 15 [(12, .int (g_b cc)), (11, .int (nI gb)), (10, .int (nI ga)), (8, .int (nI k)), (7, .ref nn), (6, .ref pl), (5, .ref me), (4, .ref ge), (3, .ref sh), (2, .int (nI 0)), (1, .ref b9), (0, .ref x)] → W p l e R s m args below meth c H locs (100 + 10 * k) (2500 + 150 * k) Q (F0 m 599 ls []) := by
                            intro cc H locs ls h2 hP hS hl
                            refine lv_aload hx hb dL_build_599 (lv_at hl 7 rfl) ?_
                            refine lv_iconst (v := 5) hx hb dL_build_601 (by decide) ?_
                            refine lv_iload hx hb dL_build_602 (lv_at hl 1 rfl) ?_
                            refine lv_imul hx hb dL_build_604 ?_
                            refine lv_topi (fun v372 ev372 => ?_)
                            have hv372 : v372 = nI (5 * gb) := by
                              rw [ev372]
                              exact pk_mul 5 gb
                            rw [hv372]
                            refine lv_iconst (v := 4) hx hb dL_build_605 (by decide) ?_
                            refine lv_iadd hx hb dL_build_606 ?_
                            refine lv_topi (fun v373 ev373 => ?_)
                            have hv373 : v373 = nI ((5 * gb) + 4) := by
                              rw [ev373]
                              exact nI_add (5 * gb) 4
                            rw [hv373]
                            refine g_iald F hP hge (vp_in_nI (by omega) (by omega)) dL_build_607 ?_
                            refine lv_topi (fun v374 ev374 => ?_)
                            have hv374 : v374 = Fg2 ((5 * gb) + 4) := by
                              rw [ev374]
                              rw [nI_clamp (n := (5 * gb) + 4) (by omega)]
                            rw [hv374]
                            refine lv_iconst (v := 1) hx hb dL_build_608 (by decide) ?_
                            refine lv_icmp_ne (tgt := 645) hx hb dL_build_609 (by decide) (fun c375 => ?_) (fun c375 => ?_)
                            · have yc375 : ¬ S 8 gb = 1 := fun q => c375 (by rw [q]; rfl)
                              refine lv_iconst (v := 0) hx hb dL_build_645 (by decide) ?_
                              refine lv_istore (lv' := [(13, .int 0), (12, .int (g_b cc)), (11, .int (nI gb)), (10, .int (nI ga)), (8, .int (nI k)), (7, .ref nn), (6, .ref pl), (5, .ref me), (4, .ref ge), (3, .ref sh), (2, .int (nI 0)), (1, .ref b9), (0, .ref x)]) hx hb dL_build_646 hl (by decide) rfl (fun ls hl => ?_)
                              have L648 : ∀ (n : Nat) (j : Nat) (ce : Bool) (H : Heap) (locs : List Loc) (ls : Array Slot), c2 + 1 ≤ j + n → (j ≤ c2) → (ce = true ↔ cd = true ∧ ∀ i, i < j → ¬ meshAt S i ga gb) → g_P A G w H → va_S A s.heap H locs → lv_has ls 15 [(13, .int (nI j)), (12, .int (g_b ce)), (11, .int (nI gb)), (10, .int (nI ga)), (8, .int (nI k)), (7, .ref nn), (6, .ref pl), (5, .ref me), (4, .ref ge), (3, .ref sh), (2, .int (nI 0)), (1, .ref b9), (0, .ref x)] → W p l e R s m args below meth c H locs ((100 + 10 * k)) ((2500 + 150 * k)) Q (F0 m 648 ls []) := by
                                intro n
                                induction n with
                                | zero =>
                                  intro j ce H locs ls hfu hj h4 hP hS hl
                                  exact absurd hfu (by omega)
                                | succ n ih_L648 =>
                                  intro j ce H locs ls hfu hj h4 hP hS hl
                                  refine lv_iload hx hb dL_build_648 (lv_at hl 0 rfl) ?_
                                  refine lv_aload hx hb dL_build_650 (lv_at hl 5 rfl) ?_
                                  refine lv_iconst (v := 2) hx hb dL_build_652 (by decide) ?_
                                  refine g_iald F hP hnn (by unfold vp_in; decide) dL_build_653 ?_
                                  refine lv_topi (fun v376 ev376 => ?_)
                                  have hv376 : v376 = nI c2 := by
                                    rw [ev376]
                                    rw [show (2 : Int32).toNatClampNeg = 2 from by decide]
                                    exact hf2
                                  rw [hv376]
                                  refine lv_icmp_ge (tgt := 727) hx hb dL_build_654 (by decide) (fun c377 => ?_) (fun c377 => ?_)
                                  · have zc377 : c2 ≤ j := (nI_leI (by omega) (by omega)).mp c377
                                    have ejn : j = c2 := by omega
                                    rw [ejn] at h4
                                    have hcan : ce = true ↔ canM S ga gb := by
                                      rw [h4, h3, h2, h1]
                                      constructor
                                      · intro q
                                        refine ⟨by omega, fun ⟨i, i1, i2⟩ => q.2 i (by omega) i2⟩
                                      · intro q
                                        obtain ⟨q1, q2⟩ := q
                                        exact ⟨by omega, fun i hi z => q2 ⟨i, by omega, z⟩⟩
                                    refine lv_bipush (v := (-2)) hx hb dL_build_727 (by decide) ?_
                                    refine lv_istore (lv' := [(13, .int (-2)), (12, .int (g_b ce)), (11, .int (nI gb)), (10, .int (nI ga)), (8, .int (nI k)), (7, .ref nn), (6, .ref pl), (5, .ref me), (4, .ref ge), (3, .ref sh), (2, .int (nI 0)), (1, .ref b9), (0, .ref x)]) hx hb dL_build_729 hl (by decide) rfl (fun ls hl => ?_)
                                    refine lv_aload_n hx hb dL_build_731 rfl (lv_at hl 12 rfl) ?_
                                    refine lv_iload hx hb dL_build_732 (lv_at hl 3 rfl) ?_
                                    refine lv_iload hx hb dL_build_734 (lv_at hl 2 rfl) ?_
                                    have tka := kN_n (k := ga) (by omega)
                                    have tkb := kN_n (k := gb) (by omega)
                                    have ta := nI_i ga (by omega)
                                    have tb := nI_i gb (by omega)
                                    have shq : shQ S 1 (nI ga) ∧ shQ S 1 (nI gb) := ⟨⟨by omega, by omega⟩, by omega, by omega⟩
                                    have cd1 : canM S ga gb → cdMesh S (nI ga) (nI gb) = 0 := fun q => (if_pos shq).trans (by rw [tka, tkb]; exact (if_pos q).trans (if_pos (by omega)))
                                    have cd2 : ¬ canM S ga gb → cdMesh S (nI ga) (nI gb) = 2 := fun q => (if_pos shq).trans (by rw [tka, tkb]; exact if_neg q)
                                    obtain ⟨ad, Cn, T, h00, hBn, hLn⟩ := id hB
                                    have hCo := k_X6_mesh l hlt A G w ad Cn S T (nI ga) (nI gb) hBn.1 hBn.2.1 hBn.2.2.1 hBn.2.2.2.1 hBn.2.2.2.2
                                    rw [h00] at hCo
                                    have hx0 := rep_x hBn.1 hBn.2.1
                                    rw [h00] at hx0
                                    refine g_cVi (As := [.int (nI ga), .int (nI gb)]) (rest := []) F hP hS hCo (cwV 2 hts gL_build_X6_mesh rfl rfl rfl cd_X6_mesh ⟨by rw [hR]; exact Nat.le_of_ble_eq_true rfl, by rw [hR]; exact Nat.le_of_ble_eq_true rfl⟩) hx0 rfl rfl rfl hl.1 (Nat.le_of_ble_eq_true rfl) dL_build_736 ⟨by rw [hR]; dsimp only; omega, by rw [hR]; dsimp only; omega⟩ rfl (fun E w9 ce q9 H locs hpx hP hS hce hcv hcl => ?_) (fun r378 w379 H locs h380 hP hS => ?_)
                                    · obtain ⟨ew9, hpx⟩ := hpx
                                      have ew9 : w9 = w := ew9
                                      rw [ew9] at hP
                                      have hno : ¬ canM S ga gb := fun q => by
                                        rcases hpx with ⟨_, z⟩ | ⟨_, z⟩ | ⟨_, z⟩ <;> exact absurd ((cd1 q).symm.trans z) (by decide)
                                      have eE : E = "java/lang/IllegalArgumentException" := by
                                        rcases hpx with ⟨_, z⟩ | ⟨z, _⟩ | ⟨_, z⟩
                                        · exact absurd ((cd2 hno).symm.trans z) (by decide)
                                        · exact z
                                        · exact absurd ((cd2 hno).symm.trans z) (by decide)
                                      subst eE
                                      refine vx_catch hown [] ⟨731, 741, 744, 35⟩ [] htab (fun z hz => (nomatch hz)) (by decide) (by decide) (hts _ (List.mem_cons_of_mem _ (List.mem_append_left _ (List.mem_append_left _ (List.mem_append_left _ (List.mem_append_left _ (List.mem_append_left _ (List.mem_append_left _ (List.mem_append_left _ (List.mem_append_left _ (List.mem_append_left _ (List.mem_append_left _ (List.mem_append_left _ (List.mem_append_left _ (List.mem_append_left _ (List.mem_of_getElem? (i := 0) rfl)))))))))))))))) (va_Nw.use rfl (hZ.2.2.2.2.2.2.2.1 ("java/lang/IllegalArgumentException", "java/lang/IllegalArgumentException") (List.mem_of_getElem? (i := 0) rfl))) hce hcv hcl ?_
                                      have yce : ce_ = false := by
                                        cases hq : ce_
                                        · rfl
                                        · exact absurd (hcan.mp hq) hno
                                      refine lv_astore (lv' := [(14, .ref q9), (13, .int (-2)), (12, .int (g_b ce)), (11, .int (nI gb)), (10, .int (nI ga)), (8, .int (nI k)), (7, .ref nn), (6, .ref pl), (5, .ref me), (4, .ref ge), (3, .ref sh), (2, .int (nI 0)), (1, .ref b9), (0, .ref x)]) hx hb dL_build_744 hl (by decide) rfl (fun ls hl => ?_)
                                      refine lv_bipush (v := (-2)) hx hb dL_build_746 (by decide) ?_
                                      refine lv_istore (lv' := [(13, .int (-2)), (14, .ref q9), (12, .int (g_b ce)), (11, .int (nI gb)), (10, .int (nI ga)), (8, .int (nI k)), (7, .ref nn), (6, .ref pl), (5, .ref me), (4, .ref ge), (3, .ref sh), (2, .int (nI 0)), (1, .ref b9), (0, .ref x)]) hx hb dL_build_748 hl (by decide) rfl (fun ls hl => ?_)
                                      refine lv_iload hx hb dL_build_750 (lv_at hl 0 rfl) ?_
                                      refine lv_iload hx hb dL_build_752 (lv_at hl 2 rfl) ?_
                                      refine lv_if_eq (tgt := 764) hx hb dL_build_754 (by decide) (fun c381 => ?_) (fun c381 => ?_)
                                      · refine lv_bipush (v := (-2)) hx hb dL_build_764 (by decide) ?_
                                        refine lv_icmp_eq (tgt := 771) hx hb dL_build_766 (by decide) (fun c382 => ?_) (fun c382 => ?_)
                                        · refine lv_iload hx hb dL_build_771 (lv_at hl 2 rfl) ?_
                                          refine lv_if_ne (tgt := 779) hx hb dL_build_773 (by decide) (fun c383 => ?_) (fun c383 => ?_)
                                          · exact absurd (by rw [yce]; rfl) c383
                                          · refine lv_goto (tgt := 811) hx hb dL_build_776 (by decide) ?_
                                            refine W.widen (k := 100 + 10 * (k + 1)) (n := 2500 + 150 * (k + 1)) (by omega) (by omega) ?_
                                            obtain ⟨i384, ei384⟩ : ∃ y : Int32, y = nI k + (1) := ⟨_, rfl⟩
                                            refine lv_iinc (v := i384) (lv' := [(8, .int i384), (13, .int (-2)), (14, .ref q9), (12, .int (g_b ce)), (11, .int (nI gb)), (10, .int (nI ga)), (7, .ref nn), (6, .ref pl), (5, .ref me), (4, .ref ge), (3, .ref sh), (2, .int (nI 0)), (1, .ref b9), (0, .ref x)]) hx hb dL_build_811 hl (k := 5) rfl (by rw [ei384]; rfl) (by decide) rfl (fun ls hl => ?_)
                                            have hi384 : i384 = nI (k + 1) := by
                                              rw [ei384]
                                              exact nI_1 k
                                            rw [hi384]
                                            refine lv_goto (tgt := 393) hx hb dL_build_814 (by decide) ?_
                                            exact ih_L393 (k + 1) S Fm Fn c2 w H locs ls (by omega) (by omega) (hc2) (hB) (hz) (hf0) (hf1) (hf2) (hf3) (has) (hag) (ham) hnn hsh hge hme hpl hP hS (lv_sub hl [0, 6, 7, 8, 9, 10, 11, 12, 13] rfl)
                                        · exact absurd rfl c382
                                      · exact absurd (by rw [yce]; rfl) c381
                                    · obtain ⟨hc0, er, hAf⟩ := h380
                                      obtain ⟨S385, eS385⟩ : ∃ z, z = nxMesh S (nI ga) (nI gb) := ⟨_, rfl⟩
                                      rw [← eS385] at hAf
                                      obtain ⟨hB386, kp387⟩ := lwB_aft h00 hLn hAf
                                      have f388 : w379 nn = some (.inl (G.2.1 0, 6, .inl Fn)) := (kp387 nn (List.mem_of_getElem? (i := 0) rfl)).trans hnn
                                      have f389 : w379 sh = some (.inl (G.2.1 0, 30, .inl Fs2)) := (kp387 sh (List.mem_of_getElem? (i := 1) rfl)).trans hsh
                                      have f390 : w379 ge = some (.inl (G.2.1 0, 80, .inl Fg2)) := (kp387 ge (List.mem_of_getElem? (i := 2) rfl)).trans hge
                                      have f391 : w379 me = some (.inl (G.2.1 0, 32, .inl Fm)) := (kp387 me (List.mem_of_getElem? (i := 3) rfl)).trans hme
                                      have f392 : w379 pl = some (.inl (G.2.1 0, 20, .inl Fp0)) := (kp387 pl (List.mem_of_getElem? (i := 4) rfl)).trans hpl
                                      rw [er]
                                      have yes : canM S ga gb := by
                                        rcases Classical.em (canM S ga gb) with q | q
                                        · exact q
                                        · exact absurd ((cd2 q).symm.trans hc0) (by decide)
                                      have yce := hcan.mpr yes
                                      obtain ⟨a1, a2, a9, a10, a4, a5⟩ := nx_mesh eS385
                                      have s0n : (S 0 2).toNat = c2 := by omega
                                      rw [s0n, ta] at a9
                                      rw [s0n, tb] at a10
                                      rw [s0n] at a4
                                      have zk : S385 0 0 = n0 ∧ S385 0 1 = n1 ∧ S385 0 2 = ((c2 + 1 : Nat) : Int) ∧ S385 0 3 = 0 ∧ S385 0 4 = -1 := by rw [a2 0 (by decide), a2 1 (by decide), a1, a2 3 (by decide), a2 4 (by decide)]; omega
                                      unfold vlMesh
                                      rw [iL_nat (n := c2) (by omega : S 0 2 = (c2 : Int))]
                                      refine lv_istore (lv' := [(13, .int (nI c2)), (12, .int (g_b ce)), (11, .int (nI gb)), (10, .int (nI ga)), (8, .int (nI k)), (7, .ref nn), (6, .ref pl), (5, .ref me), (4, .ref ge), (3, .ref sh), (2, .int (nI 0)), (1, .ref b9), (0, .ref x)]) hx hb dL_build_739 hl (by decide) rfl (fun ls hl => ?_)
                                      refine lv_goto (tgt := 750) hx hb dL_build_741 (by decide) ?_
                                      refine lv_iload hx hb dL_build_750 (lv_at hl 0 rfl) ?_
                                      refine lv_iload hx hb dL_build_752 (lv_at hl 1 rfl) ?_
                                      refine lv_if_eq (tgt := 764) hx hb dL_build_754 (by decide) (fun c393 => ?_) (fun c393 => ?_)
                                      · exact absurd (g_b0.mp c393) (by rw [yce]; decide)
                                      · refine lv_aload hx hb dL_build_757 (lv_at hl 5 rfl) ?_
                                        refine lv_iconst (v := 2) hx hb dL_build_759 (by decide) ?_
                                        refine g_iald F hP f388 (by unfold vp_in; decide) dL_build_760 ?_
                                        refine lv_topi (fun v394 ev394 => ?_)
                                        have hv394 : v394 = nI c2 := by
                                          rw [ev394]
                                          rw [show (2 : Int32).toNatClampNeg = 2 from by decide]
                                          exact hf2
                                        rw [hv394]
                                        refine lv_goto (tgt := 766) hx hb dL_build_761 (by decide) ?_
                                        refine lv_icmp_eq (tgt := 771) hx hb dL_build_766 (by decide) (fun c395 => ?_) (fun c395 => ?_)
                                        · refine lv_iload hx hb dL_build_771 (lv_at hl 1 rfl) ?_
                                          refine lv_if_ne (tgt := 779) hx hb dL_build_773 (by decide) (fun c396 => ?_) (fun c396 => ?_)
                                          · refine lv_aload hx hb dL_build_779 (lv_at hl 7 rfl) ?_
                                            refine lv_iconst (v := 2) hx hb dL_build_781 (by decide) ?_
                                            refine lv_aload hx hb dL_build_782 (lv_at hl 5 rfl) ?_
                                            refine lv_iconst (v := 2) hx hb dL_build_784 (by decide) ?_
                                            refine g_iald F hP f388 (by unfold vp_in; decide) dL_build_785 ?_
                                            refine lv_topi (fun v397 ev397 => ?_)
                                            have hv397 : v397 = nI c2 := by
                                              rw [ev397]
                                              rw [show (2 : Int32).toNatClampNeg = 2 from by decide]
                                              exact hf2
                                            rw [hv397]
                                            refine lv_imul hx hb dL_build_786 ?_
                                            refine lv_topi (fun v398 ev398 => ?_)
                                            have hv398 : v398 = nI (2 * c2) := by
                                              rw [ev398]
                                              exact pk_mul 2 c2
                                            rw [hv398]
                                            refine lv_iload hx hb dL_build_787 (lv_at hl 3 rfl) ?_
                                            refine g_iast F hP hS f391 (vp_in_nI (by omega) (by omega)) dL_build_789 (fun H locs hP hS => ?_)
                                            rw [nI_clamp (n := 2 * c2) (by omega)] at hP
                                            obtain ⟨w399, ew399⟩ : ∃ z, z = g_up w379 me (.inl (G.2.1 0, 32, .inl (upd Fm (2 * c2) (nI ga)))) := ⟨_, rfl⟩
                                            have hP : g_P A G w399 H := by rw [ew399]; exact hP
                                            have f400 : w399 nn = some (.inl (G.2.1 0, 6, .inl Fn)) := by rw [ew399]; exact g_up_f f388 (Ne.symm (dnnme))
                                            have f401 : w399 sh = some (.inl (G.2.1 0, 30, .inl Fs2)) := by rw [ew399]; exact g_up_f f389 (dshme)
                                            have f402 : w399 ge = some (.inl (G.2.1 0, 80, .inl Fg2)) := by rw [ew399]; exact g_up_f f390 (dgeme)
                                            have f403 : w399 pl = some (.inl (G.2.1 0, 20, .inl Fp0)) := by rw [ew399]; exact g_up_f f392 (Ne.symm (dmepl))
                                            have f404 : w399 me = some (.inl (G.2.1 0, 32, .inl (upd Fm (2 * c2) (nI ga)))) := by rw [ew399]; exact g_up_s _ _ _
                                            have hB405 := lwB_set hB386 (List.mem_of_getElem? (i := 3) rfl) ew399
                                            refine lv_aload hx hb dL_build_790 (lv_at hl 7 rfl) ?_
                                            refine lv_iconst (v := 2) hx hb dL_build_792 (by decide) ?_
                                            refine lv_aload hx hb dL_build_793 (lv_at hl 5 rfl) ?_
                                            refine lv_iconst (v := 2) hx hb dL_build_795 (by decide) ?_
                                            refine g_iald F hP f400 (by unfold vp_in; decide) dL_build_796 ?_
                                            refine lv_topi (fun v406 ev406 => ?_)
                                            have hv406 : v406 = nI c2 := by
                                              rw [ev406]
                                              rw [show (2 : Int32).toNatClampNeg = 2 from by decide]
                                              exact hf2
                                            rw [hv406]
                                            refine lv_imul hx hb dL_build_797 ?_
                                            refine lv_topi (fun v407 ev407 => ?_)
                                            have hv407 : v407 = nI (2 * c2) := by
                                              rw [ev407]
                                              exact pk_mul 2 c2
                                            rw [hv407]
                                            refine lv_iconst (v := 1) hx hb dL_build_798 (by decide) ?_
                                            refine lv_iadd hx hb dL_build_799 ?_
                                            refine lv_topi (fun v408 ev408 => ?_)
                                            have hv408 : v408 = nI ((2 * c2) + 1) := by
                                              rw [ev408]
                                              exact nI_add (2 * c2) 1
                                            rw [hv408]
                                            refine lv_iload hx hb dL_build_800 (lv_at hl 2 rfl) ?_
                                            refine g_iast F hP hS f404 (vp_in_nI (by omega) (by omega)) dL_build_802 (fun H locs hP hS => ?_)
                                            rw [nI_clamp (n := (2 * c2) + 1) (by omega)] at hP
                                            obtain ⟨w409, ew409⟩ : ∃ z, z = g_up w399 me (.inl (G.2.1 0, 32, .inl (upd (upd Fm (2 * c2) (nI ga)) ((2 * c2) + 1) (nI gb)))) := ⟨_, rfl⟩
                                            have hP : g_P A G w409 H := by rw [ew409]; exact hP
                                            have f410 : w409 nn = some (.inl (G.2.1 0, 6, .inl Fn)) := by rw [ew409]; exact g_up_f f400 (Ne.symm (dnnme))
                                            have f411 : w409 sh = some (.inl (G.2.1 0, 30, .inl Fs2)) := by rw [ew409]; exact g_up_f f401 (dshme)
                                            have f412 : w409 ge = some (.inl (G.2.1 0, 80, .inl Fg2)) := by rw [ew409]; exact g_up_f f402 (dgeme)
                                            have f413 : w409 pl = some (.inl (G.2.1 0, 20, .inl Fp0)) := by rw [ew409]; exact g_up_f f403 (Ne.symm (dmepl))
                                            have f414 : w409 me = some (.inl (G.2.1 0, 32, .inl (upd (upd Fm (2 * c2) (nI ga)) ((2 * c2) + 1) (nI gb)))) := by rw [ew409]; exact g_up_s _ _ _
                                            have hB415 := lwB_set hB405 (List.mem_of_getElem? (i := 3) rfl) ew409
                                            refine lv_aload hx hb dL_build_803 (lv_at hl 5 rfl) ?_
                                            refine lv_iconst (v := 2) hx hb dL_build_805 (by decide) ?_
                                            refine lv_dup2_11 hx hb dL_build_806 rfl rfl ?_
                                            refine g_iald F hP f410 (by unfold vp_in; decide) dL_build_807 ?_
                                            refine lv_topi (fun v416 ev416 => ?_)
                                            have hv416 : v416 = nI c2 := by
                                              rw [ev416]
                                              rw [show (2 : Int32).toNatClampNeg = 2 from by decide]
                                              exact hf2
                                            rw [hv416]
                                            refine lv_iconst (v := 1) hx hb dL_build_808 (by decide) ?_
                                            refine lv_iadd hx hb dL_build_809 ?_
                                            refine lv_topi (fun v417 ev417 => ?_)
                                            have hv417 : v417 = nI (c2 + 1) := by
                                              rw [ev417]
                                              exact nI_add c2 1
                                            rw [hv417]
                                            refine g_iast F hP hS f410 (by unfold vp_in; decide) dL_build_810 (fun H locs hP hS => ?_)
                                            rw [show (2 : Int32).toNatClampNeg = 2 from by decide] at hP
                                            obtain ⟨w418, ew418⟩ : ∃ z, z = g_up w409 nn (.inl (G.2.1 0, 6, .inl (upd Fn 2 (nI (c2 + 1))))) := ⟨_, rfl⟩
                                            have hP : g_P A G w418 H := by rw [ew418]; exact hP
                                            have f419 : w418 sh = some (.inl (G.2.1 0, 30, .inl Fs2)) := by rw [ew418]; exact g_up_f f411 (dnnsh)
                                            have f420 : w418 ge = some (.inl (G.2.1 0, 80, .inl Fg2)) := by rw [ew418]; exact g_up_f f412 (dnnge)
                                            have f421 : w418 pl = some (.inl (G.2.1 0, 20, .inl Fp0)) := by rw [ew418]; exact g_up_f f413 (dnnpl)
                                            have f422 : w418 me = some (.inl (G.2.1 0, 32, .inl (upd (upd Fm (2 * c2) (nI ga)) ((2 * c2) + 1) (nI gb)))) := by rw [ew418]; exact g_up_f f414 (dnnme)
                                            have f423 : w418 nn = some (.inl (G.2.1 0, 6, .inl (upd Fn 2 (nI (c2 + 1))))) := by rw [ew418]; exact g_up_s _ _ _
                                            have hB424 := lwB_set hB415 (List.mem_of_getElem? (i := 0) rfl) ew418
                                            refine W.widen (k := 100 + 10 * (k + 1)) (n := 2500 + 150 * (k + 1)) (by omega) (by omega) ?_
                                            have amk : arM S385 (c2 + 1) (upd (upd Fm (2 * c2) (nI ga)) ((2 * c2) + 1) (nI gb)) := arM_1 ham (fun f j hj _ _ => a4 f j (by omega) (by omega)) (fun j hj => by rw [pk_un (by omega), pk_un (by omega)]) ⟨by rw [a9, pk_un (by omega), pk_us]; exact (iL_n ga).symm, by rw [a10, pk_us]; exact (iL_n gb).symm⟩
                                            have ask : arS S385 n0 Fs2 := arS_c has (fun j _ => a5 3 j (by decide) (by decide) (by decide))
                                            have agk : arG S385 n1 Fg2 := arG_c hag (fun f j _ q1 q2 => a5 f j (by omega) (by omega) (by omega))
                                            obtain ⟨i425, ei425⟩ : ∃ y : Int32, y = nI k + (1) := ⟨_, rfl⟩
                                            refine lv_iinc (v := i425) (lv' := [(8, .int i425), (13, .int (nI c2)), (12, .int (g_b ce)), (11, .int (nI gb)), (10, .int (nI ga)), (7, .ref nn), (6, .ref pl), (5, .ref me), (4, .ref ge), (3, .ref sh), (2, .int (nI 0)), (1, .ref b9), (0, .ref x)]) hx hb dL_build_811 hl (k := 4) rfl (by rw [ei425]; rfl) (by decide) rfl (fun ls hl => ?_)
                                            have hi425 : i425 = nI (k + 1) := by
                                              rw [ei425]
                                              exact nI_1 k
                                            rw [hi425]
                                            refine lv_goto (tgt := 393) hx hb dL_build_814 (by decide) ?_
                                            exact ih_L393 (k + 1) S385 (upd (upd Fm (2 * c2) (nI ga)) ((2 * c2) + 1) (nI gb)) (upd Fn 2 (nI (c2 + 1))) (c2 + 1) w418 H locs ls (by omega) (by omega) (by omega) (hB424) (zk) (by rw [pk_un (by decide)]; exact hf0) (by rw [pk_un (by decide)]; exact hf1) (pk_us) (by rw [pk_un (by decide)]; exact hf3) (ask) (agk) (amk) f423 f419 f420 f422 f421 hP hS (lv_sub hl [0, 5, 6, 7, 8, 9, 10, 11, 12] rfl)
                                          · exact absurd (g_b0.mp (Decidable.not_not.mp c396)) (by rw [yce]; decide)
                                        · exact absurd rfl c395
                                  · have hjn : j < c2 := Nat.not_le.mp (fun q => c377 (nI_le q (by omega)))
                                    obtain ⟨m9, m10⟩ := ham j hjn
                                    have GM := Hi.2.2.2.1 j (by omega)
                                    refine lv_iload hx hb dL_build_657 (lv_at hl 1 rfl) ?_
                                    refine lv_if_eq (tgt := 718) hx hb dL_build_659 (by decide) (fun c426 => ?_) (fun c426 => ?_)
                                    · have yc426 : ce = false := g_b0.mp c426
                                      refine lv_iconst (v := 0) hx hb dL_build_718 (by decide) ?_
                                      refine lv_istore (lv' := [(12, .int 0), (13, .int (nI j)), (11, .int (nI gb)), (10, .int (nI ga)), (8, .int (nI k)), (7, .ref nn), (6, .ref pl), (5, .ref me), (4, .ref ge), (3, .ref sh), (2, .int (nI 0)), (1, .ref b9), (0, .ref x)]) hx hb dL_build_719 hl (by decide) rfl (fun ls hl => ?_)
                                      obtain ⟨i427, ei427⟩ : ∃ y : Int32, y = nI j + (1) := ⟨_, rfl⟩
                                      refine lv_iinc (v := i427) (lv' := [(13, .int i427), (12, .int 0), (11, .int (nI gb)), (10, .int (nI ga)), (8, .int (nI k)), (7, .ref nn), (6, .ref pl), (5, .ref me), (4, .ref ge), (3, .ref sh), (2, .int (nI 0)), (1, .ref b9), (0, .ref x)]) hx hb dL_build_721 hl (k := 1) rfl (by rw [ei427]; rfl) (by decide) rfl (fun ls hl => ?_)
                                      have hi427 : i427 = nI (j + 1) := by
                                        rw [ei427]
                                        exact nI_1 j
                                      rw [hi427]
                                      refine lv_goto (tgt := 648) hx hb dL_build_724 (by decide) ?_
                                      exact ih_L648 (j + 1) false  H locs ls (by omega) (by omega) (at_0 h4 yc426) hP hS (lv_sub hl [0, 1, 2, 3, 4, 5, 6, 7, 8, 9, 10, 11, 12] rfl)
                                    · have yc426 : ce = true := g_b1.mp c426
                                      refine lv_aload hx hb dL_build_662 (lv_at hl 7 rfl) ?_
                                      refine lv_iconst (v := 2) hx hb dL_build_664 (by decide) ?_
                                      refine lv_iload hx hb dL_build_665 (lv_at hl 0 rfl) ?_
                                      refine lv_imul hx hb dL_build_667 ?_
                                      refine lv_topi (fun v428 ev428 => ?_)
                                      have hv428 : v428 = nI (2 * j) := by
                                        rw [ev428]
                                        exact pk_mul 2 j
                                      rw [hv428]
                                      refine g_iald F hP hme (vp_in_nI (by omega) (by omega)) dL_build_668 ?_
                                      refine lv_topi (fun v429 ev429 => ?_)
                                      have hv429 : v429 = iL (S 9 j) := by
                                        rw [ev429]
                                        rw [nI_clamp (n := 2 * j) (by omega)]
                                        exact m9
                                      rw [hv429]
                                      refine lv_iload hx hb dL_build_669 (lv_at hl 3 rfl) ?_
                                      refine lv_icmp_ne (tgt := 688) hx hb dL_build_671 (by decide) (fun c430 => ?_) (fun c430 => ?_)
                                      · have yc430 : ¬ S 9 j = (ga : Int) := fun q => c430 (iL_nat q)
                                        refine lv_aload hx hb dL_build_688 (lv_at hl 7 rfl) ?_
                                        refine lv_iconst (v := 2) hx hb dL_build_690 (by decide) ?_
                                        refine lv_iload hx hb dL_build_691 (lv_at hl 0 rfl) ?_
                                        refine lv_imul hx hb dL_build_693 ?_
                                        refine lv_topi (fun v431 ev431 => ?_)
                                        have hv431 : v431 = nI (2 * j) := by
                                          rw [ev431]
                                          exact pk_mul 2 j
                                        rw [hv431]
                                        refine g_iald F hP hme (vp_in_nI (by omega) (by omega)) dL_build_694 ?_
                                        refine lv_topi (fun v432 ev432 => ?_)
                                        have hv432 : v432 = iL (S 9 j) := by
                                          rw [ev432]
                                          rw [nI_clamp (n := 2 * j) (by omega)]
                                          exact m9
                                        rw [hv432]
                                        refine lv_iload hx hb dL_build_695 (lv_at hl 2 rfl) ?_
                                        refine lv_icmp_ne (tgt := 714) hx hb dL_build_697 (by decide) (fun c433 => ?_) (fun c433 => ?_)
                                        · have yc433 : ¬ S 9 j = (gb : Int) := fun q => c433 (iL_nat q)
                                          refine lv_iconst (v := 1) hx hb dL_build_714 (by decide) ?_
                                          refine lv_goto (tgt := 719) hx hb dL_build_715 (by decide) ?_
                                          refine lv_istore (lv' := [(12, .int 1), (13, .int (nI j)), (11, .int (nI gb)), (10, .int (nI ga)), (8, .int (nI k)), (7, .ref nn), (6, .ref pl), (5, .ref me), (4, .ref ge), (3, .ref sh), (2, .int (nI 0)), (1, .ref b9), (0, .ref x)]) hx hb dL_build_719 hl (by decide) rfl (fun ls hl => ?_)
                                          obtain ⟨i434, ei434⟩ : ∃ y : Int32, y = nI j + (1) := ⟨_, rfl⟩
                                          refine lv_iinc (v := i434) (lv' := [(13, .int i434), (12, .int 1), (11, .int (nI gb)), (10, .int (nI ga)), (8, .int (nI k)), (7, .ref nn), (6, .ref pl), (5, .ref me), (4, .ref ge), (3, .ref sh), (2, .int (nI 0)), (1, .ref b9), (0, .ref x)]) hx hb dL_build_721 hl (k := 1) rfl (by rw [ei434]; rfl) (by decide) rfl (fun ls hl => ?_)
                                          have hi434 : i434 = nI (j + 1) := by
                                            rw [ei434]
                                            exact nI_1 j
                                          rw [hi434]
                                          refine lv_goto (tgt := 648) hx hb dL_build_724 (by decide) ?_
                                          exact ih_L648 (j + 1) true  H locs ls (by omega) (by omega) (at_1 h4 yc426 (fun q => by unfold meshAt at q; omega)) hP hS (lv_sub hl [0, 1, 2, 3, 4, 5, 6, 7, 8, 9, 10, 11, 12] rfl)
                                        · have yc433 : S 9 j = (gb : Int) := by have := (nI_eqi (z := S 9 j) (k := gb) (by omega) (by omega) (by omega)).mp c433.symm; omega
                                          refine lv_aload hx hb dL_build_700 (lv_at hl 7 rfl) ?_
                                          refine lv_iconst (v := 2) hx hb dL_build_702 (by decide) ?_
                                          refine lv_iload hx hb dL_build_703 (lv_at hl 0 rfl) ?_
                                          refine lv_imul hx hb dL_build_705 ?_
                                          refine lv_topi (fun v435 ev435 => ?_)
                                          have hv435 : v435 = nI (2 * j) := by
                                            rw [ev435]
                                            exact pk_mul 2 j
                                          rw [hv435]
                                          refine lv_iconst (v := 1) hx hb dL_build_706 (by decide) ?_
                                          refine lv_iadd hx hb dL_build_707 ?_
                                          refine lv_topi (fun v436 ev436 => ?_)
                                          have hv436 : v436 = nI ((2 * j) + 1) := by
                                            rw [ev436]
                                            exact nI_add (2 * j) 1
                                          rw [hv436]
                                          refine g_iald F hP hme (vp_in_nI (by omega) (by omega)) dL_build_708 ?_
                                          refine lv_topi (fun v437 ev437 => ?_)
                                          have hv437 : v437 = Fm ((2 * j) + 1) := by
                                            rw [ev437]
                                            rw [nI_clamp (n := (2 * j) + 1) (by omega)]
                                          rw [hv437]
                                          refine lv_iload hx hb dL_build_709 (lv_at hl 3 rfl) ?_
                                          refine lv_icmp_eq (tgt := 718) hx hb dL_build_711 (by decide) (fun c438 => ?_) (fun c438 => ?_)
                                          · have yc438 : S 10 j = (ga : Int) := by have := (nI_eqi (z := S 10 j) (k := ga) (by omega) (by omega) (by omega)).mp c438.symm; omega
                                            refine lv_iconst (v := 0) hx hb dL_build_718 (by decide) ?_
                                            refine lv_istore (lv' := [(12, .int 0), (13, .int (nI j)), (11, .int (nI gb)), (10, .int (nI ga)), (8, .int (nI k)), (7, .ref nn), (6, .ref pl), (5, .ref me), (4, .ref ge), (3, .ref sh), (2, .int (nI 0)), (1, .ref b9), (0, .ref x)]) hx hb dL_build_719 hl (by decide) rfl (fun ls hl => ?_)
                                            obtain ⟨i439, ei439⟩ : ∃ y : Int32, y = nI j + (1) := ⟨_, rfl⟩
                                            refine lv_iinc (v := i439) (lv' := [(13, .int i439), (12, .int 0), (11, .int (nI gb)), (10, .int (nI ga)), (8, .int (nI k)), (7, .ref nn), (6, .ref pl), (5, .ref me), (4, .ref ge), (3, .ref sh), (2, .int (nI 0)), (1, .ref b9), (0, .ref x)]) hx hb dL_build_721 hl (k := 1) rfl (by rw [ei439]; rfl) (by decide) rfl (fun ls hl => ?_)
                                            have hi439 : i439 = nI (j + 1) := by
                                              rw [ei439]
                                              exact nI_1 j
                                            rw [hi439]
                                            refine lv_goto (tgt := 648) hx hb dL_build_724 (by decide) ?_
                                            exact ih_L648 (j + 1) false  H locs ls (by omega) (by omega) (at_m (M := fun i => meshAt S i ga gb) (by unfold meshAt; omega)) hP hS (lv_sub hl [0, 1, 2, 3, 4, 5, 6, 7, 8, 9, 10, 11, 12] rfl)
                                          · have yc438 : ¬ S 10 j = (ga : Int) := fun q => c438 (iL_nat q)
                                            refine lv_iconst (v := 1) hx hb dL_build_714 (by decide) ?_
                                            refine lv_goto (tgt := 719) hx hb dL_build_715 (by decide) ?_
                                            refine lv_istore (lv' := [(12, .int 1), (13, .int (nI j)), (11, .int (nI gb)), (10, .int (nI ga)), (8, .int (nI k)), (7, .ref nn), (6, .ref pl), (5, .ref me), (4, .ref ge), (3, .ref sh), (2, .int (nI 0)), (1, .ref b9), (0, .ref x)]) hx hb dL_build_719 hl (by decide) rfl (fun ls hl => ?_)
                                            obtain ⟨i440, ei440⟩ : ∃ y : Int32, y = nI j + (1) := ⟨_, rfl⟩
                                            refine lv_iinc (v := i440) (lv' := [(13, .int i440), (12, .int 1), (11, .int (nI gb)), (10, .int (nI ga)), (8, .int (nI k)), (7, .ref nn), (6, .ref pl), (5, .ref me), (4, .ref ge), (3, .ref sh), (2, .int (nI 0)), (1, .ref b9), (0, .ref x)]) hx hb dL_build_721 hl (k := 1) rfl (by rw [ei440]; rfl) (by decide) rfl (fun ls hl => ?_)
                                            have hi440 : i440 = nI (j + 1) := by
                                              rw [ei440]
                                              exact nI_1 j
                                            rw [hi440]
                                            refine lv_goto (tgt := 648) hx hb dL_build_724 (by decide) ?_
                                            exact ih_L648 (j + 1) true  H locs ls (by omega) (by omega) (at_1 h4 yc426 (fun q => by unfold meshAt at q; omega)) hP hS (lv_sub hl [0, 1, 2, 3, 4, 5, 6, 7, 8, 9, 10, 11, 12] rfl)
                                      · have yc430 : S 9 j = (ga : Int) := by have := (nI_eqi (z := S 9 j) (k := ga) (by omega) (by omega) (by omega)).mp c430.symm; omega
                                        refine lv_aload hx hb dL_build_674 (lv_at hl 7 rfl) ?_
                                        refine lv_iconst (v := 2) hx hb dL_build_676 (by decide) ?_
                                        refine lv_iload hx hb dL_build_677 (lv_at hl 0 rfl) ?_
                                        refine lv_imul hx hb dL_build_679 ?_
                                        refine lv_topi (fun v441 ev441 => ?_)
                                        have hv441 : v441 = nI (2 * j) := by
                                          rw [ev441]
                                          exact pk_mul 2 j
                                        rw [hv441]
                                        refine lv_iconst (v := 1) hx hb dL_build_680 (by decide) ?_
                                        refine lv_iadd hx hb dL_build_681 ?_
                                        refine lv_topi (fun v442 ev442 => ?_)
                                        have hv442 : v442 = nI ((2 * j) + 1) := by
                                          rw [ev442]
                                          exact nI_add (2 * j) 1
                                        rw [hv442]
                                        refine g_iald F hP hme (vp_in_nI (by omega) (by omega)) dL_build_682 ?_
                                        refine lv_topi (fun v443 ev443 => ?_)
                                        have hv443 : v443 = Fm ((2 * j) + 1) := by
                                          rw [ev443]
                                          rw [nI_clamp (n := (2 * j) + 1) (by omega)]
                                        rw [hv443]
                                        refine lv_iload hx hb dL_build_683 (lv_at hl 2 rfl) ?_
                                        refine lv_icmp_eq (tgt := 718) hx hb dL_build_685 (by decide) (fun c444 => ?_) (fun c444 => ?_)
                                        · have yc444 : S 10 j = (gb : Int) := by have := (nI_eqi (z := S 10 j) (k := gb) (by omega) (by omega) (by omega)).mp c444.symm; omega
                                          refine lv_iconst (v := 0) hx hb dL_build_718 (by decide) ?_
                                          refine lv_istore (lv' := [(12, .int 0), (13, .int (nI j)), (11, .int (nI gb)), (10, .int (nI ga)), (8, .int (nI k)), (7, .ref nn), (6, .ref pl), (5, .ref me), (4, .ref ge), (3, .ref sh), (2, .int (nI 0)), (1, .ref b9), (0, .ref x)]) hx hb dL_build_719 hl (by decide) rfl (fun ls hl => ?_)
                                          obtain ⟨i445, ei445⟩ : ∃ y : Int32, y = nI j + (1) := ⟨_, rfl⟩
                                          refine lv_iinc (v := i445) (lv' := [(13, .int i445), (12, .int 0), (11, .int (nI gb)), (10, .int (nI ga)), (8, .int (nI k)), (7, .ref nn), (6, .ref pl), (5, .ref me), (4, .ref ge), (3, .ref sh), (2, .int (nI 0)), (1, .ref b9), (0, .ref x)]) hx hb dL_build_721 hl (k := 1) rfl (by rw [ei445]; rfl) (by decide) rfl (fun ls hl => ?_)
                                          have hi445 : i445 = nI (j + 1) := by
                                            rw [ei445]
                                            exact nI_1 j
                                          rw [hi445]
                                          refine lv_goto (tgt := 648) hx hb dL_build_724 (by decide) ?_
                                          exact ih_L648 (j + 1) false  H locs ls (by omega) (by omega) (at_m (M := fun i => meshAt S i ga gb) (by unfold meshAt; omega)) hP hS (lv_sub hl [0, 1, 2, 3, 4, 5, 6, 7, 8, 9, 10, 11, 12] rfl)
                                        · have yc444 : ¬ S 10 j = (gb : Int) := fun q => c444 (iL_nat q)
                                          refine lv_aload hx hb dL_build_688 (lv_at hl 7 rfl) ?_
                                          refine lv_iconst (v := 2) hx hb dL_build_690 (by decide) ?_
                                          refine lv_iload hx hb dL_build_691 (lv_at hl 0 rfl) ?_
                                          refine lv_imul hx hb dL_build_693 ?_
                                          refine lv_topi (fun v446 ev446 => ?_)
                                          have hv446 : v446 = nI (2 * j) := by
                                            rw [ev446]
                                            exact pk_mul 2 j
                                          rw [hv446]
                                          refine g_iald F hP hme (vp_in_nI (by omega) (by omega)) dL_build_694 ?_
                                          refine lv_topi (fun v447 ev447 => ?_)
                                          have hv447 : v447 = iL (S 9 j) := by
                                            rw [ev447]
                                            rw [nI_clamp (n := 2 * j) (by omega)]
                                            exact m9
                                          rw [hv447]
                                          refine lv_iload hx hb dL_build_695 (lv_at hl 2 rfl) ?_
                                          refine lv_icmp_ne (tgt := 714) hx hb dL_build_697 (by decide) (fun c448 => ?_) (fun c448 => ?_)
                                          · have yc448 : ¬ S 9 j = (gb : Int) := fun q => c448 (iL_nat q)
                                            refine lv_iconst (v := 1) hx hb dL_build_714 (by decide) ?_
                                            refine lv_goto (tgt := 719) hx hb dL_build_715 (by decide) ?_
                                            refine lv_istore (lv' := [(12, .int 1), (13, .int (nI j)), (11, .int (nI gb)), (10, .int (nI ga)), (8, .int (nI k)), (7, .ref nn), (6, .ref pl), (5, .ref me), (4, .ref ge), (3, .ref sh), (2, .int (nI 0)), (1, .ref b9), (0, .ref x)]) hx hb dL_build_719 hl (by decide) rfl (fun ls hl => ?_)
                                            obtain ⟨i449, ei449⟩ : ∃ y : Int32, y = nI j + (1) := ⟨_, rfl⟩
                                            refine lv_iinc (v := i449) (lv' := [(13, .int i449), (12, .int 1), (11, .int (nI gb)), (10, .int (nI ga)), (8, .int (nI k)), (7, .ref nn), (6, .ref pl), (5, .ref me), (4, .ref ge), (3, .ref sh), (2, .int (nI 0)), (1, .ref b9), (0, .ref x)]) hx hb dL_build_721 hl (k := 1) rfl (by rw [ei449]; rfl) (by decide) rfl (fun ls hl => ?_)
                                            have hi449 : i449 = nI (j + 1) := by
                                              rw [ei449]
                                              exact nI_1 j
                                            rw [hi449]
                                            refine lv_goto (tgt := 648) hx hb dL_build_724 (by decide) ?_
                                            exact ih_L648 (j + 1) true  H locs ls (by omega) (by omega) (at_1 h4 yc426 (fun q => by unfold meshAt at q; omega)) hP hS (lv_sub hl [0, 1, 2, 3, 4, 5, 6, 7, 8, 9, 10, 11, 12] rfl)
                                          · have yc448 : S 9 j = (gb : Int) := by have := (nI_eqi (z := S 9 j) (k := gb) (by omega) (by omega) (by omega)).mp c448.symm; omega
                                            refine lv_aload hx hb dL_build_700 (lv_at hl 7 rfl) ?_
                                            refine lv_iconst (v := 2) hx hb dL_build_702 (by decide) ?_
                                            refine lv_iload hx hb dL_build_703 (lv_at hl 0 rfl) ?_
                                            refine lv_imul hx hb dL_build_705 ?_
                                            refine lv_topi (fun v450 ev450 => ?_)
                                            have hv450 : v450 = nI (2 * j) := by
                                              rw [ev450]
                                              exact pk_mul 2 j
                                            rw [hv450]
                                            refine lv_iconst (v := 1) hx hb dL_build_706 (by decide) ?_
                                            refine lv_iadd hx hb dL_build_707 ?_
                                            refine lv_topi (fun v451 ev451 => ?_)
                                            have hv451 : v451 = nI ((2 * j) + 1) := by
                                              rw [ev451]
                                              exact nI_add (2 * j) 1
                                            rw [hv451]
                                            refine g_iald F hP hme (vp_in_nI (by omega) (by omega)) dL_build_708 ?_
                                            refine lv_topi (fun v452 ev452 => ?_)
                                            have hv452 : v452 = Fm ((2 * j) + 1) := by
                                              rw [ev452]
                                              rw [nI_clamp (n := (2 * j) + 1) (by omega)]
                                            rw [hv452]
                                            refine lv_iload hx hb dL_build_709 (lv_at hl 3 rfl) ?_
                                            refine lv_icmp_eq (tgt := 718) hx hb dL_build_711 (by decide) (fun c453 => ?_) (fun c453 => ?_)
                                            · have yc453 : S 10 j = (ga : Int) := by have := (nI_eqi (z := S 10 j) (k := ga) (by omega) (by omega) (by omega)).mp c453.symm; omega
                                              refine lv_iconst (v := 0) hx hb dL_build_718 (by decide) ?_
                                              refine lv_istore (lv' := [(12, .int 0), (13, .int (nI j)), (11, .int (nI gb)), (10, .int (nI ga)), (8, .int (nI k)), (7, .ref nn), (6, .ref pl), (5, .ref me), (4, .ref ge), (3, .ref sh), (2, .int (nI 0)), (1, .ref b9), (0, .ref x)]) hx hb dL_build_719 hl (by decide) rfl (fun ls hl => ?_)
                                              obtain ⟨i454, ei454⟩ : ∃ y : Int32, y = nI j + (1) := ⟨_, rfl⟩
                                              refine lv_iinc (v := i454) (lv' := [(13, .int i454), (12, .int 0), (11, .int (nI gb)), (10, .int (nI ga)), (8, .int (nI k)), (7, .ref nn), (6, .ref pl), (5, .ref me), (4, .ref ge), (3, .ref sh), (2, .int (nI 0)), (1, .ref b9), (0, .ref x)]) hx hb dL_build_721 hl (k := 1) rfl (by rw [ei454]; rfl) (by decide) rfl (fun ls hl => ?_)
                                              have hi454 : i454 = nI (j + 1) := by
                                                rw [ei454]
                                                exact nI_1 j
                                              rw [hi454]
                                              refine lv_goto (tgt := 648) hx hb dL_build_724 (by decide) ?_
                                              exact ih_L648 (j + 1) false  H locs ls (by omega) (by omega) (at_m (M := fun i => meshAt S i ga gb) (by unfold meshAt; omega)) hP hS (lv_sub hl [0, 1, 2, 3, 4, 5, 6, 7, 8, 9, 10, 11, 12] rfl)
                                            · have yc453 : ¬ S 10 j = (ga : Int) := fun q => c453 (iL_nat q)
                                              refine lv_iconst (v := 1) hx hb dL_build_714 (by decide) ?_
                                              refine lv_goto (tgt := 719) hx hb dL_build_715 (by decide) ?_
                                              refine lv_istore (lv' := [(12, .int 1), (13, .int (nI j)), (11, .int (nI gb)), (10, .int (nI ga)), (8, .int (nI k)), (7, .ref nn), (6, .ref pl), (5, .ref me), (4, .ref ge), (3, .ref sh), (2, .int (nI 0)), (1, .ref b9), (0, .ref x)]) hx hb dL_build_719 hl (by decide) rfl (fun ls hl => ?_)
                                              obtain ⟨i455, ei455⟩ : ∃ y : Int32, y = nI j + (1) := ⟨_, rfl⟩
                                              refine lv_iinc (v := i455) (lv' := [(13, .int i455), (12, .int 1), (11, .int (nI gb)), (10, .int (nI ga)), (8, .int (nI k)), (7, .ref nn), (6, .ref pl), (5, .ref me), (4, .ref ge), (3, .ref sh), (2, .int (nI 0)), (1, .ref b9), (0, .ref x)]) hx hb dL_build_721 hl (k := 1) rfl (by rw [ei455]; rfl) (by decide) rfl (fun ls hl => ?_)
                                              have hi455 : i455 = nI (j + 1) := by
                                                rw [ei455]
                                                exact nI_1 j
                                              rw [hi455]
                                              refine lv_goto (tgt := 648) hx hb dL_build_724 (by decide) ?_
                                              exact ih_L648 (j + 1) true  H locs ls (by omega) (by omega) (at_1 h4 yc426 (fun q => by unfold meshAt at q; omega)) hP hS (lv_sub hl [0, 1, 2, 3, 4, 5, 6, 7, 8, 9, 10, 11, 12] rfl)
                              exact L648 (c2 + 1) 0 cd  H locs ls (by omega) (by omega) (⟨fun q => ⟨q, fun i hi => absurd hi (Nat.not_lt_zero i)⟩, fun q => q.1⟩) hP hS (lv_sub hl [0, 1, 2, 3, 4, 5, 6, 7, 8, 9, 10, 11, 12] rfl)
                            · have yc375 : S 8 gb = 1 := (iL_eq (b := 1) (by omega) (by omega) (by omega) (by omega)).mp c375
                              refine lv_iload hx hb dL_build_612 (lv_at hl 0 rfl) ?_
                              refine lv_if_eq (tgt := 642) hx hb dL_build_614 (by decide) (fun c456 => ?_) (fun c456 => ?_)
                              · have yc456 : cc = false := g_b0.mp c456
                                refine lv_iconst (v := 0) hx hb dL_build_642 (by decide) ?_
                                refine lv_istore (lv' := [(12, .int 0), (11, .int (nI gb)), (10, .int (nI ga)), (8, .int (nI k)), (7, .ref nn), (6, .ref pl), (5, .ref me), (4, .ref ge), (3, .ref sh), (2, .int (nI 0)), (1, .ref b9), (0, .ref x)]) hx hb dL_build_643 hl (by decide) rfl (fun ls hl => ?_)
                                refine lv_iconst (v := 0) hx hb dL_build_645 (by decide) ?_
                                refine lv_istore (lv' := [(13, .int 0), (12, .int 0), (11, .int (nI gb)), (10, .int (nI ga)), (8, .int (nI k)), (7, .ref nn), (6, .ref pl), (5, .ref me), (4, .ref ge), (3, .ref sh), (2, .int (nI 0)), (1, .ref b9), (0, .ref x)]) hx hb dL_build_646 hl (by decide) rfl (fun ls hl => ?_)
                                have L648 : ∀ (n : Nat) (j : Nat) (ce : Bool) (H : Heap) (locs : List Loc) (ls : Array Slot), c2 + 1 ≤ j + n → (j ≤ c2) → (ce = true ↔ cd = true ∧ ∀ i, i < j → ¬ meshAt S i ga gb) → g_P A G w H → va_S A s.heap H locs → lv_has ls 15 [(13, .int (nI j)), (12, .int (g_b ce)), (11, .int (nI gb)), (10, .int (nI ga)), (8, .int (nI k)), (7, .ref nn), (6, .ref pl), (5, .ref me), (4, .ref ge), (3, .ref sh), (2, .int (nI 0)), (1, .ref b9), (0, .ref x)] → W p l e R s m args below meth c H locs ((100 + 10 * k)) ((2500 + 150 * k)) Q (F0 m 648 ls []) := by
                                  intro n
                                  induction n with
                                  | zero =>
                                    intro j ce H locs ls hfu hj h4 hP hS hl
                                    exact absurd hfu (by omega)
                                  | succ n ih_L648 =>
                                    intro j ce H locs ls hfu hj h4 hP hS hl
                                    refine lv_iload hx hb dL_build_648 (lv_at hl 0 rfl) ?_
                                    refine lv_aload hx hb dL_build_650 (lv_at hl 5 rfl) ?_
                                    refine lv_iconst (v := 2) hx hb dL_build_652 (by decide) ?_
                                    refine g_iald F hP hnn (by unfold vp_in; decide) dL_build_653 ?_
                                    refine lv_topi (fun v457 ev457 => ?_)
                                    have hv457 : v457 = nI c2 := by
                                      rw [ev457]
                                      rw [show (2 : Int32).toNatClampNeg = 2 from by decide]
                                      exact hf2
                                    rw [hv457]
                                    refine lv_icmp_ge (tgt := 727) hx hb dL_build_654 (by decide) (fun c458 => ?_) (fun c458 => ?_)
                                    · have zc458 : c2 ≤ j := (nI_leI (by omega) (by omega)).mp c458
                                      have ejn : j = c2 := by omega
                                      rw [ejn] at h4
                                      have hcan : ce = true ↔ canM S ga gb := by
                                        rw [h4, h3, h2, h1]
                                        constructor
                                        · intro q
                                          refine ⟨by omega, fun ⟨i, i1, i2⟩ => q.2 i (by omega) i2⟩
                                        · intro q
                                          obtain ⟨q1, q2⟩ := q
                                          exact ⟨by omega, fun i hi z => q2 ⟨i, by omega, z⟩⟩
                                      refine lv_bipush (v := (-2)) hx hb dL_build_727 (by decide) ?_
                                      refine lv_istore (lv' := [(13, .int (-2)), (12, .int (g_b ce)), (11, .int (nI gb)), (10, .int (nI ga)), (8, .int (nI k)), (7, .ref nn), (6, .ref pl), (5, .ref me), (4, .ref ge), (3, .ref sh), (2, .int (nI 0)), (1, .ref b9), (0, .ref x)]) hx hb dL_build_729 hl (by decide) rfl (fun ls hl => ?_)
                                      refine lv_aload_n hx hb dL_build_731 rfl (lv_at hl 12 rfl) ?_
                                      refine lv_iload hx hb dL_build_732 (lv_at hl 3 rfl) ?_
                                      refine lv_iload hx hb dL_build_734 (lv_at hl 2 rfl) ?_
                                      have tka := kN_n (k := ga) (by omega)
                                      have tkb := kN_n (k := gb) (by omega)
                                      have ta := nI_i ga (by omega)
                                      have tb := nI_i gb (by omega)
                                      have shq : shQ S 1 (nI ga) ∧ shQ S 1 (nI gb) := ⟨⟨by omega, by omega⟩, by omega, by omega⟩
                                      have cd1 : canM S ga gb → cdMesh S (nI ga) (nI gb) = 0 := fun q => (if_pos shq).trans (by rw [tka, tkb]; exact (if_pos q).trans (if_pos (by omega)))
                                      have cd2 : ¬ canM S ga gb → cdMesh S (nI ga) (nI gb) = 2 := fun q => (if_pos shq).trans (by rw [tka, tkb]; exact if_neg q)
                                      obtain ⟨ad, Cn, T, h00, hBn, hLn⟩ := id hB
                                      have hCo := k_X6_mesh l hlt A G w ad Cn S T (nI ga) (nI gb) hBn.1 hBn.2.1 hBn.2.2.1 hBn.2.2.2.1 hBn.2.2.2.2
                                      rw [h00] at hCo
                                      have hx0 := rep_x hBn.1 hBn.2.1
                                      rw [h00] at hx0
                                      refine g_cVi (As := [.int (nI ga), .int (nI gb)]) (rest := []) F hP hS hCo (cwV 2 hts gL_build_X6_mesh rfl rfl rfl cd_X6_mesh ⟨by rw [hR]; exact Nat.le_of_ble_eq_true rfl, by rw [hR]; exact Nat.le_of_ble_eq_true rfl⟩) hx0 rfl rfl rfl hl.1 (Nat.le_of_ble_eq_true rfl) dL_build_736 ⟨by rw [hR]; dsimp only; omega, by rw [hR]; dsimp only; omega⟩ rfl (fun E w9 ce q9 H locs hpx hP hS hce hcv hcl => ?_) (fun r459 w460 H locs h461 hP hS => ?_)
                                      · obtain ⟨ew9, hpx⟩ := hpx
                                        have ew9 : w9 = w := ew9
                                        rw [ew9] at hP
                                        have hno : ¬ canM S ga gb := fun q => by
                                          rcases hpx with ⟨_, z⟩ | ⟨_, z⟩ | ⟨_, z⟩ <;> exact absurd ((cd1 q).symm.trans z) (by decide)
                                        have eE : E = "java/lang/IllegalArgumentException" := by
                                          rcases hpx with ⟨_, z⟩ | ⟨z, _⟩ | ⟨_, z⟩
                                          · exact absurd ((cd2 hno).symm.trans z) (by decide)
                                          · exact z
                                          · exact absurd ((cd2 hno).symm.trans z) (by decide)
                                        subst eE
                                        refine vx_catch hown [] ⟨731, 741, 744, 35⟩ [] htab (fun z hz => (nomatch hz)) (by decide) (by decide) (hts _ (List.mem_cons_of_mem _ (List.mem_append_left _ (List.mem_append_left _ (List.mem_append_left _ (List.mem_append_left _ (List.mem_append_left _ (List.mem_append_left _ (List.mem_append_left _ (List.mem_append_left _ (List.mem_append_left _ (List.mem_append_left _ (List.mem_append_left _ (List.mem_append_left _ (List.mem_append_left _ (List.mem_of_getElem? (i := 0) rfl)))))))))))))))) (va_Nw.use rfl (hZ.2.2.2.2.2.2.2.1 ("java/lang/IllegalArgumentException", "java/lang/IllegalArgumentException") (List.mem_of_getElem? (i := 0) rfl))) hce hcv hcl ?_
                                        have yce : ce_ = false := by
                                          cases hq : ce_
                                          · rfl
                                          · exact absurd (hcan.mp hq) hno
                                        refine lv_astore (lv' := [(14, .ref q9), (13, .int (-2)), (12, .int (g_b ce)), (11, .int (nI gb)), (10, .int (nI ga)), (8, .int (nI k)), (7, .ref nn), (6, .ref pl), (5, .ref me), (4, .ref ge), (3, .ref sh), (2, .int (nI 0)), (1, .ref b9), (0, .ref x)]) hx hb dL_build_744 hl (by decide) rfl (fun ls hl => ?_)
                                        refine lv_bipush (v := (-2)) hx hb dL_build_746 (by decide) ?_
                                        refine lv_istore (lv' := [(13, .int (-2)), (14, .ref q9), (12, .int (g_b ce)), (11, .int (nI gb)), (10, .int (nI ga)), (8, .int (nI k)), (7, .ref nn), (6, .ref pl), (5, .ref me), (4, .ref ge), (3, .ref sh), (2, .int (nI 0)), (1, .ref b9), (0, .ref x)]) hx hb dL_build_748 hl (by decide) rfl (fun ls hl => ?_)
                                        refine lv_iload hx hb dL_build_750 (lv_at hl 0 rfl) ?_
                                        refine lv_iload hx hb dL_build_752 (lv_at hl 2 rfl) ?_
                                        refine lv_if_eq (tgt := 764) hx hb dL_build_754 (by decide) (fun c462 => ?_) (fun c462 => ?_)
                                        · refine lv_bipush (v := (-2)) hx hb dL_build_764 (by decide) ?_
                                          refine lv_icmp_eq (tgt := 771) hx hb dL_build_766 (by decide) (fun c463 => ?_) (fun c463 => ?_)
                                          · refine lv_iload hx hb dL_build_771 (lv_at hl 2 rfl) ?_
                                            refine lv_if_ne (tgt := 779) hx hb dL_build_773 (by decide) (fun c464 => ?_) (fun c464 => ?_)
                                            · exact absurd (by rw [yce]; rfl) c464
                                            · refine lv_goto (tgt := 811) hx hb dL_build_776 (by decide) ?_
                                              refine W.widen (k := 100 + 10 * (k + 1)) (n := 2500 + 150 * (k + 1)) (by omega) (by omega) ?_
                                              obtain ⟨i465, ei465⟩ : ∃ y : Int32, y = nI k + (1) := ⟨_, rfl⟩
                                              refine lv_iinc (v := i465) (lv' := [(8, .int i465), (13, .int (-2)), (14, .ref q9), (12, .int (g_b ce)), (11, .int (nI gb)), (10, .int (nI ga)), (7, .ref nn), (6, .ref pl), (5, .ref me), (4, .ref ge), (3, .ref sh), (2, .int (nI 0)), (1, .ref b9), (0, .ref x)]) hx hb dL_build_811 hl (k := 5) rfl (by rw [ei465]; rfl) (by decide) rfl (fun ls hl => ?_)
                                              have hi465 : i465 = nI (k + 1) := by
                                                rw [ei465]
                                                exact nI_1 k
                                              rw [hi465]
                                              refine lv_goto (tgt := 393) hx hb dL_build_814 (by decide) ?_
                                              exact ih_L393 (k + 1) S Fm Fn c2 w H locs ls (by omega) (by omega) (hc2) (hB) (hz) (hf0) (hf1) (hf2) (hf3) (has) (hag) (ham) hnn hsh hge hme hpl hP hS (lv_sub hl [0, 6, 7, 8, 9, 10, 11, 12, 13] rfl)
                                          · exact absurd rfl c463
                                        · exact absurd (by rw [yce]; rfl) c462
                                      · obtain ⟨hc0, er, hAf⟩ := h461
                                        obtain ⟨S466, eS466⟩ : ∃ z, z = nxMesh S (nI ga) (nI gb) := ⟨_, rfl⟩
                                        rw [← eS466] at hAf
                                        obtain ⟨hB467, kp468⟩ := lwB_aft h00 hLn hAf
                                        have f469 : w460 nn = some (.inl (G.2.1 0, 6, .inl Fn)) := (kp468 nn (List.mem_of_getElem? (i := 0) rfl)).trans hnn
                                        have f470 : w460 sh = some (.inl (G.2.1 0, 30, .inl Fs2)) := (kp468 sh (List.mem_of_getElem? (i := 1) rfl)).trans hsh
                                        have f471 : w460 ge = some (.inl (G.2.1 0, 80, .inl Fg2)) := (kp468 ge (List.mem_of_getElem? (i := 2) rfl)).trans hge
                                        have f472 : w460 me = some (.inl (G.2.1 0, 32, .inl Fm)) := (kp468 me (List.mem_of_getElem? (i := 3) rfl)).trans hme
                                        have f473 : w460 pl = some (.inl (G.2.1 0, 20, .inl Fp0)) := (kp468 pl (List.mem_of_getElem? (i := 4) rfl)).trans hpl
                                        rw [er]
                                        have yes : canM S ga gb := by
                                          rcases Classical.em (canM S ga gb) with q | q
                                          · exact q
                                          · exact absurd ((cd2 q).symm.trans hc0) (by decide)
                                        have yce := hcan.mpr yes
                                        obtain ⟨a1, a2, a9, a10, a4, a5⟩ := nx_mesh eS466
                                        have s0n : (S 0 2).toNat = c2 := by omega
                                        rw [s0n, ta] at a9
                                        rw [s0n, tb] at a10
                                        rw [s0n] at a4
                                        have zk : S466 0 0 = n0 ∧ S466 0 1 = n1 ∧ S466 0 2 = ((c2 + 1 : Nat) : Int) ∧ S466 0 3 = 0 ∧ S466 0 4 = -1 := by rw [a2 0 (by decide), a2 1 (by decide), a1, a2 3 (by decide), a2 4 (by decide)]; omega
                                        unfold vlMesh
                                        rw [iL_nat (n := c2) (by omega : S 0 2 = (c2 : Int))]
                                        refine lv_istore (lv' := [(13, .int (nI c2)), (12, .int (g_b ce)), (11, .int (nI gb)), (10, .int (nI ga)), (8, .int (nI k)), (7, .ref nn), (6, .ref pl), (5, .ref me), (4, .ref ge), (3, .ref sh), (2, .int (nI 0)), (1, .ref b9), (0, .ref x)]) hx hb dL_build_739 hl (by decide) rfl (fun ls hl => ?_)
                                        refine lv_goto (tgt := 750) hx hb dL_build_741 (by decide) ?_
                                        refine lv_iload hx hb dL_build_750 (lv_at hl 0 rfl) ?_
                                        refine lv_iload hx hb dL_build_752 (lv_at hl 1 rfl) ?_
                                        refine lv_if_eq (tgt := 764) hx hb dL_build_754 (by decide) (fun c474 => ?_) (fun c474 => ?_)
                                        · exact absurd (g_b0.mp c474) (by rw [yce]; decide)
                                        · refine lv_aload hx hb dL_build_757 (lv_at hl 5 rfl) ?_
                                          refine lv_iconst (v := 2) hx hb dL_build_759 (by decide) ?_
                                          refine g_iald F hP f469 (by unfold vp_in; decide) dL_build_760 ?_
                                          refine lv_topi (fun v475 ev475 => ?_)
                                          have hv475 : v475 = nI c2 := by
                                            rw [ev475]
                                            rw [show (2 : Int32).toNatClampNeg = 2 from by decide]
                                            exact hf2
                                          rw [hv475]
                                          refine lv_goto (tgt := 766) hx hb dL_build_761 (by decide) ?_
                                          refine lv_icmp_eq (tgt := 771) hx hb dL_build_766 (by decide) (fun c476 => ?_) (fun c476 => ?_)
                                          · refine lv_iload hx hb dL_build_771 (lv_at hl 1 rfl) ?_
                                            refine lv_if_ne (tgt := 779) hx hb dL_build_773 (by decide) (fun c477 => ?_) (fun c477 => ?_)
                                            · refine lv_aload hx hb dL_build_779 (lv_at hl 7 rfl) ?_
                                              refine lv_iconst (v := 2) hx hb dL_build_781 (by decide) ?_
                                              refine lv_aload hx hb dL_build_782 (lv_at hl 5 rfl) ?_
                                              refine lv_iconst (v := 2) hx hb dL_build_784 (by decide) ?_
                                              refine g_iald F hP f469 (by unfold vp_in; decide) dL_build_785 ?_
                                              refine lv_topi (fun v478 ev478 => ?_)
                                              have hv478 : v478 = nI c2 := by
                                                rw [ev478]
                                                rw [show (2 : Int32).toNatClampNeg = 2 from by decide]
                                                exact hf2
                                              rw [hv478]
                                              refine lv_imul hx hb dL_build_786 ?_
                                              refine lv_topi (fun v479 ev479 => ?_)
                                              have hv479 : v479 = nI (2 * c2) := by
                                                rw [ev479]
                                                exact pk_mul 2 c2
                                              rw [hv479]
                                              refine lv_iload hx hb dL_build_787 (lv_at hl 3 rfl) ?_
                                              refine g_iast F hP hS f472 (vp_in_nI (by omega) (by omega)) dL_build_789 (fun H locs hP hS => ?_)
                                              rw [nI_clamp (n := 2 * c2) (by omega)] at hP
                                              obtain ⟨w480, ew480⟩ : ∃ z, z = g_up w460 me (.inl (G.2.1 0, 32, .inl (upd Fm (2 * c2) (nI ga)))) := ⟨_, rfl⟩
                                              have hP : g_P A G w480 H := by rw [ew480]; exact hP
                                              have f481 : w480 nn = some (.inl (G.2.1 0, 6, .inl Fn)) := by rw [ew480]; exact g_up_f f469 (Ne.symm (dnnme))
                                              have f482 : w480 sh = some (.inl (G.2.1 0, 30, .inl Fs2)) := by rw [ew480]; exact g_up_f f470 (dshme)
                                              have f483 : w480 ge = some (.inl (G.2.1 0, 80, .inl Fg2)) := by rw [ew480]; exact g_up_f f471 (dgeme)
                                              have f484 : w480 pl = some (.inl (G.2.1 0, 20, .inl Fp0)) := by rw [ew480]; exact g_up_f f473 (Ne.symm (dmepl))
                                              have f485 : w480 me = some (.inl (G.2.1 0, 32, .inl (upd Fm (2 * c2) (nI ga)))) := by rw [ew480]; exact g_up_s _ _ _
                                              have hB486 := lwB_set hB467 (List.mem_of_getElem? (i := 3) rfl) ew480
                                              refine lv_aload hx hb dL_build_790 (lv_at hl 7 rfl) ?_
                                              refine lv_iconst (v := 2) hx hb dL_build_792 (by decide) ?_
                                              refine lv_aload hx hb dL_build_793 (lv_at hl 5 rfl) ?_
                                              refine lv_iconst (v := 2) hx hb dL_build_795 (by decide) ?_
                                              refine g_iald F hP f481 (by unfold vp_in; decide) dL_build_796 ?_
                                              refine lv_topi (fun v487 ev487 => ?_)
                                              have hv487 : v487 = nI c2 := by
                                                rw [ev487]
                                                rw [show (2 : Int32).toNatClampNeg = 2 from by decide]
                                                exact hf2
                                              rw [hv487]
                                              refine lv_imul hx hb dL_build_797 ?_
                                              refine lv_topi (fun v488 ev488 => ?_)
                                              have hv488 : v488 = nI (2 * c2) := by
                                                rw [ev488]
                                                exact pk_mul 2 c2
                                              rw [hv488]
                                              refine lv_iconst (v := 1) hx hb dL_build_798 (by decide) ?_
                                              refine lv_iadd hx hb dL_build_799 ?_
                                              refine lv_topi (fun v489 ev489 => ?_)
                                              have hv489 : v489 = nI ((2 * c2) + 1) := by
                                                rw [ev489]
                                                exact nI_add (2 * c2) 1
                                              rw [hv489]
                                              refine lv_iload hx hb dL_build_800 (lv_at hl 2 rfl) ?_
                                              refine g_iast F hP hS f485 (vp_in_nI (by omega) (by omega)) dL_build_802 (fun H locs hP hS => ?_)
                                              rw [nI_clamp (n := (2 * c2) + 1) (by omega)] at hP
                                              obtain ⟨w490, ew490⟩ : ∃ z, z = g_up w480 me (.inl (G.2.1 0, 32, .inl (upd (upd Fm (2 * c2) (nI ga)) ((2 * c2) + 1) (nI gb)))) := ⟨_, rfl⟩
                                              have hP : g_P A G w490 H := by rw [ew490]; exact hP
                                              have f491 : w490 nn = some (.inl (G.2.1 0, 6, .inl Fn)) := by rw [ew490]; exact g_up_f f481 (Ne.symm (dnnme))
                                              have f492 : w490 sh = some (.inl (G.2.1 0, 30, .inl Fs2)) := by rw [ew490]; exact g_up_f f482 (dshme)
                                              have f493 : w490 ge = some (.inl (G.2.1 0, 80, .inl Fg2)) := by rw [ew490]; exact g_up_f f483 (dgeme)
                                              have f494 : w490 pl = some (.inl (G.2.1 0, 20, .inl Fp0)) := by rw [ew490]; exact g_up_f f484 (Ne.symm (dmepl))
                                              have f495 : w490 me = some (.inl (G.2.1 0, 32, .inl (upd (upd Fm (2 * c2) (nI ga)) ((2 * c2) + 1) (nI gb)))) := by rw [ew490]; exact g_up_s _ _ _
                                              have hB496 := lwB_set hB486 (List.mem_of_getElem? (i := 3) rfl) ew490
                                              refine lv_aload hx hb dL_build_803 (lv_at hl 5 rfl) ?_
                                              refine lv_iconst (v := 2) hx hb dL_build_805 (by decide) ?_
                                              refine lv_dup2_11 hx hb dL_build_806 rfl rfl ?_
                                              refine g_iald F hP f491 (by unfold vp_in; decide) dL_build_807 ?_
                                              refine lv_topi (fun v497 ev497 => ?_)
                                              have hv497 : v497 = nI c2 := by
                                                rw [ev497]
                                                rw [show (2 : Int32).toNatClampNeg = 2 from by decide]
                                                exact hf2
                                              rw [hv497]
                                              refine lv_iconst (v := 1) hx hb dL_build_808 (by decide) ?_
                                              refine lv_iadd hx hb dL_build_809 ?_
                                              refine lv_topi (fun v498 ev498 => ?_)
                                              have hv498 : v498 = nI (c2 + 1) := by
                                                rw [ev498]
                                                exact nI_add c2 1
                                              rw [hv498]
                                              refine g_iast F hP hS f491 (by unfold vp_in; decide) dL_build_810 (fun H locs hP hS => ?_)
                                              rw [show (2 : Int32).toNatClampNeg = 2 from by decide] at hP
                                              obtain ⟨w499, ew499⟩ : ∃ z, z = g_up w490 nn (.inl (G.2.1 0, 6, .inl (upd Fn 2 (nI (c2 + 1))))) := ⟨_, rfl⟩
                                              have hP : g_P A G w499 H := by rw [ew499]; exact hP
                                              have f500 : w499 sh = some (.inl (G.2.1 0, 30, .inl Fs2)) := by rw [ew499]; exact g_up_f f492 (dnnsh)
                                              have f501 : w499 ge = some (.inl (G.2.1 0, 80, .inl Fg2)) := by rw [ew499]; exact g_up_f f493 (dnnge)
                                              have f502 : w499 pl = some (.inl (G.2.1 0, 20, .inl Fp0)) := by rw [ew499]; exact g_up_f f494 (dnnpl)
                                              have f503 : w499 me = some (.inl (G.2.1 0, 32, .inl (upd (upd Fm (2 * c2) (nI ga)) ((2 * c2) + 1) (nI gb)))) := by rw [ew499]; exact g_up_f f495 (dnnme)
                                              have f504 : w499 nn = some (.inl (G.2.1 0, 6, .inl (upd Fn 2 (nI (c2 + 1))))) := by rw [ew499]; exact g_up_s _ _ _
                                              have hB505 := lwB_set hB496 (List.mem_of_getElem? (i := 0) rfl) ew499
                                              refine W.widen (k := 100 + 10 * (k + 1)) (n := 2500 + 150 * (k + 1)) (by omega) (by omega) ?_
                                              have amk : arM S466 (c2 + 1) (upd (upd Fm (2 * c2) (nI ga)) ((2 * c2) + 1) (nI gb)) := arM_1 ham (fun f j hj _ _ => a4 f j (by omega) (by omega)) (fun j hj => by rw [pk_un (by omega), pk_un (by omega)]) ⟨by rw [a9, pk_un (by omega), pk_us]; exact (iL_n ga).symm, by rw [a10, pk_us]; exact (iL_n gb).symm⟩
                                              have ask : arS S466 n0 Fs2 := arS_c has (fun j _ => a5 3 j (by decide) (by decide) (by decide))
                                              have agk : arG S466 n1 Fg2 := arG_c hag (fun f j _ q1 q2 => a5 f j (by omega) (by omega) (by omega))
                                              obtain ⟨i506, ei506⟩ : ∃ y : Int32, y = nI k + (1) := ⟨_, rfl⟩
                                              refine lv_iinc (v := i506) (lv' := [(8, .int i506), (13, .int (nI c2)), (12, .int (g_b ce)), (11, .int (nI gb)), (10, .int (nI ga)), (7, .ref nn), (6, .ref pl), (5, .ref me), (4, .ref ge), (3, .ref sh), (2, .int (nI 0)), (1, .ref b9), (0, .ref x)]) hx hb dL_build_811 hl (k := 4) rfl (by rw [ei506]; rfl) (by decide) rfl (fun ls hl => ?_)
                                              have hi506 : i506 = nI (k + 1) := by
                                                rw [ei506]
                                                exact nI_1 k
                                              rw [hi506]
                                              refine lv_goto (tgt := 393) hx hb dL_build_814 (by decide) ?_
                                              exact ih_L393 (k + 1) S466 (upd (upd Fm (2 * c2) (nI ga)) ((2 * c2) + 1) (nI gb)) (upd Fn 2 (nI (c2 + 1))) (c2 + 1) w499 H locs ls (by omega) (by omega) (by omega) (hB505) (zk) (by rw [pk_un (by decide)]; exact hf0) (by rw [pk_un (by decide)]; exact hf1) (pk_us) (by rw [pk_un (by decide)]; exact hf3) (ask) (agk) (amk) f504 f500 f501 f503 f502 hP hS (lv_sub hl [0, 5, 6, 7, 8, 9, 10, 11, 12] rfl)
                                            · exact absurd (g_b0.mp (Decidable.not_not.mp c477)) (by rw [yce]; decide)
                                          · exact absurd rfl c476
                                    · have hjn : j < c2 := Nat.not_le.mp (fun q => c458 (nI_le q (by omega)))
                                      obtain ⟨m9, m10⟩ := ham j hjn
                                      have GM := Hi.2.2.2.1 j (by omega)
                                      refine lv_iload hx hb dL_build_657 (lv_at hl 1 rfl) ?_
                                      refine lv_if_eq (tgt := 718) hx hb dL_build_659 (by decide) (fun c507 => ?_) (fun c507 => ?_)
                                      · have yc507 : ce = false := g_b0.mp c507
                                        refine lv_iconst (v := 0) hx hb dL_build_718 (by decide) ?_
                                        refine lv_istore (lv' := [(12, .int 0), (13, .int (nI j)), (11, .int (nI gb)), (10, .int (nI ga)), (8, .int (nI k)), (7, .ref nn), (6, .ref pl), (5, .ref me), (4, .ref ge), (3, .ref sh), (2, .int (nI 0)), (1, .ref b9), (0, .ref x)]) hx hb dL_build_719 hl (by decide) rfl (fun ls hl => ?_)
                                        obtain ⟨i508, ei508⟩ : ∃ y : Int32, y = nI j + (1) := ⟨_, rfl⟩
                                        refine lv_iinc (v := i508) (lv' := [(13, .int i508), (12, .int 0), (11, .int (nI gb)), (10, .int (nI ga)), (8, .int (nI k)), (7, .ref nn), (6, .ref pl), (5, .ref me), (4, .ref ge), (3, .ref sh), (2, .int (nI 0)), (1, .ref b9), (0, .ref x)]) hx hb dL_build_721 hl (k := 1) rfl (by rw [ei508]; rfl) (by decide) rfl (fun ls hl => ?_)
                                        have hi508 : i508 = nI (j + 1) := by
                                          rw [ei508]
                                          exact nI_1 j
                                        rw [hi508]
                                        refine lv_goto (tgt := 648) hx hb dL_build_724 (by decide) ?_
                                        exact ih_L648 (j + 1) false  H locs ls (by omega) (by omega) (at_0 h4 yc507) hP hS (lv_sub hl [0, 1, 2, 3, 4, 5, 6, 7, 8, 9, 10, 11, 12] rfl)
                                      · have yc507 : ce = true := g_b1.mp c507
                                        refine lv_aload hx hb dL_build_662 (lv_at hl 7 rfl) ?_
                                        refine lv_iconst (v := 2) hx hb dL_build_664 (by decide) ?_
                                        refine lv_iload hx hb dL_build_665 (lv_at hl 0 rfl) ?_
                                        refine lv_imul hx hb dL_build_667 ?_
                                        refine lv_topi (fun v509 ev509 => ?_)
                                        have hv509 : v509 = nI (2 * j) := by
                                          rw [ev509]
                                          exact pk_mul 2 j
                                        rw [hv509]
                                        refine g_iald F hP hme (vp_in_nI (by omega) (by omega)) dL_build_668 ?_
                                        refine lv_topi (fun v510 ev510 => ?_)
                                        have hv510 : v510 = iL (S 9 j) := by
                                          rw [ev510]
                                          rw [nI_clamp (n := 2 * j) (by omega)]
                                          exact m9
                                        rw [hv510]
                                        refine lv_iload hx hb dL_build_669 (lv_at hl 3 rfl) ?_
                                        refine lv_icmp_ne (tgt := 688) hx hb dL_build_671 (by decide) (fun c511 => ?_) (fun c511 => ?_)
                                        · have yc511 : ¬ S 9 j = (ga : Int) := fun q => c511 (iL_nat q)
                                          refine lv_aload hx hb dL_build_688 (lv_at hl 7 rfl) ?_
                                          refine lv_iconst (v := 2) hx hb dL_build_690 (by decide) ?_
                                          refine lv_iload hx hb dL_build_691 (lv_at hl 0 rfl) ?_
                                          refine lv_imul hx hb dL_build_693 ?_
                                          refine lv_topi (fun v512 ev512 => ?_)
                                          have hv512 : v512 = nI (2 * j) := by
                                            rw [ev512]
                                            exact pk_mul 2 j
                                          rw [hv512]
                                          refine g_iald F hP hme (vp_in_nI (by omega) (by omega)) dL_build_694 ?_
                                          refine lv_topi (fun v513 ev513 => ?_)
                                          have hv513 : v513 = iL (S 9 j) := by
                                            rw [ev513]
                                            rw [nI_clamp (n := 2 * j) (by omega)]
                                            exact m9
                                          rw [hv513]
                                          refine lv_iload hx hb dL_build_695 (lv_at hl 2 rfl) ?_
                                          refine lv_icmp_ne (tgt := 714) hx hb dL_build_697 (by decide) (fun c514 => ?_) (fun c514 => ?_)
                                          · have yc514 : ¬ S 9 j = (gb : Int) := fun q => c514 (iL_nat q)
                                            refine lv_iconst (v := 1) hx hb dL_build_714 (by decide) ?_
                                            refine lv_goto (tgt := 719) hx hb dL_build_715 (by decide) ?_
                                            refine lv_istore (lv' := [(12, .int 1), (13, .int (nI j)), (11, .int (nI gb)), (10, .int (nI ga)), (8, .int (nI k)), (7, .ref nn), (6, .ref pl), (5, .ref me), (4, .ref ge), (3, .ref sh), (2, .int (nI 0)), (1, .ref b9), (0, .ref x)]) hx hb dL_build_719 hl (by decide) rfl (fun ls hl => ?_)
                                            obtain ⟨i515, ei515⟩ : ∃ y : Int32, y = nI j + (1) := ⟨_, rfl⟩
                                            refine lv_iinc (v := i515) (lv' := [(13, .int i515), (12, .int 1), (11, .int (nI gb)), (10, .int (nI ga)), (8, .int (nI k)), (7, .ref nn), (6, .ref pl), (5, .ref me), (4, .ref ge), (3, .ref sh), (2, .int (nI 0)), (1, .ref b9), (0, .ref x)]) hx hb dL_build_721 hl (k := 1) rfl (by rw [ei515]; rfl) (by decide) rfl (fun ls hl => ?_)
                                            have hi515 : i515 = nI (j + 1) := by
                                              rw [ei515]
                                              exact nI_1 j
                                            rw [hi515]
                                            refine lv_goto (tgt := 648) hx hb dL_build_724 (by decide) ?_
                                            exact ih_L648 (j + 1) true  H locs ls (by omega) (by omega) (at_1 h4 yc507 (fun q => by unfold meshAt at q; omega)) hP hS (lv_sub hl [0, 1, 2, 3, 4, 5, 6, 7, 8, 9, 10, 11, 12] rfl)
                                          · have yc514 : S 9 j = (gb : Int) := by have := (nI_eqi (z := S 9 j) (k := gb) (by omega) (by omega) (by omega)).mp c514.symm; omega
                                            refine lv_aload hx hb dL_build_700 (lv_at hl 7 rfl) ?_
                                            refine lv_iconst (v := 2) hx hb dL_build_702 (by decide) ?_
                                            refine lv_iload hx hb dL_build_703 (lv_at hl 0 rfl) ?_
                                            refine lv_imul hx hb dL_build_705 ?_
                                            refine lv_topi (fun v516 ev516 => ?_)
                                            have hv516 : v516 = nI (2 * j) := by
                                              rw [ev516]
                                              exact pk_mul 2 j
                                            rw [hv516]
                                            refine lv_iconst (v := 1) hx hb dL_build_706 (by decide) ?_
                                            refine lv_iadd hx hb dL_build_707 ?_
                                            refine lv_topi (fun v517 ev517 => ?_)
                                            have hv517 : v517 = nI ((2 * j) + 1) := by
                                              rw [ev517]
                                              exact nI_add (2 * j) 1
                                            rw [hv517]
                                            refine g_iald F hP hme (vp_in_nI (by omega) (by omega)) dL_build_708 ?_
                                            refine lv_topi (fun v518 ev518 => ?_)
                                            have hv518 : v518 = Fm ((2 * j) + 1) := by
                                              rw [ev518]
                                              rw [nI_clamp (n := (2 * j) + 1) (by omega)]
                                            rw [hv518]
                                            refine lv_iload hx hb dL_build_709 (lv_at hl 3 rfl) ?_
                                            refine lv_icmp_eq (tgt := 718) hx hb dL_build_711 (by decide) (fun c519 => ?_) (fun c519 => ?_)
                                            · have yc519 : S 10 j = (ga : Int) := by have := (nI_eqi (z := S 10 j) (k := ga) (by omega) (by omega) (by omega)).mp c519.symm; omega
                                              refine lv_iconst (v := 0) hx hb dL_build_718 (by decide) ?_
                                              refine lv_istore (lv' := [(12, .int 0), (13, .int (nI j)), (11, .int (nI gb)), (10, .int (nI ga)), (8, .int (nI k)), (7, .ref nn), (6, .ref pl), (5, .ref me), (4, .ref ge), (3, .ref sh), (2, .int (nI 0)), (1, .ref b9), (0, .ref x)]) hx hb dL_build_719 hl (by decide) rfl (fun ls hl => ?_)
                                              obtain ⟨i520, ei520⟩ : ∃ y : Int32, y = nI j + (1) := ⟨_, rfl⟩
                                              refine lv_iinc (v := i520) (lv' := [(13, .int i520), (12, .int 0), (11, .int (nI gb)), (10, .int (nI ga)), (8, .int (nI k)), (7, .ref nn), (6, .ref pl), (5, .ref me), (4, .ref ge), (3, .ref sh), (2, .int (nI 0)), (1, .ref b9), (0, .ref x)]) hx hb dL_build_721 hl (k := 1) rfl (by rw [ei520]; rfl) (by decide) rfl (fun ls hl => ?_)
                                              have hi520 : i520 = nI (j + 1) := by
                                                rw [ei520]
                                                exact nI_1 j
                                              rw [hi520]
                                              refine lv_goto (tgt := 648) hx hb dL_build_724 (by decide) ?_
                                              exact ih_L648 (j + 1) false  H locs ls (by omega) (by omega) (at_m (M := fun i => meshAt S i ga gb) (by unfold meshAt; omega)) hP hS (lv_sub hl [0, 1, 2, 3, 4, 5, 6, 7, 8, 9, 10, 11, 12] rfl)
                                            · have yc519 : ¬ S 10 j = (ga : Int) := fun q => c519 (iL_nat q)
                                              refine lv_iconst (v := 1) hx hb dL_build_714 (by decide) ?_
                                              refine lv_goto (tgt := 719) hx hb dL_build_715 (by decide) ?_
                                              refine lv_istore (lv' := [(12, .int 1), (13, .int (nI j)), (11, .int (nI gb)), (10, .int (nI ga)), (8, .int (nI k)), (7, .ref nn), (6, .ref pl), (5, .ref me), (4, .ref ge), (3, .ref sh), (2, .int (nI 0)), (1, .ref b9), (0, .ref x)]) hx hb dL_build_719 hl (by decide) rfl (fun ls hl => ?_)
                                              obtain ⟨i521, ei521⟩ : ∃ y : Int32, y = nI j + (1) := ⟨_, rfl⟩
                                              refine lv_iinc (v := i521) (lv' := [(13, .int i521), (12, .int 1), (11, .int (nI gb)), (10, .int (nI ga)), (8, .int (nI k)), (7, .ref nn), (6, .ref pl), (5, .ref me), (4, .ref ge), (3, .ref sh), (2, .int (nI 0)), (1, .ref b9), (0, .ref x)]) hx hb dL_build_721 hl (k := 1) rfl (by rw [ei521]; rfl) (by decide) rfl (fun ls hl => ?_)
                                              have hi521 : i521 = nI (j + 1) := by
                                                rw [ei521]
                                                exact nI_1 j
                                              rw [hi521]
                                              refine lv_goto (tgt := 648) hx hb dL_build_724 (by decide) ?_
                                              exact ih_L648 (j + 1) true  H locs ls (by omega) (by omega) (at_1 h4 yc507 (fun q => by unfold meshAt at q; omega)) hP hS (lv_sub hl [0, 1, 2, 3, 4, 5, 6, 7, 8, 9, 10, 11, 12] rfl)
                                        · have yc511 : S 9 j = (ga : Int) := by have := (nI_eqi (z := S 9 j) (k := ga) (by omega) (by omega) (by omega)).mp c511.symm; omega
                                          refine lv_aload hx hb dL_build_674 (lv_at hl 7 rfl) ?_
                                          refine lv_iconst (v := 2) hx hb dL_build_676 (by decide) ?_
                                          refine lv_iload hx hb dL_build_677 (lv_at hl 0 rfl) ?_
                                          refine lv_imul hx hb dL_build_679 ?_
                                          refine lv_topi (fun v522 ev522 => ?_)
                                          have hv522 : v522 = nI (2 * j) := by
                                            rw [ev522]
                                            exact pk_mul 2 j
                                          rw [hv522]
                                          refine lv_iconst (v := 1) hx hb dL_build_680 (by decide) ?_
                                          refine lv_iadd hx hb dL_build_681 ?_
                                          refine lv_topi (fun v523 ev523 => ?_)
                                          have hv523 : v523 = nI ((2 * j) + 1) := by
                                            rw [ev523]
                                            exact nI_add (2 * j) 1
                                          rw [hv523]
                                          refine g_iald F hP hme (vp_in_nI (by omega) (by omega)) dL_build_682 ?_
                                          refine lv_topi (fun v524 ev524 => ?_)
                                          have hv524 : v524 = Fm ((2 * j) + 1) := by
                                            rw [ev524]
                                            rw [nI_clamp (n := (2 * j) + 1) (by omega)]
                                          rw [hv524]
                                          refine lv_iload hx hb dL_build_683 (lv_at hl 2 rfl) ?_
                                          refine lv_icmp_eq (tgt := 718) hx hb dL_build_685 (by decide) (fun c525 => ?_) (fun c525 => ?_)
                                          · have yc525 : S 10 j = (gb : Int) := by have := (nI_eqi (z := S 10 j) (k := gb) (by omega) (by omega) (by omega)).mp c525.symm; omega
                                            refine lv_iconst (v := 0) hx hb dL_build_718 (by decide) ?_
                                            refine lv_istore (lv' := [(12, .int 0), (13, .int (nI j)), (11, .int (nI gb)), (10, .int (nI ga)), (8, .int (nI k)), (7, .ref nn), (6, .ref pl), (5, .ref me), (4, .ref ge), (3, .ref sh), (2, .int (nI 0)), (1, .ref b9), (0, .ref x)]) hx hb dL_build_719 hl (by decide) rfl (fun ls hl => ?_)
                                            obtain ⟨i526, ei526⟩ : ∃ y : Int32, y = nI j + (1) := ⟨_, rfl⟩
                                            refine lv_iinc (v := i526) (lv' := [(13, .int i526), (12, .int 0), (11, .int (nI gb)), (10, .int (nI ga)), (8, .int (nI k)), (7, .ref nn), (6, .ref pl), (5, .ref me), (4, .ref ge), (3, .ref sh), (2, .int (nI 0)), (1, .ref b9), (0, .ref x)]) hx hb dL_build_721 hl (k := 1) rfl (by rw [ei526]; rfl) (by decide) rfl (fun ls hl => ?_)
                                            have hi526 : i526 = nI (j + 1) := by
                                              rw [ei526]
                                              exact nI_1 j
                                            rw [hi526]
                                            refine lv_goto (tgt := 648) hx hb dL_build_724 (by decide) ?_
                                            exact ih_L648 (j + 1) false  H locs ls (by omega) (by omega) (at_m (M := fun i => meshAt S i ga gb) (by unfold meshAt; omega)) hP hS (lv_sub hl [0, 1, 2, 3, 4, 5, 6, 7, 8, 9, 10, 11, 12] rfl)
                                          · have yc525 : ¬ S 10 j = (gb : Int) := fun q => c525 (iL_nat q)
                                            refine lv_aload hx hb dL_build_688 (lv_at hl 7 rfl) ?_
                                            refine lv_iconst (v := 2) hx hb dL_build_690 (by decide) ?_
                                            refine lv_iload hx hb dL_build_691 (lv_at hl 0 rfl) ?_
                                            refine lv_imul hx hb dL_build_693 ?_
                                            refine lv_topi (fun v527 ev527 => ?_)
                                            have hv527 : v527 = nI (2 * j) := by
                                              rw [ev527]
                                              exact pk_mul 2 j
                                            rw [hv527]
                                            refine g_iald F hP hme (vp_in_nI (by omega) (by omega)) dL_build_694 ?_
                                            refine lv_topi (fun v528 ev528 => ?_)
                                            have hv528 : v528 = iL (S 9 j) := by
                                              rw [ev528]
                                              rw [nI_clamp (n := 2 * j) (by omega)]
                                              exact m9
                                            rw [hv528]
                                            refine lv_iload hx hb dL_build_695 (lv_at hl 2 rfl) ?_
                                            refine lv_icmp_ne (tgt := 714) hx hb dL_build_697 (by decide) (fun c529 => ?_) (fun c529 => ?_)
                                            · have yc529 : ¬ S 9 j = (gb : Int) := fun q => c529 (iL_nat q)
                                              refine lv_iconst (v := 1) hx hb dL_build_714 (by decide) ?_
                                              refine lv_goto (tgt := 719) hx hb dL_build_715 (by decide) ?_
                                              refine lv_istore (lv' := [(12, .int 1), (13, .int (nI j)), (11, .int (nI gb)), (10, .int (nI ga)), (8, .int (nI k)), (7, .ref nn), (6, .ref pl), (5, .ref me), (4, .ref ge), (3, .ref sh), (2, .int (nI 0)), (1, .ref b9), (0, .ref x)]) hx hb dL_build_719 hl (by decide) rfl (fun ls hl => ?_)
                                              obtain ⟨i530, ei530⟩ : ∃ y : Int32, y = nI j + (1) := ⟨_, rfl⟩
                                              refine lv_iinc (v := i530) (lv' := [(13, .int i530), (12, .int 1), (11, .int (nI gb)), (10, .int (nI ga)), (8, .int (nI k)), (7, .ref nn), (6, .ref pl), (5, .ref me), (4, .ref ge), (3, .ref sh), (2, .int (nI 0)), (1, .ref b9), (0, .ref x)]) hx hb dL_build_721 hl (k := 1) rfl (by rw [ei530]; rfl) (by decide) rfl (fun ls hl => ?_)
                                              have hi530 : i530 = nI (j + 1) := by
                                                rw [ei530]
                                                exact nI_1 j
                                              rw [hi530]
                                              refine lv_goto (tgt := 648) hx hb dL_build_724 (by decide) ?_
                                              exact ih_L648 (j + 1) true  H locs ls (by omega) (by omega) (at_1 h4 yc507 (fun q => by unfold meshAt at q; omega)) hP hS (lv_sub hl [0, 1, 2, 3, 4, 5, 6, 7, 8, 9, 10, 11, 12] rfl)
                                            · have yc529 : S 9 j = (gb : Int) := by have := (nI_eqi (z := S 9 j) (k := gb) (by omega) (by omega) (by omega)).mp c529.symm; omega
                                              refine lv_aload hx hb dL_build_700 (lv_at hl 7 rfl) ?_
                                              refine lv_iconst (v := 2) hx hb dL_build_702 (by decide) ?_
                                              refine lv_iload hx hb dL_build_703 (lv_at hl 0 rfl) ?_
                                              refine lv_imul hx hb dL_build_705 ?_
                                              refine lv_topi (fun v531 ev531 => ?_)
                                              have hv531 : v531 = nI (2 * j) := by
                                                rw [ev531]
                                                exact pk_mul 2 j
                                              rw [hv531]
                                              refine lv_iconst (v := 1) hx hb dL_build_706 (by decide) ?_
                                              refine lv_iadd hx hb dL_build_707 ?_
                                              refine lv_topi (fun v532 ev532 => ?_)
                                              have hv532 : v532 = nI ((2 * j) + 1) := by
                                                rw [ev532]
                                                exact nI_add (2 * j) 1
                                              rw [hv532]
                                              refine g_iald F hP hme (vp_in_nI (by omega) (by omega)) dL_build_708 ?_
                                              refine lv_topi (fun v533 ev533 => ?_)
                                              have hv533 : v533 = Fm ((2 * j) + 1) := by
                                                rw [ev533]
                                                rw [nI_clamp (n := (2 * j) + 1) (by omega)]
                                              rw [hv533]
                                              refine lv_iload hx hb dL_build_709 (lv_at hl 3 rfl) ?_
                                              refine lv_icmp_eq (tgt := 718) hx hb dL_build_711 (by decide) (fun c534 => ?_) (fun c534 => ?_)
                                              · have yc534 : S 10 j = (ga : Int) := by have := (nI_eqi (z := S 10 j) (k := ga) (by omega) (by omega) (by omega)).mp c534.symm; omega
                                                refine lv_iconst (v := 0) hx hb dL_build_718 (by decide) ?_
                                                refine lv_istore (lv' := [(12, .int 0), (13, .int (nI j)), (11, .int (nI gb)), (10, .int (nI ga)), (8, .int (nI k)), (7, .ref nn), (6, .ref pl), (5, .ref me), (4, .ref ge), (3, .ref sh), (2, .int (nI 0)), (1, .ref b9), (0, .ref x)]) hx hb dL_build_719 hl (by decide) rfl (fun ls hl => ?_)
                                                obtain ⟨i535, ei535⟩ : ∃ y : Int32, y = nI j + (1) := ⟨_, rfl⟩
                                                refine lv_iinc (v := i535) (lv' := [(13, .int i535), (12, .int 0), (11, .int (nI gb)), (10, .int (nI ga)), (8, .int (nI k)), (7, .ref nn), (6, .ref pl), (5, .ref me), (4, .ref ge), (3, .ref sh), (2, .int (nI 0)), (1, .ref b9), (0, .ref x)]) hx hb dL_build_721 hl (k := 1) rfl (by rw [ei535]; rfl) (by decide) rfl (fun ls hl => ?_)
                                                have hi535 : i535 = nI (j + 1) := by
                                                  rw [ei535]
                                                  exact nI_1 j
                                                rw [hi535]
                                                refine lv_goto (tgt := 648) hx hb dL_build_724 (by decide) ?_
                                                exact ih_L648 (j + 1) false  H locs ls (by omega) (by omega) (at_m (M := fun i => meshAt S i ga gb) (by unfold meshAt; omega)) hP hS (lv_sub hl [0, 1, 2, 3, 4, 5, 6, 7, 8, 9, 10, 11, 12] rfl)
                                              · have yc534 : ¬ S 10 j = (ga : Int) := fun q => c534 (iL_nat q)
                                                refine lv_iconst (v := 1) hx hb dL_build_714 (by decide) ?_
                                                refine lv_goto (tgt := 719) hx hb dL_build_715 (by decide) ?_
                                                refine lv_istore (lv' := [(12, .int 1), (13, .int (nI j)), (11, .int (nI gb)), (10, .int (nI ga)), (8, .int (nI k)), (7, .ref nn), (6, .ref pl), (5, .ref me), (4, .ref ge), (3, .ref sh), (2, .int (nI 0)), (1, .ref b9), (0, .ref x)]) hx hb dL_build_719 hl (by decide) rfl (fun ls hl => ?_)
                                                obtain ⟨i536, ei536⟩ : ∃ y : Int32, y = nI j + (1) := ⟨_, rfl⟩
                                                refine lv_iinc (v := i536) (lv' := [(13, .int i536), (12, .int 1), (11, .int (nI gb)), (10, .int (nI ga)), (8, .int (nI k)), (7, .ref nn), (6, .ref pl), (5, .ref me), (4, .ref ge), (3, .ref sh), (2, .int (nI 0)), (1, .ref b9), (0, .ref x)]) hx hb dL_build_721 hl (k := 1) rfl (by rw [ei536]; rfl) (by decide) rfl (fun ls hl => ?_)
                                                have hi536 : i536 = nI (j + 1) := by
                                                  rw [ei536]
                                                  exact nI_1 j
                                                rw [hi536]
                                                refine lv_goto (tgt := 648) hx hb dL_build_724 (by decide) ?_
                                                exact ih_L648 (j + 1) true  H locs ls (by omega) (by omega) (at_1 h4 yc507 (fun q => by unfold meshAt at q; omega)) hP hS (lv_sub hl [0, 1, 2, 3, 4, 5, 6, 7, 8, 9, 10, 11, 12] rfl)
                                exact L648 (c2 + 1) 0 cd  H locs ls (by omega) (by omega) (⟨fun q => ⟨q, fun i hi => absurd hi (Nat.not_lt_zero i)⟩, fun q => q.1⟩) hP hS (lv_sub hl [0, 1, 2, 3, 4, 5, 6, 7, 8, 9, 10, 11, 12] rfl)
                              · have yc456 : cc = true := g_b1.mp c456
                                refine lv_aload hx hb dL_build_617 (lv_at hl 7 rfl) ?_
                                refine lv_iconst (v := 5) hx hb dL_build_619 (by decide) ?_
                                refine lv_iload hx hb dL_build_620 (lv_at hl 1 rfl) ?_
                                refine lv_imul hx hb dL_build_622 ?_
                                refine lv_topi (fun v537 ev537 => ?_)
                                have hv537 : v537 = nI (5 * gb) := by
                                  rw [ev537]
                                  exact pk_mul 5 gb
                                rw [hv537]
                                refine lv_iconst (v := 1) hx hb dL_build_623 (by decide) ?_
                                refine lv_iadd hx hb dL_build_624 ?_
                                refine lv_topi (fun v538 ev538 => ?_)
                                have hv538 : v538 = nI ((5 * gb) + 1) := by
                                  rw [ev538]
                                  exact nI_add (5 * gb) 1
                                rw [hv538]
                                refine g_iald F hP hge (vp_in_nI (by omega) (by omega)) dL_build_625 ?_
                                refine lv_topi (fun v539 ev539 => ?_)
                                have hv539 : v539 = Fg2 ((5 * gb) + 1) := by
                                  rw [ev539]
                                  rw [nI_clamp (n := (5 * gb) + 1) (by omega)]
                                rw [hv539]
                                refine lv_aload hx hb dL_build_626 (lv_at hl 7 rfl) ?_
                                refine lv_iconst (v := 5) hx hb dL_build_628 (by decide) ?_
                                refine lv_iload hx hb dL_build_629 (lv_at hl 2 rfl) ?_
                                refine lv_imul hx hb dL_build_631 ?_
                                refine lv_topi (fun v540 ev540 => ?_)
                                have hv540 : v540 = nI (5 * ga) := by
                                  rw [ev540]
                                  exact pk_mul 5 ga
                                rw [hv540]
                                refine lv_iconst (v := 1) hx hb dL_build_632 (by decide) ?_
                                refine lv_iadd hx hb dL_build_633 ?_
                                refine lv_topi (fun v541 ev541 => ?_)
                                have hv541 : v541 = nI ((5 * ga) + 1) := by
                                  rw [ev541]
                                  exact nI_add (5 * ga) 1
                                rw [hv541]
                                refine g_iald F hP hge (vp_in_nI (by omega) (by omega)) dL_build_634 ?_
                                refine lv_topi (fun v542 ev542 => ?_)
                                have hv542 : v542 = Fg2 ((5 * ga) + 1) := by
                                  rw [ev542]
                                  rw [nI_clamp (n := (5 * ga) + 1) (by omega)]
                                rw [hv542]
                                refine lv_icmp_le (tgt := 642) hx hb dL_build_635 (by decide) (fun c543 => ?_) (fun c543 => ?_)
                                · have kc543 : iL (S 5 gb) ≤ iL (S 5 ga) ↔ S 5 gb ≤ S 5 ga := iL_le (by omega) (by omega) (by omega) (by omega)
                                  rw [kc543] at c543
                                  refine lv_iconst (v := 0) hx hb dL_build_642 (by decide) ?_
                                  refine lv_istore (lv' := [(12, .int 0), (11, .int (nI gb)), (10, .int (nI ga)), (8, .int (nI k)), (7, .ref nn), (6, .ref pl), (5, .ref me), (4, .ref ge), (3, .ref sh), (2, .int (nI 0)), (1, .ref b9), (0, .ref x)]) hx hb dL_build_643 hl (by decide) rfl (fun ls hl => ?_)
                                  refine lv_iconst (v := 0) hx hb dL_build_645 (by decide) ?_
                                  refine lv_istore (lv' := [(13, .int 0), (12, .int 0), (11, .int (nI gb)), (10, .int (nI ga)), (8, .int (nI k)), (7, .ref nn), (6, .ref pl), (5, .ref me), (4, .ref ge), (3, .ref sh), (2, .int (nI 0)), (1, .ref b9), (0, .ref x)]) hx hb dL_build_646 hl (by decide) rfl (fun ls hl => ?_)
                                  have L648 : ∀ (n : Nat) (j : Nat) (ce : Bool) (H : Heap) (locs : List Loc) (ls : Array Slot), c2 + 1 ≤ j + n → (j ≤ c2) → (ce = true ↔ cd = true ∧ ∀ i, i < j → ¬ meshAt S i ga gb) → g_P A G w H → va_S A s.heap H locs → lv_has ls 15 [(13, .int (nI j)), (12, .int (g_b ce)), (11, .int (nI gb)), (10, .int (nI ga)), (8, .int (nI k)), (7, .ref nn), (6, .ref pl), (5, .ref me), (4, .ref ge), (3, .ref sh), (2, .int (nI 0)), (1, .ref b9), (0, .ref x)] → W p l e R s m args below meth c H locs ((100 + 10 * k)) ((2500 + 150 * k)) Q (F0 m 648 ls []) := by
                                    intro n
                                    induction n with
                                    | zero =>
                                      intro j ce H locs ls hfu hj h4 hP hS hl
                                      exact absurd hfu (by omega)
                                    | succ n ih_L648 =>
                                      intro j ce H locs ls hfu hj h4 hP hS hl
                                      refine lv_iload hx hb dL_build_648 (lv_at hl 0 rfl) ?_
                                      refine lv_aload hx hb dL_build_650 (lv_at hl 5 rfl) ?_
                                      refine lv_iconst (v := 2) hx hb dL_build_652 (by decide) ?_
                                      refine g_iald F hP hnn (by unfold vp_in; decide) dL_build_653 ?_
                                      refine lv_topi (fun v544 ev544 => ?_)
                                      have hv544 : v544 = nI c2 := by
                                        rw [ev544]
                                        rw [show (2 : Int32).toNatClampNeg = 2 from by decide]
                                        exact hf2
                                      rw [hv544]
                                      refine lv_icmp_ge (tgt := 727) hx hb dL_build_654 (by decide) (fun c545 => ?_) (fun c545 => ?_)
                                      · have zc545 : c2 ≤ j := (nI_leI (by omega) (by omega)).mp c545
                                        have ejn : j = c2 := by omega
                                        rw [ejn] at h4
                                        have hcan : ce = true ↔ canM S ga gb := by
                                          rw [h4, h3, h2, h1]
                                          constructor
                                          · intro q
                                            refine ⟨by omega, fun ⟨i, i1, i2⟩ => q.2 i (by omega) i2⟩
                                          · intro q
                                            obtain ⟨q1, q2⟩ := q
                                            exact ⟨by omega, fun i hi z => q2 ⟨i, by omega, z⟩⟩
                                        refine lv_bipush (v := (-2)) hx hb dL_build_727 (by decide) ?_
                                        refine lv_istore (lv' := [(13, .int (-2)), (12, .int (g_b ce)), (11, .int (nI gb)), (10, .int (nI ga)), (8, .int (nI k)), (7, .ref nn), (6, .ref pl), (5, .ref me), (4, .ref ge), (3, .ref sh), (2, .int (nI 0)), (1, .ref b9), (0, .ref x)]) hx hb dL_build_729 hl (by decide) rfl (fun ls hl => ?_)
                                        refine lv_aload_n hx hb dL_build_731 rfl (lv_at hl 12 rfl) ?_
                                        refine lv_iload hx hb dL_build_732 (lv_at hl 3 rfl) ?_
                                        refine lv_iload hx hb dL_build_734 (lv_at hl 2 rfl) ?_
                                        have tka := kN_n (k := ga) (by omega)
                                        have tkb := kN_n (k := gb) (by omega)
                                        have ta := nI_i ga (by omega)
                                        have tb := nI_i gb (by omega)
                                        have shq : shQ S 1 (nI ga) ∧ shQ S 1 (nI gb) := ⟨⟨by omega, by omega⟩, by omega, by omega⟩
                                        have cd1 : canM S ga gb → cdMesh S (nI ga) (nI gb) = 0 := fun q => (if_pos shq).trans (by rw [tka, tkb]; exact (if_pos q).trans (if_pos (by omega)))
                                        have cd2 : ¬ canM S ga gb → cdMesh S (nI ga) (nI gb) = 2 := fun q => (if_pos shq).trans (by rw [tka, tkb]; exact if_neg q)
                                        obtain ⟨ad, Cn, T, h00, hBn, hLn⟩ := id hB
                                        have hCo := k_X6_mesh l hlt A G w ad Cn S T (nI ga) (nI gb) hBn.1 hBn.2.1 hBn.2.2.1 hBn.2.2.2.1 hBn.2.2.2.2
                                        rw [h00] at hCo
                                        have hx0 := rep_x hBn.1 hBn.2.1
                                        rw [h00] at hx0
                                        refine g_cVi (As := [.int (nI ga), .int (nI gb)]) (rest := []) F hP hS hCo (cwV 2 hts gL_build_X6_mesh rfl rfl rfl cd_X6_mesh ⟨by rw [hR]; exact Nat.le_of_ble_eq_true rfl, by rw [hR]; exact Nat.le_of_ble_eq_true rfl⟩) hx0 rfl rfl rfl hl.1 (Nat.le_of_ble_eq_true rfl) dL_build_736 ⟨by rw [hR]; dsimp only; omega, by rw [hR]; dsimp only; omega⟩ rfl (fun E w9 ce q9 H locs hpx hP hS hce hcv hcl => ?_) (fun r546 w547 H locs h548 hP hS => ?_)
                                        · obtain ⟨ew9, hpx⟩ := hpx
                                          have ew9 : w9 = w := ew9
                                          rw [ew9] at hP
                                          have hno : ¬ canM S ga gb := fun q => by
                                            rcases hpx with ⟨_, z⟩ | ⟨_, z⟩ | ⟨_, z⟩ <;> exact absurd ((cd1 q).symm.trans z) (by decide)
                                          have eE : E = "java/lang/IllegalArgumentException" := by
                                            rcases hpx with ⟨_, z⟩ | ⟨z, _⟩ | ⟨_, z⟩
                                            · exact absurd ((cd2 hno).symm.trans z) (by decide)
                                            · exact z
                                            · exact absurd ((cd2 hno).symm.trans z) (by decide)
                                          subst eE
                                          refine vx_catch hown [] ⟨731, 741, 744, 35⟩ [] htab (fun z hz => (nomatch hz)) (by decide) (by decide) (hts _ (List.mem_cons_of_mem _ (List.mem_append_left _ (List.mem_append_left _ (List.mem_append_left _ (List.mem_append_left _ (List.mem_append_left _ (List.mem_append_left _ (List.mem_append_left _ (List.mem_append_left _ (List.mem_append_left _ (List.mem_append_left _ (List.mem_append_left _ (List.mem_append_left _ (List.mem_append_left _ (List.mem_of_getElem? (i := 0) rfl)))))))))))))))) (va_Nw.use rfl (hZ.2.2.2.2.2.2.2.1 ("java/lang/IllegalArgumentException", "java/lang/IllegalArgumentException") (List.mem_of_getElem? (i := 0) rfl))) hce hcv hcl ?_
                                          have yce : ce_ = false := by
                                            cases hq : ce_
                                            · rfl
                                            · exact absurd (hcan.mp hq) hno
                                          refine lv_astore (lv' := [(14, .ref q9), (13, .int (-2)), (12, .int (g_b ce)), (11, .int (nI gb)), (10, .int (nI ga)), (8, .int (nI k)), (7, .ref nn), (6, .ref pl), (5, .ref me), (4, .ref ge), (3, .ref sh), (2, .int (nI 0)), (1, .ref b9), (0, .ref x)]) hx hb dL_build_744 hl (by decide) rfl (fun ls hl => ?_)
                                          refine lv_bipush (v := (-2)) hx hb dL_build_746 (by decide) ?_
                                          refine lv_istore (lv' := [(13, .int (-2)), (14, .ref q9), (12, .int (g_b ce)), (11, .int (nI gb)), (10, .int (nI ga)), (8, .int (nI k)), (7, .ref nn), (6, .ref pl), (5, .ref me), (4, .ref ge), (3, .ref sh), (2, .int (nI 0)), (1, .ref b9), (0, .ref x)]) hx hb dL_build_748 hl (by decide) rfl (fun ls hl => ?_)
                                          refine lv_iload hx hb dL_build_750 (lv_at hl 0 rfl) ?_
                                          refine lv_iload hx hb dL_build_752 (lv_at hl 2 rfl) ?_
                                          refine lv_if_eq (tgt := 764) hx hb dL_build_754 (by decide) (fun c549 => ?_) (fun c549 => ?_)
                                          · refine lv_bipush (v := (-2)) hx hb dL_build_764 (by decide) ?_
                                            refine lv_icmp_eq (tgt := 771) hx hb dL_build_766 (by decide) (fun c550 => ?_) (fun c550 => ?_)
                                            · refine lv_iload hx hb dL_build_771 (lv_at hl 2 rfl) ?_
                                              refine lv_if_ne (tgt := 779) hx hb dL_build_773 (by decide) (fun c551 => ?_) (fun c551 => ?_)
                                              · exact absurd (by rw [yce]; rfl) c551
                                              · refine lv_goto (tgt := 811) hx hb dL_build_776 (by decide) ?_
                                                refine W.widen (k := 100 + 10 * (k + 1)) (n := 2500 + 150 * (k + 1)) (by omega) (by omega) ?_
                                                obtain ⟨i552, ei552⟩ : ∃ y : Int32, y = nI k + (1) := ⟨_, rfl⟩
                                                refine lv_iinc (v := i552) (lv' := [(8, .int i552), (13, .int (-2)), (14, .ref q9), (12, .int (g_b ce)), (11, .int (nI gb)), (10, .int (nI ga)), (7, .ref nn), (6, .ref pl), (5, .ref me), (4, .ref ge), (3, .ref sh), (2, .int (nI 0)), (1, .ref b9), (0, .ref x)]) hx hb dL_build_811 hl (k := 5) rfl (by rw [ei552]; rfl) (by decide) rfl (fun ls hl => ?_)
                                                have hi552 : i552 = nI (k + 1) := by
                                                  rw [ei552]
                                                  exact nI_1 k
                                                rw [hi552]
                                                refine lv_goto (tgt := 393) hx hb dL_build_814 (by decide) ?_
                                                exact ih_L393 (k + 1) S Fm Fn c2 w H locs ls (by omega) (by omega) (hc2) (hB) (hz) (hf0) (hf1) (hf2) (hf3) (has) (hag) (ham) hnn hsh hge hme hpl hP hS (lv_sub hl [0, 6, 7, 8, 9, 10, 11, 12, 13] rfl)
                                            · exact absurd rfl c550
                                          · exact absurd (by rw [yce]; rfl) c549
                                        · obtain ⟨hc0, er, hAf⟩ := h548
                                          obtain ⟨S553, eS553⟩ : ∃ z, z = nxMesh S (nI ga) (nI gb) := ⟨_, rfl⟩
                                          rw [← eS553] at hAf
                                          obtain ⟨hB554, kp555⟩ := lwB_aft h00 hLn hAf
                                          have f556 : w547 nn = some (.inl (G.2.1 0, 6, .inl Fn)) := (kp555 nn (List.mem_of_getElem? (i := 0) rfl)).trans hnn
                                          have f557 : w547 sh = some (.inl (G.2.1 0, 30, .inl Fs2)) := (kp555 sh (List.mem_of_getElem? (i := 1) rfl)).trans hsh
                                          have f558 : w547 ge = some (.inl (G.2.1 0, 80, .inl Fg2)) := (kp555 ge (List.mem_of_getElem? (i := 2) rfl)).trans hge
                                          have f559 : w547 me = some (.inl (G.2.1 0, 32, .inl Fm)) := (kp555 me (List.mem_of_getElem? (i := 3) rfl)).trans hme
                                          have f560 : w547 pl = some (.inl (G.2.1 0, 20, .inl Fp0)) := (kp555 pl (List.mem_of_getElem? (i := 4) rfl)).trans hpl
                                          rw [er]
                                          have yes : canM S ga gb := by
                                            rcases Classical.em (canM S ga gb) with q | q
                                            · exact q
                                            · exact absurd ((cd2 q).symm.trans hc0) (by decide)
                                          have yce := hcan.mpr yes
                                          obtain ⟨a1, a2, a9, a10, a4, a5⟩ := nx_mesh eS553
                                          have s0n : (S 0 2).toNat = c2 := by omega
                                          rw [s0n, ta] at a9
                                          rw [s0n, tb] at a10
                                          rw [s0n] at a4
                                          have zk : S553 0 0 = n0 ∧ S553 0 1 = n1 ∧ S553 0 2 = ((c2 + 1 : Nat) : Int) ∧ S553 0 3 = 0 ∧ S553 0 4 = -1 := by rw [a2 0 (by decide), a2 1 (by decide), a1, a2 3 (by decide), a2 4 (by decide)]; omega
                                          unfold vlMesh
                                          rw [iL_nat (n := c2) (by omega : S 0 2 = (c2 : Int))]
                                          refine lv_istore (lv' := [(13, .int (nI c2)), (12, .int (g_b ce)), (11, .int (nI gb)), (10, .int (nI ga)), (8, .int (nI k)), (7, .ref nn), (6, .ref pl), (5, .ref me), (4, .ref ge), (3, .ref sh), (2, .int (nI 0)), (1, .ref b9), (0, .ref x)]) hx hb dL_build_739 hl (by decide) rfl (fun ls hl => ?_)
                                          refine lv_goto (tgt := 750) hx hb dL_build_741 (by decide) ?_
                                          refine lv_iload hx hb dL_build_750 (lv_at hl 0 rfl) ?_
                                          refine lv_iload hx hb dL_build_752 (lv_at hl 1 rfl) ?_
                                          refine lv_if_eq (tgt := 764) hx hb dL_build_754 (by decide) (fun c561 => ?_) (fun c561 => ?_)
                                          · exact absurd (g_b0.mp c561) (by rw [yce]; decide)
                                          · refine lv_aload hx hb dL_build_757 (lv_at hl 5 rfl) ?_
                                            refine lv_iconst (v := 2) hx hb dL_build_759 (by decide) ?_
                                            refine g_iald F hP f556 (by unfold vp_in; decide) dL_build_760 ?_
                                            refine lv_topi (fun v562 ev562 => ?_)
                                            have hv562 : v562 = nI c2 := by
                                              rw [ev562]
                                              rw [show (2 : Int32).toNatClampNeg = 2 from by decide]
                                              exact hf2
                                            rw [hv562]
                                            refine lv_goto (tgt := 766) hx hb dL_build_761 (by decide) ?_
                                            refine lv_icmp_eq (tgt := 771) hx hb dL_build_766 (by decide) (fun c563 => ?_) (fun c563 => ?_)
                                            · refine lv_iload hx hb dL_build_771 (lv_at hl 1 rfl) ?_
                                              refine lv_if_ne (tgt := 779) hx hb dL_build_773 (by decide) (fun c564 => ?_) (fun c564 => ?_)
                                              · refine lv_aload hx hb dL_build_779 (lv_at hl 7 rfl) ?_
                                                refine lv_iconst (v := 2) hx hb dL_build_781 (by decide) ?_
                                                refine lv_aload hx hb dL_build_782 (lv_at hl 5 rfl) ?_
                                                refine lv_iconst (v := 2) hx hb dL_build_784 (by decide) ?_
                                                refine g_iald F hP f556 (by unfold vp_in; decide) dL_build_785 ?_
                                                refine lv_topi (fun v565 ev565 => ?_)
                                                have hv565 : v565 = nI c2 := by
                                                  rw [ev565]
                                                  rw [show (2 : Int32).toNatClampNeg = 2 from by decide]
                                                  exact hf2
                                                rw [hv565]
                                                refine lv_imul hx hb dL_build_786 ?_
                                                refine lv_topi (fun v566 ev566 => ?_)
                                                have hv566 : v566 = nI (2 * c2) := by
                                                  rw [ev566]
                                                  exact pk_mul 2 c2
                                                rw [hv566]
                                                refine lv_iload hx hb dL_build_787 (lv_at hl 3 rfl) ?_
                                                refine g_iast F hP hS f559 (vp_in_nI (by omega) (by omega)) dL_build_789 (fun H locs hP hS => ?_)
                                                rw [nI_clamp (n := 2 * c2) (by omega)] at hP
                                                obtain ⟨w567, ew567⟩ : ∃ z, z = g_up w547 me (.inl (G.2.1 0, 32, .inl (upd Fm (2 * c2) (nI ga)))) := ⟨_, rfl⟩
                                                have hP : g_P A G w567 H := by rw [ew567]; exact hP
                                                have f568 : w567 nn = some (.inl (G.2.1 0, 6, .inl Fn)) := by rw [ew567]; exact g_up_f f556 (Ne.symm (dnnme))
                                                have f569 : w567 sh = some (.inl (G.2.1 0, 30, .inl Fs2)) := by rw [ew567]; exact g_up_f f557 (dshme)
                                                have f570 : w567 ge = some (.inl (G.2.1 0, 80, .inl Fg2)) := by rw [ew567]; exact g_up_f f558 (dgeme)
                                                have f571 : w567 pl = some (.inl (G.2.1 0, 20, .inl Fp0)) := by rw [ew567]; exact g_up_f f560 (Ne.symm (dmepl))
                                                have f572 : w567 me = some (.inl (G.2.1 0, 32, .inl (upd Fm (2 * c2) (nI ga)))) := by rw [ew567]; exact g_up_s _ _ _
                                                have hB573 := lwB_set hB554 (List.mem_of_getElem? (i := 3) rfl) ew567
                                                refine lv_aload hx hb dL_build_790 (lv_at hl 7 rfl) ?_
                                                refine lv_iconst (v := 2) hx hb dL_build_792 (by decide) ?_
                                                refine lv_aload hx hb dL_build_793 (lv_at hl 5 rfl) ?_
                                                refine lv_iconst (v := 2) hx hb dL_build_795 (by decide) ?_
                                                refine g_iald F hP f568 (by unfold vp_in; decide) dL_build_796 ?_
                                                refine lv_topi (fun v574 ev574 => ?_)
                                                have hv574 : v574 = nI c2 := by
                                                  rw [ev574]
                                                  rw [show (2 : Int32).toNatClampNeg = 2 from by decide]
                                                  exact hf2
                                                rw [hv574]
                                                refine lv_imul hx hb dL_build_797 ?_
                                                refine lv_topi (fun v575 ev575 => ?_)
                                                have hv575 : v575 = nI (2 * c2) := by
                                                  rw [ev575]
                                                  exact pk_mul 2 c2
                                                rw [hv575]
                                                refine lv_iconst (v := 1) hx hb dL_build_798 (by decide) ?_
                                                refine lv_iadd hx hb dL_build_799 ?_
                                                refine lv_topi (fun v576 ev576 => ?_)
                                                have hv576 : v576 = nI ((2 * c2) + 1) := by
                                                  rw [ev576]
                                                  exact nI_add (2 * c2) 1
                                                rw [hv576]
                                                refine lv_iload hx hb dL_build_800 (lv_at hl 2 rfl) ?_
                                                refine g_iast F hP hS f572 (vp_in_nI (by omega) (by omega)) dL_build_802 (fun H locs hP hS => ?_)
                                                rw [nI_clamp (n := (2 * c2) + 1) (by omega)] at hP
                                                obtain ⟨w577, ew577⟩ : ∃ z, z = g_up w567 me (.inl (G.2.1 0, 32, .inl (upd (upd Fm (2 * c2) (nI ga)) ((2 * c2) + 1) (nI gb)))) := ⟨_, rfl⟩
                                                have hP : g_P A G w577 H := by rw [ew577]; exact hP
                                                have f578 : w577 nn = some (.inl (G.2.1 0, 6, .inl Fn)) := by rw [ew577]; exact g_up_f f568 (Ne.symm (dnnme))
                                                have f579 : w577 sh = some (.inl (G.2.1 0, 30, .inl Fs2)) := by rw [ew577]; exact g_up_f f569 (dshme)
                                                have f580 : w577 ge = some (.inl (G.2.1 0, 80, .inl Fg2)) := by rw [ew577]; exact g_up_f f570 (dgeme)
                                                have f581 : w577 pl = some (.inl (G.2.1 0, 20, .inl Fp0)) := by rw [ew577]; exact g_up_f f571 (Ne.symm (dmepl))
                                                have f582 : w577 me = some (.inl (G.2.1 0, 32, .inl (upd (upd Fm (2 * c2) (nI ga)) ((2 * c2) + 1) (nI gb)))) := by rw [ew577]; exact g_up_s _ _ _
                                                have hB583 := lwB_set hB573 (List.mem_of_getElem? (i := 3) rfl) ew577
                                                refine lv_aload hx hb dL_build_803 (lv_at hl 5 rfl) ?_
                                                refine lv_iconst (v := 2) hx hb dL_build_805 (by decide) ?_
                                                refine lv_dup2_11 hx hb dL_build_806 rfl rfl ?_
                                                refine g_iald F hP f578 (by unfold vp_in; decide) dL_build_807 ?_
                                                refine lv_topi (fun v584 ev584 => ?_)
                                                have hv584 : v584 = nI c2 := by
                                                  rw [ev584]
                                                  rw [show (2 : Int32).toNatClampNeg = 2 from by decide]
                                                  exact hf2
                                                rw [hv584]
                                                refine lv_iconst (v := 1) hx hb dL_build_808 (by decide) ?_
                                                refine lv_iadd hx hb dL_build_809 ?_
                                                refine lv_topi (fun v585 ev585 => ?_)
                                                have hv585 : v585 = nI (c2 + 1) := by
                                                  rw [ev585]
                                                  exact nI_add c2 1
                                                rw [hv585]
                                                refine g_iast F hP hS f578 (by unfold vp_in; decide) dL_build_810 (fun H locs hP hS => ?_)
                                                rw [show (2 : Int32).toNatClampNeg = 2 from by decide] at hP
                                                obtain ⟨w586, ew586⟩ : ∃ z, z = g_up w577 nn (.inl (G.2.1 0, 6, .inl (upd Fn 2 (nI (c2 + 1))))) := ⟨_, rfl⟩
                                                have hP : g_P A G w586 H := by rw [ew586]; exact hP
                                                have f587 : w586 sh = some (.inl (G.2.1 0, 30, .inl Fs2)) := by rw [ew586]; exact g_up_f f579 (dnnsh)
                                                have f588 : w586 ge = some (.inl (G.2.1 0, 80, .inl Fg2)) := by rw [ew586]; exact g_up_f f580 (dnnge)
                                                have f589 : w586 pl = some (.inl (G.2.1 0, 20, .inl Fp0)) := by rw [ew586]; exact g_up_f f581 (dnnpl)
                                                have f590 : w586 me = some (.inl (G.2.1 0, 32, .inl (upd (upd Fm (2 * c2) (nI ga)) ((2 * c2) + 1) (nI gb)))) := by rw [ew586]; exact g_up_f f582 (dnnme)
                                                have f591 : w586 nn = some (.inl (G.2.1 0, 6, .inl (upd Fn 2 (nI (c2 + 1))))) := by rw [ew586]; exact g_up_s _ _ _
                                                have hB592 := lwB_set hB583 (List.mem_of_getElem? (i := 0) rfl) ew586
                                                refine W.widen (k := 100 + 10 * (k + 1)) (n := 2500 + 150 * (k + 1)) (by omega) (by omega) ?_
                                                have amk : arM S553 (c2 + 1) (upd (upd Fm (2 * c2) (nI ga)) ((2 * c2) + 1) (nI gb)) := arM_1 ham (fun f j hj _ _ => a4 f j (by omega) (by omega)) (fun j hj => by rw [pk_un (by omega), pk_un (by omega)]) ⟨by rw [a9, pk_un (by omega), pk_us]; exact (iL_n ga).symm, by rw [a10, pk_us]; exact (iL_n gb).symm⟩
                                                have ask : arS S553 n0 Fs2 := arS_c has (fun j _ => a5 3 j (by decide) (by decide) (by decide))
                                                have agk : arG S553 n1 Fg2 := arG_c hag (fun f j _ q1 q2 => a5 f j (by omega) (by omega) (by omega))
                                                obtain ⟨i593, ei593⟩ : ∃ y : Int32, y = nI k + (1) := ⟨_, rfl⟩
                                                refine lv_iinc (v := i593) (lv' := [(8, .int i593), (13, .int (nI c2)), (12, .int (g_b ce)), (11, .int (nI gb)), (10, .int (nI ga)), (7, .ref nn), (6, .ref pl), (5, .ref me), (4, .ref ge), (3, .ref sh), (2, .int (nI 0)), (1, .ref b9), (0, .ref x)]) hx hb dL_build_811 hl (k := 4) rfl (by rw [ei593]; rfl) (by decide) rfl (fun ls hl => ?_)
                                                have hi593 : i593 = nI (k + 1) := by
                                                  rw [ei593]
                                                  exact nI_1 k
                                                rw [hi593]
                                                refine lv_goto (tgt := 393) hx hb dL_build_814 (by decide) ?_
                                                exact ih_L393 (k + 1) S553 (upd (upd Fm (2 * c2) (nI ga)) ((2 * c2) + 1) (nI gb)) (upd Fn 2 (nI (c2 + 1))) (c2 + 1) w586 H locs ls (by omega) (by omega) (by omega) (hB592) (zk) (by rw [pk_un (by decide)]; exact hf0) (by rw [pk_un (by decide)]; exact hf1) (pk_us) (by rw [pk_un (by decide)]; exact hf3) (ask) (agk) (amk) f591 f587 f588 f590 f589 hP hS (lv_sub hl [0, 5, 6, 7, 8, 9, 10, 11, 12] rfl)
                                              · exact absurd (g_b0.mp (Decidable.not_not.mp c564)) (by rw [yce]; decide)
                                            · exact absurd rfl c563
                                      · have hjn : j < c2 := Nat.not_le.mp (fun q => c545 (nI_le q (by omega)))
                                        obtain ⟨m9, m10⟩ := ham j hjn
                                        have GM := Hi.2.2.2.1 j (by omega)
                                        refine lv_iload hx hb dL_build_657 (lv_at hl 1 rfl) ?_
                                        refine lv_if_eq (tgt := 718) hx hb dL_build_659 (by decide) (fun c594 => ?_) (fun c594 => ?_)
                                        · have yc594 : ce = false := g_b0.mp c594
                                          refine lv_iconst (v := 0) hx hb dL_build_718 (by decide) ?_
                                          refine lv_istore (lv' := [(12, .int 0), (13, .int (nI j)), (11, .int (nI gb)), (10, .int (nI ga)), (8, .int (nI k)), (7, .ref nn), (6, .ref pl), (5, .ref me), (4, .ref ge), (3, .ref sh), (2, .int (nI 0)), (1, .ref b9), (0, .ref x)]) hx hb dL_build_719 hl (by decide) rfl (fun ls hl => ?_)
                                          obtain ⟨i595, ei595⟩ : ∃ y : Int32, y = nI j + (1) := ⟨_, rfl⟩
                                          refine lv_iinc (v := i595) (lv' := [(13, .int i595), (12, .int 0), (11, .int (nI gb)), (10, .int (nI ga)), (8, .int (nI k)), (7, .ref nn), (6, .ref pl), (5, .ref me), (4, .ref ge), (3, .ref sh), (2, .int (nI 0)), (1, .ref b9), (0, .ref x)]) hx hb dL_build_721 hl (k := 1) rfl (by rw [ei595]; rfl) (by decide) rfl (fun ls hl => ?_)
                                          have hi595 : i595 = nI (j + 1) := by
                                            rw [ei595]
                                            exact nI_1 j
                                          rw [hi595]
                                          refine lv_goto (tgt := 648) hx hb dL_build_724 (by decide) ?_
                                          exact ih_L648 (j + 1) false  H locs ls (by omega) (by omega) (at_0 h4 yc594) hP hS (lv_sub hl [0, 1, 2, 3, 4, 5, 6, 7, 8, 9, 10, 11, 12] rfl)
                                        · have yc594 : ce = true := g_b1.mp c594
                                          refine lv_aload hx hb dL_build_662 (lv_at hl 7 rfl) ?_
                                          refine lv_iconst (v := 2) hx hb dL_build_664 (by decide) ?_
                                          refine lv_iload hx hb dL_build_665 (lv_at hl 0 rfl) ?_
                                          refine lv_imul hx hb dL_build_667 ?_
                                          refine lv_topi (fun v596 ev596 => ?_)
                                          have hv596 : v596 = nI (2 * j) := by
                                            rw [ev596]
                                            exact pk_mul 2 j
                                          rw [hv596]
                                          refine g_iald F hP hme (vp_in_nI (by omega) (by omega)) dL_build_668 ?_
                                          refine lv_topi (fun v597 ev597 => ?_)
                                          have hv597 : v597 = iL (S 9 j) := by
                                            rw [ev597]
                                            rw [nI_clamp (n := 2 * j) (by omega)]
                                            exact m9
                                          rw [hv597]
                                          refine lv_iload hx hb dL_build_669 (lv_at hl 3 rfl) ?_
                                          refine lv_icmp_ne (tgt := 688) hx hb dL_build_671 (by decide) (fun c598 => ?_) (fun c598 => ?_)
                                          · have yc598 : ¬ S 9 j = (ga : Int) := fun q => c598 (iL_nat q)
                                            refine lv_aload hx hb dL_build_688 (lv_at hl 7 rfl) ?_
                                            refine lv_iconst (v := 2) hx hb dL_build_690 (by decide) ?_
                                            refine lv_iload hx hb dL_build_691 (lv_at hl 0 rfl) ?_
                                            refine lv_imul hx hb dL_build_693 ?_
                                            refine lv_topi (fun v599 ev599 => ?_)
                                            have hv599 : v599 = nI (2 * j) := by
                                              rw [ev599]
                                              exact pk_mul 2 j
                                            rw [hv599]
                                            refine g_iald F hP hme (vp_in_nI (by omega) (by omega)) dL_build_694 ?_
                                            refine lv_topi (fun v600 ev600 => ?_)
                                            have hv600 : v600 = iL (S 9 j) := by
                                              rw [ev600]
                                              rw [nI_clamp (n := 2 * j) (by omega)]
                                              exact m9
                                            rw [hv600]
                                            refine lv_iload hx hb dL_build_695 (lv_at hl 2 rfl) ?_
                                            refine lv_icmp_ne (tgt := 714) hx hb dL_build_697 (by decide) (fun c601 => ?_) (fun c601 => ?_)
                                            · have yc601 : ¬ S 9 j = (gb : Int) := fun q => c601 (iL_nat q)
                                              refine lv_iconst (v := 1) hx hb dL_build_714 (by decide) ?_
                                              refine lv_goto (tgt := 719) hx hb dL_build_715 (by decide) ?_
                                              refine lv_istore (lv' := [(12, .int 1), (13, .int (nI j)), (11, .int (nI gb)), (10, .int (nI ga)), (8, .int (nI k)), (7, .ref nn), (6, .ref pl), (5, .ref me), (4, .ref ge), (3, .ref sh), (2, .int (nI 0)), (1, .ref b9), (0, .ref x)]) hx hb dL_build_719 hl (by decide) rfl (fun ls hl => ?_)
                                              obtain ⟨i602, ei602⟩ : ∃ y : Int32, y = nI j + (1) := ⟨_, rfl⟩
                                              refine lv_iinc (v := i602) (lv' := [(13, .int i602), (12, .int 1), (11, .int (nI gb)), (10, .int (nI ga)), (8, .int (nI k)), (7, .ref nn), (6, .ref pl), (5, .ref me), (4, .ref ge), (3, .ref sh), (2, .int (nI 0)), (1, .ref b9), (0, .ref x)]) hx hb dL_build_721 hl (k := 1) rfl (by rw [ei602]; rfl) (by decide) rfl (fun ls hl => ?_)
                                              have hi602 : i602 = nI (j + 1) := by
                                                rw [ei602]
                                                exact nI_1 j
                                              rw [hi602]
                                              refine lv_goto (tgt := 648) hx hb dL_build_724 (by decide) ?_
                                              exact ih_L648 (j + 1) true  H locs ls (by omega) (by omega) (at_1 h4 yc594 (fun q => by unfold meshAt at q; omega)) hP hS (lv_sub hl [0, 1, 2, 3, 4, 5, 6, 7, 8, 9, 10, 11, 12] rfl)
                                            · have yc601 : S 9 j = (gb : Int) := by have := (nI_eqi (z := S 9 j) (k := gb) (by omega) (by omega) (by omega)).mp c601.symm; omega
                                              refine lv_aload hx hb dL_build_700 (lv_at hl 7 rfl) ?_
                                              refine lv_iconst (v := 2) hx hb dL_build_702 (by decide) ?_
                                              refine lv_iload hx hb dL_build_703 (lv_at hl 0 rfl) ?_
                                              refine lv_imul hx hb dL_build_705 ?_
                                              refine lv_topi (fun v603 ev603 => ?_)
                                              have hv603 : v603 = nI (2 * j) := by
                                                rw [ev603]
                                                exact pk_mul 2 j
                                              rw [hv603]
                                              refine lv_iconst (v := 1) hx hb dL_build_706 (by decide) ?_
                                              refine lv_iadd hx hb dL_build_707 ?_
                                              refine lv_topi (fun v604 ev604 => ?_)
                                              have hv604 : v604 = nI ((2 * j) + 1) := by
                                                rw [ev604]
                                                exact nI_add (2 * j) 1
                                              rw [hv604]
                                              refine g_iald F hP hme (vp_in_nI (by omega) (by omega)) dL_build_708 ?_
                                              refine lv_topi (fun v605 ev605 => ?_)
                                              have hv605 : v605 = Fm ((2 * j) + 1) := by
                                                rw [ev605]
                                                rw [nI_clamp (n := (2 * j) + 1) (by omega)]
                                              rw [hv605]
                                              refine lv_iload hx hb dL_build_709 (lv_at hl 3 rfl) ?_
                                              refine lv_icmp_eq (tgt := 718) hx hb dL_build_711 (by decide) (fun c606 => ?_) (fun c606 => ?_)
                                              · have yc606 : S 10 j = (ga : Int) := by have := (nI_eqi (z := S 10 j) (k := ga) (by omega) (by omega) (by omega)).mp c606.symm; omega
                                                refine lv_iconst (v := 0) hx hb dL_build_718 (by decide) ?_
                                                refine lv_istore (lv' := [(12, .int 0), (13, .int (nI j)), (11, .int (nI gb)), (10, .int (nI ga)), (8, .int (nI k)), (7, .ref nn), (6, .ref pl), (5, .ref me), (4, .ref ge), (3, .ref sh), (2, .int (nI 0)), (1, .ref b9), (0, .ref x)]) hx hb dL_build_719 hl (by decide) rfl (fun ls hl => ?_)
                                                obtain ⟨i607, ei607⟩ : ∃ y : Int32, y = nI j + (1) := ⟨_, rfl⟩
                                                refine lv_iinc (v := i607) (lv' := [(13, .int i607), (12, .int 0), (11, .int (nI gb)), (10, .int (nI ga)), (8, .int (nI k)), (7, .ref nn), (6, .ref pl), (5, .ref me), (4, .ref ge), (3, .ref sh), (2, .int (nI 0)), (1, .ref b9), (0, .ref x)]) hx hb dL_build_721 hl (k := 1) rfl (by rw [ei607]; rfl) (by decide) rfl (fun ls hl => ?_)
                                                have hi607 : i607 = nI (j + 1) := by
                                                  rw [ei607]
                                                  exact nI_1 j
                                                rw [hi607]
                                                refine lv_goto (tgt := 648) hx hb dL_build_724 (by decide) ?_
                                                exact ih_L648 (j + 1) false  H locs ls (by omega) (by omega) (at_m (M := fun i => meshAt S i ga gb) (by unfold meshAt; omega)) hP hS (lv_sub hl [0, 1, 2, 3, 4, 5, 6, 7, 8, 9, 10, 11, 12] rfl)
                                              · have yc606 : ¬ S 10 j = (ga : Int) := fun q => c606 (iL_nat q)
                                                refine lv_iconst (v := 1) hx hb dL_build_714 (by decide) ?_
                                                refine lv_goto (tgt := 719) hx hb dL_build_715 (by decide) ?_
                                                refine lv_istore (lv' := [(12, .int 1), (13, .int (nI j)), (11, .int (nI gb)), (10, .int (nI ga)), (8, .int (nI k)), (7, .ref nn), (6, .ref pl), (5, .ref me), (4, .ref ge), (3, .ref sh), (2, .int (nI 0)), (1, .ref b9), (0, .ref x)]) hx hb dL_build_719 hl (by decide) rfl (fun ls hl => ?_)
                                                obtain ⟨i608, ei608⟩ : ∃ y : Int32, y = nI j + (1) := ⟨_, rfl⟩
                                                refine lv_iinc (v := i608) (lv' := [(13, .int i608), (12, .int 1), (11, .int (nI gb)), (10, .int (nI ga)), (8, .int (nI k)), (7, .ref nn), (6, .ref pl), (5, .ref me), (4, .ref ge), (3, .ref sh), (2, .int (nI 0)), (1, .ref b9), (0, .ref x)]) hx hb dL_build_721 hl (k := 1) rfl (by rw [ei608]; rfl) (by decide) rfl (fun ls hl => ?_)
                                                have hi608 : i608 = nI (j + 1) := by
                                                  rw [ei608]
                                                  exact nI_1 j
                                                rw [hi608]
                                                refine lv_goto (tgt := 648) hx hb dL_build_724 (by decide) ?_
                                                exact ih_L648 (j + 1) true  H locs ls (by omega) (by omega) (at_1 h4 yc594 (fun q => by unfold meshAt at q; omega)) hP hS (lv_sub hl [0, 1, 2, 3, 4, 5, 6, 7, 8, 9, 10, 11, 12] rfl)
                                          · have yc598 : S 9 j = (ga : Int) := by have := (nI_eqi (z := S 9 j) (k := ga) (by omega) (by omega) (by omega)).mp c598.symm; omega
                                            refine lv_aload hx hb dL_build_674 (lv_at hl 7 rfl) ?_
                                            refine lv_iconst (v := 2) hx hb dL_build_676 (by decide) ?_
                                            refine lv_iload hx hb dL_build_677 (lv_at hl 0 rfl) ?_
                                            refine lv_imul hx hb dL_build_679 ?_
                                            refine lv_topi (fun v609 ev609 => ?_)
                                            have hv609 : v609 = nI (2 * j) := by
                                              rw [ev609]
                                              exact pk_mul 2 j
                                            rw [hv609]
                                            refine lv_iconst (v := 1) hx hb dL_build_680 (by decide) ?_
                                            refine lv_iadd hx hb dL_build_681 ?_
                                            refine lv_topi (fun v610 ev610 => ?_)
                                            have hv610 : v610 = nI ((2 * j) + 1) := by
                                              rw [ev610]
                                              exact nI_add (2 * j) 1
                                            rw [hv610]
                                            refine g_iald F hP hme (vp_in_nI (by omega) (by omega)) dL_build_682 ?_
                                            refine lv_topi (fun v611 ev611 => ?_)
                                            have hv611 : v611 = Fm ((2 * j) + 1) := by
                                              rw [ev611]
                                              rw [nI_clamp (n := (2 * j) + 1) (by omega)]
                                            rw [hv611]
                                            refine lv_iload hx hb dL_build_683 (lv_at hl 2 rfl) ?_
                                            refine lv_icmp_eq (tgt := 718) hx hb dL_build_685 (by decide) (fun c612 => ?_) (fun c612 => ?_)
                                            · have yc612 : S 10 j = (gb : Int) := by have := (nI_eqi (z := S 10 j) (k := gb) (by omega) (by omega) (by omega)).mp c612.symm; omega
                                              refine lv_iconst (v := 0) hx hb dL_build_718 (by decide) ?_
                                              refine lv_istore (lv' := [(12, .int 0), (13, .int (nI j)), (11, .int (nI gb)), (10, .int (nI ga)), (8, .int (nI k)), (7, .ref nn), (6, .ref pl), (5, .ref me), (4, .ref ge), (3, .ref sh), (2, .int (nI 0)), (1, .ref b9), (0, .ref x)]) hx hb dL_build_719 hl (by decide) rfl (fun ls hl => ?_)
                                              obtain ⟨i613, ei613⟩ : ∃ y : Int32, y = nI j + (1) := ⟨_, rfl⟩
                                              refine lv_iinc (v := i613) (lv' := [(13, .int i613), (12, .int 0), (11, .int (nI gb)), (10, .int (nI ga)), (8, .int (nI k)), (7, .ref nn), (6, .ref pl), (5, .ref me), (4, .ref ge), (3, .ref sh), (2, .int (nI 0)), (1, .ref b9), (0, .ref x)]) hx hb dL_build_721 hl (k := 1) rfl (by rw [ei613]; rfl) (by decide) rfl (fun ls hl => ?_)
                                              have hi613 : i613 = nI (j + 1) := by
                                                rw [ei613]
                                                exact nI_1 j
                                              rw [hi613]
                                              refine lv_goto (tgt := 648) hx hb dL_build_724 (by decide) ?_
                                              exact ih_L648 (j + 1) false  H locs ls (by omega) (by omega) (at_m (M := fun i => meshAt S i ga gb) (by unfold meshAt; omega)) hP hS (lv_sub hl [0, 1, 2, 3, 4, 5, 6, 7, 8, 9, 10, 11, 12] rfl)
                                            · have yc612 : ¬ S 10 j = (gb : Int) := fun q => c612 (iL_nat q)
                                              refine lv_aload hx hb dL_build_688 (lv_at hl 7 rfl) ?_
                                              refine lv_iconst (v := 2) hx hb dL_build_690 (by decide) ?_
                                              refine lv_iload hx hb dL_build_691 (lv_at hl 0 rfl) ?_
                                              refine lv_imul hx hb dL_build_693 ?_
                                              refine lv_topi (fun v614 ev614 => ?_)
                                              have hv614 : v614 = nI (2 * j) := by
                                                rw [ev614]
                                                exact pk_mul 2 j
                                              rw [hv614]
                                              refine g_iald F hP hme (vp_in_nI (by omega) (by omega)) dL_build_694 ?_
                                              refine lv_topi (fun v615 ev615 => ?_)
                                              have hv615 : v615 = iL (S 9 j) := by
                                                rw [ev615]
                                                rw [nI_clamp (n := 2 * j) (by omega)]
                                                exact m9
                                              rw [hv615]
                                              refine lv_iload hx hb dL_build_695 (lv_at hl 2 rfl) ?_
                                              refine lv_icmp_ne (tgt := 714) hx hb dL_build_697 (by decide) (fun c616 => ?_) (fun c616 => ?_)
                                              · have yc616 : ¬ S 9 j = (gb : Int) := fun q => c616 (iL_nat q)
                                                refine lv_iconst (v := 1) hx hb dL_build_714 (by decide) ?_
                                                refine lv_goto (tgt := 719) hx hb dL_build_715 (by decide) ?_
                                                refine lv_istore (lv' := [(12, .int 1), (13, .int (nI j)), (11, .int (nI gb)), (10, .int (nI ga)), (8, .int (nI k)), (7, .ref nn), (6, .ref pl), (5, .ref me), (4, .ref ge), (3, .ref sh), (2, .int (nI 0)), (1, .ref b9), (0, .ref x)]) hx hb dL_build_719 hl (by decide) rfl (fun ls hl => ?_)
                                                obtain ⟨i617, ei617⟩ : ∃ y : Int32, y = nI j + (1) := ⟨_, rfl⟩
                                                refine lv_iinc (v := i617) (lv' := [(13, .int i617), (12, .int 1), (11, .int (nI gb)), (10, .int (nI ga)), (8, .int (nI k)), (7, .ref nn), (6, .ref pl), (5, .ref me), (4, .ref ge), (3, .ref sh), (2, .int (nI 0)), (1, .ref b9), (0, .ref x)]) hx hb dL_build_721 hl (k := 1) rfl (by rw [ei617]; rfl) (by decide) rfl (fun ls hl => ?_)
                                                have hi617 : i617 = nI (j + 1) := by
                                                  rw [ei617]
                                                  exact nI_1 j
                                                rw [hi617]
                                                refine lv_goto (tgt := 648) hx hb dL_build_724 (by decide) ?_
                                                exact ih_L648 (j + 1) true  H locs ls (by omega) (by omega) (at_1 h4 yc594 (fun q => by unfold meshAt at q; omega)) hP hS (lv_sub hl [0, 1, 2, 3, 4, 5, 6, 7, 8, 9, 10, 11, 12] rfl)
                                              · have yc616 : S 9 j = (gb : Int) := by have := (nI_eqi (z := S 9 j) (k := gb) (by omega) (by omega) (by omega)).mp c616.symm; omega
                                                refine lv_aload hx hb dL_build_700 (lv_at hl 7 rfl) ?_
                                                refine lv_iconst (v := 2) hx hb dL_build_702 (by decide) ?_
                                                refine lv_iload hx hb dL_build_703 (lv_at hl 0 rfl) ?_
                                                refine lv_imul hx hb dL_build_705 ?_
                                                refine lv_topi (fun v618 ev618 => ?_)
                                                have hv618 : v618 = nI (2 * j) := by
                                                  rw [ev618]
                                                  exact pk_mul 2 j
                                                rw [hv618]
                                                refine lv_iconst (v := 1) hx hb dL_build_706 (by decide) ?_
                                                refine lv_iadd hx hb dL_build_707 ?_
                                                refine lv_topi (fun v619 ev619 => ?_)
                                                have hv619 : v619 = nI ((2 * j) + 1) := by
                                                  rw [ev619]
                                                  exact nI_add (2 * j) 1
                                                rw [hv619]
                                                refine g_iald F hP hme (vp_in_nI (by omega) (by omega)) dL_build_708 ?_
                                                refine lv_topi (fun v620 ev620 => ?_)
                                                have hv620 : v620 = Fm ((2 * j) + 1) := by
                                                  rw [ev620]
                                                  rw [nI_clamp (n := (2 * j) + 1) (by omega)]
                                                rw [hv620]
                                                refine lv_iload hx hb dL_build_709 (lv_at hl 3 rfl) ?_
                                                refine lv_icmp_eq (tgt := 718) hx hb dL_build_711 (by decide) (fun c621 => ?_) (fun c621 => ?_)
                                                · have yc621 : S 10 j = (ga : Int) := by have := (nI_eqi (z := S 10 j) (k := ga) (by omega) (by omega) (by omega)).mp c621.symm; omega
                                                  refine lv_iconst (v := 0) hx hb dL_build_718 (by decide) ?_
                                                  refine lv_istore (lv' := [(12, .int 0), (13, .int (nI j)), (11, .int (nI gb)), (10, .int (nI ga)), (8, .int (nI k)), (7, .ref nn), (6, .ref pl), (5, .ref me), (4, .ref ge), (3, .ref sh), (2, .int (nI 0)), (1, .ref b9), (0, .ref x)]) hx hb dL_build_719 hl (by decide) rfl (fun ls hl => ?_)
                                                  obtain ⟨i622, ei622⟩ : ∃ y : Int32, y = nI j + (1) := ⟨_, rfl⟩
                                                  refine lv_iinc (v := i622) (lv' := [(13, .int i622), (12, .int 0), (11, .int (nI gb)), (10, .int (nI ga)), (8, .int (nI k)), (7, .ref nn), (6, .ref pl), (5, .ref me), (4, .ref ge), (3, .ref sh), (2, .int (nI 0)), (1, .ref b9), (0, .ref x)]) hx hb dL_build_721 hl (k := 1) rfl (by rw [ei622]; rfl) (by decide) rfl (fun ls hl => ?_)
                                                  have hi622 : i622 = nI (j + 1) := by
                                                    rw [ei622]
                                                    exact nI_1 j
                                                  rw [hi622]
                                                  refine lv_goto (tgt := 648) hx hb dL_build_724 (by decide) ?_
                                                  exact ih_L648 (j + 1) false  H locs ls (by omega) (by omega) (at_m (M := fun i => meshAt S i ga gb) (by unfold meshAt; omega)) hP hS (lv_sub hl [0, 1, 2, 3, 4, 5, 6, 7, 8, 9, 10, 11, 12] rfl)
                                                · have yc621 : ¬ S 10 j = (ga : Int) := fun q => c621 (iL_nat q)
                                                  refine lv_iconst (v := 1) hx hb dL_build_714 (by decide) ?_
                                                  refine lv_goto (tgt := 719) hx hb dL_build_715 (by decide) ?_
                                                  refine lv_istore (lv' := [(12, .int 1), (13, .int (nI j)), (11, .int (nI gb)), (10, .int (nI ga)), (8, .int (nI k)), (7, .ref nn), (6, .ref pl), (5, .ref me), (4, .ref ge), (3, .ref sh), (2, .int (nI 0)), (1, .ref b9), (0, .ref x)]) hx hb dL_build_719 hl (by decide) rfl (fun ls hl => ?_)
                                                  obtain ⟨i623, ei623⟩ : ∃ y : Int32, y = nI j + (1) := ⟨_, rfl⟩
                                                  refine lv_iinc (v := i623) (lv' := [(13, .int i623), (12, .int 1), (11, .int (nI gb)), (10, .int (nI ga)), (8, .int (nI k)), (7, .ref nn), (6, .ref pl), (5, .ref me), (4, .ref ge), (3, .ref sh), (2, .int (nI 0)), (1, .ref b9), (0, .ref x)]) hx hb dL_build_721 hl (k := 1) rfl (by rw [ei623]; rfl) (by decide) rfl (fun ls hl => ?_)
                                                  have hi623 : i623 = nI (j + 1) := by
                                                    rw [ei623]
                                                    exact nI_1 j
                                                  rw [hi623]
                                                  refine lv_goto (tgt := 648) hx hb dL_build_724 (by decide) ?_
                                                  exact ih_L648 (j + 1) true  H locs ls (by omega) (by omega) (at_1 h4 yc594 (fun q => by unfold meshAt at q; omega)) hP hS (lv_sub hl [0, 1, 2, 3, 4, 5, 6, 7, 8, 9, 10, 11, 12] rfl)
                                  exact L648 (c2 + 1) 0 cd  H locs ls (by omega) (by omega) (⟨fun q => ⟨q, fun i hi => absurd hi (Nat.not_lt_zero i)⟩, fun q => q.1⟩) hP hS (lv_sub hl [0, 1, 2, 3, 4, 5, 6, 7, 8, 9, 10, 11, 12] rfl)
                                · have kc543 : iL (S 5 gb) ≤ iL (S 5 ga) ↔ S 5 gb ≤ S 5 ga := iL_le (by omega) (by omega) (by omega) (by omega)
                                  rw [kc543] at c543
                                  refine lv_iconst (v := 1) hx hb dL_build_638 (by decide) ?_
                                  refine lv_goto (tgt := 643) hx hb dL_build_639 (by decide) ?_
                                  refine lv_istore (lv' := [(12, .int 1), (11, .int (nI gb)), (10, .int (nI ga)), (8, .int (nI k)), (7, .ref nn), (6, .ref pl), (5, .ref me), (4, .ref ge), (3, .ref sh), (2, .int (nI 0)), (1, .ref b9), (0, .ref x)]) hx hb dL_build_643 hl (by decide) rfl (fun ls hl => ?_)
                                  refine lv_iconst (v := 0) hx hb dL_build_645 (by decide) ?_
                                  refine lv_istore (lv' := [(13, .int 0), (12, .int 1), (11, .int (nI gb)), (10, .int (nI ga)), (8, .int (nI k)), (7, .ref nn), (6, .ref pl), (5, .ref me), (4, .ref ge), (3, .ref sh), (2, .int (nI 0)), (1, .ref b9), (0, .ref x)]) hx hb dL_build_646 hl (by decide) rfl (fun ls hl => ?_)
                                  have L648 : ∀ (n : Nat) (j : Nat) (ce : Bool) (H : Heap) (locs : List Loc) (ls : Array Slot), c2 + 1 ≤ j + n → (j ≤ c2) → (ce = true ↔ cd = true ∧ ∀ i, i < j → ¬ meshAt S i ga gb) → g_P A G w H → va_S A s.heap H locs → lv_has ls 15 [(13, .int (nI j)), (12, .int (g_b ce)), (11, .int (nI gb)), (10, .int (nI ga)), (8, .int (nI k)), (7, .ref nn), (6, .ref pl), (5, .ref me), (4, .ref ge), (3, .ref sh), (2, .int (nI 0)), (1, .ref b9), (0, .ref x)] → W p l e R s m args below meth c H locs ((100 + 10 * k)) ((2500 + 150 * k)) Q (F0 m 648 ls []) := by
                                    intro n
                                    induction n with
                                    | zero =>
                                      intro j ce H locs ls hfu hj h4 hP hS hl
                                      exact absurd hfu (by omega)
                                    | succ n ih_L648 =>
                                      intro j ce H locs ls hfu hj h4 hP hS hl
                                      refine lv_iload hx hb dL_build_648 (lv_at hl 0 rfl) ?_
                                      refine lv_aload hx hb dL_build_650 (lv_at hl 5 rfl) ?_
                                      refine lv_iconst (v := 2) hx hb dL_build_652 (by decide) ?_
                                      refine g_iald F hP hnn (by unfold vp_in; decide) dL_build_653 ?_
                                      refine lv_topi (fun v624 ev624 => ?_)
                                      have hv624 : v624 = nI c2 := by
                                        rw [ev624]
                                        rw [show (2 : Int32).toNatClampNeg = 2 from by decide]
                                        exact hf2
                                      rw [hv624]
                                      refine lv_icmp_ge (tgt := 727) hx hb dL_build_654 (by decide) (fun c625 => ?_) (fun c625 => ?_)
                                      · have zc625 : c2 ≤ j := (nI_leI (by omega) (by omega)).mp c625
                                        have ejn : j = c2 := by omega
                                        rw [ejn] at h4
                                        have hcan : ce = true ↔ canM S ga gb := by
                                          rw [h4, h3, h2, h1]
                                          constructor
                                          · intro q
                                            refine ⟨by omega, fun ⟨i, i1, i2⟩ => q.2 i (by omega) i2⟩
                                          · intro q
                                            obtain ⟨q1, q2⟩ := q
                                            exact ⟨by omega, fun i hi z => q2 ⟨i, by omega, z⟩⟩
                                        refine lv_bipush (v := (-2)) hx hb dL_build_727 (by decide) ?_
                                        refine lv_istore (lv' := [(13, .int (-2)), (12, .int (g_b ce)), (11, .int (nI gb)), (10, .int (nI ga)), (8, .int (nI k)), (7, .ref nn), (6, .ref pl), (5, .ref me), (4, .ref ge), (3, .ref sh), (2, .int (nI 0)), (1, .ref b9), (0, .ref x)]) hx hb dL_build_729 hl (by decide) rfl (fun ls hl => ?_)
                                        refine lv_aload_n hx hb dL_build_731 rfl (lv_at hl 12 rfl) ?_
                                        refine lv_iload hx hb dL_build_732 (lv_at hl 3 rfl) ?_
                                        refine lv_iload hx hb dL_build_734 (lv_at hl 2 rfl) ?_
                                        have tka := kN_n (k := ga) (by omega)
                                        have tkb := kN_n (k := gb) (by omega)
                                        have ta := nI_i ga (by omega)
                                        have tb := nI_i gb (by omega)
                                        have shq : shQ S 1 (nI ga) ∧ shQ S 1 (nI gb) := ⟨⟨by omega, by omega⟩, by omega, by omega⟩
                                        have cd1 : canM S ga gb → cdMesh S (nI ga) (nI gb) = 0 := fun q => (if_pos shq).trans (by rw [tka, tkb]; exact (if_pos q).trans (if_pos (by omega)))
                                        have cd2 : ¬ canM S ga gb → cdMesh S (nI ga) (nI gb) = 2 := fun q => (if_pos shq).trans (by rw [tka, tkb]; exact if_neg q)
                                        obtain ⟨ad, Cn, T, h00, hBn, hLn⟩ := id hB
                                        have hCo := k_X6_mesh l hlt A G w ad Cn S T (nI ga) (nI gb) hBn.1 hBn.2.1 hBn.2.2.1 hBn.2.2.2.1 hBn.2.2.2.2
                                        rw [h00] at hCo
                                        have hx0 := rep_x hBn.1 hBn.2.1
                                        rw [h00] at hx0
                                        refine g_cVi (As := [.int (nI ga), .int (nI gb)]) (rest := []) F hP hS hCo (cwV 2 hts gL_build_X6_mesh rfl rfl rfl cd_X6_mesh ⟨by rw [hR]; exact Nat.le_of_ble_eq_true rfl, by rw [hR]; exact Nat.le_of_ble_eq_true rfl⟩) hx0 rfl rfl rfl hl.1 (Nat.le_of_ble_eq_true rfl) dL_build_736 ⟨by rw [hR]; dsimp only; omega, by rw [hR]; dsimp only; omega⟩ rfl (fun E w9 ce q9 H locs hpx hP hS hce hcv hcl => ?_) (fun r626 w627 H locs h628 hP hS => ?_)
                                        · obtain ⟨ew9, hpx⟩ := hpx
                                          have ew9 : w9 = w := ew9
                                          rw [ew9] at hP
                                          have hno : ¬ canM S ga gb := fun q => by
                                            rcases hpx with ⟨_, z⟩ | ⟨_, z⟩ | ⟨_, z⟩ <;> exact absurd ((cd1 q).symm.trans z) (by decide)
                                          have eE : E = "java/lang/IllegalArgumentException" := by
                                            rcases hpx with ⟨_, z⟩ | ⟨z, _⟩ | ⟨_, z⟩
                                            · exact absurd ((cd2 hno).symm.trans z) (by decide)
                                            · exact z
                                            · exact absurd ((cd2 hno).symm.trans z) (by decide)
                                          subst eE
                                          refine vx_catch hown [] ⟨731, 741, 744, 35⟩ [] htab (fun z hz => (nomatch hz)) (by decide) (by decide) (hts _ (List.mem_cons_of_mem _ (List.mem_append_left _ (List.mem_append_left _ (List.mem_append_left _ (List.mem_append_left _ (List.mem_append_left _ (List.mem_append_left _ (List.mem_append_left _ (List.mem_append_left _ (List.mem_append_left _ (List.mem_append_left _ (List.mem_append_left _ (List.mem_append_left _ (List.mem_append_left _ (List.mem_of_getElem? (i := 0) rfl)))))))))))))))) (va_Nw.use rfl (hZ.2.2.2.2.2.2.2.1 ("java/lang/IllegalArgumentException", "java/lang/IllegalArgumentException") (List.mem_of_getElem? (i := 0) rfl))) hce hcv hcl ?_
                                          have yce : ce_ = false := by
                                            cases hq : ce_
                                            · rfl
                                            · exact absurd (hcan.mp hq) hno
                                          refine lv_astore (lv' := [(14, .ref q9), (13, .int (-2)), (12, .int (g_b ce)), (11, .int (nI gb)), (10, .int (nI ga)), (8, .int (nI k)), (7, .ref nn), (6, .ref pl), (5, .ref me), (4, .ref ge), (3, .ref sh), (2, .int (nI 0)), (1, .ref b9), (0, .ref x)]) hx hb dL_build_744 hl (by decide) rfl (fun ls hl => ?_)
                                          refine lv_bipush (v := (-2)) hx hb dL_build_746 (by decide) ?_
                                          refine lv_istore (lv' := [(13, .int (-2)), (14, .ref q9), (12, .int (g_b ce)), (11, .int (nI gb)), (10, .int (nI ga)), (8, .int (nI k)), (7, .ref nn), (6, .ref pl), (5, .ref me), (4, .ref ge), (3, .ref sh), (2, .int (nI 0)), (1, .ref b9), (0, .ref x)]) hx hb dL_build_748 hl (by decide) rfl (fun ls hl => ?_)
                                          refine lv_iload hx hb dL_build_750 (lv_at hl 0 rfl) ?_
                                          refine lv_iload hx hb dL_build_752 (lv_at hl 2 rfl) ?_
                                          refine lv_if_eq (tgt := 764) hx hb dL_build_754 (by decide) (fun c629 => ?_) (fun c629 => ?_)
                                          · refine lv_bipush (v := (-2)) hx hb dL_build_764 (by decide) ?_
                                            refine lv_icmp_eq (tgt := 771) hx hb dL_build_766 (by decide) (fun c630 => ?_) (fun c630 => ?_)
                                            · refine lv_iload hx hb dL_build_771 (lv_at hl 2 rfl) ?_
                                              refine lv_if_ne (tgt := 779) hx hb dL_build_773 (by decide) (fun c631 => ?_) (fun c631 => ?_)
                                              · exact absurd (by rw [yce]; rfl) c631
                                              · refine lv_goto (tgt := 811) hx hb dL_build_776 (by decide) ?_
                                                refine W.widen (k := 100 + 10 * (k + 1)) (n := 2500 + 150 * (k + 1)) (by omega) (by omega) ?_
                                                obtain ⟨i632, ei632⟩ : ∃ y : Int32, y = nI k + (1) := ⟨_, rfl⟩
                                                refine lv_iinc (v := i632) (lv' := [(8, .int i632), (13, .int (-2)), (14, .ref q9), (12, .int (g_b ce)), (11, .int (nI gb)), (10, .int (nI ga)), (7, .ref nn), (6, .ref pl), (5, .ref me), (4, .ref ge), (3, .ref sh), (2, .int (nI 0)), (1, .ref b9), (0, .ref x)]) hx hb dL_build_811 hl (k := 5) rfl (by rw [ei632]; rfl) (by decide) rfl (fun ls hl => ?_)
                                                have hi632 : i632 = nI (k + 1) := by
                                                  rw [ei632]
                                                  exact nI_1 k
                                                rw [hi632]
                                                refine lv_goto (tgt := 393) hx hb dL_build_814 (by decide) ?_
                                                exact ih_L393 (k + 1) S Fm Fn c2 w H locs ls (by omega) (by omega) (hc2) (hB) (hz) (hf0) (hf1) (hf2) (hf3) (has) (hag) (ham) hnn hsh hge hme hpl hP hS (lv_sub hl [0, 6, 7, 8, 9, 10, 11, 12, 13] rfl)
                                            · exact absurd rfl c630
                                          · exact absurd (by rw [yce]; rfl) c629
                                        · obtain ⟨hc0, er, hAf⟩ := h628
                                          obtain ⟨S633, eS633⟩ : ∃ z, z = nxMesh S (nI ga) (nI gb) := ⟨_, rfl⟩
                                          rw [← eS633] at hAf
                                          obtain ⟨hB634, kp635⟩ := lwB_aft h00 hLn hAf
                                          have f636 : w627 nn = some (.inl (G.2.1 0, 6, .inl Fn)) := (kp635 nn (List.mem_of_getElem? (i := 0) rfl)).trans hnn
                                          have f637 : w627 sh = some (.inl (G.2.1 0, 30, .inl Fs2)) := (kp635 sh (List.mem_of_getElem? (i := 1) rfl)).trans hsh
                                          have f638 : w627 ge = some (.inl (G.2.1 0, 80, .inl Fg2)) := (kp635 ge (List.mem_of_getElem? (i := 2) rfl)).trans hge
                                          have f639 : w627 me = some (.inl (G.2.1 0, 32, .inl Fm)) := (kp635 me (List.mem_of_getElem? (i := 3) rfl)).trans hme
                                          have f640 : w627 pl = some (.inl (G.2.1 0, 20, .inl Fp0)) := (kp635 pl (List.mem_of_getElem? (i := 4) rfl)).trans hpl
                                          rw [er]
                                          have yes : canM S ga gb := by
                                            rcases Classical.em (canM S ga gb) with q | q
                                            · exact q
                                            · exact absurd ((cd2 q).symm.trans hc0) (by decide)
                                          have yce := hcan.mpr yes
                                          obtain ⟨a1, a2, a9, a10, a4, a5⟩ := nx_mesh eS633
                                          have s0n : (S 0 2).toNat = c2 := by omega
                                          rw [s0n, ta] at a9
                                          rw [s0n, tb] at a10
                                          rw [s0n] at a4
                                          have zk : S633 0 0 = n0 ∧ S633 0 1 = n1 ∧ S633 0 2 = ((c2 + 1 : Nat) : Int) ∧ S633 0 3 = 0 ∧ S633 0 4 = -1 := by rw [a2 0 (by decide), a2 1 (by decide), a1, a2 3 (by decide), a2 4 (by decide)]; omega
                                          unfold vlMesh
                                          rw [iL_nat (n := c2) (by omega : S 0 2 = (c2 : Int))]
                                          refine lv_istore (lv' := [(13, .int (nI c2)), (12, .int (g_b ce)), (11, .int (nI gb)), (10, .int (nI ga)), (8, .int (nI k)), (7, .ref nn), (6, .ref pl), (5, .ref me), (4, .ref ge), (3, .ref sh), (2, .int (nI 0)), (1, .ref b9), (0, .ref x)]) hx hb dL_build_739 hl (by decide) rfl (fun ls hl => ?_)
                                          refine lv_goto (tgt := 750) hx hb dL_build_741 (by decide) ?_
                                          refine lv_iload hx hb dL_build_750 (lv_at hl 0 rfl) ?_
                                          refine lv_iload hx hb dL_build_752 (lv_at hl 1 rfl) ?_
                                          refine lv_if_eq (tgt := 764) hx hb dL_build_754 (by decide) (fun c641 => ?_) (fun c641 => ?_)
                                          · exact absurd (g_b0.mp c641) (by rw [yce]; decide)
                                          · refine lv_aload hx hb dL_build_757 (lv_at hl 5 rfl) ?_
                                            refine lv_iconst (v := 2) hx hb dL_build_759 (by decide) ?_
                                            refine g_iald F hP f636 (by unfold vp_in; decide) dL_build_760 ?_
                                            refine lv_topi (fun v642 ev642 => ?_)
                                            have hv642 : v642 = nI c2 := by
                                              rw [ev642]
                                              rw [show (2 : Int32).toNatClampNeg = 2 from by decide]
                                              exact hf2
                                            rw [hv642]
                                            refine lv_goto (tgt := 766) hx hb dL_build_761 (by decide) ?_
                                            refine lv_icmp_eq (tgt := 771) hx hb dL_build_766 (by decide) (fun c643 => ?_) (fun c643 => ?_)
                                            · refine lv_iload hx hb dL_build_771 (lv_at hl 1 rfl) ?_
                                              refine lv_if_ne (tgt := 779) hx hb dL_build_773 (by decide) (fun c644 => ?_) (fun c644 => ?_)
                                              · refine lv_aload hx hb dL_build_779 (lv_at hl 7 rfl) ?_
                                                refine lv_iconst (v := 2) hx hb dL_build_781 (by decide) ?_
                                                refine lv_aload hx hb dL_build_782 (lv_at hl 5 rfl) ?_
                                                refine lv_iconst (v := 2) hx hb dL_build_784 (by decide) ?_
                                                refine g_iald F hP f636 (by unfold vp_in; decide) dL_build_785 ?_
                                                refine lv_topi (fun v645 ev645 => ?_)
                                                have hv645 : v645 = nI c2 := by
                                                  rw [ev645]
                                                  rw [show (2 : Int32).toNatClampNeg = 2 from by decide]
                                                  exact hf2
                                                rw [hv645]
                                                refine lv_imul hx hb dL_build_786 ?_
                                                refine lv_topi (fun v646 ev646 => ?_)
                                                have hv646 : v646 = nI (2 * c2) := by
                                                  rw [ev646]
                                                  exact pk_mul 2 c2
                                                rw [hv646]
                                                refine lv_iload hx hb dL_build_787 (lv_at hl 3 rfl) ?_
                                                refine g_iast F hP hS f639 (vp_in_nI (by omega) (by omega)) dL_build_789 (fun H locs hP hS => ?_)
                                                rw [nI_clamp (n := 2 * c2) (by omega)] at hP
                                                obtain ⟨w647, ew647⟩ : ∃ z, z = g_up w627 me (.inl (G.2.1 0, 32, .inl (upd Fm (2 * c2) (nI ga)))) := ⟨_, rfl⟩
                                                have hP : g_P A G w647 H := by rw [ew647]; exact hP
                                                have f648 : w647 nn = some (.inl (G.2.1 0, 6, .inl Fn)) := by rw [ew647]; exact g_up_f f636 (Ne.symm (dnnme))
                                                have f649 : w647 sh = some (.inl (G.2.1 0, 30, .inl Fs2)) := by rw [ew647]; exact g_up_f f637 (dshme)
                                                have f650 : w647 ge = some (.inl (G.2.1 0, 80, .inl Fg2)) := by rw [ew647]; exact g_up_f f638 (dgeme)
                                                have f651 : w647 pl = some (.inl (G.2.1 0, 20, .inl Fp0)) := by rw [ew647]; exact g_up_f f640 (Ne.symm (dmepl))
                                                have f652 : w647 me = some (.inl (G.2.1 0, 32, .inl (upd Fm (2 * c2) (nI ga)))) := by rw [ew647]; exact g_up_s _ _ _
                                                have hB653 := lwB_set hB634 (List.mem_of_getElem? (i := 3) rfl) ew647
                                                refine lv_aload hx hb dL_build_790 (lv_at hl 7 rfl) ?_
                                                refine lv_iconst (v := 2) hx hb dL_build_792 (by decide) ?_
                                                refine lv_aload hx hb dL_build_793 (lv_at hl 5 rfl) ?_
                                                refine lv_iconst (v := 2) hx hb dL_build_795 (by decide) ?_
                                                refine g_iald F hP f648 (by unfold vp_in; decide) dL_build_796 ?_
                                                refine lv_topi (fun v654 ev654 => ?_)
                                                have hv654 : v654 = nI c2 := by
                                                  rw [ev654]
                                                  rw [show (2 : Int32).toNatClampNeg = 2 from by decide]
                                                  exact hf2
                                                rw [hv654]
                                                refine lv_imul hx hb dL_build_797 ?_
                                                refine lv_topi (fun v655 ev655 => ?_)
                                                have hv655 : v655 = nI (2 * c2) := by
                                                  rw [ev655]
                                                  exact pk_mul 2 c2
                                                rw [hv655]
                                                refine lv_iconst (v := 1) hx hb dL_build_798 (by decide) ?_
                                                refine lv_iadd hx hb dL_build_799 ?_
                                                refine lv_topi (fun v656 ev656 => ?_)
                                                have hv656 : v656 = nI ((2 * c2) + 1) := by
                                                  rw [ev656]
                                                  exact nI_add (2 * c2) 1
                                                rw [hv656]
                                                refine lv_iload hx hb dL_build_800 (lv_at hl 2 rfl) ?_
                                                refine g_iast F hP hS f652 (vp_in_nI (by omega) (by omega)) dL_build_802 (fun H locs hP hS => ?_)
                                                rw [nI_clamp (n := (2 * c2) + 1) (by omega)] at hP
                                                obtain ⟨w657, ew657⟩ : ∃ z, z = g_up w647 me (.inl (G.2.1 0, 32, .inl (upd (upd Fm (2 * c2) (nI ga)) ((2 * c2) + 1) (nI gb)))) := ⟨_, rfl⟩
                                                have hP : g_P A G w657 H := by rw [ew657]; exact hP
                                                have f658 : w657 nn = some (.inl (G.2.1 0, 6, .inl Fn)) := by rw [ew657]; exact g_up_f f648 (Ne.symm (dnnme))
                                                have f659 : w657 sh = some (.inl (G.2.1 0, 30, .inl Fs2)) := by rw [ew657]; exact g_up_f f649 (dshme)
                                                have f660 : w657 ge = some (.inl (G.2.1 0, 80, .inl Fg2)) := by rw [ew657]; exact g_up_f f650 (dgeme)
                                                have f661 : w657 pl = some (.inl (G.2.1 0, 20, .inl Fp0)) := by rw [ew657]; exact g_up_f f651 (Ne.symm (dmepl))
                                                have f662 : w657 me = some (.inl (G.2.1 0, 32, .inl (upd (upd Fm (2 * c2) (nI ga)) ((2 * c2) + 1) (nI gb)))) := by rw [ew657]; exact g_up_s _ _ _
                                                have hB663 := lwB_set hB653 (List.mem_of_getElem? (i := 3) rfl) ew657
                                                refine lv_aload hx hb dL_build_803 (lv_at hl 5 rfl) ?_
                                                refine lv_iconst (v := 2) hx hb dL_build_805 (by decide) ?_
                                                refine lv_dup2_11 hx hb dL_build_806 rfl rfl ?_
                                                refine g_iald F hP f658 (by unfold vp_in; decide) dL_build_807 ?_
                                                refine lv_topi (fun v664 ev664 => ?_)
                                                have hv664 : v664 = nI c2 := by
                                                  rw [ev664]
                                                  rw [show (2 : Int32).toNatClampNeg = 2 from by decide]
                                                  exact hf2
                                                rw [hv664]
                                                refine lv_iconst (v := 1) hx hb dL_build_808 (by decide) ?_
                                                refine lv_iadd hx hb dL_build_809 ?_
                                                refine lv_topi (fun v665 ev665 => ?_)
                                                have hv665 : v665 = nI (c2 + 1) := by
                                                  rw [ev665]
                                                  exact nI_add c2 1
                                                rw [hv665]
                                                refine g_iast F hP hS f658 (by unfold vp_in; decide) dL_build_810 (fun H locs hP hS => ?_)
                                                rw [show (2 : Int32).toNatClampNeg = 2 from by decide] at hP
                                                obtain ⟨w666, ew666⟩ : ∃ z, z = g_up w657 nn (.inl (G.2.1 0, 6, .inl (upd Fn 2 (nI (c2 + 1))))) := ⟨_, rfl⟩
                                                have hP : g_P A G w666 H := by rw [ew666]; exact hP
                                                have f667 : w666 sh = some (.inl (G.2.1 0, 30, .inl Fs2)) := by rw [ew666]; exact g_up_f f659 (dnnsh)
                                                have f668 : w666 ge = some (.inl (G.2.1 0, 80, .inl Fg2)) := by rw [ew666]; exact g_up_f f660 (dnnge)
                                                have f669 : w666 pl = some (.inl (G.2.1 0, 20, .inl Fp0)) := by rw [ew666]; exact g_up_f f661 (dnnpl)
                                                have f670 : w666 me = some (.inl (G.2.1 0, 32, .inl (upd (upd Fm (2 * c2) (nI ga)) ((2 * c2) + 1) (nI gb)))) := by rw [ew666]; exact g_up_f f662 (dnnme)
                                                have f671 : w666 nn = some (.inl (G.2.1 0, 6, .inl (upd Fn 2 (nI (c2 + 1))))) := by rw [ew666]; exact g_up_s _ _ _
                                                have hB672 := lwB_set hB663 (List.mem_of_getElem? (i := 0) rfl) ew666
                                                refine W.widen (k := 100 + 10 * (k + 1)) (n := 2500 + 150 * (k + 1)) (by omega) (by omega) ?_
                                                have amk : arM S633 (c2 + 1) (upd (upd Fm (2 * c2) (nI ga)) ((2 * c2) + 1) (nI gb)) := arM_1 ham (fun f j hj _ _ => a4 f j (by omega) (by omega)) (fun j hj => by rw [pk_un (by omega), pk_un (by omega)]) ⟨by rw [a9, pk_un (by omega), pk_us]; exact (iL_n ga).symm, by rw [a10, pk_us]; exact (iL_n gb).symm⟩
                                                have ask : arS S633 n0 Fs2 := arS_c has (fun j _ => a5 3 j (by decide) (by decide) (by decide))
                                                have agk : arG S633 n1 Fg2 := arG_c hag (fun f j _ q1 q2 => a5 f j (by omega) (by omega) (by omega))
                                                obtain ⟨i673, ei673⟩ : ∃ y : Int32, y = nI k + (1) := ⟨_, rfl⟩
                                                refine lv_iinc (v := i673) (lv' := [(8, .int i673), (13, .int (nI c2)), (12, .int (g_b ce)), (11, .int (nI gb)), (10, .int (nI ga)), (7, .ref nn), (6, .ref pl), (5, .ref me), (4, .ref ge), (3, .ref sh), (2, .int (nI 0)), (1, .ref b9), (0, .ref x)]) hx hb dL_build_811 hl (k := 4) rfl (by rw [ei673]; rfl) (by decide) rfl (fun ls hl => ?_)
                                                have hi673 : i673 = nI (k + 1) := by
                                                  rw [ei673]
                                                  exact nI_1 k
                                                rw [hi673]
                                                refine lv_goto (tgt := 393) hx hb dL_build_814 (by decide) ?_
                                                exact ih_L393 (k + 1) S633 (upd (upd Fm (2 * c2) (nI ga)) ((2 * c2) + 1) (nI gb)) (upd Fn 2 (nI (c2 + 1))) (c2 + 1) w666 H locs ls (by omega) (by omega) (by omega) (hB672) (zk) (by rw [pk_un (by decide)]; exact hf0) (by rw [pk_un (by decide)]; exact hf1) (pk_us) (by rw [pk_un (by decide)]; exact hf3) (ask) (agk) (amk) f671 f667 f668 f670 f669 hP hS (lv_sub hl [0, 5, 6, 7, 8, 9, 10, 11, 12] rfl)
                                              · exact absurd (g_b0.mp (Decidable.not_not.mp c644)) (by rw [yce]; decide)
                                            · exact absurd rfl c643
                                      · have hjn : j < c2 := Nat.not_le.mp (fun q => c625 (nI_le q (by omega)))
                                        obtain ⟨m9, m10⟩ := ham j hjn
                                        have GM := Hi.2.2.2.1 j (by omega)
                                        refine lv_iload hx hb dL_build_657 (lv_at hl 1 rfl) ?_
                                        refine lv_if_eq (tgt := 718) hx hb dL_build_659 (by decide) (fun c674 => ?_) (fun c674 => ?_)
                                        · have yc674 : ce = false := g_b0.mp c674
                                          refine lv_iconst (v := 0) hx hb dL_build_718 (by decide) ?_
                                          refine lv_istore (lv' := [(12, .int 0), (13, .int (nI j)), (11, .int (nI gb)), (10, .int (nI ga)), (8, .int (nI k)), (7, .ref nn), (6, .ref pl), (5, .ref me), (4, .ref ge), (3, .ref sh), (2, .int (nI 0)), (1, .ref b9), (0, .ref x)]) hx hb dL_build_719 hl (by decide) rfl (fun ls hl => ?_)
                                          obtain ⟨i675, ei675⟩ : ∃ y : Int32, y = nI j + (1) := ⟨_, rfl⟩
                                          refine lv_iinc (v := i675) (lv' := [(13, .int i675), (12, .int 0), (11, .int (nI gb)), (10, .int (nI ga)), (8, .int (nI k)), (7, .ref nn), (6, .ref pl), (5, .ref me), (4, .ref ge), (3, .ref sh), (2, .int (nI 0)), (1, .ref b9), (0, .ref x)]) hx hb dL_build_721 hl (k := 1) rfl (by rw [ei675]; rfl) (by decide) rfl (fun ls hl => ?_)
                                          have hi675 : i675 = nI (j + 1) := by
                                            rw [ei675]
                                            exact nI_1 j
                                          rw [hi675]
                                          refine lv_goto (tgt := 648) hx hb dL_build_724 (by decide) ?_
                                          exact ih_L648 (j + 1) false  H locs ls (by omega) (by omega) (at_0 h4 yc674) hP hS (lv_sub hl [0, 1, 2, 3, 4, 5, 6, 7, 8, 9, 10, 11, 12] rfl)
                                        · have yc674 : ce = true := g_b1.mp c674
                                          refine lv_aload hx hb dL_build_662 (lv_at hl 7 rfl) ?_
                                          refine lv_iconst (v := 2) hx hb dL_build_664 (by decide) ?_
                                          refine lv_iload hx hb dL_build_665 (lv_at hl 0 rfl) ?_
                                          refine lv_imul hx hb dL_build_667 ?_
                                          refine lv_topi (fun v676 ev676 => ?_)
                                          have hv676 : v676 = nI (2 * j) := by
                                            rw [ev676]
                                            exact pk_mul 2 j
                                          rw [hv676]
                                          refine g_iald F hP hme (vp_in_nI (by omega) (by omega)) dL_build_668 ?_
                                          refine lv_topi (fun v677 ev677 => ?_)
                                          have hv677 : v677 = iL (S 9 j) := by
                                            rw [ev677]
                                            rw [nI_clamp (n := 2 * j) (by omega)]
                                            exact m9
                                          rw [hv677]
                                          refine lv_iload hx hb dL_build_669 (lv_at hl 3 rfl) ?_
                                          refine lv_icmp_ne (tgt := 688) hx hb dL_build_671 (by decide) (fun c678 => ?_) (fun c678 => ?_)
                                          · have yc678 : ¬ S 9 j = (ga : Int) := fun q => c678 (iL_nat q)
                                            refine lv_aload hx hb dL_build_688 (lv_at hl 7 rfl) ?_
                                            refine lv_iconst (v := 2) hx hb dL_build_690 (by decide) ?_
                                            refine lv_iload hx hb dL_build_691 (lv_at hl 0 rfl) ?_
                                            refine lv_imul hx hb dL_build_693 ?_
                                            refine lv_topi (fun v679 ev679 => ?_)
                                            have hv679 : v679 = nI (2 * j) := by
                                              rw [ev679]
                                              exact pk_mul 2 j
                                            rw [hv679]
                                            refine g_iald F hP hme (vp_in_nI (by omega) (by omega)) dL_build_694 ?_
                                            refine lv_topi (fun v680 ev680 => ?_)
                                            have hv680 : v680 = iL (S 9 j) := by
                                              rw [ev680]
                                              rw [nI_clamp (n := 2 * j) (by omega)]
                                              exact m9
                                            rw [hv680]
                                            refine lv_iload hx hb dL_build_695 (lv_at hl 2 rfl) ?_
                                            refine lv_icmp_ne (tgt := 714) hx hb dL_build_697 (by decide) (fun c681 => ?_) (fun c681 => ?_)
                                            · have yc681 : ¬ S 9 j = (gb : Int) := fun q => c681 (iL_nat q)
                                              refine lv_iconst (v := 1) hx hb dL_build_714 (by decide) ?_
                                              refine lv_goto (tgt := 719) hx hb dL_build_715 (by decide) ?_
                                              refine lv_istore (lv' := [(12, .int 1), (13, .int (nI j)), (11, .int (nI gb)), (10, .int (nI ga)), (8, .int (nI k)), (7, .ref nn), (6, .ref pl), (5, .ref me), (4, .ref ge), (3, .ref sh), (2, .int (nI 0)), (1, .ref b9), (0, .ref x)]) hx hb dL_build_719 hl (by decide) rfl (fun ls hl => ?_)
                                              obtain ⟨i682, ei682⟩ : ∃ y : Int32, y = nI j + (1) := ⟨_, rfl⟩
                                              refine lv_iinc (v := i682) (lv' := [(13, .int i682), (12, .int 1), (11, .int (nI gb)), (10, .int (nI ga)), (8, .int (nI k)), (7, .ref nn), (6, .ref pl), (5, .ref me), (4, .ref ge), (3, .ref sh), (2, .int (nI 0)), (1, .ref b9), (0, .ref x)]) hx hb dL_build_721 hl (k := 1) rfl (by rw [ei682]; rfl) (by decide) rfl (fun ls hl => ?_)
                                              have hi682 : i682 = nI (j + 1) := by
                                                rw [ei682]
                                                exact nI_1 j
                                              rw [hi682]
                                              refine lv_goto (tgt := 648) hx hb dL_build_724 (by decide) ?_
                                              exact ih_L648 (j + 1) true  H locs ls (by omega) (by omega) (at_1 h4 yc674 (fun q => by unfold meshAt at q; omega)) hP hS (lv_sub hl [0, 1, 2, 3, 4, 5, 6, 7, 8, 9, 10, 11, 12] rfl)
                                            · have yc681 : S 9 j = (gb : Int) := by have := (nI_eqi (z := S 9 j) (k := gb) (by omega) (by omega) (by omega)).mp c681.symm; omega
                                              refine lv_aload hx hb dL_build_700 (lv_at hl 7 rfl) ?_
                                              refine lv_iconst (v := 2) hx hb dL_build_702 (by decide) ?_
                                              refine lv_iload hx hb dL_build_703 (lv_at hl 0 rfl) ?_
                                              refine lv_imul hx hb dL_build_705 ?_
                                              refine lv_topi (fun v683 ev683 => ?_)
                                              have hv683 : v683 = nI (2 * j) := by
                                                rw [ev683]
                                                exact pk_mul 2 j
                                              rw [hv683]
                                              refine lv_iconst (v := 1) hx hb dL_build_706 (by decide) ?_
                                              refine lv_iadd hx hb dL_build_707 ?_
                                              refine lv_topi (fun v684 ev684 => ?_)
                                              have hv684 : v684 = nI ((2 * j) + 1) := by
                                                rw [ev684]
                                                exact nI_add (2 * j) 1
                                              rw [hv684]
                                              refine g_iald F hP hme (vp_in_nI (by omega) (by omega)) dL_build_708 ?_
                                              refine lv_topi (fun v685 ev685 => ?_)
                                              have hv685 : v685 = Fm ((2 * j) + 1) := by
                                                rw [ev685]
                                                rw [nI_clamp (n := (2 * j) + 1) (by omega)]
                                              rw [hv685]
                                              refine lv_iload hx hb dL_build_709 (lv_at hl 3 rfl) ?_
                                              refine lv_icmp_eq (tgt := 718) hx hb dL_build_711 (by decide) (fun c686 => ?_) (fun c686 => ?_)
                                              · have yc686 : S 10 j = (ga : Int) := by have := (nI_eqi (z := S 10 j) (k := ga) (by omega) (by omega) (by omega)).mp c686.symm; omega
                                                refine lv_iconst (v := 0) hx hb dL_build_718 (by decide) ?_
                                                refine lv_istore (lv' := [(12, .int 0), (13, .int (nI j)), (11, .int (nI gb)), (10, .int (nI ga)), (8, .int (nI k)), (7, .ref nn), (6, .ref pl), (5, .ref me), (4, .ref ge), (3, .ref sh), (2, .int (nI 0)), (1, .ref b9), (0, .ref x)]) hx hb dL_build_719 hl (by decide) rfl (fun ls hl => ?_)
                                                obtain ⟨i687, ei687⟩ : ∃ y : Int32, y = nI j + (1) := ⟨_, rfl⟩
                                                refine lv_iinc (v := i687) (lv' := [(13, .int i687), (12, .int 0), (11, .int (nI gb)), (10, .int (nI ga)), (8, .int (nI k)), (7, .ref nn), (6, .ref pl), (5, .ref me), (4, .ref ge), (3, .ref sh), (2, .int (nI 0)), (1, .ref b9), (0, .ref x)]) hx hb dL_build_721 hl (k := 1) rfl (by rw [ei687]; rfl) (by decide) rfl (fun ls hl => ?_)
                                                have hi687 : i687 = nI (j + 1) := by
                                                  rw [ei687]
                                                  exact nI_1 j
                                                rw [hi687]
                                                refine lv_goto (tgt := 648) hx hb dL_build_724 (by decide) ?_
                                                exact ih_L648 (j + 1) false  H locs ls (by omega) (by omega) (at_m (M := fun i => meshAt S i ga gb) (by unfold meshAt; omega)) hP hS (lv_sub hl [0, 1, 2, 3, 4, 5, 6, 7, 8, 9, 10, 11, 12] rfl)
                                              · have yc686 : ¬ S 10 j = (ga : Int) := fun q => c686 (iL_nat q)
                                                refine lv_iconst (v := 1) hx hb dL_build_714 (by decide) ?_
                                                refine lv_goto (tgt := 719) hx hb dL_build_715 (by decide) ?_
                                                refine lv_istore (lv' := [(12, .int 1), (13, .int (nI j)), (11, .int (nI gb)), (10, .int (nI ga)), (8, .int (nI k)), (7, .ref nn), (6, .ref pl), (5, .ref me), (4, .ref ge), (3, .ref sh), (2, .int (nI 0)), (1, .ref b9), (0, .ref x)]) hx hb dL_build_719 hl (by decide) rfl (fun ls hl => ?_)
                                                obtain ⟨i688, ei688⟩ : ∃ y : Int32, y = nI j + (1) := ⟨_, rfl⟩
                                                refine lv_iinc (v := i688) (lv' := [(13, .int i688), (12, .int 1), (11, .int (nI gb)), (10, .int (nI ga)), (8, .int (nI k)), (7, .ref nn), (6, .ref pl), (5, .ref me), (4, .ref ge), (3, .ref sh), (2, .int (nI 0)), (1, .ref b9), (0, .ref x)]) hx hb dL_build_721 hl (k := 1) rfl (by rw [ei688]; rfl) (by decide) rfl (fun ls hl => ?_)
                                                have hi688 : i688 = nI (j + 1) := by
                                                  rw [ei688]
                                                  exact nI_1 j
                                                rw [hi688]
                                                refine lv_goto (tgt := 648) hx hb dL_build_724 (by decide) ?_
                                                exact ih_L648 (j + 1) true  H locs ls (by omega) (by omega) (at_1 h4 yc674 (fun q => by unfold meshAt at q; omega)) hP hS (lv_sub hl [0, 1, 2, 3, 4, 5, 6, 7, 8, 9, 10, 11, 12] rfl)
                                          · have yc678 : S 9 j = (ga : Int) := by have := (nI_eqi (z := S 9 j) (k := ga) (by omega) (by omega) (by omega)).mp c678.symm; omega
                                            refine lv_aload hx hb dL_build_674 (lv_at hl 7 rfl) ?_
                                            refine lv_iconst (v := 2) hx hb dL_build_676 (by decide) ?_
                                            refine lv_iload hx hb dL_build_677 (lv_at hl 0 rfl) ?_
                                            refine lv_imul hx hb dL_build_679 ?_
                                            refine lv_topi (fun v689 ev689 => ?_)
                                            have hv689 : v689 = nI (2 * j) := by
                                              rw [ev689]
                                              exact pk_mul 2 j
                                            rw [hv689]
                                            refine lv_iconst (v := 1) hx hb dL_build_680 (by decide) ?_
                                            refine lv_iadd hx hb dL_build_681 ?_
                                            refine lv_topi (fun v690 ev690 => ?_)
                                            have hv690 : v690 = nI ((2 * j) + 1) := by
                                              rw [ev690]
                                              exact nI_add (2 * j) 1
                                            rw [hv690]
                                            refine g_iald F hP hme (vp_in_nI (by omega) (by omega)) dL_build_682 ?_
                                            refine lv_topi (fun v691 ev691 => ?_)
                                            have hv691 : v691 = Fm ((2 * j) + 1) := by
                                              rw [ev691]
                                              rw [nI_clamp (n := (2 * j) + 1) (by omega)]
                                            rw [hv691]
                                            refine lv_iload hx hb dL_build_683 (lv_at hl 2 rfl) ?_
                                            refine lv_icmp_eq (tgt := 718) hx hb dL_build_685 (by decide) (fun c692 => ?_) (fun c692 => ?_)
                                            · have yc692 : S 10 j = (gb : Int) := by have := (nI_eqi (z := S 10 j) (k := gb) (by omega) (by omega) (by omega)).mp c692.symm; omega
                                              refine lv_iconst (v := 0) hx hb dL_build_718 (by decide) ?_
                                              refine lv_istore (lv' := [(12, .int 0), (13, .int (nI j)), (11, .int (nI gb)), (10, .int (nI ga)), (8, .int (nI k)), (7, .ref nn), (6, .ref pl), (5, .ref me), (4, .ref ge), (3, .ref sh), (2, .int (nI 0)), (1, .ref b9), (0, .ref x)]) hx hb dL_build_719 hl (by decide) rfl (fun ls hl => ?_)
                                              obtain ⟨i693, ei693⟩ : ∃ y : Int32, y = nI j + (1) := ⟨_, rfl⟩
                                              refine lv_iinc (v := i693) (lv' := [(13, .int i693), (12, .int 0), (11, .int (nI gb)), (10, .int (nI ga)), (8, .int (nI k)), (7, .ref nn), (6, .ref pl), (5, .ref me), (4, .ref ge), (3, .ref sh), (2, .int (nI 0)), (1, .ref b9), (0, .ref x)]) hx hb dL_build_721 hl (k := 1) rfl (by rw [ei693]; rfl) (by decide) rfl (fun ls hl => ?_)
                                              have hi693 : i693 = nI (j + 1) := by
                                                rw [ei693]
                                                exact nI_1 j
                                              rw [hi693]
                                              refine lv_goto (tgt := 648) hx hb dL_build_724 (by decide) ?_
                                              exact ih_L648 (j + 1) false  H locs ls (by omega) (by omega) (at_m (M := fun i => meshAt S i ga gb) (by unfold meshAt; omega)) hP hS (lv_sub hl [0, 1, 2, 3, 4, 5, 6, 7, 8, 9, 10, 11, 12] rfl)
                                            · have yc692 : ¬ S 10 j = (gb : Int) := fun q => c692 (iL_nat q)
                                              refine lv_aload hx hb dL_build_688 (lv_at hl 7 rfl) ?_
                                              refine lv_iconst (v := 2) hx hb dL_build_690 (by decide) ?_
                                              refine lv_iload hx hb dL_build_691 (lv_at hl 0 rfl) ?_
                                              refine lv_imul hx hb dL_build_693 ?_
                                              refine lv_topi (fun v694 ev694 => ?_)
                                              have hv694 : v694 = nI (2 * j) := by
                                                rw [ev694]
                                                exact pk_mul 2 j
                                              rw [hv694]
                                              refine g_iald F hP hme (vp_in_nI (by omega) (by omega)) dL_build_694 ?_
                                              refine lv_topi (fun v695 ev695 => ?_)
                                              have hv695 : v695 = iL (S 9 j) := by
                                                rw [ev695]
                                                rw [nI_clamp (n := 2 * j) (by omega)]
                                                exact m9
                                              rw [hv695]
                                              refine lv_iload hx hb dL_build_695 (lv_at hl 2 rfl) ?_
                                              refine lv_icmp_ne (tgt := 714) hx hb dL_build_697 (by decide) (fun c696 => ?_) (fun c696 => ?_)
                                              · have yc696 : ¬ S 9 j = (gb : Int) := fun q => c696 (iL_nat q)
                                                refine lv_iconst (v := 1) hx hb dL_build_714 (by decide) ?_
                                                refine lv_goto (tgt := 719) hx hb dL_build_715 (by decide) ?_
                                                refine lv_istore (lv' := [(12, .int 1), (13, .int (nI j)), (11, .int (nI gb)), (10, .int (nI ga)), (8, .int (nI k)), (7, .ref nn), (6, .ref pl), (5, .ref me), (4, .ref ge), (3, .ref sh), (2, .int (nI 0)), (1, .ref b9), (0, .ref x)]) hx hb dL_build_719 hl (by decide) rfl (fun ls hl => ?_)
                                                obtain ⟨i697, ei697⟩ : ∃ y : Int32, y = nI j + (1) := ⟨_, rfl⟩
                                                refine lv_iinc (v := i697) (lv' := [(13, .int i697), (12, .int 1), (11, .int (nI gb)), (10, .int (nI ga)), (8, .int (nI k)), (7, .ref nn), (6, .ref pl), (5, .ref me), (4, .ref ge), (3, .ref sh), (2, .int (nI 0)), (1, .ref b9), (0, .ref x)]) hx hb dL_build_721 hl (k := 1) rfl (by rw [ei697]; rfl) (by decide) rfl (fun ls hl => ?_)
                                                have hi697 : i697 = nI (j + 1) := by
                                                  rw [ei697]
                                                  exact nI_1 j
                                                rw [hi697]
                                                refine lv_goto (tgt := 648) hx hb dL_build_724 (by decide) ?_
                                                exact ih_L648 (j + 1) true  H locs ls (by omega) (by omega) (at_1 h4 yc674 (fun q => by unfold meshAt at q; omega)) hP hS (lv_sub hl [0, 1, 2, 3, 4, 5, 6, 7, 8, 9, 10, 11, 12] rfl)
                                              · have yc696 : S 9 j = (gb : Int) := by have := (nI_eqi (z := S 9 j) (k := gb) (by omega) (by omega) (by omega)).mp c696.symm; omega
                                                refine lv_aload hx hb dL_build_700 (lv_at hl 7 rfl) ?_
                                                refine lv_iconst (v := 2) hx hb dL_build_702 (by decide) ?_
                                                refine lv_iload hx hb dL_build_703 (lv_at hl 0 rfl) ?_
                                                refine lv_imul hx hb dL_build_705 ?_
                                                refine lv_topi (fun v698 ev698 => ?_)
                                                have hv698 : v698 = nI (2 * j) := by
                                                  rw [ev698]
                                                  exact pk_mul 2 j
                                                rw [hv698]
                                                refine lv_iconst (v := 1) hx hb dL_build_706 (by decide) ?_
                                                refine lv_iadd hx hb dL_build_707 ?_
                                                refine lv_topi (fun v699 ev699 => ?_)
                                                have hv699 : v699 = nI ((2 * j) + 1) := by
                                                  rw [ev699]
                                                  exact nI_add (2 * j) 1
                                                rw [hv699]
                                                refine g_iald F hP hme (vp_in_nI (by omega) (by omega)) dL_build_708 ?_
                                                refine lv_topi (fun v700 ev700 => ?_)
                                                have hv700 : v700 = Fm ((2 * j) + 1) := by
                                                  rw [ev700]
                                                  rw [nI_clamp (n := (2 * j) + 1) (by omega)]
                                                rw [hv700]
                                                refine lv_iload hx hb dL_build_709 (lv_at hl 3 rfl) ?_
                                                refine lv_icmp_eq (tgt := 718) hx hb dL_build_711 (by decide) (fun c701 => ?_) (fun c701 => ?_)
                                                · have yc701 : S 10 j = (ga : Int) := by have := (nI_eqi (z := S 10 j) (k := ga) (by omega) (by omega) (by omega)).mp c701.symm; omega
                                                  refine lv_iconst (v := 0) hx hb dL_build_718 (by decide) ?_
                                                  refine lv_istore (lv' := [(12, .int 0), (13, .int (nI j)), (11, .int (nI gb)), (10, .int (nI ga)), (8, .int (nI k)), (7, .ref nn), (6, .ref pl), (5, .ref me), (4, .ref ge), (3, .ref sh), (2, .int (nI 0)), (1, .ref b9), (0, .ref x)]) hx hb dL_build_719 hl (by decide) rfl (fun ls hl => ?_)
                                                  obtain ⟨i702, ei702⟩ : ∃ y : Int32, y = nI j + (1) := ⟨_, rfl⟩
                                                  refine lv_iinc (v := i702) (lv' := [(13, .int i702), (12, .int 0), (11, .int (nI gb)), (10, .int (nI ga)), (8, .int (nI k)), (7, .ref nn), (6, .ref pl), (5, .ref me), (4, .ref ge), (3, .ref sh), (2, .int (nI 0)), (1, .ref b9), (0, .ref x)]) hx hb dL_build_721 hl (k := 1) rfl (by rw [ei702]; rfl) (by decide) rfl (fun ls hl => ?_)
                                                  have hi702 : i702 = nI (j + 1) := by
                                                    rw [ei702]
                                                    exact nI_1 j
                                                  rw [hi702]
                                                  refine lv_goto (tgt := 648) hx hb dL_build_724 (by decide) ?_
                                                  exact ih_L648 (j + 1) false  H locs ls (by omega) (by omega) (at_m (M := fun i => meshAt S i ga gb) (by unfold meshAt; omega)) hP hS (lv_sub hl [0, 1, 2, 3, 4, 5, 6, 7, 8, 9, 10, 11, 12] rfl)
                                                · have yc701 : ¬ S 10 j = (ga : Int) := fun q => c701 (iL_nat q)
                                                  refine lv_iconst (v := 1) hx hb dL_build_714 (by decide) ?_
                                                  refine lv_goto (tgt := 719) hx hb dL_build_715 (by decide) ?_
                                                  refine lv_istore (lv' := [(12, .int 1), (13, .int (nI j)), (11, .int (nI gb)), (10, .int (nI ga)), (8, .int (nI k)), (7, .ref nn), (6, .ref pl), (5, .ref me), (4, .ref ge), (3, .ref sh), (2, .int (nI 0)), (1, .ref b9), (0, .ref x)]) hx hb dL_build_719 hl (by decide) rfl (fun ls hl => ?_)
                                                  obtain ⟨i703, ei703⟩ : ∃ y : Int32, y = nI j + (1) := ⟨_, rfl⟩
                                                  refine lv_iinc (v := i703) (lv' := [(13, .int i703), (12, .int 1), (11, .int (nI gb)), (10, .int (nI ga)), (8, .int (nI k)), (7, .ref nn), (6, .ref pl), (5, .ref me), (4, .ref ge), (3, .ref sh), (2, .int (nI 0)), (1, .ref b9), (0, .ref x)]) hx hb dL_build_721 hl (k := 1) rfl (by rw [ei703]; rfl) (by decide) rfl (fun ls hl => ?_)
                                                  have hi703 : i703 = nI (j + 1) := by
                                                    rw [ei703]
                                                    exact nI_1 j
                                                  rw [hi703]
                                                  refine lv_goto (tgt := 648) hx hb dL_build_724 (by decide) ?_
                                                  exact ih_L648 (j + 1) true  H locs ls (by omega) (by omega) (at_1 h4 yc674 (fun q => by unfold meshAt at q; omega)) hP hS (lv_sub hl [0, 1, 2, 3, 4, 5, 6, 7, 8, 9, 10, 11, 12] rfl)
                                  exact L648 (c2 + 1) 0 cd  H locs ls (by omega) (by omega) (⟨fun q => ⟨q, fun i hi => absurd hi (Nat.not_lt_zero i)⟩, fun q => q.1⟩) hP hS (lv_sub hl [0, 1, 2, 3, 4, 5, 6, 7, 8, 9, 10, 11, 12] rfl)
                          refine lv_aload hx hb dL_build_553 (lv_at hl 7 rfl) ?_
                          refine lv_iconst (v := 5) hx hb dL_build_555 (by decide) ?_
                          refine lv_iload hx hb dL_build_556 (lv_at hl 2 rfl) ?_
                          refine lv_imul hx hb dL_build_558 ?_
                          refine lv_topi (fun v704 ev704 => ?_)
                          have hv704 : v704 = nI (5 * ga) := by
                            rw [ev704]
                            exact pk_mul 5 ga
                          rw [hv704]
                          refine lv_iconst (v := 4) hx hb dL_build_559 (by decide) ?_
                          refine lv_iadd hx hb dL_build_560 ?_
                          refine lv_topi (fun v705 ev705 => ?_)
                          have hv705 : v705 = nI ((5 * ga) + 4) := by
                            rw [ev705]
                            exact nI_add (5 * ga) 4
                          rw [hv705]
                          refine g_iald F hP hge (vp_in_nI (by omega) (by omega)) dL_build_561 ?_
                          refine lv_topi (fun v706 ev706 => ?_)
                          have hv706 : v706 = Fg2 ((5 * ga) + 4) := by
                            rw [ev706]
                            rw [nI_clamp (n := (5 * ga) + 4) (by omega)]
                          rw [hv706]
                          refine lv_iconst (v := 1) hx hb dL_build_562 (by decide) ?_
                          refine lv_icmp_ne (tgt := 599) hx hb dL_build_563 (by decide) (fun c707 => ?_) (fun c707 => ?_)
                          · have yc707 : ¬ S 8 ga = 1 := fun q => c707 (by rw [q]; rfl)
                            exact J599 cb H locs ls (⟨fun q => ⟨q, fun z => absurd z yc707⟩, fun q => q.1⟩) hP hS (lv_sub hl [0, 1, 2, 3, 4, 5, 6, 7, 8, 9, 10, 11] rfl)
                          · have yc707 : S 8 ga = 1 := (iL_eq (b := 1) (by omega) (by omega) (by omega) (by omega)).mp c707
                            refine lv_iload hx hb dL_build_566 (lv_at hl 0 rfl) ?_
                            refine lv_if_eq (tgt := 596) hx hb dL_build_568 (by decide) (fun c708 => ?_) (fun c708 => ?_)
                            · have yc708 : cb = false := g_b0.mp c708
                              refine lv_iconst (v := 0) hx hb dL_build_596 (by decide) ?_
                              refine lv_istore (lv' := [(12, .int 0), (11, .int (nI gb)), (10, .int (nI ga)), (8, .int (nI k)), (7, .ref nn), (6, .ref pl), (5, .ref me), (4, .ref ge), (3, .ref sh), (2, .int (nI 0)), (1, .ref b9), (0, .ref x)]) hx hb dL_build_597 hl (by decide) rfl (fun ls hl => ?_)
                              exact J599 false H locs ls (⟨fun q => (nomatch q), fun q => by have q1 := q.1; rw [yc708] at q1; cases q1⟩) hP hS (lv_sub hl [0, 1, 2, 3, 4, 5, 6, 7, 8, 9, 10, 11] rfl)
                            · have yc708 : cb = true := g_b1.mp c708
                              refine lv_aload hx hb dL_build_571 (lv_at hl 7 rfl) ?_
                              refine lv_iconst (v := 5) hx hb dL_build_573 (by decide) ?_
                              refine lv_iload hx hb dL_build_574 (lv_at hl 2 rfl) ?_
                              refine lv_imul hx hb dL_build_576 ?_
                              refine lv_topi (fun v709 ev709 => ?_)
                              have hv709 : v709 = nI (5 * ga) := by
                                rw [ev709]
                                exact pk_mul 5 ga
                              rw [hv709]
                              refine lv_iconst (v := 1) hx hb dL_build_577 (by decide) ?_
                              refine lv_iadd hx hb dL_build_578 ?_
                              refine lv_topi (fun v710 ev710 => ?_)
                              have hv710 : v710 = nI ((5 * ga) + 1) := by
                                rw [ev710]
                                exact nI_add (5 * ga) 1
                              rw [hv710]
                              refine g_iald F hP hge (vp_in_nI (by omega) (by omega)) dL_build_579 ?_
                              refine lv_topi (fun v711 ev711 => ?_)
                              have hv711 : v711 = Fg2 ((5 * ga) + 1) := by
                                rw [ev711]
                                rw [nI_clamp (n := (5 * ga) + 1) (by omega)]
                              rw [hv711]
                              refine lv_aload hx hb dL_build_580 (lv_at hl 7 rfl) ?_
                              refine lv_iconst (v := 5) hx hb dL_build_582 (by decide) ?_
                              refine lv_iload hx hb dL_build_583 (lv_at hl 1 rfl) ?_
                              refine lv_imul hx hb dL_build_585 ?_
                              refine lv_topi (fun v712 ev712 => ?_)
                              have hv712 : v712 = nI (5 * gb) := by
                                rw [ev712]
                                exact pk_mul 5 gb
                              rw [hv712]
                              refine lv_iconst (v := 1) hx hb dL_build_586 (by decide) ?_
                              refine lv_iadd hx hb dL_build_587 ?_
                              refine lv_topi (fun v713 ev713 => ?_)
                              have hv713 : v713 = nI ((5 * gb) + 1) := by
                                rw [ev713]
                                exact nI_add (5 * gb) 1
                              rw [hv713]
                              refine g_iald F hP hge (vp_in_nI (by omega) (by omega)) dL_build_588 ?_
                              refine lv_topi (fun v714 ev714 => ?_)
                              have hv714 : v714 = Fg2 ((5 * gb) + 1) := by
                                rw [ev714]
                                rw [nI_clamp (n := (5 * gb) + 1) (by omega)]
                              rw [hv714]
                              refine lv_icmp_le (tgt := 596) hx hb dL_build_589 (by decide) (fun c715 => ?_) (fun c715 => ?_)
                              · have kc715 : iL (S 5 ga) ≤ iL (S 5 gb) ↔ S 5 ga ≤ S 5 gb := iL_le (by omega) (by omega) (by omega) (by omega)
                                rw [kc715] at c715
                                refine lv_iconst (v := 0) hx hb dL_build_596 (by decide) ?_
                                refine lv_istore (lv' := [(12, .int 0), (11, .int (nI gb)), (10, .int (nI ga)), (8, .int (nI k)), (7, .ref nn), (6, .ref pl), (5, .ref me), (4, .ref ge), (3, .ref sh), (2, .int (nI 0)), (1, .ref b9), (0, .ref x)]) hx hb dL_build_597 hl (by decide) rfl (fun ls hl => ?_)
                                exact J599 false H locs ls (iff_of_false (by decide) (fun q => by have := q.2 yc707; omega)) hP hS (lv_sub hl [0, 1, 2, 3, 4, 5, 6, 7, 8, 9, 10, 11] rfl)
                              · have kc715 : iL (S 5 ga) ≤ iL (S 5 gb) ↔ S 5 ga ≤ S 5 gb := iL_le (by omega) (by omega) (by omega) (by omega)
                                rw [kc715] at c715
                                refine lv_iconst (v := 1) hx hb dL_build_592 (by decide) ?_
                                refine lv_goto (tgt := 597) hx hb dL_build_593 (by decide) ?_
                                refine lv_istore (lv' := [(12, .int 1), (11, .int (nI gb)), (10, .int (nI ga)), (8, .int (nI k)), (7, .ref nn), (6, .ref pl), (5, .ref me), (4, .ref ge), (3, .ref sh), (2, .int (nI 0)), (1, .ref b9), (0, .ref x)]) hx hb dL_build_597 hl (by decide) rfl (fun ls hl => ?_)
                                exact J599 true H locs ls (iff_of_true rfl ⟨yc708, fun _ => by omega⟩) hP hS (lv_sub hl [0, 1, 2, 3, 4, 5, 6, 7, 8, 9, 10, 11] rfl)
                        obtain ⟨ga4, ga5, ga6, ga7, ga8⟩ := hag ga hga
                        have Gga := Hi.2.2.1 ga (by omega)
                        obtain ⟨gb4, gb5, gb6, gb7, gb8⟩ := hag gb hgb
                        have Ggb := Hi.2.2.1 gb (by omega)
                        refine lv_aload hx hb dL_build_464 (lv_at hl 7 rfl) ?_
                        refine lv_iconst (v := 5) hx hb dL_build_466 (by decide) ?_
                        refine lv_iload hx hb dL_build_467 (lv_at hl 1 rfl) ?_
                        refine lv_imul hx hb dL_build_469 ?_
                        refine lv_topi (fun v716 ev716 => ?_)
                        have hv716 : v716 = nI (5 * ga) := by
                          rw [ev716]
                          exact pk_mul 5 ga
                        rw [hv716]
                        refine g_iald F hP hge (vp_in_nI (by omega) (by omega)) dL_build_470 ?_
                        refine lv_topi (fun v717 ev717 => ?_)
                        have hv717 : v717 = iL (S 4 ga) := by
                          rw [ev717]
                          rw [nI_clamp (n := 5 * ga) (by omega)]
                          exact ga4
                        rw [hv717]
                        refine lv_aload hx hb dL_build_471 (lv_at hl 7 rfl) ?_
                        refine lv_iconst (v := 5) hx hb dL_build_473 (by decide) ?_
                        refine lv_iload hx hb dL_build_474 (lv_at hl 0 rfl) ?_
                        refine lv_imul hx hb dL_build_476 ?_
                        refine lv_topi (fun v718 ev718 => ?_)
                        have hv718 : v718 = nI (5 * gb) := by
                          rw [ev718]
                          exact pk_mul 5 gb
                        rw [hv718]
                        refine g_iald F hP hge (vp_in_nI (by omega) (by omega)) dL_build_477 ?_
                        refine lv_topi (fun v719 ev719 => ?_)
                        have hv719 : v719 = iL (S 4 gb) := by
                          rw [ev719]
                          rw [nI_clamp (n := 5 * gb) (by omega)]
                          exact gb4
                        rw [hv719]
                        refine lv_icmp_eq (tgt := 550) hx hb dL_build_478 (by decide) (fun c720 => ?_) (fun c720 => ?_)
                        · have yc720 : S 4 ga = S 4 gb := (iL_eq (by omega) (by omega) (by omega) (by omega)).mp c720
                          refine lv_iconst (v := 0) hx hb dL_build_550 (by decide) ?_
                          exact J551 false H locs ls (iff_of_false (by decide) (by omega)) hP hS (lv_sub hl [0, 1, 3, 4, 5, 6, 7, 8, 9, 10, 11] rfl)
                        · have yc720 : ¬ S 4 ga = S 4 gb := fun q => c720 (by rw [q])
                          refine lv_aload hx hb dL_build_481 (lv_at hl 7 rfl) ?_
                          refine lv_iconst (v := 5) hx hb dL_build_483 (by decide) ?_
                          refine lv_iload hx hb dL_build_484 (lv_at hl 1 rfl) ?_
                          refine lv_imul hx hb dL_build_486 ?_
                          refine lv_topi (fun v721 ev721 => ?_)
                          have hv721 : v721 = nI (5 * ga) := by
                            rw [ev721]
                            exact pk_mul 5 ga
                          rw [hv721]
                          refine lv_iconst (v := 2) hx hb dL_build_487 (by decide) ?_
                          refine lv_iadd hx hb dL_build_488 ?_
                          refine lv_topi (fun v722 ev722 => ?_)
                          have hv722 : v722 = nI ((5 * ga) + 2) := by
                            rw [ev722]
                            exact nI_add (5 * ga) 2
                          rw [hv722]
                          refine g_iald F hP hge (vp_in_nI (by omega) (by omega)) dL_build_489 ?_
                          refine lv_topi (fun v723 ev723 => ?_)
                          have hv723 : v723 = Fg2 ((5 * ga) + 2) := by
                            rw [ev723]
                            rw [nI_clamp (n := (5 * ga) + 2) (by omega)]
                          rw [hv723]
                          refine lv_aload hx hb dL_build_490 (lv_at hl 7 rfl) ?_
                          refine lv_iconst (v := 5) hx hb dL_build_492 (by decide) ?_
                          refine lv_iload hx hb dL_build_493 (lv_at hl 0 rfl) ?_
                          refine lv_imul hx hb dL_build_495 ?_
                          refine lv_topi (fun v724 ev724 => ?_)
                          have hv724 : v724 = nI (5 * gb) := by
                            rw [ev724]
                            exact pk_mul 5 gb
                          rw [hv724]
                          refine lv_iconst (v := 2) hx hb dL_build_496 (by decide) ?_
                          refine lv_iadd hx hb dL_build_497 ?_
                          refine lv_topi (fun v725 ev725 => ?_)
                          have hv725 : v725 = nI ((5 * gb) + 2) := by
                            rw [ev725]
                            exact nI_add (5 * gb) 2
                          rw [hv725]
                          refine g_iald F hP hge (vp_in_nI (by omega) (by omega)) dL_build_498 ?_
                          refine lv_topi (fun v726 ev726 => ?_)
                          have hv726 : v726 = Fg2 ((5 * gb) + 2) := by
                            rw [ev726]
                            rw [nI_clamp (n := (5 * gb) + 2) (by omega)]
                          rw [hv726]
                          refine lv_icmp_ne (tgt := 550) hx hb dL_build_499 (by decide) (fun c727 => ?_) (fun c727 => ?_)
                          · have yc727 : ¬ S 6 ga = S 6 gb := fun q => c727 (by rw [q])
                            refine lv_iconst (v := 0) hx hb dL_build_550 (by decide) ?_
                            exact J551 false H locs ls (iff_of_false (by decide) (by omega)) hP hS (lv_sub hl [0, 1, 3, 4, 5, 6, 7, 8, 9, 10, 11] rfl)
                          · have yc727 : S 6 ga = S 6 gb := (iL_eq (by omega) (by omega) (by omega) (by omega)).mp c727
                            refine lv_aload hx hb dL_build_502 (lv_at hl 7 rfl) ?_
                            refine lv_iconst (v := 5) hx hb dL_build_504 (by decide) ?_
                            refine lv_iload hx hb dL_build_505 (lv_at hl 1 rfl) ?_
                            refine lv_imul hx hb dL_build_507 ?_
                            refine lv_topi (fun v728 ev728 => ?_)
                            have hv728 : v728 = nI (5 * ga) := by
                              rw [ev728]
                              exact pk_mul 5 ga
                            rw [hv728]
                            refine lv_iconst (v := 3) hx hb dL_build_508 (by decide) ?_
                            refine lv_iadd hx hb dL_build_509 ?_
                            refine lv_topi (fun v729 ev729 => ?_)
                            have hv729 : v729 = nI ((5 * ga) + 3) := by
                              rw [ev729]
                              exact nI_add (5 * ga) 3
                            rw [hv729]
                            refine g_iald F hP hge (vp_in_nI (by omega) (by omega)) dL_build_510 ?_
                            refine lv_topi (fun v730 ev730 => ?_)
                            have hv730 : v730 = Fg2 ((5 * ga) + 3) := by
                              rw [ev730]
                              rw [nI_clamp (n := (5 * ga) + 3) (by omega)]
                            rw [hv730]
                            refine lv_aload hx hb dL_build_511 (lv_at hl 7 rfl) ?_
                            refine lv_iconst (v := 5) hx hb dL_build_513 (by decide) ?_
                            refine lv_iload hx hb dL_build_514 (lv_at hl 0 rfl) ?_
                            refine lv_imul hx hb dL_build_516 ?_
                            refine lv_topi (fun v731 ev731 => ?_)
                            have hv731 : v731 = nI (5 * gb) := by
                              rw [ev731]
                              exact pk_mul 5 gb
                            rw [hv731]
                            refine lv_iconst (v := 3) hx hb dL_build_517 (by decide) ?_
                            refine lv_iadd hx hb dL_build_518 ?_
                            refine lv_topi (fun v732 ev732 => ?_)
                            have hv732 : v732 = nI ((5 * gb) + 3) := by
                              rw [ev732]
                              exact nI_add (5 * gb) 3
                            rw [hv732]
                            refine g_iald F hP hge (vp_in_nI (by omega) (by omega)) dL_build_519 ?_
                            refine lv_topi (fun v733 ev733 => ?_)
                            have hv733 : v733 = Fg2 ((5 * gb) + 3) := by
                              rw [ev733]
                              rw [nI_clamp (n := (5 * gb) + 3) (by omega)]
                            rw [hv733]
                            refine lv_icmp_ne (tgt := 550) hx hb dL_build_520 (by decide) (fun c734 => ?_) (fun c734 => ?_)
                            · have yc734 : ¬ S 7 ga = S 7 gb := fun q => c734 (by rw [q])
                              refine lv_iconst (v := 0) hx hb dL_build_550 (by decide) ?_
                              exact J551 false H locs ls (iff_of_false (by decide) (by omega)) hP hS (lv_sub hl [0, 1, 3, 4, 5, 6, 7, 8, 9, 10, 11] rfl)
                            · have yc734 : S 7 ga = S 7 gb := (iL_eq (by omega) (by omega) (by omega) (by omega)).mp c734
                              refine lv_aload hx hb dL_build_523 (lv_at hl 7 rfl) ?_
                              refine lv_iconst (v := 5) hx hb dL_build_525 (by decide) ?_
                              refine lv_iload hx hb dL_build_526 (lv_at hl 1 rfl) ?_
                              refine lv_imul hx hb dL_build_528 ?_
                              refine lv_topi (fun v735 ev735 => ?_)
                              have hv735 : v735 = nI (5 * ga) := by
                                rw [ev735]
                                exact pk_mul 5 ga
                              rw [hv735]
                              refine lv_iconst (v := 4) hx hb dL_build_529 (by decide) ?_
                              refine lv_iadd hx hb dL_build_530 ?_
                              refine lv_topi (fun v736 ev736 => ?_)
                              have hv736 : v736 = nI ((5 * ga) + 4) := by
                                rw [ev736]
                                exact nI_add (5 * ga) 4
                              rw [hv736]
                              refine g_iald F hP hge (vp_in_nI (by omega) (by omega)) dL_build_531 ?_
                              refine lv_topi (fun v737 ev737 => ?_)
                              have hv737 : v737 = Fg2 ((5 * ga) + 4) := by
                                rw [ev737]
                                rw [nI_clamp (n := (5 * ga) + 4) (by omega)]
                              rw [hv737]
                              refine lv_aload hx hb dL_build_532 (lv_at hl 7 rfl) ?_
                              refine lv_iconst (v := 5) hx hb dL_build_534 (by decide) ?_
                              refine lv_iload hx hb dL_build_535 (lv_at hl 0 rfl) ?_
                              refine lv_imul hx hb dL_build_537 ?_
                              refine lv_topi (fun v738 ev738 => ?_)
                              have hv738 : v738 = nI (5 * gb) := by
                                rw [ev738]
                                exact pk_mul 5 gb
                              rw [hv738]
                              refine lv_iconst (v := 4) hx hb dL_build_538 (by decide) ?_
                              refine lv_iadd hx hb dL_build_539 ?_
                              refine lv_topi (fun v739 ev739 => ?_)
                              have hv739 : v739 = nI ((5 * gb) + 4) := by
                                rw [ev739]
                                exact nI_add (5 * gb) 4
                              rw [hv739]
                              refine g_iald F hP hge (vp_in_nI (by omega) (by omega)) dL_build_540 ?_
                              refine lv_topi (fun v740 ev740 => ?_)
                              have hv740 : v740 = Fg2 ((5 * gb) + 4) := by
                                rw [ev740]
                                rw [nI_clamp (n := (5 * gb) + 4) (by omega)]
                              rw [hv740]
                              refine lv_iadd hx hb dL_build_541 ?_
                              refine lv_topi (fun v741 ev741 => ?_)
                              have hv741 : v741 = iL (S 8 ga + S 8 gb) := by
                                rw [ev741]
                                exact iL_add _ _
                              rw [hv741]
                              refine lv_iconst (v := 2) hx hb dL_build_542 (by decide) ?_
                              refine lv_icmp_ge (tgt := 550) hx hb dL_build_543 (by decide) (fun c742 => ?_) (fun c742 => ?_)
                              · have kc742 : (2 : Int32) ≤ iL (S 8 ga + S 8 gb) ↔ 2 ≤ S 8 ga + S 8 gb := iL_le (a := 2) (by omega) (by omega) (by omega) (by omega)
                                rw [kc742] at c742
                                refine lv_iconst (v := 0) hx hb dL_build_550 (by decide) ?_
                                exact J551 false H locs ls (iff_of_false (by decide) (by omega)) hP hS (lv_sub hl [0, 1, 3, 4, 5, 6, 7, 8, 9, 10, 11] rfl)
                              · have kc742 : (2 : Int32) ≤ iL (S 8 ga + S 8 gb) ↔ 2 ≤ S 8 ga + S 8 gb := iL_le (a := 2) (by omega) (by omega) (by omega) (by omega)
                                rw [kc742] at c742
                                refine lv_iconst (v := 1) hx hb dL_build_546 (by decide) ?_
                                refine lv_goto (tgt := 551) hx hb dL_build_547 (by decide) ?_
                                exact J551 true H locs ls (iff_of_true rfl (by omega)) hP hS (lv_sub hl [0, 1, 3, 4, 5, 6, 7, 8, 9, 10, 11] rfl)
                      · refine lv_goto (tgt := 811) hx hb dL_build_437 (by decide) ?_
                        refine W.widen (k := 100 + 10 * (k + 1)) (n := 2500 + 150 * (k + 1)) (by omega) (by omega) ?_
                        obtain ⟨i743, ei743⟩ : ∃ y : Int32, y = nI k + (1) := ⟨_, rfl⟩
                        refine lv_iinc (v := i743) (lv' := [(8, .int i743), (9, .int v353), (7, .ref nn), (6, .ref pl), (5, .ref me), (4, .ref ge), (3, .ref sh), (2, .int (nI 0)), (1, .ref b9), (0, .ref x)]) hx hb dL_build_811 hl (k := 1) rfl (by rw [ei743]; rfl) (by decide) rfl (fun ls hl => ?_)
                        have hi743 : i743 = nI (k + 1) := by
                          rw [ei743]
                          exact nI_1 k
                        rw [hi743]
                        refine lv_goto (tgt := 393) hx hb dL_build_814 (by decide) ?_
                        exact ih_L393 (k + 1) S Fm Fn c2 w H locs ls (by omega) (by omega) (hc2) (hB) (hz) (hf0) (hf1) (hf2) (hf3) (has) (hag) (ham) hnn hsh hge hme hpl hP hS (lv_sub hl [0, 2, 3, 4, 5, 6, 7, 8, 9] rfl)
              exact L393 25 0 S Fm0 Fn2 0 w H locs ls (by omega) (by omega) (by omega) (hB) (⟨zz0, zz1, zz2, zz3, zz4⟩) (hg0) (hg1) (hgz 2 (by decide)) (hgz 3 (by decide)) (has) (hag) (arM_0 _ _) hnn hsh hge hme hpl hP hS (lv_sub hl [0, 1, 2, 3, 4, 5, 6, 7, 8] rfl)
            · have hkn : k < n1 := Nat.not_le.mp (fun q => c44 (nI_le q (by omega)))
              refine lv_aload_n hx hb dL_build_196 rfl (lv_at hl 7 rfl) ?_
              refine lv_iload_n hx hb dL_build_197 rfl (lv_at hl 6 rfl) ?_
              refine lv_iconst (v := 2) hx hb dL_build_198 (by decide) ?_
              refine lv_iadd hx hb dL_build_199 ?_
              refine lv_topi (fun v744 ev744 => ?_)
              have hv744 : v744 = nI (0 + 2) := by
                rw [ev744]
                exact nI_add 0 2
              rw [hv744]
              refine lv_iload hx hb dL_build_200 (lv_at hl 0 rfl) ?_
              refine lv_iconst (v := 3) hx hb dL_build_202 (by decide) ?_
              refine lv_irem hx hb dL_build_203 (by decide) ?_
              refine lv_topi (fun v745 ev745 => ?_)
              have hv745 : v745 = nI (k % 3) := by
                rw [ev745]
                exact nI_mod (a := k) (d := 3) (by omega) (by omega) (by omega)
              rw [hv745]
              refine lv_iadd hx hb dL_build_204 ?_
              refine lv_topi (fun v746 ev746 => ?_)
              have hv746 : v746 = nI ((0 + 2) + (k % 3)) := by
                rw [ev746]
                exact nI_add (0 + 2) (k % 3)
              rw [hv746]
              refine g_SiS (As := [.ref b9, .int (nI ((0 + 2) + (k % 3)))]) (rest := []) F hP hS hX hbl hbA (k_L_cell l A G w b9 N9 xs hbA ((0 + 2) + (k % 3)) (by omega) hN9) (va_cwS 2 hts gL_build_L_cell rfl rfl rfl cd_L_cell ⟨by rw [hR]; exact Nat.le_of_ble_eq_true rfl, by rw [hR]; exact Nat.le_of_ble_eq_true rfl⟩) rfl hl.1 (Nat.le_of_ble_eq_true rfl) dL_build_205 ⟨by rw [hR]; dsimp only; omega, by rw [hR]; dsimp only; omega⟩ rfl (fun r747 w748 H locs h749 hP hS => ?_)
              rw [h749] at hP
              refine lv_iload hx hb dL_build_208 (lv_at hl 0 rfl) ?_
              refine lv_iconst (v := 3) hx hb dL_build_210 (by decide) ?_
              refine lv_idiv hx hb dL_build_211 (by decide) ?_
              refine lv_topi (fun v750 ev750 => ?_)
              have hv750 : v750 = nI (k / 3) := by
                rw [ev750]
                exact nI_dv (a := k) (d := 3) (by omega) (by omega) (by omega)
              rw [hv750]
              refine lv_iconst (v := 5) hx hb dL_build_212 (by decide) ?_
              refine lv_imul hx hb dL_build_213 ?_
              refine lv_topi (fun v751 ev751 => ?_)
              have hv751 : v751 = nI ((k / 3) * 5) := by
                rw [ev751]
                exact pk_mul (k / 3) 5
              rw [hv751]
              refine lv_ishr hx hb dL_build_214 ?_
              refine lv_topi (fun v752 ev752 => ?_)
              refine lv_istore (lv' := [(9, .int v752), (8, .int (nI k)), (7, .ref nn), (6, .ref pl), (5, .ref me), (4, .ref ge), (3, .ref sh), (2, .int (nI 0)), (1, .ref b9), (0, .ref x)]) hx hb dL_build_215 hl (by decide) rfl (fun ls hl => ?_)
              refine lv_iconst (v := 5) hx hb dL_build_217 (by decide) ?_
              refine lv_iload hx hb dL_build_218 (lv_at hl 1 rfl) ?_
              refine lv_imul hx hb dL_build_220 ?_
              refine lv_topi (fun v753 ev753 => ?_)
              have hv753 : v753 = nI (5 * k) := by
                rw [ev753]
                exact pk_mul 5 k
              rw [hv753]
              refine lv_istore (lv' := [(10, .int (nI (5 * k))), (9, .int v752), (8, .int (nI k)), (7, .ref nn), (6, .ref pl), (5, .ref me), (4, .ref ge), (3, .ref sh), (2, .int (nI 0)), (1, .ref b9), (0, .ref x)]) hx hb dL_build_221 hl (by decide) rfl (fun ls hl => ?_)
              refine lv_aload hx hb dL_build_223 (lv_at hl 6 rfl) ?_
              refine lv_iload hx hb dL_build_225 (lv_at hl 0 rfl) ?_
              refine lv_iload hx hb dL_build_227 (lv_at hl 1 rfl) ?_
              refine lv_aload hx hb dL_build_229 (lv_at hl 3 rfl) ?_
              refine lv_iconst (v := 0) hx hb dL_build_231 (by decide) ?_
              refine g_iald F hP hnn (by unfold vp_in; decide) dL_build_232 ?_
              refine lv_topi (fun v754 ev754 => ?_)
              have hv754 : v754 = nI n0 := by
                rw [ev754]
                rw [show (0 : Int32).toNatClampNeg = 0 from by decide]
                exact hg0
              rw [hv754]
              refine g_Si (As := [.int v752, .int (nI n0)]) (rest := [.int (nI (5 * k)), .ref ge]) F hP hS (k_L_below l A G w v752 n0 (by omega) (by omega)) (va_cwS 2 hts gL_build_L_below rfl rfl rfl cd_L_below ⟨by rw [hR]; exact Nat.le_of_ble_eq_true rfl, by rw [hR]; exact Nat.le_of_ble_eq_true rfl⟩) rfl hl.1 (Nat.le_of_ble_eq_true rfl) dL_build_233 ⟨by rw [hR]; dsimp only; omega, by rw [hR]; dsimp only; omega⟩ rfl (fun r755 w756 H locs h757 hP hS => ?_)
              have hr755 := h757.1
              rw [h757.2] at hP
              rw [hr755]
              obtain ⟨b758, eb758⟩ : ∃ z, z = blw v752 n0 := ⟨_, rfl⟩
              rw [← eb758]
              have k759 : b758 < n0 := by rw [eb758]; exact blw_lt _ (by omega)
              refine g_iast F hP hS hge (vp_in_nI (by omega) (by omega)) dL_build_236 (fun H locs hP hS => ?_)
              rw [nI_clamp (n := 5 * k) (by omega)] at hP
              obtain ⟨w760, ew760⟩ : ∃ z, z = g_up w ge (.inl (G.2.1 0, 80, .inl (upd Fg (5 * k) (nI b758)))) := ⟨_, rfl⟩
              have hP : g_P A G w760 H := by rw [ew760]; exact hP
              have f761 : w760 nn = some (.inl (G.2.1 0, 6, .inl Fn2)) := by rw [ew760]; exact g_up_f hnn (Ne.symm (dnnge))
              have f762 : w760 sh = some (.inl (G.2.1 0, 30, .inl Fs2)) := by rw [ew760]; exact g_up_f hsh (dshge)
              have f763 : w760 me = some (.inl (G.2.1 0, 32, .inl Fm0)) := by rw [ew760]; exact g_up_f hme (Ne.symm (dgeme))
              have f764 : w760 pl = some (.inl (G.2.1 0, 20, .inl Fp0)) := by rw [ew760]; exact g_up_f hpl (Ne.symm (dgepl))
              have f765 : w760 ge = some (.inl (G.2.1 0, 80, .inl (upd Fg (5 * k) (nI b758)))) := by rw [ew760]; exact g_up_s _ _ _
              have hB766 := lwB_set hB (List.mem_of_getElem? (i := 2) rfl) ew760
              refine lv_aload hx hb dL_build_237 (lv_at hl 6 rfl) ?_
              refine lv_iload hx hb dL_build_239 (lv_at hl 0 rfl) ?_
              refine lv_iconst (v := 1) hx hb dL_build_241 (by decide) ?_
              refine lv_iadd hx hb dL_build_242 ?_
              refine lv_topi (fun v767 ev767 => ?_)
              have hv767 : v767 = nI ((5 * k) + 1) := by
                rw [ev767]
                exact nI_add (5 * k) 1
              rw [hv767]
              refine lv_bipush (v := 8) hx hb dL_build_243 (by decide) ?_
              refine lv_iload hx hb dL_build_245 (lv_at hl 1 rfl) ?_
              refine lv_iconst (v := 2) hx hb dL_build_247 (by decide) ?_
              refine lv_ishr hx hb dL_build_248 ?_
              refine lv_topi (fun v768 ev768 => ?_)
              refine lv_iload hx hb dL_build_249 (lv_at hl 1 rfl) ?_
              refine lv_iconst (v := 2) hx hb dL_build_251 (by decide) ?_
              refine g_Si (As := [.int v752, .int 2]) (rest := [.int v768, .int 8, .int (nI ((5 * k) + 1)), .ref ge]) F hP hS (k_L_below l A G w760 v752 2 (by omega) (by omega)) (va_cwS 2 hts gL_build_L_below rfl rfl rfl cd_L_below ⟨by rw [hR]; exact Nat.le_of_ble_eq_true rfl, by rw [hR]; exact Nat.le_of_ble_eq_true rfl⟩) rfl hl.1 (Nat.le_of_ble_eq_true rfl) dL_build_252 ⟨by rw [hR]; dsimp only; omega, by rw [hR]; dsimp only; omega⟩ rfl (fun r769 w770 H locs h771 hP hS => ?_)
              have hr769 := h771.1
              rw [h771.2] at hP
              rw [hr769]
              obtain ⟨b772, eb772⟩ : ∃ z, z = blw v752 2 := ⟨_, rfl⟩
              rw [← eb772]
              have k773 : b772 < 2 := by rw [eb772]; exact blw_lt _ (by omega)
              refine lv_if_ne (tgt := 263) hx hb dL_build_255 (by decide) (fun c774 => ?_) (fun c774 => ?_)
              · refine lv_sipush (v := 193) hx hb dL_build_263 (by decide) ?_
                refine g_Si (As := [.int v768, .int 193]) (rest := [.int 8, .int (nI ((5 * k) + 1)), .ref ge]) F hP hS (k_L_below l A G w760 v768 193 (by omega) (by omega)) (va_cwS 2 hts gL_build_L_below rfl rfl rfl cd_L_below ⟨by rw [hR]; exact Nat.le_of_ble_eq_true rfl, by rw [hR]; exact Nat.le_of_ble_eq_true rfl⟩) rfl hl.1 (Nat.le_of_ble_eq_true rfl) dL_build_266 ⟨by rw [hR]; dsimp only; omega, by rw [hR]; dsimp only; omega⟩ rfl (fun r775 w776 H locs h777 hP hS => ?_)
                have hr775 := h777.1
                rw [h777.2] at hP
                rw [hr775]
                obtain ⟨b778, eb778⟩ : ∃ z, z = blw v768 193 := ⟨_, rfl⟩
                rw [← eb778]
                have k779 : b778 < 193 := by rw [eb778]; exact blw_lt _ (by omega)
                refine lv_iadd hx hb dL_build_269 ?_
                refine lv_topi (fun v780 ev780 => ?_)
                have hv780 : v780 = nI (8 + b778) := by
                  rw [ev780]
                  exact nI_add 8 b778
                rw [hv780]
                refine g_iast F hP hS f765 (vp_in_nI (by omega) (by omega)) dL_build_270 (fun H locs hP hS => ?_)
                rw [nI_clamp (n := (5 * k) + 1) (by omega)] at hP
                obtain ⟨w781, ew781⟩ : ∃ z, z = g_up w760 ge (.inl (G.2.1 0, 80, .inl (upd (upd Fg (5 * k) (nI b758)) ((5 * k) + 1) (nI (8 + b778))))) := ⟨_, rfl⟩
                have hP : g_P A G w781 H := by rw [ew781]; exact hP
                have f782 : w781 nn = some (.inl (G.2.1 0, 6, .inl Fn2)) := by rw [ew781]; exact g_up_f f761 (Ne.symm (dnnge))
                have f783 : w781 sh = some (.inl (G.2.1 0, 30, .inl Fs2)) := by rw [ew781]; exact g_up_f f762 (dshge)
                have f784 : w781 me = some (.inl (G.2.1 0, 32, .inl Fm0)) := by rw [ew781]; exact g_up_f f763 (Ne.symm (dgeme))
                have f785 : w781 pl = some (.inl (G.2.1 0, 20, .inl Fp0)) := by rw [ew781]; exact g_up_f f764 (Ne.symm (dgepl))
                have f786 : w781 ge = some (.inl (G.2.1 0, 80, .inl (upd (upd Fg (5 * k) (nI b758)) ((5 * k) + 1) (nI (8 + b778))))) := by rw [ew781]; exact g_up_s _ _ _
                have hB787 := lwB_set hB766 (List.mem_of_getElem? (i := 2) rfl) ew781
                refine lv_aload hx hb dL_build_271 (lv_at hl 6 rfl) ?_
                refine lv_iload hx hb dL_build_273 (lv_at hl 0 rfl) ?_
                refine lv_iconst (v := 2) hx hb dL_build_275 (by decide) ?_
                refine lv_iadd hx hb dL_build_276 ?_
                refine lv_topi (fun v788 ev788 => ?_)
                have hv788 : v788 = nI ((5 * k) + 2) := by
                  rw [ev788]
                  exact nI_add (5 * k) 2
                rw [hv788]
                refine lv_iconst (v := 1) hx hb dL_build_277 (by decide) ?_
                refine lv_iload hx hb dL_build_278 (lv_at hl 1 rfl) ?_
                refine lv_iconst (v := 4) hx hb dL_build_280 (by decide) ?_
                refine lv_ishr hx hb dL_build_281 ?_
                refine lv_topi (fun v789 ev789 => ?_)
                refine lv_bipush (v := 6) hx hb dL_build_282 (by decide) ?_
                refine g_Si (As := [.int v789, .int 6]) (rest := [.int 1, .int (nI ((5 * k) + 2)), .ref ge]) F hP hS (k_L_below l A G w781 v789 6 (by omega) (by omega)) (va_cwS 2 hts gL_build_L_below rfl rfl rfl cd_L_below ⟨by rw [hR]; exact Nat.le_of_ble_eq_true rfl, by rw [hR]; exact Nat.le_of_ble_eq_true rfl⟩) rfl hl.1 (Nat.le_of_ble_eq_true rfl) dL_build_284 ⟨by rw [hR]; dsimp only; omega, by rw [hR]; dsimp only; omega⟩ rfl (fun r790 w791 H locs h792 hP hS => ?_)
                have hr790 := h792.1
                rw [h792.2] at hP
                rw [hr790]
                obtain ⟨b793, eb793⟩ : ∃ z, z = blw v789 6 := ⟨_, rfl⟩
                rw [← eb793]
                have k794 : b793 < 6 := by rw [eb793]; exact blw_lt _ (by omega)
                refine lv_iconst (v := 5) hx hb dL_build_287 (by decide) ?_
                refine lv_idiv hx hb dL_build_288 (by decide) ?_
                refine lv_topi (fun v795 ev795 => ?_)
                have hv795 : v795 = nI (b793 / 5) := by
                  rw [ev795]
                  exact nI_dv (a := b793) (d := 5) (by omega) (by omega) (by omega)
                rw [hv795]
                refine lv_iadd hx hb dL_build_289 ?_
                refine lv_topi (fun v796 ev796 => ?_)
                have hv796 : v796 = nI (1 + (b793 / 5)) := by
                  rw [ev796]
                  exact nI_add 1 (b793 / 5)
                rw [hv796]
                refine g_iast F hP hS f786 (vp_in_nI (by omega) (by omega)) dL_build_290 (fun H locs hP hS => ?_)
                rw [nI_clamp (n := (5 * k) + 2) (by omega)] at hP
                obtain ⟨w797, ew797⟩ : ∃ z, z = g_up w781 ge (.inl (G.2.1 0, 80, .inl (upd (upd (upd Fg (5 * k) (nI b758)) ((5 * k) + 1) (nI (8 + b778))) ((5 * k) + 2) (nI (1 + (b793 / 5)))))) := ⟨_, rfl⟩
                have hP : g_P A G w797 H := by rw [ew797]; exact hP
                have f798 : w797 nn = some (.inl (G.2.1 0, 6, .inl Fn2)) := by rw [ew797]; exact g_up_f f782 (Ne.symm (dnnge))
                have f799 : w797 sh = some (.inl (G.2.1 0, 30, .inl Fs2)) := by rw [ew797]; exact g_up_f f783 (dshge)
                have f800 : w797 me = some (.inl (G.2.1 0, 32, .inl Fm0)) := by rw [ew797]; exact g_up_f f784 (Ne.symm (dgeme))
                have f801 : w797 pl = some (.inl (G.2.1 0, 20, .inl Fp0)) := by rw [ew797]; exact g_up_f f785 (Ne.symm (dgepl))
                have f802 : w797 ge = some (.inl (G.2.1 0, 80, .inl (upd (upd (upd Fg (5 * k) (nI b758)) ((5 * k) + 1) (nI (8 + b778))) ((5 * k) + 2) (nI (1 + (b793 / 5)))))) := by rw [ew797]; exact g_up_s _ _ _
                have hB803 := lwB_set hB787 (List.mem_of_getElem? (i := 2) rfl) ew797
                refine lv_aload hx hb dL_build_291 (lv_at hl 6 rfl) ?_
                refine lv_iload hx hb dL_build_293 (lv_at hl 0 rfl) ?_
                refine lv_iconst (v := 3) hx hb dL_build_295 (by decide) ?_
                refine lv_iadd hx hb dL_build_296 ?_
                refine lv_topi (fun v804 ev804 => ?_)
                have hv804 : v804 = nI ((5 * k) + 3) := by
                  rw [ev804]
                  exact nI_add (5 * k) 3
                rw [hv804]
                refine lv_iload hx hb dL_build_297 (lv_at hl 1 rfl) ?_
                refine lv_bipush (v := 6) hx hb dL_build_299 (by decide) ?_
                refine lv_ishr hx hb dL_build_301 ?_
                refine lv_topi (fun v805 ev805 => ?_)
                refine lv_iconst (v := 2) hx hb dL_build_302 (by decide) ?_
                refine g_Si (As := [.int v805, .int 2]) (rest := [.int (nI ((5 * k) + 3)), .ref ge]) F hP hS (k_L_below l A G w797 v805 2 (by omega) (by omega)) (va_cwS 2 hts gL_build_L_below rfl rfl rfl cd_L_below ⟨by rw [hR]; exact Nat.le_of_ble_eq_true rfl, by rw [hR]; exact Nat.le_of_ble_eq_true rfl⟩) rfl hl.1 (Nat.le_of_ble_eq_true rfl) dL_build_303 ⟨by rw [hR]; dsimp only; omega, by rw [hR]; dsimp only; omega⟩ rfl (fun r806 w807 H locs h808 hP hS => ?_)
                have hr806 := h808.1
                rw [h808.2] at hP
                rw [hr806]
                obtain ⟨b809, eb809⟩ : ∃ z, z = blw v805 2 := ⟨_, rfl⟩
                rw [← eb809]
                have k810 : b809 < 2 := by rw [eb809]; exact blw_lt _ (by omega)
                refine g_iast F hP hS f802 (vp_in_nI (by omega) (by omega)) dL_build_306 (fun H locs hP hS => ?_)
                rw [nI_clamp (n := (5 * k) + 3) (by omega)] at hP
                obtain ⟨w811, ew811⟩ : ∃ z, z = g_up w797 ge (.inl (G.2.1 0, 80, .inl (upd (upd (upd (upd Fg (5 * k) (nI b758)) ((5 * k) + 1) (nI (8 + b778))) ((5 * k) + 2) (nI (1 + (b793 / 5)))) ((5 * k) + 3) (nI b809)))) := ⟨_, rfl⟩
                have hP : g_P A G w811 H := by rw [ew811]; exact hP
                have f812 : w811 nn = some (.inl (G.2.1 0, 6, .inl Fn2)) := by rw [ew811]; exact g_up_f f798 (Ne.symm (dnnge))
                have f813 : w811 sh = some (.inl (G.2.1 0, 30, .inl Fs2)) := by rw [ew811]; exact g_up_f f799 (dshge)
                have f814 : w811 me = some (.inl (G.2.1 0, 32, .inl Fm0)) := by rw [ew811]; exact g_up_f f800 (Ne.symm (dgeme))
                have f815 : w811 pl = some (.inl (G.2.1 0, 20, .inl Fp0)) := by rw [ew811]; exact g_up_f f801 (Ne.symm (dgepl))
                have f816 : w811 ge = some (.inl (G.2.1 0, 80, .inl (upd (upd (upd (upd Fg (5 * k) (nI b758)) ((5 * k) + 1) (nI (8 + b778))) ((5 * k) + 2) (nI (1 + (b793 / 5)))) ((5 * k) + 3) (nI b809)))) := by rw [ew811]; exact g_up_s _ _ _
                have hB817 := lwB_set hB803 (List.mem_of_getElem? (i := 2) rfl) ew811
                refine lv_aload hx hb dL_build_307 (lv_at hl 6 rfl) ?_
                refine lv_iload hx hb dL_build_309 (lv_at hl 0 rfl) ?_
                refine lv_iconst (v := 4) hx hb dL_build_311 (by decide) ?_
                refine lv_iadd hx hb dL_build_312 ?_
                refine lv_topi (fun v818 ev818 => ?_)
                have hv818 : v818 = nI ((5 * k) + 4) := by
                  rw [ev818]
                  exact nI_add (5 * k) 4
                rw [hv818]
                refine lv_iload hx hb dL_build_313 (lv_at hl 1 rfl) ?_
                refine lv_bipush (v := 7) hx hb dL_build_315 (by decide) ?_
                refine lv_ishr hx hb dL_build_317 ?_
                refine lv_topi (fun v819 ev819 => ?_)
                refine lv_iconst (v := 5) hx hb dL_build_318 (by decide) ?_
                refine g_Si (As := [.int v819, .int 5]) (rest := [.int (nI ((5 * k) + 4)), .ref ge]) F hP hS (k_L_below l A G w811 v819 5 (by omega) (by omega)) (va_cwS 2 hts gL_build_L_below rfl rfl rfl cd_L_below ⟨by rw [hR]; exact Nat.le_of_ble_eq_true rfl, by rw [hR]; exact Nat.le_of_ble_eq_true rfl⟩) rfl hl.1 (Nat.le_of_ble_eq_true rfl) dL_build_319 ⟨by rw [hR]; dsimp only; omega, by rw [hR]; dsimp only; omega⟩ rfl (fun r820 w821 H locs h822 hP hS => ?_)
                have hr820 := h822.1
                rw [h822.2] at hP
                rw [hr820]
                obtain ⟨b823, eb823⟩ : ∃ z, z = blw v819 5 := ⟨_, rfl⟩
                rw [← eb823]
                have k824 : b823 < 5 := by rw [eb823]; exact blw_lt _ (by omega)
                refine lv_if_ne (tgt := 329) hx hb dL_build_322 (by decide) (fun c825 => ?_) (fun c825 => ?_)
                · refine lv_iconst (v := 0) hx hb dL_build_329 (by decide) ?_
                  refine g_iast F hP hS f816 (vp_in_nI (by omega) (by omega)) dL_build_330 (fun H locs hP hS => ?_)
                  rw [nI_clamp (n := (5 * k) + 4) (by omega)] at hP
                  obtain ⟨w826, ew826⟩ : ∃ z, z = g_up w811 ge (.inl (G.2.1 0, 80, .inl (upd (upd (upd (upd (upd Fg (5 * k) (nI b758)) ((5 * k) + 1) (nI (8 + b778))) ((5 * k) + 2) (nI (1 + (b793 / 5)))) ((5 * k) + 3) (nI b809)) ((5 * k) + 4) 0))) := ⟨_, rfl⟩
                  have hP : g_P A G w826 H := by rw [ew826]; exact hP
                  have f827 : w826 nn = some (.inl (G.2.1 0, 6, .inl Fn2)) := by rw [ew826]; exact g_up_f f812 (Ne.symm (dnnge))
                  have f828 : w826 sh = some (.inl (G.2.1 0, 30, .inl Fs2)) := by rw [ew826]; exact g_up_f f813 (dshge)
                  have f829 : w826 me = some (.inl (G.2.1 0, 32, .inl Fm0)) := by rw [ew826]; exact g_up_f f814 (Ne.symm (dgeme))
                  have f830 : w826 pl = some (.inl (G.2.1 0, 20, .inl Fp0)) := by rw [ew826]; exact g_up_f f815 (Ne.symm (dgepl))
                  have f831 : w826 ge = some (.inl (G.2.1 0, 80, .inl (upd (upd (upd (upd (upd Fg (5 * k) (nI b758)) ((5 * k) + 1) (nI (8 + b778))) ((5 * k) + 2) (nI (1 + (b793 / 5)))) ((5 * k) + 3) (nI b809)) ((5 * k) + 4) 0))) := by rw [ew826]; exact g_up_s _ _ _
                  have hB832 := lwB_set hB817 (List.mem_of_getElem? (i := 2) rfl) ew826
                  refine lv_aload_n hx hb dL_build_331 rfl (lv_at hl 10 rfl) ?_
                  refine lv_aload hx hb dL_build_332 (lv_at hl 6 rfl) ?_
                  refine lv_iload hx hb dL_build_334 (lv_at hl 0 rfl) ?_
                  refine g_iald F hP f831 (vp_in_nI (by omega) (by omega)) dL_build_336 ?_
                  refine lv_topi (fun v833 ev833 => ?_)
                  have hv833 : v833 = nI b758 := by
                    rw [ev833]
                    rw [nI_clamp (n := 5 * k) (by omega)]
                    exact (pk_un (k := ((5 * k) + 4)) (j := (5 * k)) (by omega)).trans ((pk_un (k := ((5 * k) + 3)) (j := (5 * k)) (by omega)).trans ((pk_un (k := ((5 * k) + 2)) (j := (5 * k)) (by omega)).trans ((pk_un (k := ((5 * k) + 1)) (j := (5 * k)) (by omega)).trans (pk_us))))
                  rw [hv833]
                  refine lv_aload hx hb dL_build_337 (lv_at hl 6 rfl) ?_
                  refine lv_iload hx hb dL_build_339 (lv_at hl 0 rfl) ?_
                  refine lv_iconst (v := 1) hx hb dL_build_341 (by decide) ?_
                  refine lv_iadd hx hb dL_build_342 ?_
                  refine lv_topi (fun v834 ev834 => ?_)
                  have hv834 : v834 = nI ((5 * k) + 1) := by
                    rw [ev834]
                    exact nI_add (5 * k) 1
                  rw [hv834]
                  refine g_iald F hP f831 (vp_in_nI (by omega) (by omega)) dL_build_343 ?_
                  refine lv_topi (fun v835 ev835 => ?_)
                  have hv835 : v835 = nI (8 + b778) := by
                    rw [ev835]
                    rw [nI_clamp (n := (5 * k) + 1) (by omega)]
                    exact (pk_un (k := ((5 * k) + 4)) (j := ((5 * k) + 1)) (by omega)).trans ((pk_un (k := ((5 * k) + 3)) (j := ((5 * k) + 1)) (by omega)).trans ((pk_un (k := ((5 * k) + 2)) (j := ((5 * k) + 1)) (by omega)).trans (pk_us)))
                  rw [hv835]
                  refine lv_aload hx hb dL_build_344 (lv_at hl 6 rfl) ?_
                  refine lv_iload hx hb dL_build_346 (lv_at hl 0 rfl) ?_
                  refine lv_iconst (v := 2) hx hb dL_build_348 (by decide) ?_
                  refine lv_iadd hx hb dL_build_349 ?_
                  refine lv_topi (fun v836 ev836 => ?_)
                  have hv836 : v836 = nI ((5 * k) + 2) := by
                    rw [ev836]
                    exact nI_add (5 * k) 2
                  rw [hv836]
                  refine g_iald F hP f831 (vp_in_nI (by omega) (by omega)) dL_build_350 ?_
                  refine lv_topi (fun v837 ev837 => ?_)
                  have hv837 : v837 = nI (1 + (b793 / 5)) := by
                    rw [ev837]
                    rw [nI_clamp (n := (5 * k) + 2) (by omega)]
                    exact (pk_un (k := ((5 * k) + 4)) (j := ((5 * k) + 2)) (by omega)).trans ((pk_un (k := ((5 * k) + 3)) (j := ((5 * k) + 2)) (by omega)).trans (pk_us))
                  rw [hv837]
                  refine lv_aload hx hb dL_build_351 (lv_at hl 6 rfl) ?_
                  refine lv_iload hx hb dL_build_353 (lv_at hl 0 rfl) ?_
                  refine lv_iconst (v := 3) hx hb dL_build_355 (by decide) ?_
                  refine lv_iadd hx hb dL_build_356 ?_
                  refine lv_topi (fun v838 ev838 => ?_)
                  have hv838 : v838 = nI ((5 * k) + 3) := by
                    rw [ev838]
                    exact nI_add (5 * k) 3
                  rw [hv838]
                  refine g_iald F hP f831 (vp_in_nI (by omega) (by omega)) dL_build_357 ?_
                  refine lv_topi (fun v839 ev839 => ?_)
                  have hv839 : v839 = nI b809 := by
                    rw [ev839]
                    rw [nI_clamp (n := (5 * k) + 3) (by omega)]
                    exact (pk_un (k := ((5 * k) + 4)) (j := ((5 * k) + 3)) (by omega)).trans (pk_us)
                  rw [hv839]
                  refine lv_aload hx hb dL_build_358 (lv_at hl 6 rfl) ?_
                  refine lv_iload hx hb dL_build_360 (lv_at hl 0 rfl) ?_
                  refine lv_iconst (v := 4) hx hb dL_build_362 (by decide) ?_
                  refine lv_iadd hx hb dL_build_363 ?_
                  refine lv_topi (fun v840 ev840 => ?_)
                  have hv840 : v840 = nI ((5 * k) + 4) := by
                    rw [ev840]
                    exact nI_add (5 * k) 4
                  rw [hv840]
                  refine g_iald F hP f831 (vp_in_nI (by omega) (by omega)) dL_build_364 ?_
                  refine lv_topi (fun v841 ev841 => ?_)
                  have hv841 : v841 = 0 := by
                    rw [ev841]
                    rw [nI_clamp (n := (5 * k) + 4) (by omega)]
                    exact pk_us
                  rw [hv841]
                  refine lv_iconst (v := 1) hx hb dL_build_365 (by decide) ?_
                  refine lv_icmp_ne (tgt := 373) hx hb dL_build_366 (by decide) (fun c842 => ?_) (fun c842 => ?_)
                  · refine lv_iconst (v := 0) hx hb dL_build_373 (by decide) ?_
                    rw [show (.int 0 : Value) = .int (g_b false) from rfl]
                    have t1 := nI_i b758 (by omega)
                    have t2 := nI_i (8 + b778) (by omega)
                    have t3 := nI_i (1 + b793 / 5) (by omega)
                    have t4 := nI_i b809 (by omega)
                    obtain ⟨ad, Cn, T, h00, hBn, hLn⟩ := id hB832
                    have hCo := k_X6_addGear l hlt A G w826 ad Cn S T (nI b758) (nI (8 + b778)) (nI (1 + b793 / 5)) (nI b809) false hBn.1 hBn.2.1 hBn.2.2.1 hBn.2.2.2.1 hBn.2.2.2.2
                    rw [h00] at hCo
                    have hx0 := rep_x hBn.1 hBn.2.1
                    rw [h00] at hx0
                    refine g_cVi (As := [.int (nI b758), .int (nI (8 + b778)), .int (nI (1 + (b793 / 5))), .int (nI b809), .int (g_b false)]) (rest := []) F hP hS hCo (cwV 5 hts gL_build_X6_addGear rfl rfl rfl cd_X6_addGear ⟨by rw [hR]; exact Nat.le_of_ble_eq_true rfl, by rw [hR]; exact Nat.le_of_ble_eq_true rfl⟩) hx0 rfl rfl rfl hl.1 (Nat.le_of_ble_eq_true rfl) dL_build_374 ⟨by rw [hR]; dsimp only; omega, by rw [hR]; dsimp only; omega⟩ rfl (fun E w9 ce q9 H locs hpx hP hS hce hcv hcl => ?_) (fun r843 w844 H locs h845 hP hS => ?_)
                    · have hcd := (show cdAddGear S (nI b758) (nI (8 + b778)) (nI (1 + b793 / 5)) (nI b809) = 0 from (if_pos ⟨by omega, by omega⟩).trans ((if_pos (by unfold geQ inQ; rw [t2, t3, t4]; omega)).trans (if_pos (by omega))))
                      rcases hpx.2 with ⟨_, q⟩ | ⟨_, q⟩ | ⟨_, q⟩ <;> exact absurd (hcd.symm.trans q) (by decide)
                    · obtain ⟨hc0, er, hAf⟩ := h845
                      obtain ⟨S846, eS846⟩ : ∃ z, z = nxAddGear S (nI b758) (nI (8 + b778)) (nI (1 + b793 / 5)) (nI b809) false := ⟨_, rfl⟩
                      rw [← eS846] at hAf
                      obtain ⟨hB847, kp848⟩ := lwB_aft h00 hLn hAf
                      have f849 : w844 nn = some (.inl (G.2.1 0, 6, .inl Fn2)) := (kp848 nn (List.mem_of_getElem? (i := 0) rfl)).trans f827
                      have f850 : w844 sh = some (.inl (G.2.1 0, 30, .inl Fs2)) := (kp848 sh (List.mem_of_getElem? (i := 1) rfl)).trans f828
                      have f851 : w844 me = some (.inl (G.2.1 0, 32, .inl Fm0)) := (kp848 me (List.mem_of_getElem? (i := 3) rfl)).trans f829
                      have f852 : w844 pl = some (.inl (G.2.1 0, 20, .inl Fp0)) := (kp848 pl (List.mem_of_getElem? (i := 4) rfl)).trans f830
                      have f853 : w844 ge = some (.inl (G.2.1 0, 80, .inl (upd (upd (upd (upd (upd Fg (5 * k) (nI b758)) ((5 * k) + 1) (nI (8 + b778))) ((5 * k) + 2) (nI (1 + (b793 / 5)))) ((5 * k) + 3) (nI b809)) ((5 * k) + 4) 0))) := (kp848 ge (List.mem_of_getElem? (i := 2) rfl)).trans f831
                      rw [er]
                      obtain ⟨a1, a2, ⟨q4, q5, q6, q7, q8⟩, a4, a5⟩ := nx_gear eS846
                      have s0n : (S 0 1).toNat = k := by omega
                      rw [s0n] at q4 q5 q6 q7 q8 a4
                      have zk : S846 0 0 = n0 ∧ S846 0 1 = ((k + 1 : Nat) : Int) ∧ S846 0 2 = 0 ∧ S846 0 3 = 0 ∧ S846 0 4 = -1 := by rw [a2 0 (by decide), a1, a2 2 (by decide), a2 3 (by decide), a2 4 (by decide)]; omega
                      have ask : arS S846 n0 Fs2 := arS_c has (fun j _ => a5 3 j (by decide) (Or.inl (by decide)))
                      have agk : arG S846 (k + 1) (upd (upd (upd (upd (upd Fg (5 * k) (nI b758)) ((5 * k) + 1) (nI (8 + b778))) ((5 * k) + 2) (nI (1 + (b793 / 5)))) ((5 * k) + 3) (nI b809)) ((5 * k) + 4) 0) := arG_1 hag (fun f j hj _ _ => a4 f j (by omega) (by omega)) (fun j hj => by rw [pk_un (by omega), pk_un (by omega), pk_un (by omega), pk_un (by omega), pk_un (by omega)]) ⟨by rw [q4, pk_un (by omega), pk_un (by omega), pk_un (by omega), pk_un (by omega), pk_us]; exact (iL_x _).symm, by rw [q5, pk_un (by omega), pk_un (by omega), pk_un (by omega), pk_us]; exact (iL_x _).symm, by rw [q6, pk_un (by omega), pk_un (by omega), pk_us]; exact (iL_x _).symm, by rw [q7, pk_un (by omega), pk_us]; exact (iL_x _).symm, by rw [q8, pk_us]; rfl⟩
                      unfold vlAddGear
                      refine lv_iload hx hb dL_build_377 (lv_at hl 2 rfl) ?_
                      refine lv_icmp_eq (tgt := 384) hx hb dL_build_379 (by decide) (fun c854 => ?_) (fun c854 => ?_)
                      · refine W.widen (k := 60 + 3 * (k + 1)) (n := 1100 + 112 * (k + 1)) (by omega) (by omega) ?_
                        obtain ⟨i855, ei855⟩ : ∃ y : Int32, y = nI k + (1) := ⟨_, rfl⟩
                        refine lv_iinc (v := i855) (lv' := [(8, .int i855), (10, .int (nI (5 * k))), (9, .int v752), (7, .ref nn), (6, .ref pl), (5, .ref me), (4, .ref ge), (3, .ref sh), (2, .int (nI 0)), (1, .ref b9), (0, .ref x)]) hx hb dL_build_384 hl (k := 2) rfl (by rw [ei855]; rfl) (by decide) rfl (fun ls hl => ?_)
                        have hi855 : i855 = nI (k + 1) := by
                          rw [ei855]
                          exact nI_1 k
                        rw [hi855]
                        refine lv_goto (tgt := 187) hx hb dL_build_387 (by decide) ?_
                        exact ih_L187 (k + 1) S846 (upd (upd (upd (upd (upd Fg (5 * k) (nI b758)) ((5 * k) + 1) (nI (8 + b778))) ((5 * k) + 2) (nI (1 + (b793 / 5)))) ((5 * k) + 3) (nI b809)) ((5 * k) + 4) 0) w844 H locs ls (by omega) (by omega) (hB847) (zk) (ask) (agk) f849 f850 f853 f851 f852 hP hS (lv_sub hl [0, 3, 4, 5, 6, 7, 8, 9, 10] rfl)
                      · exact absurd (iL_nat (by omega)) c854
                  · exact absurd c842 (by decide)
                · refine lv_iconst (v := 1) hx hb dL_build_325 (by decide) ?_
                  refine lv_goto (tgt := 330) hx hb dL_build_326 (by decide) ?_
                  refine g_iast F hP hS f816 (vp_in_nI (by omega) (by omega)) dL_build_330 (fun H locs hP hS => ?_)
                  rw [nI_clamp (n := (5 * k) + 4) (by omega)] at hP
                  obtain ⟨w856, ew856⟩ : ∃ z, z = g_up w811 ge (.inl (G.2.1 0, 80, .inl (upd (upd (upd (upd (upd Fg (5 * k) (nI b758)) ((5 * k) + 1) (nI (8 + b778))) ((5 * k) + 2) (nI (1 + (b793 / 5)))) ((5 * k) + 3) (nI b809)) ((5 * k) + 4) 1))) := ⟨_, rfl⟩
                  have hP : g_P A G w856 H := by rw [ew856]; exact hP
                  have f857 : w856 nn = some (.inl (G.2.1 0, 6, .inl Fn2)) := by rw [ew856]; exact g_up_f f812 (Ne.symm (dnnge))
                  have f858 : w856 sh = some (.inl (G.2.1 0, 30, .inl Fs2)) := by rw [ew856]; exact g_up_f f813 (dshge)
                  have f859 : w856 me = some (.inl (G.2.1 0, 32, .inl Fm0)) := by rw [ew856]; exact g_up_f f814 (Ne.symm (dgeme))
                  have f860 : w856 pl = some (.inl (G.2.1 0, 20, .inl Fp0)) := by rw [ew856]; exact g_up_f f815 (Ne.symm (dgepl))
                  have f861 : w856 ge = some (.inl (G.2.1 0, 80, .inl (upd (upd (upd (upd (upd Fg (5 * k) (nI b758)) ((5 * k) + 1) (nI (8 + b778))) ((5 * k) + 2) (nI (1 + (b793 / 5)))) ((5 * k) + 3) (nI b809)) ((5 * k) + 4) 1))) := by rw [ew856]; exact g_up_s _ _ _
                  have hB862 := lwB_set hB817 (List.mem_of_getElem? (i := 2) rfl) ew856
                  refine lv_aload_n hx hb dL_build_331 rfl (lv_at hl 10 rfl) ?_
                  refine lv_aload hx hb dL_build_332 (lv_at hl 6 rfl) ?_
                  refine lv_iload hx hb dL_build_334 (lv_at hl 0 rfl) ?_
                  refine g_iald F hP f861 (vp_in_nI (by omega) (by omega)) dL_build_336 ?_
                  refine lv_topi (fun v863 ev863 => ?_)
                  have hv863 : v863 = nI b758 := by
                    rw [ev863]
                    rw [nI_clamp (n := 5 * k) (by omega)]
                    exact (pk_un (k := ((5 * k) + 4)) (j := (5 * k)) (by omega)).trans ((pk_un (k := ((5 * k) + 3)) (j := (5 * k)) (by omega)).trans ((pk_un (k := ((5 * k) + 2)) (j := (5 * k)) (by omega)).trans ((pk_un (k := ((5 * k) + 1)) (j := (5 * k)) (by omega)).trans (pk_us))))
                  rw [hv863]
                  refine lv_aload hx hb dL_build_337 (lv_at hl 6 rfl) ?_
                  refine lv_iload hx hb dL_build_339 (lv_at hl 0 rfl) ?_
                  refine lv_iconst (v := 1) hx hb dL_build_341 (by decide) ?_
                  refine lv_iadd hx hb dL_build_342 ?_
                  refine lv_topi (fun v864 ev864 => ?_)
                  have hv864 : v864 = nI ((5 * k) + 1) := by
                    rw [ev864]
                    exact nI_add (5 * k) 1
                  rw [hv864]
                  refine g_iald F hP f861 (vp_in_nI (by omega) (by omega)) dL_build_343 ?_
                  refine lv_topi (fun v865 ev865 => ?_)
                  have hv865 : v865 = nI (8 + b778) := by
                    rw [ev865]
                    rw [nI_clamp (n := (5 * k) + 1) (by omega)]
                    exact (pk_un (k := ((5 * k) + 4)) (j := ((5 * k) + 1)) (by omega)).trans ((pk_un (k := ((5 * k) + 3)) (j := ((5 * k) + 1)) (by omega)).trans ((pk_un (k := ((5 * k) + 2)) (j := ((5 * k) + 1)) (by omega)).trans (pk_us)))
                  rw [hv865]
                  refine lv_aload hx hb dL_build_344 (lv_at hl 6 rfl) ?_
                  refine lv_iload hx hb dL_build_346 (lv_at hl 0 rfl) ?_
                  refine lv_iconst (v := 2) hx hb dL_build_348 (by decide) ?_
                  refine lv_iadd hx hb dL_build_349 ?_
                  refine lv_topi (fun v866 ev866 => ?_)
                  have hv866 : v866 = nI ((5 * k) + 2) := by
                    rw [ev866]
                    exact nI_add (5 * k) 2
                  rw [hv866]
                  refine g_iald F hP f861 (vp_in_nI (by omega) (by omega)) dL_build_350 ?_
                  refine lv_topi (fun v867 ev867 => ?_)
                  have hv867 : v867 = nI (1 + (b793 / 5)) := by
                    rw [ev867]
                    rw [nI_clamp (n := (5 * k) + 2) (by omega)]
                    exact (pk_un (k := ((5 * k) + 4)) (j := ((5 * k) + 2)) (by omega)).trans ((pk_un (k := ((5 * k) + 3)) (j := ((5 * k) + 2)) (by omega)).trans (pk_us))
                  rw [hv867]
                  refine lv_aload hx hb dL_build_351 (lv_at hl 6 rfl) ?_
                  refine lv_iload hx hb dL_build_353 (lv_at hl 0 rfl) ?_
                  refine lv_iconst (v := 3) hx hb dL_build_355 (by decide) ?_
                  refine lv_iadd hx hb dL_build_356 ?_
                  refine lv_topi (fun v868 ev868 => ?_)
                  have hv868 : v868 = nI ((5 * k) + 3) := by
                    rw [ev868]
                    exact nI_add (5 * k) 3
                  rw [hv868]
                  refine g_iald F hP f861 (vp_in_nI (by omega) (by omega)) dL_build_357 ?_
                  refine lv_topi (fun v869 ev869 => ?_)
                  have hv869 : v869 = nI b809 := by
                    rw [ev869]
                    rw [nI_clamp (n := (5 * k) + 3) (by omega)]
                    exact (pk_un (k := ((5 * k) + 4)) (j := ((5 * k) + 3)) (by omega)).trans (pk_us)
                  rw [hv869]
                  refine lv_aload hx hb dL_build_358 (lv_at hl 6 rfl) ?_
                  refine lv_iload hx hb dL_build_360 (lv_at hl 0 rfl) ?_
                  refine lv_iconst (v := 4) hx hb dL_build_362 (by decide) ?_
                  refine lv_iadd hx hb dL_build_363 ?_
                  refine lv_topi (fun v870 ev870 => ?_)
                  have hv870 : v870 = nI ((5 * k) + 4) := by
                    rw [ev870]
                    exact nI_add (5 * k) 4
                  rw [hv870]
                  refine g_iald F hP f861 (vp_in_nI (by omega) (by omega)) dL_build_364 ?_
                  refine lv_topi (fun v871 ev871 => ?_)
                  have hv871 : v871 = 1 := by
                    rw [ev871]
                    rw [nI_clamp (n := (5 * k) + 4) (by omega)]
                    exact pk_us
                  rw [hv871]
                  refine lv_iconst (v := 1) hx hb dL_build_365 (by decide) ?_
                  refine lv_icmp_ne (tgt := 373) hx hb dL_build_366 (by decide) (fun c872 => ?_) (fun c872 => ?_)
                  · exact absurd rfl c872
                  · refine lv_iconst (v := 1) hx hb dL_build_369 (by decide) ?_
                    refine lv_goto (tgt := 374) hx hb dL_build_370 (by decide) ?_
                    rw [show (.int 1 : Value) = .int (g_b true) from rfl]
                    have t1 := nI_i b758 (by omega)
                    have t2 := nI_i (8 + b778) (by omega)
                    have t3 := nI_i (1 + b793 / 5) (by omega)
                    have t4 := nI_i b809 (by omega)
                    obtain ⟨ad, Cn, T, h00, hBn, hLn⟩ := id hB862
                    have hCo := k_X6_addGear l hlt A G w856 ad Cn S T (nI b758) (nI (8 + b778)) (nI (1 + b793 / 5)) (nI b809) true hBn.1 hBn.2.1 hBn.2.2.1 hBn.2.2.2.1 hBn.2.2.2.2
                    rw [h00] at hCo
                    have hx0 := rep_x hBn.1 hBn.2.1
                    rw [h00] at hx0
                    refine g_cVi (As := [.int (nI b758), .int (nI (8 + b778)), .int (nI (1 + (b793 / 5))), .int (nI b809), .int (g_b true)]) (rest := []) F hP hS hCo (cwV 5 hts gL_build_X6_addGear rfl rfl rfl cd_X6_addGear ⟨by rw [hR]; exact Nat.le_of_ble_eq_true rfl, by rw [hR]; exact Nat.le_of_ble_eq_true rfl⟩) hx0 rfl rfl rfl hl.1 (Nat.le_of_ble_eq_true rfl) dL_build_374 ⟨by rw [hR]; dsimp only; omega, by rw [hR]; dsimp only; omega⟩ rfl (fun E w9 ce q9 H locs hpx hP hS hce hcv hcl => ?_) (fun r873 w874 H locs h875 hP hS => ?_)
                    · have hcd := (show cdAddGear S (nI b758) (nI (8 + b778)) (nI (1 + b793 / 5)) (nI b809) = 0 from (if_pos ⟨by omega, by omega⟩).trans ((if_pos (by unfold geQ inQ; rw [t2, t3, t4]; omega)).trans (if_pos (by omega))))
                      rcases hpx.2 with ⟨_, q⟩ | ⟨_, q⟩ | ⟨_, q⟩ <;> exact absurd (hcd.symm.trans q) (by decide)
                    · obtain ⟨hc0, er, hAf⟩ := h875
                      obtain ⟨S876, eS876⟩ : ∃ z, z = nxAddGear S (nI b758) (nI (8 + b778)) (nI (1 + b793 / 5)) (nI b809) true := ⟨_, rfl⟩
                      rw [← eS876] at hAf
                      obtain ⟨hB877, kp878⟩ := lwB_aft h00 hLn hAf
                      have f879 : w874 nn = some (.inl (G.2.1 0, 6, .inl Fn2)) := (kp878 nn (List.mem_of_getElem? (i := 0) rfl)).trans f857
                      have f880 : w874 sh = some (.inl (G.2.1 0, 30, .inl Fs2)) := (kp878 sh (List.mem_of_getElem? (i := 1) rfl)).trans f858
                      have f881 : w874 me = some (.inl (G.2.1 0, 32, .inl Fm0)) := (kp878 me (List.mem_of_getElem? (i := 3) rfl)).trans f859
                      have f882 : w874 pl = some (.inl (G.2.1 0, 20, .inl Fp0)) := (kp878 pl (List.mem_of_getElem? (i := 4) rfl)).trans f860
                      have f883 : w874 ge = some (.inl (G.2.1 0, 80, .inl (upd (upd (upd (upd (upd Fg (5 * k) (nI b758)) ((5 * k) + 1) (nI (8 + b778))) ((5 * k) + 2) (nI (1 + (b793 / 5)))) ((5 * k) + 3) (nI b809)) ((5 * k) + 4) 1))) := (kp878 ge (List.mem_of_getElem? (i := 2) rfl)).trans f861
                      rw [er]
                      obtain ⟨a1, a2, ⟨q4, q5, q6, q7, q8⟩, a4, a5⟩ := nx_gear eS876
                      have s0n : (S 0 1).toNat = k := by omega
                      rw [s0n] at q4 q5 q6 q7 q8 a4
                      have zk : S876 0 0 = n0 ∧ S876 0 1 = ((k + 1 : Nat) : Int) ∧ S876 0 2 = 0 ∧ S876 0 3 = 0 ∧ S876 0 4 = -1 := by rw [a2 0 (by decide), a1, a2 2 (by decide), a2 3 (by decide), a2 4 (by decide)]; omega
                      have ask : arS S876 n0 Fs2 := arS_c has (fun j _ => a5 3 j (by decide) (Or.inl (by decide)))
                      have agk : arG S876 (k + 1) (upd (upd (upd (upd (upd Fg (5 * k) (nI b758)) ((5 * k) + 1) (nI (8 + b778))) ((5 * k) + 2) (nI (1 + (b793 / 5)))) ((5 * k) + 3) (nI b809)) ((5 * k) + 4) 1) := arG_1 hag (fun f j hj _ _ => a4 f j (by omega) (by omega)) (fun j hj => by rw [pk_un (by omega), pk_un (by omega), pk_un (by omega), pk_un (by omega), pk_un (by omega)]) ⟨by rw [q4, pk_un (by omega), pk_un (by omega), pk_un (by omega), pk_un (by omega), pk_us]; exact (iL_x _).symm, by rw [q5, pk_un (by omega), pk_un (by omega), pk_un (by omega), pk_us]; exact (iL_x _).symm, by rw [q6, pk_un (by omega), pk_un (by omega), pk_us]; exact (iL_x _).symm, by rw [q7, pk_un (by omega), pk_us]; exact (iL_x _).symm, by rw [q8, pk_us]; rfl⟩
                      unfold vlAddGear
                      refine lv_iload hx hb dL_build_377 (lv_at hl 2 rfl) ?_
                      refine lv_icmp_eq (tgt := 384) hx hb dL_build_379 (by decide) (fun c884 => ?_) (fun c884 => ?_)
                      · refine W.widen (k := 60 + 3 * (k + 1)) (n := 1100 + 112 * (k + 1)) (by omega) (by omega) ?_
                        obtain ⟨i885, ei885⟩ : ∃ y : Int32, y = nI k + (1) := ⟨_, rfl⟩
                        refine lv_iinc (v := i885) (lv' := [(8, .int i885), (10, .int (nI (5 * k))), (9, .int v752), (7, .ref nn), (6, .ref pl), (5, .ref me), (4, .ref ge), (3, .ref sh), (2, .int (nI 0)), (1, .ref b9), (0, .ref x)]) hx hb dL_build_384 hl (k := 2) rfl (by rw [ei885]; rfl) (by decide) rfl (fun ls hl => ?_)
                        have hi885 : i885 = nI (k + 1) := by
                          rw [ei885]
                          exact nI_1 k
                        rw [hi885]
                        refine lv_goto (tgt := 187) hx hb dL_build_387 (by decide) ?_
                        exact ih_L187 (k + 1) S876 (upd (upd (upd (upd (upd Fg (5 * k) (nI b758)) ((5 * k) + 1) (nI (8 + b778))) ((5 * k) + 2) (nI (1 + (b793 / 5)))) ((5 * k) + 3) (nI b809)) ((5 * k) + 4) 1) w874 H locs ls (by omega) (by omega) (hB877) (zk) (ask) (agk) f879 f880 f883 f881 f882 hP hS (lv_sub hl [0, 3, 4, 5, 6, 7, 8, 9, 10] rfl)
                      · exact absurd (iL_nat (by omega)) c884
              · refine lv_bipush (v := 30) hx hb dL_build_258 (by decide) ?_
                refine lv_goto (tgt := 266) hx hb dL_build_260 (by decide) ?_
                refine g_Si (As := [.int v768, .int 30]) (rest := [.int 8, .int (nI ((5 * k) + 1)), .ref ge]) F hP hS (k_L_below l A G w760 v768 30 (by omega) (by omega)) (va_cwS 2 hts gL_build_L_below rfl rfl rfl cd_L_below ⟨by rw [hR]; exact Nat.le_of_ble_eq_true rfl, by rw [hR]; exact Nat.le_of_ble_eq_true rfl⟩) rfl hl.1 (Nat.le_of_ble_eq_true rfl) dL_build_266 ⟨by rw [hR]; dsimp only; omega, by rw [hR]; dsimp only; omega⟩ rfl (fun r886 w887 H locs h888 hP hS => ?_)
                have hr886 := h888.1
                rw [h888.2] at hP
                rw [hr886]
                obtain ⟨b889, eb889⟩ : ∃ z, z = blw v768 30 := ⟨_, rfl⟩
                rw [← eb889]
                have k890 : b889 < 30 := by rw [eb889]; exact blw_lt _ (by omega)
                refine lv_iadd hx hb dL_build_269 ?_
                refine lv_topi (fun v891 ev891 => ?_)
                have hv891 : v891 = nI (8 + b889) := by
                  rw [ev891]
                  exact nI_add 8 b889
                rw [hv891]
                refine g_iast F hP hS f765 (vp_in_nI (by omega) (by omega)) dL_build_270 (fun H locs hP hS => ?_)
                rw [nI_clamp (n := (5 * k) + 1) (by omega)] at hP
                obtain ⟨w892, ew892⟩ : ∃ z, z = g_up w760 ge (.inl (G.2.1 0, 80, .inl (upd (upd Fg (5 * k) (nI b758)) ((5 * k) + 1) (nI (8 + b889))))) := ⟨_, rfl⟩
                have hP : g_P A G w892 H := by rw [ew892]; exact hP
                have f893 : w892 nn = some (.inl (G.2.1 0, 6, .inl Fn2)) := by rw [ew892]; exact g_up_f f761 (Ne.symm (dnnge))
                have f894 : w892 sh = some (.inl (G.2.1 0, 30, .inl Fs2)) := by rw [ew892]; exact g_up_f f762 (dshge)
                have f895 : w892 me = some (.inl (G.2.1 0, 32, .inl Fm0)) := by rw [ew892]; exact g_up_f f763 (Ne.symm (dgeme))
                have f896 : w892 pl = some (.inl (G.2.1 0, 20, .inl Fp0)) := by rw [ew892]; exact g_up_f f764 (Ne.symm (dgepl))
                have f897 : w892 ge = some (.inl (G.2.1 0, 80, .inl (upd (upd Fg (5 * k) (nI b758)) ((5 * k) + 1) (nI (8 + b889))))) := by rw [ew892]; exact g_up_s _ _ _
                have hB898 := lwB_set hB766 (List.mem_of_getElem? (i := 2) rfl) ew892
                refine lv_aload hx hb dL_build_271 (lv_at hl 6 rfl) ?_
                refine lv_iload hx hb dL_build_273 (lv_at hl 0 rfl) ?_
                refine lv_iconst (v := 2) hx hb dL_build_275 (by decide) ?_
                refine lv_iadd hx hb dL_build_276 ?_
                refine lv_topi (fun v899 ev899 => ?_)
                have hv899 : v899 = nI ((5 * k) + 2) := by
                  rw [ev899]
                  exact nI_add (5 * k) 2
                rw [hv899]
                refine lv_iconst (v := 1) hx hb dL_build_277 (by decide) ?_
                refine lv_iload hx hb dL_build_278 (lv_at hl 1 rfl) ?_
                refine lv_iconst (v := 4) hx hb dL_build_280 (by decide) ?_
                refine lv_ishr hx hb dL_build_281 ?_
                refine lv_topi (fun v900 ev900 => ?_)
                refine lv_bipush (v := 6) hx hb dL_build_282 (by decide) ?_
                refine g_Si (As := [.int v900, .int 6]) (rest := [.int 1, .int (nI ((5 * k) + 2)), .ref ge]) F hP hS (k_L_below l A G w892 v900 6 (by omega) (by omega)) (va_cwS 2 hts gL_build_L_below rfl rfl rfl cd_L_below ⟨by rw [hR]; exact Nat.le_of_ble_eq_true rfl, by rw [hR]; exact Nat.le_of_ble_eq_true rfl⟩) rfl hl.1 (Nat.le_of_ble_eq_true rfl) dL_build_284 ⟨by rw [hR]; dsimp only; omega, by rw [hR]; dsimp only; omega⟩ rfl (fun r901 w902 H locs h903 hP hS => ?_)
                have hr901 := h903.1
                rw [h903.2] at hP
                rw [hr901]
                obtain ⟨b904, eb904⟩ : ∃ z, z = blw v900 6 := ⟨_, rfl⟩
                rw [← eb904]
                have k905 : b904 < 6 := by rw [eb904]; exact blw_lt _ (by omega)
                refine lv_iconst (v := 5) hx hb dL_build_287 (by decide) ?_
                refine lv_idiv hx hb dL_build_288 (by decide) ?_
                refine lv_topi (fun v906 ev906 => ?_)
                have hv906 : v906 = nI (b904 / 5) := by
                  rw [ev906]
                  exact nI_dv (a := b904) (d := 5) (by omega) (by omega) (by omega)
                rw [hv906]
                refine lv_iadd hx hb dL_build_289 ?_
                refine lv_topi (fun v907 ev907 => ?_)
                have hv907 : v907 = nI (1 + (b904 / 5)) := by
                  rw [ev907]
                  exact nI_add 1 (b904 / 5)
                rw [hv907]
                refine g_iast F hP hS f897 (vp_in_nI (by omega) (by omega)) dL_build_290 (fun H locs hP hS => ?_)
                rw [nI_clamp (n := (5 * k) + 2) (by omega)] at hP
                obtain ⟨w908, ew908⟩ : ∃ z, z = g_up w892 ge (.inl (G.2.1 0, 80, .inl (upd (upd (upd Fg (5 * k) (nI b758)) ((5 * k) + 1) (nI (8 + b889))) ((5 * k) + 2) (nI (1 + (b904 / 5)))))) := ⟨_, rfl⟩
                have hP : g_P A G w908 H := by rw [ew908]; exact hP
                have f909 : w908 nn = some (.inl (G.2.1 0, 6, .inl Fn2)) := by rw [ew908]; exact g_up_f f893 (Ne.symm (dnnge))
                have f910 : w908 sh = some (.inl (G.2.1 0, 30, .inl Fs2)) := by rw [ew908]; exact g_up_f f894 (dshge)
                have f911 : w908 me = some (.inl (G.2.1 0, 32, .inl Fm0)) := by rw [ew908]; exact g_up_f f895 (Ne.symm (dgeme))
                have f912 : w908 pl = some (.inl (G.2.1 0, 20, .inl Fp0)) := by rw [ew908]; exact g_up_f f896 (Ne.symm (dgepl))
                have f913 : w908 ge = some (.inl (G.2.1 0, 80, .inl (upd (upd (upd Fg (5 * k) (nI b758)) ((5 * k) + 1) (nI (8 + b889))) ((5 * k) + 2) (nI (1 + (b904 / 5)))))) := by rw [ew908]; exact g_up_s _ _ _
                have hB914 := lwB_set hB898 (List.mem_of_getElem? (i := 2) rfl) ew908
                refine lv_aload hx hb dL_build_291 (lv_at hl 6 rfl) ?_
                refine lv_iload hx hb dL_build_293 (lv_at hl 0 rfl) ?_
                refine lv_iconst (v := 3) hx hb dL_build_295 (by decide) ?_
                refine lv_iadd hx hb dL_build_296 ?_
                refine lv_topi (fun v915 ev915 => ?_)
                have hv915 : v915 = nI ((5 * k) + 3) := by
                  rw [ev915]
                  exact nI_add (5 * k) 3
                rw [hv915]
                refine lv_iload hx hb dL_build_297 (lv_at hl 1 rfl) ?_
                refine lv_bipush (v := 6) hx hb dL_build_299 (by decide) ?_
                refine lv_ishr hx hb dL_build_301 ?_
                refine lv_topi (fun v916 ev916 => ?_)
                refine lv_iconst (v := 2) hx hb dL_build_302 (by decide) ?_
                refine g_Si (As := [.int v916, .int 2]) (rest := [.int (nI ((5 * k) + 3)), .ref ge]) F hP hS (k_L_below l A G w908 v916 2 (by omega) (by omega)) (va_cwS 2 hts gL_build_L_below rfl rfl rfl cd_L_below ⟨by rw [hR]; exact Nat.le_of_ble_eq_true rfl, by rw [hR]; exact Nat.le_of_ble_eq_true rfl⟩) rfl hl.1 (Nat.le_of_ble_eq_true rfl) dL_build_303 ⟨by rw [hR]; dsimp only; omega, by rw [hR]; dsimp only; omega⟩ rfl (fun r917 w918 H locs h919 hP hS => ?_)
                have hr917 := h919.1
                rw [h919.2] at hP
                rw [hr917]
                obtain ⟨b920, eb920⟩ : ∃ z, z = blw v916 2 := ⟨_, rfl⟩
                rw [← eb920]
                have k921 : b920 < 2 := by rw [eb920]; exact blw_lt _ (by omega)
                refine g_iast F hP hS f913 (vp_in_nI (by omega) (by omega)) dL_build_306 (fun H locs hP hS => ?_)
                rw [nI_clamp (n := (5 * k) + 3) (by omega)] at hP
                obtain ⟨w922, ew922⟩ : ∃ z, z = g_up w908 ge (.inl (G.2.1 0, 80, .inl (upd (upd (upd (upd Fg (5 * k) (nI b758)) ((5 * k) + 1) (nI (8 + b889))) ((5 * k) + 2) (nI (1 + (b904 / 5)))) ((5 * k) + 3) (nI b920)))) := ⟨_, rfl⟩
                have hP : g_P A G w922 H := by rw [ew922]; exact hP
                have f923 : w922 nn = some (.inl (G.2.1 0, 6, .inl Fn2)) := by rw [ew922]; exact g_up_f f909 (Ne.symm (dnnge))
                have f924 : w922 sh = some (.inl (G.2.1 0, 30, .inl Fs2)) := by rw [ew922]; exact g_up_f f910 (dshge)
                have f925 : w922 me = some (.inl (G.2.1 0, 32, .inl Fm0)) := by rw [ew922]; exact g_up_f f911 (Ne.symm (dgeme))
                have f926 : w922 pl = some (.inl (G.2.1 0, 20, .inl Fp0)) := by rw [ew922]; exact g_up_f f912 (Ne.symm (dgepl))
                have f927 : w922 ge = some (.inl (G.2.1 0, 80, .inl (upd (upd (upd (upd Fg (5 * k) (nI b758)) ((5 * k) + 1) (nI (8 + b889))) ((5 * k) + 2) (nI (1 + (b904 / 5)))) ((5 * k) + 3) (nI b920)))) := by rw [ew922]; exact g_up_s _ _ _
                have hB928 := lwB_set hB914 (List.mem_of_getElem? (i := 2) rfl) ew922
                refine lv_aload hx hb dL_build_307 (lv_at hl 6 rfl) ?_
                refine lv_iload hx hb dL_build_309 (lv_at hl 0 rfl) ?_
                refine lv_iconst (v := 4) hx hb dL_build_311 (by decide) ?_
                refine lv_iadd hx hb dL_build_312 ?_
                refine lv_topi (fun v929 ev929 => ?_)
                have hv929 : v929 = nI ((5 * k) + 4) := by
                  rw [ev929]
                  exact nI_add (5 * k) 4
                rw [hv929]
                refine lv_iload hx hb dL_build_313 (lv_at hl 1 rfl) ?_
                refine lv_bipush (v := 7) hx hb dL_build_315 (by decide) ?_
                refine lv_ishr hx hb dL_build_317 ?_
                refine lv_topi (fun v930 ev930 => ?_)
                refine lv_iconst (v := 5) hx hb dL_build_318 (by decide) ?_
                refine g_Si (As := [.int v930, .int 5]) (rest := [.int (nI ((5 * k) + 4)), .ref ge]) F hP hS (k_L_below l A G w922 v930 5 (by omega) (by omega)) (va_cwS 2 hts gL_build_L_below rfl rfl rfl cd_L_below ⟨by rw [hR]; exact Nat.le_of_ble_eq_true rfl, by rw [hR]; exact Nat.le_of_ble_eq_true rfl⟩) rfl hl.1 (Nat.le_of_ble_eq_true rfl) dL_build_319 ⟨by rw [hR]; dsimp only; omega, by rw [hR]; dsimp only; omega⟩ rfl (fun r931 w932 H locs h933 hP hS => ?_)
                have hr931 := h933.1
                rw [h933.2] at hP
                rw [hr931]
                obtain ⟨b934, eb934⟩ : ∃ z, z = blw v930 5 := ⟨_, rfl⟩
                rw [← eb934]
                have k935 : b934 < 5 := by rw [eb934]; exact blw_lt _ (by omega)
                refine lv_if_ne (tgt := 329) hx hb dL_build_322 (by decide) (fun c936 => ?_) (fun c936 => ?_)
                · refine lv_iconst (v := 0) hx hb dL_build_329 (by decide) ?_
                  refine g_iast F hP hS f927 (vp_in_nI (by omega) (by omega)) dL_build_330 (fun H locs hP hS => ?_)
                  rw [nI_clamp (n := (5 * k) + 4) (by omega)] at hP
                  obtain ⟨w937, ew937⟩ : ∃ z, z = g_up w922 ge (.inl (G.2.1 0, 80, .inl (upd (upd (upd (upd (upd Fg (5 * k) (nI b758)) ((5 * k) + 1) (nI (8 + b889))) ((5 * k) + 2) (nI (1 + (b904 / 5)))) ((5 * k) + 3) (nI b920)) ((5 * k) + 4) 0))) := ⟨_, rfl⟩
                  have hP : g_P A G w937 H := by rw [ew937]; exact hP
                  have f938 : w937 nn = some (.inl (G.2.1 0, 6, .inl Fn2)) := by rw [ew937]; exact g_up_f f923 (Ne.symm (dnnge))
                  have f939 : w937 sh = some (.inl (G.2.1 0, 30, .inl Fs2)) := by rw [ew937]; exact g_up_f f924 (dshge)
                  have f940 : w937 me = some (.inl (G.2.1 0, 32, .inl Fm0)) := by rw [ew937]; exact g_up_f f925 (Ne.symm (dgeme))
                  have f941 : w937 pl = some (.inl (G.2.1 0, 20, .inl Fp0)) := by rw [ew937]; exact g_up_f f926 (Ne.symm (dgepl))
                  have f942 : w937 ge = some (.inl (G.2.1 0, 80, .inl (upd (upd (upd (upd (upd Fg (5 * k) (nI b758)) ((5 * k) + 1) (nI (8 + b889))) ((5 * k) + 2) (nI (1 + (b904 / 5)))) ((5 * k) + 3) (nI b920)) ((5 * k) + 4) 0))) := by rw [ew937]; exact g_up_s _ _ _
                  have hB943 := lwB_set hB928 (List.mem_of_getElem? (i := 2) rfl) ew937
                  refine lv_aload_n hx hb dL_build_331 rfl (lv_at hl 10 rfl) ?_
                  refine lv_aload hx hb dL_build_332 (lv_at hl 6 rfl) ?_
                  refine lv_iload hx hb dL_build_334 (lv_at hl 0 rfl) ?_
                  refine g_iald F hP f942 (vp_in_nI (by omega) (by omega)) dL_build_336 ?_
                  refine lv_topi (fun v944 ev944 => ?_)
                  have hv944 : v944 = nI b758 := by
                    rw [ev944]
                    rw [nI_clamp (n := 5 * k) (by omega)]
                    exact (pk_un (k := ((5 * k) + 4)) (j := (5 * k)) (by omega)).trans ((pk_un (k := ((5 * k) + 3)) (j := (5 * k)) (by omega)).trans ((pk_un (k := ((5 * k) + 2)) (j := (5 * k)) (by omega)).trans ((pk_un (k := ((5 * k) + 1)) (j := (5 * k)) (by omega)).trans (pk_us))))
                  rw [hv944]
                  refine lv_aload hx hb dL_build_337 (lv_at hl 6 rfl) ?_
                  refine lv_iload hx hb dL_build_339 (lv_at hl 0 rfl) ?_
                  refine lv_iconst (v := 1) hx hb dL_build_341 (by decide) ?_
                  refine lv_iadd hx hb dL_build_342 ?_
                  refine lv_topi (fun v945 ev945 => ?_)
                  have hv945 : v945 = nI ((5 * k) + 1) := by
                    rw [ev945]
                    exact nI_add (5 * k) 1
                  rw [hv945]
                  refine g_iald F hP f942 (vp_in_nI (by omega) (by omega)) dL_build_343 ?_
                  refine lv_topi (fun v946 ev946 => ?_)
                  have hv946 : v946 = nI (8 + b889) := by
                    rw [ev946]
                    rw [nI_clamp (n := (5 * k) + 1) (by omega)]
                    exact (pk_un (k := ((5 * k) + 4)) (j := ((5 * k) + 1)) (by omega)).trans ((pk_un (k := ((5 * k) + 3)) (j := ((5 * k) + 1)) (by omega)).trans ((pk_un (k := ((5 * k) + 2)) (j := ((5 * k) + 1)) (by omega)).trans (pk_us)))
                  rw [hv946]
                  refine lv_aload hx hb dL_build_344 (lv_at hl 6 rfl) ?_
                  refine lv_iload hx hb dL_build_346 (lv_at hl 0 rfl) ?_
                  refine lv_iconst (v := 2) hx hb dL_build_348 (by decide) ?_
                  refine lv_iadd hx hb dL_build_349 ?_
                  refine lv_topi (fun v947 ev947 => ?_)
                  have hv947 : v947 = nI ((5 * k) + 2) := by
                    rw [ev947]
                    exact nI_add (5 * k) 2
                  rw [hv947]
                  refine g_iald F hP f942 (vp_in_nI (by omega) (by omega)) dL_build_350 ?_
                  refine lv_topi (fun v948 ev948 => ?_)
                  have hv948 : v948 = nI (1 + (b904 / 5)) := by
                    rw [ev948]
                    rw [nI_clamp (n := (5 * k) + 2) (by omega)]
                    exact (pk_un (k := ((5 * k) + 4)) (j := ((5 * k) + 2)) (by omega)).trans ((pk_un (k := ((5 * k) + 3)) (j := ((5 * k) + 2)) (by omega)).trans (pk_us))
                  rw [hv948]
                  refine lv_aload hx hb dL_build_351 (lv_at hl 6 rfl) ?_
                  refine lv_iload hx hb dL_build_353 (lv_at hl 0 rfl) ?_
                  refine lv_iconst (v := 3) hx hb dL_build_355 (by decide) ?_
                  refine lv_iadd hx hb dL_build_356 ?_
                  refine lv_topi (fun v949 ev949 => ?_)
                  have hv949 : v949 = nI ((5 * k) + 3) := by
                    rw [ev949]
                    exact nI_add (5 * k) 3
                  rw [hv949]
                  refine g_iald F hP f942 (vp_in_nI (by omega) (by omega)) dL_build_357 ?_
                  refine lv_topi (fun v950 ev950 => ?_)
                  have hv950 : v950 = nI b920 := by
                    rw [ev950]
                    rw [nI_clamp (n := (5 * k) + 3) (by omega)]
                    exact (pk_un (k := ((5 * k) + 4)) (j := ((5 * k) + 3)) (by omega)).trans (pk_us)
                  rw [hv950]
                  refine lv_aload hx hb dL_build_358 (lv_at hl 6 rfl) ?_
                  refine lv_iload hx hb dL_build_360 (lv_at hl 0 rfl) ?_
                  refine lv_iconst (v := 4) hx hb dL_build_362 (by decide) ?_
                  refine lv_iadd hx hb dL_build_363 ?_
                  refine lv_topi (fun v951 ev951 => ?_)
                  have hv951 : v951 = nI ((5 * k) + 4) := by
                    rw [ev951]
                    exact nI_add (5 * k) 4
                  rw [hv951]
                  refine g_iald F hP f942 (vp_in_nI (by omega) (by omega)) dL_build_364 ?_
                  refine lv_topi (fun v952 ev952 => ?_)
                  have hv952 : v952 = 0 := by
                    rw [ev952]
                    rw [nI_clamp (n := (5 * k) + 4) (by omega)]
                    exact pk_us
                  rw [hv952]
                  refine lv_iconst (v := 1) hx hb dL_build_365 (by decide) ?_
                  refine lv_icmp_ne (tgt := 373) hx hb dL_build_366 (by decide) (fun c953 => ?_) (fun c953 => ?_)
                  · refine lv_iconst (v := 0) hx hb dL_build_373 (by decide) ?_
                    rw [show (.int 0 : Value) = .int (g_b false) from rfl]
                    have t1 := nI_i b758 (by omega)
                    have t2 := nI_i (8 + b889) (by omega)
                    have t3 := nI_i (1 + b904 / 5) (by omega)
                    have t4 := nI_i b920 (by omega)
                    obtain ⟨ad, Cn, T, h00, hBn, hLn⟩ := id hB943
                    have hCo := k_X6_addGear l hlt A G w937 ad Cn S T (nI b758) (nI (8 + b889)) (nI (1 + b904 / 5)) (nI b920) false hBn.1 hBn.2.1 hBn.2.2.1 hBn.2.2.2.1 hBn.2.2.2.2
                    rw [h00] at hCo
                    have hx0 := rep_x hBn.1 hBn.2.1
                    rw [h00] at hx0
                    refine g_cVi (As := [.int (nI b758), .int (nI (8 + b889)), .int (nI (1 + (b904 / 5))), .int (nI b920), .int (g_b false)]) (rest := []) F hP hS hCo (cwV 5 hts gL_build_X6_addGear rfl rfl rfl cd_X6_addGear ⟨by rw [hR]; exact Nat.le_of_ble_eq_true rfl, by rw [hR]; exact Nat.le_of_ble_eq_true rfl⟩) hx0 rfl rfl rfl hl.1 (Nat.le_of_ble_eq_true rfl) dL_build_374 ⟨by rw [hR]; dsimp only; omega, by rw [hR]; dsimp only; omega⟩ rfl (fun E w9 ce q9 H locs hpx hP hS hce hcv hcl => ?_) (fun r954 w955 H locs h956 hP hS => ?_)
                    · have hcd := (show cdAddGear S (nI b758) (nI (8 + b889)) (nI (1 + b904 / 5)) (nI b920) = 0 from (if_pos ⟨by omega, by omega⟩).trans ((if_pos (by unfold geQ inQ; rw [t2, t3, t4]; omega)).trans (if_pos (by omega))))
                      rcases hpx.2 with ⟨_, q⟩ | ⟨_, q⟩ | ⟨_, q⟩ <;> exact absurd (hcd.symm.trans q) (by decide)
                    · obtain ⟨hc0, er, hAf⟩ := h956
                      obtain ⟨S957, eS957⟩ : ∃ z, z = nxAddGear S (nI b758) (nI (8 + b889)) (nI (1 + b904 / 5)) (nI b920) false := ⟨_, rfl⟩
                      rw [← eS957] at hAf
                      obtain ⟨hB958, kp959⟩ := lwB_aft h00 hLn hAf
                      have f960 : w955 nn = some (.inl (G.2.1 0, 6, .inl Fn2)) := (kp959 nn (List.mem_of_getElem? (i := 0) rfl)).trans f938
                      have f961 : w955 sh = some (.inl (G.2.1 0, 30, .inl Fs2)) := (kp959 sh (List.mem_of_getElem? (i := 1) rfl)).trans f939
                      have f962 : w955 me = some (.inl (G.2.1 0, 32, .inl Fm0)) := (kp959 me (List.mem_of_getElem? (i := 3) rfl)).trans f940
                      have f963 : w955 pl = some (.inl (G.2.1 0, 20, .inl Fp0)) := (kp959 pl (List.mem_of_getElem? (i := 4) rfl)).trans f941
                      have f964 : w955 ge = some (.inl (G.2.1 0, 80, .inl (upd (upd (upd (upd (upd Fg (5 * k) (nI b758)) ((5 * k) + 1) (nI (8 + b889))) ((5 * k) + 2) (nI (1 + (b904 / 5)))) ((5 * k) + 3) (nI b920)) ((5 * k) + 4) 0))) := (kp959 ge (List.mem_of_getElem? (i := 2) rfl)).trans f942
                      rw [er]
                      obtain ⟨a1, a2, ⟨q4, q5, q6, q7, q8⟩, a4, a5⟩ := nx_gear eS957
                      have s0n : (S 0 1).toNat = k := by omega
                      rw [s0n] at q4 q5 q6 q7 q8 a4
                      have zk : S957 0 0 = n0 ∧ S957 0 1 = ((k + 1 : Nat) : Int) ∧ S957 0 2 = 0 ∧ S957 0 3 = 0 ∧ S957 0 4 = -1 := by rw [a2 0 (by decide), a1, a2 2 (by decide), a2 3 (by decide), a2 4 (by decide)]; omega
                      have ask : arS S957 n0 Fs2 := arS_c has (fun j _ => a5 3 j (by decide) (Or.inl (by decide)))
                      have agk : arG S957 (k + 1) (upd (upd (upd (upd (upd Fg (5 * k) (nI b758)) ((5 * k) + 1) (nI (8 + b889))) ((5 * k) + 2) (nI (1 + (b904 / 5)))) ((5 * k) + 3) (nI b920)) ((5 * k) + 4) 0) := arG_1 hag (fun f j hj _ _ => a4 f j (by omega) (by omega)) (fun j hj => by rw [pk_un (by omega), pk_un (by omega), pk_un (by omega), pk_un (by omega), pk_un (by omega)]) ⟨by rw [q4, pk_un (by omega), pk_un (by omega), pk_un (by omega), pk_un (by omega), pk_us]; exact (iL_x _).symm, by rw [q5, pk_un (by omega), pk_un (by omega), pk_un (by omega), pk_us]; exact (iL_x _).symm, by rw [q6, pk_un (by omega), pk_un (by omega), pk_us]; exact (iL_x _).symm, by rw [q7, pk_un (by omega), pk_us]; exact (iL_x _).symm, by rw [q8, pk_us]; rfl⟩
                      unfold vlAddGear
                      refine lv_iload hx hb dL_build_377 (lv_at hl 2 rfl) ?_
                      refine lv_icmp_eq (tgt := 384) hx hb dL_build_379 (by decide) (fun c965 => ?_) (fun c965 => ?_)
                      · refine W.widen (k := 60 + 3 * (k + 1)) (n := 1100 + 112 * (k + 1)) (by omega) (by omega) ?_
                        obtain ⟨i966, ei966⟩ : ∃ y : Int32, y = nI k + (1) := ⟨_, rfl⟩
                        refine lv_iinc (v := i966) (lv' := [(8, .int i966), (10, .int (nI (5 * k))), (9, .int v752), (7, .ref nn), (6, .ref pl), (5, .ref me), (4, .ref ge), (3, .ref sh), (2, .int (nI 0)), (1, .ref b9), (0, .ref x)]) hx hb dL_build_384 hl (k := 2) rfl (by rw [ei966]; rfl) (by decide) rfl (fun ls hl => ?_)
                        have hi966 : i966 = nI (k + 1) := by
                          rw [ei966]
                          exact nI_1 k
                        rw [hi966]
                        refine lv_goto (tgt := 187) hx hb dL_build_387 (by decide) ?_
                        exact ih_L187 (k + 1) S957 (upd (upd (upd (upd (upd Fg (5 * k) (nI b758)) ((5 * k) + 1) (nI (8 + b889))) ((5 * k) + 2) (nI (1 + (b904 / 5)))) ((5 * k) + 3) (nI b920)) ((5 * k) + 4) 0) w955 H locs ls (by omega) (by omega) (hB958) (zk) (ask) (agk) f960 f961 f964 f962 f963 hP hS (lv_sub hl [0, 3, 4, 5, 6, 7, 8, 9, 10] rfl)
                      · exact absurd (iL_nat (by omega)) c965
                  · exact absurd c953 (by decide)
                · refine lv_iconst (v := 1) hx hb dL_build_325 (by decide) ?_
                  refine lv_goto (tgt := 330) hx hb dL_build_326 (by decide) ?_
                  refine g_iast F hP hS f927 (vp_in_nI (by omega) (by omega)) dL_build_330 (fun H locs hP hS => ?_)
                  rw [nI_clamp (n := (5 * k) + 4) (by omega)] at hP
                  obtain ⟨w967, ew967⟩ : ∃ z, z = g_up w922 ge (.inl (G.2.1 0, 80, .inl (upd (upd (upd (upd (upd Fg (5 * k) (nI b758)) ((5 * k) + 1) (nI (8 + b889))) ((5 * k) + 2) (nI (1 + (b904 / 5)))) ((5 * k) + 3) (nI b920)) ((5 * k) + 4) 1))) := ⟨_, rfl⟩
                  have hP : g_P A G w967 H := by rw [ew967]; exact hP
                  have f968 : w967 nn = some (.inl (G.2.1 0, 6, .inl Fn2)) := by rw [ew967]; exact g_up_f f923 (Ne.symm (dnnge))
                  have f969 : w967 sh = some (.inl (G.2.1 0, 30, .inl Fs2)) := by rw [ew967]; exact g_up_f f924 (dshge)
                  have f970 : w967 me = some (.inl (G.2.1 0, 32, .inl Fm0)) := by rw [ew967]; exact g_up_f f925 (Ne.symm (dgeme))
                  have f971 : w967 pl = some (.inl (G.2.1 0, 20, .inl Fp0)) := by rw [ew967]; exact g_up_f f926 (Ne.symm (dgepl))
                  have f972 : w967 ge = some (.inl (G.2.1 0, 80, .inl (upd (upd (upd (upd (upd Fg (5 * k) (nI b758)) ((5 * k) + 1) (nI (8 + b889))) ((5 * k) + 2) (nI (1 + (b904 / 5)))) ((5 * k) + 3) (nI b920)) ((5 * k) + 4) 1))) := by rw [ew967]; exact g_up_s _ _ _
                  have hB973 := lwB_set hB928 (List.mem_of_getElem? (i := 2) rfl) ew967
                  refine lv_aload_n hx hb dL_build_331 rfl (lv_at hl 10 rfl) ?_
                  refine lv_aload hx hb dL_build_332 (lv_at hl 6 rfl) ?_
                  refine lv_iload hx hb dL_build_334 (lv_at hl 0 rfl) ?_
                  refine g_iald F hP f972 (vp_in_nI (by omega) (by omega)) dL_build_336 ?_
                  refine lv_topi (fun v974 ev974 => ?_)
                  have hv974 : v974 = nI b758 := by
                    rw [ev974]
                    rw [nI_clamp (n := 5 * k) (by omega)]
                    exact (pk_un (k := ((5 * k) + 4)) (j := (5 * k)) (by omega)).trans ((pk_un (k := ((5 * k) + 3)) (j := (5 * k)) (by omega)).trans ((pk_un (k := ((5 * k) + 2)) (j := (5 * k)) (by omega)).trans ((pk_un (k := ((5 * k) + 1)) (j := (5 * k)) (by omega)).trans (pk_us))))
                  rw [hv974]
                  refine lv_aload hx hb dL_build_337 (lv_at hl 6 rfl) ?_
                  refine lv_iload hx hb dL_build_339 (lv_at hl 0 rfl) ?_
                  refine lv_iconst (v := 1) hx hb dL_build_341 (by decide) ?_
                  refine lv_iadd hx hb dL_build_342 ?_
                  refine lv_topi (fun v975 ev975 => ?_)
                  have hv975 : v975 = nI ((5 * k) + 1) := by
                    rw [ev975]
                    exact nI_add (5 * k) 1
                  rw [hv975]
                  refine g_iald F hP f972 (vp_in_nI (by omega) (by omega)) dL_build_343 ?_
                  refine lv_topi (fun v976 ev976 => ?_)
                  have hv976 : v976 = nI (8 + b889) := by
                    rw [ev976]
                    rw [nI_clamp (n := (5 * k) + 1) (by omega)]
                    exact (pk_un (k := ((5 * k) + 4)) (j := ((5 * k) + 1)) (by omega)).trans ((pk_un (k := ((5 * k) + 3)) (j := ((5 * k) + 1)) (by omega)).trans ((pk_un (k := ((5 * k) + 2)) (j := ((5 * k) + 1)) (by omega)).trans (pk_us)))
                  rw [hv976]
                  refine lv_aload hx hb dL_build_344 (lv_at hl 6 rfl) ?_
                  refine lv_iload hx hb dL_build_346 (lv_at hl 0 rfl) ?_
                  refine lv_iconst (v := 2) hx hb dL_build_348 (by decide) ?_
                  refine lv_iadd hx hb dL_build_349 ?_
                  refine lv_topi (fun v977 ev977 => ?_)
                  have hv977 : v977 = nI ((5 * k) + 2) := by
                    rw [ev977]
                    exact nI_add (5 * k) 2
                  rw [hv977]
                  refine g_iald F hP f972 (vp_in_nI (by omega) (by omega)) dL_build_350 ?_
                  refine lv_topi (fun v978 ev978 => ?_)
                  have hv978 : v978 = nI (1 + (b904 / 5)) := by
                    rw [ev978]
                    rw [nI_clamp (n := (5 * k) + 2) (by omega)]
                    exact (pk_un (k := ((5 * k) + 4)) (j := ((5 * k) + 2)) (by omega)).trans ((pk_un (k := ((5 * k) + 3)) (j := ((5 * k) + 2)) (by omega)).trans (pk_us))
                  rw [hv978]
                  refine lv_aload hx hb dL_build_351 (lv_at hl 6 rfl) ?_
                  refine lv_iload hx hb dL_build_353 (lv_at hl 0 rfl) ?_
                  refine lv_iconst (v := 3) hx hb dL_build_355 (by decide) ?_
                  refine lv_iadd hx hb dL_build_356 ?_
                  refine lv_topi (fun v979 ev979 => ?_)
                  have hv979 : v979 = nI ((5 * k) + 3) := by
                    rw [ev979]
                    exact nI_add (5 * k) 3
                  rw [hv979]
                  refine g_iald F hP f972 (vp_in_nI (by omega) (by omega)) dL_build_357 ?_
                  refine lv_topi (fun v980 ev980 => ?_)
                  have hv980 : v980 = nI b920 := by
                    rw [ev980]
                    rw [nI_clamp (n := (5 * k) + 3) (by omega)]
                    exact (pk_un (k := ((5 * k) + 4)) (j := ((5 * k) + 3)) (by omega)).trans (pk_us)
                  rw [hv980]
                  refine lv_aload hx hb dL_build_358 (lv_at hl 6 rfl) ?_
                  refine lv_iload hx hb dL_build_360 (lv_at hl 0 rfl) ?_
                  refine lv_iconst (v := 4) hx hb dL_build_362 (by decide) ?_
                  refine lv_iadd hx hb dL_build_363 ?_
                  refine lv_topi (fun v981 ev981 => ?_)
                  have hv981 : v981 = nI ((5 * k) + 4) := by
                    rw [ev981]
                    exact nI_add (5 * k) 4
                  rw [hv981]
                  refine g_iald F hP f972 (vp_in_nI (by omega) (by omega)) dL_build_364 ?_
                  refine lv_topi (fun v982 ev982 => ?_)
                  have hv982 : v982 = 1 := by
                    rw [ev982]
                    rw [nI_clamp (n := (5 * k) + 4) (by omega)]
                    exact pk_us
                  rw [hv982]
                  refine lv_iconst (v := 1) hx hb dL_build_365 (by decide) ?_
                  refine lv_icmp_ne (tgt := 373) hx hb dL_build_366 (by decide) (fun c983 => ?_) (fun c983 => ?_)
                  · exact absurd rfl c983
                  · refine lv_iconst (v := 1) hx hb dL_build_369 (by decide) ?_
                    refine lv_goto (tgt := 374) hx hb dL_build_370 (by decide) ?_
                    rw [show (.int 1 : Value) = .int (g_b true) from rfl]
                    have t1 := nI_i b758 (by omega)
                    have t2 := nI_i (8 + b889) (by omega)
                    have t3 := nI_i (1 + b904 / 5) (by omega)
                    have t4 := nI_i b920 (by omega)
                    obtain ⟨ad, Cn, T, h00, hBn, hLn⟩ := id hB973
                    have hCo := k_X6_addGear l hlt A G w967 ad Cn S T (nI b758) (nI (8 + b889)) (nI (1 + b904 / 5)) (nI b920) true hBn.1 hBn.2.1 hBn.2.2.1 hBn.2.2.2.1 hBn.2.2.2.2
                    rw [h00] at hCo
                    have hx0 := rep_x hBn.1 hBn.2.1
                    rw [h00] at hx0
                    refine g_cVi (As := [.int (nI b758), .int (nI (8 + b889)), .int (nI (1 + (b904 / 5))), .int (nI b920), .int (g_b true)]) (rest := []) F hP hS hCo (cwV 5 hts gL_build_X6_addGear rfl rfl rfl cd_X6_addGear ⟨by rw [hR]; exact Nat.le_of_ble_eq_true rfl, by rw [hR]; exact Nat.le_of_ble_eq_true rfl⟩) hx0 rfl rfl rfl hl.1 (Nat.le_of_ble_eq_true rfl) dL_build_374 ⟨by rw [hR]; dsimp only; omega, by rw [hR]; dsimp only; omega⟩ rfl (fun E w9 ce q9 H locs hpx hP hS hce hcv hcl => ?_) (fun r984 w985 H locs h986 hP hS => ?_)
                    · have hcd := (show cdAddGear S (nI b758) (nI (8 + b889)) (nI (1 + b904 / 5)) (nI b920) = 0 from (if_pos ⟨by omega, by omega⟩).trans ((if_pos (by unfold geQ inQ; rw [t2, t3, t4]; omega)).trans (if_pos (by omega))))
                      rcases hpx.2 with ⟨_, q⟩ | ⟨_, q⟩ | ⟨_, q⟩ <;> exact absurd (hcd.symm.trans q) (by decide)
                    · obtain ⟨hc0, er, hAf⟩ := h986
                      obtain ⟨S987, eS987⟩ : ∃ z, z = nxAddGear S (nI b758) (nI (8 + b889)) (nI (1 + b904 / 5)) (nI b920) true := ⟨_, rfl⟩
                      rw [← eS987] at hAf
                      obtain ⟨hB988, kp989⟩ := lwB_aft h00 hLn hAf
                      have f990 : w985 nn = some (.inl (G.2.1 0, 6, .inl Fn2)) := (kp989 nn (List.mem_of_getElem? (i := 0) rfl)).trans f968
                      have f991 : w985 sh = some (.inl (G.2.1 0, 30, .inl Fs2)) := (kp989 sh (List.mem_of_getElem? (i := 1) rfl)).trans f969
                      have f992 : w985 me = some (.inl (G.2.1 0, 32, .inl Fm0)) := (kp989 me (List.mem_of_getElem? (i := 3) rfl)).trans f970
                      have f993 : w985 pl = some (.inl (G.2.1 0, 20, .inl Fp0)) := (kp989 pl (List.mem_of_getElem? (i := 4) rfl)).trans f971
                      have f994 : w985 ge = some (.inl (G.2.1 0, 80, .inl (upd (upd (upd (upd (upd Fg (5 * k) (nI b758)) ((5 * k) + 1) (nI (8 + b889))) ((5 * k) + 2) (nI (1 + (b904 / 5)))) ((5 * k) + 3) (nI b920)) ((5 * k) + 4) 1))) := (kp989 ge (List.mem_of_getElem? (i := 2) rfl)).trans f972
                      rw [er]
                      obtain ⟨a1, a2, ⟨q4, q5, q6, q7, q8⟩, a4, a5⟩ := nx_gear eS987
                      have s0n : (S 0 1).toNat = k := by omega
                      rw [s0n] at q4 q5 q6 q7 q8 a4
                      have zk : S987 0 0 = n0 ∧ S987 0 1 = ((k + 1 : Nat) : Int) ∧ S987 0 2 = 0 ∧ S987 0 3 = 0 ∧ S987 0 4 = -1 := by rw [a2 0 (by decide), a1, a2 2 (by decide), a2 3 (by decide), a2 4 (by decide)]; omega
                      have ask : arS S987 n0 Fs2 := arS_c has (fun j _ => a5 3 j (by decide) (Or.inl (by decide)))
                      have agk : arG S987 (k + 1) (upd (upd (upd (upd (upd Fg (5 * k) (nI b758)) ((5 * k) + 1) (nI (8 + b889))) ((5 * k) + 2) (nI (1 + (b904 / 5)))) ((5 * k) + 3) (nI b920)) ((5 * k) + 4) 1) := arG_1 hag (fun f j hj _ _ => a4 f j (by omega) (by omega)) (fun j hj => by rw [pk_un (by omega), pk_un (by omega), pk_un (by omega), pk_un (by omega), pk_un (by omega)]) ⟨by rw [q4, pk_un (by omega), pk_un (by omega), pk_un (by omega), pk_un (by omega), pk_us]; exact (iL_x _).symm, by rw [q5, pk_un (by omega), pk_un (by omega), pk_un (by omega), pk_us]; exact (iL_x _).symm, by rw [q6, pk_un (by omega), pk_un (by omega), pk_us]; exact (iL_x _).symm, by rw [q7, pk_un (by omega), pk_us]; exact (iL_x _).symm, by rw [q8, pk_us]; rfl⟩
                      unfold vlAddGear
                      refine lv_iload hx hb dL_build_377 (lv_at hl 2 rfl) ?_
                      refine lv_icmp_eq (tgt := 384) hx hb dL_build_379 (by decide) (fun c995 => ?_) (fun c995 => ?_)
                      · refine W.widen (k := 60 + 3 * (k + 1)) (n := 1100 + 112 * (k + 1)) (by omega) (by omega) ?_
                        obtain ⟨i996, ei996⟩ : ∃ y : Int32, y = nI k + (1) := ⟨_, rfl⟩
                        refine lv_iinc (v := i996) (lv' := [(8, .int i996), (10, .int (nI (5 * k))), (9, .int v752), (7, .ref nn), (6, .ref pl), (5, .ref me), (4, .ref ge), (3, .ref sh), (2, .int (nI 0)), (1, .ref b9), (0, .ref x)]) hx hb dL_build_384 hl (k := 2) rfl (by rw [ei996]; rfl) (by decide) rfl (fun ls hl => ?_)
                        have hi996 : i996 = nI (k + 1) := by
                          rw [ei996]
                          exact nI_1 k
                        rw [hi996]
                        refine lv_goto (tgt := 187) hx hb dL_build_387 (by decide) ?_
                        exact ih_L187 (k + 1) S987 (upd (upd (upd (upd (upd Fg (5 * k) (nI b758)) ((5 * k) + 1) (nI (8 + b889))) ((5 * k) + 2) (nI (1 + (b904 / 5)))) ((5 * k) + 3) (nI b920)) ((5 * k) + 4) 1) w985 H locs ls (by omega) (by omega) (hB988) (zk) (ask) (agk) f990 f991 f994 f992 f993 hP hS (lv_sub hl [0, 3, 4, 5, 6, 7, 8, 9, 10] rfl)
                      · exact absurd (iL_nat (by omega)) c995
        exact L187 (n1 + 1) 0 S Fg0 w36 H locs ls (by omega) (by omega) (hB42) (⟨zz0, zz1, zz2, zz3, zz4⟩) (has) (arG_0 _ _) f41 f37 f38 f39 f40 hP hS (lv_sub hl [0, 1, 2, 3, 4, 5, 6, 7, 8] rfl)
      · have hkn : k < n0 := Nat.not_le.mp (fun q => c26 (nI_le q (by omega)))
        refine lv_aload_n hx hb dL_build_34 rfl (lv_at hl 7 rfl) ?_
        refine lv_iload_n hx hb dL_build_35 rfl (lv_at hl 6 rfl) ?_
        refine lv_iconst (v := 1) hx hb dL_build_36 (by decide) ?_
        refine lv_iadd hx hb dL_build_37 ?_
        refine lv_topi (fun v997 ev997 => ?_)
        have hv997 : v997 = nI (0 + 1) := by
          rw [ev997]
          exact nI_add 0 1
        rw [hv997]
        refine g_SiS (As := [.ref b9, .int (nI (0 + 1))]) (rest := []) F hP hS hX hbl hbA (k_L_cell l A G w b9 N9 xs hbA (0 + 1) (by omega) hN9) (va_cwS 2 hts gL_build_L_cell rfl rfl rfl cd_L_cell ⟨by rw [hR]; exact Nat.le_of_ble_eq_true rfl, by rw [hR]; exact Nat.le_of_ble_eq_true rfl⟩) rfl hl.1 (Nat.le_of_ble_eq_true rfl) dL_build_38 ⟨by rw [hR]; dsimp only; omega, by rw [hR]; dsimp only; omega⟩ rfl (fun r998 w999 H locs h1000 hP hS => ?_)
        rw [h1000] at hP
        refine lv_iconst (v := 2) hx hb dL_build_41 (by decide) ?_
        refine lv_iload hx hb dL_build_42 (lv_at hl 0 rfl) ?_
        refine lv_imul hx hb dL_build_44 ?_
        refine lv_topi (fun v1001 ev1001 => ?_)
        have hv1001 : v1001 = nI (2 * k) := by
          rw [ev1001]
          exact pk_mul 2 k
        rw [hv1001]
        refine lv_ishr hx hb dL_build_45 ?_
        refine lv_topi (fun v1002 ev1002 => ?_)
        refine lv_istore (lv' := [(9, .int v1002), (8, .int (nI k)), (7, .ref nn), (6, .ref pl), (5, .ref me), (4, .ref ge), (3, .ref sh), (2, .int (nI 0)), (1, .ref b9), (0, .ref x)]) hx hb dL_build_46 hl (by decide) rfl (fun ls hl => ?_)
        refine lv_aload_n hx hb dL_build_48 rfl (lv_at hl 6 rfl) ?_
        refine lv_iconst (v := 3) hx hb dL_build_49 (by decide) ?_
        refine lv_iload hx hb dL_build_50 (lv_at hl 1 rfl) ?_
        refine lv_imul hx hb dL_build_52 ?_
        refine lv_topi (fun v1003 ev1003 => ?_)
        have hv1003 : v1003 = nI (3 * k) := by
          rw [ev1003]
          exact pk_mul 3 k
        rw [hv1003]
        refine lv_iload hx hb dL_build_53 (lv_at hl 0 rfl) ?_
        refine lv_bipush (v := 9) hx hb dL_build_55 (by decide) ?_
        refine g_Si (As := [.int v1002, .int 9]) (rest := [.int (nI (3 * k)), .ref sh]) F hP hS (k_L_below l A G w v1002 9 (by omega) (by omega)) (va_cwS 2 hts gL_build_L_below rfl rfl rfl cd_L_below ⟨by rw [hR]; exact Nat.le_of_ble_eq_true rfl, by rw [hR]; exact Nat.le_of_ble_eq_true rfl⟩) rfl hl.1 (Nat.le_of_ble_eq_true rfl) dL_build_57 ⟨by rw [hR]; dsimp only; omega, by rw [hR]; dsimp only; omega⟩ rfl (fun r1004 w1005 H locs h1006 hP hS => ?_)
        have hr1004 := h1006.1
        rw [h1006.2] at hP
        rw [hr1004]
        obtain ⟨b1007, eb1007⟩ : ∃ z, z = blw v1002 9 := ⟨_, rfl⟩
        rw [← eb1007]
        have k1008 : b1007 < 9 := by rw [eb1007]; exact blw_lt _ (by omega)
        refine lv_bipush (v := 20) hx hb dL_build_60 (by decide) ?_
        refine lv_imul hx hb dL_build_62 ?_
        refine lv_topi (fun v1009 ev1009 => ?_)
        have hv1009 : v1009 = nI (b1007 * 20) := by
          rw [ev1009]
          exact pk_mul b1007 20
        rw [hv1009]
        refine g_iast F hP hS hsh (vp_in_nI (by omega) (by omega)) dL_build_63 (fun H locs hP hS => ?_)
        rw [nI_clamp (n := 3 * k) (by omega)] at hP
        obtain ⟨w1010, ew1010⟩ : ∃ z, z = g_up w sh (.inl (G.2.1 0, 30, .inl (upd Fs (3 * k) (nI (b1007 * 20))))) := ⟨_, rfl⟩
        have hP : g_P A G w1010 H := by rw [ew1010]; exact hP
        have f1011 : w1010 nn = some (.inl (G.2.1 0, 6, .inl Fn1)) := by rw [ew1010]; exact g_up_f hnn (Ne.symm (dnnsh))
        have f1012 : w1010 ge = some (.inl (G.2.1 0, 80, .inl Fg0)) := by rw [ew1010]; exact g_up_f hge (Ne.symm (dshge))
        have f1013 : w1010 me = some (.inl (G.2.1 0, 32, .inl Fm0)) := by rw [ew1010]; exact g_up_f hme (Ne.symm (dshme))
        have f1014 : w1010 pl = some (.inl (G.2.1 0, 20, .inl Fp0)) := by rw [ew1010]; exact g_up_f hpl (Ne.symm (dshpl))
        have f1015 : w1010 sh = some (.inl (G.2.1 0, 30, .inl (upd Fs (3 * k) (nI (b1007 * 20))))) := by rw [ew1010]; exact g_up_s _ _ _
        have hB1016 := lwB_set hB (List.mem_of_getElem? (i := 1) rfl) ew1010
        refine lv_aload_n hx hb dL_build_64 rfl (lv_at hl 6 rfl) ?_
        refine lv_iconst (v := 3) hx hb dL_build_65 (by decide) ?_
        refine lv_iload hx hb dL_build_66 (lv_at hl 1 rfl) ?_
        refine lv_imul hx hb dL_build_68 ?_
        refine lv_topi (fun v1017 ev1017 => ?_)
        have hv1017 : v1017 = nI (3 * k) := by
          rw [ev1017]
          exact pk_mul 3 k
        rw [hv1017]
        refine lv_iconst (v := 1) hx hb dL_build_69 (by decide) ?_
        refine lv_iadd hx hb dL_build_70 ?_
        refine lv_topi (fun v1018 ev1018 => ?_)
        have hv1018 : v1018 = nI ((3 * k) + 1) := by
          rw [ev1018]
          exact nI_add (3 * k) 1
        rw [hv1018]
        refine lv_iload hx hb dL_build_71 (lv_at hl 0 rfl) ?_
        refine lv_iconst (v := 3) hx hb dL_build_73 (by decide) ?_
        refine lv_ishr hx hb dL_build_74 ?_
        refine lv_topi (fun v1019 ev1019 => ?_)
        refine lv_iconst (v := 4) hx hb dL_build_75 (by decide) ?_
        refine g_Si (As := [.int v1019, .int 4]) (rest := [.int (nI ((3 * k) + 1)), .ref sh]) F hP hS (k_L_below l A G w1010 v1019 4 (by omega) (by omega)) (va_cwS 2 hts gL_build_L_below rfl rfl rfl cd_L_below ⟨by rw [hR]; exact Nat.le_of_ble_eq_true rfl, by rw [hR]; exact Nat.le_of_ble_eq_true rfl⟩) rfl hl.1 (Nat.le_of_ble_eq_true rfl) dL_build_76 ⟨by rw [hR]; dsimp only; omega, by rw [hR]; dsimp only; omega⟩ rfl (fun r1020 w1021 H locs h1022 hP hS => ?_)
        have hr1020 := h1022.1
        rw [h1022.2] at hP
        rw [hr1020]
        obtain ⟨b1023, eb1023⟩ : ∃ z, z = blw v1019 4 := ⟨_, rfl⟩
        rw [← eb1023]
        have k1024 : b1023 < 4 := by rw [eb1023]; exact blw_lt _ (by omega)
        refine lv_bipush (v := 30) hx hb dL_build_79 (by decide) ?_
        refine lv_imul hx hb dL_build_81 ?_
        refine lv_topi (fun v1025 ev1025 => ?_)
        have hv1025 : v1025 = nI (b1023 * 30) := by
          rw [ev1025]
          exact pk_mul b1023 30
        rw [hv1025]
        refine lv_bipush (v := 30) hx hb dL_build_82 (by decide) ?_
        refine lv_isub hx hb dL_build_84 ?_
        refine lv_topi (fun v1026 ev1026 => ?_)
        have hv1026 : v1026 = iL (((b1023 * 30 : Nat) : Int) - 30) := by
          rw [ev1026]
          rw [← iL_n]; exact iL_sub _ 30
        rw [hv1026]
        refine g_iast F hP hS f1015 (vp_in_nI (by omega) (by omega)) dL_build_85 (fun H locs hP hS => ?_)
        rw [nI_clamp (n := (3 * k) + 1) (by omega)] at hP
        obtain ⟨w1027, ew1027⟩ : ∃ z, z = g_up w1010 sh (.inl (G.2.1 0, 30, .inl (upd (upd Fs (3 * k) (nI (b1007 * 20))) ((3 * k) + 1) (iL (((b1023 * 30 : Nat) : Int) - 30))))) := ⟨_, rfl⟩
        have hP : g_P A G w1027 H := by rw [ew1027]; exact hP
        have f1028 : w1027 nn = some (.inl (G.2.1 0, 6, .inl Fn1)) := by rw [ew1027]; exact g_up_f f1011 (Ne.symm (dnnsh))
        have f1029 : w1027 ge = some (.inl (G.2.1 0, 80, .inl Fg0)) := by rw [ew1027]; exact g_up_f f1012 (Ne.symm (dshge))
        have f1030 : w1027 me = some (.inl (G.2.1 0, 32, .inl Fm0)) := by rw [ew1027]; exact g_up_f f1013 (Ne.symm (dshme))
        have f1031 : w1027 pl = some (.inl (G.2.1 0, 20, .inl Fp0)) := by rw [ew1027]; exact g_up_f f1014 (Ne.symm (dshpl))
        have f1032 : w1027 sh = some (.inl (G.2.1 0, 30, .inl (upd (upd Fs (3 * k) (nI (b1007 * 20))) ((3 * k) + 1) (iL (((b1023 * 30 : Nat) : Int) - 30))))) := by rw [ew1027]; exact g_up_s _ _ _
        have hB1033 := lwB_set hB1016 (List.mem_of_getElem? (i := 1) rfl) ew1027
        refine lv_aload_n hx hb dL_build_86 rfl (lv_at hl 6 rfl) ?_
        refine lv_iconst (v := 3) hx hb dL_build_87 (by decide) ?_
        refine lv_iload hx hb dL_build_88 (lv_at hl 1 rfl) ?_
        refine lv_imul hx hb dL_build_90 ?_
        refine lv_topi (fun v1034 ev1034 => ?_)
        have hv1034 : v1034 = nI (3 * k) := by
          rw [ev1034]
          exact pk_mul 3 k
        rw [hv1034]
        refine lv_iconst (v := 2) hx hb dL_build_91 (by decide) ?_
        refine lv_iadd hx hb dL_build_92 ?_
        refine lv_topi (fun v1035 ev1035 => ?_)
        have hv1035 : v1035 = nI ((3 * k) + 2) := by
          rw [ev1035]
          exact nI_add (3 * k) 2
        rw [hv1035]
        refine lv_iload hx hb dL_build_93 (lv_at hl 0 rfl) ?_
        refine lv_iconst (v := 5) hx hb dL_build_95 (by decide) ?_
        refine lv_ishr hx hb dL_build_96 ?_
        refine lv_topi (fun v1036 ev1036 => ?_)
        refine lv_bipush (v := 7) hx hb dL_build_97 (by decide) ?_
        refine g_Si (As := [.int v1036, .int 7]) (rest := [.int (nI ((3 * k) + 2)), .ref sh]) F hP hS (k_L_below l A G w1027 v1036 7 (by omega) (by omega)) (va_cwS 2 hts gL_build_L_below rfl rfl rfl cd_L_below ⟨by rw [hR]; exact Nat.le_of_ble_eq_true rfl, by rw [hR]; exact Nat.le_of_ble_eq_true rfl⟩) rfl hl.1 (Nat.le_of_ble_eq_true rfl) dL_build_99 ⟨by rw [hR]; dsimp only; omega, by rw [hR]; dsimp only; omega⟩ rfl (fun r1037 w1038 H locs h1039 hP hS => ?_)
        have hr1037 := h1039.1
        rw [h1039.2] at hP
        rw [hr1037]
        obtain ⟨b1040, eb1040⟩ : ∃ z, z = blw v1036 7 := ⟨_, rfl⟩
        rw [← eb1040]
        have k1041 : b1040 < 7 := by rw [eb1040]; exact blw_lt _ (by omega)
        refine lv_if_ne (tgt := 109) hx hb dL_build_102 (by decide) (fun c1042 => ?_) (fun c1042 => ?_)
        · refine lv_iconst (v := 0) hx hb dL_build_109 (by decide) ?_
          refine g_iast F hP hS f1032 (vp_in_nI (by omega) (by omega)) dL_build_110 (fun H locs hP hS => ?_)
          rw [nI_clamp (n := (3 * k) + 2) (by omega)] at hP
          obtain ⟨w1043, ew1043⟩ : ∃ z, z = g_up w1027 sh (.inl (G.2.1 0, 30, .inl (upd (upd (upd Fs (3 * k) (nI (b1007 * 20))) ((3 * k) + 1) (iL (((b1023 * 30 : Nat) : Int) - 30))) ((3 * k) + 2) 0))) := ⟨_, rfl⟩
          have hP : g_P A G w1043 H := by rw [ew1043]; exact hP
          have f1044 : w1043 nn = some (.inl (G.2.1 0, 6, .inl Fn1)) := by rw [ew1043]; exact g_up_f f1028 (Ne.symm (dnnsh))
          have f1045 : w1043 ge = some (.inl (G.2.1 0, 80, .inl Fg0)) := by rw [ew1043]; exact g_up_f f1029 (Ne.symm (dshge))
          have f1046 : w1043 me = some (.inl (G.2.1 0, 32, .inl Fm0)) := by rw [ew1043]; exact g_up_f f1030 (Ne.symm (dshme))
          have f1047 : w1043 pl = some (.inl (G.2.1 0, 20, .inl Fp0)) := by rw [ew1043]; exact g_up_f f1031 (Ne.symm (dshpl))
          have f1048 : w1043 sh = some (.inl (G.2.1 0, 30, .inl (upd (upd (upd Fs (3 * k) (nI (b1007 * 20))) ((3 * k) + 1) (iL (((b1023 * 30 : Nat) : Int) - 30))) ((3 * k) + 2) 0))) := by rw [ew1043]; exact g_up_s _ _ _
          have hB1049 := lwB_set hB1033 (List.mem_of_getElem? (i := 1) rfl) ew1043
          refine lv_aload_n hx hb dL_build_111 rfl (lv_at hl 9 rfl) ?_
          refine lv_aload_n hx hb dL_build_112 rfl (lv_at hl 6 rfl) ?_
          refine lv_iconst (v := 3) hx hb dL_build_113 (by decide) ?_
          refine lv_iload hx hb dL_build_114 (lv_at hl 1 rfl) ?_
          refine lv_imul hx hb dL_build_116 ?_
          refine lv_topi (fun v1050 ev1050 => ?_)
          have hv1050 : v1050 = nI (3 * k) := by
            rw [ev1050]
            exact pk_mul 3 k
          rw [hv1050]
          refine g_iald F hP f1048 (vp_in_nI (by omega) (by omega)) dL_build_117 ?_
          refine lv_topi (fun v1051 ev1051 => ?_)
          have hv1051 : v1051 = nI (b1007 * 20) := by
            rw [ev1051]
            rw [nI_clamp (n := 3 * k) (by omega)]
            exact (pk_un (k := ((3 * k) + 2)) (j := (3 * k)) (by omega)).trans ((pk_un (k := ((3 * k) + 1)) (j := (3 * k)) (by omega)).trans (pk_us))
          rw [hv1051]
          refine lv_aload_n hx hb dL_build_118 rfl (lv_at hl 6 rfl) ?_
          refine lv_iconst (v := 3) hx hb dL_build_119 (by decide) ?_
          refine lv_iload hx hb dL_build_120 (lv_at hl 1 rfl) ?_
          refine lv_imul hx hb dL_build_122 ?_
          refine lv_topi (fun v1052 ev1052 => ?_)
          have hv1052 : v1052 = nI (3 * k) := by
            rw [ev1052]
            exact pk_mul 3 k
          rw [hv1052]
          refine lv_iconst (v := 1) hx hb dL_build_123 (by decide) ?_
          refine lv_iadd hx hb dL_build_124 ?_
          refine lv_topi (fun v1053 ev1053 => ?_)
          have hv1053 : v1053 = nI ((3 * k) + 1) := by
            rw [ev1053]
            exact nI_add (3 * k) 1
          rw [hv1053]
          refine g_iald F hP f1048 (vp_in_nI (by omega) (by omega)) dL_build_125 ?_
          refine lv_topi (fun v1054 ev1054 => ?_)
          have hv1054 : v1054 = iL (((b1023 * 30 : Nat) : Int) - 30) := by
            rw [ev1054]
            rw [nI_clamp (n := (3 * k) + 1) (by omega)]
            exact (pk_un (k := ((3 * k) + 2)) (j := ((3 * k) + 1)) (by omega)).trans (pk_us)
          rw [hv1054]
          have tX : (nI (b1007 * 20)).toInt = ((b1007 * 20 : Nat) : Int) := nI_i _ (by omega)
          have tY : (iL (((b1023 * 30 : Nat) : Int) - 30)).toInt = ((b1023 * 30 : Nat) : Int) - 30 := iL_t (by omega) (by omega)
          have hplq : plQ (nI (b1007 * 20)) (iL (((b1023 * 30 : Nat) : Int) - 30)) := by unfold plQ inQ; rw [tX, tY]; omega
          obtain ⟨ad, Cn, T, h00, hBn, hLn⟩ := id hB1049
          have hCo := k_X6_addShaft l hlt A G w1043 ad Cn S T (nI (b1007 * 20)) (iL (((b1023 * 30 : Nat) : Int) - 30)) hBn.1 hBn.2.1 hBn.2.2.1 hBn.2.2.2.1 hBn.2.2.2.2
          rw [h00] at hCo
          have hx0 := rep_x hBn.1 hBn.2.1
          rw [h00] at hx0
          refine g_cVi (As := [.int (nI (b1007 * 20)), .int (iL (((b1023 * 30 : Nat) : Int) - 30))]) (rest := []) F hP hS hCo (cwV 2 hts gL_build_X6_addShaft rfl rfl rfl cd_X6_addShaft ⟨by rw [hR]; exact Nat.le_of_ble_eq_true rfl, by rw [hR]; exact Nat.le_of_ble_eq_true rfl⟩) hx0 rfl rfl rfl hl.1 (Nat.le_of_ble_eq_true rfl) dL_build_126 ⟨by rw [hR]; dsimp only; omega, by rw [hR]; dsimp only; omega⟩ rfl (fun E w9 ce q9 H locs hpx hP hS hce hcv hcl => ?_) (fun r1055 w1056 H locs h1057 hP hS => ?_)
          · have hcd := (show cdAddShaft S (nI (b1007 * 20)) (iL (((b1023 * 30 : Nat) : Int) - 30)) = 0 from (if_pos hplq).trans (if_pos (by omega)))
            rcases hpx.2 with ⟨_, q⟩ | ⟨_, q⟩ <;> exact absurd (hcd.symm.trans q) (by decide)
          · obtain ⟨hc0, er, hAf⟩ := h1057
            obtain ⟨S1058, eS1058⟩ : ∃ z, z = nxAddShaft S (nI (b1007 * 20)) (iL (((b1023 * 30 : Nat) : Int) - 30)) := ⟨_, rfl⟩
            rw [← eS1058] at hAf
            obtain ⟨hB1059, kp1060⟩ := lwB_aft h00 hLn hAf
            have f1061 : w1056 nn = some (.inl (G.2.1 0, 6, .inl Fn1)) := (kp1060 nn (List.mem_of_getElem? (i := 0) rfl)).trans f1044
            have f1062 : w1056 ge = some (.inl (G.2.1 0, 80, .inl Fg0)) := (kp1060 ge (List.mem_of_getElem? (i := 2) rfl)).trans f1045
            have f1063 : w1056 me = some (.inl (G.2.1 0, 32, .inl Fm0)) := (kp1060 me (List.mem_of_getElem? (i := 3) rfl)).trans f1046
            have f1064 : w1056 pl = some (.inl (G.2.1 0, 20, .inl Fp0)) := (kp1060 pl (List.mem_of_getElem? (i := 4) rfl)).trans f1047
            have f1065 : w1056 sh = some (.inl (G.2.1 0, 30, .inl (upd (upd (upd Fs (3 * k) (nI (b1007 * 20))) ((3 * k) + 1) (iL (((b1023 * 30 : Nat) : Int) - 30))) ((3 * k) + 2) 0))) := (kp1060 sh (List.mem_of_getElem? (i := 1) rfl)).trans f1048
            rw [er]
            obtain ⟨a1, a2, a3, a4, a5⟩ := nx_shaft eS1058
            have s0n : (S 0 0).toNat = k := by omega
            rw [s0n] at a3 a4
            have b0 : S1058 0 0 = ((k + 1 : Nat) : Int) := by rw [a1]; omega
            have b1 : S1058 0 1 = 0 := by rw [a2 1 (by decide)]; omega
            have b2 : S1058 0 2 = 0 := by rw [a2 2 (by decide)]; omega
            have b3 : S1058 0 3 = 0 := by rw [a2 3 (by decide)]; omega
            have b4 : S1058 0 4 = -1 := by rw [a2 4 (by decide)]; omega
            unfold vlAddShaft
            refine lv_iload hx hb dL_build_129 (lv_at hl 1 rfl) ?_
            refine lv_icmp_ne (tgt := 160) hx hb dL_build_131 (by decide) (fun c1066 => ?_) (fun c1066 => ?_)
            · exact absurd (iL_nat (by omega)) c1066
            · refine lv_aload_n hx hb dL_build_134 rfl (lv_at hl 9 rfl) ?_
              refine lv_iload hx hb dL_build_135 (lv_at hl 1 rfl) ?_
              refine lv_aload_n hx hb dL_build_137 rfl (lv_at hl 6 rfl) ?_
              refine lv_iconst (v := 3) hx hb dL_build_138 (by decide) ?_
              refine lv_iload hx hb dL_build_139 (lv_at hl 1 rfl) ?_
              refine lv_imul hx hb dL_build_141 ?_
              refine lv_topi (fun v1067 ev1067 => ?_)
              have hv1067 : v1067 = nI (3 * k) := by
                rw [ev1067]
                exact pk_mul 3 k
              rw [hv1067]
              refine lv_iconst (v := 2) hx hb dL_build_142 (by decide) ?_
              refine lv_iadd hx hb dL_build_143 ?_
              refine lv_topi (fun v1068 ev1068 => ?_)
              have hv1068 : v1068 = nI ((3 * k) + 2) := by
                rw [ev1068]
                exact nI_add (3 * k) 2
              rw [hv1068]
              refine g_iald F hP f1065 (vp_in_nI (by omega) (by omega)) dL_build_144 ?_
              refine lv_topi (fun v1069 ev1069 => ?_)
              have hv1069 : v1069 = 0 := by
                rw [ev1069]
                rw [nI_clamp (n := (3 * k) + 2) (by omega)]
                exact pk_us
              rw [hv1069]
              refine lv_iconst (v := 1) hx hb dL_build_145 (by decide) ?_
              refine lv_icmp_ne (tgt := 153) hx hb dL_build_146 (by decide) (fun c1070 => ?_) (fun c1070 => ?_)
              · refine lv_iconst (v := 0) hx hb dL_build_153 (by decide) ?_
                rw [show (.int 0 : Value) = .int (g_b false) from rfl]
                have tk := nI_i k (by omega)
                obtain ⟨ad, Cn, T, h00, hBn, hLn⟩ := id hB1059
                have hCo := k_X6_hold l hlt A G w1056 ad Cn S1058 T (nI k) false hBn.1 hBn.2.1 hBn.2.2.1 hBn.2.2.2.1 hBn.2.2.2.2
                rw [h00] at hCo
                have hx0 := rep_x hBn.1 hBn.2.1
                rw [h00] at hx0
                refine g_cVi (As := [.int (nI k), .int (g_b false)]) (rest := []) F hP hS hCo (cwV 2 hts gL_build_X6_hold rfl rfl rfl cd_X6_hold ⟨by rw [hR]; exact Nat.le_of_ble_eq_true rfl, by rw [hR]; exact Nat.le_of_ble_eq_true rfl⟩) hx0 rfl rfl rfl hl.1 (Nat.le_of_ble_eq_true rfl) dL_build_154 ⟨by rw [hR]; dsimp only; omega, by rw [hR]; dsimp only; omega⟩ rfl (fun E w9 ce q9 H locs hpx hP hS hce hcv hcl => ?_) (fun r1071 w1072 H locs h1073 hP hS => ?_)
                · have hcd := (show cdHold S1058 (nI k) = 0 from (if_pos ⟨by omega, by omega⟩).trans (if_neg (by omega)))
                  rcases hpx.2 with ⟨_, q⟩ | ⟨_, q⟩ <;> exact absurd (hcd.symm.trans q) (by decide)
                · obtain ⟨hc0, er, hAf⟩ := h1073
                  obtain ⟨S1074, eS1074⟩ : ∃ z, z = nxHold S1058 (nI k) false := ⟨_, rfl⟩
                  rw [← eS1074] at hAf
                  obtain ⟨hB1075, kp1076⟩ := lwB_aft h00 hLn hAf
                  have f1077 : w1072 nn = some (.inl (G.2.1 0, 6, .inl Fn1)) := (kp1076 nn (List.mem_of_getElem? (i := 0) rfl)).trans f1061
                  have f1078 : w1072 ge = some (.inl (G.2.1 0, 80, .inl Fg0)) := (kp1076 ge (List.mem_of_getElem? (i := 2) rfl)).trans f1062
                  have f1079 : w1072 me = some (.inl (G.2.1 0, 32, .inl Fm0)) := (kp1076 me (List.mem_of_getElem? (i := 3) rfl)).trans f1063
                  have f1080 : w1072 pl = some (.inl (G.2.1 0, 20, .inl Fp0)) := (kp1076 pl (List.mem_of_getElem? (i := 4) rfl)).trans f1064
                  have f1081 : w1072 sh = some (.inl (G.2.1 0, 30, .inl (upd (upd (upd Fs (3 * k) (nI (b1007 * 20))) ((3 * k) + 1) (iL (((b1023 * 30 : Nat) : Int) - 30))) ((3 * k) + 2) 0))) := (kp1076 sh (List.mem_of_getElem? (i := 1) rfl)).trans f1065
                  rw [er]
                  obtain ⟨c1, c2, c3⟩ := nx_hold (by omega) eS1074
                  have zk : S1074 0 0 = ((k + 1 : Nat) : Int) ∧ S1074 0 1 = 0 ∧ S1074 0 2 = 0 ∧ S1074 0 3 = 0 ∧ S1074 0 4 = -1 := by rw [c3 0 0 (by decide), c3 0 1 (by decide), c3 0 2 (by decide), c3 0 3 (by decide), c3 0 4 (by decide)]; exact ⟨b0, b1, b2, b3, b4⟩
                  have ask : arS S1074 (k + 1) (upd (upd (upd Fs (3 * k) (nI (b1007 * 20))) ((3 * k) + 1) (iL (((b1023 * 30 : Nat) : Int) - 30))) ((3 * k) + 2) 0) := arS_1 has (fun j hj => by rw [c2 j (by omega), a4 j (by omega)]) (fun j hj => by rw [pk_un (by omega), pk_un (by omega), pk_un (by omega)]) (by rw [c1]; exact pk_us)
                  rw [show vlHold S1058 (nI k) = false from decide_eq_false (by rw [kN_n (by omega), a3]; decide)]
                  refine lv_if_eq (tgt := 162) hx hb dL_build_157 (by decide) (fun c1082 => ?_) (fun c1082 => ?_)
                  · refine W.widen (k := 1 + 6 * (k + 1)) (n := 6 + 126 * (k + 1)) (by omega) (by omega) ?_
                    obtain ⟨i1083, ei1083⟩ : ∃ y : Int32, y = nI k + (1) := ⟨_, rfl⟩
                    refine lv_iinc (v := i1083) (lv' := [(8, .int i1083), (9, .int v1002), (7, .ref nn), (6, .ref pl), (5, .ref me), (4, .ref ge), (3, .ref sh), (2, .int (nI 0)), (1, .ref b9), (0, .ref x)]) hx hb dL_build_162 hl (k := 1) rfl (by rw [ei1083]; rfl) (by decide) rfl (fun ls hl => ?_)
                    have hi1083 : i1083 = nI (k + 1) := by
                      rw [ei1083]
                      exact nI_1 k
                    rw [hi1083]
                    refine lv_goto (tgt := 25) hx hb dL_build_165 (by decide) ?_
                    exact ih_L25 (k + 1) S1074 (upd (upd (upd Fs (3 * k) (nI (b1007 * 20))) ((3 * k) + 1) (iL (((b1023 * 30 : Nat) : Int) - 30))) ((3 * k) + 2) 0) w1072 H locs ls (by omega) (by omega) (hB1075) (zk) (ask) f1077 f1081 f1078 f1079 f1080 hP hS (lv_sub hl [0, 2, 3, 4, 5, 6, 7, 8, 9] rfl)
                  · exact absurd rfl c1082
              · exact absurd c1070 (by decide)
        · refine lv_iconst (v := 1) hx hb dL_build_105 (by decide) ?_
          refine lv_goto (tgt := 110) hx hb dL_build_106 (by decide) ?_
          refine g_iast F hP hS f1032 (vp_in_nI (by omega) (by omega)) dL_build_110 (fun H locs hP hS => ?_)
          rw [nI_clamp (n := (3 * k) + 2) (by omega)] at hP
          obtain ⟨w1084, ew1084⟩ : ∃ z, z = g_up w1027 sh (.inl (G.2.1 0, 30, .inl (upd (upd (upd Fs (3 * k) (nI (b1007 * 20))) ((3 * k) + 1) (iL (((b1023 * 30 : Nat) : Int) - 30))) ((3 * k) + 2) 1))) := ⟨_, rfl⟩
          have hP : g_P A G w1084 H := by rw [ew1084]; exact hP
          have f1085 : w1084 nn = some (.inl (G.2.1 0, 6, .inl Fn1)) := by rw [ew1084]; exact g_up_f f1028 (Ne.symm (dnnsh))
          have f1086 : w1084 ge = some (.inl (G.2.1 0, 80, .inl Fg0)) := by rw [ew1084]; exact g_up_f f1029 (Ne.symm (dshge))
          have f1087 : w1084 me = some (.inl (G.2.1 0, 32, .inl Fm0)) := by rw [ew1084]; exact g_up_f f1030 (Ne.symm (dshme))
          have f1088 : w1084 pl = some (.inl (G.2.1 0, 20, .inl Fp0)) := by rw [ew1084]; exact g_up_f f1031 (Ne.symm (dshpl))
          have f1089 : w1084 sh = some (.inl (G.2.1 0, 30, .inl (upd (upd (upd Fs (3 * k) (nI (b1007 * 20))) ((3 * k) + 1) (iL (((b1023 * 30 : Nat) : Int) - 30))) ((3 * k) + 2) 1))) := by rw [ew1084]; exact g_up_s _ _ _
          have hB1090 := lwB_set hB1033 (List.mem_of_getElem? (i := 1) rfl) ew1084
          refine lv_aload_n hx hb dL_build_111 rfl (lv_at hl 9 rfl) ?_
          refine lv_aload_n hx hb dL_build_112 rfl (lv_at hl 6 rfl) ?_
          refine lv_iconst (v := 3) hx hb dL_build_113 (by decide) ?_
          refine lv_iload hx hb dL_build_114 (lv_at hl 1 rfl) ?_
          refine lv_imul hx hb dL_build_116 ?_
          refine lv_topi (fun v1091 ev1091 => ?_)
          have hv1091 : v1091 = nI (3 * k) := by
            rw [ev1091]
            exact pk_mul 3 k
          rw [hv1091]
          refine g_iald F hP f1089 (vp_in_nI (by omega) (by omega)) dL_build_117 ?_
          refine lv_topi (fun v1092 ev1092 => ?_)
          have hv1092 : v1092 = nI (b1007 * 20) := by
            rw [ev1092]
            rw [nI_clamp (n := 3 * k) (by omega)]
            exact (pk_un (k := ((3 * k) + 2)) (j := (3 * k)) (by omega)).trans ((pk_un (k := ((3 * k) + 1)) (j := (3 * k)) (by omega)).trans (pk_us))
          rw [hv1092]
          refine lv_aload_n hx hb dL_build_118 rfl (lv_at hl 6 rfl) ?_
          refine lv_iconst (v := 3) hx hb dL_build_119 (by decide) ?_
          refine lv_iload hx hb dL_build_120 (lv_at hl 1 rfl) ?_
          refine lv_imul hx hb dL_build_122 ?_
          refine lv_topi (fun v1093 ev1093 => ?_)
          have hv1093 : v1093 = nI (3 * k) := by
            rw [ev1093]
            exact pk_mul 3 k
          rw [hv1093]
          refine lv_iconst (v := 1) hx hb dL_build_123 (by decide) ?_
          refine lv_iadd hx hb dL_build_124 ?_
          refine lv_topi (fun v1094 ev1094 => ?_)
          have hv1094 : v1094 = nI ((3 * k) + 1) := by
            rw [ev1094]
            exact nI_add (3 * k) 1
          rw [hv1094]
          refine g_iald F hP f1089 (vp_in_nI (by omega) (by omega)) dL_build_125 ?_
          refine lv_topi (fun v1095 ev1095 => ?_)
          have hv1095 : v1095 = iL (((b1023 * 30 : Nat) : Int) - 30) := by
            rw [ev1095]
            rw [nI_clamp (n := (3 * k) + 1) (by omega)]
            exact (pk_un (k := ((3 * k) + 2)) (j := ((3 * k) + 1)) (by omega)).trans (pk_us)
          rw [hv1095]
          have tX : (nI (b1007 * 20)).toInt = ((b1007 * 20 : Nat) : Int) := nI_i _ (by omega)
          have tY : (iL (((b1023 * 30 : Nat) : Int) - 30)).toInt = ((b1023 * 30 : Nat) : Int) - 30 := iL_t (by omega) (by omega)
          have hplq : plQ (nI (b1007 * 20)) (iL (((b1023 * 30 : Nat) : Int) - 30)) := by unfold plQ inQ; rw [tX, tY]; omega
          obtain ⟨ad, Cn, T, h00, hBn, hLn⟩ := id hB1090
          have hCo := k_X6_addShaft l hlt A G w1084 ad Cn S T (nI (b1007 * 20)) (iL (((b1023 * 30 : Nat) : Int) - 30)) hBn.1 hBn.2.1 hBn.2.2.1 hBn.2.2.2.1 hBn.2.2.2.2
          rw [h00] at hCo
          have hx0 := rep_x hBn.1 hBn.2.1
          rw [h00] at hx0
          refine g_cVi (As := [.int (nI (b1007 * 20)), .int (iL (((b1023 * 30 : Nat) : Int) - 30))]) (rest := []) F hP hS hCo (cwV 2 hts gL_build_X6_addShaft rfl rfl rfl cd_X6_addShaft ⟨by rw [hR]; exact Nat.le_of_ble_eq_true rfl, by rw [hR]; exact Nat.le_of_ble_eq_true rfl⟩) hx0 rfl rfl rfl hl.1 (Nat.le_of_ble_eq_true rfl) dL_build_126 ⟨by rw [hR]; dsimp only; omega, by rw [hR]; dsimp only; omega⟩ rfl (fun E w9 ce q9 H locs hpx hP hS hce hcv hcl => ?_) (fun r1096 w1097 H locs h1098 hP hS => ?_)
          · have hcd := (show cdAddShaft S (nI (b1007 * 20)) (iL (((b1023 * 30 : Nat) : Int) - 30)) = 0 from (if_pos hplq).trans (if_pos (by omega)))
            rcases hpx.2 with ⟨_, q⟩ | ⟨_, q⟩ <;> exact absurd (hcd.symm.trans q) (by decide)
          · obtain ⟨hc0, er, hAf⟩ := h1098
            obtain ⟨S1099, eS1099⟩ : ∃ z, z = nxAddShaft S (nI (b1007 * 20)) (iL (((b1023 * 30 : Nat) : Int) - 30)) := ⟨_, rfl⟩
            rw [← eS1099] at hAf
            obtain ⟨hB1100, kp1101⟩ := lwB_aft h00 hLn hAf
            have f1102 : w1097 nn = some (.inl (G.2.1 0, 6, .inl Fn1)) := (kp1101 nn (List.mem_of_getElem? (i := 0) rfl)).trans f1085
            have f1103 : w1097 ge = some (.inl (G.2.1 0, 80, .inl Fg0)) := (kp1101 ge (List.mem_of_getElem? (i := 2) rfl)).trans f1086
            have f1104 : w1097 me = some (.inl (G.2.1 0, 32, .inl Fm0)) := (kp1101 me (List.mem_of_getElem? (i := 3) rfl)).trans f1087
            have f1105 : w1097 pl = some (.inl (G.2.1 0, 20, .inl Fp0)) := (kp1101 pl (List.mem_of_getElem? (i := 4) rfl)).trans f1088
            have f1106 : w1097 sh = some (.inl (G.2.1 0, 30, .inl (upd (upd (upd Fs (3 * k) (nI (b1007 * 20))) ((3 * k) + 1) (iL (((b1023 * 30 : Nat) : Int) - 30))) ((3 * k) + 2) 1))) := (kp1101 sh (List.mem_of_getElem? (i := 1) rfl)).trans f1089
            rw [er]
            obtain ⟨a1, a2, a3, a4, a5⟩ := nx_shaft eS1099
            have s0n : (S 0 0).toNat = k := by omega
            rw [s0n] at a3 a4
            have b0 : S1099 0 0 = ((k + 1 : Nat) : Int) := by rw [a1]; omega
            have b1 : S1099 0 1 = 0 := by rw [a2 1 (by decide)]; omega
            have b2 : S1099 0 2 = 0 := by rw [a2 2 (by decide)]; omega
            have b3 : S1099 0 3 = 0 := by rw [a2 3 (by decide)]; omega
            have b4 : S1099 0 4 = -1 := by rw [a2 4 (by decide)]; omega
            unfold vlAddShaft
            refine lv_iload hx hb dL_build_129 (lv_at hl 1 rfl) ?_
            refine lv_icmp_ne (tgt := 160) hx hb dL_build_131 (by decide) (fun c1107 => ?_) (fun c1107 => ?_)
            · exact absurd (iL_nat (by omega)) c1107
            · refine lv_aload_n hx hb dL_build_134 rfl (lv_at hl 9 rfl) ?_
              refine lv_iload hx hb dL_build_135 (lv_at hl 1 rfl) ?_
              refine lv_aload_n hx hb dL_build_137 rfl (lv_at hl 6 rfl) ?_
              refine lv_iconst (v := 3) hx hb dL_build_138 (by decide) ?_
              refine lv_iload hx hb dL_build_139 (lv_at hl 1 rfl) ?_
              refine lv_imul hx hb dL_build_141 ?_
              refine lv_topi (fun v1108 ev1108 => ?_)
              have hv1108 : v1108 = nI (3 * k) := by
                rw [ev1108]
                exact pk_mul 3 k
              rw [hv1108]
              refine lv_iconst (v := 2) hx hb dL_build_142 (by decide) ?_
              refine lv_iadd hx hb dL_build_143 ?_
              refine lv_topi (fun v1109 ev1109 => ?_)
              have hv1109 : v1109 = nI ((3 * k) + 2) := by
                rw [ev1109]
                exact nI_add (3 * k) 2
              rw [hv1109]
              refine g_iald F hP f1106 (vp_in_nI (by omega) (by omega)) dL_build_144 ?_
              refine lv_topi (fun v1110 ev1110 => ?_)
              have hv1110 : v1110 = 1 := by
                rw [ev1110]
                rw [nI_clamp (n := (3 * k) + 2) (by omega)]
                exact pk_us
              rw [hv1110]
              refine lv_iconst (v := 1) hx hb dL_build_145 (by decide) ?_
              refine lv_icmp_ne (tgt := 153) hx hb dL_build_146 (by decide) (fun c1111 => ?_) (fun c1111 => ?_)
              · exact absurd rfl c1111
              · refine lv_iconst (v := 1) hx hb dL_build_149 (by decide) ?_
                refine lv_goto (tgt := 154) hx hb dL_build_150 (by decide) ?_
                rw [show (.int 1 : Value) = .int (g_b true) from rfl]
                have tk := nI_i k (by omega)
                obtain ⟨ad, Cn, T, h00, hBn, hLn⟩ := id hB1100
                have hCo := k_X6_hold l hlt A G w1097 ad Cn S1099 T (nI k) true hBn.1 hBn.2.1 hBn.2.2.1 hBn.2.2.2.1 hBn.2.2.2.2
                rw [h00] at hCo
                have hx0 := rep_x hBn.1 hBn.2.1
                rw [h00] at hx0
                refine g_cVi (As := [.int (nI k), .int (g_b true)]) (rest := []) F hP hS hCo (cwV 2 hts gL_build_X6_hold rfl rfl rfl cd_X6_hold ⟨by rw [hR]; exact Nat.le_of_ble_eq_true rfl, by rw [hR]; exact Nat.le_of_ble_eq_true rfl⟩) hx0 rfl rfl rfl hl.1 (Nat.le_of_ble_eq_true rfl) dL_build_154 ⟨by rw [hR]; dsimp only; omega, by rw [hR]; dsimp only; omega⟩ rfl (fun E w9 ce q9 H locs hpx hP hS hce hcv hcl => ?_) (fun r1112 w1113 H locs h1114 hP hS => ?_)
                · have hcd := (show cdHold S1099 (nI k) = 0 from (if_pos ⟨by omega, by omega⟩).trans (if_neg (by omega)))
                  rcases hpx.2 with ⟨_, q⟩ | ⟨_, q⟩ <;> exact absurd (hcd.symm.trans q) (by decide)
                · obtain ⟨hc0, er, hAf⟩ := h1114
                  obtain ⟨S1115, eS1115⟩ : ∃ z, z = nxHold S1099 (nI k) true := ⟨_, rfl⟩
                  rw [← eS1115] at hAf
                  obtain ⟨hB1116, kp1117⟩ := lwB_aft h00 hLn hAf
                  have f1118 : w1113 nn = some (.inl (G.2.1 0, 6, .inl Fn1)) := (kp1117 nn (List.mem_of_getElem? (i := 0) rfl)).trans f1102
                  have f1119 : w1113 ge = some (.inl (G.2.1 0, 80, .inl Fg0)) := (kp1117 ge (List.mem_of_getElem? (i := 2) rfl)).trans f1103
                  have f1120 : w1113 me = some (.inl (G.2.1 0, 32, .inl Fm0)) := (kp1117 me (List.mem_of_getElem? (i := 3) rfl)).trans f1104
                  have f1121 : w1113 pl = some (.inl (G.2.1 0, 20, .inl Fp0)) := (kp1117 pl (List.mem_of_getElem? (i := 4) rfl)).trans f1105
                  have f1122 : w1113 sh = some (.inl (G.2.1 0, 30, .inl (upd (upd (upd Fs (3 * k) (nI (b1007 * 20))) ((3 * k) + 1) (iL (((b1023 * 30 : Nat) : Int) - 30))) ((3 * k) + 2) 1))) := (kp1117 sh (List.mem_of_getElem? (i := 1) rfl)).trans f1106
                  rw [er]
                  obtain ⟨c1, c2, c3⟩ := nx_hold (by omega) eS1115
                  have zk : S1115 0 0 = ((k + 1 : Nat) : Int) ∧ S1115 0 1 = 0 ∧ S1115 0 2 = 0 ∧ S1115 0 3 = 0 ∧ S1115 0 4 = -1 := by rw [c3 0 0 (by decide), c3 0 1 (by decide), c3 0 2 (by decide), c3 0 3 (by decide), c3 0 4 (by decide)]; exact ⟨b0, b1, b2, b3, b4⟩
                  have ask : arS S1115 (k + 1) (upd (upd (upd Fs (3 * k) (nI (b1007 * 20))) ((3 * k) + 1) (iL (((b1023 * 30 : Nat) : Int) - 30))) ((3 * k) + 2) 1) := arS_1 has (fun j hj => by rw [c2 j (by omega), a4 j (by omega)]) (fun j hj => by rw [pk_un (by omega), pk_un (by omega), pk_un (by omega)]) (by rw [c1]; exact pk_us)
                  rw [show vlHold S1099 (nI k) = false from decide_eq_false (by rw [kN_n (by omega), a3]; decide)]
                  refine lv_if_eq (tgt := 162) hx hb dL_build_157 (by decide) (fun c1123 => ?_) (fun c1123 => ?_)
                  · refine W.widen (k := 1 + 6 * (k + 1)) (n := 6 + 126 * (k + 1)) (by omega) (by omega) ?_
                    obtain ⟨i1124, ei1124⟩ : ∃ y : Int32, y = nI k + (1) := ⟨_, rfl⟩
                    refine lv_iinc (v := i1124) (lv' := [(8, .int i1124), (9, .int v1002), (7, .ref nn), (6, .ref pl), (5, .ref me), (4, .ref ge), (3, .ref sh), (2, .int (nI 0)), (1, .ref b9), (0, .ref x)]) hx hb dL_build_162 hl (k := 1) rfl (by rw [ei1124]; rfl) (by decide) rfl (fun ls hl => ?_)
                    have hi1124 : i1124 = nI (k + 1) := by
                      rw [ei1124]
                      exact nI_1 k
                    rw [hi1124]
                    refine lv_goto (tgt := 25) hx hb dL_build_165 (by decide) ?_
                    exact ih_L25 (k + 1) S1115 (upd (upd (upd Fs (3 * k) (nI (b1007 * 20))) ((3 * k) + 1) (iL (((b1023 * 30 : Nat) : Int) - 30))) ((3 * k) + 2) 1) w1113 H locs ls (by omega) (by omega) (hB1116) (zk) (ask) f1118 f1122 f1119 f1120 f1121 hP hS (lv_sub hl [0, 2, 3, 4, 5, 6, 7, 8, 9] rfl)
                  · exact absurd rfl c1123
  exact L25 (n0 + 1) 0 Sz Fs0 w18 H locs ls (by omega) (by omega) (hB24) (hz0) (arS_0 _ _) f23 f19 f20 f21 f22 hP hS (lv_sub hl [0, 1, 8, 7, 6, 5, 4, 3, 2] rfl)
