theorem cd_L_cell : yL_cell.cls ≠ "java/lang/invoke/MethodHandle" ∧ yL_cell.cls ≠ "java/lang/invoke/VarHandle" ∧ (parseMethodDescriptor yL_cell.desc).map (fun d => d.parameters.length) = some 2 := by decide +kernel
theorem cd_L_below : yL_below.cls ≠ "java/lang/invoke/MethodHandle" ∧ yL_below.cls ≠ "java/lang/invoke/VarHandle" ∧ (parseMethodDescriptor yL_below.desc).map (fun d => d.parameters.length) = some 2 := by decide +kernel
theorem cd_X6_addShaft : yX6_addShaft.cls = RX6 ∧ yX6_addShaft.cls ≠ "java/lang/invoke/MethodHandle" ∧ yX6_addShaft.cls ≠ "java/lang/invoke/VarHandle" ∧ (parseMethodDescriptor yX6_addShaft.desc).map (fun d => d.parameters.length) = some 2 := by decide +kernel
theorem cd_X6_hold : yX6_hold.cls = RX6 ∧ yX6_hold.cls ≠ "java/lang/invoke/MethodHandle" ∧ yX6_hold.cls ≠ "java/lang/invoke/VarHandle" ∧ (parseMethodDescriptor yX6_hold.desc).map (fun d => d.parameters.length) = some 2 := by decide +kernel
set_option maxHeartbeats 4000000 in
set_option maxRecDepth 100000 in
theorem bld_1 {p : Program} {l : Launch} {e : Env} {R : Room} {s : State} {m : MethodId} {args : Array Value} {below : List Frame} {meth : Method} {c : Code} {Q : State → Prop} {A : Nat → Prop} {G : g_C} (F : g_F p m c cL_build 15 s args wsL_build RL A G) (hR : R = ({ frames := 8, cells := 400, slots := 7000, locals := 256 } : Room)) (hlt : l.stackTraces = false) {b9 N9 : Nat} {xs : Nat → Int32} (hX : va_X b9 N9 xs s s.heap) (hbl : b9 < s.heap.size) (hbA : ¬ A b9) (hN9 : N9 ≤ 260) (htab : c.exceptionTable.toList = tableOf [(731, 741, 744, 35)]) {x sh ge me pl : Nat} (dshge : sh ≠ ge) (dshme : sh ≠ me) (dshpl : sh ≠ pl) (dgeme : ge ≠ me) (dgepl : ge ≠ pl) (dmepl : me ≠ pl) {Fs0 : Nat → Int32} {Fg0 : Nat → Int32} {Fm0 : Nat → Int32} {Fp0 : Nat → Int32} {w : g_W} (hB0 : lwB G w x Sz [sh, ge, me, pl]) (hsh : w sh = some (.inl (G.2.1 0, 30, .inl Fs0))) (hge : w ge = some (.inl (G.2.1 0, 80, .inl Fg0))) (hme : w me = some (.inl (G.2.1 0, 32, .inl Fm0))) (hpl : w pl = some (.inl (G.2.1 0, 20, .inl Fp0))) {H : Heap} {locs : List Loc} {ls : Array Slot} (hP : g_P A G w H) (hS : va_S A s.heap H locs) (hl : lv_has ls 15 [(0, .ref x), (1, .ref b9), (2, .int (nI 0)), (3, .ref sh), (4, .ref ge), (5, .ref me), (6, .ref pl)])
    (cont : ∀ (nn : Nat) (Fg0 : Nat → Int32) (Fm0 : Nat → Int32) (Fp0 : Nat → Int32) (n0 : Nat) (S : Sg) (Fs : Nat → Int32) (Fn1 : Nat → Int32) (w : g_W) (H : Heap) (locs : List Loc) (ls : Array Slot), (sh ≠ nn) → (ge ≠ nn) → (me ≠ nn) → (pl ≠ nn) → (2 ≤ n0 ∧ n0 ≤ 8) → (S 0 0 = n0) → (S 0 1 = 0) → (S 0 2 = 0) → (S 0 3 = 0) → (S 0 4 = -1) → (arS S n0 Fs) → (Fn1 0 = nI n0) → (∀ i, i ≠ 0 → Fn1 i = 0) → (lwB G w x S [nn, sh, ge, me, pl]) → w nn = some (.inl (G.2.1 0, 6, .inl Fn1)) → w sh = some (.inl (G.2.1 0, 30, .inl Fs)) → w ge = some (.inl (G.2.1 0, 80, .inl Fg0)) → w me = some (.inl (G.2.1 0, 32, .inl Fm0)) → w pl = some (.inl (G.2.1 0, 20, .inl Fp0)) → g_P A G w H → va_S A s.heap H locs → lv_has ls 15 [(7, .ref nn), (6, .ref pl), (5, .ref me), (4, .ref ge), (3, .ref sh), (2, .int (nI 0)), (1, .ref b9), (0, .ref x)] → W p l e R s m args below meth c H locs 60 1100 Q (F0 m 168 ls [])) : W p l e R s m args below meth c H locs 0 0 Q (F0 m 0 ls []) := by
  obtain ⟨⟨hx, hb, hml, hown, hts⟩, hK, hZ, hA⟩ := id F
  have hz0 : Sz 0 0 = ((0 : Nat) : Int) ∧ Sz 0 1 = 0 ∧ Sz 0 2 = 0 ∧ Sz 0 3 = 0 ∧ Sz 0 4 = -1 := ⟨rfl, rfl, rfl, rfl, rfl⟩
  refine lv_bipush (v := 6) hx hb dL_build_0 (by decide) ?_
  refine g_newaI F hP hS (N' := 6) (List.mem_cons_of_mem _ (List.mem_append_left _ (List.mem_append_left _ (List.mem_append_left _ (List.mem_append_left _ (List.mem_append_left _ (List.mem_append_left _ (List.mem_append_left _ (List.mem_append_left _ (List.mem_append_left _ (List.mem_append_left _ (List.mem_append_left _ (List.mem_append_left _ (List.mem_append_left _ (List.mem_of_getElem? (i := 1) rfl))))))))))))))) (by decide) (by decide) (by decide) (by rw [hR]; exact Nat.le_of_ble_eq_true rfl) (by rw [hR]; exact Nat.le_of_ble_eq_true rfl) dL_build_2 (fun nn H nnn hP hS => ?_)
  obtain ⟨w1, ew1⟩ : ∃ z, z = g_up w nn (.inl (G.2.1 0, 6, .inl (fun _ => 0))) := ⟨_, rfl⟩
  have hP : g_P A G w1 H := by rw [ew1]; exact hP
  have f2 : w1 sh = some (.inl (G.2.1 0, 30, .inl Fs0)) := by rw [ew1]; exact g_up_f hsh (g_neq hsh nnn)
  have f3 : w1 ge = some (.inl (G.2.1 0, 80, .inl Fg0)) := by rw [ew1]; exact g_up_f hge (g_neq hge nnn)
  have f4 : w1 me = some (.inl (G.2.1 0, 32, .inl Fm0)) := by rw [ew1]; exact g_up_f hme (g_neq hme nnn)
  have f5 : w1 pl = some (.inl (G.2.1 0, 20, .inl Fp0)) := by rw [ew1]; exact g_up_f hpl (g_neq hpl nnn)
  have f6 : w1 nn = some (.inl (G.2.1 0, 6, .inl (fun _ => 0))) := by rw [ew1]; exact g_up_s _ _ _
  have hB7 := lwB_new hB0 nnn ew1
  have dnnsh : sh ≠ nn := g_neq hsh nnn
  have dnnge : ge ≠ nn := g_neq hge nnn
  have dnnme : me ≠ nn := g_neq hme nnn
  have dnnpl : pl ≠ nn := g_neq hpl nnn
  refine lv_astore (lv' := [(7, .ref nn), (0, .ref x), (1, .ref b9), (2, .int (nI 0)), (3, .ref sh), (4, .ref ge), (5, .ref me), (6, .ref pl)]) hx hb dL_build_4 hl (by decide) rfl (fun ls hl => ?_)
  refine lv_aload hx hb dL_build_6 (lv_at hl 0 rfl) ?_
  refine lv_iconst (v := 0) hx hb dL_build_8 (by decide) ?_
  refine lv_iconst (v := 2) hx hb dL_build_9 (by decide) ?_
  refine lv_aload_n hx hb dL_build_10 rfl (lv_at hl 2 rfl) ?_
  refine lv_iload_n hx hb dL_build_11 rfl (lv_at hl 3 rfl) ?_
  refine g_SiS (As := [.ref b9, .int (nI 0)]) (rest := [.int 2, .int 0, .ref nn]) F hP hS hX hbl hbA (k_L_cell l A G w1 b9 N9 xs hbA 0 (by omega) hN9) (va_cwS 2 hts gL_build_L_cell rfl rfl rfl cd_L_cell ⟨by rw [hR]; exact Nat.le_of_ble_eq_true rfl, by rw [hR]; exact Nat.le_of_ble_eq_true rfl⟩) rfl hl.1 (Nat.le_of_ble_eq_true rfl) dL_build_12 ⟨by rw [hR]; dsimp only; omega, by rw [hR]; dsimp only; omega⟩ rfl (fun r8 w9 H locs h10 hP hS => ?_)
  rw [h10] at hP
  refine lv_bipush (v := 7) hx hb dL_build_15 (by decide) ?_
  refine g_Si (As := [.int r8, .int 7]) (rest := [.int 2, .int 0, .ref nn]) F hP hS (k_L_below l A G w1 r8 7 (by omega) (by omega)) (va_cwS 2 hts gL_build_L_below rfl rfl rfl cd_L_below ⟨by rw [hR]; exact Nat.le_of_ble_eq_true rfl, by rw [hR]; exact Nat.le_of_ble_eq_true rfl⟩) rfl hl.1 (Nat.le_of_ble_eq_true rfl) dL_build_17 ⟨by rw [hR]; dsimp only; omega, by rw [hR]; dsimp only; omega⟩ rfl (fun r11 w12 H locs h13 hP hS => ?_)
  have hr11 := h13.1
  rw [h13.2] at hP
  rw [hr11]
  obtain ⟨b14, eb14⟩ : ∃ z, z = blw r8 7 := ⟨_, rfl⟩
  rw [← eb14]
  have k15 : b14 < 7 := by rw [eb14]; exact blw_lt _ (by omega)
  refine lv_iadd hx hb dL_build_20 ?_
  refine lv_topi (fun v16 ev16 => ?_)
  have hv16 : v16 = nI (2 + b14) := by
    rw [ev16]
    exact nI_add 2 b14
  rw [hv16]
  refine g_iast F hP hS f6 (by unfold vp_in; decide) dL_build_21 (fun H locs hP hS => ?_)
  rw [show (0 : Int32).toNatClampNeg = 0 from by decide] at hP
  obtain ⟨w17, ew17⟩ : ∃ z, z = g_up w1 nn (.inl (G.2.1 0, 6, .inl (upd (fun _ => 0) 0 (nI (2 + b14))))) := ⟨_, rfl⟩
  have hP : g_P A G w17 H := by rw [ew17]; exact hP
  have f18 : w17 sh = some (.inl (G.2.1 0, 30, .inl Fs0)) := by rw [ew17]; exact g_up_f f2 (dnnsh)
  have f19 : w17 ge = some (.inl (G.2.1 0, 80, .inl Fg0)) := by rw [ew17]; exact g_up_f f3 (dnnge)
  have f20 : w17 me = some (.inl (G.2.1 0, 32, .inl Fm0)) := by rw [ew17]; exact g_up_f f4 (dnnme)
  have f21 : w17 pl = some (.inl (G.2.1 0, 20, .inl Fp0)) := by rw [ew17]; exact g_up_f f5 (dnnpl)
  have f22 : w17 nn = some (.inl (G.2.1 0, 6, .inl (upd (fun _ => 0) 0 (nI (2 + b14))))) := by rw [ew17]; exact g_up_s _ _ _
  have hB23 := lwB_set hB7 (List.mem_of_getElem? (i := 0) rfl) ew17
  obtain ⟨n0, en0⟩ : ∃ z, z = 2 + b14 := ⟨_, rfl⟩
  obtain ⟨Fn1, eFn⟩ : ∃ f : Nat → Int32, f = upd (fun _ => 0) 0 (nI (2 + b14)) := ⟨_, rfl⟩
  rw [← eFn] at f22
  have hf0 : Fn1 0 = nI n0 := by rw [eFn, en0]; exact pk_us
  have hfz : ∀ i, i ≠ 0 → Fn1 i = 0 := fun i hi => by rw [eFn]; exact pk_un hi
  have hn0 : 2 ≤ n0 ∧ n0 ≤ 8 := by omega
  refine lv_iconst (v := 0) hx hb dL_build_22 (by decide) ?_
  refine lv_istore (lv' := [(8, .int 0), (7, .ref nn), (0, .ref x), (1, .ref b9), (2, .int (nI 0)), (3, .ref sh), (4, .ref ge), (5, .ref me), (6, .ref pl)]) hx hb dL_build_23 hl (by decide) rfl (fun ls hl => ?_)
  have L25 : ∀ (n : Nat) (k : Nat) (S : Sg) (Fs : Nat → Int32) (w : g_W) (H : Heap) (locs : List Loc) (ls : Array Slot), n0 + 1 ≤ k + n → (k ≤ n0) → (lwB G w x S [nn, sh, ge, me, pl]) → (S 0 0 = k ∧ S 0 1 = 0 ∧ S 0 2 = 0 ∧ S 0 3 = 0 ∧ S 0 4 = -1) → (arS S k Fs) → w nn = some (.inl (G.2.1 0, 6, .inl Fn1)) → w sh = some (.inl (G.2.1 0, 30, .inl Fs)) → w ge = some (.inl (G.2.1 0, 80, .inl Fg0)) → w me = some (.inl (G.2.1 0, 32, .inl Fm0)) → w pl = some (.inl (G.2.1 0, 20, .inl Fp0)) → g_P A G w H → va_S A s.heap H locs → lv_has ls 15 [(8, .int (nI k)), (7, .ref nn), (6, .ref pl), (5, .ref me), (4, .ref ge), (3, .ref sh), (2, .int (nI 0)), (1, .ref b9), (0, .ref x)] → W p l e R s m args below meth c H locs ((1 + 6 * k)) ((6 + 126 * k)) Q (F0 m 25 ls []) := by
    intro n
    induction n with
    | zero =>
      intro k S Fs w H locs ls hfu hk hB hz has hnn hsh hge hme hpl hP hS hl
      exact absurd hfu (by omega)
    | succ n ih_L25 =>
      intro k S Fs w H locs ls hfu hk hB hz has hnn hsh hge hme hpl hP hS hl
      refine lv_iload hx hb dL_build_25 (lv_at hl 0 rfl) ?_
      refine lv_aload hx hb dL_build_27 (lv_at hl 1 rfl) ?_
      refine lv_iconst (v := 0) hx hb dL_build_29 (by decide) ?_
      refine g_iald F hP hnn (by unfold vp_in; decide) dL_build_30 ?_
      refine lv_topi (fun v24 ev24 => ?_)
      have hv24 : v24 = nI n0 := by
        rw [ev24]
        rw [show (0 : Int32).toNatClampNeg = 0 from by decide]
        exact hf0
      rw [hv24]
      refine lv_icmp_ge (tgt := 168) hx hb dL_build_31 (by decide) (fun c25 => ?_) (fun c25 => ?_)
      · have zc25 : n0 ≤ k := (nI_leI (by omega) (by omega)).mp c25
        refine W.widen (k := 60) (n := 1100) (by omega) (by omega) ?_
        have ekn : k = n0 := by omega
        rw [ekn] at has hz
        obtain ⟨zz0, zz1, zz2, zz3, zz4⟩ := hz
        exact cont nn Fg0 Fm0 Fp0 n0 S Fs Fn1 w H locs ls (dnnsh) (dnnge) (dnnme) (dnnpl) (hn0) (zz0) (zz1) (zz2) (zz3) (zz4) (has) (hf0) (hfz) (hB) hnn hsh hge hme hpl hP hS (lv_sub hl [1, 2, 3, 4, 5, 6, 7, 8] rfl)
      · have hkn : k < n0 := Nat.not_le.mp (fun q => c25 (nI_le q (by omega)))
        refine lv_aload_n hx hb dL_build_34 rfl (lv_at hl 7 rfl) ?_
        refine lv_iload_n hx hb dL_build_35 rfl (lv_at hl 6 rfl) ?_
        refine lv_iconst (v := 1) hx hb dL_build_36 (by decide) ?_
        refine lv_iadd hx hb dL_build_37 ?_
        refine lv_topi (fun v26 ev26 => ?_)
        have hv26 : v26 = nI (0 + 1) := by
          rw [ev26]
          exact nI_add 0 1
        rw [hv26]
        refine g_SiS (As := [.ref b9, .int (nI (0 + 1))]) (rest := []) F hP hS hX hbl hbA (k_L_cell l A G w b9 N9 xs hbA (0 + 1) (by omega) hN9) (va_cwS 2 hts gL_build_L_cell rfl rfl rfl cd_L_cell ⟨by rw [hR]; exact Nat.le_of_ble_eq_true rfl, by rw [hR]; exact Nat.le_of_ble_eq_true rfl⟩) rfl hl.1 (Nat.le_of_ble_eq_true rfl) dL_build_38 ⟨by rw [hR]; dsimp only; omega, by rw [hR]; dsimp only; omega⟩ rfl (fun r27 w28 H locs h29 hP hS => ?_)
        rw [h29] at hP
        refine lv_iconst (v := 2) hx hb dL_build_41 (by decide) ?_
        refine lv_iload hx hb dL_build_42 (lv_at hl 0 rfl) ?_
        refine lv_imul hx hb dL_build_44 ?_
        refine lv_topi (fun v30 ev30 => ?_)
        have hv30 : v30 = nI (2 * k) := by
          rw [ev30]
          exact pk_mul 2 k
        rw [hv30]
        refine lv_ishr hx hb dL_build_45 ?_
        refine lv_topi (fun v31 ev31 => ?_)
        refine lv_istore (lv' := [(9, .int v31), (8, .int (nI k)), (7, .ref nn), (6, .ref pl), (5, .ref me), (4, .ref ge), (3, .ref sh), (2, .int (nI 0)), (1, .ref b9), (0, .ref x)]) hx hb dL_build_46 hl (by decide) rfl (fun ls hl => ?_)
        refine lv_aload_n hx hb dL_build_48 rfl (lv_at hl 6 rfl) ?_
        refine lv_iconst (v := 3) hx hb dL_build_49 (by decide) ?_
        refine lv_iload hx hb dL_build_50 (lv_at hl 1 rfl) ?_
        refine lv_imul hx hb dL_build_52 ?_
        refine lv_topi (fun v32 ev32 => ?_)
        have hv32 : v32 = nI (3 * k) := by
          rw [ev32]
          exact pk_mul 3 k
        rw [hv32]
        refine lv_iload hx hb dL_build_53 (lv_at hl 0 rfl) ?_
        refine lv_bipush (v := 9) hx hb dL_build_55 (by decide) ?_
        refine g_Si (As := [.int v31, .int 9]) (rest := [.int (nI (3 * k)), .ref sh]) F hP hS (k_L_below l A G w v31 9 (by omega) (by omega)) (va_cwS 2 hts gL_build_L_below rfl rfl rfl cd_L_below ⟨by rw [hR]; exact Nat.le_of_ble_eq_true rfl, by rw [hR]; exact Nat.le_of_ble_eq_true rfl⟩) rfl hl.1 (Nat.le_of_ble_eq_true rfl) dL_build_57 ⟨by rw [hR]; dsimp only; omega, by rw [hR]; dsimp only; omega⟩ rfl (fun r33 w34 H locs h35 hP hS => ?_)
        have hr33 := h35.1
        rw [h35.2] at hP
        rw [hr33]
        obtain ⟨b36, eb36⟩ : ∃ z, z = blw v31 9 := ⟨_, rfl⟩
        rw [← eb36]
        have k37 : b36 < 9 := by rw [eb36]; exact blw_lt _ (by omega)
        refine lv_bipush (v := 20) hx hb dL_build_60 (by decide) ?_
        refine lv_imul hx hb dL_build_62 ?_
        refine lv_topi (fun v38 ev38 => ?_)
        have hv38 : v38 = nI (b36 * 20) := by
          rw [ev38]
          exact pk_mul b36 20
        rw [hv38]
        refine g_iast F hP hS hsh (vp_in_nI (by omega) (by omega)) dL_build_63 (fun H locs hP hS => ?_)
        rw [nI_clamp (n := 3 * k) (by omega)] at hP
        obtain ⟨w39, ew39⟩ : ∃ z, z = g_up w sh (.inl (G.2.1 0, 30, .inl (upd Fs (3 * k) (nI (b36 * 20))))) := ⟨_, rfl⟩
        have hP : g_P A G w39 H := by rw [ew39]; exact hP
        have f40 : w39 nn = some (.inl (G.2.1 0, 6, .inl Fn1)) := by rw [ew39]; exact g_up_f hnn (Ne.symm (dnnsh))
        have f41 : w39 ge = some (.inl (G.2.1 0, 80, .inl Fg0)) := by rw [ew39]; exact g_up_f hge (Ne.symm (dshge))
        have f42 : w39 me = some (.inl (G.2.1 0, 32, .inl Fm0)) := by rw [ew39]; exact g_up_f hme (Ne.symm (dshme))
        have f43 : w39 pl = some (.inl (G.2.1 0, 20, .inl Fp0)) := by rw [ew39]; exact g_up_f hpl (Ne.symm (dshpl))
        have f44 : w39 sh = some (.inl (G.2.1 0, 30, .inl (upd Fs (3 * k) (nI (b36 * 20))))) := by rw [ew39]; exact g_up_s _ _ _
        have hB45 := lwB_set hB (List.mem_of_getElem? (i := 1) rfl) ew39
        refine lv_aload_n hx hb dL_build_64 rfl (lv_at hl 6 rfl) ?_
        refine lv_iconst (v := 3) hx hb dL_build_65 (by decide) ?_
        refine lv_iload hx hb dL_build_66 (lv_at hl 1 rfl) ?_
        refine lv_imul hx hb dL_build_68 ?_
        refine lv_topi (fun v46 ev46 => ?_)
        have hv46 : v46 = nI (3 * k) := by
          rw [ev46]
          exact pk_mul 3 k
        rw [hv46]
        refine lv_iconst (v := 1) hx hb dL_build_69 (by decide) ?_
        refine lv_iadd hx hb dL_build_70 ?_
        refine lv_topi (fun v47 ev47 => ?_)
        have hv47 : v47 = nI (3 * k + 1) := by
          rw [ev47]
          exact nI_add (3 * k) 1
        rw [hv47]
        refine lv_iload hx hb dL_build_71 (lv_at hl 0 rfl) ?_
        refine lv_iconst (v := 3) hx hb dL_build_73 (by decide) ?_
        refine lv_ishr hx hb dL_build_74 ?_
        refine lv_topi (fun v48 ev48 => ?_)
        refine lv_iconst (v := 4) hx hb dL_build_75 (by decide) ?_
        refine g_Si (As := [.int v48, .int 4]) (rest := [.int (nI (3 * k + 1)), .ref sh]) F hP hS (k_L_below l A G w39 v48 4 (by omega) (by omega)) (va_cwS 2 hts gL_build_L_below rfl rfl rfl cd_L_below ⟨by rw [hR]; exact Nat.le_of_ble_eq_true rfl, by rw [hR]; exact Nat.le_of_ble_eq_true rfl⟩) rfl hl.1 (Nat.le_of_ble_eq_true rfl) dL_build_76 ⟨by rw [hR]; dsimp only; omega, by rw [hR]; dsimp only; omega⟩ rfl (fun r49 w50 H locs h51 hP hS => ?_)
        have hr49 := h51.1
        rw [h51.2] at hP
        rw [hr49]
        obtain ⟨b52, eb52⟩ : ∃ z, z = blw v48 4 := ⟨_, rfl⟩
        rw [← eb52]
        have k53 : b52 < 4 := by rw [eb52]; exact blw_lt _ (by omega)
        refine lv_bipush (v := 30) hx hb dL_build_79 (by decide) ?_
        refine lv_imul hx hb dL_build_81 ?_
        refine lv_topi (fun v54 ev54 => ?_)
        have hv54 : v54 = nI (b52 * 30) := by
          rw [ev54]
          exact pk_mul b52 30
        rw [hv54]
        refine lv_bipush (v := 30) hx hb dL_build_82 (by decide) ?_
        refine lv_isub hx hb dL_build_84 ?_
        refine lv_topi (fun v55 ev55 => ?_)
        have hv55 : v55 = iL (((b52 * 30 : Nat) : Int) - 30) := by
          rw [ev55]
          rw [← iL_n]; exact iL_sub _ 30
        rw [hv55]
        refine g_iast F hP hS f44 (vp_in_nI (by omega) (by omega)) dL_build_85 (fun H locs hP hS => ?_)
        rw [nI_clamp (n := 3 * k + 1) (by omega)] at hP
        obtain ⟨w56, ew56⟩ : ∃ z, z = g_up w39 sh (.inl (G.2.1 0, 30, .inl (upd (upd Fs (3 * k) (nI (b36 * 20))) (3 * k + 1) (iL (((b52 * 30 : Nat) : Int) - 30))))) := ⟨_, rfl⟩
        have hP : g_P A G w56 H := by rw [ew56]; exact hP
        have f57 : w56 nn = some (.inl (G.2.1 0, 6, .inl Fn1)) := by rw [ew56]; exact g_up_f f40 (Ne.symm (dnnsh))
        have f58 : w56 ge = some (.inl (G.2.1 0, 80, .inl Fg0)) := by rw [ew56]; exact g_up_f f41 (Ne.symm (dshge))
        have f59 : w56 me = some (.inl (G.2.1 0, 32, .inl Fm0)) := by rw [ew56]; exact g_up_f f42 (Ne.symm (dshme))
        have f60 : w56 pl = some (.inl (G.2.1 0, 20, .inl Fp0)) := by rw [ew56]; exact g_up_f f43 (Ne.symm (dshpl))
        have f61 : w56 sh = some (.inl (G.2.1 0, 30, .inl (upd (upd Fs (3 * k) (nI (b36 * 20))) (3 * k + 1) (iL (((b52 * 30 : Nat) : Int) - 30))))) := by rw [ew56]; exact g_up_s _ _ _
        have hB62 := lwB_set hB45 (List.mem_of_getElem? (i := 1) rfl) ew56
        refine lv_aload_n hx hb dL_build_86 rfl (lv_at hl 6 rfl) ?_
        refine lv_iconst (v := 3) hx hb dL_build_87 (by decide) ?_
        refine lv_iload hx hb dL_build_88 (lv_at hl 1 rfl) ?_
        refine lv_imul hx hb dL_build_90 ?_
        refine lv_topi (fun v63 ev63 => ?_)
        have hv63 : v63 = nI (3 * k) := by
          rw [ev63]
          exact pk_mul 3 k
        rw [hv63]
        refine lv_iconst (v := 2) hx hb dL_build_91 (by decide) ?_
        refine lv_iadd hx hb dL_build_92 ?_
        refine lv_topi (fun v64 ev64 => ?_)
        have hv64 : v64 = nI (3 * k + 2) := by
          rw [ev64]
          exact nI_add (3 * k) 2
        rw [hv64]
        refine lv_iload hx hb dL_build_93 (lv_at hl 0 rfl) ?_
        refine lv_iconst (v := 5) hx hb dL_build_95 (by decide) ?_
        refine lv_ishr hx hb dL_build_96 ?_
        refine lv_topi (fun v65 ev65 => ?_)
        refine lv_bipush (v := 7) hx hb dL_build_97 (by decide) ?_
        refine g_Si (As := [.int v65, .int 7]) (rest := [.int (nI (3 * k + 2)), .ref sh]) F hP hS (k_L_below l A G w56 v65 7 (by omega) (by omega)) (va_cwS 2 hts gL_build_L_below rfl rfl rfl cd_L_below ⟨by rw [hR]; exact Nat.le_of_ble_eq_true rfl, by rw [hR]; exact Nat.le_of_ble_eq_true rfl⟩) rfl hl.1 (Nat.le_of_ble_eq_true rfl) dL_build_99 ⟨by rw [hR]; dsimp only; omega, by rw [hR]; dsimp only; omega⟩ rfl (fun r66 w67 H locs h68 hP hS => ?_)
        have hr66 := h68.1
        rw [h68.2] at hP
        rw [hr66]
        obtain ⟨b69, eb69⟩ : ∃ z, z = blw v65 7 := ⟨_, rfl⟩
        rw [← eb69]
        have k70 : b69 < 7 := by rw [eb69]; exact blw_lt _ (by omega)
        refine lv_if_ne (tgt := 109) hx hb dL_build_102 (by decide) (fun c71 => ?_) (fun c71 => ?_)
        · refine lv_iconst (v := 0) hx hb dL_build_109 (by decide) ?_
          refine g_iast F hP hS f61 (vp_in_nI (by omega) (by omega)) dL_build_110 (fun H locs hP hS => ?_)
          rw [nI_clamp (n := 3 * k + 2) (by omega)] at hP
          obtain ⟨w72, ew72⟩ : ∃ z, z = g_up w56 sh (.inl (G.2.1 0, 30, .inl (upd (upd (upd Fs (3 * k) (nI (b36 * 20))) (3 * k + 1) (iL (((b52 * 30 : Nat) : Int) - 30))) (3 * k + 2) 0))) := ⟨_, rfl⟩
          have hP : g_P A G w72 H := by rw [ew72]; exact hP
          have f73 : w72 nn = some (.inl (G.2.1 0, 6, .inl Fn1)) := by rw [ew72]; exact g_up_f f57 (Ne.symm (dnnsh))
          have f74 : w72 ge = some (.inl (G.2.1 0, 80, .inl Fg0)) := by rw [ew72]; exact g_up_f f58 (Ne.symm (dshge))
          have f75 : w72 me = some (.inl (G.2.1 0, 32, .inl Fm0)) := by rw [ew72]; exact g_up_f f59 (Ne.symm (dshme))
          have f76 : w72 pl = some (.inl (G.2.1 0, 20, .inl Fp0)) := by rw [ew72]; exact g_up_f f60 (Ne.symm (dshpl))
          have f77 : w72 sh = some (.inl (G.2.1 0, 30, .inl (upd (upd (upd Fs (3 * k) (nI (b36 * 20))) (3 * k + 1) (iL (((b52 * 30 : Nat) : Int) - 30))) (3 * k + 2) 0))) := by rw [ew72]; exact g_up_s _ _ _
          have hB78 := lwB_set hB62 (List.mem_of_getElem? (i := 1) rfl) ew72
          refine lv_aload_n hx hb dL_build_111 rfl (lv_at hl 9 rfl) ?_
          refine lv_aload_n hx hb dL_build_112 rfl (lv_at hl 6 rfl) ?_
          refine lv_iconst (v := 3) hx hb dL_build_113 (by decide) ?_
          refine lv_iload hx hb dL_build_114 (lv_at hl 1 rfl) ?_
          refine lv_imul hx hb dL_build_116 ?_
          refine lv_topi (fun v79 ev79 => ?_)
          have hv79 : v79 = nI (3 * k) := by
            rw [ev79]
            exact pk_mul 3 k
          rw [hv79]
          refine g_iald F hP f77 (vp_in_nI (by omega) (by omega)) dL_build_117 ?_
          refine lv_topi (fun v80 ev80 => ?_)
          have hv80 : v80 = nI (b36 * 20) := by
            rw [ev80]
            rw [nI_clamp (n := 3 * k) (by omega)]
            exact (pk_un (k := (3 * k + 2)) (j := (3 * k)) (by omega)).trans ((pk_un (k := (3 * k + 1)) (j := (3 * k)) (by omega)).trans (pk_us))
          rw [hv80]
          refine lv_aload_n hx hb dL_build_118 rfl (lv_at hl 6 rfl) ?_
          refine lv_iconst (v := 3) hx hb dL_build_119 (by decide) ?_
          refine lv_iload hx hb dL_build_120 (lv_at hl 1 rfl) ?_
          refine lv_imul hx hb dL_build_122 ?_
          refine lv_topi (fun v81 ev81 => ?_)
          have hv81 : v81 = nI (3 * k) := by
            rw [ev81]
            exact pk_mul 3 k
          rw [hv81]
          refine lv_iconst (v := 1) hx hb dL_build_123 (by decide) ?_
          refine lv_iadd hx hb dL_build_124 ?_
          refine lv_topi (fun v82 ev82 => ?_)
          have hv82 : v82 = nI (3 * k + 1) := by
            rw [ev82]
            exact nI_add (3 * k) 1
          rw [hv82]
          refine g_iald F hP f77 (vp_in_nI (by omega) (by omega)) dL_build_125 ?_
          refine lv_topi (fun v83 ev83 => ?_)
          have hv83 : v83 = iL (((b52 * 30 : Nat) : Int) - 30) := by
            rw [ev83]
            rw [nI_clamp (n := 3 * k + 1) (by omega)]
            exact (pk_un (k := (3 * k + 2)) (j := (3 * k + 1)) (by omega)).trans (pk_us)
          rw [hv83]
          have tX : (nI (b36 * 20)).toInt = ((b36 * 20 : Nat) : Int) := nI_i _ (by omega)
          have tY : (iL (((b52 * 30 : Nat) : Int) - 30)).toInt = ((b52 * 30 : Nat) : Int) - 30 := iL_t (by omega) (by omega)
          have hplq : plQ (nI (b36 * 20)) (iL (((b52 * 30 : Nat) : Int) - 30)) := by unfold plQ inQ; rw [tX, tY]; omega
          obtain ⟨ad, Cn, T, h00, hBn, hLn⟩ := id hB78
          have hCo := k_X6_addShaft l hlt A G w72 ad Cn S T (nI (b36 * 20)) (iL (((b52 * 30 : Nat) : Int) - 30)) hBn.1 hBn.2.1 hBn.2.2.1 hBn.2.2.2.1 hBn.2.2.2.2
          rw [h00] at hCo
          have hx0 := rep_x hBn.1 hBn.2.1
          rw [h00] at hx0
          refine g_cVi (As := [.int (nI (b36 * 20)), .int (iL (((b52 * 30 : Nat) : Int) - 30))]) (rest := []) F hP hS hCo (cwV 2 hts gL_build_X6_addShaft rfl rfl rfl cd_X6_addShaft ⟨by rw [hR]; exact Nat.le_of_ble_eq_true rfl, by rw [hR]; exact Nat.le_of_ble_eq_true rfl⟩) hx0 rfl rfl rfl hl.1 (Nat.le_of_ble_eq_true rfl) dL_build_126 ⟨by rw [hR]; dsimp only; omega, by rw [hR]; dsimp only; omega⟩ rfl (fun E w9 ce q9 H locs hpx hP hS hce hcv hcl => ?_) (fun r84 w85 H locs h86 hP hS => ?_)
          · have hcd := (show cdAddShaft S (nI (b36 * 20)) (iL (((b52 * 30 : Nat) : Int) - 30)) = 0 from (if_pos hplq).trans (if_pos (by omega)))
            rcases hpx.2 with ⟨_, q⟩ | ⟨_, q⟩ <;> exact absurd (hcd.symm.trans q) (by decide)
          · obtain ⟨hc0, er, hAf⟩ := h86
            obtain ⟨S87, eS87⟩ : ∃ z, z = nxAddShaft S (nI (b36 * 20)) (iL (((b52 * 30 : Nat) : Int) - 30)) := ⟨_, rfl⟩
            rw [← eS87] at hAf
            obtain ⟨hB88, kp89⟩ := lwB_aft h00 hLn hAf
            have f90 : w85 nn = some (.inl (G.2.1 0, 6, .inl Fn1)) := (kp89 nn (List.mem_of_getElem? (i := 0) rfl)).trans f73
            have f91 : w85 ge = some (.inl (G.2.1 0, 80, .inl Fg0)) := (kp89 ge (List.mem_of_getElem? (i := 2) rfl)).trans f74
            have f92 : w85 me = some (.inl (G.2.1 0, 32, .inl Fm0)) := (kp89 me (List.mem_of_getElem? (i := 3) rfl)).trans f75
            have f93 : w85 pl = some (.inl (G.2.1 0, 20, .inl Fp0)) := (kp89 pl (List.mem_of_getElem? (i := 4) rfl)).trans f76
            have f94 : w85 sh = some (.inl (G.2.1 0, 30, .inl (upd (upd (upd Fs (3 * k) (nI (b36 * 20))) (3 * k + 1) (iL (((b52 * 30 : Nat) : Int) - 30))) (3 * k + 2) 0))) := (kp89 sh (List.mem_of_getElem? (i := 1) rfl)).trans f77
            rw [er]
            obtain ⟨a1, a2, a3, a4, a5⟩ := nx_shaft eS87
            have s0n : (S 0 0).toNat = k := by omega
            rw [s0n] at a3 a4
            have b0 : S87 0 0 = ((k + 1 : Nat) : Int) := by rw [a1]; omega
            have b1 : S87 0 1 = 0 := by rw [a2 1 (by decide)]; omega
            have b2 : S87 0 2 = 0 := by rw [a2 2 (by decide)]; omega
            have b3 : S87 0 3 = 0 := by rw [a2 3 (by decide)]; omega
            have b4 : S87 0 4 = -1 := by rw [a2 4 (by decide)]; omega
            unfold vlAddShaft
            refine lv_iload hx hb dL_build_129 (lv_at hl 1 rfl) ?_
            refine lv_icmp_ne (tgt := 160) hx hb dL_build_131 (by decide) (fun c95 => ?_) (fun c95 => ?_)
            · exact absurd (iL_nat (by omega)) c95
            · refine lv_aload_n hx hb dL_build_134 rfl (lv_at hl 9 rfl) ?_
              refine lv_iload hx hb dL_build_135 (lv_at hl 1 rfl) ?_
              refine lv_aload_n hx hb dL_build_137 rfl (lv_at hl 6 rfl) ?_
              refine lv_iconst (v := 3) hx hb dL_build_138 (by decide) ?_
              refine lv_iload hx hb dL_build_139 (lv_at hl 1 rfl) ?_
              refine lv_imul hx hb dL_build_141 ?_
              refine lv_topi (fun v96 ev96 => ?_)
              have hv96 : v96 = nI (3 * k) := by
                rw [ev96]
                exact pk_mul 3 k
              rw [hv96]
              refine lv_iconst (v := 2) hx hb dL_build_142 (by decide) ?_
              refine lv_iadd hx hb dL_build_143 ?_
              refine lv_topi (fun v97 ev97 => ?_)
              have hv97 : v97 = nI (3 * k + 2) := by
                rw [ev97]
                exact nI_add (3 * k) 2
              rw [hv97]
              refine g_iald F hP f94 (vp_in_nI (by omega) (by omega)) dL_build_144 ?_
              refine lv_topi (fun v98 ev98 => ?_)
              have hv98 : v98 = 0 := by
                rw [ev98]
                rw [nI_clamp (n := 3 * k + 2) (by omega)]
                exact pk_us
              rw [hv98]
              refine lv_iconst (v := 1) hx hb dL_build_145 (by decide) ?_
              refine lv_icmp_ne (tgt := 153) hx hb dL_build_146 (by decide) (fun c99 => ?_) (fun c99 => ?_)
              · refine lv_iconst (v := 0) hx hb dL_build_153 (by decide) ?_
                rw [show (.int 0 : Value) = .int (g_b false) from rfl]
                have tk := nI_i k (by omega)
                obtain ⟨ad, Cn, T, h00, hBn, hLn⟩ := id hB88
                have hCo := k_X6_hold l hlt A G w85 ad Cn S87 T (nI k) false hBn.1 hBn.2.1 hBn.2.2.1 hBn.2.2.2.1 hBn.2.2.2.2
                rw [h00] at hCo
                have hx0 := rep_x hBn.1 hBn.2.1
                rw [h00] at hx0
                refine g_cVi (As := [.int (nI k), .int (g_b false)]) (rest := []) F hP hS hCo (cwV 2 hts gL_build_X6_hold rfl rfl rfl cd_X6_hold ⟨by rw [hR]; exact Nat.le_of_ble_eq_true rfl, by rw [hR]; exact Nat.le_of_ble_eq_true rfl⟩) hx0 rfl rfl rfl hl.1 (Nat.le_of_ble_eq_true rfl) dL_build_154 ⟨by rw [hR]; dsimp only; omega, by rw [hR]; dsimp only; omega⟩ rfl (fun E w9 ce q9 H locs hpx hP hS hce hcv hcl => ?_) (fun r100 w101 H locs h102 hP hS => ?_)
                · have hcd := (show cdHold S87 (nI k) = 0 from (if_pos ⟨by omega, by omega⟩).trans (if_neg (by omega)))
                  rcases hpx.2 with ⟨_, q⟩ | ⟨_, q⟩ <;> exact absurd (hcd.symm.trans q) (by decide)
                · obtain ⟨hc0, er, hAf⟩ := h102
                  obtain ⟨S103, eS103⟩ : ∃ z, z = nxHold S87 (nI k) false := ⟨_, rfl⟩
                  rw [← eS103] at hAf
                  obtain ⟨hB104, kp105⟩ := lwB_aft h00 hLn hAf
                  have f106 : w101 nn = some (.inl (G.2.1 0, 6, .inl Fn1)) := (kp105 nn (List.mem_of_getElem? (i := 0) rfl)).trans f90
                  have f107 : w101 ge = some (.inl (G.2.1 0, 80, .inl Fg0)) := (kp105 ge (List.mem_of_getElem? (i := 2) rfl)).trans f91
                  have f108 : w101 me = some (.inl (G.2.1 0, 32, .inl Fm0)) := (kp105 me (List.mem_of_getElem? (i := 3) rfl)).trans f92
                  have f109 : w101 pl = some (.inl (G.2.1 0, 20, .inl Fp0)) := (kp105 pl (List.mem_of_getElem? (i := 4) rfl)).trans f93
                  have f110 : w101 sh = some (.inl (G.2.1 0, 30, .inl (upd (upd (upd Fs (3 * k) (nI (b36 * 20))) (3 * k + 1) (iL (((b52 * 30 : Nat) : Int) - 30))) (3 * k + 2) 0))) := (kp105 sh (List.mem_of_getElem? (i := 1) rfl)).trans f94
                  rw [er]
                  obtain ⟨c1, c2, c3⟩ := nx_hold (by omega) eS103
                  have zk : S103 0 0 = ((k + 1 : Nat) : Int) ∧ S103 0 1 = 0 ∧ S103 0 2 = 0 ∧ S103 0 3 = 0 ∧ S103 0 4 = -1 := by rw [c3 0 0 (by decide), c3 0 1 (by decide), c3 0 2 (by decide), c3 0 3 (by decide), c3 0 4 (by decide)]; exact ⟨b0, b1, b2, b3, b4⟩
                  have ask : arS S103 (k + 1) (upd (upd (upd Fs (3 * k) (nI (b36 * 20))) (3 * k + 1) (iL (((b52 * 30 : Nat) : Int) - 30))) (3 * k + 2) 0) := arS_1 has (fun j hj => by rw [c2 j (by omega), a4 j (by omega)]) (fun j hj => by rw [pk_un (by omega), pk_un (by omega), pk_un (by omega)]) (by rw [c1]; exact pk_us)
                  rw [show vlHold S87 (nI k) = false from decide_eq_false (by rw [kN_n (by omega), a3]; decide)]
                  refine lv_if_eq (tgt := 162) hx hb dL_build_157 (by decide) (fun c111 => ?_) (fun c111 => ?_)
                  · refine W.widen (k := 1 + 6 * (k + 1)) (n := 6 + 126 * (k + 1)) (by omega) (by omega) ?_
                    obtain ⟨i112, ei112⟩ : ∃ y : Int32, y = nI k + (1) := ⟨_, rfl⟩
                    refine lv_iinc (v := i112) (lv' := [(8, .int i112), (9, .int v31), (7, .ref nn), (6, .ref pl), (5, .ref me), (4, .ref ge), (3, .ref sh), (2, .int (nI 0)), (1, .ref b9), (0, .ref x)]) hx hb dL_build_162 hl (k := 1) rfl (by rw [ei112]; rfl) (by decide) rfl (fun ls hl => ?_)
                    have hi112 : i112 = nI (k + 1) := by
                      rw [ei112]
                      exact nI_1 k
                    rw [hi112] at hl
                    refine lv_goto (tgt := 25) hx hb dL_build_165 (by decide) ?_
                    exact ih_L25 (k + 1) S103 (upd (upd (upd Fs (3 * k) (nI (b36 * 20))) (3 * k + 1) (iL (((b52 * 30 : Nat) : Int) - 30))) (3 * k + 2) 0) w101 H locs ls (by omega) (by omega) (hB104) (zk) (ask) f106 f110 f107 f108 f109 hP hS (lv_sub hl [0, 2, 3, 4, 5, 6, 7, 8, 9] rfl)
                  · exact absurd rfl c111
              · exact absurd c99 (by decide)
        · refine lv_iconst (v := 1) hx hb dL_build_105 (by decide) ?_
          refine lv_goto (tgt := 110) hx hb dL_build_106 (by decide) ?_
          refine g_iast F hP hS f61 (vp_in_nI (by omega) (by omega)) dL_build_110 (fun H locs hP hS => ?_)
          rw [nI_clamp (n := 3 * k + 2) (by omega)] at hP
          obtain ⟨w113, ew113⟩ : ∃ z, z = g_up w56 sh (.inl (G.2.1 0, 30, .inl (upd (upd (upd Fs (3 * k) (nI (b36 * 20))) (3 * k + 1) (iL (((b52 * 30 : Nat) : Int) - 30))) (3 * k + 2) 1))) := ⟨_, rfl⟩
          have hP : g_P A G w113 H := by rw [ew113]; exact hP
          have f114 : w113 nn = some (.inl (G.2.1 0, 6, .inl Fn1)) := by rw [ew113]; exact g_up_f f57 (Ne.symm (dnnsh))
          have f115 : w113 ge = some (.inl (G.2.1 0, 80, .inl Fg0)) := by rw [ew113]; exact g_up_f f58 (Ne.symm (dshge))
          have f116 : w113 me = some (.inl (G.2.1 0, 32, .inl Fm0)) := by rw [ew113]; exact g_up_f f59 (Ne.symm (dshme))
          have f117 : w113 pl = some (.inl (G.2.1 0, 20, .inl Fp0)) := by rw [ew113]; exact g_up_f f60 (Ne.symm (dshpl))
          have f118 : w113 sh = some (.inl (G.2.1 0, 30, .inl (upd (upd (upd Fs (3 * k) (nI (b36 * 20))) (3 * k + 1) (iL (((b52 * 30 : Nat) : Int) - 30))) (3 * k + 2) 1))) := by rw [ew113]; exact g_up_s _ _ _
          have hB119 := lwB_set hB62 (List.mem_of_getElem? (i := 1) rfl) ew113
          refine lv_aload_n hx hb dL_build_111 rfl (lv_at hl 9 rfl) ?_
          refine lv_aload_n hx hb dL_build_112 rfl (lv_at hl 6 rfl) ?_
          refine lv_iconst (v := 3) hx hb dL_build_113 (by decide) ?_
          refine lv_iload hx hb dL_build_114 (lv_at hl 1 rfl) ?_
          refine lv_imul hx hb dL_build_116 ?_
          refine lv_topi (fun v120 ev120 => ?_)
          have hv120 : v120 = nI (3 * k) := by
            rw [ev120]
            exact pk_mul 3 k
          rw [hv120]
          refine g_iald F hP f118 (vp_in_nI (by omega) (by omega)) dL_build_117 ?_
          refine lv_topi (fun v121 ev121 => ?_)
          have hv121 : v121 = nI (b36 * 20) := by
            rw [ev121]
            rw [nI_clamp (n := 3 * k) (by omega)]
            exact (pk_un (k := (3 * k + 2)) (j := (3 * k)) (by omega)).trans ((pk_un (k := (3 * k + 1)) (j := (3 * k)) (by omega)).trans (pk_us))
          rw [hv121]
          refine lv_aload_n hx hb dL_build_118 rfl (lv_at hl 6 rfl) ?_
          refine lv_iconst (v := 3) hx hb dL_build_119 (by decide) ?_
          refine lv_iload hx hb dL_build_120 (lv_at hl 1 rfl) ?_
          refine lv_imul hx hb dL_build_122 ?_
          refine lv_topi (fun v122 ev122 => ?_)
          have hv122 : v122 = nI (3 * k) := by
            rw [ev122]
            exact pk_mul 3 k
          rw [hv122]
          refine lv_iconst (v := 1) hx hb dL_build_123 (by decide) ?_
          refine lv_iadd hx hb dL_build_124 ?_
          refine lv_topi (fun v123 ev123 => ?_)
          have hv123 : v123 = nI (3 * k + 1) := by
            rw [ev123]
            exact nI_add (3 * k) 1
          rw [hv123]
          refine g_iald F hP f118 (vp_in_nI (by omega) (by omega)) dL_build_125 ?_
          refine lv_topi (fun v124 ev124 => ?_)
          have hv124 : v124 = iL (((b52 * 30 : Nat) : Int) - 30) := by
            rw [ev124]
            rw [nI_clamp (n := 3 * k + 1) (by omega)]
            exact (pk_un (k := (3 * k + 2)) (j := (3 * k + 1)) (by omega)).trans (pk_us)
          rw [hv124]
          have tX : (nI (b36 * 20)).toInt = ((b36 * 20 : Nat) : Int) := nI_i _ (by omega)
          have tY : (iL (((b52 * 30 : Nat) : Int) - 30)).toInt = ((b52 * 30 : Nat) : Int) - 30 := iL_t (by omega) (by omega)
          have hplq : plQ (nI (b36 * 20)) (iL (((b52 * 30 : Nat) : Int) - 30)) := by unfold plQ inQ; rw [tX, tY]; omega
          obtain ⟨ad, Cn, T, h00, hBn, hLn⟩ := id hB119
          have hCo := k_X6_addShaft l hlt A G w113 ad Cn S T (nI (b36 * 20)) (iL (((b52 * 30 : Nat) : Int) - 30)) hBn.1 hBn.2.1 hBn.2.2.1 hBn.2.2.2.1 hBn.2.2.2.2
          rw [h00] at hCo
          have hx0 := rep_x hBn.1 hBn.2.1
          rw [h00] at hx0
          refine g_cVi (As := [.int (nI (b36 * 20)), .int (iL (((b52 * 30 : Nat) : Int) - 30))]) (rest := []) F hP hS hCo (cwV 2 hts gL_build_X6_addShaft rfl rfl rfl cd_X6_addShaft ⟨by rw [hR]; exact Nat.le_of_ble_eq_true rfl, by rw [hR]; exact Nat.le_of_ble_eq_true rfl⟩) hx0 rfl rfl rfl hl.1 (Nat.le_of_ble_eq_true rfl) dL_build_126 ⟨by rw [hR]; dsimp only; omega, by rw [hR]; dsimp only; omega⟩ rfl (fun E w9 ce q9 H locs hpx hP hS hce hcv hcl => ?_) (fun r125 w126 H locs h127 hP hS => ?_)
          · have hcd := (show cdAddShaft S (nI (b36 * 20)) (iL (((b52 * 30 : Nat) : Int) - 30)) = 0 from (if_pos hplq).trans (if_pos (by omega)))
            rcases hpx.2 with ⟨_, q⟩ | ⟨_, q⟩ <;> exact absurd (hcd.symm.trans q) (by decide)
          · obtain ⟨hc0, er, hAf⟩ := h127
            obtain ⟨S128, eS128⟩ : ∃ z, z = nxAddShaft S (nI (b36 * 20)) (iL (((b52 * 30 : Nat) : Int) - 30)) := ⟨_, rfl⟩
            rw [← eS128] at hAf
            obtain ⟨hB129, kp130⟩ := lwB_aft h00 hLn hAf
            have f131 : w126 nn = some (.inl (G.2.1 0, 6, .inl Fn1)) := (kp130 nn (List.mem_of_getElem? (i := 0) rfl)).trans f114
            have f132 : w126 ge = some (.inl (G.2.1 0, 80, .inl Fg0)) := (kp130 ge (List.mem_of_getElem? (i := 2) rfl)).trans f115
            have f133 : w126 me = some (.inl (G.2.1 0, 32, .inl Fm0)) := (kp130 me (List.mem_of_getElem? (i := 3) rfl)).trans f116
            have f134 : w126 pl = some (.inl (G.2.1 0, 20, .inl Fp0)) := (kp130 pl (List.mem_of_getElem? (i := 4) rfl)).trans f117
            have f135 : w126 sh = some (.inl (G.2.1 0, 30, .inl (upd (upd (upd Fs (3 * k) (nI (b36 * 20))) (3 * k + 1) (iL (((b52 * 30 : Nat) : Int) - 30))) (3 * k + 2) 1))) := (kp130 sh (List.mem_of_getElem? (i := 1) rfl)).trans f118
            rw [er]
            obtain ⟨a1, a2, a3, a4, a5⟩ := nx_shaft eS128
            have s0n : (S 0 0).toNat = k := by omega
            rw [s0n] at a3 a4
            have b0 : S128 0 0 = ((k + 1 : Nat) : Int) := by rw [a1]; omega
            have b1 : S128 0 1 = 0 := by rw [a2 1 (by decide)]; omega
            have b2 : S128 0 2 = 0 := by rw [a2 2 (by decide)]; omega
            have b3 : S128 0 3 = 0 := by rw [a2 3 (by decide)]; omega
            have b4 : S128 0 4 = -1 := by rw [a2 4 (by decide)]; omega
            unfold vlAddShaft
            refine lv_iload hx hb dL_build_129 (lv_at hl 1 rfl) ?_
            refine lv_icmp_ne (tgt := 160) hx hb dL_build_131 (by decide) (fun c136 => ?_) (fun c136 => ?_)
            · exact absurd (iL_nat (by omega)) c136
            · refine lv_aload_n hx hb dL_build_134 rfl (lv_at hl 9 rfl) ?_
              refine lv_iload hx hb dL_build_135 (lv_at hl 1 rfl) ?_
              refine lv_aload_n hx hb dL_build_137 rfl (lv_at hl 6 rfl) ?_
              refine lv_iconst (v := 3) hx hb dL_build_138 (by decide) ?_
              refine lv_iload hx hb dL_build_139 (lv_at hl 1 rfl) ?_
              refine lv_imul hx hb dL_build_141 ?_
              refine lv_topi (fun v137 ev137 => ?_)
              have hv137 : v137 = nI (3 * k) := by
                rw [ev137]
                exact pk_mul 3 k
              rw [hv137]
              refine lv_iconst (v := 2) hx hb dL_build_142 (by decide) ?_
              refine lv_iadd hx hb dL_build_143 ?_
              refine lv_topi (fun v138 ev138 => ?_)
              have hv138 : v138 = nI (3 * k + 2) := by
                rw [ev138]
                exact nI_add (3 * k) 2
              rw [hv138]
              refine g_iald F hP f135 (vp_in_nI (by omega) (by omega)) dL_build_144 ?_
              refine lv_topi (fun v139 ev139 => ?_)
              have hv139 : v139 = 1 := by
                rw [ev139]
                rw [nI_clamp (n := 3 * k + 2) (by omega)]
                exact pk_us
              rw [hv139]
              refine lv_iconst (v := 1) hx hb dL_build_145 (by decide) ?_
              refine lv_icmp_ne (tgt := 153) hx hb dL_build_146 (by decide) (fun c140 => ?_) (fun c140 => ?_)
              · exact absurd rfl c140
              · refine lv_iconst (v := 1) hx hb dL_build_149 (by decide) ?_
                refine lv_goto (tgt := 154) hx hb dL_build_150 (by decide) ?_
                rw [show (.int 1 : Value) = .int (g_b true) from rfl]
                have tk := nI_i k (by omega)
                obtain ⟨ad, Cn, T, h00, hBn, hLn⟩ := id hB129
                have hCo := k_X6_hold l hlt A G w126 ad Cn S128 T (nI k) true hBn.1 hBn.2.1 hBn.2.2.1 hBn.2.2.2.1 hBn.2.2.2.2
                rw [h00] at hCo
                have hx0 := rep_x hBn.1 hBn.2.1
                rw [h00] at hx0
                refine g_cVi (As := [.int (nI k), .int (g_b true)]) (rest := []) F hP hS hCo (cwV 2 hts gL_build_X6_hold rfl rfl rfl cd_X6_hold ⟨by rw [hR]; exact Nat.le_of_ble_eq_true rfl, by rw [hR]; exact Nat.le_of_ble_eq_true rfl⟩) hx0 rfl rfl rfl hl.1 (Nat.le_of_ble_eq_true rfl) dL_build_154 ⟨by rw [hR]; dsimp only; omega, by rw [hR]; dsimp only; omega⟩ rfl (fun E w9 ce q9 H locs hpx hP hS hce hcv hcl => ?_) (fun r141 w142 H locs h143 hP hS => ?_)
                · have hcd := (show cdHold S128 (nI k) = 0 from (if_pos ⟨by omega, by omega⟩).trans (if_neg (by omega)))
                  rcases hpx.2 with ⟨_, q⟩ | ⟨_, q⟩ <;> exact absurd (hcd.symm.trans q) (by decide)
                · obtain ⟨hc0, er, hAf⟩ := h143
                  obtain ⟨S144, eS144⟩ : ∃ z, z = nxHold S128 (nI k) true := ⟨_, rfl⟩
                  rw [← eS144] at hAf
                  obtain ⟨hB145, kp146⟩ := lwB_aft h00 hLn hAf
                  have f147 : w142 nn = some (.inl (G.2.1 0, 6, .inl Fn1)) := (kp146 nn (List.mem_of_getElem? (i := 0) rfl)).trans f131
                  have f148 : w142 ge = some (.inl (G.2.1 0, 80, .inl Fg0)) := (kp146 ge (List.mem_of_getElem? (i := 2) rfl)).trans f132
                  have f149 : w142 me = some (.inl (G.2.1 0, 32, .inl Fm0)) := (kp146 me (List.mem_of_getElem? (i := 3) rfl)).trans f133
                  have f150 : w142 pl = some (.inl (G.2.1 0, 20, .inl Fp0)) := (kp146 pl (List.mem_of_getElem? (i := 4) rfl)).trans f134
                  have f151 : w142 sh = some (.inl (G.2.1 0, 30, .inl (upd (upd (upd Fs (3 * k) (nI (b36 * 20))) (3 * k + 1) (iL (((b52 * 30 : Nat) : Int) - 30))) (3 * k + 2) 1))) := (kp146 sh (List.mem_of_getElem? (i := 1) rfl)).trans f135
                  rw [er]
                  obtain ⟨c1, c2, c3⟩ := nx_hold (by omega) eS144
                  have zk : S144 0 0 = ((k + 1 : Nat) : Int) ∧ S144 0 1 = 0 ∧ S144 0 2 = 0 ∧ S144 0 3 = 0 ∧ S144 0 4 = -1 := by rw [c3 0 0 (by decide), c3 0 1 (by decide), c3 0 2 (by decide), c3 0 3 (by decide), c3 0 4 (by decide)]; exact ⟨b0, b1, b2, b3, b4⟩
                  have ask : arS S144 (k + 1) (upd (upd (upd Fs (3 * k) (nI (b36 * 20))) (3 * k + 1) (iL (((b52 * 30 : Nat) : Int) - 30))) (3 * k + 2) 1) := arS_1 has (fun j hj => by rw [c2 j (by omega), a4 j (by omega)]) (fun j hj => by rw [pk_un (by omega), pk_un (by omega), pk_un (by omega)]) (by rw [c1]; exact pk_us)
                  rw [show vlHold S128 (nI k) = false from decide_eq_false (by rw [kN_n (by omega), a3]; decide)]
                  refine lv_if_eq (tgt := 162) hx hb dL_build_157 (by decide) (fun c152 => ?_) (fun c152 => ?_)
                  · refine W.widen (k := 1 + 6 * (k + 1)) (n := 6 + 126 * (k + 1)) (by omega) (by omega) ?_
                    obtain ⟨i153, ei153⟩ : ∃ y : Int32, y = nI k + (1) := ⟨_, rfl⟩
                    refine lv_iinc (v := i153) (lv' := [(8, .int i153), (9, .int v31), (7, .ref nn), (6, .ref pl), (5, .ref me), (4, .ref ge), (3, .ref sh), (2, .int (nI 0)), (1, .ref b9), (0, .ref x)]) hx hb dL_build_162 hl (k := 1) rfl (by rw [ei153]; rfl) (by decide) rfl (fun ls hl => ?_)
                    have hi153 : i153 = nI (k + 1) := by
                      rw [ei153]
                      exact nI_1 k
                    rw [hi153] at hl
                    refine lv_goto (tgt := 25) hx hb dL_build_165 (by decide) ?_
                    exact ih_L25 (k + 1) S144 (upd (upd (upd Fs (3 * k) (nI (b36 * 20))) (3 * k + 1) (iL (((b52 * 30 : Nat) : Int) - 30))) (3 * k + 2) 1) w142 H locs ls (by omega) (by omega) (hB145) (zk) (ask) f147 f151 f148 f149 f150 hP hS (lv_sub hl [0, 2, 3, 4, 5, 6, 7, 8, 9] rfl)
                  · exact absurd rfl c152
  exact L25 (n0 + 1) 0 Sz Fs0 w17 H locs ls (by omega) (by omega) (hB23) (hz0) (arS_0 _ _) f22 f18 f19 f20 f21 hP hS (lv_sub hl [0, 1, 8, 7, 6, 5, 4, 3, 2] rfl)
