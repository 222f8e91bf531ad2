theorem cd_X6_addGear : yX6_addGear.cls = RX6 ∧ yX6_addGear.cls ≠ "java/lang/invoke/MethodHandle" ∧ yX6_addGear.cls ≠ "java/lang/invoke/VarHandle" ∧ (parseMethodDescriptor yX6_addGear.desc).map (fun d => d.parameters.length) = some 5 := by decide +kernel
set_option maxHeartbeats 4000000 in
set_option maxRecDepth 100000 in
theorem bld_2 {p : Program} {l : Launch} {e : Env} {R : Room} {s : State} {m : MethodId} {args : Array Value} {below : List Frame} {meth : Method} {c : Code} {Q : State → Prop} {A : Nat → Prop} {G : g_C} (F : g_F p m c cL_build 15 s args wsL_build RL A G) (hR : R = ({ frames := 8, cells := 400, slots := 7000, locals := 256 } : Room)) (hlt : l.stackTraces = false) {b9 N9 : Nat} {xs : Nat → Int32} (hX : va_X b9 N9 xs s s.heap) (hbl : b9 < s.heap.size) (hbA : ¬ A b9) (hN9 : N9 ≤ 260) (htab : c.exceptionTable.toList = tableOf [(731, 741, 744, 35)]) {x sh ge me pl nn : Nat} (dshge : sh ≠ ge) (dshme : sh ≠ me) (dshpl : sh ≠ pl) (dgeme : ge ≠ me) (dgepl : ge ≠ pl) (dmepl : me ≠ pl) (dnnsh : sh ≠ nn) (dnnge : ge ≠ nn) (dnnme : me ≠ nn) (dnnpl : pl ≠ nn) {nn : Nat} {Fg0 : Nat → Int32} {Fm0 : Nat → Int32} {Fp0 : Nat → Int32} {n0 : Nat} {S : Sg} {Fs : Nat → Int32} {Fn1 : Nat → Int32} {w : g_W} (dnnsh : sh ≠ nn) (dnnge : ge ≠ nn) (dnnme : me ≠ nn) (dnnpl : pl ≠ nn) (hn0 : 2 ≤ n0 ∧ n0 ≤ 8) (zz0 : S 0 0 = n0) (zz1 : S 0 1 = 0) (zz2 : S 0 2 = 0) (zz3 : S 0 3 = 0) (zz4 : S 0 4 = -1) (has : arS S n0 Fs) (hf0 : Fn1 0 = nI n0) (hfz : ∀ i, i ≠ 0 → Fn1 i = 0) (hB : lwB G w x S [nn, sh, ge, me, pl]) (hnn : w nn = some (.inl (G.2.1 0, 6, .inl Fn1))) (hsh : w sh = some (.inl (G.2.1 0, 30, .inl Fs))) (hge : w ge = some (.inl (G.2.1 0, 80, .inl Fg0))) (hme : w me = some (.inl (G.2.1 0, 32, .inl Fm0))) (hpl : w pl = some (.inl (G.2.1 0, 20, .inl Fp0))) {H : Heap} {locs : List Loc} {ls : Array Slot} (hP : g_P A G w H) (hS : va_S A s.heap H locs) (hl : lv_has ls 15 [(7, .ref nn), (6, .ref pl), (5, .ref me), (4, .ref ge), (3, .ref sh), (2, .int (nI 0)), (1, .ref b9), (0, .ref x)])
    (cont : ∀ (nn : Nat) (Fm0 : Nat → Int32) (Fp0 : Nat → Int32) (n0 : Nat) (n1 : Nat) (S : Sg) (Fs2 : Nat → Int32) (Fg2 : Nat → Int32) (Fn2 : Nat → Int32) (w : g_W) (H : Heap) (locs : List Loc) (ls : Array Slot), (sh ≠ nn) → (ge ≠ nn) → (me ≠ nn) → (pl ≠ nn) → (2 ≤ n0 ∧ n0 ≤ 8) → (n1 ≤ 12) → (S 0 0 = n0) → (S 0 1 = n1) → (S 0 2 = 0) → (S 0 3 = 0) → (S 0 4 = -1) → (arS S n0 Fs2) → (arG S n1 Fg2) → (Fn2 0 = nI n0) → (Fn2 1 = nI n1) → (∀ i, 2 ≤ i → Fn2 i = 0) → (lwB G w x S [nn, sh, ge, me, pl]) → w nn = some (.inl (G.2.1 0, 6, .inl Fn2)) → w sh = some (.inl (G.2.1 0, 30, .inl Fs2)) → w ge = some (.inl (G.2.1 0, 80, .inl Fg2)) → w me = some (.inl (G.2.1 0, 32, .inl Fm0)) → w pl = some (.inl (G.2.1 0, 20, .inl Fp0)) → g_P A G w H → va_S A s.heap H locs → lv_has ls 15 [(7, .ref nn), (6, .ref pl), (5, .ref me), (4, .ref ge), (3, .ref sh), (2, .int (nI 0)), (1, .ref b9), (0, .ref x)] → W p l e R s m args below meth c H locs 100 2500 Q (F0 m 390 ls [])) : W p l e R s m args below meth c H locs 60 1100 Q (F0 m 168 ls []) := by
  obtain ⟨⟨hx, hb, hml, hown, hts⟩, hK, hZ, hA⟩ := id F
  refine lv_aload hx hb dL_build_168 (lv_at hl 0 rfl) ?_
  refine lv_iconst (v := 1) hx hb dL_build_170 (by decide) ?_
  refine lv_aload_n hx hb dL_build_171 rfl (lv_at hl 6 rfl) ?_
  refine lv_iload_n hx hb dL_build_172 rfl (lv_at hl 5 rfl) ?_
  refine g_SiS (As := [.ref b9, .int (nI 0)]) (rest := [.int 1, .ref nn]) F hP hS hX hbl hbA (k_L_cell l A G w b9 N9 xs hbA 0 (by omega) hN9) (va_cwS 2 hts gL_build_L_cell rfl rfl rfl cd_L_cell ⟨by rw [hR]; exact Nat.le_of_ble_eq_true rfl, by rw [hR]; exact Nat.le_of_ble_eq_true rfl⟩) rfl hl.1 (Nat.le_of_ble_eq_true rfl) dL_build_173 ⟨by rw [hR]; dsimp only; omega, by rw [hR]; dsimp only; omega⟩ rfl (fun r1 w2 H locs h3 hP hS => ?_)
  rw [h3] at hP
  refine lv_iconst (v := 4) hx hb dL_build_176 (by decide) ?_
  refine lv_ishr hx hb dL_build_177 ?_
  refine lv_topi (fun v4 ev4 => ?_)
  refine lv_bipush (v := 13) hx hb dL_build_178 (by decide) ?_
  refine g_Si (As := [.int v4, .int 13]) (rest := [.int 1, .ref nn]) F hP hS (k_L_below l A G w v4 13 (by omega) (by omega)) (va_cwS 2 hts gL_build_L_below rfl rfl rfl cd_L_below ⟨by rw [hR]; exact Nat.le_of_ble_eq_true rfl, by rw [hR]; exact Nat.le_of_ble_eq_true rfl⟩) rfl hl.1 (Nat.le_of_ble_eq_true rfl) dL_build_180 ⟨by rw [hR]; dsimp only; omega, by rw [hR]; dsimp only; omega⟩ rfl (fun r5 w6 H locs h7 hP hS => ?_)
  have hr5 := h7.1
  rw [h7.2] at hP
  rw [hr5]
  obtain ⟨b8, eb8⟩ : ∃ z, z = blw v4 13 := ⟨_, rfl⟩
  rw [← eb8]
  have k9 : b8 < 13 := by rw [eb8]; exact blw_lt _ (by omega)
  refine g_iast F hP hS hnn (by unfold vp_in; decide) dL_build_183 (fun H locs hP hS => ?_)
  rw [show (1 : Int32).toNatClampNeg = 1 from by decide] at hP
  obtain ⟨w10, ew10⟩ : ∃ z, z = g_up w nn (.inl (G.2.1 0, 6, .inl (upd Fn1 1 (nI b8)))) := ⟨_, rfl⟩
  have hP : g_P A G w10 H := by rw [ew10]; exact hP
  have f11 : w10 sh = some (.inl (G.2.1 0, 30, .inl Fs)) := by rw [ew10]; exact g_up_f hsh (dnnsh)
  have f12 : w10 ge = some (.inl (G.2.1 0, 80, .inl Fg0)) := by rw [ew10]; exact g_up_f hge (dnnge)
  have f13 : w10 me = some (.inl (G.2.1 0, 32, .inl Fm0)) := by rw [ew10]; exact g_up_f hme (dnnme)
  have f14 : w10 pl = some (.inl (G.2.1 0, 20, .inl Fp0)) := by rw [ew10]; exact g_up_f hpl (dnnpl)
  have f15 : w10 nn = some (.inl (G.2.1 0, 6, .inl (upd Fn1 1 (nI b8)))) := by rw [ew10]; exact g_up_s _ _ _
  have hB16 := lwB_set hB (List.mem_of_getElem? (i := 0) rfl) ew10
  obtain ⟨n1, en1⟩ : ∃ z, z = b8 := ⟨_, rfl⟩
  obtain ⟨Fn2, eFn2⟩ : ∃ f : Nat → Int32, f = upd Fn1 1 (nI b8) := ⟨_, rfl⟩
  rw [← eFn2] at f15
  have hn1 : n1 ≤ 12 := by omega
  have hg0 : Fn2 0 = nI n0 := by rw [eFn2, pk_un (by decide)]; exact hf0
  have hg1 : Fn2 1 = nI n1 := by rw [eFn2, en1]; exact pk_us
  have hgz : ∀ i, 2 ≤ i → Fn2 i = 0 := fun i hi => by rw [eFn2, pk_un (by omega)]; exact hfz i (by omega)
  obtain ⟨Fs2, eFs2⟩ : ∃ f : Nat → Int32, f = Fs := ⟨_, rfl⟩
  rw [← eFs2] at has f11
  refine lv_iconst (v := 0) hx hb dL_build_184 (by decide) ?_
  refine lv_istore (lv' := [(8, .int 0), (7, .ref nn), (6, .ref pl), (5, .ref me), (4, .ref ge), (3, .ref sh), (2, .int (nI 0)), (1, .ref b9), (0, .ref x)]) hx hb dL_build_185 hl (by decide) rfl (fun ls hl => ?_)
  have L187 : ∀ (n : Nat) (k : Nat) (S : Sg) (Fg : Nat → Int32) (w : g_W) (H : Heap) (locs : List Loc) (ls : Array Slot), n1 + 1 ≤ k + n → (k ≤ n1) → (lwB G w x S [nn, sh, ge, me, pl]) → (S 0 0 = n0 ∧ S 0 1 = k ∧ S 0 2 = 0 ∧ S 0 3 = 0 ∧ S 0 4 = -1) → (arS S n0 Fs2) → (arG S k Fg) → w nn = some (.inl (G.2.1 0, 6, .inl Fn2)) → w sh = some (.inl (G.2.1 0, 30, .inl Fs2)) → w ge = some (.inl (G.2.1 0, 80, .inl Fg)) → w me = some (.inl (G.2.1 0, 32, .inl Fm0)) → w pl = some (.inl (G.2.1 0, 20, .inl Fp0)) → g_P A G w H → va_S A s.heap H locs → lv_has ls 15 [(8, .int (nI k)), (7, .ref nn), (6, .ref pl), (5, .ref me), (4, .ref ge), (3, .ref sh), (2, .int (nI 0)), (1, .ref b9), (0, .ref x)] → W p l e R s m args below meth c H locs ((60 + 3 * k)) ((1100 + 112 * k)) Q (F0 m 187 ls []) := by
    intro n
    induction n with
    | zero =>
      intro k S Fg w H locs ls hfu hk hB hz has hag hnn hsh hge hme hpl hP hS hl
      exact absurd hfu (by omega)
    | succ n ih_L187 =>
      intro k S Fg w H locs ls hfu hk hB hz has hag hnn hsh hge hme hpl hP hS hl
      refine lv_iload hx hb dL_build_187 (lv_at hl 0 rfl) ?_
      refine lv_aload hx hb dL_build_189 (lv_at hl 1 rfl) ?_
      refine lv_iconst (v := 1) hx hb dL_build_191 (by decide) ?_
      refine g_iald F hP hnn (by unfold vp_in; decide) dL_build_192 ?_
      refine lv_topi (fun v17 ev17 => ?_)
      have hv17 : v17 = nI n1 := by
        rw [ev17]
        rw [show (1 : Int32).toNatClampNeg = 1 from by decide]
        exact hg1
      rw [hv17]
      refine lv_icmp_ge (tgt := 390) hx hb dL_build_193 (by decide) (fun c18 => ?_) (fun c18 => ?_)
      · have zc18 : n1 ≤ k := (nI_leI (by omega) (by omega)).mp c18
        refine W.widen (k := 100) (n := 2500) (by omega) (by omega) ?_
        have ekn : k = n1 := by omega
        rw [ekn] at hag hz
        obtain ⟨zz0, zz1, zz2, zz3, zz4⟩ := hz
        exact cont nn Fm0 Fp0 n0 n1 S Fs2 Fg Fn2 w H locs ls (dnnsh) (dnnge) (dnnme) (dnnpl) (hn0) (hn1) (zz0) (zz1) (zz2) (zz3) (zz4) (has) (hag) (hg0) (hg1) (hgz) (hB) hnn hsh hge hme hpl hP hS (lv_sub hl [1, 2, 3, 4, 5, 6, 7, 8] rfl)
      · have hkn : k < n1 := Nat.not_le.mp (fun q => c18 (nI_le q (by omega)))
        refine lv_aload_n hx hb dL_build_196 rfl (lv_at hl 7 rfl) ?_
        refine lv_iload_n hx hb dL_build_197 rfl (lv_at hl 6 rfl) ?_
        refine lv_iconst (v := 2) hx hb dL_build_198 (by decide) ?_
        refine lv_iadd hx hb dL_build_199 ?_
        refine lv_topi (fun v19 ev19 => ?_)
        have hv19 : v19 = nI (0 + 2) := by
          rw [ev19]
          exact nI_add 0 2
        rw [hv19]
        refine lv_iload hx hb dL_build_200 (lv_at hl 0 rfl) ?_
        refine lv_iconst (v := 3) hx hb dL_build_202 (by decide) ?_
        refine lv_irem hx hb dL_build_203 (by first | exact nI_ne0 (by omega) (by omega) | decide) ?_
        refine lv_topi (fun v20 ev20 => ?_)
        have hv20 : v20 = nI (k % 3) := by
          rw [ev20]
          exact nI_mod (a := k) (d := 3) (by omega) (by omega) (by omega)
        rw [hv20]
        refine lv_iadd hx hb dL_build_204 ?_
        refine lv_topi (fun v21 ev21 => ?_)
        have hv21 : v21 = nI (0 + 2 + (k % 3)) := by
          rw [ev21]
          exact nI_add (0 + 2) (k % 3)
        rw [hv21]
        refine g_SiS (As := [.ref b9, .int (nI (0 + 2 + (k % 3)))]) (rest := []) F hP hS hX hbl hbA (k_L_cell l A G w b9 N9 xs hbA (0 + 2 + (k % 3)) (by omega) hN9) (va_cwS 2 hts gL_build_L_cell rfl rfl rfl cd_L_cell ⟨by rw [hR]; exact Nat.le_of_ble_eq_true rfl, by rw [hR]; exact Nat.le_of_ble_eq_true rfl⟩) rfl hl.1 (Nat.le_of_ble_eq_true rfl) dL_build_205 ⟨by rw [hR]; dsimp only; omega, by rw [hR]; dsimp only; omega⟩ rfl (fun r22 w23 H locs h24 hP hS => ?_)
        rw [h24] at hP
        refine lv_iload hx hb dL_build_208 (lv_at hl 0 rfl) ?_
        refine lv_iconst (v := 3) hx hb dL_build_210 (by decide) ?_
        refine lv_idiv hx hb dL_build_211 (by first | exact nI_ne0 (by omega) (by omega) | decide) ?_
        refine lv_topi (fun v25 ev25 => ?_)
        have hv25 : v25 = nI (k / 3) := by
          rw [ev25]
          exact nI_dv (a := k) (d := 3) (by omega) (by omega) (by omega)
        rw [hv25]
        refine lv_iconst (v := 5) hx hb dL_build_212 (by decide) ?_
        refine lv_imul hx hb dL_build_213 ?_
        refine lv_topi (fun v26 ev26 => ?_)
        have hv26 : v26 = nI ((k / 3) * 5) := by
          rw [ev26]
          exact pk_mul (k / 3) 5
        rw [hv26]
        refine lv_ishr hx hb dL_build_214 ?_
        refine lv_topi (fun v27 ev27 => ?_)
        refine lv_istore (lv' := [(9, .int v27), (8, .int (nI k)), (7, .ref nn), (6, .ref pl), (5, .ref me), (4, .ref ge), (3, .ref sh), (2, .int (nI 0)), (1, .ref b9), (0, .ref x)]) hx hb dL_build_215 hl (by decide) rfl (fun ls hl => ?_)
        refine lv_iconst (v := 5) hx hb dL_build_217 (by decide) ?_
        refine lv_iload hx hb dL_build_218 (lv_at hl 1 rfl) ?_
        refine lv_imul hx hb dL_build_220 ?_
        refine lv_topi (fun v28 ev28 => ?_)
        have hv28 : v28 = nI (5 * k) := by
          rw [ev28]
          exact pk_mul 5 k
        rw [hv28]
        refine lv_istore (lv' := [(10, .int (nI (5 * k))), (9, .int v27), (8, .int (nI k)), (7, .ref nn), (6, .ref pl), (5, .ref me), (4, .ref ge), (3, .ref sh), (2, .int (nI 0)), (1, .ref b9), (0, .ref x)]) hx hb dL_build_221 hl (by decide) rfl (fun ls hl => ?_)
        refine lv_aload hx hb dL_build_223 (lv_at hl 6 rfl) ?_
        refine lv_iload hx hb dL_build_225 (lv_at hl 0 rfl) ?_
        refine lv_iload hx hb dL_build_227 (lv_at hl 1 rfl) ?_
        refine lv_aload hx hb dL_build_229 (lv_at hl 3 rfl) ?_
        refine lv_iconst (v := 0) hx hb dL_build_231 (by decide) ?_
        refine g_iald F hP hnn (by unfold vp_in; decide) dL_build_232 ?_
        refine lv_topi (fun v29 ev29 => ?_)
        have hv29 : v29 = nI n0 := by
          rw [ev29]
          rw [show (0 : Int32).toNatClampNeg = 0 from by decide]
          exact hg0
        rw [hv29]
        refine g_Si (As := [.int v27, .int (nI n0)]) (rest := [.int (nI (5 * k)), .ref ge]) F hP hS (k_L_below l A G w v27 n0 (by omega) (by omega)) (va_cwS 2 hts gL_build_L_below rfl rfl rfl cd_L_below ⟨by rw [hR]; exact Nat.le_of_ble_eq_true rfl, by rw [hR]; exact Nat.le_of_ble_eq_true rfl⟩) rfl hl.1 (Nat.le_of_ble_eq_true rfl) dL_build_233 ⟨by rw [hR]; dsimp only; omega, by rw [hR]; dsimp only; omega⟩ rfl (fun r30 w31 H locs h32 hP hS => ?_)
        have hr30 := h32.1
        rw [h32.2] at hP
        rw [hr30]
        obtain ⟨b33, eb33⟩ : ∃ z, z = blw v27 n0 := ⟨_, rfl⟩
        rw [← eb33]
        have k34 : b33 < n0 := by rw [eb33]; exact blw_lt _ (by omega)
        refine g_iast F hP hS hge (vp_in_nI (by omega) (by omega)) dL_build_236 (fun H locs hP hS => ?_)
        rw [nI_clamp (n := 5 * k) (by omega)] at hP
        obtain ⟨w35, ew35⟩ : ∃ z, z = g_up w ge (.inl (G.2.1 0, 80, .inl (upd Fg (5 * k) (nI b33)))) := ⟨_, rfl⟩
        have hP : g_P A G w35 H := by rw [ew35]; exact hP
        have f36 : w35 nn = some (.inl (G.2.1 0, 6, .inl Fn2)) := by rw [ew35]; exact g_up_f hnn (Ne.symm (dnnge))
        have f37 : w35 sh = some (.inl (G.2.1 0, 30, .inl Fs2)) := by rw [ew35]; exact g_up_f hsh (dshge)
        have f38 : w35 me = some (.inl (G.2.1 0, 32, .inl Fm0)) := by rw [ew35]; exact g_up_f hme (Ne.symm (dgeme))
        have f39 : w35 pl = some (.inl (G.2.1 0, 20, .inl Fp0)) := by rw [ew35]; exact g_up_f hpl (Ne.symm (dgepl))
        have f40 : w35 ge = some (.inl (G.2.1 0, 80, .inl (upd Fg (5 * k) (nI b33)))) := by rw [ew35]; exact g_up_s _ _ _
        have hB41 := lwB_set hB (List.mem_of_getElem? (i := 2) rfl) ew35
        refine lv_aload hx hb dL_build_237 (lv_at hl 6 rfl) ?_
        refine lv_iload hx hb dL_build_239 (lv_at hl 0 rfl) ?_
        refine lv_iconst (v := 1) hx hb dL_build_241 (by decide) ?_
        refine lv_iadd hx hb dL_build_242 ?_
        refine lv_topi (fun v42 ev42 => ?_)
        have hv42 : v42 = nI (5 * k + 1) := by
          rw [ev42]
          exact nI_add (5 * k) 1
        rw [hv42]
        refine lv_bipush (v := 8) hx hb dL_build_243 (by decide) ?_
        refine lv_iload hx hb dL_build_245 (lv_at hl 1 rfl) ?_
        refine lv_iconst (v := 2) hx hb dL_build_247 (by decide) ?_
        refine lv_ishr hx hb dL_build_248 ?_
        refine lv_topi (fun v43 ev43 => ?_)
        refine lv_iload hx hb dL_build_249 (lv_at hl 1 rfl) ?_
        refine lv_iconst (v := 2) hx hb dL_build_251 (by decide) ?_
        refine g_Si (As := [.int v27, .int 2]) (rest := [.int v43, .int 8, .int (nI (5 * k + 1)), .ref ge]) F hP hS (k_L_below l A G w35 v27 2 (by omega) (by omega)) (va_cwS 2 hts gL_build_L_below rfl rfl rfl cd_L_below ⟨by rw [hR]; exact Nat.le_of_ble_eq_true rfl, by rw [hR]; exact Nat.le_of_ble_eq_true rfl⟩) rfl hl.1 (Nat.le_of_ble_eq_true rfl) dL_build_252 ⟨by rw [hR]; dsimp only; omega, by rw [hR]; dsimp only; omega⟩ rfl (fun r44 w45 H locs h46 hP hS => ?_)
        have hr44 := h46.1
        rw [h46.2] at hP
        rw [hr44]
        obtain ⟨b47, eb47⟩ : ∃ z, z = blw v27 2 := ⟨_, rfl⟩
        rw [← eb47]
        have k48 : b47 < 2 := by rw [eb47]; exact blw_lt _ (by omega)
        refine lv_if_ne (tgt := 263) hx hb dL_build_255 (by decide) (fun c49 => ?_) (fun c49 => ?_)
        · refine lv_sipush (v := 193) hx hb dL_build_263 (by decide) ?_
          refine g_Si (As := [.int v43, .int 193]) (rest := [.int 8, .int (nI (5 * k + 1)), .ref ge]) F hP hS (k_L_below l A G w35 v43 193 (by omega) (by omega)) (va_cwS 2 hts gL_build_L_below rfl rfl rfl cd_L_below ⟨by rw [hR]; exact Nat.le_of_ble_eq_true rfl, by rw [hR]; exact Nat.le_of_ble_eq_true rfl⟩) rfl hl.1 (Nat.le_of_ble_eq_true rfl) dL_build_266 ⟨by rw [hR]; dsimp only; omega, by rw [hR]; dsimp only; omega⟩ rfl (fun r50 w51 H locs h52 hP hS => ?_)
          have hr50 := h52.1
          rw [h52.2] at hP
          rw [hr50]
          obtain ⟨b53, eb53⟩ : ∃ z, z = blw v43 193 := ⟨_, rfl⟩
          rw [← eb53]
          have k54 : b53 < 193 := by rw [eb53]; exact blw_lt _ (by omega)
          refine lv_iadd hx hb dL_build_269 ?_
          refine lv_topi (fun v55 ev55 => ?_)
          have hv55 : v55 = nI (8 + b53) := by
            rw [ev55]
            exact nI_add 8 b53
          rw [hv55]
          refine g_iast F hP hS f40 (vp_in_nI (by omega) (by omega)) dL_build_270 (fun H locs hP hS => ?_)
          rw [nI_clamp (n := 5 * k + 1) (by omega)] at hP
          obtain ⟨w56, ew56⟩ : ∃ z, z = g_up w35 ge (.inl (G.2.1 0, 80, .inl (upd (upd Fg (5 * k) (nI b33)) (5 * k + 1) (nI (8 + b53))))) := ⟨_, rfl⟩
          have hP : g_P A G w56 H := by rw [ew56]; exact hP
          have f57 : w56 nn = some (.inl (G.2.1 0, 6, .inl Fn2)) := by rw [ew56]; exact g_up_f f36 (Ne.symm (dnnge))
          have f58 : w56 sh = some (.inl (G.2.1 0, 30, .inl Fs2)) := by rw [ew56]; exact g_up_f f37 (dshge)
          have f59 : w56 me = some (.inl (G.2.1 0, 32, .inl Fm0)) := by rw [ew56]; exact g_up_f f38 (Ne.symm (dgeme))
          have f60 : w56 pl = some (.inl (G.2.1 0, 20, .inl Fp0)) := by rw [ew56]; exact g_up_f f39 (Ne.symm (dgepl))
          have f61 : w56 ge = some (.inl (G.2.1 0, 80, .inl (upd (upd Fg (5 * k) (nI b33)) (5 * k + 1) (nI (8 + b53))))) := by rw [ew56]; exact g_up_s _ _ _
          have hB62 := lwB_set hB41 (List.mem_of_getElem? (i := 2) rfl) ew56
          refine lv_aload hx hb dL_build_271 (lv_at hl 6 rfl) ?_
          refine lv_iload hx hb dL_build_273 (lv_at hl 0 rfl) ?_
          refine lv_iconst (v := 2) hx hb dL_build_275 (by decide) ?_
          refine lv_iadd hx hb dL_build_276 ?_
          refine lv_topi (fun v63 ev63 => ?_)
          have hv63 : v63 = nI (5 * k + 2) := by
            rw [ev63]
            exact nI_add (5 * k) 2
          rw [hv63]
          refine lv_iconst (v := 1) hx hb dL_build_277 (by decide) ?_
          refine lv_iload hx hb dL_build_278 (lv_at hl 1 rfl) ?_
          refine lv_iconst (v := 4) hx hb dL_build_280 (by decide) ?_
          refine lv_ishr hx hb dL_build_281 ?_
          refine lv_topi (fun v64 ev64 => ?_)
          refine lv_bipush (v := 6) hx hb dL_build_282 (by decide) ?_
          refine g_Si (As := [.int v64, .int 6]) (rest := [.int 1, .int (nI (5 * k + 2)), .ref ge]) F hP hS (k_L_below l A G w56 v64 6 (by omega) (by omega)) (va_cwS 2 hts gL_build_L_below rfl rfl rfl cd_L_below ⟨by rw [hR]; exact Nat.le_of_ble_eq_true rfl, by rw [hR]; exact Nat.le_of_ble_eq_true rfl⟩) rfl hl.1 (Nat.le_of_ble_eq_true rfl) dL_build_284 ⟨by rw [hR]; dsimp only; omega, by rw [hR]; dsimp only; omega⟩ rfl (fun r65 w66 H locs h67 hP hS => ?_)
          have hr65 := h67.1
          rw [h67.2] at hP
          rw [hr65]
          obtain ⟨b68, eb68⟩ : ∃ z, z = blw v64 6 := ⟨_, rfl⟩
          rw [← eb68]
          have k69 : b68 < 6 := by rw [eb68]; exact blw_lt _ (by omega)
          refine lv_iconst (v := 5) hx hb dL_build_287 (by decide) ?_
          refine lv_idiv hx hb dL_build_288 (by first | exact nI_ne0 (by omega) (by omega) | decide) ?_
          refine lv_topi (fun v70 ev70 => ?_)
          have hv70 : v70 = nI (b68 / 5) := by
            rw [ev70]
            exact nI_dv (a := b68) (d := 5) (by omega) (by omega) (by omega)
          rw [hv70]
          refine lv_iadd hx hb dL_build_289 ?_
          refine lv_topi (fun v71 ev71 => ?_)
          have hv71 : v71 = nI (1 + (b68 / 5)) := by
            rw [ev71]
            exact nI_add 1 (b68 / 5)
          rw [hv71]
          refine g_iast F hP hS f61 (vp_in_nI (by omega) (by omega)) dL_build_290 (fun H locs hP hS => ?_)
          rw [nI_clamp (n := 5 * k + 2) (by omega)] at hP
          obtain ⟨w72, ew72⟩ : ∃ z, z = g_up w56 ge (.inl (G.2.1 0, 80, .inl (upd (upd (upd Fg (5 * k) (nI b33)) (5 * k + 1) (nI (8 + b53))) (5 * k + 2) (nI (1 + (b68 / 5)))))) := ⟨_, rfl⟩
          have hP : g_P A G w72 H := by rw [ew72]; exact hP
          have f73 : w72 nn = some (.inl (G.2.1 0, 6, .inl Fn2)) := by rw [ew72]; exact g_up_f f57 (Ne.symm (dnnge))
          have f74 : w72 sh = some (.inl (G.2.1 0, 30, .inl Fs2)) := by rw [ew72]; exact g_up_f f58 (dshge)
          have f75 : w72 me = some (.inl (G.2.1 0, 32, .inl Fm0)) := by rw [ew72]; exact g_up_f f59 (Ne.symm (dgeme))
          have f76 : w72 pl = some (.inl (G.2.1 0, 20, .inl Fp0)) := by rw [ew72]; exact g_up_f f60 (Ne.symm (dgepl))
          have f77 : w72 ge = some (.inl (G.2.1 0, 80, .inl (upd (upd (upd Fg (5 * k) (nI b33)) (5 * k + 1) (nI (8 + b53))) (5 * k + 2) (nI (1 + (b68 / 5)))))) := by rw [ew72]; exact g_up_s _ _ _
          have hB78 := lwB_set hB62 (List.mem_of_getElem? (i := 2) rfl) ew72
          refine lv_aload hx hb dL_build_291 (lv_at hl 6 rfl) ?_
          refine lv_iload hx hb dL_build_293 (lv_at hl 0 rfl) ?_
          refine lv_iconst (v := 3) hx hb dL_build_295 (by decide) ?_
          refine lv_iadd hx hb dL_build_296 ?_
          refine lv_topi (fun v79 ev79 => ?_)
          have hv79 : v79 = nI (5 * k + 3) := by
            rw [ev79]
            exact nI_add (5 * k) 3
          rw [hv79]
          refine lv_iload hx hb dL_build_297 (lv_at hl 1 rfl) ?_
          refine lv_bipush (v := 6) hx hb dL_build_299 (by decide) ?_
          refine lv_ishr hx hb dL_build_301 ?_
          refine lv_topi (fun v80 ev80 => ?_)
          refine lv_iconst (v := 2) hx hb dL_build_302 (by decide) ?_
          refine g_Si (As := [.int v80, .int 2]) (rest := [.int (nI (5 * k + 3)), .ref ge]) F hP hS (k_L_below l A G w72 v80 2 (by omega) (by omega)) (va_cwS 2 hts gL_build_L_below rfl rfl rfl cd_L_below ⟨by rw [hR]; exact Nat.le_of_ble_eq_true rfl, by rw [hR]; exact Nat.le_of_ble_eq_true rfl⟩) rfl hl.1 (Nat.le_of_ble_eq_true rfl) dL_build_303 ⟨by rw [hR]; dsimp only; omega, by rw [hR]; dsimp only; omega⟩ rfl (fun r81 w82 H locs h83 hP hS => ?_)
          have hr81 := h83.1
          rw [h83.2] at hP
          rw [hr81]
          obtain ⟨b84, eb84⟩ : ∃ z, z = blw v80 2 := ⟨_, rfl⟩
          rw [← eb84]
          have k85 : b84 < 2 := by rw [eb84]; exact blw_lt _ (by omega)
          refine g_iast F hP hS f77 (vp_in_nI (by omega) (by omega)) dL_build_306 (fun H locs hP hS => ?_)
          rw [nI_clamp (n := 5 * k + 3) (by omega)] at hP
          obtain ⟨w86, ew86⟩ : ∃ z, z = g_up w72 ge (.inl (G.2.1 0, 80, .inl (upd (upd (upd (upd Fg (5 * k) (nI b33)) (5 * k + 1) (nI (8 + b53))) (5 * k + 2) (nI (1 + (b68 / 5)))) (5 * k + 3) (nI b84)))) := ⟨_, rfl⟩
          have hP : g_P A G w86 H := by rw [ew86]; exact hP
          have f87 : w86 nn = some (.inl (G.2.1 0, 6, .inl Fn2)) := by rw [ew86]; exact g_up_f f73 (Ne.symm (dnnge))
          have f88 : w86 sh = some (.inl (G.2.1 0, 30, .inl Fs2)) := by rw [ew86]; exact g_up_f f74 (dshge)
          have f89 : w86 me = some (.inl (G.2.1 0, 32, .inl Fm0)) := by rw [ew86]; exact g_up_f f75 (Ne.symm (dgeme))
          have f90 : w86 pl = some (.inl (G.2.1 0, 20, .inl Fp0)) := by rw [ew86]; exact g_up_f f76 (Ne.symm (dgepl))
          have f91 : w86 ge = some (.inl (G.2.1 0, 80, .inl (upd (upd (upd (upd Fg (5 * k) (nI b33)) (5 * k + 1) (nI (8 + b53))) (5 * k + 2) (nI (1 + (b68 / 5)))) (5 * k + 3) (nI b84)))) := by rw [ew86]; exact g_up_s _ _ _
          have hB92 := lwB_set hB78 (List.mem_of_getElem? (i := 2) rfl) ew86
          refine lv_aload hx hb dL_build_307 (lv_at hl 6 rfl) ?_
          refine lv_iload hx hb dL_build_309 (lv_at hl 0 rfl) ?_
          refine lv_iconst (v := 4) hx hb dL_build_311 (by decide) ?_
          refine lv_iadd hx hb dL_build_312 ?_
          refine lv_topi (fun v93 ev93 => ?_)
          have hv93 : v93 = nI (5 * k + 4) := by
            rw [ev93]
            exact nI_add (5 * k) 4
          rw [hv93]
          refine lv_iload hx hb dL_build_313 (lv_at hl 1 rfl) ?_
          refine lv_bipush (v := 7) hx hb dL_build_315 (by decide) ?_
          refine lv_ishr hx hb dL_build_317 ?_
          refine lv_topi (fun v94 ev94 => ?_)
          refine lv_iconst (v := 5) hx hb dL_build_318 (by decide) ?_
          refine g_Si (As := [.int v94, .int 5]) (rest := [.int (nI (5 * k + 4)), .ref ge]) F hP hS (k_L_below l A G w86 v94 5 (by omega) (by omega)) (va_cwS 2 hts gL_build_L_below rfl rfl rfl cd_L_below ⟨by rw [hR]; exact Nat.le_of_ble_eq_true rfl, by rw [hR]; exact Nat.le_of_ble_eq_true rfl⟩) rfl hl.1 (Nat.le_of_ble_eq_true rfl) dL_build_319 ⟨by rw [hR]; dsimp only; omega, by rw [hR]; dsimp only; omega⟩ rfl (fun r95 w96 H locs h97 hP hS => ?_)
          have hr95 := h97.1
          rw [h97.2] at hP
          rw [hr95]
          obtain ⟨b98, eb98⟩ : ∃ z, z = blw v94 5 := ⟨_, rfl⟩
          rw [← eb98]
          have k99 : b98 < 5 := by rw [eb98]; exact blw_lt _ (by omega)
          refine lv_if_ne (tgt := 329) hx hb dL_build_322 (by decide) (fun c100 => ?_) (fun c100 => ?_)
          · refine lv_iconst (v := 0) hx hb dL_build_329 (by decide) ?_
            refine g_iast F hP hS f91 (vp_in_nI (by omega) (by omega)) dL_build_330 (fun H locs hP hS => ?_)
            rw [nI_clamp (n := 5 * k + 4) (by omega)] at hP
            obtain ⟨w101, ew101⟩ : ∃ z, z = g_up w86 ge (.inl (G.2.1 0, 80, .inl (upd (upd (upd (upd (upd Fg (5 * k) (nI b33)) (5 * k + 1) (nI (8 + b53))) (5 * k + 2) (nI (1 + (b68 / 5)))) (5 * k + 3) (nI b84)) (5 * k + 4) 0))) := ⟨_, rfl⟩
            have hP : g_P A G w101 H := by rw [ew101]; exact hP
            have f102 : w101 nn = some (.inl (G.2.1 0, 6, .inl Fn2)) := by rw [ew101]; exact g_up_f f87 (Ne.symm (dnnge))
            have f103 : w101 sh = some (.inl (G.2.1 0, 30, .inl Fs2)) := by rw [ew101]; exact g_up_f f88 (dshge)
            have f104 : w101 me = some (.inl (G.2.1 0, 32, .inl Fm0)) := by rw [ew101]; exact g_up_f f89 (Ne.symm (dgeme))
            have f105 : w101 pl = some (.inl (G.2.1 0, 20, .inl Fp0)) := by rw [ew101]; exact g_up_f f90 (Ne.symm (dgepl))
            have f106 : w101 ge = some (.inl (G.2.1 0, 80, .inl (upd (upd (upd (upd (upd Fg (5 * k) (nI b33)) (5 * k + 1) (nI (8 + b53))) (5 * k + 2) (nI (1 + (b68 / 5)))) (5 * k + 3) (nI b84)) (5 * k + 4) 0))) := by rw [ew101]; exact g_up_s _ _ _
            have hB107 := lwB_set hB92 (List.mem_of_getElem? (i := 2) rfl) ew101
            refine lv_aload_n hx hb dL_build_331 rfl (lv_at hl 10 rfl) ?_
            refine lv_aload hx hb dL_build_332 (lv_at hl 6 rfl) ?_
            refine lv_iload hx hb dL_build_334 (lv_at hl 0 rfl) ?_
            refine g_iald F hP f106 (vp_in_nI (by omega) (by omega)) dL_build_336 ?_
            refine lv_topi (fun v108 ev108 => ?_)
            have hv108 : v108 = nI b33 := by
              rw [ev108]
              rw [nI_clamp (n := 5 * k) (by omega)]
              exact (pk_un (k := (5 * k + 4)) (j := (5 * k)) (by omega)).trans ((pk_un (k := (5 * k + 3)) (j := (5 * k)) (by omega)).trans ((pk_un (k := (5 * k + 2)) (j := (5 * k)) (by omega)).trans ((pk_un (k := (5 * k + 1)) (j := (5 * k)) (by omega)).trans (pk_us))))
            rw [hv108]
            refine lv_aload hx hb dL_build_337 (lv_at hl 6 rfl) ?_
            refine lv_iload hx hb dL_build_339 (lv_at hl 0 rfl) ?_
            refine lv_iconst (v := 1) hx hb dL_build_341 (by decide) ?_
            refine lv_iadd hx hb dL_build_342 ?_
            refine lv_topi (fun v109 ev109 => ?_)
            have hv109 : v109 = nI (5 * k + 1) := by
              rw [ev109]
              exact nI_add (5 * k) 1
            rw [hv109]
            refine g_iald F hP f106 (vp_in_nI (by omega) (by omega)) dL_build_343 ?_
            refine lv_topi (fun v110 ev110 => ?_)
            have hv110 : v110 = nI (8 + b53) := by
              rw [ev110]
              rw [nI_clamp (n := 5 * k + 1) (by omega)]
              exact (pk_un (k := (5 * k + 4)) (j := (5 * k + 1)) (by omega)).trans ((pk_un (k := (5 * k + 3)) (j := (5 * k + 1)) (by omega)).trans ((pk_un (k := (5 * k + 2)) (j := (5 * k + 1)) (by omega)).trans (pk_us)))
            rw [hv110]
            refine lv_aload hx hb dL_build_344 (lv_at hl 6 rfl) ?_
            refine lv_iload hx hb dL_build_346 (lv_at hl 0 rfl) ?_
            refine lv_iconst (v := 2) hx hb dL_build_348 (by decide) ?_
            refine lv_iadd hx hb dL_build_349 ?_
            refine lv_topi (fun v111 ev111 => ?_)
            have hv111 : v111 = nI (5 * k + 2) := by
              rw [ev111]
              exact nI_add (5 * k) 2
            rw [hv111]
            refine g_iald F hP f106 (vp_in_nI (by omega) (by omega)) dL_build_350 ?_
            refine lv_topi (fun v112 ev112 => ?_)
            have hv112 : v112 = nI (1 + (b68 / 5)) := by
              rw [ev112]
              rw [nI_clamp (n := 5 * k + 2) (by omega)]
              exact (pk_un (k := (5 * k + 4)) (j := (5 * k + 2)) (by omega)).trans ((pk_un (k := (5 * k + 3)) (j := (5 * k + 2)) (by omega)).trans (pk_us))
            rw [hv112]
            refine lv_aload hx hb dL_build_351 (lv_at hl 6 rfl) ?_
            refine lv_iload hx hb dL_build_353 (lv_at hl 0 rfl) ?_
            refine lv_iconst (v := 3) hx hb dL_build_355 (by decide) ?_
            refine lv_iadd hx hb dL_build_356 ?_
            refine lv_topi (fun v113 ev113 => ?_)
            have hv113 : v113 = nI (5 * k + 3) := by
              rw [ev113]
              exact nI_add (5 * k) 3
            rw [hv113]
            refine g_iald F hP f106 (vp_in_nI (by omega) (by omega)) dL_build_357 ?_
            refine lv_topi (fun v114 ev114 => ?_)
            have hv114 : v114 = nI b84 := by
              rw [ev114]
              rw [nI_clamp (n := 5 * k + 3) (by omega)]
              exact (pk_un (k := (5 * k + 4)) (j := (5 * k + 3)) (by omega)).trans (pk_us)
            rw [hv114]
            refine lv_aload hx hb dL_build_358 (lv_at hl 6 rfl) ?_
            refine lv_iload hx hb dL_build_360 (lv_at hl 0 rfl) ?_
            refine lv_iconst (v := 4) hx hb dL_build_362 (by decide) ?_
            refine lv_iadd hx hb dL_build_363 ?_
            refine lv_topi (fun v115 ev115 => ?_)
            have hv115 : v115 = nI (5 * k + 4) := by
              rw [ev115]
              exact nI_add (5 * k) 4
            rw [hv115]
            refine g_iald F hP f106 (vp_in_nI (by omega) (by omega)) dL_build_364 ?_
            refine lv_topi (fun v116 ev116 => ?_)
            have hv116 : v116 = 0 := by
              rw [ev116]
              rw [nI_clamp (n := 5 * k + 4) (by omega)]
              exact pk_us
            rw [hv116]
            refine lv_iconst (v := 1) hx hb dL_build_365 (by decide) ?_
            refine lv_icmp_ne (tgt := 373) hx hb dL_build_366 (by decide) (fun c117 => ?_) (fun c117 => ?_)
            · refine lv_iconst (v := 0) hx hb dL_build_373 (by decide) ?_
              rw [show (.int 0 : Value) = .int (g_b false) from rfl]
              have t1 := nI_i b33 (by omega)
              have t2 := nI_i (8 + b53) (by omega)
              have t3 := nI_i (1 + b68 / 5) (by omega)
              have t4 := nI_i b84 (by omega)
              obtain ⟨ad, Cn, T, h00, hBn, hLn⟩ := id hB107
              have hCo := k_X6_addGear l hlt A G w101 ad Cn S T (nI b33) (nI (8 + b53)) (nI (1 + b68 / 5)) (nI b84) false hBn.1 hBn.2.1 hBn.2.2.1 hBn.2.2.2.1 hBn.2.2.2.2
              rw [h00] at hCo
              have hx0 := rep_x hBn.1 hBn.2.1
              rw [h00] at hx0
              refine g_cVi (As := [.int (nI b33), .int (nI (8 + b53)), .int (nI (1 + (b68 / 5))), .int (nI b84), .int (g_b false)]) (rest := []) F hP hS hCo (cwV 5 hts gL_build_X6_addGear rfl rfl rfl cd_X6_addGear ⟨by rw [hR]; exact Nat.le_of_ble_eq_true rfl, by rw [hR]; exact Nat.le_of_ble_eq_true rfl⟩) hx0 rfl rfl rfl hl.1 (Nat.le_of_ble_eq_true rfl) dL_build_374 ⟨by rw [hR]; dsimp only; omega, by rw [hR]; dsimp only; omega⟩ rfl (fun E w9 ce q9 H locs hpx hP hS hce hcv hcl => ?_) (fun r118 w119 H locs h120 hP hS => ?_)
              · have hcd := (show cdAddGear S (nI b33) (nI (8 + b53)) (nI (1 + b68 / 5)) (nI b84) = 0 from (if_pos ⟨by omega, by omega⟩).trans ((if_pos (by unfold geQ inQ; rw [t2, t3, t4]; omega)).trans (if_pos (by omega))))
                rcases hpx.2 with ⟨_, q⟩ | ⟨_, q⟩ | ⟨_, q⟩ <;> exact absurd (hcd.symm.trans q) (by decide)
              · obtain ⟨hc0, er, hAf⟩ := h120
                obtain ⟨S121, eS121⟩ : ∃ z, z = nxAddGear S (nI b33) (nI (8 + b53)) (nI (1 + b68 / 5)) (nI b84) false := ⟨_, rfl⟩
                rw [← eS121] at hAf
                obtain ⟨hB122, kp123⟩ := lwB_aft h00 hLn hAf
                have f124 : w119 nn = some (.inl (G.2.1 0, 6, .inl Fn2)) := (kp123 nn (List.mem_of_getElem? (i := 0) rfl)).trans f102
                have f125 : w119 sh = some (.inl (G.2.1 0, 30, .inl Fs2)) := (kp123 sh (List.mem_of_getElem? (i := 1) rfl)).trans f103
                have f126 : w119 me = some (.inl (G.2.1 0, 32, .inl Fm0)) := (kp123 me (List.mem_of_getElem? (i := 3) rfl)).trans f104
                have f127 : w119 pl = some (.inl (G.2.1 0, 20, .inl Fp0)) := (kp123 pl (List.mem_of_getElem? (i := 4) rfl)).trans f105
                have f128 : w119 ge = some (.inl (G.2.1 0, 80, .inl (upd (upd (upd (upd (upd Fg (5 * k) (nI b33)) (5 * k + 1) (nI (8 + b53))) (5 * k + 2) (nI (1 + (b68 / 5)))) (5 * k + 3) (nI b84)) (5 * k + 4) 0))) := (kp123 ge (List.mem_of_getElem? (i := 2) rfl)).trans f106
                rw [er]
                obtain ⟨a1, a2, ⟨q4, q5, q6, q7, q8⟩, a4, a5⟩ := nx_gear eS121
                have s0n : (S 0 1).toNat = k := by omega
                rw [s0n] at q4 q5 q6 q7 q8 a4
                have zk : S121 0 0 = n0 ∧ S121 0 1 = ((k + 1 : Nat) : Int) ∧ S121 0 2 = 0 ∧ S121 0 3 = 0 ∧ S121 0 4 = -1 := by rw [a2 0 (by decide), a1, a2 2 (by decide), a2 3 (by decide), a2 4 (by decide)]; omega
                have ask : arS S121 n0 Fs2 := arS_c has (fun j _ => a5 3 j (by decide) (Or.inl (by decide)))
                have agk : arG S121 (k + 1) (upd (upd (upd (upd (upd Fg (5 * k) (nI b33)) (5 * k + 1) (nI (8 + b53))) (5 * k + 2) (nI (1 + (b68 / 5)))) (5 * k + 3) (nI b84)) (5 * k + 4) 0) := arG_1 hag (fun f j hj _ _ => a4 f j (by omega) (by omega)) (fun j hj => by rw [pk_un (by omega), pk_un (by omega), pk_un (by omega), pk_un (by omega), pk_un (by omega)]) ⟨by rw [q4, pk_un (by omega), pk_un (by omega), pk_un (by omega), pk_un (by omega), pk_us]; exact (iL_x _).symm, by rw [q5, pk_un (by omega), pk_un (by omega), pk_un (by omega), pk_us]; exact (iL_x _).symm, by rw [q6, pk_un (by omega), pk_un (by omega), pk_us]; exact (iL_x _).symm, by rw [q7, pk_un (by omega), pk_us]; exact (iL_x _).symm, by rw [q8, pk_us]; rfl⟩
                unfold vlAddGear
                refine lv_iload hx hb dL_build_377 (lv_at hl 2 rfl) ?_
                refine lv_icmp_eq (tgt := 384) hx hb dL_build_379 (by decide) (fun c129 => ?_) (fun c129 => ?_)
                · refine W.widen (k := 60 + 3 * (k + 1)) (n := 1100 + 112 * (k + 1)) (by omega) (by omega) ?_
                  obtain ⟨i130, ei130⟩ : ∃ y : Int32, y = nI k + (1) := ⟨_, rfl⟩
                  refine lv_iinc (v := i130) (lv' := [(8, .int i130), (10, .int (nI (5 * k))), (9, .int v27), (7, .ref nn), (6, .ref pl), (5, .ref me), (4, .ref ge), (3, .ref sh), (2, .int (nI 0)), (1, .ref b9), (0, .ref x)]) hx hb dL_build_384 hl (k := 2) rfl (by rw [ei130]; rfl) (by decide) rfl (fun ls hl => ?_)
                  have hi130 : i130 = nI (k + 1) := by
                    rw [ei130]
                    exact nI_1 k
                  rw [hi130] at hl
                  refine lv_goto (tgt := 187) hx hb dL_build_387 (by decide) ?_
                  exact ih_L187 (k + 1) S121 (upd (upd (upd (upd (upd Fg (5 * k) (nI b33)) (5 * k + 1) (nI (8 + b53))) (5 * k + 2) (nI (1 + (b68 / 5)))) (5 * k + 3) (nI b84)) (5 * k + 4) 0) w119 H locs ls (by omega) (by omega) (hB122) (zk) (ask) (agk) f124 f125 f128 f126 f127 hP hS (lv_sub hl [0, 3, 4, 5, 6, 7, 8, 9, 10] rfl)
                · exact absurd (iL_nat (by omega)) c129
            · exact absurd c117 (by decide)
          · refine lv_iconst (v := 1) hx hb dL_build_325 (by decide) ?_
            refine lv_goto (tgt := 330) hx hb dL_build_326 (by decide) ?_
            refine g_iast F hP hS f91 (vp_in_nI (by omega) (by omega)) dL_build_330 (fun H locs hP hS => ?_)
            rw [nI_clamp (n := 5 * k + 4) (by omega)] at hP
            obtain ⟨w131, ew131⟩ : ∃ z, z = g_up w86 ge (.inl (G.2.1 0, 80, .inl (upd (upd (upd (upd (upd Fg (5 * k) (nI b33)) (5 * k + 1) (nI (8 + b53))) (5 * k + 2) (nI (1 + (b68 / 5)))) (5 * k + 3) (nI b84)) (5 * k + 4) 1))) := ⟨_, rfl⟩
            have hP : g_P A G w131 H := by rw [ew131]; exact hP
            have f132 : w131 nn = some (.inl (G.2.1 0, 6, .inl Fn2)) := by rw [ew131]; exact g_up_f f87 (Ne.symm (dnnge))
            have f133 : w131 sh = some (.inl (G.2.1 0, 30, .inl Fs2)) := by rw [ew131]; exact g_up_f f88 (dshge)
            have f134 : w131 me = some (.inl (G.2.1 0, 32, .inl Fm0)) := by rw [ew131]; exact g_up_f f89 (Ne.symm (dgeme))
            have f135 : w131 pl = some (.inl (G.2.1 0, 20, .inl Fp0)) := by rw [ew131]; exact g_up_f f90 (Ne.symm (dgepl))
            have f136 : w131 ge = some (.inl (G.2.1 0, 80, .inl (upd (upd (upd (upd (upd Fg (5 * k) (nI b33)) (5 * k + 1) (nI (8 + b53))) (5 * k + 2) (nI (1 + (b68 / 5)))) (5 * k + 3) (nI b84)) (5 * k + 4) 1))) := by rw [ew131]; exact g_up_s _ _ _
            have hB137 := lwB_set hB92 (List.mem_of_getElem? (i := 2) rfl) ew131
            refine lv_aload_n hx hb dL_build_331 rfl (lv_at hl 10 rfl) ?_
            refine lv_aload hx hb dL_build_332 (lv_at hl 6 rfl) ?_
            refine lv_iload hx hb dL_build_334 (lv_at hl 0 rfl) ?_
            refine g_iald F hP f136 (vp_in_nI (by omega) (by omega)) dL_build_336 ?_
            refine lv_topi (fun v138 ev138 => ?_)
            have hv138 : v138 = nI b33 := by
              rw [ev138]
              rw [nI_clamp (n := 5 * k) (by omega)]
              exact (pk_un (k := (5 * k + 4)) (j := (5 * k)) (by omega)).trans ((pk_un (k := (5 * k + 3)) (j := (5 * k)) (by omega)).trans ((pk_un (k := (5 * k + 2)) (j := (5 * k)) (by omega)).trans ((pk_un (k := (5 * k + 1)) (j := (5 * k)) (by omega)).trans (pk_us))))
            rw [hv138]
            refine lv_aload hx hb dL_build_337 (lv_at hl 6 rfl) ?_
            refine lv_iload hx hb dL_build_339 (lv_at hl 0 rfl) ?_
            refine lv_iconst (v := 1) hx hb dL_build_341 (by decide) ?_
            refine lv_iadd hx hb dL_build_342 ?_
            refine lv_topi (fun v139 ev139 => ?_)
            have hv139 : v139 = nI (5 * k + 1) := by
              rw [ev139]
              exact nI_add (5 * k) 1
            rw [hv139]
            refine g_iald F hP f136 (vp_in_nI (by omega) (by omega)) dL_build_343 ?_
            refine lv_topi (fun v140 ev140 => ?_)
            have hv140 : v140 = nI (8 + b53) := by
              rw [ev140]
              rw [nI_clamp (n := 5 * k + 1) (by omega)]
              exact (pk_un (k := (5 * k + 4)) (j := (5 * k + 1)) (by omega)).trans ((pk_un (k := (5 * k + 3)) (j := (5 * k + 1)) (by omega)).trans ((pk_un (k := (5 * k + 2)) (j := (5 * k + 1)) (by omega)).trans (pk_us)))
            rw [hv140]
            refine lv_aload hx hb dL_build_344 (lv_at hl 6 rfl) ?_
            refine lv_iload hx hb dL_build_346 (lv_at hl 0 rfl) ?_
            refine lv_iconst (v := 2) hx hb dL_build_348 (by decide) ?_
            refine lv_iadd hx hb dL_build_349 ?_
            refine lv_topi (fun v141 ev141 => ?_)
            have hv141 : v141 = nI (5 * k + 2) := by
              rw [ev141]
              exact nI_add (5 * k) 2
            rw [hv141]
            refine g_iald F hP f136 (vp_in_nI (by omega) (by omega)) dL_build_350 ?_
            refine lv_topi (fun v142 ev142 => ?_)
            have hv142 : v142 = nI (1 + (b68 / 5)) := by
              rw [ev142]
              rw [nI_clamp (n := 5 * k + 2) (by omega)]
              exact (pk_un (k := (5 * k + 4)) (j := (5 * k + 2)) (by omega)).trans ((pk_un (k := (5 * k + 3)) (j := (5 * k + 2)) (by omega)).trans (pk_us))
            rw [hv142]
            refine lv_aload hx hb dL_build_351 (lv_at hl 6 rfl) ?_
            refine lv_iload hx hb dL_build_353 (lv_at hl 0 rfl) ?_
            refine lv_iconst (v := 3) hx hb dL_build_355 (by decide) ?_
            refine lv_iadd hx hb dL_build_356 ?_
            refine lv_topi (fun v143 ev143 => ?_)
            have hv143 : v143 = nI (5 * k + 3) := by
              rw [ev143]
              exact nI_add (5 * k) 3
            rw [hv143]
            refine g_iald F hP f136 (vp_in_nI (by omega) (by omega)) dL_build_357 ?_
            refine lv_topi (fun v144 ev144 => ?_)
            have hv144 : v144 = nI b84 := by
              rw [ev144]
              rw [nI_clamp (n := 5 * k + 3) (by omega)]
              exact (pk_un (k := (5 * k + 4)) (j := (5 * k + 3)) (by omega)).trans (pk_us)
            rw [hv144]
            refine lv_aload hx hb dL_build_358 (lv_at hl 6 rfl) ?_
            refine lv_iload hx hb dL_build_360 (lv_at hl 0 rfl) ?_
            refine lv_iconst (v := 4) hx hb dL_build_362 (by decide) ?_
            refine lv_iadd hx hb dL_build_363 ?_
            refine lv_topi (fun v145 ev145 => ?_)
            have hv145 : v145 = nI (5 * k + 4) := by
              rw [ev145]
              exact nI_add (5 * k) 4
            rw [hv145]
            refine g_iald F hP f136 (vp_in_nI (by omega) (by omega)) dL_build_364 ?_
            refine lv_topi (fun v146 ev146 => ?_)
            have hv146 : v146 = 1 := by
              rw [ev146]
              rw [nI_clamp (n := 5 * k + 4) (by omega)]
              exact pk_us
            rw [hv146]
            refine lv_iconst (v := 1) hx hb dL_build_365 (by decide) ?_
            refine lv_icmp_ne (tgt := 373) hx hb dL_build_366 (by decide) (fun c147 => ?_) (fun c147 => ?_)
            · exact absurd rfl c147
            · refine lv_iconst (v := 1) hx hb dL_build_369 (by decide) ?_
              refine lv_goto (tgt := 374) hx hb dL_build_370 (by decide) ?_
              rw [show (.int 1 : Value) = .int (g_b true) from rfl]
              have t1 := nI_i b33 (by omega)
              have t2 := nI_i (8 + b53) (by omega)
              have t3 := nI_i (1 + b68 / 5) (by omega)
              have t4 := nI_i b84 (by omega)
              obtain ⟨ad, Cn, T, h00, hBn, hLn⟩ := id hB137
              have hCo := k_X6_addGear l hlt A G w131 ad Cn S T (nI b33) (nI (8 + b53)) (nI (1 + b68 / 5)) (nI b84) true hBn.1 hBn.2.1 hBn.2.2.1 hBn.2.2.2.1 hBn.2.2.2.2
              rw [h00] at hCo
              have hx0 := rep_x hBn.1 hBn.2.1
              rw [h00] at hx0
              refine g_cVi (As := [.int (nI b33), .int (nI (8 + b53)), .int (nI (1 + (b68 / 5))), .int (nI b84), .int (g_b true)]) (rest := []) F hP hS hCo (cwV 5 hts gL_build_X6_addGear rfl rfl rfl cd_X6_addGear ⟨by rw [hR]; exact Nat.le_of_ble_eq_true rfl, by rw [hR]; exact Nat.le_of_ble_eq_true rfl⟩) hx0 rfl rfl rfl hl.1 (Nat.le_of_ble_eq_true rfl) dL_build_374 ⟨by rw [hR]; dsimp only; omega, by rw [hR]; dsimp only; omega⟩ rfl (fun E w9 ce q9 H locs hpx hP hS hce hcv hcl => ?_) (fun r148 w149 H locs h150 hP hS => ?_)
              · have hcd := (show cdAddGear S (nI b33) (nI (8 + b53)) (nI (1 + b68 / 5)) (nI b84) = 0 from (if_pos ⟨by omega, by omega⟩).trans ((if_pos (by unfold geQ inQ; rw [t2, t3, t4]; omega)).trans (if_pos (by omega))))
                rcases hpx.2 with ⟨_, q⟩ | ⟨_, q⟩ | ⟨_, q⟩ <;> exact absurd (hcd.symm.trans q) (by decide)
              · obtain ⟨hc0, er, hAf⟩ := h150
                obtain ⟨S151, eS151⟩ : ∃ z, z = nxAddGear S (nI b33) (nI (8 + b53)) (nI (1 + b68 / 5)) (nI b84) true := ⟨_, rfl⟩
                rw [← eS151] at hAf
                obtain ⟨hB152, kp153⟩ := lwB_aft h00 hLn hAf
                have f154 : w149 nn = some (.inl (G.2.1 0, 6, .inl Fn2)) := (kp153 nn (List.mem_of_getElem? (i := 0) rfl)).trans f132
                have f155 : w149 sh = some (.inl (G.2.1 0, 30, .inl Fs2)) := (kp153 sh (List.mem_of_getElem? (i := 1) rfl)).trans f133
                have f156 : w149 me = some (.inl (G.2.1 0, 32, .inl Fm0)) := (kp153 me (List.mem_of_getElem? (i := 3) rfl)).trans f134
                have f157 : w149 pl = some (.inl (G.2.1 0, 20, .inl Fp0)) := (kp153 pl (List.mem_of_getElem? (i := 4) rfl)).trans f135
                have f158 : w149 ge = some (.inl (G.2.1 0, 80, .inl (upd (upd (upd (upd (upd Fg (5 * k) (nI b33)) (5 * k + 1) (nI (8 + b53))) (5 * k + 2) (nI (1 + (b68 / 5)))) (5 * k + 3) (nI b84)) (5 * k + 4) 1))) := (kp153 ge (List.mem_of_getElem? (i := 2) rfl)).trans f136
                rw [er]
                obtain ⟨a1, a2, ⟨q4, q5, q6, q7, q8⟩, a4, a5⟩ := nx_gear eS151
                have s0n : (S 0 1).toNat = k := by omega
                rw [s0n] at q4 q5 q6 q7 q8 a4
                have zk : S151 0 0 = n0 ∧ S151 0 1 = ((k + 1 : Nat) : Int) ∧ S151 0 2 = 0 ∧ S151 0 3 = 0 ∧ S151 0 4 = -1 := by rw [a2 0 (by decide), a1, a2 2 (by decide), a2 3 (by decide), a2 4 (by decide)]; omega
                have ask : arS S151 n0 Fs2 := arS_c has (fun j _ => a5 3 j (by decide) (Or.inl (by decide)))
                have agk : arG S151 (k + 1) (upd (upd (upd (upd (upd Fg (5 * k) (nI b33)) (5 * k + 1) (nI (8 + b53))) (5 * k + 2) (nI (1 + (b68 / 5)))) (5 * k + 3) (nI b84)) (5 * k + 4) 1) := arG_1 hag (fun f j hj _ _ => a4 f j (by omega) (by omega)) (fun j hj => by rw [pk_un (by omega), pk_un (by omega), pk_un (by omega), pk_un (by omega), pk_un (by omega)]) ⟨by rw [q4, pk_un (by omega), pk_un (by omega), pk_un (by omega), pk_un (by omega), pk_us]; exact (iL_x _).symm, by rw [q5, pk_un (by omega), pk_un (by omega), pk_un (by omega), pk_us]; exact (iL_x _).symm, by rw [q6, pk_un (by omega), pk_un (by omega), pk_us]; exact (iL_x _).symm, by rw [q7, pk_un (by omega), pk_us]; exact (iL_x _).symm, by rw [q8, pk_us]; rfl⟩
                unfold vlAddGear
                refine lv_iload hx hb dL_build_377 (lv_at hl 2 rfl) ?_
                refine lv_icmp_eq (tgt := 384) hx hb dL_build_379 (by decide) (fun c159 => ?_) (fun c159 => ?_)
                · refine W.widen (k := 60 + 3 * (k + 1)) (n := 1100 + 112 * (k + 1)) (by omega) (by omega) ?_
                  obtain ⟨i160, ei160⟩ : ∃ y : Int32, y = nI k + (1) := ⟨_, rfl⟩
                  refine lv_iinc (v := i160) (lv' := [(8, .int i160), (10, .int (nI (5 * k))), (9, .int v27), (7, .ref nn), (6, .ref pl), (5, .ref me), (4, .ref ge), (3, .ref sh), (2, .int (nI 0)), (1, .ref b9), (0, .ref x)]) hx hb dL_build_384 hl (k := 2) rfl (by rw [ei160]; rfl) (by decide) rfl (fun ls hl => ?_)
                  have hi160 : i160 = nI (k + 1) := by
                    rw [ei160]
                    exact nI_1 k
                  rw [hi160] at hl
                  refine lv_goto (tgt := 187) hx hb dL_build_387 (by decide) ?_
                  exact ih_L187 (k + 1) S151 (upd (upd (upd (upd (upd Fg (5 * k) (nI b33)) (5 * k + 1) (nI (8 + b53))) (5 * k + 2) (nI (1 + (b68 / 5)))) (5 * k + 3) (nI b84)) (5 * k + 4) 1) w149 H locs ls (by omega) (by omega) (hB152) (zk) (ask) (agk) f154 f155 f158 f156 f157 hP hS (lv_sub hl [0, 3, 4, 5, 6, 7, 8, 9, 10] rfl)
                · exact absurd (iL_nat (by omega)) c159
        · refine lv_bipush (v := 30) hx hb dL_build_258 (by decide) ?_
          refine lv_goto (tgt := 266) hx hb dL_build_260 (by decide) ?_
          refine g_Si (As := [.int v43, .int 30]) (rest := [.int 8, .int (nI (5 * k + 1)), .ref ge]) F hP hS (k_L_below l A G w35 v43 30 (by omega) (by omega)) (va_cwS 2 hts gL_build_L_below rfl rfl rfl cd_L_below ⟨by rw [hR]; exact Nat.le_of_ble_eq_true rfl, by rw [hR]; exact Nat.le_of_ble_eq_true rfl⟩) rfl hl.1 (Nat.le_of_ble_eq_true rfl) dL_build_266 ⟨by rw [hR]; dsimp only; omega, by rw [hR]; dsimp only; omega⟩ rfl (fun r161 w162 H locs h163 hP hS => ?_)
          have hr161 := h163.1
          rw [h163.2] at hP
          rw [hr161]
          obtain ⟨b164, eb164⟩ : ∃ z, z = blw v43 30 := ⟨_, rfl⟩
          rw [← eb164]
          have k165 : b164 < 30 := by rw [eb164]; exact blw_lt _ (by omega)
          refine lv_iadd hx hb dL_build_269 ?_
          refine lv_topi (fun v166 ev166 => ?_)
          have hv166 : v166 = nI (8 + b164) := by
            rw [ev166]
            exact nI_add 8 b164
          rw [hv166]
          refine g_iast F hP hS f40 (vp_in_nI (by omega) (by omega)) dL_build_270 (fun H locs hP hS => ?_)
          rw [nI_clamp (n := 5 * k + 1) (by omega)] at hP
          obtain ⟨w167, ew167⟩ : ∃ z, z = g_up w35 ge (.inl (G.2.1 0, 80, .inl (upd (upd Fg (5 * k) (nI b33)) (5 * k + 1) (nI (8 + b164))))) := ⟨_, rfl⟩
          have hP : g_P A G w167 H := by rw [ew167]; exact hP
          have f168 : w167 nn = some (.inl (G.2.1 0, 6, .inl Fn2)) := by rw [ew167]; exact g_up_f f36 (Ne.symm (dnnge))
          have f169 : w167 sh = some (.inl (G.2.1 0, 30, .inl Fs2)) := by rw [ew167]; exact g_up_f f37 (dshge)
          have f170 : w167 me = some (.inl (G.2.1 0, 32, .inl Fm0)) := by rw [ew167]; exact g_up_f f38 (Ne.symm (dgeme))
          have f171 : w167 pl = some (.inl (G.2.1 0, 20, .inl Fp0)) := by rw [ew167]; exact g_up_f f39 (Ne.symm (dgepl))
          have f172 : w167 ge = some (.inl (G.2.1 0, 80, .inl (upd (upd Fg (5 * k) (nI b33)) (5 * k + 1) (nI (8 + b164))))) := by rw [ew167]; exact g_up_s _ _ _
          have hB173 := lwB_set hB41 (List.mem_of_getElem? (i := 2) rfl) ew167
          refine lv_aload hx hb dL_build_271 (lv_at hl 6 rfl) ?_
          refine lv_iload hx hb dL_build_273 (lv_at hl 0 rfl) ?_
          refine lv_iconst (v := 2) hx hb dL_build_275 (by decide) ?_
          refine lv_iadd hx hb dL_build_276 ?_
          refine lv_topi (fun v174 ev174 => ?_)
          have hv174 : v174 = nI (5 * k + 2) := by
            rw [ev174]
            exact nI_add (5 * k) 2
          rw [hv174]
          refine lv_iconst (v := 1) hx hb dL_build_277 (by decide) ?_
          refine lv_iload hx hb dL_build_278 (lv_at hl 1 rfl) ?_
          refine lv_iconst (v := 4) hx hb dL_build_280 (by decide) ?_
          refine lv_ishr hx hb dL_build_281 ?_
          refine lv_topi (fun v175 ev175 => ?_)
          refine lv_bipush (v := 6) hx hb dL_build_282 (by decide) ?_
          refine g_Si (As := [.int v175, .int 6]) (rest := [.int 1, .int (nI (5 * k + 2)), .ref ge]) F hP hS (k_L_below l A G w167 v175 6 (by omega) (by omega)) (va_cwS 2 hts gL_build_L_below rfl rfl rfl cd_L_below ⟨by rw [hR]; exact Nat.le_of_ble_eq_true rfl, by rw [hR]; exact Nat.le_of_ble_eq_true rfl⟩) rfl hl.1 (Nat.le_of_ble_eq_true rfl) dL_build_284 ⟨by rw [hR]; dsimp only; omega, by rw [hR]; dsimp only; omega⟩ rfl (fun r176 w177 H locs h178 hP hS => ?_)
          have hr176 := h178.1
          rw [h178.2] at hP
          rw [hr176]
          obtain ⟨b179, eb179⟩ : ∃ z, z = blw v175 6 := ⟨_, rfl⟩
          rw [← eb179]
          have k180 : b179 < 6 := by rw [eb179]; exact blw_lt _ (by omega)
          refine lv_iconst (v := 5) hx hb dL_build_287 (by decide) ?_
          refine lv_idiv hx hb dL_build_288 (by first | exact nI_ne0 (by omega) (by omega) | decide) ?_
          refine lv_topi (fun v181 ev181 => ?_)
          have hv181 : v181 = nI (b179 / 5) := by
            rw [ev181]
            exact nI_dv (a := b179) (d := 5) (by omega) (by omega) (by omega)
          rw [hv181]
          refine lv_iadd hx hb dL_build_289 ?_
          refine lv_topi (fun v182 ev182 => ?_)
          have hv182 : v182 = nI (1 + (b179 / 5)) := by
            rw [ev182]
            exact nI_add 1 (b179 / 5)
          rw [hv182]
          refine g_iast F hP hS f172 (vp_in_nI (by omega) (by omega)) dL_build_290 (fun H locs hP hS => ?_)
          rw [nI_clamp (n := 5 * k + 2) (by omega)] at hP
          obtain ⟨w183, ew183⟩ : ∃ z, z = g_up w167 ge (.inl (G.2.1 0, 80, .inl (upd (upd (upd Fg (5 * k) (nI b33)) (5 * k + 1) (nI (8 + b164))) (5 * k + 2) (nI (1 + (b179 / 5)))))) := ⟨_, rfl⟩
          have hP : g_P A G w183 H := by rw [ew183]; exact hP
          have f184 : w183 nn = some (.inl (G.2.1 0, 6, .inl Fn2)) := by rw [ew183]; exact g_up_f f168 (Ne.symm (dnnge))
          have f185 : w183 sh = some (.inl (G.2.1 0, 30, .inl Fs2)) := by rw [ew183]; exact g_up_f f169 (dshge)
          have f186 : w183 me = some (.inl (G.2.1 0, 32, .inl Fm0)) := by rw [ew183]; exact g_up_f f170 (Ne.symm (dgeme))
          have f187 : w183 pl = some (.inl (G.2.1 0, 20, .inl Fp0)) := by rw [ew183]; exact g_up_f f171 (Ne.symm (dgepl))
          have f188 : w183 ge = some (.inl (G.2.1 0, 80, .inl (upd (upd (upd Fg (5 * k) (nI b33)) (5 * k + 1) (nI (8 + b164))) (5 * k + 2) (nI (1 + (b179 / 5)))))) := by rw [ew183]; exact g_up_s _ _ _
          have hB189 := lwB_set hB173 (List.mem_of_getElem? (i := 2) rfl) ew183
          refine lv_aload hx hb dL_build_291 (lv_at hl 6 rfl) ?_
          refine lv_iload hx hb dL_build_293 (lv_at hl 0 rfl) ?_
          refine lv_iconst (v := 3) hx hb dL_build_295 (by decide) ?_
          refine lv_iadd hx hb dL_build_296 ?_
          refine lv_topi (fun v190 ev190 => ?_)
          have hv190 : v190 = nI (5 * k + 3) := by
            rw [ev190]
            exact nI_add (5 * k) 3
          rw [hv190]
          refine lv_iload hx hb dL_build_297 (lv_at hl 1 rfl) ?_
          refine lv_bipush (v := 6) hx hb dL_build_299 (by decide) ?_
          refine lv_ishr hx hb dL_build_301 ?_
          refine lv_topi (fun v191 ev191 => ?_)
          refine lv_iconst (v := 2) hx hb dL_build_302 (by decide) ?_
          refine g_Si (As := [.int v191, .int 2]) (rest := [.int (nI (5 * k + 3)), .ref ge]) F hP hS (k_L_below l A G w183 v191 2 (by omega) (by omega)) (va_cwS 2 hts gL_build_L_below rfl rfl rfl cd_L_below ⟨by rw [hR]; exact Nat.le_of_ble_eq_true rfl, by rw [hR]; exact Nat.le_of_ble_eq_true rfl⟩) rfl hl.1 (Nat.le_of_ble_eq_true rfl) dL_build_303 ⟨by rw [hR]; dsimp only; omega, by rw [hR]; dsimp only; omega⟩ rfl (fun r192 w193 H locs h194 hP hS => ?_)
          have hr192 := h194.1
          rw [h194.2] at hP
          rw [hr192]
          obtain ⟨b195, eb195⟩ : ∃ z, z = blw v191 2 := ⟨_, rfl⟩
          rw [← eb195]
          have k196 : b195 < 2 := by rw [eb195]; exact blw_lt _ (by omega)
          refine g_iast F hP hS f188 (vp_in_nI (by omega) (by omega)) dL_build_306 (fun H locs hP hS => ?_)
          rw [nI_clamp (n := 5 * k + 3) (by omega)] at hP
          obtain ⟨w197, ew197⟩ : ∃ z, z = g_up w183 ge (.inl (G.2.1 0, 80, .inl (upd (upd (upd (upd Fg (5 * k) (nI b33)) (5 * k + 1) (nI (8 + b164))) (5 * k + 2) (nI (1 + (b179 / 5)))) (5 * k + 3) (nI b195)))) := ⟨_, rfl⟩
          have hP : g_P A G w197 H := by rw [ew197]; exact hP
          have f198 : w197 nn = some (.inl (G.2.1 0, 6, .inl Fn2)) := by rw [ew197]; exact g_up_f f184 (Ne.symm (dnnge))
          have f199 : w197 sh = some (.inl (G.2.1 0, 30, .inl Fs2)) := by rw [ew197]; exact g_up_f f185 (dshge)
          have f200 : w197 me = some (.inl (G.2.1 0, 32, .inl Fm0)) := by rw [ew197]; exact g_up_f f186 (Ne.symm (dgeme))
          have f201 : w197 pl = some (.inl (G.2.1 0, 20, .inl Fp0)) := by rw [ew197]; exact g_up_f f187 (Ne.symm (dgepl))
          have f202 : w197 ge = some (.inl (G.2.1 0, 80, .inl (upd (upd (upd (upd Fg (5 * k) (nI b33)) (5 * k + 1) (nI (8 + b164))) (5 * k + 2) (nI (1 + (b179 / 5)))) (5 * k + 3) (nI b195)))) := by rw [ew197]; exact g_up_s _ _ _
          have hB203 := lwB_set hB189 (List.mem_of_getElem? (i := 2) rfl) ew197
          refine lv_aload hx hb dL_build_307 (lv_at hl 6 rfl) ?_
          refine lv_iload hx hb dL_build_309 (lv_at hl 0 rfl) ?_
          refine lv_iconst (v := 4) hx hb dL_build_311 (by decide) ?_
          refine lv_iadd hx hb dL_build_312 ?_
          refine lv_topi (fun v204 ev204 => ?_)
          have hv204 : v204 = nI (5 * k + 4) := by
            rw [ev204]
            exact nI_add (5 * k) 4
          rw [hv204]
          refine lv_iload hx hb dL_build_313 (lv_at hl 1 rfl) ?_
          refine lv_bipush (v := 7) hx hb dL_build_315 (by decide) ?_
          refine lv_ishr hx hb dL_build_317 ?_
          refine lv_topi (fun v205 ev205 => ?_)
          refine lv_iconst (v := 5) hx hb dL_build_318 (by decide) ?_
          refine g_Si (As := [.int v205, .int 5]) (rest := [.int (nI (5 * k + 4)), .ref ge]) F hP hS (k_L_below l A G w197 v205 5 (by omega) (by omega)) (va_cwS 2 hts gL_build_L_below rfl rfl rfl cd_L_below ⟨by rw [hR]; exact Nat.le_of_ble_eq_true rfl, by rw [hR]; exact Nat.le_of_ble_eq_true rfl⟩) rfl hl.1 (Nat.le_of_ble_eq_true rfl) dL_build_319 ⟨by rw [hR]; dsimp only; omega, by rw [hR]; dsimp only; omega⟩ rfl (fun r206 w207 H locs h208 hP hS => ?_)
          have hr206 := h208.1
          rw [h208.2] at hP
          rw [hr206]
          obtain ⟨b209, eb209⟩ : ∃ z, z = blw v205 5 := ⟨_, rfl⟩
          rw [← eb209]
          have k210 : b209 < 5 := by rw [eb209]; exact blw_lt _ (by omega)
          refine lv_if_ne (tgt := 329) hx hb dL_build_322 (by decide) (fun c211 => ?_) (fun c211 => ?_)
          · refine lv_iconst (v := 0) hx hb dL_build_329 (by decide) ?_
            refine g_iast F hP hS f202 (vp_in_nI (by omega) (by omega)) dL_build_330 (fun H locs hP hS => ?_)
            rw [nI_clamp (n := 5 * k + 4) (by omega)] at hP
            obtain ⟨w212, ew212⟩ : ∃ z, z = g_up w197 ge (.inl (G.2.1 0, 80, .inl (upd (upd (upd (upd (upd Fg (5 * k) (nI b33)) (5 * k + 1) (nI (8 + b164))) (5 * k + 2) (nI (1 + (b179 / 5)))) (5 * k + 3) (nI b195)) (5 * k + 4) 0))) := ⟨_, rfl⟩
            have hP : g_P A G w212 H := by rw [ew212]; exact hP
            have f213 : w212 nn = some (.inl (G.2.1 0, 6, .inl Fn2)) := by rw [ew212]; exact g_up_f f198 (Ne.symm (dnnge))
            have f214 : w212 sh = some (.inl (G.2.1 0, 30, .inl Fs2)) := by rw [ew212]; exact g_up_f f199 (dshge)
            have f215 : w212 me = some (.inl (G.2.1 0, 32, .inl Fm0)) := by rw [ew212]; exact g_up_f f200 (Ne.symm (dgeme))
            have f216 : w212 pl = some (.inl (G.2.1 0, 20, .inl Fp0)) := by rw [ew212]; exact g_up_f f201 (Ne.symm (dgepl))
            have f217 : w212 ge = some (.inl (G.2.1 0, 80, .inl (upd (upd (upd (upd (upd Fg (5 * k) (nI b33)) (5 * k + 1) (nI (8 + b164))) (5 * k + 2) (nI (1 + (b179 / 5)))) (5 * k + 3) (nI b195)) (5 * k + 4) 0))) := by rw [ew212]; exact g_up_s _ _ _
            have hB218 := lwB_set hB203 (List.mem_of_getElem? (i := 2) rfl) ew212
            refine lv_aload_n hx hb dL_build_331 rfl (lv_at hl 10 rfl) ?_
            refine lv_aload hx hb dL_build_332 (lv_at hl 6 rfl) ?_
            refine lv_iload hx hb dL_build_334 (lv_at hl 0 rfl) ?_
            refine g_iald F hP f217 (vp_in_nI (by omega) (by omega)) dL_build_336 ?_
            refine lv_topi (fun v219 ev219 => ?_)
            have hv219 : v219 = nI b33 := by
              rw [ev219]
              rw [nI_clamp (n := 5 * k) (by omega)]
              exact (pk_un (k := (5 * k + 4)) (j := (5 * k)) (by omega)).trans ((pk_un (k := (5 * k + 3)) (j := (5 * k)) (by omega)).trans ((pk_un (k := (5 * k + 2)) (j := (5 * k)) (by omega)).trans ((pk_un (k := (5 * k + 1)) (j := (5 * k)) (by omega)).trans (pk_us))))
            rw [hv219]
            refine lv_aload hx hb dL_build_337 (lv_at hl 6 rfl) ?_
            refine lv_iload hx hb dL_build_339 (lv_at hl 0 rfl) ?_
            refine lv_iconst (v := 1) hx hb dL_build_341 (by decide) ?_
            refine lv_iadd hx hb dL_build_342 ?_
            refine lv_topi (fun v220 ev220 => ?_)
            have hv220 : v220 = nI (5 * k + 1) := by
              rw [ev220]
              exact nI_add (5 * k) 1
            rw [hv220]
            refine g_iald F hP f217 (vp_in_nI (by omega) (by omega)) dL_build_343 ?_
            refine lv_topi (fun v221 ev221 => ?_)
            have hv221 : v221 = nI (8 + b164) := by
              rw [ev221]
              rw [nI_clamp (n := 5 * k + 1) (by omega)]
              exact (pk_un (k := (5 * k + 4)) (j := (5 * k + 1)) (by omega)).trans ((pk_un (k := (5 * k + 3)) (j := (5 * k + 1)) (by omega)).trans ((pk_un (k := (5 * k + 2)) (j := (5 * k + 1)) (by omega)).trans (pk_us)))
            rw [hv221]
            refine lv_aload hx hb dL_build_344 (lv_at hl 6 rfl) ?_
            refine lv_iload hx hb dL_build_346 (lv_at hl 0 rfl) ?_
            refine lv_iconst (v := 2) hx hb dL_build_348 (by decide) ?_
            refine lv_iadd hx hb dL_build_349 ?_
            refine lv_topi (fun v222 ev222 => ?_)
            have hv222 : v222 = nI (5 * k + 2) := by
              rw [ev222]
              exact nI_add (5 * k) 2
            rw [hv222]
            refine g_iald F hP f217 (vp_in_nI (by omega) (by omega)) dL_build_350 ?_
            refine lv_topi (fun v223 ev223 => ?_)
            have hv223 : v223 = nI (1 + (b179 / 5)) := by
              rw [ev223]
              rw [nI_clamp (n := 5 * k + 2) (by omega)]
              exact (pk_un (k := (5 * k + 4)) (j := (5 * k + 2)) (by omega)).trans ((pk_un (k := (5 * k + 3)) (j := (5 * k + 2)) (by omega)).trans (pk_us))
            rw [hv223]
            refine lv_aload hx hb dL_build_351 (lv_at hl 6 rfl) ?_
            refine lv_iload hx hb dL_build_353 (lv_at hl 0 rfl) ?_
            refine lv_iconst (v := 3) hx hb dL_build_355 (by decide) ?_
            refine lv_iadd hx hb dL_build_356 ?_
            refine lv_topi (fun v224 ev224 => ?_)
            have hv224 : v224 = nI (5 * k + 3) := by
              rw [ev224]
              exact nI_add (5 * k) 3
            rw [hv224]
            refine g_iald F hP f217 (vp_in_nI (by omega) (by omega)) dL_build_357 ?_
            refine lv_topi (fun v225 ev225 => ?_)
            have hv225 : v225 = nI b195 := by
              rw [ev225]
              rw [nI_clamp (n := 5 * k + 3) (by omega)]
              exact (pk_un (k := (5 * k + 4)) (j := (5 * k + 3)) (by omega)).trans (pk_us)
            rw [hv225]
            refine lv_aload hx hb dL_build_358 (lv_at hl 6 rfl) ?_
            refine lv_iload hx hb dL_build_360 (lv_at hl 0 rfl) ?_
            refine lv_iconst (v := 4) hx hb dL_build_362 (by decide) ?_
            refine lv_iadd hx hb dL_build_363 ?_
            refine lv_topi (fun v226 ev226 => ?_)
            have hv226 : v226 = nI (5 * k + 4) := by
              rw [ev226]
              exact nI_add (5 * k) 4
            rw [hv226]
            refine g_iald F hP f217 (vp_in_nI (by omega) (by omega)) dL_build_364 ?_
            refine lv_topi (fun v227 ev227 => ?_)
            have hv227 : v227 = 0 := by
              rw [ev227]
              rw [nI_clamp (n := 5 * k + 4) (by omega)]
              exact pk_us
            rw [hv227]
            refine lv_iconst (v := 1) hx hb dL_build_365 (by decide) ?_
            refine lv_icmp_ne (tgt := 373) hx hb dL_build_366 (by decide) (fun c228 => ?_) (fun c228 => ?_)
            · refine lv_iconst (v := 0) hx hb dL_build_373 (by decide) ?_
              rw [show (.int 0 : Value) = .int (g_b false) from rfl]
              have t1 := nI_i b33 (by omega)
              have t2 := nI_i (8 + b164) (by omega)
              have t3 := nI_i (1 + b179 / 5) (by omega)
              have t4 := nI_i b195 (by omega)
              obtain ⟨ad, Cn, T, h00, hBn, hLn⟩ := id hB218
              have hCo := k_X6_addGear l hlt A G w212 ad Cn S T (nI b33) (nI (8 + b164)) (nI (1 + b179 / 5)) (nI b195) false hBn.1 hBn.2.1 hBn.2.2.1 hBn.2.2.2.1 hBn.2.2.2.2
              rw [h00] at hCo
              have hx0 := rep_x hBn.1 hBn.2.1
              rw [h00] at hx0
              refine g_cVi (As := [.int (nI b33), .int (nI (8 + b164)), .int (nI (1 + (b179 / 5))), .int (nI b195), .int (g_b false)]) (rest := []) F hP hS hCo (cwV 5 hts gL_build_X6_addGear rfl rfl rfl cd_X6_addGear ⟨by rw [hR]; exact Nat.le_of_ble_eq_true rfl, by rw [hR]; exact Nat.le_of_ble_eq_true rfl⟩) hx0 rfl rfl rfl hl.1 (Nat.le_of_ble_eq_true rfl) dL_build_374 ⟨by rw [hR]; dsimp only; omega, by rw [hR]; dsimp only; omega⟩ rfl (fun E w9 ce q9 H locs hpx hP hS hce hcv hcl => ?_) (fun r229 w230 H locs h231 hP hS => ?_)
              · have hcd := (show cdAddGear S (nI b33) (nI (8 + b164)) (nI (1 + b179 / 5)) (nI b195) = 0 from (if_pos ⟨by omega, by omega⟩).trans ((if_pos (by unfold geQ inQ; rw [t2, t3, t4]; omega)).trans (if_pos (by omega))))
                rcases hpx.2 with ⟨_, q⟩ | ⟨_, q⟩ | ⟨_, q⟩ <;> exact absurd (hcd.symm.trans q) (by decide)
              · obtain ⟨hc0, er, hAf⟩ := h231
                obtain ⟨S232, eS232⟩ : ∃ z, z = nxAddGear S (nI b33) (nI (8 + b164)) (nI (1 + b179 / 5)) (nI b195) false := ⟨_, rfl⟩
                rw [← eS232] at hAf
                obtain ⟨hB233, kp234⟩ := lwB_aft h00 hLn hAf
                have f235 : w230 nn = some (.inl (G.2.1 0, 6, .inl Fn2)) := (kp234 nn (List.mem_of_getElem? (i := 0) rfl)).trans f213
                have f236 : w230 sh = some (.inl (G.2.1 0, 30, .inl Fs2)) := (kp234 sh (List.mem_of_getElem? (i := 1) rfl)).trans f214
                have f237 : w230 me = some (.inl (G.2.1 0, 32, .inl Fm0)) := (kp234 me (List.mem_of_getElem? (i := 3) rfl)).trans f215
                have f238 : w230 pl = some (.inl (G.2.1 0, 20, .inl Fp0)) := (kp234 pl (List.mem_of_getElem? (i := 4) rfl)).trans f216
                have f239 : w230 ge = some (.inl (G.2.1 0, 80, .inl (upd (upd (upd (upd (upd Fg (5 * k) (nI b33)) (5 * k + 1) (nI (8 + b164))) (5 * k + 2) (nI (1 + (b179 / 5)))) (5 * k + 3) (nI b195)) (5 * k + 4) 0))) := (kp234 ge (List.mem_of_getElem? (i := 2) rfl)).trans f217
                rw [er]
                obtain ⟨a1, a2, ⟨q4, q5, q6, q7, q8⟩, a4, a5⟩ := nx_gear eS232
                have s0n : (S 0 1).toNat = k := by omega
                rw [s0n] at q4 q5 q6 q7 q8 a4
                have zk : S232 0 0 = n0 ∧ S232 0 1 = ((k + 1 : Nat) : Int) ∧ S232 0 2 = 0 ∧ S232 0 3 = 0 ∧ S232 0 4 = -1 := by rw [a2 0 (by decide), a1, a2 2 (by decide), a2 3 (by decide), a2 4 (by decide)]; omega
                have ask : arS S232 n0 Fs2 := arS_c has (fun j _ => a5 3 j (by decide) (Or.inl (by decide)))
                have agk : arG S232 (k + 1) (upd (upd (upd (upd (upd Fg (5 * k) (nI b33)) (5 * k + 1) (nI (8 + b164))) (5 * k + 2) (nI (1 + (b179 / 5)))) (5 * k + 3) (nI b195)) (5 * k + 4) 0) := arG_1 hag (fun f j hj _ _ => a4 f j (by omega) (by omega)) (fun j hj => by rw [pk_un (by omega), pk_un (by omega), pk_un (by omega), pk_un (by omega), pk_un (by omega)]) ⟨by rw [q4, pk_un (by omega), pk_un (by omega), pk_un (by omega), pk_un (by omega), pk_us]; exact (iL_x _).symm, by rw [q5, pk_un (by omega), pk_un (by omega), pk_un (by omega), pk_us]; exact (iL_x _).symm, by rw [q6, pk_un (by omega), pk_un (by omega), pk_us]; exact (iL_x _).symm, by rw [q7, pk_un (by omega), pk_us]; exact (iL_x _).symm, by rw [q8, pk_us]; rfl⟩
                unfold vlAddGear
                refine lv_iload hx hb dL_build_377 (lv_at hl 2 rfl) ?_
                refine lv_icmp_eq (tgt := 384) hx hb dL_build_379 (by decide) (fun c240 => ?_) (fun c240 => ?_)
                · refine W.widen (k := 60 + 3 * (k + 1)) (n := 1100 + 112 * (k + 1)) (by omega) (by omega) ?_
                  obtain ⟨i241, ei241⟩ : ∃ y : Int32, y = nI k + (1) := ⟨_, rfl⟩
                  refine lv_iinc (v := i241) (lv' := [(8, .int i241), (10, .int (nI (5 * k))), (9, .int v27), (7, .ref nn), (6, .ref pl), (5, .ref me), (4, .ref ge), (3, .ref sh), (2, .int (nI 0)), (1, .ref b9), (0, .ref x)]) hx hb dL_build_384 hl (k := 2) rfl (by rw [ei241]; rfl) (by decide) rfl (fun ls hl => ?_)
                  have hi241 : i241 = nI (k + 1) := by
                    rw [ei241]
                    exact nI_1 k
                  rw [hi241] at hl
                  refine lv_goto (tgt := 187) hx hb dL_build_387 (by decide) ?_
                  exact ih_L187 (k + 1) S232 (upd (upd (upd (upd (upd Fg (5 * k) (nI b33)) (5 * k + 1) (nI (8 + b164))) (5 * k + 2) (nI (1 + (b179 / 5)))) (5 * k + 3) (nI b195)) (5 * k + 4) 0) w230 H locs ls (by omega) (by omega) (hB233) (zk) (ask) (agk) f235 f236 f239 f237 f238 hP hS (lv_sub hl [0, 3, 4, 5, 6, 7, 8, 9, 10] rfl)
                · exact absurd (iL_nat (by omega)) c240
            · exact absurd c228 (by decide)
          · refine lv_iconst (v := 1) hx hb dL_build_325 (by decide) ?_
            refine lv_goto (tgt := 330) hx hb dL_build_326 (by decide) ?_
            refine g_iast F hP hS f202 (vp_in_nI (by omega) (by omega)) dL_build_330 (fun H locs hP hS => ?_)
            rw [nI_clamp (n := 5 * k + 4) (by omega)] at hP
            obtain ⟨w242, ew242⟩ : ∃ z, z = g_up w197 ge (.inl (G.2.1 0, 80, .inl (upd (upd (upd (upd (upd Fg (5 * k) (nI b33)) (5 * k + 1) (nI (8 + b164))) (5 * k + 2) (nI (1 + (b179 / 5)))) (5 * k + 3) (nI b195)) (5 * k + 4) 1))) := ⟨_, rfl⟩
            have hP : g_P A G w242 H := by rw [ew242]; exact hP
            have f243 : w242 nn = some (.inl (G.2.1 0, 6, .inl Fn2)) := by rw [ew242]; exact g_up_f f198 (Ne.symm (dnnge))
            have f244 : w242 sh = some (.inl (G.2.1 0, 30, .inl Fs2)) := by rw [ew242]; exact g_up_f f199 (dshge)
            have f245 : w242 me = some (.inl (G.2.1 0, 32, .inl Fm0)) := by rw [ew242]; exact g_up_f f200 (Ne.symm (dgeme))
            have f246 : w242 pl = some (.inl (G.2.1 0, 20, .inl Fp0)) := by rw [ew242]; exact g_up_f f201 (Ne.symm (dgepl))
            have f247 : w242 ge = some (.inl (G.2.1 0, 80, .inl (upd (upd (upd (upd (upd Fg (5 * k) (nI b33)) (5 * k + 1) (nI (8 + b164))) (5 * k + 2) (nI (1 + (b179 / 5)))) (5 * k + 3) (nI b195)) (5 * k + 4) 1))) := by rw [ew242]; exact g_up_s _ _ _
            have hB248 := lwB_set hB203 (List.mem_of_getElem? (i := 2) rfl) ew242
            refine lv_aload_n hx hb dL_build_331 rfl (lv_at hl 10 rfl) ?_
            refine lv_aload hx hb dL_build_332 (lv_at hl 6 rfl) ?_
            refine lv_iload hx hb dL_build_334 (lv_at hl 0 rfl) ?_
            refine g_iald F hP f247 (vp_in_nI (by omega) (by omega)) dL_build_336 ?_
            refine lv_topi (fun v249 ev249 => ?_)
            have hv249 : v249 = nI b33 := by
              rw [ev249]
              rw [nI_clamp (n := 5 * k) (by omega)]
              exact (pk_un (k := (5 * k + 4)) (j := (5 * k)) (by omega)).trans ((pk_un (k := (5 * k + 3)) (j := (5 * k)) (by omega)).trans ((pk_un (k := (5 * k + 2)) (j := (5 * k)) (by omega)).trans ((pk_un (k := (5 * k + 1)) (j := (5 * k)) (by omega)).trans (pk_us))))
            rw [hv249]
            refine lv_aload hx hb dL_build_337 (lv_at hl 6 rfl) ?_
            refine lv_iload hx hb dL_build_339 (lv_at hl 0 rfl) ?_
            refine lv_iconst (v := 1) hx hb dL_build_341 (by decide) ?_
            refine lv_iadd hx hb dL_build_342 ?_
            refine lv_topi (fun v250 ev250 => ?_)
            have hv250 : v250 = nI (5 * k + 1) := by
              rw [ev250]
              exact nI_add (5 * k) 1
            rw [hv250]
            refine g_iald F hP f247 (vp_in_nI (by omega) (by omega)) dL_build_343 ?_
            refine lv_topi (fun v251 ev251 => ?_)
            have hv251 : v251 = nI (8 + b164) := by
              rw [ev251]
              rw [nI_clamp (n := 5 * k + 1) (by omega)]
              exact (pk_un (k := (5 * k + 4)) (j := (5 * k + 1)) (by omega)).trans ((pk_un (k := (5 * k + 3)) (j := (5 * k + 1)) (by omega)).trans ((pk_un (k := (5 * k + 2)) (j := (5 * k + 1)) (by omega)).trans (pk_us)))
            rw [hv251]
            refine lv_aload hx hb dL_build_344 (lv_at hl 6 rfl) ?_
            refine lv_iload hx hb dL_build_346 (lv_at hl 0 rfl) ?_
            refine lv_iconst (v := 2) hx hb dL_build_348 (by decide) ?_
            refine lv_iadd hx hb dL_build_349 ?_
            refine lv_topi (fun v252 ev252 => ?_)
            have hv252 : v252 = nI (5 * k + 2) := by
              rw [ev252]
              exact nI_add (5 * k) 2
            rw [hv252]
            refine g_iald F hP f247 (vp_in_nI (by omega) (by omega)) dL_build_350 ?_
            refine lv_topi (fun v253 ev253 => ?_)
            have hv253 : v253 = nI (1 + (b179 / 5)) := by
              rw [ev253]
              rw [nI_clamp (n := 5 * k + 2) (by omega)]
              exact (pk_un (k := (5 * k + 4)) (j := (5 * k + 2)) (by omega)).trans ((pk_un (k := (5 * k + 3)) (j := (5 * k + 2)) (by omega)).trans (pk_us))
            rw [hv253]
            refine lv_aload hx hb dL_build_351 (lv_at hl 6 rfl) ?_
            refine lv_iload hx hb dL_build_353 (lv_at hl 0 rfl) ?_
            refine lv_iconst (v := 3) hx hb dL_build_355 (by decide) ?_
            refine lv_iadd hx hb dL_build_356 ?_
            refine lv_topi (fun v254 ev254 => ?_)
            have hv254 : v254 = nI (5 * k + 3) := by
              rw [ev254]
              exact nI_add (5 * k) 3
            rw [hv254]
            refine g_iald F hP f247 (vp_in_nI (by omega) (by omega)) dL_build_357 ?_
            refine lv_topi (fun v255 ev255 => ?_)
            have hv255 : v255 = nI b195 := by
              rw [ev255]
              rw [nI_clamp (n := 5 * k + 3) (by omega)]
              exact (pk_un (k := (5 * k + 4)) (j := (5 * k + 3)) (by omega)).trans (pk_us)
            rw [hv255]
            refine lv_aload hx hb dL_build_358 (lv_at hl 6 rfl) ?_
            refine lv_iload hx hb dL_build_360 (lv_at hl 0 rfl) ?_
            refine lv_iconst (v := 4) hx hb dL_build_362 (by decide) ?_
            refine lv_iadd hx hb dL_build_363 ?_
            refine lv_topi (fun v256 ev256 => ?_)
            have hv256 : v256 = nI (5 * k + 4) := by
              rw [ev256]
              exact nI_add (5 * k) 4
            rw [hv256]
            refine g_iald F hP f247 (vp_in_nI (by omega) (by omega)) dL_build_364 ?_
            refine lv_topi (fun v257 ev257 => ?_)
            have hv257 : v257 = 1 := by
              rw [ev257]
              rw [nI_clamp (n := 5 * k + 4) (by omega)]
              exact pk_us
            rw [hv257]
            refine lv_iconst (v := 1) hx hb dL_build_365 (by decide) ?_
            refine lv_icmp_ne (tgt := 373) hx hb dL_build_366 (by decide) (fun c258 => ?_) (fun c258 => ?_)
            · exact absurd rfl c258
            · refine lv_iconst (v := 1) hx hb dL_build_369 (by decide) ?_
              refine lv_goto (tgt := 374) hx hb dL_build_370 (by decide) ?_
              rw [show (.int 1 : Value) = .int (g_b true) from rfl]
              have t1 := nI_i b33 (by omega)
              have t2 := nI_i (8 + b164) (by omega)
              have t3 := nI_i (1 + b179 / 5) (by omega)
              have t4 := nI_i b195 (by omega)
              obtain ⟨ad, Cn, T, h00, hBn, hLn⟩ := id hB248
              have hCo := k_X6_addGear l hlt A G w242 ad Cn S T (nI b33) (nI (8 + b164)) (nI (1 + b179 / 5)) (nI b195) true hBn.1 hBn.2.1 hBn.2.2.1 hBn.2.2.2.1 hBn.2.2.2.2
              rw [h00] at hCo
              have hx0 := rep_x hBn.1 hBn.2.1
              rw [h00] at hx0
              refine g_cVi (As := [.int (nI b33), .int (nI (8 + b164)), .int (nI (1 + (b179 / 5))), .int (nI b195), .int (g_b true)]) (rest := []) F hP hS hCo (cwV 5 hts gL_build_X6_addGear rfl rfl rfl cd_X6_addGear ⟨by rw [hR]; exact Nat.le_of_ble_eq_true rfl, by rw [hR]; exact Nat.le_of_ble_eq_true rfl⟩) hx0 rfl rfl rfl hl.1 (Nat.le_of_ble_eq_true rfl) dL_build_374 ⟨by rw [hR]; dsimp only; omega, by rw [hR]; dsimp only; omega⟩ rfl (fun E w9 ce q9 H locs hpx hP hS hce hcv hcl => ?_) (fun r259 w260 H locs h261 hP hS => ?_)
              · have hcd := (show cdAddGear S (nI b33) (nI (8 + b164)) (nI (1 + b179 / 5)) (nI b195) = 0 from (if_pos ⟨by omega, by omega⟩).trans ((if_pos (by unfold geQ inQ; rw [t2, t3, t4]; omega)).trans (if_pos (by omega))))
                rcases hpx.2 with ⟨_, q⟩ | ⟨_, q⟩ | ⟨_, q⟩ <;> exact absurd (hcd.symm.trans q) (by decide)
              · obtain ⟨hc0, er, hAf⟩ := h261
                obtain ⟨S262, eS262⟩ : ∃ z, z = nxAddGear S (nI b33) (nI (8 + b164)) (nI (1 + b179 / 5)) (nI b195) true := ⟨_, rfl⟩
                rw [← eS262] at hAf
                obtain ⟨hB263, kp264⟩ := lwB_aft h00 hLn hAf
                have f265 : w260 nn = some (.inl (G.2.1 0, 6, .inl Fn2)) := (kp264 nn (List.mem_of_getElem? (i := 0) rfl)).trans f243
                have f266 : w260 sh = some (.inl (G.2.1 0, 30, .inl Fs2)) := (kp264 sh (List.mem_of_getElem? (i := 1) rfl)).trans f244
                have f267 : w260 me = some (.inl (G.2.1 0, 32, .inl Fm0)) := (kp264 me (List.mem_of_getElem? (i := 3) rfl)).trans f245
                have f268 : w260 pl = some (.inl (G.2.1 0, 20, .inl Fp0)) := (kp264 pl (List.mem_of_getElem? (i := 4) rfl)).trans f246
                have f269 : w260 ge = some (.inl (G.2.1 0, 80, .inl (upd (upd (upd (upd (upd Fg (5 * k) (nI b33)) (5 * k + 1) (nI (8 + b164))) (5 * k + 2) (nI (1 + (b179 / 5)))) (5 * k + 3) (nI b195)) (5 * k + 4) 1))) := (kp264 ge (List.mem_of_getElem? (i := 2) rfl)).trans f247
                rw [er]
                obtain ⟨a1, a2, ⟨q4, q5, q6, q7, q8⟩, a4, a5⟩ := nx_gear eS262
                have s0n : (S 0 1).toNat = k := by omega
                rw [s0n] at q4 q5 q6 q7 q8 a4
                have zk : S262 0 0 = n0 ∧ S262 0 1 = ((k + 1 : Nat) : Int) ∧ S262 0 2 = 0 ∧ S262 0 3 = 0 ∧ S262 0 4 = -1 := by rw [a2 0 (by decide), a1, a2 2 (by decide), a2 3 (by decide), a2 4 (by decide)]; omega
                have ask : arS S262 n0 Fs2 := arS_c has (fun j _ => a5 3 j (by decide) (Or.inl (by decide)))
                have agk : arG S262 (k + 1) (upd (upd (upd (upd (upd Fg (5 * k) (nI b33)) (5 * k + 1) (nI (8 + b164))) (5 * k + 2) (nI (1 + (b179 / 5)))) (5 * k + 3) (nI b195)) (5 * k + 4) 1) := arG_1 hag (fun f j hj _ _ => a4 f j (by omega) (by omega)) (fun j hj => by rw [pk_un (by omega), pk_un (by omega), pk_un (by omega), pk_un (by omega), pk_un (by omega)]) ⟨by rw [q4, pk_un (by omega), pk_un (by omega), pk_un (by omega), pk_un (by omega), pk_us]; exact (iL_x _).symm, by rw [q5, pk_un (by omega), pk_un (by omega), pk_un (by omega), pk_us]; exact (iL_x _).symm, by rw [q6, pk_un (by omega), pk_un (by omega), pk_us]; exact (iL_x _).symm, by rw [q7, pk_un (by omega), pk_us]; exact (iL_x _).symm, by rw [q8, pk_us]; rfl⟩
                unfold vlAddGear
                refine lv_iload hx hb dL_build_377 (lv_at hl 2 rfl) ?_
                refine lv_icmp_eq (tgt := 384) hx hb dL_build_379 (by decide) (fun c270 => ?_) (fun c270 => ?_)
                · refine W.widen (k := 60 + 3 * (k + 1)) (n := 1100 + 112 * (k + 1)) (by omega) (by omega) ?_
                  obtain ⟨i271, ei271⟩ : ∃ y : Int32, y = nI k + (1) := ⟨_, rfl⟩
                  refine lv_iinc (v := i271) (lv' := [(8, .int i271), (10, .int (nI (5 * k))), (9, .int v27), (7, .ref nn), (6, .ref pl), (5, .ref me), (4, .ref ge), (3, .ref sh), (2, .int (nI 0)), (1, .ref b9), (0, .ref x)]) hx hb dL_build_384 hl (k := 2) rfl (by rw [ei271]; rfl) (by decide) rfl (fun ls hl => ?_)
                  have hi271 : i271 = nI (k + 1) := by
                    rw [ei271]
                    exact nI_1 k
                  rw [hi271] at hl
                  refine lv_goto (tgt := 187) hx hb dL_build_387 (by decide) ?_
                  exact ih_L187 (k + 1) S262 (upd (upd (upd (upd (upd Fg (5 * k) (nI b33)) (5 * k + 1) (nI (8 + b164))) (5 * k + 2) (nI (1 + (b179 / 5)))) (5 * k + 3) (nI b195)) (5 * k + 4) 1) w260 H locs ls (by omega) (by omega) (hB263) (zk) (ask) (agk) f265 f266 f269 f267 f268 hP hS (lv_sub hl [0, 3, 4, 5, 6, 7, 8, 9, 10] rfl)
                · exact absurd (iL_nat (by omega)) c270
  exact L187 (n1 + 1) 0 S Fg0 w10 H locs ls (by omega) (by omega) (hB16) (⟨zz0, zz1, zz2, zz3, zz4⟩) (has) (arG_0 _ _) f15 f11 f12 f13 f14 hP hS (lv_sub hl [0, 1, 2, 3, 4, 5, 6, 7, 8] rfl)
