theorem cd_X6_addPlanets : yX6_addPlanets.cls = RX6 ∧ yX6_addPlanets.cls ≠ "java/lang/invoke/MethodHandle" ∧ yX6_addPlanets.cls ≠ "java/lang/invoke/VarHandle" ∧ (parseMethodDescriptor yX6_addPlanets.desc).map (fun d => d.parameters.length) = some 5 := by decide +kernel
set_option maxHeartbeats 4000000 in
set_option maxRecDepth 100000 in
theorem bld_4 {p : Program} {l : Launch} {e : Env} {R : Room} {s : State} {m : MethodId} {args : Array Value} {below : List Frame} {meth : Method} {c : Code} {Q : State → Prop} {A : Nat → Prop} {G : g_C} (F : g_F p m c cL_build 15 s args wsL_build RL A G) (hR : R = ({ frames := 8, cells := 400, slots := 7000, locals := 256 } : Room)) (hlt : l.stackTraces = false) {b9 N9 : Nat} {xs : Nat → Int32} (hX : va_X b9 N9 xs s s.heap) (hbl : b9 < s.heap.size) (hbA : ¬ A b9) (hN9 : N9 ≤ 260) (htab : c.exceptionTable.toList = tableOf [(731, 741, 744, 35)]) {x sh ge me pl nn : Nat} (dshge : sh ≠ ge) (dshme : sh ≠ me) (dshpl : sh ≠ pl) (dgeme : ge ≠ me) (dgepl : ge ≠ pl) (dmepl : me ≠ pl) (dnnsh : sh ≠ nn) (dnnge : ge ≠ nn) (dnnme : me ≠ nn) (dnnpl : pl ≠ nn) {nn : Nat} {Fp0 : Nat → Int32} {n0 : Nat} {n1 : Nat} {m2 : Nat} {S : Sg} {Fs2 : Nat → Int32} {Fg2 : Nat → Int32} {Fm2 : Nat → Int32} {Fn : Nat → Int32} {w : g_W} (dnnsh : sh ≠ nn) (dnnge : ge ≠ nn) (dnnme : me ≠ nn) (dnnpl : pl ≠ nn) (hn0 : 2 ≤ n0 ∧ n0 ≤ 8) (hn1 : n1 ≤ 12) (hm2 : m2 ≤ 16) (zz0 : S 0 0 = n0) (zz1 : S 0 1 = n1) (zz2 : S 0 2 = m2) (zz3 : S 0 3 = 0) (zz4 : S 0 4 = -1) (has : arS S n0 Fs2) (hag : arG S n1 Fg2) (ham : arM S m2 Fm2) (hf0 : Fn 0 = nI n0) (hf1 : Fn 1 = nI n1) (hf2 : Fn 2 = nI m2) (hf3 : Fn 3 = 0) (hB : lwB G w x S [nn, sh, ge, me, pl]) (hnn : w nn = some (.inl (G.2.1 0, 6, .inl Fn))) (hsh : w sh = some (.inl (G.2.1 0, 30, .inl Fs2))) (hge : w ge = some (.inl (G.2.1 0, 80, .inl Fg2))) (hme : w me = some (.inl (G.2.1 0, 32, .inl Fm2))) (hpl : w pl = some (.inl (G.2.1 0, 20, .inl Fp0))) {H : Heap} {locs : List Loc} {ls : Array Slot} (hP : g_P A G w H) (hS : va_S A s.heap H locs) (hl : lv_has ls 15 [(7, .ref nn), (6, .ref pl), (5, .ref me), (4, .ref ge), (3, .ref sh), (2, .int (nI 0)), (1, .ref b9), (0, .ref x)])
    (cont : ∀ (nn : Nat) (n0 : Nat) (n1 : Nat) (m2 : Nat) (k : Nat) (S : Sg) (Fs2 : Nat → Int32) (Fg2 : Nat → Int32) (Fm2 : Nat → Int32) (Fp : Nat → Int32) (Fn : Nat → Int32) (w : g_W) (H : Heap) (locs : List Loc) (ls : Array Slot), (sh ≠ nn) → (ge ≠ nn) → (me ≠ nn) → (pl ≠ nn) → (2 ≤ n0 ∧ n0 ≤ 8) → (n1 ≤ 12) → (m2 ≤ 16) → (k ≤ 3) → (S 0 0 = n0) → (S 0 1 = n1) → (S 0 2 = m2) → (S 0 3 = k) → (S 0 4 = -1) → (arS S n0 Fs2) → (arG S n1 Fg2) → (arM S m2 Fm2) → (arP S k Fp) → (Fn 0 = nI n0) → (Fn 1 = nI n1) → (Fn 2 = nI m2) → (Fn 3 = nI k) → (lwB G w x S [nn, sh, ge, me, pl]) → w nn = some (.inl (G.2.1 0, 6, .inl Fn)) → w sh = some (.inl (G.2.1 0, 30, .inl Fs2)) → w ge = some (.inl (G.2.1 0, 80, .inl Fg2)) → w me = some (.inl (G.2.1 0, 32, .inl Fm2)) → w pl = some (.inl (G.2.1 0, 20, .inl Fp)) → g_P A G w H → va_S A s.heap H locs → lv_has ls 15 [(7, .ref nn), (6, .ref pl), (5, .ref me), (4, .ref ge), (3, .ref sh), (2, .int (nI 0)), (1, .ref b9), (0, .ref x)] → W p l e R s m args below meth c H locs 380 6600 Q (F0 m 1033 ls [])) : W p l e R s m args below meth c H locs 340 6100 Q (F0 m 817 ls []) := by
  obtain ⟨⟨hx, hb, hml, hown, hts⟩, hK, hZ, hA⟩ := id F
  refine lv_aload_n hx hb dL_build_817 rfl (lv_at hl 6 rfl) ?_
  refine lv_iload_n hx hb dL_build_818 rfl (lv_at hl 5 rfl) ?_
  refine g_SiS (As := [.ref b9, .int (nI 0)]) (rest := []) F hP hS hX hbl hbA (k_L_cell l A G w b9 N9 xs hbA 0 (by omega) hN9) (va_cwS 2 hts gL_build_L_cell rfl rfl rfl cd_L_cell ⟨by rw [hR]; exact Nat.le_of_ble_eq_true rfl, by rw [hR]; exact Nat.le_of_ble_eq_true rfl⟩) rfl hl.1 (Nat.le_of_ble_eq_true rfl) dL_build_819 ⟨by rw [hR]; dsimp only; omega, by rw [hR]; dsimp only; omega⟩ rfl (fun r1 w2 H locs h3 hP hS => ?_)
  rw [h3] at hP
  refine lv_bipush (v := 8) hx hb dL_build_822 (by decide) ?_
  refine lv_ishr hx hb dL_build_824 ?_
  refine lv_topi (fun v4 ev4 => ?_)
  refine lv_iconst (v := 4) hx hb dL_build_825 (by decide) ?_
  refine g_Si (As := [.int v4, .int 4]) (rest := []) F hP hS (k_L_below l A G w v4 4 (by omega) (by omega)) (va_cwS 2 hts gL_build_L_below rfl rfl rfl cd_L_below ⟨by rw [hR]; exact Nat.le_of_ble_eq_true rfl, by rw [hR]; exact Nat.le_of_ble_eq_true rfl⟩) rfl hl.1 (Nat.le_of_ble_eq_true rfl) dL_build_826 ⟨by rw [hR]; dsimp only; omega, by rw [hR]; dsimp only; omega⟩ rfl (fun r5 w6 H locs h7 hP hS => ?_)
  have hr5 := h7.1
  rw [h7.2] at hP
  rw [hr5]
  obtain ⟨b8, eb8⟩ : ∃ z, z = blw v4 4 := ⟨_, rfl⟩
  rw [← eb8]
  have k9 : b8 < 4 := by rw [eb8]; exact blw_lt _ (by omega)
  obtain ⟨tr, etr⟩ : ∃ z, z = b8 := ⟨_, rfl⟩
  rw [← etr]
  have htr : tr ≤ 3 := by omega
  refine lv_istore (lv' := [(8, .int (nI tr)), (7, .ref nn), (6, .ref pl), (5, .ref me), (4, .ref ge), (3, .ref sh), (2, .int (nI 0)), (1, .ref b9), (0, .ref x)]) hx hb dL_build_829 hl (by decide) rfl (fun ls hl => ?_)
  refine lv_iconst (v := 0) hx hb dL_build_831 (by decide) ?_
  refine lv_istore (lv' := [(9, .int 0), (8, .int (nI tr)), (7, .ref nn), (6, .ref pl), (5, .ref me), (4, .ref ge), (3, .ref sh), (2, .int (nI 0)), (1, .ref b9), (0, .ref x)]) hx hb dL_build_832 hl (by decide) rfl (fun ls hl => ?_)
  have L834 : ∀ (n : Nat) (k : Nat) (S : Sg) (Fp : Nat → Int32) (Fn : Nat → Int32) (w : g_W) (H : Heap) (locs : List Loc) (ls : Array Slot), tr + 1 ≤ k + n → (k ≤ tr) → (lwB G w x S [nn, sh, ge, me, pl]) → (S 0 0 = n0 ∧ S 0 1 = n1 ∧ S 0 2 = m2 ∧ S 0 3 = k ∧ S 0 4 = -1) → (Fn 0 = nI n0) → (Fn 1 = nI n1) → (Fn 2 = nI m2) → (Fn 3 = nI k) → (arS S n0 Fs2) → (arG S n1 Fg2) → (arM S m2 Fm2) → (arP S k Fp) → w nn = some (.inl (G.2.1 0, 6, .inl Fn)) → w sh = some (.inl (G.2.1 0, 30, .inl Fs2)) → w ge = some (.inl (G.2.1 0, 80, .inl Fg2)) → w me = some (.inl (G.2.1 0, 32, .inl Fm2)) → w pl = some (.inl (G.2.1 0, 20, .inl Fp)) → g_P A G w H → va_S A s.heap H locs → lv_has ls 15 [(9, .int (nI k)), (8, .int (nI tr)), (7, .ref nn), (6, .ref pl), (5, .ref me), (4, .ref ge), (3, .ref sh), (2, .int (nI 0)), (1, .ref b9), (0, .ref x)] → W p l e R s m args below meth c H locs ((340 + 11 * k)) ((6100 + 150 * k)) Q (F0 m 834 ls []) := by
    intro n
    induction n with
    | zero =>
      intro k S Fp Fn w H locs ls hfu hk hB hz hf0 hf1 hf2 hf3 has hag ham hap hnn hsh hge hme hpl hP hS hl
      exact absurd hfu (by omega)
    | succ n ih_L834 =>
      intro k S Fp Fn w H locs ls hfu hk hB hz hf0 hf1 hf2 hf3 has hag ham hap hnn hsh hge hme hpl hP hS hl
      refine lv_iload hx hb dL_build_834 (lv_at hl 0 rfl) ?_
      refine lv_iload hx hb dL_build_836 (lv_at hl 1 rfl) ?_
      refine lv_icmp_ge (tgt := 1033) hx hb dL_build_838 (by decide) (fun c10 => ?_) (fun c10 => ?_)
      · have zc10 : tr ≤ k := (nI_leI (by omega) (by omega)).mp c10
        refine W.widen (k := 380) (n := 6600) (by omega) (by omega) ?_
        obtain ⟨zz0, zz1, zz2, zz3, zz4⟩ := hz
        exact cont nn n0 n1 m2 k S Fs2 Fg2 Fm2 Fp Fn w H locs ls (dnnsh) (dnnge) (dnnme) (dnnpl) (hn0) (hn1) (hm2) (by omega) (zz0) (zz1) (zz2) (zz3) (zz4) (has) (hag) (ham) (hap) (hf0) (hf1) (hf2) (hf3) (hB) hnn hsh hge hme hpl hP hS (lv_sub hl [2, 3, 4, 5, 6, 7, 8, 9] rfl)
      · have hkn : k < tr := Nat.not_le.mp (fun q => c10 (nI_le q (by omega)))
        refine lv_aload hx hb dL_build_841 (lv_at hl 2 rfl) ?_
        refine lv_iconst (v := 0) hx hb dL_build_843 (by decide) ?_
        refine g_iald F hP hnn (by unfold vp_in; decide) dL_build_844 ?_
        refine lv_topi (fun v11 ev11 => ?_)
        have hv11 : v11 = nI n0 := by
          rw [ev11]
          rw [show (0 : Int32).toNatClampNeg = 0 from by decide]
          exact hf0
        rw [hv11]
        refine lv_iconst (v := 2) hx hb dL_build_845 (by decide) ?_
        refine lv_icmp_le (tgt := 1033) hx hb dL_build_846 (by decide) (fun c12 => ?_) (fun c12 => ?_)
        · refine W.widen (k := 380) (n := 6600) (by omega) (by omega) ?_
          obtain ⟨zz0, zz1, zz2, zz3, zz4⟩ := hz
          exact cont nn n0 n1 m2 k S Fs2 Fg2 Fm2 Fp Fn w H locs ls (dnnsh) (dnnge) (dnnme) (dnnpl) (hn0) (hn1) (hm2) (by omega) (zz0) (zz1) (zz2) (zz3) (zz4) (has) (hag) (ham) (hap) (hf0) (hf1) (hf2) (hf3) (hB) hnn hsh hge hme hpl hP hS (lv_sub hl [2, 3, 4, 5, 6, 7, 8, 9] rfl)
        · have hn03 : 3 ≤ n0 := by
            rcases Nat.lt_or_ge 2 n0 with q | q
            · exact q
            · exact absurd (nI_le (b := 2) q (by omega)) c12
          refine lv_aload_n hx hb dL_build_849 rfl (lv_at hl 8 rfl) ?_
          refine lv_iload_n hx hb dL_build_850 rfl (lv_at hl 7 rfl) ?_
          refine lv_bipush (v := 9) hx hb dL_build_851 (by decide) ?_
          refine lv_iadd hx hb dL_build_853 ?_
          refine lv_topi (fun v13 ev13 => ?_)
          have hv13 : v13 = nI (0 + 9) := by
            rw [ev13]
            exact nI_add 0 9
          rw [hv13]
          refine g_SiS (As := [.ref b9, .int (nI (0 + 9))]) (rest := []) F hP hS hX hbl hbA (k_L_cell l A G w b9 N9 xs hbA (0 + 9) (by omega) hN9) (va_cwS 2 hts gL_build_L_cell rfl rfl rfl cd_L_cell ⟨by rw [hR]; exact Nat.le_of_ble_eq_true rfl, by rw [hR]; exact Nat.le_of_ble_eq_true rfl⟩) rfl hl.1 (Nat.le_of_ble_eq_true rfl) dL_build_854 ⟨by rw [hR]; dsimp only; omega, by rw [hR]; dsimp only; omega⟩ rfl (fun r14 w15 H locs h16 hP hS => ?_)
          rw [h16] at hP
          refine lv_bipush (v := 6) hx hb dL_build_857 (by decide) ?_
          refine lv_iload hx hb dL_build_859 (lv_at hl 0 rfl) ?_
          refine lv_imul hx hb dL_build_861 ?_
          refine lv_topi (fun v17 ev17 => ?_)
          have hv17 : v17 = nI (6 * k) := by
            rw [ev17]
            exact pk_mul 6 k
          rw [hv17]
          refine lv_ishr hx hb dL_build_862 ?_
          refine lv_topi (fun v18 ev18 => ?_)
          refine lv_istore (lv' := [(10, .int v18), (9, .int (nI k)), (8, .int (nI tr)), (7, .ref nn), (6, .ref pl), (5, .ref me), (4, .ref ge), (3, .ref sh), (2, .int (nI 0)), (1, .ref b9), (0, .ref x)]) hx hb dL_build_863 hl (by decide) rfl (fun ls hl => ?_)
          refine lv_iconst (v := 5) hx hb dL_build_865 (by decide) ?_
          refine lv_aload hx hb dL_build_866 (lv_at hl 3 rfl) ?_
          refine lv_iconst (v := 3) hx hb dL_build_868 (by decide) ?_
          refine g_iald F hP hnn (by unfold vp_in; decide) dL_build_869 ?_
          refine lv_topi (fun v19 ev19 => ?_)
          have hv19 : v19 = nI k := by
            rw [ev19]
            rw [show (3 : Int32).toNatClampNeg = 3 from by decide]
            exact hf3
          rw [hv19]
          refine lv_imul hx hb dL_build_870 ?_
          refine lv_topi (fun v20 ev20 => ?_)
          have hv20 : v20 = nI (5 * k) := by
            rw [ev20]
            exact pk_mul 5 k
          rw [hv20]
          refine lv_istore (lv' := [(11, .int (nI (5 * k))), (10, .int v18), (9, .int (nI k)), (8, .int (nI tr)), (7, .ref nn), (6, .ref pl), (5, .ref me), (4, .ref ge), (3, .ref sh), (2, .int (nI 0)), (1, .ref b9), (0, .ref x)]) hx hb dL_build_871 hl (by decide) rfl (fun ls hl => ?_)
          refine lv_aload hx hb dL_build_873 (lv_at hl 5 rfl) ?_
          refine lv_iload hx hb dL_build_875 (lv_at hl 0 rfl) ?_
          refine lv_iload hx hb dL_build_877 (lv_at hl 1 rfl) ?_
          refine lv_aload hx hb dL_build_879 (lv_at hl 4 rfl) ?_
          refine lv_iconst (v := 0) hx hb dL_build_881 (by decide) ?_
          refine g_iald F hP hnn (by unfold vp_in; decide) dL_build_882 ?_
          refine lv_topi (fun v21 ev21 => ?_)
          have hv21 : v21 = nI n0 := by
            rw [ev21]
            rw [show (0 : Int32).toNatClampNeg = 0 from by decide]
            exact hf0
          rw [hv21]
          refine g_Si (As := [.int v18, .int (nI n0)]) (rest := [.int (nI (5 * k)), .ref pl]) F hP hS (k_L_below l A G w v18 n0 (by omega) (by omega)) (va_cwS 2 hts gL_build_L_below rfl rfl rfl cd_L_below ⟨by rw [hR]; exact Nat.le_of_ble_eq_true rfl, by rw [hR]; exact Nat.le_of_ble_eq_true rfl⟩) rfl hl.1 (Nat.le_of_ble_eq_true rfl) dL_build_883 ⟨by rw [hR]; dsimp only; omega, by rw [hR]; dsimp only; omega⟩ rfl (fun r22 w23 H locs h24 hP hS => ?_)
          have hr22 := h24.1
          rw [h24.2] at hP
          rw [hr22]
          obtain ⟨b25, eb25⟩ : ∃ z, z = blw v18 n0 := ⟨_, rfl⟩
          rw [← eb25]
          have k26 : b25 < n0 := by rw [eb25]; exact blw_lt _ (by omega)
          refine g_iast F hP hS hpl (vp_in_nI (by omega) (by omega)) dL_build_886 (fun H locs hP hS => ?_)
          rw [nI_clamp (n := 5 * k) (by omega)] at hP
          obtain ⟨w27, ew27⟩ : ∃ z, z = g_up w pl (.inl (G.2.1 0, 20, .inl (upd Fp (5 * k) (nI b25)))) := ⟨_, rfl⟩
          have hP : g_P A G w27 H := by rw [ew27]; exact hP
          have f28 : w27 nn = some (.inl (G.2.1 0, 6, .inl Fn)) := by rw [ew27]; exact g_up_f hnn (Ne.symm (dnnpl))
          have f29 : w27 sh = some (.inl (G.2.1 0, 30, .inl Fs2)) := by rw [ew27]; exact g_up_f hsh (dshpl)
          have f30 : w27 ge = some (.inl (G.2.1 0, 80, .inl Fg2)) := by rw [ew27]; exact g_up_f hge (dgepl)
          have f31 : w27 me = some (.inl (G.2.1 0, 32, .inl Fm2)) := by rw [ew27]; exact g_up_f hme (dmepl)
          have f32 : w27 pl = some (.inl (G.2.1 0, 20, .inl (upd Fp (5 * k) (nI b25)))) := by rw [ew27]; exact g_up_s _ _ _
          have hB33 := lwB_set hB (List.mem_of_getElem? (i := 4) rfl) ew27
          refine lv_aload hx hb dL_build_887 (lv_at hl 5 rfl) ?_
          refine lv_iload hx hb dL_build_889 (lv_at hl 0 rfl) ?_
          refine lv_iconst (v := 1) hx hb dL_build_891 (by decide) ?_
          refine lv_iadd hx hb dL_build_892 ?_
          refine lv_topi (fun v34 ev34 => ?_)
          have hv34 : v34 = nI (5 * k + 1) := by
            rw [ev34]
            exact nI_add (5 * k) 1
          rw [hv34]
          refine lv_aload hx hb dL_build_893 (lv_at hl 5 rfl) ?_
          refine lv_iload hx hb dL_build_895 (lv_at hl 0 rfl) ?_
          refine g_iald F hP f32 (vp_in_nI (by omega) (by omega)) dL_build_897 ?_
          refine lv_topi (fun v35 ev35 => ?_)
          have hv35 : v35 = nI b25 := by
            rw [ev35]
            rw [nI_clamp (n := 5 * k) (by omega)]
            exact pk_us
          rw [hv35]
          refine lv_iconst (v := 1) hx hb dL_build_898 (by decide) ?_
          refine lv_iadd hx hb dL_build_899 ?_
          refine lv_topi (fun v36 ev36 => ?_)
          have hv36 : v36 = nI (b25 + 1) := by
            rw [ev36]
            exact nI_add b25 1
          rw [hv36]
          refine lv_aload hx hb dL_build_900 (lv_at hl 4 rfl) ?_
          refine lv_iconst (v := 0) hx hb dL_build_902 (by decide) ?_
          refine g_iald F hP f28 (by unfold vp_in; decide) dL_build_903 ?_
          refine lv_topi (fun v37 ev37 => ?_)
          have hv37 : v37 = nI n0 := by
            rw [ev37]
            rw [show (0 : Int32).toNatClampNeg = 0 from by decide]
            exact hf0
          rw [hv37]
          refine lv_irem hx hb dL_build_904 (by first | exact nI_ne0 (by omega) (by omega) | decide) ?_
          refine lv_topi (fun v38 ev38 => ?_)
          have hv38 : v38 = nI ((b25 + 1) % n0) := by
            rw [ev38]
            exact nI_mod (a := (b25 + 1)) (d := n0) (by omega) (by omega) (by omega)
          rw [hv38]
          refine g_iast F hP hS f32 (vp_in_nI (by omega) (by omega)) dL_build_905 (fun H locs hP hS => ?_)
          rw [nI_clamp (n := 5 * k + 1) (by omega)] at hP
          obtain ⟨w39, ew39⟩ : ∃ z, z = g_up w27 pl (.inl (G.2.1 0, 20, .inl (upd (upd Fp (5 * k) (nI b25)) (5 * k + 1) (nI ((b25 + 1) % n0))))) := ⟨_, rfl⟩
          have hP : g_P A G w39 H := by rw [ew39]; exact hP
          have f40 : w39 nn = some (.inl (G.2.1 0, 6, .inl Fn)) := by rw [ew39]; exact g_up_f f28 (Ne.symm (dnnpl))
          have f41 : w39 sh = some (.inl (G.2.1 0, 30, .inl Fs2)) := by rw [ew39]; exact g_up_f f29 (dshpl)
          have f42 : w39 ge = some (.inl (G.2.1 0, 80, .inl Fg2)) := by rw [ew39]; exact g_up_f f30 (dgepl)
          have f43 : w39 me = some (.inl (G.2.1 0, 32, .inl Fm2)) := by rw [ew39]; exact g_up_f f31 (dmepl)
          have f44 : w39 pl = some (.inl (G.2.1 0, 20, .inl (upd (upd Fp (5 * k) (nI b25)) (5 * k + 1) (nI ((b25 + 1) % n0))))) := by rw [ew39]; exact g_up_s _ _ _
          have hB45 := lwB_set hB33 (List.mem_of_getElem? (i := 4) rfl) ew39
          refine lv_aload hx hb dL_build_906 (lv_at hl 5 rfl) ?_
          refine lv_iload hx hb dL_build_908 (lv_at hl 0 rfl) ?_
          refine lv_iconst (v := 2) hx hb dL_build_910 (by decide) ?_
          refine lv_iadd hx hb dL_build_911 ?_
          refine lv_topi (fun v46 ev46 => ?_)
          have hv46 : v46 = nI (5 * k + 2) := by
            rw [ev46]
            exact nI_add (5 * k) 2
          rw [hv46]
          refine lv_aload hx hb dL_build_912 (lv_at hl 5 rfl) ?_
          refine lv_iload hx hb dL_build_914 (lv_at hl 0 rfl) ?_
          refine g_iald F hP f44 (vp_in_nI (by omega) (by omega)) dL_build_916 ?_
          refine lv_topi (fun v47 ev47 => ?_)
          have hv47 : v47 = nI b25 := by
            rw [ev47]
            rw [nI_clamp (n := 5 * k) (by omega)]
            exact (pk_un (k := (5 * k + 1)) (j := (5 * k)) (by omega)).trans (pk_us)
          rw [hv47]
          refine lv_iconst (v := 2) hx hb dL_build_917 (by decide) ?_
          refine lv_iadd hx hb dL_build_918 ?_
          refine lv_topi (fun v48 ev48 => ?_)
          have hv48 : v48 = nI (b25 + 2) := by
            rw [ev48]
            exact nI_add b25 2
          rw [hv48]
          refine lv_aload hx hb dL_build_919 (lv_at hl 4 rfl) ?_
          refine lv_iconst (v := 0) hx hb dL_build_921 (by decide) ?_
          refine g_iald F hP f40 (by unfold vp_in; decide) dL_build_922 ?_
          refine lv_topi (fun v49 ev49 => ?_)
          have hv49 : v49 = nI n0 := by
            rw [ev49]
            rw [show (0 : Int32).toNatClampNeg = 0 from by decide]
            exact hf0
          rw [hv49]
          refine lv_irem hx hb dL_build_923 (by first | exact nI_ne0 (by omega) (by omega) | decide) ?_
          refine lv_topi (fun v50 ev50 => ?_)
          have hv50 : v50 = nI ((b25 + 2) % n0) := by
            rw [ev50]
            exact nI_mod (a := (b25 + 2)) (d := n0) (by omega) (by omega) (by omega)
          rw [hv50]
          refine g_iast F hP hS f44 (vp_in_nI (by omega) (by omega)) dL_build_924 (fun H locs hP hS => ?_)
          rw [nI_clamp (n := 5 * k + 2) (by omega)] at hP
          obtain ⟨w51, ew51⟩ : ∃ z, z = g_up w39 pl (.inl (G.2.1 0, 20, .inl (upd (upd (upd Fp (5 * k) (nI b25)) (5 * k + 1) (nI ((b25 + 1) % n0))) (5 * k + 2) (nI ((b25 + 2) % n0))))) := ⟨_, rfl⟩
          have hP : g_P A G w51 H := by rw [ew51]; exact hP
          have f52 : w51 nn = some (.inl (G.2.1 0, 6, .inl Fn)) := by rw [ew51]; exact g_up_f f40 (Ne.symm (dnnpl))
          have f53 : w51 sh = some (.inl (G.2.1 0, 30, .inl Fs2)) := by rw [ew51]; exact g_up_f f41 (dshpl)
          have f54 : w51 ge = some (.inl (G.2.1 0, 80, .inl Fg2)) := by rw [ew51]; exact g_up_f f42 (dgepl)
          have f55 : w51 me = some (.inl (G.2.1 0, 32, .inl Fm2)) := by rw [ew51]; exact g_up_f f43 (dmepl)
          have f56 : w51 pl = some (.inl (G.2.1 0, 20, .inl (upd (upd (upd Fp (5 * k) (nI b25)) (5 * k + 1) (nI ((b25 + 1) % n0))) (5 * k + 2) (nI ((b25 + 2) % n0))))) := by rw [ew51]; exact g_up_s _ _ _
          have hB57 := lwB_set hB45 (List.mem_of_getElem? (i := 4) rfl) ew51
          refine lv_aload hx hb dL_build_925 (lv_at hl 5 rfl) ?_
          refine lv_iload hx hb dL_build_927 (lv_at hl 0 rfl) ?_
          refine lv_iconst (v := 3) hx hb dL_build_929 (by decide) ?_
          refine lv_iadd hx hb dL_build_930 ?_
          refine lv_topi (fun v58 ev58 => ?_)
          have hv58 : v58 = nI (5 * k + 3) := by
            rw [ev58]
            exact nI_add (5 * k) 3
          rw [hv58]
          refine lv_bipush (v := 8) hx hb dL_build_931 (by decide) ?_
          refine lv_iload hx hb dL_build_933 (lv_at hl 1 rfl) ?_
          refine lv_iconst (v := 2) hx hb dL_build_935 (by decide) ?_
          refine lv_ishr hx hb dL_build_936 ?_
          refine lv_topi (fun v59 ev59 => ?_)
          refine lv_bipush (v := 93) hx hb dL_build_937 (by decide) ?_
          refine g_Si (As := [.int v59, .int 93]) (rest := [.int 8, .int (nI (5 * k + 3)), .ref pl]) F hP hS (k_L_below l A G w51 v59 93 (by omega) (by omega)) (va_cwS 2 hts gL_build_L_below rfl rfl rfl cd_L_below ⟨by rw [hR]; exact Nat.le_of_ble_eq_true rfl, by rw [hR]; exact Nat.le_of_ble_eq_true rfl⟩) rfl hl.1 (Nat.le_of_ble_eq_true rfl) dL_build_939 ⟨by rw [hR]; dsimp only; omega, by rw [hR]; dsimp only; omega⟩ rfl (fun r60 w61 H locs h62 hP hS => ?_)
          have hr60 := h62.1
          rw [h62.2] at hP
          rw [hr60]
          obtain ⟨b63, eb63⟩ : ∃ z, z = blw v59 93 := ⟨_, rfl⟩
          rw [← eb63]
          have k64 : b63 < 93 := by rw [eb63]; exact blw_lt _ (by omega)
          refine lv_iadd hx hb dL_build_942 ?_
          refine lv_topi (fun v65 ev65 => ?_)
          have hv65 : v65 = nI (8 + b63) := by
            rw [ev65]
            exact nI_add 8 b63
          rw [hv65]
          refine g_iast F hP hS f56 (vp_in_nI (by omega) (by omega)) dL_build_943 (fun H locs hP hS => ?_)
          rw [nI_clamp (n := 5 * k + 3) (by omega)] at hP
          obtain ⟨w66, ew66⟩ : ∃ z, z = g_up w51 pl (.inl (G.2.1 0, 20, .inl (upd (upd (upd (upd Fp (5 * k) (nI b25)) (5 * k + 1) (nI ((b25 + 1) % n0))) (5 * k + 2) (nI ((b25 + 2) % n0))) (5 * k + 3) (nI (8 + b63))))) := ⟨_, rfl⟩
          have hP : g_P A G w66 H := by rw [ew66]; exact hP
          have f67 : w66 nn = some (.inl (G.2.1 0, 6, .inl Fn)) := by rw [ew66]; exact g_up_f f52 (Ne.symm (dnnpl))
          have f68 : w66 sh = some (.inl (G.2.1 0, 30, .inl Fs2)) := by rw [ew66]; exact g_up_f f53 (dshpl)
          have f69 : w66 ge = some (.inl (G.2.1 0, 80, .inl Fg2)) := by rw [ew66]; exact g_up_f f54 (dgepl)
          have f70 : w66 me = some (.inl (G.2.1 0, 32, .inl Fm2)) := by rw [ew66]; exact g_up_f f55 (dmepl)
          have f71 : w66 pl = some (.inl (G.2.1 0, 20, .inl (upd (upd (upd (upd Fp (5 * k) (nI b25)) (5 * k + 1) (nI ((b25 + 1) % n0))) (5 * k + 2) (nI ((b25 + 2) % n0))) (5 * k + 3) (nI (8 + b63))))) := by rw [ew66]; exact g_up_s _ _ _
          have hB72 := lwB_set hB57 (List.mem_of_getElem? (i := 4) rfl) ew66
          refine lv_bipush (v := 8) hx hb dL_build_944 (by decide) ?_
          refine lv_iload hx hb dL_build_946 (lv_at hl 1 rfl) ?_
          refine lv_iconst (v := 4) hx hb dL_build_948 (by decide) ?_
          refine lv_ishr hx hb dL_build_949 ?_
          refine lv_topi (fun v73 ev73 => ?_)
          refine lv_bipush (v := 93) hx hb dL_build_950 (by decide) ?_
          refine g_Si (As := [.int v73, .int 93]) (rest := [.int 8]) F hP hS (k_L_below l A G w66 v73 93 (by omega) (by omega)) (va_cwS 2 hts gL_build_L_below rfl rfl rfl cd_L_below ⟨by rw [hR]; exact Nat.le_of_ble_eq_true rfl, by rw [hR]; exact Nat.le_of_ble_eq_true rfl⟩) rfl hl.1 (Nat.le_of_ble_eq_true rfl) dL_build_952 ⟨by rw [hR]; dsimp only; omega, by rw [hR]; dsimp only; omega⟩ rfl (fun r74 w75 H locs h76 hP hS => ?_)
          have hr74 := h76.1
          rw [h76.2] at hP
          rw [hr74]
          obtain ⟨b77, eb77⟩ : ∃ z, z = blw v73 93 := ⟨_, rfl⟩
          rw [← eb77]
          have k78 : b77 < 93 := by rw [eb77]; exact blw_lt _ (by omega)
          refine lv_iadd hx hb dL_build_955 ?_
          refine lv_topi (fun v79 ev79 => ?_)
          have hv79 : v79 = nI (8 + b77) := by
            rw [ev79]
            exact nI_add 8 b77
          rw [hv79]
          refine lv_istore (lv' := [(12, .int (nI (8 + b77))), (11, .int (nI (5 * k))), (10, .int v18), (9, .int (nI k)), (8, .int (nI tr)), (7, .ref nn), (6, .ref pl), (5, .ref me), (4, .ref ge), (3, .ref sh), (2, .int (nI 0)), (1, .ref b9), (0, .ref x)]) hx hb dL_build_956 hl (by decide) rfl (fun ls hl => ?_)
          refine lv_aload hx hb dL_build_958 (lv_at hl 6 rfl) ?_
          refine lv_iload hx hb dL_build_960 (lv_at hl 1 rfl) ?_
          refine lv_iconst (v := 4) hx hb dL_build_962 (by decide) ?_
          refine lv_iadd hx hb dL_build_963 ?_
          refine lv_topi (fun v80 ev80 => ?_)
          have hv80 : v80 = nI (5 * k + 4) := by
            rw [ev80]
            exact nI_add (5 * k) 4
          rw [hv80]
          refine lv_aload hx hb dL_build_964 (lv_at hl 6 rfl) ?_
          refine lv_iload hx hb dL_build_966 (lv_at hl 1 rfl) ?_
          refine lv_iconst (v := 3) hx hb dL_build_968 (by decide) ?_
          refine lv_iadd hx hb dL_build_969 ?_
          refine lv_topi (fun v81 ev81 => ?_)
          have hv81 : v81 = nI (5 * k + 3) := by
            rw [ev81]
            exact nI_add (5 * k) 3
          rw [hv81]
          refine g_iald F hP f71 (vp_in_nI (by omega) (by omega)) dL_build_970 ?_
          refine lv_topi (fun v82 ev82 => ?_)
          have hv82 : v82 = nI (8 + b63) := by
            rw [ev82]
            rw [nI_clamp (n := 5 * k + 3) (by omega)]
            exact pk_us
          rw [hv82]
          refine lv_iload hx hb dL_build_971 (lv_at hl 0 rfl) ?_
          refine lv_iadd hx hb dL_build_973 ?_
          refine lv_topi (fun v83 ev83 => ?_)
          have hv83 : v83 = nI (8 + b63 + (8 + b77)) := by
            rw [ev83]
            exact nI_add (8 + b63) (8 + b77)
          rw [hv83]
          refine lv_iload hx hb dL_build_974 (lv_at hl 0 rfl) ?_
          refine lv_iadd hx hb dL_build_976 ?_
          refine lv_topi (fun v84 ev84 => ?_)
          have hv84 : v84 = nI (8 + b63 + (8 + b77) + (8 + b77)) := by
            rw [ev84]
            exact nI_add (8 + b63 + (8 + b77)) (8 + b77)
          rw [hv84]
          refine g_iast F hP hS f71 (vp_in_nI (by omega) (by omega)) dL_build_977 (fun H locs hP hS => ?_)
          rw [nI_clamp (n := 5 * k + 4) (by omega)] at hP
          obtain ⟨w85, ew85⟩ : ∃ z, z = g_up w66 pl (.inl (G.2.1 0, 20, .inl (upd (upd (upd (upd (upd Fp (5 * k) (nI b25)) (5 * k + 1) (nI ((b25 + 1) % n0))) (5 * k + 2) (nI ((b25 + 2) % n0))) (5 * k + 3) (nI (8 + b63))) (5 * k + 4) (nI (8 + b63 + (8 + b77) + (8 + b77)))))) := ⟨_, rfl⟩
          have hP : g_P A G w85 H := by rw [ew85]; exact hP
          have f86 : w85 nn = some (.inl (G.2.1 0, 6, .inl Fn)) := by rw [ew85]; exact g_up_f f67 (Ne.symm (dnnpl))
          have f87 : w85 sh = some (.inl (G.2.1 0, 30, .inl Fs2)) := by rw [ew85]; exact g_up_f f68 (dshpl)
          have f88 : w85 ge = some (.inl (G.2.1 0, 80, .inl Fg2)) := by rw [ew85]; exact g_up_f f69 (dgepl)
          have f89 : w85 me = some (.inl (G.2.1 0, 32, .inl Fm2)) := by rw [ew85]; exact g_up_f f70 (dmepl)
          have f90 : w85 pl = some (.inl (G.2.1 0, 20, .inl (upd (upd (upd (upd (upd Fp (5 * k) (nI b25)) (5 * k + 1) (nI ((b25 + 1) % n0))) (5 * k + 2) (nI ((b25 + 2) % n0))) (5 * k + 3) (nI (8 + b63))) (5 * k + 4) (nI (8 + b63 + (8 + b77) + (8 + b77)))))) := by rw [ew85]; exact g_up_s _ _ _
          have hB91 := lwB_set hB72 (List.mem_of_getElem? (i := 4) rfl) ew85
          refine lv_aload_n hx hb dL_build_978 rfl (lv_at hl 12 rfl) ?_
          refine lv_aload hx hb dL_build_979 (lv_at hl 6 rfl) ?_
          refine lv_iload hx hb dL_build_981 (lv_at hl 1 rfl) ?_
          refine g_iald F hP f90 (vp_in_nI (by omega) (by omega)) dL_build_983 ?_
          refine lv_topi (fun v92 ev92 => ?_)
          have hv92 : v92 = nI b25 := by
            rw [ev92]
            rw [nI_clamp (n := 5 * k) (by omega)]
            exact (pk_un (k := (5 * k + 4)) (j := (5 * k)) (by omega)).trans ((pk_un (k := (5 * k + 3)) (j := (5 * k)) (by omega)).trans ((pk_un (k := (5 * k + 2)) (j := (5 * k)) (by omega)).trans ((pk_un (k := (5 * k + 1)) (j := (5 * k)) (by omega)).trans (pk_us))))
          rw [hv92]
          refine lv_aload hx hb dL_build_984 (lv_at hl 6 rfl) ?_
          refine lv_iload hx hb dL_build_986 (lv_at hl 1 rfl) ?_
          refine lv_iconst (v := 1) hx hb dL_build_988 (by decide) ?_
          refine lv_iadd hx hb dL_build_989 ?_
          refine lv_topi (fun v93 ev93 => ?_)
          have hv93 : v93 = nI (5 * k + 1) := by
            rw [ev93]
            exact nI_add (5 * k) 1
          rw [hv93]
          refine g_iald F hP f90 (vp_in_nI (by omega) (by omega)) dL_build_990 ?_
          refine lv_topi (fun v94 ev94 => ?_)
          have hv94 : v94 = nI ((b25 + 1) % n0) := by
            rw [ev94]
            rw [nI_clamp (n := 5 * k + 1) (by omega)]
            exact (pk_un (k := (5 * k + 4)) (j := (5 * k + 1)) (by omega)).trans ((pk_un (k := (5 * k + 3)) (j := (5 * k + 1)) (by omega)).trans ((pk_un (k := (5 * k + 2)) (j := (5 * k + 1)) (by omega)).trans (pk_us)))
          rw [hv94]
          refine lv_aload hx hb dL_build_991 (lv_at hl 6 rfl) ?_
          refine lv_iload hx hb dL_build_993 (lv_at hl 1 rfl) ?_
          refine lv_iconst (v := 2) hx hb dL_build_995 (by decide) ?_
          refine lv_iadd hx hb dL_build_996 ?_
          refine lv_topi (fun v95 ev95 => ?_)
          have hv95 : v95 = nI (5 * k + 2) := by
            rw [ev95]
            exact nI_add (5 * k) 2
          rw [hv95]
          refine g_iald F hP f90 (vp_in_nI (by omega) (by omega)) dL_build_997 ?_
          refine lv_topi (fun v96 ev96 => ?_)
          have hv96 : v96 = nI ((b25 + 2) % n0) := by
            rw [ev96]
            rw [nI_clamp (n := 5 * k + 2) (by omega)]
            exact (pk_un (k := (5 * k + 4)) (j := (5 * k + 2)) (by omega)).trans ((pk_un (k := (5 * k + 3)) (j := (5 * k + 2)) (by omega)).trans (pk_us))
          rw [hv96]
          refine lv_aload hx hb dL_build_998 (lv_at hl 6 rfl) ?_
          refine lv_iload hx hb dL_build_1000 (lv_at hl 1 rfl) ?_
          refine lv_iconst (v := 3) hx hb dL_build_1002 (by decide) ?_
          refine lv_iadd hx hb dL_build_1003 ?_
          refine lv_topi (fun v97 ev97 => ?_)
          have hv97 : v97 = nI (5 * k + 3) := by
            rw [ev97]
            exact nI_add (5 * k) 3
          rw [hv97]
          refine g_iald F hP f90 (vp_in_nI (by omega) (by omega)) dL_build_1004 ?_
          refine lv_topi (fun v98 ev98 => ?_)
          have hv98 : v98 = nI (8 + b63) := by
            rw [ev98]
            rw [nI_clamp (n := 5 * k + 3) (by omega)]
            exact (pk_un (k := (5 * k + 4)) (j := (5 * k + 3)) (by omega)).trans (pk_us)
          rw [hv98]
          refine lv_iload hx hb dL_build_1005 (lv_at hl 0 rfl) ?_
          have r1 := md_eq (u := b25) (n := n0) (d := 1) (by omega) (by omega)
          have r2 := md_eq (u := b25) (n := n0) (d := 2) (by omega) (by omega)
          obtain ⟨u1, eu1⟩ : ∃ z, z = (b25 + 1) % n0 := ⟨_, rfl⟩
          obtain ⟨u2, eu2⟩ : ∃ z, z = (b25 + 2) % n0 := ⟨_, rfl⟩
          rw [← eu1] at r1
          rw [← eu2] at r2
          have d1 : u1 < n0 ∧ u1 ≠ b25 ∧ u2 < n0 ∧ u2 ≠ b25 ∧ u1 ≠ u2 := by
            split at r1 <;> split at r2 <;> omega
          have t1 := nI_i b25 (by omega)
          have t2 := nI_i u1 (by omega)
          have t3 := nI_i u2 (by omega)
          have t4 := nI_i (8 + b63) (by omega)
          have t5 := nI_i (8 + b77) (by omega)
          have ne : ∀ a b : Nat, a < 100 → b < 100 → a ≠ b → nI a ≠ nI b := fun a b h1 h2 h3 q => h3 ((nI_eq (by omega) (by omega)).mp q)
          have hcp : cdAddPl S (nI b25) (nI u1) (nI u2) (nI (8 + b63)) (nI (8 + b77)) = 0 := (if_pos ⟨⟨by omega, by omega⟩, ⟨by omega, by omega⟩, by omega, by omega⟩).trans ((if_pos ⟨⟨ne _ _ (by omega) (by omega) (by omega), ne _ _ (by omega) (by omega) (by omega), ne _ _ (by omega) (by omega) (by omega)⟩, ⟨by rw [t4]; omega, by rw [t4]; omega⟩, by rw [t5]; omega, by rw [t5]; omega⟩).trans (if_pos (by omega)))
          rw [eu1, eu2] at hcp
          obtain ⟨ad, Cn, T, h00, hBn, hLn⟩ := id hB91
          have hCo := k_X6_addPlanets l hlt A G w85 ad Cn S T (nI b25) (nI ((b25 + 1) % n0)) (nI ((b25 + 2) % n0)) (nI (8 + b63)) (nI (8 + b77)) hBn.1 hBn.2.1 hBn.2.2.1 hBn.2.2.2.1 hBn.2.2.2.2
          rw [h00] at hCo
          have hx0 := rep_x hBn.1 hBn.2.1
          rw [h00] at hx0
          refine g_cVi (As := [.int (nI b25), .int (nI ((b25 + 1) % n0)), .int (nI ((b25 + 2) % n0)), .int (nI (8 + b63)), .int (nI (8 + b77))]) (rest := []) F hP hS hCo (cwV 5 hts gL_build_X6_addPlanets rfl rfl rfl cd_X6_addPlanets ⟨by rw [hR]; exact Nat.le_of_ble_eq_true rfl, by rw [hR]; exact Nat.le_of_ble_eq_true rfl⟩) hx0 rfl rfl rfl hl.1 (Nat.le_of_ble_eq_true rfl) dL_build_1007 ⟨by rw [hR]; dsimp only; omega, by rw [hR]; dsimp only; omega⟩ rfl (fun E w9 ce q9 H locs hpx hP hS hce hcv hcl => ?_) (fun r99 w100 H locs h101 hP hS => ?_)
          · have hcd := hcp
            rcases hpx.2 with ⟨_, q⟩ | ⟨_, q⟩ | ⟨_, q⟩ <;> exact absurd (hcd.symm.trans q) (by decide)
          · obtain ⟨hc0, er, hAf⟩ := h101
            obtain ⟨S102, eS102⟩ : ∃ z, z = nxAddPl S (nI b25) (nI ((b25 + 1) % n0)) (nI ((b25 + 2) % n0)) (nI (8 + b63)) (nI (8 + b77)) := ⟨_, rfl⟩
            rw [← eS102] at hAf
            obtain ⟨hB103, kp104⟩ := lwB_aft h00 hLn hAf
            have f105 : w100 nn = some (.inl (G.2.1 0, 6, .inl Fn)) := (kp104 nn (List.mem_of_getElem? (i := 0) rfl)).trans f86
            have f106 : w100 sh = some (.inl (G.2.1 0, 30, .inl Fs2)) := (kp104 sh (List.mem_of_getElem? (i := 1) rfl)).trans f87
            have f107 : w100 ge = some (.inl (G.2.1 0, 80, .inl Fg2)) := (kp104 ge (List.mem_of_getElem? (i := 2) rfl)).trans f88
            have f108 : w100 me = some (.inl (G.2.1 0, 32, .inl Fm2)) := (kp104 me (List.mem_of_getElem? (i := 3) rfl)).trans f89
            have f109 : w100 pl = some (.inl (G.2.1 0, 20, .inl (upd (upd (upd (upd (upd Fp (5 * k) (nI b25)) (5 * k + 1) (nI ((b25 + 1) % n0))) (5 * k + 2) (nI ((b25 + 2) % n0))) (5 * k + 3) (nI (8 + b63))) (5 * k + 4) (nI (8 + b63 + (8 + b77) + (8 + b77)))))) := (kp104 pl (List.mem_of_getElem? (i := 4) rfl)).trans f90
            rw [er]
            rw [← eu1, ← eu2] at eS102
            obtain ⟨a1, a2, ⟨a11, a12, a13⟩, a4, a5⟩ := nx_planets eS102
            have s0n : (S 0 3).toNat = k := by omega
            rw [s0n] at a11 a12 a13 a4
            rw [t1] at a11
            rw [t2] at a12
            rw [t3] at a13
            have zk : S102 0 0 = n0 ∧ S102 0 1 = n1 ∧ S102 0 2 = m2 ∧ S102 0 3 = ((k + 1 : Nat) : Int) ∧ S102 0 4 = -1 := by rw [a2 0 (by decide), a2 1 (by decide), a2 2 (by decide), a1, a2 4 (by decide)]; omega
            unfold vlAddPl
            refine lv_aload hx hb dL_build_1010 (lv_at hl 5 rfl) ?_
            refine lv_iconst (v := 3) hx hb dL_build_1012 (by decide) ?_
            refine g_iald F hP f105 (by unfold vp_in; decide) dL_build_1013 ?_
            refine lv_topi (fun v110 ev110 => ?_)
            have hv110 : v110 = nI k := by
              rw [ev110]
              rw [show (3 : Int32).toNatClampNeg = 3 from by decide]
              exact hf3
            rw [hv110]
            refine lv_icmp_eq (tgt := 1019) hx hb dL_build_1014 (by decide) (fun c111 => ?_) (fun c111 => ?_)
            · refine lv_aload hx hb dL_build_1019 (lv_at hl 5 rfl) ?_
              refine lv_iconst (v := 3) hx hb dL_build_1021 (by decide) ?_
              refine lv_dup2_11 hx hb dL_build_1022 rfl rfl ?_
              refine g_iald F hP f105 (by unfold vp_in; decide) dL_build_1023 ?_
              refine lv_topi (fun v112 ev112 => ?_)
              have hv112 : v112 = nI k := by
                rw [ev112]
                rw [show (3 : Int32).toNatClampNeg = 3 from by decide]
                exact hf3
              rw [hv112]
              refine lv_iconst (v := 1) hx hb dL_build_1024 (by decide) ?_
              refine lv_iadd hx hb dL_build_1025 ?_
              refine lv_topi (fun v113 ev113 => ?_)
              have hv113 : v113 = nI (k + 1) := by
                rw [ev113]
                exact nI_add k 1
              rw [hv113]
              refine g_iast F hP hS f105 (by unfold vp_in; decide) dL_build_1026 (fun H locs hP hS => ?_)
              rw [show (3 : Int32).toNatClampNeg = 3 from by decide] at hP
              obtain ⟨w114, ew114⟩ : ∃ z, z = g_up w100 nn (.inl (G.2.1 0, 6, .inl (upd Fn 3 (nI (k + 1))))) := ⟨_, rfl⟩
              have hP : g_P A G w114 H := by rw [ew114]; exact hP
              have f115 : w114 sh = some (.inl (G.2.1 0, 30, .inl Fs2)) := by rw [ew114]; exact g_up_f f106 (dnnsh)
              have f116 : w114 ge = some (.inl (G.2.1 0, 80, .inl Fg2)) := by rw [ew114]; exact g_up_f f107 (dnnge)
              have f117 : w114 me = some (.inl (G.2.1 0, 32, .inl Fm2)) := by rw [ew114]; exact g_up_f f108 (dnnme)
              have f118 : w114 pl = some (.inl (G.2.1 0, 20, .inl (upd (upd (upd (upd (upd Fp (5 * k) (nI b25)) (5 * k + 1) (nI ((b25 + 1) % n0))) (5 * k + 2) (nI ((b25 + 2) % n0))) (5 * k + 3) (nI (8 + b63))) (5 * k + 4) (nI (8 + b63 + (8 + b77) + (8 + b77)))))) := by rw [ew114]; exact g_up_f f109 (dnnpl)
              have f119 : w114 nn = some (.inl (G.2.1 0, 6, .inl (upd Fn 3 (nI (k + 1))))) := by rw [ew114]; exact g_up_s _ _ _
              have hB120 := lwB_set hB103 (List.mem_of_getElem? (i := 0) rfl) ew114
              refine W.widen (k := 340 + 11 * (k + 1)) (n := 6100 + 150 * (k + 1)) (by omega) (by omega) ?_
              have apk : arP S102 (k + 1) (upd (upd (upd (upd (upd Fp (5 * k) (nI b25)) (5 * k + 1) (nI ((b25 + 1) % n0))) (5 * k + 2) (nI ((b25 + 2) % n0))) (5 * k + 3) (nI (8 + b63))) (5 * k + 4) (nI (8 + b63 + (8 + b77) + (8 + b77)))) := arP_1 hap (fun f j hj _ _ => a4 f j (by omega) (by omega)) (fun j hj => by rw [pk_un (by omega), pk_un (by omega), pk_un (by omega), pk_un (by omega), pk_un (by omega)]) ⟨by rw [a11, pk_un (by omega), pk_un (by omega), pk_un (by omega), pk_un (by omega), pk_us]; exact (iL_n _).symm, by rw [a12, pk_un (by omega), pk_un (by omega), pk_un (by omega), pk_us, eu1]; exact (iL_n _).symm, by rw [a13, pk_un (by omega), pk_un (by omega), pk_us, eu2]; exact (iL_n _).symm⟩
              have ask : arS S102 n0 Fs2 := arS_c has (fun j _ => a5 3 j (by decide) (Or.inl (by decide)))
              have agk : arG S102 n1 Fg2 := arG_c hag (fun f j _ q1 q2 => a5 f j (by omega) (Or.inl (by omega)))
              have amk : arM S102 m2 Fm2 := arM_c ham (fun f j _ q1 q2 => a5 f j (by omega) (Or.inl (by omega)))
              obtain ⟨i121, ei121⟩ : ∃ y : Int32, y = nI k + (1) := ⟨_, rfl⟩
              refine lv_iinc (v := i121) (lv' := [(9, .int i121), (12, .int (nI (8 + b77))), (11, .int (nI (5 * k))), (10, .int v18), (8, .int (nI tr)), (7, .ref nn), (6, .ref pl), (5, .ref me), (4, .ref ge), (3, .ref sh), (2, .int (nI 0)), (1, .ref b9), (0, .ref x)]) hx hb dL_build_1027 hl (k := 3) rfl (by rw [ei121]; rfl) (by decide) rfl (fun ls hl => ?_)
              have hi121 : i121 = nI (k + 1) := by
                rw [ei121]
                exact nI_1 k
              rw [hi121] at hl
              refine lv_goto (tgt := 834) hx hb dL_build_1030 (by decide) ?_
              exact ih_L834 (k + 1) S102 (upd (upd (upd (upd (upd Fp (5 * k) (nI b25)) (5 * k + 1) (nI ((b25 + 1) % n0))) (5 * k + 2) (nI ((b25 + 2) % n0))) (5 * k + 3) (nI (8 + b63))) (5 * k + 4) (nI (8 + b63 + (8 + b77) + (8 + b77)))) (upd Fn 3 (nI (k + 1))) w114 H locs ls (by omega) (by omega) (hB120) (zk) (by rw [pk_un (by decide)]; exact hf0) (by rw [pk_un (by decide)]; exact hf1) (by rw [pk_un (by decide)]; exact hf2) (pk_us) (ask) (agk) (amk) (apk) f119 f115 f116 f117 f118 hP hS (lv_sub hl [0, 4, 5, 6, 7, 8, 9, 10, 11, 12] rfl)
            · exact absurd (iL_nat (by omega)) c111
  exact L834 (tr + 1) 0 S Fp0 Fn w H locs ls (by omega) (by omega) (hB) (⟨zz0, zz1, zz2, zz3, zz4⟩) (hf0) (hf1) (hf2) (hf3) (has) (hag) (ham) (arP_0 _ _) hnn hsh hge hme hpl hP hS (lv_sub hl [0, 1, 2, 3, 4, 5, 6, 7, 8, 9] rfl)
