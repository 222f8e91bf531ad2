theorem cd_X6_init : yX6_init.cls ≠ "java/lang/invoke/MethodHandle" ∧ yX6_init.cls ≠ "java/lang/invoke/VarHandle" ∧ (parseMethodDescriptor yX6_init.desc).map (fun d => d.parameters.length) = some 0 := by decide +kernel
theorem cd_L_build : yL_build.cls ≠ "java/lang/invoke/MethodHandle" ∧ yL_build.cls ≠ "java/lang/invoke/VarHandle" ∧ (parseMethodDescriptor yL_build.desc).map (fun d => d.parameters.length) = some 7 := by decide +kernel
theorem cd_X6_broken : yX6_broken.cls = RX6 ∧ yX6_broken.cls ≠ "java/lang/invoke/MethodHandle" ∧ yX6_broken.cls ≠ "java/lang/invoke/VarHandle" ∧ (parseMethodDescriptor yX6_broken.desc).map (fun d => d.parameters.length) = some 1 := by decide +kernel
set_option maxHeartbeats 4000000 in
set_option maxRecDepth 100000 in
/-- the law's beginning: the bench, the rows, what build lays into them, what is broken -/
theorem law_0 {p : Program} {l : Launch} {e : Env} {R : Room} {s : State} {m : MethodId} {args : Array Value} {below : List Frame} {meth : Method} {c : Code} {Q : State → Prop} {A : Nat → Prop} {G : g_C} (F : g_F p m c cL_law 22 s args wsL_law RL A G) (hR : R = ({ frames := 2048, cells := 699085, slots := 7004443, locals := 84000 } : Room)) (hlt : l.stackTraces = false) {b9 N9 : Nat} {xs : Nat → Int32} (hX : va_X b9 N9 xs s s.heap) (hbl : b9 < s.heap.size) (hbA : ¬ A b9) (hN9 : N9 ≤ 260)
    (cont : ∀ (x hs bz nn sh ge me pl n0 : Nat) (S : Sg) (Fs Fg Fm Fp Fn : Nat → Int32) (Fh Fb : Nat → Int32) (w : g_W) (H : Heap) (locs : List Loc) (ls : Array Slot), hs ≠ bz → hs ≠ nn → hs ≠ sh → hs ≠ ge → hs ≠ me → hs ≠ pl → bz ≠ nn → bz ≠ sh → bz ≠ ge → bz ≠ me → bz ≠ pl → nn ≠ sh → nn ≠ ge → nn ≠ me → nn ≠ pl → sh ≠ ge → sh ≠ me → sh ≠ pl → ge ≠ me → ge ≠ pl → me ≠ pl → invS S → bldP S Fs Fg Fm Fp Fn → S 0 0 = n0 → lwC G w x S [hs, bz, nn, sh, ge, me, pl] → w hs = some (.inl (G.2.1 2, n0, .inl Fh)) → w bz = some (.inl (G.2.1 2, n0, .inl Fb)) → w nn = some (.inl (G.2.1 0, 6, .inl Fn)) → w sh = some (.inl (G.2.1 0, 30, .inl Fs)) → w ge = some (.inl (G.2.1 0, 80, .inl Fg)) → w me = some (.inl (G.2.1 0, 32, .inl Fm)) → w pl = some (.inl (G.2.1 0, 20, .inl Fp)) → g_P A G w H → va_S A s.heap H locs → lv_has ls 22 [(10, .ref bz), (9, .ref hs), (8, .int (vlBroken S (told S) true)), (7, .int (vlBroken S (told S) false)), (6, .ref nn), (5, .ref pl), (4, .ref me), (3, .ref ge), (2, .ref sh), (1, .ref x), (0, .ref b9)] → W p l e R s m args below meth c H locs 500 8000 Q (F0 m 81 ls []))
    {w : g_W} {H : Heap} {locs : List Loc} {ls : Array Slot} (hP : g_P A G w H) (hS : va_S A s.heap H locs) (hl : lv_has ls 22 [(0, .ref b9)]) : W p l e R s m args below meth c H locs 0 0 Q (F0 m 0 ls []) := by
  obtain ⟨⟨hx, hb, hml, hown, hts⟩, hK, hZ, hA⟩ := id F
  have iX6 : ∀ w ∈ u_ws RX6 TX6 6, w ∈ wsL_law := fun w h => List.mem_append_left _ (List.mem_append_left _ (List.mem_append_left _ (show w ∈ wsL_law0 from List.mem_append_left _ (List.mem_append_left _ (List.mem_append_left _ (List.mem_append_left _ (List.mem_append_left _ (List.mem_append_left _ (List.mem_append_left _ (List.mem_append_left _ (List.mem_append_left _ (List.mem_append_right _ (h)))))))))))))
  refine g_new F hP hS (ci := 7) (C := RX6) (T := TX6) (N := 6) (fs := [.null, .null, .null, .null, .int 0, .int 0]) iX6 tyX6 tyX6_ok (List.mem_append_left _ (List.mem_append_left _ (List.mem_append_left _ (List.mem_append_left _ (List.mem_append_left _ (List.mem_append_left _ (List.mem_append_left _ (List.mem_append_left _ (List.mem_append_left _ (List.mem_append_left _ (List.mem_append_left _ (List.mem_append_left _ (List.mem_append_left _ (List.mem_append_left _ (List.mem_of_getElem? (i := 0) rfl))))))))))))))) (List.mem_append_left _ (List.mem_append_left _ (List.mem_append_left _ (List.mem_append_left _ (List.mem_append_left _ (List.mem_append_left _ (List.mem_append_left _ (List.mem_append_left _ (List.mem_append_left _ (List.mem_append_left _ (List.mem_append_left _ (List.mem_append_left _ (List.mem_append_left _ (List.mem_append_left _ (List.mem_of_getElem? (i := 1) rfl))))))))))))))) (List.mem_append_left _ (List.mem_append_left _ (List.mem_append_left _ (List.mem_append_left _ (List.mem_append_left _ (List.mem_append_left _ (List.mem_append_left _ (List.mem_append_left _ (List.mem_append_left _ (List.mem_append_left _ (List.mem_append_left _ (List.mem_append_left _ (List.mem_append_left _ (List.mem_append_left _ (List.mem_of_getElem? (i := 2) rfl))))))))))))))) rfl (by intro j hj; match j, hj with | 0, _ => rfl | 1, _ => rfl | 2, _ => rfl | 3, _ => rfl | 4, _ => rfl | 5, _ => rfl | j + 6, hj => exact absurd hj (by omega)) (by rw [hR]; exact Nat.le_of_ble_eq_true rfl) (by rw [hR]; exact Nat.le_of_ble_eq_true rfl) dL_law_0 (fun q1 H nq1 hP hS => ?_)
  obtain ⟨w2, ew2⟩ : ∃ z, z = g_up w q1 (.inr (7, [.null, .null, .null, .null, .int 0, .int 0])) := ⟨_, rfl⟩
  have hP : g_P A G w2 H := by rw [ew2]; exact hP
  have f3 : w2 q1 = some (.inr (7, [.null, .null, .null, .null, .int 0, .int 0])) := by rw [ew2]; exact g_up_s _ _ _
  refine lv_dup hx hb dL_law_3 rfl ?_
  refine g_Iv (As := []) (rest := [.ref q1]) F hP hS (k_X6_init l A G w2 q1 f3) (cwI 0 hts gL_law_X6_init rfl rfl rfl (hts _ (List.mem_append_left _ (List.mem_append_left _ (List.mem_append_left _ (List.mem_append_left _ (List.mem_append_left _ (List.mem_append_left _ (List.mem_append_left _ (List.mem_append_left _ (List.mem_append_left _ (List.mem_append_left _ (List.mem_append_left _ (List.mem_append_left _ (List.mem_append_left _ (List.mem_append_left _ (List.mem_of_getElem? (i := 2) rfl)))))))))))))))) (hts _ (List.mem_append_left _ (List.mem_append_left _ (List.mem_append_left _ (List.mem_append_left _ (List.mem_append_left _ (List.mem_append_left _ (List.mem_append_left _ (List.mem_append_left _ (List.mem_append_left _ (List.mem_append_left _ (List.mem_append_left _ (List.mem_append_left _ (List.mem_append_left _ (List.mem_append_left _ (List.mem_of_getElem? (i := 13) rfl)))))))))))))))) (hts _ (List.mem_append_left _ (List.mem_append_left _ (List.mem_append_left _ (List.mem_append_left _ (List.mem_append_left _ (List.mem_append_left _ (List.mem_append_left _ (List.mem_append_left _ (List.mem_append_left _ (List.mem_append_left _ (List.mem_append_left _ (List.mem_append_left _ (List.mem_append_left _ (List.mem_append_left _ (List.mem_of_getElem? (i := 14) rfl)))))))))))))))) rfl cd_X6_init ⟨by rw [hR]; exact Nat.le_of_ble_eq_true rfl, by rw [hR]; exact Nat.le_of_ble_eq_true rfl⟩) rfl hl.1 (Nat.le_of_ble_eq_true rfl) dL_law_4 ⟨by rw [hR]; dsimp only; omega, by rw [hR]; dsimp only; omega⟩ rfl (fun w5 H locs h6 hP hS => ?_)
  obtain ⟨y1, y2, y3, y4, hn9, hd9, ew9⟩ := h6
  obtain ⟨ad, Cn, T, ea0, hBn, hfrB, hnew⟩ := bench_new (G := G) (by rw [f3]; exact fun z => (nomatch z)) hn9 hd9 ew9
  have hB0 : lwB G w5 q1 Sz [] := ⟨ad, Cn, T, ea0, hBn, fun a ha => absurd ha List.not_mem_nil⟩
  refine lv_astore_n (lv' := [(1, .ref q1), (0, .ref b9)]) hx hb dL_law_7 rfl hl (by decide) rfl (fun ls hl => ?_)
  refine lv_bipush (v := 30) hx hb dL_law_8 (by decide) ?_
  refine g_newaI F hP hS (N' := 30) (List.mem_append_left _ (List.mem_append_left _ (List.mem_append_left _ (List.mem_append_left _ (List.mem_append_left _ (List.mem_append_left _ (List.mem_append_left _ (List.mem_append_left _ (List.mem_append_left _ (List.mem_append_left _ (List.mem_append_left _ (List.mem_append_left _ (List.mem_append_left _ (List.mem_append_left _ (List.mem_of_getElem? (i := 3) rfl))))))))))))))) (by decide) (by decide) (by decide) (by rw [hR]; exact Nat.le_of_ble_eq_true rfl) (by rw [hR]; exact Nat.le_of_ble_eq_true rfl) dL_law_10 (fun sh H nsh hP hS => ?_)
  obtain ⟨w7, ew7⟩ : ∃ z, z = g_up w5 sh (.inl (G.2.1 0, 30, .inl (fun _ => 0))) := ⟨_, rfl⟩
  have hP : g_P A G w7 H := by rw [ew7]; exact hP
  have f8 : w7 sh = some (.inl (G.2.1 0, 30, .inl (fun _ => 0))) := by rw [ew7]; exact g_up_s _ _ _
  have hB1 := lwB_new hB0 nsh ew7
  refine lv_astore_n (lv' := [(2, .ref sh), (1, .ref q1), (0, .ref b9)]) hx hb dL_law_12 rfl hl (by decide) rfl (fun ls hl => ?_)
  refine lv_bipush (v := 80) hx hb dL_law_13 (by decide) ?_
  refine g_newaI F hP hS (N' := 80) (List.mem_append_left _ (List.mem_append_left _ (List.mem_append_left _ (List.mem_append_left _ (List.mem_append_left _ (List.mem_append_left _ (List.mem_append_left _ (List.mem_append_left _ (List.mem_append_left _ (List.mem_append_left _ (List.mem_append_left _ (List.mem_append_left _ (List.mem_append_left _ (List.mem_append_left _ (List.mem_of_getElem? (i := 3) rfl))))))))))))))) (by decide) (by decide) (by decide) (by rw [hR]; exact Nat.le_of_ble_eq_true rfl) (by rw [hR]; exact Nat.le_of_ble_eq_true rfl) dL_law_15 (fun ge H nge hP hS => ?_)
  obtain ⟨w9, ew9⟩ : ∃ z, z = g_up w7 ge (.inl (G.2.1 0, 80, .inl (fun _ => 0))) := ⟨_, rfl⟩
  have hP : g_P A G w9 H := by rw [ew9]; exact hP
  have f10 : w9 sh = some (.inl (G.2.1 0, 30, .inl (fun _ => 0))) := by rw [ew9]; exact g_up_f f8 (g_neq f8 nge)
  have f11 : w9 ge = some (.inl (G.2.1 0, 80, .inl (fun _ => 0))) := by rw [ew9]; exact g_up_s _ _ _
  have hB2 := lwB_new hB1 nge ew9
  refine lv_astore_n (lv' := [(3, .ref ge), (2, .ref sh), (1, .ref q1), (0, .ref b9)]) hx hb dL_law_17 rfl hl (by decide) rfl (fun ls hl => ?_)
  refine lv_bipush (v := 32) hx hb dL_law_18 (by decide) ?_
  refine g_newaI F hP hS (N' := 32) (List.mem_append_left _ (List.mem_append_left _ (List.mem_append_left _ (List.mem_append_left _ (List.mem_append_left _ (List.mem_append_left _ (List.mem_append_left _ (List.mem_append_left _ (List.mem_append_left _ (List.mem_append_left _ (List.mem_append_left _ (List.mem_append_left _ (List.mem_append_left _ (List.mem_append_left _ (List.mem_of_getElem? (i := 3) rfl))))))))))))))) (by decide) (by decide) (by decide) (by rw [hR]; exact Nat.le_of_ble_eq_true rfl) (by rw [hR]; exact Nat.le_of_ble_eq_true rfl) dL_law_20 (fun me H nme hP hS => ?_)
  obtain ⟨w12, ew12⟩ : ∃ z, z = g_up w9 me (.inl (G.2.1 0, 32, .inl (fun _ => 0))) := ⟨_, rfl⟩
  have hP : g_P A G w12 H := by rw [ew12]; exact hP
  have f13 : w12 sh = some (.inl (G.2.1 0, 30, .inl (fun _ => 0))) := by rw [ew12]; exact g_up_f f10 (g_neq f10 nme)
  have f14 : w12 ge = some (.inl (G.2.1 0, 80, .inl (fun _ => 0))) := by rw [ew12]; exact g_up_f f11 (g_neq f11 nme)
  have f15 : w12 me = some (.inl (G.2.1 0, 32, .inl (fun _ => 0))) := by rw [ew12]; exact g_up_s _ _ _
  have hB3 := lwB_new hB2 nme ew12
  refine lv_astore (lv' := [(4, .ref me), (3, .ref ge), (2, .ref sh), (1, .ref q1), (0, .ref b9)]) hx hb dL_law_22 hl (by decide) rfl (fun ls hl => ?_)
  refine lv_bipush (v := 20) hx hb dL_law_24 (by decide) ?_
  refine g_newaI F hP hS (N' := 20) (List.mem_append_left _ (List.mem_append_left _ (List.mem_append_left _ (List.mem_append_left _ (List.mem_append_left _ (List.mem_append_left _ (List.mem_append_left _ (List.mem_append_left _ (List.mem_append_left _ (List.mem_append_left _ (List.mem_append_left _ (List.mem_append_left _ (List.mem_append_left _ (List.mem_append_left _ (List.mem_of_getElem? (i := 3) rfl))))))))))))))) (by decide) (by decide) (by decide) (by rw [hR]; exact Nat.le_of_ble_eq_true rfl) (by rw [hR]; exact Nat.le_of_ble_eq_true rfl) dL_law_26 (fun pl H npl hP hS => ?_)
  obtain ⟨w16, ew16⟩ : ∃ z, z = g_up w12 pl (.inl (G.2.1 0, 20, .inl (fun _ => 0))) := ⟨_, rfl⟩
  have hP : g_P A G w16 H := by rw [ew16]; exact hP
  have f17 : w16 sh = some (.inl (G.2.1 0, 30, .inl (fun _ => 0))) := by rw [ew16]; exact g_up_f f13 (g_neq f13 npl)
  have f18 : w16 ge = some (.inl (G.2.1 0, 80, .inl (fun _ => 0))) := by rw [ew16]; exact g_up_f f14 (g_neq f14 npl)
  have f19 : w16 me = some (.inl (G.2.1 0, 32, .inl (fun _ => 0))) := by rw [ew16]; exact g_up_f f15 (g_neq f15 npl)
  have f20 : w16 pl = some (.inl (G.2.1 0, 20, .inl (fun _ => 0))) := by rw [ew16]; exact g_up_s _ _ _
  have hB4 := lwB_new hB3 npl ew16
  refine lv_astore (lv' := [(5, .ref pl), (4, .ref me), (3, .ref ge), (2, .ref sh), (1, .ref q1), (0, .ref b9)]) hx hb dL_law_28 hl (by decide) rfl (fun ls hl => ?_)
  refine lv_aload_n hx hb dL_law_30 rfl (lv_at hl 4 rfl) ?_
  refine lv_aload_n hx hb dL_law_31 rfl (lv_at hl 5 rfl) ?_
  refine lv_iconst (v := 0) hx hb dL_law_32 (by decide) ?_
  refine lv_aload_n hx hb dL_law_33 rfl (lv_at hl 3 rfl) ?_
  refine lv_aload_n hx hb dL_law_34 rfl (lv_at hl 2 rfl) ?_
  refine lv_aload hx hb dL_law_35 (lv_at hl 1 rfl) ?_
  refine lv_aload hx hb dL_law_37 (lv_at hl 0 rfl) ?_
  have dshge : sh ≠ ge := g_neq f8 nge
  have dshme : sh ≠ me := g_neq f10 nme
  have dshpl : sh ≠ pl := g_neq f13 npl
  have dgeme : ge ≠ me := g_neq f11 nme
  have dgepl : ge ≠ pl := g_neq f14 npl
  have dmepl : me ≠ pl := g_neq f15 npl
  have hB5 := lwB_sub (L' := [sh, ge, me, pl]) hB4 (fun a ha => by simp at ha ⊢; grind)
  refine g_SxqS (As := [.ref q1, .ref b9, .int 0, .ref sh, .ref ge, .ref me, .ref pl]) (rest := []) F hP hS hX hbl hbA (k_L_build l hlt A G w16 b9 N9 xs hbA hN9 q1 sh ge me pl _ _ _ _ hB5 f17 f18 f19 f20 dshge dshme dshpl dgeme dgepl dmepl) (vx_cwSW 7 hts gL_law_L_build rfl rfl rfl cd_L_build ⟨by rw [hR]; exact Nat.le_of_ble_eq_true rfl, by rw [hR]; exact Nat.le_of_ble_eq_true rfl⟩) rfl hl.1 (Nat.le_of_ble_eq_true rfl) dL_law_39 ⟨by rw [hR]; exact Nat.le_of_ble_eq_true rfl, by rw [hR]; exact Nat.le_of_ble_eq_true rfl⟩ rfl (fun r w9 H locs h9 hP hS => ?_)
  obtain ⟨nn, S, Fs, Fg, Fm, Fp, Fn, er, hB6, ⟨hsh, hge, hme, hpl, hnn⟩, hbp, dnnsh, dnnge, dnnme, dnnpl⟩ := h9
  rw [er, show va_rf (some nn) = (.ref nn : Value) from rfl]
  refine lv_astore (lv' := [(6, .ref nn), (5, .ref pl), (4, .ref me), (3, .ref ge), (2, .ref sh), (1, .ref q1), (0, .ref b9)]) hx hb dL_law_42 hl (by decide) rfl (fun ls hl => ?_)
  refine lv_aload hx hb dL_law_44 (lv_at hl 0 rfl) ?_
  refine lv_ifnonnull (tgt := 51) hx hb dL_law_46 (by decide) ?_
  have hC0 := lwC_of hB6
  have Hi := lwB_inv hB6
  refine lv_aload_n hx hb dL_law_51 rfl (lv_at hl 5 rfl) ?_
  refine lv_iconst (v := 0) hx hb dL_law_52 (by decide) ?_
  rw [show (.int 0 : Value) = .int (g_b false) from rfl]
  obtain ⟨ad0, Cn0, T0, h00, hBn0, hT0, hLn0⟩ := id hC0
  have hCo0 := k_X6_broken l A G w9 ad0 Cn0 S T0 false hBn0.1 hBn0.2.1 hBn0.2.2.1 hBn0.2.2.2.1
  rw [h00] at hCo0
  have hx0 := rep_x hBn0.1 hBn0.2.1
  rw [h00] at hx0
  refine g_Vi (As := [.int (g_b false)]) (rest := []) F hP hS (hCo0) (cwV 1 hts gL_law_X6_broken rfl rfl rfl cd_X6_broken ⟨by rw [hR]; exact Nat.le_of_ble_eq_true rfl, by rw [hR]; exact Nat.le_of_ble_eq_true rfl⟩) hx0 rfl rfl rfl hl.1 (Nat.le_of_ble_eq_true rfl) dL_law_53 ⟨by rw [hR]; dsimp only; omega, by rw [hR]; dsimp only; omega⟩ rfl (fun r21 w22 H locs h23 hP hS => ?_)
  obtain ⟨er0, C0, hu0, hr0⟩ := h23
  rw [er0, t3_broken hT0]
  obtain ⟨hC1, kp0⟩ := lwC_up h00 hBn0 hT0 hLn0 hu0 hr0
  have f24 : w22 nn = some (.inl (G.2.1 0, 6, .inl Fn)) := (kp0 nn (List.mem_of_getElem? (i := 0) rfl)).trans hnn
  have f25 : w22 sh = some (.inl (G.2.1 0, 30, .inl Fs)) := (kp0 sh (List.mem_of_getElem? (i := 1) rfl)).trans hsh
  have f26 : w22 ge = some (.inl (G.2.1 0, 80, .inl Fg)) := (kp0 ge (List.mem_of_getElem? (i := 2) rfl)).trans hge
  have f27 : w22 me = some (.inl (G.2.1 0, 32, .inl Fm)) := (kp0 me (List.mem_of_getElem? (i := 3) rfl)).trans hme
  have f28 : w22 pl = some (.inl (G.2.1 0, 20, .inl Fp)) := (kp0 pl (List.mem_of_getElem? (i := 4) rfl)).trans hpl
  refine lv_istore (lv' := [(7, .int (vlBroken S (told S) false)), (6, .ref nn), (5, .ref pl), (4, .ref me), (3, .ref ge), (2, .ref sh), (1, .ref q1), (0, .ref b9)]) hx hb dL_law_56 hl (by decide) rfl (fun ls hl => ?_)
  refine lv_aload_n hx hb dL_law_58 rfl (lv_at hl 6 rfl) ?_
  refine lv_iconst (v := 1) hx hb dL_law_59 (by decide) ?_
  rw [show (.int 1 : Value) = .int (g_b true) from rfl]
  obtain ⟨ad1, Cn1, T1, h01, hBn1, hT1, hLn1⟩ := id hC1
  have hCo1 := k_X6_broken l A G w22 ad1 Cn1 S T1 true hBn1.1 hBn1.2.1 hBn1.2.2.1 hBn1.2.2.2.1
  rw [h01] at hCo1
  have hx1 := rep_x hBn1.1 hBn1.2.1
  rw [h01] at hx1
  refine g_Vi (As := [.int (g_b true)]) (rest := []) F hP hS (hCo1) (cwV 1 hts gL_law_X6_broken rfl rfl rfl cd_X6_broken ⟨by rw [hR]; exact Nat.le_of_ble_eq_true rfl, by rw [hR]; exact Nat.le_of_ble_eq_true rfl⟩) hx1 rfl rfl rfl hl.1 (Nat.le_of_ble_eq_true rfl) dL_law_60 ⟨by rw [hR]; dsimp only; omega, by rw [hR]; dsimp only; omega⟩ rfl (fun r29 w30 H locs h31 hP hS => ?_)
  obtain ⟨er1, C1, hu1, hr1⟩ := h31
  rw [er1, t3_broken hT1]
  obtain ⟨hC2, kp1⟩ := lwC_up h01 hBn1 hT1 hLn1 hu1 hr1
  have f32 : w30 nn = some (.inl (G.2.1 0, 6, .inl Fn)) := (kp1 nn (List.mem_of_getElem? (i := 0) rfl)).trans f24
  have f33 : w30 sh = some (.inl (G.2.1 0, 30, .inl Fs)) := (kp1 sh (List.mem_of_getElem? (i := 1) rfl)).trans f25
  have f34 : w30 ge = some (.inl (G.2.1 0, 80, .inl Fg)) := (kp1 ge (List.mem_of_getElem? (i := 2) rfl)).trans f26
  have f35 : w30 me = some (.inl (G.2.1 0, 32, .inl Fm)) := (kp1 me (List.mem_of_getElem? (i := 3) rfl)).trans f27
  have f36 : w30 pl = some (.inl (G.2.1 0, 20, .inl Fp)) := (kp1 pl (List.mem_of_getElem? (i := 4) rfl)).trans f28
  refine lv_istore (lv' := [(8, .int (vlBroken S (told S) true)), (7, .int (vlBroken S (told S) false)), (6, .ref nn), (5, .ref pl), (4, .ref me), (3, .ref ge), (2, .ref sh), (1, .ref q1), (0, .ref b9)]) hx hb dL_law_63 hl (by decide) rfl (fun ls hl => ?_)
  obtain ⟨⟨b2, b8⟩, ⟨fn0, fn2, fn3, fn4, fn5⟩, has, hag, ham, hap⟩ := id hbp
  obtain ⟨n0, en0⟩ : ∃ z, z = (S 0 0).toNat := ⟨_, rfl⟩
  have hn0 : S 0 0 = n0 := by omega
  have kn0 : Fn 0 = nI n0 := by rw [fn0]; exact iL_nat hn0
  refine lv_aload hx hb dL_law_65 (lv_at hl 2 rfl) ?_
  refine lv_iconst (v := 0) hx hb dL_law_67 (by decide) ?_
  refine g_iald F hP f32 (by unfold vp_in; decide) dL_law_68 ?_
  refine lv_topi (fun v37 ev37 => ?_)
  have hv37 : v37 = nI n0 := by
    rw [ev37]
    rw [show (0 : Int32).toNatClampNeg = 0 from by decide]
    exact kn0
  rw [hv37]
  refine g_newaZ F hP hS (N' := n0) (List.mem_append_left _ (List.mem_append_left _ (List.mem_append_left _ (List.mem_append_left _ (List.mem_append_left _ (List.mem_append_left _ (List.mem_append_left _ (List.mem_append_left _ (List.mem_append_left _ (List.mem_append_left _ (List.mem_append_left _ (List.mem_append_left _ (List.mem_append_left _ (List.mem_append_left _ (List.mem_of_getElem? (i := 4) rfl))))))))))))))) (nI_pos (by omega)) (nI_clamp (by omega)) (by show n0 * 1 ≤ 536870912; omega) (by rw [hR]; exact Nat.le_of_ble_eq_true rfl) (by rw [hR]; dsimp only; omega) dL_law_69 (fun hs H nhs hP hS => ?_)
  obtain ⟨w38, ew38⟩ : ∃ z, z = g_up w30 hs (.inl (G.2.1 2, n0, .inl (fun _ => 0))) := ⟨_, rfl⟩
  have hP : g_P A G w38 H := by rw [ew38]; exact hP
  have f39 : w38 nn = some (.inl (G.2.1 0, 6, .inl Fn)) := by rw [ew38]; exact g_up_f f32 (g_neq f32 nhs)
  have f40 : w38 sh = some (.inl (G.2.1 0, 30, .inl Fs)) := by rw [ew38]; exact g_up_f f33 (g_neq f33 nhs)
  have f41 : w38 ge = some (.inl (G.2.1 0, 80, .inl Fg)) := by rw [ew38]; exact g_up_f f34 (g_neq f34 nhs)
  have f42 : w38 me = some (.inl (G.2.1 0, 32, .inl Fm)) := by rw [ew38]; exact g_up_f f35 (g_neq f35 nhs)
  have f43 : w38 pl = some (.inl (G.2.1 0, 20, .inl Fp)) := by rw [ew38]; exact g_up_f f36 (g_neq f36 nhs)
  have f44 : w38 hs = some (.inl (G.2.1 2, n0, .inl (fun _ => 0))) := by rw [ew38]; exact g_up_s _ _ _
  have hC3 := lwC_new hC2 nhs ew38
  refine W.widen (k := 495) (n := 7900) (by omega) (by omega) ?_
  refine lv_astore (lv' := [(9, .ref hs), (8, .int (vlBroken S (told S) true)), (7, .int (vlBroken S (told S) false)), (6, .ref nn), (5, .ref pl), (4, .ref me), (3, .ref ge), (2, .ref sh), (1, .ref q1), (0, .ref b9)]) hx hb dL_law_71 hl (by decide) rfl (fun ls hl => ?_)
  refine lv_aload hx hb dL_law_73 (lv_at hl 3 rfl) ?_
  refine lv_iconst (v := 0) hx hb dL_law_75 (by decide) ?_
  refine g_iald F hP f39 (by unfold vp_in; decide) dL_law_76 ?_
  refine lv_topi (fun v45 ev45 => ?_)
  have hv45 : v45 = nI n0 := by
    rw [ev45]
    rw [show (0 : Int32).toNatClampNeg = 0 from by decide]
    exact kn0
  rw [hv45]
  refine g_newaZ F hP hS (N' := n0) (List.mem_append_left _ (List.mem_append_left _ (List.mem_append_left _ (List.mem_append_left _ (List.mem_append_left _ (List.mem_append_left _ (List.mem_append_left _ (List.mem_append_left _ (List.mem_append_left _ (List.mem_append_left _ (List.mem_append_left _ (List.mem_append_left _ (List.mem_append_left _ (List.mem_append_left _ (List.mem_of_getElem? (i := 4) rfl))))))))))))))) (nI_pos (by omega)) (nI_clamp (by omega)) (by show n0 * 1 ≤ 536870912; omega) (by rw [hR]; exact Nat.le_of_ble_eq_true rfl) (by rw [hR]; dsimp only; omega) dL_law_77 (fun bz H nbz hP hS => ?_)
  obtain ⟨w46, ew46⟩ : ∃ z, z = g_up w38 bz (.inl (G.2.1 2, n0, .inl (fun _ => 0))) := ⟨_, rfl⟩
  have hP : g_P A G w46 H := by rw [ew46]; exact hP
  have f47 : w46 nn = some (.inl (G.2.1 0, 6, .inl Fn)) := by rw [ew46]; exact g_up_f f39 (g_neq f39 nbz)
  have f48 : w46 sh = some (.inl (G.2.1 0, 30, .inl Fs)) := by rw [ew46]; exact g_up_f f40 (g_neq f40 nbz)
  have f49 : w46 ge = some (.inl (G.2.1 0, 80, .inl Fg)) := by rw [ew46]; exact g_up_f f41 (g_neq f41 nbz)
  have f50 : w46 me = some (.inl (G.2.1 0, 32, .inl Fm)) := by rw [ew46]; exact g_up_f f42 (g_neq f42 nbz)
  have f51 : w46 pl = some (.inl (G.2.1 0, 20, .inl Fp)) := by rw [ew46]; exact g_up_f f43 (g_neq f43 nbz)
  have f52 : w46 hs = some (.inl (G.2.1 2, n0, .inl (fun _ => 0))) := by rw [ew46]; exact g_up_f f44 (g_neq f44 nbz)
  have f53 : w46 bz = some (.inl (G.2.1 2, n0, .inl (fun _ => 0))) := by rw [ew46]; exact g_up_s _ _ _
  have hC4 := lwC_new hC3 nbz ew46
  refine W.widen (k := 498) (n := 7950) (by omega) (by omega) ?_
  refine lv_astore (lv' := [(10, .ref bz), (9, .ref hs), (8, .int (vlBroken S (told S) true)), (7, .int (vlBroken S (told S) false)), (6, .ref nn), (5, .ref pl), (4, .ref me), (3, .ref ge), (2, .ref sh), (1, .ref q1), (0, .ref b9)]) hx hb dL_law_79 hl (by decide) rfl (fun ls hl => ?_)
  have dhsbz : hs ≠ bz := g_neq f44 nbz
  have dhsnn : hs ≠ nn := Ne.symm (g_neq f32 nhs)
  have dhssh : hs ≠ sh := Ne.symm (g_neq f33 nhs)
  have dhsge : hs ≠ ge := Ne.symm (g_neq f34 nhs)
  have dhsme : hs ≠ me := Ne.symm (g_neq f35 nhs)
  have dhspl : hs ≠ pl := Ne.symm (g_neq f36 nhs)
  have dbznn : bz ≠ nn := Ne.symm (g_neq f39 nbz)
  have dbzsh : bz ≠ sh := Ne.symm (g_neq f40 nbz)
  have dbzge : bz ≠ ge := Ne.symm (g_neq f41 nbz)
  have dbzme : bz ≠ me := Ne.symm (g_neq f42 nbz)
  have dbzpl : bz ≠ pl := Ne.symm (g_neq f43 nbz)
  have dnnsh : nn ≠ sh := Ne.symm dnnsh
  have dnnge : nn ≠ ge := Ne.symm dnnge
  have dnnme : nn ≠ me := Ne.symm dnnme
  have dnnpl : nn ≠ pl := Ne.symm dnnpl
  have hC5 := lwC_sub (L' := [hs, bz, nn, sh, ge, me, pl]) hC4 (fun a ha => by simp at ha ⊢; grind)
  refine W.widen (k := 500) (n := 8000) (by omega) (by omega) ?_
  exact cont q1 hs bz nn sh ge me pl n0 S Fs Fg Fm Fp Fn (fun _ => 0) (fun _ => 0) w46 H locs ls dhsbz dhsnn dhssh dhsge dhsme dhspl dbznn dbzsh dbzge dbzme dbzpl dnnsh dnnge dnnme dnnpl dshge dshme dshpl dgeme dgepl dmepl Hi hbp hn0 hC5 f52 f53 f47 f48 f49 f50 f51 hP hS (lv_sub hl [0, 1, 2, 3, 4, 5, 6, 7, 8, 9, 10] rfl)
