theorem cd_X6_makeStep : yX6_makeStep.cls = RX6 ∧ yX6_makeStep.cls ≠ "java/lang/invoke/MethodHandle" ∧ yX6_makeStep.cls ≠ "java/lang/invoke/VarHandle" ∧ (parseMethodDescriptor yX6_makeStep.desc).map (fun d => d.parameters.length) = some 0 := by decide +kernel
theorem cd_X4_begin : yX4_begin.cls = RX4 ∧ yX4_begin.cls ≠ "java/lang/invoke/MethodHandle" ∧ yX4_begin.cls ≠ "java/lang/invoke/VarHandle" ∧ (parseMethodDescriptor yX4_begin.desc).map (fun d => d.parameters.length) = some 2 := by decide +kernel
set_option maxHeartbeats 4000000 in
set_option maxRecDepth 100000 in
theorem k_X6_tellSpeeds (l : Launch) (A : Nat → Prop) (G : g_C) (w : g_W) (ad : Nat → Nat → Nat) (Cn : Nat → Nat → Option va_E) (S T : Sg) (Hh : holds w ad Cn) (Hr : rep G S T ad Cn) (Hi : invS S) : mV l yX6_tellSpeeds wsX6_tellSpeeds ({ frames := 5, cells := 0, slots := 0, locals := 140 } : Room) [.ref (ad 0 0)] A G w (fun w' => ∃ Cn', upto ad Cn w w' Cn' ∧ rep G S (told S) ad Cn') 0 0 := by
  refine g_ofV (cc := cX6_tellSpeeds) (maxL := 3) (ret := none) (own := RX6) (by decide) rfl rfl (Nat.le_of_ble_eq_true rfl) ?_
  intro p e R s m args below meth c Q ls hR F hP hS hlocks hr hnm0 hQ hl
  obtain ⟨⟨hx, hb, hml, hown, hts⟩, hK, hZ, hA⟩ := id F
  generalize hH0 : s.heap = H at hP ⊢
  have hS : va_S A s.heap H [] := by rw [← hH0]; exact va_S.rf
  generalize ([] : List Loc) = locs at hS ⊢
  have hl : lv_has ls 3 [(0, .ref (ad 0 0))] := hl
  have iX2 : ∀ w ∈ u_ws RX2 TX2 3, w ∈ wsX6_tellSpeeds := fun w h => List.mem_cons_of_mem _ (List.mem_append_left _ (List.mem_append_left _ (List.mem_append_left _ (List.mem_append_left _ (List.mem_append_left _ (List.mem_append_left _ (List.mem_append_right _ (h))))))))
  have iX3 : ∀ w ∈ u_ws RX3 TX3 2, w ∈ wsX6_tellSpeeds := fun w h => List.mem_cons_of_mem _ (List.mem_append_left _ (List.mem_append_left _ (List.mem_append_left _ (List.mem_append_left _ (List.mem_append_right _ (h))))))
  have iX5 : ∀ w ∈ u_ws RX5 TX5 3, w ∈ wsX6_tellSpeeds := fun w h => List.mem_cons_of_mem _ (List.mem_append_left _ (List.mem_append_left _ (List.mem_append_left _ (List.mem_append_left _ (List.mem_append_left _ (List.mem_append_right _ (h)))))))
  have iX6 : ∀ w ∈ u_ws RX6 TX6 6, w ∈ wsX6_tellSpeeds := fun w h => List.mem_cons_of_mem _ (List.mem_append_left _ (List.mem_append_left _ (List.mem_append_left _ (List.mem_append_left _ (List.mem_append_left _ (List.mem_append_left _ (List.mem_append_left _ (List.mem_append_right _ (h)))))))))
  have hx0 := rep_x Hh Hr
  obtain ⟨m0, a0, hz0⟩ := rep_size Hh Hr 0 (by decide)
  have hi := Hi.1
  obtain ⟨Cz, eCz⟩ : ∃ C, C = Cn := ⟨_, rfl⟩
  obtain ⟨wz, ewz⟩ : ∃ z, z = w := ⟨_, rfl⟩
  have hu : upto ad Cz wz w Cn := by rw [eCz, ewz]; exact upto_rf Hh
  refine lv_iconst (v := 0) hx hb dX6_tellSpeeds_0 (by decide) ?_
  refine lv_istore_n (lv' := [(1, .int 0), (0, .ref (ad 0 0))]) hx hb dX6_tellSpeeds_1 rfl hl (by decide) rfl (fun ls hl => ?_)
  have L2 : ∀ (n : Nat) (k : Nat) (Cn : Nat → Nat → Option va_E) (w : g_W) (H : Heap) (locs : List Loc) (ls : Array Slot), (S 0 0).toNat + 1 ≤ k + n → ((k : Int) ≤ S 0 0) → (holds w ad Cn) → (rep G S (mixA S T k) ad Cn) → (upto ad Cz wz w Cn) → g_P A G w H → va_S A s.heap H locs → lv_has ls 3 [(1, .int (nI k)), (0, .ref (ad 0 0))] → W p l e R s m args below meth c H locs (0) (0) Q (F0 m 2 ls []) := by
    intro n
    induction n with
    | zero =>
      intro k Cn w H locs ls hfu hkN Hh Hr hu hP hS hl
      exact absurd hfu (by omega)
    | succ n ih_L2 =>
      intro k Cn w H locs ls hfu hkN Hh Hr hu hP hS hl
      have hx0 := rep_x Hh Hr
      obtain ⟨m0, a0, hz0⟩ := rep_size Hh Hr 0 (by decide)
      refine lv_iload_n hx hb dX6_tellSpeeds_2 rfl (lv_at hl 0 rfl) ?_
      refine lv_aload_n hx hb dX6_tellSpeeds_3 rfl (lv_at hl 1 rfl) ?_
      refine g_get F hP (C := RX6) (T := TX6) (N := 6) iX6 hx0 rfl 0 (by decide) (List.mem_cons_of_mem _ (List.mem_append_left _ (List.mem_append_left _ (List.mem_append_left _ (List.mem_append_left _ (List.mem_append_left _ (List.mem_append_left _ (List.mem_append_left _ (List.mem_append_left _ (List.mem_append_left _ (List.mem_of_getElem? (i := 0) rfl))))))))))) (fun _ h9 => h9) rfl dX6_tellSpeeds_4 ?_
      refine g_Vi (As := []) (rest := [.int (nI k)]) F hP hS (k_size l A G w (ad 1 0) a0 m0 (iL (S 0 0)) hz0) (cwV 0 hts gX6_tellSpeeds_Jx4a65c_size_8abf5 rfl rfl rfl cd_Jx4a65c_size_8abf5 ⟨by rw [hR]; exact Nat.le_of_ble_eq_true rfl, by rw [hR]; exact Nat.le_of_ble_eq_true rfl⟩) hz0 rfl rfl rfl hl.1 (Nat.le_of_ble_eq_true rfl) dX6_tellSpeeds_7 ⟨by rw [hR]; exact Nat.le_of_ble_eq_true rfl, by rw [hR]; exact Nat.le_of_ble_eq_true rfl⟩ rfl (fun r1 w2 H locs h3 hP hS => ?_)
      have hr1 := h3.1
      rw [h3.2] at hP
      rw [hr1]
      refine lv_icmp_ge (tgt := 50) hx hb dX6_tellSpeeds_10 (by decide) (fun c4 => ?_) (fun c4 => ?_)
      · have zc4 : S 0 0 ≤ k := (iL_nle (by omega) (by omega) (by omega)).mp c4
        refine lv_iconst (v := 0) hx hb dX6_tellSpeeds_50 (by decide) ?_
        refine lv_istore_n (lv' := [(1, .int 0), (0, .ref (ad 0 0))]) hx hb dX6_tellSpeeds_51 rfl hl (by decide) rfl (fun ls hl => ?_)
        have L52 : ∀ (n : Nat) (k : Nat) (Cn : Nat → Nat → Option va_E) (w : g_W) (H : Heap) (locs : List Loc) (ls : Array Slot), (S 0 2).toNat + 1 ≤ k + n → ((k : Int) ≤ S 0 2) → (holds w ad Cn) → (rep G S (mixB 3 (mixA S T (S 0 0).toNat) k) ad Cn) → (upto ad Cz wz w Cn) → g_P A G w H → va_S A s.heap H locs → lv_has ls 3 [(1, .int (nI k)), (0, .ref (ad 0 0))] → W p l e R s m args below meth c H locs (0) (0) Q (F0 m 52 ls []) := by
          intro n
          induction n with
          | zero =>
            intro k Cn w H locs ls hfu hkN Hh Hr hu hP hS hl
            exact absurd hfu (by omega)
          | succ n ih_L52 =>
            intro k Cn w H locs ls hfu hkN Hh Hr hu hP hS hl
            have hx0 := rep_x Hh Hr
            obtain ⟨m2, a2, hz2⟩ := rep_size Hh Hr 2 (by decide)
            refine lv_iload_n hx hb dX6_tellSpeeds_52 rfl (lv_at hl 0 rfl) ?_
            refine lv_aload_n hx hb dX6_tellSpeeds_53 rfl (lv_at hl 1 rfl) ?_
            refine g_get F hP (C := RX6) (T := TX6) (N := 6) iX6 hx0 rfl 2 (by decide) (List.mem_cons_of_mem _ (List.mem_append_left _ (List.mem_append_left _ (List.mem_append_left _ (List.mem_append_left _ (List.mem_append_left _ (List.mem_append_left _ (List.mem_append_left _ (List.mem_append_left _ (List.mem_append_left _ (List.mem_of_getElem? (i := 4) rfl))))))))))) (fun _ h9 => h9) rfl dX6_tellSpeeds_54 ?_
            refine g_Vi (As := []) (rest := [.int (nI k)]) F hP hS (k_size l A G w (ad 1 2) a2 m2 (iL (S 0 2)) hz2) (cwV 0 hts gX6_tellSpeeds_Jx4a65c_size_8abf5 rfl rfl rfl cd_Jx4a65c_size_8abf5 ⟨by rw [hR]; exact Nat.le_of_ble_eq_true rfl, by rw [hR]; exact Nat.le_of_ble_eq_true rfl⟩) hz2 rfl rfl rfl hl.1 (Nat.le_of_ble_eq_true rfl) dX6_tellSpeeds_57 ⟨by rw [hR]; exact Nat.le_of_ble_eq_true rfl, by rw [hR]; exact Nat.le_of_ble_eq_true rfl⟩ rfl (fun r5 w6 H locs h7 hP hS => ?_)
            have hr5 := h7.1
            rw [h7.2] at hP
            rw [hr5]
            refine lv_icmp_ge (tgt := 87) hx hb dX6_tellSpeeds_60 (by decide) (fun c8 => ?_) (fun c8 => ?_)
            · have zc8 : S 0 2 ≤ k := (iL_nle (by omega) (by omega) (by omega)).mp c8
              refine lv_iconst (v := 0) hx hb dX6_tellSpeeds_87 (by decide) ?_
              refine lv_istore_n (lv' := [(1, .int 0), (0, .ref (ad 0 0))]) hx hb dX6_tellSpeeds_88 rfl hl (by decide) rfl (fun ls hl => ?_)
              have L89 : ∀ (n : Nat) (k : Nat) (Cn : Nat → Nat → Option va_E) (w : g_W) (H : Heap) (locs : List Loc) (ls : Array Slot), (S 0 3).toNat + 1 ≤ k + n → ((k : Int) ≤ S 0 3) → (holds w ad Cn) → (rep G S (mixB 4 (mixB 3 (mixA S T (S 0 0).toNat) (S 0 2).toNat) k) ad Cn) → (upto ad Cz wz w Cn) → g_P A G w H → va_S A s.heap H locs → lv_has ls 3 [(1, .int (nI k)), (0, .ref (ad 0 0))] → W p l e R s m args below meth c H locs (0) (0) Q (F0 m 89 ls []) := by
                intro n
                induction n with
                | zero =>
                  intro k Cn w H locs ls hfu hkN Hh Hr hu hP hS hl
                  exact absurd hfu (by omega)
                | succ n ih_L89 =>
                  intro k Cn w H locs ls hfu hkN Hh Hr hu hP hS hl
                  have hx0 := rep_x Hh Hr
                  obtain ⟨m3, a3, hz3⟩ := rep_size Hh Hr 3 (by decide)
                  refine lv_iload_n hx hb dX6_tellSpeeds_89 rfl (lv_at hl 0 rfl) ?_
                  refine lv_aload_n hx hb dX6_tellSpeeds_90 rfl (lv_at hl 1 rfl) ?_
                  refine g_get F hP (C := RX6) (T := TX6) (N := 6) iX6 hx0 rfl 3 (by decide) (List.mem_cons_of_mem _ (List.mem_append_left _ (List.mem_append_left _ (List.mem_append_left _ (List.mem_append_left _ (List.mem_append_left _ (List.mem_append_left _ (List.mem_append_left _ (List.mem_append_left _ (List.mem_append_left _ (List.mem_of_getElem? (i := 8) rfl))))))))))) (fun _ h9 => h9) rfl dX6_tellSpeeds_91 ?_
                  refine g_Vi (As := []) (rest := [.int (nI k)]) F hP hS (k_size l A G w (ad 1 3) a3 m3 (iL (S 0 3)) hz3) (cwV 0 hts gX6_tellSpeeds_Jx4a65c_size_8abf5 rfl rfl rfl cd_Jx4a65c_size_8abf5 ⟨by rw [hR]; exact Nat.le_of_ble_eq_true rfl, by rw [hR]; exact Nat.le_of_ble_eq_true rfl⟩) hz3 rfl rfl rfl hl.1 (Nat.le_of_ble_eq_true rfl) dX6_tellSpeeds_94 ⟨by rw [hR]; exact Nat.le_of_ble_eq_true rfl, by rw [hR]; exact Nat.le_of_ble_eq_true rfl⟩ rfl (fun r9 w10 H locs h11 hP hS => ?_)
                  have hr9 := h11.1
                  rw [h11.2] at hP
                  rw [hr9]
                  refine lv_icmp_ge (tgt := 124) hx hb dX6_tellSpeeds_97 (by decide) (fun c12 => ?_) (fun c12 => ?_)
                  · have zc12 : S 0 3 ≤ k := (iL_nle (by omega) (by omega) (by omega)).mp c12
                    refine lv_iconst (v := 1) hx hb dX6_tellSpeeds_124 (by decide) ?_
                    refine lv_istore_n (lv' := [(1, .int 1), (0, .ref (ad 0 0))]) hx hb dX6_tellSpeeds_125 rfl hl (by decide) rfl (fun ls hl => ?_)
                    refine lv_iconst (v := 0) hx hb dX6_tellSpeeds_126 (by decide) ?_
                    refine lv_istore_n (lv' := [(2, .int 0), (1, .int 1), (0, .ref (ad 0 0))]) hx hb dX6_tellSpeeds_127 rfl hl (by decide) rfl (fun ls hl => ?_)
                    have L128 : ∀ (n : Nat) (c1 : Nat) (Cn : Nat → Nat → Option va_E) (T : Sg) (im : Bool) (w : g_W) (H : Heap) (locs : List Loc) (ls : Array Slot), 31 ≤ c1 + n → (c1 ≤ 30) → (holds w ad Cn) → (rep G S T ad Cn) → (upto ad Cz wz w Cn) → (invT S T) → (stB S T (c1 : Int)) → ((im = true ∧ run S (30 - c1) T = told S) ∨ (im = false ∧ T = told S)) → g_P A G w H → va_S A s.heap H locs → lv_has ls 3 [(2, .int (nI c1)), (1, .int (g_b im)), (0, .ref (ad 0 0))] → W p l e R s m args below meth c H locs (0) (0) Q (F0 m 128 ls []) := by
                      intro n
                      induction n with
                      | zero =>
                        intro c1 Cn T im w H locs ls hfu hc Hh Hr hu Ht hs hm hP hS hl
                        exact absurd hfu (by omega)
                      | succ n ih_L128 =>
                        intro c1 Cn T im w H locs ls hfu hc Hh Hr hu Ht hs hm hP hS hl
                        have hx0 := rep_x Hh Hr
                        refine lv_iload_n hx hb dX6_tellSpeeds_128 rfl (lv_at hl 1 rfl) ?_
                        refine lv_if_eq (tgt := 149) hx hb dX6_tellSpeeds_129 (by decide) (fun c13 => ?_) (fun c13 => ?_)
                        · have yc13 : im = false := g_b0.mp c13
                          rw [hQ]
                          refine g_vret F hP hS hlocks hr dX6_tellSpeeds_149 (by first | exact Nat.le_of_ble_eq_true rfl | omega) (by first | exact Nat.le_of_ble_eq_true rfl | omega) ?_
                          rw [eCz, ewz] at hu
                          have hT : T = told S := by
                            rcases hm with q | q
                            · rw [yc13] at q; exact absurd q.1 (by decide)
                            · exact q.2
                          rw [hT] at Hr
                          exact ⟨Cn, hu, Hr⟩
                        · have yc13 : im = true := g_b1.mp c13
                          refine lv_iload_n hx hb dX6_tellSpeeds_132 rfl (lv_at hl 0 rfl) ?_
                          refine lv_bipush (v := 30) hx hb dX6_tellSpeeds_133 (by decide) ?_
                          refine lv_icmp_ge (tgt := 149) hx hb dX6_tellSpeeds_135 (by decide) (fun c14 => ?_) (fun c14 => ?_)
                          · rw [show (30 : Int32) = nI 30 from rfl] at c14
                            have yc14 : 30 ≤ c1 := (nI_leI (by omega) (by omega)).mp c14
                            rw [hQ]
                            refine g_vret F hP hS hlocks hr dX6_tellSpeeds_149 (by first | exact Nat.le_of_ble_eq_true rfl | omega) (by first | exact Nat.le_of_ble_eq_true rfl | omega) ?_
                            rw [eCz, ewz] at hu
                            have hT : T = told S := by
                              rcases hm with q | q
                              · have q2 := q.2
                                rw [show 30 - c1 = 0 from by omega] at q2
                                exact q2
                              · exact q.2
                            rw [hT] at Hr
                            exact ⟨Cn, hu, Hr⟩
                          · rw [show (30 : Int32) = nI 30 from rfl] at c14
                            have yc14 : c1 < 30 := Nat.not_le.mp (fun q => c14 ((nI_leI (by omega) (by omega)).mpr q))
                            refine lv_aload_n hx hb dX6_tellSpeeds_138 rfl (lv_at hl 2 rfl) ?_
                            have hmT : run S (30 - c1) T = told S := by
                              rcases hm with q | q
                              · exact q.2
                              · rw [yc13] at q; exact absurd q.1 (by decide)
                            refine g_Vi (As := []) (rest := []) F hP hS (k_X6_makeStep l A G w ad Cn S T Hh Hr Hi Ht) (cwV 0 hts gX6_tellSpeeds_X6_makeStep rfl rfl rfl cd_X6_makeStep ⟨by rw [hR]; exact Nat.le_of_ble_eq_true rfl, by rw [hR]; exact Nat.le_of_ble_eq_true rfl⟩) hx0 rfl rfl rfl hl.1 (Nat.le_of_ble_eq_true rfl) dX6_tellSpeeds_139 ⟨by rw [hR]; exact Nat.le_of_ble_eq_true rfl, by rw [hR]; exact Nat.le_of_ble_eq_true rfl⟩ rfl (fun r15 w16 H locs h17 hP hS => ?_)
                            rcases h17 with ⟨e1, er, ew⟩ | ⟨er, T1, D1, e1, e2, e3⟩
                            · rw [er.trans (show (0 : Int32) = g_b false from rfl)]
                              rw [ew] at hP
                              refine lv_istore_n (lv' := [(1, .int (g_b false)), (2, .int (nI c1)), (0, .ref (ad 0 0))]) hx hb dX6_tellSpeeds_142 rfl hl (by decide) rfl (fun ls hl => ?_)
                              obtain ⟨i18, ei18⟩ : ∃ y : Int32, y = nI c1 + (1) := ⟨_, rfl⟩
                              refine lv_iinc (v := i18) (lv' := [(2, .int i18), (1, .int (g_b false)), (0, .ref (ad 0 0))]) hx hb dX6_tellSpeeds_143 hl (k := 1) rfl (by rw [ei18]; rfl) (by decide) rfl (fun ls hl => ?_)
                              obtain rfl : i18 = nI (c1 + 1) := by
                                rw [ei18]
                                exact nI_1 c1
                              refine lv_goto (tgt := 128) hx hb dX6_tellSpeeds_146 (by decide) ?_
                              exact ih_L128 (c1 + 1) Cn T false w H locs ls (by omega) (by omega) (Hh) (Hr) (hu) (Ht) (fun k hk => by have := hs k hk; omega) (Or.inr ⟨rfl, by rw [← hmT, run_none e1]⟩) hP hS (lv_sub hl [0, 1, 2] rfl)
                            · rw [er.trans (show (1 : Int32) = g_b true from rfl)]
                              obtain ⟨p1, p2⟩ := step_pres Hi Ht hs (by omega) e1
                              rw [show 30 - c1 = (30 - (c1 + 1)) + 1 from by omega, run_some e1] at hmT
                              refine lv_istore_n (lv' := [(1, .int (g_b true)), (2, .int (nI c1)), (0, .ref (ad 0 0))]) hx hb dX6_tellSpeeds_142 rfl hl (by decide) rfl (fun ls hl => ?_)
                              obtain ⟨i19, ei19⟩ : ∃ y : Int32, y = nI c1 + (1) := ⟨_, rfl⟩
                              refine lv_iinc (v := i19) (lv' := [(2, .int i19), (1, .int (g_b true)), (0, .ref (ad 0 0))]) hx hb dX6_tellSpeeds_143 hl (k := 1) rfl (by rw [ei19]; rfl) (by decide) rfl (fun ls hl => ?_)
                              obtain rfl : i19 = nI (c1 + 1) := by
                                rw [ei19]
                                exact nI_1 c1
                              refine lv_goto (tgt := 128) hx hb dX6_tellSpeeds_146 (by decide) ?_
                              exact ih_L128 (c1 + 1) D1 T1 true w16 H locs ls (by omega) (by omega) (e2.1) (e3) (upto_tr hu e2) (p1) (p2) (Or.inl ⟨rfl, hmT⟩) hP hS (lv_sub hl [0, 1, 2] rfl)
                    exact L128 31 0 Cn (T0 S) true w H locs ls (by omega) (by omega) (Hh) (rep_T0 (n3 := k) Hr (by omega) (by omega) (by omega)) (hu) ((T0_inv Hi).1) ((T0_inv Hi).2) (Or.inl ⟨rfl, rfl⟩) hP hS (lv_sub hl [0, 1, 2] rfl)
                  · have hk : (k : Int) < S 0 3 := Int.not_le.mp (fun q => c12 ((iL_nle (z := S 0 3) (k := k) (by omega) (by omega) (by omega)).mpr q))
                    refine lv_aload_n hx hb dX6_tellSpeeds_100 rfl (lv_at hl 1 rfl) ?_
                    refine g_get F hP (C := RX6) (T := TX6) (N := 6) iX6 hx0 rfl 3 (by decide) (List.mem_cons_of_mem _ (List.mem_append_left _ (List.mem_append_left _ (List.mem_append_left _ (List.mem_append_left _ (List.mem_append_left _ (List.mem_append_left _ (List.mem_append_left _ (List.mem_append_left _ (List.mem_append_left _ (List.mem_of_getElem? (i := 8) rfl))))))))))) (fun _ h9 => h9) rfl dX6_tellSpeeds_101 ?_
                    refine lv_iload_n hx hb dX6_tellSpeeds_104 rfl (lv_at hl 0 rfl) ?_
                    obtain ⟨gm20, gc20, gf20, ga20, gb20, gk20, gn20, gd20, ge20⟩ := rep_get Hh Hr 3 (by decide) hk
                    refine g_Vq (As := [.int (nI k)]) (rest := []) F hP hS (k_get l A G w (ad 1 3) (ad 2 3) (S 0 3).toNat gc20 gm20 gf20 k ga20 gb20 gk20 gn20 gd20) (cwV 1 hts gX6_tellSpeeds_Jx4a65c_get_915e3 rfl rfl rfl cd_Jx4a65c_get_915e3 ⟨by rw [hR]; exact Nat.le_of_ble_eq_true rfl, by rw [hR]; exact Nat.le_of_ble_eq_true rfl⟩) ga20 rfl rfl rfl hl.1 (Nat.le_of_ble_eq_true rfl) dX6_tellSpeeds_105 ⟨by rw [hR]; exact Nat.le_of_ble_eq_true rfl, by rw [hR]; exact Nat.le_of_ble_eq_true rfl⟩ rfl (fun r21 w22 H locs h23 hP hS => ?_)
                    have hr21 := h23.1
                    rw [h23.2] at hP
                    have f24 := rep_pl Hh Hr hk
                    rw [hr21, ge20, show va_rf (some (ad (elk 3) k)) = .ref (ad 11 k) from rfl]
                    refine g_cast F hP (C := RX3) (T := TX3) (N := 2) f24 rfl (List.mem_cons_of_mem _ (List.mem_append_left _ (List.mem_append_left _ (List.mem_append_left _ (List.mem_append_left _ (List.mem_append_left _ (List.mem_append_left _ (List.mem_append_left _ (List.mem_append_left _ (List.mem_append_left _ (List.mem_of_getElem? (i := 9) rfl))))))))))) dX6_tellSpeeds_108 ?_
                    refine g_get F hP (C := RX3) (T := TX3) (N := 2) iX3 f24 rfl 1 (by decide) (List.mem_cons_of_mem _ (List.mem_append_left _ (List.mem_append_left _ (List.mem_append_left _ (List.mem_append_left _ (List.mem_append_left _ (List.mem_append_left _ (List.mem_append_left _ (List.mem_append_left _ (List.mem_append_left _ (List.mem_of_getElem? (i := 10) rfl))))))))))) (fun _ h9 => h9) rfl dX6_tellSpeeds_111 ?_
                    have ft : w (ad 12 k) = some (.inr (6, [.ref (ad 13 k), .ref (ad 15 k), .int (iL ((mixB 4 (mixB 3 (mixA S T (S 0 0).toNat) (S 0 2).toNat) k) 4 k))])) := Hh.1 _ _ _ (tieR_of Hr (b := 1) (by decide) hk).1
                    refine lv_iconst (v := 0) hx hb dX6_tellSpeeds_114 (by decide) ?_
                    refine g_put F hP hS (C := RX5) (T := TX5) (N := 3) (v := .int 0) (ty := .boolean) iX5 tyX5 tyX5_ok nmX5 ft rfl 2 (by decide) (List.mem_cons_of_mem _ (List.mem_append_left _ (List.mem_append_left _ (List.mem_append_left _ (List.mem_append_left _ (List.mem_append_left _ (List.mem_append_left _ (List.mem_append_left _ (List.mem_append_left _ (List.mem_append_left _ (List.mem_of_getElem? (i := 7) rfl))))))))))) (fun _ h9 => h9) rfl (by decide +kernel) (by first | rfl | exact g_nb _) (by first | rfl | exact g_fb _) (by show 2 < 3; decide) dX6_tellSpeeds_115 (fun H locs hP hS => ?_)
                    obtain ⟨w25, ew25⟩ : ∃ z, z = g_up w (ad 12 k) (.inr (6, [.ref (ad 13 k), .ref (ad 15 k), .int 0])) := ⟨_, rfl⟩
                    have hP : g_P A G w25 H := by rw [ew25]; exact hP
                    have f26 : w25 (ad 0 0) = some (.inr (7, [.ref (ad 1 0), .ref (ad 1 1), .ref (ad 1 2), .ref (ad 1 3), .int (iL (S 0 4)), .int (iL (S 0 5))])) := by rw [ew25]; exact g_up_f hx0 (g_ne hx0 ft rfl)
                    have f27 : w25 (ad 1 3) = some (.inr (0, [.int m3, .ref a3, .int (iL (S 0 3))])) := by rw [ew25]; exact g_up_f hz3 (g_ne hz3 ft rfl)
                    have f28 : w25 (ad 11 k) = some (.inr (4, [.int (iL (S 14 k + S 15 k)), .ref (ad 12 k)])) := by rw [ew25]; exact g_up_f f24 (g_ne f24 ft rfl)
                    have f29 : w25 (ad 12 k) = some (.inr (6, [.ref (ad 13 k), .ref (ad 15 k), .int 0])) := by rw [ew25]; exact g_up_s _ _ _
                    obtain ⟨C1, u1, H1, R1⟩ := clear_post (b := 1) Hh (by decide) Hr hu hk ew25
                    obtain ⟨i30, ei30⟩ : ∃ y : Int32, y = nI k + (1) := ⟨_, rfl⟩
                    refine lv_iinc (v := i30) (lv' := [(1, .int i30), (0, .ref (ad 0 0))]) hx hb dX6_tellSpeeds_118 hl (k := 0) rfl (by rw [ei30]; rfl) (by decide) rfl (fun ls hl => ?_)
                    obtain rfl : i30 = nI (k + 1) := by
                      rw [ei30]
                      exact nI_1 k
                    refine lv_goto (tgt := 89) hx hb dX6_tellSpeeds_121 (by decide) ?_
                    exact ih_L89 (k + 1) C1 w25 H locs ls (by omega) (by omega) (H1) (R1) (u1) hP hS (lv_sub hl [0, 1] rfl)
              exact L89 ((S 0 3).toNat + 1) 0 Cn w H locs ls (by omega) (by omega) (Hh) (by rw [show k = (S 0 2).toNat from by omega] at Hr; exact rep_B0 Hr) (hu) hP hS (lv_sub hl [0, 1] rfl)
            · have hk : (k : Int) < S 0 2 := Int.not_le.mp (fun q => c8 ((iL_nle (z := S 0 2) (k := k) (by omega) (by omega) (by omega)).mpr q))
              refine lv_aload_n hx hb dX6_tellSpeeds_63 rfl (lv_at hl 1 rfl) ?_
              refine g_get F hP (C := RX6) (T := TX6) (N := 6) iX6 hx0 rfl 2 (by decide) (List.mem_cons_of_mem _ (List.mem_append_left _ (List.mem_append_left _ (List.mem_append_left _ (List.mem_append_left _ (List.mem_append_left _ (List.mem_append_left _ (List.mem_append_left _ (List.mem_append_left _ (List.mem_append_left _ (List.mem_of_getElem? (i := 4) rfl))))))))))) (fun _ h9 => h9) rfl dX6_tellSpeeds_64 ?_
              refine lv_iload_n hx hb dX6_tellSpeeds_67 rfl (lv_at hl 0 rfl) ?_
              obtain ⟨gm31, gc31, gf31, ga31, gb31, gk31, gn31, gd31, ge31⟩ := rep_get Hh Hr 2 (by decide) hk
              refine g_Vq (As := [.int (nI k)]) (rest := []) F hP hS (k_get l A G w (ad 1 2) (ad 2 2) (S 0 2).toNat gc31 gm31 gf31 k ga31 gb31 gk31 gn31 gd31) (cwV 1 hts gX6_tellSpeeds_Jx4a65c_get_915e3 rfl rfl rfl cd_Jx4a65c_get_915e3 ⟨by rw [hR]; exact Nat.le_of_ble_eq_true rfl, by rw [hR]; exact Nat.le_of_ble_eq_true rfl⟩) ga31 rfl rfl rfl hl.1 (Nat.le_of_ble_eq_true rfl) dX6_tellSpeeds_68 ⟨by rw [hR]; exact Nat.le_of_ble_eq_true rfl, by rw [hR]; exact Nat.le_of_ble_eq_true rfl⟩ rfl (fun r32 w33 H locs h34 hP hS => ?_)
              have hr32 := h34.1
              rw [h34.2] at hP
              have f35 := rep_me Hh Hr hk
              rw [hr32, ge31, show va_rf (some (ad (elk 2) k)) = .ref (ad 6 k) from rfl]
              refine g_cast F hP (C := RX2) (T := TX2) (N := 3) f35 rfl (List.mem_cons_of_mem _ (List.mem_append_left _ (List.mem_append_left _ (List.mem_append_left _ (List.mem_append_left _ (List.mem_append_left _ (List.mem_append_left _ (List.mem_append_left _ (List.mem_append_left _ (List.mem_append_left _ (List.mem_of_getElem? (i := 5) rfl))))))))))) dX6_tellSpeeds_71 ?_
              refine g_get F hP (C := RX2) (T := TX2) (N := 3) iX2 f35 rfl 2 (by decide) (List.mem_cons_of_mem _ (List.mem_append_left _ (List.mem_append_left _ (List.mem_append_left _ (List.mem_append_left _ (List.mem_append_left _ (List.mem_append_left _ (List.mem_append_left _ (List.mem_append_left _ (List.mem_append_left _ (List.mem_of_getElem? (i := 6) rfl))))))))))) (fun _ h9 => h9) rfl dX6_tellSpeeds_74 ?_
              have ft : w (ad 7 k) = some (.inr (6, [.ref (ad 8 k), .ref (ad 10 k), .int (iL ((mixB 3 (mixA S T (S 0 0).toNat) k) 3 k))])) := Hh.1 _ _ _ (tieR_of Hr (b := 0) (by decide) hk).1
              refine lv_iconst (v := 0) hx hb dX6_tellSpeeds_77 (by decide) ?_
              refine g_put F hP hS (C := RX5) (T := TX5) (N := 3) (v := .int 0) (ty := .boolean) iX5 tyX5 tyX5_ok nmX5 ft rfl 2 (by decide) (List.mem_cons_of_mem _ (List.mem_append_left _ (List.mem_append_left _ (List.mem_append_left _ (List.mem_append_left _ (List.mem_append_left _ (List.mem_append_left _ (List.mem_append_left _ (List.mem_append_left _ (List.mem_append_left _ (List.mem_of_getElem? (i := 7) rfl))))))))))) (fun _ h9 => h9) rfl (by decide +kernel) (by first | rfl | exact g_nb _) (by first | rfl | exact g_fb _) (by show 2 < 3; decide) dX6_tellSpeeds_78 (fun H locs hP hS => ?_)
              obtain ⟨w36, ew36⟩ : ∃ z, z = g_up w (ad 7 k) (.inr (6, [.ref (ad 8 k), .ref (ad 10 k), .int 0])) := ⟨_, rfl⟩
              have hP : g_P A G w36 H := by rw [ew36]; exact hP
              have f37 : w36 (ad 0 0) = some (.inr (7, [.ref (ad 1 0), .ref (ad 1 1), .ref (ad 1 2), .ref (ad 1 3), .int (iL (S 0 4)), .int (iL (S 0 5))])) := by rw [ew36]; exact g_up_f hx0 (g_ne hx0 ft rfl)
              have f38 : w36 (ad 1 2) = some (.inr (0, [.int m2, .ref a2, .int (iL (S 0 2))])) := by rw [ew36]; exact g_up_f hz2 (g_ne hz2 ft rfl)
              have f39 : w36 (ad 6 k) = some (.inr (3, [.ref (ad 5 (S 9 k).toNat), .ref (ad 5 (S 10 k).toNat), .ref (ad 7 k)])) := by rw [ew36]; exact g_up_f f35 (g_ne f35 ft rfl)
              have f40 : w36 (ad 7 k) = some (.inr (6, [.ref (ad 8 k), .ref (ad 10 k), .int 0])) := by rw [ew36]; exact g_up_s _ _ _
              obtain ⟨C1, u1, H1, R1⟩ := clear_post (b := 0) Hh (by decide) Hr hu hk ew36
              obtain ⟨i41, ei41⟩ : ∃ y : Int32, y = nI k + (1) := ⟨_, rfl⟩
              refine lv_iinc (v := i41) (lv' := [(1, .int i41), (0, .ref (ad 0 0))]) hx hb dX6_tellSpeeds_81 hl (k := 0) rfl (by rw [ei41]; rfl) (by decide) rfl (fun ls hl => ?_)
              obtain rfl : i41 = nI (k + 1) := by
                rw [ei41]
                exact nI_1 k
              refine lv_goto (tgt := 52) hx hb dX6_tellSpeeds_84 (by decide) ?_
              exact ih_L52 (k + 1) C1 w36 H locs ls (by omega) (by omega) (H1) (R1) (u1) hP hS (lv_sub hl [0, 1] rfl)
        exact L52 ((S 0 2).toNat + 1) 0 Cn w H locs ls (by omega) (by omega) (Hh) (by rw [show k = (S 0 0).toNat from by omega] at Hr; exact rep_B0 Hr) (hu) hP hS (lv_sub hl [0, 1] rfl)
      · have hk : (k : Int) < S 0 0 := Int.not_le.mp (fun q => c4 ((iL_nle (z := S 0 0) (k := k) (by omega) (by omega) (by omega)).mpr q))
        refine lv_aload_n hx hb dX6_tellSpeeds_13 rfl (lv_at hl 1 rfl) ?_
        refine g_get F hP (C := RX6) (T := TX6) (N := 6) iX6 hx0 rfl 0 (by decide) (List.mem_cons_of_mem _ (List.mem_append_left _ (List.mem_append_left _ (List.mem_append_left _ (List.mem_append_left _ (List.mem_append_left _ (List.mem_append_left _ (List.mem_append_left _ (List.mem_append_left _ (List.mem_append_left _ (List.mem_of_getElem? (i := 0) rfl))))))))))) (fun _ h9 => h9) rfl dX6_tellSpeeds_14 ?_
        refine lv_iload_n hx hb dX6_tellSpeeds_17 rfl (lv_at hl 0 rfl) ?_
        obtain ⟨gm42, gc42, gf42, ga42, gb42, gk42, gn42, gd42, ge42⟩ := rep_get Hh Hr 0 (by decide) hk
        refine g_Vq (As := [.int (nI k)]) (rest := []) F hP hS (k_get l A G w (ad 1 0) (ad 2 0) (S 0 0).toNat gc42 gm42 gf42 k ga42 gb42 gk42 gn42 gd42) (cwV 1 hts gX6_tellSpeeds_Jx4a65c_get_915e3 rfl rfl rfl cd_Jx4a65c_get_915e3 ⟨by rw [hR]; exact Nat.le_of_ble_eq_true rfl, by rw [hR]; exact Nat.le_of_ble_eq_true rfl⟩) ga42 rfl rfl rfl hl.1 (Nat.le_of_ble_eq_true rfl) dX6_tellSpeeds_18 ⟨by rw [hR]; exact Nat.le_of_ble_eq_true rfl, by rw [hR]; exact Nat.le_of_ble_eq_true rfl⟩ rfl (fun r43 w44 H locs h45 hP hS => ?_)
        have hr43 := h45.1
        rw [h45.2] at hP
        have f46 := rep_sh Hh Hr hk
        have f47 := rep_fr Hh Hr hk
        rw [hr43, ge42, show va_rf (some (ad (elk 0) k)) = .ref (ad 3 k) from rfl]
        refine g_cast F hP (C := RX4) (T := TX4) (N := 5) f46 rfl (List.mem_cons_of_mem _ (List.mem_append_left _ (List.mem_append_left _ (List.mem_append_left _ (List.mem_append_left _ (List.mem_append_left _ (List.mem_append_left _ (List.mem_append_left _ (List.mem_append_left _ (List.mem_append_left _ (List.mem_of_getElem? (i := 1) rfl))))))))))) dX6_tellSpeeds_21 ?_
        refine lv_iload_n hx hb dX6_tellSpeeds_24 rfl (lv_at hl 0 rfl) ?_
        refine lv_aload_n hx hb dX6_tellSpeeds_25 rfl (lv_at hl 1 rfl) ?_
        refine g_get F hP (C := RX6) (T := TX6) (N := 6) iX6 hx0 rfl 4 (by decide) (List.mem_cons_of_mem _ (List.mem_append_left _ (List.mem_append_left _ (List.mem_append_left _ (List.mem_append_left _ (List.mem_append_left _ (List.mem_append_left _ (List.mem_append_left _ (List.mem_append_left _ (List.mem_append_left _ (List.mem_of_getElem? (i := 2) rfl))))))))))) (fun _ h9 => h9) rfl dX6_tellSpeeds_26 ?_
        refine lv_icmp_ne (tgt := 36) hx hb dX6_tellSpeeds_29 (by decide) (fun c48 => ?_) (fun c48 => ?_)
        · have yc48 : ¬ ((k : Int) = S 0 4) := fun q => c48 ((nI_eqi (by omega) (by omega) (by omega)).mpr q)
          refine lv_iconst (v := 0) hx hb dX6_tellSpeeds_36 (by decide) ?_
          refine lv_aload_n hx hb dX6_tellSpeeds_37 rfl (lv_at hl 1 rfl) ?_
          refine g_get F hP (C := RX6) (T := TX6) (N := 6) iX6 hx0 rfl 5 (by decide) (List.mem_cons_of_mem _ (List.mem_append_left _ (List.mem_append_left _ (List.mem_append_left _ (List.mem_append_left _ (List.mem_append_left _ (List.mem_append_left _ (List.mem_append_left _ (List.mem_append_left _ (List.mem_append_left _ (List.mem_of_getElem? (i := 3) rfl))))))))))) (fun _ h9 => h9) rfl dX6_tellSpeeds_38 ?_
          have e3 := iL_b (Hi.2.1 k hk).2.2.2.2
          rw [e3] at f46
          rw [show (.int 0 : Value) = .int (g_b false) from rfl]
          refine g_Vv (As := [.int (g_b false), .int (iL (S 0 5))]) (rest := []) F hP hS (k_X4_begin l A G w (ad 3 k) false (decide (S 3 k = 1)) (iL (S 0 5)) (iL (S 1 k)) (iL (S 2 k)) (iL ((mixA S T k) 2 k)) (ad 4 k) (zL ((mixA S T k) 0 k)) (zL ((mixA S T k) 1 k)) f46 f47) (cwV 2 hts gX6_tellSpeeds_X4_begin rfl rfl rfl cd_X4_begin ⟨by rw [hR]; exact Nat.le_of_ble_eq_true rfl, by rw [hR]; exact Nat.le_of_ble_eq_true rfl⟩) f46 rfl rfl rfl hl.1 (Nat.le_of_ble_eq_true rfl) dX6_tellSpeeds_41 ⟨by rw [hR]; exact Nat.le_of_ble_eq_true rfl, by rw [hR]; exact Nat.le_of_ble_eq_true rfl⟩ rfl (fun w50 H locs h51 hP hS => ?_)
          obtain ⟨C1, u1, H1, R1⟩ := begin_post Hh Hi Hr hu hk (isd := false) (hd := decide (S 3 k = 1)) (by simp [yc48]) rfl h51
          obtain ⟨i52, ei52⟩ : ∃ y : Int32, y = nI k + (1) := ⟨_, rfl⟩
          refine lv_iinc (v := i52) (lv' := [(1, .int i52), (0, .ref (ad 0 0))]) hx hb dX6_tellSpeeds_44 hl (k := 0) rfl (by rw [ei52]; rfl) (by decide) rfl (fun ls hl => ?_)
          obtain rfl : i52 = nI (k + 1) := by
            rw [ei52]
            exact nI_1 k
          refine lv_goto (tgt := 2) hx hb dX6_tellSpeeds_47 (by decide) ?_
          exact ih_L2 (k + 1) C1 w50 H locs ls (by omega) (by omega) (H1) (R1) (u1) hP hS (lv_sub hl [0, 1] rfl)
        · have yc48 : (k : Int) = S 0 4 := (nI_eqi (by omega) (by omega) (by omega)).mp c48
          refine lv_iconst (v := 1) hx hb dX6_tellSpeeds_32 (by decide) ?_
          refine lv_goto (tgt := 37) hx hb dX6_tellSpeeds_33 (by decide) ?_
          refine lv_aload_n hx hb dX6_tellSpeeds_37 rfl (lv_at hl 1 rfl) ?_
          refine g_get F hP (C := RX6) (T := TX6) (N := 6) iX6 hx0 rfl 5 (by decide) (List.mem_cons_of_mem _ (List.mem_append_left _ (List.mem_append_left _ (List.mem_append_left _ (List.mem_append_left _ (List.mem_append_left _ (List.mem_append_left _ (List.mem_append_left _ (List.mem_append_left _ (List.mem_append_left _ (List.mem_of_getElem? (i := 3) rfl))))))))))) (fun _ h9 => h9) rfl dX6_tellSpeeds_38 ?_
          have e3 := iL_b (Hi.2.1 k hk).2.2.2.2
          rw [e3] at f46
          rw [show (.int 1 : Value) = .int (g_b true) from rfl]
          refine g_Vv (As := [.int (g_b true), .int (iL (S 0 5))]) (rest := []) F hP hS (k_X4_begin l A G w (ad 3 k) true (decide (S 3 k = 1)) (iL (S 0 5)) (iL (S 1 k)) (iL (S 2 k)) (iL ((mixA S T k) 2 k)) (ad 4 k) (zL ((mixA S T k) 0 k)) (zL ((mixA S T k) 1 k)) f46 f47) (cwV 2 hts gX6_tellSpeeds_X4_begin rfl rfl rfl cd_X4_begin ⟨by rw [hR]; exact Nat.le_of_ble_eq_true rfl, by rw [hR]; exact Nat.le_of_ble_eq_true rfl⟩) f46 rfl rfl rfl hl.1 (Nat.le_of_ble_eq_true rfl) dX6_tellSpeeds_41 ⟨by rw [hR]; exact Nat.le_of_ble_eq_true rfl, by rw [hR]; exact Nat.le_of_ble_eq_true rfl⟩ rfl (fun w54 H locs h55 hP hS => ?_)
          obtain ⟨C1, u1, H1, R1⟩ := begin_post Hh Hi Hr hu hk (isd := true) (hd := decide (S 3 k = 1)) (by simp [yc48]) rfl h55
          obtain ⟨i56, ei56⟩ : ∃ y : Int32, y = nI k + (1) := ⟨_, rfl⟩
          refine lv_iinc (v := i56) (lv' := [(1, .int i56), (0, .ref (ad 0 0))]) hx hb dX6_tellSpeeds_44 hl (k := 0) rfl (by rw [ei56]; rfl) (by decide) rfl (fun ls hl => ?_)
          obtain rfl : i56 = nI (k + 1) := by
            rw [ei56]
            exact nI_1 k
          refine lv_goto (tgt := 2) hx hb dX6_tellSpeeds_47 (by decide) ?_
          exact ih_L2 (k + 1) C1 w54 H locs ls (by omega) (by omega) (H1) (R1) (u1) hP hS (lv_sub hl [0, 1] rfl)
  exact L2 ((S 0 0).toNat + 1) 0 Cn w H locs ls (by omega) (by omega) (Hh) (rep_A0 Hr) (hu) hP hS (lv_sub hl [0, 1] rfl)
