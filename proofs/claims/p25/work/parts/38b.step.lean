theorem cd_X5_tellsOrStepsAside : yX5_tellsOrStepsAside.cls = RX5 ∧ yX5_tellsOrStepsAside.cls ≠ "java/lang/invoke/MethodHandle" ∧ yX5_tellsOrStepsAside.cls ≠ "java/lang/invoke/VarHandle" ∧ (parseMethodDescriptor yX5_tellsOrStepsAside.desc).map (fun d => d.parameters.length) = some 0 := by decide +kernel
set_option maxHeartbeats 4000000 in
set_option maxRecDepth 100000 in
theorem k_X6_makeStep (l : Launch) (A : Nat → Prop) (G : g_C) (w : g_W) (ad : Nat → Nat → Nat) (Cn : Nat → Nat → Option va_E) (S T : Sg) (Hh : holds w ad Cn) (Hr : rep G S T ad Cn) (Hi : invS S) (Ht : invT S T) : mI l yX6_makeStep wsX6_makeStep ({ frames := 4, cells := 0, slots := 0, locals := 119 } : Room) [.ref (ad 0 0)] A G w (fun r w' => (step S T = none ∧ r = 0 ∧ w' = w) ∨ (r = 1 ∧ ∃ T' Cn', step S T = some T' ∧ upto ad Cn w w' Cn' ∧ rep G S T' ad Cn')) 0 0 := by
  refine g_ofI (cc := cX6_makeStep) (maxL := 2) (ret := (some .boolean)) (own := RX6) (by decide) rfl rfl (Nat.le_of_ble_eq_true rfl) ?_
  intro p e R s m args below meth c Q ls hR F hP hS hlocks hr hnm0 hQ hl
  obtain ⟨⟨hx, hb, hml, hown, hts⟩, hK, hZ, hA⟩ := id F
  generalize hH0 : s.heap = H at hP ⊢
  have hS : va_S A s.heap H [] := by rw [← hH0]; exact va_S.rf
  generalize ([] : List Loc) = locs at hS ⊢
  have hl : lv_has ls 2 [(0, .ref (ad 0 0))] := hl
  have iX2 : ∀ w ∈ u_ws RX2 TX2 3, w ∈ wsX6_makeStep := fun w h => List.mem_cons_of_mem _ (List.mem_append_left _ (List.mem_append_left _ (List.mem_append_left _ (List.mem_append_left _ (List.mem_append_left _ (List.mem_append_left _ (List.mem_append_right _ (h))))))))
  have iX3 : ∀ w ∈ u_ws RX3 TX3 2, w ∈ wsX6_makeStep := fun w h => List.mem_cons_of_mem _ (List.mem_append_left _ (List.mem_append_left _ (List.mem_append_left _ (List.mem_append_left _ (List.mem_append_left _ (List.mem_append_right _ (h)))))))
  have iX6 : ∀ w ∈ u_ws RX6 TX6 6, w ∈ wsX6_makeStep := fun w h => List.mem_cons_of_mem _ (List.mem_append_left _ (List.mem_append_left _ (List.mem_append_left _ (List.mem_append_left _ (List.mem_append_left _ (List.mem_append_left _ (List.mem_append_left _ (List.mem_append_right _ (h)))))))))
  have hx0 := rep_x Hh Hr
  obtain ⟨m2, a2, hz2⟩ := rep_size Hh Hr 2 (by decide)
  obtain ⟨m3, a3, hz3⟩ := rep_size Hh Hr 3 (by decide)
  have hi := Hi.1
  refine lv_iconst (v := 0) hx hb dX6_makeStep_0 (by decide) ?_
  refine lv_istore_n (lv' := [(1, .int 0), (0, .ref (ad 0 0))]) hx hb dX6_makeStep_1 rfl hl (by decide) rfl (fun ls hl => ?_)
  have L2 : ∀ (n : Nat) (k : Nat) (H : Heap) (locs : List Loc) (ls : Array Slot), (S 0 2).toNat + 1 ≤ k + n → ((k : Int) ≤ S 0 2) → (firstT S T 0 0 (S 0 2).toNat = firstT S T 0 k ((S 0 2).toNat - k)) → g_P A G w H → va_S A s.heap H locs → lv_has ls 2 [(1, .int (nI k)), (0, .ref (ad 0 0))] → W p l e R s m args below meth c H locs (0) (0) Q (F0 m 2 ls []) := by
    intro n
    induction n with
    | zero =>
      intro k H locs ls hfu hkN hf hP hS hl
      exact absurd hfu (by omega)
    | succ n ih_L2 =>
      intro k H locs ls hfu hkN hf hP hS hl
      refine lv_iload_n hx hb dX6_makeStep_2 rfl (lv_at hl 0 rfl) ?_
      refine lv_aload_n hx hb dX6_makeStep_3 rfl (lv_at hl 1 rfl) ?_
      refine g_get F hP (C := RX6) (T := TX6) (N := 6) iX6 hx0 rfl 2 (by decide) (List.mem_cons_of_mem _ (List.mem_append_left _ (List.mem_append_left _ (List.mem_append_left _ (List.mem_append_left _ (List.mem_append_left _ (List.mem_append_left _ (List.mem_append_left _ (List.mem_append_left _ (List.mem_append_left _ (List.mem_of_getElem? (i := 0) rfl))))))))))) (fun _ h9 => h9) rfl dX6_makeStep_4 ?_
      refine g_Vi (As := []) (rest := [.int (nI k)]) F hP hS (k_size l A G w (ad 1 2) a2 m2 (iL (S 0 2)) hz2) (cwV 0 hts gX6_makeStep_Jx4a65c_size_8abf5 rfl rfl rfl cd_Jx4a65c_size_8abf5 ⟨by rw [hR]; exact Nat.le_of_ble_eq_true rfl, by rw [hR]; exact Nat.le_of_ble_eq_true rfl⟩) hz2 rfl rfl rfl hl.1 (Nat.le_of_ble_eq_true rfl) dX6_makeStep_7 ⟨by rw [hR]; exact Nat.le_of_ble_eq_true rfl, by rw [hR]; exact Nat.le_of_ble_eq_true rfl⟩ rfl (fun r1 w2 H locs h3 hP hS => ?_)
      have hr1 := h3.1
      rw [h3.2] at hP
      rw [hr1]
      refine lv_icmp_ge (tgt := 41) hx hb dX6_makeStep_10 (by decide) (fun c4 => ?_) (fun c4 => ?_)
      · have zc4 : S 0 2 ≤ k := (iL_nle (by omega) (by omega) (by omega)).mp c4
        have hs := step_set (hf.trans (firstT_end (by omega)))
        refine lv_iconst (v := 0) hx hb dX6_makeStep_41 (by decide) ?_
        refine lv_istore_n (lv' := [(1, .int 0), (0, .ref (ad 0 0))]) hx hb dX6_makeStep_42 rfl hl (by decide) rfl (fun ls hl => ?_)
        have L43 : ∀ (n : Nat) (k : Nat) (H : Heap) (locs : List Loc) (ls : Array Slot), (S 0 3).toNat + 1 ≤ k + n → ((k : Int) ≤ S 0 3) → (firstT S T 1 0 (S 0 3).toNat = firstT S T 1 k ((S 0 3).toNat - k)) → g_P A G w H → va_S A s.heap H locs → lv_has ls 2 [(1, .int (nI k)), (0, .ref (ad 0 0))] → W p l e R s m args below meth c H locs (0) (0) Q (F0 m 43 ls []) := by
          intro n
          induction n with
          | zero =>
            intro k H locs ls hfu hkN hf hP hS hl
            exact absurd hfu (by omega)
          | succ n ih_L43 =>
            intro k H locs ls hfu hkN hf hP hS hl
            refine lv_iload_n hx hb dX6_makeStep_43 rfl (lv_at hl 0 rfl) ?_
            refine lv_aload_n hx hb dX6_makeStep_44 rfl (lv_at hl 1 rfl) ?_
            refine g_get F hP (C := RX6) (T := TX6) (N := 6) iX6 hx0 rfl 3 (by decide) (List.mem_cons_of_mem _ (List.mem_append_left _ (List.mem_append_left _ (List.mem_append_left _ (List.mem_append_left _ (List.mem_append_left _ (List.mem_append_left _ (List.mem_append_left _ (List.mem_append_left _ (List.mem_append_left _ (List.mem_of_getElem? (i := 3) rfl))))))))))) (fun _ h9 => h9) rfl dX6_makeStep_45 ?_
            refine g_Vi (As := []) (rest := [.int (nI k)]) F hP hS (k_size l A G w (ad 1 3) a3 m3 (iL (S 0 3)) hz3) (cwV 0 hts gX6_makeStep_Jx4a65c_size_8abf5 rfl rfl rfl cd_Jx4a65c_size_8abf5 ⟨by rw [hR]; exact Nat.le_of_ble_eq_true rfl, by rw [hR]; exact Nat.le_of_ble_eq_true rfl⟩) hz3 rfl rfl rfl hl.1 (Nat.le_of_ble_eq_true rfl) dX6_makeStep_48 ⟨by rw [hR]; exact Nat.le_of_ble_eq_true rfl, by rw [hR]; exact Nat.le_of_ble_eq_true rfl⟩ rfl (fun r5 w6 H locs h7 hP hS => ?_)
            have hr5 := h7.1
            rw [h7.2] at hP
            rw [hr5]
            refine lv_icmp_ge (tgt := 82) hx hb dX6_makeStep_51 (by decide) (fun c8 => ?_) (fun c8 => ?_)
            · have zc8 : S 0 3 ≤ k := (iL_nle (by omega) (by omega) (by omega)).mp c8
              refine lv_iconst (v := 0) hx hb dX6_makeStep_82 (by decide) ?_
              rw [hQ]
              refine g_zret F hP hS hlocks hr (by first | rfl | exact g_nb _) dX6_makeStep_83 (by first | exact Nat.le_of_ble_eq_true rfl | omega) (by first | exact Nat.le_of_ble_eq_true rfl | omega) ?_
              exact Or.inl ⟨hs.trans (hf.trans (firstT_end (by omega))), rfl, rfl⟩
            · have hk : (k : Int) < S 0 3 := Int.not_le.mp (fun q => c8 ((iL_nle (z := S 0 3) (k := k) (by omega) (by omega) (by omega)).mpr q))
              refine lv_aload_n hx hb dX6_makeStep_54 rfl (lv_at hl 1 rfl) ?_
              refine g_get F hP (C := RX6) (T := TX6) (N := 6) iX6 hx0 rfl 3 (by decide) (List.mem_cons_of_mem _ (List.mem_append_left _ (List.mem_append_left _ (List.mem_append_left _ (List.mem_append_left _ (List.mem_append_left _ (List.mem_append_left _ (List.mem_append_left _ (List.mem_append_left _ (List.mem_append_left _ (List.mem_of_getElem? (i := 3) rfl))))))))))) (fun _ h9 => h9) rfl dX6_makeStep_55 ?_
              refine lv_iload_n hx hb dX6_makeStep_58 rfl (lv_at hl 0 rfl) ?_
              obtain ⟨gm9, gc9, gf9, ga9, gb9, gk9, gn9, gd9, ge9⟩ := rep_get Hh Hr 3 (by decide) hk
              refine g_Vq (As := [.int (nI k)]) (rest := []) F hP hS (k_get l A G w (ad 1 3) (ad 2 3) (S 0 3).toNat gc9 gm9 gf9 k ga9 gb9 gk9 gn9 gd9) (cwV 1 hts gX6_makeStep_Jx4a65c_get_915e3 rfl rfl rfl cd_Jx4a65c_get_915e3 ⟨by rw [hR]; exact Nat.le_of_ble_eq_true rfl, by rw [hR]; exact Nat.le_of_ble_eq_true rfl⟩) ga9 rfl rfl rfl hl.1 (Nat.le_of_ble_eq_true rfl) dX6_makeStep_59 ⟨by rw [hR]; exact Nat.le_of_ble_eq_true rfl, by rw [hR]; exact Nat.le_of_ble_eq_true rfl⟩ rfl (fun r10 w11 H locs h12 hP hS => ?_)
              have hr10 := h12.1
              rw [h12.2] at hP
              have f13 := rep_pl Hh Hr hk
              rw [hr10, ge9, show va_rf (some (ad (elk 3) k)) = .ref (ad 11 k) from rfl]
              refine g_cast F hP (C := RX3) (T := TX3) (N := 2) f13 rfl (List.mem_cons_of_mem _ (List.mem_append_left _ (List.mem_append_left _ (List.mem_append_left _ (List.mem_append_left _ (List.mem_append_left _ (List.mem_append_left _ (List.mem_append_left _ (List.mem_append_left _ (List.mem_append_left _ (List.mem_of_getElem? (i := 4) rfl))))))))))) dX6_makeStep_62 ?_
              refine g_get F hP (C := RX3) (T := TX3) (N := 2) iX3 f13 rfl 1 (by decide) (List.mem_cons_of_mem _ (List.mem_append_left _ (List.mem_append_left _ (List.mem_append_left _ (List.mem_append_left _ (List.mem_append_left _ (List.mem_append_left _ (List.mem_append_left _ (List.mem_append_left _ (List.mem_append_left _ (List.mem_of_getElem? (i := 5) rfl))))))))))) (fun _ h9 => h9) rfl dX6_makeStep_65 ?_
              obtain ⟨ab, hab, TW⟩ := tieW_ofb Hh Hr Hi Ht (b := 1) (m := k) (by decide) hk
              have ft := TW.1
              refine g_Vi (As := []) (rest := []) F hP hS (k_X5_tellsOrStepsAside l A G w _ _ _ _ _ _ _ _ _ _ _ _ _ _ ab TW (tN_le _) (fun j _ => (tWt_le Hi (b := 1) (by decide) hk j).1) (fun pl hpl => tie_bd Hi Ht (b := 1) (by decide) hk hpl) (fun j _ => tie_sf Hh Hr Hi (b := 1) (by decide) hk j)) (cwV 0 hts gX6_makeStep_X5_tellsOrStepsAside rfl rfl rfl cd_X5_tellsOrStepsAside ⟨by rw [hR]; exact Nat.le_of_ble_eq_true rfl, by rw [hR]; exact Nat.le_of_ble_eq_true rfl⟩) ft rfl rfl rfl hl.1 (Nat.le_of_ble_eq_true rfl) dX6_makeStep_68 ⟨by rw [hR]; exact Nat.le_of_ble_eq_true rfl, by rw [hR]; exact Nat.le_of_ble_eq_true rfl⟩ rfl (fun r14 w15 H locs h16 hP hS => ?_)
              rcases tell_post Hh Hr Hi Ht (b := 1) (by decide) hk hab h16 with ⟨e1, er, ew⟩ | ⟨er, T1, D1, e1, e2, e3⟩
              · rw [er]
                rw [ew] at hP
                refine lv_if_eq (tgt := 76) hx hb dX6_makeStep_71 (by decide) (fun c17 => ?_) (fun c17 => ?_)
                · obtain ⟨i18, ei18⟩ : ∃ y : Int32, y = nI k + (1) := ⟨_, rfl⟩
                  refine lv_iinc (v := i18) (lv' := [(1, .int i18), (0, .ref (ad 0 0))]) hx hb dX6_makeStep_76 hl (k := 0) rfl (by rw [ei18]; rfl) (by decide) rfl (fun ls hl => ?_)
                  obtain rfl : i18 = nI (k + 1) := by
                    rw [ei18]
                    exact nI_1 k
                  refine lv_goto (tgt := 43) hx hb dX6_makeStep_79 (by decide) ?_
                  exact ih_L43 (k + 1)  H locs ls (by omega) (by omega) (hf.trans (firstT_none (by omega) e1)) hP hS (lv_sub hl [0, 1] rfl)
                · exact absurd (by decide) c17
              · rw [er]
                refine lv_if_eq (tgt := 76) hx hb dX6_makeStep_71 (by decide) (fun c19 => ?_) (fun c19 => ?_)
                · exact absurd c19 (by decide)
                · refine lv_iconst (v := 1) hx hb dX6_makeStep_74 (by decide) ?_
                  rw [hQ]
                  refine g_zret F hP hS hlocks hr (by first | rfl | exact g_nb _) dX6_makeStep_75 (by first | exact Nat.le_of_ble_eq_true rfl | omega) (by first | exact Nat.le_of_ble_eq_true rfl | omega) ?_
                  exact Or.inr ⟨rfl, T1, D1, hs.trans (hf.trans (firstT_some (by omega) e1)), e2, e3⟩
        exact L43 ((S 0 3).toNat + 1) 0  H locs ls (by omega) (by omega) (rfl) hP hS (lv_sub hl [0, 1] rfl)
      · have hk : (k : Int) < S 0 2 := Int.not_le.mp (fun q => c4 ((iL_nle (z := S 0 2) (k := k) (by omega) (by omega) (by omega)).mpr q))
        refine lv_aload_n hx hb dX6_makeStep_13 rfl (lv_at hl 1 rfl) ?_
        refine g_get F hP (C := RX6) (T := TX6) (N := 6) iX6 hx0 rfl 2 (by decide) (List.mem_cons_of_mem _ (List.mem_append_left _ (List.mem_append_left _ (List.mem_append_left _ (List.mem_append_left _ (List.mem_append_left _ (List.mem_append_left _ (List.mem_append_left _ (List.mem_append_left _ (List.mem_append_left _ (List.mem_of_getElem? (i := 0) rfl))))))))))) (fun _ h9 => h9) rfl dX6_makeStep_14 ?_
        refine lv_iload_n hx hb dX6_makeStep_17 rfl (lv_at hl 0 rfl) ?_
        obtain ⟨gm20, gc20, gf20, ga20, gb20, gk20, gn20, gd20, ge20⟩ := rep_get Hh Hr 2 (by decide) hk
        refine g_Vq (As := [.int (nI k)]) (rest := []) F hP hS (k_get l A G w (ad 1 2) (ad 2 2) (S 0 2).toNat gc20 gm20 gf20 k ga20 gb20 gk20 gn20 gd20) (cwV 1 hts gX6_makeStep_Jx4a65c_get_915e3 rfl rfl rfl cd_Jx4a65c_get_915e3 ⟨by rw [hR]; exact Nat.le_of_ble_eq_true rfl, by rw [hR]; exact Nat.le_of_ble_eq_true rfl⟩) ga20 rfl rfl rfl hl.1 (Nat.le_of_ble_eq_true rfl) dX6_makeStep_18 ⟨by rw [hR]; exact Nat.le_of_ble_eq_true rfl, by rw [hR]; exact Nat.le_of_ble_eq_true rfl⟩ rfl (fun r21 w22 H locs h23 hP hS => ?_)
        have hr21 := h23.1
        rw [h23.2] at hP
        have f24 := rep_me Hh Hr hk
        rw [hr21, ge20, show va_rf (some (ad (elk 2) k)) = .ref (ad 6 k) from rfl]
        refine g_cast F hP (C := RX2) (T := TX2) (N := 3) f24 rfl (List.mem_cons_of_mem _ (List.mem_append_left _ (List.mem_append_left _ (List.mem_append_left _ (List.mem_append_left _ (List.mem_append_left _ (List.mem_append_left _ (List.mem_append_left _ (List.mem_append_left _ (List.mem_append_left _ (List.mem_of_getElem? (i := 1) rfl))))))))))) dX6_makeStep_21 ?_
        refine g_get F hP (C := RX2) (T := TX2) (N := 3) iX2 f24 rfl 2 (by decide) (List.mem_cons_of_mem _ (List.mem_append_left _ (List.mem_append_left _ (List.mem_append_left _ (List.mem_append_left _ (List.mem_append_left _ (List.mem_append_left _ (List.mem_append_left _ (List.mem_append_left _ (List.mem_append_left _ (List.mem_of_getElem? (i := 2) rfl))))))))))) (fun _ h9 => h9) rfl dX6_makeStep_24 ?_
        obtain ⟨ab, hab, TW⟩ := tieW_ofb Hh Hr Hi Ht (b := 0) (m := k) (by decide) hk
        have ft := TW.1
        refine g_Vi (As := []) (rest := []) F hP hS (k_X5_tellsOrStepsAside l A G w _ _ _ _ _ _ _ _ _ _ _ _ _ _ ab TW (tN_le _) (fun j _ => (tWt_le Hi (b := 0) (by decide) hk j).1) (fun pl hpl => tie_bd Hi Ht (b := 0) (by decide) hk hpl) (fun j _ => tie_sf Hh Hr Hi (b := 0) (by decide) hk j)) (cwV 0 hts gX6_makeStep_X5_tellsOrStepsAside rfl rfl rfl cd_X5_tellsOrStepsAside ⟨by rw [hR]; exact Nat.le_of_ble_eq_true rfl, by rw [hR]; exact Nat.le_of_ble_eq_true rfl⟩) ft rfl rfl rfl hl.1 (Nat.le_of_ble_eq_true rfl) dX6_makeStep_27 ⟨by rw [hR]; exact Nat.le_of_ble_eq_true rfl, by rw [hR]; exact Nat.le_of_ble_eq_true rfl⟩ rfl (fun r25 w26 H locs h27 hP hS => ?_)
        rcases tell_post Hh Hr Hi Ht (b := 0) (by decide) hk hab h27 with ⟨e1, er, ew⟩ | ⟨er, T1, D1, e1, e2, e3⟩
        · rw [er]
          rw [ew] at hP
          refine lv_if_eq (tgt := 35) hx hb dX6_makeStep_30 (by decide) (fun c28 => ?_) (fun c28 => ?_)
          · obtain ⟨i29, ei29⟩ : ∃ y : Int32, y = nI k + (1) := ⟨_, rfl⟩
            refine lv_iinc (v := i29) (lv' := [(1, .int i29), (0, .ref (ad 0 0))]) hx hb dX6_makeStep_35 hl (k := 0) rfl (by rw [ei29]; rfl) (by decide) rfl (fun ls hl => ?_)
            obtain rfl : i29 = nI (k + 1) := by
              rw [ei29]
              exact nI_1 k
            refine lv_goto (tgt := 2) hx hb dX6_makeStep_38 (by decide) ?_
            exact ih_L2 (k + 1)  H locs ls (by omega) (by omega) (hf.trans (firstT_none (by omega) e1)) hP hS (lv_sub hl [0, 1] rfl)
          · exact absurd (by decide) c28
        · rw [er]
          refine lv_if_eq (tgt := 35) hx hb dX6_makeStep_30 (by decide) (fun c30 => ?_) (fun c30 => ?_)
          · exact absurd c30 (by decide)
          · refine lv_iconst (v := 1) hx hb dX6_makeStep_33 (by decide) ?_
            rw [hQ]
            refine g_zret F hP hS hlocks hr (by first | rfl | exact g_nb _) dX6_makeStep_34 (by first | exact Nat.le_of_ble_eq_true rfl | omega) (by first | exact Nat.le_of_ble_eq_true rfl | omega) ?_
            exact Or.inr ⟨rfl, T1, D1, step_mesh (hf.trans (firstT_some (by omega) e1)), e2, e3⟩
  exact L2 ((S 0 2).toNat + 1) 0  H locs ls (by omega) (by omega) (rfl) hP hS (lv_sub hl [0, 1] rfl)
