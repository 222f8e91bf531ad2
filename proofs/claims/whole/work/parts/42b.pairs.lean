theorem cd_X6_doCollide : yX6_doCollide.cls = RX6 ∧ yX6_doCollide.cls ≠ "java/lang/invoke/MethodHandle" ∧ yX6_doCollide.cls ≠ "java/lang/invoke/VarHandle" ∧ (parseMethodDescriptor yX6_doCollide.desc).map (fun d => d.parameters.length) = some 2 := by decide +kernel
set_option maxHeartbeats 4000000 in
set_option maxRecDepth 100000 in
theorem k_X6_collisions (l : Launch) (A : Nat → Prop) (G : g_C) (w : g_W) (ad : Nat → Nat → Nat) (Cn : Nat → Nat → Option va_E) (S T : Sg) (Hh : holds w ad Cn) (Hr : rep G S T ad Cn) (Hi : invS S) : mI l yX6_collisions wsX6_collisions ({ frames := 5, cells := 0, slots := 0, locals := 109 } : Room) [.ref (ad 0 0)] A G w (fun r w' => r = vlColl S ∧ w' = w) 0 0 := by
  refine g_ofI (cc := cX6_collisions) (maxL := 4) (ret := (some .int)) (own := RX6) (by decide) rfl rfl (Nat.le_of_ble_eq_true rfl) ?_
  intro p e R s m args below meth c Q ls hR F hP hS hlocks hr hnm0 hQ hl
  obtain ⟨⟨hx, hb, hml, hown, hts⟩, hK, hZ, hA⟩ := id F
  generalize hH0 : s.heap = H at hP ⊢
  have hS : va_S A s.heap H [] := by rw [← hH0]; exact va_S.rf
  generalize ([] : List Loc) = locs at hS ⊢
  have hl : lv_has ls 4 [(0, .ref (ad 0 0))] := hl
  have iX6 : ∀ w ∈ u_ws RX6 TX6 6, w ∈ wsX6_collisions := fun w h => List.mem_cons_of_mem _ (List.mem_append_left _ (List.mem_append_left _ (List.mem_append_left _ (List.mem_append_left _ (List.mem_append_right _ (h))))))
  have hx0 := rep_x Hh Hr
  obtain ⟨m1, a1, hz1⟩ := rep_size Hh Hr 1 (by decide)
  have hi := Hi.1
  refine lv_iconst (v := 0) hx hb dX6_collisions_0 (by decide) ?_
  refine lv_istore_n (lv' := [(1, .int 0), (0, .ref (ad 0 0))]) hx hb dX6_collisions_1 rfl hl (by decide) rfl (fun ls hl => ?_)
  refine lv_iconst (v := 0) hx hb dX6_collisions_2 (by decide) ?_
  refine lv_istore_n (lv' := [(2, .int 0), (1, .int 0), (0, .ref (ad 0 0))]) hx hb dX6_collisions_3 rfl hl (by decide) rfl (fun ls hl => ?_)
  have L4 : ∀ (n : Nat) (k : Nat) (H : Heap) (locs : List Loc) (ls : Array Slot), (S 0 1).toNat + 1 ≤ k + n → ((k : Int) ≤ S 0 1) → g_P A G w H → va_S A s.heap H locs → lv_has ls 4 [(2, .int (nI k)), (1, .int (iL (sumC (collB S) (S 0 1).toNat k))), (0, .ref (ad 0 0))] → W p l e R s m args below meth c H locs (0) (0) Q (F0 m 4 ls []) := by
    intro n
    induction n with
    | zero =>
      intro k H locs ls hfu hkN hP hS hl
      exact absurd hfu (by omega)
    | succ n ih_L4 =>
      intro k H locs ls hfu hkN hP hS hl
      refine lv_iload_n hx hb dX6_collisions_4 rfl (lv_at hl 0 rfl) ?_
      refine lv_aload_n hx hb dX6_collisions_5 rfl (lv_at hl 2 rfl) ?_
      refine g_get F hP (C := RX6) (T := TX6) (N := 6) iX6 hx0 rfl 1 (by decide) (List.mem_cons_of_mem _ (List.mem_append_left _ (List.mem_append_left _ (List.mem_append_left _ (List.mem_append_left _ (List.mem_append_left _ (List.mem_append_left _ (List.mem_of_getElem? (i := 0) rfl)))))))) (fun _ h9 => h9) rfl dX6_collisions_6 ?_
      refine g_Vi (As := []) (rest := [.int (nI k)]) F hP hS (k_size l A G w (ad 1 1) a1 m1 (iL (S 0 1)) hz1) (cwV 0 hts gX6_collisions_Jx4a65c_size_8abf5 rfl rfl rfl cd_Jx4a65c_size_8abf5 ⟨by rw [hR]; exact Nat.le_of_ble_eq_true rfl, by rw [hR]; exact Nat.le_of_ble_eq_true rfl⟩) hz1 rfl rfl rfl hl.1 (Nat.le_of_ble_eq_true rfl) dX6_collisions_9 ⟨by rw [hR]; exact Nat.le_of_ble_eq_true rfl, by rw [hR]; exact Nat.le_of_ble_eq_true rfl⟩ rfl (fun r1 w2 H locs h3 hP hS => ?_)
      have hr1 := h3.1
      rw [h3.2] at hP
      rw [hr1]
      refine lv_icmp_ge (tgt := 79) hx hb dX6_collisions_12 (by decide) (fun c4 => ?_) (fun c4 => ?_)
      · have zc4 : S 0 1 ≤ k := (iL_nle (by omega) (by omega) (by omega)).mp c4
        refine lv_iload_n hx hb dX6_collisions_79 rfl (lv_at hl 1 rfl) ?_
        rw [hQ]
        refine g_iret F hP hS hlocks hr dX6_collisions_80 (by first | exact Nat.le_of_ble_eq_true rfl | omega) (by first | exact Nat.le_of_ble_eq_true rfl | omega) ?_
        exact ⟨by unfold vlColl; rw [show (S 0 1).toNat = k from by omega], rfl⟩
      · have hk : (k : Int) < S 0 1 := Int.not_le.mp (fun q => c4 ((iL_nle (z := S 0 1) (k := k) (by omega) (by omega) (by omega)).mpr q))
        refine lv_iload_n hx hb dX6_collisions_15 rfl (lv_at hl 0 rfl) ?_
        refine lv_iconst (v := 1) hx hb dX6_collisions_16 (by decide) ?_
        refine lv_iadd hx hb dX6_collisions_17 ?_
        refine lv_topi (fun v5 ev5 => ?_)
        obtain rfl : v5 = nI (k + 1) := by
          rw [ev5]
          exact nI_1 k
        have e0 : sumC (collB S) (S 0 1).toNat k = sumC (collB S) (S 0 1).toNat k + cntR (collB S) k (k + 1) := by rw [cntR_0 _ _ (Nat.le_refl _)]; omega
        rw [e0] at hl
        refine lv_istore_n (lv' := [(3, .int (nI (k + 1))), (2, .int (nI k)), (1, .int (iL (sumC (collB S) (S 0 1).toNat k + cntR (collB S) k (k + 1)))), (0, .ref (ad 0 0))]) hx hb dX6_collisions_18 rfl hl (by decide) rfl (fun ls hl => ?_)
        have L19 : ∀ (n : Nat) (j : Nat) (H : Heap) (locs : List Loc) (ls : Array Slot), (S 0 1).toNat + 1 ≤ j + n → (k < j ∧ (j : Int) ≤ S 0 1) → g_P A G w H → va_S A s.heap H locs → lv_has ls 4 [(3, .int (nI j)), (2, .int (nI k)), (1, .int (iL (sumC (collB S) (S 0 1).toNat k + cntR (collB S) k j))), (0, .ref (ad 0 0))] → W p l e R s m args below meth c H locs (0) (0) Q (F0 m 19 ls []) := by
          intro n
          induction n with
          | zero =>
            intro j H locs ls hfu hjN hP hS hl
            exact absurd hfu (by omega)
          | succ n ih_L19 =>
            intro j H locs ls hfu hjN hP hS hl
            refine lv_iload_n hx hb dX6_collisions_19 rfl (lv_at hl 0 rfl) ?_
            refine lv_aload_n hx hb dX6_collisions_20 rfl (lv_at hl 3 rfl) ?_
            refine g_get F hP (C := RX6) (T := TX6) (N := 6) iX6 hx0 rfl 1 (by decide) (List.mem_cons_of_mem _ (List.mem_append_left _ (List.mem_append_left _ (List.mem_append_left _ (List.mem_append_left _ (List.mem_append_left _ (List.mem_append_left _ (List.mem_of_getElem? (i := 0) rfl)))))))) (fun _ h9 => h9) rfl dX6_collisions_21 ?_
            refine g_Vi (As := []) (rest := [.int (nI j)]) F hP hS (k_size l A G w (ad 1 1) a1 m1 (iL (S 0 1)) hz1) (cwV 0 hts gX6_collisions_Jx4a65c_size_8abf5 rfl rfl rfl cd_Jx4a65c_size_8abf5 ⟨by rw [hR]; exact Nat.le_of_ble_eq_true rfl, by rw [hR]; exact Nat.le_of_ble_eq_true rfl⟩) hz1 rfl rfl rfl hl.1 (Nat.le_of_ble_eq_true rfl) dX6_collisions_24 ⟨by rw [hR]; exact Nat.le_of_ble_eq_true rfl, by rw [hR]; exact Nat.le_of_ble_eq_true rfl⟩ rfl (fun r6 w7 H locs h8 hP hS => ?_)
            have hr6 := h8.1
            rw [h8.2] at hP
            rw [hr6]
            refine lv_icmp_ge (tgt := 73) hx hb dX6_collisions_27 (by decide) (fun c9 => ?_) (fun c9 => ?_)
            · have zc9 : S 0 1 ≤ j := (iL_nle (by omega) (by omega) (by omega)).mp c9
              have ej : sumC (collB S) (S 0 1).toNat (k + 1) = sumC (collB S) (S 0 1).toNat k + cntR (collB S) k j := by rw [show j = (S 0 1).toNat from by omega]; rfl
              rw [← ej] at hl
              obtain ⟨i10, ei10⟩ : ∃ y : Int32, y = nI k + (1) := ⟨_, rfl⟩
              refine lv_iinc (v := i10) (lv' := [(2, .int i10), (3, .int (nI j)), (1, .int (iL (sumC (collB S) (S 0 1).toNat (k + 1)))), (0, .ref (ad 0 0))]) hx hb dX6_collisions_73 hl (k := 1) rfl (by rw [ei10]; rfl) (by decide) rfl (fun ls hl => ?_)
              obtain rfl : i10 = nI (k + 1) := by
                rw [ei10]
                exact nI_1 k
              refine lv_goto (tgt := 4) hx hb dX6_collisions_76 (by decide) ?_
              exact ih_L4 (k + 1)  H locs ls (by omega) (by omega) hP hS (lv_sub hl [0, 2, 3] rfl)
            · have hj : (j : Int) < S 0 1 := Int.not_le.mp (fun q => c9 ((iL_nle (z := S 0 1) (k := j) (by omega) (by omega) (by omega)).mpr q))
              refine lv_iload_n hx hb dX6_collisions_30 rfl (lv_at hl 2 rfl) ?_
              refine lv_aload_n hx hb dX6_collisions_31 rfl (lv_at hl 3 rfl) ?_
              refine lv_aload_n hx hb dX6_collisions_32 rfl (lv_at hl 3 rfl) ?_
              refine g_get F hP (C := RX6) (T := TX6) (N := 6) iX6 hx0 rfl 1 (by decide) (List.mem_cons_of_mem _ (List.mem_append_left _ (List.mem_append_left _ (List.mem_append_left _ (List.mem_append_left _ (List.mem_append_left _ (List.mem_append_left _ (List.mem_of_getElem? (i := 0) rfl)))))))) (fun _ h9 => h9) rfl dX6_collisions_33 ?_
              refine lv_iload_n hx hb dX6_collisions_36 rfl (lv_at hl 1 rfl) ?_
              obtain ⟨gm11, gc11, gf11, ga11, gb11, gk11, gn11, gd11, ge11⟩ := rep_get Hh Hr 1 (by decide) hk
              refine g_Vq (As := [.int (nI k)]) (rest := [.ref (ad 0 0), .int (iL (sumC (collB S) (S 0 1).toNat k + cntR (collB S) k j))]) F hP hS (k_get l A G w (ad 1 1) (ad 2 1) (S 0 1).toNat gc11 gm11 gf11 k ga11 gb11 gk11 gn11 gd11) (cwV 1 hts gX6_collisions_Jx4a65c_get_915e3 rfl rfl rfl cd_Jx4a65c_get_915e3 ⟨by rw [hR]; exact Nat.le_of_ble_eq_true rfl, by rw [hR]; exact Nat.le_of_ble_eq_true rfl⟩) ga11 rfl rfl rfl hl.1 (Nat.le_of_ble_eq_true rfl) dX6_collisions_37 ⟨by rw [hR]; exact Nat.le_of_ble_eq_true rfl, by rw [hR]; exact Nat.le_of_ble_eq_true rfl⟩ rfl (fun r12 w13 H locs h14 hP hS => ?_)
              have hr12 := h14.1
              rw [h14.2] at hP
              have f15 := rep_ge Hh Hr hk
              rw [hr12, ge11, show va_rf (some (ad (elk 1) k)) = .ref (ad 5 k) from rfl]
              refine g_cast F hP (C := RX1) (T := TX1) (N := 5) f15 rfl (List.mem_cons_of_mem _ (List.mem_append_left _ (List.mem_append_left _ (List.mem_append_left _ (List.mem_append_left _ (List.mem_append_left _ (List.mem_append_left _ (List.mem_of_getElem? (i := 1) rfl)))))))) dX6_collisions_40 ?_
              refine lv_aload_n hx hb dX6_collisions_43 rfl (lv_at hl 3 rfl) ?_
              refine g_get F hP (C := RX6) (T := TX6) (N := 6) iX6 hx0 rfl 1 (by decide) (List.mem_cons_of_mem _ (List.mem_append_left _ (List.mem_append_left _ (List.mem_append_left _ (List.mem_append_left _ (List.mem_append_left _ (List.mem_append_left _ (List.mem_of_getElem? (i := 0) rfl)))))))) (fun _ h9 => h9) rfl dX6_collisions_44 ?_
              refine lv_iload_n hx hb dX6_collisions_47 rfl (lv_at hl 0 rfl) ?_
              obtain ⟨gm16, gc16, gf16, ga16, gb16, gk16, gn16, gd16, ge16⟩ := rep_get Hh Hr 1 (by decide) hj
              refine g_Vq (As := [.int (nI j)]) (rest := [.ref (ad 5 k), .ref (ad 0 0), .int (iL (sumC (collB S) (S 0 1).toNat k + cntR (collB S) k j))]) F hP hS (k_get l A G w (ad 1 1) (ad 2 1) (S 0 1).toNat gc16 gm16 gf16 j ga16 gb16 gk16 gn16 gd16) (cwV 1 hts gX6_collisions_Jx4a65c_get_915e3 rfl rfl rfl cd_Jx4a65c_get_915e3 ⟨by rw [hR]; exact Nat.le_of_ble_eq_true rfl, by rw [hR]; exact Nat.le_of_ble_eq_true rfl⟩) ga16 rfl rfl rfl hl.1 (Nat.le_of_ble_eq_true rfl) dX6_collisions_48 ⟨by rw [hR]; exact Nat.le_of_ble_eq_true rfl, by rw [hR]; exact Nat.le_of_ble_eq_true rfl⟩ rfl (fun r17 w18 H locs h19 hP hS => ?_)
              have hr17 := h19.1
              rw [h19.2] at hP
              have f20 := rep_ge Hh Hr hj
              rw [hr17, ge16, show va_rf (some (ad (elk 1) j)) = .ref (ad 5 j) from rfl]
              refine g_cast F hP (C := RX1) (T := TX1) (N := 5) f20 rfl (List.mem_cons_of_mem _ (List.mem_append_left _ (List.mem_append_left _ (List.mem_append_left _ (List.mem_append_left _ (List.mem_append_left _ (List.mem_append_left _ (List.mem_of_getElem? (i := 1) rfl)))))))) dX6_collisions_51 ?_
              refine g_Vi (As := [.ref (ad 5 k), .ref (ad 5 j)]) (rest := [.int (iL (sumC (collB S) (S 0 1).toNat k + cntR (collB S) k j))]) F hP hS (k_X6_doCollide l A G w ad Cn S T k j Hh Hr Hi hk hj) (cwV 2 hts gX6_collisions_X6_doCollide rfl rfl rfl cd_X6_doCollide ⟨by rw [hR]; exact Nat.le_of_ble_eq_true rfl, by rw [hR]; exact Nat.le_of_ble_eq_true rfl⟩) hx0 rfl rfl rfl hl.1 (Nat.le_of_ble_eq_true rfl) dX6_collisions_54 ⟨by rw [hR]; exact Nat.le_of_ble_eq_true rfl, by rw [hR]; exact Nat.le_of_ble_eq_true rfl⟩ rfl (fun r21 w22 H locs h23 hP hS => ?_)
              have hr21 := h23.1
              rw [h23.2] at hP
              rw [hr21]
              refine lv_if_eq (tgt := 64) hx hb dX6_collisions_57 (by decide) (fun c24 => ?_) (fun c24 => ?_)
              · have yc24 : collB S k j = false := g_b0.mp c24
                refine lv_iconst (v := 0) hx hb dX6_collisions_64 (by decide) ?_
                refine lv_iadd hx hb dX6_collisions_65 ?_
                refine lv_topi (fun v25 ev25 => ?_)
                obtain rfl : v25 = iL (sumC (collB S) (S 0 1).toNat k + cntR (collB S) k (j + 1)) := by
                  rw [ev25]
                  rw [cntR_s _ (by omega), yc24]
                  rw [show (0 : Int32) = iL 0 from rfl, iL_add]
                  rw [Int.add_assoc]
                  rfl
                refine lv_istore_n (lv' := [(1, .int (iL (sumC (collB S) (S 0 1).toNat k + cntR (collB S) k (j + 1)))), (3, .int (nI j)), (2, .int (nI k)), (0, .ref (ad 0 0))]) hx hb dX6_collisions_66 rfl hl (by decide) rfl (fun ls hl => ?_)
                obtain ⟨i26, ei26⟩ : ∃ y : Int32, y = nI j + (1) := ⟨_, rfl⟩
                refine lv_iinc (v := i26) (lv' := [(3, .int i26), (1, .int (iL (sumC (collB S) (S 0 1).toNat k + cntR (collB S) k (j + 1)))), (2, .int (nI k)), (0, .ref (ad 0 0))]) hx hb dX6_collisions_67 hl (k := 1) rfl (by rw [ei26]; rfl) (by decide) rfl (fun ls hl => ?_)
                obtain rfl : i26 = nI (j + 1) := by
                  rw [ei26]
                  exact nI_1 j
                refine lv_goto (tgt := 19) hx hb dX6_collisions_70 (by decide) ?_
                exact ih_L19 (j + 1)  H locs ls (by omega) (by omega) hP hS (lv_sub hl [0, 2, 1, 3] rfl)
              · have yc24 : collB S k j = true := g_b1.mp c24
                refine lv_iconst (v := 1) hx hb dX6_collisions_60 (by decide) ?_
                refine lv_goto (tgt := 65) hx hb dX6_collisions_61 (by decide) ?_
                refine lv_iadd hx hb dX6_collisions_65 ?_
                refine lv_topi (fun v27 ev27 => ?_)
                obtain rfl : v27 = iL (sumC (collB S) (S 0 1).toNat k + cntR (collB S) k (j + 1)) := by
                  rw [ev27]
                  rw [cntR_s _ (by omega), yc24]
                  rw [show (1 : Int32) = iL 1 from rfl, iL_add]
                  rw [Int.add_assoc]
                  rfl
                refine lv_istore_n (lv' := [(1, .int (iL (sumC (collB S) (S 0 1).toNat k + cntR (collB S) k (j + 1)))), (3, .int (nI j)), (2, .int (nI k)), (0, .ref (ad 0 0))]) hx hb dX6_collisions_66 rfl hl (by decide) rfl (fun ls hl => ?_)
                obtain ⟨i28, ei28⟩ : ∃ y : Int32, y = nI j + (1) := ⟨_, rfl⟩
                refine lv_iinc (v := i28) (lv' := [(3, .int i28), (1, .int (iL (sumC (collB S) (S 0 1).toNat k + cntR (collB S) k (j + 1)))), (2, .int (nI k)), (0, .ref (ad 0 0))]) hx hb dX6_collisions_67 hl (k := 1) rfl (by rw [ei28]; rfl) (by decide) rfl (fun ls hl => ?_)
                obtain rfl : i28 = nI (j + 1) := by
                  rw [ei28]
                  exact nI_1 j
                refine lv_goto (tgt := 19) hx hb dX6_collisions_70 (by decide) ?_
                exact ih_L19 (j + 1)  H locs ls (by omega) (by omega) hP hS (lv_sub hl [0, 2, 1, 3] rfl)
        exact L19 ((S 0 1).toNat + 1) (k + 1)  H locs ls (by omega) (by omega) hP hS (lv_sub hl [0, 1, 2, 3] rfl)
  exact L4 ((S 0 1).toNat + 1) 0  H locs ls (by omega) (by omega) hP hS (lv_sub hl [0, 1, 2] rfl)
