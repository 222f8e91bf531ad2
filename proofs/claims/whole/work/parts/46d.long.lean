theorem cd_X6_requireTurning : yX6_requireTurning.cls = RX6 ∧ yX6_requireTurning.cls ≠ "java/lang/invoke/MethodHandle" ∧ yX6_requireTurning.cls ≠ "java/lang/invoke/VarHandle" ∧ (parseMethodDescriptor yX6_requireTurning.desc).map (fun d => d.parameters.length) = some 1 := by decide +kernel
set_option maxHeartbeats 4000000 in
set_option maxRecDepth 100000 in
theorem k_X6_torque (l : Launch) (hlt : l.stackTraces = false) (A : Nat → Prop) (G : g_C) (w : g_W) (ad : Nat → Nat → Nat) (Cn : Nat → Nat → Option va_E) (S T : Sg) (pn qn : Int32) (Hh : holds w ad Cn) (Hr : rep G S T ad Cn) (Hi : invS S) (Ht : invT S T) : xL l yX6_torque wsX6_torque ({ frames := 8, cells := 3, slots := 24, locals := 132 } : Room) [.ref (ad 0 0), .int pn, .int qn] A G w (fun r w' => cdTorque S T pn qn = 0 ∧ r = vlTorque S T pn qn ∧ w' = w) (fun u => u.2 = w ∧ ((u.1 = "java/lang/IndexOutOfBoundsException" ∧ cdTorque S T pn qn = 1) ∨ (u.1 = "java/lang/IllegalArgumentException" ∧ cdTorque S T pn qn = 2) ∨ (u.1 = "java/lang/IllegalStateException" ∧ cdTorque S T pn qn = 3))) 3 24 := by
  refine g_xofL (cc := cX6_torque) (maxL := 7) (ret := (some .long)) (own := RX6) (by decide) rfl rfl (Nat.le_of_ble_eq_true rfl) ?_
  intro p e R s m args below meth c Q ls hR F hP hS hlocks hr hout hQ hl
  obtain ⟨⟨hx, hb, hml, hown, hts⟩, hK, hZ, hA⟩ := id F
  generalize hH0 : s.heap = H at hP ⊢
  have hS : va_S A s.heap H [] := by rw [← hH0]; exact va_S.rf
  generalize ([] : List Loc) = locs at hS ⊢
  have hl : lv_has ls 7 [(0, .ref (ad 0 0)), (1, .int pn), (2, .int qn)] := hl
  have iX0 : ∀ w ∈ u_ws RX0 TX0 2, w ∈ wsX6_torque := fun w h => List.mem_cons_of_mem _ (List.mem_append_left _ (List.mem_append_left _ (List.mem_append_left _ (List.mem_append_left _ (List.mem_append_right _ (h))))))
  have iX4 : ∀ w ∈ u_ws RX4 TX4 5, w ∈ wsX6_torque := fun w h => List.mem_cons_of_mem _ (List.mem_append_left _ (List.mem_append_left _ (List.mem_append_left _ (List.mem_append_left _ (List.mem_append_left _ (List.mem_append_right _ (h)))))))
  have iX6 : ∀ w ∈ u_ws RX6 TX6 6, w ∈ wsX6_torque := fun w h => List.mem_cons_of_mem _ (List.mem_append_left _ (List.mem_append_left _ (List.mem_append_left _ (List.mem_append_left _ (List.mem_append_left _ (List.mem_append_left _ (List.mem_append_right _ (h))))))))
  have hx0 := rep_x Hh Hr
  obtain ⟨m0, a0, hz0⟩ := rep_size Hh Hr 0 (by decide)
  have hi := Hi.1
  refine lv_aload_n hx hb dX6_torque_0 rfl (lv_at hl 0 rfl) ?_
  refine lv_iload_n hx hb dX6_torque_1 rfl (lv_at hl 1 rfl) ?_
  rw [hQ]
  refine g_xVv (As := [.int pn]) (rest := []) F hP hS (k_X6_requireShaft l hlt A G w ad Cn S T pn Hh Hr Hi) (cwV 1 hts gX6_torque_X6_requireShaft rfl rfl rfl cd_X6_requireShaft ⟨by rw [hR]; exact Nat.le_of_ble_eq_true rfl, by rw [hR]; exact Nat.le_of_ble_eq_true rfl⟩) hx0 rfl rfl rfl hl.1 (Nat.le_of_ble_eq_true rfl) dX6_torque_2 ⟨by rw [hR]; exact Nat.le_of_ble_eq_true rfl, by rw [hR]; exact Nat.le_of_ble_eq_true rfl⟩ rfl hout hlocks (by decide) (by decide) (fun u h => by obtain ⟨h1, h2⟩ := h; subst h1; exact ⟨rfl, Or.inl ⟨rfl, (if_neg h2)⟩⟩) (fun w2 H locs h3 hP hS => ?_)
  rw [← hQ]
  rw [h3.2] at hP
  have sk := h3.1
  obtain ⟨k, hk, ek⟩ := ix_of sk.1 sk.2
  subst ek
  have nk : kN (nI k) = k := kN_n (by omega)
  refine lv_iload_n hx hb dX6_torque_5 rfl (lv_at hl 2 rfl) ?_
  refine lv_iconst (v := 1) hx hb dX6_torque_6 (by decide) ?_
  refine lv_sipush (v := 10000) hx hb dX6_torque_7 (by decide) ?_
  refine g_Si (As := [.int qn, .int 1, .int 10000]) (rest := []) F hP hS (k_X6_isWithin l A G w qn 1 10000) (va_cwS 3 hts gX6_torque_X6_isWithin rfl rfl rfl cd_X6_isWithin ⟨by rw [hR]; exact Nat.le_of_ble_eq_true rfl, by rw [hR]; exact Nat.le_of_ble_eq_true rfl⟩) rfl hl.1 (Nat.le_of_ble_eq_true rfl) dX6_torque_10 ⟨by rw [hR]; exact Nat.le_of_ble_eq_true rfl, by rw [hR]; exact Nat.le_of_ble_eq_true rfl⟩ rfl (fun r4 w5 H locs h6 hP hS => ?_)
  have hr4 := h6.1
  rw [h6.2] at hP
  rw [hr4]
  refine lv_if_ne (tgt := 26) hx hb dX6_torque_13 (by decide) (fun c7 => ?_) (fun c7 => ?_)
  · have yc7 := of_decide_eq_true (g_b1.mp c7)
    have k3 : (1 ≤ qn ∧ qn ≤ 10000) ↔ inQ qn 1 10000 := by rw [Int32.le_iff_toInt_le, Int32.le_iff_toInt_le]; exact Iff.rfl
    rw [k3] at yc7
    refine lv_aload_n hx hb dX6_torque_26 rfl (lv_at hl 0 rfl) ?_
    refine g_get F hP (C := RX6) (T := TX6) (N := 6) iX6 hx0 rfl 4 (by decide) (List.mem_cons_of_mem _ (List.mem_append_left _ (List.mem_append_left _ (List.mem_append_left _ (List.mem_append_left _ (List.mem_append_left _ (List.mem_append_left _ (List.mem_append_left _ (List.mem_append_left _ (List.mem_of_getElem? (i := 4) rfl)))))))))) (fun _ h9 => h9) rfl dX6_torque_27 ?_
    refine lv_iconst (v := (-1)) hx hb dX6_torque_30 (by decide) ?_
    refine lv_icmp_ne (tgt := 44) hx hb dX6_torque_31 (by decide) (fun c8 => ?_) (fun c8 => ?_)
    · have k4 : iL (S 0 4) = -1 ↔ S 0 4 = -1 := by rw [show (-1 : Int32) = iL (-1) from rfl, iL_eq (by omega) (by omega) (by omega) (by omega)]
      rw [k4] at c8
      refine lv_aload_n hx hb dX6_torque_44 rfl (lv_at hl 0 rfl) ?_
      refine lv_iload_n hx hb dX6_torque_45 rfl (lv_at hl 1 rfl) ?_
      rw [hQ]
      refine g_xVv (As := [.int (nI k)]) (rest := []) F hP hS (k_X6_requireTurning l hlt A G w ad Cn S T k Hh Hr Hi Ht hk) (cwV 1 hts gX6_torque_X6_requireTurning rfl rfl rfl cd_X6_requireTurning ⟨by rw [hR]; exact Nat.le_of_ble_eq_true rfl, by rw [hR]; exact Nat.le_of_ble_eq_true rfl⟩) hx0 rfl rfl rfl hl.1 (Nat.le_of_ble_eq_true rfl) dX6_torque_46 ⟨by rw [hR]; exact Nat.le_of_ble_eq_true rfl, by rw [hR]; exact Nat.le_of_ble_eq_true rfl⟩ rfl hout hlocks (by decide) (by decide) (fun u h => by obtain ⟨h1, h2⟩ := h; subst h1; exact ⟨rfl, Or.inr (Or.inr ⟨rfl, (if_pos sk).trans ((if_pos yc7).trans (by rw [nk]; exact if_neg (fun q => h2 q.2)))⟩)⟩) (fun w10 H locs h11 hP hS => ?_)
      rw [← hQ]
      rw [h11.2] at hP
      have hs1 := h11.1
      have tk := Ht.1 k hk
      refine lv_aload_n hx hb dX6_torque_49 rfl (lv_at hl 0 rfl) ?_
      refine g_get F hP (C := RX6) (T := TX6) (N := 6) iX6 hx0 rfl 0 (by decide) (List.mem_cons_of_mem _ (List.mem_append_left _ (List.mem_append_left _ (List.mem_append_left _ (List.mem_append_left _ (List.mem_append_left _ (List.mem_append_left _ (List.mem_append_left _ (List.mem_append_left _ (List.mem_of_getElem? (i := 5) rfl)))))))))) (fun _ h9 => h9) rfl dX6_torque_50 ?_
      refine lv_iload_n hx hb dX6_torque_53 rfl (lv_at hl 1 rfl) ?_
      obtain ⟨gm12, gc12, gf12, ga12, gb12, gk12, gn12, gd12, ge12⟩ := rep_get Hh Hr 0 (by decide) hk
      refine g_Vq (As := [.int (nI k)]) (rest := []) F hP hS (k_get l A G w (ad 1 0) (ad 2 0) (S 0 0).toNat gc12 gm12 gf12 k ga12 gb12 gk12 gn12 gd12) (cwV 1 hts gX6_torque_Jx4a65c_get_915e3 rfl rfl rfl cd_Jx4a65c_get_915e3 ⟨by rw [hR]; exact Nat.le_of_ble_eq_true rfl, by rw [hR]; exact Nat.le_of_ble_eq_true rfl⟩) ga12 rfl rfl rfl hl.1 (Nat.le_of_ble_eq_true rfl) dX6_torque_54 ⟨by rw [hR]; exact Nat.le_of_ble_eq_true rfl, by rw [hR]; exact Nat.le_of_ble_eq_true rfl⟩ rfl (fun r13 w14 H locs h15 hP hS => ?_)
      have hr13 := h15.1
      rw [h15.2] at hP
      have f16 := rep_sh Hh Hr hk
      have f17 := rep_fr Hh Hr hk
      rw [hr13, ge12, show va_rf (some (ad (elk 0) k)) = .ref (ad 3 k) from rfl]
      refine g_cast F hP (C := RX4) (T := TX4) (N := 5) f16 rfl (List.mem_cons_of_mem _ (List.mem_append_left _ (List.mem_append_left _ (List.mem_append_left _ (List.mem_append_left _ (List.mem_append_left _ (List.mem_append_left _ (List.mem_append_left _ (List.mem_append_left _ (List.mem_of_getElem? (i := 6) rfl)))))))))) dX6_torque_57 ?_
      refine lv_astore_n (lv' := [(3, .ref (ad 3 k)), (0, .ref (ad 0 0)), (1, .int (nI k)), (2, .int qn)]) hx hb dX6_torque_60 rfl hl (by decide) rfl (fun ls hl => ?_)
      refine lv_iload_n hx hb dX6_torque_61 rfl (lv_at hl 3 rfl) ?_
      refine lv_i2l hx hb dX6_torque_62 rfl ?_
      refine lv_topl (fun v18 ev18 => ?_)
      obtain rfl : v18 = leftL qn.toInt64 0 := by
        exact ev18
      refine lv_lstore (lv' := [(4, .long (leftL qn.toInt64 0)), (3, .ref (ad 3 k)), (0, .ref (ad 0 0)), (1, .int (nI k)), (2, .int qn)]) hx hb dX6_torque_63 hl (by decide) rfl (fun ls hl => ?_)
      refine lv_iconst (v := 0) hx hb dX6_torque_65 (by decide) ?_
      refine lv_istore (lv' := [(6, .int 0), (4, .long (leftL qn.toInt64 0)), (3, .ref (ad 3 k)), (0, .ref (ad 0 0)), (1, .int (nI k)), (2, .int qn)]) hx hb dX6_torque_66 hl (by decide) rfl (fun ls hl => ?_)
      have L68 : ∀ (n : Nat) (j : Nat) (H : Heap) (locs : List Loc) (ls : Array Slot), (T 2 k).toNat + 1 ≤ j + n → ((j : Int) ≤ T 2 k) → g_P A G w H → va_S A s.heap H locs → lv_has ls 7 [(6, .int (nI j)), (4, .long (leftL qn.toInt64 j)), (0, .ref (ad 0 0)), (3, .ref (ad 3 k))] → W p l e R s m args below meth c H locs (3) (18) Q (F0 m 68 ls []) := by
        intro n
        induction n with
        | zero =>
          intro j H locs ls hfu hjN hP hS hl
          exact absurd hfu (by omega)
        | succ n ih_L68 =>
          intro j H locs ls hfu hjN hP hS hl
          refine lv_iload hx hb dX6_torque_68 (lv_at hl 0 rfl) ?_
          refine lv_aload_n hx hb dX6_torque_70 rfl (lv_at hl 3 rfl) ?_
          refine g_get F hP (C := RX4) (T := TX4) (N := 5) iX4 f16 rfl 3 (by decide) (List.mem_cons_of_mem _ (List.mem_append_left _ (List.mem_append_left _ (List.mem_append_left _ (List.mem_append_left _ (List.mem_append_left _ (List.mem_append_left _ (List.mem_append_left _ (List.mem_append_left _ (List.mem_of_getElem? (i := 7) rfl)))))))))) (fun _ h9 => h9) rfl dX6_torque_71 ?_
          refine lv_icmp_ge (tgt := 95) hx hb dX6_torque_74 (by decide) (fun c19 => ?_) (fun c19 => ?_)
          · have k5 : iL (T 2 k) ≤ nI j ↔ T 2 k ≤ (j : Int) := iL_nle (by omega) (by omega) (by omega)
            rw [k5] at c19
            refine lv_lload hx hb dX6_torque_95 (lv_at hl 1 rfl) ?_
            refine lv_aload_n hx hb dX6_torque_97 rfl (lv_at hl 2 rfl) ?_
            refine g_get F hP (C := RX6) (T := TX6) (N := 6) iX6 hx0 rfl 5 (by decide) (List.mem_cons_of_mem _ (List.mem_append_left _ (List.mem_append_left _ (List.mem_append_left _ (List.mem_append_left _ (List.mem_append_left _ (List.mem_append_left _ (List.mem_append_left _ (List.mem_append_left _ (List.mem_of_getElem? (i := 10) rfl)))))))))) (fun _ h9 => h9) rfl dX6_torque_98 ?_
            refine lv_i2l hx hb dX6_torque_101 rfl ?_
            refine lv_topl (fun v20 ev20 => ?_)
            obtain rfl : v20 = (iL (S 0 5)).toInt64 := by
              exact ev20
            refine lv_lmul hx hb dX6_torque_102 ?_
            refine lv_topl (fun v21 ev21 => ?_)
            refine lv_aload_n hx hb dX6_torque_103 rfl (lv_at hl 3 rfl) ?_
            refine g_get F hP (C := RX4) (T := TX4) (N := 5) iX4 f16 rfl 4 (by decide) (List.mem_cons_of_mem _ (List.mem_append_left _ (List.mem_append_left _ (List.mem_append_left _ (List.mem_append_left _ (List.mem_append_left _ (List.mem_append_left _ (List.mem_append_left _ (List.mem_append_left _ (List.mem_of_getElem? (i := 11) rfl)))))))))) (fun _ h9 => h9) rfl dX6_torque_104 ?_
            refine g_get F hP (C := RX0) (T := TX0) (N := 2) iX0 f17 rfl 1 (by decide) (List.mem_cons_of_mem _ (List.mem_append_left _ (List.mem_append_left _ (List.mem_append_left _ (List.mem_append_left _ (List.mem_append_left _ (List.mem_append_left _ (List.mem_append_left _ (List.mem_append_left _ (List.mem_of_getElem? (i := 12) rfl)))))))))) (fun _ h9 => h9) rfl dX6_torque_107 ?_
            refine lv_lmul hx hb dX6_torque_110 ?_
            refine lv_topl (fun v22 ev22 => ?_)
            refine lv_aload_n hx hb dX6_torque_111 rfl (lv_at hl 3 rfl) ?_
            refine g_get F hP (C := RX4) (T := TX4) (N := 5) iX4 f16 rfl 4 (by decide) (List.mem_cons_of_mem _ (List.mem_append_left _ (List.mem_append_left _ (List.mem_append_left _ (List.mem_append_left _ (List.mem_append_left _ (List.mem_append_left _ (List.mem_append_left _ (List.mem_append_left _ (List.mem_of_getElem? (i := 11) rfl)))))))))) (fun _ h9 => h9) rfl dX6_torque_112 ?_
            refine g_get F hP (C := RX0) (T := TX0) (N := 2) iX0 f17 rfl 0 (by decide) (List.mem_cons_of_mem _ (List.mem_append_left _ (List.mem_append_left _ (List.mem_append_left _ (List.mem_append_left _ (List.mem_append_left _ (List.mem_append_left _ (List.mem_append_left _ (List.mem_append_left _ (List.mem_of_getElem? (i := 13) rfl)))))))))) (fun _ h9 => h9) rfl dX6_torque_115 ?_
            refine lv_ldiv hx hb dX6_torque_118 (fun q => hs1.2 ((zL_eq0 (by omega) (by omega)).mp q)) ?_
            refine lv_topl (fun v23 ev23 => ?_)
            rw [hQ]
            refine g_xlret F hP hS hlocks hr dX6_torque_119 (by first | exact Nat.le_of_ble_eq_true rfl | omega) (by first | exact Nat.le_of_ble_eq_true rfl | omega) ?_
            exact ⟨(if_pos sk).trans ((if_pos yc7).trans (by rw [nk]; exact if_pos ⟨c8, hs1⟩)), by unfold vlTorque; rw [nk, show (T 2 k).toNat = j from by omega]; simp only [ev21, ev22, ev23], rfl⟩
          · have k5 : iL (T 2 k) ≤ nI j ↔ T 2 k ≤ (j : Int) := iL_nle (by omega) (by omega) (by omega)
            rw [k5] at c19
            refine lv_lload hx hb dX6_torque_77 (lv_at hl 1 rfl) ?_
            refine lv_ldc2 (v := 98) hx hb hown (hts _ (List.mem_cons_of_mem _ (List.mem_append_left _ (List.mem_append_left _ (List.mem_append_left _ (List.mem_append_left _ (List.mem_append_left _ (List.mem_append_left _ (List.mem_append_left _ (List.mem_append_left _ (List.mem_of_getElem? (i := 8) rfl))))))))))) dX6_torque_79 ?_
            refine lv_lmul hx hb dX6_torque_82 ?_
            refine lv_topl (fun v24 ev24 => ?_)
            refine lv_ldc2 (v := 100) hx hb hown (hts _ (List.mem_cons_of_mem _ (List.mem_append_left _ (List.mem_append_left _ (List.mem_append_left _ (List.mem_append_left _ (List.mem_append_left _ (List.mem_append_left _ (List.mem_append_left _ (List.mem_append_left _ (List.mem_of_getElem? (i := 9) rfl))))))))))) dX6_torque_83 ?_
            refine lv_ldiv hx hb dX6_torque_86 (by decide) ?_
            refine lv_topl (fun v25 ev25 => ?_)
            obtain rfl : v25 = leftL qn.toInt64 (j + 1) := by
              rw [ev25]
              rw [ev24]
              rfl
            refine lv_lstore (lv' := [(4, .long (leftL qn.toInt64 (j + 1))), (6, .int (nI j)), (0, .ref (ad 0 0)), (3, .ref (ad 3 k))]) hx hb dX6_torque_87 hl (by decide) rfl (fun ls hl => ?_)
            obtain ⟨i26, ei26⟩ : ∃ y : Int32, y = nI j + (1) := ⟨_, rfl⟩
            refine lv_iinc (v := i26) (lv' := [(6, .int i26), (4, .long (leftL qn.toInt64 (j + 1))), (0, .ref (ad 0 0)), (3, .ref (ad 3 k))]) hx hb dX6_torque_89 hl (k := 1) rfl (by rw [ei26]; rfl) (by decide) rfl (fun ls hl => ?_)
            obtain rfl : i26 = nI (j + 1) := by
              rw [ei26]
              exact nI_1 j
            refine lv_goto (tgt := 68) hx hb dX6_torque_92 (by decide) ?_
            exact ih_L68 (j + 1)  H locs ls (by omega) (by omega) hP hS (lv_sub hl [0, 1, 2, 3] rfl)
      exact L68 ((T 2 k).toNat + 1) 0  H locs ls (by omega) (by omega) hP hS (lv_sub hl [0, 1, 3, 2] rfl)
    · have k4 : iL (S 0 4) = -1 ↔ S 0 4 = -1 := by rw [show (-1 : Int32) = iL (-1) from rfl, iL_eq (by omega) (by omega) (by omega) (by omega)]
      rw [k4] at c8
      rw [hQ]
      refine g_throw F hP hS hlt rfl (hZ.2.2.2.2.2.2.2.1 ("java/lang/IllegalStateException", "java/lang/IllegalStateException") (List.mem_of_getElem? (i := 1) rfl)) (by decide +kernel) (List.mem_cons_of_mem _ (List.mem_append_left _ (List.mem_append_left _ (List.mem_append_left _ (List.mem_append_left _ (List.mem_append_left _ (List.mem_append_left _ (List.mem_append_left _ (List.mem_append_left _ (List.mem_of_getElem? (i := 2) rfl)))))))))) (List.mem_cons_of_mem _ (List.mem_append_left _ (List.mem_append_left _ (List.mem_append_left _ (List.mem_append_left _ (List.mem_append_left _ (List.mem_append_left _ (List.mem_append_left _ (List.mem_append_left _ (List.mem_of_getElem? (i := 3) rfl)))))))))) (cls := "java/lang/IllegalStateException") (text := "there is no driver") (List.mem_of_getElem? (i := 12) rfl) (fun w h => List.mem_cons_of_mem _ (List.mem_append_left _ (List.mem_append_right _ (h)))) xt_IllegalSt_44_b (fun w h => (List.mem_cons.mp h).elim (fun e => by rw [e]; rfl) (fun h => (List.mem_cons.mp h).elim (fun e => by rw [e]; rfl) (fun h => xt_IllegalSt_44_g w h))) hl.1 dX6_torque_34 dX6_torque_37 dX6_torque_38 dX6_torque_40 dX6_torque_43 hout (by rw [hR]; exact Nat.le_of_ble_eq_true rfl) (by rw [hR]; exact Nat.le_of_ble_eq_true rfl) (by rw [hR]; exact Nat.le_of_ble_eq_true rfl) (by rw [hR]; exact Nat.le_of_ble_eq_true rfl) hlocks ?_ (by decide) (by decide)
      exact ⟨rfl, Or.inr (Or.inr ⟨rfl, (if_pos sk).trans ((if_pos yc7).trans (if_neg (fun q => q.1 c8)))⟩)⟩
  · have yc7 := of_decide_eq_false (g_b0.mp c7)
    have k3 : (1 ≤ qn ∧ qn ≤ 10000) ↔ inQ qn 1 10000 := by rw [Int32.le_iff_toInt_le, Int32.le_iff_toInt_le]; exact Iff.rfl
    rw [k3] at yc7
    rw [hQ]
    refine g_throw F hP hS hlt rfl (hZ.2.2.2.2.2.2.2.1 ("java/lang/IllegalArgumentException", "java/lang/IllegalArgumentException") (List.mem_of_getElem? (i := 0) rfl)) (by decide +kernel) (List.mem_cons_of_mem _ (List.mem_append_left _ (List.mem_append_left _ (List.mem_append_left _ (List.mem_append_left _ (List.mem_append_left _ (List.mem_append_left _ (List.mem_append_left _ (List.mem_append_left _ (List.mem_of_getElem? (i := 0) rfl)))))))))) (List.mem_cons_of_mem _ (List.mem_append_left _ (List.mem_append_left _ (List.mem_append_left _ (List.mem_append_left _ (List.mem_append_left _ (List.mem_append_left _ (List.mem_append_left _ (List.mem_append_left _ (List.mem_of_getElem? (i := 1) rfl)))))))))) (cls := "java/lang/IllegalArgumentException") (text := "no such torque") (List.mem_of_getElem? (i := 11) rfl) (fun w h => List.mem_cons_of_mem _ (List.mem_append_left _ (List.mem_append_left _ (List.mem_append_right _ (h))))) xt_IllegalAr_81_b (fun w h => (List.mem_cons.mp h).elim (fun e => by rw [e]; rfl) (fun h => (List.mem_cons.mp h).elim (fun e => by rw [e]; rfl) (fun h => xt_IllegalAr_81_g w h))) hl.1 dX6_torque_16 dX6_torque_19 dX6_torque_20 dX6_torque_22 dX6_torque_25 hout (by rw [hR]; exact Nat.le_of_ble_eq_true rfl) (by rw [hR]; exact Nat.le_of_ble_eq_true rfl) (by rw [hR]; exact Nat.le_of_ble_eq_true rfl) (by rw [hR]; exact Nat.le_of_ble_eq_true rfl) hlocks ?_ (by decide) (by decide)
    exact ⟨rfl, Or.inr (Or.inl ⟨rfl, (if_pos sk).trans (if_neg yc7)⟩)⟩
