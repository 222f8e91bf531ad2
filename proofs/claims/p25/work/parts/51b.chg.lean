theorem cd_X1_init : yX1_init.cls ≠ "java/lang/invoke/MethodHandle" ∧ yX1_init.cls ≠ "java/lang/invoke/VarHandle" ∧ (parseMethodDescriptor yX1_init.desc).map (fun d => d.parameters.length) = some 5 := by decide +kernel
set_option maxHeartbeats 4000000 in
set_option maxRecDepth 100000 in
theorem k_X6_addGear (l : Launch) (hlt : l.stackTraces = false) (A : Nat → Prop) (G : g_C) (w : g_W) (ad : Nat → Nat → Nat) (Cn : Nat → Nat → Option va_E) (S T : Sg) (pn te mo1 la : Int32) (ri : Bool) (Hh : holds w ad Cn) (Hr : rep G S T ad Cn) (Hi : invS S) (Ht : invT S T) (Ha : agr S T) : xI l yX6_addGear wsX6_addGear ({ frames := 7, cells := 3, slots := 112, locals := 231 } : Room) [.ref (ad 0 0), .int pn, .int te, .int mo1, .int la, .int (g_b ri)] A G w (fun r w' => cdAddGear S pn te mo1 la = 0 ∧ r = vlAddGear S ∧ after G w ad Cn w' (nxAddGear S pn te mo1 la ri)) (fun u => u.2 = w ∧ ((u.1 = "java/lang/IndexOutOfBoundsException" ∧ cdAddGear S pn te mo1 la = 1) ∨ (u.1 = "java/lang/IllegalArgumentException" ∧ cdAddGear S pn te mo1 la = 2) ∨ (u.1 = "java/lang/IllegalStateException" ∧ cdAddGear S pn te mo1 la = 3))) 3 112 := by
  refine g_xofI (cc := cX6_addGear) (maxL := 6) (ret := (some .int)) (own := RX6) (by decide) rfl rfl (Nat.le_of_ble_eq_true rfl) ?_
  intro p e R s m args below meth c Q ls hR F hP hS hlocks hr hout hQ hl
  obtain ⟨⟨hx, hb, hml, hown, hts⟩, hK, hZ, hA⟩ := id F
  generalize hH0 : s.heap = H at hP ⊢
  have hS : va_S A s.heap H [] := by rw [← hH0]; exact va_S.rf
  generalize ([] : List Loc) = locs at hS ⊢
  have hl : lv_has ls 6 [(0, .ref (ad 0 0)), (1, .int pn), (2, .int te), (3, .int mo1), (4, .int la), (5, .int (g_b ri))] := hl
  have iX1 : ∀ w ∈ u_ws RX1 TX1 5, w ∈ wsX6_addGear := fun w h => List.mem_cons_of_mem _ (List.mem_append_left _ (List.mem_append_left _ (List.mem_append_left _ (List.mem_append_left _ (List.mem_append_right _ (h))))))
  have iX6 : ∀ w ∈ u_ws RX6 TX6 6, w ∈ wsX6_addGear := fun w h => List.mem_cons_of_mem _ (List.mem_append_left _ (List.mem_append_left _ (List.mem_append_left _ (List.mem_append_left _ (List.mem_append_left _ (List.mem_append_right _ (h)))))))
  have hx0 := rep_x Hh Hr
  obtain ⟨m0, a0, hz0⟩ := rep_size Hh Hr 0 (by decide)
  obtain ⟨m1, a1, hz1⟩ := rep_size Hh Hr 1 (by decide)
  have hi := Hi.1
  refine lv_aload_n hx hb dX6_addGear_0 rfl (lv_at hl 0 rfl) ?_
  refine lv_iload_n hx hb dX6_addGear_1 rfl (lv_at hl 1 rfl) ?_
  rw [hQ]
  refine g_xVv (As := [.int pn]) (rest := []) F hP hS (k_X6_requireShaft l hlt A G w ad Cn S T pn Hh Hr Hi) (cwV 1 hts gX6_addGear_X6_requireShaft rfl rfl rfl cd_X6_requireShaft ⟨by rw [hR]; exact Nat.le_of_ble_eq_true rfl, by rw [hR]; exact Nat.le_of_ble_eq_true rfl⟩) hx0 rfl rfl rfl hl.1 (Nat.le_of_ble_eq_true rfl) dX6_addGear_2 ⟨by rw [hR]; exact Nat.le_of_ble_eq_true rfl, by rw [hR]; exact Nat.le_of_ble_eq_true rfl⟩ rfl hout hlocks (by decide) (by decide) (fun u h => by obtain ⟨h1, h2⟩ := h; subst h1; exact ⟨rfl, Or.inl ⟨rfl, (if_neg h2)⟩⟩) (fun w2 H locs h3 hP hS => ?_)
  rw [← hQ]
  rw [h3.2] at hP
  have sk := h3.1
  obtain ⟨k, hk, ek⟩ := ix_of sk.1 sk.2
  subst ek
  have nk : kN (nI k) = k := kN_n (by omega)
  refine lv_iload_n hx hb dX6_addGear_5 rfl (lv_at hl 2 rfl) ?_
  refine lv_bipush (v := 8) hx hb dX6_addGear_6 (by decide) ?_
  refine lv_sipush (v := 200) hx hb dX6_addGear_8 (by decide) ?_
  refine g_Si (As := [.int te, .int 8, .int 200]) (rest := []) F hP hS (k_X6_isWithin l A G w te 8 200) (va_cwS 3 hts gX6_addGear_X6_isWithin rfl rfl rfl cd_X6_isWithin ⟨by rw [hR]; exact Nat.le_of_ble_eq_true rfl, by rw [hR]; exact Nat.le_of_ble_eq_true rfl⟩) rfl hl.1 (Nat.le_of_ble_eq_true rfl) dX6_addGear_11 ⟨by rw [hR]; exact Nat.le_of_ble_eq_true rfl, by rw [hR]; exact Nat.le_of_ble_eq_true rfl⟩ rfl (fun r4 w5 H locs h6 hP hS => ?_)
  have hr4 := h6.1
  rw [h6.2] at hP
  rw [hr4]
  refine lv_if_eq (tgt := 37) hx hb dX6_addGear_14 (by decide) (fun c7 => ?_) (fun c7 => ?_)
  · have yc7 := of_decide_eq_false (g_b0.mp c7)
    have kc7 : (8 ≤ te ∧ te ≤ 200) ↔ inQ te 8 200 := by rw [Int32.le_iff_toInt_le, Int32.le_iff_toInt_le]; exact Iff.rfl
    rw [kc7] at yc7
    rw [hQ]
    refine g_throw F hP hS hlt rfl (hZ.2.2.2.2.2.2.2.1 ("java/lang/IllegalArgumentException", "java/lang/IllegalArgumentException") (List.mem_of_getElem? (i := 0) rfl)) (by decide +kernel) (List.mem_cons_of_mem _ (List.mem_append_left _ (List.mem_append_left _ (List.mem_append_left _ (List.mem_append_left _ (List.mem_append_left _ (List.mem_append_left _ (List.mem_append_left _ (List.mem_of_getElem? (i := 0) rfl))))))))) (List.mem_cons_of_mem _ (List.mem_append_left _ (List.mem_append_left _ (List.mem_append_left _ (List.mem_append_left _ (List.mem_append_left _ (List.mem_append_left _ (List.mem_append_left _ (List.mem_of_getElem? (i := 1) rfl))))))))) (cls := "java/lang/IllegalArgumentException") (text := "no such kind of gear") (List.mem_of_getElem? (i := 13) rfl) (fun w h => List.mem_cons_of_mem _ (List.mem_append_left _ (List.mem_append_left _ (List.mem_append_right _ (h))))) xt_IllegalAr_81_b (fun w h => (List.mem_cons.mp h).elim (fun e => by rw [e]; rfl) (fun h => (List.mem_cons.mp h).elim (fun e => by rw [e]; rfl) (fun h => xt_IllegalAr_81_g w h))) hl.1 dX6_addGear_37 dX6_addGear_40 dX6_addGear_41 dX6_addGear_43 dX6_addGear_46 hout (by rw [hR]; exact Nat.le_of_ble_eq_true rfl) (by rw [hR]; exact Nat.le_of_ble_eq_true rfl) (by rw [hR]; exact Nat.le_of_ble_eq_true rfl) (by rw [hR]; exact Nat.le_of_ble_eq_true rfl) hlocks ?_ (by decide) (by decide)
    exact ⟨rfl, Or.inr (Or.inl ⟨rfl, (if_pos sk).trans (if_neg (fun q => yc7 q.1))⟩)⟩
  · have yc7 := of_decide_eq_true (g_b1.mp c7)
    have kc7 : (8 ≤ te ∧ te ≤ 200) ↔ inQ te 8 200 := by rw [Int32.le_iff_toInt_le, Int32.le_iff_toInt_le]; exact Iff.rfl
    rw [kc7] at yc7
    refine lv_iload_n hx hb dX6_addGear_17 rfl (lv_at hl 3 rfl) ?_
    refine lv_iconst (v := 1) hx hb dX6_addGear_18 (by decide) ?_
    refine lv_bipush (v := 10) hx hb dX6_addGear_19 (by decide) ?_
    refine g_Si (As := [.int mo1, .int 1, .int 10]) (rest := []) F hP hS (k_X6_isWithin l A G w mo1 1 10) (va_cwS 3 hts gX6_addGear_X6_isWithin rfl rfl rfl cd_X6_isWithin ⟨by rw [hR]; exact Nat.le_of_ble_eq_true rfl, by rw [hR]; exact Nat.le_of_ble_eq_true rfl⟩) rfl hl.1 (Nat.le_of_ble_eq_true rfl) dX6_addGear_21 ⟨by rw [hR]; exact Nat.le_of_ble_eq_true rfl, by rw [hR]; exact Nat.le_of_ble_eq_true rfl⟩ rfl (fun r8 w9 H locs h10 hP hS => ?_)
    have hr8 := h10.1
    rw [h10.2] at hP
    rw [hr8]
    refine lv_if_eq (tgt := 37) hx hb dX6_addGear_24 (by decide) (fun c11 => ?_) (fun c11 => ?_)
    · have yc11 := of_decide_eq_false (g_b0.mp c11)
      have kc11 : (1 ≤ mo1 ∧ mo1 ≤ 10) ↔ inQ mo1 1 10 := by rw [Int32.le_iff_toInt_le, Int32.le_iff_toInt_le]; exact Iff.rfl
      rw [kc11] at yc11
      rw [hQ]
      refine g_throw F hP hS hlt rfl (hZ.2.2.2.2.2.2.2.1 ("java/lang/IllegalArgumentException", "java/lang/IllegalArgumentException") (List.mem_of_getElem? (i := 0) rfl)) (by decide +kernel) (List.mem_cons_of_mem _ (List.mem_append_left _ (List.mem_append_left _ (List.mem_append_left _ (List.mem_append_left _ (List.mem_append_left _ (List.mem_append_left _ (List.mem_append_left _ (List.mem_of_getElem? (i := 0) rfl))))))))) (List.mem_cons_of_mem _ (List.mem_append_left _ (List.mem_append_left _ (List.mem_append_left _ (List.mem_append_left _ (List.mem_append_left _ (List.mem_append_left _ (List.mem_append_left _ (List.mem_of_getElem? (i := 1) rfl))))))))) (cls := "java/lang/IllegalArgumentException") (text := "no such kind of gear") (List.mem_of_getElem? (i := 13) rfl) (fun w h => List.mem_cons_of_mem _ (List.mem_append_left _ (List.mem_append_left _ (List.mem_append_right _ (h))))) xt_IllegalAr_81_b (fun w h => (List.mem_cons.mp h).elim (fun e => by rw [e]; rfl) (fun h => (List.mem_cons.mp h).elim (fun e => by rw [e]; rfl) (fun h => xt_IllegalAr_81_g w h))) hl.1 dX6_addGear_37 dX6_addGear_40 dX6_addGear_41 dX6_addGear_43 dX6_addGear_46 hout (by rw [hR]; exact Nat.le_of_ble_eq_true rfl) (by rw [hR]; exact Nat.le_of_ble_eq_true rfl) (by rw [hR]; exact Nat.le_of_ble_eq_true rfl) (by rw [hR]; exact Nat.le_of_ble_eq_true rfl) hlocks ?_ (by decide) (by decide)
      exact ⟨rfl, Or.inr (Or.inl ⟨rfl, (if_pos sk).trans (if_neg (fun q => yc11 q.2.1))⟩)⟩
    · have yc11 := of_decide_eq_true (g_b1.mp c11)
      have kc11 : (1 ≤ mo1 ∧ mo1 ≤ 10) ↔ inQ mo1 1 10 := by rw [Int32.le_iff_toInt_le, Int32.le_iff_toInt_le]; exact Iff.rfl
      rw [kc11] at yc11
      refine lv_iload hx hb dX6_addGear_27 (lv_at hl 4 rfl) ?_
      refine lv_iconst (v := 0) hx hb dX6_addGear_29 (by decide) ?_
      refine lv_iconst (v := 5) hx hb dX6_addGear_30 (by decide) ?_
      refine g_Si (As := [.int la, .int 0, .int 5]) (rest := []) F hP hS (k_X6_isWithin l A G w la 0 5) (va_cwS 3 hts gX6_addGear_X6_isWithin rfl rfl rfl cd_X6_isWithin ⟨by rw [hR]; exact Nat.le_of_ble_eq_true rfl, by rw [hR]; exact Nat.le_of_ble_eq_true rfl⟩) rfl hl.1 (Nat.le_of_ble_eq_true rfl) dX6_addGear_31 ⟨by rw [hR]; exact Nat.le_of_ble_eq_true rfl, by rw [hR]; exact Nat.le_of_ble_eq_true rfl⟩ rfl (fun r12 w13 H locs h14 hP hS => ?_)
      have hr12 := h14.1
      rw [h14.2] at hP
      rw [hr12]
      refine lv_if_ne (tgt := 47) hx hb dX6_addGear_34 (by decide) (fun c15 => ?_) (fun c15 => ?_)
      · have yc15 := of_decide_eq_true (g_b1.mp c15)
        have kc15 : (0 ≤ la ∧ la ≤ 5) ↔ inQ la 0 5 := by rw [Int32.le_iff_toInt_le, Int32.le_iff_toInt_le]; exact Iff.rfl
        rw [kc15] at yc15
        refine lv_aload_n hx hb dX6_addGear_47 rfl (lv_at hl 0 rfl) ?_
        refine g_get F hP (C := RX6) (T := TX6) (N := 6) iX6 hx0 rfl 1 (by decide) (List.mem_cons_of_mem _ (List.mem_append_left _ (List.mem_append_left _ (List.mem_append_left _ (List.mem_append_left _ (List.mem_append_left _ (List.mem_append_left _ (List.mem_append_left _ (List.mem_of_getElem? (i := 4) rfl))))))))) (fun _ h9 => h9) rfl dX6_addGear_48 ?_
        refine g_Vi (As := []) (rest := []) F hP hS (k_size l A G w (ad 1 1) a1 m1 (iL (S 0 1)) hz1) (cwV 0 hts gX6_addGear_Jx4a65c_size_8abf5 rfl rfl rfl cd_Jx4a65c_size_8abf5 ⟨by rw [hR]; exact Nat.le_of_ble_eq_true rfl, by rw [hR]; exact Nat.le_of_ble_eq_true rfl⟩) hz1 rfl rfl rfl hl.1 (Nat.le_of_ble_eq_true rfl) dX6_addGear_51 ⟨by rw [hR]; exact Nat.le_of_ble_eq_true rfl, by rw [hR]; exact Nat.le_of_ble_eq_true rfl⟩ rfl (fun r16 w17 H locs h18 hP hS => ?_)
        have hr16 := h18.1
        rw [h18.2] at hP
        rw [hr16]
        refine lv_bipush (v := 16) hx hb dX6_addGear_54 (by decide) ?_
        refine lv_icmp_lt (tgt := 69) hx hb dX6_addGear_56 (by decide) (fun c19 => ?_) (fun c19 => ?_)
        · rw [show (16 : Int32) = iL 16 from rfl, iL_lt (by omega) (by omega) (by omega) (by omega)] at c19
          obtain ⟨gm20, gc20, gf20, ga20, gb20, gk20, gn20, gd20, ge20⟩ := rep_get Hh Hr 0 (by decide) hk
          have ez20 : iL (S 0 0) = nI (S 0 0).toNat := iL_nn (by omega)
          have f21 := rep_sh Hh Hr hk
          have f22 := rep_fr Hh Hr hk
          refine lv_aload_n hx hb dX6_addGear_69 rfl (lv_at hl 0 rfl) ?_
          refine g_get F hP (C := RX6) (T := TX6) (N := 6) iX6 hx0 rfl 1 (by decide) (List.mem_cons_of_mem _ (List.mem_append_left _ (List.mem_append_left _ (List.mem_append_left _ (List.mem_append_left _ (List.mem_append_left _ (List.mem_append_left _ (List.mem_append_left _ (List.mem_of_getElem? (i := 4) rfl))))))))) (fun _ h9 => h9) rfl dX6_addGear_70 ?_
          refine g_new F hP hS (ci := 2) (C := RX1) (T := TX1) (N := 5) (fs := [.null, .int 0, .int 0, .int 0, .int 0]) iX1 tyX1 tyX1_ok (List.mem_cons_of_mem _ (List.mem_append_left _ (List.mem_append_left _ (List.mem_append_left _ (List.mem_append_left _ (List.mem_append_left _ (List.mem_append_left _ (List.mem_append_left _ (List.mem_of_getElem? (i := 5) rfl))))))))) (List.mem_cons_of_mem _ (List.mem_append_left _ (List.mem_append_left _ (List.mem_append_left _ (List.mem_append_left _ (List.mem_append_left _ (List.mem_append_left _ (List.mem_append_left _ (List.mem_of_getElem? (i := 6) rfl))))))))) (List.mem_cons_of_mem _ (List.mem_append_left _ (List.mem_append_left _ (List.mem_append_left _ (List.mem_append_left _ (List.mem_append_left _ (List.mem_append_left _ (List.mem_append_left _ (List.mem_of_getElem? (i := 7) rfl))))))))) rfl (by intro j hj; match j, hj with | 0, _ => rfl | 1, _ => rfl | 2, _ => rfl | 3, _ => rfl | 4, _ => rfl | j + 5, hj => exact absurd hj (by omega)) (by rw [hR]; exact Nat.le_of_ble_eq_true rfl) (by rw [hR]; exact Nat.le_of_ble_eq_true rfl) dX6_addGear_73 (fun q23 H nq23 hP hS => ?_)
          obtain ⟨w24, ew24⟩ : ∃ z, z = g_up w q23 (.inr (2, [.null, .int 0, .int 0, .int 0, .int 0])) := ⟨_, rfl⟩
          have hP : g_P A G w24 H := by rw [ew24]; exact hP
          have f25 : w24 (ad 0 0) = some (.inr (7, [.ref (ad 1 0), .ref (ad 1 1), .ref (ad 1 2), .ref (ad 1 3), .int (iL (S 0 4)), .int (iL (S 0 5))])) := by rw [ew24]; exact g_up_f hx0 (g_neq hx0 nq23)
          have f26 : w24 (ad 1 0) = some (.inr (0, [.int gm20, .ref (ad 2 0), .int (nI (S 0 0).toNat)])) := by rw [ew24]; exact g_up_f ga20 (g_neq ga20 nq23)
          have f27 : w24 (ad 1 1) = some (.inr (0, [.int m1, .ref a1, .int (iL (S 0 1))])) := by rw [ew24]; exact g_up_f hz1 (g_neq hz1 nq23)
          have f28 : w24 (ad 2 0) = some (.inl (G.2.1 3, gc20, .inr (.inr (.inr (.inr gf20))))) := by rw [ew24]; exact g_up_f gb20 (g_neq gb20 nq23)
          have f29 : w24 (ad 3 k) = some (.inr (5, [.int (iL (S 1 k)), .int (iL (S 2 k)), .int (iL (S 3 k)), .int (iL (T 2 k)), .ref (ad 4 k)])) := by rw [ew24]; exact g_up_f f21 (g_neq f21 nq23)
          have f30 : w24 (ad 4 k) = some (.inr (1, [.long (zL (T 0 k)), .long (zL (T 1 k))])) := by rw [ew24]; exact g_up_f f22 (g_neq f22 nq23)
          have f31 : w24 q23 = some (.inr (2, [.null, .int 0, .int 0, .int 0, .int 0])) := by rw [ew24]; exact g_up_s _ _ _
          refine lv_dup hx hb dX6_addGear_76 rfl ?_
          refine lv_aload_n hx hb dX6_addGear_77 rfl (lv_at hl 0 rfl) ?_
          refine g_get F hP (C := RX6) (T := TX6) (N := 6) iX6 f25 rfl 0 (by decide) (List.mem_cons_of_mem _ (List.mem_append_left _ (List.mem_append_left _ (List.mem_append_left _ (List.mem_append_left _ (List.mem_append_left _ (List.mem_append_left _ (List.mem_append_left _ (List.mem_of_getElem? (i := 8) rfl))))))))) (fun _ h9 => h9) rfl dX6_addGear_78 ?_
          refine lv_iload_n hx hb dX6_addGear_81 rfl (lv_at hl 1 rfl) ?_
          refine g_Vq (As := [.int (nI k)]) (rest := [.ref q23, .ref q23, .ref (ad 1 1)]) F hP hS (k_get l A G w24 (ad 1 0) (ad 2 0) (S 0 0).toNat gc20 gm20 gf20 k f26 f28 gk20 gn20 gd20) (cwV 1 hts gX6_addGear_Jx4a65c_get_915e3 rfl rfl rfl cd_Jx4a65c_get_915e3 ⟨by rw [hR]; exact Nat.le_of_ble_eq_true rfl, by rw [hR]; exact Nat.le_of_ble_eq_true rfl⟩) f26 rfl rfl rfl hl.1 (Nat.le_of_ble_eq_true rfl) dX6_addGear_82 ⟨by rw [hR]; exact Nat.le_of_ble_eq_true rfl, by rw [hR]; exact Nat.le_of_ble_eq_true rfl⟩ rfl (fun r32 w33 H locs h34 hP hS => ?_)
          have hr32 := h34.1
          rw [h34.2] at hP
          rw [hr32, ge20, show va_rf (some (ad (elk 0) k)) = .ref (ad 3 k) from rfl]
          refine g_cast F hP (C := RX4) (T := TX4) (N := 5) f29 rfl (List.mem_cons_of_mem _ (List.mem_append_left _ (List.mem_append_left _ (List.mem_append_left _ (List.mem_append_left _ (List.mem_append_left _ (List.mem_append_left _ (List.mem_append_left _ (List.mem_of_getElem? (i := 9) rfl))))))))) dX6_addGear_85 ?_
          refine lv_iload_n hx hb dX6_addGear_88 rfl (lv_at hl 2 rfl) ?_
          refine lv_iload_n hx hb dX6_addGear_89 rfl (lv_at hl 3 rfl) ?_
          refine lv_iload hx hb dX6_addGear_90 (lv_at hl 4 rfl) ?_
          refine lv_iload hx hb dX6_addGear_92 (lv_at hl 5 rfl) ?_
          refine g_Iv (As := [.ref (ad 3 k), .int te, .int mo1, .int la, .int (g_b ri)]) (rest := [.ref q23, .ref (ad 1 1)]) F hP hS (k_X1_init l A G w24 q23 (ad 3 k) te mo1 la ri f31) (cwI 5 hts gX6_addGear_X1_init rfl rfl rfl (hts _ (List.mem_cons_of_mem _ (List.mem_append_left _ (List.mem_append_left _ (List.mem_append_left _ (List.mem_append_left _ (List.mem_append_left _ (List.mem_append_left _ (List.mem_append_left _ (List.mem_of_getElem? (i := 7) rfl)))))))))) (hts _ (List.mem_cons_of_mem _ (List.mem_append_left _ (List.mem_append_left _ (List.mem_append_left _ (List.mem_append_left _ (List.mem_append_left _ (List.mem_append_left _ (List.mem_append_right _ (List.mem_append_left _ (List.mem_of_getElem? (i := 19) rfl))))))))))) (hts _ (List.mem_cons_of_mem _ (List.mem_append_left _ (List.mem_append_left _ (List.mem_append_left _ (List.mem_append_left _ (List.mem_append_left _ (List.mem_append_left _ (List.mem_append_right _ (List.mem_append_left _ (List.mem_of_getElem? (i := 20) rfl))))))))))) rfl cd_X1_init ⟨by rw [hR]; exact Nat.le_of_ble_eq_true rfl, by rw [hR]; exact Nat.le_of_ble_eq_true rfl⟩) rfl hl.1 (Nat.le_of_ble_eq_true rfl) dX6_addGear_94 ⟨by rw [hR]; exact Nat.le_of_ble_eq_true rfl, by rw [hR]; exact Nat.le_of_ble_eq_true rfl⟩ rfl (fun w36 H locs h37 hP hS => ?_)
          obtain ⟨ad2, C2, g2, H2, R2, d00, d10, d30, d3, c3⟩ := gear_new Hh Hr Hi nq23 ew24 h37
          have hv := H2.1 _ _ _ c3
          rw [d3] at hv
          rw [← d30 k] at c3
          obtain ⟨ha, mo, fl, hL, l1, l2, hf⟩ := listW_j H2 R2 Hi (j := 1) (by decide) (ci := 2) (fun k hk => ⟨_, rep_ge H2 R2 hk⟩)
          obtain ⟨m9, a9, hz9⟩ := rep_size H2 R2 1 (by decide)
          rw [d10] at hL hz9
          refine g_Vi (As := [.ref q23]) (rest := []) F hP hS (k_addU l A G w36 (ad 1 1) (ad2 2 1) (S 0 1).toNat 2 ha mo fl hL q23 _ _ hv rfl (by decide +kernel) (g_nci hv hz9 (by decide))) (cwV 1 hts gX6_addGear_Jx4a65c_add_9ea2d rfl rfl rfl cd_Jx4a65c_add_9ea2d ⟨by rw [hR]; exact Nat.le_of_ble_eq_true rfl, by rw [hR]; exact Nat.le_of_ble_eq_true rfl⟩) hz9 rfl rfl rfl hl.1 (Nat.le_of_ble_eq_true rfl) dX6_addGear_97 ⟨by rw [hR]; exact Nat.le_of_ble_eq_true rfl, by rw [hR]; exact Nat.le_of_ble_eq_true rfl⟩ rfl (fun r38 w39 H locs h40 hP hS => ?_)
          rw [← d10] at h40
          have P9 := h40
          rw [show q23 = ad2 (elk 1) (S 0 1).toNat from d3.symm] at P9
          have aft := addGear_fin (p := nI k) (te := te) (mo := mo1) (la := la) (ri := ri) ⟨Hh, Hr, Hi, Ht, Ha⟩ g2 H2 R2 d00 sk ⟨yc7, yc11, yc15⟩ c19 (by rw [nk]; exact c3) l1 l2 hf P9
          obtain ⟨ad3, C3, T3, z0, z1, z2⟩ := id aft
          have hx3 := rep_x z2.1 z2.2.1
          rw [z0] at hx3
          obtain ⟨m31, a31, hz31⟩ := rep_size z2.1 z2.2.1 1 (by decide)
          refine lv_pop hx hb dX6_addGear_100 rfl ?_
          refine lv_aload_n hx hb dX6_addGear_101 rfl (lv_at hl 0 rfl) ?_
          refine g_get F hP (C := RX6) (T := TX6) (N := 6) iX6 hx3 rfl 1 (by decide) (List.mem_cons_of_mem _ (List.mem_append_left _ (List.mem_append_left _ (List.mem_append_left _ (List.mem_append_left _ (List.mem_append_left _ (List.mem_append_left _ (List.mem_append_left _ (List.mem_of_getElem? (i := 4) rfl))))))))) (fun _ h9 => h9) rfl dX6_addGear_102 ?_
          refine g_Vi (As := []) (rest := []) F hP hS (k_size l A G w39 (ad3 1 1) a31 m31 (iL ((nxAddGear S (nI k) te mo1 la ri) 0 1)) hz31) (cwV 0 hts gX6_addGear_Jx4a65c_size_8abf5 rfl rfl rfl cd_Jx4a65c_size_8abf5 ⟨by rw [hR]; exact Nat.le_of_ble_eq_true rfl, by rw [hR]; exact Nat.le_of_ble_eq_true rfl⟩) hz31 rfl rfl rfl hl.1 (Nat.le_of_ble_eq_true rfl) dX6_addGear_105 ⟨by rw [hR]; exact Nat.le_of_ble_eq_true rfl, by rw [hR]; exact Nat.le_of_ble_eq_true rfl⟩ rfl (fun r41 w42 H locs h43 hP hS => ?_)
          have hr41 := h43.1
          rw [h43.2] at hP
          rw [hr41]
          refine lv_iconst (v := 1) hx hb dX6_addGear_108 (by decide) ?_
          refine lv_isub hx hb dX6_addGear_109 ?_
          refine lv_topi (fun v44 ev44 => ?_)
          obtain rfl : v44 = iL (S 0 1) := by
            rw [ev44]
            rw [show nxAddGear S (nI k) te mo1 la ri 0 1 = S 0 1 + 1 from by unfold nxAddGear; rw [up2_k _ _ _ (by decide), up2_k _ _ _ (by decide), up2_k _ _ _ (by decide), up2_k _ _ _ (by decide), up2_k _ _ _ (by decide), up2_s], show (1 : Int32) = iL 1 from rfl, iL_sub]
            rw [show S 0 1 + 1 - 1 = S 0 1 from by omega]
          rw [hQ]
          refine g_xiret F hP hS hlocks hr dX6_addGear_110 (by first | exact Nat.le_of_ble_eq_true rfl | omega) (by first | exact Nat.le_of_ble_eq_true rfl | omega) ?_
          exact ⟨(if_pos sk).trans ((if_pos ⟨yc7, yc11, yc15⟩).trans (if_pos c19)), rfl, aft⟩
        · rw [show (16 : Int32) = iL 16 from rfl, iL_lt (by omega) (by omega) (by omega) (by omega)] at c19
          rw [hQ]
          refine g_throw F hP hS hlt rfl (hZ.2.2.2.2.2.2.2.1 ("java/lang/IllegalStateException", "java/lang/IllegalStateException") (List.mem_of_getElem? (i := 1) rfl)) (by decide +kernel) (List.mem_cons_of_mem _ (List.mem_append_left _ (List.mem_append_left _ (List.mem_append_left _ (List.mem_append_left _ (List.mem_append_left _ (List.mem_append_left _ (List.mem_append_left _ (List.mem_of_getElem? (i := 2) rfl))))))))) (List.mem_cons_of_mem _ (List.mem_append_left _ (List.mem_append_left _ (List.mem_append_left _ (List.mem_append_left _ (List.mem_append_left _ (List.mem_append_left _ (List.mem_append_left _ (List.mem_of_getElem? (i := 3) rfl))))))))) (cls := "java/lang/IllegalStateException") (text := "no more gears") (List.mem_of_getElem? (i := 14) rfl) (fun w h => List.mem_cons_of_mem _ (List.mem_append_left _ (List.mem_append_right _ (h)))) xt_IllegalSt_44_b (fun w h => (List.mem_cons.mp h).elim (fun e => by rw [e]; rfl) (fun h => (List.mem_cons.mp h).elim (fun e => by rw [e]; rfl) (fun h => xt_IllegalSt_44_g w h))) hl.1 dX6_addGear_59 dX6_addGear_62 dX6_addGear_63 dX6_addGear_65 dX6_addGear_68 hout (by rw [hR]; exact Nat.le_of_ble_eq_true rfl) (by rw [hR]; exact Nat.le_of_ble_eq_true rfl) (by rw [hR]; exact Nat.le_of_ble_eq_true rfl) (by rw [hR]; exact Nat.le_of_ble_eq_true rfl) hlocks ?_ (by decide) (by decide)
          exact ⟨rfl, Or.inr (Or.inr ⟨rfl, (if_pos sk).trans ((if_pos ⟨yc7, yc11, yc15⟩).trans (if_neg c19))⟩)⟩
      · have yc15 := of_decide_eq_false (g_b0.mp c15)
        have kc15 : (0 ≤ la ∧ la ≤ 5) ↔ inQ la 0 5 := by rw [Int32.le_iff_toInt_le, Int32.le_iff_toInt_le]; exact Iff.rfl
        rw [kc15] at yc15
        rw [hQ]
        refine g_throw F hP hS hlt rfl (hZ.2.2.2.2.2.2.2.1 ("java/lang/IllegalArgumentException", "java/lang/IllegalArgumentException") (List.mem_of_getElem? (i := 0) rfl)) (by decide +kernel) (List.mem_cons_of_mem _ (List.mem_append_left _ (List.mem_append_left _ (List.mem_append_left _ (List.mem_append_left _ (List.mem_append_left _ (List.mem_append_left _ (List.mem_append_left _ (List.mem_of_getElem? (i := 0) rfl))))))))) (List.mem_cons_of_mem _ (List.mem_append_left _ (List.mem_append_left _ (List.mem_append_left _ (List.mem_append_left _ (List.mem_append_left _ (List.mem_append_left _ (List.mem_append_left _ (List.mem_of_getElem? (i := 1) rfl))))))))) (cls := "java/lang/IllegalArgumentException") (text := "no such kind of gear") (List.mem_of_getElem? (i := 13) rfl) (fun w h => List.mem_cons_of_mem _ (List.mem_append_left _ (List.mem_append_left _ (List.mem_append_right _ (h))))) xt_IllegalAr_81_b (fun w h => (List.mem_cons.mp h).elim (fun e => by rw [e]; rfl) (fun h => (List.mem_cons.mp h).elim (fun e => by rw [e]; rfl) (fun h => xt_IllegalAr_81_g w h))) hl.1 dX6_addGear_37 dX6_addGear_40 dX6_addGear_41 dX6_addGear_43 dX6_addGear_46 hout (by rw [hR]; exact Nat.le_of_ble_eq_true rfl) (by rw [hR]; exact Nat.le_of_ble_eq_true rfl) (by rw [hR]; exact Nat.le_of_ble_eq_true rfl) (by rw [hR]; exact Nat.le_of_ble_eq_true rfl) hlocks ?_ (by decide) (by decide)
        exact ⟨rfl, Or.inr (Or.inl ⟨rfl, (if_pos sk).trans (if_neg (fun q => yc15 q.2.2))⟩)⟩
