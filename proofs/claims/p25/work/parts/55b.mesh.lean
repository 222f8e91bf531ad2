theorem cd_X3_init : yX3_init.cls ≠ "java/lang/invoke/MethodHandle" ∧ yX3_init.cls ≠ "java/lang/invoke/VarHandle" ∧ (parseMethodDescriptor yX3_init.desc).map (fun d => d.parameters.length) = some 5 := by decide +kernel
set_option maxHeartbeats 4000000 in
set_option maxRecDepth 100000 in
theorem k_X6_addPlanets (l : Launch) (hlt : l.stackTraces = false) (A : Nat → Prop) (G : g_C) (w : g_W) (ad : Nat → Nat → Nat) (Cn : Nat → Nat → Option va_E) (S T : Sg) (un vn zn tn pn : Int32) (Hh : holds w ad Cn) (Hr : rep G S T ad Cn) (Hi : invS S) (Ht : invT S T) (Ha : agr S T) : xI l yX6_addPlanets wsX6_addPlanets ({ frames := 7, cells := 11, slots := 150, locals := 231 } : Room) [.ref (ad 0 0), .int un, .int vn, .int zn, .int tn, .int pn] A G w (fun r w' => cdAddPl S un vn zn tn pn = 0 ∧ r = vlAddPl S ∧ after G w ad Cn w' (nxAddPl S un vn zn tn pn)) (fun u => u.2 = w ∧ ((u.1 = "java/lang/IndexOutOfBoundsException" ∧ cdAddPl S un vn zn tn pn = 1) ∨ (u.1 = "java/lang/IllegalArgumentException" ∧ cdAddPl S un vn zn tn pn = 2) ∨ (u.1 = "java/lang/IllegalStateException" ∧ cdAddPl S un vn zn tn pn = 3))) 11 150 := by
  refine g_xofI (cc := cX6_addPlanets) (maxL := 6) (ret := (some .int)) (own := RX6) (by decide) rfl rfl (Nat.le_of_ble_eq_true rfl) ?_
  intro p e R s m args below meth c Q ls hR F hP hS hlocks hr hout hQ hl
  obtain ⟨⟨hx, hb, hml, hown, hts⟩, hK, hZ, hA⟩ := id F
  generalize hH0 : s.heap = H at hP ⊢
  have hS : va_S A s.heap H [] := by rw [← hH0]; exact va_S.rf
  generalize ([] : List Loc) = locs at hS ⊢
  have hl : lv_has ls 6 [(0, .ref (ad 0 0)), (1, .int un), (2, .int vn), (3, .int zn), (4, .int tn), (5, .int pn)] := hl
  have iX3 : ∀ w ∈ u_ws RX3 TX3 2, w ∈ wsX6_addPlanets := fun w h => List.mem_cons_of_mem _ (List.mem_append_left _ (List.mem_append_left _ (List.mem_append_left _ (List.mem_append_left _ (List.mem_append_left _ (List.mem_append_left _ (List.mem_append_left _ (List.mem_append_left _ (List.mem_append_left _ (List.mem_append_right _ (h)))))))))))
  have iX6 : ∀ w ∈ u_ws RX6 TX6 6, w ∈ wsX6_addPlanets := fun w h => List.mem_cons_of_mem _ (List.mem_append_left _ (List.mem_append_left _ (List.mem_append_left _ (List.mem_append_left _ (List.mem_append_left _ (List.mem_append_left _ (List.mem_append_left _ (List.mem_append_left _ (List.mem_append_left _ (List.mem_append_left _ (List.mem_append_right _ (h))))))))))))
  have hx0 := rep_x Hh Hr
  obtain ⟨m0, a0, hz0⟩ := rep_size Hh Hr 0 (by decide)
  obtain ⟨m3, a3, hz3⟩ := rep_size Hh Hr 3 (by decide)
  have hi := Hi.1
  refine lv_aload_n hx hb dX6_addPlanets_0 rfl (lv_at hl 0 rfl) ?_
  refine lv_iload_n hx hb dX6_addPlanets_1 rfl (lv_at hl 1 rfl) ?_
  rw [hQ]
  refine g_xVv (As := [.int un]) (rest := []) F hP hS (k_X6_requireShaft l hlt A G w ad Cn S T un Hh Hr Hi) (cwV 1 hts gX6_addPlanets_X6_requireShaft rfl rfl rfl cd_X6_requireShaft ⟨by rw [hR]; exact Nat.le_of_ble_eq_true rfl, by rw [hR]; exact Nat.le_of_ble_eq_true rfl⟩) hx0 rfl rfl rfl hl.1 (Nat.le_of_ble_eq_true rfl) dX6_addPlanets_2 ⟨by rw [hR]; exact Nat.le_of_ble_eq_true rfl, by rw [hR]; exact Nat.le_of_ble_eq_true rfl⟩ rfl hout hlocks (by decide) (by decide) (fun u h => by obtain ⟨h1, h2⟩ := h; subst h1; exact ⟨rfl, Or.inl ⟨rfl, (if_neg (fun q => h2 q.1))⟩⟩) (fun w2 H locs h3 hP hS => ?_)
  rw [← hQ]
  rw [h3.2] at hP
  have sks := h3.1
  obtain ⟨ks, hks, eks⟩ := ix_of sks.1 sks.2
  subst eks
  have nks : kN (nI ks) = ks := kN_n (by omega)
  refine lv_aload_n hx hb dX6_addPlanets_5 rfl (lv_at hl 0 rfl) ?_
  refine lv_iload_n hx hb dX6_addPlanets_6 rfl (lv_at hl 2 rfl) ?_
  rw [hQ]
  refine g_xVv (As := [.int vn]) (rest := []) F hP hS (k_X6_requireShaft l hlt A G w ad Cn S T vn Hh Hr Hi) (cwV 1 hts gX6_addPlanets_X6_requireShaft rfl rfl rfl cd_X6_requireShaft ⟨by rw [hR]; exact Nat.le_of_ble_eq_true rfl, by rw [hR]; exact Nat.le_of_ble_eq_true rfl⟩) hx0 rfl rfl rfl hl.1 (Nat.le_of_ble_eq_true rfl) dX6_addPlanets_7 ⟨by rw [hR]; exact Nat.le_of_ble_eq_true rfl, by rw [hR]; exact Nat.le_of_ble_eq_true rfl⟩ rfl hout hlocks (by decide) (by decide) (fun u h => by obtain ⟨h1, h2⟩ := h; subst h1; exact ⟨rfl, Or.inl ⟨rfl, (if_neg (fun q => h2 q.2.1))⟩⟩) (fun w5 H locs h6 hP hS => ?_)
  rw [← hQ]
  rw [h6.2] at hP
  have skr := h6.1
  obtain ⟨kr, hkr, ekr⟩ := ix_of skr.1 skr.2
  subst ekr
  have nkr : kN (nI kr) = kr := kN_n (by omega)
  refine lv_aload_n hx hb dX6_addPlanets_10 rfl (lv_at hl 0 rfl) ?_
  refine lv_iload_n hx hb dX6_addPlanets_11 rfl (lv_at hl 3 rfl) ?_
  rw [hQ]
  refine g_xVv (As := [.int zn]) (rest := []) F hP hS (k_X6_requireShaft l hlt A G w ad Cn S T zn Hh Hr Hi) (cwV 1 hts gX6_addPlanets_X6_requireShaft rfl rfl rfl cd_X6_requireShaft ⟨by rw [hR]; exact Nat.le_of_ble_eq_true rfl, by rw [hR]; exact Nat.le_of_ble_eq_true rfl⟩) hx0 rfl rfl rfl hl.1 (Nat.le_of_ble_eq_true rfl) dX6_addPlanets_12 ⟨by rw [hR]; exact Nat.le_of_ble_eq_true rfl, by rw [hR]; exact Nat.le_of_ble_eq_true rfl⟩ rfl hout hlocks (by decide) (by decide) (fun u h => by obtain ⟨h1, h2⟩ := h; subst h1; exact ⟨rfl, Or.inl ⟨rfl, (if_neg (fun q => h2 q.2.2))⟩⟩) (fun w8 H locs h9 hP hS => ?_)
  rw [← hQ]
  rw [h9.2] at hP
  have skc := h9.1
  obtain ⟨kc, hkc, ekc⟩ := ix_of skc.1 skc.2
  subst ekc
  have nkc : kN (nI kc) = kc := kN_n (by omega)
  refine lv_iload_n hx hb dX6_addPlanets_15 rfl (lv_at hl 1 rfl) ?_
  refine lv_iload_n hx hb dX6_addPlanets_16 rfl (lv_at hl 2 rfl) ?_
  refine lv_icmp_eq (tgt := 30) hx hb dX6_addPlanets_17 (by decide) (fun c10 => ?_) (fun c10 => ?_)
  · rw [hQ]
    refine g_throw F hP hS hlt rfl (hZ.2.2.2.2.2.2.2.1 ("java/lang/IllegalArgumentException", "java/lang/IllegalArgumentException") (List.mem_of_getElem? (i := 0) rfl)) (by decide +kernel) (List.mem_cons_of_mem _ (List.mem_append_left _ (List.mem_append_left _ (List.mem_append_left _ (List.mem_append_left _ (List.mem_append_left _ (List.mem_append_left _ (List.mem_append_left _ (List.mem_append_left _ (List.mem_append_left _ (List.mem_append_left _ (List.mem_append_left _ (List.mem_append_left _ (List.mem_of_getElem? (i := 0) rfl)))))))))))))) (List.mem_cons_of_mem _ (List.mem_append_left _ (List.mem_append_left _ (List.mem_append_left _ (List.mem_append_left _ (List.mem_append_left _ (List.mem_append_left _ (List.mem_append_left _ (List.mem_append_left _ (List.mem_append_left _ (List.mem_append_left _ (List.mem_append_left _ (List.mem_append_left _ (List.mem_of_getElem? (i := 1) rfl)))))))))))))) (cls := "java/lang/IllegalArgumentException") (text := "a shaft stands twice in the set") (List.mem_of_getElem? (i := 2) rfl) (fun w h => List.mem_cons_of_mem _ (List.mem_append_left _ (List.mem_append_left _ (List.mem_append_right _ (h))))) xt_IllegalAr_81_b (fun w h => (List.mem_cons.mp h).elim (fun e => by rw [e]; rfl) (fun h => (List.mem_cons.mp h).elim (fun e => by rw [e]; rfl) (fun h => xt_IllegalAr_81_g w h))) hl.1 dX6_addPlanets_30 dX6_addPlanets_33 dX6_addPlanets_34 dX6_addPlanets_36 dX6_addPlanets_39 hout (by rw [hR]; exact Nat.le_of_ble_eq_true rfl) (by rw [hR]; exact Nat.le_of_ble_eq_true rfl) (by rw [hR]; exact Nat.le_of_ble_eq_true rfl) (by rw [hR]; exact Nat.le_of_ble_eq_true rfl) hlocks ?_ (by decide) (by decide)
    exact ⟨rfl, Or.inr (Or.inl ⟨rfl, (if_pos ⟨sks, skr, skc⟩).trans (if_neg (fun q => q.1.1 c10))⟩)⟩
  · refine lv_iload_n hx hb dX6_addPlanets_20 rfl (lv_at hl 1 rfl) ?_
    refine lv_iload_n hx hb dX6_addPlanets_21 rfl (lv_at hl 3 rfl) ?_
    refine lv_icmp_eq (tgt := 30) hx hb dX6_addPlanets_22 (by decide) (fun c11 => ?_) (fun c11 => ?_)
    · rw [hQ]
      refine g_throw F hP hS hlt rfl (hZ.2.2.2.2.2.2.2.1 ("java/lang/IllegalArgumentException", "java/lang/IllegalArgumentException") (List.mem_of_getElem? (i := 0) rfl)) (by decide +kernel) (List.mem_cons_of_mem _ (List.mem_append_left _ (List.mem_append_left _ (List.mem_append_left _ (List.mem_append_left _ (List.mem_append_left _ (List.mem_append_left _ (List.mem_append_left _ (List.mem_append_left _ (List.mem_append_left _ (List.mem_append_left _ (List.mem_append_left _ (List.mem_append_left _ (List.mem_of_getElem? (i := 0) rfl)))))))))))))) (List.mem_cons_of_mem _ (List.mem_append_left _ (List.mem_append_left _ (List.mem_append_left _ (List.mem_append_left _ (List.mem_append_left _ (List.mem_append_left _ (List.mem_append_left _ (List.mem_append_left _ (List.mem_append_left _ (List.mem_append_left _ (List.mem_append_left _ (List.mem_append_left _ (List.mem_of_getElem? (i := 1) rfl)))))))))))))) (cls := "java/lang/IllegalArgumentException") (text := "a shaft stands twice in the set") (List.mem_of_getElem? (i := 2) rfl) (fun w h => List.mem_cons_of_mem _ (List.mem_append_left _ (List.mem_append_left _ (List.mem_append_right _ (h))))) xt_IllegalAr_81_b (fun w h => (List.mem_cons.mp h).elim (fun e => by rw [e]; rfl) (fun h => (List.mem_cons.mp h).elim (fun e => by rw [e]; rfl) (fun h => xt_IllegalAr_81_g w h))) hl.1 dX6_addPlanets_30 dX6_addPlanets_33 dX6_addPlanets_34 dX6_addPlanets_36 dX6_addPlanets_39 hout (by rw [hR]; exact Nat.le_of_ble_eq_true rfl) (by rw [hR]; exact Nat.le_of_ble_eq_true rfl) (by rw [hR]; exact Nat.le_of_ble_eq_true rfl) (by rw [hR]; exact Nat.le_of_ble_eq_true rfl) hlocks ?_ (by decide) (by decide)
      exact ⟨rfl, Or.inr (Or.inl ⟨rfl, (if_pos ⟨sks, skr, skc⟩).trans (if_neg (fun q => q.1.2.1 c11))⟩)⟩
    · refine lv_iload_n hx hb dX6_addPlanets_25 rfl (lv_at hl 2 rfl) ?_
      refine lv_iload_n hx hb dX6_addPlanets_26 rfl (lv_at hl 3 rfl) ?_
      refine lv_icmp_ne (tgt := 40) hx hb dX6_addPlanets_27 (by decide) (fun c12 => ?_) (fun c12 => ?_)
      · refine lv_iload hx hb dX6_addPlanets_40 (lv_at hl 4 rfl) ?_
        refine lv_bipush (v := 8) hx hb dX6_addPlanets_42 (by decide) ?_
        refine lv_bipush (v := 100) hx hb dX6_addPlanets_44 (by decide) ?_
        refine g_Si (As := [.int tn, .int 8, .int 100]) (rest := []) F hP hS (k_X6_isWithin l A G w tn 8 100) (va_cwS 3 hts gX6_addPlanets_X6_isWithin rfl rfl rfl cd_X6_isWithin ⟨by rw [hR]; exact Nat.le_of_ble_eq_true rfl, by rw [hR]; exact Nat.le_of_ble_eq_true rfl⟩) rfl hl.1 (Nat.le_of_ble_eq_true rfl) dX6_addPlanets_46 ⟨by rw [hR]; exact Nat.le_of_ble_eq_true rfl, by rw [hR]; exact Nat.le_of_ble_eq_true rfl⟩ rfl (fun r13 w14 H locs h15 hP hS => ?_)
        have hr13 := h15.1
        rw [h15.2] at hP
        rw [hr13]
        refine lv_if_eq (tgt := 64) hx hb dX6_addPlanets_49 (by decide) (fun c16 => ?_) (fun c16 => ?_)
        · have yc16 := of_decide_eq_false (g_b0.mp c16)
          have kc16 : (8 ≤ tn ∧ tn ≤ 100) ↔ inQ tn 8 100 := by rw [Int32.le_iff_toInt_le, Int32.le_iff_toInt_le]; exact Iff.rfl
          rw [kc16] at yc16
          rw [hQ]
          refine g_throw F hP hS hlt rfl (hZ.2.2.2.2.2.2.2.1 ("java/lang/IllegalArgumentException", "java/lang/IllegalArgumentException") (List.mem_of_getElem? (i := 0) rfl)) (by decide +kernel) (List.mem_cons_of_mem _ (List.mem_append_left _ (List.mem_append_left _ (List.mem_append_left _ (List.mem_append_left _ (List.mem_append_left _ (List.mem_append_left _ (List.mem_append_left _ (List.mem_append_left _ (List.mem_append_left _ (List.mem_append_left _ (List.mem_append_left _ (List.mem_append_left _ (List.mem_of_getElem? (i := 0) rfl)))))))))))))) (List.mem_cons_of_mem _ (List.mem_append_left _ (List.mem_append_left _ (List.mem_append_left _ (List.mem_append_left _ (List.mem_append_left _ (List.mem_append_left _ (List.mem_append_left _ (List.mem_append_left _ (List.mem_append_left _ (List.mem_append_left _ (List.mem_append_left _ (List.mem_append_left _ (List.mem_of_getElem? (i := 1) rfl)))))))))))))) (cls := "java/lang/IllegalArgumentException") (text := "no such number of teeth") (List.mem_of_getElem? (i := 3) rfl) (fun w h => List.mem_cons_of_mem _ (List.mem_append_left _ (List.mem_append_left _ (List.mem_append_right _ (h))))) xt_IllegalAr_81_b (fun w h => (List.mem_cons.mp h).elim (fun e => by rw [e]; rfl) (fun h => (List.mem_cons.mp h).elim (fun e => by rw [e]; rfl) (fun h => xt_IllegalAr_81_g w h))) hl.1 dX6_addPlanets_64 dX6_addPlanets_67 dX6_addPlanets_68 dX6_addPlanets_70 dX6_addPlanets_73 hout (by rw [hR]; exact Nat.le_of_ble_eq_true rfl) (by rw [hR]; exact Nat.le_of_ble_eq_true rfl) (by rw [hR]; exact Nat.le_of_ble_eq_true rfl) (by rw [hR]; exact Nat.le_of_ble_eq_true rfl) hlocks ?_ (by decide) (by decide)
          exact ⟨rfl, Or.inr (Or.inl ⟨rfl, (if_pos ⟨sks, skr, skc⟩).trans (if_neg (fun q => yc16 q.2.1))⟩)⟩
        · have yc16 := of_decide_eq_true (g_b1.mp c16)
          have kc16 : (8 ≤ tn ∧ tn ≤ 100) ↔ inQ tn 8 100 := by rw [Int32.le_iff_toInt_le, Int32.le_iff_toInt_le]; exact Iff.rfl
          rw [kc16] at yc16
          refine lv_iload hx hb dX6_addPlanets_52 (lv_at hl 5 rfl) ?_
          refine lv_bipush (v := 8) hx hb dX6_addPlanets_54 (by decide) ?_
          refine lv_bipush (v := 100) hx hb dX6_addPlanets_56 (by decide) ?_
          refine g_Si (As := [.int pn, .int 8, .int 100]) (rest := []) F hP hS (k_X6_isWithin l A G w pn 8 100) (va_cwS 3 hts gX6_addPlanets_X6_isWithin rfl rfl rfl cd_X6_isWithin ⟨by rw [hR]; exact Nat.le_of_ble_eq_true rfl, by rw [hR]; exact Nat.le_of_ble_eq_true rfl⟩) rfl hl.1 (Nat.le_of_ble_eq_true rfl) dX6_addPlanets_58 ⟨by rw [hR]; exact Nat.le_of_ble_eq_true rfl, by rw [hR]; exact Nat.le_of_ble_eq_true rfl⟩ rfl (fun r17 w18 H locs h19 hP hS => ?_)
          have hr17 := h19.1
          rw [h19.2] at hP
          rw [hr17]
          refine lv_if_ne (tgt := 74) hx hb dX6_addPlanets_61 (by decide) (fun c20 => ?_) (fun c20 => ?_)
          · have yc20 := of_decide_eq_true (g_b1.mp c20)
            have kc20 : (8 ≤ pn ∧ pn ≤ 100) ↔ inQ pn 8 100 := by rw [Int32.le_iff_toInt_le, Int32.le_iff_toInt_le]; exact Iff.rfl
            rw [kc20] at yc20
            refine lv_aload_n hx hb dX6_addPlanets_74 rfl (lv_at hl 0 rfl) ?_
            refine g_get F hP (C := RX6) (T := TX6) (N := 6) iX6 hx0 rfl 3 (by decide) (List.mem_cons_of_mem _ (List.mem_append_left _ (List.mem_append_left _ (List.mem_append_left _ (List.mem_append_left _ (List.mem_append_left _ (List.mem_append_left _ (List.mem_append_left _ (List.mem_append_left _ (List.mem_append_left _ (List.mem_append_left _ (List.mem_append_left _ (List.mem_append_left _ (List.mem_of_getElem? (i := 4) rfl)))))))))))))) (fun _ h9 => h9) rfl dX6_addPlanets_75 ?_
            refine g_Vi (As := []) (rest := []) F hP hS (k_size l A G w (ad 1 3) a3 m3 (iL (S 0 3)) hz3) (cwV 0 hts gX6_addPlanets_Jx4a65c_size_8abf5 rfl rfl rfl cd_Jx4a65c_size_8abf5 ⟨by rw [hR]; exact Nat.le_of_ble_eq_true rfl, by rw [hR]; exact Nat.le_of_ble_eq_true rfl⟩) hz3 rfl rfl rfl hl.1 (Nat.le_of_ble_eq_true rfl) dX6_addPlanets_78 ⟨by rw [hR]; exact Nat.le_of_ble_eq_true rfl, by rw [hR]; exact Nat.le_of_ble_eq_true rfl⟩ rfl (fun r21 w22 H locs h23 hP hS => ?_)
            have hr21 := h23.1
            rw [h23.2] at hP
            rw [hr21]
            refine lv_iconst (v := 4) hx hb dX6_addPlanets_81 (by decide) ?_
            refine lv_icmp_lt (tgt := 95) hx hb dX6_addPlanets_82 (by decide) (fun c24 => ?_) (fun c24 => ?_)
            · rw [show (4 : Int32) = iL 4 from rfl, iL_lt (by omega) (by omega) (by omega) (by omega)] at c24
              obtain ⟨gm9, gc9, gf9, ga9, gb9, gn9, gd9, ge9⟩ := rep_getA Hh Hr 0 (by decide) (by omega)
              have f25 := rep_sh Hh Hr hks
              have f26 := rep_fr Hh Hr hks
              have f27 := rep_sh Hh Hr hkr
              have f28 := rep_fr Hh Hr hkr
              have f29 := rep_sh Hh Hr hkc
              have f30 := rep_fr Hh Hr hkc
              refine lv_aload_n hx hb dX6_addPlanets_95 rfl (lv_at hl 0 rfl) ?_
              refine g_get F hP (C := RX6) (T := TX6) (N := 6) iX6 hx0 rfl 3 (by decide) (List.mem_cons_of_mem _ (List.mem_append_left _ (List.mem_append_left _ (List.mem_append_left _ (List.mem_append_left _ (List.mem_append_left _ (List.mem_append_left _ (List.mem_append_left _ (List.mem_append_left _ (List.mem_append_left _ (List.mem_append_left _ (List.mem_append_left _ (List.mem_append_left _ (List.mem_of_getElem? (i := 4) rfl)))))))))))))) (fun _ h9 => h9) rfl dX6_addPlanets_96 ?_
              refine g_new F hP hS (ci := 4) (C := RX3) (T := TX3) (N := 2) (fs := [.int 0, .null]) iX3 tyX3 tyX3_ok (List.mem_cons_of_mem _ (List.mem_append_left _ (List.mem_append_left _ (List.mem_append_left _ (List.mem_append_left _ (List.mem_append_left _ (List.mem_append_left _ (List.mem_append_left _ (List.mem_append_left _ (List.mem_append_left _ (List.mem_append_left _ (List.mem_append_left _ (List.mem_append_left _ (List.mem_of_getElem? (i := 5) rfl)))))))))))))) (List.mem_cons_of_mem _ (List.mem_append_left _ (List.mem_append_left _ (List.mem_append_left _ (List.mem_append_left _ (List.mem_append_left _ (List.mem_append_left _ (List.mem_append_left _ (List.mem_append_left _ (List.mem_append_left _ (List.mem_append_left _ (List.mem_append_left _ (List.mem_append_left _ (List.mem_of_getElem? (i := 6) rfl)))))))))))))) (List.mem_cons_of_mem _ (List.mem_append_left _ (List.mem_append_left _ (List.mem_append_left _ (List.mem_append_left _ (List.mem_append_left _ (List.mem_append_left _ (List.mem_append_left _ (List.mem_append_left _ (List.mem_append_left _ (List.mem_append_left _ (List.mem_append_left _ (List.mem_append_left _ (List.mem_of_getElem? (i := 7) rfl)))))))))))))) rfl (by intro j hj; match j, hj with | 0, _ => rfl | 1, _ => rfl | j + 2, hj => exact absurd hj (by omega)) (by rw [hR]; exact Nat.le_of_ble_eq_true rfl) (by rw [hR]; exact Nat.le_of_ble_eq_true rfl) dX6_addPlanets_99 (fun q31 H nq31 hP hS => ?_)
              obtain ⟨w32, ew32⟩ : ∃ z, z = g_up w q31 (.inr (4, [.int 0, .null])) := ⟨_, rfl⟩
              have hP : g_P A G w32 H := by rw [ew32]; exact hP
              have f33 : w32 (ad 0 0) = some (.inr (7, [.ref (ad 1 0), .ref (ad 1 1), .ref (ad 1 2), .ref (ad 1 3), .int (iL (S 0 4)), .int (iL (S 0 5))])) := by rw [ew32]; exact g_up_f hx0 (g_neq hx0 nq31)
              have f34 : w32 (ad 1 0) = some (.inr (0, [.int gm9, .ref (ad 2 0), .int (nI (S 0 0).toNat)])) := by rw [ew32]; exact g_up_f ga9 (g_neq ga9 nq31)
              have f35 : w32 (ad 1 3) = some (.inr (0, [.int m3, .ref a3, .int (iL (S 0 3))])) := by rw [ew32]; exact g_up_f hz3 (g_neq hz3 nq31)
              have f36 : w32 (ad 2 0) = some (.inl (G.2.1 3, gc9, .inr (.inr (.inr (.inr gf9))))) := by rw [ew32]; exact g_up_f gb9 (g_neq gb9 nq31)
              have f37 : w32 (ad 3 ks) = some (.inr (5, [.int (iL (S 1 ks)), .int (iL (S 2 ks)), .int (iL (S 3 ks)), .int (iL (T 2 ks)), .ref (ad 4 ks)])) := by rw [ew32]; exact g_up_f f25 (g_neq f25 nq31)
              have f38 : w32 (ad 4 ks) = some (.inr (1, [.long (zL (T 0 ks)), .long (zL (T 1 ks))])) := by rw [ew32]; exact g_up_f f26 (g_neq f26 nq31)
              have f39 : w32 (ad 3 kr) = some (.inr (5, [.int (iL (S 1 kr)), .int (iL (S 2 kr)), .int (iL (S 3 kr)), .int (iL (T 2 kr)), .ref (ad 4 kr)])) := by rw [ew32]; exact g_up_f f27 (g_neq f27 nq31)
              have f40 : w32 (ad 4 kr) = some (.inr (1, [.long (zL (T 0 kr)), .long (zL (T 1 kr))])) := by rw [ew32]; exact g_up_f f28 (g_neq f28 nq31)
              have f41 : w32 (ad 3 kc) = some (.inr (5, [.int (iL (S 1 kc)), .int (iL (S 2 kc)), .int (iL (S 3 kc)), .int (iL (T 2 kc)), .ref (ad 4 kc)])) := by rw [ew32]; exact g_up_f f29 (g_neq f29 nq31)
              have f42 : w32 (ad 4 kc) = some (.inr (1, [.long (zL (T 0 kc)), .long (zL (T 1 kc))])) := by rw [ew32]; exact g_up_f f30 (g_neq f30 nq31)
              have f43 : w32 q31 = some (.inr (4, [.int 0, .null])) := by rw [ew32]; exact g_up_s _ _ _
              refine lv_dup hx hb dX6_addPlanets_102 rfl ?_
              refine lv_aload_n hx hb dX6_addPlanets_103 rfl (lv_at hl 0 rfl) ?_
              refine g_get F hP (C := RX6) (T := TX6) (N := 6) iX6 f33 rfl 0 (by decide) (List.mem_cons_of_mem _ (List.mem_append_left _ (List.mem_append_left _ (List.mem_append_left _ (List.mem_append_left _ (List.mem_append_left _ (List.mem_append_left _ (List.mem_append_left _ (List.mem_append_left _ (List.mem_append_left _ (List.mem_append_left _ (List.mem_append_left _ (List.mem_append_left _ (List.mem_of_getElem? (i := 8) rfl)))))))))))))) (fun _ h9 => h9) rfl dX6_addPlanets_104 ?_
              refine lv_iload_n hx hb dX6_addPlanets_107 rfl (lv_at hl 1 rfl) ?_
              refine g_Vq (As := [.int (nI ks)]) (rest := [.ref q31, .ref q31, .ref (ad 1 3)]) F hP hS (k_get l A G w32 (ad 1 0) (ad 2 0) (S 0 0).toNat gc9 gm9 gf9 ks f34 f36 (by omega) gn9 gd9) (cwV 1 hts gX6_addPlanets_Jx4a65c_get_915e3 rfl rfl rfl cd_Jx4a65c_get_915e3 ⟨by rw [hR]; exact Nat.le_of_ble_eq_true rfl, by rw [hR]; exact Nat.le_of_ble_eq_true rfl⟩) f34 rfl rfl rfl hl.1 (Nat.le_of_ble_eq_true rfl) dX6_addPlanets_108 ⟨by rw [hR]; exact Nat.le_of_ble_eq_true rfl, by rw [hR]; exact Nat.le_of_ble_eq_true rfl⟩ rfl (fun r44 w45 H locs h46 hP hS => ?_)
              have hr44 := h46.1
              rw [h46.2] at hP
              rw [hr44, ge9 ks hks, show va_rf (some (ad (elk 0) ks)) = .ref (ad 3 ks) from rfl]
              refine g_cast F hP (C := RX4) (T := TX4) (N := 5) f37 rfl (List.mem_cons_of_mem _ (List.mem_append_left _ (List.mem_append_left _ (List.mem_append_left _ (List.mem_append_left _ (List.mem_append_left _ (List.mem_append_left _ (List.mem_append_left _ (List.mem_append_left _ (List.mem_append_left _ (List.mem_append_left _ (List.mem_append_left _ (List.mem_append_left _ (List.mem_of_getElem? (i := 9) rfl)))))))))))))) dX6_addPlanets_111 ?_
              refine lv_aload_n hx hb dX6_addPlanets_114 rfl (lv_at hl 0 rfl) ?_
              refine g_get F hP (C := RX6) (T := TX6) (N := 6) iX6 f33 rfl 0 (by decide) (List.mem_cons_of_mem _ (List.mem_append_left _ (List.mem_append_left _ (List.mem_append_left _ (List.mem_append_left _ (List.mem_append_left _ (List.mem_append_left _ (List.mem_append_left _ (List.mem_append_left _ (List.mem_append_left _ (List.mem_append_left _ (List.mem_append_left _ (List.mem_append_left _ (List.mem_of_getElem? (i := 8) rfl)))))))))))))) (fun _ h9 => h9) rfl dX6_addPlanets_115 ?_
              refine lv_iload_n hx hb dX6_addPlanets_118 rfl (lv_at hl 2 rfl) ?_
              refine g_Vq (As := [.int (nI kr)]) (rest := [.ref (ad 3 ks), .ref q31, .ref q31, .ref (ad 1 3)]) F hP hS (k_get l A G w32 (ad 1 0) (ad 2 0) (S 0 0).toNat gc9 gm9 gf9 kr f34 f36 (by omega) gn9 gd9) (cwV 1 hts gX6_addPlanets_Jx4a65c_get_915e3 rfl rfl rfl cd_Jx4a65c_get_915e3 ⟨by rw [hR]; exact Nat.le_of_ble_eq_true rfl, by rw [hR]; exact Nat.le_of_ble_eq_true rfl⟩) f34 rfl rfl rfl hl.1 (Nat.le_of_ble_eq_true rfl) dX6_addPlanets_119 ⟨by rw [hR]; exact Nat.le_of_ble_eq_true rfl, by rw [hR]; exact Nat.le_of_ble_eq_true rfl⟩ rfl (fun r47 w48 H locs h49 hP hS => ?_)
              have hr47 := h49.1
              rw [h49.2] at hP
              rw [hr47, ge9 kr hkr, show va_rf (some (ad (elk 0) kr)) = .ref (ad 3 kr) from rfl]
              refine g_cast F hP (C := RX4) (T := TX4) (N := 5) f39 rfl (List.mem_cons_of_mem _ (List.mem_append_left _ (List.mem_append_left _ (List.mem_append_left _ (List.mem_append_left _ (List.mem_append_left _ (List.mem_append_left _ (List.mem_append_left _ (List.mem_append_left _ (List.mem_append_left _ (List.mem_append_left _ (List.mem_append_left _ (List.mem_append_left _ (List.mem_of_getElem? (i := 9) rfl)))))))))))))) dX6_addPlanets_122 ?_
              refine lv_aload_n hx hb dX6_addPlanets_125 rfl (lv_at hl 0 rfl) ?_
              refine g_get F hP (C := RX6) (T := TX6) (N := 6) iX6 f33 rfl 0 (by decide) (List.mem_cons_of_mem _ (List.mem_append_left _ (List.mem_append_left _ (List.mem_append_left _ (List.mem_append_left _ (List.mem_append_left _ (List.mem_append_left _ (List.mem_append_left _ (List.mem_append_left _ (List.mem_append_left _ (List.mem_append_left _ (List.mem_append_left _ (List.mem_append_left _ (List.mem_of_getElem? (i := 8) rfl)))))))))))))) (fun _ h9 => h9) rfl dX6_addPlanets_126 ?_
              refine lv_iload_n hx hb dX6_addPlanets_129 rfl (lv_at hl 3 rfl) ?_
              refine g_Vq (As := [.int (nI kc)]) (rest := [.ref (ad 3 kr), .ref (ad 3 ks), .ref q31, .ref q31, .ref (ad 1 3)]) F hP hS (k_get l A G w32 (ad 1 0) (ad 2 0) (S 0 0).toNat gc9 gm9 gf9 kc f34 f36 (by omega) gn9 gd9) (cwV 1 hts gX6_addPlanets_Jx4a65c_get_915e3 rfl rfl rfl cd_Jx4a65c_get_915e3 ⟨by rw [hR]; exact Nat.le_of_ble_eq_true rfl, by rw [hR]; exact Nat.le_of_ble_eq_true rfl⟩) f34 rfl rfl rfl hl.1 (Nat.le_of_ble_eq_true rfl) dX6_addPlanets_130 ⟨by rw [hR]; exact Nat.le_of_ble_eq_true rfl, by rw [hR]; exact Nat.le_of_ble_eq_true rfl⟩ rfl (fun r50 w51 H locs h52 hP hS => ?_)
              have hr50 := h52.1
              rw [h52.2] at hP
              rw [hr50, ge9 kc hkc, show va_rf (some (ad (elk 0) kc)) = .ref (ad 3 kc) from rfl]
              refine g_cast F hP (C := RX4) (T := TX4) (N := 5) f41 rfl (List.mem_cons_of_mem _ (List.mem_append_left _ (List.mem_append_left _ (List.mem_append_left _ (List.mem_append_left _ (List.mem_append_left _ (List.mem_append_left _ (List.mem_append_left _ (List.mem_append_left _ (List.mem_append_left _ (List.mem_append_left _ (List.mem_append_left _ (List.mem_append_left _ (List.mem_of_getElem? (i := 9) rfl)))))))))))))) dX6_addPlanets_133 ?_
              refine lv_iload hx hb dX6_addPlanets_136 (lv_at hl 4 rfl) ?_
              refine lv_iload hx hb dX6_addPlanets_138 (lv_at hl 5 rfl) ?_
              refine g_Iv (As := [.ref (ad 3 ks), .ref (ad 3 kr), .ref (ad 3 kc), .int tn, .int pn]) (rest := [.ref q31, .ref (ad 1 3)]) F hP hS (k_X3_init l A G w32 q31 (ad 3 ks) (ad 3 kr) (ad 3 kc) tn pn _ _ _ _ _ _ _ _ _ _ _ _ _ _ _ f43 f37 f39 f41) (cwI 5 hts gX6_addPlanets_X3_init rfl rfl rfl (hts _ (List.mem_cons_of_mem _ (List.mem_append_left _ (List.mem_append_left _ (List.mem_append_left _ (List.mem_append_left _ (List.mem_append_left _ (List.mem_append_left _ (List.mem_append_left _ (List.mem_append_left _ (List.mem_append_left _ (List.mem_append_left _ (List.mem_append_left _ (List.mem_append_left _ (List.mem_of_getElem? (i := 7) rfl))))))))))))))) (hts _ (List.mem_cons_of_mem _ (List.mem_append_left _ (List.mem_append_left _ (List.mem_append_left _ (List.mem_append_left _ (List.mem_append_left _ (List.mem_append_left _ (List.mem_append_left _ (List.mem_append_left _ (List.mem_append_left _ (List.mem_append_left _ (List.mem_append_left _ (List.mem_append_right _ (List.mem_append_left _ (List.mem_of_getElem? (i := 19) rfl)))))))))))))))) (hts _ (List.mem_cons_of_mem _ (List.mem_append_left _ (List.mem_append_left _ (List.mem_append_left _ (List.mem_append_left _ (List.mem_append_left _ (List.mem_append_left _ (List.mem_append_left _ (List.mem_append_left _ (List.mem_append_left _ (List.mem_append_left _ (List.mem_append_left _ (List.mem_append_right _ (List.mem_append_left _ (List.mem_of_getElem? (i := 20) rfl)))))))))))))))) rfl cd_X3_init ⟨by rw [hR]; exact Nat.le_of_ble_eq_true rfl, by rw [hR]; exact Nat.le_of_ble_eq_true rfl⟩) rfl hl.1 (Nat.le_of_ble_eq_true rfl) dX6_addPlanets_140 ⟨by rw [hR]; exact Nat.le_of_ble_eq_true rfl, by rw [hR]; exact Nat.le_of_ble_eq_true rfl⟩ rfl (fun w54 H locs h55 hP hS => ?_)
              obtain ⟨qq1, qq2, qq3, qq4, qq5, qq6, fS, ⟨nn1, nn2, nn3, nn4, nn5, nn6⟩, ⟨dd1_2, dd1_3, dd1_4, dd1_5, dd1_6, dd2_3, dd2_4, dd2_5, dd2_6, dd3_4, dd3_5, dd3_6, dd4_5, dd4_6, dd5_6⟩, fs0, ewi⟩ := h55
              obtain ⟨ad2, C2, g2, H2, R2, dA, ⟨t0, t1, t2, t3, t4, t5, t6⟩, cc0, cc1, cc2, cc3, cc4, cc5, cc6⟩ := seven_new (b := 11) (n := (S 0 3).toNat) Hh Hr Hi (fun k i h => by unfold relN at h; omega) nq31 ew32 nn1 nn2 nn3 nn4 nn5 nn6 dd1_2 dd1_3 dd1_4 dd1_5 dd1_6 dd2_3 dd2_4 dd2_5 dd2_6 dd3_4 dd3_5 dd3_6 dd4_5 dd4_6 dd5_6 ewi
              have t0 : ad2 11 (S 0 3).toNat = q31 := t0
              have cc0 : C2 11 (S 0 3).toNat = _ := cc0
              have t1 : ad2 12 (S 0 3).toNat = qq1 := t1
              have cc1 : C2 12 (S 0 3).toNat = _ := cc1
              have t2 : ad2 13 (S 0 3).toNat = qq2 := t2
              have cc2 : C2 13 (S 0 3).toNat = _ := cc2
              have t3 : ad2 15 (S 0 3).toNat = qq3 := t3
              have cc3 : C2 15 (S 0 3).toNat = _ := cc3
              have t4 : ad2 21 (S 0 3).toNat = qq4 := t4
              have cc4 : C2 21 (S 0 3).toNat = _ := cc4
              have t5 : ad2 22 (S 0 3).toNat = qq5 := t5
              have cc5 : C2 22 (S 0 3).toNat = _ := cc5
              have t6 : ad2 23 (S 0 3).toNat = qq6 := t6
              have cc6 : C2 23 (S 0 3).toNat = _ := cc6
              have d10 : ad2 1 3 = ad 1 3 := dA 1 3 (by omega)
              have d00 : ad2 0 0 = ad 0 0 := dA 0 0 (by omega)
              have hv := H2.1 _ _ _ cc0
              rw [t0] at hv
              obtain ⟨ha, mo, fl, hL, l1, l2, hf⟩ := listW_j H2 R2 Hi (j := 3) (by decide) (ci := 4) (fun k hk => ⟨_, rep_pl H2 R2 hk⟩)
              obtain ⟨m9, a9, hz9⟩ := rep_size H2 R2 3 (by decide)
              rw [d10] at hL hz9
              refine g_Vi (As := [.ref q31]) (rest := []) F hP hS (k_addU l A G w54 (ad 1 3) (ad2 2 3) (S 0 3).toNat 4 ha mo fl hL q31 _ _ hv rfl (by decide +kernel) (g_nci hv hz9 (by decide))) (cwV 1 hts gX6_addPlanets_Jx4a65c_add_9ea2d rfl rfl rfl cd_Jx4a65c_add_9ea2d ⟨by rw [hR]; exact Nat.le_of_ble_eq_true rfl, by rw [hR]; exact Nat.le_of_ble_eq_true rfl⟩) hz9 rfl rfl rfl hl.1 (Nat.le_of_ble_eq_true rfl) dX6_addPlanets_143 ⟨by rw [hR]; exact Nat.le_of_ble_eq_true rfl, by rw [hR]; exact Nat.le_of_ble_eq_true rfl⟩ rfl (fun r56 w57 H locs h58 hP hS => ?_)
              rw [← d10] at h58
              have P9 := h58
              rw [show q31 = ad2 (elk 3) (S 0 3).toNat from t0.symm] at P9
              obtain ⟨ad3, C3, T3, z00, g3, H3, R3, I3⟩ := planets_fin (su := nI ks) (ri := nI kr) (ca := nI kc) (s := tn) (p := pn) Hi g2 H2 R2 d00 sks skr skc ⟨⟨c10, c11, c12⟩, yc16, yc20⟩ c24 (by rw [t1]; exact cc0) (by rw [t2, t3]; exact cc1) cc2 (by rw [nks, dA 3 ks (by omega)]; exact cc4) (by rw [nkr, dA 3 kr (by omega)]; exact cc5) (by rw [nkc, dA 3 kc (by omega)]; exact cc6) cc3 (by rw [t4, t5, t6]; exact fs0) l1 l2 hf P9
              have hxt := rep_x H3 R3
              rw [z00] at hxt
              refine lv_pop hx hb dX6_addPlanets_146 rfl ?_
              refine lv_aload_n hx hb dX6_addPlanets_147 rfl (lv_at hl 0 rfl) ?_
              have tq := k_X6_tellSpeeds l A G w57 ad3 C3 (nxAddPl S (nI ks) (nI kr) (nI kc) tn pn) T3 H3 R3 I3
              rw [z00] at tq
              refine g_Vv (As := []) (rest := []) F hP hS (tq) (cwV 0 hts gX6_addPlanets_X6_tellSpeeds rfl rfl rfl cd_X6_tellSpeeds ⟨by rw [hR]; exact Nat.le_of_ble_eq_true rfl, by rw [hR]; exact Nat.le_of_ble_eq_true rfl⟩) hxt rfl rfl rfl hl.1 (Nat.le_of_ble_eq_true rfl) dX6_addPlanets_148 ⟨by rw [hR]; exact Nat.le_of_ble_eq_true rfl, by rw [hR]; exact Nat.le_of_ble_eq_true rfl⟩ rfl (fun w60 H locs h61 hP hS => ?_)
              have aft := after_tell I3 z00 g3 h61
              obtain ⟨ad4, C4, T4, z0, z1, z2⟩ := id aft
              have hx3 := rep_x z2.1 z2.2.1
              rw [z0] at hx3
              obtain ⟨m33, a33, hz33⟩ := rep_size z2.1 z2.2.1 3 (by decide)
              refine lv_aload_n hx hb dX6_addPlanets_151 rfl (lv_at hl 0 rfl) ?_
              refine g_get F hP (C := RX6) (T := TX6) (N := 6) iX6 hx3 rfl 3 (by decide) (List.mem_cons_of_mem _ (List.mem_append_left _ (List.mem_append_left _ (List.mem_append_left _ (List.mem_append_left _ (List.mem_append_left _ (List.mem_append_left _ (List.mem_append_left _ (List.mem_append_left _ (List.mem_append_left _ (List.mem_append_left _ (List.mem_append_left _ (List.mem_append_left _ (List.mem_of_getElem? (i := 4) rfl)))))))))))))) (fun _ h9 => h9) rfl dX6_addPlanets_152 ?_
              refine g_Vi (As := []) (rest := []) F hP hS (k_size l A G w60 (ad4 1 3) a33 m33 (iL ((nxAddPl S (nI ks) (nI kr) (nI kc) tn pn) 0 3)) hz33) (cwV 0 hts gX6_addPlanets_Jx4a65c_size_8abf5 rfl rfl rfl cd_Jx4a65c_size_8abf5 ⟨by rw [hR]; exact Nat.le_of_ble_eq_true rfl, by rw [hR]; exact Nat.le_of_ble_eq_true rfl⟩) hz33 rfl rfl rfl hl.1 (Nat.le_of_ble_eq_true rfl) dX6_addPlanets_155 ⟨by rw [hR]; exact Nat.le_of_ble_eq_true rfl, by rw [hR]; exact Nat.le_of_ble_eq_true rfl⟩ rfl (fun r62 w63 H locs h64 hP hS => ?_)
              have hr62 := h64.1
              rw [h64.2] at hP
              rw [hr62]
              refine lv_iconst (v := 1) hx hb dX6_addPlanets_158 (by decide) ?_
              refine lv_isub hx hb dX6_addPlanets_159 ?_
              refine lv_topi (fun v65 ev65 => ?_)
              obtain rfl : v65 = iL (S 0 3) := by
                rw [ev65]
                rw [show nxAddPl S (nI ks) (nI kr) (nI kc) tn pn 0 3 = S 0 3 + 1 from by unfold nxAddPl; rw [up2_k _ _ _ (by decide), up2_k _ _ _ (by decide), up2_k _ _ _ (by decide), up2_k _ _ _ (by decide), up2_k _ _ _ (by decide), up2_s], show (1 : Int32) = iL 1 from rfl, iL_sub]
                rw [show S 0 3 + 1 - 1 = S 0 3 from by omega]
              rw [hQ]
              refine g_xiret F hP hS hlocks hr dX6_addPlanets_160 (by first | exact Nat.le_of_ble_eq_true rfl | omega) (by first | exact Nat.le_of_ble_eq_true rfl | omega) ?_
              exact ⟨(if_pos ⟨sks, skr, skc⟩).trans ((if_pos ⟨⟨c10, c11, c12⟩, yc16, yc20⟩).trans (if_pos c24)), rfl, aft⟩
            · rw [show (4 : Int32) = iL 4 from rfl, iL_lt (by omega) (by omega) (by omega) (by omega)] at c24
              rw [hQ]
              refine g_throw F hP hS hlt rfl (hZ.2.2.2.2.2.2.2.1 ("java/lang/IllegalStateException", "java/lang/IllegalStateException") (List.mem_of_getElem? (i := 1) rfl)) (by decide +kernel) (List.mem_cons_of_mem _ (List.mem_append_left _ (List.mem_append_left _ (List.mem_append_left _ (List.mem_append_left _ (List.mem_append_left _ (List.mem_append_left _ (List.mem_append_left _ (List.mem_append_left _ (List.mem_append_left _ (List.mem_append_left _ (List.mem_append_left _ (List.mem_append_left _ (List.mem_of_getElem? (i := 2) rfl)))))))))))))) (List.mem_cons_of_mem _ (List.mem_append_left _ (List.mem_append_left _ (List.mem_append_left _ (List.mem_append_left _ (List.mem_append_left _ (List.mem_append_left _ (List.mem_append_left _ (List.mem_append_left _ (List.mem_append_left _ (List.mem_append_left _ (List.mem_append_left _ (List.mem_append_left _ (List.mem_of_getElem? (i := 3) rfl)))))))))))))) (cls := "java/lang/IllegalStateException") (text := "no more planet sets") (List.mem_of_getElem? (i := 4) rfl) (fun w h => List.mem_cons_of_mem _ (List.mem_append_left _ (List.mem_append_right _ (h)))) xt_IllegalSt_44_b (fun w h => (List.mem_cons.mp h).elim (fun e => by rw [e]; rfl) (fun h => (List.mem_cons.mp h).elim (fun e => by rw [e]; rfl) (fun h => xt_IllegalSt_44_g w h))) hl.1 dX6_addPlanets_85 dX6_addPlanets_88 dX6_addPlanets_89 dX6_addPlanets_91 dX6_addPlanets_94 hout (by rw [hR]; exact Nat.le_of_ble_eq_true rfl) (by rw [hR]; exact Nat.le_of_ble_eq_true rfl) (by rw [hR]; exact Nat.le_of_ble_eq_true rfl) (by rw [hR]; exact Nat.le_of_ble_eq_true rfl) hlocks ?_ (by decide) (by decide)
              exact ⟨rfl, Or.inr (Or.inr ⟨rfl, (if_pos ⟨sks, skr, skc⟩).trans ((if_pos ⟨⟨c10, c11, c12⟩, yc16, yc20⟩).trans (if_neg c24))⟩)⟩
          · have yc20 := of_decide_eq_false (g_b0.mp c20)
            have kc20 : (8 ≤ pn ∧ pn ≤ 100) ↔ inQ pn 8 100 := by rw [Int32.le_iff_toInt_le, Int32.le_iff_toInt_le]; exact Iff.rfl
            rw [kc20] at yc20
            rw [hQ]
            refine g_throw F hP hS hlt rfl (hZ.2.2.2.2.2.2.2.1 ("java/lang/IllegalArgumentException", "java/lang/IllegalArgumentException") (List.mem_of_getElem? (i := 0) rfl)) (by decide +kernel) (List.mem_cons_of_mem _ (List.mem_append_left _ (List.mem_append_left _ (List.mem_append_left _ (List.mem_append_left _ (List.mem_append_left _ (List.mem_append_left _ (List.mem_append_left _ (List.mem_append_left _ (List.mem_append_left _ (List.mem_append_left _ (List.mem_append_left _ (List.mem_append_left _ (List.mem_of_getElem? (i := 0) rfl)))))))))))))) (List.mem_cons_of_mem _ (List.mem_append_left _ (List.mem_append_left _ (List.mem_append_left _ (List.mem_append_left _ (List.mem_append_left _ (List.mem_append_left _ (List.mem_append_left _ (List.mem_append_left _ (List.mem_append_left _ (List.mem_append_left _ (List.mem_append_left _ (List.mem_append_left _ (List.mem_of_getElem? (i := 1) rfl)))))))))))))) (cls := "java/lang/IllegalArgumentException") (text := "no such number of teeth") (List.mem_of_getElem? (i := 3) rfl) (fun w h => List.mem_cons_of_mem _ (List.mem_append_left _ (List.mem_append_left _ (List.mem_append_right _ (h))))) xt_IllegalAr_81_b (fun w h => (List.mem_cons.mp h).elim (fun e => by rw [e]; rfl) (fun h => (List.mem_cons.mp h).elim (fun e => by rw [e]; rfl) (fun h => xt_IllegalAr_81_g w h))) hl.1 dX6_addPlanets_64 dX6_addPlanets_67 dX6_addPlanets_68 dX6_addPlanets_70 dX6_addPlanets_73 hout (by rw [hR]; exact Nat.le_of_ble_eq_true rfl) (by rw [hR]; exact Nat.le_of_ble_eq_true rfl) (by rw [hR]; exact Nat.le_of_ble_eq_true rfl) (by rw [hR]; exact Nat.le_of_ble_eq_true rfl) hlocks ?_ (by decide) (by decide)
            exact ⟨rfl, Or.inr (Or.inl ⟨rfl, (if_pos ⟨sks, skr, skc⟩).trans (if_neg (fun q => yc20 q.2.2))⟩)⟩
      · rw [hQ]
        refine g_throw F hP hS hlt rfl (hZ.2.2.2.2.2.2.2.1 ("java/lang/IllegalArgumentException", "java/lang/IllegalArgumentException") (List.mem_of_getElem? (i := 0) rfl)) (by decide +kernel) (List.mem_cons_of_mem _ (List.mem_append_left _ (List.mem_append_left _ (List.mem_append_left _ (List.mem_append_left _ (List.mem_append_left _ (List.mem_append_left _ (List.mem_append_left _ (List.mem_append_left _ (List.mem_append_left _ (List.mem_append_left _ (List.mem_append_left _ (List.mem_append_left _ (List.mem_of_getElem? (i := 0) rfl)))))))))))))) (List.mem_cons_of_mem _ (List.mem_append_left _ (List.mem_append_left _ (List.mem_append_left _ (List.mem_append_left _ (List.mem_append_left _ (List.mem_append_left _ (List.mem_append_left _ (List.mem_append_left _ (List.mem_append_left _ (List.mem_append_left _ (List.mem_append_left _ (List.mem_append_left _ (List.mem_of_getElem? (i := 1) rfl)))))))))))))) (cls := "java/lang/IllegalArgumentException") (text := "a shaft stands twice in the set") (List.mem_of_getElem? (i := 2) rfl) (fun w h => List.mem_cons_of_mem _ (List.mem_append_left _ (List.mem_append_left _ (List.mem_append_right _ (h))))) xt_IllegalAr_81_b (fun w h => (List.mem_cons.mp h).elim (fun e => by rw [e]; rfl) (fun h => (List.mem_cons.mp h).elim (fun e => by rw [e]; rfl) (fun h => xt_IllegalAr_81_g w h))) hl.1 dX6_addPlanets_30 dX6_addPlanets_33 dX6_addPlanets_34 dX6_addPlanets_36 dX6_addPlanets_39 hout (by rw [hR]; exact Nat.le_of_ble_eq_true rfl) (by rw [hR]; exact Nat.le_of_ble_eq_true rfl) (by rw [hR]; exact Nat.le_of_ble_eq_true rfl) (by rw [hR]; exact Nat.le_of_ble_eq_true rfl) hlocks ?_ (by decide) (by decide)
        exact ⟨rfl, Or.inr (Or.inl ⟨rfl, (if_pos ⟨sks, skr, skc⟩).trans (if_neg (fun q => q.1.2.2 c12))⟩)⟩
