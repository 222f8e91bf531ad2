theorem cd_X3_mostPlanets : yX3_mostPlanets.cls = RX3 ∧ yX3_mostPlanets.cls ≠ "java/lang/invoke/MethodHandle" ∧ yX3_mostPlanets.cls ≠ "java/lang/invoke/VarHandle" ∧ (parseMethodDescriptor yX3_mostPlanets.desc).map (fun d => d.parameters.length) = some 1 := by decide +kernel
set_option maxHeartbeats 4000000 in
set_option maxRecDepth 100000 in
theorem k_X6_planets (l : Launch) (hlt : l.stackTraces = false) (A : Nat → Prop) (G : g_C) (w : g_W) (ad : Nat → Nat → Nat) (Cn : Nat → Nat → Option va_E) (S T : Sg) (pn qn : Int32) (Hh : holds w ad Cn) (Hr : rep G S T ad Cn) (Hi : invS S) : xI l yX6_planets wsX6_planets ({ frames := 6, cells := 1, slots := 6, locals := 90 } : Room) [.ref (ad 0 0), .int pn, .int qn] A G w (fun r w' => cdPlanets S pn qn = 0 ∧ r = vlPlanets S pn qn ∧ w' = w) (fun u => u.2 = w ∧ ((u.1 = "java/lang/IndexOutOfBoundsException" ∧ cdPlanets S pn qn = 1) ∨ (u.1 = "java/lang/IllegalArgumentException" ∧ cdPlanets S pn qn = 2))) 1 6 := by
  refine g_xofI (cc := cX6_planets) (maxL := 3) (ret := (some .int)) (own := RX6) (by decide) rfl rfl (Nat.le_of_ble_eq_true rfl) ?_
  intro p e R s m args below meth c Q ls hR F hP hS hlocks hr hout hQ hl
  obtain ⟨⟨hx, hb, hml, hown, hts⟩, hK, hZ, hA⟩ := id F
  generalize hH0 : s.heap = H at hP ⊢
  have hS : va_S A s.heap H [] := by rw [← hH0]; exact va_S.rf
  generalize ([] : List Loc) = locs at hS ⊢
  have hl : lv_has ls 3 [(0, .ref (ad 0 0)), (1, .int pn), (2, .int qn)] := hl
  have iX6 : ∀ w ∈ u_ws RX6 TX6 6, w ∈ wsX6_planets := fun w h => List.mem_cons_of_mem _ (List.mem_append_left _ (List.mem_append_left _ (List.mem_append_left _ (List.mem_append_left _ (List.mem_append_right _ (h))))))
  have hx0 := rep_x Hh Hr
  obtain ⟨m3, a3, hz3⟩ := rep_size Hh Hr 3 (by decide)
  have hi := Hi.1
  have k1 : (0 ≤ pn) ↔ 0 ≤ pn.toInt := by rw [Int32.le_iff_toInt_le]; rfl
  have k2 : (pn ≤ iL (S 0 3 - 1)) ↔ pn.toInt < S 0 3 := by rw [Int32.le_iff_toInt_le, iL_t (by omega) (by omega)]; omega
  refine lv_iload_n hx hb dX6_planets_0 rfl (lv_at hl 1 rfl) ?_
  refine lv_iconst (v := 0) hx hb dX6_planets_1 (by decide) ?_
  refine lv_aload_n hx hb dX6_planets_2 rfl (lv_at hl 0 rfl) ?_
  refine g_get F hP (C := RX6) (T := TX6) (N := 6) iX6 hx0 rfl 3 (by decide) (List.mem_cons_of_mem _ (List.mem_append_left _ (List.mem_append_left _ (List.mem_append_left _ (List.mem_append_left _ (List.mem_append_left _ (List.mem_append_left _ (List.mem_of_getElem? (i := 4) rfl)))))))) (fun _ h9 => h9) rfl dX6_planets_3 ?_
  refine g_Vi (As := []) (rest := [.int 0, .int pn]) F hP hS (k_size l A G w (ad 1 3) a3 m3 (iL (S 0 3)) hz3) (cwV 0 hts gX6_planets_Jx4a65c_size_8abf5 rfl rfl rfl cd_Jx4a65c_size_8abf5 ⟨by rw [hR]; exact Nat.le_of_ble_eq_true rfl, by rw [hR]; exact Nat.le_of_ble_eq_true rfl⟩) hz3 rfl rfl rfl hl.1 (Nat.le_of_ble_eq_true rfl) dX6_planets_6 ⟨by rw [hR]; exact Nat.le_of_ble_eq_true rfl, by rw [hR]; exact Nat.le_of_ble_eq_true rfl⟩ rfl (fun r1 w2 H locs h3 hP hS => ?_)
  have hr1 := h3.1
  rw [h3.2] at hP
  rw [hr1]
  refine lv_iconst (v := 1) hx hb dX6_planets_9 (by decide) ?_
  refine lv_isub hx hb dX6_planets_10 ?_
  refine lv_topi (fun v4 ev4 => ?_)
  obtain rfl : v4 = iL (S 0 3 - 1) := by
    rw [ev4]
    exact iL_sub _ 1
  refine g_Si (As := [.int pn, .int 0, .int (iL (S 0 3 - 1))]) (rest := []) F hP hS (k_X6_isWithin l A G w pn 0 (iL (S 0 3 - 1))) (va_cwS 3 hts gX6_planets_X6_isWithin rfl rfl rfl cd_X6_isWithin ⟨by rw [hR]; exact Nat.le_of_ble_eq_true rfl, by rw [hR]; exact Nat.le_of_ble_eq_true rfl⟩) rfl hl.1 (Nat.le_of_ble_eq_true rfl) dX6_planets_11 ⟨by rw [hR]; exact Nat.le_of_ble_eq_true rfl, by rw [hR]; exact Nat.le_of_ble_eq_true rfl⟩ rfl (fun r5 w6 H locs h7 hP hS => ?_)
  have hr5 := h7.1
  rw [h7.2] at hP
  rw [hr5]
  refine lv_if_ne (tgt := 27) hx hb dX6_planets_14 (by decide) (fun c8 => ?_) (fun c8 => ?_)
  · have yc8 := of_decide_eq_true (g_b1.mp c8)
    rw [k1, k2] at yc8
    obtain ⟨k, hk, ek⟩ := ix_of yc8.1 yc8.2
    subst ek
    have nk : kN (nI k) = k := kN_n (by omega)
    refine lv_iload_n hx hb dX6_planets_27 rfl (lv_at hl 2 rfl) ?_
    refine lv_iconst (v := 1) hx hb dX6_planets_28 (by decide) ?_
    refine lv_bipush (v := 12) hx hb dX6_planets_29 (by decide) ?_
    refine g_Si (As := [.int qn, .int 1, .int 12]) (rest := []) F hP hS (k_X6_isWithin l A G w qn 1 12) (va_cwS 3 hts gX6_planets_X6_isWithin rfl rfl rfl cd_X6_isWithin ⟨by rw [hR]; exact Nat.le_of_ble_eq_true rfl, by rw [hR]; exact Nat.le_of_ble_eq_true rfl⟩) rfl hl.1 (Nat.le_of_ble_eq_true rfl) dX6_planets_31 ⟨by rw [hR]; exact Nat.le_of_ble_eq_true rfl, by rw [hR]; exact Nat.le_of_ble_eq_true rfl⟩ rfl (fun r9 w10 H locs h11 hP hS => ?_)
    have hr9 := h11.1
    rw [h11.2] at hP
    rw [hr9]
    refine lv_if_ne (tgt := 47) hx hb dX6_planets_34 (by decide) (fun c12 => ?_) (fun c12 => ?_)
    · have yc12 := of_decide_eq_true (g_b1.mp c12)
      have k3 : (1 ≤ qn ∧ qn ≤ 12) ↔ inQ qn 1 12 := by rw [Int32.le_iff_toInt_le, Int32.le_iff_toInt_le]; exact Iff.rfl
      rw [k3] at yc12
      refine lv_aload_n hx hb dX6_planets_47 rfl (lv_at hl 0 rfl) ?_
      refine g_get F hP (C := RX6) (T := TX6) (N := 6) iX6 hx0 rfl 3 (by decide) (List.mem_cons_of_mem _ (List.mem_append_left _ (List.mem_append_left _ (List.mem_append_left _ (List.mem_append_left _ (List.mem_append_left _ (List.mem_append_left _ (List.mem_of_getElem? (i := 4) rfl)))))))) (fun _ h9 => h9) rfl dX6_planets_48 ?_
      refine lv_iload_n hx hb dX6_planets_51 rfl (lv_at hl 1 rfl) ?_
      obtain ⟨gm13, gc13, gf13, ga13, gb13, gk13, gn13, gd13, ge13⟩ := rep_get Hh Hr 3 (by decide) hk
      refine g_Vq (As := [.int (nI k)]) (rest := []) F hP hS (k_get l A G w (ad 1 3) (ad 2 3) (S 0 3).toNat gc13 gm13 gf13 k ga13 gb13 gk13 gn13 gd13) (cwV 1 hts gX6_planets_Jx4a65c_get_915e3 rfl rfl rfl cd_Jx4a65c_get_915e3 ⟨by rw [hR]; exact Nat.le_of_ble_eq_true rfl, by rw [hR]; exact Nat.le_of_ble_eq_true rfl⟩) ga13 rfl rfl rfl hl.1 (Nat.le_of_ble_eq_true rfl) dX6_planets_52 ⟨by rw [hR]; exact Nat.le_of_ble_eq_true rfl, by rw [hR]; exact Nat.le_of_ble_eq_true rfl⟩ rfl (fun r14 w15 H locs h16 hP hS => ?_)
      have hr14 := h16.1
      rw [h16.2] at hP
      have f17 := rep_pl Hh Hr hk
      rw [hr14, ge13, show va_rf (some (ad (elk 3) k)) = .ref (ad 11 k) from rfl]
      refine g_cast F hP (C := RX3) (T := TX3) (N := 2) f17 rfl (List.mem_cons_of_mem _ (List.mem_append_left _ (List.mem_append_left _ (List.mem_append_left _ (List.mem_append_left _ (List.mem_append_left _ (List.mem_append_left _ (List.mem_of_getElem? (i := 5) rfl)))))))) dX6_planets_55 ?_
      refine lv_iload_n hx hb dX6_planets_58 rfl (lv_at hl 2 rfl) ?_
      have pk := Hi.2.2.2.2 k hk
      have eq9 : qn = nI (kN qn) := kN_e (by omega)
      have ea : iL (S 14 k + S 15 k) = nI (S 14 k + S 15 k).toNat := iL_nn (by omega)
      rw [ea] at f17
      rw [show (.int qn : Value) = .int (nI (kN qn)) from by rw [← eq9]]
      refine g_Vi (As := [.int (nI (kN qn))]) (rest := []) F hP hS (k_X3_mostPlanets l A G w (ad 11 k) (ad 12 k) (S 14 k + S 15 k).toNat (kN qn) f17 (by omega) (by unfold kN; omega)) (cwV 1 hts gX6_planets_X3_mostPlanets rfl rfl rfl cd_X3_mostPlanets ⟨by rw [hR]; exact Nat.le_of_ble_eq_true rfl, by rw [hR]; exact Nat.le_of_ble_eq_true rfl⟩) f17 rfl rfl rfl hl.1 (Nat.le_of_ble_eq_true rfl) dX6_planets_59 ⟨by rw [hR]; exact Nat.le_of_ble_eq_true rfl, by rw [hR]; exact Nat.le_of_ble_eq_true rfl⟩ rfl (fun r18 w19 H locs h20 hP hS => ?_)
      have hr18 := h20.1
      rw [h20.2] at hP
      rw [hr18]
      rw [hQ]
      refine g_xiret F hP hS hlocks hr dX6_planets_62 (by first | exact Nat.le_of_ble_eq_true rfl | omega) (by first | exact Nat.le_of_ble_eq_true rfl | omega) ?_
      exact ⟨(if_pos yc8).trans (if_pos yc12), by unfold vlPlanets; rw [nk], rfl⟩
    · have yc12 := of_decide_eq_false (g_b0.mp c12)
      have k3 : (1 ≤ qn ∧ qn ≤ 12) ↔ inQ qn 1 12 := by rw [Int32.le_iff_toInt_le, Int32.le_iff_toInt_le]; exact Iff.rfl
      rw [k3] at yc12
      rw [hQ]
      refine g_throw F hP hS hlt rfl (hZ.2.2.2.2.2.2.2.1 ("java/lang/IllegalArgumentException", "java/lang/IllegalArgumentException") (List.mem_of_getElem? (i := 0) rfl)) (by decide +kernel) (List.mem_cons_of_mem _ (List.mem_append_left _ (List.mem_append_left _ (List.mem_append_left _ (List.mem_append_left _ (List.mem_append_left _ (List.mem_append_left _ (List.mem_of_getElem? (i := 2) rfl)))))))) (List.mem_cons_of_mem _ (List.mem_append_left _ (List.mem_append_left _ (List.mem_append_left _ (List.mem_append_left _ (List.mem_append_left _ (List.mem_append_left _ (List.mem_of_getElem? (i := 3) rfl)))))))) (cls := "java/lang/IllegalArgumentException") (text := "no such number of planets") (List.mem_of_getElem? (i := 7) rfl) (fun w h => List.mem_cons_of_mem _ (List.mem_append_right _ (h))) xt_IllegalAr_81_b (fun w h => (List.mem_cons.mp h).elim (fun e => by rw [e]; rfl) (fun h => (List.mem_cons.mp h).elim (fun e => by rw [e]; rfl) (fun h => xt_IllegalAr_81_g w h))) hl.1 dX6_planets_37 dX6_planets_40 dX6_planets_41 dX6_planets_43 dX6_planets_46 hout (by rw [hR]; exact Nat.le_of_ble_eq_true rfl) (by rw [hR]; exact Nat.le_of_ble_eq_true rfl) (by rw [hR]; exact Nat.le_of_ble_eq_true rfl) (by rw [hR]; exact Nat.le_of_ble_eq_true rfl) hlocks ?_ (by decide) (by decide)
      exact ⟨rfl, Or.inr ⟨rfl, (if_pos yc8).trans (if_neg yc12)⟩⟩
  · have yc8 := of_decide_eq_false (g_b0.mp c8)
    rw [k1, k2] at yc8
    rw [hQ]
    refine g_throw F hP hS hlt rfl (hZ.2.2.2.2.2.2.2.1 ("java/lang/IndexOutOfBoundsException", "java/lang/IndexOutOfBoundsException") (List.mem_of_getElem? (i := 2) rfl)) (by decide +kernel) (List.mem_cons_of_mem _ (List.mem_append_left _ (List.mem_append_left _ (List.mem_append_left _ (List.mem_append_left _ (List.mem_append_left _ (List.mem_append_left _ (List.mem_of_getElem? (i := 0) rfl)))))))) (List.mem_cons_of_mem _ (List.mem_append_left _ (List.mem_append_left _ (List.mem_append_left _ (List.mem_append_left _ (List.mem_append_left _ (List.mem_append_left _ (List.mem_of_getElem? (i := 1) rfl)))))))) (cls := "java/lang/IndexOutOfBoundsException") (text := "no such planet set") (List.mem_of_getElem? (i := 6) rfl) (fun w h => List.mem_cons_of_mem _ (List.mem_append_left _ (List.mem_append_right _ (h)))) xt_IndexOutO_136_b (fun w h => (List.mem_cons.mp h).elim (fun e => by rw [e]; rfl) (fun h => (List.mem_cons.mp h).elim (fun e => by rw [e]; rfl) (fun h => xt_IndexOutO_136_g w h))) hl.1 dX6_planets_17 dX6_planets_20 dX6_planets_21 dX6_planets_23 dX6_planets_26 hout (by rw [hR]; exact Nat.le_of_ble_eq_true rfl) (by rw [hR]; exact Nat.le_of_ble_eq_true rfl) (by rw [hR]; exact Nat.le_of_ble_eq_true rfl) (by rw [hR]; exact Nat.le_of_ble_eq_true rfl) hlocks ?_ (by decide) (by decide)
    exact ⟨rfl, Or.inl ⟨rfl, if_neg yc8⟩⟩
