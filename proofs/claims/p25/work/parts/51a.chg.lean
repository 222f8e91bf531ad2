theorem cd_X6_requirePlace : yX6_requirePlace.cls ≠ "java/lang/invoke/MethodHandle" ∧ yX6_requirePlace.cls ≠ "java/lang/invoke/VarHandle" ∧ (parseMethodDescriptor yX6_requirePlace.desc).map (fun d => d.parameters.length) = some 2 := by decide +kernel
theorem cd_X4_init : yX4_init.cls ≠ "java/lang/invoke/MethodHandle" ∧ yX4_init.cls ≠ "java/lang/invoke/VarHandle" ∧ (parseMethodDescriptor yX4_init.desc).map (fun d => d.parameters.length) = some 2 := by decide +kernel
theorem cd_Jx4a65c_add_9ea2d : yJx4a65c_add_9ea2d.cls = RJx4a65c ∧ yJx4a65c_add_9ea2d.cls ≠ "java/lang/invoke/MethodHandle" ∧ yJx4a65c_add_9ea2d.cls ≠ "java/lang/invoke/VarHandle" ∧ (parseMethodDescriptor yJx4a65c_add_9ea2d.desc).map (fun d => d.parameters.length) = some 1 := by decide +kernel
set_option maxHeartbeats 4000000 in
set_option maxRecDepth 100000 in
theorem k_X6_addShaft (l : Launch) (hlt : l.stackTraces = false) (A : Nat → Prop) (G : g_C) (w : g_W) (ad : Nat → Nat → Nat) (Cn : Nat → Nat → Option va_E) (S T : Sg) (x y : Int32) (Hh : holds w ad Cn) (Hr : rep G S T ad Cn) (Hi : invS S) (Ht : invT S T) (Ha : agr S T) : xI l yX6_addShaft wsX6_addShaft ({ frames := 7, cells := 4, slots := 114, locals := 231 } : Room) [.ref (ad 0 0), .int x, .int y] A G w (fun r w' => cdAddShaft S x y = 0 ∧ r = vlAddShaft S ∧ after G w ad Cn w' (nxAddShaft S x y)) (fun u => u.2 = w ∧ ((u.1 = "java/lang/IllegalArgumentException" ∧ cdAddShaft S x y = 1) ∨ (u.1 = "java/lang/IllegalStateException" ∧ cdAddShaft S x y = 2))) 4 114 := by
  refine g_xofI (cc := cX6_addShaft) (maxL := 3) (ret := (some .int)) (own := RX6) (by decide) rfl rfl (Nat.le_of_ble_eq_true rfl) ?_
  intro p e R s m args below meth c Q ls hR F hP hS hlocks hr hout hQ hl
  obtain ⟨⟨hx, hb, hml, hown, hts⟩, hK, hZ, hA⟩ := id F
  generalize hH0 : s.heap = H at hP ⊢
  have hS : va_S A s.heap H [] := by rw [← hH0]; exact va_S.rf
  generalize ([] : List Loc) = locs at hS ⊢
  have hl : lv_has ls 3 [(0, .ref (ad 0 0)), (1, .int x), (2, .int y)] := hl
  have iX4 : ∀ w ∈ u_ws RX4 TX4 5, w ∈ wsX6_addShaft := fun w h => List.mem_cons_of_mem _ (List.mem_append_left _ (List.mem_append_left _ (List.mem_append_left _ (List.mem_append_left _ (List.mem_append_right _ (h))))))
  have iX6 : ∀ w ∈ u_ws RX6 TX6 6, w ∈ wsX6_addShaft := fun w h => List.mem_cons_of_mem _ (List.mem_append_left _ (List.mem_append_left _ (List.mem_append_left _ (List.mem_append_left _ (List.mem_append_left _ (List.mem_append_right _ (h)))))))
  have hx0 := rep_x Hh Hr
  obtain ⟨m0, a0, hz0⟩ := rep_size Hh Hr 0 (by decide)
  have hi := Hi.1
  refine lv_iload_n hx hb dX6_addShaft_0 rfl (lv_at hl 1 rfl) ?_
  refine lv_iload_n hx hb dX6_addShaft_1 rfl (lv_at hl 2 rfl) ?_
  rw [hQ]
  refine g_xSv (As := [.int x, .int y]) (rest := []) F hP hS (k_X6_requirePlace l hlt A G w x y) (va_cwS 2 hts gX6_addShaft_X6_requirePlace rfl rfl rfl cd_X6_requirePlace ⟨by rw [hR]; exact Nat.le_of_ble_eq_true rfl, by rw [hR]; exact Nat.le_of_ble_eq_true rfl⟩) rfl hl.1 (Nat.le_of_ble_eq_true rfl) dX6_addShaft_2 ⟨by rw [hR]; exact Nat.le_of_ble_eq_true rfl, by rw [hR]; exact Nat.le_of_ble_eq_true rfl⟩ rfl hout hlocks (by decide) (by decide) (fun u h => by obtain ⟨h1, h2⟩ := h; subst h1; rw [(show (((-1000) ≤ x ∧ x ≤ 1000) ∧ ((-1000) ≤ y ∧ y ≤ 1000)) ↔ plQ x y by rw [Int32.le_iff_toInt_le, Int32.le_iff_toInt_le, Int32.le_iff_toInt_le, Int32.le_iff_toInt_le]; exact Iff.rfl)] at h2; exact ⟨rfl, Or.inl ⟨rfl, if_neg h2⟩⟩) (fun w2 H locs h3 hP hS => ?_)
  rw [← hQ]
  rw [h3.2] at hP
  have hpl := h3.1
  rw [(show (((-1000) ≤ x ∧ x ≤ 1000) ∧ ((-1000) ≤ y ∧ y ≤ 1000)) ↔ plQ x y by rw [Int32.le_iff_toInt_le, Int32.le_iff_toInt_le, Int32.le_iff_toInt_le, Int32.le_iff_toInt_le]; exact Iff.rfl)] at hpl
  refine lv_aload_n hx hb dX6_addShaft_5 rfl (lv_at hl 0 rfl) ?_
  refine g_get F hP (C := RX6) (T := TX6) (N := 6) iX6 hx0 rfl 0 (by decide) (List.mem_cons_of_mem _ (List.mem_append_left _ (List.mem_append_left _ (List.mem_append_left _ (List.mem_append_left _ (List.mem_append_left _ (List.mem_append_left _ (List.mem_append_left _ (List.mem_of_getElem? (i := 2) rfl))))))))) (fun _ h9 => h9) rfl dX6_addShaft_6 ?_
  refine g_Vi (As := []) (rest := []) F hP hS (k_size l A G w (ad 1 0) a0 m0 (iL (S 0 0)) hz0) (cwV 0 hts gX6_addShaft_Jx4a65c_size_8abf5 rfl rfl rfl cd_Jx4a65c_size_8abf5 ⟨by rw [hR]; exact Nat.le_of_ble_eq_true rfl, by rw [hR]; exact Nat.le_of_ble_eq_true rfl⟩) hz0 rfl rfl rfl hl.1 (Nat.le_of_ble_eq_true rfl) dX6_addShaft_9 ⟨by rw [hR]; exact Nat.le_of_ble_eq_true rfl, by rw [hR]; exact Nat.le_of_ble_eq_true rfl⟩ rfl (fun r4 w5 H locs h6 hP hS => ?_)
  have hr4 := h6.1
  rw [h6.2] at hP
  rw [hr4]
  refine lv_bipush (v := 10) hx hb dX6_addShaft_12 (by decide) ?_
  refine lv_icmp_lt (tgt := 27) hx hb dX6_addShaft_14 (by decide) (fun c7 => ?_) (fun c7 => ?_)
  · rw [show (10 : Int32) = iL 10 from rfl, iL_lt (by omega) (by omega) (by omega) (by omega)] at c7
    refine lv_aload_n hx hb dX6_addShaft_27 rfl (lv_at hl 0 rfl) ?_
    refine g_get F hP (C := RX6) (T := TX6) (N := 6) iX6 hx0 rfl 0 (by decide) (List.mem_cons_of_mem _ (List.mem_append_left _ (List.mem_append_left _ (List.mem_append_left _ (List.mem_append_left _ (List.mem_append_left _ (List.mem_append_left _ (List.mem_append_left _ (List.mem_of_getElem? (i := 2) rfl))))))))) (fun _ h9 => h9) rfl dX6_addShaft_28 ?_
    refine g_new F hP hS (ci := 5) (C := RX4) (T := TX4) (N := 5) (fs := [.int 0, .int 0, .int 0, .int 0, .null]) iX4 tyX4 tyX4_ok (List.mem_cons_of_mem _ (List.mem_append_left _ (List.mem_append_left _ (List.mem_append_left _ (List.mem_append_left _ (List.mem_append_left _ (List.mem_append_left _ (List.mem_append_left _ (List.mem_of_getElem? (i := 3) rfl))))))))) (List.mem_cons_of_mem _ (List.mem_append_left _ (List.mem_append_left _ (List.mem_append_left _ (List.mem_append_left _ (List.mem_append_left _ (List.mem_append_left _ (List.mem_append_left _ (List.mem_of_getElem? (i := 4) rfl))))))))) (List.mem_cons_of_mem _ (List.mem_append_left _ (List.mem_append_left _ (List.mem_append_left _ (List.mem_append_left _ (List.mem_append_left _ (List.mem_append_left _ (List.mem_append_left _ (List.mem_of_getElem? (i := 5) rfl))))))))) rfl (by intro j hj; match j, hj with | 0, _ => rfl | 1, _ => rfl | 2, _ => rfl | 3, _ => rfl | 4, _ => rfl | j + 5, hj => exact absurd hj (by omega)) (by rw [hR]; exact Nat.le_of_ble_eq_true rfl) (by rw [hR]; exact Nat.le_of_ble_eq_true rfl) dX6_addShaft_31 (fun q8 H nq8 hP hS => ?_)
    obtain ⟨w9, ew9⟩ : ∃ z, z = g_up w q8 (.inr (5, [.int 0, .int 0, .int 0, .int 0, .null])) := ⟨_, rfl⟩
    have hP : g_P A G w9 H := by rw [ew9]; exact hP
    have f10 : w9 (ad 0 0) = some (.inr (7, [.ref (ad 1 0), .ref (ad 1 1), .ref (ad 1 2), .ref (ad 1 3), .int (iL (S 0 4)), .int (iL (S 0 5))])) := by rw [ew9]; exact g_up_f hx0 (g_neq hx0 nq8)
    have f11 : w9 (ad 1 0) = some (.inr (0, [.int m0, .ref a0, .int (iL (S 0 0))])) := by rw [ew9]; exact g_up_f hz0 (g_neq hz0 nq8)
    have f12 : w9 q8 = some (.inr (5, [.int 0, .int 0, .int 0, .int 0, .null])) := by rw [ew9]; exact g_up_s _ _ _
    refine lv_dup hx hb dX6_addShaft_34 rfl ?_
    refine lv_iload_n hx hb dX6_addShaft_35 rfl (lv_at hl 1 rfl) ?_
    refine lv_iload_n hx hb dX6_addShaft_36 rfl (lv_at hl 2 rfl) ?_
    refine g_Iv (As := [.int x, .int y]) (rest := [.ref q8, .ref (ad 1 0)]) F hP hS (k_X4_init l A G w9 q8 x y f12) (cwI 2 hts gX6_addShaft_X4_init rfl rfl rfl (hts _ (List.mem_cons_of_mem _ (List.mem_append_left _ (List.mem_append_left _ (List.mem_append_left _ (List.mem_append_left _ (List.mem_append_left _ (List.mem_append_left _ (List.mem_append_left _ (List.mem_of_getElem? (i := 5) rfl)))))))))) (hts _ (List.mem_cons_of_mem _ (List.mem_append_left _ (List.mem_append_left _ (List.mem_append_left _ (List.mem_append_left _ (List.mem_append_left _ (List.mem_append_left _ (List.mem_append_left _ (List.mem_of_getElem? (i := 21) rfl)))))))))) (hts _ (List.mem_cons_of_mem _ (List.mem_append_left _ (List.mem_append_left _ (List.mem_append_left _ (List.mem_append_left _ (List.mem_append_left _ (List.mem_append_left _ (List.mem_append_left _ (List.mem_of_getElem? (i := 22) rfl)))))))))) rfl cd_X4_init ⟨by rw [hR]; exact Nat.le_of_ble_eq_true rfl, by rw [hR]; exact Nat.le_of_ble_eq_true rfl⟩) rfl hl.1 (Nat.le_of_ble_eq_true rfl) dX6_addShaft_37 ⟨by rw [hR]; exact Nat.le_of_ble_eq_true rfl, by rw [hR]; exact Nat.le_of_ble_eq_true rfl⟩ rfl (fun w14 H locs h15 hP hS => ?_)
    obtain ⟨q2, nq2, ewi⟩ := h15
    obtain ⟨ad2, C2, g2, H2, R2, d00, d10, d3, c3, c4⟩ := shaft_new Hh Hr Hi nq8 ew9 nq2 ewi
    have hv := H2.1 _ _ _ c3
    rw [d3] at hv
    obtain ⟨ha, mo, fl, hL, l1, l2, hf⟩ := listW_j H2 R2 Hi (j := 0) (by decide) (ci := 5) (fun k hk => ⟨_, rep_sh H2 R2 hk⟩)
    obtain ⟨m9, a9, hz9⟩ := rep_size H2 R2 0 (by decide)
    rw [d10] at hL hz9
    refine g_Vi (As := [.ref q8]) (rest := []) F hP hS (k_addU l A G w14 (ad 1 0) (ad2 2 0) (S 0 0).toNat 5 ha mo fl hL q8 _ _ hv rfl (by decide +kernel) (g_nci hv hz9 (by decide))) (cwV 1 hts gX6_addShaft_Jx4a65c_add_9ea2d rfl rfl rfl cd_Jx4a65c_add_9ea2d ⟨by rw [hR]; exact Nat.le_of_ble_eq_true rfl, by rw [hR]; exact Nat.le_of_ble_eq_true rfl⟩) hz9 rfl rfl rfl hl.1 (Nat.le_of_ble_eq_true rfl) dX6_addShaft_40 ⟨by rw [hR]; exact Nat.le_of_ble_eq_true rfl, by rw [hR]; exact Nat.le_of_ble_eq_true rfl⟩ rfl (fun r16 w17 H locs h18 hP hS => ?_)
    rw [← d10] at h18
    have P9 := h18
    rw [show q8 = ad2 (elk 0) (S 0 0).toNat from d3.symm] at P9
    have aft := addShaft_fin ⟨Hh, Hr, Hi, Ht, Ha⟩ g2 H2 R2 d00 c3 c4 hpl c7 l1 l2 hf P9
    obtain ⟨ad3, C3, T3, z0, z1, z2⟩ := id aft
    have hx3 := rep_x z2.1 z2.2.1
    rw [z0] at hx3
    obtain ⟨m30, a30, hz30⟩ := rep_size z2.1 z2.2.1 0 (by decide)
    refine lv_pop hx hb dX6_addShaft_43 rfl ?_
    refine lv_aload_n hx hb dX6_addShaft_44 rfl (lv_at hl 0 rfl) ?_
    refine g_get F hP (C := RX6) (T := TX6) (N := 6) iX6 hx3 rfl 0 (by decide) (List.mem_cons_of_mem _ (List.mem_append_left _ (List.mem_append_left _ (List.mem_append_left _ (List.mem_append_left _ (List.mem_append_left _ (List.mem_append_left _ (List.mem_append_left _ (List.mem_of_getElem? (i := 2) rfl))))))))) (fun _ h9 => h9) rfl dX6_addShaft_45 ?_
    refine g_Vi (As := []) (rest := []) F hP hS (k_size l A G w17 (ad3 1 0) a30 m30 (iL ((nxAddShaft S x y) 0 0)) hz30) (cwV 0 hts gX6_addShaft_Jx4a65c_size_8abf5 rfl rfl rfl cd_Jx4a65c_size_8abf5 ⟨by rw [hR]; exact Nat.le_of_ble_eq_true rfl, by rw [hR]; exact Nat.le_of_ble_eq_true rfl⟩) hz30 rfl rfl rfl hl.1 (Nat.le_of_ble_eq_true rfl) dX6_addShaft_48 ⟨by rw [hR]; exact Nat.le_of_ble_eq_true rfl, by rw [hR]; exact Nat.le_of_ble_eq_true rfl⟩ rfl (fun r19 w20 H locs h21 hP hS => ?_)
    have hr19 := h21.1
    rw [h21.2] at hP
    rw [hr19]
    refine lv_iconst (v := 1) hx hb dX6_addShaft_51 (by decide) ?_
    refine lv_isub hx hb dX6_addShaft_52 ?_
    refine lv_topi (fun v22 ev22 => ?_)
    obtain rfl : v22 = iL (S 0 0) := by
      rw [ev22]
      rw [show nxAddShaft S x y 0 0 = S 0 0 + 1 from by unfold nxAddShaft; rw [up2_k _ _ _ (by decide), up2_k _ _ _ (by decide), up2_k _ _ _ (by decide), up2_s], show (1 : Int32) = iL 1 from rfl, iL_sub]
      rw [show S 0 0 + 1 - 1 = S 0 0 from by omega]
    rw [hQ]
    refine g_xiret F hP hS hlocks hr dX6_addShaft_53 (by first | exact Nat.le_of_ble_eq_true rfl | omega) (by first | exact Nat.le_of_ble_eq_true rfl | omega) ?_
    exact ⟨(if_pos hpl).trans (if_pos c7), rfl, aft⟩
  · rw [show (10 : Int32) = iL 10 from rfl, iL_lt (by omega) (by omega) (by omega) (by omega)] at c7
    rw [hQ]
    refine g_throw F hP hS hlt rfl (hZ.2.2.2.2.2.2.2.1 ("java/lang/IllegalStateException", "java/lang/IllegalStateException") (List.mem_of_getElem? (i := 1) rfl)) (by decide +kernel) (List.mem_cons_of_mem _ (List.mem_append_left _ (List.mem_append_left _ (List.mem_append_left _ (List.mem_append_left _ (List.mem_append_left _ (List.mem_append_left _ (List.mem_append_left _ (List.mem_of_getElem? (i := 0) rfl))))))))) (List.mem_cons_of_mem _ (List.mem_append_left _ (List.mem_append_left _ (List.mem_append_left _ (List.mem_append_left _ (List.mem_append_left _ (List.mem_append_left _ (List.mem_append_left _ (List.mem_of_getElem? (i := 1) rfl))))))))) (cls := "java/lang/IllegalStateException") (text := "no more shafts") (List.mem_of_getElem? (i := 12) rfl) (fun w h => List.mem_cons_of_mem _ (List.mem_append_left _ (List.mem_append_right _ (h)))) xt_IllegalSt_44_b (fun w h => (List.mem_cons.mp h).elim (fun e => by rw [e]; rfl) (fun h => (List.mem_cons.mp h).elim (fun e => by rw [e]; rfl) (fun h => xt_IllegalSt_44_g w h))) hl.1 dX6_addShaft_17 dX6_addShaft_20 dX6_addShaft_21 dX6_addShaft_23 dX6_addShaft_26 hout (by rw [hR]; exact Nat.le_of_ble_eq_true rfl) (by rw [hR]; exact Nat.le_of_ble_eq_true rfl) (by rw [hR]; exact Nat.le_of_ble_eq_true rfl) (by rw [hR]; exact Nat.le_of_ble_eq_true rfl) hlocks ?_ (by decide) (by decide)
    exact ⟨rfl, Or.inr ⟨rfl, (if_pos hpl).trans (if_neg c7)⟩⟩
