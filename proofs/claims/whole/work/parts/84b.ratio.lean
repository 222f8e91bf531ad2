theorem cd_X0_asDouble : yX0_asDouble.cls = RX0 ∧ yX0_asDouble.cls ≠ "java/lang/invoke/MethodHandle" ∧ yX0_asDouble.cls ≠ "java/lang/invoke/VarHandle" ∧ (parseMethodDescriptor yX0_asDouble.desc).map (fun d => d.parameters.length) = some 0 := by decide +kernel
set_option maxHeartbeats 4000000 in
set_option maxRecDepth 100000 in
theorem k_X6_ratio (l : Launch) (hlt : l.stackTraces = false) (A : Nat → Prop) (G : g_C) (w : g_W) (ad : Nat → Nat → Nat) (Cn : Nat → Nat → Option va_E) (S T : Sg) (pn qn : Int32) (Hh : holds w ad Cn) (Hr : rep G S T ad Cn) (Hi : invS S) (Ht : invT S T) : xD l yX6_ratio wsX6_ratio ({ frames := 8, cells := 5, slots := 36, locals := 132 } : Room) [.ref (ad 0 0), .int pn, .int qn] A G w (fun r w' => cdRatio S T pn qn = 0 ∧ r = vlRatio T pn qn ∧ w' = w) (fun u => u.2 = w ∧ ((u.1 = "java/lang/IndexOutOfBoundsException" ∧ cdRatio S T pn qn = 1) ∨ (u.1 = "java/lang/IllegalStateException" ∧ cdRatio S T pn qn = 2))) 5 36 := by
  refine g_xofD (cc := cX6_ratio) (maxL := 3) (ret := (some .double)) (own := RX6) (by decide) rfl rfl (Nat.le_of_ble_eq_true rfl) ?_
  intro p e R s m args below meth c Q ls hR F hP hS hlocks hr hout hQ hl
  obtain ⟨⟨hx, hb, hml, hown, hts⟩, hK, hZ, hA⟩ := id F
  generalize hH0 : s.heap = H at hP ⊢
  have hS : va_S A s.heap H [] := by rw [← hH0]; exact va_S.rf
  generalize ([] : List Loc) = locs at hS ⊢
  have hl : lv_has ls 3 [(0, .ref (ad 0 0)), (1, .int pn), (2, .int qn)] := hl
  have iX4 : ∀ w ∈ u_ws RX4 TX4 5, w ∈ wsX6_ratio := fun w h => List.mem_cons_of_mem _ (List.mem_append_left _ (List.mem_append_left _ (List.mem_append_left _ (List.mem_append_left _ (List.mem_append_right _ (h))))))
  have iX6 : ∀ w ∈ u_ws RX6 TX6 6, w ∈ wsX6_ratio := fun w h => List.mem_cons_of_mem _ (List.mem_append_left _ (List.mem_append_left _ (List.mem_append_left _ (List.mem_append_left _ (List.mem_append_left _ (List.mem_append_right _ (h)))))))
  have hx0 := rep_x Hh Hr
  obtain ⟨m0, a0, hz0⟩ := rep_size Hh Hr 0 (by decide)
  have hi := Hi.1
  refine lv_aload_n hx hb dX6_ratio_0 rfl (lv_at hl 0 rfl) ?_
  refine lv_iload_n hx hb dX6_ratio_1 rfl (lv_at hl 1 rfl) ?_
  rw [hQ]
  refine g_xVv (As := [.int pn]) (rest := []) F hP hS (k_X6_requireShaft l hlt A G w ad Cn S T pn Hh Hr Hi) (cwV 1 hts gX6_ratio_X6_requireShaft rfl rfl rfl cd_X6_requireShaft ⟨by rw [hR]; exact Nat.le_of_ble_eq_true rfl, by rw [hR]; exact Nat.le_of_ble_eq_true rfl⟩) hx0 rfl rfl rfl hl.1 (Nat.le_of_ble_eq_true rfl) dX6_ratio_2 ⟨by rw [hR]; exact Nat.le_of_ble_eq_true rfl, by rw [hR]; exact Nat.le_of_ble_eq_true rfl⟩ rfl hout hlocks (by decide) (by decide) (fun u h => by obtain ⟨h1, h2⟩ := h; subst h1; exact ⟨rfl, Or.inl ⟨rfl, (if_neg (fun q => h2 q.1))⟩⟩) (fun w2 H locs h3 hP hS => ?_)
  rw [← hQ]
  rw [h3.2] at hP
  have ska := h3.1
  obtain ⟨ka, hka, eka⟩ := ix_of ska.1 ska.2
  subst eka
  have nka : kN (nI ka) = ka := kN_n (by omega)
  refine lv_aload_n hx hb dX6_ratio_5 rfl (lv_at hl 0 rfl) ?_
  refine lv_iload_n hx hb dX6_ratio_6 rfl (lv_at hl 2 rfl) ?_
  rw [hQ]
  refine g_xVv (As := [.int qn]) (rest := []) F hP hS (k_X6_requireShaft l hlt A G w ad Cn S T qn Hh Hr Hi) (cwV 1 hts gX6_ratio_X6_requireShaft rfl rfl rfl cd_X6_requireShaft ⟨by rw [hR]; exact Nat.le_of_ble_eq_true rfl, by rw [hR]; exact Nat.le_of_ble_eq_true rfl⟩) hx0 rfl rfl rfl hl.1 (Nat.le_of_ble_eq_true rfl) dX6_ratio_7 ⟨by rw [hR]; exact Nat.le_of_ble_eq_true rfl, by rw [hR]; exact Nat.le_of_ble_eq_true rfl⟩ rfl hout hlocks (by decide) (by decide) (fun u h => by obtain ⟨h1, h2⟩ := h; subst h1; exact ⟨rfl, Or.inl ⟨rfl, (if_neg (fun q => h2 q.2))⟩⟩) (fun w5 H locs h6 hP hS => ?_)
  rw [← hQ]
  rw [h6.2] at hP
  have skb := h6.1
  obtain ⟨kb, hkb, ekb⟩ := ix_of skb.1 skb.2
  subst ekb
  have nkb : kN (nI kb) = kb := kN_n (by omega)
  refine lv_aload_n hx hb dX6_ratio_10 rfl (lv_at hl 0 rfl) ?_
  refine lv_iload_n hx hb dX6_ratio_11 rfl (lv_at hl 1 rfl) ?_
  rw [hQ]
  refine g_xVv (As := [.int (nI ka)]) (rest := []) F hP hS (k_X6_requireSpeed l hlt A G w ad Cn S T ka Hh Hr Hi Ht hka) (cwV 1 hts gX6_ratio_X6_requireSpeed rfl rfl rfl cd_X6_requireSpeed ⟨by rw [hR]; exact Nat.le_of_ble_eq_true rfl, by rw [hR]; exact Nat.le_of_ble_eq_true rfl⟩) hx0 rfl rfl rfl hl.1 (Nat.le_of_ble_eq_true rfl) dX6_ratio_12 ⟨by rw [hR]; exact Nat.le_of_ble_eq_true rfl, by rw [hR]; exact Nat.le_of_ble_eq_true rfl⟩ rfl hout hlocks (by decide) (by decide) (fun u h => by obtain ⟨h1, h2⟩ := h; subst h1; exact ⟨rfl, Or.inr ⟨rfl, (if_pos ⟨ska, skb⟩).trans (by rw [nka, nkb]; exact if_neg (fun q => q.1 h2))⟩⟩) (fun w8 H locs h9 hP hS => ?_)
  rw [← hQ]
  rw [h9.2] at hP
  have hs1 := h9.1
  refine lv_aload_n hx hb dX6_ratio_15 rfl (lv_at hl 0 rfl) ?_
  refine lv_iload_n hx hb dX6_ratio_16 rfl (lv_at hl 2 rfl) ?_
  rw [hQ]
  refine g_xVv (As := [.int (nI kb)]) (rest := []) F hP hS (k_X6_requireTurning l hlt A G w ad Cn S T kb Hh Hr Hi Ht hkb) (cwV 1 hts gX6_ratio_X6_requireTurning rfl rfl rfl cd_X6_requireTurning ⟨by rw [hR]; exact Nat.le_of_ble_eq_true rfl, by rw [hR]; exact Nat.le_of_ble_eq_true rfl⟩) hx0 rfl rfl rfl hl.1 (Nat.le_of_ble_eq_true rfl) dX6_ratio_17 ⟨by rw [hR]; exact Nat.le_of_ble_eq_true rfl, by rw [hR]; exact Nat.le_of_ble_eq_true rfl⟩ rfl hout hlocks (by decide) (by decide) (fun u h => by obtain ⟨h1, h2⟩ := h; subst h1; exact ⟨rfl, Or.inr ⟨rfl, (if_pos ⟨ska, skb⟩).trans (by rw [nka, nkb]; exact if_neg (fun q => h2 q.2))⟩⟩) (fun w11 H locs h12 hP hS => ?_)
  rw [← hQ]
  rw [h12.2] at hP
  have hs2 := h12.1
  refine lv_aload_n hx hb dX6_ratio_20 rfl (lv_at hl 0 rfl) ?_
  refine g_get F hP (C := RX6) (T := TX6) (N := 6) iX6 hx0 rfl 0 (by decide) (List.mem_cons_of_mem _ (List.mem_append_left _ (List.mem_append_left _ (List.mem_append_left _ (List.mem_append_left _ (List.mem_append_left _ (List.mem_append_left _ (List.mem_append_left _ (List.mem_of_getElem? (i := 0) rfl))))))))) (fun _ h9 => h9) rfl dX6_ratio_21 ?_
  refine lv_iload_n hx hb dX6_ratio_24 rfl (lv_at hl 1 rfl) ?_
  obtain ⟨gm13, gc13, gf13, ga13, gb13, gk13, gn13, gd13, ge13⟩ := rep_get Hh Hr 0 (by decide) hka
  refine g_Vq (As := [.int (nI ka)]) (rest := []) F hP hS (k_get l A G w (ad 1 0) (ad 2 0) (S 0 0).toNat gc13 gm13 gf13 ka ga13 gb13 gk13 gn13 gd13) (cwV 1 hts gX6_ratio_Jx4a65c_get_915e3 rfl rfl rfl cd_Jx4a65c_get_915e3 ⟨by rw [hR]; exact Nat.le_of_ble_eq_true rfl, by rw [hR]; exact Nat.le_of_ble_eq_true rfl⟩) ga13 rfl rfl rfl hl.1 (Nat.le_of_ble_eq_true rfl) dX6_ratio_25 ⟨by rw [hR]; exact Nat.le_of_ble_eq_true rfl, by rw [hR]; exact Nat.le_of_ble_eq_true rfl⟩ rfl (fun r14 w15 H locs h16 hP hS => ?_)
  have hr14 := h16.1
  rw [h16.2] at hP
  have f17 := rep_sh Hh Hr hka
  have f18 := rep_fr Hh Hr hka
  rw [hr14, ge13, show va_rf (some (ad (elk 0) ka)) = .ref (ad 3 ka) from rfl]
  refine g_cast F hP (C := RX4) (T := TX4) (N := 5) f17 rfl (List.mem_cons_of_mem _ (List.mem_append_left _ (List.mem_append_left _ (List.mem_append_left _ (List.mem_append_left _ (List.mem_append_left _ (List.mem_append_left _ (List.mem_append_left _ (List.mem_of_getElem? (i := 1) rfl))))))))) dX6_ratio_28 ?_
  refine g_get F hP (C := RX4) (T := TX4) (N := 5) iX4 f17 rfl 4 (by decide) (List.mem_cons_of_mem _ (List.mem_append_left _ (List.mem_append_left _ (List.mem_append_left _ (List.mem_append_left _ (List.mem_append_left _ (List.mem_append_left _ (List.mem_append_left _ (List.mem_of_getElem? (i := 2) rfl))))))))) (fun _ h9 => h9) rfl dX6_ratio_31 ?_
  refine g_Vd (As := []) (rest := []) F hP hS (k_X0_asDouble l A G w (ad 4 ka) (T 0 ka) (T 1 ka) f18 (spD_fr Ht hka).1) (cwV 0 hts gX6_ratio_X0_asDouble rfl rfl rfl cd_X0_asDouble ⟨by rw [hR]; exact Nat.le_of_ble_eq_true rfl, by rw [hR]; exact Nat.le_of_ble_eq_true rfl⟩) f18 rfl rfl rfl hl.1 (Nat.le_of_ble_eq_true rfl) dX6_ratio_34 ⟨by rw [hR]; exact Nat.le_of_ble_eq_true rfl, by rw [hR]; exact Nat.le_of_ble_eq_true rfl⟩ rfl (fun r19 w20 H locs h21 hP hS => ?_)
  have hr19 : r19 = spD T ka := h21.1
  rw [h21.2] at hP
  rw [hr19]
  refine lv_aload_n hx hb dX6_ratio_37 rfl (lv_at hl 0 rfl) ?_
  refine g_get F hP (C := RX6) (T := TX6) (N := 6) iX6 hx0 rfl 0 (by decide) (List.mem_cons_of_mem _ (List.mem_append_left _ (List.mem_append_left _ (List.mem_append_left _ (List.mem_append_left _ (List.mem_append_left _ (List.mem_append_left _ (List.mem_append_left _ (List.mem_of_getElem? (i := 0) rfl))))))))) (fun _ h9 => h9) rfl dX6_ratio_38 ?_
  refine lv_iload_n hx hb dX6_ratio_41 rfl (lv_at hl 2 rfl) ?_
  obtain ⟨gm22, gc22, gf22, ga22, gb22, gk22, gn22, gd22, ge22⟩ := rep_get Hh Hr 0 (by decide) hkb
  refine g_Vq (As := [.int (nI kb)]) (rest := [.double (spD T ka)]) F hP hS (k_get l A G w (ad 1 0) (ad 2 0) (S 0 0).toNat gc22 gm22 gf22 kb ga22 gb22 gk22 gn22 gd22) (cwV 1 hts gX6_ratio_Jx4a65c_get_915e3 rfl rfl rfl cd_Jx4a65c_get_915e3 ⟨by rw [hR]; exact Nat.le_of_ble_eq_true rfl, by rw [hR]; exact Nat.le_of_ble_eq_true rfl⟩) ga22 rfl rfl rfl hl.1 (Nat.le_of_ble_eq_true rfl) dX6_ratio_42 ⟨by rw [hR]; exact Nat.le_of_ble_eq_true rfl, by rw [hR]; exact Nat.le_of_ble_eq_true rfl⟩ rfl (fun r23 w24 H locs h25 hP hS => ?_)
  have hr23 := h25.1
  rw [h25.2] at hP
  have f26 := rep_sh Hh Hr hkb
  have f27 := rep_fr Hh Hr hkb
  rw [hr23, ge22, show va_rf (some (ad (elk 0) kb)) = .ref (ad 3 kb) from rfl]
  refine g_cast F hP (C := RX4) (T := TX4) (N := 5) f26 rfl (List.mem_cons_of_mem _ (List.mem_append_left _ (List.mem_append_left _ (List.mem_append_left _ (List.mem_append_left _ (List.mem_append_left _ (List.mem_append_left _ (List.mem_append_left _ (List.mem_of_getElem? (i := 1) rfl))))))))) dX6_ratio_45 ?_
  refine g_get F hP (C := RX4) (T := TX4) (N := 5) iX4 f26 rfl 4 (by decide) (List.mem_cons_of_mem _ (List.mem_append_left _ (List.mem_append_left _ (List.mem_append_left _ (List.mem_append_left _ (List.mem_append_left _ (List.mem_append_left _ (List.mem_append_left _ (List.mem_of_getElem? (i := 2) rfl))))))))) (fun _ h9 => h9) rfl dX6_ratio_48 ?_
  refine g_Vd (As := []) (rest := [.double (spD T ka)]) F hP hS (k_X0_asDouble l A G w (ad 4 kb) (T 0 kb) (T 1 kb) f27 (spD_fr Ht hkb).1) (cwV 0 hts gX6_ratio_X0_asDouble rfl rfl rfl cd_X0_asDouble ⟨by rw [hR]; exact Nat.le_of_ble_eq_true rfl, by rw [hR]; exact Nat.le_of_ble_eq_true rfl⟩) f27 rfl rfl rfl hl.1 (Nat.le_of_ble_eq_true rfl) dX6_ratio_51 ⟨by rw [hR]; exact Nat.le_of_ble_eq_true rfl, by rw [hR]; exact Nat.le_of_ble_eq_true rfl⟩ rfl (fun r28 w29 H locs h30 hP hS => ?_)
  have hr28 : r28 = spD T kb := h30.1
  rw [h30.2] at hP
  rw [hr28]
  refine lv_ddiv hx hb dX6_ratio_54 (raD_n Ht hka hkb hs2.2) ?_
  refine lv_topd (fun v31 ev31 => ?_)
  obtain rfl : v31 = FP.ddiv (spD T ka) (spD T kb) := by
    exact ev31
  rw [hQ]
  refine g_xdret F hP hS hlocks hr dX6_ratio_55 (by first | exact Nat.le_of_ble_eq_true rfl | omega) (by first | exact Nat.le_of_ble_eq_true rfl | omega) ?_
  exact ⟨(if_pos ⟨ska, skb⟩).trans (by rw [nka, nkb]; exact if_pos ⟨hs1, hs2.1, hs2.2⟩), by unfold vlRatio; rw [nka, nkb], rfl⟩
