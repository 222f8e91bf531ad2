theorem cd_X6_tellSpeeds : yX6_tellSpeeds.cls = RX6 ∧ yX6_tellSpeeds.cls ≠ "java/lang/invoke/MethodHandle" ∧ yX6_tellSpeeds.cls ≠ "java/lang/invoke/VarHandle" ∧ (parseMethodDescriptor yX6_tellSpeeds.desc).map (fun d => d.parameters.length) = some 0 := by decide +kernel
set_option maxHeartbeats 4000000 in
set_option maxRecDepth 100000 in
theorem k_X6_drive (l : Launch) (hlt : l.stackTraces = false) (A : Nat → Prop) (G : g_C) (w : g_W) (ad : Nat → Nat → Nat) (Cn : Nat → Nat → Option va_E) (S T : Sg) (pn vn : Int32) (Hh : holds w ad Cn) (Hr : rep G S T ad Cn) (Hi : invS S) (Ht : invT S T) (Ha : agr S T) : xI l yX6_drive wsX6_drive ({ frames := 7, cells := 2, slots := 12, locals := 162 } : Room) [.ref (ad 0 0), .int pn, .int vn] A G w (fun r w' => cdDrive S pn vn = 0 ∧ r = vlDrive S ∧ after G w ad Cn w' (nxDrive S pn vn)) (fun u => u.2 = w ∧ ((u.1 = "java/lang/IndexOutOfBoundsException" ∧ cdDrive S pn vn = 1) ∨ (u.1 = "java/lang/IllegalArgumentException" ∧ cdDrive S pn vn = 2))) 2 12 := by
  refine g_xofI (cc := cX6_drive) (maxL := 4) (ret := (some .int)) (own := RX6) (by decide) rfl rfl (Nat.le_of_ble_eq_true rfl) ?_
  intro p e R s m args below meth c Q ls hR F hP hS hlocks hr hout hQ hl
  obtain ⟨⟨hx, hb, hml, hown, hts⟩, hK, hZ, hA⟩ := id F
  generalize hH0 : s.heap = H at hP ⊢
  have hS : va_S A s.heap H [] := by rw [← hH0]; exact va_S.rf
  generalize ([] : List Loc) = locs at hS ⊢
  have hl : lv_has ls 4 [(0, .ref (ad 0 0)), (1, .int pn), (2, .int vn)] := hl
  have iX4 : ∀ w ∈ u_ws RX4 TX4 5, w ∈ wsX6_drive := fun w h => List.mem_cons_of_mem _ (List.mem_append_left _ (List.mem_append_left _ (List.mem_append_left _ (List.mem_append_left _ (List.mem_append_left _ (List.mem_append_left _ (List.mem_append_left _ (List.mem_append_left _ (List.mem_append_right _ (h))))))))))
  have iX6 : ∀ w ∈ u_ws RX6 TX6 6, w ∈ wsX6_drive := fun w h => List.mem_cons_of_mem _ (List.mem_append_left _ (List.mem_append_left _ (List.mem_append_left _ (List.mem_append_left _ (List.mem_append_left _ (List.mem_append_left _ (List.mem_append_left _ (List.mem_append_left _ (List.mem_append_left _ (List.mem_append_right _ (h)))))))))))
  have hx0 := rep_x Hh Hr
  obtain ⟨m0, a0, hz0⟩ := rep_size Hh Hr 0 (by decide)
  have hi := Hi.1
  refine lv_aload_n hx hb dX6_drive_0 rfl (lv_at hl 0 rfl) ?_
  refine lv_iload_n hx hb dX6_drive_1 rfl (lv_at hl 1 rfl) ?_
  rw [hQ]
  refine g_xVv (As := [.int pn]) (rest := []) F hP hS (k_X6_requireShaft l hlt A G w ad Cn S T pn Hh Hr Hi) (cwV 1 hts gX6_drive_X6_requireShaft rfl rfl rfl cd_X6_requireShaft ⟨by rw [hR]; exact Nat.le_of_ble_eq_true rfl, by rw [hR]; exact Nat.le_of_ble_eq_true rfl⟩) hx0 rfl rfl rfl hl.1 (Nat.le_of_ble_eq_true rfl) dX6_drive_2 ⟨by rw [hR]; exact Nat.le_of_ble_eq_true rfl, by rw [hR]; exact Nat.le_of_ble_eq_true rfl⟩ rfl hout hlocks (by decide) (by decide) (fun u h => by obtain ⟨h1, h2⟩ := h; subst h1; exact ⟨rfl, Or.inl ⟨rfl, (if_neg h2)⟩⟩) (fun w2 H locs h3 hP hS => ?_)
  rw [← hQ]
  rw [h3.2] at hP
  have sk := h3.1
  obtain ⟨k, hk, ek⟩ := ix_of sk.1 sk.2
  subst ek
  have nk : kN (nI k) = k := kN_n (by omega)
  refine lv_iload_n hx hb dX6_drive_5 rfl (lv_at hl 2 rfl) ?_
  refine lv_sipush (v := (-1000)) hx hb dX6_drive_6 (by decide) ?_
  refine lv_sipush (v := 1000) hx hb dX6_drive_9 (by decide) ?_
  refine g_Si (As := [.int vn, .int (-1000), .int 1000]) (rest := []) F hP hS (k_X6_isWithin l A G w vn (-1000) 1000) (va_cwS 3 hts gX6_drive_X6_isWithin rfl rfl rfl cd_X6_isWithin ⟨by rw [hR]; exact Nat.le_of_ble_eq_true rfl, by rw [hR]; exact Nat.le_of_ble_eq_true rfl⟩) rfl hl.1 (Nat.le_of_ble_eq_true rfl) dX6_drive_12 ⟨by rw [hR]; exact Nat.le_of_ble_eq_true rfl, by rw [hR]; exact Nat.le_of_ble_eq_true rfl⟩ rfl (fun r4 w5 H locs h6 hP hS => ?_)
  have hr4 := h6.1
  rw [h6.2] at hP
  rw [hr4]
  refine lv_if_ne (tgt := 28) hx hb dX6_drive_15 (by decide) (fun c7 => ?_) (fun c7 => ?_)
  · have yc7 := of_decide_eq_true (g_b1.mp c7)
    have kc7 : ((-1000) ≤ vn ∧ vn ≤ 1000) ↔ inQ vn (-1000) 1000 := by rw [Int32.le_iff_toInt_le, Int32.le_iff_toInt_le]; exact Iff.rfl
    rw [kc7] at yc7
    obtain ⟨gm8, gc8, gf8, ga8, gb8, gk8, gn8, gd8, ge8⟩ := rep_get Hh Hr 0 (by decide) hk
    have ez8 : iL (S 0 0) = nI (S 0 0).toNat := iL_nn (by omega)
    have f9 := rep_sh Hh Hr hk
    have f10 := rep_fr Hh Hr hk
    refine lv_aload_n hx hb dX6_drive_28 rfl (lv_at hl 0 rfl) ?_
    refine g_get F hP (C := RX6) (T := TX6) (N := 6) iX6 hx0 rfl 4 (by decide) (List.mem_cons_of_mem _ (List.mem_append_left _ (List.mem_append_left _ (List.mem_append_left _ (List.mem_append_left _ (List.mem_append_left _ (List.mem_append_left _ (List.mem_append_left _ (List.mem_append_left _ (List.mem_append_left _ (List.mem_append_left _ (List.mem_append_left _ (List.mem_of_getElem? (i := 2) rfl))))))))))))) (fun _ h9 => h9) rfl dX6_drive_29 ?_
    refine lv_istore_n (lv' := [(3, .int (iL (S 0 4))), (0, .ref (ad 0 0)), (1, .int (nI k)), (2, .int vn)]) hx hb dX6_drive_32 rfl hl (by decide) rfl (fun ls hl => ?_)
    refine lv_aload_n hx hb dX6_drive_33 rfl (lv_at hl 1 rfl) ?_
    refine lv_iload_n hx hb dX6_drive_34 rfl (lv_at hl 2 rfl) ?_
    refine g_put F hP hS (C := RX6) (T := TX6) (N := 6) (v := .int (nI k)) (ty := .int) iX6 tyX6 tyX6_ok nmX6 hx0 rfl 4 (by decide) (List.mem_cons_of_mem _ (List.mem_append_left _ (List.mem_append_left _ (List.mem_append_left _ (List.mem_append_left _ (List.mem_append_left _ (List.mem_append_left _ (List.mem_append_left _ (List.mem_append_left _ (List.mem_append_left _ (List.mem_append_left _ (List.mem_append_left _ (List.mem_of_getElem? (i := 2) rfl))))))))))))) (fun _ h9 => h9) rfl (by decide +kernel) rfl rfl (by show 4 < 6; decide) dX6_drive_35 (fun H locs hP hS => ?_)
    obtain ⟨w11, ew11⟩ : ∃ z, z = g_up w (ad 0 0) (.inr (7, [.ref (ad 1 0), .ref (ad 1 1), .ref (ad 1 2), .ref (ad 1 3), .int (nI k), .int (iL (S 0 5))])) := ⟨_, rfl⟩
    have hP : g_P A G w11 H := by rw [ew11]; exact hP
    have f12 : w11 (ad 1 0) = some (.inr (0, [.int gm8, .ref (ad 2 0), .int (nI (S 0 0).toNat)])) := by rw [ew11]; exact g_up_f ga8 (g_ne ga8 hx0 rfl)
    have f13 : w11 (ad 2 0) = some (.inl (G.2.1 3, gc8, .inr (.inr (.inr (.inr gf8))))) := by rw [ew11]; exact g_up_f gb8 (g_ne gb8 hx0 rfl)
    have f14 : w11 (ad 3 k) = some (.inr (5, [.int (iL (S 1 k)), .int (iL (S 2 k)), .int (iL (S 3 k)), .int (iL (T 2 k)), .ref (ad 4 k)])) := by rw [ew11]; exact g_up_f f9 (g_ne f9 hx0 rfl)
    have f15 : w11 (ad 4 k) = some (.inr (1, [.long (zL (T 0 k)), .long (zL (T 1 k))])) := by rw [ew11]; exact g_up_f f10 (g_ne f10 hx0 rfl)
    have f16 : w11 (ad 0 0) = some (.inr (7, [.ref (ad 1 0), .ref (ad 1 1), .ref (ad 1 2), .ref (ad 1 3), .int (nI k), .int (iL (S 0 5))])) := by rw [ew11]; exact g_up_s _ _ _
    refine lv_aload_n hx hb dX6_drive_38 rfl (lv_at hl 1 rfl) ?_
    refine lv_iload_n hx hb dX6_drive_39 rfl (lv_at hl 3 rfl) ?_
    refine g_put F hP hS (C := RX6) (T := TX6) (N := 6) (v := .int vn) (ty := .int) iX6 tyX6 tyX6_ok nmX6 f16 rfl 5 (by decide) (List.mem_cons_of_mem _ (List.mem_append_left _ (List.mem_append_left _ (List.mem_append_left _ (List.mem_append_left _ (List.mem_append_left _ (List.mem_append_left _ (List.mem_append_left _ (List.mem_append_left _ (List.mem_append_left _ (List.mem_append_left _ (List.mem_append_left _ (List.mem_of_getElem? (i := 3) rfl))))))))))))) (fun _ h9 => h9) rfl (by decide +kernel) rfl rfl (by show 5 < 6; decide) dX6_drive_40 (fun H locs hP hS => ?_)
    obtain ⟨w17, ew17⟩ : ∃ z, z = g_up w11 (ad 0 0) (.inr (7, [.ref (ad 1 0), .ref (ad 1 1), .ref (ad 1 2), .ref (ad 1 3), .int (nI k), .int vn])) := ⟨_, rfl⟩
    have hP : g_P A G w17 H := by rw [ew17]; exact hP
    have f18 : w17 (ad 1 0) = some (.inr (0, [.int gm8, .ref (ad 2 0), .int (nI (S 0 0).toNat)])) := by rw [ew17]; exact g_up_f f12 (g_ne f12 f16 rfl)
    have f19 : w17 (ad 2 0) = some (.inl (G.2.1 3, gc8, .inr (.inr (.inr (.inr gf8))))) := by rw [ew17]; exact g_up_f f13 (g_ne f13 f16 rfl)
    have f20 : w17 (ad 3 k) = some (.inr (5, [.int (iL (S 1 k)), .int (iL (S 2 k)), .int (iL (S 3 k)), .int (iL (T 2 k)), .ref (ad 4 k)])) := by rw [ew17]; exact g_up_f f14 (g_ne f14 f16 rfl)
    have f21 : w17 (ad 4 k) = some (.inr (1, [.long (zL (T 0 k)), .long (zL (T 1 k))])) := by rw [ew17]; exact g_up_f f15 (g_ne f15 f16 rfl)
    have f22 : w17 (ad 0 0) = some (.inr (7, [.ref (ad 1 0), .ref (ad 1 1), .ref (ad 1 2), .ref (ad 1 3), .int (nI k), .int vn])) := by rw [ew17]; exact g_up_s _ _ _
    refine lv_aload_n hx hb dX6_drive_43 rfl (lv_at hl 1 rfl) ?_
    refine g_get F hP (C := RX6) (T := TX6) (N := 6) iX6 f22 rfl 0 (by decide) (List.mem_cons_of_mem _ (List.mem_append_left _ (List.mem_append_left _ (List.mem_append_left _ (List.mem_append_left _ (List.mem_append_left _ (List.mem_append_left _ (List.mem_append_left _ (List.mem_append_left _ (List.mem_append_left _ (List.mem_append_left _ (List.mem_append_left _ (List.mem_of_getElem? (i := 4) rfl))))))))))))) (fun _ h9 => h9) rfl dX6_drive_44 ?_
    refine lv_iload_n hx hb dX6_drive_47 rfl (lv_at hl 2 rfl) ?_
    refine g_Vq (As := [.int (nI k)]) (rest := []) F hP hS (k_get l A G w17 (ad 1 0) (ad 2 0) (S 0 0).toNat gc8 gm8 gf8 k f18 f19 gk8 gn8 gd8) (cwV 1 hts gX6_drive_Jx4a65c_get_915e3 rfl rfl rfl cd_Jx4a65c_get_915e3 ⟨by rw [hR]; exact Nat.le_of_ble_eq_true rfl, by rw [hR]; exact Nat.le_of_ble_eq_true rfl⟩) f18 rfl rfl rfl hl.1 (Nat.le_of_ble_eq_true rfl) dX6_drive_48 ⟨by rw [hR]; exact Nat.le_of_ble_eq_true rfl, by rw [hR]; exact Nat.le_of_ble_eq_true rfl⟩ rfl (fun r23 w24 H locs h25 hP hS => ?_)
    have hr23 := h25.1
    rw [h25.2] at hP
    rw [hr23, ge8, show va_rf (some (ad (elk 0) k)) = .ref (ad 3 k) from rfl]
    refine g_cast F hP (C := RX4) (T := TX4) (N := 5) f20 rfl (List.mem_cons_of_mem _ (List.mem_append_left _ (List.mem_append_left _ (List.mem_append_left _ (List.mem_append_left _ (List.mem_append_left _ (List.mem_append_left _ (List.mem_append_left _ (List.mem_append_left _ (List.mem_append_left _ (List.mem_append_left _ (List.mem_append_left _ (List.mem_of_getElem? (i := 5) rfl))))))))))))) dX6_drive_51 ?_
    refine lv_iconst (v := 0) hx hb dX6_drive_54 (by decide) ?_
    refine g_put F hP hS (C := RX4) (T := TX4) (N := 5) (v := .int 0) (ty := .boolean) iX4 tyX4 tyX4_ok nmX4 f20 rfl 2 (by decide) (List.mem_cons_of_mem _ (List.mem_append_left _ (List.mem_append_left _ (List.mem_append_left _ (List.mem_append_left _ (List.mem_append_left _ (List.mem_append_left _ (List.mem_append_left _ (List.mem_append_left _ (List.mem_append_left _ (List.mem_append_left _ (List.mem_append_left _ (List.mem_of_getElem? (i := 6) rfl))))))))))))) (fun _ h9 => h9) rfl (by decide +kernel) (by first | rfl | exact g_nb _) (by first | rfl | exact g_fb _) (by show 2 < 5; decide) dX6_drive_55 (fun H locs hP hS => ?_)
    obtain ⟨w26, ew26⟩ : ∃ z, z = g_up w17 (ad 3 k) (.inr (5, [.int (iL (S 1 k)), .int (iL (S 2 k)), .int 0, .int (iL (T 2 k)), .ref (ad 4 k)])) := ⟨_, rfl⟩
    have hP : g_P A G w26 H := by rw [ew26]; exact hP
    have f27 : w26 (ad 1 0) = some (.inr (0, [.int gm8, .ref (ad 2 0), .int (nI (S 0 0).toNat)])) := by rw [ew26]; exact g_up_f f18 (g_ne f18 f20 rfl)
    have f28 : w26 (ad 2 0) = some (.inl (G.2.1 3, gc8, .inr (.inr (.inr (.inr gf8))))) := by rw [ew26]; exact g_up_f f19 (g_ne f19 f20 rfl)
    have f29 : w26 (ad 4 k) = some (.inr (1, [.long (zL (T 0 k)), .long (zL (T 1 k))])) := by rw [ew26]; exact g_up_f f21 (g_ne f21 f20 rfl)
    have f30 : w26 (ad 0 0) = some (.inr (7, [.ref (ad 1 0), .ref (ad 1 1), .ref (ad 1 2), .ref (ad 1 3), .int (nI k), .int vn])) := by rw [ew26]; exact g_up_f f22 (g_ne f22 f20 rfl)
    have f31 : w26 (ad 3 k) = some (.inr (5, [.int (iL (S 1 k)), .int (iL (S 2 k)), .int 0, .int (iL (T 2 k)), .ref (ad 4 k)])) := by rw [ew26]; exact g_up_s _ _ _
    obtain ⟨C1, g1, H1, R1, I1⟩ := drive_new (w1 := w26) (p := nI k) (v := vn) Hh Hr Hi sk yc7 (by rw [nk]; simp only [ew26, ew17, ew11, g_up_up])
    have hxt := f30
    have a00 : ad 0 0 = ad 0 0 := rfl
    refine lv_aload_n hx hb dX6_drive_58 rfl (lv_at hl 1 rfl) ?_
    refine g_Vv (As := []) (rest := []) F hP hS (k_X6_tellSpeeds l A G w26 _ _ (nxDrive S (nI k) vn) T H1 R1 I1) (cwV 0 hts gX6_drive_X6_tellSpeeds rfl rfl rfl cd_X6_tellSpeeds ⟨by rw [hR]; exact Nat.le_of_ble_eq_true rfl, by rw [hR]; exact Nat.le_of_ble_eq_true rfl⟩) hxt rfl rfl rfl hl.1 (Nat.le_of_ble_eq_true rfl) dX6_drive_59 ⟨by rw [hR]; exact Nat.le_of_ble_eq_true rfl, by rw [hR]; exact Nat.le_of_ble_eq_true rfl⟩ rfl (fun w33 H locs h34 hP hS => ?_)
    have aft := after_tell I1 a00 g1 h34
    refine lv_iload_n hx hb dX6_drive_62 rfl (lv_at hl 0 rfl) ?_
    rw [hQ]
    refine g_xiret F hP hS hlocks hr dX6_drive_63 (by first | exact Nat.le_of_ble_eq_true rfl | omega) (by first | exact Nat.le_of_ble_eq_true rfl | omega) ?_
    exact ⟨(if_pos sk).trans (if_pos yc7), rfl, aft⟩
  · have yc7 := of_decide_eq_false (g_b0.mp c7)
    have kc7 : ((-1000) ≤ vn ∧ vn ≤ 1000) ↔ inQ vn (-1000) 1000 := by rw [Int32.le_iff_toInt_le, Int32.le_iff_toInt_le]; exact Iff.rfl
    rw [kc7] at yc7
    rw [hQ]
    refine g_throw F hP hS hlt rfl (hZ.2.2.2.2.2.2.2.1 ("java/lang/IllegalArgumentException", "java/lang/IllegalArgumentException") (List.mem_of_getElem? (i := 0) rfl)) (by decide +kernel) (List.mem_cons_of_mem _ (List.mem_append_left _ (List.mem_append_left _ (List.mem_append_left _ (List.mem_append_left _ (List.mem_append_left _ (List.mem_append_left _ (List.mem_append_left _ (List.mem_append_left _ (List.mem_append_left _ (List.mem_append_left _ (List.mem_append_left _ (List.mem_of_getElem? (i := 0) rfl))))))))))))) (List.mem_cons_of_mem _ (List.mem_append_left _ (List.mem_append_left _ (List.mem_append_left _ (List.mem_append_left _ (List.mem_append_left _ (List.mem_append_left _ (List.mem_append_left _ (List.mem_append_left _ (List.mem_append_left _ (List.mem_append_left _ (List.mem_append_left _ (List.mem_of_getElem? (i := 1) rfl))))))))))))) (cls := "java/lang/IllegalArgumentException") (text := "no such speed of a driver") (List.mem_of_getElem? (i := 6) rfl) (fun w h => List.mem_cons_of_mem _ (List.mem_append_left _ (List.mem_append_right _ (h)))) xt_IllegalAr_81_b (fun w h => (List.mem_cons.mp h).elim (fun e => by rw [e]; rfl) (fun h => (List.mem_cons.mp h).elim (fun e => by rw [e]; rfl) (fun h => xt_IllegalAr_81_g w h))) hl.1 dX6_drive_18 dX6_drive_21 dX6_drive_22 dX6_drive_24 dX6_drive_27 hout (by rw [hR]; exact Nat.le_of_ble_eq_true rfl) (by rw [hR]; exact Nat.le_of_ble_eq_true rfl) (by rw [hR]; exact Nat.le_of_ble_eq_true rfl) (by rw [hR]; exact Nat.le_of_ble_eq_true rfl) hlocks ?_ (by decide) (by decide)
    exact ⟨rfl, Or.inr ⟨rfl, (if_pos sk).trans (if_neg yc7)⟩⟩
