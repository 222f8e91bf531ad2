set_option maxHeartbeats 4000000 in
set_option maxRecDepth 100000 in
theorem k_X6_hold (l : Launch) (hlt : l.stackTraces = false) (A : Nat → Prop) (G : g_C) (w : g_W) (ad : Nat → Nat → Nat) (Cn : Nat → Nat → Option va_E) (S T : Sg) (pn : Int32) (bh : Bool) (Hh : holds w ad Cn) (Hr : rep G S T ad Cn) (Hi : invS S) (Ht : invT S T) (Ha : agr S T) : xI l yX6_hold wsX6_hold ({ frames := 7, cells := 2, slots := 12, locals := 162 } : Room) [.ref (ad 0 0), .int pn, .int (g_b bh)] A G w (fun r w' => cdHold S pn = 0 ∧ r = g_b (vlHold S pn) ∧ after G w ad Cn w' (nxHold S pn bh)) (fun u => u.2 = w ∧ ((u.1 = "java/lang/IndexOutOfBoundsException" ∧ cdHold S pn = 1) ∨ (u.1 = "java/lang/IllegalStateException" ∧ cdHold S pn = 2))) 2 12 := by
  refine g_xofI (cc := cX6_hold) (maxL := 5) (ret := (some .boolean)) (own := RX6) (by decide) rfl rfl (Nat.le_of_ble_eq_true rfl) ?_
  intro p e R s m args below meth c Q ls hR F hP hS hlocks hr hout hQ hl
  obtain ⟨⟨hx, hb, hml, hown, hts⟩, hK, hZ, hA⟩ := id F
  generalize hH0 : s.heap = H at hP ⊢
  have hS : va_S A s.heap H [] := by rw [← hH0]; exact va_S.rf
  generalize ([] : List Loc) = locs at hS ⊢
  have hl : lv_has ls 5 [(0, .ref (ad 0 0)), (1, .int pn), (2, .int (g_b bh))] := hl
  have iX4 : ∀ w ∈ u_ws RX4 TX4 5, w ∈ wsX6_hold := fun w h => List.mem_cons_of_mem _ (List.mem_append_left _ (List.mem_append_left _ (List.mem_append_left _ (List.mem_append_left _ (List.mem_append_left _ (List.mem_append_left _ (List.mem_append_left _ (List.mem_append_left _ (List.mem_append_right _ (h))))))))))
  have iX6 : ∀ w ∈ u_ws RX6 TX6 6, w ∈ wsX6_hold := fun w h => List.mem_cons_of_mem _ (List.mem_append_left _ (List.mem_append_left _ (List.mem_append_left _ (List.mem_append_left _ (List.mem_append_left _ (List.mem_append_left _ (List.mem_append_left _ (List.mem_append_left _ (List.mem_append_left _ (List.mem_append_right _ (h)))))))))))
  have hx0 := rep_x Hh Hr
  obtain ⟨m0, a0, hz0⟩ := rep_size Hh Hr 0 (by decide)
  have hi := Hi.1
  refine lv_aload_n hx hb dX6_hold_0 rfl (lv_at hl 0 rfl) ?_
  refine lv_iload_n hx hb dX6_hold_1 rfl (lv_at hl 1 rfl) ?_
  rw [hQ]
  refine g_xVv (As := [.int pn]) (rest := []) F hP hS (k_X6_requireShaft l hlt A G w ad Cn S T pn Hh Hr Hi) (cwV 1 hts gX6_hold_X6_requireShaft rfl rfl rfl cd_X6_requireShaft ⟨by rw [hR]; exact Nat.le_of_ble_eq_true rfl, by rw [hR]; exact Nat.le_of_ble_eq_true rfl⟩) hx0 rfl rfl rfl hl.1 (Nat.le_of_ble_eq_true rfl) dX6_hold_2 ⟨by rw [hR]; exact Nat.le_of_ble_eq_true rfl, by rw [hR]; exact Nat.le_of_ble_eq_true rfl⟩ rfl hout hlocks (by decide) (by decide) (fun u h => by obtain ⟨h1, h2⟩ := h; subst h1; exact ⟨rfl, Or.inl ⟨rfl, (if_neg h2)⟩⟩) (fun w2 H locs h3 hP hS => ?_)
  rw [← hQ]
  rw [h3.2] at hP
  have sk := h3.1
  obtain ⟨k, hk, ek⟩ := ix_of sk.1 sk.2
  subst ek
  have nk : kN (nI k) = k := kN_n (by omega)
  refine lv_iload_n hx hb dX6_hold_5 rfl (lv_at hl 1 rfl) ?_
  refine lv_aload_n hx hb dX6_hold_6 rfl (lv_at hl 0 rfl) ?_
  refine g_get F hP (C := RX6) (T := TX6) (N := 6) iX6 hx0 rfl 4 (by decide) (List.mem_cons_of_mem _ (List.mem_append_left _ (List.mem_append_left _ (List.mem_append_left _ (List.mem_append_left _ (List.mem_append_left _ (List.mem_append_left _ (List.mem_append_left _ (List.mem_append_left _ (List.mem_append_left _ (List.mem_append_left _ (List.mem_append_left _ (List.mem_of_getElem? (i := 2) rfl))))))))))))) (fun _ h9 => h9) rfl dX6_hold_7 ?_
  refine lv_icmp_ne (tgt := 23) hx hb dX6_hold_10 (by decide) (fun c4 => ?_) (fun c4 => ?_)
  · have kt : (nI k).toInt = (k : Int) := nI_toInt (by omega)
    have yc4 : ¬ ((nI k).toInt = S 0 4) := fun q => c4 ((nI_eqi (by omega) (by omega) (by omega)).mpr (by rw [← kt]; exact q))
    refine lv_aload_n hx hb dX6_hold_23 rfl (lv_at hl 0 rfl) ?_
    refine g_get F hP (C := RX6) (T := TX6) (N := 6) iX6 hx0 rfl 0 (by decide) (List.mem_cons_of_mem _ (List.mem_append_left _ (List.mem_append_left _ (List.mem_append_left _ (List.mem_append_left _ (List.mem_append_left _ (List.mem_append_left _ (List.mem_append_left _ (List.mem_append_left _ (List.mem_append_left _ (List.mem_append_left _ (List.mem_append_left _ (List.mem_of_getElem? (i := 3) rfl))))))))))))) (fun _ h9 => h9) rfl dX6_hold_24 ?_
    refine lv_iload_n hx hb dX6_hold_27 rfl (lv_at hl 1 rfl) ?_
    obtain ⟨gm5, gc5, gf5, ga5, gb5, gk5, gn5, gd5, ge5⟩ := rep_get Hh Hr 0 (by decide) hk
    refine g_Vq (As := [.int (nI k)]) (rest := []) F hP hS (k_get l A G w (ad 1 0) (ad 2 0) (S 0 0).toNat gc5 gm5 gf5 k ga5 gb5 gk5 gn5 gd5) (cwV 1 hts gX6_hold_Jx4a65c_get_915e3 rfl rfl rfl cd_Jx4a65c_get_915e3 ⟨by rw [hR]; exact Nat.le_of_ble_eq_true rfl, by rw [hR]; exact Nat.le_of_ble_eq_true rfl⟩) ga5 rfl rfl rfl hl.1 (Nat.le_of_ble_eq_true rfl) dX6_hold_28 ⟨by rw [hR]; exact Nat.le_of_ble_eq_true rfl, by rw [hR]; exact Nat.le_of_ble_eq_true rfl⟩ rfl (fun r6 w7 H locs h8 hP hS => ?_)
    have hr6 := h8.1
    rw [h8.2] at hP
    have f9 := rep_sh Hh Hr hk
    have f10 := rep_fr Hh Hr hk
    rw [hr6, ge5, show va_rf (some (ad (elk 0) k)) = .ref (ad 3 k) from rfl]
    refine g_cast F hP (C := RX4) (T := TX4) (N := 5) f9 rfl (List.mem_cons_of_mem _ (List.mem_append_left _ (List.mem_append_left _ (List.mem_append_left _ (List.mem_append_left _ (List.mem_append_left _ (List.mem_append_left _ (List.mem_append_left _ (List.mem_append_left _ (List.mem_append_left _ (List.mem_append_left _ (List.mem_append_left _ (List.mem_of_getElem? (i := 4) rfl))))))))))))) dX6_hold_31 ?_
    have e3 := iL_b (Hi.2.1 k hk).2.2.2.2
    rw [e3] at f9
    refine lv_astore_n (lv' := [(3, .ref (ad 3 k)), (0, .ref (ad 0 0)), (1, .int (nI k)), (2, .int (g_b bh))]) hx hb dX6_hold_34 rfl hl (by decide) rfl (fun ls hl => ?_)
    refine lv_aload_n hx hb dX6_hold_35 rfl (lv_at hl 0 rfl) ?_
    refine g_get F hP (C := RX4) (T := TX4) (N := 5) iX4 f9 rfl 2 (by decide) (List.mem_cons_of_mem _ (List.mem_append_left _ (List.mem_append_left _ (List.mem_append_left _ (List.mem_append_left _ (List.mem_append_left _ (List.mem_append_left _ (List.mem_append_left _ (List.mem_append_left _ (List.mem_append_left _ (List.mem_append_left _ (List.mem_append_left _ (List.mem_of_getElem? (i := 5) rfl))))))))))))) (fun _ h9 => h9) rfl dX6_hold_36 ?_
    refine lv_istore (lv' := [(4, .int (g_b (decide (S 3 k = 1)))), (3, .ref (ad 3 k)), (0, .ref (ad 0 0)), (1, .int (nI k)), (2, .int (g_b bh))]) hx hb dX6_hold_39 hl (by decide) rfl (fun ls hl => ?_)
    refine lv_aload_n hx hb dX6_hold_41 rfl (lv_at hl 1 rfl) ?_
    refine lv_iload_n hx hb dX6_hold_42 rfl (lv_at hl 4 rfl) ?_
    refine g_put F hP hS (C := RX4) (T := TX4) (N := 5) (v := .int (g_b bh)) (ty := .boolean) iX4 tyX4 tyX4_ok nmX4 f9 rfl 2 (by decide) (List.mem_cons_of_mem _ (List.mem_append_left _ (List.mem_append_left _ (List.mem_append_left _ (List.mem_append_left _ (List.mem_append_left _ (List.mem_append_left _ (List.mem_append_left _ (List.mem_append_left _ (List.mem_append_left _ (List.mem_append_left _ (List.mem_append_left _ (List.mem_of_getElem? (i := 5) rfl))))))))))))) (fun _ h9 => h9) rfl (by decide +kernel) (by first | rfl | exact g_nb _) (by first | rfl | exact g_fb _) (by show 2 < 5; decide) dX6_hold_43 (fun H locs hP hS => ?_)
    obtain ⟨w11, ew11⟩ : ∃ z, z = g_up w (ad 3 k) (.inr (5, [.int (iL (S 1 k)), .int (iL (S 2 k)), .int (g_b bh), .int (iL (T 2 k)), .ref (ad 4 k)])) := ⟨_, rfl⟩
    have hP : g_P A G w11 H := by rw [ew11]; exact hP
    have f12 : w11 (ad 0 0) = some (.inr (7, [.ref (ad 1 0), .ref (ad 1 1), .ref (ad 1 2), .ref (ad 1 3), .int (iL (S 0 4)), .int (iL (S 0 5))])) := by rw [ew11]; exact g_up_f hx0 (g_ne hx0 f9 rfl)
    have f13 : w11 (ad 1 0) = some (.inr (0, [.int m0, .ref a0, .int (iL (S 0 0))])) := by rw [ew11]; exact g_up_f hz0 (g_ne hz0 f9 rfl)
    have f14 : w11 (ad 4 k) = some (.inr (1, [.long (zL (T 0 k)), .long (zL (T 1 k))])) := by rw [ew11]; exact g_up_f f10 (g_ne f10 f9 rfl)
    have f15 : w11 (ad 3 k) = some (.inr (5, [.int (iL (S 1 k)), .int (iL (S 2 k)), .int (g_b bh), .int (iL (T 2 k)), .ref (ad 4 k)])) := by rw [ew11]; exact g_up_s _ _ _
    obtain ⟨C1, g1, H1, R1, I1⟩ := hold_new (w1 := w11) (p := nI k) (b := bh) Hh Hr Hi sk (by rw [nk]; simp only [ew11])
    have hxt := f12
    have a00 : ad 0 0 = ad 0 0 := rfl
    refine lv_aload_n hx hb dX6_hold_46 rfl (lv_at hl 2 rfl) ?_
    refine g_Vv (As := []) (rest := []) F hP hS (k_X6_tellSpeeds l A G w11 _ _ (nxHold S (nI k) bh) T H1 R1 I1) (cwV 0 hts gX6_hold_X6_tellSpeeds rfl rfl rfl cd_X6_tellSpeeds ⟨by rw [hR]; exact Nat.le_of_ble_eq_true rfl, by rw [hR]; exact Nat.le_of_ble_eq_true rfl⟩) hxt rfl rfl rfl hl.1 (Nat.le_of_ble_eq_true rfl) dX6_hold_47 ⟨by rw [hR]; exact Nat.le_of_ble_eq_true rfl, by rw [hR]; exact Nat.le_of_ble_eq_true rfl⟩ rfl (fun w17 H locs h18 hP hS => ?_)
    have aft := after_tell I1 a00 g1 h18
    refine lv_iload hx hb dX6_hold_50 (lv_at hl 0 rfl) ?_
    rw [hQ]
    refine g_xzret F hP hS hlocks hr (by first | rfl | exact g_nb _) dX6_hold_52 (by first | exact Nat.le_of_ble_eq_true rfl | omega) (by first | exact Nat.le_of_ble_eq_true rfl | omega) ?_
    exact ⟨(if_pos sk).trans (if_neg yc4), by unfold vlHold; rw [nk], aft⟩
  · have kt : (nI k).toInt = (k : Int) := nI_toInt (by omega)
    have yc4 : (nI k).toInt = S 0 4 := by rw [kt]; exact (nI_eqi (by omega) (by omega) (by omega)).mp c4
    rw [hQ]
    refine g_throw F hP hS hlt rfl (hZ.2.2.2.2.2.2.2.1 ("java/lang/IllegalStateException", "java/lang/IllegalStateException") (List.mem_of_getElem? (i := 1) rfl)) (by decide +kernel) (List.mem_cons_of_mem _ (List.mem_append_left _ (List.mem_append_left _ (List.mem_append_left _ (List.mem_append_left _ (List.mem_append_left _ (List.mem_append_left _ (List.mem_append_left _ (List.mem_append_left _ (List.mem_append_left _ (List.mem_append_left _ (List.mem_append_left _ (List.mem_of_getElem? (i := 0) rfl))))))))))))) (List.mem_cons_of_mem _ (List.mem_append_left _ (List.mem_append_left _ (List.mem_append_left _ (List.mem_append_left _ (List.mem_append_left _ (List.mem_append_left _ (List.mem_append_left _ (List.mem_append_left _ (List.mem_append_left _ (List.mem_append_left _ (List.mem_append_left _ (List.mem_of_getElem? (i := 1) rfl))))))))))))) (cls := "java/lang/IllegalStateException") (text := "the driver is not held") (List.mem_of_getElem? (i := 7) rfl) (fun w h => List.mem_cons_of_mem _ (List.mem_append_left _ (List.mem_append_right _ (h)))) xt_IllegalSt_44_b (fun w h => (List.mem_cons.mp h).elim (fun e => by rw [e]; rfl) (fun h => (List.mem_cons.mp h).elim (fun e => by rw [e]; rfl) (fun h => xt_IllegalSt_44_g w h))) hl.1 dX6_hold_13 dX6_hold_16 dX6_hold_17 dX6_hold_19 dX6_hold_22 hout (by rw [hR]; exact Nat.le_of_ble_eq_true rfl) (by rw [hR]; exact Nat.le_of_ble_eq_true rfl) (by rw [hR]; exact Nat.le_of_ble_eq_true rfl) (by rw [hR]; exact Nat.le_of_ble_eq_true rfl) hlocks ?_ (by decide) (by decide)
    exact ⟨rfl, Or.inr ⟨rfl, (if_pos sk).trans (if_pos yc4)⟩⟩
