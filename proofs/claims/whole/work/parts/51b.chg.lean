set_option maxHeartbeats 4000000 in
set_option maxRecDepth 100000 in
theorem k_X6_move (l : Launch) (hlt : l.stackTraces = false) (A : Nat → Prop) (G : g_C) (w : g_W) (ad : Nat → Nat → Nat) (Cn : Nat → Nat → Option va_E) (S T : Sg) (pn x y : Int32) (Hh : holds w ad Cn) (Hr : rep G S T ad Cn) (Hi : invS S) (Ht : invT S T) (Ha : agr S T) : xI l yX6_move wsX6_move ({ frames := 7, cells := 2, slots := 12, locals := 111 } : Room) [.ref (ad 0 0), .int pn, .int x, .int y] A G w (fun r w' => cdMove S pn x y = 0 ∧ r = vlMove S pn x y ∧ after G w ad Cn w' (nxMove S pn x y)) (fun u => u.2 = w ∧ ((u.1 = "java/lang/IndexOutOfBoundsException" ∧ cdMove S pn x y = 1) ∨ (u.1 = "java/lang/IllegalArgumentException" ∧ cdMove S pn x y = 2))) 2 12 := by
  refine g_xofI (cc := cX6_move) (maxL := 6) (ret := (some .int)) (own := RX6) (by decide) rfl rfl (Nat.le_of_ble_eq_true rfl) ?_
  intro p e R s m args below meth c Q ls hR F hP hS hlocks hr hout hQ hl
  obtain ⟨⟨hx, hb, hml, hown, hts⟩, hK, hZ, hA⟩ := id F
  generalize hH0 : s.heap = H at hP ⊢
  have hS : va_S A s.heap H [] := by rw [← hH0]; exact va_S.rf
  generalize ([] : List Loc) = locs at hS ⊢
  have hl : lv_has ls 6 [(0, .ref (ad 0 0)), (1, .int pn), (2, .int x), (3, .int y)] := hl
  have iX4 : ∀ w ∈ u_ws RX4 TX4 5, w ∈ wsX6_move := fun w h => List.mem_cons_of_mem _ (List.mem_append_left _ (List.mem_append_left _ (List.mem_append_left _ (List.mem_append_right _ (h)))))
  have iX6 : ∀ w ∈ u_ws RX6 TX6 6, w ∈ wsX6_move := fun w h => List.mem_cons_of_mem _ (List.mem_append_left _ (List.mem_append_left _ (List.mem_append_left _ (List.mem_append_left _ (List.mem_append_right _ (h))))))
  have hx0 := rep_x Hh Hr
  obtain ⟨m0, a0, hz0⟩ := rep_size Hh Hr 0 (by decide)
  have hi := Hi.1
  refine lv_aload_n hx hb dX6_move_0 rfl (lv_at hl 0 rfl) ?_
  refine lv_iload_n hx hb dX6_move_1 rfl (lv_at hl 1 rfl) ?_
  rw [hQ]
  refine g_xVv (As := [.int pn]) (rest := []) F hP hS (k_X6_requireShaft l hlt A G w ad Cn S T pn Hh Hr Hi) (cwV 1 hts gX6_move_X6_requireShaft rfl rfl rfl cd_X6_requireShaft ⟨by rw [hR]; exact Nat.le_of_ble_eq_true rfl, by rw [hR]; exact Nat.le_of_ble_eq_true rfl⟩) hx0 rfl rfl rfl hl.1 (Nat.le_of_ble_eq_true rfl) dX6_move_2 ⟨by rw [hR]; exact Nat.le_of_ble_eq_true rfl, by rw [hR]; exact Nat.le_of_ble_eq_true rfl⟩ rfl hout hlocks (by decide) (by decide) (fun u h => by obtain ⟨h1, h2⟩ := h; subst h1; exact ⟨rfl, Or.inl ⟨rfl, (if_neg h2)⟩⟩) (fun w2 H locs h3 hP hS => ?_)
  rw [← hQ]
  rw [h3.2] at hP
  have sk := h3.1
  obtain ⟨k, hk, ek⟩ := ix_of sk.1 sk.2
  subst ek
  have nk : kN (nI k) = k := kN_n (by omega)
  refine lv_iload_n hx hb dX6_move_5 rfl (lv_at hl 2 rfl) ?_
  refine lv_iload_n hx hb dX6_move_6 rfl (lv_at hl 3 rfl) ?_
  rw [hQ]
  refine g_xSv (As := [.int x, .int y]) (rest := []) F hP hS (k_X6_requirePlace l hlt A G w x y) (va_cwS 2 hts gX6_move_X6_requirePlace rfl rfl rfl cd_X6_requirePlace ⟨by rw [hR]; exact Nat.le_of_ble_eq_true rfl, by rw [hR]; exact Nat.le_of_ble_eq_true rfl⟩) rfl hl.1 (Nat.le_of_ble_eq_true rfl) dX6_move_7 ⟨by rw [hR]; exact Nat.le_of_ble_eq_true rfl, by rw [hR]; exact Nat.le_of_ble_eq_true rfl⟩ rfl hout hlocks (by decide) (by decide) (fun u h => by obtain ⟨h1, h2⟩ := h; subst h1; rw [(show (((-1000) ≤ x ∧ x ≤ 1000) ∧ ((-1000) ≤ y ∧ y ≤ 1000)) ↔ plQ x y by rw [Int32.le_iff_toInt_le, Int32.le_iff_toInt_le, Int32.le_iff_toInt_le, Int32.le_iff_toInt_le]; exact Iff.rfl)] at h2; exact ⟨rfl, Or.inr ⟨rfl, (if_pos sk).trans (if_neg h2)⟩⟩) (fun w5 H locs h6 hP hS => ?_)
  rw [← hQ]
  rw [h6.2] at hP
  have hpl := h6.1
  rw [(show (((-1000) ≤ x ∧ x ≤ 1000) ∧ ((-1000) ≤ y ∧ y ≤ 1000)) ↔ plQ x y by rw [Int32.le_iff_toInt_le, Int32.le_iff_toInt_le, Int32.le_iff_toInt_le, Int32.le_iff_toInt_le]; exact Iff.rfl)] at hpl
  refine lv_aload_n hx hb dX6_move_10 rfl (lv_at hl 0 rfl) ?_
  refine g_get F hP (C := RX6) (T := TX6) (N := 6) iX6 hx0 rfl 0 (by decide) (List.mem_cons_of_mem _ (List.mem_append_left _ (List.mem_append_left _ (List.mem_append_left _ (List.mem_append_left _ (List.mem_append_left _ (List.mem_append_left _ (List.mem_of_getElem? (i := 0) rfl)))))))) (fun _ h9 => h9) rfl dX6_move_11 ?_
  refine lv_iload_n hx hb dX6_move_14 rfl (lv_at hl 1 rfl) ?_
  obtain ⟨gm7, gc7, gf7, ga7, gb7, gk7, gn7, gd7, ge7⟩ := rep_get Hh Hr 0 (by decide) hk
  refine g_Vq (As := [.int (nI k)]) (rest := []) F hP hS (k_get l A G w (ad 1 0) (ad 2 0) (S 0 0).toNat gc7 gm7 gf7 k ga7 gb7 gk7 gn7 gd7) (cwV 1 hts gX6_move_Jx4a65c_get_915e3 rfl rfl rfl cd_Jx4a65c_get_915e3 ⟨by rw [hR]; exact Nat.le_of_ble_eq_true rfl, by rw [hR]; exact Nat.le_of_ble_eq_true rfl⟩) ga7 rfl rfl rfl hl.1 (Nat.le_of_ble_eq_true rfl) dX6_move_15 ⟨by rw [hR]; exact Nat.le_of_ble_eq_true rfl, by rw [hR]; exact Nat.le_of_ble_eq_true rfl⟩ rfl (fun r8 w9 H locs h10 hP hS => ?_)
  have hr8 := h10.1
  rw [h10.2] at hP
  have f11 := rep_sh Hh Hr hk
  have f12 := rep_fr Hh Hr hk
  rw [hr8, ge7, show va_rf (some (ad (elk 0) k)) = .ref (ad 3 k) from rfl]
  refine g_cast F hP (C := RX4) (T := TX4) (N := 5) f11 rfl (List.mem_cons_of_mem _ (List.mem_append_left _ (List.mem_append_left _ (List.mem_append_left _ (List.mem_append_left _ (List.mem_append_left _ (List.mem_append_left _ (List.mem_of_getElem? (i := 1) rfl)))))))) dX6_move_18 ?_
  refine lv_astore (lv' := [(4, .ref (ad 3 k)), (0, .ref (ad 0 0)), (1, .int (nI k)), (2, .int x), (3, .int y)]) hx hb dX6_move_21 hl (by decide) rfl (fun ls hl => ?_)
  refine lv_aload hx hb dX6_move_23 (lv_at hl 0 rfl) ?_
  refine lv_iload_n hx hb dX6_move_25 rfl (lv_at hl 3 rfl) ?_
  refine lv_iload_n hx hb dX6_move_26 rfl (lv_at hl 4 rfl) ?_
  refine g_Vi (As := [.int x, .int y]) (rest := []) F hP hS (k_X4_squareTo l A G w (ad 3 k) x y (iL (S 1 k)) (iL (S 2 k)) (iL (S 3 k)) (iL (T 2 k)) (ad 4 k) f11) (cwV 2 hts gX6_move_X4_squareTo rfl rfl rfl cd_X4_squareTo ⟨by rw [hR]; exact Nat.le_of_ble_eq_true rfl, by rw [hR]; exact Nat.le_of_ble_eq_true rfl⟩) f11 rfl rfl rfl hl.1 (Nat.le_of_ble_eq_true rfl) dX6_move_27 ⟨by rw [hR]; exact Nat.le_of_ble_eq_true rfl, by rw [hR]; exact Nat.le_of_ble_eq_true rfl⟩ rfl (fun r13 w14 H locs h15 hP hS => ?_)
  have hr13 := h15.1
  rw [h15.2] at hP
  rw [hr13]
  refine lv_istore (lv' := [(5, .int ((iL (S 1 k) - x) * (iL (S 1 k) - x) + (iL (S 2 k) - y) * (iL (S 2 k) - y))), (4, .ref (ad 3 k)), (0, .ref (ad 0 0)), (1, .int (nI k)), (2, .int x), (3, .int y)]) hx hb dX6_move_30 hl (by decide) rfl (fun ls hl => ?_)
  refine lv_aload hx hb dX6_move_32 (lv_at hl 1 rfl) ?_
  refine lv_iload_n hx hb dX6_move_34 rfl (lv_at hl 4 rfl) ?_
  refine g_put F hP hS (C := RX4) (T := TX4) (N := 5) (v := .int x) (ty := .int) iX4 tyX4 tyX4_ok nmX4 f11 rfl 0 (by decide) (List.mem_cons_of_mem _ (List.mem_append_left _ (List.mem_append_left _ (List.mem_append_left _ (List.mem_append_left _ (List.mem_append_left _ (List.mem_append_left _ (List.mem_of_getElem? (i := 2) rfl)))))))) (fun _ h9 => h9) rfl (by decide +kernel) rfl rfl (by show 0 < 5; decide) dX6_move_35 (fun H locs hP hS => ?_)
  obtain ⟨w16, ew16⟩ : ∃ z, z = g_up w (ad 3 k) (.inr (5, [.int x, .int (iL (S 2 k)), .int (iL (S 3 k)), .int (iL (T 2 k)), .ref (ad 4 k)])) := ⟨_, rfl⟩
  have hP : g_P A G w16 H := by rw [ew16]; exact hP
  have f17 : w16 (ad 0 0) = some (.inr (7, [.ref (ad 1 0), .ref (ad 1 1), .ref (ad 1 2), .ref (ad 1 3), .int (iL (S 0 4)), .int (iL (S 0 5))])) := by rw [ew16]; exact g_up_f hx0 (g_ne hx0 f11 rfl)
  have f18 : w16 (ad 1 0) = some (.inr (0, [.int m0, .ref a0, .int (iL (S 0 0))])) := by rw [ew16]; exact g_up_f hz0 (g_ne hz0 f11 rfl)
  have f19 : w16 (ad 4 k) = some (.inr (1, [.long (zL (T 0 k)), .long (zL (T 1 k))])) := by rw [ew16]; exact g_up_f f12 (g_ne f12 f11 rfl)
  have f20 : w16 (ad 3 k) = some (.inr (5, [.int x, .int (iL (S 2 k)), .int (iL (S 3 k)), .int (iL (T 2 k)), .ref (ad 4 k)])) := by rw [ew16]; exact g_up_s _ _ _
  refine lv_aload hx hb dX6_move_38 (lv_at hl 1 rfl) ?_
  refine lv_iload_n hx hb dX6_move_40 rfl (lv_at hl 5 rfl) ?_
  refine g_put F hP hS (C := RX4) (T := TX4) (N := 5) (v := .int y) (ty := .int) iX4 tyX4 tyX4_ok nmX4 f20 rfl 1 (by decide) (List.mem_cons_of_mem _ (List.mem_append_left _ (List.mem_append_left _ (List.mem_append_left _ (List.mem_append_left _ (List.mem_append_left _ (List.mem_append_left _ (List.mem_of_getElem? (i := 3) rfl)))))))) (fun _ h9 => h9) rfl (by decide +kernel) rfl rfl (by show 1 < 5; decide) dX6_move_41 (fun H locs hP hS => ?_)
  obtain ⟨w21, ew21⟩ : ∃ z, z = g_up w16 (ad 3 k) (.inr (5, [.int x, .int y, .int (iL (S 3 k)), .int (iL (T 2 k)), .ref (ad 4 k)])) := ⟨_, rfl⟩
  have hP : g_P A G w21 H := by rw [ew21]; exact hP
  have f22 : w21 (ad 0 0) = some (.inr (7, [.ref (ad 1 0), .ref (ad 1 1), .ref (ad 1 2), .ref (ad 1 3), .int (iL (S 0 4)), .int (iL (S 0 5))])) := by rw [ew21]; exact g_up_f f17 (g_ne f17 f20 rfl)
  have f23 : w21 (ad 1 0) = some (.inr (0, [.int m0, .ref a0, .int (iL (S 0 0))])) := by rw [ew21]; exact g_up_f f18 (g_ne f18 f20 rfl)
  have f24 : w21 (ad 4 k) = some (.inr (1, [.long (zL (T 0 k)), .long (zL (T 1 k))])) := by rw [ew21]; exact g_up_f f19 (g_ne f19 f20 rfl)
  have f25 : w21 (ad 3 k) = some (.inr (5, [.int x, .int y, .int (iL (S 3 k)), .int (iL (T 2 k)), .ref (ad 4 k)])) := by rw [ew21]; exact g_up_s _ _ _
  refine lv_iload hx hb dX6_move_44 (lv_at hl 0 rfl) ?_
  rw [hQ]
  refine g_xiret F hP hS hlocks hr dX6_move_46 (by first | exact Nat.le_of_ble_eq_true rfl | omega) (by first | exact Nat.le_of_ble_eq_true rfl | omega) ?_
  exact ⟨(if_pos sk).trans (if_pos hpl), by unfold vlMove; rw [nk], move_fin ⟨Hh, Hr, Hi, Ht, Ha⟩ sk hpl (by rw [nk]; simp only [ew21, ew16, g_up_up])⟩
