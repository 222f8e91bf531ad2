theorem cd_X6_requireSpeed : yX6_requireSpeed.cls = RX6 ∧ yX6_requireSpeed.cls ≠ "java/lang/invoke/MethodHandle" ∧ yX6_requireSpeed.cls ≠ "java/lang/invoke/VarHandle" ∧ (parseMethodDescriptor yX6_requireSpeed.desc).map (fun d => d.parameters.length) = some 1 := by decide +kernel
set_option maxHeartbeats 4000000 in
set_option maxRecDepth 100000 in
theorem k_X6_speed (l : Launch) (hlt : l.stackTraces = false) (A : Nat → Prop) (G : g_C) (w : g_W) (ad : Nat → Nat → Nat) (Cn : Nat → Nat → Option va_E) (S T : Sg) (pn : Int32) (bd : Bool) (Hh : holds w ad Cn) (Hr : rep G S T ad Cn) (Hi : invS S) (Ht : invT S T) : xI l yX6_speed wsX6_speed ({ frames := 7, cells := 2, slots := 12, locals := 111 } : Room) [.ref (ad 0 0), .int pn, .int (g_b bd)] A G w (fun r w' => cdSpeed S T pn = 0 ∧ r = vlSpeed T pn bd ∧ w' = w) (fun u => u.2 = w ∧ ((u.1 = "java/lang/IndexOutOfBoundsException" ∧ cdSpeed S T pn = 1) ∨ (u.1 = "java/lang/IllegalStateException" ∧ cdSpeed S T pn = 2))) 2 12 := by
  refine g_xofI (cc := cX6_speed) (maxL := 4) (ret := (some .int)) (own := RX6) (by decide) rfl rfl (Nat.le_of_ble_eq_true rfl) ?_
  intro p e R s m args below meth c Q ls hR F hP hS hlocks hr hout hQ hl
  obtain ⟨⟨hx, hb, hml, hown, hts⟩, hK, hZ, hA⟩ := id F
  generalize hH0 : s.heap = H at hP ⊢
  have hS : va_S A s.heap H [] := by rw [← hH0]; exact va_S.rf
  generalize ([] : List Loc) = locs at hS ⊢
  have hl : lv_has ls 4 [(0, .ref (ad 0 0)), (1, .int pn), (2, .int (g_b bd))] := hl
  have iX0 : ∀ w ∈ u_ws RX0 TX0 2, w ∈ wsX6_speed := fun w h => List.mem_cons_of_mem _ (List.mem_append_left _ (List.mem_append_left _ (List.mem_append_left _ (List.mem_append_right _ (h)))))
  have iX4 : ∀ w ∈ u_ws RX4 TX4 5, w ∈ wsX6_speed := fun w h => List.mem_cons_of_mem _ (List.mem_append_left _ (List.mem_append_left _ (List.mem_append_left _ (List.mem_append_left _ (List.mem_append_right _ (h))))))
  have iX6 : ∀ w ∈ u_ws RX6 TX6 6, w ∈ wsX6_speed := fun w h => List.mem_cons_of_mem _ (List.mem_append_left _ (List.mem_append_left _ (List.mem_append_left _ (List.mem_append_left _ (List.mem_append_left _ (List.mem_append_right _ (h)))))))
  have hx0 := rep_x Hh Hr
  obtain ⟨m0, a0, hz0⟩ := rep_size Hh Hr 0 (by decide)
  have hi := Hi.1
  refine lv_aload_n hx hb dX6_speed_0 rfl (lv_at hl 0 rfl) ?_
  refine lv_iload_n hx hb dX6_speed_1 rfl (lv_at hl 1 rfl) ?_
  rw [hQ]
  refine g_xVv (As := [.int pn]) (rest := []) F hP hS (k_X6_requireShaft l hlt A G w ad Cn S T pn Hh Hr Hi) (cwV 1 hts gX6_speed_X6_requireShaft rfl rfl rfl cd_X6_requireShaft ⟨by rw [hR]; exact Nat.le_of_ble_eq_true rfl, by rw [hR]; exact Nat.le_of_ble_eq_true rfl⟩) hx0 rfl rfl rfl hl.1 (Nat.le_of_ble_eq_true rfl) dX6_speed_2 ⟨by rw [hR]; exact Nat.le_of_ble_eq_true rfl, by rw [hR]; exact Nat.le_of_ble_eq_true rfl⟩ rfl hout hlocks (by decide) (by decide) (fun u h => by obtain ⟨h1, h2⟩ := h; subst h1; exact ⟨rfl, Or.inl ⟨rfl, (if_neg h2)⟩⟩) (fun w2 H locs h3 hP hS => ?_)
  rw [← hQ]
  rw [h3.2] at hP
  have sk := h3.1
  obtain ⟨k, hk, ek⟩ := ix_of sk.1 sk.2
  subst ek
  have nk : kN (nI k) = k := kN_n (by omega)
  refine lv_aload_n hx hb dX6_speed_5 rfl (lv_at hl 0 rfl) ?_
  refine lv_iload_n hx hb dX6_speed_6 rfl (lv_at hl 1 rfl) ?_
  rw [hQ]
  refine g_xVv (As := [.int (nI k)]) (rest := []) F hP hS (k_X6_requireSpeed l hlt A G w ad Cn S T k Hh Hr Hi Ht hk) (cwV 1 hts gX6_speed_X6_requireSpeed rfl rfl rfl cd_X6_requireSpeed ⟨by rw [hR]; exact Nat.le_of_ble_eq_true rfl, by rw [hR]; exact Nat.le_of_ble_eq_true rfl⟩) hx0 rfl rfl rfl hl.1 (Nat.le_of_ble_eq_true rfl) dX6_speed_7 ⟨by rw [hR]; exact Nat.le_of_ble_eq_true rfl, by rw [hR]; exact Nat.le_of_ble_eq_true rfl⟩ rfl hout hlocks (by decide) (by decide) (fun u h => by obtain ⟨h1, h2⟩ := h; subst h1; exact ⟨rfl, Or.inr ⟨rfl, (if_pos sk).trans (by rw [nk]; exact if_neg (fun q => q h2))⟩⟩) (fun w5 H locs h6 hP hS => ?_)
  rw [← hQ]
  rw [h6.2] at hP
  have hs1 := h6.1
  refine lv_aload_n hx hb dX6_speed_10 rfl (lv_at hl 0 rfl) ?_
  refine g_get F hP (C := RX6) (T := TX6) (N := 6) iX6 hx0 rfl 0 (by decide) (List.mem_cons_of_mem _ (List.mem_append_left _ (List.mem_append_left _ (List.mem_append_left _ (List.mem_append_left _ (List.mem_append_left _ (List.mem_append_left _ (List.mem_append_left _ (List.mem_of_getElem? (i := 0) rfl))))))))) (fun _ h9 => h9) rfl dX6_speed_11 ?_
  refine lv_iload_n hx hb dX6_speed_14 rfl (lv_at hl 1 rfl) ?_
  obtain ⟨gm7, gc7, gf7, ga7, gb7, gk7, gn7, gd7, ge7⟩ := rep_get Hh Hr 0 (by decide) hk
  refine g_Vq (As := [.int (nI k)]) (rest := []) F hP hS (k_get l A G w (ad 1 0) (ad 2 0) (S 0 0).toNat gc7 gm7 gf7 k ga7 gb7 gk7 gn7 gd7) (cwV 1 hts gX6_speed_Jx4a65c_get_915e3 rfl rfl rfl cd_Jx4a65c_get_915e3 ⟨by rw [hR]; exact Nat.le_of_ble_eq_true rfl, by rw [hR]; exact Nat.le_of_ble_eq_true rfl⟩) ga7 rfl rfl rfl hl.1 (Nat.le_of_ble_eq_true rfl) dX6_speed_15 ⟨by rw [hR]; exact Nat.le_of_ble_eq_true rfl, by rw [hR]; exact Nat.le_of_ble_eq_true rfl⟩ rfl (fun r8 w9 H locs h10 hP hS => ?_)
  have hr8 := h10.1
  rw [h10.2] at hP
  have f11 := rep_sh Hh Hr hk
  have f12 := rep_fr Hh Hr hk
  rw [hr8, ge7, show va_rf (some (ad (elk 0) k)) = .ref (ad 3 k) from rfl]
  refine g_cast F hP (C := RX4) (T := TX4) (N := 5) f11 rfl (List.mem_cons_of_mem _ (List.mem_append_left _ (List.mem_append_left _ (List.mem_append_left _ (List.mem_append_left _ (List.mem_append_left _ (List.mem_append_left _ (List.mem_append_left _ (List.mem_of_getElem? (i := 1) rfl))))))))) dX6_speed_18 ?_
  refine g_get F hP (C := RX4) (T := TX4) (N := 5) iX4 f11 rfl 4 (by decide) (List.mem_cons_of_mem _ (List.mem_append_left _ (List.mem_append_left _ (List.mem_append_left _ (List.mem_append_left _ (List.mem_append_left _ (List.mem_append_left _ (List.mem_append_left _ (List.mem_of_getElem? (i := 2) rfl))))))))) (fun _ h9 => h9) rfl dX6_speed_21 ?_
  refine lv_astore_n (lv' := [(3, .ref (ad 4 k)), (0, .ref (ad 0 0)), (1, .int (nI k)), (2, .int (g_b bd))]) hx hb dX6_speed_24 rfl hl (by decide) rfl (fun ls hl => ?_)
  refine lv_iload_n hx hb dX6_speed_25 rfl (lv_at hl 3 rfl) ?_
  refine lv_if_eq (tgt := 36) hx hb dX6_speed_26 (by decide) (fun c13 => ?_) (fun c13 => ?_)
  · have yc13 : bd = false := g_b0.mp c13
    refine lv_aload_n hx hb dX6_speed_36 rfl (lv_at hl 0 rfl) ?_
    refine g_get F hP (C := RX0) (T := TX0) (N := 2) iX0 f12 rfl 0 (by decide) (List.mem_cons_of_mem _ (List.mem_append_left _ (List.mem_append_left _ (List.mem_append_left _ (List.mem_append_left _ (List.mem_append_left _ (List.mem_append_left _ (List.mem_append_left _ (List.mem_of_getElem? (i := 4) rfl))))))))) (fun _ h9 => h9) rfl dX6_speed_37 ?_
    refine lv_l2i hx hb dX6_speed_40 rfl ?_
    refine lv_topi (fun v14 ev14 => ?_)
    obtain rfl : v14 = iL (T 0 k) := by
      rw [ev14]
      exact zL_i _
    rw [hQ]
    refine g_xiret F hP hS hlocks hr dX6_speed_41 (by first | exact Nat.le_of_ble_eq_true rfl | omega) (by first | exact Nat.le_of_ble_eq_true rfl | omega) ?_
    exact ⟨(if_pos sk).trans (by rw [nk]; exact if_pos hs1), by rw [yc13]; unfold vlSpeed; rw [nk]; rfl, rfl⟩
  · have yc13 : bd = true := g_b1.mp c13
    refine lv_aload_n hx hb dX6_speed_29 rfl (lv_at hl 0 rfl) ?_
    refine g_get F hP (C := RX0) (T := TX0) (N := 2) iX0 f12 rfl 1 (by decide) (List.mem_cons_of_mem _ (List.mem_append_left _ (List.mem_append_left _ (List.mem_append_left _ (List.mem_append_left _ (List.mem_append_left _ (List.mem_append_left _ (List.mem_append_left _ (List.mem_of_getElem? (i := 3) rfl))))))))) (fun _ h9 => h9) rfl dX6_speed_30 ?_
    refine lv_goto (tgt := 40) hx hb dX6_speed_33 (by decide) ?_
    refine lv_l2i hx hb dX6_speed_40 rfl ?_
    refine lv_topi (fun v15 ev15 => ?_)
    obtain rfl : v15 = iL (T 1 k) := by
      rw [ev15]
      exact zL_i _
    rw [hQ]
    refine g_xiret F hP hS hlocks hr dX6_speed_41 (by first | exact Nat.le_of_ble_eq_true rfl | omega) (by first | exact Nat.le_of_ble_eq_true rfl | omega) ?_
    exact ⟨(if_pos sk).trans (by rw [nk]; exact if_pos hs1), by rw [yc13]; unfold vlSpeed; rw [nk]; rfl, rfl⟩
