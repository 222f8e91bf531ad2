set_option maxHeartbeats 4000000 in
set_option maxRecDepth 100000 in
theorem k_X6_stage (l : Launch) (hlt : l.stackTraces = false) (A : Nat → Prop) (G : g_C) (w : g_W) (ad : Nat → Nat → Nat) (Cn : Nat → Nat → Option va_E) (S T : Sg) (pn : Int32) (Hh : holds w ad Cn) (Hr : rep G S T ad Cn) (Hi : invS S) (Ht : invT S T) : xI l yX6_stage wsX6_stage ({ frames := 7, cells := 1, slots := 6, locals := 111 } : Room) [.ref (ad 0 0), .int pn] A G w (fun r w' => cdShaft S pn = 0 ∧ r = vlStage T pn ∧ w' = w) (fun u => u.2 = w ∧ ((u.1 = "java/lang/IndexOutOfBoundsException" ∧ cdShaft S pn = 1))) 1 6 := by
  refine g_xofI (cc := cX6_stage) (maxL := 2) (ret := (some .int)) (own := RX6) (by decide) rfl rfl (Nat.le_of_ble_eq_true rfl) ?_
  intro p e R s m args below meth c Q ls hR F hP hS hlocks hr hout hQ hl
  obtain ⟨⟨hx, hb, hml, hown, hts⟩, hK, hZ, hA⟩ := id F
  generalize hH0 : s.heap = H at hP ⊢
  have hS : va_S A s.heap H [] := by rw [← hH0]; exact va_S.rf
  generalize ([] : List Loc) = locs at hS ⊢
  have hl : lv_has ls 2 [(0, .ref (ad 0 0)), (1, .int pn)] := hl
  have iX4 : ∀ w ∈ u_ws RX4 TX4 5, w ∈ wsX6_stage := fun w h => List.mem_cons_of_mem _ (List.mem_append_left _ (List.mem_append_left _ (List.mem_append_right _ (h))))
  have iX6 : ∀ w ∈ u_ws RX6 TX6 6, w ∈ wsX6_stage := fun w h => List.mem_cons_of_mem _ (List.mem_append_left _ (List.mem_append_left _ (List.mem_append_left _ (List.mem_append_right _ (h)))))
  have hx0 := rep_x Hh Hr
  obtain ⟨m0, a0, hz0⟩ := rep_size Hh Hr 0 (by decide)
  have hi := Hi.1
  refine lv_aload_n hx hb dX6_stage_0 rfl (lv_at hl 0 rfl) ?_
  refine lv_iload_n hx hb dX6_stage_1 rfl (lv_at hl 1 rfl) ?_
  rw [hQ]
  refine g_xVv (As := [.int pn]) (rest := []) F hP hS (k_X6_requireShaft l hlt A G w ad Cn S T pn Hh Hr Hi) (cwV 1 hts gX6_stage_X6_requireShaft rfl rfl rfl cd_X6_requireShaft ⟨by rw [hR]; exact Nat.le_of_ble_eq_true rfl, by rw [hR]; exact Nat.le_of_ble_eq_true rfl⟩) hx0 rfl rfl rfl hl.1 (Nat.le_of_ble_eq_true rfl) dX6_stage_2 ⟨by rw [hR]; exact Nat.le_of_ble_eq_true rfl, by rw [hR]; exact Nat.le_of_ble_eq_true rfl⟩ rfl hout hlocks (by decide) (by decide) (fun u h => by obtain ⟨h1, h2⟩ := h; subst h1; exact ⟨rfl, rfl, (if_neg h2)⟩) (fun w2 H locs h3 hP hS => ?_)
  rw [← hQ]
  rw [h3.2] at hP
  have sk := h3.1
  obtain ⟨k, hk, ek⟩ := ix_of sk.1 sk.2
  subst ek
  have nk : kN (nI k) = k := kN_n (by omega)
  refine lv_aload_n hx hb dX6_stage_5 rfl (lv_at hl 0 rfl) ?_
  refine g_get F hP (C := RX6) (T := TX6) (N := 6) iX6 hx0 rfl 0 (by decide) (List.mem_cons_of_mem _ (List.mem_append_left _ (List.mem_append_left _ (List.mem_append_left _ (List.mem_append_left _ (List.mem_append_left _ (List.mem_of_getElem? (i := 0) rfl))))))) (fun _ h9 => h9) rfl dX6_stage_6 ?_
  refine lv_iload_n hx hb dX6_stage_9 rfl (lv_at hl 1 rfl) ?_
  obtain ⟨gm4, gc4, gf4, ga4, gb4, gk4, gn4, gd4, ge4⟩ := rep_get Hh Hr 0 (by decide) hk
  refine g_Vq (As := [.int (nI k)]) (rest := []) F hP hS (k_get l A G w (ad 1 0) (ad 2 0) (S 0 0).toNat gc4 gm4 gf4 k ga4 gb4 gk4 gn4 gd4) (cwV 1 hts gX6_stage_Jx4a65c_get_915e3 rfl rfl rfl cd_Jx4a65c_get_915e3 ⟨by rw [hR]; exact Nat.le_of_ble_eq_true rfl, by rw [hR]; exact Nat.le_of_ble_eq_true rfl⟩) ga4 rfl rfl rfl hl.1 (Nat.le_of_ble_eq_true rfl) dX6_stage_10 ⟨by rw [hR]; exact Nat.le_of_ble_eq_true rfl, by rw [hR]; exact Nat.le_of_ble_eq_true rfl⟩ rfl (fun r5 w6 H locs h7 hP hS => ?_)
  have hr5 := h7.1
  rw [h7.2] at hP
  have f8 := rep_sh Hh Hr hk
  have f9 := rep_fr Hh Hr hk
  rw [hr5, ge4, show va_rf (some (ad (elk 0) k)) = .ref (ad 3 k) from rfl]
  refine g_cast F hP (C := RX4) (T := TX4) (N := 5) f8 rfl (List.mem_cons_of_mem _ (List.mem_append_left _ (List.mem_append_left _ (List.mem_append_left _ (List.mem_append_left _ (List.mem_append_left _ (List.mem_of_getElem? (i := 1) rfl))))))) dX6_stage_13 ?_
  refine g_get F hP (C := RX4) (T := TX4) (N := 5) iX4 f8 rfl 3 (by decide) (List.mem_cons_of_mem _ (List.mem_append_left _ (List.mem_append_left _ (List.mem_append_left _ (List.mem_append_left _ (List.mem_append_left _ (List.mem_of_getElem? (i := 2) rfl))))))) (fun _ h9 => h9) rfl dX6_stage_16 ?_
  rw [hQ]
  refine g_xiret F hP hS hlocks hr dX6_stage_19 (by first | exact Nat.le_of_ble_eq_true rfl | omega) (by first | exact Nat.le_of_ble_eq_true rfl | omega) ?_
  exact ⟨if_pos sk, by unfold vlStage; rw [nk], rfl⟩
