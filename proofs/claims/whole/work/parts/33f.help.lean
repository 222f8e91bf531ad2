theorem cd_X6_requireSpeed : yX6_requireSpeed.cls = RX6 ∧ yX6_requireSpeed.cls ≠ "java/lang/invoke/MethodHandle" ∧ yX6_requireSpeed.cls ≠ "java/lang/invoke/VarHandle" ∧ (parseMethodDescriptor yX6_requireSpeed.desc).map (fun d => d.parameters.length) = some 1 := by decide +kernel
set_option maxHeartbeats 4000000 in
set_option maxRecDepth 100000 in
theorem k_X6_requireTurning (l : Launch) (hlt : l.stackTraces = false) (A : Nat → Prop) (G : g_C) (w : g_W) (ad : Nat → Nat → Nat) (Cn : Nat → Nat → Option va_E) (S T : Sg) (k : Nat) (Hh : holds w ad Cn) (Hr : rep G S T ad Cn) (Hi : invS S) (Ht : invT S T) (hk : (k : Int) < S 0 0) : xV l yX6_requireTurning wsX6_requireTurning ({ frames := 7, cells := 2, slots := 12, locals := 111 } : Room) [.ref (ad 0 0), .int (nI k)] A G w (fun w' => (T 2 k ≠ -1 ∧ T 0 k ≠ 0) ∧ w' = w) (fun u => u = ("java/lang/IllegalStateException", w) ∧ ¬ (T 2 k ≠ -1 ∧ T 0 k ≠ 0)) 2 12 := by
  refine g_xofV (cc := cX6_requireTurning) (maxL := 2) (ret := none) (own := RX6) (by decide) rfl rfl (Nat.le_of_ble_eq_true rfl) ?_
  intro p e R s m args below meth c Q ls hR F hP hS hlocks hr hout hQ hl
  obtain ⟨⟨hx, hb, hml, hown, hts⟩, hK, hZ, hA⟩ := id F
  generalize hH0 : s.heap = H at hP ⊢
  have hS : va_S A s.heap H [] := by rw [← hH0]; exact va_S.rf
  generalize ([] : List Loc) = locs at hS ⊢
  have hl : lv_has ls 2 [(0, .ref (ad 0 0)), (1, .int (nI k))] := hl
  have iX0 : ∀ w ∈ u_ws RX0 TX0 2, w ∈ wsX6_requireTurning := fun w h => List.mem_cons_of_mem _ (List.mem_append_left _ (List.mem_append_left _ (List.mem_append_right _ (h))))
  have iX4 : ∀ w ∈ u_ws RX4 TX4 5, w ∈ wsX6_requireTurning := fun w h => List.mem_cons_of_mem _ (List.mem_append_left _ (List.mem_append_left _ (List.mem_append_left _ (List.mem_append_right _ (h)))))
  have iX6 : ∀ w ∈ u_ws RX6 TX6 6, w ∈ wsX6_requireTurning := fun w h => List.mem_cons_of_mem _ (List.mem_append_left _ (List.mem_append_left _ (List.mem_append_left _ (List.mem_append_left _ (List.mem_append_right _ (h))))))
  have hx0 := rep_x Hh Hr
  obtain ⟨m0, a0, hz0⟩ := rep_size Hh Hr 0 (by decide)
  refine lv_aload_n hx hb dX6_requireTurning_0 rfl (lv_at hl 0 rfl) ?_
  refine lv_iload_n hx hb dX6_requireTurning_1 rfl (lv_at hl 1 rfl) ?_
  rw [hQ]
  refine g_xVv (As := [.int (nI k)]) (rest := []) F hP hS (k_X6_requireSpeed l hlt A G w ad Cn S T k Hh Hr Hi Ht hk) (cwV 1 hts gX6_requireTurning_X6_requireSpeed rfl rfl rfl cd_X6_requireSpeed ⟨by rw [hR]; exact Nat.le_of_ble_eq_true rfl, by rw [hR]; exact Nat.le_of_ble_eq_true rfl⟩) hx0 rfl rfl rfl hl.1 (Nat.le_of_ble_eq_true rfl) dX6_requireTurning_2 ⟨by rw [hR]; exact Nat.le_of_ble_eq_true rfl, by rw [hR]; exact Nat.le_of_ble_eq_true rfl⟩ rfl hout hlocks (by decide) (by decide) (fun u h => ⟨h.1, fun q => q.1 h.2⟩) (fun w2 H locs h3 hP hS => ?_)
  rw [← hQ]
  rw [h3.2] at hP
  have hs1 := h3.1
  refine lv_aload_n hx hb dX6_requireTurning_5 rfl (lv_at hl 0 rfl) ?_
  refine g_get F hP (C := RX6) (T := TX6) (N := 6) iX6 hx0 rfl 0 (by decide) (List.mem_cons_of_mem _ (List.mem_append_left _ (List.mem_append_left _ (List.mem_append_left _ (List.mem_append_left _ (List.mem_append_left _ (List.mem_append_left _ (List.mem_of_getElem? (i := 2) rfl)))))))) (fun _ h9 => h9) rfl dX6_requireTurning_6 ?_
  refine lv_iload_n hx hb dX6_requireTurning_9 rfl (lv_at hl 1 rfl) ?_
  obtain ⟨gm4, gc4, gf4, ga4, gb4, gk4, gn4, gd4, ge4⟩ := rep_get Hh Hr 0 (by decide) hk
  refine g_Vq (As := [.int (nI k)]) (rest := []) F hP hS (k_get l A G w (ad 1 0) (ad 2 0) (S 0 0).toNat gc4 gm4 gf4 k ga4 gb4 gk4 gn4 gd4) (cwV 1 hts gX6_requireTurning_Jx4a65c_get_915e3 rfl rfl rfl cd_Jx4a65c_get_915e3 ⟨by rw [hR]; exact Nat.le_of_ble_eq_true rfl, by rw [hR]; exact Nat.le_of_ble_eq_true rfl⟩) ga4 rfl rfl rfl hl.1 (Nat.le_of_ble_eq_true rfl) dX6_requireTurning_10 ⟨by rw [hR]; exact Nat.le_of_ble_eq_true rfl, by rw [hR]; exact Nat.le_of_ble_eq_true rfl⟩ rfl (fun r5 w6 H locs h7 hP hS => ?_)
  have hr5 := h7.1
  rw [h7.2] at hP
  have f8 := rep_sh Hh Hr hk
  have f9 := rep_fr Hh Hr hk
  rw [hr5, ge4, show va_rf (some (ad (elk 0) k)) = .ref (ad 3 k) from rfl]
  refine g_cast F hP (C := RX4) (T := TX4) (N := 5) f8 rfl (List.mem_cons_of_mem _ (List.mem_append_left _ (List.mem_append_left _ (List.mem_append_left _ (List.mem_append_left _ (List.mem_append_left _ (List.mem_append_left _ (List.mem_of_getElem? (i := 3) rfl)))))))) dX6_requireTurning_13 ?_
  refine g_get F hP (C := RX4) (T := TX4) (N := 5) iX4 f8 rfl 4 (by decide) (List.mem_cons_of_mem _ (List.mem_append_left _ (List.mem_append_left _ (List.mem_append_left _ (List.mem_append_left _ (List.mem_append_left _ (List.mem_append_left _ (List.mem_of_getElem? (i := 4) rfl)))))))) (fun _ h9 => h9) rfl dX6_requireTurning_16 ?_
  refine g_get F hP (C := RX0) (T := TX0) (N := 2) iX0 f9 rfl 0 (by decide) (List.mem_cons_of_mem _ (List.mem_append_left _ (List.mem_append_left _ (List.mem_append_left _ (List.mem_append_left _ (List.mem_append_left _ (List.mem_append_left _ (List.mem_of_getElem? (i := 5) rfl)))))))) (fun _ h9 => h9) rfl dX6_requireTurning_19 ?_
  refine lv_lconst (v := 0) hx hb dX6_requireTurning_22 (by decide) ?_
  refine W.lcmp hx hb dX6_requireTurning_23 ?_
  refine lv_if_ne (tgt := 37) hx hb dX6_requireTurning_24 (by decide) (fun c10 => ?_) (fun c10 => ?_)
  · have c10 : ¬ ((zL (T 0 k)) = 0) := fun h => c10 ((lg_cmp_eq (zL (T 0 k)) 0).mpr h)
    rw [hQ]
    refine g_xvret F hP hS hlocks hr dX6_requireTurning_37 (by first | exact Nat.le_of_ble_eq_true rfl | omega) (by first | exact Nat.le_of_ble_eq_true rfl | omega) ?_
    have tk := Ht.1 k hk
    have t0 : zL (T 0 k) = 0 ↔ T 0 k = 0 := zL_eq0 (by omega) (by omega)
    rw [t0] at c10
    exact ⟨⟨hs1, c10⟩, rfl⟩
  · have c10 := (lg_cmp_eq (zL (T 0 k)) 0).mp c10
    rw [hQ]
    refine g_throw F hP hS hlt rfl (hZ.2.2.2.2.2.2.2.1 ("java/lang/IllegalStateException", "java/lang/IllegalStateException") (List.mem_of_getElem? (i := 1) rfl)) (by decide +kernel) (List.mem_cons_of_mem _ (List.mem_append_left _ (List.mem_append_left _ (List.mem_append_left _ (List.mem_append_left _ (List.mem_append_left _ (List.mem_append_left _ (List.mem_of_getElem? (i := 0) rfl)))))))) (List.mem_cons_of_mem _ (List.mem_append_left _ (List.mem_append_left _ (List.mem_append_left _ (List.mem_append_left _ (List.mem_append_left _ (List.mem_append_left _ (List.mem_of_getElem? (i := 1) rfl)))))))) (cls := "java/lang/IllegalStateException") (text := "the shaft stands still") (List.mem_of_getElem? (i := 20) rfl) (fun w h => List.mem_cons_of_mem _ (List.mem_append_right _ (h))) xt_IllegalSt_44_b (fun w h => (List.mem_cons.mp h).elim (fun e => by rw [e]; rfl) (fun h => (List.mem_cons.mp h).elim (fun e => by rw [e]; rfl) (fun h => xt_IllegalSt_44_g w h))) hl.1 dX6_requireTurning_27 dX6_requireTurning_30 dX6_requireTurning_31 dX6_requireTurning_33 dX6_requireTurning_36 hout (by rw [hR]; exact Nat.le_of_ble_eq_true rfl) (by rw [hR]; exact Nat.le_of_ble_eq_true rfl) (by rw [hR]; exact Nat.le_of_ble_eq_true rfl) (by rw [hR]; exact Nat.le_of_ble_eq_true rfl) hlocks ?_ (by decide) (by decide)
    have tk := Ht.1 k hk
    have t0 : zL (T 0 k) = 0 ↔ T 0 k = 0 := zL_eq0 (by omega) (by omega)
    rw [t0] at c10
    exact ⟨rfl, fun q => q.2 c10⟩
