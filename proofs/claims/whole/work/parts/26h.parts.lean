theorem cd_X2_length : yX2_length.cls = RX2 ∧ yX2_length.cls ≠ "java/lang/invoke/MethodHandle" ∧ yX2_length.cls ≠ "java/lang/invoke/VarHandle" ∧ (parseMethodDescriptor yX2_length.desc).map (fun d => d.parameters.length) = some 0 := by decide +kernel
set_option maxHeartbeats 4000000 in
set_option maxRecDepth 100000 in
theorem k_X2_fits (l : Launch) (A : Nat → Prop) (G : g_C) (w : g_W) (h g1 g2 t : Nat) (sh1 : Nat) (te1 mo1 la1 : Int32) (ri1 : Bool) (sh2 : Nat) (te2 mo2 la2 : Int32) (ri2 : Bool) (x1 y1 hd1 st1 : Int32) (fr1 : Nat) (x2 y2 hd2 st2 : Int32) (fr2 : Nat) (hh : w h = some (.inr (3, [.ref g1, .ref g2, .ref t]))) (hg1 : w g1 = some (.inr (2, [.ref sh1, .int te1, .int mo1, .int la1, .int (g_b ri1)]))) (hg2 : w g2 = some (.inr (2, [.ref sh2, .int te2, .int mo2, .int la2, .int (g_b ri2)]))) (hs1 : w sh1 = some (.inr (5, [.int x1, .int y1, .int hd1, .int st1, .ref fr1]))) (hs2 : w sh2 = some (.inr (5, [.int x2, .int y2, .int hd2, .int st2, .ref fr2]))) : mI l yX2_fits wsX2_fits ({ frames := 2, cells := 0, slots := 0, locals := 61 } : Room) [.ref h] A G w (fun r w' => r = g_b (decide (((x1 - x2) * (x1 - x2) + (y1 - y2) * (y1 - y2)) = (mo1 * (if ri1 || ri2 then (if 0 ≤ te1 - te2 then te1 - te2 else 0 - (te1 - te2)) else te1 + te2)) * (mo1 * (if ri1 || ri2 then (if 0 ≤ te1 - te2 then te1 - te2 else 0 - (te1 - te2)) else te1 + te2)))) ∧ w' = w) 0 0 := by
  refine g_ofI (cc := cX2_fits) (maxL := 2) (ret := (some .boolean)) (own := RX2) (by decide) rfl rfl (Nat.le_of_ble_eq_true rfl) ?_
  intro p e R s m args below meth c Q ls hR F hP hS hlocks hr hnm0 hQ hl
  obtain ⟨⟨hx, hb, hml, hown, hts⟩, hK, hZ, hA⟩ := id F
  generalize hH0 : s.heap = H at hP ⊢
  have hS : va_S A s.heap H [] := by rw [← hH0]; exact va_S.rf
  generalize ([] : List Loc) = locs at hS ⊢
  have hl : lv_has ls 2 [(0, .ref h)] := hl
  have iX1 : ∀ w ∈ u_ws RX1 TX1 5, w ∈ wsX2_fits := fun w h => List.mem_cons_of_mem _ (List.mem_append_left _ (List.mem_append_right _ (h)))
  have iX2 : ∀ w ∈ u_ws RX2 TX2 3, w ∈ wsX2_fits := fun w h => List.mem_cons_of_mem _ (List.mem_append_left _ (List.mem_append_left _ (List.mem_append_right _ (h))))
  have iX4 : ∀ w ∈ u_ws RX4 TX4 5, w ∈ wsX2_fits := fun w h => List.mem_cons_of_mem _ (List.mem_append_right _ (h))
  refine lv_aload_n hx hb dX2_fits_0 rfl (lv_at hl 0 rfl) ?_
  refine g_Vi (As := []) (rest := []) F hP hS (k_X2_length l A G w h g1 g2 t sh1 te1 mo1 la1 ri1 sh2 te2 mo2 la2 ri2 hh hg1 hg2) (cwV 0 hts gX2_fits_X2_length rfl rfl rfl cd_X2_length ⟨by rw [hR]; exact Nat.le_of_ble_eq_true rfl, by rw [hR]; exact Nat.le_of_ble_eq_true rfl⟩) hh rfl rfl rfl hl.1 (Nat.le_of_ble_eq_true rfl) dX2_fits_1 ⟨by rw [hR]; exact Nat.le_of_ble_eq_true rfl, by rw [hR]; exact Nat.le_of_ble_eq_true rfl⟩ rfl (fun r1 w2 H locs h3 hP hS => ?_)
  have hr1 := h3.1
  rw [h3.2] at hP
  rw [hr1]
  refine lv_istore_n (lv' := [(1, .int (mo1 * (if ri1 || ri2 then (if 0 ≤ te1 - te2 then te1 - te2 else 0 - (te1 - te2)) else te1 + te2))), (0, .ref h)]) hx hb dX2_fits_4 rfl hl (by decide) rfl (fun ls hl => ?_)
  refine lv_aload_n hx hb dX2_fits_5 rfl (lv_at hl 1 rfl) ?_
  refine g_get F hP (C := RX2) (T := TX2) (N := 3) iX2 hh rfl 0 (by decide) (List.mem_cons_of_mem _ (List.mem_append_left _ (List.mem_append_left _ (List.mem_append_left _ (List.mem_of_getElem? (i := 0) rfl))))) (fun _ h9 => h9) rfl dX2_fits_6 ?_
  refine g_get F hP (C := RX1) (T := TX1) (N := 5) iX1 hg1 rfl 0 (by decide) (List.mem_cons_of_mem _ (List.mem_append_left _ (List.mem_append_left _ (List.mem_append_left _ (List.mem_of_getElem? (i := 1) rfl))))) (fun _ h9 => h9) rfl dX2_fits_9 ?_
  refine lv_aload_n hx hb dX2_fits_12 rfl (lv_at hl 1 rfl) ?_
  refine g_get F hP (C := RX2) (T := TX2) (N := 3) iX2 hh rfl 1 (by decide) (List.mem_cons_of_mem _ (List.mem_append_left _ (List.mem_append_left _ (List.mem_append_left _ (List.mem_of_getElem? (i := 2) rfl))))) (fun _ h9 => h9) rfl dX2_fits_13 ?_
  refine g_get F hP (C := RX1) (T := TX1) (N := 5) iX1 hg2 rfl 0 (by decide) (List.mem_cons_of_mem _ (List.mem_append_left _ (List.mem_append_left _ (List.mem_append_left _ (List.mem_of_getElem? (i := 1) rfl))))) (fun _ h9 => h9) rfl dX2_fits_16 ?_
  refine g_get F hP (C := RX4) (T := TX4) (N := 5) iX4 hs2 rfl 0 (by decide) (List.mem_cons_of_mem _ (List.mem_append_left _ (List.mem_append_left _ (List.mem_append_left _ (List.mem_of_getElem? (i := 3) rfl))))) (fun _ h9 => h9) rfl dX2_fits_19 ?_
  refine lv_aload_n hx hb dX2_fits_22 rfl (lv_at hl 1 rfl) ?_
  refine g_get F hP (C := RX2) (T := TX2) (N := 3) iX2 hh rfl 1 (by decide) (List.mem_cons_of_mem _ (List.mem_append_left _ (List.mem_append_left _ (List.mem_append_left _ (List.mem_of_getElem? (i := 2) rfl))))) (fun _ h9 => h9) rfl dX2_fits_23 ?_
  refine g_get F hP (C := RX1) (T := TX1) (N := 5) iX1 hg2 rfl 0 (by decide) (List.mem_cons_of_mem _ (List.mem_append_left _ (List.mem_append_left _ (List.mem_append_left _ (List.mem_of_getElem? (i := 1) rfl))))) (fun _ h9 => h9) rfl dX2_fits_26 ?_
  refine g_get F hP (C := RX4) (T := TX4) (N := 5) iX4 hs2 rfl 1 (by decide) (List.mem_cons_of_mem _ (List.mem_append_left _ (List.mem_append_left _ (List.mem_append_left _ (List.mem_of_getElem? (i := 4) rfl))))) (fun _ h9 => h9) rfl dX2_fits_29 ?_
  refine g_Vi (As := [.int x2, .int y2]) (rest := []) F hP hS (k_X4_squareTo l A G w sh1 x2 y2 x1 y1 hd1 st1 fr1 hs1) (cwV 2 hts gX2_fits_X4_squareTo rfl rfl rfl cd_X4_squareTo ⟨by rw [hR]; exact Nat.le_of_ble_eq_true rfl, by rw [hR]; exact Nat.le_of_ble_eq_true rfl⟩) hs1 rfl rfl rfl hl.1 (Nat.le_of_ble_eq_true rfl) dX2_fits_32 ⟨by rw [hR]; exact Nat.le_of_ble_eq_true rfl, by rw [hR]; exact Nat.le_of_ble_eq_true rfl⟩ rfl (fun r4 w5 H locs h6 hP hS => ?_)
  have hr4 := h6.1
  rw [h6.2] at hP
  rw [hr4]
  refine lv_iload_n hx hb dX2_fits_35 rfl (lv_at hl 0 rfl) ?_
  refine lv_iload_n hx hb dX2_fits_36 rfl (lv_at hl 0 rfl) ?_
  refine lv_imul hx hb dX2_fits_37 ?_
  refine lv_topi (fun v7 ev7 => ?_)
  refine lv_icmp_ne (tgt := 45) hx hb dX2_fits_38 (by decide) (fun c8 => ?_) (fun c8 => ?_)
  · refine lv_iconst (v := 0) hx hb dX2_fits_45 (by decide) ?_
    rw [hQ]
    refine g_zret F hP hS hlocks hr (by first | rfl | exact g_nb _) dX2_fits_46 (by first | exact Nat.le_of_ble_eq_true rfl | omega) (by first | exact Nat.le_of_ble_eq_true rfl | omega) ?_
    exact ⟨by first | exact g_bt (by simp_all) | exact g_bf (by simp_all), rfl⟩
  · refine lv_iconst (v := 1) hx hb dX2_fits_41 (by decide) ?_
    refine lv_goto (tgt := 46) hx hb dX2_fits_42 (by decide) ?_
    rw [hQ]
    refine g_zret F hP hS hlocks hr (by first | rfl | exact g_nb _) dX2_fits_46 (by first | exact Nat.le_of_ble_eq_true rfl | omega) (by first | exact Nat.le_of_ble_eq_true rfl | omega) ?_
    exact ⟨by first | exact g_bt (by simp_all) | exact g_bf (by simp_all), rfl⟩
