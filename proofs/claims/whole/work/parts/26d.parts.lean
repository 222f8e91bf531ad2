theorem cd_X1_size : yX1_size.cls = RX1 ∧ yX1_size.cls ≠ "java/lang/invoke/MethodHandle" ∧ yX1_size.cls ≠ "java/lang/invoke/VarHandle" ∧ (parseMethodDescriptor yX1_size.desc).map (fun d => d.parameters.length) = some 0 := by decide +kernel
theorem cd_X4_squareTo : yX4_squareTo.cls = RX4 ∧ yX4_squareTo.cls ≠ "java/lang/invoke/MethodHandle" ∧ yX4_squareTo.cls ≠ "java/lang/invoke/VarHandle" ∧ (parseMethodDescriptor yX4_squareTo.desc).map (fun d => d.parameters.length) = some 2 := by decide +kernel
set_option maxHeartbeats 4000000 in
set_option maxRecDepth 100000 in
theorem k_X1_overlaps (l : Launch) (A : Nat → Prop) (G : g_C) (w : g_W) (h h2 : Nat) (sh1 : Nat) (te1 mo1 la1 : Int32) (ri1 : Bool) (sh2 : Nat) (te2 mo2 la2 : Int32) (ri2 : Bool) (x1 y1 hd1 st1 : Int32) (fr1 : Nat) (x2 y2 hd2 st2 : Int32) (fr2 : Nat) (hh : w h = some (.inr (2, [.ref sh1, .int te1, .int mo1, .int la1, .int (g_b ri1)]))) (hh2 : w h2 = some (.inr (2, [.ref sh2, .int te2, .int mo2, .int la2, .int (g_b ri2)]))) (hs1 : w sh1 = some (.inr (5, [.int x1, .int y1, .int hd1, .int st1, .ref fr1]))) (hs2 : w sh2 = some (.inr (5, [.int x2, .int y2, .int hd2, .int st2, .ref fr2]))) : mI l yX1_overlaps wsX1_overlaps ({ frames := 1, cells := 0, slots := 0, locals := 22 } : Room) [.ref h, .ref h2] A G w (fun r w' => r = g_b (decide (sh1 ≠ sh2 ∧ la1 = la2 ∧ ¬ (mo1 * (te1 + (if ri1 then 6 else 2)) + mo2 * (te2 + (if ri2 then 6 else 2))) * (mo1 * (te1 + (if ri1 then 6 else 2)) + mo2 * (te2 + (if ri2 then 6 else 2))) ≤ ((x1 - x2) * (x1 - x2) + (y1 - y2) * (y1 - y2)))) ∧ w' = w) 0 0 := by
  refine g_ofI (cc := cX1_overlaps) (maxL := 3) (ret := (some .boolean)) (own := RX1) (by decide) rfl rfl (Nat.le_of_ble_eq_true rfl) ?_
  intro p e R s m args below meth c Q ls hR F hP hS hlocks hr hnm0 hQ hl
  obtain ⟨⟨hx, hb, hml, hown, hts⟩, hK, hZ, hA⟩ := id F
  generalize hH0 : s.heap = H at hP ⊢
  have hS : va_S A s.heap H [] := by rw [← hH0]; exact va_S.rf
  generalize ([] : List Loc) = locs at hS ⊢
  have hl : lv_has ls 3 [(0, .ref h), (1, .ref h2)] := hl
  have iX1 : ∀ w ∈ u_ws RX1 TX1 5, w ∈ wsX1_overlaps := fun w h => List.mem_cons_of_mem _ (List.mem_append_left _ (List.mem_append_right _ (h)))
  have iX4 : ∀ w ∈ u_ws RX4 TX4 5, w ∈ wsX1_overlaps := fun w h => List.mem_cons_of_mem _ (List.mem_append_right _ (h))
  refine lv_aload_n hx hb dX1_overlaps_0 rfl (lv_at hl 0 rfl) ?_
  refine g_get F hP (C := RX1) (T := TX1) (N := 5) iX1 hh rfl 0 (by decide) (List.mem_cons_of_mem _ (List.mem_append_left _ (List.mem_append_left _ (List.mem_of_getElem? (i := 0) rfl)))) (fun _ h9 => h9) rfl dX1_overlaps_1 ?_
  refine lv_aload_n hx hb dX1_overlaps_4 rfl (lv_at hl 1 rfl) ?_
  refine g_get F hP (C := RX1) (T := TX1) (N := 5) iX1 hh2 rfl 0 (by decide) (List.mem_cons_of_mem _ (List.mem_append_left _ (List.mem_append_left _ (List.mem_of_getElem? (i := 0) rfl)))) (fun _ h9 => h9) rfl dX1_overlaps_5 ?_
  refine lv_acmp_eq (tgt := 22) (rx := (some sh1)) (ry := (some sh2)) hx hb dX1_overlaps_8 (by decide) (fun c1 => ?_) (fun c1 => ?_)
  · refine lv_iconst (v := 0) hx hb dX1_overlaps_22 (by decide) ?_
    rw [hQ]
    refine g_zret F hP hS hlocks hr (by first | rfl | exact g_nb _) dX1_overlaps_23 (by first | exact Nat.le_of_ble_eq_true rfl | omega) (by first | exact Nat.le_of_ble_eq_true rfl | omega) ?_
    exact ⟨by first | exact g_bt (by simp_all) | exact g_bf (by simp_all), rfl⟩
  · refine lv_aload_n hx hb dX1_overlaps_11 rfl (lv_at hl 0 rfl) ?_
    refine g_get F hP (C := RX1) (T := TX1) (N := 5) iX1 hh rfl 3 (by decide) (List.mem_cons_of_mem _ (List.mem_append_left _ (List.mem_append_left _ (List.mem_of_getElem? (i := 1) rfl)))) (fun _ h9 => h9) rfl dX1_overlaps_12 ?_
    refine lv_aload_n hx hb dX1_overlaps_15 rfl (lv_at hl 1 rfl) ?_
    refine g_get F hP (C := RX1) (T := TX1) (N := 5) iX1 hh2 rfl 3 (by decide) (List.mem_cons_of_mem _ (List.mem_append_left _ (List.mem_append_left _ (List.mem_of_getElem? (i := 1) rfl)))) (fun _ h9 => h9) rfl dX1_overlaps_16 ?_
    refine lv_icmp_eq (tgt := 24) hx hb dX1_overlaps_19 (by decide) (fun c2 => ?_) (fun c2 => ?_)
    · refine lv_aload_n hx hb dX1_overlaps_24 rfl (lv_at hl 0 rfl) ?_
      refine g_Vi (As := []) (rest := []) F hP hS (k_X1_size l A G w h sh1 te1 mo1 la1 ri1 hh) (cwV 0 hts gX1_overlaps_X1_size rfl rfl rfl cd_X1_size ⟨by rw [hR]; exact Nat.le_of_ble_eq_true rfl, by rw [hR]; exact Nat.le_of_ble_eq_true rfl⟩) hh rfl rfl rfl hl.1 (Nat.le_of_ble_eq_true rfl) dX1_overlaps_25 ⟨by rw [hR]; exact Nat.le_of_ble_eq_true rfl, by rw [hR]; exact Nat.le_of_ble_eq_true rfl⟩ rfl (fun r3 w4 H locs h5 hP hS => ?_)
      have hr3 := h5.1
      rw [h5.2] at hP
      rw [hr3]
      refine lv_aload_n hx hb dX1_overlaps_28 rfl (lv_at hl 1 rfl) ?_
      refine g_Vi (As := []) (rest := [.int (mo1 * (te1 + (if ri1 then 6 else 2)))]) F hP hS (k_X1_size l A G w h2 sh2 te2 mo2 la2 ri2 hh2) (cwV 0 hts gX1_overlaps_X1_size rfl rfl rfl cd_X1_size ⟨by rw [hR]; exact Nat.le_of_ble_eq_true rfl, by rw [hR]; exact Nat.le_of_ble_eq_true rfl⟩) hh2 rfl rfl rfl hl.1 (Nat.le_of_ble_eq_true rfl) dX1_overlaps_29 ⟨by rw [hR]; exact Nat.le_of_ble_eq_true rfl, by rw [hR]; exact Nat.le_of_ble_eq_true rfl⟩ rfl (fun r6 w7 H locs h8 hP hS => ?_)
      have hr6 := h8.1
      rw [h8.2] at hP
      rw [hr6]
      refine lv_iadd hx hb dX1_overlaps_32 ?_
      refine lv_topi (fun v9 ev9 => ?_)
      refine lv_istore_n (lv' := [(2, .int v9), (0, .ref h), (1, .ref h2)]) hx hb dX1_overlaps_33 rfl hl (by decide) rfl (fun ls hl => ?_)
      refine lv_aload_n hx hb dX1_overlaps_34 rfl (lv_at hl 1 rfl) ?_
      refine g_get F hP (C := RX1) (T := TX1) (N := 5) iX1 hh rfl 0 (by decide) (List.mem_cons_of_mem _ (List.mem_append_left _ (List.mem_append_left _ (List.mem_of_getElem? (i := 0) rfl)))) (fun _ h9 => h9) rfl dX1_overlaps_35 ?_
      refine lv_aload_n hx hb dX1_overlaps_38 rfl (lv_at hl 2 rfl) ?_
      refine g_get F hP (C := RX1) (T := TX1) (N := 5) iX1 hh2 rfl 0 (by decide) (List.mem_cons_of_mem _ (List.mem_append_left _ (List.mem_append_left _ (List.mem_of_getElem? (i := 0) rfl)))) (fun _ h9 => h9) rfl dX1_overlaps_39 ?_
      refine g_get F hP (C := RX4) (T := TX4) (N := 5) iX4 hs2 rfl 0 (by decide) (List.mem_cons_of_mem _ (List.mem_append_left _ (List.mem_append_left _ (List.mem_of_getElem? (i := 2) rfl)))) (fun _ h9 => h9) rfl dX1_overlaps_42 ?_
      refine lv_aload_n hx hb dX1_overlaps_45 rfl (lv_at hl 2 rfl) ?_
      refine g_get F hP (C := RX1) (T := TX1) (N := 5) iX1 hh2 rfl 0 (by decide) (List.mem_cons_of_mem _ (List.mem_append_left _ (List.mem_append_left _ (List.mem_of_getElem? (i := 0) rfl)))) (fun _ h9 => h9) rfl dX1_overlaps_46 ?_
      refine g_get F hP (C := RX4) (T := TX4) (N := 5) iX4 hs2 rfl 1 (by decide) (List.mem_cons_of_mem _ (List.mem_append_left _ (List.mem_append_left _ (List.mem_of_getElem? (i := 3) rfl)))) (fun _ h9 => h9) rfl dX1_overlaps_49 ?_
      refine g_Vi (As := [.int x2, .int y2]) (rest := []) F hP hS (k_X4_squareTo l A G w sh1 x2 y2 x1 y1 hd1 st1 fr1 hs1) (cwV 2 hts gX1_overlaps_X4_squareTo rfl rfl rfl cd_X4_squareTo ⟨by rw [hR]; exact Nat.le_of_ble_eq_true rfl, by rw [hR]; exact Nat.le_of_ble_eq_true rfl⟩) hs1 rfl rfl rfl hl.1 (Nat.le_of_ble_eq_true rfl) dX1_overlaps_52 ⟨by rw [hR]; exact Nat.le_of_ble_eq_true rfl, by rw [hR]; exact Nat.le_of_ble_eq_true rfl⟩ rfl (fun r10 w11 H locs h12 hP hS => ?_)
      have hr10 := h12.1
      rw [h12.2] at hP
      rw [hr10]
      refine lv_iload_n hx hb dX1_overlaps_55 rfl (lv_at hl 0 rfl) ?_
      refine lv_iload_n hx hb dX1_overlaps_56 rfl (lv_at hl 0 rfl) ?_
      refine lv_imul hx hb dX1_overlaps_57 ?_
      refine lv_topi (fun v13 ev13 => ?_)
      refine lv_icmp_ge (tgt := 65) hx hb dX1_overlaps_58 (by decide) (fun c14 => ?_) (fun c14 => ?_)
      · refine lv_iconst (v := 0) hx hb dX1_overlaps_65 (by decide) ?_
        rw [hQ]
        refine g_zret F hP hS hlocks hr (by first | rfl | exact g_nb _) dX1_overlaps_66 (by first | exact Nat.le_of_ble_eq_true rfl | omega) (by first | exact Nat.le_of_ble_eq_true rfl | omega) ?_
        exact ⟨by first | exact g_bt (by simp_all) | exact g_bf (by simp_all), rfl⟩
      · refine lv_iconst (v := 1) hx hb dX1_overlaps_61 (by decide) ?_
        refine lv_goto (tgt := 66) hx hb dX1_overlaps_62 (by decide) ?_
        rw [hQ]
        refine g_zret F hP hS hlocks hr (by first | rfl | exact g_nb _) dX1_overlaps_66 (by first | exact Nat.le_of_ble_eq_true rfl | omega) (by first | exact Nat.le_of_ble_eq_true rfl | omega) ?_
        exact ⟨by first | exact g_bt (by simp_all) | exact g_bf (by simp_all), rfl⟩
    · refine lv_iconst (v := 0) hx hb dX1_overlaps_22 (by decide) ?_
      rw [hQ]
      refine g_zret F hP hS hlocks hr (by first | rfl | exact g_nb _) dX1_overlaps_23 (by first | exact Nat.le_of_ble_eq_true rfl | omega) (by first | exact Nat.le_of_ble_eq_true rfl | omega) ?_
      exact ⟨by first | exact g_bt (by simp_all) | exact g_bf (by simp_all), rfl⟩
