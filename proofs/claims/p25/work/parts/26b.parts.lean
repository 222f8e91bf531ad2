set_option maxHeartbeats 4000000 in
set_option maxRecDepth 100000 in
theorem k_X1_suits (l : Launch) (A : Nat → Prop) (G : g_C) (w : g_W) (h h2 : Nat) (sh1 : Nat) (te1 mo1 la1 : Int32) (ri1 : Bool) (sh2 : Nat) (te2 mo2 la2 : Int32) (ri2 : Bool) (hh : w h = some (.inr (2, [.ref sh1, .int te1, .int mo1, .int la1, .int (g_b ri1)]))) (hh2 : w h2 = some (.inr (2, [.ref sh2, .int te2, .int mo2, .int la2, .int (g_b ri2)]))) : mI l yX1_suits wsX1_suits ({ frames := 0, cells := 0, slots := 0, locals := 0 } : Room) [.ref h, .ref h2] A G w (fun r w' => r = g_b (decide (sh1 ≠ sh2 ∧ la1 = la2 ∧ mo1 = mo2 ∧ ((ri1 = true ∧ ri2 = false ∧ ¬ te1 ≤ te2) ∨ (ri1 = false ∧ (ri2 = false ∨ ¬ te2 ≤ te1))))) ∧ w' = w) 0 0 := by
  refine g_ofI (cc := cX1_suits) (maxL := 2) (ret := (some .boolean)) (own := RX1) (by decide) rfl rfl (Nat.le_of_ble_eq_true rfl) ?_
  intro p e R s m args below meth c Q ls hR F hP hS hlocks hr hnm0 hQ hl
  obtain ⟨⟨hx, hb, hml, hown, hts⟩, hK, hZ, hA⟩ := id F
  generalize hH0 : s.heap = H at hP ⊢
  have hS : va_S A s.heap H [] := by rw [← hH0]; exact va_S.rf
  generalize ([] : List Loc) = locs at hS ⊢
  have hl : lv_has ls 2 [(0, .ref h), (1, .ref h2)] := hl
  have iX1 : ∀ w ∈ u_ws RX1 TX1 5, w ∈ wsX1_suits := fun w h => List.mem_cons_of_mem _ (List.mem_append_right _ (h))
  refine lv_aload_n hx hb dX1_suits_0 rfl (lv_at hl 0 rfl) ?_
  refine g_get F hP (C := RX1) (T := TX1) (N := 5) iX1 hh rfl 0 (by decide) (List.mem_cons_of_mem _ (List.mem_append_left _ (List.mem_of_getElem? (i := 0) rfl))) (fun _ h9 => h9) rfl dX1_suits_1 ?_
  refine lv_aload_n hx hb dX1_suits_4 rfl (lv_at hl 1 rfl) ?_
  refine g_get F hP (C := RX1) (T := TX1) (N := 5) iX1 hh2 rfl 0 (by decide) (List.mem_cons_of_mem _ (List.mem_append_left _ (List.mem_of_getElem? (i := 0) rfl))) (fun _ h9 => h9) rfl dX1_suits_5 ?_
  refine lv_acmp_eq (tgt := 33) (rx := (some sh1)) (ry := (some sh2)) hx hb dX1_suits_8 (by decide) (fun c1 => ?_) (fun c1 => ?_)
  · refine lv_iconst (v := 0) hx hb dX1_suits_33 (by decide) ?_
    rw [hQ]
    refine g_zret F hP hS hlocks hr (by first | rfl | exact g_nb _) dX1_suits_34 (by first | exact Nat.le_of_ble_eq_true rfl | omega) (by first | exact Nat.le_of_ble_eq_true rfl | omega) ?_
    exact ⟨by first | exact g_bt (by simp_all) | exact g_bf (by simp_all), rfl⟩
  · refine lv_aload_n hx hb dX1_suits_11 rfl (lv_at hl 0 rfl) ?_
    refine g_get F hP (C := RX1) (T := TX1) (N := 5) iX1 hh rfl 3 (by decide) (List.mem_cons_of_mem _ (List.mem_append_left _ (List.mem_of_getElem? (i := 1) rfl))) (fun _ h9 => h9) rfl dX1_suits_12 ?_
    refine lv_aload_n hx hb dX1_suits_15 rfl (lv_at hl 1 rfl) ?_
    refine g_get F hP (C := RX1) (T := TX1) (N := 5) iX1 hh2 rfl 3 (by decide) (List.mem_cons_of_mem _ (List.mem_append_left _ (List.mem_of_getElem? (i := 1) rfl))) (fun _ h9 => h9) rfl dX1_suits_16 ?_
    refine lv_icmp_ne (tgt := 33) hx hb dX1_suits_19 (by decide) (fun c2 => ?_) (fun c2 => ?_)
    · refine lv_iconst (v := 0) hx hb dX1_suits_33 (by decide) ?_
      rw [hQ]
      refine g_zret F hP hS hlocks hr (by first | rfl | exact g_nb _) dX1_suits_34 (by first | exact Nat.le_of_ble_eq_true rfl | omega) (by first | exact Nat.le_of_ble_eq_true rfl | omega) ?_
      exact ⟨by first | exact g_bt (by simp_all) | exact g_bf (by simp_all), rfl⟩
    · refine lv_aload_n hx hb dX1_suits_22 rfl (lv_at hl 0 rfl) ?_
      refine g_get F hP (C := RX1) (T := TX1) (N := 5) iX1 hh rfl 2 (by decide) (List.mem_cons_of_mem _ (List.mem_append_left _ (List.mem_of_getElem? (i := 2) rfl))) (fun _ h9 => h9) rfl dX1_suits_23 ?_
      refine lv_aload_n hx hb dX1_suits_26 rfl (lv_at hl 1 rfl) ?_
      refine g_get F hP (C := RX1) (T := TX1) (N := 5) iX1 hh2 rfl 2 (by decide) (List.mem_cons_of_mem _ (List.mem_append_left _ (List.mem_of_getElem? (i := 2) rfl))) (fun _ h9 => h9) rfl dX1_suits_27 ?_
      refine lv_icmp_eq (tgt := 35) hx hb dX1_suits_30 (by decide) (fun c3 => ?_) (fun c3 => ?_)
      · refine lv_aload_n hx hb dX1_suits_35 rfl (lv_at hl 0 rfl) ?_
        refine g_get F hP (C := RX1) (T := TX1) (N := 5) iX1 hh rfl 4 (by decide) (List.mem_cons_of_mem _ (List.mem_append_left _ (List.mem_of_getElem? (i := 3) rfl))) (fun _ h9 => h9) rfl dX1_suits_36 ?_
        refine lv_if_eq (tgt := 66) hx hb dX1_suits_39 (by decide) (fun c4 => ?_) (fun c4 => ?_)
        · have yc4 : ri1 = false := g_b0.mp c4
          refine lv_aload_n hx hb dX1_suits_66 rfl (lv_at hl 1 rfl) ?_
          refine g_get F hP (C := RX1) (T := TX1) (N := 5) iX1 hh2 rfl 4 (by decide) (List.mem_cons_of_mem _ (List.mem_append_left _ (List.mem_of_getElem? (i := 3) rfl))) (fun _ h9 => h9) rfl dX1_suits_67 ?_
          refine lv_if_eq (tgt := 84) hx hb dX1_suits_70 (by decide) (fun c5 => ?_) (fun c5 => ?_)
          · have yc5 : ri2 = false := g_b0.mp c5
            refine lv_iconst (v := 1) hx hb dX1_suits_84 (by decide) ?_
            refine lv_goto (tgt := 89) hx hb dX1_suits_85 (by decide) ?_
            rw [hQ]
            refine g_zret F hP hS hlocks hr (by first | rfl | exact g_nb _) dX1_suits_89 (by first | exact Nat.le_of_ble_eq_true rfl | omega) (by first | exact Nat.le_of_ble_eq_true rfl | omega) ?_
            exact ⟨by first | exact g_bt (by simp_all) | exact g_bf (by simp_all), rfl⟩
          · have yc5 : ri2 = true := g_b1.mp c5
            refine lv_aload_n hx hb dX1_suits_73 rfl (lv_at hl 1 rfl) ?_
            refine g_get F hP (C := RX1) (T := TX1) (N := 5) iX1 hh2 rfl 1 (by decide) (List.mem_cons_of_mem _ (List.mem_append_left _ (List.mem_of_getElem? (i := 4) rfl))) (fun _ h9 => h9) rfl dX1_suits_74 ?_
            refine lv_aload_n hx hb dX1_suits_77 rfl (lv_at hl 0 rfl) ?_
            refine g_get F hP (C := RX1) (T := TX1) (N := 5) iX1 hh rfl 1 (by decide) (List.mem_cons_of_mem _ (List.mem_append_left _ (List.mem_of_getElem? (i := 4) rfl))) (fun _ h9 => h9) rfl dX1_suits_78 ?_
            refine lv_icmp_le (tgt := 88) hx hb dX1_suits_81 (by decide) (fun c6 => ?_) (fun c6 => ?_)
            · refine lv_iconst (v := 0) hx hb dX1_suits_88 (by decide) ?_
              rw [hQ]
              refine g_zret F hP hS hlocks hr (by first | rfl | exact g_nb _) dX1_suits_89 (by first | exact Nat.le_of_ble_eq_true rfl | omega) (by first | exact Nat.le_of_ble_eq_true rfl | omega) ?_
              exact ⟨by first | exact g_bt (by simp_all) | exact g_bf (by simp_all), rfl⟩
            · refine lv_iconst (v := 1) hx hb dX1_suits_84 (by decide) ?_
              refine lv_goto (tgt := 89) hx hb dX1_suits_85 (by decide) ?_
              rw [hQ]
              refine g_zret F hP hS hlocks hr (by first | rfl | exact g_nb _) dX1_suits_89 (by first | exact Nat.le_of_ble_eq_true rfl | omega) (by first | exact Nat.le_of_ble_eq_true rfl | omega) ?_
              exact ⟨by first | exact g_bt (by simp_all) | exact g_bf (by simp_all), rfl⟩
        · have yc4 : ri1 = true := g_b1.mp c4
          refine lv_aload_n hx hb dX1_suits_42 rfl (lv_at hl 1 rfl) ?_
          refine g_get F hP (C := RX1) (T := TX1) (N := 5) iX1 hh2 rfl 4 (by decide) (List.mem_cons_of_mem _ (List.mem_append_left _ (List.mem_of_getElem? (i := 3) rfl))) (fun _ h9 => h9) rfl dX1_suits_43 ?_
          refine lv_if_ne (tgt := 64) hx hb dX1_suits_46 (by decide) (fun c7 => ?_) (fun c7 => ?_)
          · have yc7 : ri2 = true := g_b1.mp c7
            refine lv_iconst (v := 0) hx hb dX1_suits_64 (by decide) ?_
            rw [hQ]
            refine g_zret F hP hS hlocks hr (by first | rfl | exact g_nb _) dX1_suits_65 (by first | exact Nat.le_of_ble_eq_true rfl | omega) (by first | exact Nat.le_of_ble_eq_true rfl | omega) ?_
            exact ⟨by first | exact g_bt (by simp_all) | exact g_bf (by simp_all), rfl⟩
          · have yc7 : ri2 = false := g_b0.mp c7
            refine lv_aload_n hx hb dX1_suits_49 rfl (lv_at hl 0 rfl) ?_
            refine g_get F hP (C := RX1) (T := TX1) (N := 5) iX1 hh rfl 1 (by decide) (List.mem_cons_of_mem _ (List.mem_append_left _ (List.mem_of_getElem? (i := 4) rfl))) (fun _ h9 => h9) rfl dX1_suits_50 ?_
            refine lv_aload_n hx hb dX1_suits_53 rfl (lv_at hl 1 rfl) ?_
            refine g_get F hP (C := RX1) (T := TX1) (N := 5) iX1 hh2 rfl 1 (by decide) (List.mem_cons_of_mem _ (List.mem_append_left _ (List.mem_of_getElem? (i := 4) rfl))) (fun _ h9 => h9) rfl dX1_suits_54 ?_
            refine lv_icmp_le (tgt := 64) hx hb dX1_suits_57 (by decide) (fun c8 => ?_) (fun c8 => ?_)
            · refine lv_iconst (v := 0) hx hb dX1_suits_64 (by decide) ?_
              rw [hQ]
              refine g_zret F hP hS hlocks hr (by first | rfl | exact g_nb _) dX1_suits_65 (by first | exact Nat.le_of_ble_eq_true rfl | omega) (by first | exact Nat.le_of_ble_eq_true rfl | omega) ?_
              exact ⟨by first | exact g_bt (by simp_all) | exact g_bf (by simp_all), rfl⟩
            · refine lv_iconst (v := 1) hx hb dX1_suits_60 (by decide) ?_
              refine lv_goto (tgt := 65) hx hb dX1_suits_61 (by decide) ?_
              rw [hQ]
              refine g_zret F hP hS hlocks hr (by first | rfl | exact g_nb _) dX1_suits_65 (by first | exact Nat.le_of_ble_eq_true rfl | omega) (by first | exact Nat.le_of_ble_eq_true rfl | omega) ?_
              exact ⟨by first | exact g_bt (by simp_all) | exact g_bf (by simp_all), rfl⟩
      · refine lv_iconst (v := 0) hx hb dX1_suits_33 (by decide) ?_
        rw [hQ]
        refine g_zret F hP hS hlocks hr (by first | rfl | exact g_nb _) dX1_suits_34 (by first | exact Nat.le_of_ble_eq_true rfl | omega) (by first | exact Nat.le_of_ble_eq_true rfl | omega) ?_
        exact ⟨by first | exact g_bt (by simp_all) | exact g_bf (by simp_all), rfl⟩
