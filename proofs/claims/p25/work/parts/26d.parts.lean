set_option maxHeartbeats 4000000 in
set_option maxRecDepth 100000 in
theorem k_X2_isOf (l : Launch) (A : Nat → Prop) (G : g_C) (w : g_W) (h a b g1 g2 t : Nat) (hh : w h = some (.inr (3, [.ref g1, .ref g2, .ref t]))) : mI l yX2_isOf wsX2_isOf ({ frames := 0, cells := 0, slots := 0, locals := 0 } : Room) [.ref h, .ref a, .ref b] A G w (fun r w' => r = g_b (decide ((g1 = a ∧ g2 = b) ∨ (g1 = b ∧ g2 = a))) ∧ w' = w) 0 0 := by
  refine g_ofI (cc := cX2_isOf) (maxL := 3) (ret := (some .boolean)) (own := RX2) (by decide) rfl rfl (Nat.le_of_ble_eq_true rfl) ?_
  intro p e R s m args below meth c Q ls hR F hP hS hlocks hr hnm0 hQ hl
  obtain ⟨⟨hx, hb, hml, hown, hts⟩, hK, hZ, hA⟩ := id F
  generalize hH0 : s.heap = H at hP ⊢
  have hS : va_S A s.heap H [] := by rw [← hH0]; exact va_S.rf
  generalize ([] : List Loc) = locs at hS ⊢
  have hl : lv_has ls 3 [(0, .ref h), (1, .ref a), (2, .ref b)] := hl
  have iX2 : ∀ w ∈ u_ws RX2 TX2 3, w ∈ wsX2_isOf := fun w h => List.mem_cons_of_mem _ (List.mem_append_right _ (h))
  refine lv_aload_n hx hb dX2_isOf_0 rfl (lv_at hl 0 rfl) ?_
  refine g_get F hP (C := RX2) (T := TX2) (N := 3) iX2 hh rfl 0 (by decide) (List.mem_cons_of_mem _ (List.mem_append_left _ (List.mem_of_getElem? (i := 0) rfl))) (fun _ h9 => h9) rfl dX2_isOf_1 ?_
  refine lv_aload_n hx hb dX2_isOf_4 rfl (lv_at hl 1 rfl) ?_
  refine lv_acmp_ne (tgt := 16) (rx := (some g1)) (ry := (some a)) hx hb dX2_isOf_5 (by decide) (fun c1 => ?_) (fun c1 => ?_)
  · refine lv_aload_n hx hb dX2_isOf_16 rfl (lv_at hl 0 rfl) ?_
    refine g_get F hP (C := RX2) (T := TX2) (N := 3) iX2 hh rfl 0 (by decide) (List.mem_cons_of_mem _ (List.mem_append_left _ (List.mem_of_getElem? (i := 0) rfl))) (fun _ h9 => h9) rfl dX2_isOf_17 ?_
    refine lv_aload_n hx hb dX2_isOf_20 rfl (lv_at hl 2 rfl) ?_
    refine lv_acmp_ne (tgt := 36) (rx := (some g1)) (ry := (some b)) hx hb dX2_isOf_21 (by decide) (fun c2 => ?_) (fun c2 => ?_)
    · refine lv_iconst (v := 0) hx hb dX2_isOf_36 (by decide) ?_
      rw [hQ]
      refine g_zret F hP hS hlocks hr (by first | rfl | exact g_nb _) dX2_isOf_37 (by first | exact Nat.le_of_ble_eq_true rfl | omega) (by first | exact Nat.le_of_ble_eq_true rfl | omega) ?_
      exact ⟨by first | exact g_bt (by simp_all) | exact g_bf (by simp_all) | exact g_bt (by grind) | exact g_bf (by grind), rfl⟩
    · refine lv_aload_n hx hb dX2_isOf_24 rfl (lv_at hl 0 rfl) ?_
      refine g_get F hP (C := RX2) (T := TX2) (N := 3) iX2 hh rfl 1 (by decide) (List.mem_cons_of_mem _ (List.mem_append_left _ (List.mem_of_getElem? (i := 1) rfl))) (fun _ h9 => h9) rfl dX2_isOf_25 ?_
      refine lv_aload_n hx hb dX2_isOf_28 rfl (lv_at hl 1 rfl) ?_
      refine lv_acmp_ne (tgt := 36) (rx := (some g2)) (ry := (some a)) hx hb dX2_isOf_29 (by decide) (fun c3 => ?_) (fun c3 => ?_)
      · refine lv_iconst (v := 0) hx hb dX2_isOf_36 (by decide) ?_
        rw [hQ]
        refine g_zret F hP hS hlocks hr (by first | rfl | exact g_nb _) dX2_isOf_37 (by first | exact Nat.le_of_ble_eq_true rfl | omega) (by first | exact Nat.le_of_ble_eq_true rfl | omega) ?_
        exact ⟨by first | exact g_bt (by simp_all) | exact g_bf (by simp_all) | exact g_bt (by grind) | exact g_bf (by grind), rfl⟩
      · refine lv_iconst (v := 1) hx hb dX2_isOf_32 (by decide) ?_
        refine lv_goto (tgt := 37) hx hb dX2_isOf_33 (by decide) ?_
        rw [hQ]
        refine g_zret F hP hS hlocks hr (by first | rfl | exact g_nb _) dX2_isOf_37 (by first | exact Nat.le_of_ble_eq_true rfl | omega) (by first | exact Nat.le_of_ble_eq_true rfl | omega) ?_
        exact ⟨by first | exact g_bt (by simp_all) | exact g_bf (by simp_all) | exact g_bt (by grind) | exact g_bf (by grind), rfl⟩
  · refine lv_aload_n hx hb dX2_isOf_8 rfl (lv_at hl 0 rfl) ?_
    refine g_get F hP (C := RX2) (T := TX2) (N := 3) iX2 hh rfl 1 (by decide) (List.mem_cons_of_mem _ (List.mem_append_left _ (List.mem_of_getElem? (i := 1) rfl))) (fun _ h9 => h9) rfl dX2_isOf_9 ?_
    refine lv_aload_n hx hb dX2_isOf_12 rfl (lv_at hl 2 rfl) ?_
    refine lv_acmp_eq (tgt := 32) (rx := (some g2)) (ry := (some b)) hx hb dX2_isOf_13 (by decide) (fun c4 => ?_) (fun c4 => ?_)
    · refine lv_iconst (v := 1) hx hb dX2_isOf_32 (by decide) ?_
      refine lv_goto (tgt := 37) hx hb dX2_isOf_33 (by decide) ?_
      rw [hQ]
      refine g_zret F hP hS hlocks hr (by first | rfl | exact g_nb _) dX2_isOf_37 (by first | exact Nat.le_of_ble_eq_true rfl | omega) (by first | exact Nat.le_of_ble_eq_true rfl | omega) ?_
      exact ⟨by first | exact g_bt (by simp_all) | exact g_bf (by simp_all) | exact g_bt (by grind) | exact g_bf (by grind), rfl⟩
    · refine lv_aload_n hx hb dX2_isOf_16 rfl (lv_at hl 0 rfl) ?_
      refine g_get F hP (C := RX2) (T := TX2) (N := 3) iX2 hh rfl 0 (by decide) (List.mem_cons_of_mem _ (List.mem_append_left _ (List.mem_of_getElem? (i := 0) rfl))) (fun _ h9 => h9) rfl dX2_isOf_17 ?_
      refine lv_aload_n hx hb dX2_isOf_20 rfl (lv_at hl 2 rfl) ?_
      refine lv_acmp_ne (tgt := 36) (rx := (some g1)) (ry := (some b)) hx hb dX2_isOf_21 (by decide) (fun c5 => ?_) (fun c5 => ?_)
      · refine lv_iconst (v := 0) hx hb dX2_isOf_36 (by decide) ?_
        rw [hQ]
        refine g_zret F hP hS hlocks hr (by first | rfl | exact g_nb _) dX2_isOf_37 (by first | exact Nat.le_of_ble_eq_true rfl | omega) (by first | exact Nat.le_of_ble_eq_true rfl | omega) ?_
        exact ⟨by first | exact g_bt (by simp_all) | exact g_bf (by simp_all) | exact g_bt (by grind) | exact g_bf (by grind), rfl⟩
      · refine lv_aload_n hx hb dX2_isOf_24 rfl (lv_at hl 0 rfl) ?_
        refine g_get F hP (C := RX2) (T := TX2) (N := 3) iX2 hh rfl 1 (by decide) (List.mem_cons_of_mem _ (List.mem_append_left _ (List.mem_of_getElem? (i := 1) rfl))) (fun _ h9 => h9) rfl dX2_isOf_25 ?_
        refine lv_aload_n hx hb dX2_isOf_28 rfl (lv_at hl 1 rfl) ?_
        refine lv_acmp_ne (tgt := 36) (rx := (some g2)) (ry := (some a)) hx hb dX2_isOf_29 (by decide) (fun c6 => ?_) (fun c6 => ?_)
        · refine lv_iconst (v := 0) hx hb dX2_isOf_36 (by decide) ?_
          rw [hQ]
          refine g_zret F hP hS hlocks hr (by first | rfl | exact g_nb _) dX2_isOf_37 (by first | exact Nat.le_of_ble_eq_true rfl | omega) (by first | exact Nat.le_of_ble_eq_true rfl | omega) ?_
          exact ⟨by first | exact g_bt (by simp_all) | exact g_bf (by simp_all) | exact g_bt (by grind) | exact g_bf (by grind), rfl⟩
        · refine lv_iconst (v := 1) hx hb dX2_isOf_32 (by decide) ?_
          refine lv_goto (tgt := 37) hx hb dX2_isOf_33 (by decide) ?_
          rw [hQ]
          refine g_zret F hP hS hlocks hr (by first | rfl | exact g_nb _) dX2_isOf_37 (by first | exact Nat.le_of_ble_eq_true rfl | omega) (by first | exact Nat.le_of_ble_eq_true rfl | omega) ?_
          exact ⟨by first | exact g_bt (by simp_all) | exact g_bf (by simp_all) | exact g_bt (by grind) | exact g_bf (by grind), rfl⟩
