set_option maxHeartbeats 4000000 in
set_option maxRecDepth 100000 in
theorem k_X2_length (l : Launch) (A : Nat → Prop) (G : g_C) (w : g_W) (h g1 g2 t : Nat) (sh1 : Nat) (te1 mo1 la1 : Int32) (ri1 : Bool) (sh2 : Nat) (te2 mo2 la2 : Int32) (ri2 : Bool) (hh : w h = some (.inr (3, [.ref g1, .ref g2, .ref t]))) (hg1 : w g1 = some (.inr (2, [.ref sh1, .int te1, .int mo1, .int la1, .int (g_b ri1)]))) (hg2 : w g2 = some (.inr (2, [.ref sh2, .int te2, .int mo2, .int la2, .int (g_b ri2)]))) : mI l yX2_length wsX2_length ({ frames := 1, cells := 0, slots := 0, locals := 40 } : Room) [.ref h] A G w (fun r w' => r = (mo1 * (if ri1 || ri2 then (if 0 ≤ te1 - te2 then te1 - te2 else 0 - (te1 - te2)) else te1 + te2)) ∧ w' = w) 0 0 := by
  refine g_ofI (cc := cX2_length) (maxL := 2) (ret := (some .int)) (own := RX2) (by decide) rfl rfl (Nat.le_of_ble_eq_true rfl) ?_
  intro p e R s m args below meth c Q ls hR F hP hS hlocks hr hnm0 hQ hl
  obtain ⟨⟨hx, hb, hml, hown, hts⟩, hK, hZ, hA⟩ := id F
  generalize hH0 : s.heap = H at hP ⊢
  have hS : va_S A s.heap H [] := by rw [← hH0]; exact va_S.rf
  generalize ([] : List Loc) = locs at hS ⊢
  have hl : lv_has ls 2 [(0, .ref h)] := hl
  have iX1 : ∀ w ∈ u_ws RX1 TX1 5, w ∈ wsX2_length := fun w h => List.mem_cons_of_mem _ (List.mem_append_right _ (h))
  have iX2 : ∀ w ∈ u_ws RX2 TX2 3, w ∈ wsX2_length := fun w h => List.mem_cons_of_mem _ (List.mem_append_left _ (List.mem_append_right _ (h)))
  refine lv_aload_n hx hb dX2_length_0 rfl (lv_at hl 0 rfl) ?_
  refine g_get F hP (C := RX2) (T := TX2) (N := 3) iX2 hh rfl 0 (by decide) (List.mem_cons_of_mem _ (List.mem_append_left _ (List.mem_append_left _ (List.mem_of_getElem? (i := 0) rfl)))) (fun _ h9 => h9) rfl dX2_length_1 ?_
  refine g_get F hP (C := RX1) (T := TX1) (N := 5) iX1 hg1 rfl 4 (by decide) (List.mem_cons_of_mem _ (List.mem_append_left _ (List.mem_append_left _ (List.mem_of_getElem? (i := 1) rfl)))) (fun _ h9 => h9) rfl dX2_length_4 ?_
  refine lv_if_ne (tgt := 20) hx hb dX2_length_7 (by decide) (fun c1 => ?_) (fun c1 => ?_)
  · have yc1 : ri1 = true := g_b1.mp c1
    refine lv_iconst (v := 1) hx hb dX2_length_20 (by decide) ?_
    refine lv_goto (tgt := 25) hx hb dX2_length_21 (by decide) ?_
    refine lv_istore_n (lv' := [(1, .int 1), (0, .ref h)]) hx hb dX2_length_25 rfl hl (by decide) rfl (fun ls hl => ?_)
    refine lv_aload_n hx hb dX2_length_26 rfl (lv_at hl 1 rfl) ?_
    refine g_get F hP (C := RX2) (T := TX2) (N := 3) iX2 hh rfl 0 (by decide) (List.mem_cons_of_mem _ (List.mem_append_left _ (List.mem_append_left _ (List.mem_of_getElem? (i := 0) rfl)))) (fun _ h9 => h9) rfl dX2_length_27 ?_
    refine g_get F hP (C := RX1) (T := TX1) (N := 5) iX1 hg1 rfl 2 (by decide) (List.mem_cons_of_mem _ (List.mem_append_left _ (List.mem_append_left _ (List.mem_of_getElem? (i := 3) rfl)))) (fun _ h9 => h9) rfl dX2_length_30 ?_
    refine lv_iload_n hx hb dX2_length_33 rfl (lv_at hl 0 rfl) ?_
    refine lv_if_eq (tgt := 58) hx hb dX2_length_34 (by decide) (fun c2 => ?_) (fun c2 => ?_)
    · exact absurd c2 (by decide)
    · refine lv_aload_n hx hb dX2_length_37 rfl (lv_at hl 1 rfl) ?_
      refine g_get F hP (C := RX2) (T := TX2) (N := 3) iX2 hh rfl 0 (by decide) (List.mem_cons_of_mem _ (List.mem_append_left _ (List.mem_append_left _ (List.mem_of_getElem? (i := 0) rfl)))) (fun _ h9 => h9) rfl dX2_length_38 ?_
      refine g_get F hP (C := RX1) (T := TX1) (N := 5) iX1 hg1 rfl 1 (by decide) (List.mem_cons_of_mem _ (List.mem_append_left _ (List.mem_append_left _ (List.mem_of_getElem? (i := 4) rfl)))) (fun _ h9 => h9) rfl dX2_length_41 ?_
      refine lv_aload_n hx hb dX2_length_44 rfl (lv_at hl 1 rfl) ?_
      refine g_get F hP (C := RX2) (T := TX2) (N := 3) iX2 hh rfl 1 (by decide) (List.mem_cons_of_mem _ (List.mem_append_left _ (List.mem_append_left _ (List.mem_of_getElem? (i := 2) rfl)))) (fun _ h9 => h9) rfl dX2_length_45 ?_
      refine g_get F hP (C := RX1) (T := TX1) (N := 5) iX1 hg2 rfl 1 (by decide) (List.mem_cons_of_mem _ (List.mem_append_left _ (List.mem_append_left _ (List.mem_of_getElem? (i := 4) rfl)))) (fun _ h9 => h9) rfl dX2_length_48 ?_
      refine lv_isub hx hb dX2_length_51 ?_
      refine lv_topi (fun v3 ev3 => ?_)
      refine va_mabs hx hb (by rw [hml]; exact hl.1.symm) hown (hts _ (List.mem_cons_of_mem _ (List.mem_append_left _ (List.mem_append_left _ (List.mem_of_getElem? (i := 5) rfl))))) (hts _ (List.mem_cons_of_mem _ (List.mem_append_left _ (List.mem_append_left _ (List.mem_of_getElem? (i := 6) rfl))))) (hts _ (List.mem_cons_of_mem _ (List.mem_append_left _ (List.mem_append_left _ (List.mem_of_getElem? (i := 7) rfl))))) (hts _ (List.mem_cons_of_mem _ (List.mem_append_left _ (List.mem_append_left _ (List.mem_of_getElem? (i := 8) rfl))))) (by rw [hR]; exact Nat.le_of_ble_eq_true rfl) (by rw [hR]; exact Nat.le_of_ble_eq_true rfl) (by rw [hR]; first | exact Nat.le_of_ble_eq_true rfl | (dsimp only; omega)) (by rw [hR]; first | exact Nat.le_of_ble_eq_true rfl | (dsimp only; omega)) dX2_length_52 ?_
      refine lv_topi (fun v4 ev4 => ?_)
      refine lv_goto (tgt := 73) hx hb dX2_length_55 (by decide) ?_
      refine lv_imul hx hb dX2_length_73 ?_
      refine lv_topi (fun v5 ev5 => ?_)
      rw [hQ]
      refine g_iret F hP hS hlocks hr dX2_length_74 (by first | exact Nat.le_of_ble_eq_true rfl | omega) (by first | exact Nat.le_of_ble_eq_true rfl | omega) ?_
      refine ⟨?_, rfl⟩
      simp_all
  · have yc1 : ri1 = false := g_b0.mp c1
    refine lv_aload_n hx hb dX2_length_10 rfl (lv_at hl 0 rfl) ?_
    refine g_get F hP (C := RX2) (T := TX2) (N := 3) iX2 hh rfl 1 (by decide) (List.mem_cons_of_mem _ (List.mem_append_left _ (List.mem_append_left _ (List.mem_of_getElem? (i := 2) rfl)))) (fun _ h9 => h9) rfl dX2_length_11 ?_
    refine g_get F hP (C := RX1) (T := TX1) (N := 5) iX1 hg2 rfl 4 (by decide) (List.mem_cons_of_mem _ (List.mem_append_left _ (List.mem_append_left _ (List.mem_of_getElem? (i := 1) rfl)))) (fun _ h9 => h9) rfl dX2_length_14 ?_
    refine lv_if_eq (tgt := 24) hx hb dX2_length_17 (by decide) (fun c6 => ?_) (fun c6 => ?_)
    · have yc6 : ri2 = false := g_b0.mp c6
      refine lv_iconst (v := 0) hx hb dX2_length_24 (by decide) ?_
      refine lv_istore_n (lv' := [(1, .int 0), (0, .ref h)]) hx hb dX2_length_25 rfl hl (by decide) rfl (fun ls hl => ?_)
      refine lv_aload_n hx hb dX2_length_26 rfl (lv_at hl 1 rfl) ?_
      refine g_get F hP (C := RX2) (T := TX2) (N := 3) iX2 hh rfl 0 (by decide) (List.mem_cons_of_mem _ (List.mem_append_left _ (List.mem_append_left _ (List.mem_of_getElem? (i := 0) rfl)))) (fun _ h9 => h9) rfl dX2_length_27 ?_
      refine g_get F hP (C := RX1) (T := TX1) (N := 5) iX1 hg1 rfl 2 (by decide) (List.mem_cons_of_mem _ (List.mem_append_left _ (List.mem_append_left _ (List.mem_of_getElem? (i := 3) rfl)))) (fun _ h9 => h9) rfl dX2_length_30 ?_
      refine lv_iload_n hx hb dX2_length_33 rfl (lv_at hl 0 rfl) ?_
      refine lv_if_eq (tgt := 58) hx hb dX2_length_34 (by decide) (fun c7 => ?_) (fun c7 => ?_)
      · refine lv_aload_n hx hb dX2_length_58 rfl (lv_at hl 1 rfl) ?_
        refine g_get F hP (C := RX2) (T := TX2) (N := 3) iX2 hh rfl 0 (by decide) (List.mem_cons_of_mem _ (List.mem_append_left _ (List.mem_append_left _ (List.mem_of_getElem? (i := 0) rfl)))) (fun _ h9 => h9) rfl dX2_length_59 ?_
        refine g_get F hP (C := RX1) (T := TX1) (N := 5) iX1 hg1 rfl 1 (by decide) (List.mem_cons_of_mem _ (List.mem_append_left _ (List.mem_append_left _ (List.mem_of_getElem? (i := 4) rfl)))) (fun _ h9 => h9) rfl dX2_length_62 ?_
        refine lv_aload_n hx hb dX2_length_65 rfl (lv_at hl 1 rfl) ?_
        refine g_get F hP (C := RX2) (T := TX2) (N := 3) iX2 hh rfl 1 (by decide) (List.mem_cons_of_mem _ (List.mem_append_left _ (List.mem_append_left _ (List.mem_of_getElem? (i := 2) rfl)))) (fun _ h9 => h9) rfl dX2_length_66 ?_
        refine g_get F hP (C := RX1) (T := TX1) (N := 5) iX1 hg2 rfl 1 (by decide) (List.mem_cons_of_mem _ (List.mem_append_left _ (List.mem_append_left _ (List.mem_of_getElem? (i := 4) rfl)))) (fun _ h9 => h9) rfl dX2_length_69 ?_
        refine lv_iadd hx hb dX2_length_72 ?_
        refine lv_topi (fun v8 ev8 => ?_)
        refine lv_imul hx hb dX2_length_73 ?_
        refine lv_topi (fun v9 ev9 => ?_)
        rw [hQ]
        refine g_iret F hP hS hlocks hr dX2_length_74 (by first | exact Nat.le_of_ble_eq_true rfl | omega) (by first | exact Nat.le_of_ble_eq_true rfl | omega) ?_
        refine ⟨?_, rfl⟩
        simp_all
      · exact absurd (by decide) c7
    · have yc6 : ri2 = true := g_b1.mp c6
      refine lv_iconst (v := 1) hx hb dX2_length_20 (by decide) ?_
      refine lv_goto (tgt := 25) hx hb dX2_length_21 (by decide) ?_
      refine lv_istore_n (lv' := [(1, .int 1), (0, .ref h)]) hx hb dX2_length_25 rfl hl (by decide) rfl (fun ls hl => ?_)
      refine lv_aload_n hx hb dX2_length_26 rfl (lv_at hl 1 rfl) ?_
      refine g_get F hP (C := RX2) (T := TX2) (N := 3) iX2 hh rfl 0 (by decide) (List.mem_cons_of_mem _ (List.mem_append_left _ (List.mem_append_left _ (List.mem_of_getElem? (i := 0) rfl)))) (fun _ h9 => h9) rfl dX2_length_27 ?_
      refine g_get F hP (C := RX1) (T := TX1) (N := 5) iX1 hg1 rfl 2 (by decide) (List.mem_cons_of_mem _ (List.mem_append_left _ (List.mem_append_left _ (List.mem_of_getElem? (i := 3) rfl)))) (fun _ h9 => h9) rfl dX2_length_30 ?_
      refine lv_iload_n hx hb dX2_length_33 rfl (lv_at hl 0 rfl) ?_
      refine lv_if_eq (tgt := 58) hx hb dX2_length_34 (by decide) (fun c10 => ?_) (fun c10 => ?_)
      · exact absurd c10 (by decide)
      · refine lv_aload_n hx hb dX2_length_37 rfl (lv_at hl 1 rfl) ?_
        refine g_get F hP (C := RX2) (T := TX2) (N := 3) iX2 hh rfl 0 (by decide) (List.mem_cons_of_mem _ (List.mem_append_left _ (List.mem_append_left _ (List.mem_of_getElem? (i := 0) rfl)))) (fun _ h9 => h9) rfl dX2_length_38 ?_
        refine g_get F hP (C := RX1) (T := TX1) (N := 5) iX1 hg1 rfl 1 (by decide) (List.mem_cons_of_mem _ (List.mem_append_left _ (List.mem_append_left _ (List.mem_of_getElem? (i := 4) rfl)))) (fun _ h9 => h9) rfl dX2_length_41 ?_
        refine lv_aload_n hx hb dX2_length_44 rfl (lv_at hl 1 rfl) ?_
        refine g_get F hP (C := RX2) (T := TX2) (N := 3) iX2 hh rfl 1 (by decide) (List.mem_cons_of_mem _ (List.mem_append_left _ (List.mem_append_left _ (List.mem_of_getElem? (i := 2) rfl)))) (fun _ h9 => h9) rfl dX2_length_45 ?_
        refine g_get F hP (C := RX1) (T := TX1) (N := 5) iX1 hg2 rfl 1 (by decide) (List.mem_cons_of_mem _ (List.mem_append_left _ (List.mem_append_left _ (List.mem_of_getElem? (i := 4) rfl)))) (fun _ h9 => h9) rfl dX2_length_48 ?_
        refine lv_isub hx hb dX2_length_51 ?_
        refine lv_topi (fun v11 ev11 => ?_)
        refine va_mabs hx hb (by rw [hml]; exact hl.1.symm) hown (hts _ (List.mem_cons_of_mem _ (List.mem_append_left _ (List.mem_append_left _ (List.mem_of_getElem? (i := 5) rfl))))) (hts _ (List.mem_cons_of_mem _ (List.mem_append_left _ (List.mem_append_left _ (List.mem_of_getElem? (i := 6) rfl))))) (hts _ (List.mem_cons_of_mem _ (List.mem_append_left _ (List.mem_append_left _ (List.mem_of_getElem? (i := 7) rfl))))) (hts _ (List.mem_cons_of_mem _ (List.mem_append_left _ (List.mem_append_left _ (List.mem_of_getElem? (i := 8) rfl))))) (by rw [hR]; exact Nat.le_of_ble_eq_true rfl) (by rw [hR]; exact Nat.le_of_ble_eq_true rfl) (by rw [hR]; first | exact Nat.le_of_ble_eq_true rfl | (dsimp only; omega)) (by rw [hR]; first | exact Nat.le_of_ble_eq_true rfl | (dsimp only; omega)) dX2_length_52 ?_
        refine lv_topi (fun v12 ev12 => ?_)
        refine lv_goto (tgt := 73) hx hb dX2_length_55 (by decide) ?_
        refine lv_imul hx hb dX2_length_73 ?_
        refine lv_topi (fun v13 ev13 => ?_)
        rw [hQ]
        refine g_iret F hP hS hlocks hr dX2_length_74 (by first | exact Nat.le_of_ble_eq_true rfl | omega) (by first | exact Nat.le_of_ble_eq_true rfl | omega) ?_
        refine ⟨?_, rfl⟩
        simp_all
