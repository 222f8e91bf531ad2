set_option maxHeartbeats 4000000 in
set_option maxRecDepth 100000 in
theorem k_newLength (l : Launch) (A : Nat → Prop) (G : g_C) (w : g_W) (c0 d0 : Nat) (hp1 : c0 < 100000) (hp2 : d0 < 100000) (hp3 : 1 ≤ d0) : mI l yJ8_newLength_cabcc wsJ8_newLength_cabcc ({ frames := 1, cells := 0, slots := 0, locals := 40 } : Room) [.int (nI c0), .int (nI 1), .int (nI d0)] A G w (fun r w' => r = nI (c0 + d0) ∧ w' = w) 0 0 := by
  refine g_ofI (cc := cJ8_newLength_cabcc) (maxL := 4) (ret := (some .int)) (own := RJ8) (by decide) rfl rfl (Nat.le_of_ble_eq_true rfl) ?_
  intro p e R s m args below meth c Q ls hR F hP hS hlocks hr hnm0 hQ hl
  obtain ⟨⟨hx, hb, hml, hown, hts⟩, hK, hZ, hA⟩ := id F
  generalize hH0 : s.heap = H at hP ⊢
  have hS : va_S A s.heap H [] := by rw [← hH0]; exact va_S.rf
  generalize ([] : List Loc) = locs at hS ⊢
  have hl : lv_has ls 4 [(0, .int (nI c0)), (1, .int (nI 1)), (2, .int (nI d0))] := hl
  refine lv_iload_n hx hb dJ8_newLength_cabcc_0 rfl (lv_at hl 0 rfl) ?_
  refine lv_iload_n hx hb dJ8_newLength_cabcc_1 rfl (lv_at hl 1 rfl) ?_
  refine lv_iload_n hx hb dJ8_newLength_cabcc_2 rfl (lv_at hl 2 rfl) ?_
  refine va_mmax hx hb (by rw [hml]; exact hl.1.symm) hown (hts _ (List.mem_cons_of_mem _ (List.mem_of_getElem? (i := 0) rfl))) (hts _ (List.mem_cons_of_mem _ (List.mem_of_getElem? (i := 1) rfl))) (hts _ (List.mem_cons_of_mem _ (List.mem_of_getElem? (i := 2) rfl))) (hts _ (List.mem_cons_of_mem _ (List.mem_of_getElem? (i := 3) rfl))) (by rw [hR]; exact Nat.le_of_ble_eq_true rfl) (by rw [hR]; exact Nat.le_of_ble_eq_true rfl) (by rw [hR]; first | exact Nat.le_of_ble_eq_true rfl | (dsimp only; omega)) (by rw [hR]; first | exact Nat.le_of_ble_eq_true rfl | (dsimp only; omega)) dJ8_newLength_cabcc_3 ?_
  refine lv_topi (fun v1 ev1 => ?_)
  obtain rfl : v1 = nI d0 := by
    rw [ev1]
    by_cases z : 1 < d0
    · exact if_pos (nI_lt z (by omega))
    · rw [if_neg (nI_nlt (by omega) (by omega)), show d0 = 1 by omega]
  refine lv_iadd hx hb dJ8_newLength_cabcc_6 ?_
  refine lv_topi (fun v2 ev2 => ?_)
  obtain rfl : v2 = nI (c0 + d0) := by
    rw [ev2]
    exact nI_add _ _
  refine lv_istore_n (lv' := [(3, .int (nI (c0 + d0))), (0, .int (nI c0)), (1, .int (nI 1)), (2, .int (nI d0))]) hx hb dJ8_newLength_cabcc_7 rfl hl (by decide) rfl (fun ls hl => ?_)
  refine lv_iconst (v := 0) hx hb dJ8_newLength_cabcc_8 (by decide) ?_
  refine lv_iload_n hx hb dJ8_newLength_cabcc_9 rfl (lv_at hl 0 rfl) ?_
  refine lv_icmp_ge (tgt := 21) hx hb dJ8_newLength_cabcc_10 (by decide) (fun c3 => ?_) (fun c3 => ?_)
  · exact absurd c3 (by rw [← nI_0]; exact nI_ge (by omega) (by omega))
  · refine lv_iload_n hx hb dJ8_newLength_cabcc_13 rfl (lv_at hl 0 rfl) ?_
    refine lv_ldc (v := 2147483639) hx hb hown (hts _ (List.mem_cons_of_mem _ (List.mem_of_getElem? (i := 4) rfl))) dJ8_newLength_cabcc_14 ?_
    refine lv_icmp_gt (tgt := 21) hx hb dJ8_newLength_cabcc_16 (by decide) (fun c4 => ?_) (fun c4 => ?_)
    · exact absurd c4 (by rw [show (2147483639 : Int32) = nI 2147483639 from rfl]; exact nI_nlt (by omega) (by omega))
    · refine lv_iload_n hx hb dJ8_newLength_cabcc_19 rfl (lv_at hl 0 rfl) ?_
      rw [hQ]
      refine g_iret F hP hS hlocks hr dJ8_newLength_cabcc_20 (by first | exact Nat.le_of_ble_eq_true rfl | omega) (by first | exact Nat.le_of_ble_eq_true rfl | omega) ?_
      exact ⟨rfl, rfl⟩
