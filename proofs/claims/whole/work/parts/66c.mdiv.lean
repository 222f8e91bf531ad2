set_option maxHeartbeats 4000000 in
set_option maxRecDepth 100000 in
theorem k_X7_isInner (l : Launch) (A : Nat → Prop) (G : g_C) (w : g_W) (md : Nat → Nat) (S : Sg) (th : Int32) (tp bt : Int64) (Fm : Nat → Nat → Int32) (L : Nat → Nat → Int64) (k : Nat) (hx0 : w (md 0) = some (.inr (8, [.int th, .int (iL (S 0 0)), .ref (md 1), .ref (md 2), .ref (md 3), .int (iL (S 0 4)), .int (iL (S 0 5)), .int (iL (S 0 1)), .ref (md 4), .ref (md 5), .int (iL (S 0 2)), .ref (md 6), .ref (md 7), .int (iL (S 0 3)), .ref (md 8), .ref (md 9), .ref (md 10), .ref (md 11), .long tp, .long bt]))) (hy5 : w (md 5) = some (.inl (G.2.1 2, 16, .inl (Fm 5)))) (hy6 : w (md 6) = some (.inl (G.2.1 0, 16, .inl (Fm 6)))) (hy7 : w (md 7) = some (.inl (G.2.1 0, 16, .inl (Fm 7)))) (Hf : modF S Fm) (Hi : invS S) (hk : (k : Int) < S 0 2) : mI l yX7_isInner wsX7_isInner ({ frames := 0, cells := 0, slots := 0, locals := 0 } : Room) [.ref (md 0), .int (nI k)] A G w (fun r w' => r = g_b (decide (inner S k)) ∧ w' = w) 0 0 := by
  refine g_ofI (cc := cX7_isInner) (maxL := 2) (ret := (some .boolean)) (own := RX7) (by decide) rfl rfl (Nat.le_of_ble_eq_true rfl) ?_
  intro p e R s m args below meth c Q ls hR F hP hS hlocks hr hnm0 hQ hl
  obtain ⟨⟨hx, hb, hml, hown, hts⟩, hK, hZ, hA⟩ := id F
  generalize hH0 : s.heap = H at hP ⊢
  have hS : va_S A s.heap H [] := by rw [← hH0]; exact va_S.rf
  generalize ([] : List Loc) = locs at hS ⊢
  have hl : lv_has ls 2 [(0, .ref (md 0)), (1, .int (nI k))] := hl
  have iX7 : ∀ w ∈ u_ws RX7 TX7 20, w ∈ wsX7_isInner := fun w h => List.mem_cons_of_mem _ (List.mem_append_right _ (h))
  have hi := Hi.1
  obtain ⟨a1, a2, a3, a4, a5⟩ := Hi.2.2.2.1 k hk
  have g1 := Hi.2.2.1 (S 9 k).toNat (by omega)
  have g2 := Hi.2.2.1 (S 10 k).toNat (by omega)
  refine lv_aload_n hx hb dX7_isInner_0 rfl (lv_at hl 0 rfl) ?_
  refine g_get F hP (C := RX7) (T := TX7) (N := 20) iX7 hx0 rfl 9 (by decide) (List.mem_cons_of_mem _ (List.mem_append_left _ (List.mem_of_getElem? (i := 0) rfl))) (fun _ h9 => h9) rfl dX7_isInner_1 ?_
  refine lv_aload_n hx hb dX7_isInner_4 rfl (lv_at hl 0 rfl) ?_
  refine g_get F hP (C := RX7) (T := TX7) (N := 20) iX7 hx0 rfl 11 (by decide) (List.mem_cons_of_mem _ (List.mem_append_left _ (List.mem_of_getElem? (i := 1) rfl))) (fun _ h9 => h9) rfl dX7_isInner_5 ?_
  refine lv_iload_n hx hb dX7_isInner_8 rfl (lv_at hl 1 rfl) ?_
  refine g_iald F hP hy6 (vp_in_nI (by omega) (by decide)) dX7_isInner_9 ?_
  rw [show (.int ((Fm 6) (nI k : Int32).toNatClampNeg) : Value) = .int (nI (S 9 k).toNat) from by rw [nI_clamp (by omega), (Hf.2.2.1 k hk).1, iL_nn (by omega)]]
  refine g_zald F hP hy5 (vp_in_nI (by omega) (by decide)) dX7_isInner_10 ?_
  rw [show (.int ((Fm 5) (nI (S 9 k).toNat : Int32).toNatClampNeg) : Value) = .int (g_b (decide (S 8 (S 9 k).toNat = 1))) from by rw [nI_clamp (by omega), (Hf.2.1 (S 9 k).toNat (by omega)).2.2.2.2, iL_b (Hi.2.2.1 (S 9 k).toNat (by omega)).2.2.2.2.2.2.2.2]]
  refine lv_if_ne (tgt := 28) hx hb dX7_isInner_11 (by decide) (fun c1 => ?_) (fun c1 => ?_)
  · have yc1 := of_decide_eq_true (g_b1.mp c1)
    refine lv_iconst (v := 1) hx hb dX7_isInner_28 (by decide) ?_
    refine lv_goto (tgt := 33) hx hb dX7_isInner_29 (by decide) ?_
    rw [hQ]
    refine g_zret F hP hS hlocks hr (by first | rfl | exact g_nb _) dX7_isInner_33 (by first | exact Nat.le_of_ble_eq_true rfl | omega) (by first | exact Nat.le_of_ble_eq_true rfl | omega) ?_
    exact ⟨g_bt (Or.inl yc1), rfl⟩
  · have yc1 := of_decide_eq_false (g_b0.mp c1)
    refine lv_aload_n hx hb dX7_isInner_14 rfl (lv_at hl 0 rfl) ?_
    refine g_get F hP (C := RX7) (T := TX7) (N := 20) iX7 hx0 rfl 9 (by decide) (List.mem_cons_of_mem _ (List.mem_append_left _ (List.mem_of_getElem? (i := 0) rfl))) (fun _ h9 => h9) rfl dX7_isInner_15 ?_
    refine lv_aload_n hx hb dX7_isInner_18 rfl (lv_at hl 0 rfl) ?_
    refine g_get F hP (C := RX7) (T := TX7) (N := 20) iX7 hx0 rfl 12 (by decide) (List.mem_cons_of_mem _ (List.mem_append_left _ (List.mem_of_getElem? (i := 2) rfl))) (fun _ h9 => h9) rfl dX7_isInner_19 ?_
    refine lv_iload_n hx hb dX7_isInner_22 rfl (lv_at hl 1 rfl) ?_
    refine g_iald F hP hy7 (vp_in_nI (by omega) (by decide)) dX7_isInner_23 ?_
    rw [show (.int ((Fm 7) (nI k : Int32).toNatClampNeg) : Value) = .int (nI (S 10 k).toNat) from by rw [nI_clamp (by omega), (Hf.2.2.1 k hk).2, iL_nn (by omega)]]
    refine g_zald F hP hy5 (vp_in_nI (by omega) (by decide)) dX7_isInner_24 ?_
    rw [show (.int ((Fm 5) (nI (S 10 k).toNat : Int32).toNatClampNeg) : Value) = .int (g_b (decide (S 8 (S 10 k).toNat = 1))) from by rw [nI_clamp (by omega), (Hf.2.1 (S 10 k).toNat (by omega)).2.2.2.2, iL_b (Hi.2.2.1 (S 10 k).toNat (by omega)).2.2.2.2.2.2.2.2]]
    refine lv_if_eq (tgt := 32) hx hb dX7_isInner_25 (by decide) (fun c2 => ?_) (fun c2 => ?_)
    · have yc2 := of_decide_eq_false (g_b0.mp c2)
      refine lv_iconst (v := 0) hx hb dX7_isInner_32 (by decide) ?_
      rw [hQ]
      refine g_zret F hP hS hlocks hr (by first | rfl | exact g_nb _) dX7_isInner_33 (by first | exact Nat.le_of_ble_eq_true rfl | omega) (by first | exact Nat.le_of_ble_eq_true rfl | omega) ?_
      exact ⟨g_bf (fun q => q.elim yc1 yc2), rfl⟩
    · have yc2 := of_decide_eq_true (g_b1.mp c2)
      refine lv_iconst (v := 1) hx hb dX7_isInner_28 (by decide) ?_
      refine lv_goto (tgt := 33) hx hb dX7_isInner_29 (by decide) ?_
      rw [hQ]
      refine g_zret F hP hS hlocks hr (by first | rfl | exact g_nb _) dX7_isInner_33 (by first | exact Nat.le_of_ble_eq_true rfl | omega) (by first | exact Nat.le_of_ble_eq_true rfl | omega) ?_
      exact ⟨g_bt (Or.inr yc2), rfl⟩
