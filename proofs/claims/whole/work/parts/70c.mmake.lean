theorem cd_X7_make : yX7_make.cls = RX7 ∧ yX7_make.cls ≠ "java/lang/invoke/MethodHandle" ∧ yX7_make.cls ≠ "java/lang/invoke/VarHandle" ∧ (parseMethodDescriptor yX7_make.desc).map (fun d => d.parameters.length) = some 2 := by decide +kernel
set_option maxHeartbeats 4000000 in
set_option maxRecDepth 100000 in
theorem k_X7_sum (l : Launch) (A : Nat → Prop) (G : g_C) (w : g_W) (md : Nat → Nat) (S : Sg) (th : Int32) (tp bt : Int64) (Fm : Nat → Nat → Int32) (L : Nat → Nat → Int64) (a b : Nat) (u v na da nb db : Int) (hx0 : w (md 0) = some (.inr (8, [.int th, .int (iL (S 0 0)), .ref (md 1), .ref (md 2), .ref (md 3), .int (iL (S 0 4)), .int (iL (S 0 5)), .int (iL (S 0 1)), .ref (md 4), .ref (md 5), .int (iL (S 0 2)), .ref (md 6), .ref (md 7), .int (iL (S 0 3)), .ref (md 8), .ref (md 9), .ref (md 10), .ref (md 11), .long tp, .long bt]))) (hy9 : w (md 9) = some (.inl (G.2.1 1, 10, .inr (.inl (L 0))))) (hy10 : w (md 10) = some (.inl (G.2.1 1, 10, .inr (.inl (L 1))))) (ha : a < 10) (hb9 : b < 10) (e1 : L 0 a = zL na) (e2 : L 1 a = zL da) (e3 : L 0 b = zL nb) (e4 : L 1 b = zL db) (hda : da ≠ 0) (hdb : db ≠ 0) (hbx : (na * u * db + nb * v * da).natAbs < 1152921504606846976) (hby : (da * db).natAbs < 1152921504606846976) : mV l yX7_sum wsX7_sum ({ frames := 3, cells := 0, slots := 0, locals := 95 } : Room) [.ref (md 0), .int (nI a), .long (zL u), .int (nI b), .long (zL v)] A G w (fun w' => w' = g_up w (md 0) (.inr (8, mC S th (zL (fN (na * u * db + nb * v * da) (da * db))) (zL (fD (na * u * db + nb * v * da) (da * db))) md))) 0 0 := by
  refine g_ofV (cc := cX7_sum) (maxL := 7) (ret := none) (own := RX7) (by decide) rfl rfl (Nat.le_of_ble_eq_true rfl) ?_
  intro p e R s m args below meth c Q ls hR F hP hS hlocks hr hnm0 hQ hl
  obtain ⟨⟨hx, hb, hml, hown, hts⟩, hK, hZ, hA⟩ := id F
  generalize hH0 : s.heap = H at hP ⊢
  have hS : va_S A s.heap H [] := by rw [← hH0]; exact va_S.rf
  generalize ([] : List Loc) = locs at hS ⊢
  have hl : lv_has ls 7 [(0, .ref (md 0)), (1, .int (nI a)), (2, .long (zL u)), (4, .int (nI b)), (5, .long (zL v))] := hl
  have iX7 : ∀ w ∈ u_ws RX7 TX7 20, w ∈ wsX7_sum := fun w h => List.mem_cons_of_mem _ (List.mem_append_right _ (h))
  refine lv_aload_n hx hb dX7_sum_0 rfl (lv_at hl 0 rfl) ?_
  refine lv_aload_n hx hb dX7_sum_1 rfl (lv_at hl 0 rfl) ?_
  refine g_get F hP (C := RX7) (T := TX7) (N := 20) iX7 hx0 rfl 15 (by decide) (List.mem_cons_of_mem _ (List.mem_append_left _ (List.mem_of_getElem? (i := 0) rfl))) (fun _ h9 => h9) rfl dX7_sum_2 ?_
  refine lv_iload_n hx hb dX7_sum_5 rfl (lv_at hl 1 rfl) ?_
  refine g_lald F hP hy9 (vp_in_nI (by omega) (by decide)) dX7_sum_6 ?_
  rw [show (.long ((L 0) (nI a : Int32).toNatClampNeg) : Value) = .long (zL na) from by rw [nI_clamp (by omega), e1]]
  refine lv_lload_n hx hb dX7_sum_7 rfl (lv_at hl 2 rfl) ?_
  refine lv_lmul hx hb dX7_sum_8 ?_
  refine lv_topl (fun v1 ev1 => ?_)
  obtain rfl : v1 = zL (na * u) := by
    rw [ev1]
    exact zL_mul _ _
  refine lv_aload_n hx hb dX7_sum_9 rfl (lv_at hl 0 rfl) ?_
  refine g_get F hP (C := RX7) (T := TX7) (N := 20) iX7 hx0 rfl 16 (by decide) (List.mem_cons_of_mem _ (List.mem_append_left _ (List.mem_of_getElem? (i := 1) rfl))) (fun _ h9 => h9) rfl dX7_sum_10 ?_
  refine lv_iload hx hb dX7_sum_13 (lv_at hl 3 rfl) ?_
  refine g_lald F hP hy10 (vp_in_nI (by omega) (by decide)) dX7_sum_15 ?_
  rw [show (.long ((L 1) (nI b : Int32).toNatClampNeg) : Value) = .long (zL db) from by rw [nI_clamp (by omega), e4]]
  refine lv_lmul hx hb dX7_sum_16 ?_
  refine lv_topl (fun v2 ev2 => ?_)
  obtain rfl : v2 = zL (na * u * db) := by
    rw [ev2]
    exact zL_mul _ _
  refine lv_aload_n hx hb dX7_sum_17 rfl (lv_at hl 0 rfl) ?_
  refine g_get F hP (C := RX7) (T := TX7) (N := 20) iX7 hx0 rfl 15 (by decide) (List.mem_cons_of_mem _ (List.mem_append_left _ (List.mem_of_getElem? (i := 0) rfl))) (fun _ h9 => h9) rfl dX7_sum_18 ?_
  refine lv_iload hx hb dX7_sum_21 (lv_at hl 3 rfl) ?_
  refine g_lald F hP hy9 (vp_in_nI (by omega) (by decide)) dX7_sum_23 ?_
  rw [show (.long ((L 0) (nI b : Int32).toNatClampNeg) : Value) = .long (zL nb) from by rw [nI_clamp (by omega), e3]]
  refine lv_lload hx hb dX7_sum_24 (lv_at hl 4 rfl) ?_
  refine lv_lmul hx hb dX7_sum_26 ?_
  refine lv_topl (fun v3 ev3 => ?_)
  obtain rfl : v3 = zL (nb * v) := by
    rw [ev3]
    exact zL_mul _ _
  refine lv_aload_n hx hb dX7_sum_27 rfl (lv_at hl 0 rfl) ?_
  refine g_get F hP (C := RX7) (T := TX7) (N := 20) iX7 hx0 rfl 16 (by decide) (List.mem_cons_of_mem _ (List.mem_append_left _ (List.mem_of_getElem? (i := 1) rfl))) (fun _ h9 => h9) rfl dX7_sum_28 ?_
  refine lv_iload_n hx hb dX7_sum_31 rfl (lv_at hl 1 rfl) ?_
  refine g_lald F hP hy10 (vp_in_nI (by omega) (by decide)) dX7_sum_32 ?_
  rw [show (.long ((L 1) (nI a : Int32).toNatClampNeg) : Value) = .long (zL da) from by rw [nI_clamp (by omega), e2]]
  refine lv_lmul hx hb dX7_sum_33 ?_
  refine lv_topl (fun v4 ev4 => ?_)
  obtain rfl : v4 = zL (nb * v * da) := by
    rw [ev4]
    exact zL_mul _ _
  refine lv_ladd hx hb dX7_sum_34 ?_
  refine lv_topl (fun v5 ev5 => ?_)
  obtain rfl : v5 = zL (na * u * db + nb * v * da) := by
    rw [ev5]
    exact zL_add _ _
  refine lv_aload_n hx hb dX7_sum_35 rfl (lv_at hl 0 rfl) ?_
  refine g_get F hP (C := RX7) (T := TX7) (N := 20) iX7 hx0 rfl 16 (by decide) (List.mem_cons_of_mem _ (List.mem_append_left _ (List.mem_of_getElem? (i := 1) rfl))) (fun _ h9 => h9) rfl dX7_sum_36 ?_
  refine lv_iload_n hx hb dX7_sum_39 rfl (lv_at hl 1 rfl) ?_
  refine g_lald F hP hy10 (vp_in_nI (by omega) (by decide)) dX7_sum_40 ?_
  rw [show (.long ((L 1) (nI a : Int32).toNatClampNeg) : Value) = .long (zL da) from by rw [nI_clamp (by omega), e2]]
  refine lv_aload_n hx hb dX7_sum_41 rfl (lv_at hl 0 rfl) ?_
  refine g_get F hP (C := RX7) (T := TX7) (N := 20) iX7 hx0 rfl 16 (by decide) (List.mem_cons_of_mem _ (List.mem_append_left _ (List.mem_of_getElem? (i := 1) rfl))) (fun _ h9 => h9) rfl dX7_sum_42 ?_
  refine lv_iload hx hb dX7_sum_45 (lv_at hl 3 rfl) ?_
  refine g_lald F hP hy10 (vp_in_nI (by omega) (by decide)) dX7_sum_47 ?_
  rw [show (.long ((L 1) (nI b : Int32).toNatClampNeg) : Value) = .long (zL db) from by rw [nI_clamp (by omega), e4]]
  refine lv_lmul hx hb dX7_sum_48 ?_
  refine lv_topl (fun v6 ev6 => ?_)
  obtain rfl : v6 = zL (da * db) := by
    rw [ev6]
    exact zL_mul _ _
  refine g_Vv (As := [.long (zL (na * u * db + nb * v * da)), .long (zL (da * db))]) (rest := []) F hP hS (k_X7_make l A G w md S _ _ _ Fm L (na * u * db + nb * v * da) (da * db) hx0 (Int.mul_ne_zero hda hdb) hbx hby) (cwV 2 hts gX7_sum_X7_make rfl rfl rfl cd_X7_make ⟨by rw [hR]; exact Nat.le_of_ble_eq_true rfl, by rw [hR]; exact Nat.le_of_ble_eq_true rfl⟩) hx0 rfl rfl rfl hl.1 (Nat.le_of_ble_eq_true rfl) dX7_sum_49 ⟨by rw [hR]; exact Nat.le_of_ble_eq_true rfl, by rw [hR]; exact Nat.le_of_ble_eq_true rfl⟩ rfl (fun w8 H locs h9 hP hS => ?_)
  have f10 : w8 (md 9) = some (.inl (G.2.1 1, 10, .inr (.inl (L 0)))) := by rw [h9]; exact g_up_f hy9 (g_ne hy9 hx0 rfl)
  have f11 : w8 (md 10) = some (.inl (G.2.1 1, 10, .inr (.inl (L 1)))) := by rw [h9]; exact g_up_f hy10 (g_ne hy10 hx0 rfl)
  have f12 : w8 (md 0) = some (.inr (8, [.int th, .int (iL (S 0 0)), .ref (md 1), .ref (md 2), .ref (md 3), .int (iL (S 0 4)), .int (iL (S 0 5)), .int (iL (S 0 1)), .ref (md 4), .ref (md 5), .int (iL (S 0 2)), .ref (md 6), .ref (md 7), .int (iL (S 0 3)), .ref (md 8), .ref (md 9), .ref (md 10), .ref (md 11), .long (zL (fN (na * u * db + nb * v * da) (da * db))), .long (zL (fD (na * u * db + nb * v * da) (da * db)))])) := by rw [h9]; exact g_up_s _ _ _
  rw [hQ]
  refine g_vret F hP hS hlocks hr dX7_sum_52 (by first | exact Nat.le_of_ble_eq_true rfl | omega) (by first | exact Nat.le_of_ble_eq_true rfl | omega) ?_
  exact h9
