set_option maxHeartbeats 4000000 in
set_option maxRecDepth 100000 in
theorem k_X7_worth (l : Launch) (A : Nat → Prop) (G : g_C) (w : g_W) (md : Nat → Nat) (S : Sg) (th : Int32) (tp bt : Int64) (Fm : Nat → Nat → Int32) (L : Nat → Nat → Int64) (T : Sg) (k : Nat) (hx0 : w (md 0) = some (.inr (8, [.int th, .int (iL (S 0 0)), .ref (md 1), .ref (md 2), .ref (md 3), .int (iL (S 0 4)), .int (iL (S 0 5)), .int (iL (S 0 1)), .ref (md 4), .ref (md 5), .int (iL (S 0 2)), .ref (md 6), .ref (md 7), .int (iL (S 0 3)), .ref (md 8), .ref (md 9), .ref (md 10), .ref (md 11), .long tp, .long bt]))) (hy9 : w (md 9) = some (.inl (G.2.1 1, 10, .inr (.inl (L 0))))) (hy10 : w (md 10) = some (.inl (G.2.1 1, 10, .inr (.inl (L 1))))) (Hi : invS S) (Ht : invT S T) (HT : modT S T Fm L) (hk : (k : Int) < S 0 0) (hto : T 2 k ≠ -1) : mD l yX7_worth wsX7_worth ({ frames := 0, cells := 0, slots := 0, locals := 0 } : Room) [.ref (md 0), .int (nI k)] A G w (fun r w' => r = spD T k ∧ w' = w) 0 0 := by
  refine g_ofD (cc := cX7_worth) (maxL := 2) (ret := (some .double)) (own := RX7) (by decide) rfl rfl (Nat.le_of_ble_eq_true rfl) ?_
  intro p e R s m args below meth c Q ls hR F hP hS hlocks hr hnm0 hQ hl
  obtain ⟨⟨hx, hb, hml, hown, hts⟩, hK, hZ, hA⟩ := id F
  generalize hH0 : s.heap = H at hP ⊢
  have hS : va_S A s.heap H [] := by rw [← hH0]; exact va_S.rf
  generalize ([] : List Loc) = locs at hS ⊢
  have hl : lv_has ls 2 [(0, .ref (md 0)), (1, .int (nI k))] := hl
  have iX7 : ∀ w ∈ u_ws RX7 TX7 20, w ∈ wsX7_worth := fun w h => List.mem_cons_of_mem _ (List.mem_append_right _ (h))
  
  have hi := Hi.1
  refine lv_aload_n hx hb dX7_worth_0 rfl (lv_at hl 0 rfl) ?_
  refine g_get F hP (C := RX7) (T := TX7) (N := 20) iX7 hx0 rfl 15 (by decide) (List.mem_cons_of_mem _ (List.mem_append_left _ (List.mem_of_getElem? (i := 0) rfl))) (fun _ h9 => h9) rfl dX7_worth_1 ?_
  refine lv_iload_n hx hb dX7_worth_4 rfl (lv_at hl 1 rfl) ?_
  refine g_lald F hP hy9 (vp_in_nI (by omega) (by decide)) dX7_worth_5 ?_
  rw [show (.long ((L 0) (nI k : Int32).toNatClampNeg) : Value) = .long (zL (T 0 k)) from by rw [nI_clamp (by omega), (HT k hk).1]]
  refine lv_l2d hx hb dX7_worth_6 ?_
  refine lv_topd (fun v1 ev1 => ?_)
  obtain rfl : v1 = FP.l2d (zL (T 0 k)) := by
    exact ev1
  refine lv_aload_n hx hb dX7_worth_7 rfl (lv_at hl 0 rfl) ?_
  refine g_get F hP (C := RX7) (T := TX7) (N := 20) iX7 hx0 rfl 16 (by decide) (List.mem_cons_of_mem _ (List.mem_append_left _ (List.mem_of_getElem? (i := 1) rfl))) (fun _ h9 => h9) rfl dX7_worth_8 ?_
  refine lv_iload_n hx hb dX7_worth_11 rfl (lv_at hl 1 rfl) ?_
  refine g_lald F hP hy10 (vp_in_nI (by omega) (by decide)) dX7_worth_12 ?_
  rw [show (.long ((L 1) (nI k : Int32).toNatClampNeg) : Value) = .long (zL (T 1 k)) from by rw [nI_clamp (by omega), (HT k hk).2.1, if_neg hto]]
  refine lv_l2d hx hb dX7_worth_13 ?_
  refine lv_topd (fun v2 ev2 => ?_)
  obtain rfl : v2 = FP.l2d (zL (T 1 k)) := by
    exact ev2
  refine lv_ddiv hx hb dX7_worth_14 (spD_fr Ht hk).1 ?_
  refine lv_topd (fun v3 ev3 => ?_)
  obtain rfl : v3 = spD T k := by
    exact ev3
  rw [hQ]
  refine g_dret F hP hS hlocks hr dX7_worth_15 (by first | exact Nat.le_of_ble_eq_true rfl | omega) (by first | exact Nat.le_of_ble_eq_true rfl | omega) ?_
  exact ⟨rfl, rfl⟩
