set_option maxHeartbeats 4000000 in
set_option maxRecDepth 100000 in
theorem k_X7_layer (l : Launch) (A : Nat → Prop) (G : g_C) (w : g_W) (md : Nat → Nat) (S : Sg) (th : Int32) (tp bt : Int64) (Fm : Nat → Nat → Int32) (L : Nat → Nat → Int64) (k : Nat) (hx0 : w (md 0) = some (.inr (8, [.int th, .int (iL (S 0 0)), .ref (md 1), .ref (md 2), .ref (md 3), .int (iL (S 0 4)), .int (iL (S 0 5)), .int (iL (S 0 1)), .ref (md 4), .ref (md 5), .int (iL (S 0 2)), .ref (md 6), .ref (md 7), .int (iL (S 0 3)), .ref (md 8), .ref (md 9), .ref (md 10), .ref (md 11), .long tp, .long bt]))) (hy4 : w (md 4) = some (.inl (G.2.1 0, 64, .inl (Fm 4)))) (Hf : modF S Fm) (Hi : invS S) (hk : (k : Int) < S 0 1) : mI l yX7_layer wsX7_layer ({ frames := 0, cells := 0, slots := 0, locals := 0 } : Room) [.ref (md 0), .int (nI k)] A G w (fun r w' => r = iL (S 7 k) ∧ w' = w) 0 0 := by
  refine g_ofI (cc := cX7_layer) (maxL := 2) (ret := (some .int)) (own := RX7) (by decide) rfl rfl (Nat.le_of_ble_eq_true rfl) ?_
  intro p e R s m args below meth c Q ls hR F hP hS hlocks hr hnm0 hQ hl
  obtain ⟨⟨hx, hb, hml, hown, hts⟩, hK, hZ, hA⟩ := id F
  generalize hH0 : s.heap = H at hP ⊢
  have hS : va_S A s.heap H [] := by rw [← hH0]; exact va_S.rf
  generalize ([] : List Loc) = locs at hS ⊢
  have hl : lv_has ls 2 [(0, .ref (md 0)), (1, .int (nI k))] := hl
  have iX7 : ∀ w ∈ u_ws RX7 TX7 20, w ∈ wsX7_layer := fun w h => List.mem_cons_of_mem _ (List.mem_append_right _ (h))
  have hi := Hi.1
  refine lv_aload_n hx hb dX7_layer_0 rfl (lv_at hl 0 rfl) ?_
  refine g_get F hP (C := RX7) (T := TX7) (N := 20) iX7 hx0 rfl 8 (by decide) (List.mem_cons_of_mem _ (List.mem_append_left _ (List.mem_of_getElem? (i := 0) rfl))) (fun _ h9 => h9) rfl dX7_layer_1 ?_
  refine lv_iconst (v := 4) hx hb dX7_layer_4 (by decide) ?_
  refine lv_iload_n hx hb dX7_layer_5 rfl (lv_at hl 1 rfl) ?_
  refine lv_imul hx hb dX7_layer_6 ?_
  refine lv_topi (fun v1 ev1 => ?_)
  obtain rfl : v1 = nI (4 * k) := by
    rw [ev1]
    exact nI_mul 4 k
  refine lv_iconst (v := 3) hx hb dX7_layer_7 (by decide) ?_
  refine lv_iadd hx hb dX7_layer_8 ?_
  refine lv_topi (fun v2 ev2 => ?_)
  obtain rfl : v2 = nI (4 * k + 3) := by
    rw [ev2]
    exact nI_add (4 * k) 3
  refine g_iald F hP hy4 (vp_in_nI (n := 4 * k + 3) (by omega) (by decide)) dX7_layer_9 ?_
  rw [show (.int ((Fm 4) (nI (4 * k + 3) : Int32).toNatClampNeg) : Value) = .int (iL (S 7 k)) from by rw [nI_clamp (n := 4 * k + 3) (by omega), (Hf.2.1 k hk).2.2.2.1]]
  rw [hQ]
  refine g_iret F hP hS hlocks hr dX7_layer_10 (by first | exact Nat.le_of_ble_eq_true rfl | omega) (by first | exact Nat.le_of_ble_eq_true rfl | omega) ?_
  exact ⟨rfl, rfl⟩
