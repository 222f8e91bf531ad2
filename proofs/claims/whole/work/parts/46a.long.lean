set_option maxHeartbeats 4000000 in
set_option maxRecDepth 100000 in
theorem k_X6_mixed (l : Launch) (A : Nat → Prop) (G : g_C) (w : g_W) (d x : Int64) : mL l yX6_mixed wsX6_mixed ({ frames := 0, cells := 0, slots := 0, locals := 0 } : Room) [.long d, .long x] A G w (fun r w' => r = mxL d x ∧ w' = w) 0 0 := by
  refine g_ofL (cc := cX6_mixed) (maxL := 4) (ret := (some .long)) (own := RX6) (by decide) rfl rfl (Nat.le_of_ble_eq_true rfl) ?_
  intro p e R s m args below meth c Q ls hR F hP hS hlocks hr hnm0 hQ hl
  obtain ⟨⟨hx, hb, hml, hown, hts⟩, hK, hZ, hA⟩ := id F
  generalize hH0 : s.heap = H at hP ⊢
  have hS : va_S A s.heap H [] := by rw [← hH0]; exact va_S.rf
  generalize ([] : List Loc) = locs at hS ⊢
  have hl : lv_has ls 4 [(0, .long d), (2, .long x)] := hl
  refine lv_lload_n hx hb dX6_mixed_0 rfl (lv_at hl 0 rfl) ?_
  refine lv_ldc2 (v := 31) hx hb hown (hts _ (List.mem_cons_of_mem _ (List.mem_of_getElem? (i := 0) rfl))) dX6_mixed_1 ?_
  refine lv_lmul hx hb dX6_mixed_4 ?_
  refine lv_topl (fun v1 ev1 => ?_)
  refine lv_lload_n hx hb dX6_mixed_5 rfl (lv_at hl 1 rfl) ?_
  refine lv_ladd hx hb dX6_mixed_6 ?_
  refine lv_topl (fun v2 ev2 => ?_)
  rw [hQ]
  refine g_lret F hP hS hlocks hr dX6_mixed_7 (by first | exact Nat.le_of_ble_eq_true rfl | omega) (by first | exact Nat.le_of_ble_eq_true rfl | omega) ?_
  exact ⟨by unfold mxL; simp only [ev1, ev2], rfl⟩
