set_option maxHeartbeats 4000000 in
set_option maxRecDepth 100000 in
theorem k_X4_learn (l : Launch) (A : Nat → Prop) (G : g_C) (w : g_W) (h o : Nat) (ns x y hd stg : Int32) (fr : Nat) (n0 d0 : Int64) (n d : Int) (hs : w h = some (.inr (5, [.int x, .int y, .int hd, .int stg, .ref fr]))) (hf : w fr = some (.inr (1, [.long n0, .long d0]))) (ho : w o = some (.inr (1, [.long (zL n), .long (zL d)]))) (hne : fr ≠ o) (hd0 : 0 < d) (hco : Int.gcd n d = 1) (hbn : n.natAbs < 1125899906842624) (hbd : d.natAbs < 1125899906842624) : mV l yX4_learn wsX4_learn ({ frames := 2, cells := 0, slots := 0, locals := 68 } : Room) [.ref h, .ref o, .int ns] A G w (fun w' => w' = g_up (g_up w fr (.inr (1, [.long (zL n), .long (zL d)]))) h (.inr (5, [.int x, .int y, .int hd, .int ns, .ref fr]))) 0 0 := by
  refine g_ofV (cc := cX4_learn) (maxL := 3) (ret := none) (own := RX4) (by decide) rfl rfl (Nat.le_of_ble_eq_true rfl) ?_
  intro p e R s m args below meth c Q ls hR F hP hS hlocks hr hnm0 hQ hl
  obtain ⟨⟨hx, hb, hml, hown, hts⟩, hK, hZ, hA⟩ := id F
  generalize hH0 : s.heap = H at hP ⊢
  have hS : va_S A s.heap H [] := by rw [← hH0]; exact va_S.rf
  generalize ([] : List Loc) = locs at hS ⊢
  have hl : lv_has ls 3 [(0, .ref h), (1, .ref o), (2, .int ns)] := hl
  have iX0 : ∀ w ∈ u_ws RX0 TX0 2, w ∈ wsX4_learn := fun w h => List.mem_cons_of_mem _ (List.mem_append_right _ (h))
  have iX4 : ∀ w ∈ u_ws RX4 TX4 5, w ∈ wsX4_learn := fun w h => List.mem_cons_of_mem _ (List.mem_append_left _ (List.mem_append_right _ (h)))
  refine lv_aload_n hx hb dX4_learn_0 rfl (lv_at hl 0 rfl) ?_
  refine g_get F hP (C := RX4) (T := TX4) (N := 5) iX4 hs rfl 4 (by decide) (List.mem_cons_of_mem _ (List.mem_append_left _ (List.mem_append_left _ (List.mem_of_getElem? (i := 0) rfl)))) (fun _ h9 => h9) rfl dX4_learn_1 ?_
  refine lv_aload_n hx hb dX4_learn_4 rfl (lv_at hl 1 rfl) ?_
  refine g_get F hP (C := RX0) (T := TX0) (N := 2) iX0 ho rfl 0 (by decide) (List.mem_cons_of_mem _ (List.mem_append_left _ (List.mem_append_left _ (List.mem_of_getElem? (i := 1) rfl)))) (fun _ h9 => h9) rfl dX4_learn_5 ?_
  refine lv_aload_n hx hb dX4_learn_8 rfl (lv_at hl 1 rfl) ?_
  refine g_get F hP (C := RX0) (T := TX0) (N := 2) iX0 ho rfl 1 (by decide) (List.mem_cons_of_mem _ (List.mem_append_left _ (List.mem_append_left _ (List.mem_of_getElem? (i := 2) rfl)))) (fun _ h9 => h9) rfl dX4_learn_9 ?_
  refine g_Vv (As := [.long (zL n), .long (zL d)]) (rest := []) F hP hS (k_X0_become l A G w fr n d n0 d0 hf (by omega) hbn hbd) (cwV 2 hts gX4_learn_X0_become rfl rfl rfl cd_X0_become ⟨by rw [hR]; exact Nat.le_of_ble_eq_true rfl, by rw [hR]; exact Nat.le_of_ble_eq_true rfl⟩) hf rfl rfl rfl hl.1 (Nat.le_of_ble_eq_true rfl) dX4_learn_12 ⟨by rw [hR]; exact Nat.le_of_ble_eq_true rfl, by rw [hR]; exact Nat.le_of_ble_eq_true rfl⟩ rfl (fun w2 H locs h3 hP hS => ?_)
  have f4 : w2 h = some (.inr (5, [.int x, .int y, .int hd, .int stg, .ref fr])) := by rw [h3]; exact g_up_f hs (g_ne hs hf rfl)
  have f5 : w2 o = some (.inr (1, [.long (zL n), .long (zL d)])) := by rw [h3]; exact g_up_f ho (Ne.symm (hne))
  have f6 : w2 fr = some (.inr (1, [.long (zL (fN n d)), .long (zL (fD n d))])) := by rw [h3]; exact g_up_s _ _ _
  refine lv_aload_n hx hb dX4_learn_15 rfl (lv_at hl 0 rfl) ?_
  refine lv_iload_n hx hb dX4_learn_16 rfl (lv_at hl 2 rfl) ?_
  refine g_put F hP hS (C := RX4) (T := TX4) (N := 5) (v := .int ns) (ty := .int) iX4 tyX4 tyX4_ok nmX4 f4 rfl 3 (by decide) (List.mem_cons_of_mem _ (List.mem_append_left _ (List.mem_append_left _ (List.mem_of_getElem? (i := 3) rfl)))) (fun _ h9 => h9) rfl (by decide +kernel) rfl rfl (by show 3 < 5; decide) dX4_learn_17 (fun H locs hP hS => ?_)
  obtain ⟨w7, ew7⟩ : ∃ z, z = g_up w2 h (.inr (5, [.int x, .int y, .int hd, .int ns, .ref fr])) := ⟨_, rfl⟩
  have hP : g_P A G w7 H := by rw [ew7]; exact hP
  have f8 : w7 o = some (.inr (1, [.long (zL n), .long (zL d)])) := by rw [ew7]; exact g_up_f f5 (g_ne f5 f4 rfl)
  have f9 : w7 fr = some (.inr (1, [.long (zL (fN n d)), .long (zL (fD n d))])) := by rw [ew7]; exact g_up_f f6 (g_ne f6 f4 rfl)
  have f10 : w7 h = some (.inr (5, [.int x, .int y, .int hd, .int ns, .ref fr])) := by rw [ew7]; exact g_up_s _ _ _
  rw [hQ]
  refine g_vret F hP hS hlocks hr dX4_learn_20 (by first | exact Nat.le_of_ble_eq_true rfl | omega) (by first | exact Nat.le_of_ble_eq_true rfl | omega) ?_
  simp only [ew7, h3, (f_id hd0 hco).1, (f_id hd0 hco).2]
