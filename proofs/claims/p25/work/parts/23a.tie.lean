theorem cd_X0_become : yX0_become.cls = RX0 ∧ yX0_become.cls ≠ "java/lang/invoke/MethodHandle" ∧ yX0_become.cls ≠ "java/lang/invoke/VarHandle" ∧ (parseMethodDescriptor yX0_become.desc).map (fun d => d.parameters.length) = some 2 := by decide +kernel
set_option maxHeartbeats 4000000 in
set_option maxRecDepth 100000 in
theorem k_X4_begin (l : Launch) (A : Nat → Prop) (G : g_C) (w : g_W) (h : Nat) (isd hd : Bool) (sp x y stg : Int32) (fr : Nat) (n0 d0 : Int64) (hs : w h = some (.inr (5, [.int x, .int y, .int (g_b hd), .int stg, .ref fr]))) (hf : w fr = some (.inr (1, [.long n0, .long d0]))) : mV l yX4_begin wsX4_begin ({ frames := 2, cells := 0, slots := 0, locals := 68 } : Room) [.ref h, .int (g_b isd), .int sp] A G w (fun w' => w' = g_up (g_up w fr (.inr (1, [.long (if isd then sp.toInt64 else 0), .long 1]))) h (.inr (5, [.int x, .int y, .int (g_b hd), .int (if isd || hd then 0 else -1), .ref fr]))) 0 0 := by
  refine g_ofV (cc := cX4_begin) (maxL := 3) (ret := none) (own := RX4) (by decide) rfl rfl (Nat.le_of_ble_eq_true rfl) ?_
  intro p e R s m args below meth c Q ls hR F hP hS hlocks hr hnm0 hQ hl
  obtain ⟨⟨hx, hb, hml, hown, hts⟩, hK, hZ, hA⟩ := id F
  generalize hH0 : s.heap = H at hP ⊢
  have hS : va_S A s.heap H [] := by rw [← hH0]; exact va_S.rf
  generalize ([] : List Loc) = locs at hS ⊢
  have hl : lv_has ls 3 [(0, .ref h), (1, .int (g_b isd)), (2, .int sp)] := hl
  have iX4 : ∀ w ∈ u_ws RX4 TX4 5, w ∈ wsX4_begin := fun w h => List.mem_cons_of_mem _ (List.mem_append_left _ (List.mem_append_right _ (h)))
  refine lv_aload_n hx hb dX4_begin_0 rfl (lv_at hl 0 rfl) ?_
  refine lv_iload_n hx hb dX4_begin_1 rfl (lv_at hl 1 rfl) ?_
  refine lv_if_ne (tgt := 12) hx hb dX4_begin_2 (by decide) (fun c1 => ?_) (fun c1 => ?_)
  · have yc1 : isd = true := g_b1.mp c1
    refine lv_iconst (v := 0) hx hb dX4_begin_12 (by decide) ?_
    refine lv_goto (tgt := 17) hx hb dX4_begin_13 (by decide) ?_
    refine g_put F hP hS (C := RX4) (T := TX4) (N := 5) (v := .int 0) (ty := .int) iX4 tyX4 tyX4_ok nmX4 hs rfl 3 (by decide) (List.mem_cons_of_mem _ (List.mem_append_left _ (List.mem_append_left _ (List.mem_of_getElem? (i := 1) rfl)))) (fun _ h9 => h9) rfl (by decide +kernel) rfl rfl (by show 3 < 5; decide) dX4_begin_17 (fun H locs hP hS => ?_)
    obtain ⟨w2, ew2⟩ : ∃ z, z = g_up w h (.inr (5, [.int x, .int y, .int (g_b hd), .int 0, .ref fr])) := ⟨_, rfl⟩
    have hP : g_P A G w2 H := by rw [ew2]; exact hP
    have f3 : w2 fr = some (.inr (1, [.long n0, .long d0])) := by rw [ew2]; exact g_up_f hf (g_ne hf hs rfl)
    have f4 : w2 h = some (.inr (5, [.int x, .int y, .int (g_b hd), .int 0, .ref fr])) := by rw [ew2]; exact g_up_s _ _ _
    refine lv_aload_n hx hb dX4_begin_20 rfl (lv_at hl 0 rfl) ?_
    refine g_get F hP (C := RX4) (T := TX4) (N := 5) iX4 f4 rfl 4 (by decide) (List.mem_cons_of_mem _ (List.mem_append_left _ (List.mem_append_left _ (List.mem_of_getElem? (i := 2) rfl)))) (fun _ h9 => h9) rfl dX4_begin_21 ?_
    refine lv_iload_n hx hb dX4_begin_24 rfl (lv_at hl 1 rfl) ?_
    refine lv_if_eq (tgt := 33) hx hb dX4_begin_25 (by decide) (fun c5 => ?_) (fun c5 => ?_)
    · have yc5 : isd = false := g_b0.mp c5
      refine lv_lconst (v := 0) hx hb dX4_begin_33 (by decide) ?_
      refine lv_lconst (v := 1) hx hb dX4_begin_34 (by decide) ?_
      have rb := Int32.le_toInt sp; have rc := Int32.toInt_lt sp
      rw [show (.long 1 : Value) = .long (zL 1) from rfl, show (.long 0 : Value) = .long (zL 0) from rfl]
      refine g_Vv (As := [.long (zL 0), .long (zL 1)]) (rest := []) F hP hS (k_X0_become l A G w2 fr 0 1 n0 d0 f3 (by decide) (by omega) (by decide)) (cwV 2 hts gX4_begin_X0_become rfl rfl rfl cd_X0_become ⟨by rw [hR]; exact Nat.le_of_ble_eq_true rfl, by rw [hR]; exact Nat.le_of_ble_eq_true rfl⟩) f3 rfl rfl rfl hl.1 (Nat.le_of_ble_eq_true rfl) dX4_begin_35 ⟨by rw [hR]; exact Nat.le_of_ble_eq_true rfl, by rw [hR]; exact Nat.le_of_ble_eq_true rfl⟩ rfl (fun w7 H locs h8 hP hS => ?_)
      have f9 : w7 h = some (.inr (5, [.int x, .int y, .int (g_b hd), .int 0, .ref fr])) := by rw [h8]; exact g_up_f f4 (g_ne f4 f3 rfl)
      have f10 : w7 fr = some (.inr (1, [.long (zL (fN 0 1)), .long (zL (fD 0 1))])) := by rw [h8]; exact g_up_s _ _ _
      rw [hQ]
      refine g_vret F hP hS hlocks hr dX4_begin_38 (by first | exact Nat.le_of_ble_eq_true rfl | omega) (by first | exact Nat.le_of_ble_eq_true rfl | omega) ?_
      exact absurd (yc1.symm.trans yc5) (by decide)
    · have yc5 : isd = true := g_b1.mp c5
      refine lv_iload_n hx hb dX4_begin_28 rfl (lv_at hl 2 rfl) ?_
      refine lv_i2l hx hb dX4_begin_29 rfl ?_
      refine lv_topl (fun v11 ev11 => ?_)
      obtain rfl : v11 = zL sp.toInt := by
        rw [ev11]
        exact zL_of32 sp
      refine lv_goto (tgt := 34) hx hb dX4_begin_30 (by decide) ?_
      refine lv_lconst (v := 1) hx hb dX4_begin_34 (by decide) ?_
      have rb := Int32.le_toInt sp; have rc := Int32.toInt_lt sp
      rw [show (.long 1 : Value) = .long (zL 1) from rfl]
      refine g_Vv (As := [.long (zL sp.toInt), .long (zL 1)]) (rest := []) F hP hS (k_X0_become l A G w2 fr sp.toInt 1 n0 d0 f3 (by decide) (by omega) (by decide)) (cwV 2 hts gX4_begin_X0_become rfl rfl rfl cd_X0_become ⟨by rw [hR]; exact Nat.le_of_ble_eq_true rfl, by rw [hR]; exact Nat.le_of_ble_eq_true rfl⟩) f3 rfl rfl rfl hl.1 (Nat.le_of_ble_eq_true rfl) dX4_begin_35 ⟨by rw [hR]; exact Nat.le_of_ble_eq_true rfl, by rw [hR]; exact Nat.le_of_ble_eq_true rfl⟩ rfl (fun w13 H locs h14 hP hS => ?_)
      have f15 : w13 h = some (.inr (5, [.int x, .int y, .int (g_b hd), .int 0, .ref fr])) := by rw [h14]; exact g_up_f f4 (g_ne f4 f3 rfl)
      have f16 : w13 fr = some (.inr (1, [.long (zL (fN sp.toInt 1)), .long (zL (fD sp.toInt 1))])) := by rw [h14]; exact g_up_s _ _ _
      rw [hQ]
      refine g_vret F hP hS hlocks hr dX4_begin_38 (by first | exact Nat.le_of_ble_eq_true rfl | omega) (by first | exact Nat.le_of_ble_eq_true rfl | omega) ?_
      have kn := g_ne hs hf rfl
      have kz := zL_of32 sp
      simp only [h14, ew2, g_up_up, (f_one _).1, (f_one _).2]
      rw [g_up_sw _ _ _ kn]
      simp [yc1, kz, zL_0, zL_1]
  · have yc1 : isd = false := g_b0.mp c1
    refine lv_aload_n hx hb dX4_begin_5 rfl (lv_at hl 0 rfl) ?_
    refine g_get F hP (C := RX4) (T := TX4) (N := 5) iX4 hs rfl 2 (by decide) (List.mem_cons_of_mem _ (List.mem_append_left _ (List.mem_append_left _ (List.mem_of_getElem? (i := 0) rfl)))) (fun _ h9 => h9) rfl dX4_begin_6 ?_
    refine lv_if_eq (tgt := 16) hx hb dX4_begin_9 (by decide) (fun c17 => ?_) (fun c17 => ?_)
    · have yc17 : hd = false := g_b0.mp c17
      refine lv_iconst (v := (-1)) hx hb dX4_begin_16 (by decide) ?_
      refine g_put F hP hS (C := RX4) (T := TX4) (N := 5) (v := .int (-1)) (ty := .int) iX4 tyX4 tyX4_ok nmX4 hs rfl 3 (by decide) (List.mem_cons_of_mem _ (List.mem_append_left _ (List.mem_append_left _ (List.mem_of_getElem? (i := 1) rfl)))) (fun _ h9 => h9) rfl (by decide +kernel) rfl rfl (by show 3 < 5; decide) dX4_begin_17 (fun H locs hP hS => ?_)
      obtain ⟨w18, ew18⟩ : ∃ z, z = g_up w h (.inr (5, [.int x, .int y, .int (g_b hd), .int (-1), .ref fr])) := ⟨_, rfl⟩
      have hP : g_P A G w18 H := by rw [ew18]; exact hP
      have f19 : w18 fr = some (.inr (1, [.long n0, .long d0])) := by rw [ew18]; exact g_up_f hf (g_ne hf hs rfl)
      have f20 : w18 h = some (.inr (5, [.int x, .int y, .int (g_b hd), .int (-1), .ref fr])) := by rw [ew18]; exact g_up_s _ _ _
      refine lv_aload_n hx hb dX4_begin_20 rfl (lv_at hl 0 rfl) ?_
      refine g_get F hP (C := RX4) (T := TX4) (N := 5) iX4 f20 rfl 4 (by decide) (List.mem_cons_of_mem _ (List.mem_append_left _ (List.mem_append_left _ (List.mem_of_getElem? (i := 2) rfl)))) (fun _ h9 => h9) rfl dX4_begin_21 ?_
      refine lv_iload_n hx hb dX4_begin_24 rfl (lv_at hl 1 rfl) ?_
      refine lv_if_eq (tgt := 33) hx hb dX4_begin_25 (by decide) (fun c21 => ?_) (fun c21 => ?_)
      · have yc21 : isd = false := g_b0.mp c21
        refine lv_lconst (v := 0) hx hb dX4_begin_33 (by decide) ?_
        refine lv_lconst (v := 1) hx hb dX4_begin_34 (by decide) ?_
        have rb := Int32.le_toInt sp; have rc := Int32.toInt_lt sp
        rw [show (.long 1 : Value) = .long (zL 1) from rfl, show (.long 0 : Value) = .long (zL 0) from rfl]
        refine g_Vv (As := [.long (zL 0), .long (zL 1)]) (rest := []) F hP hS (k_X0_become l A G w18 fr 0 1 n0 d0 f19 (by decide) (by omega) (by decide)) (cwV 2 hts gX4_begin_X0_become rfl rfl rfl cd_X0_become ⟨by rw [hR]; exact Nat.le_of_ble_eq_true rfl, by rw [hR]; exact Nat.le_of_ble_eq_true rfl⟩) f19 rfl rfl rfl hl.1 (Nat.le_of_ble_eq_true rfl) dX4_begin_35 ⟨by rw [hR]; exact Nat.le_of_ble_eq_true rfl, by rw [hR]; exact Nat.le_of_ble_eq_true rfl⟩ rfl (fun w23 H locs h24 hP hS => ?_)
        have f25 : w23 h = some (.inr (5, [.int x, .int y, .int (g_b hd), .int (-1), .ref fr])) := by rw [h24]; exact g_up_f f20 (g_ne f20 f19 rfl)
        have f26 : w23 fr = some (.inr (1, [.long (zL (fN 0 1)), .long (zL (fD 0 1))])) := by rw [h24]; exact g_up_s _ _ _
        rw [hQ]
        refine g_vret F hP hS hlocks hr dX4_begin_38 (by first | exact Nat.le_of_ble_eq_true rfl | omega) (by first | exact Nat.le_of_ble_eq_true rfl | omega) ?_
        have kn := g_ne hs hf rfl
        have kz := zL_of32 sp
        simp only [h24, ew18, g_up_up, (f_one _).1, (f_one _).2]
        rw [g_up_sw _ _ _ kn]
        simp [yc1, yc17, kz, zL_0, zL_1]
      · have yc21 : isd = true := g_b1.mp c21
        refine lv_iload_n hx hb dX4_begin_28 rfl (lv_at hl 2 rfl) ?_
        refine lv_i2l hx hb dX4_begin_29 rfl ?_
        refine lv_topl (fun v27 ev27 => ?_)
        obtain rfl : v27 = zL sp.toInt := by
          rw [ev27]
          exact zL_of32 sp
        refine lv_goto (tgt := 34) hx hb dX4_begin_30 (by decide) ?_
        refine lv_lconst (v := 1) hx hb dX4_begin_34 (by decide) ?_
        have rb := Int32.le_toInt sp; have rc := Int32.toInt_lt sp
        rw [show (.long 1 : Value) = .long (zL 1) from rfl]
        refine g_Vv (As := [.long (zL sp.toInt), .long (zL 1)]) (rest := []) F hP hS (k_X0_become l A G w18 fr sp.toInt 1 n0 d0 f19 (by decide) (by omega) (by decide)) (cwV 2 hts gX4_begin_X0_become rfl rfl rfl cd_X0_become ⟨by rw [hR]; exact Nat.le_of_ble_eq_true rfl, by rw [hR]; exact Nat.le_of_ble_eq_true rfl⟩) f19 rfl rfl rfl hl.1 (Nat.le_of_ble_eq_true rfl) dX4_begin_35 ⟨by rw [hR]; exact Nat.le_of_ble_eq_true rfl, by rw [hR]; exact Nat.le_of_ble_eq_true rfl⟩ rfl (fun w29 H locs h30 hP hS => ?_)
        have f31 : w29 h = some (.inr (5, [.int x, .int y, .int (g_b hd), .int (-1), .ref fr])) := by rw [h30]; exact g_up_f f20 (g_ne f20 f19 rfl)
        have f32 : w29 fr = some (.inr (1, [.long (zL (fN sp.toInt 1)), .long (zL (fD sp.toInt 1))])) := by rw [h30]; exact g_up_s _ _ _
        rw [hQ]
        refine g_vret F hP hS hlocks hr dX4_begin_38 (by first | exact Nat.le_of_ble_eq_true rfl | omega) (by first | exact Nat.le_of_ble_eq_true rfl | omega) ?_
        exact absurd (yc1.symm.trans yc21) (by decide)
    · have yc17 : hd = true := g_b1.mp c17
      refine lv_iconst (v := 0) hx hb dX4_begin_12 (by decide) ?_
      refine lv_goto (tgt := 17) hx hb dX4_begin_13 (by decide) ?_
      refine g_put F hP hS (C := RX4) (T := TX4) (N := 5) (v := .int 0) (ty := .int) iX4 tyX4 tyX4_ok nmX4 hs rfl 3 (by decide) (List.mem_cons_of_mem _ (List.mem_append_left _ (List.mem_append_left _ (List.mem_of_getElem? (i := 1) rfl)))) (fun _ h9 => h9) rfl (by decide +kernel) rfl rfl (by show 3 < 5; decide) dX4_begin_17 (fun H locs hP hS => ?_)
      obtain ⟨w33, ew33⟩ : ∃ z, z = g_up w h (.inr (5, [.int x, .int y, .int (g_b hd), .int 0, .ref fr])) := ⟨_, rfl⟩
      have hP : g_P A G w33 H := by rw [ew33]; exact hP
      have f34 : w33 fr = some (.inr (1, [.long n0, .long d0])) := by rw [ew33]; exact g_up_f hf (g_ne hf hs rfl)
      have f35 : w33 h = some (.inr (5, [.int x, .int y, .int (g_b hd), .int 0, .ref fr])) := by rw [ew33]; exact g_up_s _ _ _
      refine lv_aload_n hx hb dX4_begin_20 rfl (lv_at hl 0 rfl) ?_
      refine g_get F hP (C := RX4) (T := TX4) (N := 5) iX4 f35 rfl 4 (by decide) (List.mem_cons_of_mem _ (List.mem_append_left _ (List.mem_append_left _ (List.mem_of_getElem? (i := 2) rfl)))) (fun _ h9 => h9) rfl dX4_begin_21 ?_
      refine lv_iload_n hx hb dX4_begin_24 rfl (lv_at hl 1 rfl) ?_
      refine lv_if_eq (tgt := 33) hx hb dX4_begin_25 (by decide) (fun c36 => ?_) (fun c36 => ?_)
      · have yc36 : isd = false := g_b0.mp c36
        refine lv_lconst (v := 0) hx hb dX4_begin_33 (by decide) ?_
        refine lv_lconst (v := 1) hx hb dX4_begin_34 (by decide) ?_
        have rb := Int32.le_toInt sp; have rc := Int32.toInt_lt sp
        rw [show (.long 1 : Value) = .long (zL 1) from rfl, show (.long 0 : Value) = .long (zL 0) from rfl]
        refine g_Vv (As := [.long (zL 0), .long (zL 1)]) (rest := []) F hP hS (k_X0_become l A G w33 fr 0 1 n0 d0 f34 (by decide) (by omega) (by decide)) (cwV 2 hts gX4_begin_X0_become rfl rfl rfl cd_X0_become ⟨by rw [hR]; exact Nat.le_of_ble_eq_true rfl, by rw [hR]; exact Nat.le_of_ble_eq_true rfl⟩) f34 rfl rfl rfl hl.1 (Nat.le_of_ble_eq_true rfl) dX4_begin_35 ⟨by rw [hR]; exact Nat.le_of_ble_eq_true rfl, by rw [hR]; exact Nat.le_of_ble_eq_true rfl⟩ rfl (fun w38 H locs h39 hP hS => ?_)
        have f40 : w38 h = some (.inr (5, [.int x, .int y, .int (g_b hd), .int 0, .ref fr])) := by rw [h39]; exact g_up_f f35 (g_ne f35 f34 rfl)
        have f41 : w38 fr = some (.inr (1, [.long (zL (fN 0 1)), .long (zL (fD 0 1))])) := by rw [h39]; exact g_up_s _ _ _
        rw [hQ]
        refine g_vret F hP hS hlocks hr dX4_begin_38 (by first | exact Nat.le_of_ble_eq_true rfl | omega) (by first | exact Nat.le_of_ble_eq_true rfl | omega) ?_
        have kn := g_ne hs hf rfl
        have kz := zL_of32 sp
        simp only [h39, ew33, g_up_up, (f_one _).1, (f_one _).2]
        rw [g_up_sw _ _ _ kn]
        simp [yc1, yc17, kz, zL_0, zL_1]
      · have yc36 : isd = true := g_b1.mp c36
        refine lv_iload_n hx hb dX4_begin_28 rfl (lv_at hl 2 rfl) ?_
        refine lv_i2l hx hb dX4_begin_29 rfl ?_
        refine lv_topl (fun v42 ev42 => ?_)
        obtain rfl : v42 = zL sp.toInt := by
          rw [ev42]
          exact zL_of32 sp
        refine lv_goto (tgt := 34) hx hb dX4_begin_30 (by decide) ?_
        refine lv_lconst (v := 1) hx hb dX4_begin_34 (by decide) ?_
        have rb := Int32.le_toInt sp; have rc := Int32.toInt_lt sp
        rw [show (.long 1 : Value) = .long (zL 1) from rfl]
        refine g_Vv (As := [.long (zL sp.toInt), .long (zL 1)]) (rest := []) F hP hS (k_X0_become l A G w33 fr sp.toInt 1 n0 d0 f34 (by decide) (by omega) (by decide)) (cwV 2 hts gX4_begin_X0_become rfl rfl rfl cd_X0_become ⟨by rw [hR]; exact Nat.le_of_ble_eq_true rfl, by rw [hR]; exact Nat.le_of_ble_eq_true rfl⟩) f34 rfl rfl rfl hl.1 (Nat.le_of_ble_eq_true rfl) dX4_begin_35 ⟨by rw [hR]; exact Nat.le_of_ble_eq_true rfl, by rw [hR]; exact Nat.le_of_ble_eq_true rfl⟩ rfl (fun w44 H locs h45 hP hS => ?_)
        have f46 : w44 h = some (.inr (5, [.int x, .int y, .int (g_b hd), .int 0, .ref fr])) := by rw [h45]; exact g_up_f f35 (g_ne f35 f34 rfl)
        have f47 : w44 fr = some (.inr (1, [.long (zL (fN sp.toInt 1)), .long (zL (fD sp.toInt 1))])) := by rw [h45]; exact g_up_s _ _ _
        rw [hQ]
        refine g_vret F hP hS hlocks hr dX4_begin_38 (by first | exact Nat.le_of_ble_eq_true rfl | omega) (by first | exact Nat.le_of_ble_eq_true rfl | omega) ?_
        exact absurd (yc1.symm.trans yc36) (by decide)
