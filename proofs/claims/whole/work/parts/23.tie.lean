theorem cd_X0_become : yX0_become.cls = RX0 ∧ yX0_become.cls ≠ "java/lang/invoke/MethodHandle" ∧ yX0_become.cls ≠ "java/lang/invoke/VarHandle" ∧ (parseMethodDescriptor yX0_become.desc).map (fun d => d.parameters.length) = some 2 := by decide +kernel
set_option maxHeartbeats 4000000 in
set_option maxRecDepth 100000 in
theorem k_X4_begin (l : Launch) (A : Nat → Prop) (G : g_C) (w : g_W) (h : Nat) (isd hd : Bool) (sp x y stg : Int32) (fr : Nat) (n0 d0 : Int64) (hs : w h = some (.inr (5, [.int x, .int y, .int (g_b hd), .int stg, .ref fr]))) (hf : w fr = some (.inr (1, [.long n0, .long d0]))) : mV l yX4_begin wsX4_begin ({ frames := 2, cells := 0, slots := 0, locals := 68 } : Room) [.ref h, .int (g_b isd), .int sp] A G w (fun w' => w' = g_up (g_up w fr (.inr (1, [.long (if isd then sp.toInt64 else 0), .long 1]))) h (.inr (5, [.int x, .int y, .int (g_b hd), .int (if isd || hd then 0 else -1), .ref fr]))) 0 0 := by
  refine g_ofV (cc := cX4_begin) (maxL := 3) (ret := none) (own := RX4) (by decide) rfl rfl (by decide) ?_
  intro p e R s m args below meth c Q ls hR F hP hS hlocks hr hnm0 hQ hl
  obtain ⟨⟨hx, hb, hml, hown, hts⟩, hK, hZ, hA⟩ := id F
  generalize hH0 : s.heap = H at hP ⊢
  have hS : va_S A s.heap H [] := by rw [← hH0]; exact va_S.rf
  generalize ([] : List Loc) = locs at hS ⊢
  have hl : lv_has ls 3 [(0, .ref h), (1, .int (g_b isd)), (2, .int sp)] := hl
  have iX4 : ∀ w ∈ u_ws RX4 TX4 5, w ∈ wsX4_begin := fun w h => List.mem_cons_of_mem _ (List.mem_append_left _ (List.mem_append_right _ (h)))
  refine lv_aload_n hx hb dX4_begin_0 rfl (lv_at hl 0 rfl) ?_
  refine lv_iload_n hx hb dX4_begin_1 rfl (lv_at hl 1 rfl) ?_
  refine lv_if_ne (tgt := 12) hx hb dX4_begin_2 (by decide) (fun c1 => ?_) (fun c1 => ?_)
  · have yc1 : isd = true := g_b1.mp c1
    refine lv_iconst (v := 0) hx hb dX4_begin_12 (by decide) ?_
    refine lv_goto (tgt := 17) hx hb dX4_begin_13 (by decide) ?_
    refine g_put F hP hS (C := RX4) (T := TX4) (N := 5) (v := .int 0) iX4 tyX4 tyX4_ok nmX4 hs rfl 3 (by decide) (List.mem_cons_of_mem _ (List.mem_append_left _ (List.mem_append_left _ (List.mem_of_getElem? (i := 1) rfl)))) (fun _ h9 => h9) rfl (by decide +kernel) rfl rfl (by show 3 < 5; decide) dX4_begin_17 (fun H locs hP hS => ?_)
    obtain ⟨w2, ew2⟩ : ∃ z, z = g_up w h (.inr (5, [.int x, .int y, .int (g_b hd), .int 0, .ref fr])) := ⟨_, rfl⟩
    have hP : g_P A G w2 H := by rw [ew2]; exact hP
    have f3 : w2 fr = some (.inr (1, [.long n0, .long d0])) := by rw [ew2]; exact g_up_f hf (g_ne hf hs rfl)
    have f4 : w2 h = some (.inr (5, [.int x, .int y, .int (g_b hd), .int 0, .ref fr])) := by rw [ew2]; exact g_up_s _ _ _
    refine lv_aload_n hx hb dX4_begin_20 rfl (lv_at hl 0 rfl) ?_
    refine g_get F hP (C := RX4) (T := TX4) (N := 5) iX4 f4 rfl 4 (by decide) (List.mem_cons_of_mem _ (List.mem_append_left _ (List.mem_append_left _ (List.mem_of_getElem? (i := 2) rfl)))) (fun _ h9 => h9) rfl dX4_begin_21 ?_
    refine lv_iload_n hx hb dX4_begin_24 rfl (lv_at hl 1 rfl) ?_
    refine lv_if_eq (tgt := 33) hx hb dX4_begin_25 (by decide) (fun c5 => ?_) (fun c5 => ?_)
    · have yc5 : isd = false := g_b0.mp c5
      refine lv_lconst (v := 0) hx hb dX4_begin_33 (by decide) ?_
      refine lv_lconst (v := 1) hx hb dX4_begin_34 (by decide) ?_
      have rb := Int32.le_toInt sp; have rc := Int32.toInt_lt sp
      rw [show (.long 1 : Value) = .long (zL 1) from rfl, show (.long 0 : Value) = .long (zL 0) from rfl]
      refine g_Vv (As := [.long (zL 0), .long (zL 1)]) (rest := []) F hP hS (k_X0_become l A G w2 fr 0 1 n0 d0 f3 (by decide) (by omega) (by decide)) (cwV 2 hts gX4_begin_X0_become rfl rfl rfl cd_X0_become ⟨by rw [hR]; decide, by rw [hR]; decide⟩) f3 rfl rfl rfl hl.1 (by decide) dX4_begin_35 ⟨by rw [hR]; decide, by rw [hR]; decide⟩ rfl (fun w7 H locs h8 hP hS => ?_)
      have f9 : w7 h = some (.inr (5, [.int x, .int y, .int (g_b hd), .int 0, .ref fr])) := by rw [h8]; exact g_up_f f4 (g_ne f4 f3 rfl)
      have f10 : w7 fr = some (.inr (1, [.long (zL (fN 0 1)), .long (zL (fD 0 1))])) := by rw [h8]; exact g_up_s _ _ _
      rw [hQ]
      refine g_vret F hP hS hlocks hr dX4_begin_38 (by decide) (by decide) ?_
      simp only [ew2, h8, g_up_up, (f_one _).1, (f_one _).2]
      have kz := zL_of32 sp
      funext z
      simp only [g_up]
      have kn := g_ne hs hf rfl
      by_cases z3 : z = h <;> by_cases z4 : z = fr <;> simp_all [zL_0, zL_1]
    · have yc5 : isd = true := g_b1.mp c5
      refine lv_iload_n hx hb dX4_begin_28 rfl (lv_at hl 2 rfl) ?_
      refine lv_i2l hx hb dX4_begin_29 rfl ?_
      refine lv_topl (fun v11 ev11 => ?_)
      obtain rfl : v11 = zL sp.toInt := by rw [ev11]; exact zL_of32 sp
      refine lv_goto (tgt := 34) hx hb dX4_begin_30 (by decide) ?_
      refine lv_lconst (v := 1) hx hb dX4_begin_34 (by decide) ?_
      have rb := Int32.le_toInt sp; have rc := Int32.toInt_lt sp
      rw [show (.long 1 : Value) = .long (zL 1) from rfl]
      refine g_Vv (As := [.long (zL sp.toInt), .long (zL 1)]) (rest := []) F hP hS (k_X0_become l A G w2 fr sp.toInt 1 n0 d0 f3 (by decide) (by omega) (by decide)) (cwV 2 hts gX4_begin_X0_become rfl rfl rfl cd_X0_become ⟨by rw [hR]; decide, by rw [hR]; decide⟩) f3 rfl rfl rfl hl.1 (by decide) dX4_begin_35 ⟨by rw [hR]; decide, by rw [hR]; decide⟩ rfl (fun w13 H locs h14 hP hS => ?_)
      have f15 : w13 h = some (.inr (5, [.int x, .int y, .int (g_b hd), .int 0, .ref fr])) := by rw [h14]; exact g_up_f f4 (g_ne f4 f3 rfl)
      have f16 : w13 fr = some (.inr (1, [.long (zL (fN sp.toInt 1)), .long (zL (fD sp.toInt 1))])) := by rw [h14]; exact g_up_s _ _ _
      rw [hQ]
      refine g_vret F hP hS hlocks hr dX4_begin_38 (by decide) (by decide) ?_
      simp only [ew2, h14, g_up_up, (f_one _).1, (f_one _).2]
      have kz := zL_of32 sp
      funext z
      simp only [g_up]
      have kn := g_ne hs hf rfl
      by_cases z3 : z = h <;> by_cases z4 : z = fr <;> simp_all [zL_0, zL_1]
  · have yc1 : isd = false := g_b0.mp (by simpa using c1)
    refine lv_aload_n hx hb dX4_begin_5 rfl (lv_at hl 0 rfl) ?_
    refine g_get F hP (C := RX4) (T := TX4) (N := 5) iX4 hs rfl 2 (by decide) (List.mem_cons_of_mem _ (List.mem_append_left _ (List.mem_append_left _ (List.mem_of_getElem? (i := 0) rfl)))) (fun _ h9 => h9) rfl dX4_begin_6 ?_
    refine lv_if_eq (tgt := 16) hx hb dX4_begin_9 (by decide) (fun c17 => ?_) (fun c17 => ?_)
    · have yc17 : hd = false := g_b0.mp c17
      refine lv_iconst (v := (-1)) hx hb dX4_begin_16 (by decide) ?_
      refine g_put F hP hS (C := RX4) (T := TX4) (N := 5) (v := .int (-1)) iX4 tyX4 tyX4_ok nmX4 hs rfl 3 (by decide) (List.mem_cons_of_mem _ (List.mem_append_left _ (List.mem_append_left _ (List.mem_of_getElem? (i := 1) rfl)))) (fun _ h9 => h9) rfl (by decide +kernel) rfl rfl (by show 3 < 5; decide) dX4_begin_17 (fun H locs hP hS => ?_)
      obtain ⟨w18, ew18⟩ : ∃ z, z = g_up w h (.inr (5, [.int x, .int y, .int (g_b hd), .int (-1), .ref fr])) := ⟨_, rfl⟩
      have hP : g_P A G w18 H := by rw [ew18]; exact hP
      have f19 : w18 fr = some (.inr (1, [.long n0, .long d0])) := by rw [ew18]; exact g_up_f hf (g_ne hf hs rfl)
      have f20 : w18 h = some (.inr (5, [.int x, .int y, .int (g_b hd), .int (-1), .ref fr])) := by rw [ew18]; exact g_up_s _ _ _
      refine lv_aload_n hx hb dX4_begin_20 rfl (lv_at hl 0 rfl) ?_
      refine g_get F hP (C := RX4) (T := TX4) (N := 5) iX4 f20 rfl 4 (by decide) (List.mem_cons_of_mem _ (List.mem_append_left _ (List.mem_append_left _ (List.mem_of_getElem? (i := 2) rfl)))) (fun _ h9 => h9) rfl dX4_begin_21 ?_
      refine lv_iload_n hx hb dX4_begin_24 rfl (lv_at hl 1 rfl) ?_
      refine lv_if_eq (tgt := 33) hx hb dX4_begin_25 (by decide) (fun c21 => ?_) (fun c21 => ?_)
      · have yc21 : isd = false := g_b0.mp c21
        refine lv_lconst (v := 0) hx hb dX4_begin_33 (by decide) ?_
        refine lv_lconst (v := 1) hx hb dX4_begin_34 (by decide) ?_
        have rb := Int32.le_toInt sp; have rc := Int32.toInt_lt sp
        rw [show (.long 1 : Value) = .long (zL 1) from rfl, show (.long 0 : Value) = .long (zL 0) from rfl]
        refine g_Vv (As := [.long (zL 0), .long (zL 1)]) (rest := []) F hP hS (k_X0_become l A G w18 fr 0 1 n0 d0 f19 (by decide) (by omega) (by decide)) (cwV 2 hts gX4_begin_X0_become rfl rfl rfl cd_X0_become ⟨by rw [hR]; decide, by rw [hR]; decide⟩) f19 rfl rfl rfl hl.1 (by decide) dX4_begin_35 ⟨by rw [hR]; decide, by rw [hR]; decide⟩ rfl (fun w23 H locs h24 hP hS => ?_)
        have f25 : w23 h = some (.inr (5, [.int x, .int y, .int (g_b hd), .int (-1), .ref fr])) := by rw [h24]; exact g_up_f f20 (g_ne f20 f19 rfl)
        have f26 : w23 fr = some (.inr (1, [.long (zL (fN 0 1)), .long (zL (fD 0 1))])) := by rw [h24]; exact g_up_s _ _ _
        rw [hQ]
        refine g_vret F hP hS hlocks hr dX4_begin_38 (by decide) (by decide) ?_
        simp only [ew18, ew2, h24, g_up_up, (f_one _).1, (f_one _).2]
        have kz := zL_of32 sp
        funext z
        simp only [g_up]
        have kn := g_ne hs hf rfl
        by_cases z3 : z = h <;> by_cases z4 : z = fr <;> simp_all [zL_0, zL_1]
      · have yc21 : isd = true := g_b1.mp c21
        refine lv_iload_n hx hb dX4_begin_28 rfl (lv_at hl 2 rfl) ?_
        refine lv_i2l hx hb dX4_begin_29 rfl ?_
        refine lv_topl (fun v27 ev27 => ?_)
        obtain rfl : v27 = zL sp.toInt := by rw [ev27]; exact zL_of32 sp
        refine lv_goto (tgt := 34) hx hb dX4_begin_30 (by decide) ?_
        refine lv_lconst (v := 1) hx hb dX4_begin_34 (by decide) ?_
        have rb := Int32.le_toInt sp; have rc := Int32.toInt_lt sp
        rw [show (.long 1 : Value) = .long (zL 1) from rfl]
        refine g_Vv (As := [.long (zL sp.toInt), .long (zL 1)]) (rest := []) F hP hS (k_X0_become l A G w18 fr sp.toInt 1 n0 d0 f19 (by decide) (by omega) (by decide)) (cwV 2 hts gX4_begin_X0_become rfl rfl rfl cd_X0_become ⟨by rw [hR]; decide, by rw [hR]; decide⟩) f19 rfl rfl rfl hl.1 (by decide) dX4_begin_35 ⟨by rw [hR]; decide, by rw [hR]; decide⟩ rfl (fun w29 H locs h30 hP hS => ?_)
        have f31 : w29 h = some (.inr (5, [.int x, .int y, .int (g_b hd), .int (-1), .ref fr])) := by rw [h30]; exact g_up_f f20 (g_ne f20 f19 rfl)
        have f32 : w29 fr = some (.inr (1, [.long (zL (fN sp.toInt 1)), .long (zL (fD sp.toInt 1))])) := by rw [h30]; exact g_up_s _ _ _
        rw [hQ]
        refine g_vret F hP hS hlocks hr dX4_begin_38 (by decide) (by decide) ?_
        simp only [ew18, ew2, h30, g_up_up, (f_one _).1, (f_one _).2]
        have kz := zL_of32 sp
        funext z
        simp only [g_up]
        have kn := g_ne hs hf rfl
        by_cases z3 : z = h <;> by_cases z4 : z = fr <;> simp_all [zL_0, zL_1]
    · have yc17 : hd = true := g_b1.mp c17
      refine lv_iconst (v := 0) hx hb dX4_begin_12 (by decide) ?_
      refine lv_goto (tgt := 17) hx hb dX4_begin_13 (by decide) ?_
      refine g_put F hP hS (C := RX4) (T := TX4) (N := 5) (v := .int 0) iX4 tyX4 tyX4_ok nmX4 hs rfl 3 (by decide) (List.mem_cons_of_mem _ (List.mem_append_left _ (List.mem_append_left _ (List.mem_of_getElem? (i := 1) rfl)))) (fun _ h9 => h9) rfl (by decide +kernel) rfl rfl (by show 3 < 5; decide) dX4_begin_17 (fun H locs hP hS => ?_)
      obtain ⟨w33, ew33⟩ : ∃ z, z = g_up w h (.inr (5, [.int x, .int y, .int (g_b hd), .int 0, .ref fr])) := ⟨_, rfl⟩
      have hP : g_P A G w33 H := by rw [ew33]; exact hP
      have f34 : w33 fr = some (.inr (1, [.long n0, .long d0])) := by rw [ew33]; exact g_up_f hf (g_ne hf hs rfl)
      have f35 : w33 h = some (.inr (5, [.int x, .int y, .int (g_b hd), .int 0, .ref fr])) := by rw [ew33]; exact g_up_s _ _ _
      refine lv_aload_n hx hb dX4_begin_20 rfl (lv_at hl 0 rfl) ?_
      refine g_get F hP (C := RX4) (T := TX4) (N := 5) iX4 f35 rfl 4 (by decide) (List.mem_cons_of_mem _ (List.mem_append_left _ (List.mem_append_left _ (List.mem_of_getElem? (i := 2) rfl)))) (fun _ h9 => h9) rfl dX4_begin_21 ?_
      refine lv_iload_n hx hb dX4_begin_24 rfl (lv_at hl 1 rfl) ?_
      refine lv_if_eq (tgt := 33) hx hb dX4_begin_25 (by decide) (fun c36 => ?_) (fun c36 => ?_)
      · have yc36 : isd = false := g_b0.mp c36
        refine lv_lconst (v := 0) hx hb dX4_begin_33 (by decide) ?_
        refine lv_lconst (v := 1) hx hb dX4_begin_34 (by decide) ?_
        have rb := Int32.le_toInt sp; have rc := Int32.toInt_lt sp
        rw [show (.long 1 : Value) = .long (zL 1) from rfl, show (.long 0 : Value) = .long (zL 0) from rfl]
        refine g_Vv (As := [.long (zL 0), .long (zL 1)]) (rest := []) F hP hS (k_X0_become l A G w33 fr 0 1 n0 d0 f34 (by decide) (by omega) (by decide)) (cwV 2 hts gX4_begin_X0_become rfl rfl rfl cd_X0_become ⟨by rw [hR]; decide, by rw [hR]; decide⟩) f34 rfl rfl rfl hl.1 (by decide) dX4_begin_35 ⟨by rw [hR]; decide, by rw [hR]; decide⟩ rfl (fun w38 H locs h39 hP hS => ?_)
        have f40 : w38 h = some (.inr (5, [.int x, .int y, .int (g_b hd), .int 0, .ref fr])) := by rw [h39]; exact g_up_f f35 (g_ne f35 f34 rfl)
        have f41 : w38 fr = some (.inr (1, [.long (zL (fN 0 1)), .long (zL (fD 0 1))])) := by rw [h39]; exact g_up_s _ _ _
        rw [hQ]
        refine g_vret F hP hS hlocks hr dX4_begin_38 (by decide) (by decide) ?_
        simp only [ew33, ew18, ew2, h39, g_up_up, (f_one _).1, (f_one _).2]
        have kz := zL_of32 sp
        funext z
        simp only [g_up]
        have kn := g_ne hs hf rfl
        by_cases z3 : z = h <;> by_cases z4 : z = fr <;> simp_all [zL_0, zL_1]
      · have yc36 : isd = true := g_b1.mp c36
        refine lv_iload_n hx hb dX4_begin_28 rfl (lv_at hl 2 rfl) ?_
        refine lv_i2l hx hb dX4_begin_29 rfl ?_
        refine lv_topl (fun v42 ev42 => ?_)
        obtain rfl : v42 = zL sp.toInt := by rw [ev42]; exact zL_of32 sp
        refine lv_goto (tgt := 34) hx hb dX4_begin_30 (by decide) ?_
        refine lv_lconst (v := 1) hx hb dX4_begin_34 (by decide) ?_
        have rb := Int32.le_toInt sp; have rc := Int32.toInt_lt sp
        rw [show (.long 1 : Value) = .long (zL 1) from rfl]
        refine g_Vv (As := [.long (zL sp.toInt), .long (zL 1)]) (rest := []) F hP hS (k_X0_become l A G w33 fr sp.toInt 1 n0 d0 f34 (by decide) (by omega) (by decide)) (cwV 2 hts gX4_begin_X0_become rfl rfl rfl cd_X0_become ⟨by rw [hR]; decide, by rw [hR]; decide⟩) f34 rfl rfl rfl hl.1 (by decide) dX4_begin_35 ⟨by rw [hR]; decide, by rw [hR]; decide⟩ rfl (fun w44 H locs h45 hP hS => ?_)
        have f46 : w44 h = some (.inr (5, [.int x, .int y, .int (g_b hd), .int 0, .ref fr])) := by rw [h45]; exact g_up_f f35 (g_ne f35 f34 rfl)
        have f47 : w44 fr = some (.inr (1, [.long (zL (fN sp.toInt 1)), .long (zL (fD sp.toInt 1))])) := by rw [h45]; exact g_up_s _ _ _
        rw [hQ]
        refine g_vret F hP hS hlocks hr dX4_begin_38 (by decide) (by decide) ?_
        simp only [ew33, ew18, ew2, h45, g_up_up, (f_one _).1, (f_one _).2]
        have kz := zL_of32 sp
        funext z
        simp only [g_up]
        have kn := g_ne hs hf rfl
        by_cases z3 : z = h <;> by_cases z4 : z = fr <;> simp_all [zL_0, zL_1]

set_option maxHeartbeats 4000000 in
set_option maxRecDepth 100000 in
theorem k_X4_learn (l : Launch) (A : Nat → Prop) (G : g_C) (w : g_W) (h o : Nat) (ns x y hd stg : Int32) (fr : Nat) (n0 d0 : Int64) (n d : Int) (hs : w h = some (.inr (5, [.int x, .int y, .int hd, .int stg, .ref fr]))) (hf : w fr = some (.inr (1, [.long n0, .long d0]))) (ho : w o = some (.inr (1, [.long (zL n), .long (zL d)]))) (hne : fr ≠ o) (hd0 : 0 < d) (hco : Int.gcd n d = 1) (hbn : n.natAbs < 1125899906842624) (hbd : d.natAbs < 1125899906842624) : mV l yX4_learn wsX4_learn ({ frames := 2, cells := 0, slots := 0, locals := 68 } : Room) [.ref h, .ref o, .int ns] A G w (fun w' => w' = g_up (g_up w fr (.inr (1, [.long (zL n), .long (zL d)]))) h (.inr (5, [.int x, .int y, .int hd, .int ns, .ref fr]))) 0 0 := by
  refine g_ofV (cc := cX4_learn) (maxL := 3) (ret := none) (own := RX4) (by decide) rfl rfl (by decide) ?_
  intro p e R s m args below meth c Q ls hR F hP hS hlocks hr hnm0 hQ hl
  obtain ⟨⟨hx, hb, hml, hown, hts⟩, hK, hZ, hA⟩ := id F
  generalize hH0 : s.heap = H at hP ⊢
  have hS : va_S A s.heap H [] := by rw [← hH0]; exact va_S.rf
  generalize ([] : List Loc) = locs at hS ⊢
  have hl : lv_has ls 3 [(0, .ref h), (1, .ref o), (2, .int ns)] := hl
  have iX0 : ∀ w ∈ u_ws RX0 TX0 2, w ∈ wsX4_learn := fun w h => List.mem_cons_of_mem _ (List.mem_append_right _ (h))
  have iX4 : ∀ w ∈ u_ws RX4 TX4 5, w ∈ wsX4_learn := fun w h => List.mem_cons_of_mem _ (List.mem_append_left _ (List.mem_append_right _ (h)))
  refine lv_aload_n hx hb dX4_learn_0 rfl (lv_at hl 0 rfl) ?_
  refine g_get F hP (C := RX4) (T := TX4) (N := 5) iX4 hs rfl 4 (by decide) (List.mem_cons_of_mem _ (List.mem_append_left _ (List.mem_append_left _ (List.mem_of_getElem? (i := 0) rfl)))) (fun _ h9 => h9) rfl dX4_learn_1 ?_
  refine lv_aload_n hx hb dX4_learn_4 rfl (lv_at hl 1 rfl) ?_
  refine g_get F hP (C := RX0) (T := TX0) (N := 2) iX0 ho rfl 0 (by decide) (List.mem_cons_of_mem _ (List.mem_append_left _ (List.mem_append_left _ (List.mem_of_getElem? (i := 1) rfl)))) (fun _ h9 => h9) rfl dX4_learn_5 ?_
  refine lv_aload_n hx hb dX4_learn_8 rfl (lv_at hl 1 rfl) ?_
  refine g_get F hP (C := RX0) (T := TX0) (N := 2) iX0 ho rfl 1 (by decide) (List.mem_cons_of_mem _ (List.mem_append_left _ (List.mem_append_left _ (List.mem_of_getElem? (i := 2) rfl)))) (fun _ h9 => h9) rfl dX4_learn_9 ?_
  refine g_Vv (As := [.long (zL n), .long (zL d)]) (rest := []) F hP hS (k_X0_become l A G w fr n d n0 d0 hf (by omega) hbn hbd) (cwV 2 hts gX4_learn_X0_become rfl rfl rfl cd_X0_become ⟨by rw [hR]; decide, by rw [hR]; decide⟩) hf rfl rfl rfl hl.1 (by decide) dX4_learn_12 ⟨by rw [hR]; decide, by rw [hR]; decide⟩ rfl (fun w2 H locs h3 hP hS => ?_)
  have f4 : w2 h = some (.inr (5, [.int x, .int y, .int hd, .int stg, .ref fr])) := by rw [h3]; exact g_up_f hs (g_ne hs hf rfl)
  have f5 : w2 o = some (.inr (1, [.long (zL n), .long (zL d)])) := by rw [h3]; exact g_up_f ho (Ne.symm (hne))
  have f6 : w2 fr = some (.inr (1, [.long (zL (fN n d)), .long (zL (fD n d))])) := by rw [h3]; exact g_up_s _ _ _
  refine lv_aload_n hx hb dX4_learn_15 rfl (lv_at hl 0 rfl) ?_
  refine lv_iload_n hx hb dX4_learn_16 rfl (lv_at hl 2 rfl) ?_
  refine g_put F hP hS (C := RX4) (T := TX4) (N := 5) (v := .int ns) iX4 tyX4 tyX4_ok nmX4 f4 rfl 3 (by decide) (List.mem_cons_of_mem _ (List.mem_append_left _ (List.mem_append_left _ (List.mem_of_getElem? (i := 3) rfl)))) (fun _ h9 => h9) rfl (by decide +kernel) rfl rfl (by show 3 < 5; decide) dX4_learn_17 (fun H locs hP hS => ?_)
  obtain ⟨w7, ew7⟩ : ∃ z, z = g_up w2 h (.inr (5, [.int x, .int y, .int hd, .int ns, .ref fr])) := ⟨_, rfl⟩
  have hP : g_P A G w7 H := by rw [ew7]; exact hP
  have f8 : w7 o = some (.inr (1, [.long (zL n), .long (zL d)])) := by rw [ew7]; exact g_up_f f5 (g_ne f5 f4 rfl)
  have f9 : w7 fr = some (.inr (1, [.long (zL (fN n d)), .long (zL (fD n d))])) := by rw [ew7]; exact g_up_f f6 (g_ne f6 f4 rfl)
  have f10 : w7 h = some (.inr (5, [.int x, .int y, .int hd, .int ns, .ref fr])) := by rw [ew7]; exact g_up_s _ _ _
  rw [hQ]
  refine g_vret F hP hS hlocks hr dX4_learn_20 (by decide) (by decide) ?_
  simp only [ew7, h3, (f_id hd0 hco).1, (f_id hd0 hco).2]

set_option maxHeartbeats 4000000 in
set_option maxRecDepth 100000 in
theorem k_X5_init (l : Launch) (A : Nat → Prop) (G : g_C) (w : g_W) (t ars arw : Nat) (ht : w t = some (.inr (6, [.null, .null, .null, .int 0]))) : mV l yX5_init wsX5_init ({ frames := 2, cells := 1, slots := 2, locals := 60 } : Room) [.ref t, .ref ars, .ref arw] A G w (fun w' => ∃ q, w q = none ∧ w' = g_up (g_up w q (.inr (1, [.long 0, .long 1]))) t (.inr (6, [.ref ars, .ref arw, .ref q, .int 0]))) 1 2 := by
  refine g_ofV (cc := cX5_init) (maxL := 3) (ret := none) (own := RX5) (by decide) rfl rfl (by decide) ?_
  intro p e R s m args below meth c Q ls hR F hP hS hlocks hr hnm0 hQ hl
  obtain ⟨⟨hx, hb, hml, hown, hts⟩, hK, hZ, hA⟩ := id F
  generalize hH0 : s.heap = H at hP ⊢
  have hS : va_S A s.heap H [] := by rw [← hH0]; exact va_S.rf
  generalize ([] : List Loc) = locs at hS ⊢
  have hl : lv_has ls 3 [(0, .ref t), (1, .ref ars), (2, .ref arw)] := hl
  have iX0 : ∀ w ∈ u_ws RX0 TX0 2, w ∈ wsX5_init := fun w h => List.mem_cons_of_mem _ (List.mem_append_right _ (h))
  have iX5 : ∀ w ∈ u_ws RX5 TX5 4, w ∈ wsX5_init := fun w h => List.mem_cons_of_mem _ (List.mem_append_left _ (List.mem_append_right _ (h)))
  refine lv_aload_n hx hb dX5_init_0 rfl (lv_at hl 0 rfl) ?_
  refine W.objInit hx hb hown (hts _ (List.mem_cons_of_mem _ (List.mem_append_left _ (List.mem_append_left _ (List.mem_of_getElem? (i := 0) rfl))))) (hts _ (List.mem_cons_of_mem _ (List.mem_append_left _ (List.mem_append_left _ (List.mem_of_getElem? (i := 1) rfl))))) (hts _ (List.mem_cons_of_mem _ (List.mem_append_left _ (List.mem_append_left _ (List.mem_of_getElem? (i := 2) rfl))))) rfl (by rw [hml]; exact hl.1) rfl dX5_init_1 (by rw [hR]; decide) (by rw [hR]; decide) ?_
  refine lv_aload_n hx hb dX5_init_4 rfl (lv_at hl 0 rfl) ?_
  refine lv_aload_n hx hb dX5_init_5 rfl (lv_at hl 1 rfl) ?_
  refine g_putF F hP hS (C := RX5) (T := TX5) (N := 4) (v := .ref ars) iX5 tyX5 tyX5_ok nmX5 ht rfl 0 (by decide) (List.mem_cons_of_mem _ (List.mem_append_left _ (List.mem_append_left _ (List.mem_of_getElem? (i := 3) rfl)))) (fun _ h9 => h9) rfl hnm0 rfl (by decide +kernel) rfl rfl (by show 0 < 4; decide) dX5_init_6 (fun H locs hP hS => ?_)
  obtain ⟨w1, ew1⟩ : ∃ z, z = g_up w t (.inr (6, [.ref ars, .null, .null, .int 0])) := ⟨_, rfl⟩
  have hP : g_P A G w1 H := by rw [ew1]; exact hP
  have f2 : w1 t = some (.inr (6, [.ref ars, .null, .null, .int 0])) := by rw [ew1]; exact g_up_s _ _ _
  refine lv_aload_n hx hb dX5_init_9 rfl (lv_at hl 0 rfl) ?_
  refine lv_aload_n hx hb dX5_init_10 rfl (lv_at hl 2 rfl) ?_
  refine g_putF F hP hS (C := RX5) (T := TX5) (N := 4) (v := .ref arw) iX5 tyX5 tyX5_ok nmX5 f2 rfl 1 (by decide) (List.mem_cons_of_mem _ (List.mem_append_left _ (List.mem_append_left _ (List.mem_of_getElem? (i := 4) rfl)))) (fun _ h9 => h9) rfl hnm0 rfl (by decide +kernel) rfl rfl (by show 1 < 4; decide) dX5_init_11 (fun H locs hP hS => ?_)
  obtain ⟨w3, ew3⟩ : ∃ z, z = g_up w1 t (.inr (6, [.ref ars, .ref arw, .null, .int 0])) := ⟨_, rfl⟩
  have hP : g_P A G w3 H := by rw [ew3]; exact hP
  have f4 : w3 t = some (.inr (6, [.ref ars, .ref arw, .null, .int 0])) := by rw [ew3]; exact g_up_s _ _ _
  refine lv_aload_n hx hb dX5_init_14 rfl (lv_at hl 0 rfl) ?_
  refine g_new F hP hS (C := RX0) (T := TX0) (N := 2) (fs := [.long 0, .long 0]) iX0 tyX0 tyX0_ok (List.mem_cons_of_mem _ (List.mem_append_left _ (List.mem_append_left _ (List.mem_of_getElem? (i := 5) rfl)))) (List.mem_cons_of_mem _ (List.mem_append_left _ (List.mem_append_left _ (List.mem_of_getElem? (i := 6) rfl)))) (List.mem_cons_of_mem _ (List.mem_append_left _ (List.mem_append_left _ (List.mem_of_getElem? (i := 7) rfl)))) rfl (by intro j hj; match j, hj with | 0, _ => rfl | 1, _ => rfl | j + 2, hj => exact absurd hj (by omega)) (by rw [hR]; decide) (by rw [hR]; decide) dX5_init_15 (fun q5 H nq5 hP hS => ?_)
  obtain ⟨w6, ew6⟩ : ∃ z, z = g_up w3 q5 (.inr (1, [.long 0, .long 0])) := ⟨_, rfl⟩
  have hP : g_P A G w6 H := by rw [ew6]; exact hP
  have f7 : w6 t = some (.inr (6, [.ref ars, .ref arw, .null, .int 0])) := by rw [ew6]; exact g_up_f f4 (g_neq f4 nq5)
  have f8 : w6 q5 = some (.inr (1, [.long 0, .long 0])) := by rw [ew6]; exact g_up_s _ _ _
  refine lv_dup hx hb dX5_init_18 rfl ?_
  refine g_Iv (As := []) (rest := [.ref q5, .ref t]) F hP hS (k_X0_init l A G w6 q5 0 0 f8) (cwI 0 hts gX5_init_X0_init rfl rfl rfl (hts _ (List.mem_cons_of_mem _ (List.mem_append_left _ (List.mem_append_left _ (List.mem_of_getElem? (i := 7) rfl))))) (hts _ (List.mem_cons_of_mem _ (List.mem_append_left _ (List.mem_append_left _ (List.mem_of_getElem? (i := 10) rfl))))) (hts _ (List.mem_cons_of_mem _ (List.mem_append_left _ (List.mem_append_left _ (List.mem_of_getElem? (i := 11) rfl))))) rfl cd_X0_init ⟨by rw [hR]; decide, by rw [hR]; decide⟩) rfl hl.1 (by decide) dX5_init_19 ⟨by rw [hR]; decide, by rw [hR]; decide⟩ rfl (fun w10 H locs h11 hP hS => ?_)
  have f12 : w10 t = some (.inr (6, [.ref ars, .ref arw, .null, .int 0])) := by rw [h11]; exact g_up_f f7 (g_ne f7 f8 rfl)
  have f13 : w10 q5 = some (.inr (1, [.long 0, .long 1])) := by rw [h11]; exact g_up_s _ _ _
  refine g_putF F hP hS (C := RX5) (T := TX5) (N := 4) (v := .ref q5) iX5 tyX5 tyX5_ok nmX5 f12 rfl 2 (by decide) (List.mem_cons_of_mem _ (List.mem_append_left _ (List.mem_append_left _ (List.mem_of_getElem? (i := 8) rfl)))) (fun _ h9 => h9) rfl hnm0 rfl (by decide +kernel) rfl rfl (by show 2 < 4; decide) dX5_init_22 (fun H locs hP hS => ?_)
  obtain ⟨w14, ew14⟩ : ∃ z, z = g_up w10 t (.inr (6, [.ref ars, .ref arw, .ref q5, .int 0])) := ⟨_, rfl⟩
  have hP : g_P A G w14 H := by rw [ew14]; exact hP
  have f15 : w14 q5 = some (.inr (1, [.long 0, .long 1])) := by rw [ew14]; exact g_up_f f13 (g_ne f13 f12 rfl)
  have f16 : w14 t = some (.inr (6, [.ref ars, .ref arw, .ref q5, .int 0])) := by rw [ew14]; exact g_up_s _ _ _
  refine lv_aload_n hx hb dX5_init_25 rfl (lv_at hl 0 rfl) ?_
  refine lv_iconst (v := 0) hx hb dX5_init_26 (by decide) ?_
  refine g_put F hP hS (C := RX5) (T := TX5) (N := 4) (v := .int 0) iX5 tyX5 tyX5_ok nmX5 f16 rfl 3 (by decide) (List.mem_cons_of_mem _ (List.mem_append_left _ (List.mem_append_left _ (List.mem_of_getElem? (i := 9) rfl)))) (fun _ h9 => h9) rfl (by decide +kernel) (by first | rfl | exact g_nb _) rfl (by show 3 < 4; decide) dX5_init_27 (fun H locs hP hS => ?_)
  obtain ⟨w17, ew17⟩ : ∃ z, z = g_up w14 t (.inr (6, [.ref ars, .ref arw, .ref q5, .int 0])) := ⟨_, rfl⟩
  have hP : g_P A G w17 H := by rw [ew17]; exact hP
  have f18 : w17 q5 = some (.inr (1, [.long 0, .long 1])) := by rw [ew17]; exact g_up_f f15 (g_ne f15 f16 rfl)
  have f19 : w17 t = some (.inr (6, [.ref ars, .ref arw, .ref q5, .int 0])) := by rw [ew17]; exact g_up_s _ _ _
  rw [hQ]
  refine g_vret F hP hS hlocks hr dX5_init_30 (by decide) (by decide) ?_
  simp only [ew17, ew14, ew6, ew3, ew1, h11, g_up_up] at nq5
  obtain ⟨z1, z2⟩ := g_up_none nq5
  refine ⟨q5, z2, ?_⟩
  simp only [ew17, ew14, ew6, ew3, ew1, h11, g_up_up]
  funext z
  simp only [g_up]
  by_cases z3 : z = t <;> by_cases z4 : z = q5 <;> simp_all

theorem cd_X4_hasSpeed : yX4_hasSpeed.cls = RX4 ∧ yX4_hasSpeed.cls ≠ "java/lang/invoke/MethodHandle" ∧ yX4_hasSpeed.cls ≠ "java/lang/invoke/VarHandle" ∧ (parseMethodDescriptor yX4_hasSpeed.desc).map (fun d => d.parameters.length) = some 0 := by decide +kernel
set_option maxHeartbeats 4000000 in
set_option maxRecDepth 100000 in
theorem k_X5_onlyUnknown (l : Launch) (A : Nat → Prop) (G : g_C) (w : g_W) (t ars arw fr N : Nat) (sa sf : Nat → Nat) (wt : Nat → Int) (X Y HD ST : Nat → Int32) (nu de : Nat → Int) (asd : Int32) (T : tieW G w t ars arw fr N sa sf wt X Y HD ST nu de asd) (hN : N ≤ 3) : mI l yX5_onlyUnknown wsX5_onlyUnknown ({ frames := 1, cells := 0, slots := 0, locals := 20 } : Room) [.ref t] A G w (fun r w' => ((∃ k, r = nI k ∧ onlyU ST N k) ∨ (r = -1 ∧ ∀ k, ¬ onlyU ST N k)) ∧ w' = w) 0 0 := by
  refine g_ofI (cc := cX5_onlyUnknown) (maxL := 3) (ret := (some .int)) (own := RX5) (by decide) rfl rfl (by decide) ?_
  intro p e R s m args below meth c Q ls hR F hP hS hlocks hr hnm0 hQ hl
  obtain ⟨⟨hx, hb, hml, hown, hts⟩, hK, hZ, hA⟩ := id F
  generalize hH0 : s.heap = H at hP ⊢
  have hS : va_S A s.heap H [] := by rw [← hH0]; exact va_S.rf
  generalize ([] : List Loc) = locs at hS ⊢
  have hl : lv_has ls 3 [(0, .ref t)] := hl
  have iX5 : ∀ w ∈ u_ws RX5 TX5 4, w ∈ wsX5_onlyUnknown := fun w h => List.mem_cons_of_mem _ (List.mem_append_left _ (List.mem_append_right _ (h)))
  obtain ⟨ht, ⟨fS, has, hfS⟩, ⟨fW, haw, hfW⟩, ⟨n0, d0, hfr⟩, hsa, hsf⟩ := T
  refine lv_iconst (v := (-1)) hx hb dX5_onlyUnknown_0 (by decide) ?_
  refine lv_istore_n (lv' := [(1, .int (-1)), (0, .ref t)]) hx hb dX5_onlyUnknown_1 rfl hl (by decide) rfl (fun ls hl => ?_)
  refine lv_iconst (v := 0) hx hb dX5_onlyUnknown_2 (by decide) ?_
  refine lv_istore_n (lv' := [(2, .int 0), (1, .int (-1)), (0, .ref t)]) hx hb dX5_onlyUnknown_3 rfl hl (by decide) rfl (fun ls hl => ?_)
  have L4 : ∀ (n : Nat) (k : Nat) (pl : Int32) (H : Heap) (locs : List Loc) (ls : Array Slot), N + 1 ≤ k + n → (k ≤ N) → ((pl = -1 ∧ ∀ j, j < k → ST j ≠ -1) ∨ ∃ j0, j0 < k ∧ pl = nI j0 ∧ ST j0 = -1 ∧ ∀ j, j < k → j ≠ j0 → ST j ≠ -1) → g_P A G w H → va_S A s.heap H locs → lv_has ls 3 [(2, .int (nI k)), (1, .int pl), (0, .ref t)] → W p l e R s m args below meth c H locs (0) (0) Q (F0 m 4 ls []) := by
    intro n
    induction n with
    | zero =>
      intro k pl H locs ls hfu hkN hinv hP hS hl
      exact absurd hfu (by omega)
    | succ n ih_L4 =>
      intro k pl H locs ls hfu hkN hinv hP hS hl
      refine lv_iload_n hx hb dX5_onlyUnknown_4 rfl (lv_at hl 0 rfl) ?_
      refine lv_aload_n hx hb dX5_onlyUnknown_5 rfl (lv_at hl 2 rfl) ?_
      refine g_get F hP (C := RX5) (T := TX5) (N := 4) iX5 ht rfl 0 (by decide) (List.mem_cons_of_mem _ (List.mem_append_left _ (List.mem_append_left _ (List.mem_of_getElem? (i := 0) rfl)))) (fun _ h9 => h9) rfl dX5_onlyUnknown_6 ?_
      refine g_alen F hP 4 rfl has (v := nI N) rfl dX5_onlyUnknown_9 ?_
      refine lv_icmp_ge (tgt := 39) hx hb dX5_onlyUnknown_10 (by decide) (fun c1 => ?_) (fun c1 => ?_)
      · have zc1 : N ≤ k := (nI_leI (by omega) (by omega)).mp c1
        refine lv_iload_n hx hb dX5_onlyUnknown_39 rfl (lv_at hl 1 rfl) ?_
        rw [hQ]
        refine g_iret F hP hS hlocks hr dX5_onlyUnknown_40 (by decide) (by decide) ?_
        obtain rfl : k = N := by omega
        refine ⟨?_, rfl⟩
        rcases hinv with ⟨a1, a2⟩ | ⟨j0, a1, a2, a3, a4⟩
        · exact Or.inr ⟨a1, fun j hj => a2 j hj.1 hj.2.1⟩
        · exact Or.inl ⟨j0, a2, a1, a3, a4⟩
      · have hk : k < N := Nat.not_le.mp (fun q => c1 (nI_le q (by omega)))
        refine lv_aload_n hx hb dX5_onlyUnknown_13 rfl (lv_at hl 2 rfl) ?_
        refine g_get F hP (C := RX5) (T := TX5) (N := 4) iX5 ht rfl 0 (by decide) (List.mem_cons_of_mem _ (List.mem_append_left _ (List.mem_append_left _ (List.mem_of_getElem? (i := 0) rfl)))) (fun _ h9 => h9) rfl dX5_onlyUnknown_14 ?_
        refine lv_iload_n hx hb dX5_onlyUnknown_17 rfl (lv_at hl 0 rfl) ?_
        refine g_aldqS F hP has (vp_in_nI hk (by omega)) dX5_onlyUnknown_18 ?_
        have f2 := hsa k hk
        have f3 := hsf k hk
        rw [show (va_rf (fS (nI k).toNatClampNeg) : Value) = .ref (sa k) from by rw [nI_clamp (by omega), hfS k hk]; rfl]
        refine g_Vi (As := []) (rest := []) F hP hS (k_X4_hasSpeed l A G w (sa k) (X k) (Y k) (HD k) (ST k) (sf k) f2) (cwV 0 hts gX5_onlyUnknown_X4_hasSpeed rfl rfl rfl cd_X4_hasSpeed ⟨by rw [hR]; decide, by rw [hR]; decide⟩) f2 rfl rfl rfl hl.1 (by decide) dX5_onlyUnknown_19 ⟨by rw [hR]; decide, by rw [hR]; decide⟩ rfl (fun r4 w5 H locs h6 hP hS => ?_)
        obtain ⟨hr4, rfl⟩ := h6
        obtain rfl : r4 = g_b (decide (ST k ≠ -1)) := hr4
        refine lv_if_ne (tgt := 33) hx hb dX5_onlyUnknown_22 (by decide) (fun c7 => ?_) (fun c7 => ?_)
        · have yc7 : ST k ≠ -1 := of_decide_eq_true (g_b1.mp c7)
          obtain ⟨i8, ei8⟩ : ∃ y : Int32, y = nI k + (1) := ⟨_, rfl⟩
          refine lv_iinc (v := i8) (lv' := [(2, .int i8), (1, .int pl), (0, .ref t)]) hx hb dX5_onlyUnknown_33 hl (k := 0) rfl (by rw [ei8]; rfl) (by decide) rfl (fun ls hl => ?_)
          obtain rfl : i8 = nI (k + 1) := by rw [ei8]; exact nI_1 k
          refine lv_goto (tgt := 4) hx hb dX5_onlyUnknown_36 (by decide) ?_
          exact ih_L4 (k + 1) pl  H locs ls (by omega) (hk) (by
            rcases hinv with ⟨a1, a2⟩ | ⟨j0, a1, a2, a3, a4⟩
            · exact Or.inl ⟨a1, fun j hj => (Nat.lt_succ_iff_lt_or_eq.mp hj).elim (a2 j) (fun e => e ▸ yc7)⟩
            · exact Or.inr ⟨j0, by omega, a2, a3, fun j hj hn => (Nat.lt_succ_iff_lt_or_eq.mp hj).elim (fun q => a4 j q hn) (fun e => e ▸ yc7)⟩) hP hS (lv_sub hl [0, 1, 2] rfl)
        · have yc7 : ST k = -1 := by have := of_decide_eq_false (g_b0.mp (by simpa using c7)); simpa using this
          refine lv_iload_n hx hb dX5_onlyUnknown_25 rfl (lv_at hl 1 rfl) ?_
          refine lv_if_lt (tgt := 31) hx hb dX5_onlyUnknown_26 (by decide) (fun c9 => ?_) (fun c9 => ?_)
          · refine lv_iload_n hx hb dX5_onlyUnknown_31 rfl (lv_at hl 0 rfl) ?_
            refine lv_istore_n (lv' := [(1, .int (nI k)), (2, .int (nI k)), (0, .ref t)]) hx hb dX5_onlyUnknown_32 rfl hl (by decide) rfl (fun ls hl => ?_)
            obtain ⟨i10, ei10⟩ : ∃ y : Int32, y = nI k + (1) := ⟨_, rfl⟩
            refine lv_iinc (v := i10) (lv' := [(2, .int i10), (1, .int (nI k)), (0, .ref t)]) hx hb dX5_onlyUnknown_33 hl (k := 1) rfl (by rw [ei10]; rfl) (by decide) rfl (fun ls hl => ?_)
            obtain rfl : i10 = nI (k + 1) := by rw [ei10]; exact nI_1 k
            refine lv_goto (tgt := 4) hx hb dX5_onlyUnknown_36 (by decide) ?_
            exact ih_L4 (k + 1) (nI k)  H locs ls (by omega) (hk) (by
              rcases hinv with ⟨a1, a2⟩ | ⟨j0, a1, a2, a3, a4⟩
              · exact Or.inr ⟨k, by omega, rfl, yc7, fun j hj hn => (Nat.lt_succ_iff_lt_or_eq.mp hj).elim (a2 j) (fun e => absurd e hn)⟩
              · exact absurd c9 (by rw [a2]; exact nI_pos (by omega))) hP hS (lv_sub hl [0, 1, 2] rfl)
          · refine lv_iconst (v := (-1)) hx hb dX5_onlyUnknown_29 (by decide) ?_
            rw [hQ]
            refine g_iret F hP hS hlocks hr dX5_onlyUnknown_30 (by decide) (by decide) ?_
            refine ⟨Or.inr ⟨rfl, fun j hj => ?_⟩, rfl⟩
            rcases hinv with ⟨a1, a2⟩ | ⟨j0, a1, a2, a3, a4⟩
            · exact absurd (by rw [a1]; decide) c9
            · rcases Nat.decEq j k with q | q
              · exact hj.2.2 k hk (fun z => q z.symm) yc7
              · exact hj.2.2 j0 (by omega) (by omega) a3
  exact L4 (N + 1) 0 (-1)  H locs ls (by omega) (Nat.zero_le _) (Or.inl ⟨rfl, fun j hj => absurd hj (Nat.not_lt_zero j)⟩) hP hS (lv_sub hl [0, 1, 2] rfl)

set_option maxHeartbeats 4000000 in
set_option maxRecDepth 100000 in
theorem k_X5_greatestStage (l : Launch) (A : Nat → Prop) (G : g_C) (w : g_W) (t ars arw fr N : Nat) (sa sf : Nat → Nat) (wt : Nat → Int) (X Y HD ST : Nat → Int32) (nu de : Nat → Int) (asd : Int32) (T : tieW G w t ars arw fr N sa sf wt X Y HD ST nu de asd) (hN : N ≤ 3) : mI l yX5_greatestStage wsX5_greatestStage ({ frames := 1, cells := 0, slots := 0, locals := 40 } : Room) [.ref t] A G w (fun r w' => r = gS ST N ∧ w' = w) 0 0 := by
  refine g_ofI (cc := cX5_greatestStage) (maxL := 3) (ret := (some .int)) (own := RX5) (by decide) rfl rfl (by decide) ?_
  intro p e R s m args below meth c Q ls hR F hP hS hlocks hr hnm0 hQ hl
  obtain ⟨⟨hx, hb, hml, hown, hts⟩, hK, hZ, hA⟩ := id F
  generalize hH0 : s.heap = H at hP ⊢
  have hS : va_S A s.heap H [] := by rw [← hH0]; exact va_S.rf
  generalize ([] : List Loc) = locs at hS ⊢
  have hl : lv_has ls 3 [(0, .ref t)] := hl
  have iX4 : ∀ w ∈ u_ws RX4 TX4 5, w ∈ wsX5_greatestStage := fun w h => List.mem_cons_of_mem _ (List.mem_append_right _ (h))
  have iX5 : ∀ w ∈ u_ws RX5 TX5 4, w ∈ wsX5_greatestStage := fun w h => List.mem_cons_of_mem _ (List.mem_append_left _ (List.mem_append_right _ (h)))
  obtain ⟨ht, ⟨fS, has, hfS⟩, ⟨fW, haw, hfW⟩, ⟨n0, d0, hfr⟩, hsa, hsf⟩ := T
  refine lv_iconst (v := (-1)) hx hb dX5_greatestStage_0 (by decide) ?_
  refine lv_istore_n (lv' := [(1, .int (-1)), (0, .ref t)]) hx hb dX5_greatestStage_1 rfl hl (by decide) rfl (fun ls hl => ?_)
  refine lv_iconst (v := 0) hx hb dX5_greatestStage_2 (by decide) ?_
  refine lv_istore_n (lv' := [(2, .int 0), (1, .int (-1)), (0, .ref t)]) hx hb dX5_greatestStage_3 rfl hl (by decide) rfl (fun ls hl => ?_)
  have L4 : ∀ (n : Nat) (k : Nat) (H : Heap) (locs : List Loc) (ls : Array Slot), N + 1 ≤ k + n → (k ≤ N) → g_P A G w H → va_S A s.heap H locs → lv_has ls 3 [(2, .int (nI k)), (1, .int (gS ST k)), (0, .ref t)] → W p l e R s m args below meth c H locs (0) (0) Q (F0 m 4 ls []) := by
    intro n
    induction n with
    | zero =>
      intro k H locs ls hfu hkN hP hS hl
      exact absurd hfu (by omega)
    | succ n ih_L4 =>
      intro k H locs ls hfu hkN hP hS hl
      refine lv_iload_n hx hb dX5_greatestStage_4 rfl (lv_at hl 0 rfl) ?_
      refine lv_aload_n hx hb dX5_greatestStage_5 rfl (lv_at hl 2 rfl) ?_
      refine g_get F hP (C := RX5) (T := TX5) (N := 4) iX5 ht rfl 0 (by decide) (List.mem_cons_of_mem _ (List.mem_append_left _ (List.mem_append_left _ (List.mem_of_getElem? (i := 0) rfl)))) (fun _ h9 => h9) rfl dX5_greatestStage_6 ?_
      refine g_alen F hP 4 rfl has (v := nI N) rfl dX5_greatestStage_9 ?_
      refine lv_icmp_ge (tgt := 33) hx hb dX5_greatestStage_10 (by decide) (fun c1 => ?_) (fun c1 => ?_)
      · have zc1 : N ≤ k := (nI_leI (by omega) (by omega)).mp c1
        refine lv_iload_n hx hb dX5_greatestStage_33 rfl (lv_at hl 1 rfl) ?_
        rw [hQ]
        refine g_iret F hP hS hlocks hr dX5_greatestStage_34 (by decide) (by decide) ?_
        obtain rfl : k = N := by omega
        exact ⟨rfl, rfl⟩
      · have hk : k < N := Nat.not_le.mp (fun q => c1 (nI_le q (by omega)))
        refine lv_iload_n hx hb dX5_greatestStage_13 rfl (lv_at hl 1 rfl) ?_
        refine lv_aload_n hx hb dX5_greatestStage_14 rfl (lv_at hl 2 rfl) ?_
        refine g_get F hP (C := RX5) (T := TX5) (N := 4) iX5 ht rfl 0 (by decide) (List.mem_cons_of_mem _ (List.mem_append_left _ (List.mem_append_left _ (List.mem_of_getElem? (i := 0) rfl)))) (fun _ h9 => h9) rfl dX5_greatestStage_15 ?_
        refine lv_iload_n hx hb dX5_greatestStage_18 rfl (lv_at hl 0 rfl) ?_
        refine g_aldqS F hP has (vp_in_nI hk (by omega)) dX5_greatestStage_19 ?_
        have f2 := hsa k hk
        have f3 := hsf k hk
        rw [show (va_rf (fS (nI k).toNatClampNeg) : Value) = .ref (sa k) from by rw [nI_clamp (by omega), hfS k hk]; rfl]
        refine g_get F hP (C := RX4) (T := TX4) (N := 5) iX4 f2 rfl 3 (by decide) (List.mem_cons_of_mem _ (List.mem_append_left _ (List.mem_append_left _ (List.mem_of_getElem? (i := 1) rfl)))) (fun _ h9 => h9) rfl dX5_greatestStage_20 ?_
        refine va_mmax hx hb (by rw [hml]; exact hl.1.symm) hown (hts _ (List.mem_cons_of_mem _ (List.mem_append_left _ (List.mem_append_left _ (List.mem_of_getElem? (i := 2) rfl))))) (hts _ (List.mem_cons_of_mem _ (List.mem_append_left _ (List.mem_append_left _ (List.mem_of_getElem? (i := 3) rfl))))) (hts _ (List.mem_cons_of_mem _ (List.mem_append_left _ (List.mem_append_left _ (List.mem_of_getElem? (i := 4) rfl))))) (hts _ (List.mem_cons_of_mem _ (List.mem_append_left _ (List.mem_append_left _ (List.mem_of_getElem? (i := 5) rfl))))) (by rw [hR]; decide) (by rw [hR]; decide) (by rw [hR]; decide) (by rw [hR]; decide) dX5_greatestStage_23 ?_
        refine lv_topi (fun v4 ev4 => ?_)
        obtain rfl : v4 = gS ST (k + 1) := by rw [ev4]; rfl
        refine lv_istore_n (lv' := [(1, .int (gS ST (k + 1))), (2, .int (nI k)), (0, .ref t)]) hx hb dX5_greatestStage_26 rfl hl (by decide) rfl (fun ls hl => ?_)
        obtain ⟨i5, ei5⟩ : ∃ y : Int32, y = nI k + (1) := ⟨_, rfl⟩
        refine lv_iinc (v := i5) (lv' := [(2, .int i5), (1, .int (gS ST (k + 1))), (0, .ref t)]) hx hb dX5_greatestStage_27 hl (k := 1) rfl (by rw [ei5]; rfl) (by decide) rfl (fun ls hl => ?_)
        obtain rfl : i5 = nI (k + 1) := by rw [ei5]; exact nI_1 k
        refine lv_goto (tgt := 4) hx hb dX5_greatestStage_30 (by decide) ?_
        exact ih_L4 (k + 1)  H locs ls (by omega) (hk) hP hS (lv_sub hl [0, 1, 2] rfl)
  exact L4 (N + 1) 0  H locs ls (by omega) (Nat.zero_le _) hP hS (lv_sub hl [0, 1, 2] rfl)

set_option maxHeartbeats 4000000 in
set_option maxRecDepth 100000 in
theorem k_X5_ask (l : Launch) (A : Nat → Prop) (G : g_C) (w : g_W) (t ars arw fr N : Nat) (sa sf : Nat → Nat) (wt : Nat → Int) (X Y HD ST : Nat → Int32) (nu de : Nat → Int) (asd : Int32) (pl : Nat) (T : tieW G w t ars arw fr N sa sf wt X Y HD ST nu de asd) (hN : N ≤ 3) (hpl : pl < N) (hwt : ∀ k, k < N → (wt k).natAbs ≤ 400) (hB : askB pl nu de wt N) : mV l yX5_ask wsX5_ask ({ frames := 2, cells := 0, slots := 0, locals := 68 } : Room) [.ref t, .int (nI pl)] A G w (fun w' => w' = g_up w fr (.inr (1, [.long (zL (fN (askX pl nu de wt N) (askY pl nu de wt N))), .long (zL (fD (askX pl nu de wt N) (askY pl nu de wt N)))]))) 0 0 := by
  refine g_ofV (cc := cX5_ask) (maxL := 8) (ret := none) (own := RX5) (by decide) rfl rfl (by decide) ?_
  intro p e R s m args below meth c Q ls hR F hP hS hlocks hr hnm0 hQ hl
  obtain ⟨⟨hx, hb, hml, hown, hts⟩, hK, hZ, hA⟩ := id F
  generalize hH0 : s.heap = H at hP ⊢
  have hS : va_S A s.heap H [] := by rw [← hH0]; exact va_S.rf
  generalize ([] : List Loc) = locs at hS ⊢
  have hl : lv_has ls 8 [(0, .ref t), (1, .int (nI pl))] := hl
  have iX0 : ∀ w ∈ u_ws RX0 TX0 2, w ∈ wsX5_ask := fun w h => List.mem_cons_of_mem _ (List.mem_append_right _ (h))
  have iX4 : ∀ w ∈ u_ws RX4 TX4 5, w ∈ wsX5_ask := fun w h => List.mem_cons_of_mem _ (List.mem_append_left _ (List.mem_append_right _ (h)))
  have iX5 : ∀ w ∈ u_ws RX5 TX5 4, w ∈ wsX5_ask := fun w h => List.mem_cons_of_mem _ (List.mem_append_left _ (List.mem_append_left _ (List.mem_append_right _ (h))))
  obtain ⟨ht, ⟨fS, has, hfS⟩, ⟨fW, haw, hfW⟩, ⟨n0, d0, hfr⟩, hsa, hsf⟩ := T
  refine lv_lconst (v := 0) hx hb dX5_ask_0 (by decide) ?_
  refine lv_lstore_n (lv' := [(2, .long 0), (0, .ref t), (1, .int (nI pl))]) hx hb dX5_ask_1 rfl hl (by decide) rfl (fun ls hl => ?_)
  refine lv_lconst (v := 1) hx hb dX5_ask_2 (by decide) ?_
  refine lv_lstore (lv' := [(4, .long 1), (2, .long 0), (0, .ref t), (1, .int (nI pl))]) hx hb dX5_ask_3 hl (by decide) rfl (fun ls hl => ?_)
  refine lv_iconst (v := 0) hx hb dX5_ask_5 (by decide) ?_
  refine lv_istore (lv' := [(6, .int 0), (4, .long 1), (2, .long 0), (0, .ref t), (1, .int (nI pl))]) hx hb dX5_ask_6 hl (by decide) rfl (fun ls hl => ?_)
  have L8 : ∀ (n : Nat) (k : Nat) (H : Heap) (locs : List Loc) (ls : Array Slot), N + 1 ≤ k + n → (k ≤ N) → g_P A G w H → va_S A s.heap H locs → lv_has ls 8 [(6, .int (nI k)), (4, .long (zL (askS pl nu de wt k).2)), (2, .long (zL (askS pl nu de wt k).1)), (0, .ref t), (1, .int (nI pl))] → W p l e R s m args below meth c H locs (0) (0) Q (F0 m 8 ls []) := by
    intro n
    induction n with
    | zero =>
      intro k H locs ls hfu hkN hP hS hl
      exact absurd hfu (by omega)
    | succ n ih_L8 =>
      intro k H locs ls hfu hkN hP hS hl
      refine lv_iload hx hb dX5_ask_8 (lv_at hl 0 rfl) ?_
      refine lv_aload_n hx hb dX5_ask_10 rfl (lv_at hl 3 rfl) ?_
      refine g_get F hP (C := RX5) (T := TX5) (N := 4) iX5 ht rfl 0 (by decide) (List.mem_cons_of_mem _ (List.mem_append_left _ (List.mem_append_left _ (List.mem_append_left _ (List.mem_of_getElem? (i := 0) rfl))))) (fun _ h9 => h9) rfl dX5_ask_11 ?_
      refine g_alen F hP 4 rfl has (v := nI N) rfl dX5_ask_14 ?_
      refine lv_icmp_ge (tgt := 78) hx hb dX5_ask_15 (by decide) (fun c1 => ?_) (fun c1 => ?_)
      · have zc1 : N ≤ k := (nI_leI (by omega) (by omega)).mp c1
        obtain rfl : k = N := by omega
        refine lv_aload_n hx hb dX5_ask_78 rfl (lv_at hl 3 rfl) ?_
        refine g_get F hP (C := RX5) (T := TX5) (N := 4) iX5 ht rfl 2 (by decide) (List.mem_cons_of_mem _ (List.mem_append_left _ (List.mem_append_left _ (List.mem_append_left _ (List.mem_of_getElem? (i := 5) rfl))))) (fun _ h9 => h9) rfl dX5_ask_79 ?_
        refine lv_lload_n hx hb dX5_ask_82 rfl (lv_at hl 2 rfl) ?_
        refine lv_lneg hx hb dX5_ask_83 ?_
        refine lv_topl (fun v2 ev2 => ?_)
        obtain rfl : v2 = zL (askX pl nu de wt k) := by rw [ev2]; exact zL_neg _
        refine lv_aload_n hx hb dX5_ask_84 rfl (lv_at hl 3 rfl) ?_
        refine g_get F hP (C := RX5) (T := TX5) (N := 4) iX5 ht rfl 1 (by decide) (List.mem_cons_of_mem _ (List.mem_append_left _ (List.mem_append_left _ (List.mem_append_left _ (List.mem_of_getElem? (i := 3) rfl))))) (fun _ h9 => h9) rfl dX5_ask_85 ?_
        refine lv_iload_n hx hb dX5_ask_88 rfl (lv_at hl 4 rfl) ?_
        refine g_iald F hP haw (vp_in_nI hpl (by omega)) dX5_ask_89 ?_
        refine lv_topi (fun v3 ev3 => ?_)
        obtain rfl : v3 = Int32.ofInt (wt pl) := by rw [ev3]; rw [nI_clamp (by omega)]; exact hfW pl hpl
        refine lv_i2l hx hb dX5_ask_90 rfl ?_
        refine lv_topl (fun v4 ev4 => ?_)
        obtain rfl : v4 = zL (wt pl) := by rw [ev4]; have := hwt pl hpl; exact iL_64 (by omega) (by omega)
        refine lv_lload hx hb dX5_ask_91 (lv_at hl 1 rfl) ?_
        refine lv_lmul hx hb dX5_ask_93 ?_
        refine lv_topl (fun v5 ev5 => ?_)
        obtain rfl : v5 = zL (askY pl nu de wt k) := by rw [ev5]; exact zL_mul _ _
        refine g_Vv (As := [.long (zL (askX pl nu de wt k)), .long (zL (askY pl nu de wt k))]) (rest := []) F hP hS (k_X0_become l A G w fr (askX pl nu de wt k) (askY pl nu de wt k) n0 d0 hfr hB.1 hB.2.1 hB.2.2) (cwV 2 hts gX5_ask_X0_become rfl rfl rfl cd_X0_become ⟨by rw [hR]; decide, by rw [hR]; decide⟩) hfr rfl rfl rfl hl.1 (by decide) dX5_ask_94 ⟨by rw [hR]; decide, by rw [hR]; decide⟩ rfl (fun w7 H locs h8 hP hS => ?_)
        have f9 : w7 t = some (.inr (6, [.ref ars, .ref arw, .ref fr, .int asd])) := by rw [h8]; exact g_up_f ht (g_ne ht hfr rfl)
        have f10 : w7 ars = some (.inl (G.2.1 4, N, .inr (.inr (.inr (.inr fS))))) := by rw [h8]; exact g_up_f has (g_ne has hfr rfl)
        have f11 : w7 arw = some (.inl (G.2.1 0, N, .inl fW)) := by rw [h8]; exact g_up_f haw (g_ne haw hfr rfl)
        have f12 : w7 fr = some (.inr (1, [.long (zL (fN (askX pl nu de wt k) (askY pl nu de wt k))), .long (zL (fD (askX pl nu de wt k) (askY pl nu de wt k)))])) := by rw [h8]; exact g_up_s _ _ _
        rw [hQ]
        refine g_vret F hP hS hlocks hr dX5_ask_97 (by decide) (by decide) ?_
        exact h8
      · have hk : k < N := Nat.not_le.mp (fun q => c1 (nI_le q (by omega)))
        have hwk := hwt k hk
        refine lv_iload hx hb dX5_ask_18 (lv_at hl 0 rfl) ?_
        refine lv_iload_n hx hb dX5_ask_20 rfl (lv_at hl 4 rfl) ?_
        refine lv_icmp_eq (tgt := 72) hx hb dX5_ask_21 (by decide) (fun c13 => ?_) (fun c13 => ?_)
        · have ec13 : k = pl := (nI_eq (by omega) (by omega)).mp c13
          have hl : lv_has ls 8 [(6, .int (nI k)), (4, .long (zL (askS pl nu de wt (k + 1)).2)), (2, .long (zL (askS pl nu de wt (k + 1)).1)), (0, .ref t), (1, .int (nI pl))] := by rw [askS_eq ec13]; exact hl
          obtain ⟨i14, ei14⟩ : ∃ y : Int32, y = nI k + (1) := ⟨_, rfl⟩
          refine lv_iinc (v := i14) (lv' := [(6, .int i14), (4, .long (zL (askS pl nu de wt (k + 1)).2)), (2, .long (zL (askS pl nu de wt (k + 1)).1)), (0, .ref t), (1, .int (nI pl))]) hx hb dX5_ask_72 hl (k := 0) rfl (by rw [ei14]; rfl) (by decide) rfl (fun ls hl => ?_)
          obtain rfl : i14 = nI (k + 1) := by rw [ei14]; exact nI_1 k
          refine lv_goto (tgt := 8) hx hb dX5_ask_75 (by decide) ?_
          exact ih_L8 (k + 1)  H locs ls (by omega) (hk) hP hS (lv_sub hl [0, 1, 2, 3, 4] rfl)
        · have ec13 : k ≠ pl := fun q => c13 (by rw [q])
          refine lv_aload_n hx hb dX5_ask_24 rfl (lv_at hl 3 rfl) ?_
          refine g_get F hP (C := RX5) (T := TX5) (N := 4) iX5 ht rfl 0 (by decide) (List.mem_cons_of_mem _ (List.mem_append_left _ (List.mem_append_left _ (List.mem_append_left _ (List.mem_of_getElem? (i := 0) rfl))))) (fun _ h9 => h9) rfl dX5_ask_25 ?_
          refine lv_iload hx hb dX5_ask_28 (lv_at hl 0 rfl) ?_
          refine g_aldqS F hP has (vp_in_nI hk (by omega)) dX5_ask_30 ?_
          have f15 := hsa k hk
          have f16 := hsf k hk
          rw [show (va_rf (fS (nI k).toNatClampNeg) : Value) = .ref (sa k) from by rw [nI_clamp (by omega), hfS k hk]; rfl]
          refine g_get F hP (C := RX4) (T := TX4) (N := 5) iX4 f15 rfl 4 (by decide) (List.mem_cons_of_mem _ (List.mem_append_left _ (List.mem_append_left _ (List.mem_append_left _ (List.mem_of_getElem? (i := 1) rfl))))) (fun _ h9 => h9) rfl dX5_ask_31 ?_
          refine lv_astore (lv' := [(7, .ref (sf k)), (6, .int (nI k)), (4, .long (zL (askS pl nu de wt k).2)), (2, .long (zL (askS pl nu de wt k).1)), (0, .ref t), (1, .int (nI pl))]) hx hb dX5_ask_34 hl (by decide) rfl (fun ls hl => ?_)
          refine lv_lload_n hx hb dX5_ask_36 rfl (lv_at hl 3 rfl) ?_
          refine lv_aload hx hb dX5_ask_37 (lv_at hl 0 rfl) ?_
          refine g_get F hP (C := RX0) (T := TX0) (N := 2) iX0 f16 rfl 1 (by decide) (List.mem_cons_of_mem _ (List.mem_append_left _ (List.mem_append_left _ (List.mem_append_left _ (List.mem_of_getElem? (i := 2) rfl))))) (fun _ h9 => h9) rfl dX5_ask_39 ?_
          refine lv_lmul hx hb dX5_ask_42 ?_
          refine lv_topl (fun v17 ev17 => ?_)
          obtain rfl : v17 = zL ((askS pl nu de wt k).1 * de k) := by rw [ev17]; exact zL_mul _ _
          refine lv_aload_n hx hb dX5_ask_43 rfl (lv_at hl 4 rfl) ?_
          refine g_get F hP (C := RX5) (T := TX5) (N := 4) iX5 ht rfl 1 (by decide) (List.mem_cons_of_mem _ (List.mem_append_left _ (List.mem_append_left _ (List.mem_append_left _ (List.mem_of_getElem? (i := 3) rfl))))) (fun _ h9 => h9) rfl dX5_ask_44 ?_
          refine lv_iload hx hb dX5_ask_47 (lv_at hl 1 rfl) ?_
          refine g_iald F hP haw (vp_in_nI hk (by omega)) dX5_ask_49 ?_
          refine lv_topi (fun v18 ev18 => ?_)
          obtain rfl : v18 = Int32.ofInt (wt k) := by rw [ev18]; rw [nI_clamp (by omega)]; exact hfW k hk
          refine lv_i2l hx hb dX5_ask_50 rfl ?_
          refine lv_topl (fun v19 ev19 => ?_)
          obtain rfl : v19 = zL (wt k) := by rw [ev19]; exact iL_64 (by omega) (by omega)
          refine lv_aload hx hb dX5_ask_51 (lv_at hl 0 rfl) ?_
          refine g_get F hP (C := RX0) (T := TX0) (N := 2) iX0 f16 rfl 0 (by decide) (List.mem_cons_of_mem _ (List.mem_append_left _ (List.mem_append_left _ (List.mem_append_left _ (List.mem_of_getElem? (i := 4) rfl))))) (fun _ h9 => h9) rfl dX5_ask_53 ?_
          refine lv_lmul hx hb dX5_ask_56 ?_
          refine lv_topl (fun v20 ev20 => ?_)
          obtain rfl : v20 = zL (wt k * nu k) := by rw [ev20]; exact zL_mul _ _
          refine lv_lload hx hb dX5_ask_57 (lv_at hl 2 rfl) ?_
          refine lv_lmul hx hb dX5_ask_59 ?_
          refine lv_topl (fun v21 ev21 => ?_)
          obtain rfl : v21 = zL (wt k * nu k * (askS pl nu de wt k).2) := by rw [ev21]; exact zL_mul _ _
          refine lv_ladd hx hb dX5_ask_60 ?_
          refine lv_topl (fun v22 ev22 => ?_)
          obtain rfl : v22 = zL (askS pl nu de wt (k + 1)).1 := by rw [ev22]; rw [zL_add, askS_ne ec13]
          refine lv_lstore_n (lv' := [(2, .long (zL (askS pl nu de wt (k + 1)).1)), (7, .ref (sf k)), (6, .int (nI k)), (4, .long (zL (askS pl nu de wt k).2)), (0, .ref t), (1, .int (nI pl))]) hx hb dX5_ask_61 rfl hl (by decide) rfl (fun ls hl => ?_)
          refine lv_lload hx hb dX5_ask_62 (lv_at hl 3 rfl) ?_
          refine lv_aload hx hb dX5_ask_64 (lv_at hl 1 rfl) ?_
          refine g_get F hP (C := RX0) (T := TX0) (N := 2) iX0 f16 rfl 1 (by decide) (List.mem_cons_of_mem _ (List.mem_append_left _ (List.mem_append_left _ (List.mem_append_left _ (List.mem_of_getElem? (i := 2) rfl))))) (fun _ h9 => h9) rfl dX5_ask_66 ?_
          refine lv_lmul hx hb dX5_ask_69 ?_
          refine lv_topl (fun v23 ev23 => ?_)
          obtain rfl : v23 = zL (askS pl nu de wt (k + 1)).2 := by rw [ev23]; rw [zL_mul, askS_ne ec13]
          refine lv_lstore (lv' := [(4, .long (zL (askS pl nu de wt (k + 1)).2)), (2, .long (zL (askS pl nu de wt (k + 1)).1)), (7, .ref (sf k)), (6, .int (nI k)), (0, .ref t), (1, .int (nI pl))]) hx hb dX5_ask_70 hl (by decide) rfl (fun ls hl => ?_)
          obtain ⟨i24, ei24⟩ : ∃ y : Int32, y = nI k + (1) := ⟨_, rfl⟩
          refine lv_iinc (v := i24) (lv' := [(6, .int i24), (4, .long (zL (askS pl nu de wt (k + 1)).2)), (2, .long (zL (askS pl nu de wt (k + 1)).1)), (7, .ref (sf k)), (0, .ref t), (1, .int (nI pl))]) hx hb dX5_ask_72 hl (k := 3) rfl (by rw [ei24]; rfl) (by decide) rfl (fun ls hl => ?_)
          obtain rfl : i24 = nI (k + 1) := by rw [ei24]; exact nI_1 k
          refine lv_goto (tgt := 8) hx hb dX5_ask_75 (by decide) ?_
          exact ih_L8 (k + 1)  H locs ls (by omega) (hk) hP hS (lv_sub hl [0, 1, 2, 4, 5] rfl)
  exact L8 (N + 1) 0  H locs ls (by omega) (Nat.zero_le _) hP hS (lv_sub hl [0, 1, 2, 3, 4] rfl)
