theorem cd_X9_init : yX9_init.cls ≠ "java/lang/invoke/MethodHandle" ∧ yX9_init.cls ≠ "java/lang/invoke/VarHandle" ∧ (parseMethodDescriptor yX9_init.desc).map (fun d => d.parameters.length) = some 2 := by decide +kernel
theorem cd_X5_init : yX5_init.cls ≠ "java/lang/invoke/MethodHandle" ∧ yX5_init.cls ≠ "java/lang/invoke/VarHandle" ∧ (parseMethodDescriptor yX5_init.desc).map (fun d => d.parameters.length) = some 1 := by decide +kernel
set_option maxHeartbeats 4000000 in
set_option maxRecDepth 100000 in
theorem k_X2_init (l : Launch) (A : Nat → Prop) (G : g_C) (w : g_W) (h g1 g2 : Nat) (sh1 : Nat) (te1 mo1 la1 : Int32) (ri1 : Bool) (sh2 : Nat) (te2 mo2 la2 : Int32) (ri2 : Bool) (x1 y1 hd1 st1 : Int32) (fr1 : Nat) (x2 y2 hd2 st2 : Int32) (fr2 : Nat) (hh : w h = some (.inr (3, [.null, .null, .null]))) (hg1 : w g1 = some (.inr (2, [.ref sh1, .int te1, .int mo1, .int la1, .int (g_b ri1)]))) (hg2 : w g2 = some (.inr (2, [.ref sh2, .int te2, .int mo2, .int la2, .int (g_b ri2)]))) (hs1 : w sh1 = some (.inr (5, [.int x1, .int y1, .int hd1, .int st1, .ref fr1]))) (hs2 : w sh2 = some (.inr (5, [.int x2, .int y2, .int hd2, .int st2, .ref fr2]))) : mV l yX2_init wsX2_init ({ frames := 3, cells := 5, slots := 11, locals := 81 } : Room) [.ref h, .ref g1, .ref g2] A G w (fun w' => ∃ q1 q2 q3 q4 q5 fS, (w q1 = none ∧ w q2 = none ∧ w q3 = none ∧ w q4 = none ∧ w q5 = none) ∧ (q1 ≠ q2 ∧ q1 ≠ q3 ∧ q1 ≠ q4 ∧ q1 ≠ q5 ∧ q2 ≠ q3 ∧ q2 ≠ q4 ∧ q2 ≠ q5 ∧ q3 ≠ q4 ∧ q3 ≠ q5 ∧ q4 ≠ q5) ∧ (fS 0 = some q4 ∧ fS 1 = some q5) ∧ w' = g_up (g_up (g_up (g_up (g_up (g_up w q1 (.inr (6, [.ref q2, .ref q3, .int 0]))) q2 (.inl (G.2.1 4, 2, .inr (.inr (.inr (.inr fS)))))) q3 (.inr (1, [.long 0, .long 1]))) q4 (.inr (9, [.ref sh1, .int te1]))) q5 (.inr (9, [.ref sh2, .int (if ri1 || ri2 then -te2 else te2)]))) h (.inr (3, [.ref g1, .ref g2, .ref q1]))) 5 11 := by
  refine g_ofV (cc := cX2_init) (maxL := 4) (ret := none) (own := RX2) (by decide) rfl rfl (Nat.le_of_ble_eq_true rfl) ?_
  intro p e R s m args below meth c Q ls hR F hP hS hlocks hr hnm0 hQ hl
  obtain ⟨⟨hx, hb, hml, hown, hts⟩, hK, hZ, hA⟩ := id F
  generalize hH0 : s.heap = H at hP ⊢
  have hS : va_S A s.heap H [] := by rw [← hH0]; exact va_S.rf
  generalize ([] : List Loc) = locs at hS ⊢
  have hl : lv_has ls 4 [(0, .ref h), (1, .ref g1), (2, .ref g2)] := hl
  have iX1 : ∀ w ∈ u_ws RX1 TX1 5, w ∈ wsX2_init := fun w h => List.mem_cons_of_mem _ (List.mem_append_left _ (List.mem_append_left _ (List.mem_append_left _ (List.mem_append_right _ (h)))))
  have iX2 : ∀ w ∈ u_ws RX2 TX2 3, w ∈ wsX2_init := fun w h => List.mem_cons_of_mem _ (List.mem_append_left _ (List.mem_append_left _ (List.mem_append_left _ (List.mem_append_left _ (List.mem_append_right _ (h))))))
  have iX5 : ∀ w ∈ u_ws RX5 TX5 3, w ∈ wsX2_init := fun w h => List.mem_cons_of_mem _ (List.mem_append_left _ (List.mem_append_left _ (List.mem_append_right _ (h))))
  have iX9 : ∀ w ∈ u_ws RX9 TX9 2, w ∈ wsX2_init := fun w h => List.mem_cons_of_mem _ (List.mem_append_left _ (List.mem_append_right _ (h)))
  refine lv_aload_n hx hb dX2_init_0 rfl (lv_at hl 0 rfl) ?_
  refine W.objInit hx hb hown (hts _ (List.mem_cons_of_mem _ (List.mem_append_left _ (List.mem_append_left _ (List.mem_append_left _ (List.mem_append_left _ (List.mem_append_left _ (List.mem_append_left _ (List.mem_of_getElem? (i := 0) rfl))))))))) (hts _ (List.mem_cons_of_mem _ (List.mem_append_left _ (List.mem_append_left _ (List.mem_append_left _ (List.mem_append_left _ (List.mem_append_left _ (List.mem_append_left _ (List.mem_of_getElem? (i := 1) rfl))))))))) (hts _ (List.mem_cons_of_mem _ (List.mem_append_left _ (List.mem_append_left _ (List.mem_append_left _ (List.mem_append_left _ (List.mem_append_left _ (List.mem_append_left _ (List.mem_of_getElem? (i := 2) rfl))))))))) rfl (by rw [hml]; exact hl.1) rfl dX2_init_1 (by rw [hR]; exact Nat.le_of_ble_eq_true rfl) (by rw [hR]; exact Nat.le_of_ble_eq_true rfl) ?_
  show W p l e R s m args below meth c H locs _ _ Q (F0 m 4 ls [])
  refine lv_aload_n hx hb dX2_init_4 rfl (lv_at hl 0 rfl) ?_
  refine lv_aload_n hx hb dX2_init_5 rfl (lv_at hl 1 rfl) ?_
  refine g_putF F hP hS (C := RX2) (T := TX2) (N := 3) (v := .ref g1) (ty := (.object "GearTrains$Gear")) iX2 tyX2 tyX2_ok nmX2 hh rfl 0 (by decide) (List.mem_cons_of_mem _ (List.mem_append_left _ (List.mem_append_left _ (List.mem_append_left _ (List.mem_append_left _ (List.mem_append_left _ (List.mem_append_left _ (List.mem_of_getElem? (i := 3) rfl)))))))) (fun _ h9 => h9) rfl hnm0 rfl (by decide +kernel) rfl rfl (by show 0 < 3; decide) dX2_init_6 (fun H locs hP hS => ?_)
  obtain ⟨w1, ew1⟩ : ∃ z, z = g_up w h (.inr (3, [.ref g1, .null, .null])) := ⟨_, rfl⟩
  have hP : g_P A G w1 H := by rw [ew1]; exact hP
  have f2 : w1 g1 = some (.inr (2, [.ref sh1, .int te1, .int mo1, .int la1, .int (g_b ri1)])) := by rw [ew1]; exact g_up_f hg1 (g_ne hg1 hh rfl)
  have f3 : w1 g2 = some (.inr (2, [.ref sh2, .int te2, .int mo2, .int la2, .int (g_b ri2)])) := by rw [ew1]; exact g_up_f hg2 (g_ne hg2 hh rfl)
  have f4 : w1 sh1 = some (.inr (5, [.int x1, .int y1, .int hd1, .int st1, .ref fr1])) := by rw [ew1]; exact g_up_f hs1 (g_ne hs1 hh rfl)
  have f5 : w1 sh2 = some (.inr (5, [.int x2, .int y2, .int hd2, .int st2, .ref fr2])) := by rw [ew1]; exact g_up_f hs2 (g_ne hs2 hh rfl)
  have f6 : w1 h = some (.inr (3, [.ref g1, .null, .null])) := by rw [ew1]; exact g_up_s _ _ _
  refine lv_aload_n hx hb dX2_init_9 rfl (lv_at hl 0 rfl) ?_
  refine lv_aload_n hx hb dX2_init_10 rfl (lv_at hl 2 rfl) ?_
  refine g_putF F hP hS (C := RX2) (T := TX2) (N := 3) (v := .ref g2) (ty := (.object "GearTrains$Gear")) iX2 tyX2 tyX2_ok nmX2 f6 rfl 1 (by decide) (List.mem_cons_of_mem _ (List.mem_append_left _ (List.mem_append_left _ (List.mem_append_left _ (List.mem_append_left _ (List.mem_append_left _ (List.mem_append_left _ (List.mem_of_getElem? (i := 4) rfl)))))))) (fun _ h9 => h9) rfl hnm0 rfl (by decide +kernel) rfl rfl (by show 1 < 3; decide) dX2_init_11 (fun H locs hP hS => ?_)
  obtain ⟨w7, ew7⟩ : ∃ z, z = g_up w1 h (.inr (3, [.ref g1, .ref g2, .null])) := ⟨_, rfl⟩
  have hP : g_P A G w7 H := by rw [ew7]; exact hP
  have f8 : w7 g1 = some (.inr (2, [.ref sh1, .int te1, .int mo1, .int la1, .int (g_b ri1)])) := by rw [ew7]; exact g_up_f f2 (g_ne f2 f6 rfl)
  have f9 : w7 g2 = some (.inr (2, [.ref sh2, .int te2, .int mo2, .int la2, .int (g_b ri2)])) := by rw [ew7]; exact g_up_f f3 (g_ne f3 f6 rfl)
  have f10 : w7 sh1 = some (.inr (5, [.int x1, .int y1, .int hd1, .int st1, .ref fr1])) := by rw [ew7]; exact g_up_f f4 (g_ne f4 f6 rfl)
  have f11 : w7 sh2 = some (.inr (5, [.int x2, .int y2, .int hd2, .int st2, .ref fr2])) := by rw [ew7]; exact g_up_f f5 (g_ne f5 f6 rfl)
  have f12 : w7 h = some (.inr (3, [.ref g1, .ref g2, .null])) := by rw [ew7]; exact g_up_s _ _ _
  refine lv_aload_n hx hb dX2_init_14 rfl (lv_at hl 1 rfl) ?_
  refine g_get F hP (C := RX1) (T := TX1) (N := 5) iX1 f8 rfl 4 (by decide) (List.mem_cons_of_mem _ (List.mem_append_left _ (List.mem_append_left _ (List.mem_append_left _ (List.mem_append_left _ (List.mem_append_left _ (List.mem_append_left _ (List.mem_of_getElem? (i := 5) rfl)))))))) (fun _ h9 => h9) rfl dX2_init_15 ?_
  refine lv_if_ne (tgt := 28) hx hb dX2_init_18 (by decide) (fun c13 => ?_) (fun c13 => ?_)
  · have yc13 : ri1 = true := g_b1.mp c13
    refine lv_aload_n hx hb dX2_init_28 rfl (lv_at hl 2 rfl) ?_
    refine g_get F hP (C := RX1) (T := TX1) (N := 5) iX1 f9 rfl 1 (by decide) (List.mem_cons_of_mem _ (List.mem_append_left _ (List.mem_append_left _ (List.mem_append_left _ (List.mem_append_left _ (List.mem_append_left _ (List.mem_append_left _ (List.mem_of_getElem? (i := 6) rfl)))))))) (fun _ h9 => h9) rfl dX2_init_29 ?_
    refine lv_ineg hx hb dX2_init_32 ?_
    refine lv_topi (fun v14 ev14 => ?_)
    obtain rfl : v14 = -te2 := by
      exact ev14
    refine lv_goto (tgt := 40) hx hb dX2_init_33 (by decide) ?_
    rw [show (.int (-te2) : Value) = .int (if ri1 || ri2 then -te2 else te2) from by simp [yc13]]
    refine lv_istore_n (lv' := [(3, .int (if ri1 || ri2 then -te2 else te2)), (0, .ref h), (1, .ref g1), (2, .ref g2)]) hx hb dX2_init_40 rfl hl (by decide) rfl (fun ls hl => ?_)
    refine lv_aload_n hx hb dX2_init_41 rfl (lv_at hl 1 rfl) ?_
    refine g_new F hP hS (ci := 6) (C := RX5) (T := TX5) (N := 3) (fs := [.null, .null, .int 0]) iX5 tyX5 tyX5_ok (List.mem_cons_of_mem _ (List.mem_append_left _ (List.mem_append_left _ (List.mem_append_left _ (List.mem_append_left _ (List.mem_append_left _ (List.mem_append_left _ (List.mem_of_getElem? (i := 7) rfl)))))))) (List.mem_cons_of_mem _ (List.mem_append_left _ (List.mem_append_left _ (List.mem_append_left _ (List.mem_append_left _ (List.mem_append_left _ (List.mem_append_left _ (List.mem_of_getElem? (i := 8) rfl)))))))) (List.mem_cons_of_mem _ (List.mem_append_left _ (List.mem_append_left _ (List.mem_append_left _ (List.mem_append_left _ (List.mem_append_left _ (List.mem_append_left _ (List.mem_of_getElem? (i := 9) rfl)))))))) rfl (by intro j hj; match j, hj with | 0, _ => rfl | 1, _ => rfl | 2, _ => rfl | j + 3, hj => exact absurd hj (by omega)) (by rw [hR]; exact Nat.le_of_ble_eq_true rfl) (by rw [hR]; exact Nat.le_of_ble_eq_true rfl) dX2_init_42 (fun q15 H nq15 hP hS => ?_)
    obtain ⟨w16, ew16⟩ : ∃ z, z = g_up w7 q15 (.inr (6, [.null, .null, .int 0])) := ⟨_, rfl⟩
    have hP : g_P A G w16 H := by rw [ew16]; exact hP
    have f17 : w16 g1 = some (.inr (2, [.ref sh1, .int te1, .int mo1, .int la1, .int (g_b ri1)])) := by rw [ew16]; exact g_up_f f8 (g_neq f8 nq15)
    have f18 : w16 g2 = some (.inr (2, [.ref sh2, .int te2, .int mo2, .int la2, .int (g_b ri2)])) := by rw [ew16]; exact g_up_f f9 (g_neq f9 nq15)
    have f19 : w16 sh1 = some (.inr (5, [.int x1, .int y1, .int hd1, .int st1, .ref fr1])) := by rw [ew16]; exact g_up_f f10 (g_neq f10 nq15)
    have f20 : w16 sh2 = some (.inr (5, [.int x2, .int y2, .int hd2, .int st2, .ref fr2])) := by rw [ew16]; exact g_up_f f11 (g_neq f11 nq15)
    have f21 : w16 h = some (.inr (3, [.ref g1, .ref g2, .null])) := by rw [ew16]; exact g_up_f f12 (g_neq f12 nq15)
    have f22 : w16 q15 = some (.inr (6, [.null, .null, .int 0])) := by rw [ew16]; exact g_up_s _ _ _
    refine lv_dup hx hb dX2_init_45 rfl ?_
    refine lv_iconst (v := 2) hx hb dX2_init_46 (by decide) ?_
    refine g_newqS F hP hS (N' := 2) (List.mem_cons_of_mem _ (List.mem_append_left _ (List.mem_append_left _ (List.mem_append_left _ (List.mem_append_left _ (List.mem_append_left _ (List.mem_append_left _ (List.mem_of_getElem? (i := 10) rfl)))))))) (by decide) (by decide) (by decide) (by rw [hR]; exact Nat.le_of_ble_eq_true rfl) (by rw [hR]; exact Nat.le_of_ble_eq_true rfl) dX2_init_47 (fun q23 H nq23 hP hS => ?_)
    obtain ⟨w24, ew24⟩ : ∃ z, z = g_up w16 q23 (.inl (G.2.1 4, 2, .inr (.inr (.inr (.inr (fun _ => none)))))) := ⟨_, rfl⟩
    have hP : g_P A G w24 H := by rw [ew24]; exact hP
    have f25 : w24 g1 = some (.inr (2, [.ref sh1, .int te1, .int mo1, .int la1, .int (g_b ri1)])) := by rw [ew24]; exact g_up_f f17 (g_neq f17 nq23)
    have f26 : w24 g2 = some (.inr (2, [.ref sh2, .int te2, .int mo2, .int la2, .int (g_b ri2)])) := by rw [ew24]; exact g_up_f f18 (g_neq f18 nq23)
    have f27 : w24 sh1 = some (.inr (5, [.int x1, .int y1, .int hd1, .int st1, .ref fr1])) := by rw [ew24]; exact g_up_f f19 (g_neq f19 nq23)
    have f28 : w24 sh2 = some (.inr (5, [.int x2, .int y2, .int hd2, .int st2, .ref fr2])) := by rw [ew24]; exact g_up_f f20 (g_neq f20 nq23)
    have f29 : w24 h = some (.inr (3, [.ref g1, .ref g2, .null])) := by rw [ew24]; exact g_up_f f21 (g_neq f21 nq23)
    have f30 : w24 q15 = some (.inr (6, [.null, .null, .int 0])) := by rw [ew24]; exact g_up_f f22 (g_neq f22 nq23)
    have f31 : w24 q23 = some (.inl (G.2.1 4, 2, .inr (.inr (.inr (.inr (fun _ => none)))))) := by rw [ew24]; exact g_up_s _ _ _
    refine lv_dup hx hb dX2_init_50 rfl ?_
    refine lv_iconst (v := 0) hx hb dX2_init_51 (by decide) ?_
    refine g_new F hP hS (ci := 9) (C := RX9) (T := TX9) (N := 2) (fs := [.null, .int 0]) iX9 tyX9 tyX9_ok (List.mem_cons_of_mem _ (List.mem_append_left _ (List.mem_append_left _ (List.mem_append_left _ (List.mem_append_left _ (List.mem_append_left _ (List.mem_append_left _ (List.mem_of_getElem? (i := 10) rfl)))))))) (List.mem_cons_of_mem _ (List.mem_append_left _ (List.mem_append_left _ (List.mem_append_left _ (List.mem_append_left _ (List.mem_append_left _ (List.mem_append_left _ (List.mem_of_getElem? (i := 11) rfl)))))))) (List.mem_cons_of_mem _ (List.mem_append_left _ (List.mem_append_left _ (List.mem_append_left _ (List.mem_append_left _ (List.mem_append_left _ (List.mem_append_left _ (List.mem_of_getElem? (i := 12) rfl)))))))) rfl (by intro j hj; match j, hj with | 0, _ => rfl | 1, _ => rfl | j + 2, hj => exact absurd hj (by omega)) (by rw [hR]; exact Nat.le_of_ble_eq_true rfl) (by rw [hR]; exact Nat.le_of_ble_eq_true rfl) dX2_init_52 (fun q32 H nq32 hP hS => ?_)
    obtain ⟨w33, ew33⟩ : ∃ z, z = g_up w24 q32 (.inr (9, [.null, .int 0])) := ⟨_, rfl⟩
    have hP : g_P A G w33 H := by rw [ew33]; exact hP
    have f34 : w33 g1 = some (.inr (2, [.ref sh1, .int te1, .int mo1, .int la1, .int (g_b ri1)])) := by rw [ew33]; exact g_up_f f25 (g_neq f25 nq32)
    have f35 : w33 g2 = some (.inr (2, [.ref sh2, .int te2, .int mo2, .int la2, .int (g_b ri2)])) := by rw [ew33]; exact g_up_f f26 (g_neq f26 nq32)
    have f36 : w33 sh1 = some (.inr (5, [.int x1, .int y1, .int hd1, .int st1, .ref fr1])) := by rw [ew33]; exact g_up_f f27 (g_neq f27 nq32)
    have f37 : w33 sh2 = some (.inr (5, [.int x2, .int y2, .int hd2, .int st2, .ref fr2])) := by rw [ew33]; exact g_up_f f28 (g_neq f28 nq32)
    have f38 : w33 h = some (.inr (3, [.ref g1, .ref g2, .null])) := by rw [ew33]; exact g_up_f f29 (g_neq f29 nq32)
    have f39 : w33 q15 = some (.inr (6, [.null, .null, .int 0])) := by rw [ew33]; exact g_up_f f30 (g_neq f30 nq32)
    have f40 : w33 q23 = some (.inl (G.2.1 4, 2, .inr (.inr (.inr (.inr (fun _ => none)))))) := by rw [ew33]; exact g_up_f f31 (g_neq f31 nq32)
    have f41 : w33 q32 = some (.inr (9, [.null, .int 0])) := by rw [ew33]; exact g_up_s _ _ _
    refine lv_dup hx hb dX2_init_55 rfl ?_
    refine lv_aload_n hx hb dX2_init_56 rfl (lv_at hl 2 rfl) ?_
    refine g_get F hP (C := RX1) (T := TX1) (N := 5) iX1 f34 rfl 0 (by decide) (List.mem_cons_of_mem _ (List.mem_append_left _ (List.mem_append_left _ (List.mem_append_left _ (List.mem_append_left _ (List.mem_append_left _ (List.mem_append_left _ (List.mem_of_getElem? (i := 13) rfl)))))))) (fun _ h9 => h9) rfl dX2_init_57 ?_
    refine lv_aload_n hx hb dX2_init_60 rfl (lv_at hl 2 rfl) ?_
    refine g_get F hP (C := RX1) (T := TX1) (N := 5) iX1 f34 rfl 1 (by decide) (List.mem_cons_of_mem _ (List.mem_append_left _ (List.mem_append_left _ (List.mem_append_left _ (List.mem_append_left _ (List.mem_append_left _ (List.mem_append_left _ (List.mem_of_getElem? (i := 6) rfl)))))))) (fun _ h9 => h9) rfl dX2_init_61 ?_
    refine g_Iv (As := [.ref sh1, .int te1]) (rest := [.ref q32, .int 0, .ref q23, .ref q23, .ref q15, .ref q15, .ref h]) F hP hS (k_X9_init l A G w33 q32 sh1 te1 f41) (cwI 2 hts gX2_init_X9_init rfl rfl rfl (hts _ (List.mem_cons_of_mem _ (List.mem_append_left _ (List.mem_append_left _ (List.mem_append_left _ (List.mem_append_left _ (List.mem_append_left _ (List.mem_append_left _ (List.mem_of_getElem? (i := 12) rfl))))))))) (hts _ (List.mem_cons_of_mem _ (List.mem_append_left _ (List.mem_append_left _ (List.mem_append_left _ (List.mem_append_left _ (List.mem_append_left _ (List.mem_append_left _ (List.mem_of_getElem? (i := 15) rfl))))))))) (hts _ (List.mem_cons_of_mem _ (List.mem_append_left _ (List.mem_append_left _ (List.mem_append_left _ (List.mem_append_left _ (List.mem_append_left _ (List.mem_append_left _ (List.mem_of_getElem? (i := 16) rfl))))))))) rfl cd_X9_init ⟨by rw [hR]; exact Nat.le_of_ble_eq_true rfl, by rw [hR]; exact Nat.le_of_ble_eq_true rfl⟩) rfl hl.1 (Nat.le_of_ble_eq_true rfl) dX2_init_64 ⟨by rw [hR]; exact Nat.le_of_ble_eq_true rfl, by rw [hR]; exact Nat.le_of_ble_eq_true rfl⟩ rfl (fun w43 H locs h44 hP hS => ?_)
    have f45 : w43 g1 = some (.inr (2, [.ref sh1, .int te1, .int mo1, .int la1, .int (g_b ri1)])) := by rw [h44]; exact g_up_f f34 (g_neq f25 nq32)
    have f46 : w43 g2 = some (.inr (2, [.ref sh2, .int te2, .int mo2, .int la2, .int (g_b ri2)])) := by rw [h44]; exact g_up_f f35 (g_neq f26 nq32)
    have f47 : w43 sh1 = some (.inr (5, [.int x1, .int y1, .int hd1, .int st1, .ref fr1])) := by rw [h44]; exact g_up_f f36 (g_neq f27 nq32)
    have f48 : w43 sh2 = some (.inr (5, [.int x2, .int y2, .int hd2, .int st2, .ref fr2])) := by rw [h44]; exact g_up_f f37 (g_neq f28 nq32)
    have f49 : w43 h = some (.inr (3, [.ref g1, .ref g2, .null])) := by rw [h44]; exact g_up_f f38 (g_neq f29 nq32)
    have f50 : w43 q15 = some (.inr (6, [.null, .null, .int 0])) := by rw [h44]; exact g_up_f f39 (g_neq f30 nq32)
    have f51 : w43 q23 = some (.inl (G.2.1 4, 2, .inr (.inr (.inr (.inr (fun _ => none)))))) := by rw [h44]; exact g_up_f f40 (g_neq f31 nq32)
    have f52 : w43 q32 = some (.inr (9, [.ref sh1, .int te1])) := by rw [h44]; exact g_up_s _ _ _
    refine g_astqS F hP hS f51 f52 (by unfold vp_in; decide) dX2_init_67 (fun H locs hP hS => ?_)
    obtain ⟨w53, ew53⟩ : ∃ z, z = g_up w43 q23 (.inl (G.2.1 4, 2, .inr (.inr (.inr (.inr (va_up (fun _ => none) (0 : Int32).toNatClampNeg (some q32))))))) := ⟨_, rfl⟩
    have hP : g_P A G w53 H := by rw [ew53]; exact hP
    have f54 : w53 g1 = some (.inr (2, [.ref sh1, .int te1, .int mo1, .int la1, .int (g_b ri1)])) := by rw [ew53]; exact g_up_f f45 (g_neq f17 nq23)
    have f55 : w53 g2 = some (.inr (2, [.ref sh2, .int te2, .int mo2, .int la2, .int (g_b ri2)])) := by rw [ew53]; exact g_up_f f46 (g_neq f18 nq23)
    have f56 : w53 sh1 = some (.inr (5, [.int x1, .int y1, .int hd1, .int st1, .ref fr1])) := by rw [ew53]; exact g_up_f f47 (g_neq f19 nq23)
    have f57 : w53 sh2 = some (.inr (5, [.int x2, .int y2, .int hd2, .int st2, .ref fr2])) := by rw [ew53]; exact g_up_f f48 (g_neq f20 nq23)
    have f58 : w53 h = some (.inr (3, [.ref g1, .ref g2, .null])) := by rw [ew53]; exact g_up_f f49 (g_neq f21 nq23)
    have f59 : w53 q15 = some (.inr (6, [.null, .null, .int 0])) := by rw [ew53]; exact g_up_f f50 (g_neq f22 nq23)
    have f60 : w53 q32 = some (.inr (9, [.ref sh1, .int te1])) := by rw [ew53]; exact g_up_f f52 (Ne.symm (g_neq f31 nq32))
    have f61 : w53 q23 = some (.inl (G.2.1 4, 2, .inr (.inr (.inr (.inr (va_up (fun _ => none) (0 : Int32).toNatClampNeg (some q32))))))) := by rw [ew53]; exact g_up_s _ _ _
    refine lv_dup hx hb dX2_init_68 rfl ?_
    refine lv_iconst (v := 1) hx hb dX2_init_69 (by decide) ?_
    refine g_new F hP hS (ci := 9) (C := RX9) (T := TX9) (N := 2) (fs := [.null, .int 0]) iX9 tyX9 tyX9_ok (List.mem_cons_of_mem _ (List.mem_append_left _ (List.mem_append_left _ (List.mem_append_left _ (List.mem_append_left _ (List.mem_append_left _ (List.mem_append_left _ (List.mem_of_getElem? (i := 10) rfl)))))))) (List.mem_cons_of_mem _ (List.mem_append_left _ (List.mem_append_left _ (List.mem_append_left _ (List.mem_append_left _ (List.mem_append_left _ (List.mem_append_left _ (List.mem_of_getElem? (i := 11) rfl)))))))) (List.mem_cons_of_mem _ (List.mem_append_left _ (List.mem_append_left _ (List.mem_append_left _ (List.mem_append_left _ (List.mem_append_left _ (List.mem_append_left _ (List.mem_of_getElem? (i := 12) rfl)))))))) rfl (by intro j hj; match j, hj with | 0, _ => rfl | 1, _ => rfl | j + 2, hj => exact absurd hj (by omega)) (by rw [hR]; exact Nat.le_of_ble_eq_true rfl) (by rw [hR]; exact Nat.le_of_ble_eq_true rfl) dX2_init_70 (fun q62 H nq62 hP hS => ?_)
    obtain ⟨w63, ew63⟩ : ∃ z, z = g_up w53 q62 (.inr (9, [.null, .int 0])) := ⟨_, rfl⟩
    have hP : g_P A G w63 H := by rw [ew63]; exact hP
    have f64 : w63 g1 = some (.inr (2, [.ref sh1, .int te1, .int mo1, .int la1, .int (g_b ri1)])) := by rw [ew63]; exact g_up_f f54 (g_neq f54 nq62)
    have f65 : w63 g2 = some (.inr (2, [.ref sh2, .int te2, .int mo2, .int la2, .int (g_b ri2)])) := by rw [ew63]; exact g_up_f f55 (g_neq f55 nq62)
    have f66 : w63 sh1 = some (.inr (5, [.int x1, .int y1, .int hd1, .int st1, .ref fr1])) := by rw [ew63]; exact g_up_f f56 (g_neq f56 nq62)
    have f67 : w63 sh2 = some (.inr (5, [.int x2, .int y2, .int hd2, .int st2, .ref fr2])) := by rw [ew63]; exact g_up_f f57 (g_neq f57 nq62)
    have f68 : w63 h = some (.inr (3, [.ref g1, .ref g2, .null])) := by rw [ew63]; exact g_up_f f58 (g_neq f58 nq62)
    have f69 : w63 q15 = some (.inr (6, [.null, .null, .int 0])) := by rw [ew63]; exact g_up_f f59 (g_neq f59 nq62)
    have f70 : w63 q32 = some (.inr (9, [.ref sh1, .int te1])) := by rw [ew63]; exact g_up_f f60 (g_neq f60 nq62)
    have f71 : w63 q23 = some (.inl (G.2.1 4, 2, .inr (.inr (.inr (.inr (va_up (fun _ => none) (0 : Int32).toNatClampNeg (some q32))))))) := by rw [ew63]; exact g_up_f f61 (g_neq f61 nq62)
    have f72 : w63 q62 = some (.inr (9, [.null, .int 0])) := by rw [ew63]; exact g_up_s _ _ _
    refine lv_dup hx hb dX2_init_73 rfl ?_
    refine lv_aload_n hx hb dX2_init_74 rfl (lv_at hl 3 rfl) ?_
    refine g_get F hP (C := RX1) (T := TX1) (N := 5) iX1 f65 rfl 0 (by decide) (List.mem_cons_of_mem _ (List.mem_append_left _ (List.mem_append_left _ (List.mem_append_left _ (List.mem_append_left _ (List.mem_append_left _ (List.mem_append_left _ (List.mem_of_getElem? (i := 13) rfl)))))))) (fun _ h9 => h9) rfl dX2_init_75 ?_
    refine lv_iload_n hx hb dX2_init_78 rfl (lv_at hl 0 rfl) ?_
    refine g_Iv (As := [.ref sh2, .int (if ri1 || ri2 then -te2 else te2)]) (rest := [.ref q62, .int 1, .ref q23, .ref q23, .ref q15, .ref q15, .ref h]) F hP hS (k_X9_init l A G w63 q62 sh2 (if ri1 || ri2 then -te2 else te2) f72) (cwI 2 hts gX2_init_X9_init rfl rfl rfl (hts _ (List.mem_cons_of_mem _ (List.mem_append_left _ (List.mem_append_left _ (List.mem_append_left _ (List.mem_append_left _ (List.mem_append_left _ (List.mem_append_left _ (List.mem_of_getElem? (i := 12) rfl))))))))) (hts _ (List.mem_cons_of_mem _ (List.mem_append_left _ (List.mem_append_left _ (List.mem_append_left _ (List.mem_append_left _ (List.mem_append_left _ (List.mem_append_left _ (List.mem_of_getElem? (i := 15) rfl))))))))) (hts _ (List.mem_cons_of_mem _ (List.mem_append_left _ (List.mem_append_left _ (List.mem_append_left _ (List.mem_append_left _ (List.mem_append_left _ (List.mem_append_left _ (List.mem_of_getElem? (i := 16) rfl))))))))) rfl cd_X9_init ⟨by rw [hR]; exact Nat.le_of_ble_eq_true rfl, by rw [hR]; exact Nat.le_of_ble_eq_true rfl⟩) rfl hl.1 (Nat.le_of_ble_eq_true rfl) dX2_init_79 ⟨by rw [hR]; exact Nat.le_of_ble_eq_true rfl, by rw [hR]; exact Nat.le_of_ble_eq_true rfl⟩ rfl (fun w74 H locs h75 hP hS => ?_)
    have f76 : w74 g1 = some (.inr (2, [.ref sh1, .int te1, .int mo1, .int la1, .int (g_b ri1)])) := by rw [h75]; exact g_up_f f64 (g_neq f54 nq62)
    have f77 : w74 g2 = some (.inr (2, [.ref sh2, .int te2, .int mo2, .int la2, .int (g_b ri2)])) := by rw [h75]; exact g_up_f f65 (g_neq f55 nq62)
    have f78 : w74 sh1 = some (.inr (5, [.int x1, .int y1, .int hd1, .int st1, .ref fr1])) := by rw [h75]; exact g_up_f f66 (g_neq f56 nq62)
    have f79 : w74 sh2 = some (.inr (5, [.int x2, .int y2, .int hd2, .int st2, .ref fr2])) := by rw [h75]; exact g_up_f f67 (g_neq f57 nq62)
    have f80 : w74 h = some (.inr (3, [.ref g1, .ref g2, .null])) := by rw [h75]; exact g_up_f f68 (g_neq f58 nq62)
    have f81 : w74 q15 = some (.inr (6, [.null, .null, .int 0])) := by rw [h75]; exact g_up_f f69 (g_neq f59 nq62)
    have f82 : w74 q32 = some (.inr (9, [.ref sh1, .int te1])) := by rw [h75]; exact g_up_f f70 (g_neq f60 nq62)
    have f83 : w74 q23 = some (.inl (G.2.1 4, 2, .inr (.inr (.inr (.inr (va_up (fun _ => none) (0 : Int32).toNatClampNeg (some q32))))))) := by rw [h75]; exact g_up_f f71 (g_neq f61 nq62)
    have f84 : w74 q62 = some (.inr (9, [.ref sh2, .int (if ri1 || ri2 then -te2 else te2)])) := by rw [h75]; exact g_up_s _ _ _
    refine g_astqS F hP hS f83 f84 (by unfold vp_in; decide) dX2_init_82 (fun H locs hP hS => ?_)
    obtain ⟨w85, ew85⟩ : ∃ z, z = g_up w74 q23 (.inl (G.2.1 4, 2, .inr (.inr (.inr (.inr (va_up (va_up (fun _ => none) (0 : Int32).toNatClampNeg (some q32)) (1 : Int32).toNatClampNeg (some q62))))))) := ⟨_, rfl⟩
    have hP : g_P A G w85 H := by rw [ew85]; exact hP
    have f86 : w85 g1 = some (.inr (2, [.ref sh1, .int te1, .int mo1, .int la1, .int (g_b ri1)])) := by rw [ew85]; exact g_up_f f76 (g_neq f17 nq23)
    have f87 : w85 g2 = some (.inr (2, [.ref sh2, .int te2, .int mo2, .int la2, .int (g_b ri2)])) := by rw [ew85]; exact g_up_f f77 (g_neq f18 nq23)
    have f88 : w85 sh1 = some (.inr (5, [.int x1, .int y1, .int hd1, .int st1, .ref fr1])) := by rw [ew85]; exact g_up_f f78 (g_neq f19 nq23)
    have f89 : w85 sh2 = some (.inr (5, [.int x2, .int y2, .int hd2, .int st2, .ref fr2])) := by rw [ew85]; exact g_up_f f79 (g_neq f20 nq23)
    have f90 : w85 h = some (.inr (3, [.ref g1, .ref g2, .null])) := by rw [ew85]; exact g_up_f f80 (g_neq f21 nq23)
    have f91 : w85 q15 = some (.inr (6, [.null, .null, .int 0])) := by rw [ew85]; exact g_up_f f81 (g_neq f22 nq23)
    have f92 : w85 q32 = some (.inr (9, [.ref sh1, .int te1])) := by rw [ew85]; exact g_up_f f82 (Ne.symm (g_neq f31 nq32))
    have f93 : w85 q62 = some (.inr (9, [.ref sh2, .int (if ri1 || ri2 then -te2 else te2)])) := by rw [ew85]; exact g_up_f f84 (Ne.symm (g_neq f61 nq62))
    have f94 : w85 q23 = some (.inl (G.2.1 4, 2, .inr (.inr (.inr (.inr (va_up (va_up (fun _ => none) (0 : Int32).toNatClampNeg (some q32)) (1 : Int32).toNatClampNeg (some q62))))))) := by rw [ew85]; exact g_up_s _ _ _
    refine g_Iv (As := [.ref q23]) (rest := [.ref q15, .ref h]) F hP hS (k_X5_init l A G w85 q15 q23 f91) (cwI 1 hts gX2_init_X5_init rfl rfl rfl (hts _ (List.mem_cons_of_mem _ (List.mem_append_left _ (List.mem_append_left _ (List.mem_append_left _ (List.mem_append_left _ (List.mem_append_left _ (List.mem_append_left _ (List.mem_of_getElem? (i := 9) rfl))))))))) (hts _ (List.mem_cons_of_mem _ (List.mem_append_left _ (List.mem_append_left _ (List.mem_append_left _ (List.mem_append_left _ (List.mem_append_left _ (List.mem_append_left _ (List.mem_of_getElem? (i := 21) rfl))))))))) (hts _ (List.mem_cons_of_mem _ (List.mem_append_left _ (List.mem_append_left _ (List.mem_append_left _ (List.mem_append_left _ (List.mem_append_left _ (List.mem_append_left _ (List.mem_of_getElem? (i := 22) rfl))))))))) rfl cd_X5_init ⟨by rw [hR]; exact Nat.le_of_ble_eq_true rfl, by rw [hR]; exact Nat.le_of_ble_eq_true rfl⟩) rfl hl.1 (Nat.le_of_ble_eq_true rfl) dX2_init_83 ⟨by rw [hR]; exact Nat.le_of_ble_eq_true rfl, by rw [hR]; exact Nat.le_of_ble_eq_true rfl⟩ rfl (fun w96 H locs h97 hP hS => ?_)
    obtain ⟨q98, nq98, ew96⟩ := h97
    have f99 : w96 g1 = some (.inr (2, [.ref sh1, .int te1, .int mo1, .int la1, .int (g_b ri1)])) := by rw [ew96]; exact g_up_f (g_up_f f86 (g_neq f86 nq98)) (g_neq f8 nq15)
    have f100 : w96 g2 = some (.inr (2, [.ref sh2, .int te2, .int mo2, .int la2, .int (g_b ri2)])) := by rw [ew96]; exact g_up_f (g_up_f f87 (g_neq f87 nq98)) (g_neq f9 nq15)
    have f101 : w96 sh1 = some (.inr (5, [.int x1, .int y1, .int hd1, .int st1, .ref fr1])) := by rw [ew96]; exact g_up_f (g_up_f f88 (g_neq f88 nq98)) (g_neq f10 nq15)
    have f102 : w96 sh2 = some (.inr (5, [.int x2, .int y2, .int hd2, .int st2, .ref fr2])) := by rw [ew96]; exact g_up_f (g_up_f f89 (g_neq f89 nq98)) (g_neq f11 nq15)
    have f103 : w96 h = some (.inr (3, [.ref g1, .ref g2, .null])) := by rw [ew96]; exact g_up_f (g_up_f f90 (g_neq f90 nq98)) (g_neq f12 nq15)
    have f104 : w96 q32 = some (.inr (9, [.ref sh1, .int te1])) := by rw [ew96]; exact g_up_f (g_up_f f92 (g_neq f92 nq98)) (g_ne f92 f91 rfl)
    have f105 : w96 q62 = some (.inr (9, [.ref sh2, .int (if ri1 || ri2 then -te2 else te2)])) := by rw [ew96]; exact g_up_f (g_up_f f93 (g_neq f93 nq98)) (g_ne f93 f91 rfl)
    have f106 : w96 q23 = some (.inl (G.2.1 4, 2, .inr (.inr (.inr (.inr (va_up (va_up (fun _ => none) (0 : Int32).toNatClampNeg (some q32)) (1 : Int32).toNatClampNeg (some q62))))))) := by rw [ew96]; exact g_up_f (g_up_f f94 (g_neq f94 nq98)) (g_ne f94 f91 rfl)
    have f107 : w96 q98 = some (.inr (1, [.long 0, .long 1])) := by rw [ew96]; exact g_up_f (g_up_s _ _ _) (Ne.symm (g_neq f91 nq98))
    have f108 : w96 q15 = some (.inr (6, [.ref q23, .ref q98, .int 0])) := by rw [ew96]; exact g_up_s _ _ _
    refine g_putF F hP hS (C := RX2) (T := TX2) (N := 3) (v := .ref q15) (ty := (.object "GearTrains$Tie")) iX2 tyX2 tyX2_ok nmX2 f103 rfl 2 (by decide) (List.mem_cons_of_mem _ (List.mem_append_left _ (List.mem_append_left _ (List.mem_append_left _ (List.mem_append_left _ (List.mem_append_left _ (List.mem_append_left _ (List.mem_of_getElem? (i := 14) rfl)))))))) (fun _ h9 => h9) rfl hnm0 rfl (by decide +kernel) rfl rfl (by show 2 < 3; decide) dX2_init_86 (fun H locs hP hS => ?_)
    obtain ⟨w109, ew109⟩ : ∃ z, z = g_up w96 h (.inr (3, [.ref g1, .ref g2, .ref q15])) := ⟨_, rfl⟩
    have hP : g_P A G w109 H := by rw [ew109]; exact hP
    have f110 : w109 g1 = some (.inr (2, [.ref sh1, .int te1, .int mo1, .int la1, .int (g_b ri1)])) := by rw [ew109]; exact g_up_f f99 (g_ne f99 f103 rfl)
    have f111 : w109 g2 = some (.inr (2, [.ref sh2, .int te2, .int mo2, .int la2, .int (g_b ri2)])) := by rw [ew109]; exact g_up_f f100 (g_ne f100 f103 rfl)
    have f112 : w109 sh1 = some (.inr (5, [.int x1, .int y1, .int hd1, .int st1, .ref fr1])) := by rw [ew109]; exact g_up_f f101 (g_ne f101 f103 rfl)
    have f113 : w109 sh2 = some (.inr (5, [.int x2, .int y2, .int hd2, .int st2, .ref fr2])) := by rw [ew109]; exact g_up_f f102 (g_ne f102 f103 rfl)
    have f114 : w109 q32 = some (.inr (9, [.ref sh1, .int te1])) := by rw [ew109]; exact g_up_f f104 (Ne.symm (g_neq f29 nq32))
    have f115 : w109 q62 = some (.inr (9, [.ref sh2, .int (if ri1 || ri2 then -te2 else te2)])) := by rw [ew109]; exact g_up_f f105 (Ne.symm (g_neq f58 nq62))
    have f116 : w109 q23 = some (.inl (G.2.1 4, 2, .inr (.inr (.inr (.inr (va_up (va_up (fun _ => none) (0 : Int32).toNatClampNeg (some q32)) (1 : Int32).toNatClampNeg (some q62))))))) := by rw [ew109]; exact g_up_f f106 (Ne.symm (g_neq f21 nq23))
    have f117 : w109 q98 = some (.inr (1, [.long 0, .long 1])) := by rw [ew109]; exact g_up_f f107 (g_ne f107 f103 rfl)
    have f118 : w109 q15 = some (.inr (6, [.ref q23, .ref q98, .int 0])) := by rw [ew109]; exact g_up_f f108 (Ne.symm (g_neq f12 nq15))
    have f119 : w109 h = some (.inr (3, [.ref g1, .ref g2, .ref q15])) := by rw [ew109]; exact g_up_s _ _ _
    rw [hQ]
    refine g_vret F hP hS hlocks hr dX2_init_89 (by first | exact Nat.le_of_ble_eq_true rfl | omega) (by first | exact Nat.le_of_ble_eq_true rfl | omega) ?_
    have nnq15 := nq15
    rw [ew7] at nnq15
    obtain ⟨ddq15_0, nnq15⟩ := g_up_none nnq15
    rw [ew1] at nnq15
    obtain ⟨ddq15_1, nnq15⟩ := g_up_none nnq15
    have nnq23 := nq23
    rw [ew16] at nnq23
    obtain ⟨ddq23_0, nnq23⟩ := g_up_none nnq23
    rw [ew7] at nnq23
    obtain ⟨ddq23_1, nnq23⟩ := g_up_none nnq23
    rw [ew1] at nnq23
    obtain ⟨ddq23_2, nnq23⟩ := g_up_none nnq23
    have nnq32 := nq32
    rw [ew24] at nnq32
    obtain ⟨ddq32_0, nnq32⟩ := g_up_none nnq32
    rw [ew16] at nnq32
    obtain ⟨ddq32_1, nnq32⟩ := g_up_none nnq32
    rw [ew7] at nnq32
    obtain ⟨ddq32_2, nnq32⟩ := g_up_none nnq32
    rw [ew1] at nnq32
    obtain ⟨ddq32_3, nnq32⟩ := g_up_none nnq32
    have nnq62 := nq62
    rw [ew53] at nnq62
    obtain ⟨ddq62_0, nnq62⟩ := g_up_none nnq62
    rw [h44] at nnq62
    obtain ⟨ddq62_1, nnq62⟩ := g_up_none nnq62
    rw [ew33] at nnq62
    obtain ⟨ddq62_2, nnq62⟩ := g_up_none nnq62
    rw [ew24] at nnq62
    obtain ⟨ddq62_3, nnq62⟩ := g_up_none nnq62
    rw [ew16] at nnq62
    obtain ⟨ddq62_4, nnq62⟩ := g_up_none nnq62
    rw [ew7] at nnq62
    obtain ⟨ddq62_5, nnq62⟩ := g_up_none nnq62
    rw [ew1] at nnq62
    obtain ⟨ddq62_6, nnq62⟩ := g_up_none nnq62
    have nnq98 := nq98
    rw [ew85] at nnq98
    obtain ⟨ddq98_0, nnq98⟩ := g_up_none nnq98
    rw [h75] at nnq98
    obtain ⟨ddq98_1, nnq98⟩ := g_up_none nnq98
    rw [ew63] at nnq98
    obtain ⟨ddq98_2, nnq98⟩ := g_up_none nnq98
    rw [ew53] at nnq98
    obtain ⟨ddq98_3, nnq98⟩ := g_up_none nnq98
    rw [h44] at nnq98
    obtain ⟨ddq98_4, nnq98⟩ := g_up_none nnq98
    rw [ew33] at nnq98
    obtain ⟨ddq98_5, nnq98⟩ := g_up_none nnq98
    rw [ew24] at nnq98
    obtain ⟨ddq98_6, nnq98⟩ := g_up_none nnq98
    rw [ew16] at nnq98
    obtain ⟨ddq98_7, nnq98⟩ := g_up_none nnq98
    rw [ew7] at nnq98
    obtain ⟨ddq98_8, nnq98⟩ := g_up_none nnq98
    rw [ew1] at nnq98
    obtain ⟨ddq98_9, nnq98⟩ := g_up_none nnq98
    refine ⟨q15, q23, q98, q32, q62, (va_up (va_up (fun _ => none) (0 : Int32).toNatClampNeg (some q32)) (1 : Int32).toNatClampNeg (some q62)), ⟨nnq15, nnq23, nnq98, nnq32, nnq62⟩, ⟨Ne.symm ddq23_0, Ne.symm ddq98_7, Ne.symm ddq32_1, Ne.symm ddq62_4, Ne.symm ddq98_0, Ne.symm ddq32_0, Ne.symm ddq62_0, ddq98_4, ddq98_1, Ne.symm ddq62_1⟩, ?_, ?_⟩
    · exact ⟨by simp [va_up, show (0 : Int32).toNatClampNeg = 0 from by decide, show (1 : Int32).toNatClampNeg = 1 from by decide, show (2 : Int32).toNatClampNeg = 2 from by decide], by simp [va_up, show (0 : Int32).toNatClampNeg = 0 from by decide, show (1 : Int32).toNatClampNeg = 1 from by decide, show (2 : Int32).toNatClampNeg = 2 from by decide]⟩
    · funext z
      by_cases z_h : z = h
      · rw [z_h, f119]; exact (g_up_s _ _ _).symm
      rw [g_up_n _ z_h]
      by_cases z_q62 : z = q62
      · rw [z_q62, f115]; exact (g_up_s _ _ _).symm
      rw [g_up_n _ z_q62]
      by_cases z_q32 : z = q32
      · rw [z_q32, f114]; exact (g_up_s _ _ _).symm
      rw [g_up_n _ z_q32]
      by_cases z_q98 : z = q98
      · rw [z_q98, f117]; exact (g_up_s _ _ _).symm
      rw [g_up_n _ z_q98]
      by_cases z_q23 : z = q23
      · rw [z_q23, f116]; exact (g_up_s _ _ _).symm
      rw [g_up_n _ z_q23]
      by_cases z_q15 : z = q15
      · rw [z_q15, f118]; exact (g_up_s _ _ _).symm
      rw [g_up_n _ z_q15]
      rw [ew109, g_up_n _ z_h]
      rw [ew96, g_up_n _ z_q15, g_up_n _ z_q98]
      rw [ew85, g_up_n _ z_q23]
      rw [h75, g_up_n _ z_q62]
      rw [ew63, g_up_n _ z_q62]
      rw [ew53, g_up_n _ z_q23]
      rw [h44, g_up_n _ z_q32]
      rw [ew33, g_up_n _ z_q32]
      rw [ew24, g_up_n _ z_q23]
      rw [ew16, g_up_n _ z_q15]
      rw [ew7, g_up_n _ z_h]
      rw [ew1, g_up_n _ z_h]
  · have yc13 : ri1 = false := g_b0.mp c13
    refine lv_aload_n hx hb dX2_init_21 rfl (lv_at hl 2 rfl) ?_
    refine g_get F hP (C := RX1) (T := TX1) (N := 5) iX1 f9 rfl 4 (by decide) (List.mem_cons_of_mem _ (List.mem_append_left _ (List.mem_append_left _ (List.mem_append_left _ (List.mem_append_left _ (List.mem_append_left _ (List.mem_append_left _ (List.mem_of_getElem? (i := 5) rfl)))))))) (fun _ h9 => h9) rfl dX2_init_22 ?_
    refine lv_if_eq (tgt := 36) hx hb dX2_init_25 (by decide) (fun c120 => ?_) (fun c120 => ?_)
    · have yc120 : ri2 = false := g_b0.mp c120
      refine lv_aload_n hx hb dX2_init_36 rfl (lv_at hl 2 rfl) ?_
      refine g_get F hP (C := RX1) (T := TX1) (N := 5) iX1 f9 rfl 1 (by decide) (List.mem_cons_of_mem _ (List.mem_append_left _ (List.mem_append_left _ (List.mem_append_left _ (List.mem_append_left _ (List.mem_append_left _ (List.mem_append_left _ (List.mem_of_getElem? (i := 6) rfl)))))))) (fun _ h9 => h9) rfl dX2_init_37 ?_
      rw [show (.int te2 : Value) = .int (if ri1 || ri2 then -te2 else te2) from by simp [yc13, yc120]]
      refine lv_istore_n (lv' := [(3, .int (if ri1 || ri2 then -te2 else te2)), (0, .ref h), (1, .ref g1), (2, .ref g2)]) hx hb dX2_init_40 rfl hl (by decide) rfl (fun ls hl => ?_)
      refine lv_aload_n hx hb dX2_init_41 rfl (lv_at hl 1 rfl) ?_
      refine g_new F hP hS (ci := 6) (C := RX5) (T := TX5) (N := 3) (fs := [.null, .null, .int 0]) iX5 tyX5 tyX5_ok (List.mem_cons_of_mem _ (List.mem_append_left _ (List.mem_append_left _ (List.mem_append_left _ (List.mem_append_left _ (List.mem_append_left _ (List.mem_append_left _ (List.mem_of_getElem? (i := 7) rfl)))))))) (List.mem_cons_of_mem _ (List.mem_append_left _ (List.mem_append_left _ (List.mem_append_left _ (List.mem_append_left _ (List.mem_append_left _ (List.mem_append_left _ (List.mem_of_getElem? (i := 8) rfl)))))))) (List.mem_cons_of_mem _ (List.mem_append_left _ (List.mem_append_left _ (List.mem_append_left _ (List.mem_append_left _ (List.mem_append_left _ (List.mem_append_left _ (List.mem_of_getElem? (i := 9) rfl)))))))) rfl (by intro j hj; match j, hj with | 0, _ => rfl | 1, _ => rfl | 2, _ => rfl | j + 3, hj => exact absurd hj (by omega)) (by rw [hR]; exact Nat.le_of_ble_eq_true rfl) (by rw [hR]; exact Nat.le_of_ble_eq_true rfl) dX2_init_42 (fun q121 H nq121 hP hS => ?_)
      obtain ⟨w122, ew122⟩ : ∃ z, z = g_up w7 q121 (.inr (6, [.null, .null, .int 0])) := ⟨_, rfl⟩
      have hP : g_P A G w122 H := by rw [ew122]; exact hP
      have f123 : w122 g1 = some (.inr (2, [.ref sh1, .int te1, .int mo1, .int la1, .int (g_b ri1)])) := by rw [ew122]; exact g_up_f f8 (g_neq f8 nq121)
      have f124 : w122 g2 = some (.inr (2, [.ref sh2, .int te2, .int mo2, .int la2, .int (g_b ri2)])) := by rw [ew122]; exact g_up_f f9 (g_neq f9 nq121)
      have f125 : w122 sh1 = some (.inr (5, [.int x1, .int y1, .int hd1, .int st1, .ref fr1])) := by rw [ew122]; exact g_up_f f10 (g_neq f10 nq121)
      have f126 : w122 sh2 = some (.inr (5, [.int x2, .int y2, .int hd2, .int st2, .ref fr2])) := by rw [ew122]; exact g_up_f f11 (g_neq f11 nq121)
      have f127 : w122 h = some (.inr (3, [.ref g1, .ref g2, .null])) := by rw [ew122]; exact g_up_f f12 (g_neq f12 nq121)
      have f128 : w122 q121 = some (.inr (6, [.null, .null, .int 0])) := by rw [ew122]; exact g_up_s _ _ _
      refine lv_dup hx hb dX2_init_45 rfl ?_
      refine lv_iconst (v := 2) hx hb dX2_init_46 (by decide) ?_
      refine g_newqS F hP hS (N' := 2) (List.mem_cons_of_mem _ (List.mem_append_left _ (List.mem_append_left _ (List.mem_append_left _ (List.mem_append_left _ (List.mem_append_left _ (List.mem_append_left _ (List.mem_of_getElem? (i := 10) rfl)))))))) (by decide) (by decide) (by decide) (by rw [hR]; exact Nat.le_of_ble_eq_true rfl) (by rw [hR]; exact Nat.le_of_ble_eq_true rfl) dX2_init_47 (fun q129 H nq129 hP hS => ?_)
      obtain ⟨w130, ew130⟩ : ∃ z, z = g_up w122 q129 (.inl (G.2.1 4, 2, .inr (.inr (.inr (.inr (fun _ => none)))))) := ⟨_, rfl⟩
      have hP : g_P A G w130 H := by rw [ew130]; exact hP
      have f131 : w130 g1 = some (.inr (2, [.ref sh1, .int te1, .int mo1, .int la1, .int (g_b ri1)])) := by rw [ew130]; exact g_up_f f123 (g_neq f123 nq129)
      have f132 : w130 g2 = some (.inr (2, [.ref sh2, .int te2, .int mo2, .int la2, .int (g_b ri2)])) := by rw [ew130]; exact g_up_f f124 (g_neq f124 nq129)
      have f133 : w130 sh1 = some (.inr (5, [.int x1, .int y1, .int hd1, .int st1, .ref fr1])) := by rw [ew130]; exact g_up_f f125 (g_neq f125 nq129)
      have f134 : w130 sh2 = some (.inr (5, [.int x2, .int y2, .int hd2, .int st2, .ref fr2])) := by rw [ew130]; exact g_up_f f126 (g_neq f126 nq129)
      have f135 : w130 h = some (.inr (3, [.ref g1, .ref g2, .null])) := by rw [ew130]; exact g_up_f f127 (g_neq f127 nq129)
      have f136 : w130 q121 = some (.inr (6, [.null, .null, .int 0])) := by rw [ew130]; exact g_up_f f128 (g_neq f128 nq129)
      have f137 : w130 q129 = some (.inl (G.2.1 4, 2, .inr (.inr (.inr (.inr (fun _ => none)))))) := by rw [ew130]; exact g_up_s _ _ _
      refine lv_dup hx hb dX2_init_50 rfl ?_
      refine lv_iconst (v := 0) hx hb dX2_init_51 (by decide) ?_
      refine g_new F hP hS (ci := 9) (C := RX9) (T := TX9) (N := 2) (fs := [.null, .int 0]) iX9 tyX9 tyX9_ok (List.mem_cons_of_mem _ (List.mem_append_left _ (List.mem_append_left _ (List.mem_append_left _ (List.mem_append_left _ (List.mem_append_left _ (List.mem_append_left _ (List.mem_of_getElem? (i := 10) rfl)))))))) (List.mem_cons_of_mem _ (List.mem_append_left _ (List.mem_append_left _ (List.mem_append_left _ (List.mem_append_left _ (List.mem_append_left _ (List.mem_append_left _ (List.mem_of_getElem? (i := 11) rfl)))))))) (List.mem_cons_of_mem _ (List.mem_append_left _ (List.mem_append_left _ (List.mem_append_left _ (List.mem_append_left _ (List.mem_append_left _ (List.mem_append_left _ (List.mem_of_getElem? (i := 12) rfl)))))))) rfl (by intro j hj; match j, hj with | 0, _ => rfl | 1, _ => rfl | j + 2, hj => exact absurd hj (by omega)) (by rw [hR]; exact Nat.le_of_ble_eq_true rfl) (by rw [hR]; exact Nat.le_of_ble_eq_true rfl) dX2_init_52 (fun q138 H nq138 hP hS => ?_)
      obtain ⟨w139, ew139⟩ : ∃ z, z = g_up w130 q138 (.inr (9, [.null, .int 0])) := ⟨_, rfl⟩
      have hP : g_P A G w139 H := by rw [ew139]; exact hP
      have f140 : w139 g1 = some (.inr (2, [.ref sh1, .int te1, .int mo1, .int la1, .int (g_b ri1)])) := by rw [ew139]; exact g_up_f f131 (g_neq f131 nq138)
      have f141 : w139 g2 = some (.inr (2, [.ref sh2, .int te2, .int mo2, .int la2, .int (g_b ri2)])) := by rw [ew139]; exact g_up_f f132 (g_neq f132 nq138)
      have f142 : w139 sh1 = some (.inr (5, [.int x1, .int y1, .int hd1, .int st1, .ref fr1])) := by rw [ew139]; exact g_up_f f133 (g_neq f133 nq138)
      have f143 : w139 sh2 = some (.inr (5, [.int x2, .int y2, .int hd2, .int st2, .ref fr2])) := by rw [ew139]; exact g_up_f f134 (g_neq f134 nq138)
      have f144 : w139 h = some (.inr (3, [.ref g1, .ref g2, .null])) := by rw [ew139]; exact g_up_f f135 (g_neq f135 nq138)
      have f145 : w139 q121 = some (.inr (6, [.null, .null, .int 0])) := by rw [ew139]; exact g_up_f f136 (g_neq f136 nq138)
      have f146 : w139 q129 = some (.inl (G.2.1 4, 2, .inr (.inr (.inr (.inr (fun _ => none)))))) := by rw [ew139]; exact g_up_f f137 (g_neq f137 nq138)
      have f147 : w139 q138 = some (.inr (9, [.null, .int 0])) := by rw [ew139]; exact g_up_s _ _ _
      refine lv_dup hx hb dX2_init_55 rfl ?_
      refine lv_aload_n hx hb dX2_init_56 rfl (lv_at hl 2 rfl) ?_
      refine g_get F hP (C := RX1) (T := TX1) (N := 5) iX1 f140 rfl 0 (by decide) (List.mem_cons_of_mem _ (List.mem_append_left _ (List.mem_append_left _ (List.mem_append_left _ (List.mem_append_left _ (List.mem_append_left _ (List.mem_append_left _ (List.mem_of_getElem? (i := 13) rfl)))))))) (fun _ h9 => h9) rfl dX2_init_57 ?_
      refine lv_aload_n hx hb dX2_init_60 rfl (lv_at hl 2 rfl) ?_
      refine g_get F hP (C := RX1) (T := TX1) (N := 5) iX1 f140 rfl 1 (by decide) (List.mem_cons_of_mem _ (List.mem_append_left _ (List.mem_append_left _ (List.mem_append_left _ (List.mem_append_left _ (List.mem_append_left _ (List.mem_append_left _ (List.mem_of_getElem? (i := 6) rfl)))))))) (fun _ h9 => h9) rfl dX2_init_61 ?_
      refine g_Iv (As := [.ref sh1, .int te1]) (rest := [.ref q138, .int 0, .ref q129, .ref q129, .ref q121, .ref q121, .ref h]) F hP hS (k_X9_init l A G w139 q138 sh1 te1 f147) (cwI 2 hts gX2_init_X9_init rfl rfl rfl (hts _ (List.mem_cons_of_mem _ (List.mem_append_left _ (List.mem_append_left _ (List.mem_append_left _ (List.mem_append_left _ (List.mem_append_left _ (List.mem_append_left _ (List.mem_of_getElem? (i := 12) rfl))))))))) (hts _ (List.mem_cons_of_mem _ (List.mem_append_left _ (List.mem_append_left _ (List.mem_append_left _ (List.mem_append_left _ (List.mem_append_left _ (List.mem_append_left _ (List.mem_of_getElem? (i := 15) rfl))))))))) (hts _ (List.mem_cons_of_mem _ (List.mem_append_left _ (List.mem_append_left _ (List.mem_append_left _ (List.mem_append_left _ (List.mem_append_left _ (List.mem_append_left _ (List.mem_of_getElem? (i := 16) rfl))))))))) rfl cd_X9_init ⟨by rw [hR]; exact Nat.le_of_ble_eq_true rfl, by rw [hR]; exact Nat.le_of_ble_eq_true rfl⟩) rfl hl.1 (Nat.le_of_ble_eq_true rfl) dX2_init_64 ⟨by rw [hR]; exact Nat.le_of_ble_eq_true rfl, by rw [hR]; exact Nat.le_of_ble_eq_true rfl⟩ rfl (fun w149 H locs h150 hP hS => ?_)
      have f151 : w149 g1 = some (.inr (2, [.ref sh1, .int te1, .int mo1, .int la1, .int (g_b ri1)])) := by rw [h150]; exact g_up_f f140 (g_neq f131 nq138)
      have f152 : w149 g2 = some (.inr (2, [.ref sh2, .int te2, .int mo2, .int la2, .int (g_b ri2)])) := by rw [h150]; exact g_up_f f141 (g_neq f132 nq138)
      have f153 : w149 sh1 = some (.inr (5, [.int x1, .int y1, .int hd1, .int st1, .ref fr1])) := by rw [h150]; exact g_up_f f142 (g_neq f133 nq138)
      have f154 : w149 sh2 = some (.inr (5, [.int x2, .int y2, .int hd2, .int st2, .ref fr2])) := by rw [h150]; exact g_up_f f143 (g_neq f134 nq138)
      have f155 : w149 h = some (.inr (3, [.ref g1, .ref g2, .null])) := by rw [h150]; exact g_up_f f144 (g_neq f135 nq138)
      have f156 : w149 q121 = some (.inr (6, [.null, .null, .int 0])) := by rw [h150]; exact g_up_f f145 (g_neq f136 nq138)
      have f157 : w149 q129 = some (.inl (G.2.1 4, 2, .inr (.inr (.inr (.inr (fun _ => none)))))) := by rw [h150]; exact g_up_f f146 (g_neq f137 nq138)
      have f158 : w149 q138 = some (.inr (9, [.ref sh1, .int te1])) := by rw [h150]; exact g_up_s _ _ _
      refine g_astqS F hP hS f157 f158 (by unfold vp_in; decide) dX2_init_67 (fun H locs hP hS => ?_)
      obtain ⟨w159, ew159⟩ : ∃ z, z = g_up w149 q129 (.inl (G.2.1 4, 2, .inr (.inr (.inr (.inr (va_up (fun _ => none) (0 : Int32).toNatClampNeg (some q138))))))) := ⟨_, rfl⟩
      have hP : g_P A G w159 H := by rw [ew159]; exact hP
      have f160 : w159 g1 = some (.inr (2, [.ref sh1, .int te1, .int mo1, .int la1, .int (g_b ri1)])) := by rw [ew159]; exact g_up_f f151 (g_neq f123 nq129)
      have f161 : w159 g2 = some (.inr (2, [.ref sh2, .int te2, .int mo2, .int la2, .int (g_b ri2)])) := by rw [ew159]; exact g_up_f f152 (g_neq f124 nq129)
      have f162 : w159 sh1 = some (.inr (5, [.int x1, .int y1, .int hd1, .int st1, .ref fr1])) := by rw [ew159]; exact g_up_f f153 (g_neq f125 nq129)
      have f163 : w159 sh2 = some (.inr (5, [.int x2, .int y2, .int hd2, .int st2, .ref fr2])) := by rw [ew159]; exact g_up_f f154 (g_neq f126 nq129)
      have f164 : w159 h = some (.inr (3, [.ref g1, .ref g2, .null])) := by rw [ew159]; exact g_up_f f155 (g_neq f127 nq129)
      have f165 : w159 q121 = some (.inr (6, [.null, .null, .int 0])) := by rw [ew159]; exact g_up_f f156 (g_neq f128 nq129)
      have f166 : w159 q138 = some (.inr (9, [.ref sh1, .int te1])) := by rw [ew159]; exact g_up_f f158 (Ne.symm (g_neq f137 nq138))
      have f167 : w159 q129 = some (.inl (G.2.1 4, 2, .inr (.inr (.inr (.inr (va_up (fun _ => none) (0 : Int32).toNatClampNeg (some q138))))))) := by rw [ew159]; exact g_up_s _ _ _
      refine lv_dup hx hb dX2_init_68 rfl ?_
      refine lv_iconst (v := 1) hx hb dX2_init_69 (by decide) ?_
      refine g_new F hP hS (ci := 9) (C := RX9) (T := TX9) (N := 2) (fs := [.null, .int 0]) iX9 tyX9 tyX9_ok (List.mem_cons_of_mem _ (List.mem_append_left _ (List.mem_append_left _ (List.mem_append_left _ (List.mem_append_left _ (List.mem_append_left _ (List.mem_append_left _ (List.mem_of_getElem? (i := 10) rfl)))))))) (List.mem_cons_of_mem _ (List.mem_append_left _ (List.mem_append_left _ (List.mem_append_left _ (List.mem_append_left _ (List.mem_append_left _ (List.mem_append_left _ (List.mem_of_getElem? (i := 11) rfl)))))))) (List.mem_cons_of_mem _ (List.mem_append_left _ (List.mem_append_left _ (List.mem_append_left _ (List.mem_append_left _ (List.mem_append_left _ (List.mem_append_left _ (List.mem_of_getElem? (i := 12) rfl)))))))) rfl (by intro j hj; match j, hj with | 0, _ => rfl | 1, _ => rfl | j + 2, hj => exact absurd hj (by omega)) (by rw [hR]; exact Nat.le_of_ble_eq_true rfl) (by rw [hR]; exact Nat.le_of_ble_eq_true rfl) dX2_init_70 (fun q168 H nq168 hP hS => ?_)
      obtain ⟨w169, ew169⟩ : ∃ z, z = g_up w159 q168 (.inr (9, [.null, .int 0])) := ⟨_, rfl⟩
      have hP : g_P A G w169 H := by rw [ew169]; exact hP
      have f170 : w169 g1 = some (.inr (2, [.ref sh1, .int te1, .int mo1, .int la1, .int (g_b ri1)])) := by rw [ew169]; exact g_up_f f160 (g_neq f160 nq168)
      have f171 : w169 g2 = some (.inr (2, [.ref sh2, .int te2, .int mo2, .int la2, .int (g_b ri2)])) := by rw [ew169]; exact g_up_f f161 (g_neq f161 nq168)
      have f172 : w169 sh1 = some (.inr (5, [.int x1, .int y1, .int hd1, .int st1, .ref fr1])) := by rw [ew169]; exact g_up_f f162 (g_neq f162 nq168)
      have f173 : w169 sh2 = some (.inr (5, [.int x2, .int y2, .int hd2, .int st2, .ref fr2])) := by rw [ew169]; exact g_up_f f163 (g_neq f163 nq168)
      have f174 : w169 h = some (.inr (3, [.ref g1, .ref g2, .null])) := by rw [ew169]; exact g_up_f f164 (g_neq f164 nq168)
      have f175 : w169 q121 = some (.inr (6, [.null, .null, .int 0])) := by rw [ew169]; exact g_up_f f165 (g_neq f165 nq168)
      have f176 : w169 q138 = some (.inr (9, [.ref sh1, .int te1])) := by rw [ew169]; exact g_up_f f166 (g_neq f166 nq168)
      have f177 : w169 q129 = some (.inl (G.2.1 4, 2, .inr (.inr (.inr (.inr (va_up (fun _ => none) (0 : Int32).toNatClampNeg (some q138))))))) := by rw [ew169]; exact g_up_f f167 (g_neq f167 nq168)
      have f178 : w169 q168 = some (.inr (9, [.null, .int 0])) := by rw [ew169]; exact g_up_s _ _ _
      refine lv_dup hx hb dX2_init_73 rfl ?_
      refine lv_aload_n hx hb dX2_init_74 rfl (lv_at hl 3 rfl) ?_
      refine g_get F hP (C := RX1) (T := TX1) (N := 5) iX1 f171 rfl 0 (by decide) (List.mem_cons_of_mem _ (List.mem_append_left _ (List.mem_append_left _ (List.mem_append_left _ (List.mem_append_left _ (List.mem_append_left _ (List.mem_append_left _ (List.mem_of_getElem? (i := 13) rfl)))))))) (fun _ h9 => h9) rfl dX2_init_75 ?_
      refine lv_iload_n hx hb dX2_init_78 rfl (lv_at hl 0 rfl) ?_
      refine g_Iv (As := [.ref sh2, .int (if ri1 || ri2 then -te2 else te2)]) (rest := [.ref q168, .int 1, .ref q129, .ref q129, .ref q121, .ref q121, .ref h]) F hP hS (k_X9_init l A G w169 q168 sh2 (if ri1 || ri2 then -te2 else te2) f178) (cwI 2 hts gX2_init_X9_init rfl rfl rfl (hts _ (List.mem_cons_of_mem _ (List.mem_append_left _ (List.mem_append_left _ (List.mem_append_left _ (List.mem_append_left _ (List.mem_append_left _ (List.mem_append_left _ (List.mem_of_getElem? (i := 12) rfl))))))))) (hts _ (List.mem_cons_of_mem _ (List.mem_append_left _ (List.mem_append_left _ (List.mem_append_left _ (List.mem_append_left _ (List.mem_append_left _ (List.mem_append_left _ (List.mem_of_getElem? (i := 15) rfl))))))))) (hts _ (List.mem_cons_of_mem _ (List.mem_append_left _ (List.mem_append_left _ (List.mem_append_left _ (List.mem_append_left _ (List.mem_append_left _ (List.mem_append_left _ (List.mem_of_getElem? (i := 16) rfl))))))))) rfl cd_X9_init ⟨by rw [hR]; exact Nat.le_of_ble_eq_true rfl, by rw [hR]; exact Nat.le_of_ble_eq_true rfl⟩) rfl hl.1 (Nat.le_of_ble_eq_true rfl) dX2_init_79 ⟨by rw [hR]; exact Nat.le_of_ble_eq_true rfl, by rw [hR]; exact Nat.le_of_ble_eq_true rfl⟩ rfl (fun w180 H locs h181 hP hS => ?_)
      have f182 : w180 g1 = some (.inr (2, [.ref sh1, .int te1, .int mo1, .int la1, .int (g_b ri1)])) := by rw [h181]; exact g_up_f f170 (g_neq f160 nq168)
      have f183 : w180 g2 = some (.inr (2, [.ref sh2, .int te2, .int mo2, .int la2, .int (g_b ri2)])) := by rw [h181]; exact g_up_f f171 (g_neq f161 nq168)
      have f184 : w180 sh1 = some (.inr (5, [.int x1, .int y1, .int hd1, .int st1, .ref fr1])) := by rw [h181]; exact g_up_f f172 (g_neq f162 nq168)
      have f185 : w180 sh2 = some (.inr (5, [.int x2, .int y2, .int hd2, .int st2, .ref fr2])) := by rw [h181]; exact g_up_f f173 (g_neq f163 nq168)
      have f186 : w180 h = some (.inr (3, [.ref g1, .ref g2, .null])) := by rw [h181]; exact g_up_f f174 (g_neq f164 nq168)
      have f187 : w180 q121 = some (.inr (6, [.null, .null, .int 0])) := by rw [h181]; exact g_up_f f175 (g_neq f165 nq168)
      have f188 : w180 q138 = some (.inr (9, [.ref sh1, .int te1])) := by rw [h181]; exact g_up_f f176 (g_neq f166 nq168)
      have f189 : w180 q129 = some (.inl (G.2.1 4, 2, .inr (.inr (.inr (.inr (va_up (fun _ => none) (0 : Int32).toNatClampNeg (some q138))))))) := by rw [h181]; exact g_up_f f177 (g_neq f167 nq168)
      have f190 : w180 q168 = some (.inr (9, [.ref sh2, .int (if ri1 || ri2 then -te2 else te2)])) := by rw [h181]; exact g_up_s _ _ _
      refine g_astqS F hP hS f189 f190 (by unfold vp_in; decide) dX2_init_82 (fun H locs hP hS => ?_)
      obtain ⟨w191, ew191⟩ : ∃ z, z = g_up w180 q129 (.inl (G.2.1 4, 2, .inr (.inr (.inr (.inr (va_up (va_up (fun _ => none) (0 : Int32).toNatClampNeg (some q138)) (1 : Int32).toNatClampNeg (some q168))))))) := ⟨_, rfl⟩
      have hP : g_P A G w191 H := by rw [ew191]; exact hP
      have f192 : w191 g1 = some (.inr (2, [.ref sh1, .int te1, .int mo1, .int la1, .int (g_b ri1)])) := by rw [ew191]; exact g_up_f f182 (g_neq f123 nq129)
      have f193 : w191 g2 = some (.inr (2, [.ref sh2, .int te2, .int mo2, .int la2, .int (g_b ri2)])) := by rw [ew191]; exact g_up_f f183 (g_neq f124 nq129)
      have f194 : w191 sh1 = some (.inr (5, [.int x1, .int y1, .int hd1, .int st1, .ref fr1])) := by rw [ew191]; exact g_up_f f184 (g_neq f125 nq129)
      have f195 : w191 sh2 = some (.inr (5, [.int x2, .int y2, .int hd2, .int st2, .ref fr2])) := by rw [ew191]; exact g_up_f f185 (g_neq f126 nq129)
      have f196 : w191 h = some (.inr (3, [.ref g1, .ref g2, .null])) := by rw [ew191]; exact g_up_f f186 (g_neq f127 nq129)
      have f197 : w191 q121 = some (.inr (6, [.null, .null, .int 0])) := by rw [ew191]; exact g_up_f f187 (g_neq f128 nq129)
      have f198 : w191 q138 = some (.inr (9, [.ref sh1, .int te1])) := by rw [ew191]; exact g_up_f f188 (Ne.symm (g_neq f137 nq138))
      have f199 : w191 q168 = some (.inr (9, [.ref sh2, .int (if ri1 || ri2 then -te2 else te2)])) := by rw [ew191]; exact g_up_f f190 (Ne.symm (g_neq f167 nq168))
      have f200 : w191 q129 = some (.inl (G.2.1 4, 2, .inr (.inr (.inr (.inr (va_up (va_up (fun _ => none) (0 : Int32).toNatClampNeg (some q138)) (1 : Int32).toNatClampNeg (some q168))))))) := by rw [ew191]; exact g_up_s _ _ _
      refine g_Iv (As := [.ref q129]) (rest := [.ref q121, .ref h]) F hP hS (k_X5_init l A G w191 q121 q129 f197) (cwI 1 hts gX2_init_X5_init rfl rfl rfl (hts _ (List.mem_cons_of_mem _ (List.mem_append_left _ (List.mem_append_left _ (List.mem_append_left _ (List.mem_append_left _ (List.mem_append_left _ (List.mem_append_left _ (List.mem_of_getElem? (i := 9) rfl))))))))) (hts _ (List.mem_cons_of_mem _ (List.mem_append_left _ (List.mem_append_left _ (List.mem_append_left _ (List.mem_append_left _ (List.mem_append_left _ (List.mem_append_left _ (List.mem_of_getElem? (i := 21) rfl))))))))) (hts _ (List.mem_cons_of_mem _ (List.mem_append_left _ (List.mem_append_left _ (List.mem_append_left _ (List.mem_append_left _ (List.mem_append_left _ (List.mem_append_left _ (List.mem_of_getElem? (i := 22) rfl))))))))) rfl cd_X5_init ⟨by rw [hR]; exact Nat.le_of_ble_eq_true rfl, by rw [hR]; exact Nat.le_of_ble_eq_true rfl⟩) rfl hl.1 (Nat.le_of_ble_eq_true rfl) dX2_init_83 ⟨by rw [hR]; exact Nat.le_of_ble_eq_true rfl, by rw [hR]; exact Nat.le_of_ble_eq_true rfl⟩ rfl (fun w202 H locs h203 hP hS => ?_)
      obtain ⟨q204, nq204, ew202⟩ := h203
      have f205 : w202 g1 = some (.inr (2, [.ref sh1, .int te1, .int mo1, .int la1, .int (g_b ri1)])) := by rw [ew202]; exact g_up_f (g_up_f f192 (g_neq f192 nq204)) (g_neq f8 nq121)
      have f206 : w202 g2 = some (.inr (2, [.ref sh2, .int te2, .int mo2, .int la2, .int (g_b ri2)])) := by rw [ew202]; exact g_up_f (g_up_f f193 (g_neq f193 nq204)) (g_neq f9 nq121)
      have f207 : w202 sh1 = some (.inr (5, [.int x1, .int y1, .int hd1, .int st1, .ref fr1])) := by rw [ew202]; exact g_up_f (g_up_f f194 (g_neq f194 nq204)) (g_neq f10 nq121)
      have f208 : w202 sh2 = some (.inr (5, [.int x2, .int y2, .int hd2, .int st2, .ref fr2])) := by rw [ew202]; exact g_up_f (g_up_f f195 (g_neq f195 nq204)) (g_neq f11 nq121)
      have f209 : w202 h = some (.inr (3, [.ref g1, .ref g2, .null])) := by rw [ew202]; exact g_up_f (g_up_f f196 (g_neq f196 nq204)) (g_neq f12 nq121)
      have f210 : w202 q138 = some (.inr (9, [.ref sh1, .int te1])) := by rw [ew202]; exact g_up_f (g_up_f f198 (g_neq f198 nq204)) (g_ne f198 f197 rfl)
      have f211 : w202 q168 = some (.inr (9, [.ref sh2, .int (if ri1 || ri2 then -te2 else te2)])) := by rw [ew202]; exact g_up_f (g_up_f f199 (g_neq f199 nq204)) (g_ne f199 f197 rfl)
      have f212 : w202 q129 = some (.inl (G.2.1 4, 2, .inr (.inr (.inr (.inr (va_up (va_up (fun _ => none) (0 : Int32).toNatClampNeg (some q138)) (1 : Int32).toNatClampNeg (some q168))))))) := by rw [ew202]; exact g_up_f (g_up_f f200 (g_neq f200 nq204)) (g_ne f200 f197 rfl)
      have f213 : w202 q204 = some (.inr (1, [.long 0, .long 1])) := by rw [ew202]; exact g_up_f (g_up_s _ _ _) (Ne.symm (g_neq f197 nq204))
      have f214 : w202 q121 = some (.inr (6, [.ref q129, .ref q204, .int 0])) := by rw [ew202]; exact g_up_s _ _ _
      refine g_putF F hP hS (C := RX2) (T := TX2) (N := 3) (v := .ref q121) (ty := (.object "GearTrains$Tie")) iX2 tyX2 tyX2_ok nmX2 f209 rfl 2 (by decide) (List.mem_cons_of_mem _ (List.mem_append_left _ (List.mem_append_left _ (List.mem_append_left _ (List.mem_append_left _ (List.mem_append_left _ (List.mem_append_left _ (List.mem_of_getElem? (i := 14) rfl)))))))) (fun _ h9 => h9) rfl hnm0 rfl (by decide +kernel) rfl rfl (by show 2 < 3; decide) dX2_init_86 (fun H locs hP hS => ?_)
      obtain ⟨w215, ew215⟩ : ∃ z, z = g_up w202 h (.inr (3, [.ref g1, .ref g2, .ref q121])) := ⟨_, rfl⟩
      have hP : g_P A G w215 H := by rw [ew215]; exact hP
      have f216 : w215 g1 = some (.inr (2, [.ref sh1, .int te1, .int mo1, .int la1, .int (g_b ri1)])) := by rw [ew215]; exact g_up_f f205 (g_ne f205 f209 rfl)
      have f217 : w215 g2 = some (.inr (2, [.ref sh2, .int te2, .int mo2, .int la2, .int (g_b ri2)])) := by rw [ew215]; exact g_up_f f206 (g_ne f206 f209 rfl)
      have f218 : w215 sh1 = some (.inr (5, [.int x1, .int y1, .int hd1, .int st1, .ref fr1])) := by rw [ew215]; exact g_up_f f207 (g_ne f207 f209 rfl)
      have f219 : w215 sh2 = some (.inr (5, [.int x2, .int y2, .int hd2, .int st2, .ref fr2])) := by rw [ew215]; exact g_up_f f208 (g_ne f208 f209 rfl)
      have f220 : w215 q138 = some (.inr (9, [.ref sh1, .int te1])) := by rw [ew215]; exact g_up_f f210 (Ne.symm (g_neq f135 nq138))
      have f221 : w215 q168 = some (.inr (9, [.ref sh2, .int (if ri1 || ri2 then -te2 else te2)])) := by rw [ew215]; exact g_up_f f211 (Ne.symm (g_neq f164 nq168))
      have f222 : w215 q129 = some (.inl (G.2.1 4, 2, .inr (.inr (.inr (.inr (va_up (va_up (fun _ => none) (0 : Int32).toNatClampNeg (some q138)) (1 : Int32).toNatClampNeg (some q168))))))) := by rw [ew215]; exact g_up_f f212 (Ne.symm (g_neq f127 nq129))
      have f223 : w215 q204 = some (.inr (1, [.long 0, .long 1])) := by rw [ew215]; exact g_up_f f213 (g_ne f213 f209 rfl)
      have f224 : w215 q121 = some (.inr (6, [.ref q129, .ref q204, .int 0])) := by rw [ew215]; exact g_up_f f214 (Ne.symm (g_neq f12 nq121))
      have f225 : w215 h = some (.inr (3, [.ref g1, .ref g2, .ref q121])) := by rw [ew215]; exact g_up_s _ _ _
      rw [hQ]
      refine g_vret F hP hS hlocks hr dX2_init_89 (by first | exact Nat.le_of_ble_eq_true rfl | omega) (by first | exact Nat.le_of_ble_eq_true rfl | omega) ?_
      have nnq121 := nq121
      rw [ew7] at nnq121
      obtain ⟨ddq121_0, nnq121⟩ := g_up_none nnq121
      rw [ew1] at nnq121
      obtain ⟨ddq121_1, nnq121⟩ := g_up_none nnq121
      have nnq129 := nq129
      rw [ew122] at nnq129
      obtain ⟨ddq129_0, nnq129⟩ := g_up_none nnq129
      rw [ew7] at nnq129
      obtain ⟨ddq129_1, nnq129⟩ := g_up_none nnq129
      rw [ew1] at nnq129
      obtain ⟨ddq129_2, nnq129⟩ := g_up_none nnq129
      have nnq138 := nq138
      rw [ew130] at nnq138
      obtain ⟨ddq138_0, nnq138⟩ := g_up_none nnq138
      rw [ew122] at nnq138
      obtain ⟨ddq138_1, nnq138⟩ := g_up_none nnq138
      rw [ew7] at nnq138
      obtain ⟨ddq138_2, nnq138⟩ := g_up_none nnq138
      rw [ew1] at nnq138
      obtain ⟨ddq138_3, nnq138⟩ := g_up_none nnq138
      have nnq168 := nq168
      rw [ew159] at nnq168
      obtain ⟨ddq168_0, nnq168⟩ := g_up_none nnq168
      rw [h150] at nnq168
      obtain ⟨ddq168_1, nnq168⟩ := g_up_none nnq168
      rw [ew139] at nnq168
      obtain ⟨ddq168_2, nnq168⟩ := g_up_none nnq168
      rw [ew130] at nnq168
      obtain ⟨ddq168_3, nnq168⟩ := g_up_none nnq168
      rw [ew122] at nnq168
      obtain ⟨ddq168_4, nnq168⟩ := g_up_none nnq168
      rw [ew7] at nnq168
      obtain ⟨ddq168_5, nnq168⟩ := g_up_none nnq168
      rw [ew1] at nnq168
      obtain ⟨ddq168_6, nnq168⟩ := g_up_none nnq168
      have nnq204 := nq204
      rw [ew191] at nnq204
      obtain ⟨ddq204_0, nnq204⟩ := g_up_none nnq204
      rw [h181] at nnq204
      obtain ⟨ddq204_1, nnq204⟩ := g_up_none nnq204
      rw [ew169] at nnq204
      obtain ⟨ddq204_2, nnq204⟩ := g_up_none nnq204
      rw [ew159] at nnq204
      obtain ⟨ddq204_3, nnq204⟩ := g_up_none nnq204
      rw [h150] at nnq204
      obtain ⟨ddq204_4, nnq204⟩ := g_up_none nnq204
      rw [ew139] at nnq204
      obtain ⟨ddq204_5, nnq204⟩ := g_up_none nnq204
      rw [ew130] at nnq204
      obtain ⟨ddq204_6, nnq204⟩ := g_up_none nnq204
      rw [ew122] at nnq204
      obtain ⟨ddq204_7, nnq204⟩ := g_up_none nnq204
      rw [ew7] at nnq204
      obtain ⟨ddq204_8, nnq204⟩ := g_up_none nnq204
      rw [ew1] at nnq204
      obtain ⟨ddq204_9, nnq204⟩ := g_up_none nnq204
      refine ⟨q121, q129, q204, q138, q168, (va_up (va_up (fun _ => none) (0 : Int32).toNatClampNeg (some q138)) (1 : Int32).toNatClampNeg (some q168)), ⟨nnq121, nnq129, nnq204, nnq138, nnq168⟩, ⟨Ne.symm ddq129_0, Ne.symm ddq204_7, Ne.symm ddq138_1, Ne.symm ddq168_4, Ne.symm ddq204_0, Ne.symm ddq138_0, Ne.symm ddq168_0, ddq204_4, ddq204_1, Ne.symm ddq168_1⟩, ?_, ?_⟩
      · exact ⟨by simp [va_up, show (0 : Int32).toNatClampNeg = 0 from by decide, show (1 : Int32).toNatClampNeg = 1 from by decide, show (2 : Int32).toNatClampNeg = 2 from by decide], by simp [va_up, show (0 : Int32).toNatClampNeg = 0 from by decide, show (1 : Int32).toNatClampNeg = 1 from by decide, show (2 : Int32).toNatClampNeg = 2 from by decide]⟩
      · funext z
        by_cases z_h : z = h
        · rw [z_h, f225]; exact (g_up_s _ _ _).symm
        rw [g_up_n _ z_h]
        by_cases z_q168 : z = q168
        · rw [z_q168, f221]; exact (g_up_s _ _ _).symm
        rw [g_up_n _ z_q168]
        by_cases z_q138 : z = q138
        · rw [z_q138, f220]; exact (g_up_s _ _ _).symm
        rw [g_up_n _ z_q138]
        by_cases z_q204 : z = q204
        · rw [z_q204, f223]; exact (g_up_s _ _ _).symm
        rw [g_up_n _ z_q204]
        by_cases z_q129 : z = q129
        · rw [z_q129, f222]; exact (g_up_s _ _ _).symm
        rw [g_up_n _ z_q129]
        by_cases z_q121 : z = q121
        · rw [z_q121, f224]; exact (g_up_s _ _ _).symm
        rw [g_up_n _ z_q121]
        rw [ew215, g_up_n _ z_h]
        rw [ew202, g_up_n _ z_q121, g_up_n _ z_q204]
        rw [ew191, g_up_n _ z_q129]
        rw [h181, g_up_n _ z_q168]
        rw [ew169, g_up_n _ z_q168]
        rw [ew159, g_up_n _ z_q129]
        rw [h150, g_up_n _ z_q138]
        rw [ew139, g_up_n _ z_q138]
        rw [ew130, g_up_n _ z_q129]
        rw [ew122, g_up_n _ z_q121]
        rw [ew7, g_up_n _ z_h]
        rw [ew1, g_up_n _ z_h]
    · have yc120 : ri2 = true := g_b1.mp c120
      refine lv_aload_n hx hb dX2_init_28 rfl (lv_at hl 2 rfl) ?_
      refine g_get F hP (C := RX1) (T := TX1) (N := 5) iX1 f9 rfl 1 (by decide) (List.mem_cons_of_mem _ (List.mem_append_left _ (List.mem_append_left _ (List.mem_append_left _ (List.mem_append_left _ (List.mem_append_left _ (List.mem_append_left _ (List.mem_of_getElem? (i := 6) rfl)))))))) (fun _ h9 => h9) rfl dX2_init_29 ?_
      refine lv_ineg hx hb dX2_init_32 ?_
      refine lv_topi (fun v226 ev226 => ?_)
      obtain rfl : v226 = -te2 := by
        exact ev226
      refine lv_goto (tgt := 40) hx hb dX2_init_33 (by decide) ?_
      rw [show (.int (-te2) : Value) = .int (if ri1 || ri2 then -te2 else te2) from by simp [yc13, yc120]]
      refine lv_istore_n (lv' := [(3, .int (if ri1 || ri2 then -te2 else te2)), (0, .ref h), (1, .ref g1), (2, .ref g2)]) hx hb dX2_init_40 rfl hl (by decide) rfl (fun ls hl => ?_)
      refine lv_aload_n hx hb dX2_init_41 rfl (lv_at hl 1 rfl) ?_
      refine g_new F hP hS (ci := 6) (C := RX5) (T := TX5) (N := 3) (fs := [.null, .null, .int 0]) iX5 tyX5 tyX5_ok (List.mem_cons_of_mem _ (List.mem_append_left _ (List.mem_append_left _ (List.mem_append_left _ (List.mem_append_left _ (List.mem_append_left _ (List.mem_append_left _ (List.mem_of_getElem? (i := 7) rfl)))))))) (List.mem_cons_of_mem _ (List.mem_append_left _ (List.mem_append_left _ (List.mem_append_left _ (List.mem_append_left _ (List.mem_append_left _ (List.mem_append_left _ (List.mem_of_getElem? (i := 8) rfl)))))))) (List.mem_cons_of_mem _ (List.mem_append_left _ (List.mem_append_left _ (List.mem_append_left _ (List.mem_append_left _ (List.mem_append_left _ (List.mem_append_left _ (List.mem_of_getElem? (i := 9) rfl)))))))) rfl (by intro j hj; match j, hj with | 0, _ => rfl | 1, _ => rfl | 2, _ => rfl | j + 3, hj => exact absurd hj (by omega)) (by rw [hR]; exact Nat.le_of_ble_eq_true rfl) (by rw [hR]; exact Nat.le_of_ble_eq_true rfl) dX2_init_42 (fun q227 H nq227 hP hS => ?_)
      obtain ⟨w228, ew228⟩ : ∃ z, z = g_up w7 q227 (.inr (6, [.null, .null, .int 0])) := ⟨_, rfl⟩
      have hP : g_P A G w228 H := by rw [ew228]; exact hP
      have f229 : w228 g1 = some (.inr (2, [.ref sh1, .int te1, .int mo1, .int la1, .int (g_b ri1)])) := by rw [ew228]; exact g_up_f f8 (g_neq f8 nq227)
      have f230 : w228 g2 = some (.inr (2, [.ref sh2, .int te2, .int mo2, .int la2, .int (g_b ri2)])) := by rw [ew228]; exact g_up_f f9 (g_neq f9 nq227)
      have f231 : w228 sh1 = some (.inr (5, [.int x1, .int y1, .int hd1, .int st1, .ref fr1])) := by rw [ew228]; exact g_up_f f10 (g_neq f10 nq227)
      have f232 : w228 sh2 = some (.inr (5, [.int x2, .int y2, .int hd2, .int st2, .ref fr2])) := by rw [ew228]; exact g_up_f f11 (g_neq f11 nq227)
      have f233 : w228 h = some (.inr (3, [.ref g1, .ref g2, .null])) := by rw [ew228]; exact g_up_f f12 (g_neq f12 nq227)
      have f234 : w228 q227 = some (.inr (6, [.null, .null, .int 0])) := by rw [ew228]; exact g_up_s _ _ _
      refine lv_dup hx hb dX2_init_45 rfl ?_
      refine lv_iconst (v := 2) hx hb dX2_init_46 (by decide) ?_
      refine g_newqS F hP hS (N' := 2) (List.mem_cons_of_mem _ (List.mem_append_left _ (List.mem_append_left _ (List.mem_append_left _ (List.mem_append_left _ (List.mem_append_left _ (List.mem_append_left _ (List.mem_of_getElem? (i := 10) rfl)))))))) (by decide) (by decide) (by decide) (by rw [hR]; exact Nat.le_of_ble_eq_true rfl) (by rw [hR]; exact Nat.le_of_ble_eq_true rfl) dX2_init_47 (fun q235 H nq235 hP hS => ?_)
      obtain ⟨w236, ew236⟩ : ∃ z, z = g_up w228 q235 (.inl (G.2.1 4, 2, .inr (.inr (.inr (.inr (fun _ => none)))))) := ⟨_, rfl⟩
      have hP : g_P A G w236 H := by rw [ew236]; exact hP
      have f237 : w236 g1 = some (.inr (2, [.ref sh1, .int te1, .int mo1, .int la1, .int (g_b ri1)])) := by rw [ew236]; exact g_up_f f229 (g_neq f229 nq235)
      have f238 : w236 g2 = some (.inr (2, [.ref sh2, .int te2, .int mo2, .int la2, .int (g_b ri2)])) := by rw [ew236]; exact g_up_f f230 (g_neq f230 nq235)
      have f239 : w236 sh1 = some (.inr (5, [.int x1, .int y1, .int hd1, .int st1, .ref fr1])) := by rw [ew236]; exact g_up_f f231 (g_neq f231 nq235)
      have f240 : w236 sh2 = some (.inr (5, [.int x2, .int y2, .int hd2, .int st2, .ref fr2])) := by rw [ew236]; exact g_up_f f232 (g_neq f232 nq235)
      have f241 : w236 h = some (.inr (3, [.ref g1, .ref g2, .null])) := by rw [ew236]; exact g_up_f f233 (g_neq f233 nq235)
      have f242 : w236 q227 = some (.inr (6, [.null, .null, .int 0])) := by rw [ew236]; exact g_up_f f234 (g_neq f234 nq235)
      have f243 : w236 q235 = some (.inl (G.2.1 4, 2, .inr (.inr (.inr (.inr (fun _ => none)))))) := by rw [ew236]; exact g_up_s _ _ _
      refine lv_dup hx hb dX2_init_50 rfl ?_
      refine lv_iconst (v := 0) hx hb dX2_init_51 (by decide) ?_
      refine g_new F hP hS (ci := 9) (C := RX9) (T := TX9) (N := 2) (fs := [.null, .int 0]) iX9 tyX9 tyX9_ok (List.mem_cons_of_mem _ (List.mem_append_left _ (List.mem_append_left _ (List.mem_append_left _ (List.mem_append_left _ (List.mem_append_left _ (List.mem_append_left _ (List.mem_of_getElem? (i := 10) rfl)))))))) (List.mem_cons_of_mem _ (List.mem_append_left _ (List.mem_append_left _ (List.mem_append_left _ (List.mem_append_left _ (List.mem_append_left _ (List.mem_append_left _ (List.mem_of_getElem? (i := 11) rfl)))))))) (List.mem_cons_of_mem _ (List.mem_append_left _ (List.mem_append_left _ (List.mem_append_left _ (List.mem_append_left _ (List.mem_append_left _ (List.mem_append_left _ (List.mem_of_getElem? (i := 12) rfl)))))))) rfl (by intro j hj; match j, hj with | 0, _ => rfl | 1, _ => rfl | j + 2, hj => exact absurd hj (by omega)) (by rw [hR]; exact Nat.le_of_ble_eq_true rfl) (by rw [hR]; exact Nat.le_of_ble_eq_true rfl) dX2_init_52 (fun q244 H nq244 hP hS => ?_)
      obtain ⟨w245, ew245⟩ : ∃ z, z = g_up w236 q244 (.inr (9, [.null, .int 0])) := ⟨_, rfl⟩
      have hP : g_P A G w245 H := by rw [ew245]; exact hP
      have f246 : w245 g1 = some (.inr (2, [.ref sh1, .int te1, .int mo1, .int la1, .int (g_b ri1)])) := by rw [ew245]; exact g_up_f f237 (g_neq f237 nq244)
      have f247 : w245 g2 = some (.inr (2, [.ref sh2, .int te2, .int mo2, .int la2, .int (g_b ri2)])) := by rw [ew245]; exact g_up_f f238 (g_neq f238 nq244)
      have f248 : w245 sh1 = some (.inr (5, [.int x1, .int y1, .int hd1, .int st1, .ref fr1])) := by rw [ew245]; exact g_up_f f239 (g_neq f239 nq244)
      have f249 : w245 sh2 = some (.inr (5, [.int x2, .int y2, .int hd2, .int st2, .ref fr2])) := by rw [ew245]; exact g_up_f f240 (g_neq f240 nq244)
      have f250 : w245 h = some (.inr (3, [.ref g1, .ref g2, .null])) := by rw [ew245]; exact g_up_f f241 (g_neq f241 nq244)
      have f251 : w245 q227 = some (.inr (6, [.null, .null, .int 0])) := by rw [ew245]; exact g_up_f f242 (g_neq f242 nq244)
      have f252 : w245 q235 = some (.inl (G.2.1 4, 2, .inr (.inr (.inr (.inr (fun _ => none)))))) := by rw [ew245]; exact g_up_f f243 (g_neq f243 nq244)
      have f253 : w245 q244 = some (.inr (9, [.null, .int 0])) := by rw [ew245]; exact g_up_s _ _ _
      refine lv_dup hx hb dX2_init_55 rfl ?_
      refine lv_aload_n hx hb dX2_init_56 rfl (lv_at hl 2 rfl) ?_
      refine g_get F hP (C := RX1) (T := TX1) (N := 5) iX1 f246 rfl 0 (by decide) (List.mem_cons_of_mem _ (List.mem_append_left _ (List.mem_append_left _ (List.mem_append_left _ (List.mem_append_left _ (List.mem_append_left _ (List.mem_append_left _ (List.mem_of_getElem? (i := 13) rfl)))))))) (fun _ h9 => h9) rfl dX2_init_57 ?_
      refine lv_aload_n hx hb dX2_init_60 rfl (lv_at hl 2 rfl) ?_
      refine g_get F hP (C := RX1) (T := TX1) (N := 5) iX1 f246 rfl 1 (by decide) (List.mem_cons_of_mem _ (List.mem_append_left _ (List.mem_append_left _ (List.mem_append_left _ (List.mem_append_left _ (List.mem_append_left _ (List.mem_append_left _ (List.mem_of_getElem? (i := 6) rfl)))))))) (fun _ h9 => h9) rfl dX2_init_61 ?_
      refine g_Iv (As := [.ref sh1, .int te1]) (rest := [.ref q244, .int 0, .ref q235, .ref q235, .ref q227, .ref q227, .ref h]) F hP hS (k_X9_init l A G w245 q244 sh1 te1 f253) (cwI 2 hts gX2_init_X9_init rfl rfl rfl (hts _ (List.mem_cons_of_mem _ (List.mem_append_left _ (List.mem_append_left _ (List.mem_append_left _ (List.mem_append_left _ (List.mem_append_left _ (List.mem_append_left _ (List.mem_of_getElem? (i := 12) rfl))))))))) (hts _ (List.mem_cons_of_mem _ (List.mem_append_left _ (List.mem_append_left _ (List.mem_append_left _ (List.mem_append_left _ (List.mem_append_left _ (List.mem_append_left _ (List.mem_of_getElem? (i := 15) rfl))))))))) (hts _ (List.mem_cons_of_mem _ (List.mem_append_left _ (List.mem_append_left _ (List.mem_append_left _ (List.mem_append_left _ (List.mem_append_left _ (List.mem_append_left _ (List.mem_of_getElem? (i := 16) rfl))))))))) rfl cd_X9_init ⟨by rw [hR]; exact Nat.le_of_ble_eq_true rfl, by rw [hR]; exact Nat.le_of_ble_eq_true rfl⟩) rfl hl.1 (Nat.le_of_ble_eq_true rfl) dX2_init_64 ⟨by rw [hR]; exact Nat.le_of_ble_eq_true rfl, by rw [hR]; exact Nat.le_of_ble_eq_true rfl⟩ rfl (fun w255 H locs h256 hP hS => ?_)
      have f257 : w255 g1 = some (.inr (2, [.ref sh1, .int te1, .int mo1, .int la1, .int (g_b ri1)])) := by rw [h256]; exact g_up_f f246 (g_neq f237 nq244)
      have f258 : w255 g2 = some (.inr (2, [.ref sh2, .int te2, .int mo2, .int la2, .int (g_b ri2)])) := by rw [h256]; exact g_up_f f247 (g_neq f238 nq244)
      have f259 : w255 sh1 = some (.inr (5, [.int x1, .int y1, .int hd1, .int st1, .ref fr1])) := by rw [h256]; exact g_up_f f248 (g_neq f239 nq244)
      have f260 : w255 sh2 = some (.inr (5, [.int x2, .int y2, .int hd2, .int st2, .ref fr2])) := by rw [h256]; exact g_up_f f249 (g_neq f240 nq244)
      have f261 : w255 h = some (.inr (3, [.ref g1, .ref g2, .null])) := by rw [h256]; exact g_up_f f250 (g_neq f241 nq244)
      have f262 : w255 q227 = some (.inr (6, [.null, .null, .int 0])) := by rw [h256]; exact g_up_f f251 (g_neq f242 nq244)
      have f263 : w255 q235 = some (.inl (G.2.1 4, 2, .inr (.inr (.inr (.inr (fun _ => none)))))) := by rw [h256]; exact g_up_f f252 (g_neq f243 nq244)
      have f264 : w255 q244 = some (.inr (9, [.ref sh1, .int te1])) := by rw [h256]; exact g_up_s _ _ _
      refine g_astqS F hP hS f263 f264 (by unfold vp_in; decide) dX2_init_67 (fun H locs hP hS => ?_)
      obtain ⟨w265, ew265⟩ : ∃ z, z = g_up w255 q235 (.inl (G.2.1 4, 2, .inr (.inr (.inr (.inr (va_up (fun _ => none) (0 : Int32).toNatClampNeg (some q244))))))) := ⟨_, rfl⟩
      have hP : g_P A G w265 H := by rw [ew265]; exact hP
      have f266 : w265 g1 = some (.inr (2, [.ref sh1, .int te1, .int mo1, .int la1, .int (g_b ri1)])) := by rw [ew265]; exact g_up_f f257 (g_neq f229 nq235)
      have f267 : w265 g2 = some (.inr (2, [.ref sh2, .int te2, .int mo2, .int la2, .int (g_b ri2)])) := by rw [ew265]; exact g_up_f f258 (g_neq f230 nq235)
      have f268 : w265 sh1 = some (.inr (5, [.int x1, .int y1, .int hd1, .int st1, .ref fr1])) := by rw [ew265]; exact g_up_f f259 (g_neq f231 nq235)
      have f269 : w265 sh2 = some (.inr (5, [.int x2, .int y2, .int hd2, .int st2, .ref fr2])) := by rw [ew265]; exact g_up_f f260 (g_neq f232 nq235)
      have f270 : w265 h = some (.inr (3, [.ref g1, .ref g2, .null])) := by rw [ew265]; exact g_up_f f261 (g_neq f233 nq235)
      have f271 : w265 q227 = some (.inr (6, [.null, .null, .int 0])) := by rw [ew265]; exact g_up_f f262 (g_neq f234 nq235)
      have f272 : w265 q244 = some (.inr (9, [.ref sh1, .int te1])) := by rw [ew265]; exact g_up_f f264 (Ne.symm (g_neq f243 nq244))
      have f273 : w265 q235 = some (.inl (G.2.1 4, 2, .inr (.inr (.inr (.inr (va_up (fun _ => none) (0 : Int32).toNatClampNeg (some q244))))))) := by rw [ew265]; exact g_up_s _ _ _
      refine lv_dup hx hb dX2_init_68 rfl ?_
      refine lv_iconst (v := 1) hx hb dX2_init_69 (by decide) ?_
      refine g_new F hP hS (ci := 9) (C := RX9) (T := TX9) (N := 2) (fs := [.null, .int 0]) iX9 tyX9 tyX9_ok (List.mem_cons_of_mem _ (List.mem_append_left _ (List.mem_append_left _ (List.mem_append_left _ (List.mem_append_left _ (List.mem_append_left _ (List.mem_append_left _ (List.mem_of_getElem? (i := 10) rfl)))))))) (List.mem_cons_of_mem _ (List.mem_append_left _ (List.mem_append_left _ (List.mem_append_left _ (List.mem_append_left _ (List.mem_append_left _ (List.mem_append_left _ (List.mem_of_getElem? (i := 11) rfl)))))))) (List.mem_cons_of_mem _ (List.mem_append_left _ (List.mem_append_left _ (List.mem_append_left _ (List.mem_append_left _ (List.mem_append_left _ (List.mem_append_left _ (List.mem_of_getElem? (i := 12) rfl)))))))) rfl (by intro j hj; match j, hj with | 0, _ => rfl | 1, _ => rfl | j + 2, hj => exact absurd hj (by omega)) (by rw [hR]; exact Nat.le_of_ble_eq_true rfl) (by rw [hR]; exact Nat.le_of_ble_eq_true rfl) dX2_init_70 (fun q274 H nq274 hP hS => ?_)
      obtain ⟨w275, ew275⟩ : ∃ z, z = g_up w265 q274 (.inr (9, [.null, .int 0])) := ⟨_, rfl⟩
      have hP : g_P A G w275 H := by rw [ew275]; exact hP
      have f276 : w275 g1 = some (.inr (2, [.ref sh1, .int te1, .int mo1, .int la1, .int (g_b ri1)])) := by rw [ew275]; exact g_up_f f266 (g_neq f266 nq274)
      have f277 : w275 g2 = some (.inr (2, [.ref sh2, .int te2, .int mo2, .int la2, .int (g_b ri2)])) := by rw [ew275]; exact g_up_f f267 (g_neq f267 nq274)
      have f278 : w275 sh1 = some (.inr (5, [.int x1, .int y1, .int hd1, .int st1, .ref fr1])) := by rw [ew275]; exact g_up_f f268 (g_neq f268 nq274)
      have f279 : w275 sh2 = some (.inr (5, [.int x2, .int y2, .int hd2, .int st2, .ref fr2])) := by rw [ew275]; exact g_up_f f269 (g_neq f269 nq274)
      have f280 : w275 h = some (.inr (3, [.ref g1, .ref g2, .null])) := by rw [ew275]; exact g_up_f f270 (g_neq f270 nq274)
      have f281 : w275 q227 = some (.inr (6, [.null, .null, .int 0])) := by rw [ew275]; exact g_up_f f271 (g_neq f271 nq274)
      have f282 : w275 q244 = some (.inr (9, [.ref sh1, .int te1])) := by rw [ew275]; exact g_up_f f272 (g_neq f272 nq274)
      have f283 : w275 q235 = some (.inl (G.2.1 4, 2, .inr (.inr (.inr (.inr (va_up (fun _ => none) (0 : Int32).toNatClampNeg (some q244))))))) := by rw [ew275]; exact g_up_f f273 (g_neq f273 nq274)
      have f284 : w275 q274 = some (.inr (9, [.null, .int 0])) := by rw [ew275]; exact g_up_s _ _ _
      refine lv_dup hx hb dX2_init_73 rfl ?_
      refine lv_aload_n hx hb dX2_init_74 rfl (lv_at hl 3 rfl) ?_
      refine g_get F hP (C := RX1) (T := TX1) (N := 5) iX1 f277 rfl 0 (by decide) (List.mem_cons_of_mem _ (List.mem_append_left _ (List.mem_append_left _ (List.mem_append_left _ (List.mem_append_left _ (List.mem_append_left _ (List.mem_append_left _ (List.mem_of_getElem? (i := 13) rfl)))))))) (fun _ h9 => h9) rfl dX2_init_75 ?_
      refine lv_iload_n hx hb dX2_init_78 rfl (lv_at hl 0 rfl) ?_
      refine g_Iv (As := [.ref sh2, .int (if ri1 || ri2 then -te2 else te2)]) (rest := [.ref q274, .int 1, .ref q235, .ref q235, .ref q227, .ref q227, .ref h]) F hP hS (k_X9_init l A G w275 q274 sh2 (if ri1 || ri2 then -te2 else te2) f284) (cwI 2 hts gX2_init_X9_init rfl rfl rfl (hts _ (List.mem_cons_of_mem _ (List.mem_append_left _ (List.mem_append_left _ (List.mem_append_left _ (List.mem_append_left _ (List.mem_append_left _ (List.mem_append_left _ (List.mem_of_getElem? (i := 12) rfl))))))))) (hts _ (List.mem_cons_of_mem _ (List.mem_append_left _ (List.mem_append_left _ (List.mem_append_left _ (List.mem_append_left _ (List.mem_append_left _ (List.mem_append_left _ (List.mem_of_getElem? (i := 15) rfl))))))))) (hts _ (List.mem_cons_of_mem _ (List.mem_append_left _ (List.mem_append_left _ (List.mem_append_left _ (List.mem_append_left _ (List.mem_append_left _ (List.mem_append_left _ (List.mem_of_getElem? (i := 16) rfl))))))))) rfl cd_X9_init ⟨by rw [hR]; exact Nat.le_of_ble_eq_true rfl, by rw [hR]; exact Nat.le_of_ble_eq_true rfl⟩) rfl hl.1 (Nat.le_of_ble_eq_true rfl) dX2_init_79 ⟨by rw [hR]; exact Nat.le_of_ble_eq_true rfl, by rw [hR]; exact Nat.le_of_ble_eq_true rfl⟩ rfl (fun w286 H locs h287 hP hS => ?_)
      have f288 : w286 g1 = some (.inr (2, [.ref sh1, .int te1, .int mo1, .int la1, .int (g_b ri1)])) := by rw [h287]; exact g_up_f f276 (g_neq f266 nq274)
      have f289 : w286 g2 = some (.inr (2, [.ref sh2, .int te2, .int mo2, .int la2, .int (g_b ri2)])) := by rw [h287]; exact g_up_f f277 (g_neq f267 nq274)
      have f290 : w286 sh1 = some (.inr (5, [.int x1, .int y1, .int hd1, .int st1, .ref fr1])) := by rw [h287]; exact g_up_f f278 (g_neq f268 nq274)
      have f291 : w286 sh2 = some (.inr (5, [.int x2, .int y2, .int hd2, .int st2, .ref fr2])) := by rw [h287]; exact g_up_f f279 (g_neq f269 nq274)
      have f292 : w286 h = some (.inr (3, [.ref g1, .ref g2, .null])) := by rw [h287]; exact g_up_f f280 (g_neq f270 nq274)
      have f293 : w286 q227 = some (.inr (6, [.null, .null, .int 0])) := by rw [h287]; exact g_up_f f281 (g_neq f271 nq274)
      have f294 : w286 q244 = some (.inr (9, [.ref sh1, .int te1])) := by rw [h287]; exact g_up_f f282 (g_neq f272 nq274)
      have f295 : w286 q235 = some (.inl (G.2.1 4, 2, .inr (.inr (.inr (.inr (va_up (fun _ => none) (0 : Int32).toNatClampNeg (some q244))))))) := by rw [h287]; exact g_up_f f283 (g_neq f273 nq274)
      have f296 : w286 q274 = some (.inr (9, [.ref sh2, .int (if ri1 || ri2 then -te2 else te2)])) := by rw [h287]; exact g_up_s _ _ _
      refine g_astqS F hP hS f295 f296 (by unfold vp_in; decide) dX2_init_82 (fun H locs hP hS => ?_)
      obtain ⟨w297, ew297⟩ : ∃ z, z = g_up w286 q235 (.inl (G.2.1 4, 2, .inr (.inr (.inr (.inr (va_up (va_up (fun _ => none) (0 : Int32).toNatClampNeg (some q244)) (1 : Int32).toNatClampNeg (some q274))))))) := ⟨_, rfl⟩
      have hP : g_P A G w297 H := by rw [ew297]; exact hP
      have f298 : w297 g1 = some (.inr (2, [.ref sh1, .int te1, .int mo1, .int la1, .int (g_b ri1)])) := by rw [ew297]; exact g_up_f f288 (g_neq f229 nq235)
      have f299 : w297 g2 = some (.inr (2, [.ref sh2, .int te2, .int mo2, .int la2, .int (g_b ri2)])) := by rw [ew297]; exact g_up_f f289 (g_neq f230 nq235)
      have f300 : w297 sh1 = some (.inr (5, [.int x1, .int y1, .int hd1, .int st1, .ref fr1])) := by rw [ew297]; exact g_up_f f290 (g_neq f231 nq235)
      have f301 : w297 sh2 = some (.inr (5, [.int x2, .int y2, .int hd2, .int st2, .ref fr2])) := by rw [ew297]; exact g_up_f f291 (g_neq f232 nq235)
      have f302 : w297 h = some (.inr (3, [.ref g1, .ref g2, .null])) := by rw [ew297]; exact g_up_f f292 (g_neq f233 nq235)
      have f303 : w297 q227 = some (.inr (6, [.null, .null, .int 0])) := by rw [ew297]; exact g_up_f f293 (g_neq f234 nq235)
      have f304 : w297 q244 = some (.inr (9, [.ref sh1, .int te1])) := by rw [ew297]; exact g_up_f f294 (Ne.symm (g_neq f243 nq244))
      have f305 : w297 q274 = some (.inr (9, [.ref sh2, .int (if ri1 || ri2 then -te2 else te2)])) := by rw [ew297]; exact g_up_f f296 (Ne.symm (g_neq f273 nq274))
      have f306 : w297 q235 = some (.inl (G.2.1 4, 2, .inr (.inr (.inr (.inr (va_up (va_up (fun _ => none) (0 : Int32).toNatClampNeg (some q244)) (1 : Int32).toNatClampNeg (some q274))))))) := by rw [ew297]; exact g_up_s _ _ _
      refine g_Iv (As := [.ref q235]) (rest := [.ref q227, .ref h]) F hP hS (k_X5_init l A G w297 q227 q235 f303) (cwI 1 hts gX2_init_X5_init rfl rfl rfl (hts _ (List.mem_cons_of_mem _ (List.mem_append_left _ (List.mem_append_left _ (List.mem_append_left _ (List.mem_append_left _ (List.mem_append_left _ (List.mem_append_left _ (List.mem_of_getElem? (i := 9) rfl))))))))) (hts _ (List.mem_cons_of_mem _ (List.mem_append_left _ (List.mem_append_left _ (List.mem_append_left _ (List.mem_append_left _ (List.mem_append_left _ (List.mem_append_left _ (List.mem_of_getElem? (i := 21) rfl))))))))) (hts _ (List.mem_cons_of_mem _ (List.mem_append_left _ (List.mem_append_left _ (List.mem_append_left _ (List.mem_append_left _ (List.mem_append_left _ (List.mem_append_left _ (List.mem_of_getElem? (i := 22) rfl))))))))) rfl cd_X5_init ⟨by rw [hR]; exact Nat.le_of_ble_eq_true rfl, by rw [hR]; exact Nat.le_of_ble_eq_true rfl⟩) rfl hl.1 (Nat.le_of_ble_eq_true rfl) dX2_init_83 ⟨by rw [hR]; exact Nat.le_of_ble_eq_true rfl, by rw [hR]; exact Nat.le_of_ble_eq_true rfl⟩ rfl (fun w308 H locs h309 hP hS => ?_)
      obtain ⟨q310, nq310, ew308⟩ := h309
      have f311 : w308 g1 = some (.inr (2, [.ref sh1, .int te1, .int mo1, .int la1, .int (g_b ri1)])) := by rw [ew308]; exact g_up_f (g_up_f f298 (g_neq f298 nq310)) (g_neq f8 nq227)
      have f312 : w308 g2 = some (.inr (2, [.ref sh2, .int te2, .int mo2, .int la2, .int (g_b ri2)])) := by rw [ew308]; exact g_up_f (g_up_f f299 (g_neq f299 nq310)) (g_neq f9 nq227)
      have f313 : w308 sh1 = some (.inr (5, [.int x1, .int y1, .int hd1, .int st1, .ref fr1])) := by rw [ew308]; exact g_up_f (g_up_f f300 (g_neq f300 nq310)) (g_neq f10 nq227)
      have f314 : w308 sh2 = some (.inr (5, [.int x2, .int y2, .int hd2, .int st2, .ref fr2])) := by rw [ew308]; exact g_up_f (g_up_f f301 (g_neq f301 nq310)) (g_neq f11 nq227)
      have f315 : w308 h = some (.inr (3, [.ref g1, .ref g2, .null])) := by rw [ew308]; exact g_up_f (g_up_f f302 (g_neq f302 nq310)) (g_neq f12 nq227)
      have f316 : w308 q244 = some (.inr (9, [.ref sh1, .int te1])) := by rw [ew308]; exact g_up_f (g_up_f f304 (g_neq f304 nq310)) (g_ne f304 f303 rfl)
      have f317 : w308 q274 = some (.inr (9, [.ref sh2, .int (if ri1 || ri2 then -te2 else te2)])) := by rw [ew308]; exact g_up_f (g_up_f f305 (g_neq f305 nq310)) (g_ne f305 f303 rfl)
      have f318 : w308 q235 = some (.inl (G.2.1 4, 2, .inr (.inr (.inr (.inr (va_up (va_up (fun _ => none) (0 : Int32).toNatClampNeg (some q244)) (1 : Int32).toNatClampNeg (some q274))))))) := by rw [ew308]; exact g_up_f (g_up_f f306 (g_neq f306 nq310)) (g_ne f306 f303 rfl)
      have f319 : w308 q310 = some (.inr (1, [.long 0, .long 1])) := by rw [ew308]; exact g_up_f (g_up_s _ _ _) (Ne.symm (g_neq f303 nq310))
      have f320 : w308 q227 = some (.inr (6, [.ref q235, .ref q310, .int 0])) := by rw [ew308]; exact g_up_s _ _ _
      refine g_putF F hP hS (C := RX2) (T := TX2) (N := 3) (v := .ref q227) (ty := (.object "GearTrains$Tie")) iX2 tyX2 tyX2_ok nmX2 f315 rfl 2 (by decide) (List.mem_cons_of_mem _ (List.mem_append_left _ (List.mem_append_left _ (List.mem_append_left _ (List.mem_append_left _ (List.mem_append_left _ (List.mem_append_left _ (List.mem_of_getElem? (i := 14) rfl)))))))) (fun _ h9 => h9) rfl hnm0 rfl (by decide +kernel) rfl rfl (by show 2 < 3; decide) dX2_init_86 (fun H locs hP hS => ?_)
      obtain ⟨w321, ew321⟩ : ∃ z, z = g_up w308 h (.inr (3, [.ref g1, .ref g2, .ref q227])) := ⟨_, rfl⟩
      have hP : g_P A G w321 H := by rw [ew321]; exact hP
      have f322 : w321 g1 = some (.inr (2, [.ref sh1, .int te1, .int mo1, .int la1, .int (g_b ri1)])) := by rw [ew321]; exact g_up_f f311 (g_ne f311 f315 rfl)
      have f323 : w321 g2 = some (.inr (2, [.ref sh2, .int te2, .int mo2, .int la2, .int (g_b ri2)])) := by rw [ew321]; exact g_up_f f312 (g_ne f312 f315 rfl)
      have f324 : w321 sh1 = some (.inr (5, [.int x1, .int y1, .int hd1, .int st1, .ref fr1])) := by rw [ew321]; exact g_up_f f313 (g_ne f313 f315 rfl)
      have f325 : w321 sh2 = some (.inr (5, [.int x2, .int y2, .int hd2, .int st2, .ref fr2])) := by rw [ew321]; exact g_up_f f314 (g_ne f314 f315 rfl)
      have f326 : w321 q244 = some (.inr (9, [.ref sh1, .int te1])) := by rw [ew321]; exact g_up_f f316 (Ne.symm (g_neq f241 nq244))
      have f327 : w321 q274 = some (.inr (9, [.ref sh2, .int (if ri1 || ri2 then -te2 else te2)])) := by rw [ew321]; exact g_up_f f317 (Ne.symm (g_neq f270 nq274))
      have f328 : w321 q235 = some (.inl (G.2.1 4, 2, .inr (.inr (.inr (.inr (va_up (va_up (fun _ => none) (0 : Int32).toNatClampNeg (some q244)) (1 : Int32).toNatClampNeg (some q274))))))) := by rw [ew321]; exact g_up_f f318 (Ne.symm (g_neq f233 nq235))
      have f329 : w321 q310 = some (.inr (1, [.long 0, .long 1])) := by rw [ew321]; exact g_up_f f319 (g_ne f319 f315 rfl)
      have f330 : w321 q227 = some (.inr (6, [.ref q235, .ref q310, .int 0])) := by rw [ew321]; exact g_up_f f320 (Ne.symm (g_neq f12 nq227))
      have f331 : w321 h = some (.inr (3, [.ref g1, .ref g2, .ref q227])) := by rw [ew321]; exact g_up_s _ _ _
      rw [hQ]
      refine g_vret F hP hS hlocks hr dX2_init_89 (by first | exact Nat.le_of_ble_eq_true rfl | omega) (by first | exact Nat.le_of_ble_eq_true rfl | omega) ?_
      have nnq227 := nq227
      rw [ew7] at nnq227
      obtain ⟨ddq227_0, nnq227⟩ := g_up_none nnq227
      rw [ew1] at nnq227
      obtain ⟨ddq227_1, nnq227⟩ := g_up_none nnq227
      have nnq235 := nq235
      rw [ew228] at nnq235
      obtain ⟨ddq235_0, nnq235⟩ := g_up_none nnq235
      rw [ew7] at nnq235
      obtain ⟨ddq235_1, nnq235⟩ := g_up_none nnq235
      rw [ew1] at nnq235
      obtain ⟨ddq235_2, nnq235⟩ := g_up_none nnq235
      have nnq244 := nq244
      rw [ew236] at nnq244
      obtain ⟨ddq244_0, nnq244⟩ := g_up_none nnq244
      rw [ew228] at nnq244
      obtain ⟨ddq244_1, nnq244⟩ := g_up_none nnq244
      rw [ew7] at nnq244
      obtain ⟨ddq244_2, nnq244⟩ := g_up_none nnq244
      rw [ew1] at nnq244
      obtain ⟨ddq244_3, nnq244⟩ := g_up_none nnq244
      have nnq274 := nq274
      rw [ew265] at nnq274
      obtain ⟨ddq274_0, nnq274⟩ := g_up_none nnq274
      rw [h256] at nnq274
      obtain ⟨ddq274_1, nnq274⟩ := g_up_none nnq274
      rw [ew245] at nnq274
      obtain ⟨ddq274_2, nnq274⟩ := g_up_none nnq274
      rw [ew236] at nnq274
      obtain ⟨ddq274_3, nnq274⟩ := g_up_none nnq274
      rw [ew228] at nnq274
      obtain ⟨ddq274_4, nnq274⟩ := g_up_none nnq274
      rw [ew7] at nnq274
      obtain ⟨ddq274_5, nnq274⟩ := g_up_none nnq274
      rw [ew1] at nnq274
      obtain ⟨ddq274_6, nnq274⟩ := g_up_none nnq274
      have nnq310 := nq310
      rw [ew297] at nnq310
      obtain ⟨ddq310_0, nnq310⟩ := g_up_none nnq310
      rw [h287] at nnq310
      obtain ⟨ddq310_1, nnq310⟩ := g_up_none nnq310
      rw [ew275] at nnq310
      obtain ⟨ddq310_2, nnq310⟩ := g_up_none nnq310
      rw [ew265] at nnq310
      obtain ⟨ddq310_3, nnq310⟩ := g_up_none nnq310
      rw [h256] at nnq310
      obtain ⟨ddq310_4, nnq310⟩ := g_up_none nnq310
      rw [ew245] at nnq310
      obtain ⟨ddq310_5, nnq310⟩ := g_up_none nnq310
      rw [ew236] at nnq310
      obtain ⟨ddq310_6, nnq310⟩ := g_up_none nnq310
      rw [ew228] at nnq310
      obtain ⟨ddq310_7, nnq310⟩ := g_up_none nnq310
      rw [ew7] at nnq310
      obtain ⟨ddq310_8, nnq310⟩ := g_up_none nnq310
      rw [ew1] at nnq310
      obtain ⟨ddq310_9, nnq310⟩ := g_up_none nnq310
      refine ⟨q227, q235, q310, q244, q274, (va_up (va_up (fun _ => none) (0 : Int32).toNatClampNeg (some q244)) (1 : Int32).toNatClampNeg (some q274)), ⟨nnq227, nnq235, nnq310, nnq244, nnq274⟩, ⟨Ne.symm ddq235_0, Ne.symm ddq310_7, Ne.symm ddq244_1, Ne.symm ddq274_4, Ne.symm ddq310_0, Ne.symm ddq244_0, Ne.symm ddq274_0, ddq310_4, ddq310_1, Ne.symm ddq274_1⟩, ?_, ?_⟩
      · exact ⟨by simp [va_up, show (0 : Int32).toNatClampNeg = 0 from by decide, show (1 : Int32).toNatClampNeg = 1 from by decide, show (2 : Int32).toNatClampNeg = 2 from by decide], by simp [va_up, show (0 : Int32).toNatClampNeg = 0 from by decide, show (1 : Int32).toNatClampNeg = 1 from by decide, show (2 : Int32).toNatClampNeg = 2 from by decide]⟩
      · funext z
        by_cases z_h : z = h
        · rw [z_h, f331]; exact (g_up_s _ _ _).symm
        rw [g_up_n _ z_h]
        by_cases z_q274 : z = q274
        · rw [z_q274, f327]; exact (g_up_s _ _ _).symm
        rw [g_up_n _ z_q274]
        by_cases z_q244 : z = q244
        · rw [z_q244, f326]; exact (g_up_s _ _ _).symm
        rw [g_up_n _ z_q244]
        by_cases z_q310 : z = q310
        · rw [z_q310, f329]; exact (g_up_s _ _ _).symm
        rw [g_up_n _ z_q310]
        by_cases z_q235 : z = q235
        · rw [z_q235, f328]; exact (g_up_s _ _ _).symm
        rw [g_up_n _ z_q235]
        by_cases z_q227 : z = q227
        · rw [z_q227, f330]; exact (g_up_s _ _ _).symm
        rw [g_up_n _ z_q227]
        rw [ew321, g_up_n _ z_h]
        rw [ew308, g_up_n _ z_q227, g_up_n _ z_q310]
        rw [ew297, g_up_n _ z_q235]
        rw [h287, g_up_n _ z_q274]
        rw [ew275, g_up_n _ z_q274]
        rw [ew265, g_up_n _ z_q235]
        rw [h256, g_up_n _ z_q244]
        rw [ew245, g_up_n _ z_q244]
        rw [ew236, g_up_n _ z_q235]
        rw [ew228, g_up_n _ z_q227]
        rw [ew7, g_up_n _ z_h]
        rw [ew1, g_up_n _ z_h]
