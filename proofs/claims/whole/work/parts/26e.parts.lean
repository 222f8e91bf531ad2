theorem cd_X5_init : yX5_init.cls ≠ "java/lang/invoke/MethodHandle" ∧ yX5_init.cls ≠ "java/lang/invoke/VarHandle" ∧ (parseMethodDescriptor yX5_init.desc).map (fun d => d.parameters.length) = some 2 := by decide +kernel
set_option maxHeartbeats 4000000 in
set_option maxRecDepth 100000 in
theorem k_X2_init (l : Launch) (A : Nat → Prop) (G : g_C) (w : g_W) (h g1 g2 : Nat) (sh1 : Nat) (te1 mo1 la1 : Int32) (ri1 : Bool) (sh2 : Nat) (te2 mo2 la2 : Int32) (ri2 : Bool) (x1 y1 hd1 st1 : Int32) (fr1 : Nat) (x2 y2 hd2 st2 : Int32) (fr2 : Nat) (hh : w h = some (.inr (3, [.null, .null, .null]))) (hg1 : w g1 = some (.inr (2, [.ref sh1, .int te1, .int mo1, .int la1, .int (g_b ri1)]))) (hg2 : w g2 = some (.inr (2, [.ref sh2, .int te2, .int mo2, .int la2, .int (g_b ri2)]))) (hs1 : w sh1 = some (.inr (5, [.int x1, .int y1, .int hd1, .int st1, .ref fr1]))) (hs2 : w sh2 = some (.inr (5, [.int x2, .int y2, .int hd2, .int st2, .ref fr2]))) : mV l yX2_init wsX2_init ({ frames := 3, cells := 4, slots := 10, locals := 82 } : Room) [.ref h, .ref g1, .ref g2] A G w (fun w' => ∃ q1 q2 q3 q4 fS fW, (w q1 = none ∧ w q2 = none ∧ w q3 = none ∧ w q4 = none) ∧ (q1 ≠ q2 ∧ q1 ≠ q3 ∧ q1 ≠ q4 ∧ q2 ≠ q3 ∧ q2 ≠ q4 ∧ q3 ≠ q4) ∧ (fS 0 = some sh1 ∧ fS 1 = some sh2) ∧ (fW 0 = te1 ∧ fW 1 = (if ri1 || ri2 then -te2 else te2)) ∧ w' = g_up (g_up (g_up (g_up (g_up w q1 (.inr (6, [.ref q2, .ref q3, .ref q4, .int 0]))) q2 (.inl (G.2.1 4, 2, .inr (.inr (.inr (.inr fS)))))) q3 (.inl (G.2.1 0, 2, .inl fW))) q4 (.inr (1, [.long 0, .long 1]))) h (.inr (3, [.ref g1, .ref g2, .ref q1]))) 4 10 := by
  refine g_ofV (cc := cX2_init) (maxL := 4) (ret := none) (own := RX2) (by decide) rfl rfl (Nat.le_of_ble_eq_true rfl) ?_
  intro p e R s m args below meth c Q ls hR F hP hS hlocks hr hnm0 hQ hl
  obtain ⟨⟨hx, hb, hml, hown, hts⟩, hK, hZ, hA⟩ := id F
  generalize hH0 : s.heap = H at hP ⊢
  have hS : va_S A s.heap H [] := by rw [← hH0]; exact va_S.rf
  generalize ([] : List Loc) = locs at hS ⊢
  have hl : lv_has ls 4 [(0, .ref h), (1, .ref g1), (2, .ref g2)] := hl
  have iX1 : ∀ w ∈ u_ws RX1 TX1 5, w ∈ wsX2_init := fun w h => List.mem_cons_of_mem _ (List.mem_append_left _ (List.mem_append_left _ (List.mem_append_right _ (h))))
  have iX2 : ∀ w ∈ u_ws RX2 TX2 3, w ∈ wsX2_init := fun w h => List.mem_cons_of_mem _ (List.mem_append_left _ (List.mem_append_left _ (List.mem_append_left _ (List.mem_append_right _ (h)))))
  have iX5 : ∀ w ∈ u_ws RX5 TX5 4, w ∈ wsX2_init := fun w h => List.mem_cons_of_mem _ (List.mem_append_left _ (List.mem_append_right _ (h)))
  refine lv_aload_n hx hb dX2_init_0 rfl (lv_at hl 0 rfl) ?_
  refine W.objInit hx hb hown (hts _ (List.mem_cons_of_mem _ (List.mem_append_left _ (List.mem_append_left _ (List.mem_append_left _ (List.mem_append_left _ (List.mem_append_left _ (List.mem_of_getElem? (i := 0) rfl)))))))) (hts _ (List.mem_cons_of_mem _ (List.mem_append_left _ (List.mem_append_left _ (List.mem_append_left _ (List.mem_append_left _ (List.mem_append_left _ (List.mem_of_getElem? (i := 1) rfl)))))))) (hts _ (List.mem_cons_of_mem _ (List.mem_append_left _ (List.mem_append_left _ (List.mem_append_left _ (List.mem_append_left _ (List.mem_append_left _ (List.mem_of_getElem? (i := 2) rfl)))))))) rfl (by rw [hml]; exact hl.1) rfl dX2_init_1 (by rw [hR]; exact Nat.le_of_ble_eq_true rfl) (by rw [hR]; exact Nat.le_of_ble_eq_true rfl) ?_
  refine lv_aload_n hx hb dX2_init_4 rfl (lv_at hl 0 rfl) ?_
  refine lv_aload_n hx hb dX2_init_5 rfl (lv_at hl 1 rfl) ?_
  refine g_putF F hP hS (C := RX2) (T := TX2) (N := 3) (v := .ref g1) (ty := (.object "GearTrains$Gear")) iX2 tyX2 tyX2_ok nmX2 hh rfl 0 (by decide) (List.mem_cons_of_mem _ (List.mem_append_left _ (List.mem_append_left _ (List.mem_append_left _ (List.mem_append_left _ (List.mem_append_left _ (List.mem_of_getElem? (i := 3) rfl))))))) (fun _ h9 => h9) rfl hnm0 rfl (by decide +kernel) rfl rfl (by show 0 < 3; decide) dX2_init_6 (fun H locs hP hS => ?_)
  obtain ⟨w1, ew1⟩ : ∃ z, z = g_up w h (.inr (3, [.ref g1, .null, .null])) := ⟨_, rfl⟩
  have hP : g_P A G w1 H := by rw [ew1]; exact hP
  have f2 : w1 g1 = some (.inr (2, [.ref sh1, .int te1, .int mo1, .int la1, .int (g_b ri1)])) := by rw [ew1]; exact g_up_f hg1 (g_ne hg1 hh rfl)
  have f3 : w1 g2 = some (.inr (2, [.ref sh2, .int te2, .int mo2, .int la2, .int (g_b ri2)])) := by rw [ew1]; exact g_up_f hg2 (g_ne hg2 hh rfl)
  have f4 : w1 sh1 = some (.inr (5, [.int x1, .int y1, .int hd1, .int st1, .ref fr1])) := by rw [ew1]; exact g_up_f hs1 (g_ne hs1 hh rfl)
  have f5 : w1 sh2 = some (.inr (5, [.int x2, .int y2, .int hd2, .int st2, .ref fr2])) := by rw [ew1]; exact g_up_f hs2 (g_ne hs2 hh rfl)
  have f6 : w1 h = some (.inr (3, [.ref g1, .null, .null])) := by rw [ew1]; exact g_up_s _ _ _
  refine lv_aload_n hx hb dX2_init_9 rfl (lv_at hl 0 rfl) ?_
  refine lv_aload_n hx hb dX2_init_10 rfl (lv_at hl 2 rfl) ?_
  refine g_putF F hP hS (C := RX2) (T := TX2) (N := 3) (v := .ref g2) (ty := (.object "GearTrains$Gear")) iX2 tyX2 tyX2_ok nmX2 f6 rfl 1 (by decide) (List.mem_cons_of_mem _ (List.mem_append_left _ (List.mem_append_left _ (List.mem_append_left _ (List.mem_append_left _ (List.mem_append_left _ (List.mem_of_getElem? (i := 4) rfl))))))) (fun _ h9 => h9) rfl hnm0 rfl (by decide +kernel) rfl rfl (by show 1 < 3; decide) dX2_init_11 (fun H locs hP hS => ?_)
  obtain ⟨w7, ew7⟩ : ∃ z, z = g_up w1 h (.inr (3, [.ref g1, .ref g2, .null])) := ⟨_, rfl⟩
  have hP : g_P A G w7 H := by rw [ew7]; exact hP
  have f8 : w7 g1 = some (.inr (2, [.ref sh1, .int te1, .int mo1, .int la1, .int (g_b ri1)])) := by rw [ew7]; exact g_up_f f2 (g_ne f2 f6 rfl)
  have f9 : w7 g2 = some (.inr (2, [.ref sh2, .int te2, .int mo2, .int la2, .int (g_b ri2)])) := by rw [ew7]; exact g_up_f f3 (g_ne f3 f6 rfl)
  have f10 : w7 sh1 = some (.inr (5, [.int x1, .int y1, .int hd1, .int st1, .ref fr1])) := by rw [ew7]; exact g_up_f f4 (g_ne f4 f6 rfl)
  have f11 : w7 sh2 = some (.inr (5, [.int x2, .int y2, .int hd2, .int st2, .ref fr2])) := by rw [ew7]; exact g_up_f f5 (g_ne f5 f6 rfl)
  have f12 : w7 h = some (.inr (3, [.ref g1, .ref g2, .null])) := by rw [ew7]; exact g_up_s _ _ _
  refine lv_aload_n hx hb dX2_init_14 rfl (lv_at hl 1 rfl) ?_
  refine g_get F hP (C := RX1) (T := TX1) (N := 5) iX1 f8 rfl 4 (by decide) (List.mem_cons_of_mem _ (List.mem_append_left _ (List.mem_append_left _ (List.mem_append_left _ (List.mem_append_left _ (List.mem_append_left _ (List.mem_of_getElem? (i := 5) rfl))))))) (fun _ h9 => h9) rfl dX2_init_15 ?_
  refine lv_if_ne (tgt := 28) hx hb dX2_init_18 (by decide) (fun c13 => ?_) (fun c13 => ?_)
  · have yc13 : ri1 = true := g_b1.mp c13
    refine lv_aload_n hx hb dX2_init_28 rfl (lv_at hl 2 rfl) ?_
    refine g_get F hP (C := RX1) (T := TX1) (N := 5) iX1 f9 rfl 1 (by decide) (List.mem_cons_of_mem _ (List.mem_append_left _ (List.mem_append_left _ (List.mem_append_left _ (List.mem_append_left _ (List.mem_append_left _ (List.mem_of_getElem? (i := 6) rfl))))))) (fun _ h9 => h9) rfl dX2_init_29 ?_
    refine lv_ineg hx hb dX2_init_32 ?_
    refine lv_topi (fun v14 ev14 => ?_)
    refine lv_goto (tgt := 40) hx hb dX2_init_33 (by decide) ?_
    refine lv_istore_n (lv' := [(3, .int v14), (0, .ref h), (1, .ref g1), (2, .ref g2)]) hx hb dX2_init_40 rfl hl (by decide) rfl (fun ls hl => ?_)
    refine lv_aload_n hx hb dX2_init_41 rfl (lv_at hl 1 rfl) ?_
    refine g_new F hP hS (ci := 6) (C := RX5) (T := TX5) (N := 4) (fs := [.null, .null, .null, .int 0]) iX5 tyX5 tyX5_ok (List.mem_cons_of_mem _ (List.mem_append_left _ (List.mem_append_left _ (List.mem_append_left _ (List.mem_append_left _ (List.mem_append_left _ (List.mem_of_getElem? (i := 7) rfl))))))) (List.mem_cons_of_mem _ (List.mem_append_left _ (List.mem_append_left _ (List.mem_append_left _ (List.mem_append_left _ (List.mem_append_left _ (List.mem_of_getElem? (i := 8) rfl))))))) (List.mem_cons_of_mem _ (List.mem_append_left _ (List.mem_append_left _ (List.mem_append_left _ (List.mem_append_left _ (List.mem_append_left _ (List.mem_of_getElem? (i := 9) rfl))))))) rfl (by intro j hj; match j, hj with | 0, _ => rfl | 1, _ => rfl | 2, _ => rfl | 3, _ => rfl | j + 4, hj => exact absurd hj (by omega)) (by rw [hR]; exact Nat.le_of_ble_eq_true rfl) (by rw [hR]; exact Nat.le_of_ble_eq_true rfl) dX2_init_42 (fun q15 H nq15 hP hS => ?_)
    obtain ⟨w16, ew16⟩ : ∃ z, z = g_up w7 q15 (.inr (6, [.null, .null, .null, .int 0])) := ⟨_, rfl⟩
    have hP : g_P A G w16 H := by rw [ew16]; exact hP
    have f17 : w16 g1 = some (.inr (2, [.ref sh1, .int te1, .int mo1, .int la1, .int (g_b ri1)])) := by rw [ew16]; exact g_up_f f8 (g_neq f8 nq15)
    have f18 : w16 g2 = some (.inr (2, [.ref sh2, .int te2, .int mo2, .int la2, .int (g_b ri2)])) := by rw [ew16]; exact g_up_f f9 (g_neq f9 nq15)
    have f19 : w16 sh1 = some (.inr (5, [.int x1, .int y1, .int hd1, .int st1, .ref fr1])) := by rw [ew16]; exact g_up_f f10 (g_neq f10 nq15)
    have f20 : w16 sh2 = some (.inr (5, [.int x2, .int y2, .int hd2, .int st2, .ref fr2])) := by rw [ew16]; exact g_up_f f11 (g_neq f11 nq15)
    have f21 : w16 h = some (.inr (3, [.ref g1, .ref g2, .null])) := by rw [ew16]; exact g_up_f f12 (g_neq f12 nq15)
    have f22 : w16 q15 = some (.inr (6, [.null, .null, .null, .int 0])) := by rw [ew16]; exact g_up_s _ _ _
    refine lv_dup hx hb dX2_init_45 rfl ?_
    refine lv_iconst (v := 2) hx hb dX2_init_46 (by decide) ?_
    refine g_newqS F hP hS (N' := 2) (List.mem_cons_of_mem _ (List.mem_append_left _ (List.mem_append_left _ (List.mem_append_left _ (List.mem_append_left _ (List.mem_append_left _ (List.mem_of_getElem? (i := 10) rfl))))))) (by decide) (by decide) (by decide) (by rw [hR]; exact Nat.le_of_ble_eq_true rfl) (by rw [hR]; exact Nat.le_of_ble_eq_true rfl) dX2_init_47 (fun q23 H nq23 hP hS => ?_)
    obtain ⟨w24, ew24⟩ : ∃ z, z = g_up w16 q23 (.inl (G.2.1 4, 2, .inr (.inr (.inr (.inr (fun _ => none)))))) := ⟨_, rfl⟩
    have hP : g_P A G w24 H := by rw [ew24]; exact hP
    have f25 : w24 g1 = some (.inr (2, [.ref sh1, .int te1, .int mo1, .int la1, .int (g_b ri1)])) := by rw [ew24]; exact g_up_f f17 (g_neq f17 nq23)
    have f26 : w24 g2 = some (.inr (2, [.ref sh2, .int te2, .int mo2, .int la2, .int (g_b ri2)])) := by rw [ew24]; exact g_up_f f18 (g_neq f18 nq23)
    have f27 : w24 sh1 = some (.inr (5, [.int x1, .int y1, .int hd1, .int st1, .ref fr1])) := by rw [ew24]; exact g_up_f f19 (g_neq f19 nq23)
    have f28 : w24 sh2 = some (.inr (5, [.int x2, .int y2, .int hd2, .int st2, .ref fr2])) := by rw [ew24]; exact g_up_f f20 (g_neq f20 nq23)
    have f29 : w24 h = some (.inr (3, [.ref g1, .ref g2, .null])) := by rw [ew24]; exact g_up_f f21 (g_neq f21 nq23)
    have f30 : w24 q15 = some (.inr (6, [.null, .null, .null, .int 0])) := by rw [ew24]; exact g_up_f f22 (g_neq f22 nq23)
    have f31 : w24 q23 = some (.inl (G.2.1 4, 2, .inr (.inr (.inr (.inr (fun _ => none)))))) := by rw [ew24]; exact g_up_s _ _ _
    refine lv_dup hx hb dX2_init_50 rfl ?_
    refine lv_iconst (v := 0) hx hb dX2_init_51 (by decide) ?_
    refine lv_aload_n hx hb dX2_init_52 rfl (lv_at hl 2 rfl) ?_
    refine g_get F hP (C := RX1) (T := TX1) (N := 5) iX1 f25 rfl 0 (by decide) (List.mem_cons_of_mem _ (List.mem_append_left _ (List.mem_append_left _ (List.mem_append_left _ (List.mem_append_left _ (List.mem_append_left _ (List.mem_of_getElem? (i := 11) rfl))))))) (fun _ h9 => h9) rfl dX2_init_53 ?_
    refine g_astqS F hP hS f31 f27 (by decide) dX2_init_56 (fun H locs hP hS => ?_)
    obtain ⟨w32, ew32⟩ : ∃ z, z = g_up w24 q23 (.inl (G.2.1 4, 2, .inr (.inr (.inr (.inr (va_up (fun _ => none) (0).toNatClampNeg (some sh1))))))) := ⟨_, rfl⟩
    have hP : g_P A G w32 H := by rw [ew32]; exact hP
    have f33 : w32 g1 = some (.inr (2, [.ref sh1, .int te1, .int mo1, .int la1, .int (g_b ri1)])) := by rw [ew32]; exact g_up_f f25 (g_ne f25 f31 rfl)
    have f34 : w32 g2 = some (.inr (2, [.ref sh2, .int te2, .int mo2, .int la2, .int (g_b ri2)])) := by rw [ew32]; exact g_up_f f26 (g_ne f26 f31 rfl)
    have f35 : w32 sh1 = some (.inr (5, [.int x1, .int y1, .int hd1, .int st1, .ref fr1])) := by rw [ew32]; exact g_up_f f27 (g_ne f27 f31 rfl)
    have f36 : w32 sh2 = some (.inr (5, [.int x2, .int y2, .int hd2, .int st2, .ref fr2])) := by rw [ew32]; exact g_up_f f28 (g_ne f28 f31 rfl)
    have f37 : w32 h = some (.inr (3, [.ref g1, .ref g2, .null])) := by rw [ew32]; exact g_up_f f29 (g_ne f29 f31 rfl)
    have f38 : w32 q15 = some (.inr (6, [.null, .null, .null, .int 0])) := by rw [ew32]; exact g_up_f f30 (g_ne f30 f31 rfl)
    have f39 : w32 q23 = some (.inl (G.2.1 4, 2, .inr (.inr (.inr (.inr (va_up (fun _ => none) (0).toNatClampNeg (some sh1))))))) := by rw [ew32]; exact g_up_s _ _ _
    refine lv_dup hx hb dX2_init_57 rfl ?_
    refine lv_iconst (v := 1) hx hb dX2_init_58 (by decide) ?_
    refine lv_aload_n hx hb dX2_init_59 rfl (lv_at hl 3 rfl) ?_
    refine g_get F hP (C := RX1) (T := TX1) (N := 5) iX1 f34 rfl 0 (by decide) (List.mem_cons_of_mem _ (List.mem_append_left _ (List.mem_append_left _ (List.mem_append_left _ (List.mem_append_left _ (List.mem_append_left _ (List.mem_of_getElem? (i := 11) rfl))))))) (fun _ h9 => h9) rfl dX2_init_60 ?_
    refine g_astqS F hP hS f39 f36 (by decide) dX2_init_63 (fun H locs hP hS => ?_)
    obtain ⟨w40, ew40⟩ : ∃ z, z = g_up w32 q23 (.inl (G.2.1 4, 2, .inr (.inr (.inr (.inr (va_up (va_up (fun _ => none) (0).toNatClampNeg (some sh1)) (1).toNatClampNeg (some sh2))))))) := ⟨_, rfl⟩
    have hP : g_P A G w40 H := by rw [ew40]; exact hP
    have f41 : w40 g1 = some (.inr (2, [.ref sh1, .int te1, .int mo1, .int la1, .int (g_b ri1)])) := by rw [ew40]; exact g_up_f f33 (g_ne f33 f39 rfl)
    have f42 : w40 g2 = some (.inr (2, [.ref sh2, .int te2, .int mo2, .int la2, .int (g_b ri2)])) := by rw [ew40]; exact g_up_f f34 (g_ne f34 f39 rfl)
    have f43 : w40 sh1 = some (.inr (5, [.int x1, .int y1, .int hd1, .int st1, .ref fr1])) := by rw [ew40]; exact g_up_f f35 (g_ne f35 f39 rfl)
    have f44 : w40 sh2 = some (.inr (5, [.int x2, .int y2, .int hd2, .int st2, .ref fr2])) := by rw [ew40]; exact g_up_f f36 (g_ne f36 f39 rfl)
    have f45 : w40 h = some (.inr (3, [.ref g1, .ref g2, .null])) := by rw [ew40]; exact g_up_f f37 (g_ne f37 f39 rfl)
    have f46 : w40 q15 = some (.inr (6, [.null, .null, .null, .int 0])) := by rw [ew40]; exact g_up_f f38 (g_ne f38 f39 rfl)
    have f47 : w40 q23 = some (.inl (G.2.1 4, 2, .inr (.inr (.inr (.inr (va_up (va_up (fun _ => none) (0).toNatClampNeg (some sh1)) (1).toNatClampNeg (some sh2))))))) := by rw [ew40]; exact g_up_s _ _ _
    refine lv_iconst (v := 2) hx hb dX2_init_64 (by decide) ?_
    refine g_newaI F hP hS (N' := 2) (List.mem_cons_of_mem _ (List.mem_append_left _ (List.mem_append_left _ (List.mem_append_left _ (List.mem_append_left _ (List.mem_append_left _ (List.mem_of_getElem? (i := 12) rfl))))))) (by decide) (by decide) (by decide) (by rw [hR]; exact Nat.le_of_ble_eq_true rfl) (by rw [hR]; exact Nat.le_of_ble_eq_true rfl) dX2_init_65 (fun q48 H nq48 hP hS => ?_)
    obtain ⟨w49, ew49⟩ : ∃ z, z = g_up w40 q48 (.inl (G.2.1 0, 2, .inl (fun _ => 0))) := ⟨_, rfl⟩
    have hP : g_P A G w49 H := by rw [ew49]; exact hP
    have f50 : w49 g1 = some (.inr (2, [.ref sh1, .int te1, .int mo1, .int la1, .int (g_b ri1)])) := by rw [ew49]; exact g_up_f f41 (g_neq f41 nq48)
    have f51 : w49 g2 = some (.inr (2, [.ref sh2, .int te2, .int mo2, .int la2, .int (g_b ri2)])) := by rw [ew49]; exact g_up_f f42 (g_neq f42 nq48)
    have f52 : w49 sh1 = some (.inr (5, [.int x1, .int y1, .int hd1, .int st1, .ref fr1])) := by rw [ew49]; exact g_up_f f43 (g_neq f43 nq48)
    have f53 : w49 sh2 = some (.inr (5, [.int x2, .int y2, .int hd2, .int st2, .ref fr2])) := by rw [ew49]; exact g_up_f f44 (g_neq f44 nq48)
    have f54 : w49 h = some (.inr (3, [.ref g1, .ref g2, .null])) := by rw [ew49]; exact g_up_f f45 (g_neq f45 nq48)
    have f55 : w49 q15 = some (.inr (6, [.null, .null, .null, .int 0])) := by rw [ew49]; exact g_up_f f46 (g_neq f46 nq48)
    have f56 : w49 q23 = some (.inl (G.2.1 4, 2, .inr (.inr (.inr (.inr (va_up (va_up (fun _ => none) (0).toNatClampNeg (some sh1)) (1).toNatClampNeg (some sh2))))))) := by rw [ew49]; exact g_up_f f47 (g_neq f47 nq48)
    have f57 : w49 q48 = some (.inl (G.2.1 0, 2, .inl (fun _ => 0))) := by rw [ew49]; exact g_up_s _ _ _
    refine lv_dup hx hb dX2_init_67 rfl ?_
    refine lv_iconst (v := 0) hx hb dX2_init_68 (by decide) ?_
    refine lv_aload_n hx hb dX2_init_69 rfl (lv_at hl 2 rfl) ?_
    refine g_get F hP (C := RX1) (T := TX1) (N := 5) iX1 f50 rfl 1 (by decide) (List.mem_cons_of_mem _ (List.mem_append_left _ (List.mem_append_left _ (List.mem_append_left _ (List.mem_append_left _ (List.mem_append_left _ (List.mem_of_getElem? (i := 6) rfl))))))) (fun _ h9 => h9) rfl dX2_init_70 ?_
    refine g_iast F hP hS f57 (by decide) dX2_init_73 (fun H locs hP hS => ?_)
    obtain ⟨w58, ew58⟩ : ∃ z, z = g_up w49 q48 (.inl (G.2.1 0, 2, .inl (upd (fun _ => 0) (0).toNatClampNeg te1))) := ⟨_, rfl⟩
    have hP : g_P A G w58 H := by rw [ew58]; exact hP
    have f59 : w58 g1 = some (.inr (2, [.ref sh1, .int te1, .int mo1, .int la1, .int (g_b ri1)])) := by rw [ew58]; exact g_up_f f50 (g_ne f50 f57 rfl)
    have f60 : w58 g2 = some (.inr (2, [.ref sh2, .int te2, .int mo2, .int la2, .int (g_b ri2)])) := by rw [ew58]; exact g_up_f f51 (g_ne f51 f57 rfl)
    have f61 : w58 sh1 = some (.inr (5, [.int x1, .int y1, .int hd1, .int st1, .ref fr1])) := by rw [ew58]; exact g_up_f f52 (g_ne f52 f57 rfl)
    have f62 : w58 sh2 = some (.inr (5, [.int x2, .int y2, .int hd2, .int st2, .ref fr2])) := by rw [ew58]; exact g_up_f f53 (g_ne f53 f57 rfl)
    have f63 : w58 h = some (.inr (3, [.ref g1, .ref g2, .null])) := by rw [ew58]; exact g_up_f f54 (g_ne f54 f57 rfl)
    have f64 : w58 q15 = some (.inr (6, [.null, .null, .null, .int 0])) := by rw [ew58]; exact g_up_f f55 (g_ne f55 f57 rfl)
    have f65 : w58 q23 = some (.inl (G.2.1 4, 2, .inr (.inr (.inr (.inr (va_up (va_up (fun _ => none) (0).toNatClampNeg (some sh1)) (1).toNatClampNeg (some sh2))))))) := by rw [ew58]; exact g_up_f f56 (g_ne f56 f57 rfl)
    have f66 : w58 q48 = some (.inl (G.2.1 0, 2, .inl (upd (fun _ => 0) (0).toNatClampNeg te1))) := by rw [ew58]; exact g_up_s _ _ _
    refine lv_dup hx hb dX2_init_74 rfl ?_
    refine lv_iconst (v := 1) hx hb dX2_init_75 (by decide) ?_
    refine lv_iload_n hx hb dX2_init_76 rfl (lv_at hl 0 rfl) ?_
    refine g_iast F hP hS f66 (by decide) dX2_init_77 (fun H locs hP hS => ?_)
    obtain ⟨w67, ew67⟩ : ∃ z, z = g_up w58 q48 (.inl (G.2.1 0, 2, .inl (upd (upd (fun _ => 0) (0).toNatClampNeg te1) (1).toNatClampNeg v14))) := ⟨_, rfl⟩
    have hP : g_P A G w67 H := by rw [ew67]; exact hP
    have f68 : w67 g1 = some (.inr (2, [.ref sh1, .int te1, .int mo1, .int la1, .int (g_b ri1)])) := by rw [ew67]; exact g_up_f f59 (g_ne f59 f66 rfl)
    have f69 : w67 g2 = some (.inr (2, [.ref sh2, .int te2, .int mo2, .int la2, .int (g_b ri2)])) := by rw [ew67]; exact g_up_f f60 (g_ne f60 f66 rfl)
    have f70 : w67 sh1 = some (.inr (5, [.int x1, .int y1, .int hd1, .int st1, .ref fr1])) := by rw [ew67]; exact g_up_f f61 (g_ne f61 f66 rfl)
    have f71 : w67 sh2 = some (.inr (5, [.int x2, .int y2, .int hd2, .int st2, .ref fr2])) := by rw [ew67]; exact g_up_f f62 (g_ne f62 f66 rfl)
    have f72 : w67 h = some (.inr (3, [.ref g1, .ref g2, .null])) := by rw [ew67]; exact g_up_f f63 (g_ne f63 f66 rfl)
    have f73 : w67 q15 = some (.inr (6, [.null, .null, .null, .int 0])) := by rw [ew67]; exact g_up_f f64 (g_ne f64 f66 rfl)
    have f74 : w67 q23 = some (.inl (G.2.1 4, 2, .inr (.inr (.inr (.inr (va_up (va_up (fun _ => none) (0).toNatClampNeg (some sh1)) (1).toNatClampNeg (some sh2))))))) := by rw [ew67]; exact g_up_f f65 (g_ne f65 f66 rfl)
    have f75 : w67 q48 = some (.inl (G.2.1 0, 2, .inl (upd (upd (fun _ => 0) (0).toNatClampNeg te1) (1).toNatClampNeg v14))) := by rw [ew67]; exact g_up_s _ _ _
    refine g_Iv (As := [.ref q23, .ref q48]) (rest := [.ref q15, .ref h]) F hP hS (k_X5_init l A G w67 q15 q23 q48 f73) (cwI 2 hts gX2_init_X5_init rfl rfl rfl (hts _ (List.mem_cons_of_mem _ (List.mem_append_left _ (List.mem_append_left _ (List.mem_append_left _ (List.mem_append_left _ (List.mem_append_left _ (List.mem_of_getElem? (i := 9) rfl)))))))) (hts _ (List.mem_cons_of_mem _ (List.mem_append_left _ (List.mem_append_left _ (List.mem_append_left _ (List.mem_append_left _ (List.mem_append_left _ (List.mem_of_getElem? (i := 14) rfl)))))))) (hts _ (List.mem_cons_of_mem _ (List.mem_append_left _ (List.mem_append_left _ (List.mem_append_left _ (List.mem_append_left _ (List.mem_append_left _ (List.mem_of_getElem? (i := 15) rfl)))))))) rfl cd_X5_init ⟨by rw [hR]; exact Nat.le_of_ble_eq_true rfl, by rw [hR]; exact Nat.le_of_ble_eq_true rfl⟩) rfl hl.1 (Nat.le_of_ble_eq_true rfl) dX2_init_78 ⟨by rw [hR]; exact Nat.le_of_ble_eq_true rfl, by rw [hR]; exact Nat.le_of_ble_eq_true rfl⟩ rfl (fun w77 H locs h78 hP hS => ?_)
    obtain ⟨q79, nq79, ew77⟩ := h78
    have f80 : w77 g1 = some (.inr (2, [.ref sh1, .int te1, .int mo1, .int la1, .int (g_b ri1)])) := by rw [ew77]; exact g_up_f (g_up_f f68 (g_neq f68 nq79)) (g_ne f68 f73 rfl)
    have f81 : w77 g2 = some (.inr (2, [.ref sh2, .int te2, .int mo2, .int la2, .int (g_b ri2)])) := by rw [ew77]; exact g_up_f (g_up_f f69 (g_neq f69 nq79)) (g_ne f69 f73 rfl)
    have f82 : w77 sh1 = some (.inr (5, [.int x1, .int y1, .int hd1, .int st1, .ref fr1])) := by rw [ew77]; exact g_up_f (g_up_f f70 (g_neq f70 nq79)) (g_ne f70 f73 rfl)
    have f83 : w77 sh2 = some (.inr (5, [.int x2, .int y2, .int hd2, .int st2, .ref fr2])) := by rw [ew77]; exact g_up_f (g_up_f f71 (g_neq f71 nq79)) (g_ne f71 f73 rfl)
    have f84 : w77 h = some (.inr (3, [.ref g1, .ref g2, .null])) := by rw [ew77]; exact g_up_f (g_up_f f72 (g_neq f72 nq79)) (g_ne f72 f73 rfl)
    have f85 : w77 q23 = some (.inl (G.2.1 4, 2, .inr (.inr (.inr (.inr (va_up (va_up (fun _ => none) (0).toNatClampNeg (some sh1)) (1).toNatClampNeg (some sh2))))))) := by rw [ew77]; exact g_up_f (g_up_f f74 (g_neq f74 nq79)) (g_ne f74 f73 rfl)
    have f86 : w77 q48 = some (.inl (G.2.1 0, 2, .inl (upd (upd (fun _ => 0) (0).toNatClampNeg te1) (1).toNatClampNeg v14))) := by rw [ew77]; exact g_up_f (g_up_f f75 (g_neq f75 nq79)) (g_ne f75 f73 rfl)
    have f87 : w77 q79 = some (.inr (1, [.long 0, .long 1])) := by rw [ew77]; exact g_up_f (g_up_s _ _ _) (Ne.symm (g_neq f73 nq79))
    have f88 : w77 q15 = some (.inr (6, [.ref q23, .ref q48, .ref q79, .int 0])) := by rw [ew77]; exact g_up_s _ _ _
    refine g_putF F hP hS (C := RX2) (T := TX2) (N := 3) (v := .ref q15) (ty := (.object "GearTrains$Tie")) iX2 tyX2 tyX2_ok nmX2 f84 rfl 2 (by decide) (List.mem_cons_of_mem _ (List.mem_append_left _ (List.mem_append_left _ (List.mem_append_left _ (List.mem_append_left _ (List.mem_append_left _ (List.mem_of_getElem? (i := 13) rfl))))))) (fun _ h9 => h9) rfl hnm0 rfl (by decide +kernel) rfl rfl (by show 2 < 3; decide) dX2_init_81 (fun H locs hP hS => ?_)
    obtain ⟨w89, ew89⟩ : ∃ z, z = g_up w77 h (.inr (3, [.ref g1, .ref g2, .ref q15])) := ⟨_, rfl⟩
    have hP : g_P A G w89 H := by rw [ew89]; exact hP
    have f90 : w89 g1 = some (.inr (2, [.ref sh1, .int te1, .int mo1, .int la1, .int (g_b ri1)])) := by rw [ew89]; exact g_up_f f80 (g_ne f80 f84 rfl)
    have f91 : w89 g2 = some (.inr (2, [.ref sh2, .int te2, .int mo2, .int la2, .int (g_b ri2)])) := by rw [ew89]; exact g_up_f f81 (g_ne f81 f84 rfl)
    have f92 : w89 sh1 = some (.inr (5, [.int x1, .int y1, .int hd1, .int st1, .ref fr1])) := by rw [ew89]; exact g_up_f f82 (g_ne f82 f84 rfl)
    have f93 : w89 sh2 = some (.inr (5, [.int x2, .int y2, .int hd2, .int st2, .ref fr2])) := by rw [ew89]; exact g_up_f f83 (g_ne f83 f84 rfl)
    have f94 : w89 q23 = some (.inl (G.2.1 4, 2, .inr (.inr (.inr (.inr (va_up (va_up (fun _ => none) (0).toNatClampNeg (some sh1)) (1).toNatClampNeg (some sh2))))))) := by rw [ew89]; exact g_up_f f85 (g_ne f85 f84 rfl)
    have f95 : w89 q48 = some (.inl (G.2.1 0, 2, .inl (upd (upd (fun _ => 0) (0).toNatClampNeg te1) (1).toNatClampNeg v14))) := by rw [ew89]; exact g_up_f f86 (g_ne f86 f84 rfl)
    have f96 : w89 q79 = some (.inr (1, [.long 0, .long 1])) := by rw [ew89]; exact g_up_f f87 (g_ne f87 f84 rfl)
    have f97 : w89 q15 = some (.inr (6, [.ref q23, .ref q48, .ref q79, .int 0])) := by rw [ew89]; exact g_up_f f88 (g_ne f88 f84 rfl)
    have f98 : w89 h = some (.inr (3, [.ref g1, .ref g2, .ref q15])) := by rw [ew89]; exact g_up_s _ _ _
    rw [hQ]
    refine g_vret F hP hS hlocks hr dX2_init_84 (by decide) (by decide) ?_
    simp only [ew89, ew77, ew67, ew58, ew49, ew40, ew32, ew24, ew16, ew7, ew1, g_up_up, g_up] at nq15
    simp only [ew89, ew77, ew67, ew58, ew49, ew40, ew32, ew24, ew16, ew7, ew1, g_up_up, g_up] at nq23
    simp only [ew89, ew77, ew67, ew58, ew49, ew40, ew32, ew24, ew16, ew7, ew1, g_up_up, g_up] at nq48
    simp only [ew89, ew77, ew67, ew58, ew49, ew40, ew32, ew24, ew16, ew7, ew1, g_up_up, g_up] at nq79
    refine ⟨q15, q23, q48, q79, (va_up (va_up (fun _ => none) (0).toNatClampNeg (some sh1)) (1).toNatClampNeg (some sh2)), (upd (upd (fun _ => 0) (0).toNatClampNeg te1) (1).toNatClampNeg v14), ⟨?_, ?_, ?_, ?_⟩, ⟨?_, ?_, ?_, ?_, ?_, ?_⟩, ?_, ?_, ?_⟩
    · first | assumption | grind
    · first | assumption | grind
    · first | assumption | grind
    · first | assumption | grind
    · first | assumption | grind
    · first | assumption | grind
    · first | assumption | grind
    · first | assumption | grind
    · first | assumption | grind
    · first | assumption | grind
    · exact ⟨by simp [va_up, show (0 : Int32).toNatClampNeg = 0 from by decide, show (1 : Int32).toNatClampNeg = 1 from by decide, show (2 : Int32).toNatClampNeg = 2 from by decide], by simp [va_up, show (0 : Int32).toNatClampNeg = 0 from by decide, show (1 : Int32).toNatClampNeg = 1 from by decide, show (2 : Int32).toNatClampNeg = 2 from by decide]⟩
    · exact ⟨by simp_all [upd, show (0 : Int32).toNatClampNeg = 0 from by decide, show (1 : Int32).toNatClampNeg = 1 from by decide, show (2 : Int32).toNatClampNeg = 2 from by decide], by simp_all [upd, show (0 : Int32).toNatClampNeg = 0 from by decide, show (1 : Int32).toNatClampNeg = 1 from by decide, show (2 : Int32).toNatClampNeg = 2 from by decide]⟩
    · simp only [ew89, ew77, ew67, ew58, ew49, ew40, ew32, ew24, ew16, ew7, ew1, g_up_up]
      funext z
      simp only [g_up]
      grind
  · have yc13 : ri1 = false := g_b0.mp c13
    refine lv_aload_n hx hb dX2_init_21 rfl (lv_at hl 2 rfl) ?_
    refine g_get F hP (C := RX1) (T := TX1) (N := 5) iX1 f9 rfl 4 (by decide) (List.mem_cons_of_mem _ (List.mem_append_left _ (List.mem_append_left _ (List.mem_append_left _ (List.mem_append_left _ (List.mem_append_left _ (List.mem_of_getElem? (i := 5) rfl))))))) (fun _ h9 => h9) rfl dX2_init_22 ?_
    refine lv_if_eq (tgt := 36) hx hb dX2_init_25 (by decide) (fun c99 => ?_) (fun c99 => ?_)
    · have yc99 : ri2 = false := g_b0.mp c99
      refine lv_aload_n hx hb dX2_init_36 rfl (lv_at hl 2 rfl) ?_
      refine g_get F hP (C := RX1) (T := TX1) (N := 5) iX1 f9 rfl 1 (by decide) (List.mem_cons_of_mem _ (List.mem_append_left _ (List.mem_append_left _ (List.mem_append_left _ (List.mem_append_left _ (List.mem_append_left _ (List.mem_of_getElem? (i := 6) rfl))))))) (fun _ h9 => h9) rfl dX2_init_37 ?_
      refine lv_istore_n (lv' := [(3, .int te2), (0, .ref h), (1, .ref g1), (2, .ref g2)]) hx hb dX2_init_40 rfl hl (by decide) rfl (fun ls hl => ?_)
      refine lv_aload_n hx hb dX2_init_41 rfl (lv_at hl 1 rfl) ?_
      refine g_new F hP hS (ci := 6) (C := RX5) (T := TX5) (N := 4) (fs := [.null, .null, .null, .int 0]) iX5 tyX5 tyX5_ok (List.mem_cons_of_mem _ (List.mem_append_left _ (List.mem_append_left _ (List.mem_append_left _ (List.mem_append_left _ (List.mem_append_left _ (List.mem_of_getElem? (i := 7) rfl))))))) (List.mem_cons_of_mem _ (List.mem_append_left _ (List.mem_append_left _ (List.mem_append_left _ (List.mem_append_left _ (List.mem_append_left _ (List.mem_of_getElem? (i := 8) rfl))))))) (List.mem_cons_of_mem _ (List.mem_append_left _ (List.mem_append_left _ (List.mem_append_left _ (List.mem_append_left _ (List.mem_append_left _ (List.mem_of_getElem? (i := 9) rfl))))))) rfl (by intro j hj; match j, hj with | 0, _ => rfl | 1, _ => rfl | 2, _ => rfl | 3, _ => rfl | j + 4, hj => exact absurd hj (by omega)) (by rw [hR]; exact Nat.le_of_ble_eq_true rfl) (by rw [hR]; exact Nat.le_of_ble_eq_true rfl) dX2_init_42 (fun q100 H nq100 hP hS => ?_)
      obtain ⟨w101, ew101⟩ : ∃ z, z = g_up w7 q100 (.inr (6, [.null, .null, .null, .int 0])) := ⟨_, rfl⟩
      have hP : g_P A G w101 H := by rw [ew101]; exact hP
      have f102 : w101 g1 = some (.inr (2, [.ref sh1, .int te1, .int mo1, .int la1, .int (g_b ri1)])) := by rw [ew101]; exact g_up_f f8 (g_neq f8 nq100)
      have f103 : w101 g2 = some (.inr (2, [.ref sh2, .int te2, .int mo2, .int la2, .int (g_b ri2)])) := by rw [ew101]; exact g_up_f f9 (g_neq f9 nq100)
      have f104 : w101 sh1 = some (.inr (5, [.int x1, .int y1, .int hd1, .int st1, .ref fr1])) := by rw [ew101]; exact g_up_f f10 (g_neq f10 nq100)
      have f105 : w101 sh2 = some (.inr (5, [.int x2, .int y2, .int hd2, .int st2, .ref fr2])) := by rw [ew101]; exact g_up_f f11 (g_neq f11 nq100)
      have f106 : w101 h = some (.inr (3, [.ref g1, .ref g2, .null])) := by rw [ew101]; exact g_up_f f12 (g_neq f12 nq100)
      have f107 : w101 q100 = some (.inr (6, [.null, .null, .null, .int 0])) := by rw [ew101]; exact g_up_s _ _ _
      refine lv_dup hx hb dX2_init_45 rfl ?_
      refine lv_iconst (v := 2) hx hb dX2_init_46 (by decide) ?_
      refine g_newqS F hP hS (N' := 2) (List.mem_cons_of_mem _ (List.mem_append_left _ (List.mem_append_left _ (List.mem_append_left _ (List.mem_append_left _ (List.mem_append_left _ (List.mem_of_getElem? (i := 10) rfl))))))) (by decide) (by decide) (by decide) (by rw [hR]; exact Nat.le_of_ble_eq_true rfl) (by rw [hR]; exact Nat.le_of_ble_eq_true rfl) dX2_init_47 (fun q108 H nq108 hP hS => ?_)
      obtain ⟨w109, ew109⟩ : ∃ z, z = g_up w101 q108 (.inl (G.2.1 4, 2, .inr (.inr (.inr (.inr (fun _ => none)))))) := ⟨_, rfl⟩
      have hP : g_P A G w109 H := by rw [ew109]; exact hP
      have f110 : w109 g1 = some (.inr (2, [.ref sh1, .int te1, .int mo1, .int la1, .int (g_b ri1)])) := by rw [ew109]; exact g_up_f f102 (g_neq f102 nq108)
      have f111 : w109 g2 = some (.inr (2, [.ref sh2, .int te2, .int mo2, .int la2, .int (g_b ri2)])) := by rw [ew109]; exact g_up_f f103 (g_neq f103 nq108)
      have f112 : w109 sh1 = some (.inr (5, [.int x1, .int y1, .int hd1, .int st1, .ref fr1])) := by rw [ew109]; exact g_up_f f104 (g_neq f104 nq108)
      have f113 : w109 sh2 = some (.inr (5, [.int x2, .int y2, .int hd2, .int st2, .ref fr2])) := by rw [ew109]; exact g_up_f f105 (g_neq f105 nq108)
      have f114 : w109 h = some (.inr (3, [.ref g1, .ref g2, .null])) := by rw [ew109]; exact g_up_f f106 (g_neq f106 nq108)
      have f115 : w109 q100 = some (.inr (6, [.null, .null, .null, .int 0])) := by rw [ew109]; exact g_up_f f107 (g_neq f107 nq108)
      have f116 : w109 q108 = some (.inl (G.2.1 4, 2, .inr (.inr (.inr (.inr (fun _ => none)))))) := by rw [ew109]; exact g_up_s _ _ _
      refine lv_dup hx hb dX2_init_50 rfl ?_
      refine lv_iconst (v := 0) hx hb dX2_init_51 (by decide) ?_
      refine lv_aload_n hx hb dX2_init_52 rfl (lv_at hl 2 rfl) ?_
      refine g_get F hP (C := RX1) (T := TX1) (N := 5) iX1 f110 rfl 0 (by decide) (List.mem_cons_of_mem _ (List.mem_append_left _ (List.mem_append_left _ (List.mem_append_left _ (List.mem_append_left _ (List.mem_append_left _ (List.mem_of_getElem? (i := 11) rfl))))))) (fun _ h9 => h9) rfl dX2_init_53 ?_
      refine g_astqS F hP hS f116 f112 (by decide) dX2_init_56 (fun H locs hP hS => ?_)
      obtain ⟨w117, ew117⟩ : ∃ z, z = g_up w109 q108 (.inl (G.2.1 4, 2, .inr (.inr (.inr (.inr (va_up (fun _ => none) (0).toNatClampNeg (some sh1))))))) := ⟨_, rfl⟩
      have hP : g_P A G w117 H := by rw [ew117]; exact hP
      have f118 : w117 g1 = some (.inr (2, [.ref sh1, .int te1, .int mo1, .int la1, .int (g_b ri1)])) := by rw [ew117]; exact g_up_f f110 (g_ne f110 f116 rfl)
      have f119 : w117 g2 = some (.inr (2, [.ref sh2, .int te2, .int mo2, .int la2, .int (g_b ri2)])) := by rw [ew117]; exact g_up_f f111 (g_ne f111 f116 rfl)
      have f120 : w117 sh1 = some (.inr (5, [.int x1, .int y1, .int hd1, .int st1, .ref fr1])) := by rw [ew117]; exact g_up_f f112 (g_ne f112 f116 rfl)
      have f121 : w117 sh2 = some (.inr (5, [.int x2, .int y2, .int hd2, .int st2, .ref fr2])) := by rw [ew117]; exact g_up_f f113 (g_ne f113 f116 rfl)
      have f122 : w117 h = some (.inr (3, [.ref g1, .ref g2, .null])) := by rw [ew117]; exact g_up_f f114 (g_ne f114 f116 rfl)
      have f123 : w117 q100 = some (.inr (6, [.null, .null, .null, .int 0])) := by rw [ew117]; exact g_up_f f115 (g_ne f115 f116 rfl)
      have f124 : w117 q108 = some (.inl (G.2.1 4, 2, .inr (.inr (.inr (.inr (va_up (fun _ => none) (0).toNatClampNeg (some sh1))))))) := by rw [ew117]; exact g_up_s _ _ _
      refine lv_dup hx hb dX2_init_57 rfl ?_
      refine lv_iconst (v := 1) hx hb dX2_init_58 (by decide) ?_
      refine lv_aload_n hx hb dX2_init_59 rfl (lv_at hl 3 rfl) ?_
      refine g_get F hP (C := RX1) (T := TX1) (N := 5) iX1 f119 rfl 0 (by decide) (List.mem_cons_of_mem _ (List.mem_append_left _ (List.mem_append_left _ (List.mem_append_left _ (List.mem_append_left _ (List.mem_append_left _ (List.mem_of_getElem? (i := 11) rfl))))))) (fun _ h9 => h9) rfl dX2_init_60 ?_
      refine g_astqS F hP hS f124 f121 (by decide) dX2_init_63 (fun H locs hP hS => ?_)
      obtain ⟨w125, ew125⟩ : ∃ z, z = g_up w117 q108 (.inl (G.2.1 4, 2, .inr (.inr (.inr (.inr (va_up (va_up (fun _ => none) (0).toNatClampNeg (some sh1)) (1).toNatClampNeg (some sh2))))))) := ⟨_, rfl⟩
      have hP : g_P A G w125 H := by rw [ew125]; exact hP
      have f126 : w125 g1 = some (.inr (2, [.ref sh1, .int te1, .int mo1, .int la1, .int (g_b ri1)])) := by rw [ew125]; exact g_up_f f118 (g_ne f118 f124 rfl)
      have f127 : w125 g2 = some (.inr (2, [.ref sh2, .int te2, .int mo2, .int la2, .int (g_b ri2)])) := by rw [ew125]; exact g_up_f f119 (g_ne f119 f124 rfl)
      have f128 : w125 sh1 = some (.inr (5, [.int x1, .int y1, .int hd1, .int st1, .ref fr1])) := by rw [ew125]; exact g_up_f f120 (g_ne f120 f124 rfl)
      have f129 : w125 sh2 = some (.inr (5, [.int x2, .int y2, .int hd2, .int st2, .ref fr2])) := by rw [ew125]; exact g_up_f f121 (g_ne f121 f124 rfl)
      have f130 : w125 h = some (.inr (3, [.ref g1, .ref g2, .null])) := by rw [ew125]; exact g_up_f f122 (g_ne f122 f124 rfl)
      have f131 : w125 q100 = some (.inr (6, [.null, .null, .null, .int 0])) := by rw [ew125]; exact g_up_f f123 (g_ne f123 f124 rfl)
      have f132 : w125 q108 = some (.inl (G.2.1 4, 2, .inr (.inr (.inr (.inr (va_up (va_up (fun _ => none) (0).toNatClampNeg (some sh1)) (1).toNatClampNeg (some sh2))))))) := by rw [ew125]; exact g_up_s _ _ _
      refine lv_iconst (v := 2) hx hb dX2_init_64 (by decide) ?_
      refine g_newaI F hP hS (N' := 2) (List.mem_cons_of_mem _ (List.mem_append_left _ (List.mem_append_left _ (List.mem_append_left _ (List.mem_append_left _ (List.mem_append_left _ (List.mem_of_getElem? (i := 12) rfl))))))) (by decide) (by decide) (by decide) (by rw [hR]; exact Nat.le_of_ble_eq_true rfl) (by rw [hR]; exact Nat.le_of_ble_eq_true rfl) dX2_init_65 (fun q133 H nq133 hP hS => ?_)
      obtain ⟨w134, ew134⟩ : ∃ z, z = g_up w125 q133 (.inl (G.2.1 0, 2, .inl (fun _ => 0))) := ⟨_, rfl⟩
      have hP : g_P A G w134 H := by rw [ew134]; exact hP
      have f135 : w134 g1 = some (.inr (2, [.ref sh1, .int te1, .int mo1, .int la1, .int (g_b ri1)])) := by rw [ew134]; exact g_up_f f126 (g_neq f126 nq133)
      have f136 : w134 g2 = some (.inr (2, [.ref sh2, .int te2, .int mo2, .int la2, .int (g_b ri2)])) := by rw [ew134]; exact g_up_f f127 (g_neq f127 nq133)
      have f137 : w134 sh1 = some (.inr (5, [.int x1, .int y1, .int hd1, .int st1, .ref fr1])) := by rw [ew134]; exact g_up_f f128 (g_neq f128 nq133)
      have f138 : w134 sh2 = some (.inr (5, [.int x2, .int y2, .int hd2, .int st2, .ref fr2])) := by rw [ew134]; exact g_up_f f129 (g_neq f129 nq133)
      have f139 : w134 h = some (.inr (3, [.ref g1, .ref g2, .null])) := by rw [ew134]; exact g_up_f f130 (g_neq f130 nq133)
      have f140 : w134 q100 = some (.inr (6, [.null, .null, .null, .int 0])) := by rw [ew134]; exact g_up_f f131 (g_neq f131 nq133)
      have f141 : w134 q108 = some (.inl (G.2.1 4, 2, .inr (.inr (.inr (.inr (va_up (va_up (fun _ => none) (0).toNatClampNeg (some sh1)) (1).toNatClampNeg (some sh2))))))) := by rw [ew134]; exact g_up_f f132 (g_neq f132 nq133)
      have f142 : w134 q133 = some (.inl (G.2.1 0, 2, .inl (fun _ => 0))) := by rw [ew134]; exact g_up_s _ _ _
      refine lv_dup hx hb dX2_init_67 rfl ?_
      refine lv_iconst (v := 0) hx hb dX2_init_68 (by decide) ?_
      refine lv_aload_n hx hb dX2_init_69 rfl (lv_at hl 2 rfl) ?_
      refine g_get F hP (C := RX1) (T := TX1) (N := 5) iX1 f135 rfl 1 (by decide) (List.mem_cons_of_mem _ (List.mem_append_left _ (List.mem_append_left _ (List.mem_append_left _ (List.mem_append_left _ (List.mem_append_left _ (List.mem_of_getElem? (i := 6) rfl))))))) (fun _ h9 => h9) rfl dX2_init_70 ?_
      refine g_iast F hP hS f142 (by decide) dX2_init_73 (fun H locs hP hS => ?_)
      obtain ⟨w143, ew143⟩ : ∃ z, z = g_up w134 q133 (.inl (G.2.1 0, 2, .inl (upd (fun _ => 0) (0).toNatClampNeg te1))) := ⟨_, rfl⟩
      have hP : g_P A G w143 H := by rw [ew143]; exact hP
      have f144 : w143 g1 = some (.inr (2, [.ref sh1, .int te1, .int mo1, .int la1, .int (g_b ri1)])) := by rw [ew143]; exact g_up_f f135 (g_ne f135 f142 rfl)
      have f145 : w143 g2 = some (.inr (2, [.ref sh2, .int te2, .int mo2, .int la2, .int (g_b ri2)])) := by rw [ew143]; exact g_up_f f136 (g_ne f136 f142 rfl)
      have f146 : w143 sh1 = some (.inr (5, [.int x1, .int y1, .int hd1, .int st1, .ref fr1])) := by rw [ew143]; exact g_up_f f137 (g_ne f137 f142 rfl)
      have f147 : w143 sh2 = some (.inr (5, [.int x2, .int y2, .int hd2, .int st2, .ref fr2])) := by rw [ew143]; exact g_up_f f138 (g_ne f138 f142 rfl)
      have f148 : w143 h = some (.inr (3, [.ref g1, .ref g2, .null])) := by rw [ew143]; exact g_up_f f139 (g_ne f139 f142 rfl)
      have f149 : w143 q100 = some (.inr (6, [.null, .null, .null, .int 0])) := by rw [ew143]; exact g_up_f f140 (g_ne f140 f142 rfl)
      have f150 : w143 q108 = some (.inl (G.2.1 4, 2, .inr (.inr (.inr (.inr (va_up (va_up (fun _ => none) (0).toNatClampNeg (some sh1)) (1).toNatClampNeg (some sh2))))))) := by rw [ew143]; exact g_up_f f141 (g_ne f141 f142 rfl)
      have f151 : w143 q133 = some (.inl (G.2.1 0, 2, .inl (upd (fun _ => 0) (0).toNatClampNeg te1))) := by rw [ew143]; exact g_up_s _ _ _
      refine lv_dup hx hb dX2_init_74 rfl ?_
      refine lv_iconst (v := 1) hx hb dX2_init_75 (by decide) ?_
      refine lv_iload_n hx hb dX2_init_76 rfl (lv_at hl 0 rfl) ?_
      refine g_iast F hP hS f151 (by decide) dX2_init_77 (fun H locs hP hS => ?_)
      obtain ⟨w152, ew152⟩ : ∃ z, z = g_up w143 q133 (.inl (G.2.1 0, 2, .inl (upd (upd (fun _ => 0) (0).toNatClampNeg te1) (1).toNatClampNeg te2))) := ⟨_, rfl⟩
      have hP : g_P A G w152 H := by rw [ew152]; exact hP
      have f153 : w152 g1 = some (.inr (2, [.ref sh1, .int te1, .int mo1, .int la1, .int (g_b ri1)])) := by rw [ew152]; exact g_up_f f144 (g_ne f144 f151 rfl)
      have f154 : w152 g2 = some (.inr (2, [.ref sh2, .int te2, .int mo2, .int la2, .int (g_b ri2)])) := by rw [ew152]; exact g_up_f f145 (g_ne f145 f151 rfl)
      have f155 : w152 sh1 = some (.inr (5, [.int x1, .int y1, .int hd1, .int st1, .ref fr1])) := by rw [ew152]; exact g_up_f f146 (g_ne f146 f151 rfl)
      have f156 : w152 sh2 = some (.inr (5, [.int x2, .int y2, .int hd2, .int st2, .ref fr2])) := by rw [ew152]; exact g_up_f f147 (g_ne f147 f151 rfl)
      have f157 : w152 h = some (.inr (3, [.ref g1, .ref g2, .null])) := by rw [ew152]; exact g_up_f f148 (g_ne f148 f151 rfl)
      have f158 : w152 q100 = some (.inr (6, [.null, .null, .null, .int 0])) := by rw [ew152]; exact g_up_f f149 (g_ne f149 f151 rfl)
      have f159 : w152 q108 = some (.inl (G.2.1 4, 2, .inr (.inr (.inr (.inr (va_up (va_up (fun _ => none) (0).toNatClampNeg (some sh1)) (1).toNatClampNeg (some sh2))))))) := by rw [ew152]; exact g_up_f f150 (g_ne f150 f151 rfl)
      have f160 : w152 q133 = some (.inl (G.2.1 0, 2, .inl (upd (upd (fun _ => 0) (0).toNatClampNeg te1) (1).toNatClampNeg te2))) := by rw [ew152]; exact g_up_s _ _ _
      refine g_Iv (As := [.ref q108, .ref q133]) (rest := [.ref q100, .ref h]) F hP hS (k_X5_init l A G w152 q100 q108 q133 f158) (cwI 2 hts gX2_init_X5_init rfl rfl rfl (hts _ (List.mem_cons_of_mem _ (List.mem_append_left _ (List.mem_append_left _ (List.mem_append_left _ (List.mem_append_left _ (List.mem_append_left _ (List.mem_of_getElem? (i := 9) rfl)))))))) (hts _ (List.mem_cons_of_mem _ (List.mem_append_left _ (List.mem_append_left _ (List.mem_append_left _ (List.mem_append_left _ (List.mem_append_left _ (List.mem_of_getElem? (i := 14) rfl)))))))) (hts _ (List.mem_cons_of_mem _ (List.mem_append_left _ (List.mem_append_left _ (List.mem_append_left _ (List.mem_append_left _ (List.mem_append_left _ (List.mem_of_getElem? (i := 15) rfl)))))))) rfl cd_X5_init ⟨by rw [hR]; exact Nat.le_of_ble_eq_true rfl, by rw [hR]; exact Nat.le_of_ble_eq_true rfl⟩) rfl hl.1 (Nat.le_of_ble_eq_true rfl) dX2_init_78 ⟨by rw [hR]; exact Nat.le_of_ble_eq_true rfl, by rw [hR]; exact Nat.le_of_ble_eq_true rfl⟩ rfl (fun w162 H locs h163 hP hS => ?_)
      obtain ⟨q164, nq164, ew162⟩ := h163
      have f165 : w162 g1 = some (.inr (2, [.ref sh1, .int te1, .int mo1, .int la1, .int (g_b ri1)])) := by rw [ew162]; exact g_up_f (g_up_f f153 (g_neq f153 nq164)) (g_ne f153 f158 rfl)
      have f166 : w162 g2 = some (.inr (2, [.ref sh2, .int te2, .int mo2, .int la2, .int (g_b ri2)])) := by rw [ew162]; exact g_up_f (g_up_f f154 (g_neq f154 nq164)) (g_ne f154 f158 rfl)
      have f167 : w162 sh1 = some (.inr (5, [.int x1, .int y1, .int hd1, .int st1, .ref fr1])) := by rw [ew162]; exact g_up_f (g_up_f f155 (g_neq f155 nq164)) (g_ne f155 f158 rfl)
      have f168 : w162 sh2 = some (.inr (5, [.int x2, .int y2, .int hd2, .int st2, .ref fr2])) := by rw [ew162]; exact g_up_f (g_up_f f156 (g_neq f156 nq164)) (g_ne f156 f158 rfl)
      have f169 : w162 h = some (.inr (3, [.ref g1, .ref g2, .null])) := by rw [ew162]; exact g_up_f (g_up_f f157 (g_neq f157 nq164)) (g_ne f157 f158 rfl)
      have f170 : w162 q108 = some (.inl (G.2.1 4, 2, .inr (.inr (.inr (.inr (va_up (va_up (fun _ => none) (0).toNatClampNeg (some sh1)) (1).toNatClampNeg (some sh2))))))) := by rw [ew162]; exact g_up_f (g_up_f f159 (g_neq f159 nq164)) (g_ne f159 f158 rfl)
      have f171 : w162 q133 = some (.inl (G.2.1 0, 2, .inl (upd (upd (fun _ => 0) (0).toNatClampNeg te1) (1).toNatClampNeg te2))) := by rw [ew162]; exact g_up_f (g_up_f f160 (g_neq f160 nq164)) (g_ne f160 f158 rfl)
      have f172 : w162 q164 = some (.inr (1, [.long 0, .long 1])) := by rw [ew162]; exact g_up_f (g_up_s _ _ _) (Ne.symm (g_neq f158 nq164))
      have f173 : w162 q100 = some (.inr (6, [.ref q108, .ref q133, .ref q164, .int 0])) := by rw [ew162]; exact g_up_s _ _ _
      refine g_putF F hP hS (C := RX2) (T := TX2) (N := 3) (v := .ref q100) (ty := (.object "GearTrains$Tie")) iX2 tyX2 tyX2_ok nmX2 f169 rfl 2 (by decide) (List.mem_cons_of_mem _ (List.mem_append_left _ (List.mem_append_left _ (List.mem_append_left _ (List.mem_append_left _ (List.mem_append_left _ (List.mem_of_getElem? (i := 13) rfl))))))) (fun _ h9 => h9) rfl hnm0 rfl (by decide +kernel) rfl rfl (by show 2 < 3; decide) dX2_init_81 (fun H locs hP hS => ?_)
      obtain ⟨w174, ew174⟩ : ∃ z, z = g_up w162 h (.inr (3, [.ref g1, .ref g2, .ref q100])) := ⟨_, rfl⟩
      have hP : g_P A G w174 H := by rw [ew174]; exact hP
      have f175 : w174 g1 = some (.inr (2, [.ref sh1, .int te1, .int mo1, .int la1, .int (g_b ri1)])) := by rw [ew174]; exact g_up_f f165 (g_ne f165 f169 rfl)
      have f176 : w174 g2 = some (.inr (2, [.ref sh2, .int te2, .int mo2, .int la2, .int (g_b ri2)])) := by rw [ew174]; exact g_up_f f166 (g_ne f166 f169 rfl)
      have f177 : w174 sh1 = some (.inr (5, [.int x1, .int y1, .int hd1, .int st1, .ref fr1])) := by rw [ew174]; exact g_up_f f167 (g_ne f167 f169 rfl)
      have f178 : w174 sh2 = some (.inr (5, [.int x2, .int y2, .int hd2, .int st2, .ref fr2])) := by rw [ew174]; exact g_up_f f168 (g_ne f168 f169 rfl)
      have f179 : w174 q108 = some (.inl (G.2.1 4, 2, .inr (.inr (.inr (.inr (va_up (va_up (fun _ => none) (0).toNatClampNeg (some sh1)) (1).toNatClampNeg (some sh2))))))) := by rw [ew174]; exact g_up_f f170 (g_ne f170 f169 rfl)
      have f180 : w174 q133 = some (.inl (G.2.1 0, 2, .inl (upd (upd (fun _ => 0) (0).toNatClampNeg te1) (1).toNatClampNeg te2))) := by rw [ew174]; exact g_up_f f171 (g_ne f171 f169 rfl)
      have f181 : w174 q164 = some (.inr (1, [.long 0, .long 1])) := by rw [ew174]; exact g_up_f f172 (g_ne f172 f169 rfl)
      have f182 : w174 q100 = some (.inr (6, [.ref q108, .ref q133, .ref q164, .int 0])) := by rw [ew174]; exact g_up_f f173 (g_ne f173 f169 rfl)
      have f183 : w174 h = some (.inr (3, [.ref g1, .ref g2, .ref q100])) := by rw [ew174]; exact g_up_s _ _ _
      rw [hQ]
      refine g_vret F hP hS hlocks hr dX2_init_84 (by decide) (by decide) ?_
      simp only [ew174, ew162, ew152, ew143, ew134, ew125, ew117, ew109, ew101, ew7, ew1, g_up_up, g_up] at nq100
      simp only [ew174, ew162, ew152, ew143, ew134, ew125, ew117, ew109, ew101, ew7, ew1, g_up_up, g_up] at nq108
      simp only [ew174, ew162, ew152, ew143, ew134, ew125, ew117, ew109, ew101, ew7, ew1, g_up_up, g_up] at nq133
      simp only [ew174, ew162, ew152, ew143, ew134, ew125, ew117, ew109, ew101, ew7, ew1, g_up_up, g_up] at nq164
      refine ⟨q100, q108, q133, q164, (va_up (va_up (fun _ => none) (0).toNatClampNeg (some sh1)) (1).toNatClampNeg (some sh2)), (upd (upd (fun _ => 0) (0).toNatClampNeg te1) (1).toNatClampNeg te2), ⟨?_, ?_, ?_, ?_⟩, ⟨?_, ?_, ?_, ?_, ?_, ?_⟩, ?_, ?_, ?_⟩
      · first | assumption | grind
      · first | assumption | grind
      · first | assumption | grind
      · first | assumption | grind
      · first | assumption | grind
      · first | assumption | grind
      · first | assumption | grind
      · first | assumption | grind
      · first | assumption | grind
      · first | assumption | grind
      · exact ⟨by simp [va_up, show (0 : Int32).toNatClampNeg = 0 from by decide, show (1 : Int32).toNatClampNeg = 1 from by decide, show (2 : Int32).toNatClampNeg = 2 from by decide], by simp [va_up, show (0 : Int32).toNatClampNeg = 0 from by decide, show (1 : Int32).toNatClampNeg = 1 from by decide, show (2 : Int32).toNatClampNeg = 2 from by decide]⟩
      · exact ⟨by simp_all [upd, show (0 : Int32).toNatClampNeg = 0 from by decide, show (1 : Int32).toNatClampNeg = 1 from by decide, show (2 : Int32).toNatClampNeg = 2 from by decide], by simp_all [upd, show (0 : Int32).toNatClampNeg = 0 from by decide, show (1 : Int32).toNatClampNeg = 1 from by decide, show (2 : Int32).toNatClampNeg = 2 from by decide]⟩
      · simp only [ew174, ew162, ew152, ew143, ew134, ew125, ew117, ew109, ew101, ew7, ew1, g_up_up]
        funext z
        simp only [g_up]
        grind
    · have yc99 : ri2 = true := g_b1.mp c99
      refine lv_aload_n hx hb dX2_init_28 rfl (lv_at hl 2 rfl) ?_
      refine g_get F hP (C := RX1) (T := TX1) (N := 5) iX1 f9 rfl 1 (by decide) (List.mem_cons_of_mem _ (List.mem_append_left _ (List.mem_append_left _ (List.mem_append_left _ (List.mem_append_left _ (List.mem_append_left _ (List.mem_of_getElem? (i := 6) rfl))))))) (fun _ h9 => h9) rfl dX2_init_29 ?_
      refine lv_ineg hx hb dX2_init_32 ?_
      refine lv_topi (fun v184 ev184 => ?_)
      refine lv_goto (tgt := 40) hx hb dX2_init_33 (by decide) ?_
      refine lv_istore_n (lv' := [(3, .int v184), (0, .ref h), (1, .ref g1), (2, .ref g2)]) hx hb dX2_init_40 rfl hl (by decide) rfl (fun ls hl => ?_)
      refine lv_aload_n hx hb dX2_init_41 rfl (lv_at hl 1 rfl) ?_
      refine g_new F hP hS (ci := 6) (C := RX5) (T := TX5) (N := 4) (fs := [.null, .null, .null, .int 0]) iX5 tyX5 tyX5_ok (List.mem_cons_of_mem _ (List.mem_append_left _ (List.mem_append_left _ (List.mem_append_left _ (List.mem_append_left _ (List.mem_append_left _ (List.mem_of_getElem? (i := 7) rfl))))))) (List.mem_cons_of_mem _ (List.mem_append_left _ (List.mem_append_left _ (List.mem_append_left _ (List.mem_append_left _ (List.mem_append_left _ (List.mem_of_getElem? (i := 8) rfl))))))) (List.mem_cons_of_mem _ (List.mem_append_left _ (List.mem_append_left _ (List.mem_append_left _ (List.mem_append_left _ (List.mem_append_left _ (List.mem_of_getElem? (i := 9) rfl))))))) rfl (by intro j hj; match j, hj with | 0, _ => rfl | 1, _ => rfl | 2, _ => rfl | 3, _ => rfl | j + 4, hj => exact absurd hj (by omega)) (by rw [hR]; exact Nat.le_of_ble_eq_true rfl) (by rw [hR]; exact Nat.le_of_ble_eq_true rfl) dX2_init_42 (fun q185 H nq185 hP hS => ?_)
      obtain ⟨w186, ew186⟩ : ∃ z, z = g_up w7 q185 (.inr (6, [.null, .null, .null, .int 0])) := ⟨_, rfl⟩
      have hP : g_P A G w186 H := by rw [ew186]; exact hP
      have f187 : w186 g1 = some (.inr (2, [.ref sh1, .int te1, .int mo1, .int la1, .int (g_b ri1)])) := by rw [ew186]; exact g_up_f f8 (g_neq f8 nq185)
      have f188 : w186 g2 = some (.inr (2, [.ref sh2, .int te2, .int mo2, .int la2, .int (g_b ri2)])) := by rw [ew186]; exact g_up_f f9 (g_neq f9 nq185)
      have f189 : w186 sh1 = some (.inr (5, [.int x1, .int y1, .int hd1, .int st1, .ref fr1])) := by rw [ew186]; exact g_up_f f10 (g_neq f10 nq185)
      have f190 : w186 sh2 = some (.inr (5, [.int x2, .int y2, .int hd2, .int st2, .ref fr2])) := by rw [ew186]; exact g_up_f f11 (g_neq f11 nq185)
      have f191 : w186 h = some (.inr (3, [.ref g1, .ref g2, .null])) := by rw [ew186]; exact g_up_f f12 (g_neq f12 nq185)
      have f192 : w186 q185 = some (.inr (6, [.null, .null, .null, .int 0])) := by rw [ew186]; exact g_up_s _ _ _
      refine lv_dup hx hb dX2_init_45 rfl ?_
      refine lv_iconst (v := 2) hx hb dX2_init_46 (by decide) ?_
      refine g_newqS F hP hS (N' := 2) (List.mem_cons_of_mem _ (List.mem_append_left _ (List.mem_append_left _ (List.mem_append_left _ (List.mem_append_left _ (List.mem_append_left _ (List.mem_of_getElem? (i := 10) rfl))))))) (by decide) (by decide) (by decide) (by rw [hR]; exact Nat.le_of_ble_eq_true rfl) (by rw [hR]; exact Nat.le_of_ble_eq_true rfl) dX2_init_47 (fun q193 H nq193 hP hS => ?_)
      obtain ⟨w194, ew194⟩ : ∃ z, z = g_up w186 q193 (.inl (G.2.1 4, 2, .inr (.inr (.inr (.inr (fun _ => none)))))) := ⟨_, rfl⟩
      have hP : g_P A G w194 H := by rw [ew194]; exact hP
      have f195 : w194 g1 = some (.inr (2, [.ref sh1, .int te1, .int mo1, .int la1, .int (g_b ri1)])) := by rw [ew194]; exact g_up_f f187 (g_neq f187 nq193)
      have f196 : w194 g2 = some (.inr (2, [.ref sh2, .int te2, .int mo2, .int la2, .int (g_b ri2)])) := by rw [ew194]; exact g_up_f f188 (g_neq f188 nq193)
      have f197 : w194 sh1 = some (.inr (5, [.int x1, .int y1, .int hd1, .int st1, .ref fr1])) := by rw [ew194]; exact g_up_f f189 (g_neq f189 nq193)
      have f198 : w194 sh2 = some (.inr (5, [.int x2, .int y2, .int hd2, .int st2, .ref fr2])) := by rw [ew194]; exact g_up_f f190 (g_neq f190 nq193)
      have f199 : w194 h = some (.inr (3, [.ref g1, .ref g2, .null])) := by rw [ew194]; exact g_up_f f191 (g_neq f191 nq193)
      have f200 : w194 q185 = some (.inr (6, [.null, .null, .null, .int 0])) := by rw [ew194]; exact g_up_f f192 (g_neq f192 nq193)
      have f201 : w194 q193 = some (.inl (G.2.1 4, 2, .inr (.inr (.inr (.inr (fun _ => none)))))) := by rw [ew194]; exact g_up_s _ _ _
      refine lv_dup hx hb dX2_init_50 rfl ?_
      refine lv_iconst (v := 0) hx hb dX2_init_51 (by decide) ?_
      refine lv_aload_n hx hb dX2_init_52 rfl (lv_at hl 2 rfl) ?_
      refine g_get F hP (C := RX1) (T := TX1) (N := 5) iX1 f195 rfl 0 (by decide) (List.mem_cons_of_mem _ (List.mem_append_left _ (List.mem_append_left _ (List.mem_append_left _ (List.mem_append_left _ (List.mem_append_left _ (List.mem_of_getElem? (i := 11) rfl))))))) (fun _ h9 => h9) rfl dX2_init_53 ?_
      refine g_astqS F hP hS f201 f197 (by decide) dX2_init_56 (fun H locs hP hS => ?_)
      obtain ⟨w202, ew202⟩ : ∃ z, z = g_up w194 q193 (.inl (G.2.1 4, 2, .inr (.inr (.inr (.inr (va_up (fun _ => none) (0).toNatClampNeg (some sh1))))))) := ⟨_, rfl⟩
      have hP : g_P A G w202 H := by rw [ew202]; exact hP
      have f203 : w202 g1 = some (.inr (2, [.ref sh1, .int te1, .int mo1, .int la1, .int (g_b ri1)])) := by rw [ew202]; exact g_up_f f195 (g_ne f195 f201 rfl)
      have f204 : w202 g2 = some (.inr (2, [.ref sh2, .int te2, .int mo2, .int la2, .int (g_b ri2)])) := by rw [ew202]; exact g_up_f f196 (g_ne f196 f201 rfl)
      have f205 : w202 sh1 = some (.inr (5, [.int x1, .int y1, .int hd1, .int st1, .ref fr1])) := by rw [ew202]; exact g_up_f f197 (g_ne f197 f201 rfl)
      have f206 : w202 sh2 = some (.inr (5, [.int x2, .int y2, .int hd2, .int st2, .ref fr2])) := by rw [ew202]; exact g_up_f f198 (g_ne f198 f201 rfl)
      have f207 : w202 h = some (.inr (3, [.ref g1, .ref g2, .null])) := by rw [ew202]; exact g_up_f f199 (g_ne f199 f201 rfl)
      have f208 : w202 q185 = some (.inr (6, [.null, .null, .null, .int 0])) := by rw [ew202]; exact g_up_f f200 (g_ne f200 f201 rfl)
      have f209 : w202 q193 = some (.inl (G.2.1 4, 2, .inr (.inr (.inr (.inr (va_up (fun _ => none) (0).toNatClampNeg (some sh1))))))) := by rw [ew202]; exact g_up_s _ _ _
      refine lv_dup hx hb dX2_init_57 rfl ?_
      refine lv_iconst (v := 1) hx hb dX2_init_58 (by decide) ?_
      refine lv_aload_n hx hb dX2_init_59 rfl (lv_at hl 3 rfl) ?_
      refine g_get F hP (C := RX1) (T := TX1) (N := 5) iX1 f204 rfl 0 (by decide) (List.mem_cons_of_mem _ (List.mem_append_left _ (List.mem_append_left _ (List.mem_append_left _ (List.mem_append_left _ (List.mem_append_left _ (List.mem_of_getElem? (i := 11) rfl))))))) (fun _ h9 => h9) rfl dX2_init_60 ?_
      refine g_astqS F hP hS f209 f206 (by decide) dX2_init_63 (fun H locs hP hS => ?_)
      obtain ⟨w210, ew210⟩ : ∃ z, z = g_up w202 q193 (.inl (G.2.1 4, 2, .inr (.inr (.inr (.inr (va_up (va_up (fun _ => none) (0).toNatClampNeg (some sh1)) (1).toNatClampNeg (some sh2))))))) := ⟨_, rfl⟩
      have hP : g_P A G w210 H := by rw [ew210]; exact hP
      have f211 : w210 g1 = some (.inr (2, [.ref sh1, .int te1, .int mo1, .int la1, .int (g_b ri1)])) := by rw [ew210]; exact g_up_f f203 (g_ne f203 f209 rfl)
      have f212 : w210 g2 = some (.inr (2, [.ref sh2, .int te2, .int mo2, .int la2, .int (g_b ri2)])) := by rw [ew210]; exact g_up_f f204 (g_ne f204 f209 rfl)
      have f213 : w210 sh1 = some (.inr (5, [.int x1, .int y1, .int hd1, .int st1, .ref fr1])) := by rw [ew210]; exact g_up_f f205 (g_ne f205 f209 rfl)
      have f214 : w210 sh2 = some (.inr (5, [.int x2, .int y2, .int hd2, .int st2, .ref fr2])) := by rw [ew210]; exact g_up_f f206 (g_ne f206 f209 rfl)
      have f215 : w210 h = some (.inr (3, [.ref g1, .ref g2, .null])) := by rw [ew210]; exact g_up_f f207 (g_ne f207 f209 rfl)
      have f216 : w210 q185 = some (.inr (6, [.null, .null, .null, .int 0])) := by rw [ew210]; exact g_up_f f208 (g_ne f208 f209 rfl)
      have f217 : w210 q193 = some (.inl (G.2.1 4, 2, .inr (.inr (.inr (.inr (va_up (va_up (fun _ => none) (0).toNatClampNeg (some sh1)) (1).toNatClampNeg (some sh2))))))) := by rw [ew210]; exact g_up_s _ _ _
      refine lv_iconst (v := 2) hx hb dX2_init_64 (by decide) ?_
      refine g_newaI F hP hS (N' := 2) (List.mem_cons_of_mem _ (List.mem_append_left _ (List.mem_append_left _ (List.mem_append_left _ (List.mem_append_left _ (List.mem_append_left _ (List.mem_of_getElem? (i := 12) rfl))))))) (by decide) (by decide) (by decide) (by rw [hR]; exact Nat.le_of_ble_eq_true rfl) (by rw [hR]; exact Nat.le_of_ble_eq_true rfl) dX2_init_65 (fun q218 H nq218 hP hS => ?_)
      obtain ⟨w219, ew219⟩ : ∃ z, z = g_up w210 q218 (.inl (G.2.1 0, 2, .inl (fun _ => 0))) := ⟨_, rfl⟩
      have hP : g_P A G w219 H := by rw [ew219]; exact hP
      have f220 : w219 g1 = some (.inr (2, [.ref sh1, .int te1, .int mo1, .int la1, .int (g_b ri1)])) := by rw [ew219]; exact g_up_f f211 (g_neq f211 nq218)
      have f221 : w219 g2 = some (.inr (2, [.ref sh2, .int te2, .int mo2, .int la2, .int (g_b ri2)])) := by rw [ew219]; exact g_up_f f212 (g_neq f212 nq218)
      have f222 : w219 sh1 = some (.inr (5, [.int x1, .int y1, .int hd1, .int st1, .ref fr1])) := by rw [ew219]; exact g_up_f f213 (g_neq f213 nq218)
      have f223 : w219 sh2 = some (.inr (5, [.int x2, .int y2, .int hd2, .int st2, .ref fr2])) := by rw [ew219]; exact g_up_f f214 (g_neq f214 nq218)
      have f224 : w219 h = some (.inr (3, [.ref g1, .ref g2, .null])) := by rw [ew219]; exact g_up_f f215 (g_neq f215 nq218)
      have f225 : w219 q185 = some (.inr (6, [.null, .null, .null, .int 0])) := by rw [ew219]; exact g_up_f f216 (g_neq f216 nq218)
      have f226 : w219 q193 = some (.inl (G.2.1 4, 2, .inr (.inr (.inr (.inr (va_up (va_up (fun _ => none) (0).toNatClampNeg (some sh1)) (1).toNatClampNeg (some sh2))))))) := by rw [ew219]; exact g_up_f f217 (g_neq f217 nq218)
      have f227 : w219 q218 = some (.inl (G.2.1 0, 2, .inl (fun _ => 0))) := by rw [ew219]; exact g_up_s _ _ _
      refine lv_dup hx hb dX2_init_67 rfl ?_
      refine lv_iconst (v := 0) hx hb dX2_init_68 (by decide) ?_
      refine lv_aload_n hx hb dX2_init_69 rfl (lv_at hl 2 rfl) ?_
      refine g_get F hP (C := RX1) (T := TX1) (N := 5) iX1 f220 rfl 1 (by decide) (List.mem_cons_of_mem _ (List.mem_append_left _ (List.mem_append_left _ (List.mem_append_left _ (List.mem_append_left _ (List.mem_append_left _ (List.mem_of_getElem? (i := 6) rfl))))))) (fun _ h9 => h9) rfl dX2_init_70 ?_
      refine g_iast F hP hS f227 (by decide) dX2_init_73 (fun H locs hP hS => ?_)
      obtain ⟨w228, ew228⟩ : ∃ z, z = g_up w219 q218 (.inl (G.2.1 0, 2, .inl (upd (fun _ => 0) (0).toNatClampNeg te1))) := ⟨_, rfl⟩
      have hP : g_P A G w228 H := by rw [ew228]; exact hP
      have f229 : w228 g1 = some (.inr (2, [.ref sh1, .int te1, .int mo1, .int la1, .int (g_b ri1)])) := by rw [ew228]; exact g_up_f f220 (g_ne f220 f227 rfl)
      have f230 : w228 g2 = some (.inr (2, [.ref sh2, .int te2, .int mo2, .int la2, .int (g_b ri2)])) := by rw [ew228]; exact g_up_f f221 (g_ne f221 f227 rfl)
      have f231 : w228 sh1 = some (.inr (5, [.int x1, .int y1, .int hd1, .int st1, .ref fr1])) := by rw [ew228]; exact g_up_f f222 (g_ne f222 f227 rfl)
      have f232 : w228 sh2 = some (.inr (5, [.int x2, .int y2, .int hd2, .int st2, .ref fr2])) := by rw [ew228]; exact g_up_f f223 (g_ne f223 f227 rfl)
      have f233 : w228 h = some (.inr (3, [.ref g1, .ref g2, .null])) := by rw [ew228]; exact g_up_f f224 (g_ne f224 f227 rfl)
      have f234 : w228 q185 = some (.inr (6, [.null, .null, .null, .int 0])) := by rw [ew228]; exact g_up_f f225 (g_ne f225 f227 rfl)
      have f235 : w228 q193 = some (.inl (G.2.1 4, 2, .inr (.inr (.inr (.inr (va_up (va_up (fun _ => none) (0).toNatClampNeg (some sh1)) (1).toNatClampNeg (some sh2))))))) := by rw [ew228]; exact g_up_f f226 (g_ne f226 f227 rfl)
      have f236 : w228 q218 = some (.inl (G.2.1 0, 2, .inl (upd (fun _ => 0) (0).toNatClampNeg te1))) := by rw [ew228]; exact g_up_s _ _ _
      refine lv_dup hx hb dX2_init_74 rfl ?_
      refine lv_iconst (v := 1) hx hb dX2_init_75 (by decide) ?_
      refine lv_iload_n hx hb dX2_init_76 rfl (lv_at hl 0 rfl) ?_
      refine g_iast F hP hS f236 (by decide) dX2_init_77 (fun H locs hP hS => ?_)
      obtain ⟨w237, ew237⟩ : ∃ z, z = g_up w228 q218 (.inl (G.2.1 0, 2, .inl (upd (upd (fun _ => 0) (0).toNatClampNeg te1) (1).toNatClampNeg v184))) := ⟨_, rfl⟩
      have hP : g_P A G w237 H := by rw [ew237]; exact hP
      have f238 : w237 g1 = some (.inr (2, [.ref sh1, .int te1, .int mo1, .int la1, .int (g_b ri1)])) := by rw [ew237]; exact g_up_f f229 (g_ne f229 f236 rfl)
      have f239 : w237 g2 = some (.inr (2, [.ref sh2, .int te2, .int mo2, .int la2, .int (g_b ri2)])) := by rw [ew237]; exact g_up_f f230 (g_ne f230 f236 rfl)
      have f240 : w237 sh1 = some (.inr (5, [.int x1, .int y1, .int hd1, .int st1, .ref fr1])) := by rw [ew237]; exact g_up_f f231 (g_ne f231 f236 rfl)
      have f241 : w237 sh2 = some (.inr (5, [.int x2, .int y2, .int hd2, .int st2, .ref fr2])) := by rw [ew237]; exact g_up_f f232 (g_ne f232 f236 rfl)
      have f242 : w237 h = some (.inr (3, [.ref g1, .ref g2, .null])) := by rw [ew237]; exact g_up_f f233 (g_ne f233 f236 rfl)
      have f243 : w237 q185 = some (.inr (6, [.null, .null, .null, .int 0])) := by rw [ew237]; exact g_up_f f234 (g_ne f234 f236 rfl)
      have f244 : w237 q193 = some (.inl (G.2.1 4, 2, .inr (.inr (.inr (.inr (va_up (va_up (fun _ => none) (0).toNatClampNeg (some sh1)) (1).toNatClampNeg (some sh2))))))) := by rw [ew237]; exact g_up_f f235 (g_ne f235 f236 rfl)
      have f245 : w237 q218 = some (.inl (G.2.1 0, 2, .inl (upd (upd (fun _ => 0) (0).toNatClampNeg te1) (1).toNatClampNeg v184))) := by rw [ew237]; exact g_up_s _ _ _
      refine g_Iv (As := [.ref q193, .ref q218]) (rest := [.ref q185, .ref h]) F hP hS (k_X5_init l A G w237 q185 q193 q218 f243) (cwI 2 hts gX2_init_X5_init rfl rfl rfl (hts _ (List.mem_cons_of_mem _ (List.mem_append_left _ (List.mem_append_left _ (List.mem_append_left _ (List.mem_append_left _ (List.mem_append_left _ (List.mem_of_getElem? (i := 9) rfl)))))))) (hts _ (List.mem_cons_of_mem _ (List.mem_append_left _ (List.mem_append_left _ (List.mem_append_left _ (List.mem_append_left _ (List.mem_append_left _ (List.mem_of_getElem? (i := 14) rfl)))))))) (hts _ (List.mem_cons_of_mem _ (List.mem_append_left _ (List.mem_append_left _ (List.mem_append_left _ (List.mem_append_left _ (List.mem_append_left _ (List.mem_of_getElem? (i := 15) rfl)))))))) rfl cd_X5_init ⟨by rw [hR]; exact Nat.le_of_ble_eq_true rfl, by rw [hR]; exact Nat.le_of_ble_eq_true rfl⟩) rfl hl.1 (Nat.le_of_ble_eq_true rfl) dX2_init_78 ⟨by rw [hR]; exact Nat.le_of_ble_eq_true rfl, by rw [hR]; exact Nat.le_of_ble_eq_true rfl⟩ rfl (fun w247 H locs h248 hP hS => ?_)
      obtain ⟨q249, nq249, ew247⟩ := h248
      have f250 : w247 g1 = some (.inr (2, [.ref sh1, .int te1, .int mo1, .int la1, .int (g_b ri1)])) := by rw [ew247]; exact g_up_f (g_up_f f238 (g_neq f238 nq249)) (g_ne f238 f243 rfl)
      have f251 : w247 g2 = some (.inr (2, [.ref sh2, .int te2, .int mo2, .int la2, .int (g_b ri2)])) := by rw [ew247]; exact g_up_f (g_up_f f239 (g_neq f239 nq249)) (g_ne f239 f243 rfl)
      have f252 : w247 sh1 = some (.inr (5, [.int x1, .int y1, .int hd1, .int st1, .ref fr1])) := by rw [ew247]; exact g_up_f (g_up_f f240 (g_neq f240 nq249)) (g_ne f240 f243 rfl)
      have f253 : w247 sh2 = some (.inr (5, [.int x2, .int y2, .int hd2, .int st2, .ref fr2])) := by rw [ew247]; exact g_up_f (g_up_f f241 (g_neq f241 nq249)) (g_ne f241 f243 rfl)
      have f254 : w247 h = some (.inr (3, [.ref g1, .ref g2, .null])) := by rw [ew247]; exact g_up_f (g_up_f f242 (g_neq f242 nq249)) (g_ne f242 f243 rfl)
      have f255 : w247 q193 = some (.inl (G.2.1 4, 2, .inr (.inr (.inr (.inr (va_up (va_up (fun _ => none) (0).toNatClampNeg (some sh1)) (1).toNatClampNeg (some sh2))))))) := by rw [ew247]; exact g_up_f (g_up_f f244 (g_neq f244 nq249)) (g_ne f244 f243 rfl)
      have f256 : w247 q218 = some (.inl (G.2.1 0, 2, .inl (upd (upd (fun _ => 0) (0).toNatClampNeg te1) (1).toNatClampNeg v184))) := by rw [ew247]; exact g_up_f (g_up_f f245 (g_neq f245 nq249)) (g_ne f245 f243 rfl)
      have f257 : w247 q249 = some (.inr (1, [.long 0, .long 1])) := by rw [ew247]; exact g_up_f (g_up_s _ _ _) (Ne.symm (g_neq f243 nq249))
      have f258 : w247 q185 = some (.inr (6, [.ref q193, .ref q218, .ref q249, .int 0])) := by rw [ew247]; exact g_up_s _ _ _
      refine g_putF F hP hS (C := RX2) (T := TX2) (N := 3) (v := .ref q185) (ty := (.object "GearTrains$Tie")) iX2 tyX2 tyX2_ok nmX2 f254 rfl 2 (by decide) (List.mem_cons_of_mem _ (List.mem_append_left _ (List.mem_append_left _ (List.mem_append_left _ (List.mem_append_left _ (List.mem_append_left _ (List.mem_of_getElem? (i := 13) rfl))))))) (fun _ h9 => h9) rfl hnm0 rfl (by decide +kernel) rfl rfl (by show 2 < 3; decide) dX2_init_81 (fun H locs hP hS => ?_)
      obtain ⟨w259, ew259⟩ : ∃ z, z = g_up w247 h (.inr (3, [.ref g1, .ref g2, .ref q185])) := ⟨_, rfl⟩
      have hP : g_P A G w259 H := by rw [ew259]; exact hP
      have f260 : w259 g1 = some (.inr (2, [.ref sh1, .int te1, .int mo1, .int la1, .int (g_b ri1)])) := by rw [ew259]; exact g_up_f f250 (g_ne f250 f254 rfl)
      have f261 : w259 g2 = some (.inr (2, [.ref sh2, .int te2, .int mo2, .int la2, .int (g_b ri2)])) := by rw [ew259]; exact g_up_f f251 (g_ne f251 f254 rfl)
      have f262 : w259 sh1 = some (.inr (5, [.int x1, .int y1, .int hd1, .int st1, .ref fr1])) := by rw [ew259]; exact g_up_f f252 (g_ne f252 f254 rfl)
      have f263 : w259 sh2 = some (.inr (5, [.int x2, .int y2, .int hd2, .int st2, .ref fr2])) := by rw [ew259]; exact g_up_f f253 (g_ne f253 f254 rfl)
      have f264 : w259 q193 = some (.inl (G.2.1 4, 2, .inr (.inr (.inr (.inr (va_up (va_up (fun _ => none) (0).toNatClampNeg (some sh1)) (1).toNatClampNeg (some sh2))))))) := by rw [ew259]; exact g_up_f f255 (g_ne f255 f254 rfl)
      have f265 : w259 q218 = some (.inl (G.2.1 0, 2, .inl (upd (upd (fun _ => 0) (0).toNatClampNeg te1) (1).toNatClampNeg v184))) := by rw [ew259]; exact g_up_f f256 (g_ne f256 f254 rfl)
      have f266 : w259 q249 = some (.inr (1, [.long 0, .long 1])) := by rw [ew259]; exact g_up_f f257 (g_ne f257 f254 rfl)
      have f267 : w259 q185 = some (.inr (6, [.ref q193, .ref q218, .ref q249, .int 0])) := by rw [ew259]; exact g_up_f f258 (g_ne f258 f254 rfl)
      have f268 : w259 h = some (.inr (3, [.ref g1, .ref g2, .ref q185])) := by rw [ew259]; exact g_up_s _ _ _
      rw [hQ]
      refine g_vret F hP hS hlocks hr dX2_init_84 (by decide) (by decide) ?_
      simp only [ew259, ew247, ew237, ew228, ew219, ew210, ew202, ew194, ew186, ew7, ew1, g_up_up, g_up] at nq185
      simp only [ew259, ew247, ew237, ew228, ew219, ew210, ew202, ew194, ew186, ew7, ew1, g_up_up, g_up] at nq193
      simp only [ew259, ew247, ew237, ew228, ew219, ew210, ew202, ew194, ew186, ew7, ew1, g_up_up, g_up] at nq218
      simp only [ew259, ew247, ew237, ew228, ew219, ew210, ew202, ew194, ew186, ew7, ew1, g_up_up, g_up] at nq249
      refine ⟨q185, q193, q218, q249, (va_up (va_up (fun _ => none) (0).toNatClampNeg (some sh1)) (1).toNatClampNeg (some sh2)), (upd (upd (fun _ => 0) (0).toNatClampNeg te1) (1).toNatClampNeg v184), ⟨?_, ?_, ?_, ?_⟩, ⟨?_, ?_, ?_, ?_, ?_, ?_⟩, ?_, ?_, ?_⟩
      · first | assumption | grind
      · first | assumption | grind
      · first | assumption | grind
      · first | assumption | grind
      · first | assumption | grind
      · first | assumption | grind
      · first | assumption | grind
      · first | assumption | grind
      · first | assumption | grind
      · first | assumption | grind
      · exact ⟨by simp [va_up, show (0 : Int32).toNatClampNeg = 0 from by decide, show (1 : Int32).toNatClampNeg = 1 from by decide, show (2 : Int32).toNatClampNeg = 2 from by decide], by simp [va_up, show (0 : Int32).toNatClampNeg = 0 from by decide, show (1 : Int32).toNatClampNeg = 1 from by decide, show (2 : Int32).toNatClampNeg = 2 from by decide]⟩
      · exact ⟨by simp_all [upd, show (0 : Int32).toNatClampNeg = 0 from by decide, show (1 : Int32).toNatClampNeg = 1 from by decide, show (2 : Int32).toNatClampNeg = 2 from by decide], by simp_all [upd, show (0 : Int32).toNatClampNeg = 0 from by decide, show (1 : Int32).toNatClampNeg = 1 from by decide, show (2 : Int32).toNatClampNeg = 2 from by decide]⟩
      · simp only [ew259, ew247, ew237, ew228, ew219, ew210, ew202, ew194, ew186, ew7, ew1, g_up_up]
        funext z
        simp only [g_up]
        grind
