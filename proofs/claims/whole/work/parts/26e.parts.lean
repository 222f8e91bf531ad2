theorem cd_X5_init : yX5_init.cls ≠ "java/lang/invoke/MethodHandle" ∧ yX5_init.cls ≠ "java/lang/invoke/VarHandle" ∧ (parseMethodDescriptor yX5_init.desc).map (fun d => d.parameters.length) = some 2 := by decide +kernel
set_option maxHeartbeats 4000000 in
set_option maxRecDepth 100000 in
theorem k_X2_init (l : Launch) (A : Nat → Prop) (G : g_C) (w : g_W) (h g1 g2 : Nat) (sh1 : Nat) (te1 mo1 la1 : Int32) (ri1 : Bool) (sh2 : Nat) (te2 mo2 la2 : Int32) (ri2 : Bool) (x1 y1 hd1 st1 : Int32) (fr1 : Nat) (x2 y2 hd2 st2 : Int32) (fr2 : Nat) (hh : w h = some (.inr (3, [.null, .null, .null]))) (hg1 : w g1 = some (.inr (2, [.ref sh1, .int te1, .int mo1, .int la1, .int (g_b ri1)]))) (hg2 : w g2 = some (.inr (2, [.ref sh2, .int te2, .int mo2, .int la2, .int (g_b ri2)]))) (hs1 : w sh1 = some (.inr (5, [.int x1, .int y1, .int hd1, .int st1, .ref fr1]))) (hs2 : w sh2 = some (.inr (5, [.int x2, .int y2, .int hd2, .int st2, .ref fr2]))) : mV l yX2_init wsX2_init ({ frames := 3, cells := 4, slots := 10, locals := 82 } : Room) [.ref h, .ref g1, .ref g2] A G w (fun w' => ∃ q1 q2 q3 q4 fS fW, (w q1 = none ∧ w q2 = none ∧ w q3 = none ∧ w q4 = none) ∧ (q1 ≠ q2 ∧ q1 ≠ q3 ∧ q1 ≠ q4 ∧ q2 ≠ q3 ∧ q2 ≠ q4 ∧ q3 ≠ q4) ∧ (fS 0 = some sh1 ∧ fS 1 = some sh2) ∧ (fW 0 = te1 ∧ fW 1 = (if ri1 || ri2 then -te2 else te2)) ∧ w' = g_up (g_up (g_up (g_up (g_up w q1 (.inr (6, [.ref q2, .ref q3, .ref q4, .int 0]))) q2 (.inl (G.2.1 4, 2, .inr (.inr (.inr (.inr fS)))))) q3 (.inl (G.2.1 0, 2, .inl fW))) q4 (.inr (1, [.long 0, .long 1]))) h (.inr (3, [.ref g1, .ref g2, .ref q1]))) 4 10 := by
  refine g_ofV (cc := cX2_init) (maxL := 4) (ret := none) (own := RX2) (by decide) rfl rfl (Nat.le_of_ble_eq_true rfl) ?_
  intro p e R s m args below meth c Q ls hR F hP hS hlocks hr hnm0 hQ hl
  obtain ⟨⟨hx, hb, hml, hown, hts⟩, hK, hZ, hA⟩ := id F
  generalize hH0 : s.heap = H at hP ⊢
  have hS : va_S A s.heap H [] := by rw [← hH0]; exact va_S.rf
  generalize ([] : List Loc) = locs at hS ⊢
  have hl : lv_has ls 4 [(0, .ref h), (1, .ref g1), (2, .ref g2)] := hl
  have iX1 : ∀ w ∈ u_ws RX1 TX1 5, w ∈ wsX2_init := fun w h => List.mem_cons_of_mem _ (List.mem_append_left _ (List.mem_append_left _ (List.mem_append_right _ (h))))
  have iX2 : ∀ w ∈ u_ws RX2 TX2 3, w ∈ wsX2_init := fun w h => List.mem_cons_of_mem _ (List.mem_append_left _ (List.mem_append_left _ (List.mem_append_left _ (List.mem_append_right _ (h)))))
  have iX5 : ∀ w ∈ u_ws RX5 TX5 4, w ∈ wsX2_init := fun w h => List.mem_cons_of_mem _ (List.mem_append_left _ (List.mem_append_right _ (h)))
  refine lv_aload_n hx hb dX2_init_0 rfl (lv_at hl 0 rfl) ?_
  refine W.objInit hx hb hown (hts _ (List.mem_cons_of_mem _ (List.mem_append_left _ (List.mem_append_left _ (List.mem_append_left _ (List.mem_append_left _ (List.mem_append_left _ (List.mem_of_getElem? (i := 0) rfl)))))))) (hts _ (List.mem_cons_of_mem _ (List.mem_append_left _ (List.mem_append_left _ (List.mem_append_left _ (List.mem_append_left _ (List.mem_append_left _ (List.mem_of_getElem? (i := 1) rfl)))))))) (hts _ (List.mem_cons_of_mem _ (List.mem_append_left _ (List.mem_append_left _ (List.mem_append_left _ (List.mem_append_left _ (List.mem_append_left _ (List.mem_of_getElem? (i := 2) rfl)))))))) rfl (by rw [hml]; exact hl.1) rfl dX2_init_1 (by rw [hR]; exact Nat.le_of_ble_eq_true rfl) (by rw [hR]; exact Nat.le_of_ble_eq_true rfl) ?_
  show W p l e R s m args below meth c H locs _ _ Q (F0 m 4 ls [])
  refine lv_aload_n hx hb dX2_init_4 rfl (lv_at hl 0 rfl) ?_
  refine lv_aload_n hx hb dX2_init_5 rfl (lv_at hl 1 rfl) ?_
  refine g_putF F hP hS (C := RX2) (T := TX2) (N := 3) (v := .ref g1) (ty := (.object "GearTrains$Gear")) iX2 tyX2 tyX2_ok nmX2 hh rfl 0 (by decide) (List.mem_cons_of_mem _ (List.mem_append_left _ (List.mem_append_left _ (List.mem_append_left _ (List.mem_append_left _ (List.mem_append_left _ (List.mem_of_getElem? (i := 3) rfl))))))) (fun _ h9 => h9) rfl hnm0 rfl (by decide +kernel) rfl rfl (by show 0 < 3; decide) dX2_init_6 (fun H locs hP hS => ?_)
  obtain ⟨w1, ew1⟩ : ∃ z, z = g_up w h (.inr (3, [.ref g1, .null, .null])) := ⟨_, rfl⟩
  have hP : g_P A G w1 H := by rw [ew1]; exact hP
  have f2 : w1 g1 = some (.inr (2, [.ref sh1, .int te1, .int mo1, .int la1, .int (g_b ri1)])) := by rw [ew1]; exact g_up_f hg1 (g_ne hg1 hh rfl)
  have f3 : w1 g2 = some (.inr (2, [.ref sh2, .int te2, .int mo2, .int la2, .int (g_b ri2)])) := by rw [ew1]; exact g_up_f hg2 (g_ne hg2 hh rfl)
  have f4 : w1 sh1 = some (.inr (5, [.int x1, .int y1, .int hd1, .int st1, .ref fr1])) := by rw [ew1]; exact g_up_f hs1 (g_ne hs1 hh rfl)
  have f5 : w1 sh2 = some (.inr (5, [.int x2, .int y2, .int hd2, .int st2, .ref fr2])) := by rw [ew1]; exact g_up_f hs2 (g_ne hs2 hh rfl)
  have f6 : w1 h = some (.inr (3, [.ref g1, .null, .null])) := by rw [ew1]; exact g_up_s _ _ _
  refine lv_aload_n hx hb dX2_init_9 rfl (lv_at hl 0 rfl) ?_
  refine lv_aload_n hx hb dX2_init_10 rfl (lv_at hl 2 rfl) ?_
  refine g_putF F hP hS (C := RX2) (T := TX2) (N := 3) (v := .ref g2) (ty := (.object "GearTrains$Gear")) iX2 tyX2 tyX2_ok nmX2 f6 rfl 1 (by decide) (List.mem_cons_of_mem _ (List.mem_append_left _ (List.mem_append_left _ (List.mem_append_left _ (List.mem_append_left _ (List.mem_append_left _ (List.mem_of_getElem? (i := 4) rfl))))))) (fun _ h9 => h9) rfl hnm0 rfl (by decide +kernel) rfl rfl (by show 1 < 3; decide) dX2_init_11 (fun H locs hP hS => ?_)
  obtain ⟨w7, ew7⟩ : ∃ z, z = g_up w1 h (.inr (3, [.ref g1, .ref g2, .null])) := ⟨_, rfl⟩
  have hP : g_P A G w7 H := by rw [ew7]; exact hP
  have f8 : w7 g1 = some (.inr (2, [.ref sh1, .int te1, .int mo1, .int la1, .int (g_b ri1)])) := by rw [ew7]; exact g_up_f f2 (g_ne f2 f6 rfl)
  have f9 : w7 g2 = some (.inr (2, [.ref sh2, .int te2, .int mo2, .int la2, .int (g_b ri2)])) := by rw [ew7]; exact g_up_f f3 (g_ne f3 f6 rfl)
  have f10 : w7 sh1 = some (.inr (5, [.int x1, .int y1, .int hd1, .int st1, .ref fr1])) := by rw [ew7]; exact g_up_f f4 (g_ne f4 f6 rfl)
  have f11 : w7 sh2 = some (.inr (5, [.int x2, .int y2, .int hd2, .int st2, .ref fr2])) := by rw [ew7]; exact g_up_f f5 (g_ne f5 f6 rfl)
  have f12 : w7 h = some (.inr (3, [.ref g1, .ref g2, .null])) := by rw [ew7]; exact g_up_s _ _ _
  refine lv_aload_n hx hb dX2_init_14 rfl (lv_at hl 1 rfl) ?_
  refine g_get F hP (C := RX1) (T := TX1) (N := 5) iX1 f8 rfl 4 (by decide) (List.mem_cons_of_mem _ (List.mem_append_left _ (List.mem_append_left _ (List.mem_append_left _ (List.mem_append_left _ (List.mem_append_left _ (List.mem_of_getElem? (i := 5) rfl))))))) (fun _ h9 => h9) rfl dX2_init_15 ?_
  refine lv_if_ne (tgt := 28) hx hb dX2_init_18 (by decide) (fun c13 => ?_) (fun c13 => ?_)
  · have yc13 : ri1 = true := g_b1.mp c13
    refine lv_aload_n hx hb dX2_init_28 rfl (lv_at hl 2 rfl) ?_
    refine g_get F hP (C := RX1) (T := TX1) (N := 5) iX1 f9 rfl 1 (by decide) (List.mem_cons_of_mem _ (List.mem_append_left _ (List.mem_append_left _ (List.mem_append_left _ (List.mem_append_left _ (List.mem_append_left _ (List.mem_of_getElem? (i := 6) rfl))))))) (fun _ h9 => h9) rfl dX2_init_29 ?_
    refine lv_ineg hx hb dX2_init_32 ?_
    refine lv_topi (fun v14 ev14 => ?_)
    obtain rfl : v14 = -te2 := by
      exact ev14
    refine lv_goto (tgt := 40) hx hb dX2_init_33 (by decide) ?_
    refine lv_istore_n (lv' := [(3, .int (-te2)), (0, .ref h), (1, .ref g1), (2, .ref g2)]) hx hb dX2_init_40 rfl hl (by decide) rfl (fun ls hl => ?_)
    refine lv_aload_n hx hb dX2_init_41 rfl (lv_at hl 1 rfl) ?_
    refine g_new F hP hS (ci := 6) (C := RX5) (T := TX5) (N := 4) (fs := [.null, .null, .null, .int 0]) iX5 tyX5 tyX5_ok (List.mem_cons_of_mem _ (List.mem_append_left _ (List.mem_append_left _ (List.mem_append_left _ (List.mem_append_left _ (List.mem_append_left _ (List.mem_of_getElem? (i := 7) rfl))))))) (List.mem_cons_of_mem _ (List.mem_append_left _ (List.mem_append_left _ (List.mem_append_left _ (List.mem_append_left _ (List.mem_append_left _ (List.mem_of_getElem? (i := 8) rfl))))))) (List.mem_cons_of_mem _ (List.mem_append_left _ (List.mem_append_left _ (List.mem_append_left _ (List.mem_append_left _ (List.mem_append_left _ (List.mem_of_getElem? (i := 9) rfl))))))) rfl (by intro j hj; match j, hj with | 0, _ => rfl | 1, _ => rfl | 2, _ => rfl | 3, _ => rfl | j + 4, hj => exact absurd hj (by omega)) (by rw [hR]; exact Nat.le_of_ble_eq_true rfl) (by rw [hR]; exact Nat.le_of_ble_eq_true rfl) dX2_init_42 (fun q15 H nq15 hP hS => ?_)
    obtain ⟨w16, ew16⟩ : ∃ z, z = g_up w7 q15 (.inr (6, [.null, .null, .null, .int 0])) := ⟨_, rfl⟩
    have hP : g_P A G w16 H := by rw [ew16]; exact hP
    have f17 : w16 g1 = some (.inr (2, [.ref sh1, .int te1, .int mo1, .int la1, .int (g_b ri1)])) := by rw [ew16]; exact g_up_f f8 (g_neq f8 nq15)
    have f18 : w16 g2 = some (.inr (2, [.ref sh2, .int te2, .int mo2, .int la2, .int (g_b ri2)])) := by rw [ew16]; exact g_up_f f9 (g_neq f9 nq15)
    have f19 : w16 sh1 = some (.inr (5, [.int x1, .int y1, .int hd1, .int st1, .ref fr1])) := by rw [ew16]; exact g_up_f f10 (g_neq f10 nq15)
    have f20 : w16 sh2 = some (.inr (5, [.int x2, .int y2, .int hd2, .int st2, .ref fr2])) := by rw [ew16]; exact g_up_f f11 (g_neq f11 nq15)
    have f21 : w16 h = some (.inr (3, [.ref g1, .ref g2, .null])) := by rw [ew16]; exact g_up_f f12 (g_neq f12 nq15)
    have f22 : w16 q15 = some (.inr (6, [.null, .null, .null, .int 0])) := by rw [ew16]; exact g_up_s _ _ _
    refine lv_dup hx hb dX2_init_45 rfl ?_
    refine lv_iconst (v := 2) hx hb dX2_init_46 (by decide) ?_
    refine g_newqS F hP hS (N' := 2) (List.mem_cons_of_mem _ (List.mem_append_left _ (List.mem_append_left _ (List.mem_append_left _ (List.mem_append_left _ (List.mem_append_left _ (List.mem_of_getElem? (i := 10) rfl))))))) (by decide) (by decide) (by decide) (by rw [hR]; exact Nat.le_of_ble_eq_true rfl) (by rw [hR]; exact Nat.le_of_ble_eq_true rfl) dX2_init_47 (fun q23 H nq23 hP hS => ?_)
    obtain ⟨w24, ew24⟩ : ∃ z, z = g_up w16 q23 (.inl (G.2.1 4, 2, .inr (.inr (.inr (.inr (fun _ => none)))))) := ⟨_, rfl⟩
    have hP : g_P A G w24 H := by rw [ew24]; exact hP
    have f25 : w24 g1 = some (.inr (2, [.ref sh1, .int te1, .int mo1, .int la1, .int (g_b ri1)])) := by rw [ew24]; exact g_up_f f17 (g_neq f17 nq23)
    have f26 : w24 g2 = some (.inr (2, [.ref sh2, .int te2, .int mo2, .int la2, .int (g_b ri2)])) := by rw [ew24]; exact g_up_f f18 (g_neq f18 nq23)
    have f27 : w24 sh1 = some (.inr (5, [.int x1, .int y1, .int hd1, .int st1, .ref fr1])) := by rw [ew24]; exact g_up_f f19 (g_neq f19 nq23)
    have f28 : w24 sh2 = some (.inr (5, [.int x2, .int y2, .int hd2, .int st2, .ref fr2])) := by rw [ew24]; exact g_up_f f20 (g_neq f20 nq23)
    have f29 : w24 h = some (.inr (3, [.ref g1, .ref g2, .null])) := by rw [ew24]; exact g_up_f f21 (g_neq f21 nq23)
    have f30 : w24 q15 = some (.inr (6, [.null, .null, .null, .int 0])) := by rw [ew24]; exact g_up_f f22 (g_neq f22 nq23)
    have f31 : w24 q23 = some (.inl (G.2.1 4, 2, .inr (.inr (.inr (.inr (fun _ => none)))))) := by rw [ew24]; exact g_up_s _ _ _
    refine lv_dup hx hb dX2_init_50 rfl ?_
    refine lv_iconst (v := 0) hx hb dX2_init_51 (by decide) ?_
    refine lv_aload_n hx hb dX2_init_52 rfl (lv_at hl 2 rfl) ?_
    refine g_get F hP (C := RX1) (T := TX1) (N := 5) iX1 f25 rfl 0 (by decide) (List.mem_cons_of_mem _ (List.mem_append_left _ (List.mem_append_left _ (List.mem_append_left _ (List.mem_append_left _ (List.mem_append_left _ (List.mem_of_getElem? (i := 11) rfl))))))) (fun _ h9 => h9) rfl dX2_init_53 ?_
    refine g_astqS F hP hS f31 f27 (by unfold vp_in; decide) dX2_init_56 (fun H locs hP hS => ?_)
    obtain ⟨w32, ew32⟩ : ∃ z, z = g_up w24 q23 (.inl (G.2.1 4, 2, .inr (.inr (.inr (.inr (va_up (fun _ => none) (0 : Int32).toNatClampNeg (some sh1))))))) := ⟨_, rfl⟩
    have hP : g_P A G w32 H := by rw [ew32]; exact hP
    have f33 : w32 g1 = some (.inr (2, [.ref sh1, .int te1, .int mo1, .int la1, .int (g_b ri1)])) := by rw [ew32]; exact g_up_f f25 (g_neq f17 nq23)
    have f34 : w32 g2 = some (.inr (2, [.ref sh2, .int te2, .int mo2, .int la2, .int (g_b ri2)])) := by rw [ew32]; exact g_up_f f26 (g_neq f18 nq23)
    have f35 : w32 sh1 = some (.inr (5, [.int x1, .int y1, .int hd1, .int st1, .ref fr1])) := by rw [ew32]; exact g_up_f f27 (g_neq f19 nq23)
    have f36 : w32 sh2 = some (.inr (5, [.int x2, .int y2, .int hd2, .int st2, .ref fr2])) := by rw [ew32]; exact g_up_f f28 (g_neq f20 nq23)
    have f37 : w32 h = some (.inr (3, [.ref g1, .ref g2, .null])) := by rw [ew32]; exact g_up_f f29 (g_neq f21 nq23)
    have f38 : w32 q15 = some (.inr (6, [.null, .null, .null, .int 0])) := by rw [ew32]; exact g_up_f f30 (g_neq f22 nq23)
    have f39 : w32 q23 = some (.inl (G.2.1 4, 2, .inr (.inr (.inr (.inr (va_up (fun _ => none) (0 : Int32).toNatClampNeg (some sh1))))))) := by rw [ew32]; exact g_up_s _ _ _
    refine lv_dup hx hb dX2_init_57 rfl ?_
    refine lv_iconst (v := 1) hx hb dX2_init_58 (by decide) ?_
    refine lv_aload_n hx hb dX2_init_59 rfl (lv_at hl 3 rfl) ?_
    refine g_get F hP (C := RX1) (T := TX1) (N := 5) iX1 f34 rfl 0 (by decide) (List.mem_cons_of_mem _ (List.mem_append_left _ (List.mem_append_left _ (List.mem_append_left _ (List.mem_append_left _ (List.mem_append_left _ (List.mem_of_getElem? (i := 11) rfl))))))) (fun _ h9 => h9) rfl dX2_init_60 ?_
    refine g_astqS F hP hS f39 f36 (by unfold vp_in; decide) dX2_init_63 (fun H locs hP hS => ?_)
    obtain ⟨w40, ew40⟩ : ∃ z, z = g_up w32 q23 (.inl (G.2.1 4, 2, .inr (.inr (.inr (.inr (va_up (va_up (fun _ => none) (0 : Int32).toNatClampNeg (some sh1)) (1 : Int32).toNatClampNeg (some sh2))))))) := ⟨_, rfl⟩
    have hP : g_P A G w40 H := by rw [ew40]; exact hP
    have f41 : w40 g1 = some (.inr (2, [.ref sh1, .int te1, .int mo1, .int la1, .int (g_b ri1)])) := by rw [ew40]; exact g_up_f f33 (g_neq f17 nq23)
    have f42 : w40 g2 = some (.inr (2, [.ref sh2, .int te2, .int mo2, .int la2, .int (g_b ri2)])) := by rw [ew40]; exact g_up_f f34 (g_neq f18 nq23)
    have f43 : w40 sh1 = some (.inr (5, [.int x1, .int y1, .int hd1, .int st1, .ref fr1])) := by rw [ew40]; exact g_up_f f35 (g_neq f19 nq23)
    have f44 : w40 sh2 = some (.inr (5, [.int x2, .int y2, .int hd2, .int st2, .ref fr2])) := by rw [ew40]; exact g_up_f f36 (g_neq f20 nq23)
    have f45 : w40 h = some (.inr (3, [.ref g1, .ref g2, .null])) := by rw [ew40]; exact g_up_f f37 (g_neq f21 nq23)
    have f46 : w40 q15 = some (.inr (6, [.null, .null, .null, .int 0])) := by rw [ew40]; exact g_up_f f38 (g_neq f22 nq23)
    have f47 : w40 q23 = some (.inl (G.2.1 4, 2, .inr (.inr (.inr (.inr (va_up (va_up (fun _ => none) (0 : Int32).toNatClampNeg (some sh1)) (1 : Int32).toNatClampNeg (some sh2))))))) := by rw [ew40]; exact g_up_s _ _ _
    refine lv_iconst (v := 2) hx hb dX2_init_64 (by decide) ?_
    refine g_newaI F hP hS (N' := 2) (List.mem_cons_of_mem _ (List.mem_append_left _ (List.mem_append_left _ (List.mem_append_left _ (List.mem_append_left _ (List.mem_append_left _ (List.mem_of_getElem? (i := 12) rfl))))))) (by decide) (by decide) (by decide) (by rw [hR]; exact Nat.le_of_ble_eq_true rfl) (by rw [hR]; exact Nat.le_of_ble_eq_true rfl) dX2_init_65 (fun q48 H nq48 hP hS => ?_)
    obtain ⟨w49, ew49⟩ : ∃ z, z = g_up w40 q48 (.inl (G.2.1 0, 2, .inl (fun _ => 0))) := ⟨_, rfl⟩
    have hP : g_P A G w49 H := by rw [ew49]; exact hP
    have f50 : w49 g1 = some (.inr (2, [.ref sh1, .int te1, .int mo1, .int la1, .int (g_b ri1)])) := by rw [ew49]; exact g_up_f f41 (g_neq f41 nq48)
    have f51 : w49 g2 = some (.inr (2, [.ref sh2, .int te2, .int mo2, .int la2, .int (g_b ri2)])) := by rw [ew49]; exact g_up_f f42 (g_neq f42 nq48)
    have f52 : w49 sh1 = some (.inr (5, [.int x1, .int y1, .int hd1, .int st1, .ref fr1])) := by rw [ew49]; exact g_up_f f43 (g_neq f43 nq48)
    have f53 : w49 sh2 = some (.inr (5, [.int x2, .int y2, .int hd2, .int st2, .ref fr2])) := by rw [ew49]; exact g_up_f f44 (g_neq f44 nq48)
    have f54 : w49 h = some (.inr (3, [.ref g1, .ref g2, .null])) := by rw [ew49]; exact g_up_f f45 (g_neq f45 nq48)
    have f55 : w49 q15 = some (.inr (6, [.null, .null, .null, .int 0])) := by rw [ew49]; exact g_up_f f46 (g_neq f46 nq48)
    have f56 : w49 q23 = some (.inl (G.2.1 4, 2, .inr (.inr (.inr (.inr (va_up (va_up (fun _ => none) (0 : Int32).toNatClampNeg (some sh1)) (1 : Int32).toNatClampNeg (some sh2))))))) := by rw [ew49]; exact g_up_f f47 (g_neq f47 nq48)
    have f57 : w49 q48 = some (.inl (G.2.1 0, 2, .inl (fun _ => 0))) := by rw [ew49]; exact g_up_s _ _ _
    refine lv_dup hx hb dX2_init_67 rfl ?_
    refine lv_iconst (v := 0) hx hb dX2_init_68 (by decide) ?_
    refine lv_aload_n hx hb dX2_init_69 rfl (lv_at hl 2 rfl) ?_
    refine g_get F hP (C := RX1) (T := TX1) (N := 5) iX1 f50 rfl 1 (by decide) (List.mem_cons_of_mem _ (List.mem_append_left _ (List.mem_append_left _ (List.mem_append_left _ (List.mem_append_left _ (List.mem_append_left _ (List.mem_of_getElem? (i := 6) rfl))))))) (fun _ h9 => h9) rfl dX2_init_70 ?_
    refine g_iast F hP hS f57 (by unfold vp_in; decide) dX2_init_73 (fun H locs hP hS => ?_)
    obtain ⟨w58, ew58⟩ : ∃ z, z = g_up w49 q48 (.inl (G.2.1 0, 2, .inl (upd (fun _ => 0) (0 : Int32).toNatClampNeg te1))) := ⟨_, rfl⟩
    have hP : g_P A G w58 H := by rw [ew58]; exact hP
    have f59 : w58 g1 = some (.inr (2, [.ref sh1, .int te1, .int mo1, .int la1, .int (g_b ri1)])) := by rw [ew58]; exact g_up_f f50 (g_neq f41 nq48)
    have f60 : w58 g2 = some (.inr (2, [.ref sh2, .int te2, .int mo2, .int la2, .int (g_b ri2)])) := by rw [ew58]; exact g_up_f f51 (g_neq f42 nq48)
    have f61 : w58 sh1 = some (.inr (5, [.int x1, .int y1, .int hd1, .int st1, .ref fr1])) := by rw [ew58]; exact g_up_f f52 (g_neq f43 nq48)
    have f62 : w58 sh2 = some (.inr (5, [.int x2, .int y2, .int hd2, .int st2, .ref fr2])) := by rw [ew58]; exact g_up_f f53 (g_neq f44 nq48)
    have f63 : w58 h = some (.inr (3, [.ref g1, .ref g2, .null])) := by rw [ew58]; exact g_up_f f54 (g_neq f45 nq48)
    have f64 : w58 q15 = some (.inr (6, [.null, .null, .null, .int 0])) := by rw [ew58]; exact g_up_f f55 (g_neq f46 nq48)
    have f65 : w58 q23 = some (.inl (G.2.1 4, 2, .inr (.inr (.inr (.inr (va_up (va_up (fun _ => none) (0 : Int32).toNatClampNeg (some sh1)) (1 : Int32).toNatClampNeg (some sh2))))))) := by rw [ew58]; exact g_up_f f56 (g_neq f47 nq48)
    have f66 : w58 q48 = some (.inl (G.2.1 0, 2, .inl (upd (fun _ => 0) (0 : Int32).toNatClampNeg te1))) := by rw [ew58]; exact g_up_s _ _ _
    refine lv_dup hx hb dX2_init_74 rfl ?_
    refine lv_iconst (v := 1) hx hb dX2_init_75 (by decide) ?_
    refine lv_iload_n hx hb dX2_init_76 rfl (lv_at hl 0 rfl) ?_
    refine g_iast F hP hS f66 (by unfold vp_in; decide) dX2_init_77 (fun H locs hP hS => ?_)
    obtain ⟨w67, ew67⟩ : ∃ z, z = g_up w58 q48 (.inl (G.2.1 0, 2, .inl (upd (upd (fun _ => 0) (0 : Int32).toNatClampNeg te1) (1 : Int32).toNatClampNeg (-te2)))) := ⟨_, rfl⟩
    have hP : g_P A G w67 H := by rw [ew67]; exact hP
    have f68 : w67 g1 = some (.inr (2, [.ref sh1, .int te1, .int mo1, .int la1, .int (g_b ri1)])) := by rw [ew67]; exact g_up_f f59 (g_neq f41 nq48)
    have f69 : w67 g2 = some (.inr (2, [.ref sh2, .int te2, .int mo2, .int la2, .int (g_b ri2)])) := by rw [ew67]; exact g_up_f f60 (g_neq f42 nq48)
    have f70 : w67 sh1 = some (.inr (5, [.int x1, .int y1, .int hd1, .int st1, .ref fr1])) := by rw [ew67]; exact g_up_f f61 (g_neq f43 nq48)
    have f71 : w67 sh2 = some (.inr (5, [.int x2, .int y2, .int hd2, .int st2, .ref fr2])) := by rw [ew67]; exact g_up_f f62 (g_neq f44 nq48)
    have f72 : w67 h = some (.inr (3, [.ref g1, .ref g2, .null])) := by rw [ew67]; exact g_up_f f63 (g_neq f45 nq48)
    have f73 : w67 q15 = some (.inr (6, [.null, .null, .null, .int 0])) := by rw [ew67]; exact g_up_f f64 (g_neq f46 nq48)
    have f74 : w67 q23 = some (.inl (G.2.1 4, 2, .inr (.inr (.inr (.inr (va_up (va_up (fun _ => none) (0 : Int32).toNatClampNeg (some sh1)) (1 : Int32).toNatClampNeg (some sh2))))))) := by rw [ew67]; exact g_up_f f65 (g_neq f47 nq48)
    have f75 : w67 q48 = some (.inl (G.2.1 0, 2, .inl (upd (upd (fun _ => 0) (0 : Int32).toNatClampNeg te1) (1 : Int32).toNatClampNeg (-te2)))) := by rw [ew67]; exact g_up_s _ _ _
    refine g_Iv (As := [.ref q23, .ref q48]) (rest := [.ref q15, .ref h]) F hP hS (k_X5_init l A G w67 q15 q23 q48 f73) (cwI 2 hts gX2_init_X5_init rfl rfl rfl (hts _ (List.mem_cons_of_mem _ (List.mem_append_left _ (List.mem_append_left _ (List.mem_append_left _ (List.mem_append_left _ (List.mem_append_left _ (List.mem_of_getElem? (i := 9) rfl)))))))) (hts _ (List.mem_cons_of_mem _ (List.mem_append_left _ (List.mem_append_left _ (List.mem_append_left _ (List.mem_append_left _ (List.mem_append_left _ (List.mem_of_getElem? (i := 14) rfl)))))))) (hts _ (List.mem_cons_of_mem _ (List.mem_append_left _ (List.mem_append_left _ (List.mem_append_left _ (List.mem_append_left _ (List.mem_append_left _ (List.mem_of_getElem? (i := 15) rfl)))))))) rfl cd_X5_init ⟨by rw [hR]; exact Nat.le_of_ble_eq_true rfl, by rw [hR]; exact Nat.le_of_ble_eq_true rfl⟩) rfl hl.1 (Nat.le_of_ble_eq_true rfl) dX2_init_78 ⟨by rw [hR]; exact Nat.le_of_ble_eq_true rfl, by rw [hR]; exact Nat.le_of_ble_eq_true rfl⟩ rfl (fun w77 H locs h78 hP hS => ?_)
    obtain ⟨q79, nq79, ew77⟩ := h78
    have f80 : w77 g1 = some (.inr (2, [.ref sh1, .int te1, .int mo1, .int la1, .int (g_b ri1)])) := by rw [ew77]; exact g_up_f (g_up_f f68 (g_neq f68 nq79)) (g_neq f8 nq15)
    have f81 : w77 g2 = some (.inr (2, [.ref sh2, .int te2, .int mo2, .int la2, .int (g_b ri2)])) := by rw [ew77]; exact g_up_f (g_up_f f69 (g_neq f69 nq79)) (g_neq f9 nq15)
    have f82 : w77 sh1 = some (.inr (5, [.int x1, .int y1, .int hd1, .int st1, .ref fr1])) := by rw [ew77]; exact g_up_f (g_up_f f70 (g_neq f70 nq79)) (g_neq f10 nq15)
    have f83 : w77 sh2 = some (.inr (5, [.int x2, .int y2, .int hd2, .int st2, .ref fr2])) := by rw [ew77]; exact g_up_f (g_up_f f71 (g_neq f71 nq79)) (g_neq f11 nq15)
    have f84 : w77 h = some (.inr (3, [.ref g1, .ref g2, .null])) := by rw [ew77]; exact g_up_f (g_up_f f72 (g_neq f72 nq79)) (g_neq f12 nq15)
    have f85 : w77 q23 = some (.inl (G.2.1 4, 2, .inr (.inr (.inr (.inr (va_up (va_up (fun _ => none) (0 : Int32).toNatClampNeg (some sh1)) (1 : Int32).toNatClampNeg (some sh2))))))) := by rw [ew77]; exact g_up_f (g_up_f f74 (g_neq f74 nq79)) (g_ne f74 f73 rfl)
    have f86 : w77 q48 = some (.inl (G.2.1 0, 2, .inl (upd (upd (fun _ => 0) (0 : Int32).toNatClampNeg te1) (1 : Int32).toNatClampNeg (-te2)))) := by rw [ew77]; exact g_up_f (g_up_f f75 (g_neq f75 nq79)) (g_ne f75 f73 rfl)
    have f87 : w77 q79 = some (.inr (1, [.long 0, .long 1])) := by rw [ew77]; exact g_up_f (g_up_s _ _ _) (Ne.symm (g_neq f73 nq79))
    have f88 : w77 q15 = some (.inr (6, [.ref q23, .ref q48, .ref q79, .int 0])) := by rw [ew77]; exact g_up_s _ _ _
    refine g_putF F hP hS (C := RX2) (T := TX2) (N := 3) (v := .ref q15) (ty := (.object "GearTrains$Tie")) iX2 tyX2 tyX2_ok nmX2 f84 rfl 2 (by decide) (List.mem_cons_of_mem _ (List.mem_append_left _ (List.mem_append_left _ (List.mem_append_left _ (List.mem_append_left _ (List.mem_append_left _ (List.mem_of_getElem? (i := 13) rfl))))))) (fun _ h9 => h9) rfl hnm0 rfl (by decide +kernel) rfl rfl (by show 2 < 3; decide) dX2_init_81 (fun H locs hP hS => ?_)
    obtain ⟨w89, ew89⟩ : ∃ z, z = g_up w77 h (.inr (3, [.ref g1, .ref g2, .ref q15])) := ⟨_, rfl⟩
    have hP : g_P A G w89 H := by rw [ew89]; exact hP
    have f90 : w89 g1 = some (.inr (2, [.ref sh1, .int te1, .int mo1, .int la1, .int (g_b ri1)])) := by rw [ew89]; exact g_up_f f80 (g_ne f80 f84 rfl)
    have f91 : w89 g2 = some (.inr (2, [.ref sh2, .int te2, .int mo2, .int la2, .int (g_b ri2)])) := by rw [ew89]; exact g_up_f f81 (g_ne f81 f84 rfl)
    have f92 : w89 sh1 = some (.inr (5, [.int x1, .int y1, .int hd1, .int st1, .ref fr1])) := by rw [ew89]; exact g_up_f f82 (g_ne f82 f84 rfl)
    have f93 : w89 sh2 = some (.inr (5, [.int x2, .int y2, .int hd2, .int st2, .ref fr2])) := by rw [ew89]; exact g_up_f f83 (g_ne f83 f84 rfl)
    have f94 : w89 q23 = some (.inl (G.2.1 4, 2, .inr (.inr (.inr (.inr (va_up (va_up (fun _ => none) (0 : Int32).toNatClampNeg (some sh1)) (1 : Int32).toNatClampNeg (some sh2))))))) := by rw [ew89]; exact g_up_f f85 (Ne.symm (g_neq f21 nq23))
    have f95 : w89 q48 = some (.inl (G.2.1 0, 2, .inl (upd (upd (fun _ => 0) (0 : Int32).toNatClampNeg te1) (1 : Int32).toNatClampNeg (-te2)))) := by rw [ew89]; exact g_up_f f86 (Ne.symm (g_neq f45 nq48))
    have f96 : w89 q79 = some (.inr (1, [.long 0, .long 1])) := by rw [ew89]; exact g_up_f f87 (g_ne f87 f84 rfl)
    have f97 : w89 q15 = some (.inr (6, [.ref q23, .ref q48, .ref q79, .int 0])) := by rw [ew89]; exact g_up_f f88 (Ne.symm (g_neq f12 nq15))
    have f98 : w89 h = some (.inr (3, [.ref g1, .ref g2, .ref q15])) := by rw [ew89]; exact g_up_s _ _ _
    rw [hQ]
    refine g_vret F hP hS hlocks hr dX2_init_84 (by first | exact Nat.le_of_ble_eq_true rfl | omega) (by first | exact Nat.le_of_ble_eq_true rfl | omega) ?_
    have nnq15 := nq15
    rw [ew7] at nnq15
    obtain ⟨ddq15_0, nnq15⟩ := g_up_none nnq15
    rw [ew1] at nnq15
    obtain ⟨ddq15_1, nnq15⟩ := g_up_none nnq15
    have nnq23 := nq23
    rw [ew16] at nnq23
    obtain ⟨ddq23_0, nnq23⟩ := g_up_none nnq23
    rw [ew7] at nnq23
    obtain ⟨ddq23_1, nnq23⟩ := g_up_none nnq23
    rw [ew1] at nnq23
    obtain ⟨ddq23_2, nnq23⟩ := g_up_none nnq23
    have nnq48 := nq48
    rw [ew40] at nnq48
    obtain ⟨ddq48_0, nnq48⟩ := g_up_none nnq48
    rw [ew32] at nnq48
    obtain ⟨ddq48_1, nnq48⟩ := g_up_none nnq48
    rw [ew24] at nnq48
    obtain ⟨ddq48_2, nnq48⟩ := g_up_none nnq48
    rw [ew16] at nnq48
    obtain ⟨ddq48_3, nnq48⟩ := g_up_none nnq48
    rw [ew7] at nnq48
    obtain ⟨ddq48_4, nnq48⟩ := g_up_none nnq48
    rw [ew1] at nnq48
    obtain ⟨ddq48_5, nnq48⟩ := g_up_none nnq48
    have nnq79 := nq79
    rw [ew67] at nnq79
    obtain ⟨ddq79_0, nnq79⟩ := g_up_none nnq79
    rw [ew58] at nnq79
    obtain ⟨ddq79_1, nnq79⟩ := g_up_none nnq79
    rw [ew49] at nnq79
    obtain ⟨ddq79_2, nnq79⟩ := g_up_none nnq79
    rw [ew40] at nnq79
    obtain ⟨ddq79_3, nnq79⟩ := g_up_none nnq79
    rw [ew32] at nnq79
    obtain ⟨ddq79_4, nnq79⟩ := g_up_none nnq79
    rw [ew24] at nnq79
    obtain ⟨ddq79_5, nnq79⟩ := g_up_none nnq79
    rw [ew16] at nnq79
    obtain ⟨ddq79_6, nnq79⟩ := g_up_none nnq79
    rw [ew7] at nnq79
    obtain ⟨ddq79_7, nnq79⟩ := g_up_none nnq79
    rw [ew1] at nnq79
    obtain ⟨ddq79_8, nnq79⟩ := g_up_none nnq79
    refine ⟨q15, q23, q48, q79, (va_up (va_up (fun _ => none) (0 : Int32).toNatClampNeg (some sh1)) (1 : Int32).toNatClampNeg (some sh2)), (upd (upd (fun _ => 0) (0 : Int32).toNatClampNeg te1) (1 : Int32).toNatClampNeg (-te2)), ⟨nnq15, nnq23, nnq48, nnq79⟩, ⟨Ne.symm ddq23_0, Ne.symm ddq48_3, Ne.symm ddq79_6, Ne.symm ddq48_0, Ne.symm ddq79_3, Ne.symm ddq79_0⟩, ?_, ?_, ?_⟩
    · exact ⟨by simp [va_up, show (0 : Int32).toNatClampNeg = 0 from by decide, show (1 : Int32).toNatClampNeg = 1 from by decide, show (2 : Int32).toNatClampNeg = 2 from by decide], by simp [va_up, show (0 : Int32).toNatClampNeg = 0 from by decide, show (1 : Int32).toNatClampNeg = 1 from by decide, show (2 : Int32).toNatClampNeg = 2 from by decide]⟩
    · exact ⟨by simp [upd, show (0 : Int32).toNatClampNeg = 0 from by decide, show (1 : Int32).toNatClampNeg = 1 from by decide, show (2 : Int32).toNatClampNeg = 2 from by decide, yc13], by simp [upd, show (0 : Int32).toNatClampNeg = 0 from by decide, show (1 : Int32).toNatClampNeg = 1 from by decide, show (2 : Int32).toNatClampNeg = 2 from by decide, yc13]⟩
    · funext z
      by_cases z_h : z = h
      · rw [z_h, f98]; exact (g_up_s _ _ _).symm
      rw [g_up_n _ z_h]
      by_cases z_q79 : z = q79
      · rw [z_q79, f96]; exact (g_up_s _ _ _).symm
      rw [g_up_n _ z_q79]
      by_cases z_q48 : z = q48
      · rw [z_q48, f95]; exact (g_up_s _ _ _).symm
      rw [g_up_n _ z_q48]
      by_cases z_q23 : z = q23
      · rw [z_q23, f94]; exact (g_up_s _ _ _).symm
      rw [g_up_n _ z_q23]
      by_cases z_q15 : z = q15
      · rw [z_q15, f97]; exact (g_up_s _ _ _).symm
      rw [g_up_n _ z_q15]
      rw [ew89, g_up_n _ z_h]
      rw [ew77, g_up_n _ z_q15, g_up_n _ z_q79]
      rw [ew67, g_up_n _ z_q48]
      rw [ew58, g_up_n _ z_q48]
      rw [ew49, g_up_n _ z_q48]
      rw [ew40, g_up_n _ z_q23]
      rw [ew32, g_up_n _ z_q23]
      rw [ew24, g_up_n _ z_q23]
      rw [ew16, g_up_n _ z_q15]
      rw [ew7, g_up_n _ z_h]
      rw [ew1, g_up_n _ z_h]
  · have yc13 : ri1 = false := g_b0.mp c13
    refine lv_aload_n hx hb dX2_init_21 rfl (lv_at hl 2 rfl) ?_
    refine g_get F hP (C := RX1) (T := TX1) (N := 5) iX1 f9 rfl 4 (by decide) (List.mem_cons_of_mem _ (List.mem_append_left _ (List.mem_append_left _ (List.mem_append_left _ (List.mem_append_left _ (List.mem_append_left _ (List.mem_of_getElem? (i := 5) rfl))))))) (fun _ h9 => h9) rfl dX2_init_22 ?_
    refine lv_if_eq (tgt := 36) hx hb dX2_init_25 (by decide) (fun c99 => ?_) (fun c99 => ?_)
    · have yc99 : ri2 = false := g_b0.mp c99
      refine lv_aload_n hx hb dX2_init_36 rfl (lv_at hl 2 rfl) ?_
      refine g_get F hP (C := RX1) (T := TX1) (N := 5) iX1 f9 rfl 1 (by decide) (List.mem_cons_of_mem _ (List.mem_append_left _ (List.mem_append_left _ (List.mem_append_left _ (List.mem_append_left _ (List.mem_append_left _ (List.mem_of_getElem? (i := 6) rfl))))))) (fun _ h9 => h9) rfl dX2_init_37 ?_
      refine lv_istore_n (lv' := [(3, .int te2), (0, .ref h), (1, .ref g1), (2, .ref g2)]) hx hb dX2_init_40 rfl hl (by decide) rfl (fun ls hl => ?_)
      refine lv_aload_n hx hb dX2_init_41 rfl (lv_at hl 1 rfl) ?_
      refine g_new F hP hS (ci := 6) (C := RX5) (T := TX5) (N := 4) (fs := [.null, .null, .null, .int 0]) iX5 tyX5 tyX5_ok (List.mem_cons_of_mem _ (List.mem_append_left _ (List.mem_append_left _ (List.mem_append_left _ (List.mem_append_left _ (List.mem_append_left _ (List.mem_of_getElem? (i := 7) rfl))))))) (List.mem_cons_of_mem _ (List.mem_append_left _ (List.mem_append_left _ (List.mem_append_left _ (List.mem_append_left _ (List.mem_append_left _ (List.mem_of_getElem? (i := 8) rfl))))))) (List.mem_cons_of_mem _ (List.mem_append_left _ (List.mem_append_left _ (List.mem_append_left _ (List.mem_append_left _ (List.mem_append_left _ (List.mem_of_getElem? (i := 9) rfl))))))) rfl (by intro j hj; match j, hj with | 0, _ => rfl | 1, _ => rfl | 2, _ => rfl | 3, _ => rfl | j + 4, hj => exact absurd hj (by omega)) (by rw [hR]; exact Nat.le_of_ble_eq_true rfl) (by rw [hR]; exact Nat.le_of_ble_eq_true rfl) dX2_init_42 (fun q100 H nq100 hP hS => ?_)
      obtain ⟨w101, ew101⟩ : ∃ z, z = g_up w7 q100 (.inr (6, [.null, .null, .null, .int 0])) := ⟨_, rfl⟩
      have hP : g_P A G w101 H := by rw [ew101]; exact hP
      have f102 : w101 g1 = some (.inr (2, [.ref sh1, .int te1, .int mo1, .int la1, .int (g_b ri1)])) := by rw [ew101]; exact g_up_f f8 (g_neq f8 nq100)
      have f103 : w101 g2 = some (.inr (2, [.ref sh2, .int te2, .int mo2, .int la2, .int (g_b ri2)])) := by rw [ew101]; exact g_up_f f9 (g_neq f9 nq100)
      have f104 : w101 sh1 = some (.inr (5, [.int x1, .int y1, .int hd1, .int st1, .ref fr1])) := by rw [ew101]; exact g_up_f f10 (g_neq f10 nq100)
      have f105 : w101 sh2 = some (.inr (5, [.int x2, .int y2, .int hd2, .int st2, .ref fr2])) := by rw [ew101]; exact g_up_f f11 (g_neq f11 nq100)
      have f106 : w101 h = some (.inr (3, [.ref g1, .ref g2, .null])) := by rw [ew101]; exact g_up_f f12 (g_neq f12 nq100)
      have f107 : w101 q100 = some (.inr (6, [.null, .null, .null, .int 0])) := by rw [ew101]; exact g_up_s _ _ _
      refine lv_dup hx hb dX2_init_45 rfl ?_
      refine lv_iconst (v := 2) hx hb dX2_init_46 (by decide) ?_
      refine g_newqS F hP hS (N' := 2) (List.mem_cons_of_mem _ (List.mem_append_left _ (List.mem_append_left _ (List.mem_append_left _ (List.mem_append_left _ (List.mem_append_left _ (List.mem_of_getElem? (i := 10) rfl))))))) (by decide) (by decide) (by decide) (by rw [hR]; exact Nat.le_of_ble_eq_true rfl) (by rw [hR]; exact Nat.le_of_ble_eq_true rfl) dX2_init_47 (fun q108 H nq108 hP hS => ?_)
      obtain ⟨w109, ew109⟩ : ∃ z, z = g_up w101 q108 (.inl (G.2.1 4, 2, .inr (.inr (.inr (.inr (fun _ => none)))))) := ⟨_, rfl⟩
      have hP : g_P A G w109 H := by rw [ew109]; exact hP
      have f110 : w109 g1 = some (.inr (2, [.ref sh1, .int te1, .int mo1, .int la1, .int (g_b ri1)])) := by rw [ew109]; exact g_up_f f102 (g_neq f102 nq108)
      have f111 : w109 g2 = some (.inr (2, [.ref sh2, .int te2, .int mo2, .int la2, .int (g_b ri2)])) := by rw [ew109]; exact g_up_f f103 (g_neq f103 nq108)
      have f112 : w109 sh1 = some (.inr (5, [.int x1, .int y1, .int hd1, .int st1, .ref fr1])) := by rw [ew109]; exact g_up_f f104 (g_neq f104 nq108)
      have f113 : w109 sh2 = some (.inr (5, [.int x2, .int y2, .int hd2, .int st2, .ref fr2])) := by rw [ew109]; exact g_up_f f105 (g_neq f105 nq108)
      have f114 : w109 h = some (.inr (3, [.ref g1, .ref g2, .null])) := by rw [ew109]; exact g_up_f f106 (g_neq f106 nq108)
      have f115 : w109 q100 = some (.inr (6, [.null, .null, .null, .int 0])) := by rw [ew109]; exact g_up_f f107 (g_neq f107 nq108)
      have f116 : w109 q108 = some (.inl (G.2.1 4, 2, .inr (.inr (.inr (.inr (fun _ => none)))))) := by rw [ew109]; exact g_up_s _ _ _
      refine lv_dup hx hb dX2_init_50 rfl ?_
      refine lv_iconst (v := 0) hx hb dX2_init_51 (by decide) ?_
      refine lv_aload_n hx hb dX2_init_52 rfl (lv_at hl 2 rfl) ?_
      refine g_get F hP (C := RX1) (T := TX1) (N := 5) iX1 f110 rfl 0 (by decide) (List.mem_cons_of_mem _ (List.mem_append_left _ (List.mem_append_left _ (List.mem_append_left _ (List.mem_append_left _ (List.mem_append_left _ (List.mem_of_getElem? (i := 11) rfl))))))) (fun _ h9 => h9) rfl dX2_init_53 ?_
      refine g_astqS F hP hS f116 f112 (by unfold vp_in; decide) dX2_init_56 (fun H locs hP hS => ?_)
      obtain ⟨w117, ew117⟩ : ∃ z, z = g_up w109 q108 (.inl (G.2.1 4, 2, .inr (.inr (.inr (.inr (va_up (fun _ => none) (0 : Int32).toNatClampNeg (some sh1))))))) := ⟨_, rfl⟩
      have hP : g_P A G w117 H := by rw [ew117]; exact hP
      have f118 : w117 g1 = some (.inr (2, [.ref sh1, .int te1, .int mo1, .int la1, .int (g_b ri1)])) := by rw [ew117]; exact g_up_f f110 (g_neq f102 nq108)
      have f119 : w117 g2 = some (.inr (2, [.ref sh2, .int te2, .int mo2, .int la2, .int (g_b ri2)])) := by rw [ew117]; exact g_up_f f111 (g_neq f103 nq108)
      have f120 : w117 sh1 = some (.inr (5, [.int x1, .int y1, .int hd1, .int st1, .ref fr1])) := by rw [ew117]; exact g_up_f f112 (g_neq f104 nq108)
      have f121 : w117 sh2 = some (.inr (5, [.int x2, .int y2, .int hd2, .int st2, .ref fr2])) := by rw [ew117]; exact g_up_f f113 (g_neq f105 nq108)
      have f122 : w117 h = some (.inr (3, [.ref g1, .ref g2, .null])) := by rw [ew117]; exact g_up_f f114 (g_neq f106 nq108)
      have f123 : w117 q100 = some (.inr (6, [.null, .null, .null, .int 0])) := by rw [ew117]; exact g_up_f f115 (g_neq f107 nq108)
      have f124 : w117 q108 = some (.inl (G.2.1 4, 2, .inr (.inr (.inr (.inr (va_up (fun _ => none) (0 : Int32).toNatClampNeg (some sh1))))))) := by rw [ew117]; exact g_up_s _ _ _
      refine lv_dup hx hb dX2_init_57 rfl ?_
      refine lv_iconst (v := 1) hx hb dX2_init_58 (by decide) ?_
      refine lv_aload_n hx hb dX2_init_59 rfl (lv_at hl 3 rfl) ?_
      refine g_get F hP (C := RX1) (T := TX1) (N := 5) iX1 f119 rfl 0 (by decide) (List.mem_cons_of_mem _ (List.mem_append_left _ (List.mem_append_left _ (List.mem_append_left _ (List.mem_append_left _ (List.mem_append_left _ (List.mem_of_getElem? (i := 11) rfl))))))) (fun _ h9 => h9) rfl dX2_init_60 ?_
      refine g_astqS F hP hS f124 f121 (by unfold vp_in; decide) dX2_init_63 (fun H locs hP hS => ?_)
      obtain ⟨w125, ew125⟩ : ∃ z, z = g_up w117 q108 (.inl (G.2.1 4, 2, .inr (.inr (.inr (.inr (va_up (va_up (fun _ => none) (0 : Int32).toNatClampNeg (some sh1)) (1 : Int32).toNatClampNeg (some sh2))))))) := ⟨_, rfl⟩
      have hP : g_P A G w125 H := by rw [ew125]; exact hP
      have f126 : w125 g1 = some (.inr (2, [.ref sh1, .int te1, .int mo1, .int la1, .int (g_b ri1)])) := by rw [ew125]; exact g_up_f f118 (g_neq f102 nq108)
      have f127 : w125 g2 = some (.inr (2, [.ref sh2, .int te2, .int mo2, .int la2, .int (g_b ri2)])) := by rw [ew125]; exact g_up_f f119 (g_neq f103 nq108)
      have f128 : w125 sh1 = some (.inr (5, [.int x1, .int y1, .int hd1, .int st1, .ref fr1])) := by rw [ew125]; exact g_up_f f120 (g_neq f104 nq108)
      have f129 : w125 sh2 = some (.inr (5, [.int x2, .int y2, .int hd2, .int st2, .ref fr2])) := by rw [ew125]; exact g_up_f f121 (g_neq f105 nq108)
      have f130 : w125 h = some (.inr (3, [.ref g1, .ref g2, .null])) := by rw [ew125]; exact g_up_f f122 (g_neq f106 nq108)
      have f131 : w125 q100 = some (.inr (6, [.null, .null, .null, .int 0])) := by rw [ew125]; exact g_up_f f123 (g_neq f107 nq108)
      have f132 : w125 q108 = some (.inl (G.2.1 4, 2, .inr (.inr (.inr (.inr (va_up (va_up (fun _ => none) (0 : Int32).toNatClampNeg (some sh1)) (1 : Int32).toNatClampNeg (some sh2))))))) := by rw [ew125]; exact g_up_s _ _ _
      refine lv_iconst (v := 2) hx hb dX2_init_64 (by decide) ?_
      refine g_newaI F hP hS (N' := 2) (List.mem_cons_of_mem _ (List.mem_append_left _ (List.mem_append_left _ (List.mem_append_left _ (List.mem_append_left _ (List.mem_append_left _ (List.mem_of_getElem? (i := 12) rfl))))))) (by decide) (by decide) (by decide) (by rw [hR]; exact Nat.le_of_ble_eq_true rfl) (by rw [hR]; exact Nat.le_of_ble_eq_true rfl) dX2_init_65 (fun q133 H nq133 hP hS => ?_)
      obtain ⟨w134, ew134⟩ : ∃ z, z = g_up w125 q133 (.inl (G.2.1 0, 2, .inl (fun _ => 0))) := ⟨_, rfl⟩
      have hP : g_P A G w134 H := by rw [ew134]; exact hP
      have f135 : w134 g1 = some (.inr (2, [.ref sh1, .int te1, .int mo1, .int la1, .int (g_b ri1)])) := by rw [ew134]; exact g_up_f f126 (g_neq f126 nq133)
      have f136 : w134 g2 = some (.inr (2, [.ref sh2, .int te2, .int mo2, .int la2, .int (g_b ri2)])) := by rw [ew134]; exact g_up_f f127 (g_neq f127 nq133)
      have f137 : w134 sh1 = some (.inr (5, [.int x1, .int y1, .int hd1, .int st1, .ref fr1])) := by rw [ew134]; exact g_up_f f128 (g_neq f128 nq133)
      have f138 : w134 sh2 = some (.inr (5, [.int x2, .int y2, .int hd2, .int st2, .ref fr2])) := by rw [ew134]; exact g_up_f f129 (g_neq f129 nq133)
      have f139 : w134 h = some (.inr (3, [.ref g1, .ref g2, .null])) := by rw [ew134]; exact g_up_f f130 (g_neq f130 nq133)
      have f140 : w134 q100 = some (.inr (6, [.null, .null, .null, .int 0])) := by rw [ew134]; exact g_up_f f131 (g_neq f131 nq133)
      have f141 : w134 q108 = some (.inl (G.2.1 4, 2, .inr (.inr (.inr (.inr (va_up (va_up (fun _ => none) (0 : Int32).toNatClampNeg (some sh1)) (1 : Int32).toNatClampNeg (some sh2))))))) := by rw [ew134]; exact g_up_f f132 (g_neq f132 nq133)
      have f142 : w134 q133 = some (.inl (G.2.1 0, 2, .inl (fun _ => 0))) := by rw [ew134]; exact g_up_s _ _ _
      refine lv_dup hx hb dX2_init_67 rfl ?_
      refine lv_iconst (v := 0) hx hb dX2_init_68 (by decide) ?_
      refine lv_aload_n hx hb dX2_init_69 rfl (lv_at hl 2 rfl) ?_
      refine g_get F hP (C := RX1) (T := TX1) (N := 5) iX1 f135 rfl 1 (by decide) (List.mem_cons_of_mem _ (List.mem_append_left _ (List.mem_append_left _ (List.mem_append_left _ (List.mem_append_left _ (List.mem_append_left _ (List.mem_of_getElem? (i := 6) rfl))))))) (fun _ h9 => h9) rfl dX2_init_70 ?_
      refine g_iast F hP hS f142 (by unfold vp_in; decide) dX2_init_73 (fun H locs hP hS => ?_)
      obtain ⟨w143, ew143⟩ : ∃ z, z = g_up w134 q133 (.inl (G.2.1 0, 2, .inl (upd (fun _ => 0) (0 : Int32).toNatClampNeg te1))) := ⟨_, rfl⟩
      have hP : g_P A G w143 H := by rw [ew143]; exact hP
      have f144 : w143 g1 = some (.inr (2, [.ref sh1, .int te1, .int mo1, .int la1, .int (g_b ri1)])) := by rw [ew143]; exact g_up_f f135 (g_neq f126 nq133)
      have f145 : w143 g2 = some (.inr (2, [.ref sh2, .int te2, .int mo2, .int la2, .int (g_b ri2)])) := by rw [ew143]; exact g_up_f f136 (g_neq f127 nq133)
      have f146 : w143 sh1 = some (.inr (5, [.int x1, .int y1, .int hd1, .int st1, .ref fr1])) := by rw [ew143]; exact g_up_f f137 (g_neq f128 nq133)
      have f147 : w143 sh2 = some (.inr (5, [.int x2, .int y2, .int hd2, .int st2, .ref fr2])) := by rw [ew143]; exact g_up_f f138 (g_neq f129 nq133)
      have f148 : w143 h = some (.inr (3, [.ref g1, .ref g2, .null])) := by rw [ew143]; exact g_up_f f139 (g_neq f130 nq133)
      have f149 : w143 q100 = some (.inr (6, [.null, .null, .null, .int 0])) := by rw [ew143]; exact g_up_f f140 (g_neq f131 nq133)
      have f150 : w143 q108 = some (.inl (G.2.1 4, 2, .inr (.inr (.inr (.inr (va_up (va_up (fun _ => none) (0 : Int32).toNatClampNeg (some sh1)) (1 : Int32).toNatClampNeg (some sh2))))))) := by rw [ew143]; exact g_up_f f141 (g_neq f132 nq133)
      have f151 : w143 q133 = some (.inl (G.2.1 0, 2, .inl (upd (fun _ => 0) (0 : Int32).toNatClampNeg te1))) := by rw [ew143]; exact g_up_s _ _ _
      refine lv_dup hx hb dX2_init_74 rfl ?_
      refine lv_iconst (v := 1) hx hb dX2_init_75 (by decide) ?_
      refine lv_iload_n hx hb dX2_init_76 rfl (lv_at hl 0 rfl) ?_
      refine g_iast F hP hS f151 (by unfold vp_in; decide) dX2_init_77 (fun H locs hP hS => ?_)
      obtain ⟨w152, ew152⟩ : ∃ z, z = g_up w143 q133 (.inl (G.2.1 0, 2, .inl (upd (upd (fun _ => 0) (0 : Int32).toNatClampNeg te1) (1 : Int32).toNatClampNeg te2))) := ⟨_, rfl⟩
      have hP : g_P A G w152 H := by rw [ew152]; exact hP
      have f153 : w152 g1 = some (.inr (2, [.ref sh1, .int te1, .int mo1, .int la1, .int (g_b ri1)])) := by rw [ew152]; exact g_up_f f144 (g_neq f126 nq133)
      have f154 : w152 g2 = some (.inr (2, [.ref sh2, .int te2, .int mo2, .int la2, .int (g_b ri2)])) := by rw [ew152]; exact g_up_f f145 (g_neq f127 nq133)
      have f155 : w152 sh1 = some (.inr (5, [.int x1, .int y1, .int hd1, .int st1, .ref fr1])) := by rw [ew152]; exact g_up_f f146 (g_neq f128 nq133)
      have f156 : w152 sh2 = some (.inr (5, [.int x2, .int y2, .int hd2, .int st2, .ref fr2])) := by rw [ew152]; exact g_up_f f147 (g_neq f129 nq133)
      have f157 : w152 h = some (.inr (3, [.ref g1, .ref g2, .null])) := by rw [ew152]; exact g_up_f f148 (g_neq f130 nq133)
      have f158 : w152 q100 = some (.inr (6, [.null, .null, .null, .int 0])) := by rw [ew152]; exact g_up_f f149 (g_neq f131 nq133)
      have f159 : w152 q108 = some (.inl (G.2.1 4, 2, .inr (.inr (.inr (.inr (va_up (va_up (fun _ => none) (0 : Int32).toNatClampNeg (some sh1)) (1 : Int32).toNatClampNeg (some sh2))))))) := by rw [ew152]; exact g_up_f f150 (g_neq f132 nq133)
      have f160 : w152 q133 = some (.inl (G.2.1 0, 2, .inl (upd (upd (fun _ => 0) (0 : Int32).toNatClampNeg te1) (1 : Int32).toNatClampNeg te2))) := by rw [ew152]; exact g_up_s _ _ _
      refine g_Iv (As := [.ref q108, .ref q133]) (rest := [.ref q100, .ref h]) F hP hS (k_X5_init l A G w152 q100 q108 q133 f158) (cwI 2 hts gX2_init_X5_init rfl rfl rfl (hts _ (List.mem_cons_of_mem _ (List.mem_append_left _ (List.mem_append_left _ (List.mem_append_left _ (List.mem_append_left _ (List.mem_append_left _ (List.mem_of_getElem? (i := 9) rfl)))))))) (hts _ (List.mem_cons_of_mem _ (List.mem_append_left _ (List.mem_append_left _ (List.mem_append_left _ (List.mem_append_left _ (List.mem_append_left _ (List.mem_of_getElem? (i := 14) rfl)))))))) (hts _ (List.mem_cons_of_mem _ (List.mem_append_left _ (List.mem_append_left _ (List.mem_append_left _ (List.mem_append_left _ (List.mem_append_left _ (List.mem_of_getElem? (i := 15) rfl)))))))) rfl cd_X5_init ⟨by rw [hR]; exact Nat.le_of_ble_eq_true rfl, by rw [hR]; exact Nat.le_of_ble_eq_true rfl⟩) rfl hl.1 (Nat.le_of_ble_eq_true rfl) dX2_init_78 ⟨by rw [hR]; exact Nat.le_of_ble_eq_true rfl, by rw [hR]; exact Nat.le_of_ble_eq_true rfl⟩ rfl (fun w162 H locs h163 hP hS => ?_)
      obtain ⟨q164, nq164, ew162⟩ := h163
      have f165 : w162 g1 = some (.inr (2, [.ref sh1, .int te1, .int mo1, .int la1, .int (g_b ri1)])) := by rw [ew162]; exact g_up_f (g_up_f f153 (g_neq f153 nq164)) (g_neq f8 nq100)
      have f166 : w162 g2 = some (.inr (2, [.ref sh2, .int te2, .int mo2, .int la2, .int (g_b ri2)])) := by rw [ew162]; exact g_up_f (g_up_f f154 (g_neq f154 nq164)) (g_neq f9 nq100)
      have f167 : w162 sh1 = some (.inr (5, [.int x1, .int y1, .int hd1, .int st1, .ref fr1])) := by rw [ew162]; exact g_up_f (g_up_f f155 (g_neq f155 nq164)) (g_neq f10 nq100)
      have f168 : w162 sh2 = some (.inr (5, [.int x2, .int y2, .int hd2, .int st2, .ref fr2])) := by rw [ew162]; exact g_up_f (g_up_f f156 (g_neq f156 nq164)) (g_neq f11 nq100)
      have f169 : w162 h = some (.inr (3, [.ref g1, .ref g2, .null])) := by rw [ew162]; exact g_up_f (g_up_f f157 (g_neq f157 nq164)) (g_neq f12 nq100)
      have f170 : w162 q108 = some (.inl (G.2.1 4, 2, .inr (.inr (.inr (.inr (va_up (va_up (fun _ => none) (0 : Int32).toNatClampNeg (some sh1)) (1 : Int32).toNatClampNeg (some sh2))))))) := by rw [ew162]; exact g_up_f (g_up_f f159 (g_neq f159 nq164)) (g_ne f159 f158 rfl)
      have f171 : w162 q133 = some (.inl (G.2.1 0, 2, .inl (upd (upd (fun _ => 0) (0 : Int32).toNatClampNeg te1) (1 : Int32).toNatClampNeg te2))) := by rw [ew162]; exact g_up_f (g_up_f f160 (g_neq f160 nq164)) (g_ne f160 f158 rfl)
      have f172 : w162 q164 = some (.inr (1, [.long 0, .long 1])) := by rw [ew162]; exact g_up_f (g_up_s _ _ _) (Ne.symm (g_neq f158 nq164))
      have f173 : w162 q100 = some (.inr (6, [.ref q108, .ref q133, .ref q164, .int 0])) := by rw [ew162]; exact g_up_s _ _ _
      refine g_putF F hP hS (C := RX2) (T := TX2) (N := 3) (v := .ref q100) (ty := (.object "GearTrains$Tie")) iX2 tyX2 tyX2_ok nmX2 f169 rfl 2 (by decide) (List.mem_cons_of_mem _ (List.mem_append_left _ (List.mem_append_left _ (List.mem_append_left _ (List.mem_append_left _ (List.mem_append_left _ (List.mem_of_getElem? (i := 13) rfl))))))) (fun _ h9 => h9) rfl hnm0 rfl (by decide +kernel) rfl rfl (by show 2 < 3; decide) dX2_init_81 (fun H locs hP hS => ?_)
      obtain ⟨w174, ew174⟩ : ∃ z, z = g_up w162 h (.inr (3, [.ref g1, .ref g2, .ref q100])) := ⟨_, rfl⟩
      have hP : g_P A G w174 H := by rw [ew174]; exact hP
      have f175 : w174 g1 = some (.inr (2, [.ref sh1, .int te1, .int mo1, .int la1, .int (g_b ri1)])) := by rw [ew174]; exact g_up_f f165 (g_ne f165 f169 rfl)
      have f176 : w174 g2 = some (.inr (2, [.ref sh2, .int te2, .int mo2, .int la2, .int (g_b ri2)])) := by rw [ew174]; exact g_up_f f166 (g_ne f166 f169 rfl)
      have f177 : w174 sh1 = some (.inr (5, [.int x1, .int y1, .int hd1, .int st1, .ref fr1])) := by rw [ew174]; exact g_up_f f167 (g_ne f167 f169 rfl)
      have f178 : w174 sh2 = some (.inr (5, [.int x2, .int y2, .int hd2, .int st2, .ref fr2])) := by rw [ew174]; exact g_up_f f168 (g_ne f168 f169 rfl)
      have f179 : w174 q108 = some (.inl (G.2.1 4, 2, .inr (.inr (.inr (.inr (va_up (va_up (fun _ => none) (0 : Int32).toNatClampNeg (some sh1)) (1 : Int32).toNatClampNeg (some sh2))))))) := by rw [ew174]; exact g_up_f f170 (Ne.symm (g_neq f106 nq108))
      have f180 : w174 q133 = some (.inl (G.2.1 0, 2, .inl (upd (upd (fun _ => 0) (0 : Int32).toNatClampNeg te1) (1 : Int32).toNatClampNeg te2))) := by rw [ew174]; exact g_up_f f171 (Ne.symm (g_neq f130 nq133))
      have f181 : w174 q164 = some (.inr (1, [.long 0, .long 1])) := by rw [ew174]; exact g_up_f f172 (g_ne f172 f169 rfl)
      have f182 : w174 q100 = some (.inr (6, [.ref q108, .ref q133, .ref q164, .int 0])) := by rw [ew174]; exact g_up_f f173 (Ne.symm (g_neq f12 nq100))
      have f183 : w174 h = some (.inr (3, [.ref g1, .ref g2, .ref q100])) := by rw [ew174]; exact g_up_s _ _ _
      rw [hQ]
      refine g_vret F hP hS hlocks hr dX2_init_84 (by first | exact Nat.le_of_ble_eq_true rfl | omega) (by first | exact Nat.le_of_ble_eq_true rfl | omega) ?_
      have nnq100 := nq100
      rw [ew7] at nnq100
      obtain ⟨ddq100_0, nnq100⟩ := g_up_none nnq100
      rw [ew1] at nnq100
      obtain ⟨ddq100_1, nnq100⟩ := g_up_none nnq100
      have nnq108 := nq108
      rw [ew101] at nnq108
      obtain ⟨ddq108_0, nnq108⟩ := g_up_none nnq108
      rw [ew7] at nnq108
      obtain ⟨ddq108_1, nnq108⟩ := g_up_none nnq108
      rw [ew1] at nnq108
      obtain ⟨ddq108_2, nnq108⟩ := g_up_none nnq108
      have nnq133 := nq133
      rw [ew125] at nnq133
      obtain ⟨ddq133_0, nnq133⟩ := g_up_none nnq133
      rw [ew117] at nnq133
      obtain ⟨ddq133_1, nnq133⟩ := g_up_none nnq133
      rw [ew109] at nnq133
      obtain ⟨ddq133_2, nnq133⟩ := g_up_none nnq133
      rw [ew101] at nnq133
      obtain ⟨ddq133_3, nnq133⟩ := g_up_none nnq133
      rw [ew7] at nnq133
      obtain ⟨ddq133_4, nnq133⟩ := g_up_none nnq133
      rw [ew1] at nnq133
      obtain ⟨ddq133_5, nnq133⟩ := g_up_none nnq133
      have nnq164 := nq164
      rw [ew152] at nnq164
      obtain ⟨ddq164_0, nnq164⟩ := g_up_none nnq164
      rw [ew143] at nnq164
      obtain ⟨ddq164_1, nnq164⟩ := g_up_none nnq164
      rw [ew134] at nnq164
      obtain ⟨ddq164_2, nnq164⟩ := g_up_none nnq164
      rw [ew125] at nnq164
      obtain ⟨ddq164_3, nnq164⟩ := g_up_none nnq164
      rw [ew117] at nnq164
      obtain ⟨ddq164_4, nnq164⟩ := g_up_none nnq164
      rw [ew109] at nnq164
      obtain ⟨ddq164_5, nnq164⟩ := g_up_none nnq164
      rw [ew101] at nnq164
      obtain ⟨ddq164_6, nnq164⟩ := g_up_none nnq164
      rw [ew7] at nnq164
      obtain ⟨ddq164_7, nnq164⟩ := g_up_none nnq164
      rw [ew1] at nnq164
      obtain ⟨ddq164_8, nnq164⟩ := g_up_none nnq164
      refine ⟨q100, q108, q133, q164, (va_up (va_up (fun _ => none) (0 : Int32).toNatClampNeg (some sh1)) (1 : Int32).toNatClampNeg (some sh2)), (upd (upd (fun _ => 0) (0 : Int32).toNatClampNeg te1) (1 : Int32).toNatClampNeg te2), ⟨nnq100, nnq108, nnq133, nnq164⟩, ⟨Ne.symm ddq108_0, Ne.symm ddq133_3, Ne.symm ddq164_6, Ne.symm ddq133_0, Ne.symm ddq164_3, Ne.symm ddq164_0⟩, ?_, ?_, ?_⟩
      · exact ⟨by simp [va_up, show (0 : Int32).toNatClampNeg = 0 from by decide, show (1 : Int32).toNatClampNeg = 1 from by decide, show (2 : Int32).toNatClampNeg = 2 from by decide], by simp [va_up, show (0 : Int32).toNatClampNeg = 0 from by decide, show (1 : Int32).toNatClampNeg = 1 from by decide, show (2 : Int32).toNatClampNeg = 2 from by decide]⟩
      · exact ⟨by simp [upd, show (0 : Int32).toNatClampNeg = 0 from by decide, show (1 : Int32).toNatClampNeg = 1 from by decide, show (2 : Int32).toNatClampNeg = 2 from by decide, yc13, yc99], by simp [upd, show (0 : Int32).toNatClampNeg = 0 from by decide, show (1 : Int32).toNatClampNeg = 1 from by decide, show (2 : Int32).toNatClampNeg = 2 from by decide, yc13, yc99]⟩
      · funext z
        by_cases z_h : z = h
        · rw [z_h, f183]; exact (g_up_s _ _ _).symm
        rw [g_up_n _ z_h]
        by_cases z_q164 : z = q164
        · rw [z_q164, f181]; exact (g_up_s _ _ _).symm
        rw [g_up_n _ z_q164]
        by_cases z_q133 : z = q133
        · rw [z_q133, f180]; exact (g_up_s _ _ _).symm
        rw [g_up_n _ z_q133]
        by_cases z_q108 : z = q108
        · rw [z_q108, f179]; exact (g_up_s _ _ _).symm
        rw [g_up_n _ z_q108]
        by_cases z_q100 : z = q100
        · rw [z_q100, f182]; exact (g_up_s _ _ _).symm
        rw [g_up_n _ z_q100]
        rw [ew174, g_up_n _ z_h]
        rw [ew162, g_up_n _ z_q100, g_up_n _ z_q164]
        rw [ew152, g_up_n _ z_q133]
        rw [ew143, g_up_n _ z_q133]
        rw [ew134, g_up_n _ z_q133]
        rw [ew125, g_up_n _ z_q108]
        rw [ew117, g_up_n _ z_q108]
        rw [ew109, g_up_n _ z_q108]
        rw [ew101, g_up_n _ z_q100]
        rw [ew7, g_up_n _ z_h]
        rw [ew1, g_up_n _ z_h]
    · have yc99 : ri2 = true := g_b1.mp c99
      refine lv_aload_n hx hb dX2_init_28 rfl (lv_at hl 2 rfl) ?_
      refine g_get F hP (C := RX1) (T := TX1) (N := 5) iX1 f9 rfl 1 (by decide) (List.mem_cons_of_mem _ (List.mem_append_left _ (List.mem_append_left _ (List.mem_append_left _ (List.mem_append_left _ (List.mem_append_left _ (List.mem_of_getElem? (i := 6) rfl))))))) (fun _ h9 => h9) rfl dX2_init_29 ?_
      refine lv_ineg hx hb dX2_init_32 ?_
      refine lv_topi (fun v184 ev184 => ?_)
      obtain rfl : v184 = -te2 := by
        exact ev184
      refine lv_goto (tgt := 40) hx hb dX2_init_33 (by decide) ?_
      refine lv_istore_n (lv' := [(3, .int (-te2)), (0, .ref h), (1, .ref g1), (2, .ref g2)]) hx hb dX2_init_40 rfl hl (by decide) rfl (fun ls hl => ?_)
      refine lv_aload_n hx hb dX2_init_41 rfl (lv_at hl 1 rfl) ?_
      refine g_new F hP hS (ci := 6) (C := RX5) (T := TX5) (N := 4) (fs := [.null, .null, .null, .int 0]) iX5 tyX5 tyX5_ok (List.mem_cons_of_mem _ (List.mem_append_left _ (List.mem_append_left _ (List.mem_append_left _ (List.mem_append_left _ (List.mem_append_left _ (List.mem_of_getElem? (i := 7) rfl))))))) (List.mem_cons_of_mem _ (List.mem_append_left _ (List.mem_append_left _ (List.mem_append_left _ (List.mem_append_left _ (List.mem_append_left _ (List.mem_of_getElem? (i := 8) rfl))))))) (List.mem_cons_of_mem _ (List.mem_append_left _ (List.mem_append_left _ (List.mem_append_left _ (List.mem_append_left _ (List.mem_append_left _ (List.mem_of_getElem? (i := 9) rfl))))))) rfl (by intro j hj; match j, hj with | 0, _ => rfl | 1, _ => rfl | 2, _ => rfl | 3, _ => rfl | j + 4, hj => exact absurd hj (by omega)) (by rw [hR]; exact Nat.le_of_ble_eq_true rfl) (by rw [hR]; exact Nat.le_of_ble_eq_true rfl) dX2_init_42 (fun q185 H nq185 hP hS => ?_)
      obtain ⟨w186, ew186⟩ : ∃ z, z = g_up w7 q185 (.inr (6, [.null, .null, .null, .int 0])) := ⟨_, rfl⟩
      have hP : g_P A G w186 H := by rw [ew186]; exact hP
      have f187 : w186 g1 = some (.inr (2, [.ref sh1, .int te1, .int mo1, .int la1, .int (g_b ri1)])) := by rw [ew186]; exact g_up_f f8 (g_neq f8 nq185)
      have f188 : w186 g2 = some (.inr (2, [.ref sh2, .int te2, .int mo2, .int la2, .int (g_b ri2)])) := by rw [ew186]; exact g_up_f f9 (g_neq f9 nq185)
      have f189 : w186 sh1 = some (.inr (5, [.int x1, .int y1, .int hd1, .int st1, .ref fr1])) := by rw [ew186]; exact g_up_f f10 (g_neq f10 nq185)
      have f190 : w186 sh2 = some (.inr (5, [.int x2, .int y2, .int hd2, .int st2, .ref fr2])) := by rw [ew186]; exact g_up_f f11 (g_neq f11 nq185)
      have f191 : w186 h = some (.inr (3, [.ref g1, .ref g2, .null])) := by rw [ew186]; exact g_up_f f12 (g_neq f12 nq185)
      have f192 : w186 q185 = some (.inr (6, [.null, .null, .null, .int 0])) := by rw [ew186]; exact g_up_s _ _ _
      refine lv_dup hx hb dX2_init_45 rfl ?_
      refine lv_iconst (v := 2) hx hb dX2_init_46 (by decide) ?_
      refine g_newqS F hP hS (N' := 2) (List.mem_cons_of_mem _ (List.mem_append_left _ (List.mem_append_left _ (List.mem_append_left _ (List.mem_append_left _ (List.mem_append_left _ (List.mem_of_getElem? (i := 10) rfl))))))) (by decide) (by decide) (by decide) (by rw [hR]; exact Nat.le_of_ble_eq_true rfl) (by rw [hR]; exact Nat.le_of_ble_eq_true rfl) dX2_init_47 (fun q193 H nq193 hP hS => ?_)
      obtain ⟨w194, ew194⟩ : ∃ z, z = g_up w186 q193 (.inl (G.2.1 4, 2, .inr (.inr (.inr (.inr (fun _ => none)))))) := ⟨_, rfl⟩
      have hP : g_P A G w194 H := by rw [ew194]; exact hP
      have f195 : w194 g1 = some (.inr (2, [.ref sh1, .int te1, .int mo1, .int la1, .int (g_b ri1)])) := by rw [ew194]; exact g_up_f f187 (g_neq f187 nq193)
      have f196 : w194 g2 = some (.inr (2, [.ref sh2, .int te2, .int mo2, .int la2, .int (g_b ri2)])) := by rw [ew194]; exact g_up_f f188 (g_neq f188 nq193)
      have f197 : w194 sh1 = some (.inr (5, [.int x1, .int y1, .int hd1, .int st1, .ref fr1])) := by rw [ew194]; exact g_up_f f189 (g_neq f189 nq193)
      have f198 : w194 sh2 = some (.inr (5, [.int x2, .int y2, .int hd2, .int st2, .ref fr2])) := by rw [ew194]; exact g_up_f f190 (g_neq f190 nq193)
      have f199 : w194 h = some (.inr (3, [.ref g1, .ref g2, .null])) := by rw [ew194]; exact g_up_f f191 (g_neq f191 nq193)
      have f200 : w194 q185 = some (.inr (6, [.null, .null, .null, .int 0])) := by rw [ew194]; exact g_up_f f192 (g_neq f192 nq193)
      have f201 : w194 q193 = some (.inl (G.2.1 4, 2, .inr (.inr (.inr (.inr (fun _ => none)))))) := by rw [ew194]; exact g_up_s _ _ _
      refine lv_dup hx hb dX2_init_50 rfl ?_
      refine lv_iconst (v := 0) hx hb dX2_init_51 (by decide) ?_
      refine lv_aload_n hx hb dX2_init_52 rfl (lv_at hl 2 rfl) ?_
      refine g_get F hP (C := RX1) (T := TX1) (N := 5) iX1 f195 rfl 0 (by decide) (List.mem_cons_of_mem _ (List.mem_append_left _ (List.mem_append_left _ (List.mem_append_left _ (List.mem_append_left _ (List.mem_append_left _ (List.mem_of_getElem? (i := 11) rfl))))))) (fun _ h9 => h9) rfl dX2_init_53 ?_
      refine g_astqS F hP hS f201 f197 (by unfold vp_in; decide) dX2_init_56 (fun H locs hP hS => ?_)
      obtain ⟨w202, ew202⟩ : ∃ z, z = g_up w194 q193 (.inl (G.2.1 4, 2, .inr (.inr (.inr (.inr (va_up (fun _ => none) (0 : Int32).toNatClampNeg (some sh1))))))) := ⟨_, rfl⟩
      have hP : g_P A G w202 H := by rw [ew202]; exact hP
      have f203 : w202 g1 = some (.inr (2, [.ref sh1, .int te1, .int mo1, .int la1, .int (g_b ri1)])) := by rw [ew202]; exact g_up_f f195 (g_neq f187 nq193)
      have f204 : w202 g2 = some (.inr (2, [.ref sh2, .int te2, .int mo2, .int la2, .int (g_b ri2)])) := by rw [ew202]; exact g_up_f f196 (g_neq f188 nq193)
      have f205 : w202 sh1 = some (.inr (5, [.int x1, .int y1, .int hd1, .int st1, .ref fr1])) := by rw [ew202]; exact g_up_f f197 (g_neq f189 nq193)
      have f206 : w202 sh2 = some (.inr (5, [.int x2, .int y2, .int hd2, .int st2, .ref fr2])) := by rw [ew202]; exact g_up_f f198 (g_neq f190 nq193)
      have f207 : w202 h = some (.inr (3, [.ref g1, .ref g2, .null])) := by rw [ew202]; exact g_up_f f199 (g_neq f191 nq193)
      have f208 : w202 q185 = some (.inr (6, [.null, .null, .null, .int 0])) := by rw [ew202]; exact g_up_f f200 (g_neq f192 nq193)
      have f209 : w202 q193 = some (.inl (G.2.1 4, 2, .inr (.inr (.inr (.inr (va_up (fun _ => none) (0 : Int32).toNatClampNeg (some sh1))))))) := by rw [ew202]; exact g_up_s _ _ _
      refine lv_dup hx hb dX2_init_57 rfl ?_
      refine lv_iconst (v := 1) hx hb dX2_init_58 (by decide) ?_
      refine lv_aload_n hx hb dX2_init_59 rfl (lv_at hl 3 rfl) ?_
      refine g_get F hP (C := RX1) (T := TX1) (N := 5) iX1 f204 rfl 0 (by decide) (List.mem_cons_of_mem _ (List.mem_append_left _ (List.mem_append_left _ (List.mem_append_left _ (List.mem_append_left _ (List.mem_append_left _ (List.mem_of_getElem? (i := 11) rfl))))))) (fun _ h9 => h9) rfl dX2_init_60 ?_
      refine g_astqS F hP hS f209 f206 (by unfold vp_in; decide) dX2_init_63 (fun H locs hP hS => ?_)
      obtain ⟨w210, ew210⟩ : ∃ z, z = g_up w202 q193 (.inl (G.2.1 4, 2, .inr (.inr (.inr (.inr (va_up (va_up (fun _ => none) (0 : Int32).toNatClampNeg (some sh1)) (1 : Int32).toNatClampNeg (some sh2))))))) := ⟨_, rfl⟩
      have hP : g_P A G w210 H := by rw [ew210]; exact hP
      have f211 : w210 g1 = some (.inr (2, [.ref sh1, .int te1, .int mo1, .int la1, .int (g_b ri1)])) := by rw [ew210]; exact g_up_f f203 (g_neq f187 nq193)
      have f212 : w210 g2 = some (.inr (2, [.ref sh2, .int te2, .int mo2, .int la2, .int (g_b ri2)])) := by rw [ew210]; exact g_up_f f204 (g_neq f188 nq193)
      have f213 : w210 sh1 = some (.inr (5, [.int x1, .int y1, .int hd1, .int st1, .ref fr1])) := by rw [ew210]; exact g_up_f f205 (g_neq f189 nq193)
      have f214 : w210 sh2 = some (.inr (5, [.int x2, .int y2, .int hd2, .int st2, .ref fr2])) := by rw [ew210]; exact g_up_f f206 (g_neq f190 nq193)
      have f215 : w210 h = some (.inr (3, [.ref g1, .ref g2, .null])) := by rw [ew210]; exact g_up_f f207 (g_neq f191 nq193)
      have f216 : w210 q185 = some (.inr (6, [.null, .null, .null, .int 0])) := by rw [ew210]; exact g_up_f f208 (g_neq f192 nq193)
      have f217 : w210 q193 = some (.inl (G.2.1 4, 2, .inr (.inr (.inr (.inr (va_up (va_up (fun _ => none) (0 : Int32).toNatClampNeg (some sh1)) (1 : Int32).toNatClampNeg (some sh2))))))) := by rw [ew210]; exact g_up_s _ _ _
      refine lv_iconst (v := 2) hx hb dX2_init_64 (by decide) ?_
      refine g_newaI F hP hS (N' := 2) (List.mem_cons_of_mem _ (List.mem_append_left _ (List.mem_append_left _ (List.mem_append_left _ (List.mem_append_left _ (List.mem_append_left _ (List.mem_of_getElem? (i := 12) rfl))))))) (by decide) (by decide) (by decide) (by rw [hR]; exact Nat.le_of_ble_eq_true rfl) (by rw [hR]; exact Nat.le_of_ble_eq_true rfl) dX2_init_65 (fun q218 H nq218 hP hS => ?_)
      obtain ⟨w219, ew219⟩ : ∃ z, z = g_up w210 q218 (.inl (G.2.1 0, 2, .inl (fun _ => 0))) := ⟨_, rfl⟩
      have hP : g_P A G w219 H := by rw [ew219]; exact hP
      have f220 : w219 g1 = some (.inr (2, [.ref sh1, .int te1, .int mo1, .int la1, .int (g_b ri1)])) := by rw [ew219]; exact g_up_f f211 (g_neq f211 nq218)
      have f221 : w219 g2 = some (.inr (2, [.ref sh2, .int te2, .int mo2, .int la2, .int (g_b ri2)])) := by rw [ew219]; exact g_up_f f212 (g_neq f212 nq218)
      have f222 : w219 sh1 = some (.inr (5, [.int x1, .int y1, .int hd1, .int st1, .ref fr1])) := by rw [ew219]; exact g_up_f f213 (g_neq f213 nq218)
      have f223 : w219 sh2 = some (.inr (5, [.int x2, .int y2, .int hd2, .int st2, .ref fr2])) := by rw [ew219]; exact g_up_f f214 (g_neq f214 nq218)
      have f224 : w219 h = some (.inr (3, [.ref g1, .ref g2, .null])) := by rw [ew219]; exact g_up_f f215 (g_neq f215 nq218)
      have f225 : w219 q185 = some (.inr (6, [.null, .null, .null, .int 0])) := by rw [ew219]; exact g_up_f f216 (g_neq f216 nq218)
      have f226 : w219 q193 = some (.inl (G.2.1 4, 2, .inr (.inr (.inr (.inr (va_up (va_up (fun _ => none) (0 : Int32).toNatClampNeg (some sh1)) (1 : Int32).toNatClampNeg (some sh2))))))) := by rw [ew219]; exact g_up_f f217 (g_neq f217 nq218)
      have f227 : w219 q218 = some (.inl (G.2.1 0, 2, .inl (fun _ => 0))) := by rw [ew219]; exact g_up_s _ _ _
      refine lv_dup hx hb dX2_init_67 rfl ?_
      refine lv_iconst (v := 0) hx hb dX2_init_68 (by decide) ?_
      refine lv_aload_n hx hb dX2_init_69 rfl (lv_at hl 2 rfl) ?_
      refine g_get F hP (C := RX1) (T := TX1) (N := 5) iX1 f220 rfl 1 (by decide) (List.mem_cons_of_mem _ (List.mem_append_left _ (List.mem_append_left _ (List.mem_append_left _ (List.mem_append_left _ (List.mem_append_left _ (List.mem_of_getElem? (i := 6) rfl))))))) (fun _ h9 => h9) rfl dX2_init_70 ?_
      refine g_iast F hP hS f227 (by unfold vp_in; decide) dX2_init_73 (fun H locs hP hS => ?_)
      obtain ⟨w228, ew228⟩ : ∃ z, z = g_up w219 q218 (.inl (G.2.1 0, 2, .inl (upd (fun _ => 0) (0 : Int32).toNatClampNeg te1))) := ⟨_, rfl⟩
      have hP : g_P A G w228 H := by rw [ew228]; exact hP
      have f229 : w228 g1 = some (.inr (2, [.ref sh1, .int te1, .int mo1, .int la1, .int (g_b ri1)])) := by rw [ew228]; exact g_up_f f220 (g_neq f211 nq218)
      have f230 : w228 g2 = some (.inr (2, [.ref sh2, .int te2, .int mo2, .int la2, .int (g_b ri2)])) := by rw [ew228]; exact g_up_f f221 (g_neq f212 nq218)
      have f231 : w228 sh1 = some (.inr (5, [.int x1, .int y1, .int hd1, .int st1, .ref fr1])) := by rw [ew228]; exact g_up_f f222 (g_neq f213 nq218)
      have f232 : w228 sh2 = some (.inr (5, [.int x2, .int y2, .int hd2, .int st2, .ref fr2])) := by rw [ew228]; exact g_up_f f223 (g_neq f214 nq218)
      have f233 : w228 h = some (.inr (3, [.ref g1, .ref g2, .null])) := by rw [ew228]; exact g_up_f f224 (g_neq f215 nq218)
      have f234 : w228 q185 = some (.inr (6, [.null, .null, .null, .int 0])) := by rw [ew228]; exact g_up_f f225 (g_neq f216 nq218)
      have f235 : w228 q193 = some (.inl (G.2.1 4, 2, .inr (.inr (.inr (.inr (va_up (va_up (fun _ => none) (0 : Int32).toNatClampNeg (some sh1)) (1 : Int32).toNatClampNeg (some sh2))))))) := by rw [ew228]; exact g_up_f f226 (g_neq f217 nq218)
      have f236 : w228 q218 = some (.inl (G.2.1 0, 2, .inl (upd (fun _ => 0) (0 : Int32).toNatClampNeg te1))) := by rw [ew228]; exact g_up_s _ _ _
      refine lv_dup hx hb dX2_init_74 rfl ?_
      refine lv_iconst (v := 1) hx hb dX2_init_75 (by decide) ?_
      refine lv_iload_n hx hb dX2_init_76 rfl (lv_at hl 0 rfl) ?_
      refine g_iast F hP hS f236 (by unfold vp_in; decide) dX2_init_77 (fun H locs hP hS => ?_)
      obtain ⟨w237, ew237⟩ : ∃ z, z = g_up w228 q218 (.inl (G.2.1 0, 2, .inl (upd (upd (fun _ => 0) (0 : Int32).toNatClampNeg te1) (1 : Int32).toNatClampNeg (-te2)))) := ⟨_, rfl⟩
      have hP : g_P A G w237 H := by rw [ew237]; exact hP
      have f238 : w237 g1 = some (.inr (2, [.ref sh1, .int te1, .int mo1, .int la1, .int (g_b ri1)])) := by rw [ew237]; exact g_up_f f229 (g_neq f211 nq218)
      have f239 : w237 g2 = some (.inr (2, [.ref sh2, .int te2, .int mo2, .int la2, .int (g_b ri2)])) := by rw [ew237]; exact g_up_f f230 (g_neq f212 nq218)
      have f240 : w237 sh1 = some (.inr (5, [.int x1, .int y1, .int hd1, .int st1, .ref fr1])) := by rw [ew237]; exact g_up_f f231 (g_neq f213 nq218)
      have f241 : w237 sh2 = some (.inr (5, [.int x2, .int y2, .int hd2, .int st2, .ref fr2])) := by rw [ew237]; exact g_up_f f232 (g_neq f214 nq218)
      have f242 : w237 h = some (.inr (3, [.ref g1, .ref g2, .null])) := by rw [ew237]; exact g_up_f f233 (g_neq f215 nq218)
      have f243 : w237 q185 = some (.inr (6, [.null, .null, .null, .int 0])) := by rw [ew237]; exact g_up_f f234 (g_neq f216 nq218)
      have f244 : w237 q193 = some (.inl (G.2.1 4, 2, .inr (.inr (.inr (.inr (va_up (va_up (fun _ => none) (0 : Int32).toNatClampNeg (some sh1)) (1 : Int32).toNatClampNeg (some sh2))))))) := by rw [ew237]; exact g_up_f f235 (g_neq f217 nq218)
      have f245 : w237 q218 = some (.inl (G.2.1 0, 2, .inl (upd (upd (fun _ => 0) (0 : Int32).toNatClampNeg te1) (1 : Int32).toNatClampNeg (-te2)))) := by rw [ew237]; exact g_up_s _ _ _
      refine g_Iv (As := [.ref q193, .ref q218]) (rest := [.ref q185, .ref h]) F hP hS (k_X5_init l A G w237 q185 q193 q218 f243) (cwI 2 hts gX2_init_X5_init rfl rfl rfl (hts _ (List.mem_cons_of_mem _ (List.mem_append_left _ (List.mem_append_left _ (List.mem_append_left _ (List.mem_append_left _ (List.mem_append_left _ (List.mem_of_getElem? (i := 9) rfl)))))))) (hts _ (List.mem_cons_of_mem _ (List.mem_append_left _ (List.mem_append_left _ (List.mem_append_left _ (List.mem_append_left _ (List.mem_append_left _ (List.mem_of_getElem? (i := 14) rfl)))))))) (hts _ (List.mem_cons_of_mem _ (List.mem_append_left _ (List.mem_append_left _ (List.mem_append_left _ (List.mem_append_left _ (List.mem_append_left _ (List.mem_of_getElem? (i := 15) rfl)))))))) rfl cd_X5_init ⟨by rw [hR]; exact Nat.le_of_ble_eq_true rfl, by rw [hR]; exact Nat.le_of_ble_eq_true rfl⟩) rfl hl.1 (Nat.le_of_ble_eq_true rfl) dX2_init_78 ⟨by rw [hR]; exact Nat.le_of_ble_eq_true rfl, by rw [hR]; exact Nat.le_of_ble_eq_true rfl⟩ rfl (fun w247 H locs h248 hP hS => ?_)
      obtain ⟨q249, nq249, ew247⟩ := h248
      have f250 : w247 g1 = some (.inr (2, [.ref sh1, .int te1, .int mo1, .int la1, .int (g_b ri1)])) := by rw [ew247]; exact g_up_f (g_up_f f238 (g_neq f238 nq249)) (g_neq f8 nq185)
      have f251 : w247 g2 = some (.inr (2, [.ref sh2, .int te2, .int mo2, .int la2, .int (g_b ri2)])) := by rw [ew247]; exact g_up_f (g_up_f f239 (g_neq f239 nq249)) (g_neq f9 nq185)
      have f252 : w247 sh1 = some (.inr (5, [.int x1, .int y1, .int hd1, .int st1, .ref fr1])) := by rw [ew247]; exact g_up_f (g_up_f f240 (g_neq f240 nq249)) (g_neq f10 nq185)
      have f253 : w247 sh2 = some (.inr (5, [.int x2, .int y2, .int hd2, .int st2, .ref fr2])) := by rw [ew247]; exact g_up_f (g_up_f f241 (g_neq f241 nq249)) (g_neq f11 nq185)
      have f254 : w247 h = some (.inr (3, [.ref g1, .ref g2, .null])) := by rw [ew247]; exact g_up_f (g_up_f f242 (g_neq f242 nq249)) (g_neq f12 nq185)
      have f255 : w247 q193 = some (.inl (G.2.1 4, 2, .inr (.inr (.inr (.inr (va_up (va_up (fun _ => none) (0 : Int32).toNatClampNeg (some sh1)) (1 : Int32).toNatClampNeg (some sh2))))))) := by rw [ew247]; exact g_up_f (g_up_f f244 (g_neq f244 nq249)) (g_ne f244 f243 rfl)
      have f256 : w247 q218 = some (.inl (G.2.1 0, 2, .inl (upd (upd (fun _ => 0) (0 : Int32).toNatClampNeg te1) (1 : Int32).toNatClampNeg (-te2)))) := by rw [ew247]; exact g_up_f (g_up_f f245 (g_neq f245 nq249)) (g_ne f245 f243 rfl)
      have f257 : w247 q249 = some (.inr (1, [.long 0, .long 1])) := by rw [ew247]; exact g_up_f (g_up_s _ _ _) (Ne.symm (g_neq f243 nq249))
      have f258 : w247 q185 = some (.inr (6, [.ref q193, .ref q218, .ref q249, .int 0])) := by rw [ew247]; exact g_up_s _ _ _
      refine g_putF F hP hS (C := RX2) (T := TX2) (N := 3) (v := .ref q185) (ty := (.object "GearTrains$Tie")) iX2 tyX2 tyX2_ok nmX2 f254 rfl 2 (by decide) (List.mem_cons_of_mem _ (List.mem_append_left _ (List.mem_append_left _ (List.mem_append_left _ (List.mem_append_left _ (List.mem_append_left _ (List.mem_of_getElem? (i := 13) rfl))))))) (fun _ h9 => h9) rfl hnm0 rfl (by decide +kernel) rfl rfl (by show 2 < 3; decide) dX2_init_81 (fun H locs hP hS => ?_)
      obtain ⟨w259, ew259⟩ : ∃ z, z = g_up w247 h (.inr (3, [.ref g1, .ref g2, .ref q185])) := ⟨_, rfl⟩
      have hP : g_P A G w259 H := by rw [ew259]; exact hP
      have f260 : w259 g1 = some (.inr (2, [.ref sh1, .int te1, .int mo1, .int la1, .int (g_b ri1)])) := by rw [ew259]; exact g_up_f f250 (g_ne f250 f254 rfl)
      have f261 : w259 g2 = some (.inr (2, [.ref sh2, .int te2, .int mo2, .int la2, .int (g_b ri2)])) := by rw [ew259]; exact g_up_f f251 (g_ne f251 f254 rfl)
      have f262 : w259 sh1 = some (.inr (5, [.int x1, .int y1, .int hd1, .int st1, .ref fr1])) := by rw [ew259]; exact g_up_f f252 (g_ne f252 f254 rfl)
      have f263 : w259 sh2 = some (.inr (5, [.int x2, .int y2, .int hd2, .int st2, .ref fr2])) := by rw [ew259]; exact g_up_f f253 (g_ne f253 f254 rfl)
      have f264 : w259 q193 = some (.inl (G.2.1 4, 2, .inr (.inr (.inr (.inr (va_up (va_up (fun _ => none) (0 : Int32).toNatClampNeg (some sh1)) (1 : Int32).toNatClampNeg (some sh2))))))) := by rw [ew259]; exact g_up_f f255 (Ne.symm (g_neq f191 nq193))
      have f265 : w259 q218 = some (.inl (G.2.1 0, 2, .inl (upd (upd (fun _ => 0) (0 : Int32).toNatClampNeg te1) (1 : Int32).toNatClampNeg (-te2)))) := by rw [ew259]; exact g_up_f f256 (Ne.symm (g_neq f215 nq218))
      have f266 : w259 q249 = some (.inr (1, [.long 0, .long 1])) := by rw [ew259]; exact g_up_f f257 (g_ne f257 f254 rfl)
      have f267 : w259 q185 = some (.inr (6, [.ref q193, .ref q218, .ref q249, .int 0])) := by rw [ew259]; exact g_up_f f258 (Ne.symm (g_neq f12 nq185))
      have f268 : w259 h = some (.inr (3, [.ref g1, .ref g2, .ref q185])) := by rw [ew259]; exact g_up_s _ _ _
      rw [hQ]
      refine g_vret F hP hS hlocks hr dX2_init_84 (by first | exact Nat.le_of_ble_eq_true rfl | omega) (by first | exact Nat.le_of_ble_eq_true rfl | omega) ?_
      have nnq185 := nq185
      rw [ew7] at nnq185
      obtain ⟨ddq185_0, nnq185⟩ := g_up_none nnq185
      rw [ew1] at nnq185
      obtain ⟨ddq185_1, nnq185⟩ := g_up_none nnq185
      have nnq193 := nq193
      rw [ew186] at nnq193
      obtain ⟨ddq193_0, nnq193⟩ := g_up_none nnq193
      rw [ew7] at nnq193
      obtain ⟨ddq193_1, nnq193⟩ := g_up_none nnq193
      rw [ew1] at nnq193
      obtain ⟨ddq193_2, nnq193⟩ := g_up_none nnq193
      have nnq218 := nq218
      rw [ew210] at nnq218
      obtain ⟨ddq218_0, nnq218⟩ := g_up_none nnq218
      rw [ew202] at nnq218
      obtain ⟨ddq218_1, nnq218⟩ := g_up_none nnq218
      rw [ew194] at nnq218
      obtain ⟨ddq218_2, nnq218⟩ := g_up_none nnq218
      rw [ew186] at nnq218
      obtain ⟨ddq218_3, nnq218⟩ := g_up_none nnq218
      rw [ew7] at nnq218
      obtain ⟨ddq218_4, nnq218⟩ := g_up_none nnq218
      rw [ew1] at nnq218
      obtain ⟨ddq218_5, nnq218⟩ := g_up_none nnq218
      have nnq249 := nq249
      rw [ew237] at nnq249
      obtain ⟨ddq249_0, nnq249⟩ := g_up_none nnq249
      rw [ew228] at nnq249
      obtain ⟨ddq249_1, nnq249⟩ := g_up_none nnq249
      rw [ew219] at nnq249
      obtain ⟨ddq249_2, nnq249⟩ := g_up_none nnq249
      rw [ew210] at nnq249
      obtain ⟨ddq249_3, nnq249⟩ := g_up_none nnq249
      rw [ew202] at nnq249
      obtain ⟨ddq249_4, nnq249⟩ := g_up_none nnq249
      rw [ew194] at nnq249
      obtain ⟨ddq249_5, nnq249⟩ := g_up_none nnq249
      rw [ew186] at nnq249
      obtain ⟨ddq249_6, nnq249⟩ := g_up_none nnq249
      rw [ew7] at nnq249
      obtain ⟨ddq249_7, nnq249⟩ := g_up_none nnq249
      rw [ew1] at nnq249
      obtain ⟨ddq249_8, nnq249⟩ := g_up_none nnq249
      refine ⟨q185, q193, q218, q249, (va_up (va_up (fun _ => none) (0 : Int32).toNatClampNeg (some sh1)) (1 : Int32).toNatClampNeg (some sh2)), (upd (upd (fun _ => 0) (0 : Int32).toNatClampNeg te1) (1 : Int32).toNatClampNeg (-te2)), ⟨nnq185, nnq193, nnq218, nnq249⟩, ⟨Ne.symm ddq193_0, Ne.symm ddq218_3, Ne.symm ddq249_6, Ne.symm ddq218_0, Ne.symm ddq249_3, Ne.symm ddq249_0⟩, ?_, ?_, ?_⟩
      · exact ⟨by simp [va_up, show (0 : Int32).toNatClampNeg = 0 from by decide, show (1 : Int32).toNatClampNeg = 1 from by decide, show (2 : Int32).toNatClampNeg = 2 from by decide], by simp [va_up, show (0 : Int32).toNatClampNeg = 0 from by decide, show (1 : Int32).toNatClampNeg = 1 from by decide, show (2 : Int32).toNatClampNeg = 2 from by decide]⟩
      · exact ⟨by simp [upd, show (0 : Int32).toNatClampNeg = 0 from by decide, show (1 : Int32).toNatClampNeg = 1 from by decide, show (2 : Int32).toNatClampNeg = 2 from by decide, yc13, yc99], by simp [upd, show (0 : Int32).toNatClampNeg = 0 from by decide, show (1 : Int32).toNatClampNeg = 1 from by decide, show (2 : Int32).toNatClampNeg = 2 from by decide, yc13, yc99]⟩
      · funext z
        by_cases z_h : z = h
        · rw [z_h, f268]; exact (g_up_s _ _ _).symm
        rw [g_up_n _ z_h]
        by_cases z_q249 : z = q249
        · rw [z_q249, f266]; exact (g_up_s _ _ _).symm
        rw [g_up_n _ z_q249]
        by_cases z_q218 : z = q218
        · rw [z_q218, f265]; exact (g_up_s _ _ _).symm
        rw [g_up_n _ z_q218]
        by_cases z_q193 : z = q193
        · rw [z_q193, f264]; exact (g_up_s _ _ _).symm
        rw [g_up_n _ z_q193]
        by_cases z_q185 : z = q185
        · rw [z_q185, f267]; exact (g_up_s _ _ _).symm
        rw [g_up_n _ z_q185]
        rw [ew259, g_up_n _ z_h]
        rw [ew247, g_up_n _ z_q185, g_up_n _ z_q249]
        rw [ew237, g_up_n _ z_q218]
        rw [ew228, g_up_n _ z_q218]
        rw [ew219, g_up_n _ z_q218]
        rw [ew210, g_up_n _ z_q193]
        rw [ew202, g_up_n _ z_q193]
        rw [ew194, g_up_n _ z_q193]
        rw [ew186, g_up_n _ z_q185]
        rw [ew7, g_up_n _ z_h]
        rw [ew1, g_up_n _ z_h]
