theorem cd_X7_isGear : yX7_isGear.cls = RX7 ∧ yX7_isGear.cls ≠ "java/lang/invoke/MethodHandle" ∧ yX7_isGear.cls ≠ "java/lang/invoke/VarHandle" ∧ (parseMethodDescriptor yX7_isGear.desc).map (fun d => d.parameters.length) = some 1 := by decide +kernel
theorem cd_X7_canMesh : yX7_canMesh.cls = RX7 ∧ yX7_canMesh.cls ≠ "java/lang/invoke/MethodHandle" ∧ yX7_canMesh.cls ≠ "java/lang/invoke/VarHandle" ∧ (parseMethodDescriptor yX7_canMesh.desc).map (fun d => d.parameters.length) = some 2 := by decide +kernel
set_option maxHeartbeats 4000000 in
set_option maxRecDepth 100000 in
theorem k_X7_mesh (l : Launch) (A : Nat → Prop) (G : g_C) (w : g_W) (md : Nat → Nat) (S : Sg) (th : Int32) (tp bt : Int64) (Fm : Nat → Nat → Int32) (L : Nat → Nat → Int64) (an bn : Int32) (Hm : modW G w md S th tp bt Fm L) (Hj : modI md) (Hf : modF S Fm) (Hi : invS S) : mI l yX7_mesh wsX7_mesh ({ frames := 2, cells := 0, slots := 0, locals := 46 } : Room) [.ref (md 0), .int an, .int bn] A G w (fun r w' => mRes G md w w' S (nxMesh S an bn) (cdMesh S an bn) (r = vlMesh S)) 0 0 := by
  refine g_ofI (cc := cX7_mesh) (maxL := 3) (ret := (some .int)) (own := RX7) (by decide) rfl rfl (Nat.le_of_ble_eq_true rfl) ?_
  intro p e R s m args below meth c Q ls hR F hP hS hlocks hr hnm0 hQ hl
  obtain ⟨⟨hx, hb, hml, hown, hts⟩, hK, hZ, hA⟩ := id F
  generalize hH0 : s.heap = H at hP ⊢
  have hS : va_S A s.heap H [] := by rw [← hH0]; exact va_S.rf
  generalize ([] : List Loc) = locs at hS ⊢
  have hl : lv_has ls 3 [(0, .ref (md 0)), (1, .int an), (2, .int bn)] := hl
  have iX7 : ∀ w ∈ u_ws RX7 TX7 20, w ∈ wsX7_mesh := fun w h => List.mem_cons_of_mem _ (List.mem_append_right _ (h))
  obtain ⟨hx0, hy1, hy2, hy3, hy4, hy5, hy6, hy7, hy8, hy9, hy10, hy11⟩ := id Hm
  have hi := Hi.1
  refine lv_aload_n hx hb dX7_mesh_0 rfl (lv_at hl 0 rfl) ?_
  refine lv_iconst (v := 0) hx hb dX7_mesh_1 (by decide) ?_
  refine g_put F hP hS (C := RX7) (T := TX7) (N := 20) (v := .int 0) (ty := .int) iX7 tyX7 tyX7_ok nmX7 hx0 rfl 0 (by decide) (List.mem_cons_of_mem _ (List.mem_append_left _ (List.mem_append_left _ (List.mem_of_getElem? (i := 0) rfl)))) (fun _ h9 => h9) rfl (by decide +kernel) rfl rfl (by show 0 < 20; decide) dX7_mesh_2 (fun H locs hP hS => ?_)
  obtain ⟨w1, ew1⟩ : ∃ z, z = g_up w (md 0) (.inr (8, [.int 0, .int (iL (S 0 0)), .ref (md 1), .ref (md 2), .ref (md 3), .int (iL (S 0 4)), .int (iL (S 0 5)), .int (iL (S 0 1)), .ref (md 4), .ref (md 5), .int (iL (S 0 2)), .ref (md 6), .ref (md 7), .int (iL (S 0 3)), .ref (md 8), .ref (md 9), .ref (md 10), .ref (md 11), .long tp, .long bt])) := ⟨_, rfl⟩
  have hP : g_P A G w1 H := by rw [ew1]; exact hP
  have f2 : w1 (md 1) = some (.inl (G.2.1 0, 10, .inl (Fm 1))) := by rw [ew1]; exact g_up_f hy1 ((fun q => absurd (Hj 1 0 (by decide) (by decide) q) (by decide)))
  have f3 : w1 (md 2) = some (.inl (G.2.1 0, 10, .inl (Fm 2))) := by rw [ew1]; exact g_up_f hy2 ((fun q => absurd (Hj 2 0 (by decide) (by decide) q) (by decide)))
  have f4 : w1 (md 3) = some (.inl (G.2.1 2, 10, .inl (Fm 3))) := by rw [ew1]; exact g_up_f hy3 ((fun q => absurd (Hj 3 0 (by decide) (by decide) q) (by decide)))
  have f5 : w1 (md 4) = some (.inl (G.2.1 0, 64, .inl (Fm 4))) := by rw [ew1]; exact g_up_f hy4 ((fun q => absurd (Hj 4 0 (by decide) (by decide) q) (by decide)))
  have f6 : w1 (md 5) = some (.inl (G.2.1 2, 16, .inl (Fm 5))) := by rw [ew1]; exact g_up_f hy5 ((fun q => absurd (Hj 5 0 (by decide) (by decide) q) (by decide)))
  have f7 : w1 (md 6) = some (.inl (G.2.1 0, 16, .inl (Fm 6))) := by rw [ew1]; exact g_up_f hy6 ((fun q => absurd (Hj 6 0 (by decide) (by decide) q) (by decide)))
  have f8 : w1 (md 7) = some (.inl (G.2.1 0, 16, .inl (Fm 7))) := by rw [ew1]; exact g_up_f hy7 ((fun q => absurd (Hj 7 0 (by decide) (by decide) q) (by decide)))
  have f9 : w1 (md 8) = some (.inl (G.2.1 0, 20, .inl (Fm 8))) := by rw [ew1]; exact g_up_f hy8 ((fun q => absurd (Hj 8 0 (by decide) (by decide) q) (by decide)))
  have f10 : w1 (md 9) = some (.inl (G.2.1 1, 10, .inr (.inl (L 0)))) := by rw [ew1]; exact g_up_f hy9 ((fun q => absurd (Hj 9 0 (by decide) (by decide) q) (by decide)))
  have f11 : w1 (md 10) = some (.inl (G.2.1 1, 10, .inr (.inl (L 1)))) := by rw [ew1]; exact g_up_f hy10 ((fun q => absurd (Hj 10 0 (by decide) (by decide) q) (by decide)))
  have f12 : w1 (md 11) = some (.inl (G.2.1 0, 10, .inl (Fm 11))) := by rw [ew1]; exact g_up_f hy11 ((fun q => absurd (Hj 11 0 (by decide) (by decide) q) (by decide)))
  have f13 : w1 (md 0) = some (.inr (8, [.int 0, .int (iL (S 0 0)), .ref (md 1), .ref (md 2), .ref (md 3), .int (iL (S 0 4)), .int (iL (S 0 5)), .int (iL (S 0 1)), .ref (md 4), .ref (md 5), .int (iL (S 0 2)), .ref (md 6), .ref (md 7), .int (iL (S 0 3)), .ref (md 8), .ref (md 9), .ref (md 10), .ref (md 11), .long tp, .long bt])) := by rw [ew1]; exact g_up_s _ _ _
  refine lv_aload_n hx hb dX7_mesh_5 rfl (lv_at hl 0 rfl) ?_
  refine lv_iload_n hx hb dX7_mesh_6 rfl (lv_at hl 1 rfl) ?_
  refine g_Vi (As := [.int an]) (rest := []) F hP hS (k_X7_isGear l A G w1 md S _ _ _ Fm L an f13 Hf Hi) (cwV 1 hts gX7_mesh_X7_isGear rfl rfl rfl cd_X7_isGear ⟨by rw [hR]; exact Nat.le_of_ble_eq_true rfl, by rw [hR]; exact Nat.le_of_ble_eq_true rfl⟩) f13 rfl rfl rfl hl.1 (Nat.le_of_ble_eq_true rfl) dX7_mesh_7 ⟨by rw [hR]; exact Nat.le_of_ble_eq_true rfl, by rw [hR]; exact Nat.le_of_ble_eq_true rfl⟩ rfl (fun r14 w15 H locs h16 hP hS => ?_)
  have hr14 := h16.1
  rw [h16.2] at hP
  rw [hr14]
  refine lv_if_eq (tgt := 21) hx hb dX7_mesh_10 (by decide) (fun c17 => ?_) (fun c17 => ?_)
  · have yc17 := of_decide_eq_false (g_b0.mp c17)
    refine lv_aload_n hx hb dX7_mesh_21 rfl (lv_at hl 0 rfl) ?_
    refine lv_iconst (v := 1) hx hb dX7_mesh_22 (by decide) ?_
    refine g_Vi (As := [.int 1]) (rest := []) F hP hS (k_X7_fail l A G w1 md S _ _ _ Fm L 1 f13) (cwV 1 hts gX7_mesh_X7_fail rfl rfl rfl cd_X7_fail ⟨by rw [hR]; exact Nat.le_of_ble_eq_true rfl, by rw [hR]; exact Nat.le_of_ble_eq_true rfl⟩) f13 rfl rfl rfl hl.1 (Nat.le_of_ble_eq_true rfl) dX7_mesh_23 ⟨by rw [hR]; exact Nat.le_of_ble_eq_true rfl, by rw [hR]; exact Nat.le_of_ble_eq_true rfl⟩ rfl (fun r18 w19 H locs h20 hP hS => ?_)
    obtain ⟨er, eww19⟩ := h20
    rw [er]
    have f21 : w19 (md 1) = some (.inl (G.2.1 0, 10, .inl (Fm 1))) := by rw [eww19]; exact g_up_f f2 ((fun q => absurd (Hj 1 0 (by decide) (by decide) q) (by decide)))
    have f22 : w19 (md 2) = some (.inl (G.2.1 0, 10, .inl (Fm 2))) := by rw [eww19]; exact g_up_f f3 ((fun q => absurd (Hj 2 0 (by decide) (by decide) q) (by decide)))
    have f23 : w19 (md 3) = some (.inl (G.2.1 2, 10, .inl (Fm 3))) := by rw [eww19]; exact g_up_f f4 ((fun q => absurd (Hj 3 0 (by decide) (by decide) q) (by decide)))
    have f24 : w19 (md 4) = some (.inl (G.2.1 0, 64, .inl (Fm 4))) := by rw [eww19]; exact g_up_f f5 ((fun q => absurd (Hj 4 0 (by decide) (by decide) q) (by decide)))
    have f25 : w19 (md 5) = some (.inl (G.2.1 2, 16, .inl (Fm 5))) := by rw [eww19]; exact g_up_f f6 ((fun q => absurd (Hj 5 0 (by decide) (by decide) q) (by decide)))
    have f26 : w19 (md 6) = some (.inl (G.2.1 0, 16, .inl (Fm 6))) := by rw [eww19]; exact g_up_f f7 ((fun q => absurd (Hj 6 0 (by decide) (by decide) q) (by decide)))
    have f27 : w19 (md 7) = some (.inl (G.2.1 0, 16, .inl (Fm 7))) := by rw [eww19]; exact g_up_f f8 ((fun q => absurd (Hj 7 0 (by decide) (by decide) q) (by decide)))
    have f28 : w19 (md 8) = some (.inl (G.2.1 0, 20, .inl (Fm 8))) := by rw [eww19]; exact g_up_f f9 ((fun q => absurd (Hj 8 0 (by decide) (by decide) q) (by decide)))
    have f29 : w19 (md 9) = some (.inl (G.2.1 1, 10, .inr (.inl (L 0)))) := by rw [eww19]; exact g_up_f f10 ((fun q => absurd (Hj 9 0 (by decide) (by decide) q) (by decide)))
    have f30 : w19 (md 10) = some (.inl (G.2.1 1, 10, .inr (.inl (L 1)))) := by rw [eww19]; exact g_up_f f11 ((fun q => absurd (Hj 10 0 (by decide) (by decide) q) (by decide)))
    have f31 : w19 (md 11) = some (.inl (G.2.1 0, 10, .inl (Fm 11))) := by rw [eww19]; exact g_up_f f12 ((fun q => absurd (Hj 11 0 (by decide) (by decide) q) (by decide)))
    have f32 : w19 (md 0) = some (.inr (8, [.int 1, .int (iL (S 0 0)), .ref (md 1), .ref (md 2), .ref (md 3), .int (iL (S 0 4)), .int (iL (S 0 5)), .int (iL (S 0 1)), .ref (md 4), .ref (md 5), .int (iL (S 0 2)), .ref (md 6), .ref (md 7), .int (iL (S 0 3)), .ref (md 8), .ref (md 9), .ref (md 10), .ref (md 11), .long tp, .long bt])) := by rw [eww19]; exact g_up_s _ _ _
    rw [hQ]
    refine g_iret F hP hS hlocks hr dX7_mesh_26 (by first | exact Nat.le_of_ble_eq_true rfl | omega) (by first | exact Nat.le_of_ble_eq_true rfl | omega) ?_
    exact mRes_no (c := 1) (if_neg (fun q => yc17 q.1)) (by decide) ⟨mFr_tr (mFr_tr (mFr_rf _ _) (mFr_se (i := 0) (by decide) ew1)) (mFr_se (i := 0) (by decide) eww19), _, _, Fm, L, ⟨f32, f21, f22, f23, f24, f25, f26, f27, f28, f29, f30, f31⟩, Hf⟩
  · have yc17 := of_decide_eq_true (g_b1.mp c17)
    refine lv_aload_n hx hb dX7_mesh_13 rfl (lv_at hl 0 rfl) ?_
    refine lv_iload_n hx hb dX7_mesh_14 rfl (lv_at hl 2 rfl) ?_
    refine g_Vi (As := [.int bn]) (rest := []) F hP hS (k_X7_isGear l A G w1 md S _ _ _ Fm L bn f13 Hf Hi) (cwV 1 hts gX7_mesh_X7_isGear rfl rfl rfl cd_X7_isGear ⟨by rw [hR]; exact Nat.le_of_ble_eq_true rfl, by rw [hR]; exact Nat.le_of_ble_eq_true rfl⟩) f13 rfl rfl rfl hl.1 (Nat.le_of_ble_eq_true rfl) dX7_mesh_15 ⟨by rw [hR]; exact Nat.le_of_ble_eq_true rfl, by rw [hR]; exact Nat.le_of_ble_eq_true rfl⟩ rfl (fun r33 w34 H locs h35 hP hS => ?_)
    have hr33 := h35.1
    rw [h35.2] at hP
    rw [hr33]
    refine lv_if_ne (tgt := 27) hx hb dX7_mesh_18 (by decide) (fun c36 => ?_) (fun c36 => ?_)
    · have yc36 := of_decide_eq_true (g_b1.mp c36)
      have sa9 := yc17
      have sb9 := yc36
      obtain ⟨ga, hga, ega⟩ := ix_of sa9.1 sa9.2
      obtain ⟨gb, hgb, egb⟩ := ix_of sb9.1 sb9.2
      subst ega
      subst egb
      have nka : kN (nI ga) = ga := kN_n (by omega)
      have nkb : kN (nI gb) = gb := kN_n (by omega)
      refine lv_aload_n hx hb dX7_mesh_27 rfl (lv_at hl 0 rfl) ?_
      refine lv_iload_n hx hb dX7_mesh_28 rfl (lv_at hl 1 rfl) ?_
      refine lv_iload_n hx hb dX7_mesh_29 rfl (lv_at hl 2 rfl) ?_
      refine g_Vi (As := [.int (nI ga), .int (nI gb)]) (rest := []) F hP hS (k_X7_canMesh l A G w1 md S _ _ _ Fm L ga gb f13 f5 f6 f7 f8 Hf Hi hga hgb) (cwV 2 hts gX7_mesh_X7_canMesh rfl rfl rfl cd_X7_canMesh ⟨by rw [hR]; exact Nat.le_of_ble_eq_true rfl, by rw [hR]; exact Nat.le_of_ble_eq_true rfl⟩) f13 rfl rfl rfl hl.1 (Nat.le_of_ble_eq_true rfl) dX7_mesh_30 ⟨by rw [hR]; exact Nat.le_of_ble_eq_true rfl, by rw [hR]; exact Nat.le_of_ble_eq_true rfl⟩ rfl (fun r37 w38 H locs h39 hP hS => ?_)
      obtain ⟨b0, eb0, hb0⟩ := h39.1
      rw [h39.2] at hP
      rw [eb0]
      refine lv_if_ne (tgt := 42) hx hb dX7_mesh_33 (by decide) (fun c40 => ?_) (fun c40 => ?_)
      · have yc40 : canM S ga gb := hb0.mp (g_b1.mp c40)
        refine lv_aload_n hx hb dX7_mesh_42 rfl (lv_at hl 0 rfl) ?_
        refine g_get F hP (C := RX7) (T := TX7) (N := 20) iX7 f13 rfl 10 (by decide) (List.mem_cons_of_mem _ (List.mem_append_left _ (List.mem_append_left _ (List.mem_of_getElem? (i := 1) rfl)))) (fun _ h9 => h9) rfl dX7_mesh_43 ?_
        refine lv_bipush (v := 16) hx hb dX7_mesh_46 (by decide) ?_
        refine lv_icmp_ne (tgt := 57) hx hb dX7_mesh_48 (by decide) (fun c41 => ?_) (fun c41 => ?_)
        · rw [show (16 : Int32) = iL 16 from rfl, iL_eq (by omega) (by omega) (by omega) (by omega)] at c41
          refine lv_aload_n hx hb dX7_mesh_57 rfl (lv_at hl 0 rfl) ?_
          refine g_get F hP (C := RX7) (T := TX7) (N := 20) iX7 f13 rfl 11 (by decide) (List.mem_cons_of_mem _ (List.mem_append_left _ (List.mem_append_left _ (List.mem_of_getElem? (i := 2) rfl)))) (fun _ h9 => h9) rfl dX7_mesh_58 ?_
          refine lv_aload_n hx hb dX7_mesh_61 rfl (lv_at hl 0 rfl) ?_
          refine g_get F hP (C := RX7) (T := TX7) (N := 20) iX7 f13 rfl 10 (by decide) (List.mem_cons_of_mem _ (List.mem_append_left _ (List.mem_append_left _ (List.mem_of_getElem? (i := 1) rfl)))) (fun _ h9 => h9) rfl dX7_mesh_62 ?_
          refine lv_iload_n hx hb dX7_mesh_65 rfl (lv_at hl 1 rfl) ?_
          refine g_iast F hP hS f7 (vp_iL (by omega) (by omega) (by decide)) dX7_mesh_66 (fun H locs hP hS => ?_)
          obtain ⟨w42, ew42⟩ : ∃ z, z = g_up w1 (md 6) (.inl (G.2.1 0, 16, .inl (upd (Fm 6) (iL (S 0 2) : Int32).toNatClampNeg (nI ga)))) := ⟨_, rfl⟩
          have hP : g_P A G w42 H := by rw [ew42]; exact hP
          have f43 : w42 (md 1) = some (.inl (G.2.1 0, 10, .inl (Fm 1))) := by rw [ew42]; exact g_up_f f2 ((fun q => absurd (Hj 1 6 (by decide) (by decide) q) (by decide)))
          have f44 : w42 (md 2) = some (.inl (G.2.1 0, 10, .inl (Fm 2))) := by rw [ew42]; exact g_up_f f3 ((fun q => absurd (Hj 2 6 (by decide) (by decide) q) (by decide)))
          have f45 : w42 (md 3) = some (.inl (G.2.1 2, 10, .inl (Fm 3))) := by rw [ew42]; exact g_up_f f4 ((fun q => absurd (Hj 3 6 (by decide) (by decide) q) (by decide)))
          have f46 : w42 (md 4) = some (.inl (G.2.1 0, 64, .inl (Fm 4))) := by rw [ew42]; exact g_up_f f5 ((fun q => absurd (Hj 4 6 (by decide) (by decide) q) (by decide)))
          have f47 : w42 (md 5) = some (.inl (G.2.1 2, 16, .inl (Fm 5))) := by rw [ew42]; exact g_up_f f6 ((fun q => absurd (Hj 5 6 (by decide) (by decide) q) (by decide)))
          have f48 : w42 (md 7) = some (.inl (G.2.1 0, 16, .inl (Fm 7))) := by rw [ew42]; exact g_up_f f8 ((fun q => absurd (Hj 7 6 (by decide) (by decide) q) (by decide)))
          have f49 : w42 (md 8) = some (.inl (G.2.1 0, 20, .inl (Fm 8))) := by rw [ew42]; exact g_up_f f9 ((fun q => absurd (Hj 8 6 (by decide) (by decide) q) (by decide)))
          have f50 : w42 (md 9) = some (.inl (G.2.1 1, 10, .inr (.inl (L 0)))) := by rw [ew42]; exact g_up_f f10 ((fun q => absurd (Hj 9 6 (by decide) (by decide) q) (by decide)))
          have f51 : w42 (md 10) = some (.inl (G.2.1 1, 10, .inr (.inl (L 1)))) := by rw [ew42]; exact g_up_f f11 ((fun q => absurd (Hj 10 6 (by decide) (by decide) q) (by decide)))
          have f52 : w42 (md 11) = some (.inl (G.2.1 0, 10, .inl (Fm 11))) := by rw [ew42]; exact g_up_f f12 ((fun q => absurd (Hj 11 6 (by decide) (by decide) q) (by decide)))
          have f53 : w42 (md 0) = some (.inr (8, [.int 0, .int (iL (S 0 0)), .ref (md 1), .ref (md 2), .ref (md 3), .int (iL (S 0 4)), .int (iL (S 0 5)), .int (iL (S 0 1)), .ref (md 4), .ref (md 5), .int (iL (S 0 2)), .ref (md 6), .ref (md 7), .int (iL (S 0 3)), .ref (md 8), .ref (md 9), .ref (md 10), .ref (md 11), .long tp, .long bt])) := by rw [ew42]; exact g_up_f f13 ((fun q => absurd (Hj 0 6 (by decide) (by decide) q) (by decide)))
          have f54 : w42 (md 6) = some (.inl (G.2.1 0, 16, .inl (upd (Fm 6) (iL (S 0 2) : Int32).toNatClampNeg (nI ga)))) := by rw [ew42]; exact g_up_s _ _ _
          refine lv_aload_n hx hb dX7_mesh_67 rfl (lv_at hl 0 rfl) ?_
          refine g_get F hP (C := RX7) (T := TX7) (N := 20) iX7 f53 rfl 12 (by decide) (List.mem_cons_of_mem _ (List.mem_append_left _ (List.mem_append_left _ (List.mem_of_getElem? (i := 3) rfl)))) (fun _ h9 => h9) rfl dX7_mesh_68 ?_
          refine lv_aload_n hx hb dX7_mesh_71 rfl (lv_at hl 0 rfl) ?_
          refine g_get F hP (C := RX7) (T := TX7) (N := 20) iX7 f53 rfl 10 (by decide) (List.mem_cons_of_mem _ (List.mem_append_left _ (List.mem_append_left _ (List.mem_of_getElem? (i := 1) rfl)))) (fun _ h9 => h9) rfl dX7_mesh_72 ?_
          refine lv_iload_n hx hb dX7_mesh_75 rfl (lv_at hl 2 rfl) ?_
          refine g_iast F hP hS f48 (vp_iL (by omega) (by omega) (by decide)) dX7_mesh_76 (fun H locs hP hS => ?_)
          obtain ⟨w55, ew55⟩ : ∃ z, z = g_up w42 (md 7) (.inl (G.2.1 0, 16, .inl (upd (Fm 7) (iL (S 0 2) : Int32).toNatClampNeg (nI gb)))) := ⟨_, rfl⟩
          have hP : g_P A G w55 H := by rw [ew55]; exact hP
          have f56 : w55 (md 1) = some (.inl (G.2.1 0, 10, .inl (Fm 1))) := by rw [ew55]; exact g_up_f f43 ((fun q => absurd (Hj 1 7 (by decide) (by decide) q) (by decide)))
          have f57 : w55 (md 2) = some (.inl (G.2.1 0, 10, .inl (Fm 2))) := by rw [ew55]; exact g_up_f f44 ((fun q => absurd (Hj 2 7 (by decide) (by decide) q) (by decide)))
          have f58 : w55 (md 3) = some (.inl (G.2.1 2, 10, .inl (Fm 3))) := by rw [ew55]; exact g_up_f f45 ((fun q => absurd (Hj 3 7 (by decide) (by decide) q) (by decide)))
          have f59 : w55 (md 4) = some (.inl (G.2.1 0, 64, .inl (Fm 4))) := by rw [ew55]; exact g_up_f f46 ((fun q => absurd (Hj 4 7 (by decide) (by decide) q) (by decide)))
          have f60 : w55 (md 5) = some (.inl (G.2.1 2, 16, .inl (Fm 5))) := by rw [ew55]; exact g_up_f f47 ((fun q => absurd (Hj 5 7 (by decide) (by decide) q) (by decide)))
          have f61 : w55 (md 8) = some (.inl (G.2.1 0, 20, .inl (Fm 8))) := by rw [ew55]; exact g_up_f f49 ((fun q => absurd (Hj 8 7 (by decide) (by decide) q) (by decide)))
          have f62 : w55 (md 9) = some (.inl (G.2.1 1, 10, .inr (.inl (L 0)))) := by rw [ew55]; exact g_up_f f50 ((fun q => absurd (Hj 9 7 (by decide) (by decide) q) (by decide)))
          have f63 : w55 (md 10) = some (.inl (G.2.1 1, 10, .inr (.inl (L 1)))) := by rw [ew55]; exact g_up_f f51 ((fun q => absurd (Hj 10 7 (by decide) (by decide) q) (by decide)))
          have f64 : w55 (md 11) = some (.inl (G.2.1 0, 10, .inl (Fm 11))) := by rw [ew55]; exact g_up_f f52 ((fun q => absurd (Hj 11 7 (by decide) (by decide) q) (by decide)))
          have f65 : w55 (md 0) = some (.inr (8, [.int 0, .int (iL (S 0 0)), .ref (md 1), .ref (md 2), .ref (md 3), .int (iL (S 0 4)), .int (iL (S 0 5)), .int (iL (S 0 1)), .ref (md 4), .ref (md 5), .int (iL (S 0 2)), .ref (md 6), .ref (md 7), .int (iL (S 0 3)), .ref (md 8), .ref (md 9), .ref (md 10), .ref (md 11), .long tp, .long bt])) := by rw [ew55]; exact g_up_f f53 ((fun q => absurd (Hj 0 7 (by decide) (by decide) q) (by decide)))
          have f66 : w55 (md 6) = some (.inl (G.2.1 0, 16, .inl (upd (Fm 6) (iL (S 0 2) : Int32).toNatClampNeg (nI ga)))) := by rw [ew55]; exact g_up_f f54 ((fun q => absurd (Hj 6 7 (by decide) (by decide) q) (by decide)))
          have f67 : w55 (md 7) = some (.inl (G.2.1 0, 16, .inl (upd (Fm 7) (iL (S 0 2) : Int32).toNatClampNeg (nI gb)))) := by rw [ew55]; exact g_up_s _ _ _
          refine lv_aload_n hx hb dX7_mesh_77 rfl (lv_at hl 0 rfl) ?_
          refine lv_dup hx hb dX7_mesh_78 rfl ?_
          refine g_get F hP (C := RX7) (T := TX7) (N := 20) iX7 f65 rfl 10 (by decide) (List.mem_cons_of_mem _ (List.mem_append_left _ (List.mem_append_left _ (List.mem_of_getElem? (i := 1) rfl)))) (fun _ h9 => h9) rfl dX7_mesh_79 ?_
          refine lv_iconst (v := 1) hx hb dX7_mesh_82 (by decide) ?_
          refine lv_iadd hx hb dX7_mesh_83 ?_
          refine lv_topi (fun v68 ev68 => ?_)
          obtain rfl : v68 = iL (S 0 2 + 1) := by
            rw [ev68]
            exact iL_add _ 1
          refine g_put F hP hS (C := RX7) (T := TX7) (N := 20) (v := .int (iL (S 0 2 + 1))) (ty := .int) iX7 tyX7 tyX7_ok nmX7 f65 rfl 10 (by decide) (List.mem_cons_of_mem _ (List.mem_append_left _ (List.mem_append_left _ (List.mem_of_getElem? (i := 1) rfl)))) (fun _ h9 => h9) rfl (by decide +kernel) rfl rfl (by show 10 < 20; decide) dX7_mesh_84 (fun H locs hP hS => ?_)
          obtain ⟨w69, ew69⟩ : ∃ z, z = g_up w55 (md 0) (.inr (8, [.int 0, .int (iL (S 0 0)), .ref (md 1), .ref (md 2), .ref (md 3), .int (iL (S 0 4)), .int (iL (S 0 5)), .int (iL (S 0 1)), .ref (md 4), .ref (md 5), .int (iL (S 0 2 + 1)), .ref (md 6), .ref (md 7), .int (iL (S 0 3)), .ref (md 8), .ref (md 9), .ref (md 10), .ref (md 11), .long tp, .long bt])) := ⟨_, rfl⟩
          have hP : g_P A G w69 H := by rw [ew69]; exact hP
          have f70 : w69 (md 1) = some (.inl (G.2.1 0, 10, .inl (Fm 1))) := by rw [ew69]; exact g_up_f f56 ((fun q => absurd (Hj 1 0 (by decide) (by decide) q) (by decide)))
          have f71 : w69 (md 2) = some (.inl (G.2.1 0, 10, .inl (Fm 2))) := by rw [ew69]; exact g_up_f f57 ((fun q => absurd (Hj 2 0 (by decide) (by decide) q) (by decide)))
          have f72 : w69 (md 3) = some (.inl (G.2.1 2, 10, .inl (Fm 3))) := by rw [ew69]; exact g_up_f f58 ((fun q => absurd (Hj 3 0 (by decide) (by decide) q) (by decide)))
          have f73 : w69 (md 4) = some (.inl (G.2.1 0, 64, .inl (Fm 4))) := by rw [ew69]; exact g_up_f f59 ((fun q => absurd (Hj 4 0 (by decide) (by decide) q) (by decide)))
          have f74 : w69 (md 5) = some (.inl (G.2.1 2, 16, .inl (Fm 5))) := by rw [ew69]; exact g_up_f f60 ((fun q => absurd (Hj 5 0 (by decide) (by decide) q) (by decide)))
          have f75 : w69 (md 8) = some (.inl (G.2.1 0, 20, .inl (Fm 8))) := by rw [ew69]; exact g_up_f f61 ((fun q => absurd (Hj 8 0 (by decide) (by decide) q) (by decide)))
          have f76 : w69 (md 9) = some (.inl (G.2.1 1, 10, .inr (.inl (L 0)))) := by rw [ew69]; exact g_up_f f62 ((fun q => absurd (Hj 9 0 (by decide) (by decide) q) (by decide)))
          have f77 : w69 (md 10) = some (.inl (G.2.1 1, 10, .inr (.inl (L 1)))) := by rw [ew69]; exact g_up_f f63 ((fun q => absurd (Hj 10 0 (by decide) (by decide) q) (by decide)))
          have f78 : w69 (md 11) = some (.inl (G.2.1 0, 10, .inl (Fm 11))) := by rw [ew69]; exact g_up_f f64 ((fun q => absurd (Hj 11 0 (by decide) (by decide) q) (by decide)))
          have f79 : w69 (md 6) = some (.inl (G.2.1 0, 16, .inl (upd (Fm 6) (iL (S 0 2) : Int32).toNatClampNeg (nI ga)))) := by rw [ew69]; exact g_up_f f66 ((fun q => absurd (Hj 6 0 (by decide) (by decide) q) (by decide)))
          have f80 : w69 (md 7) = some (.inl (G.2.1 0, 16, .inl (upd (Fm 7) (iL (S 0 2) : Int32).toNatClampNeg (nI gb)))) := by rw [ew69]; exact g_up_f f67 ((fun q => absurd (Hj 7 0 (by decide) (by decide) q) (by decide)))
          have f81 : w69 (md 0) = some (.inr (8, [.int 0, .int (iL (S 0 0)), .ref (md 1), .ref (md 2), .ref (md 3), .int (iL (S 0 4)), .int (iL (S 0 5)), .int (iL (S 0 1)), .ref (md 4), .ref (md 5), .int (iL (S 0 2 + 1)), .ref (md 6), .ref (md 7), .int (iL (S 0 3)), .ref (md 8), .ref (md 9), .ref (md 10), .ref (md 11), .long tp, .long bt])) := by rw [ew69]; exact g_up_s _ _ _
          refine lv_aload_n hx hb dX7_mesh_87 rfl (lv_at hl 0 rfl) ?_
          refine g_get F hP (C := RX7) (T := TX7) (N := 20) iX7 f81 rfl 10 (by decide) (List.mem_cons_of_mem _ (List.mem_append_left _ (List.mem_append_left _ (List.mem_of_getElem? (i := 1) rfl)))) (fun _ h9 => h9) rfl dX7_mesh_88 ?_
          refine lv_iconst (v := 1) hx hb dX7_mesh_91 (by decide) ?_
          refine lv_isub hx hb dX7_mesh_92 ?_
          refine lv_topi (fun v82 ev82 => ?_)
          obtain rfl : v82 = iL (S 0 2) := by
            rw [ev82]
            rw [show (1 : Int32) = iL 1 from rfl, iL_sub]
            rw [show S 0 2 + 1 - 1 = S 0 2 from by omega]
          rw [hQ]
          refine g_iret F hP hS hlocks hr dX7_mesh_93 (by first | exact Nat.le_of_ble_eq_true rfl | omega) (by first | exact Nat.le_of_ble_eq_true rfl | omega) ?_
          have e0 : nxMesh S (nI ga) (nI gb) 0 2 = S 0 2 + 1 := by unfold nxMesh; rw [up2_k _ _ _ (by decide), up2_k _ _ _ (by decide), up2_s]
          have e0' : ∀ i, i ≠ 2 → nxMesh S (nI ga) (nI gb) 0 i = S 0 i := fun i z => by unfold nxMesh; rw [up2_k _ _ _ (by decide), up2_k _ _ _ (by decide), up2_i _ _ _ z]
          exact Or.inr ⟨(if_pos ⟨sa9, sb9⟩).trans (by rw [nka, nkb]; exact (if_pos yc40).trans (if_pos (by omega))), rfl, ⟨mFr_tr (mFr_tr (mFr_tr (mFr_tr (mFr_rf _ _) (mFr_se (i := 0) (by decide) ew1)) (mFr_se (i := 6) (by decide) ew42)) (mFr_se (i := 7) (by decide) ew55)) (mFr_se (i := 0) (by decide) ew69), _, _, (up1 (up1 Fm 6 (upd (Fm 6) (iL (S 0 2)).toNatClampNeg (nI ga))) 7 (upd (Fm 7) (iL (S 0 2)).toNatClampNeg (nI gb))), L, ⟨(by rw [mC_of (by rw [e0' 0 (by decide)]) (by rw [e0' 1 (by decide)]) (by rw [e0]) (by rw [e0' 3 (by decide)]) (by rw [e0' 4 (by decide)]) (by rw [e0' 5 (by decide)])]; exact f81), f70, f71, f72, f73, f74, f79, f80, f75, f76, f77, f78⟩, modF_mesh Hf Hi⟩⟩
        · rw [show (16 : Int32) = iL 16 from rfl, iL_eq (by omega) (by omega) (by omega) (by omega)] at c41
          refine lv_aload_n hx hb dX7_mesh_51 rfl (lv_at hl 0 rfl) ?_
          refine lv_iconst (v := 3) hx hb dX7_mesh_52 (by decide) ?_
          refine g_Vi (As := [.int 3]) (rest := []) F hP hS (k_X7_fail l A G w1 md S _ _ _ Fm L 3 f13) (cwV 1 hts gX7_mesh_X7_fail rfl rfl rfl cd_X7_fail ⟨by rw [hR]; exact Nat.le_of_ble_eq_true rfl, by rw [hR]; exact Nat.le_of_ble_eq_true rfl⟩) f13 rfl rfl rfl hl.1 (Nat.le_of_ble_eq_true rfl) dX7_mesh_53 ⟨by rw [hR]; exact Nat.le_of_ble_eq_true rfl, by rw [hR]; exact Nat.le_of_ble_eq_true rfl⟩ rfl (fun r83 w84 H locs h85 hP hS => ?_)
          obtain ⟨er, eww84⟩ := h85
          rw [er]
          have f86 : w84 (md 1) = some (.inl (G.2.1 0, 10, .inl (Fm 1))) := by rw [eww84]; exact g_up_f f2 ((fun q => absurd (Hj 1 0 (by decide) (by decide) q) (by decide)))
          have f87 : w84 (md 2) = some (.inl (G.2.1 0, 10, .inl (Fm 2))) := by rw [eww84]; exact g_up_f f3 ((fun q => absurd (Hj 2 0 (by decide) (by decide) q) (by decide)))
          have f88 : w84 (md 3) = some (.inl (G.2.1 2, 10, .inl (Fm 3))) := by rw [eww84]; exact g_up_f f4 ((fun q => absurd (Hj 3 0 (by decide) (by decide) q) (by decide)))
          have f89 : w84 (md 4) = some (.inl (G.2.1 0, 64, .inl (Fm 4))) := by rw [eww84]; exact g_up_f f5 ((fun q => absurd (Hj 4 0 (by decide) (by decide) q) (by decide)))
          have f90 : w84 (md 5) = some (.inl (G.2.1 2, 16, .inl (Fm 5))) := by rw [eww84]; exact g_up_f f6 ((fun q => absurd (Hj 5 0 (by decide) (by decide) q) (by decide)))
          have f91 : w84 (md 6) = some (.inl (G.2.1 0, 16, .inl (Fm 6))) := by rw [eww84]; exact g_up_f f7 ((fun q => absurd (Hj 6 0 (by decide) (by decide) q) (by decide)))
          have f92 : w84 (md 7) = some (.inl (G.2.1 0, 16, .inl (Fm 7))) := by rw [eww84]; exact g_up_f f8 ((fun q => absurd (Hj 7 0 (by decide) (by decide) q) (by decide)))
          have f93 : w84 (md 8) = some (.inl (G.2.1 0, 20, .inl (Fm 8))) := by rw [eww84]; exact g_up_f f9 ((fun q => absurd (Hj 8 0 (by decide) (by decide) q) (by decide)))
          have f94 : w84 (md 9) = some (.inl (G.2.1 1, 10, .inr (.inl (L 0)))) := by rw [eww84]; exact g_up_f f10 ((fun q => absurd (Hj 9 0 (by decide) (by decide) q) (by decide)))
          have f95 : w84 (md 10) = some (.inl (G.2.1 1, 10, .inr (.inl (L 1)))) := by rw [eww84]; exact g_up_f f11 ((fun q => absurd (Hj 10 0 (by decide) (by decide) q) (by decide)))
          have f96 : w84 (md 11) = some (.inl (G.2.1 0, 10, .inl (Fm 11))) := by rw [eww84]; exact g_up_f f12 ((fun q => absurd (Hj 11 0 (by decide) (by decide) q) (by decide)))
          have f97 : w84 (md 0) = some (.inr (8, [.int 3, .int (iL (S 0 0)), .ref (md 1), .ref (md 2), .ref (md 3), .int (iL (S 0 4)), .int (iL (S 0 5)), .int (iL (S 0 1)), .ref (md 4), .ref (md 5), .int (iL (S 0 2)), .ref (md 6), .ref (md 7), .int (iL (S 0 3)), .ref (md 8), .ref (md 9), .ref (md 10), .ref (md 11), .long tp, .long bt])) := by rw [eww84]; exact g_up_s _ _ _
          rw [hQ]
          refine g_iret F hP hS hlocks hr dX7_mesh_56 (by first | exact Nat.le_of_ble_eq_true rfl | omega) (by first | exact Nat.le_of_ble_eq_true rfl | omega) ?_
          exact mRes_no (c := 3) ((if_pos ⟨sa9, sb9⟩).trans (by rw [nka, nkb]; exact (if_pos yc40).trans (if_neg (by omega)))) (by decide) ⟨mFr_tr (mFr_tr (mFr_rf _ _) (mFr_se (i := 0) (by decide) ew1)) (mFr_se (i := 0) (by decide) eww84), _, _, Fm, L, ⟨f97, f86, f87, f88, f89, f90, f91, f92, f93, f94, f95, f96⟩, Hf⟩
      · have yc40 : ¬ canM S ga gb := fun q => by
          have q1 : b0 = false := g_b0.mp c40
          rw [hb0.mpr q] at q1
          cases q1
        refine lv_aload_n hx hb dX7_mesh_36 rfl (lv_at hl 0 rfl) ?_
        refine lv_iconst (v := 2) hx hb dX7_mesh_37 (by decide) ?_
        refine g_Vi (As := [.int 2]) (rest := []) F hP hS (k_X7_fail l A G w1 md S _ _ _ Fm L 2 f13) (cwV 1 hts gX7_mesh_X7_fail rfl rfl rfl cd_X7_fail ⟨by rw [hR]; exact Nat.le_of_ble_eq_true rfl, by rw [hR]; exact Nat.le_of_ble_eq_true rfl⟩) f13 rfl rfl rfl hl.1 (Nat.le_of_ble_eq_true rfl) dX7_mesh_38 ⟨by rw [hR]; exact Nat.le_of_ble_eq_true rfl, by rw [hR]; exact Nat.le_of_ble_eq_true rfl⟩ rfl (fun r98 w99 H locs h100 hP hS => ?_)
        obtain ⟨er, eww99⟩ := h100
        rw [er]
        have f101 : w99 (md 1) = some (.inl (G.2.1 0, 10, .inl (Fm 1))) := by rw [eww99]; exact g_up_f f2 ((fun q => absurd (Hj 1 0 (by decide) (by decide) q) (by decide)))
        have f102 : w99 (md 2) = some (.inl (G.2.1 0, 10, .inl (Fm 2))) := by rw [eww99]; exact g_up_f f3 ((fun q => absurd (Hj 2 0 (by decide) (by decide) q) (by decide)))
        have f103 : w99 (md 3) = some (.inl (G.2.1 2, 10, .inl (Fm 3))) := by rw [eww99]; exact g_up_f f4 ((fun q => absurd (Hj 3 0 (by decide) (by decide) q) (by decide)))
        have f104 : w99 (md 4) = some (.inl (G.2.1 0, 64, .inl (Fm 4))) := by rw [eww99]; exact g_up_f f5 ((fun q => absurd (Hj 4 0 (by decide) (by decide) q) (by decide)))
        have f105 : w99 (md 5) = some (.inl (G.2.1 2, 16, .inl (Fm 5))) := by rw [eww99]; exact g_up_f f6 ((fun q => absurd (Hj 5 0 (by decide) (by decide) q) (by decide)))
        have f106 : w99 (md 6) = some (.inl (G.2.1 0, 16, .inl (Fm 6))) := by rw [eww99]; exact g_up_f f7 ((fun q => absurd (Hj 6 0 (by decide) (by decide) q) (by decide)))
        have f107 : w99 (md 7) = some (.inl (G.2.1 0, 16, .inl (Fm 7))) := by rw [eww99]; exact g_up_f f8 ((fun q => absurd (Hj 7 0 (by decide) (by decide) q) (by decide)))
        have f108 : w99 (md 8) = some (.inl (G.2.1 0, 20, .inl (Fm 8))) := by rw [eww99]; exact g_up_f f9 ((fun q => absurd (Hj 8 0 (by decide) (by decide) q) (by decide)))
        have f109 : w99 (md 9) = some (.inl (G.2.1 1, 10, .inr (.inl (L 0)))) := by rw [eww99]; exact g_up_f f10 ((fun q => absurd (Hj 9 0 (by decide) (by decide) q) (by decide)))
        have f110 : w99 (md 10) = some (.inl (G.2.1 1, 10, .inr (.inl (L 1)))) := by rw [eww99]; exact g_up_f f11 ((fun q => absurd (Hj 10 0 (by decide) (by decide) q) (by decide)))
        have f111 : w99 (md 11) = some (.inl (G.2.1 0, 10, .inl (Fm 11))) := by rw [eww99]; exact g_up_f f12 ((fun q => absurd (Hj 11 0 (by decide) (by decide) q) (by decide)))
        have f112 : w99 (md 0) = some (.inr (8, [.int 2, .int (iL (S 0 0)), .ref (md 1), .ref (md 2), .ref (md 3), .int (iL (S 0 4)), .int (iL (S 0 5)), .int (iL (S 0 1)), .ref (md 4), .ref (md 5), .int (iL (S 0 2)), .ref (md 6), .ref (md 7), .int (iL (S 0 3)), .ref (md 8), .ref (md 9), .ref (md 10), .ref (md 11), .long tp, .long bt])) := by rw [eww99]; exact g_up_s _ _ _
        rw [hQ]
        refine g_iret F hP hS hlocks hr dX7_mesh_41 (by first | exact Nat.le_of_ble_eq_true rfl | omega) (by first | exact Nat.le_of_ble_eq_true rfl | omega) ?_
        exact mRes_no (c := 2) ((if_pos ⟨sa9, sb9⟩).trans (by rw [nka, nkb]; exact if_neg yc40)) (by decide) ⟨mFr_tr (mFr_tr (mFr_rf _ _) (mFr_se (i := 0) (by decide) ew1)) (mFr_se (i := 0) (by decide) eww99), _, _, Fm, L, ⟨f112, f101, f102, f103, f104, f105, f106, f107, f108, f109, f110, f111⟩, Hf⟩
    · have yc36 := of_decide_eq_false (g_b0.mp c36)
      refine lv_aload_n hx hb dX7_mesh_21 rfl (lv_at hl 0 rfl) ?_
      refine lv_iconst (v := 1) hx hb dX7_mesh_22 (by decide) ?_
      refine g_Vi (As := [.int 1]) (rest := []) F hP hS (k_X7_fail l A G w1 md S _ _ _ Fm L 1 f13) (cwV 1 hts gX7_mesh_X7_fail rfl rfl rfl cd_X7_fail ⟨by rw [hR]; exact Nat.le_of_ble_eq_true rfl, by rw [hR]; exact Nat.le_of_ble_eq_true rfl⟩) f13 rfl rfl rfl hl.1 (Nat.le_of_ble_eq_true rfl) dX7_mesh_23 ⟨by rw [hR]; exact Nat.le_of_ble_eq_true rfl, by rw [hR]; exact Nat.le_of_ble_eq_true rfl⟩ rfl (fun r113 w114 H locs h115 hP hS => ?_)
      obtain ⟨er, eww114⟩ := h115
      rw [er]
      have f116 : w114 (md 1) = some (.inl (G.2.1 0, 10, .inl (Fm 1))) := by rw [eww114]; exact g_up_f f2 ((fun q => absurd (Hj 1 0 (by decide) (by decide) q) (by decide)))
      have f117 : w114 (md 2) = some (.inl (G.2.1 0, 10, .inl (Fm 2))) := by rw [eww114]; exact g_up_f f3 ((fun q => absurd (Hj 2 0 (by decide) (by decide) q) (by decide)))
      have f118 : w114 (md 3) = some (.inl (G.2.1 2, 10, .inl (Fm 3))) := by rw [eww114]; exact g_up_f f4 ((fun q => absurd (Hj 3 0 (by decide) (by decide) q) (by decide)))
      have f119 : w114 (md 4) = some (.inl (G.2.1 0, 64, .inl (Fm 4))) := by rw [eww114]; exact g_up_f f5 ((fun q => absurd (Hj 4 0 (by decide) (by decide) q) (by decide)))
      have f120 : w114 (md 5) = some (.inl (G.2.1 2, 16, .inl (Fm 5))) := by rw [eww114]; exact g_up_f f6 ((fun q => absurd (Hj 5 0 (by decide) (by decide) q) (by decide)))
      have f121 : w114 (md 6) = some (.inl (G.2.1 0, 16, .inl (Fm 6))) := by rw [eww114]; exact g_up_f f7 ((fun q => absurd (Hj 6 0 (by decide) (by decide) q) (by decide)))
      have f122 : w114 (md 7) = some (.inl (G.2.1 0, 16, .inl (Fm 7))) := by rw [eww114]; exact g_up_f f8 ((fun q => absurd (Hj 7 0 (by decide) (by decide) q) (by decide)))
      have f123 : w114 (md 8) = some (.inl (G.2.1 0, 20, .inl (Fm 8))) := by rw [eww114]; exact g_up_f f9 ((fun q => absurd (Hj 8 0 (by decide) (by decide) q) (by decide)))
      have f124 : w114 (md 9) = some (.inl (G.2.1 1, 10, .inr (.inl (L 0)))) := by rw [eww114]; exact g_up_f f10 ((fun q => absurd (Hj 9 0 (by decide) (by decide) q) (by decide)))
      have f125 : w114 (md 10) = some (.inl (G.2.1 1, 10, .inr (.inl (L 1)))) := by rw [eww114]; exact g_up_f f11 ((fun q => absurd (Hj 10 0 (by decide) (by decide) q) (by decide)))
      have f126 : w114 (md 11) = some (.inl (G.2.1 0, 10, .inl (Fm 11))) := by rw [eww114]; exact g_up_f f12 ((fun q => absurd (Hj 11 0 (by decide) (by decide) q) (by decide)))
      have f127 : w114 (md 0) = some (.inr (8, [.int 1, .int (iL (S 0 0)), .ref (md 1), .ref (md 2), .ref (md 3), .int (iL (S 0 4)), .int (iL (S 0 5)), .int (iL (S 0 1)), .ref (md 4), .ref (md 5), .int (iL (S 0 2)), .ref (md 6), .ref (md 7), .int (iL (S 0 3)), .ref (md 8), .ref (md 9), .ref (md 10), .ref (md 11), .long tp, .long bt])) := by rw [eww114]; exact g_up_s _ _ _
      rw [hQ]
      refine g_iret F hP hS hlocks hr dX7_mesh_26 (by first | exact Nat.le_of_ble_eq_true rfl | omega) (by first | exact Nat.le_of_ble_eq_true rfl | omega) ?_
      exact mRes_no (c := 1) (if_neg (fun q => yc36 q.2)) (by decide) ⟨mFr_tr (mFr_tr (mFr_rf _ _) (mFr_se (i := 0) (by decide) ew1)) (mFr_se (i := 0) (by decide) eww114), _, _, Fm, L, ⟨f127, f116, f117, f118, f119, f120, f121, f122, f123, f124, f125, f126⟩, Hf⟩
