theorem cd_X7_shaftOf : yX7_shaftOf.cls = RX7 ∧ yX7_shaftOf.cls ≠ "java/lang/invoke/MethodHandle" ∧ yX7_shaftOf.cls ≠ "java/lang/invoke/VarHandle" ∧ (parseMethodDescriptor yX7_shaftOf.desc).map (fun d => d.parameters.length) = some 1 := by decide +kernel
theorem cd_X7_layer : yX7_layer.cls = RX7 ∧ yX7_layer.cls ≠ "java/lang/invoke/MethodHandle" ∧ yX7_layer.cls ≠ "java/lang/invoke/VarHandle" ∧ (parseMethodDescriptor yX7_layer.desc).map (fun d => d.parameters.length) = some 1 := by decide +kernel
theorem cd_X7_module : yX7_module.cls = RX7 ∧ yX7_module.cls ≠ "java/lang/invoke/MethodHandle" ∧ yX7_module.cls ≠ "java/lang/invoke/VarHandle" ∧ (parseMethodDescriptor yX7_module.desc).map (fun d => d.parameters.length) = some 1 := by decide +kernel
theorem cd_X7_areMeshed : yX7_areMeshed.cls = RX7 ∧ yX7_areMeshed.cls ≠ "java/lang/invoke/MethodHandle" ∧ yX7_areMeshed.cls ≠ "java/lang/invoke/VarHandle" ∧ (parseMethodDescriptor yX7_areMeshed.desc).map (fun d => d.parameters.length) = some 2 := by decide +kernel
theorem cd_X7_teeth : yX7_teeth.cls = RX7 ∧ yX7_teeth.cls ≠ "java/lang/invoke/MethodHandle" ∧ yX7_teeth.cls ≠ "java/lang/invoke/VarHandle" ∧ (parseMethodDescriptor yX7_teeth.desc).map (fun d => d.parameters.length) = some 1 := by decide +kernel
set_option maxHeartbeats 4000000 in
set_option maxRecDepth 100000 in
theorem k_X7_canMesh (l : Launch) (A : Nat → Prop) (G : g_C) (w : g_W) (md : Nat → Nat) (S : Sg) (th : Int32) (tp bt : Int64) (Fm : Nat → Nat → Int32) (L : Nat → Nat → Int64) (ga gb : Nat) (hx0 : w (md 0) = some (.inr (8, [.int th, .int (iL (S 0 0)), .ref (md 1), .ref (md 2), .ref (md 3), .int (iL (S 0 4)), .int (iL (S 0 5)), .int (iL (S 0 1)), .ref (md 4), .ref (md 5), .int (iL (S 0 2)), .ref (md 6), .ref (md 7), .int (iL (S 0 3)), .ref (md 8), .ref (md 9), .ref (md 10), .ref (md 11), .long tp, .long bt]))) (hy4 : w (md 4) = some (.inl (G.2.1 0, 64, .inl (Fm 4)))) (hy5 : w (md 5) = some (.inl (G.2.1 2, 16, .inl (Fm 5)))) (hy6 : w (md 6) = some (.inl (G.2.1 0, 16, .inl (Fm 6)))) (hy7 : w (md 7) = some (.inl (G.2.1 0, 16, .inl (Fm 7)))) (Hf : modF S Fm) (Hi : invS S) (hga : (ga : Int) < S 0 1) (hgb : (gb : Int) < S 0 1) : mI l yX7_canMesh wsX7_canMesh ({ frames := 1, cells := 0, slots := 0, locals := 24 } : Room) [.ref (md 0), .int (nI ga), .int (nI gb)] A G w (fun r w' => (∃ b0 : Bool, r = g_b b0 ∧ (b0 = true ↔ canM S ga gb)) ∧ w' = w) 0 0 := by
  refine g_ofI (cc := cX7_canMesh) (maxL := 3) (ret := (some .boolean)) (own := RX7) (by decide) rfl rfl (Nat.le_of_ble_eq_true rfl) ?_
  intro p e R s m args below meth c Q ls hR F hP hS hlocks hr hnm0 hQ hl
  obtain ⟨⟨hx, hb, hml, hown, hts⟩, hK, hZ, hA⟩ := id F
  generalize hH0 : s.heap = H at hP ⊢
  have hS : va_S A s.heap H [] := by rw [← hH0]; exact va_S.rf
  generalize ([] : List Loc) = locs at hS ⊢
  have hl : lv_has ls 3 [(0, .ref (md 0)), (1, .int (nI ga)), (2, .int (nI gb))] := hl
  have iX7 : ∀ w ∈ u_ws RX7 TX7 20, w ∈ wsX7_canMesh := fun w h => List.mem_cons_of_mem _ (List.mem_append_right _ (h))
  have hi := Hi.1
  have ua := Hi.2.2.1 ga hga
  have ub := Hi.2.2.1 gb hgb
  refine lv_aload_n hx hb dX7_canMesh_0 rfl (lv_at hl 0 rfl) ?_
  refine lv_iload_n hx hb dX7_canMesh_1 rfl (lv_at hl 1 rfl) ?_
  refine g_Vi (As := [.int (nI ga)]) (rest := []) F hP hS (k_X7_shaftOf l A G w md S _ _ _ Fm L ga hx0 hy4 Hf Hi hga) (cwV 1 hts gX7_canMesh_X7_shaftOf rfl rfl rfl cd_X7_shaftOf ⟨by rw [hR]; exact Nat.le_of_ble_eq_true rfl, by rw [hR]; exact Nat.le_of_ble_eq_true rfl⟩) hx0 rfl rfl rfl hl.1 (Nat.le_of_ble_eq_true rfl) dX7_canMesh_2 ⟨by rw [hR]; exact Nat.le_of_ble_eq_true rfl, by rw [hR]; exact Nat.le_of_ble_eq_true rfl⟩ rfl (fun r1 w2 H locs h3 hP hS => ?_)
  have hr1 := h3.1
  rw [h3.2] at hP
  rw [hr1]
  refine lv_aload_n hx hb dX7_canMesh_5 rfl (lv_at hl 0 rfl) ?_
  refine lv_iload_n hx hb dX7_canMesh_6 rfl (lv_at hl 2 rfl) ?_
  refine g_Vi (As := [.int (nI gb)]) (rest := [.int (iL (S 4 ga))]) F hP hS (k_X7_shaftOf l A G w md S _ _ _ Fm L gb hx0 hy4 Hf Hi hgb) (cwV 1 hts gX7_canMesh_X7_shaftOf rfl rfl rfl cd_X7_shaftOf ⟨by rw [hR]; exact Nat.le_of_ble_eq_true rfl, by rw [hR]; exact Nat.le_of_ble_eq_true rfl⟩) hx0 rfl rfl rfl hl.1 (Nat.le_of_ble_eq_true rfl) dX7_canMesh_7 ⟨by rw [hR]; exact Nat.le_of_ble_eq_true rfl, by rw [hR]; exact Nat.le_of_ble_eq_true rfl⟩ rfl (fun r4 w5 H locs h6 hP hS => ?_)
  have hr4 := h6.1
  rw [h6.2] at hP
  rw [hr4]
  refine lv_icmp_eq (tgt := 66) hx hb dX7_canMesh_10 (by decide) (fun c7 => ?_) (fun c7 => ?_)
  · rw [iL_eq (a := S 4 ga) (b := S 4 gb) (by omega) (by omega) (by omega) (by omega)] at c7
    refine lv_iconst (v := 0) hx hb dX7_canMesh_66 (by decide) ?_
    rw [hQ]
    refine g_zret F hP hS hlocks hr (by first | rfl | exact g_nb _) dX7_canMesh_67 (by first | exact Nat.le_of_ble_eq_true rfl | omega) (by first | exact Nat.le_of_ble_eq_true rfl | omega) ?_
    exact ⟨⟨false, rfl, ⟨fun q => (nomatch q), fun ⟨q1, q2⟩ => False.elim (by omega)⟩⟩, rfl⟩
  · rw [iL_eq (a := S 4 ga) (b := S 4 gb) (by omega) (by omega) (by omega) (by omega)] at c7
    refine lv_aload_n hx hb dX7_canMesh_13 rfl (lv_at hl 0 rfl) ?_
    refine lv_iload_n hx hb dX7_canMesh_14 rfl (lv_at hl 1 rfl) ?_
    refine g_Vi (As := [.int (nI ga)]) (rest := []) F hP hS (k_X7_layer l A G w md S _ _ _ Fm L ga hx0 hy4 Hf Hi hga) (cwV 1 hts gX7_canMesh_X7_layer rfl rfl rfl cd_X7_layer ⟨by rw [hR]; exact Nat.le_of_ble_eq_true rfl, by rw [hR]; exact Nat.le_of_ble_eq_true rfl⟩) hx0 rfl rfl rfl hl.1 (Nat.le_of_ble_eq_true rfl) dX7_canMesh_15 ⟨by rw [hR]; exact Nat.le_of_ble_eq_true rfl, by rw [hR]; exact Nat.le_of_ble_eq_true rfl⟩ rfl (fun r8 w9 H locs h10 hP hS => ?_)
    have hr8 := h10.1
    rw [h10.2] at hP
    rw [hr8]
    refine lv_aload_n hx hb dX7_canMesh_18 rfl (lv_at hl 0 rfl) ?_
    refine lv_iload_n hx hb dX7_canMesh_19 rfl (lv_at hl 2 rfl) ?_
    refine g_Vi (As := [.int (nI gb)]) (rest := [.int (iL (S 7 ga))]) F hP hS (k_X7_layer l A G w md S _ _ _ Fm L gb hx0 hy4 Hf Hi hgb) (cwV 1 hts gX7_canMesh_X7_layer rfl rfl rfl cd_X7_layer ⟨by rw [hR]; exact Nat.le_of_ble_eq_true rfl, by rw [hR]; exact Nat.le_of_ble_eq_true rfl⟩) hx0 rfl rfl rfl hl.1 (Nat.le_of_ble_eq_true rfl) dX7_canMesh_20 ⟨by rw [hR]; exact Nat.le_of_ble_eq_true rfl, by rw [hR]; exact Nat.le_of_ble_eq_true rfl⟩ rfl (fun r11 w12 H locs h13 hP hS => ?_)
    have hr11 := h13.1
    rw [h13.2] at hP
    rw [hr11]
    refine lv_icmp_ne (tgt := 66) hx hb dX7_canMesh_23 (by decide) (fun c14 => ?_) (fun c14 => ?_)
    · rw [iL_eq (a := S 7 ga) (b := S 7 gb) (by omega) (by omega) (by omega) (by omega)] at c14
      refine lv_iconst (v := 0) hx hb dX7_canMesh_66 (by decide) ?_
      rw [hQ]
      refine g_zret F hP hS hlocks hr (by first | rfl | exact g_nb _) dX7_canMesh_67 (by first | exact Nat.le_of_ble_eq_true rfl | omega) (by first | exact Nat.le_of_ble_eq_true rfl | omega) ?_
      exact ⟨⟨false, rfl, ⟨fun q => (nomatch q), fun ⟨q1, q2⟩ => False.elim (by omega)⟩⟩, rfl⟩
    · rw [iL_eq (a := S 7 ga) (b := S 7 gb) (by omega) (by omega) (by omega) (by omega)] at c14
      refine lv_aload_n hx hb dX7_canMesh_26 rfl (lv_at hl 0 rfl) ?_
      refine lv_iload_n hx hb dX7_canMesh_27 rfl (lv_at hl 1 rfl) ?_
      refine g_Vi (As := [.int (nI ga)]) (rest := []) F hP hS (k_X7_module l A G w md S _ _ _ Fm L ga hx0 hy4 Hf Hi hga) (cwV 1 hts gX7_canMesh_X7_module rfl rfl rfl cd_X7_module ⟨by rw [hR]; exact Nat.le_of_ble_eq_true rfl, by rw [hR]; exact Nat.le_of_ble_eq_true rfl⟩) hx0 rfl rfl rfl hl.1 (Nat.le_of_ble_eq_true rfl) dX7_canMesh_28 ⟨by rw [hR]; exact Nat.le_of_ble_eq_true rfl, by rw [hR]; exact Nat.le_of_ble_eq_true rfl⟩ rfl (fun r15 w16 H locs h17 hP hS => ?_)
      have hr15 := h17.1
      rw [h17.2] at hP
      rw [hr15]
      refine lv_aload_n hx hb dX7_canMesh_31 rfl (lv_at hl 0 rfl) ?_
      refine lv_iload_n hx hb dX7_canMesh_32 rfl (lv_at hl 2 rfl) ?_
      refine g_Vi (As := [.int (nI gb)]) (rest := [.int (iL (S 6 ga))]) F hP hS (k_X7_module l A G w md S _ _ _ Fm L gb hx0 hy4 Hf Hi hgb) (cwV 1 hts gX7_canMesh_X7_module rfl rfl rfl cd_X7_module ⟨by rw [hR]; exact Nat.le_of_ble_eq_true rfl, by rw [hR]; exact Nat.le_of_ble_eq_true rfl⟩) hx0 rfl rfl rfl hl.1 (Nat.le_of_ble_eq_true rfl) dX7_canMesh_33 ⟨by rw [hR]; exact Nat.le_of_ble_eq_true rfl, by rw [hR]; exact Nat.le_of_ble_eq_true rfl⟩ rfl (fun r18 w19 H locs h20 hP hS => ?_)
      have hr18 := h20.1
      rw [h20.2] at hP
      rw [hr18]
      refine lv_icmp_ne (tgt := 66) hx hb dX7_canMesh_36 (by decide) (fun c21 => ?_) (fun c21 => ?_)
      · rw [iL_eq (a := S 6 ga) (b := S 6 gb) (by omega) (by omega) (by omega) (by omega)] at c21
        refine lv_iconst (v := 0) hx hb dX7_canMesh_66 (by decide) ?_
        rw [hQ]
        refine g_zret F hP hS hlocks hr (by first | rfl | exact g_nb _) dX7_canMesh_67 (by first | exact Nat.le_of_ble_eq_true rfl | omega) (by first | exact Nat.le_of_ble_eq_true rfl | omega) ?_
        exact ⟨⟨false, rfl, ⟨fun q => (nomatch q), fun ⟨q1, q2⟩ => False.elim (by omega)⟩⟩, rfl⟩
      · rw [iL_eq (a := S 6 ga) (b := S 6 gb) (by omega) (by omega) (by omega) (by omega)] at c21
        refine lv_aload_n hx hb dX7_canMesh_39 rfl (lv_at hl 0 rfl) ?_
        refine g_get F hP (C := RX7) (T := TX7) (N := 20) iX7 hx0 rfl 9 (by decide) (List.mem_cons_of_mem _ (List.mem_append_left _ (List.mem_append_left _ (List.mem_of_getElem? (i := 0) rfl)))) (fun _ h9 => h9) rfl dX7_canMesh_40 ?_
        refine lv_iload_n hx hb dX7_canMesh_43 rfl (lv_at hl 1 rfl) ?_
        refine g_zald F hP hy5 (vp_in_nI (by omega) (by decide)) dX7_canMesh_44 ?_
        rw [show (.int ((Fm 5) (nI ga : Int32).toNatClampNeg) : Value) = .int (g_b (decide (S 8 ga = 1))) from by rw [nI_clamp (by omega), (Hf.2.1 ga hga).2.2.2.2, iL_b (Hi.2.2.1 ga hga).2.2.2.2.2.2.2.2]]
        refine lv_if_eq (tgt := 57) hx hb dX7_canMesh_45 (by decide) (fun c22 => ?_) (fun c22 => ?_)
        · have yc22 := of_decide_eq_false (g_b0.mp c22)
          refine lv_aload_n hx hb dX7_canMesh_57 rfl (lv_at hl 0 rfl) ?_
          refine lv_iload_n hx hb dX7_canMesh_58 rfl (lv_at hl 1 rfl) ?_
          refine lv_iload_n hx hb dX7_canMesh_59 rfl (lv_at hl 2 rfl) ?_
          refine g_Vi (As := [.int (nI ga), .int (nI gb)]) (rest := []) F hP hS (k_X7_areMeshed l A G w md S _ _ _ Fm L ga gb hx0 hy6 hy7 Hf Hi hga hgb) (cwV 2 hts gX7_canMesh_X7_areMeshed rfl rfl rfl cd_X7_areMeshed ⟨by rw [hR]; exact Nat.le_of_ble_eq_true rfl, by rw [hR]; exact Nat.le_of_ble_eq_true rfl⟩) hx0 rfl rfl rfl hl.1 (Nat.le_of_ble_eq_true rfl) dX7_canMesh_60 ⟨by rw [hR]; exact Nat.le_of_ble_eq_true rfl, by rw [hR]; exact Nat.le_of_ble_eq_true rfl⟩ rfl (fun r23 w24 H locs h25 hP hS => ?_)
          obtain ⟨b0, eb0, hb0⟩ := h25.1
          rw [h25.2] at hP
          rw [eb0]
          refine lv_if_eq (tgt := 68) hx hb dX7_canMesh_63 (by decide) (fun c26 => ?_) (fun c26 => ?_)
          · have yc26 : ¬ meshedP S ga gb := fun q => by
              have q1 : b0 = false := g_b0.mp c26
              rw [hb0.mpr q] at q1
              cases q1
            refine lv_aload_n hx hb dX7_canMesh_68 rfl (lv_at hl 0 rfl) ?_
            refine g_get F hP (C := RX7) (T := TX7) (N := 20) iX7 hx0 rfl 9 (by decide) (List.mem_cons_of_mem _ (List.mem_append_left _ (List.mem_append_left _ (List.mem_of_getElem? (i := 0) rfl)))) (fun _ h9 => h9) rfl dX7_canMesh_69 ?_
            refine lv_iload_n hx hb dX7_canMesh_72 rfl (lv_at hl 1 rfl) ?_
            refine g_zald F hP hy5 (vp_in_nI (by omega) (by decide)) dX7_canMesh_73 ?_
            rw [show (.int ((Fm 5) (nI ga : Int32).toNatClampNeg) : Value) = .int (g_b (decide (S 8 ga = 1))) from by rw [nI_clamp (by omega), (Hf.2.1 ga hga).2.2.2.2, iL_b (Hi.2.2.1 ga hga).2.2.2.2.2.2.2.2]]
            refine lv_if_ne (tgt := 86) hx hb dX7_canMesh_74 (by decide) (fun c27 => ?_) (fun c27 => ?_)
            · have yc27 := of_decide_eq_true (g_b1.mp c27)
              refine lv_aload_n hx hb dX7_canMesh_86 rfl (lv_at hl 0 rfl) ?_
              refine g_get F hP (C := RX7) (T := TX7) (N := 20) iX7 hx0 rfl 9 (by decide) (List.mem_cons_of_mem _ (List.mem_append_left _ (List.mem_append_left _ (List.mem_of_getElem? (i := 0) rfl)))) (fun _ h9 => h9) rfl dX7_canMesh_87 ?_
              refine lv_iload_n hx hb dX7_canMesh_90 rfl (lv_at hl 1 rfl) ?_
              refine g_zald F hP hy5 (vp_in_nI (by omega) (by decide)) dX7_canMesh_91 ?_
              rw [show (.int ((Fm 5) (nI ga : Int32).toNatClampNeg) : Value) = .int (g_b (decide (S 8 ga = 1))) from by rw [nI_clamp (by omega), (Hf.2.1 ga hga).2.2.2.2, iL_b (Hi.2.2.1 ga hga).2.2.2.2.2.2.2.2]]
              refine lv_if_eq (tgt := 111) hx hb dX7_canMesh_92 (by decide) (fun c28 => ?_) (fun c28 => ?_)
              · have yc28 := of_decide_eq_false (g_b0.mp c28)
                refine lv_aload_n hx hb dX7_canMesh_111 rfl (lv_at hl 0 rfl) ?_
                refine lv_iload_n hx hb dX7_canMesh_112 rfl (lv_at hl 2 rfl) ?_
                refine g_Vi (As := [.int (nI gb)]) (rest := []) F hP hS (k_X7_teeth l A G w md S _ _ _ Fm L gb hx0 hy4 Hf Hi hgb) (cwV 1 hts gX7_canMesh_X7_teeth rfl rfl rfl cd_X7_teeth ⟨by rw [hR]; exact Nat.le_of_ble_eq_true rfl, by rw [hR]; exact Nat.le_of_ble_eq_true rfl⟩) hx0 rfl rfl rfl hl.1 (Nat.le_of_ble_eq_true rfl) dX7_canMesh_113 ⟨by rw [hR]; exact Nat.le_of_ble_eq_true rfl, by rw [hR]; exact Nat.le_of_ble_eq_true rfl⟩ rfl (fun r29 w30 H locs h31 hP hS => ?_)
                have hr29 := h31.1
                rw [h31.2] at hP
                rw [hr29]
                refine lv_aload_n hx hb dX7_canMesh_116 rfl (lv_at hl 0 rfl) ?_
                refine lv_iload_n hx hb dX7_canMesh_117 rfl (lv_at hl 1 rfl) ?_
                refine g_Vi (As := [.int (nI ga)]) (rest := [.int (iL (S 5 gb))]) F hP hS (k_X7_teeth l A G w md S _ _ _ Fm L ga hx0 hy4 Hf Hi hga) (cwV 1 hts gX7_canMesh_X7_teeth rfl rfl rfl cd_X7_teeth ⟨by rw [hR]; exact Nat.le_of_ble_eq_true rfl, by rw [hR]; exact Nat.le_of_ble_eq_true rfl⟩) hx0 rfl rfl rfl hl.1 (Nat.le_of_ble_eq_true rfl) dX7_canMesh_118 ⟨by rw [hR]; exact Nat.le_of_ble_eq_true rfl, by rw [hR]; exact Nat.le_of_ble_eq_true rfl⟩ rfl (fun r32 w33 H locs h34 hP hS => ?_)
                have hr32 := h34.1
                rw [h34.2] at hP
                rw [hr32]
                refine lv_icmp_le (tgt := 128) hx hb dX7_canMesh_121 (by decide) (fun c35 => ?_) (fun c35 => ?_)
                · rw [iL_le (a := S 5 gb) (b := S 5 ga) (by omega) (by omega) (by omega) (by omega)] at c35
                  refine lv_iconst (v := 0) hx hb dX7_canMesh_128 (by decide) ?_
                  rw [hQ]
                  refine g_zret F hP hS hlocks hr (by first | rfl | exact g_nb _) dX7_canMesh_129 (by first | exact Nat.le_of_ble_eq_true rfl | omega) (by first | exact Nat.le_of_ble_eq_true rfl | omega) ?_
                  exact ⟨⟨false, rfl, ⟨fun q => (nomatch q), fun ⟨q1, q2⟩ => False.elim (by omega)⟩⟩, rfl⟩
                · rw [iL_le (a := S 5 gb) (b := S 5 ga) (by omega) (by omega) (by omega) (by omega)] at c35
                  refine lv_iconst (v := 1) hx hb dX7_canMesh_124 (by decide) ?_
                  refine lv_goto (tgt := 129) hx hb dX7_canMesh_125 (by decide) ?_
                  rw [hQ]
                  refine g_zret F hP hS hlocks hr (by first | rfl | exact g_nb _) dX7_canMesh_129 (by first | exact Nat.le_of_ble_eq_true rfl | omega) (by first | exact Nat.le_of_ble_eq_true rfl | omega) ?_
                  exact ⟨⟨true, rfl, ⟨fun _ => ⟨by omega, yc26⟩, fun _ => rfl⟩⟩, rfl⟩
              · have yc28 := of_decide_eq_true (g_b1.mp c28)
                refine lv_aload_n hx hb dX7_canMesh_95 rfl (lv_at hl 0 rfl) ?_
                refine lv_iload_n hx hb dX7_canMesh_96 rfl (lv_at hl 1 rfl) ?_
                refine g_Vi (As := [.int (nI ga)]) (rest := []) F hP hS (k_X7_teeth l A G w md S _ _ _ Fm L ga hx0 hy4 Hf Hi hga) (cwV 1 hts gX7_canMesh_X7_teeth rfl rfl rfl cd_X7_teeth ⟨by rw [hR]; exact Nat.le_of_ble_eq_true rfl, by rw [hR]; exact Nat.le_of_ble_eq_true rfl⟩) hx0 rfl rfl rfl hl.1 (Nat.le_of_ble_eq_true rfl) dX7_canMesh_97 ⟨by rw [hR]; exact Nat.le_of_ble_eq_true rfl, by rw [hR]; exact Nat.le_of_ble_eq_true rfl⟩ rfl (fun r36 w37 H locs h38 hP hS => ?_)
                have hr36 := h38.1
                rw [h38.2] at hP
                rw [hr36]
                refine lv_aload_n hx hb dX7_canMesh_100 rfl (lv_at hl 0 rfl) ?_
                refine lv_iload_n hx hb dX7_canMesh_101 rfl (lv_at hl 2 rfl) ?_
                refine g_Vi (As := [.int (nI gb)]) (rest := [.int (iL (S 5 ga))]) F hP hS (k_X7_teeth l A G w md S _ _ _ Fm L gb hx0 hy4 Hf Hi hgb) (cwV 1 hts gX7_canMesh_X7_teeth rfl rfl rfl cd_X7_teeth ⟨by rw [hR]; exact Nat.le_of_ble_eq_true rfl, by rw [hR]; exact Nat.le_of_ble_eq_true rfl⟩) hx0 rfl rfl rfl hl.1 (Nat.le_of_ble_eq_true rfl) dX7_canMesh_102 ⟨by rw [hR]; exact Nat.le_of_ble_eq_true rfl, by rw [hR]; exact Nat.le_of_ble_eq_true rfl⟩ rfl (fun r39 w40 H locs h41 hP hS => ?_)
                have hr39 := h41.1
                rw [h41.2] at hP
                rw [hr39]
                refine lv_icmp_le (tgt := 128) hx hb dX7_canMesh_105 (by decide) (fun c42 => ?_) (fun c42 => ?_)
                · rw [iL_le (a := S 5 ga) (b := S 5 gb) (by omega) (by omega) (by omega) (by omega)] at c42
                  refine lv_iconst (v := 0) hx hb dX7_canMesh_128 (by decide) ?_
                  rw [hQ]
                  refine g_zret F hP hS hlocks hr (by first | rfl | exact g_nb _) dX7_canMesh_129 (by first | exact Nat.le_of_ble_eq_true rfl | omega) (by first | exact Nat.le_of_ble_eq_true rfl | omega) ?_
                  exact ⟨⟨false, rfl, ⟨fun q => (nomatch q), fun ⟨q1, q2⟩ => False.elim (by omega)⟩⟩, rfl⟩
                · rw [iL_le (a := S 5 ga) (b := S 5 gb) (by omega) (by omega) (by omega) (by omega)] at c42
                  refine lv_goto (tgt := 124) hx hb dX7_canMesh_108 (by decide) ?_
                  refine lv_iconst (v := 1) hx hb dX7_canMesh_124 (by decide) ?_
                  refine lv_goto (tgt := 129) hx hb dX7_canMesh_125 (by decide) ?_
                  rw [hQ]
                  refine g_zret F hP hS hlocks hr (by first | rfl | exact g_nb _) dX7_canMesh_129 (by first | exact Nat.le_of_ble_eq_true rfl | omega) (by first | exact Nat.le_of_ble_eq_true rfl | omega) ?_
                  exact ⟨⟨true, rfl, ⟨fun _ => ⟨by omega, yc26⟩, fun _ => rfl⟩⟩, rfl⟩
            · have yc27 := of_decide_eq_false (g_b0.mp c27)
              refine lv_aload_n hx hb dX7_canMesh_77 rfl (lv_at hl 0 rfl) ?_
              refine g_get F hP (C := RX7) (T := TX7) (N := 20) iX7 hx0 rfl 9 (by decide) (List.mem_cons_of_mem _ (List.mem_append_left _ (List.mem_append_left _ (List.mem_of_getElem? (i := 0) rfl)))) (fun _ h9 => h9) rfl dX7_canMesh_78 ?_
              refine lv_iload_n hx hb dX7_canMesh_81 rfl (lv_at hl 2 rfl) ?_
              refine g_zald F hP hy5 (vp_in_nI (by omega) (by decide)) dX7_canMesh_82 ?_
              rw [show (.int ((Fm 5) (nI gb : Int32).toNatClampNeg) : Value) = .int (g_b (decide (S 8 gb = 1))) from by rw [nI_clamp (by omega), (Hf.2.1 gb hgb).2.2.2.2, iL_b (Hi.2.2.1 gb hgb).2.2.2.2.2.2.2.2]]
              refine lv_if_eq (tgt := 124) hx hb dX7_canMesh_83 (by decide) (fun c43 => ?_) (fun c43 => ?_)
              · have yc43 := of_decide_eq_false (g_b0.mp c43)
                refine lv_iconst (v := 1) hx hb dX7_canMesh_124 (by decide) ?_
                refine lv_goto (tgt := 129) hx hb dX7_canMesh_125 (by decide) ?_
                rw [hQ]
                refine g_zret F hP hS hlocks hr (by first | rfl | exact g_nb _) dX7_canMesh_129 (by first | exact Nat.le_of_ble_eq_true rfl | omega) (by first | exact Nat.le_of_ble_eq_true rfl | omega) ?_
                exact ⟨⟨true, rfl, ⟨fun _ => ⟨by omega, yc26⟩, fun _ => rfl⟩⟩, rfl⟩
              · have yc43 := of_decide_eq_true (g_b1.mp c43)
                refine lv_aload_n hx hb dX7_canMesh_86 rfl (lv_at hl 0 rfl) ?_
                refine g_get F hP (C := RX7) (T := TX7) (N := 20) iX7 hx0 rfl 9 (by decide) (List.mem_cons_of_mem _ (List.mem_append_left _ (List.mem_append_left _ (List.mem_of_getElem? (i := 0) rfl)))) (fun _ h9 => h9) rfl dX7_canMesh_87 ?_
                refine lv_iload_n hx hb dX7_canMesh_90 rfl (lv_at hl 1 rfl) ?_
                refine g_zald F hP hy5 (vp_in_nI (by omega) (by decide)) dX7_canMesh_91 ?_
                rw [show (.int ((Fm 5) (nI ga : Int32).toNatClampNeg) : Value) = .int (g_b (decide (S 8 ga = 1))) from by rw [nI_clamp (by omega), (Hf.2.1 ga hga).2.2.2.2, iL_b (Hi.2.2.1 ga hga).2.2.2.2.2.2.2.2]]
                refine lv_if_eq (tgt := 111) hx hb dX7_canMesh_92 (by decide) (fun c44 => ?_) (fun c44 => ?_)
                · have yc44 := of_decide_eq_false (g_b0.mp c44)
                  refine lv_aload_n hx hb dX7_canMesh_111 rfl (lv_at hl 0 rfl) ?_
                  refine lv_iload_n hx hb dX7_canMesh_112 rfl (lv_at hl 2 rfl) ?_
                  refine g_Vi (As := [.int (nI gb)]) (rest := []) F hP hS (k_X7_teeth l A G w md S _ _ _ Fm L gb hx0 hy4 Hf Hi hgb) (cwV 1 hts gX7_canMesh_X7_teeth rfl rfl rfl cd_X7_teeth ⟨by rw [hR]; exact Nat.le_of_ble_eq_true rfl, by rw [hR]; exact Nat.le_of_ble_eq_true rfl⟩) hx0 rfl rfl rfl hl.1 (Nat.le_of_ble_eq_true rfl) dX7_canMesh_113 ⟨by rw [hR]; exact Nat.le_of_ble_eq_true rfl, by rw [hR]; exact Nat.le_of_ble_eq_true rfl⟩ rfl (fun r45 w46 H locs h47 hP hS => ?_)
                  have hr45 := h47.1
                  rw [h47.2] at hP
                  rw [hr45]
                  refine lv_aload_n hx hb dX7_canMesh_116 rfl (lv_at hl 0 rfl) ?_
                  refine lv_iload_n hx hb dX7_canMesh_117 rfl (lv_at hl 1 rfl) ?_
                  refine g_Vi (As := [.int (nI ga)]) (rest := [.int (iL (S 5 gb))]) F hP hS (k_X7_teeth l A G w md S _ _ _ Fm L ga hx0 hy4 Hf Hi hga) (cwV 1 hts gX7_canMesh_X7_teeth rfl rfl rfl cd_X7_teeth ⟨by rw [hR]; exact Nat.le_of_ble_eq_true rfl, by rw [hR]; exact Nat.le_of_ble_eq_true rfl⟩) hx0 rfl rfl rfl hl.1 (Nat.le_of_ble_eq_true rfl) dX7_canMesh_118 ⟨by rw [hR]; exact Nat.le_of_ble_eq_true rfl, by rw [hR]; exact Nat.le_of_ble_eq_true rfl⟩ rfl (fun r48 w49 H locs h50 hP hS => ?_)
                  have hr48 := h50.1
                  rw [h50.2] at hP
                  rw [hr48]
                  refine lv_icmp_le (tgt := 128) hx hb dX7_canMesh_121 (by decide) (fun c51 => ?_) (fun c51 => ?_)
                  · rw [iL_le (a := S 5 gb) (b := S 5 ga) (by omega) (by omega) (by omega) (by omega)] at c51
                    refine lv_iconst (v := 0) hx hb dX7_canMesh_128 (by decide) ?_
                    rw [hQ]
                    refine g_zret F hP hS hlocks hr (by first | rfl | exact g_nb _) dX7_canMesh_129 (by first | exact Nat.le_of_ble_eq_true rfl | omega) (by first | exact Nat.le_of_ble_eq_true rfl | omega) ?_
                    exact ⟨⟨false, rfl, ⟨fun q => (nomatch q), fun ⟨q1, q2⟩ => False.elim (by omega)⟩⟩, rfl⟩
                  · rw [iL_le (a := S 5 gb) (b := S 5 ga) (by omega) (by omega) (by omega) (by omega)] at c51
                    refine lv_iconst (v := 1) hx hb dX7_canMesh_124 (by decide) ?_
                    refine lv_goto (tgt := 129) hx hb dX7_canMesh_125 (by decide) ?_
                    rw [hQ]
                    refine g_zret F hP hS hlocks hr (by first | rfl | exact g_nb _) dX7_canMesh_129 (by first | exact Nat.le_of_ble_eq_true rfl | omega) (by first | exact Nat.le_of_ble_eq_true rfl | omega) ?_
                    exact ⟨⟨true, rfl, ⟨fun _ => ⟨by omega, yc26⟩, fun _ => rfl⟩⟩, rfl⟩
                · have yc44 := of_decide_eq_true (g_b1.mp c44)
                  refine lv_aload_n hx hb dX7_canMesh_95 rfl (lv_at hl 0 rfl) ?_
                  refine lv_iload_n hx hb dX7_canMesh_96 rfl (lv_at hl 1 rfl) ?_
                  refine g_Vi (As := [.int (nI ga)]) (rest := []) F hP hS (k_X7_teeth l A G w md S _ _ _ Fm L ga hx0 hy4 Hf Hi hga) (cwV 1 hts gX7_canMesh_X7_teeth rfl rfl rfl cd_X7_teeth ⟨by rw [hR]; exact Nat.le_of_ble_eq_true rfl, by rw [hR]; exact Nat.le_of_ble_eq_true rfl⟩) hx0 rfl rfl rfl hl.1 (Nat.le_of_ble_eq_true rfl) dX7_canMesh_97 ⟨by rw [hR]; exact Nat.le_of_ble_eq_true rfl, by rw [hR]; exact Nat.le_of_ble_eq_true rfl⟩ rfl (fun r52 w53 H locs h54 hP hS => ?_)
                  have hr52 := h54.1
                  rw [h54.2] at hP
                  rw [hr52]
                  refine lv_aload_n hx hb dX7_canMesh_100 rfl (lv_at hl 0 rfl) ?_
                  refine lv_iload_n hx hb dX7_canMesh_101 rfl (lv_at hl 2 rfl) ?_
                  refine g_Vi (As := [.int (nI gb)]) (rest := [.int (iL (S 5 ga))]) F hP hS (k_X7_teeth l A G w md S _ _ _ Fm L gb hx0 hy4 Hf Hi hgb) (cwV 1 hts gX7_canMesh_X7_teeth rfl rfl rfl cd_X7_teeth ⟨by rw [hR]; exact Nat.le_of_ble_eq_true rfl, by rw [hR]; exact Nat.le_of_ble_eq_true rfl⟩) hx0 rfl rfl rfl hl.1 (Nat.le_of_ble_eq_true rfl) dX7_canMesh_102 ⟨by rw [hR]; exact Nat.le_of_ble_eq_true rfl, by rw [hR]; exact Nat.le_of_ble_eq_true rfl⟩ rfl (fun r55 w56 H locs h57 hP hS => ?_)
                  have hr55 := h57.1
                  rw [h57.2] at hP
                  rw [hr55]
                  refine lv_icmp_le (tgt := 128) hx hb dX7_canMesh_105 (by decide) (fun c58 => ?_) (fun c58 => ?_)
                  · rw [iL_le (a := S 5 ga) (b := S 5 gb) (by omega) (by omega) (by omega) (by omega)] at c58
                    refine lv_iconst (v := 0) hx hb dX7_canMesh_128 (by decide) ?_
                    rw [hQ]
                    refine g_zret F hP hS hlocks hr (by first | rfl | exact g_nb _) dX7_canMesh_129 (by first | exact Nat.le_of_ble_eq_true rfl | omega) (by first | exact Nat.le_of_ble_eq_true rfl | omega) ?_
                    exact ⟨⟨false, rfl, ⟨fun q => (nomatch q), fun ⟨q1, q2⟩ => False.elim (by omega)⟩⟩, rfl⟩
                  · rw [iL_le (a := S 5 ga) (b := S 5 gb) (by omega) (by omega) (by omega) (by omega)] at c58
                    refine lv_goto (tgt := 124) hx hb dX7_canMesh_108 (by decide) ?_
                    refine lv_iconst (v := 1) hx hb dX7_canMesh_124 (by decide) ?_
                    refine lv_goto (tgt := 129) hx hb dX7_canMesh_125 (by decide) ?_
                    rw [hQ]
                    refine g_zret F hP hS hlocks hr (by first | rfl | exact g_nb _) dX7_canMesh_129 (by first | exact Nat.le_of_ble_eq_true rfl | omega) (by first | exact Nat.le_of_ble_eq_true rfl | omega) ?_
                    exact ⟨⟨true, rfl, ⟨fun _ => ⟨by omega, yc26⟩, fun _ => rfl⟩⟩, rfl⟩
          · have yc26 : meshedP S ga gb := hb0.mp (g_b1.mp c26)
            refine lv_iconst (v := 0) hx hb dX7_canMesh_66 (by decide) ?_
            rw [hQ]
            refine g_zret F hP hS hlocks hr (by first | rfl | exact g_nb _) dX7_canMesh_67 (by first | exact Nat.le_of_ble_eq_true rfl | omega) (by first | exact Nat.le_of_ble_eq_true rfl | omega) ?_
            exact ⟨⟨false, rfl, ⟨fun q => (nomatch q), fun ⟨q1, q2⟩ => False.elim (by first | exact q2 yc26 | omega)⟩⟩, rfl⟩
        · have yc22 := of_decide_eq_true (g_b1.mp c22)
          refine lv_aload_n hx hb dX7_canMesh_48 rfl (lv_at hl 0 rfl) ?_
          refine g_get F hP (C := RX7) (T := TX7) (N := 20) iX7 hx0 rfl 9 (by decide) (List.mem_cons_of_mem _ (List.mem_append_left _ (List.mem_append_left _ (List.mem_of_getElem? (i := 0) rfl)))) (fun _ h9 => h9) rfl dX7_canMesh_49 ?_
          refine lv_iload_n hx hb dX7_canMesh_52 rfl (lv_at hl 2 rfl) ?_
          refine g_zald F hP hy5 (vp_in_nI (by omega) (by decide)) dX7_canMesh_53 ?_
          rw [show (.int ((Fm 5) (nI gb : Int32).toNatClampNeg) : Value) = .int (g_b (decide (S 8 gb = 1))) from by rw [nI_clamp (by omega), (Hf.2.1 gb hgb).2.2.2.2, iL_b (Hi.2.2.1 gb hgb).2.2.2.2.2.2.2.2]]
          refine lv_if_ne (tgt := 66) hx hb dX7_canMesh_54 (by decide) (fun c59 => ?_) (fun c59 => ?_)
          · have yc59 := of_decide_eq_true (g_b1.mp c59)
            refine lv_iconst (v := 0) hx hb dX7_canMesh_66 (by decide) ?_
            rw [hQ]
            refine g_zret F hP hS hlocks hr (by first | rfl | exact g_nb _) dX7_canMesh_67 (by first | exact Nat.le_of_ble_eq_true rfl | omega) (by first | exact Nat.le_of_ble_eq_true rfl | omega) ?_
            exact ⟨⟨false, rfl, ⟨fun q => (nomatch q), fun ⟨q1, q2⟩ => False.elim (by omega)⟩⟩, rfl⟩
          · have yc59 := of_decide_eq_false (g_b0.mp c59)
            refine lv_aload_n hx hb dX7_canMesh_57 rfl (lv_at hl 0 rfl) ?_
            refine lv_iload_n hx hb dX7_canMesh_58 rfl (lv_at hl 1 rfl) ?_
            refine lv_iload_n hx hb dX7_canMesh_59 rfl (lv_at hl 2 rfl) ?_
            refine g_Vi (As := [.int (nI ga), .int (nI gb)]) (rest := []) F hP hS (k_X7_areMeshed l A G w md S _ _ _ Fm L ga gb hx0 hy6 hy7 Hf Hi hga hgb) (cwV 2 hts gX7_canMesh_X7_areMeshed rfl rfl rfl cd_X7_areMeshed ⟨by rw [hR]; exact Nat.le_of_ble_eq_true rfl, by rw [hR]; exact Nat.le_of_ble_eq_true rfl⟩) hx0 rfl rfl rfl hl.1 (Nat.le_of_ble_eq_true rfl) dX7_canMesh_60 ⟨by rw [hR]; exact Nat.le_of_ble_eq_true rfl, by rw [hR]; exact Nat.le_of_ble_eq_true rfl⟩ rfl (fun r60 w61 H locs h62 hP hS => ?_)
            obtain ⟨b0, eb0, hb0⟩ := h62.1
            rw [h62.2] at hP
            rw [eb0]
            refine lv_if_eq (tgt := 68) hx hb dX7_canMesh_63 (by decide) (fun c63 => ?_) (fun c63 => ?_)
            · have yc63 : ¬ meshedP S ga gb := fun q => by
                have q1 : b0 = false := g_b0.mp c63
                rw [hb0.mpr q] at q1
                cases q1
              refine lv_aload_n hx hb dX7_canMesh_68 rfl (lv_at hl 0 rfl) ?_
              refine g_get F hP (C := RX7) (T := TX7) (N := 20) iX7 hx0 rfl 9 (by decide) (List.mem_cons_of_mem _ (List.mem_append_left _ (List.mem_append_left _ (List.mem_of_getElem? (i := 0) rfl)))) (fun _ h9 => h9) rfl dX7_canMesh_69 ?_
              refine lv_iload_n hx hb dX7_canMesh_72 rfl (lv_at hl 1 rfl) ?_
              refine g_zald F hP hy5 (vp_in_nI (by omega) (by decide)) dX7_canMesh_73 ?_
              rw [show (.int ((Fm 5) (nI ga : Int32).toNatClampNeg) : Value) = .int (g_b (decide (S 8 ga = 1))) from by rw [nI_clamp (by omega), (Hf.2.1 ga hga).2.2.2.2, iL_b (Hi.2.2.1 ga hga).2.2.2.2.2.2.2.2]]
              refine lv_if_ne (tgt := 86) hx hb dX7_canMesh_74 (by decide) (fun c64 => ?_) (fun c64 => ?_)
              · have yc64 := of_decide_eq_true (g_b1.mp c64)
                refine lv_aload_n hx hb dX7_canMesh_86 rfl (lv_at hl 0 rfl) ?_
                refine g_get F hP (C := RX7) (T := TX7) (N := 20) iX7 hx0 rfl 9 (by decide) (List.mem_cons_of_mem _ (List.mem_append_left _ (List.mem_append_left _ (List.mem_of_getElem? (i := 0) rfl)))) (fun _ h9 => h9) rfl dX7_canMesh_87 ?_
                refine lv_iload_n hx hb dX7_canMesh_90 rfl (lv_at hl 1 rfl) ?_
                refine g_zald F hP hy5 (vp_in_nI (by omega) (by decide)) dX7_canMesh_91 ?_
                rw [show (.int ((Fm 5) (nI ga : Int32).toNatClampNeg) : Value) = .int (g_b (decide (S 8 ga = 1))) from by rw [nI_clamp (by omega), (Hf.2.1 ga hga).2.2.2.2, iL_b (Hi.2.2.1 ga hga).2.2.2.2.2.2.2.2]]
                refine lv_if_eq (tgt := 111) hx hb dX7_canMesh_92 (by decide) (fun c65 => ?_) (fun c65 => ?_)
                · have yc65 := of_decide_eq_false (g_b0.mp c65)
                  refine lv_aload_n hx hb dX7_canMesh_111 rfl (lv_at hl 0 rfl) ?_
                  refine lv_iload_n hx hb dX7_canMesh_112 rfl (lv_at hl 2 rfl) ?_
                  refine g_Vi (As := [.int (nI gb)]) (rest := []) F hP hS (k_X7_teeth l A G w md S _ _ _ Fm L gb hx0 hy4 Hf Hi hgb) (cwV 1 hts gX7_canMesh_X7_teeth rfl rfl rfl cd_X7_teeth ⟨by rw [hR]; exact Nat.le_of_ble_eq_true rfl, by rw [hR]; exact Nat.le_of_ble_eq_true rfl⟩) hx0 rfl rfl rfl hl.1 (Nat.le_of_ble_eq_true rfl) dX7_canMesh_113 ⟨by rw [hR]; exact Nat.le_of_ble_eq_true rfl, by rw [hR]; exact Nat.le_of_ble_eq_true rfl⟩ rfl (fun r66 w67 H locs h68 hP hS => ?_)
                  have hr66 := h68.1
                  rw [h68.2] at hP
                  rw [hr66]
                  refine lv_aload_n hx hb dX7_canMesh_116 rfl (lv_at hl 0 rfl) ?_
                  refine lv_iload_n hx hb dX7_canMesh_117 rfl (lv_at hl 1 rfl) ?_
                  refine g_Vi (As := [.int (nI ga)]) (rest := [.int (iL (S 5 gb))]) F hP hS (k_X7_teeth l A G w md S _ _ _ Fm L ga hx0 hy4 Hf Hi hga) (cwV 1 hts gX7_canMesh_X7_teeth rfl rfl rfl cd_X7_teeth ⟨by rw [hR]; exact Nat.le_of_ble_eq_true rfl, by rw [hR]; exact Nat.le_of_ble_eq_true rfl⟩) hx0 rfl rfl rfl hl.1 (Nat.le_of_ble_eq_true rfl) dX7_canMesh_118 ⟨by rw [hR]; exact Nat.le_of_ble_eq_true rfl, by rw [hR]; exact Nat.le_of_ble_eq_true rfl⟩ rfl (fun r69 w70 H locs h71 hP hS => ?_)
                  have hr69 := h71.1
                  rw [h71.2] at hP
                  rw [hr69]
                  refine lv_icmp_le (tgt := 128) hx hb dX7_canMesh_121 (by decide) (fun c72 => ?_) (fun c72 => ?_)
                  · rw [iL_le (a := S 5 gb) (b := S 5 ga) (by omega) (by omega) (by omega) (by omega)] at c72
                    refine lv_iconst (v := 0) hx hb dX7_canMesh_128 (by decide) ?_
                    rw [hQ]
                    refine g_zret F hP hS hlocks hr (by first | rfl | exact g_nb _) dX7_canMesh_129 (by first | exact Nat.le_of_ble_eq_true rfl | omega) (by first | exact Nat.le_of_ble_eq_true rfl | omega) ?_
                    exact ⟨⟨false, rfl, ⟨fun q => (nomatch q), fun ⟨q1, q2⟩ => False.elim (by omega)⟩⟩, rfl⟩
                  · rw [iL_le (a := S 5 gb) (b := S 5 ga) (by omega) (by omega) (by omega) (by omega)] at c72
                    refine lv_iconst (v := 1) hx hb dX7_canMesh_124 (by decide) ?_
                    refine lv_goto (tgt := 129) hx hb dX7_canMesh_125 (by decide) ?_
                    rw [hQ]
                    refine g_zret F hP hS hlocks hr (by first | rfl | exact g_nb _) dX7_canMesh_129 (by first | exact Nat.le_of_ble_eq_true rfl | omega) (by first | exact Nat.le_of_ble_eq_true rfl | omega) ?_
                    exact ⟨⟨true, rfl, ⟨fun _ => ⟨by omega, yc63⟩, fun _ => rfl⟩⟩, rfl⟩
                · have yc65 := of_decide_eq_true (g_b1.mp c65)
                  refine lv_aload_n hx hb dX7_canMesh_95 rfl (lv_at hl 0 rfl) ?_
                  refine lv_iload_n hx hb dX7_canMesh_96 rfl (lv_at hl 1 rfl) ?_
                  refine g_Vi (As := [.int (nI ga)]) (rest := []) F hP hS (k_X7_teeth l A G w md S _ _ _ Fm L ga hx0 hy4 Hf Hi hga) (cwV 1 hts gX7_canMesh_X7_teeth rfl rfl rfl cd_X7_teeth ⟨by rw [hR]; exact Nat.le_of_ble_eq_true rfl, by rw [hR]; exact Nat.le_of_ble_eq_true rfl⟩) hx0 rfl rfl rfl hl.1 (Nat.le_of_ble_eq_true rfl) dX7_canMesh_97 ⟨by rw [hR]; exact Nat.le_of_ble_eq_true rfl, by rw [hR]; exact Nat.le_of_ble_eq_true rfl⟩ rfl (fun r73 w74 H locs h75 hP hS => ?_)
                  have hr73 := h75.1
                  rw [h75.2] at hP
                  rw [hr73]
                  refine lv_aload_n hx hb dX7_canMesh_100 rfl (lv_at hl 0 rfl) ?_
                  refine lv_iload_n hx hb dX7_canMesh_101 rfl (lv_at hl 2 rfl) ?_
                  refine g_Vi (As := [.int (nI gb)]) (rest := [.int (iL (S 5 ga))]) F hP hS (k_X7_teeth l A G w md S _ _ _ Fm L gb hx0 hy4 Hf Hi hgb) (cwV 1 hts gX7_canMesh_X7_teeth rfl rfl rfl cd_X7_teeth ⟨by rw [hR]; exact Nat.le_of_ble_eq_true rfl, by rw [hR]; exact Nat.le_of_ble_eq_true rfl⟩) hx0 rfl rfl rfl hl.1 (Nat.le_of_ble_eq_true rfl) dX7_canMesh_102 ⟨by rw [hR]; exact Nat.le_of_ble_eq_true rfl, by rw [hR]; exact Nat.le_of_ble_eq_true rfl⟩ rfl (fun r76 w77 H locs h78 hP hS => ?_)
                  have hr76 := h78.1
                  rw [h78.2] at hP
                  rw [hr76]
                  refine lv_icmp_le (tgt := 128) hx hb dX7_canMesh_105 (by decide) (fun c79 => ?_) (fun c79 => ?_)
                  · rw [iL_le (a := S 5 ga) (b := S 5 gb) (by omega) (by omega) (by omega) (by omega)] at c79
                    refine lv_iconst (v := 0) hx hb dX7_canMesh_128 (by decide) ?_
                    rw [hQ]
                    refine g_zret F hP hS hlocks hr (by first | rfl | exact g_nb _) dX7_canMesh_129 (by first | exact Nat.le_of_ble_eq_true rfl | omega) (by first | exact Nat.le_of_ble_eq_true rfl | omega) ?_
                    exact ⟨⟨false, rfl, ⟨fun q => (nomatch q), fun ⟨q1, q2⟩ => False.elim (by omega)⟩⟩, rfl⟩
                  · rw [iL_le (a := S 5 ga) (b := S 5 gb) (by omega) (by omega) (by omega) (by omega)] at c79
                    refine lv_goto (tgt := 124) hx hb dX7_canMesh_108 (by decide) ?_
                    refine lv_iconst (v := 1) hx hb dX7_canMesh_124 (by decide) ?_
                    refine lv_goto (tgt := 129) hx hb dX7_canMesh_125 (by decide) ?_
                    rw [hQ]
                    refine g_zret F hP hS hlocks hr (by first | rfl | exact g_nb _) dX7_canMesh_129 (by first | exact Nat.le_of_ble_eq_true rfl | omega) (by first | exact Nat.le_of_ble_eq_true rfl | omega) ?_
                    exact ⟨⟨true, rfl, ⟨fun _ => ⟨by omega, yc63⟩, fun _ => rfl⟩⟩, rfl⟩
              · have yc64 := of_decide_eq_false (g_b0.mp c64)
                refine lv_aload_n hx hb dX7_canMesh_77 rfl (lv_at hl 0 rfl) ?_
                refine g_get F hP (C := RX7) (T := TX7) (N := 20) iX7 hx0 rfl 9 (by decide) (List.mem_cons_of_mem _ (List.mem_append_left _ (List.mem_append_left _ (List.mem_of_getElem? (i := 0) rfl)))) (fun _ h9 => h9) rfl dX7_canMesh_78 ?_
                refine lv_iload_n hx hb dX7_canMesh_81 rfl (lv_at hl 2 rfl) ?_
                refine g_zald F hP hy5 (vp_in_nI (by omega) (by decide)) dX7_canMesh_82 ?_
                rw [show (.int ((Fm 5) (nI gb : Int32).toNatClampNeg) : Value) = .int (g_b (decide (S 8 gb = 1))) from by rw [nI_clamp (by omega), (Hf.2.1 gb hgb).2.2.2.2, iL_b (Hi.2.2.1 gb hgb).2.2.2.2.2.2.2.2]]
                refine lv_if_eq (tgt := 124) hx hb dX7_canMesh_83 (by decide) (fun c80 => ?_) (fun c80 => ?_)
                · have yc80 := of_decide_eq_false (g_b0.mp c80)
                  refine lv_iconst (v := 1) hx hb dX7_canMesh_124 (by decide) ?_
                  refine lv_goto (tgt := 129) hx hb dX7_canMesh_125 (by decide) ?_
                  rw [hQ]
                  refine g_zret F hP hS hlocks hr (by first | rfl | exact g_nb _) dX7_canMesh_129 (by first | exact Nat.le_of_ble_eq_true rfl | omega) (by first | exact Nat.le_of_ble_eq_true rfl | omega) ?_
                  exact ⟨⟨true, rfl, ⟨fun _ => ⟨by omega, yc63⟩, fun _ => rfl⟩⟩, rfl⟩
                · have yc80 := of_decide_eq_true (g_b1.mp c80)
                  refine lv_aload_n hx hb dX7_canMesh_86 rfl (lv_at hl 0 rfl) ?_
                  refine g_get F hP (C := RX7) (T := TX7) (N := 20) iX7 hx0 rfl 9 (by decide) (List.mem_cons_of_mem _ (List.mem_append_left _ (List.mem_append_left _ (List.mem_of_getElem? (i := 0) rfl)))) (fun _ h9 => h9) rfl dX7_canMesh_87 ?_
                  refine lv_iload_n hx hb dX7_canMesh_90 rfl (lv_at hl 1 rfl) ?_
                  refine g_zald F hP hy5 (vp_in_nI (by omega) (by decide)) dX7_canMesh_91 ?_
                  rw [show (.int ((Fm 5) (nI ga : Int32).toNatClampNeg) : Value) = .int (g_b (decide (S 8 ga = 1))) from by rw [nI_clamp (by omega), (Hf.2.1 ga hga).2.2.2.2, iL_b (Hi.2.2.1 ga hga).2.2.2.2.2.2.2.2]]
                  refine lv_if_eq (tgt := 111) hx hb dX7_canMesh_92 (by decide) (fun c81 => ?_) (fun c81 => ?_)
                  · have yc81 := of_decide_eq_false (g_b0.mp c81)
                    refine lv_aload_n hx hb dX7_canMesh_111 rfl (lv_at hl 0 rfl) ?_
                    refine lv_iload_n hx hb dX7_canMesh_112 rfl (lv_at hl 2 rfl) ?_
                    refine g_Vi (As := [.int (nI gb)]) (rest := []) F hP hS (k_X7_teeth l A G w md S _ _ _ Fm L gb hx0 hy4 Hf Hi hgb) (cwV 1 hts gX7_canMesh_X7_teeth rfl rfl rfl cd_X7_teeth ⟨by rw [hR]; exact Nat.le_of_ble_eq_true rfl, by rw [hR]; exact Nat.le_of_ble_eq_true rfl⟩) hx0 rfl rfl rfl hl.1 (Nat.le_of_ble_eq_true rfl) dX7_canMesh_113 ⟨by rw [hR]; exact Nat.le_of_ble_eq_true rfl, by rw [hR]; exact Nat.le_of_ble_eq_true rfl⟩ rfl (fun r82 w83 H locs h84 hP hS => ?_)
                    have hr82 := h84.1
                    rw [h84.2] at hP
                    rw [hr82]
                    refine lv_aload_n hx hb dX7_canMesh_116 rfl (lv_at hl 0 rfl) ?_
                    refine lv_iload_n hx hb dX7_canMesh_117 rfl (lv_at hl 1 rfl) ?_
                    refine g_Vi (As := [.int (nI ga)]) (rest := [.int (iL (S 5 gb))]) F hP hS (k_X7_teeth l A G w md S _ _ _ Fm L ga hx0 hy4 Hf Hi hga) (cwV 1 hts gX7_canMesh_X7_teeth rfl rfl rfl cd_X7_teeth ⟨by rw [hR]; exact Nat.le_of_ble_eq_true rfl, by rw [hR]; exact Nat.le_of_ble_eq_true rfl⟩) hx0 rfl rfl rfl hl.1 (Nat.le_of_ble_eq_true rfl) dX7_canMesh_118 ⟨by rw [hR]; exact Nat.le_of_ble_eq_true rfl, by rw [hR]; exact Nat.le_of_ble_eq_true rfl⟩ rfl (fun r85 w86 H locs h87 hP hS => ?_)
                    have hr85 := h87.1
                    rw [h87.2] at hP
                    rw [hr85]
                    refine lv_icmp_le (tgt := 128) hx hb dX7_canMesh_121 (by decide) (fun c88 => ?_) (fun c88 => ?_)
                    · rw [iL_le (a := S 5 gb) (b := S 5 ga) (by omega) (by omega) (by omega) (by omega)] at c88
                      refine lv_iconst (v := 0) hx hb dX7_canMesh_128 (by decide) ?_
                      rw [hQ]
                      refine g_zret F hP hS hlocks hr (by first | rfl | exact g_nb _) dX7_canMesh_129 (by first | exact Nat.le_of_ble_eq_true rfl | omega) (by first | exact Nat.le_of_ble_eq_true rfl | omega) ?_
                      exact ⟨⟨false, rfl, ⟨fun q => (nomatch q), fun ⟨q1, q2⟩ => False.elim (by omega)⟩⟩, rfl⟩
                    · rw [iL_le (a := S 5 gb) (b := S 5 ga) (by omega) (by omega) (by omega) (by omega)] at c88
                      refine lv_iconst (v := 1) hx hb dX7_canMesh_124 (by decide) ?_
                      refine lv_goto (tgt := 129) hx hb dX7_canMesh_125 (by decide) ?_
                      rw [hQ]
                      refine g_zret F hP hS hlocks hr (by first | rfl | exact g_nb _) dX7_canMesh_129 (by first | exact Nat.le_of_ble_eq_true rfl | omega) (by first | exact Nat.le_of_ble_eq_true rfl | omega) ?_
                      exact ⟨⟨true, rfl, ⟨fun _ => ⟨by omega, yc63⟩, fun _ => rfl⟩⟩, rfl⟩
                  · have yc81 := of_decide_eq_true (g_b1.mp c81)
                    refine lv_aload_n hx hb dX7_canMesh_95 rfl (lv_at hl 0 rfl) ?_
                    refine lv_iload_n hx hb dX7_canMesh_96 rfl (lv_at hl 1 rfl) ?_
                    refine g_Vi (As := [.int (nI ga)]) (rest := []) F hP hS (k_X7_teeth l A G w md S _ _ _ Fm L ga hx0 hy4 Hf Hi hga) (cwV 1 hts gX7_canMesh_X7_teeth rfl rfl rfl cd_X7_teeth ⟨by rw [hR]; exact Nat.le_of_ble_eq_true rfl, by rw [hR]; exact Nat.le_of_ble_eq_true rfl⟩) hx0 rfl rfl rfl hl.1 (Nat.le_of_ble_eq_true rfl) dX7_canMesh_97 ⟨by rw [hR]; exact Nat.le_of_ble_eq_true rfl, by rw [hR]; exact Nat.le_of_ble_eq_true rfl⟩ rfl (fun r89 w90 H locs h91 hP hS => ?_)
                    have hr89 := h91.1
                    rw [h91.2] at hP
                    rw [hr89]
                    refine lv_aload_n hx hb dX7_canMesh_100 rfl (lv_at hl 0 rfl) ?_
                    refine lv_iload_n hx hb dX7_canMesh_101 rfl (lv_at hl 2 rfl) ?_
                    refine g_Vi (As := [.int (nI gb)]) (rest := [.int (iL (S 5 ga))]) F hP hS (k_X7_teeth l A G w md S _ _ _ Fm L gb hx0 hy4 Hf Hi hgb) (cwV 1 hts gX7_canMesh_X7_teeth rfl rfl rfl cd_X7_teeth ⟨by rw [hR]; exact Nat.le_of_ble_eq_true rfl, by rw [hR]; exact Nat.le_of_ble_eq_true rfl⟩) hx0 rfl rfl rfl hl.1 (Nat.le_of_ble_eq_true rfl) dX7_canMesh_102 ⟨by rw [hR]; exact Nat.le_of_ble_eq_true rfl, by rw [hR]; exact Nat.le_of_ble_eq_true rfl⟩ rfl (fun r92 w93 H locs h94 hP hS => ?_)
                    have hr92 := h94.1
                    rw [h94.2] at hP
                    rw [hr92]
                    refine lv_icmp_le (tgt := 128) hx hb dX7_canMesh_105 (by decide) (fun c95 => ?_) (fun c95 => ?_)
                    · rw [iL_le (a := S 5 ga) (b := S 5 gb) (by omega) (by omega) (by omega) (by omega)] at c95
                      refine lv_iconst (v := 0) hx hb dX7_canMesh_128 (by decide) ?_
                      rw [hQ]
                      refine g_zret F hP hS hlocks hr (by first | rfl | exact g_nb _) dX7_canMesh_129 (by first | exact Nat.le_of_ble_eq_true rfl | omega) (by first | exact Nat.le_of_ble_eq_true rfl | omega) ?_
                      exact ⟨⟨false, rfl, ⟨fun q => (nomatch q), fun ⟨q1, q2⟩ => False.elim (by omega)⟩⟩, rfl⟩
                    · rw [iL_le (a := S 5 ga) (b := S 5 gb) (by omega) (by omega) (by omega) (by omega)] at c95
                      refine lv_goto (tgt := 124) hx hb dX7_canMesh_108 (by decide) ?_
                      refine lv_iconst (v := 1) hx hb dX7_canMesh_124 (by decide) ?_
                      refine lv_goto (tgt := 129) hx hb dX7_canMesh_125 (by decide) ?_
                      rw [hQ]
                      refine g_zret F hP hS hlocks hr (by first | rfl | exact g_nb _) dX7_canMesh_129 (by first | exact Nat.le_of_ble_eq_true rfl | omega) (by first | exact Nat.le_of_ble_eq_true rfl | omega) ?_
                      exact ⟨⟨true, rfl, ⟨fun _ => ⟨by omega, yc63⟩, fun _ => rfl⟩⟩, rfl⟩
            · have yc63 : meshedP S ga gb := hb0.mp (g_b1.mp c63)
              refine lv_iconst (v := 0) hx hb dX7_canMesh_66 (by decide) ?_
              rw [hQ]
              refine g_zret F hP hS hlocks hr (by first | rfl | exact g_nb _) dX7_canMesh_67 (by first | exact Nat.le_of_ble_eq_true rfl | omega) (by first | exact Nat.le_of_ble_eq_true rfl | omega) ?_
              exact ⟨⟨false, rfl, ⟨fun q => (nomatch q), fun ⟨q1, q2⟩ => False.elim (by first | exact q2 yc63 | omega)⟩⟩, rfl⟩
