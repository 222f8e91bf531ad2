theorem cd_X7_hasSpeed : yX7_hasSpeed.cls = RX7 ∧ yX7_hasSpeed.cls ≠ "java/lang/invoke/MethodHandle" ∧ yX7_hasSpeed.cls ≠ "java/lang/invoke/VarHandle" ∧ (parseMethodDescriptor yX7_hasSpeed.desc).map (fun d => d.parameters.length) = some 1 := by decide +kernel
theorem cd_X7_isInner : yX7_isInner.cls = RX7 ∧ yX7_isInner.cls ≠ "java/lang/invoke/MethodHandle" ∧ yX7_isInner.cls ≠ "java/lang/invoke/VarHandle" ∧ (parseMethodDescriptor yX7_isInner.desc).map (fun d => d.parameters.length) = some 1 := by decide +kernel
theorem cd_X7_tell : yX7_tell.cls = RX7 ∧ yX7_tell.cls ≠ "java/lang/invoke/MethodHandle" ∧ yX7_tell.cls ≠ "java/lang/invoke/VarHandle" ∧ (parseMethodDescriptor yX7_tell.desc).map (fun d => d.parameters.length) = some 2 := by decide +kernel
set_option maxHeartbeats 4000000 in
set_option maxRecDepth 100000 in
theorem k_X7_tellByMesh (l : Launch) (A : Nat → Prop) (G : g_C) (w : g_W) (md : Nat → Nat) (S : Sg) (th : Int32) (tp bt : Int64) (Fm : Nat → Nat → Int32) (L : Nat → Nat → Int64) (T : Sg) (mm pl : Nat) (Hm : modW G w md S th tp bt Fm L) (Hj : modI md) (Hf : modF S Fm) (Hi : invS S) (Ht : invT S T) (HT : modT S T Fm L) (hm : (mm : Int) < S 0 2) (hU : tUnk S T 0 mm pl) : mI l yX7_tellByMesh wsX7_tellByMesh ({ frames := 3, cells := 0, slots := 0, locals := 95 } : Room) [.ref (md 0), .int (nI mm)] A G w (fun r w' => r = g_b (decide (¬ (1000000 < (fN (tX S T 0 mm pl) (tY S T 0 mm pl)).natAbs ∨ 1000000 < fD (tX S T 0 mm pl) (tY S T 0 mm pl)))) ∧ solP G md w w' S (tTell S T 0 mm pl) th Fm) 0 0 := by
  refine g_ofI (cc := cX7_tellByMesh) (maxL := 8) (ret := (some .boolean)) (own := RX7) (by decide) rfl rfl (Nat.le_of_ble_eq_true rfl) ?_
  intro p e R s m args below meth c Q ls hR F hP hS hlocks hr hnm0 hQ hl
  obtain ⟨⟨hx, hb, hml, hown, hts⟩, hK, hZ, hA⟩ := id F
  generalize hH0 : s.heap = H at hP ⊢
  have hS : va_S A s.heap H [] := by rw [← hH0]; exact va_S.rf
  generalize ([] : List Loc) = locs at hS ⊢
  have hl : lv_has ls 8 [(0, .ref (md 0)), (1, .int (nI mm))] := hl
  have iX7 : ∀ w ∈ u_ws RX7 TX7 20, w ∈ wsX7_tellByMesh := fun w h => List.mem_cons_of_mem _ (List.mem_append_right _ (h))
  obtain ⟨hx0, hy1, hy2, hy3, hy4, hy5, hy6, hy7, hy8, hy9, hy10, hy11⟩ := id Hm
  have hi := Hi.1
  obtain ⟨a1, a2, a3, a4, a5⟩ := Hi.2.2.2.1 mm hm
  have hge0 : (((S 9 mm).toNat : Nat) : Int) < S 0 1 := by omega
  have hge1 : (((S 10 mm).toNat : Nat) : Int) < S 0 1 := by omega
  have g1 := Hi.2.2.1 (S 9 mm).toNat (by omega)
  have g2 := Hi.2.2.1 (S 10 mm).toNat (by omega)
  have hs0 : ((saM S mm 0 : Nat) : Int) < S 0 0 := tSa_lt (b := 0) Hi (by decide) hm 0
  have hs1 : ((saM S mm 1 : Nat) : Int) < S 0 0 := tSa_lt (b := 0) Hi (by decide) hm 1
  have t0 := Ht.1 _ hs0
  have t1 := Ht.1 _ hs1
  have hneg : nI (S 9 mm).toNat ≠ nI (S 10 mm).toNat := fun q => by
    have q1 := (nI_eq (a := (S 9 mm).toNat) (b := (S 10 mm).toNat) (by omega) (by omega)).mp q
    rw [q1] at a5
    exact a5 rfl
  refine lv_aload_n hx hb dX7_tellByMesh_0 rfl (lv_at hl 0 rfl) ?_
  refine g_get F hP (C := RX7) (T := TX7) (N := 20) iX7 hx0 rfl 11 (by decide) (List.mem_cons_of_mem _ (List.mem_append_left _ (List.mem_append_left _ (List.mem_of_getElem? (i := 0) rfl)))) (fun _ h9 => h9) rfl dX7_tellByMesh_1 ?_
  refine lv_iload_n hx hb dX7_tellByMesh_4 rfl (lv_at hl 1 rfl) ?_
  refine g_iald F hP hy6 (vp_in_nI (by omega) (by decide)) dX7_tellByMesh_5 ?_
  rw [show (.int ((Fm 6) (nI mm : Int32).toNatClampNeg) : Value) = .int (nI (S 9 mm).toNat) from by rw [nI_clamp (by omega), (Hf.2.2.1 mm hm).1, iL_nn (by omega)]]
  refine lv_istore_n (lv' := [(2, .int (nI (S 9 mm).toNat)), (0, .ref (md 0)), (1, .int (nI mm))]) hx hb dX7_tellByMesh_6 rfl hl (by decide) rfl (fun ls hl => ?_)
  refine lv_aload_n hx hb dX7_tellByMesh_7 rfl (lv_at hl 1 rfl) ?_
  refine g_get F hP (C := RX7) (T := TX7) (N := 20) iX7 hx0 rfl 12 (by decide) (List.mem_cons_of_mem _ (List.mem_append_left _ (List.mem_append_left _ (List.mem_of_getElem? (i := 1) rfl)))) (fun _ h9 => h9) rfl dX7_tellByMesh_8 ?_
  refine lv_iload_n hx hb dX7_tellByMesh_11 rfl (lv_at hl 2 rfl) ?_
  refine g_iald F hP hy7 (vp_in_nI (by omega) (by decide)) dX7_tellByMesh_12 ?_
  rw [show (.int ((Fm 7) (nI mm : Int32).toNatClampNeg) : Value) = .int (nI (S 10 mm).toNat) from by rw [nI_clamp (by omega), (Hf.2.2.1 mm hm).2, iL_nn (by omega)]]
  refine lv_istore_n (lv' := [(3, .int (nI (S 10 mm).toNat)), (2, .int (nI (S 9 mm).toNat)), (0, .ref (md 0)), (1, .int (nI mm))]) hx hb dX7_tellByMesh_13 rfl hl (by decide) rfl (fun ls hl => ?_)
  refine lv_aload_n hx hb dX7_tellByMesh_14 rfl (lv_at hl 2 rfl) ?_
  refine lv_aload_n hx hb dX7_tellByMesh_15 rfl (lv_at hl 2 rfl) ?_
  refine lv_iload_n hx hb dX7_tellByMesh_16 rfl (lv_at hl 1 rfl) ?_
  refine g_Vi (As := [.int (nI (S 9 mm).toNat)]) (rest := [.ref (md 0)]) F hP hS (k_X7_shaftOf l A G w md S _ _ _ Fm L (S 9 mm).toNat hx0 hy4 Hf Hi hge0) (cwV 1 hts gX7_tellByMesh_X7_shaftOf rfl rfl rfl cd_X7_shaftOf ⟨by rw [hR]; exact Nat.le_of_ble_eq_true rfl, by rw [hR]; exact Nat.le_of_ble_eq_true rfl⟩) hx0 rfl rfl rfl hl.1 (Nat.le_of_ble_eq_true rfl) dX7_tellByMesh_17 ⟨by rw [hR]; exact Nat.le_of_ble_eq_true rfl, by rw [hR]; exact Nat.le_of_ble_eq_true rfl⟩ rfl (fun r1 w2 H locs h3 hP hS => ?_)
  have hr1 := h3.1
  rw [h3.2] at hP
  rw [hr1]
  rw [show iL (S 4 (S 9 mm).toNat) = nI (saM S mm 0) from by rw [iL_nn (by omega)]; rfl]
  refine g_Vi (As := [.int (nI (saM S mm 0))]) (rest := []) F hP hS (k_X7_hasSpeed l A G w md S _ _ _ Fm L (saM S mm 0) (zB T (saM S mm 0)) hx0 hy10 (by have := hs0; omega) (zB_z HT hs0) (zB_b Ht hs0)) (cwV 1 hts gX7_tellByMesh_X7_hasSpeed rfl rfl rfl cd_X7_hasSpeed ⟨by rw [hR]; exact Nat.le_of_ble_eq_true rfl, by rw [hR]; exact Nat.le_of_ble_eq_true rfl⟩) hx0 rfl rfl rfl hl.1 (Nat.le_of_ble_eq_true rfl) dX7_tellByMesh_20 ⟨by rw [hR]; exact Nat.le_of_ble_eq_true rfl, by rw [hR]; exact Nat.le_of_ble_eq_true rfl⟩ rfl (fun r4 w5 H locs h6 hP hS => ?_)
  have hr4 := h6.1
  rw [h6.2] at hP
  rw [hr4]
  rw [zB_d Ht hs0]
  refine lv_if_eq (tgt := 30) hx hb dX7_tellByMesh_23 (by decide) (fun c7 => ?_) (fun c7 => ?_)
  · have yc7 := of_decide_eq_false (g_b0.mp c7)
    have yy : T 2 (saM S mm 0) = -1 := Decidable.not_not.mp yc7
    have pl0 : pl = 0 := by
      have q1 : pl < 2 := hU.1
      rcases (show pl = 0 ∨ pl = 1 by omega) with rfl | rfl
      · rfl
      · exact absurd yy (hU.2.2 0 (by decide) (by decide))
    subst pl0
    have u0 : T 2 (saM S mm 1) ≠ -1 := hU.2.2 1 (by decide) (by decide)
    have u1 : T 2 (saM S mm 0) = -1 := hU.2.1
    refine lv_iload_n hx hb dX7_tellByMesh_30 rfl (lv_at hl 0 rfl) ?_
    refine lv_istore (lv' := [(4, .int (nI (S 10 mm).toNat)), (3, .int (nI (S 10 mm).toNat)), (2, .int (nI (S 9 mm).toNat)), (0, .ref (md 0)), (1, .int (nI mm))]) hx hb dX7_tellByMesh_31 hl (by decide) rfl (fun ls hl => ?_)
    refine lv_iload hx hb dX7_tellByMesh_33 (lv_at hl 0 rfl) ?_
    refine lv_iload_n hx hb dX7_tellByMesh_35 rfl (lv_at hl 2 rfl) ?_
    refine lv_icmp_ne (tgt := 43) hx hb dX7_tellByMesh_36 (by decide) (fun c8 => ?_) (fun c8 => ?_)
    · refine lv_iload_n hx hb dX7_tellByMesh_43 rfl (lv_at hl 2 rfl) ?_
      refine lv_istore (lv' := [(5, .int (nI (S 9 mm).toNat)), (4, .int (nI (S 10 mm).toNat)), (3, .int (nI (S 10 mm).toNat)), (2, .int (nI (S 9 mm).toNat)), (0, .ref (md 0)), (1, .int (nI mm))]) hx hb dX7_tellByMesh_44 hl (by decide) rfl (fun ls hl => ?_)
      refine lv_aload_n hx hb dX7_tellByMesh_46 rfl (lv_at hl 4 rfl) ?_
      refine lv_iload_n hx hb dX7_tellByMesh_47 rfl (lv_at hl 5 rfl) ?_
      refine g_Vi (As := [.int (nI mm)]) (rest := []) F hP hS (k_X7_isInner l A G w md S _ _ _ Fm L mm hx0 hy5 hy6 hy7 Hf Hi hm) (cwV 1 hts gX7_tellByMesh_X7_isInner rfl rfl rfl cd_X7_isInner ⟨by rw [hR]; exact Nat.le_of_ble_eq_true rfl, by rw [hR]; exact Nat.le_of_ble_eq_true rfl⟩) hx0 rfl rfl rfl hl.1 (Nat.le_of_ble_eq_true rfl) dX7_tellByMesh_48 ⟨by rw [hR]; exact Nat.le_of_ble_eq_true rfl, by rw [hR]; exact Nat.le_of_ble_eq_true rfl⟩ rfl (fun r9 w10 H locs h11 hP hS => ?_)
      have hr9 := h11.1
      rw [h11.2] at hP
      rw [hr9]
      refine lv_if_eq (tgt := 58) hx hb dX7_tellByMesh_51 (by decide) (fun c12 => ?_) (fun c12 => ?_)
      · have yc12 := of_decide_eq_false (g_b0.mp c12)
        refine lv_ldc2 (v := -1) hx hb hown (hts _ (List.mem_cons_of_mem _ (List.mem_append_left _ (List.mem_append_left _ (List.mem_of_getElem? (i := 2) rfl))))) dX7_tellByMesh_58 ?_
        refine lv_lstore (lv' := [(6, .long (-1)), (5, .int (nI (S 9 mm).toNat)), (4, .int (nI (S 10 mm).toNat)), (3, .int (nI (S 10 mm).toNat)), (2, .int (nI (S 9 mm).toNat)), (0, .ref (md 0)), (1, .int (nI mm))]) hx hb dX7_tellByMesh_61 hl (by decide) rfl (fun ls hl => ?_)
        refine lv_aload_n hx hb dX7_tellByMesh_63 rfl (lv_at hl 5 rfl) ?_
        refine lv_lload hx hb dX7_tellByMesh_64 (lv_at hl 0 rfl) ?_
        refine lv_aload_n hx hb dX7_tellByMesh_66 rfl (lv_at hl 5 rfl) ?_
        refine g_get F hP (C := RX7) (T := TX7) (N := 20) iX7 hx0 rfl 15 (by decide) (List.mem_cons_of_mem _ (List.mem_append_left _ (List.mem_append_left _ (List.mem_of_getElem? (i := 3) rfl)))) (fun _ h9 => h9) rfl dX7_tellByMesh_67 ?_
        refine lv_aload_n hx hb dX7_tellByMesh_70 rfl (lv_at hl 5 rfl) ?_
        refine lv_iload hx hb dX7_tellByMesh_71 (lv_at hl 2 rfl) ?_
        refine g_Vi (As := [.int (nI (S 10 mm).toNat)]) (rest := [.ref (md 9), .long (-1), .ref (md 0)]) F hP hS (k_X7_shaftOf l A G w md S _ _ _ Fm L (S 10 mm).toNat hx0 hy4 Hf Hi hge1) (cwV 1 hts gX7_tellByMesh_X7_shaftOf rfl rfl rfl cd_X7_shaftOf ⟨by rw [hR]; exact Nat.le_of_ble_eq_true rfl, by rw [hR]; exact Nat.le_of_ble_eq_true rfl⟩) hx0 rfl rfl rfl hl.1 (Nat.le_of_ble_eq_true rfl) dX7_tellByMesh_73 ⟨by rw [hR]; exact Nat.le_of_ble_eq_true rfl, by rw [hR]; exact Nat.le_of_ble_eq_true rfl⟩ rfl (fun r13 w14 H locs h15 hP hS => ?_)
        have hr13 := h15.1
        rw [h15.2] at hP
        rw [hr13]
        rw [show iL (S 4 (S 10 mm).toNat) = nI (saM S mm 1) from by rw [iL_nn (by omega)]; rfl]
        refine g_lald F hP hy9 (vp_in_nI (by omega) (by decide)) dX7_tellByMesh_76 ?_
        rw [show (.long ((L 0) (nI (saM S mm 1) : Int32).toNatClampNeg) : Value) = .long (zL (T 0 (saM S mm 1))) from by rw [nI_clamp (by omega), (HT _ hs1).1]]
        refine lv_lmul hx hb dX7_tellByMesh_77 ?_
        refine lv_topl (fun v16 ev16 => ?_)
        obtain rfl : v16 = zL ((-1) * T 0 (saM S mm 1)) := by
          rw [ev16]
          rw [show ((-1) : Int64) = zL (-1) from by decide]; exact zL_mul _ _
        refine lv_aload_n hx hb dX7_tellByMesh_78 rfl (lv_at hl 5 rfl) ?_
        refine lv_iload hx hb dX7_tellByMesh_79 (lv_at hl 2 rfl) ?_
        refine g_Vi (As := [.int (nI (S 10 mm).toNat)]) (rest := [.long (zL ((-1) * T 0 (saM S mm 1))), .ref (md 0)]) F hP hS (k_X7_teeth l A G w md S _ _ _ Fm L (S 10 mm).toNat hx0 hy4 Hf Hi hge1) (cwV 1 hts gX7_tellByMesh_X7_teeth rfl rfl rfl cd_X7_teeth ⟨by rw [hR]; exact Nat.le_of_ble_eq_true rfl, by rw [hR]; exact Nat.le_of_ble_eq_true rfl⟩) hx0 rfl rfl rfl hl.1 (Nat.le_of_ble_eq_true rfl) dX7_tellByMesh_81 ⟨by rw [hR]; exact Nat.le_of_ble_eq_true rfl, by rw [hR]; exact Nat.le_of_ble_eq_true rfl⟩ rfl (fun r17 w18 H locs h19 hP hS => ?_)
        have hr17 := h19.1
        rw [h19.2] at hP
        rw [hr17]
        refine lv_i2l hx hb dX7_tellByMesh_84 rfl ?_
        refine lv_topl (fun v20 ev20 => ?_)
        obtain rfl : v20 = zL (S 5 (S 10 mm).toNat) := by
          rw [ev20]
          exact iL64 (by omega) (by omega)
        refine lv_lmul hx hb dX7_tellByMesh_85 ?_
        refine lv_topl (fun v21 ev21 => ?_)
        obtain rfl : v21 = zL ((-1) * T 0 (saM S mm 1) * S 5 (S 10 mm).toNat) := by
          rw [ev21]
          exact zL_mul _ _
        refine lv_aload_n hx hb dX7_tellByMesh_86 rfl (lv_at hl 5 rfl) ?_
        refine g_get F hP (C := RX7) (T := TX7) (N := 20) iX7 hx0 rfl 16 (by decide) (List.mem_cons_of_mem _ (List.mem_append_left _ (List.mem_append_left _ (List.mem_of_getElem? (i := 4) rfl)))) (fun _ h9 => h9) rfl dX7_tellByMesh_87 ?_
        refine lv_aload_n hx hb dX7_tellByMesh_90 rfl (lv_at hl 5 rfl) ?_
        refine lv_iload hx hb dX7_tellByMesh_91 (lv_at hl 2 rfl) ?_
        refine g_Vi (As := [.int (nI (S 10 mm).toNat)]) (rest := [.ref (md 10), .long (zL ((-1) * T 0 (saM S mm 1) * S 5 (S 10 mm).toNat)), .ref (md 0)]) F hP hS (k_X7_shaftOf l A G w md S _ _ _ Fm L (S 10 mm).toNat hx0 hy4 Hf Hi hge1) (cwV 1 hts gX7_tellByMesh_X7_shaftOf rfl rfl rfl cd_X7_shaftOf ⟨by rw [hR]; exact Nat.le_of_ble_eq_true rfl, by rw [hR]; exact Nat.le_of_ble_eq_true rfl⟩) hx0 rfl rfl rfl hl.1 (Nat.le_of_ble_eq_true rfl) dX7_tellByMesh_93 ⟨by rw [hR]; exact Nat.le_of_ble_eq_true rfl, by rw [hR]; exact Nat.le_of_ble_eq_true rfl⟩ rfl (fun r22 w23 H locs h24 hP hS => ?_)
        have hr22 := h24.1
        rw [h24.2] at hP
        rw [hr22]
        rw [show iL (S 4 (S 10 mm).toNat) = nI (saM S mm 1) from by rw [iL_nn (by omega)]; rfl]
        refine g_lald F hP hy10 (vp_in_nI (by omega) (by decide)) dX7_tellByMesh_96 ?_
        rw [show (.long ((L 1) (nI (saM S mm 1) : Int32).toNatClampNeg) : Value) = .long (zL (T 1 (saM S mm 1))) from by rw [nI_clamp (by omega), (HT _ hs1).2.1, if_neg u0]]
        refine lv_aload_n hx hb dX7_tellByMesh_97 rfl (lv_at hl 5 rfl) ?_
        refine lv_iload hx hb dX7_tellByMesh_98 (lv_at hl 1 rfl) ?_
        refine g_Vi (As := [.int (nI (S 9 mm).toNat)]) (rest := [.long (zL (T 1 (saM S mm 1))), .long (zL ((-1) * T 0 (saM S mm 1) * S 5 (S 10 mm).toNat)), .ref (md 0)]) F hP hS (k_X7_teeth l A G w md S _ _ _ Fm L (S 9 mm).toNat hx0 hy4 Hf Hi hge0) (cwV 1 hts gX7_tellByMesh_X7_teeth rfl rfl rfl cd_X7_teeth ⟨by rw [hR]; exact Nat.le_of_ble_eq_true rfl, by rw [hR]; exact Nat.le_of_ble_eq_true rfl⟩) hx0 rfl rfl rfl hl.1 (Nat.le_of_ble_eq_true rfl) dX7_tellByMesh_100 ⟨by rw [hR]; exact Nat.le_of_ble_eq_true rfl, by rw [hR]; exact Nat.le_of_ble_eq_true rfl⟩ rfl (fun r25 w26 H locs h27 hP hS => ?_)
        have hr25 := h27.1
        rw [h27.2] at hP
        rw [hr25]
        refine lv_i2l hx hb dX7_tellByMesh_103 rfl ?_
        refine lv_topl (fun v28 ev28 => ?_)
        obtain rfl : v28 = zL (S 5 (S 9 mm).toNat) := by
          rw [ev28]
          exact iL64 (by omega) (by omega)
        refine lv_lmul hx hb dX7_tellByMesh_104 ?_
        refine lv_topl (fun v29 ev29 => ?_)
        obtain rfl : v29 = zL (T 1 (saM S mm 1) * S 5 (S 9 mm).toNat) := by
          rw [ev29]
          exact zL_mul _ _
        have same := mesh_s0 Hi Ht hm (sg := (-1)) (Or.inr ⟨yc12, rfl⟩)
        have hbX : ((-1) * T 0 (saM S mm 1) * S 5 (S 10 mm).toNat).natAbs ≤ 1 * 1000000 * 200 := by
          rw [Int.natAbs_mul, Int.natAbs_mul]
          exact Nat.mul_le_mul (Nat.mul_le_mul (by decide) (by omega)) (by omega)
        have hbY : (T 1 (saM S mm 1) * S 5 (S 9 mm).toNat).natAbs ≤ 1000000 * 200 := by
          rw [Int.natAbs_mul]
          exact Nat.mul_le_mul (by omega) (by omega)
        have hnN := fN_le ((-1) * T 0 (saM S mm 1) * S 5 (S 10 mm).toNat) (T 1 (saM S mm 1) * S 5 (S 9 mm).toNat)
        have hnD := fD_le ((-1) * T 0 (saM S mm 1) * S 5 (S 10 mm).toNat) (T 1 (saM S mm 1) * S 5 (S 9 mm).toNat)
        refine g_Vv (As := [.long (zL ((-1) * T 0 (saM S mm 1) * S 5 (S 10 mm).toNat)), .long (zL (T 1 (saM S mm 1) * S 5 (S 9 mm).toNat))]) (rest := []) F hP hS (k_X7_make l A G w md S _ _ _ Fm L ((-1) * T 0 (saM S mm 1) * S 5 (S 10 mm).toNat) (T 1 (saM S mm 1) * S 5 (S 9 mm).toNat) hx0 (Int.mul_ne_zero (by omega) (by omega)) (by omega) (by omega)) (cwV 2 hts gX7_tellByMesh_X7_make rfl rfl rfl cd_X7_make ⟨by rw [hR]; exact Nat.le_of_ble_eq_true rfl, by rw [hR]; exact Nat.le_of_ble_eq_true rfl⟩) hx0 rfl rfl rfl hl.1 (Nat.le_of_ble_eq_true rfl) dX7_tellByMesh_105 ⟨by rw [hR]; exact Nat.le_of_ble_eq_true rfl, by rw [hR]; exact Nat.le_of_ble_eq_true rfl⟩ rfl (fun w31 H locs h32 hP hS => ?_)
        have f33 : w31 (md 1) = some (.inl (G.2.1 0, 10, .inl (Fm 1))) := by rw [h32]; exact g_up_f hy1 ((fun q => absurd (Hj 1 0 (by decide) (by decide) q) (by decide)))
        have f34 : w31 (md 2) = some (.inl (G.2.1 0, 10, .inl (Fm 2))) := by rw [h32]; exact g_up_f hy2 ((fun q => absurd (Hj 2 0 (by decide) (by decide) q) (by decide)))
        have f35 : w31 (md 3) = some (.inl (G.2.1 2, 10, .inl (Fm 3))) := by rw [h32]; exact g_up_f hy3 ((fun q => absurd (Hj 3 0 (by decide) (by decide) q) (by decide)))
        have f36 : w31 (md 4) = some (.inl (G.2.1 0, 64, .inl (Fm 4))) := by rw [h32]; exact g_up_f hy4 ((fun q => absurd (Hj 4 0 (by decide) (by decide) q) (by decide)))
        have f37 : w31 (md 5) = some (.inl (G.2.1 2, 16, .inl (Fm 5))) := by rw [h32]; exact g_up_f hy5 ((fun q => absurd (Hj 5 0 (by decide) (by decide) q) (by decide)))
        have f38 : w31 (md 6) = some (.inl (G.2.1 0, 16, .inl (Fm 6))) := by rw [h32]; exact g_up_f hy6 ((fun q => absurd (Hj 6 0 (by decide) (by decide) q) (by decide)))
        have f39 : w31 (md 7) = some (.inl (G.2.1 0, 16, .inl (Fm 7))) := by rw [h32]; exact g_up_f hy7 ((fun q => absurd (Hj 7 0 (by decide) (by decide) q) (by decide)))
        have f40 : w31 (md 8) = some (.inl (G.2.1 0, 20, .inl (Fm 8))) := by rw [h32]; exact g_up_f hy8 ((fun q => absurd (Hj 8 0 (by decide) (by decide) q) (by decide)))
        have f41 : w31 (md 9) = some (.inl (G.2.1 1, 10, .inr (.inl (L 0)))) := by rw [h32]; exact g_up_f hy9 ((fun q => absurd (Hj 9 0 (by decide) (by decide) q) (by decide)))
        have f42 : w31 (md 10) = some (.inl (G.2.1 1, 10, .inr (.inl (L 1)))) := by rw [h32]; exact g_up_f hy10 ((fun q => absurd (Hj 10 0 (by decide) (by decide) q) (by decide)))
        have f43 : w31 (md 11) = some (.inl (G.2.1 0, 10, .inl (Fm 11))) := by rw [h32]; exact g_up_f hy11 ((fun q => absurd (Hj 11 0 (by decide) (by decide) q) (by decide)))
        have f44 : w31 (md 0) = some (.inr (8, [.int th, .int (iL (S 0 0)), .ref (md 1), .ref (md 2), .ref (md 3), .int (iL (S 0 4)), .int (iL (S 0 5)), .int (iL (S 0 1)), .ref (md 4), .ref (md 5), .int (iL (S 0 2)), .ref (md 6), .ref (md 7), .int (iL (S 0 3)), .ref (md 8), .ref (md 9), .ref (md 10), .ref (md 11), .long (zL (fN ((-1) * T 0 (saM S mm 1) * S 5 (S 10 mm).toNat) (T 1 (saM S mm 1) * S 5 (S 9 mm).toNat))), .long (zL (fD ((-1) * T 0 (saM S mm 1) * S 5 (S 10 mm).toNat) (T 1 (saM S mm 1) * S 5 (S 9 mm).toNat)))])) := by rw [h32]; exact g_up_s _ _ _
        refine lv_aload_n hx hb dX7_tellByMesh_108 rfl (lv_at hl 5 rfl) ?_
        refine lv_aload_n hx hb dX7_tellByMesh_109 rfl (lv_at hl 5 rfl) ?_
        refine lv_iload hx hb dX7_tellByMesh_110 (lv_at hl 1 rfl) ?_
        refine g_Vi (As := [.int (nI (S 9 mm).toNat)]) (rest := [.ref (md 0)]) F hP hS (k_X7_shaftOf l A G w31 md S _ _ _ Fm L (S 9 mm).toNat f44 f36 Hf Hi hge0) (cwV 1 hts gX7_tellByMesh_X7_shaftOf rfl rfl rfl cd_X7_shaftOf ⟨by rw [hR]; exact Nat.le_of_ble_eq_true rfl, by rw [hR]; exact Nat.le_of_ble_eq_true rfl⟩) f44 rfl rfl rfl hl.1 (Nat.le_of_ble_eq_true rfl) dX7_tellByMesh_112 ⟨by rw [hR]; exact Nat.le_of_ble_eq_true rfl, by rw [hR]; exact Nat.le_of_ble_eq_true rfl⟩ rfl (fun r45 w46 H locs h47 hP hS => ?_)
        have hr45 := h47.1
        rw [h47.2] at hP
        rw [hr45]
        rw [show iL (S 4 (S 9 mm).toNat) = nI (saM S mm 0) from by rw [iL_nn (by omega)]; rfl]
        refine lv_aload_n hx hb dX7_tellByMesh_115 rfl (lv_at hl 5 rfl) ?_
        refine g_get F hP (C := RX7) (T := TX7) (N := 20) iX7 f44 rfl 17 (by decide) (List.mem_cons_of_mem _ (List.mem_append_left _ (List.mem_append_left _ (List.mem_of_getElem? (i := 5) rfl)))) (fun _ h9 => h9) rfl dX7_tellByMesh_116 ?_
        refine lv_aload_n hx hb dX7_tellByMesh_119 rfl (lv_at hl 5 rfl) ?_
        refine lv_iload hx hb dX7_tellByMesh_120 (lv_at hl 2 rfl) ?_
        refine g_Vi (As := [.int (nI (S 10 mm).toNat)]) (rest := [.ref (md 11), .int (nI (saM S mm 0)), .ref (md 0)]) F hP hS (k_X7_shaftOf l A G w31 md S _ _ _ Fm L (S 10 mm).toNat f44 f36 Hf Hi hge1) (cwV 1 hts gX7_tellByMesh_X7_shaftOf rfl rfl rfl cd_X7_shaftOf ⟨by rw [hR]; exact Nat.le_of_ble_eq_true rfl, by rw [hR]; exact Nat.le_of_ble_eq_true rfl⟩) f44 rfl rfl rfl hl.1 (Nat.le_of_ble_eq_true rfl) dX7_tellByMesh_122 ⟨by rw [hR]; exact Nat.le_of_ble_eq_true rfl, by rw [hR]; exact Nat.le_of_ble_eq_true rfl⟩ rfl (fun r48 w49 H locs h50 hP hS => ?_)
        have hr48 := h50.1
        rw [h50.2] at hP
        rw [hr48]
        rw [show iL (S 4 (S 10 mm).toNat) = nI (saM S mm 1) from by rw [iL_nn (by omega)]; rfl]
        refine g_iald F hP f43 (vp_in_nI (by omega) (by decide)) dX7_tellByMesh_125 ?_
        rw [show (.int ((Fm 11) (nI (saM S mm 1) : Int32).toNatClampNeg) : Value) = .int (iL (T 2 (saM S mm 1))) from by rw [nI_clamp (by omega), (HT _ hs1).2.2]]
        refine lv_iconst (v := 1) hx hb dX7_tellByMesh_126 (by decide) ?_
        refine lv_iadd hx hb dX7_tellByMesh_127 ?_
        refine lv_topi (fun v51 ev51 => ?_)
        obtain rfl : v51 = iL (T 2 (saM S mm 1) + 1) := by
          rw [ev51]
          exact iL_add _ 1
        refine g_Vi (As := [.int (nI (saM S mm 0)), .int (iL (T 2 (saM S mm 1) + 1))]) (rest := []) F hP hS (k_X7_tell l A G w31 md S th (fN ((-1) * T 0 (saM S mm 1) * S 5 (S 10 mm).toNat) (T 1 (saM S mm 1) * S 5 (S 9 mm).toNat)) (fD ((-1) * T 0 (saM S mm 1) * S 5 (S 10 mm).toNat) (T 1 (saM S mm 1) * S 5 (S 9 mm).toNat)) Fm L (saM S mm 0) (iL (T 2 (saM S mm 1) + 1)) f44 f41 f42 f43 Hj (by omega) (by omega) (by omega)) (cwV 2 hts gX7_tellByMesh_X7_tell rfl rfl rfl cd_X7_tell ⟨by rw [hR]; exact Nat.le_of_ble_eq_true rfl, by rw [hR]; exact Nat.le_of_ble_eq_true rfl⟩) f44 rfl rfl rfl hl.1 (Nat.le_of_ble_eq_true rfl) dX7_tellByMesh_128 ⟨by rw [hR]; exact Nat.le_of_ble_eq_true rfl, by rw [hR]; exact Nat.le_of_ble_eq_true rfl⟩ rfl (fun r52 w53 H locs h54 hP hS => ?_)
        rw [h54.1]
        rw [hQ]
        refine g_zret F hP hS hlocks hr (by first | rfl | exact g_nb _) dX7_tellByMesh_131 (by first | exact Nat.le_of_ble_eq_true rfl | omega) (by first | exact Nat.le_of_ble_eq_true rfl | omega) ?_
        exact ⟨by rw [same.1, same.2], tell_sol Hj ⟨f44, f33, f34, f35, f36, f37, f38, f39, f40, f41, f42, f43⟩ (mFr_tr (mFr_rf _ _) (mFr_se (i := 0) (by decide) h32)) HT same.1 same.2 (by rw [show gSI (fun k => T 2 (tSa S 0 mm k)) (tN 0) = T 2 (saM S mm 1) from gSI_0 (f := fun k => T 2 (tSa S 0 mm k)) (show -1 ≤ T 2 (saM S mm 1) by omega) u1, Int.add_comm]) rfl h54.2⟩
      · have yc12 := of_decide_eq_true (g_b1.mp c12)
        refine lv_lconst (v := 1) hx hb dX7_tellByMesh_54 (by decide) ?_
        refine lv_goto (tgt := 61) hx hb dX7_tellByMesh_55 (by decide) ?_
        refine lv_lstore (lv' := [(6, .long 1), (5, .int (nI (S 9 mm).toNat)), (4, .int (nI (S 10 mm).toNat)), (3, .int (nI (S 10 mm).toNat)), (2, .int (nI (S 9 mm).toNat)), (0, .ref (md 0)), (1, .int (nI mm))]) hx hb dX7_tellByMesh_61 hl (by decide) rfl (fun ls hl => ?_)
        refine lv_aload_n hx hb dX7_tellByMesh_63 rfl (lv_at hl 5 rfl) ?_
        refine lv_lload hx hb dX7_tellByMesh_64 (lv_at hl 0 rfl) ?_
        refine lv_aload_n hx hb dX7_tellByMesh_66 rfl (lv_at hl 5 rfl) ?_
        refine g_get F hP (C := RX7) (T := TX7) (N := 20) iX7 hx0 rfl 15 (by decide) (List.mem_cons_of_mem _ (List.mem_append_left _ (List.mem_append_left _ (List.mem_of_getElem? (i := 3) rfl)))) (fun _ h9 => h9) rfl dX7_tellByMesh_67 ?_
        refine lv_aload_n hx hb dX7_tellByMesh_70 rfl (lv_at hl 5 rfl) ?_
        refine lv_iload hx hb dX7_tellByMesh_71 (lv_at hl 2 rfl) ?_
        refine g_Vi (As := [.int (nI (S 10 mm).toNat)]) (rest := [.ref (md 9), .long 1, .ref (md 0)]) F hP hS (k_X7_shaftOf l A G w md S _ _ _ Fm L (S 10 mm).toNat hx0 hy4 Hf Hi hge1) (cwV 1 hts gX7_tellByMesh_X7_shaftOf rfl rfl rfl cd_X7_shaftOf ⟨by rw [hR]; exact Nat.le_of_ble_eq_true rfl, by rw [hR]; exact Nat.le_of_ble_eq_true rfl⟩) hx0 rfl rfl rfl hl.1 (Nat.le_of_ble_eq_true rfl) dX7_tellByMesh_73 ⟨by rw [hR]; exact Nat.le_of_ble_eq_true rfl, by rw [hR]; exact Nat.le_of_ble_eq_true rfl⟩ rfl (fun r55 w56 H locs h57 hP hS => ?_)
        have hr55 := h57.1
        rw [h57.2] at hP
        rw [hr55]
        rw [show iL (S 4 (S 10 mm).toNat) = nI (saM S mm 1) from by rw [iL_nn (by omega)]; rfl]
        refine g_lald F hP hy9 (vp_in_nI (by omega) (by decide)) dX7_tellByMesh_76 ?_
        rw [show (.long ((L 0) (nI (saM S mm 1) : Int32).toNatClampNeg) : Value) = .long (zL (T 0 (saM S mm 1))) from by rw [nI_clamp (by omega), (HT _ hs1).1]]
        refine lv_lmul hx hb dX7_tellByMesh_77 ?_
        refine lv_topl (fun v58 ev58 => ?_)
        obtain rfl : v58 = zL (1 * T 0 (saM S mm 1)) := by
          rw [ev58]
          rw [show (1 : Int64) = zL 1 from by decide]; exact zL_mul _ _
        refine lv_aload_n hx hb dX7_tellByMesh_78 rfl (lv_at hl 5 rfl) ?_
        refine lv_iload hx hb dX7_tellByMesh_79 (lv_at hl 2 rfl) ?_
        refine g_Vi (As := [.int (nI (S 10 mm).toNat)]) (rest := [.long (zL (1 * T 0 (saM S mm 1))), .ref (md 0)]) F hP hS (k_X7_teeth l A G w md S _ _ _ Fm L (S 10 mm).toNat hx0 hy4 Hf Hi hge1) (cwV 1 hts gX7_tellByMesh_X7_teeth rfl rfl rfl cd_X7_teeth ⟨by rw [hR]; exact Nat.le_of_ble_eq_true rfl, by rw [hR]; exact Nat.le_of_ble_eq_true rfl⟩) hx0 rfl rfl rfl hl.1 (Nat.le_of_ble_eq_true rfl) dX7_tellByMesh_81 ⟨by rw [hR]; exact Nat.le_of_ble_eq_true rfl, by rw [hR]; exact Nat.le_of_ble_eq_true rfl⟩ rfl (fun r59 w60 H locs h61 hP hS => ?_)
        have hr59 := h61.1
        rw [h61.2] at hP
        rw [hr59]
        refine lv_i2l hx hb dX7_tellByMesh_84 rfl ?_
        refine lv_topl (fun v62 ev62 => ?_)
        obtain rfl : v62 = zL (S 5 (S 10 mm).toNat) := by
          rw [ev62]
          exact iL64 (by omega) (by omega)
        refine lv_lmul hx hb dX7_tellByMesh_85 ?_
        refine lv_topl (fun v63 ev63 => ?_)
        obtain rfl : v63 = zL (1 * T 0 (saM S mm 1) * S 5 (S 10 mm).toNat) := by
          rw [ev63]
          exact zL_mul _ _
        refine lv_aload_n hx hb dX7_tellByMesh_86 rfl (lv_at hl 5 rfl) ?_
        refine g_get F hP (C := RX7) (T := TX7) (N := 20) iX7 hx0 rfl 16 (by decide) (List.mem_cons_of_mem _ (List.mem_append_left _ (List.mem_append_left _ (List.mem_of_getElem? (i := 4) rfl)))) (fun _ h9 => h9) rfl dX7_tellByMesh_87 ?_
        refine lv_aload_n hx hb dX7_tellByMesh_90 rfl (lv_at hl 5 rfl) ?_
        refine lv_iload hx hb dX7_tellByMesh_91 (lv_at hl 2 rfl) ?_
        refine g_Vi (As := [.int (nI (S 10 mm).toNat)]) (rest := [.ref (md 10), .long (zL (1 * T 0 (saM S mm 1) * S 5 (S 10 mm).toNat)), .ref (md 0)]) F hP hS (k_X7_shaftOf l A G w md S _ _ _ Fm L (S 10 mm).toNat hx0 hy4 Hf Hi hge1) (cwV 1 hts gX7_tellByMesh_X7_shaftOf rfl rfl rfl cd_X7_shaftOf ⟨by rw [hR]; exact Nat.le_of_ble_eq_true rfl, by rw [hR]; exact Nat.le_of_ble_eq_true rfl⟩) hx0 rfl rfl rfl hl.1 (Nat.le_of_ble_eq_true rfl) dX7_tellByMesh_93 ⟨by rw [hR]; exact Nat.le_of_ble_eq_true rfl, by rw [hR]; exact Nat.le_of_ble_eq_true rfl⟩ rfl (fun r64 w65 H locs h66 hP hS => ?_)
        have hr64 := h66.1
        rw [h66.2] at hP
        rw [hr64]
        rw [show iL (S 4 (S 10 mm).toNat) = nI (saM S mm 1) from by rw [iL_nn (by omega)]; rfl]
        refine g_lald F hP hy10 (vp_in_nI (by omega) (by decide)) dX7_tellByMesh_96 ?_
        rw [show (.long ((L 1) (nI (saM S mm 1) : Int32).toNatClampNeg) : Value) = .long (zL (T 1 (saM S mm 1))) from by rw [nI_clamp (by omega), (HT _ hs1).2.1, if_neg u0]]
        refine lv_aload_n hx hb dX7_tellByMesh_97 rfl (lv_at hl 5 rfl) ?_
        refine lv_iload hx hb dX7_tellByMesh_98 (lv_at hl 1 rfl) ?_
        refine g_Vi (As := [.int (nI (S 9 mm).toNat)]) (rest := [.long (zL (T 1 (saM S mm 1))), .long (zL (1 * T 0 (saM S mm 1) * S 5 (S 10 mm).toNat)), .ref (md 0)]) F hP hS (k_X7_teeth l A G w md S _ _ _ Fm L (S 9 mm).toNat hx0 hy4 Hf Hi hge0) (cwV 1 hts gX7_tellByMesh_X7_teeth rfl rfl rfl cd_X7_teeth ⟨by rw [hR]; exact Nat.le_of_ble_eq_true rfl, by rw [hR]; exact Nat.le_of_ble_eq_true rfl⟩) hx0 rfl rfl rfl hl.1 (Nat.le_of_ble_eq_true rfl) dX7_tellByMesh_100 ⟨by rw [hR]; exact Nat.le_of_ble_eq_true rfl, by rw [hR]; exact Nat.le_of_ble_eq_true rfl⟩ rfl (fun r67 w68 H locs h69 hP hS => ?_)
        have hr67 := h69.1
        rw [h69.2] at hP
        rw [hr67]
        refine lv_i2l hx hb dX7_tellByMesh_103 rfl ?_
        refine lv_topl (fun v70 ev70 => ?_)
        obtain rfl : v70 = zL (S 5 (S 9 mm).toNat) := by
          rw [ev70]
          exact iL64 (by omega) (by omega)
        refine lv_lmul hx hb dX7_tellByMesh_104 ?_
        refine lv_topl (fun v71 ev71 => ?_)
        obtain rfl : v71 = zL (T 1 (saM S mm 1) * S 5 (S 9 mm).toNat) := by
          rw [ev71]
          exact zL_mul _ _
        have same := mesh_s0 Hi Ht hm (sg := 1) (Or.inl ⟨yc12, rfl⟩)
        have hbX : (1 * T 0 (saM S mm 1) * S 5 (S 10 mm).toNat).natAbs ≤ 1 * 1000000 * 200 := by
          rw [Int.natAbs_mul, Int.natAbs_mul]
          exact Nat.mul_le_mul (Nat.mul_le_mul (by decide) (by omega)) (by omega)
        have hbY : (T 1 (saM S mm 1) * S 5 (S 9 mm).toNat).natAbs ≤ 1000000 * 200 := by
          rw [Int.natAbs_mul]
          exact Nat.mul_le_mul (by omega) (by omega)
        have hnN := fN_le (1 * T 0 (saM S mm 1) * S 5 (S 10 mm).toNat) (T 1 (saM S mm 1) * S 5 (S 9 mm).toNat)
        have hnD := fD_le (1 * T 0 (saM S mm 1) * S 5 (S 10 mm).toNat) (T 1 (saM S mm 1) * S 5 (S 9 mm).toNat)
        refine g_Vv (As := [.long (zL (1 * T 0 (saM S mm 1) * S 5 (S 10 mm).toNat)), .long (zL (T 1 (saM S mm 1) * S 5 (S 9 mm).toNat))]) (rest := []) F hP hS (k_X7_make l A G w md S _ _ _ Fm L (1 * T 0 (saM S mm 1) * S 5 (S 10 mm).toNat) (T 1 (saM S mm 1) * S 5 (S 9 mm).toNat) hx0 (Int.mul_ne_zero (by omega) (by omega)) (by omega) (by omega)) (cwV 2 hts gX7_tellByMesh_X7_make rfl rfl rfl cd_X7_make ⟨by rw [hR]; exact Nat.le_of_ble_eq_true rfl, by rw [hR]; exact Nat.le_of_ble_eq_true rfl⟩) hx0 rfl rfl rfl hl.1 (Nat.le_of_ble_eq_true rfl) dX7_tellByMesh_105 ⟨by rw [hR]; exact Nat.le_of_ble_eq_true rfl, by rw [hR]; exact Nat.le_of_ble_eq_true rfl⟩ rfl (fun w73 H locs h74 hP hS => ?_)
        have f75 : w73 (md 1) = some (.inl (G.2.1 0, 10, .inl (Fm 1))) := by rw [h74]; exact g_up_f hy1 ((fun q => absurd (Hj 1 0 (by decide) (by decide) q) (by decide)))
        have f76 : w73 (md 2) = some (.inl (G.2.1 0, 10, .inl (Fm 2))) := by rw [h74]; exact g_up_f hy2 ((fun q => absurd (Hj 2 0 (by decide) (by decide) q) (by decide)))
        have f77 : w73 (md 3) = some (.inl (G.2.1 2, 10, .inl (Fm 3))) := by rw [h74]; exact g_up_f hy3 ((fun q => absurd (Hj 3 0 (by decide) (by decide) q) (by decide)))
        have f78 : w73 (md 4) = some (.inl (G.2.1 0, 64, .inl (Fm 4))) := by rw [h74]; exact g_up_f hy4 ((fun q => absurd (Hj 4 0 (by decide) (by decide) q) (by decide)))
        have f79 : w73 (md 5) = some (.inl (G.2.1 2, 16, .inl (Fm 5))) := by rw [h74]; exact g_up_f hy5 ((fun q => absurd (Hj 5 0 (by decide) (by decide) q) (by decide)))
        have f80 : w73 (md 6) = some (.inl (G.2.1 0, 16, .inl (Fm 6))) := by rw [h74]; exact g_up_f hy6 ((fun q => absurd (Hj 6 0 (by decide) (by decide) q) (by decide)))
        have f81 : w73 (md 7) = some (.inl (G.2.1 0, 16, .inl (Fm 7))) := by rw [h74]; exact g_up_f hy7 ((fun q => absurd (Hj 7 0 (by decide) (by decide) q) (by decide)))
        have f82 : w73 (md 8) = some (.inl (G.2.1 0, 20, .inl (Fm 8))) := by rw [h74]; exact g_up_f hy8 ((fun q => absurd (Hj 8 0 (by decide) (by decide) q) (by decide)))
        have f83 : w73 (md 9) = some (.inl (G.2.1 1, 10, .inr (.inl (L 0)))) := by rw [h74]; exact g_up_f hy9 ((fun q => absurd (Hj 9 0 (by decide) (by decide) q) (by decide)))
        have f84 : w73 (md 10) = some (.inl (G.2.1 1, 10, .inr (.inl (L 1)))) := by rw [h74]; exact g_up_f hy10 ((fun q => absurd (Hj 10 0 (by decide) (by decide) q) (by decide)))
        have f85 : w73 (md 11) = some (.inl (G.2.1 0, 10, .inl (Fm 11))) := by rw [h74]; exact g_up_f hy11 ((fun q => absurd (Hj 11 0 (by decide) (by decide) q) (by decide)))
        have f86 : w73 (md 0) = some (.inr (8, [.int th, .int (iL (S 0 0)), .ref (md 1), .ref (md 2), .ref (md 3), .int (iL (S 0 4)), .int (iL (S 0 5)), .int (iL (S 0 1)), .ref (md 4), .ref (md 5), .int (iL (S 0 2)), .ref (md 6), .ref (md 7), .int (iL (S 0 3)), .ref (md 8), .ref (md 9), .ref (md 10), .ref (md 11), .long (zL (fN (1 * T 0 (saM S mm 1) * S 5 (S 10 mm).toNat) (T 1 (saM S mm 1) * S 5 (S 9 mm).toNat))), .long (zL (fD (1 * T 0 (saM S mm 1) * S 5 (S 10 mm).toNat) (T 1 (saM S mm 1) * S 5 (S 9 mm).toNat)))])) := by rw [h74]; exact g_up_s _ _ _
        refine lv_aload_n hx hb dX7_tellByMesh_108 rfl (lv_at hl 5 rfl) ?_
        refine lv_aload_n hx hb dX7_tellByMesh_109 rfl (lv_at hl 5 rfl) ?_
        refine lv_iload hx hb dX7_tellByMesh_110 (lv_at hl 1 rfl) ?_
        refine g_Vi (As := [.int (nI (S 9 mm).toNat)]) (rest := [.ref (md 0)]) F hP hS (k_X7_shaftOf l A G w73 md S _ _ _ Fm L (S 9 mm).toNat f86 f78 Hf Hi hge0) (cwV 1 hts gX7_tellByMesh_X7_shaftOf rfl rfl rfl cd_X7_shaftOf ⟨by rw [hR]; exact Nat.le_of_ble_eq_true rfl, by rw [hR]; exact Nat.le_of_ble_eq_true rfl⟩) f86 rfl rfl rfl hl.1 (Nat.le_of_ble_eq_true rfl) dX7_tellByMesh_112 ⟨by rw [hR]; exact Nat.le_of_ble_eq_true rfl, by rw [hR]; exact Nat.le_of_ble_eq_true rfl⟩ rfl (fun r87 w88 H locs h89 hP hS => ?_)
        have hr87 := h89.1
        rw [h89.2] at hP
        rw [hr87]
        rw [show iL (S 4 (S 9 mm).toNat) = nI (saM S mm 0) from by rw [iL_nn (by omega)]; rfl]
        refine lv_aload_n hx hb dX7_tellByMesh_115 rfl (lv_at hl 5 rfl) ?_
        refine g_get F hP (C := RX7) (T := TX7) (N := 20) iX7 f86 rfl 17 (by decide) (List.mem_cons_of_mem _ (List.mem_append_left _ (List.mem_append_left _ (List.mem_of_getElem? (i := 5) rfl)))) (fun _ h9 => h9) rfl dX7_tellByMesh_116 ?_
        refine lv_aload_n hx hb dX7_tellByMesh_119 rfl (lv_at hl 5 rfl) ?_
        refine lv_iload hx hb dX7_tellByMesh_120 (lv_at hl 2 rfl) ?_
        refine g_Vi (As := [.int (nI (S 10 mm).toNat)]) (rest := [.ref (md 11), .int (nI (saM S mm 0)), .ref (md 0)]) F hP hS (k_X7_shaftOf l A G w73 md S _ _ _ Fm L (S 10 mm).toNat f86 f78 Hf Hi hge1) (cwV 1 hts gX7_tellByMesh_X7_shaftOf rfl rfl rfl cd_X7_shaftOf ⟨by rw [hR]; exact Nat.le_of_ble_eq_true rfl, by rw [hR]; exact Nat.le_of_ble_eq_true rfl⟩) f86 rfl rfl rfl hl.1 (Nat.le_of_ble_eq_true rfl) dX7_tellByMesh_122 ⟨by rw [hR]; exact Nat.le_of_ble_eq_true rfl, by rw [hR]; exact Nat.le_of_ble_eq_true rfl⟩ rfl (fun r90 w91 H locs h92 hP hS => ?_)
        have hr90 := h92.1
        rw [h92.2] at hP
        rw [hr90]
        rw [show iL (S 4 (S 10 mm).toNat) = nI (saM S mm 1) from by rw [iL_nn (by omega)]; rfl]
        refine g_iald F hP f85 (vp_in_nI (by omega) (by decide)) dX7_tellByMesh_125 ?_
        rw [show (.int ((Fm 11) (nI (saM S mm 1) : Int32).toNatClampNeg) : Value) = .int (iL (T 2 (saM S mm 1))) from by rw [nI_clamp (by omega), (HT _ hs1).2.2]]
        refine lv_iconst (v := 1) hx hb dX7_tellByMesh_126 (by decide) ?_
        refine lv_iadd hx hb dX7_tellByMesh_127 ?_
        refine lv_topi (fun v93 ev93 => ?_)
        obtain rfl : v93 = iL (T 2 (saM S mm 1) + 1) := by
          rw [ev93]
          exact iL_add _ 1
        refine g_Vi (As := [.int (nI (saM S mm 0)), .int (iL (T 2 (saM S mm 1) + 1))]) (rest := []) F hP hS (k_X7_tell l A G w73 md S th (fN (1 * T 0 (saM S mm 1) * S 5 (S 10 mm).toNat) (T 1 (saM S mm 1) * S 5 (S 9 mm).toNat)) (fD (1 * T 0 (saM S mm 1) * S 5 (S 10 mm).toNat) (T 1 (saM S mm 1) * S 5 (S 9 mm).toNat)) Fm L (saM S mm 0) (iL (T 2 (saM S mm 1) + 1)) f86 f83 f84 f85 Hj (by omega) (by omega) (by omega)) (cwV 2 hts gX7_tellByMesh_X7_tell rfl rfl rfl cd_X7_tell ⟨by rw [hR]; exact Nat.le_of_ble_eq_true rfl, by rw [hR]; exact Nat.le_of_ble_eq_true rfl⟩) f86 rfl rfl rfl hl.1 (Nat.le_of_ble_eq_true rfl) dX7_tellByMesh_128 ⟨by rw [hR]; exact Nat.le_of_ble_eq_true rfl, by rw [hR]; exact Nat.le_of_ble_eq_true rfl⟩ rfl (fun r94 w95 H locs h96 hP hS => ?_)
        rw [h96.1]
        rw [hQ]
        refine g_zret F hP hS hlocks hr (by first | rfl | exact g_nb _) dX7_tellByMesh_131 (by first | exact Nat.le_of_ble_eq_true rfl | omega) (by first | exact Nat.le_of_ble_eq_true rfl | omega) ?_
        exact ⟨by rw [same.1, same.2], tell_sol Hj ⟨f86, f75, f76, f77, f78, f79, f80, f81, f82, f83, f84, f85⟩ (mFr_tr (mFr_rf _ _) (mFr_se (i := 0) (by decide) h74)) HT same.1 same.2 (by rw [show gSI (fun k => T 2 (tSa S 0 mm k)) (tN 0) = T 2 (saM S mm 1) from gSI_0 (f := fun k => T 2 (tSa S 0 mm k)) (show -1 ≤ T 2 (saM S mm 1) by omega) u1, Int.add_comm]) rfl h96.2⟩
    · exact absurd c8.symm hneg
  · have yc7 := of_decide_eq_true (g_b1.mp c7)
    have pl1 : pl = 1 := by
      have q1 : pl < 2 := hU.1
      rcases (show pl = 0 ∨ pl = 1 by omega) with rfl | rfl
      · exact absurd hU.2.1 yc7
      · rfl
    subst pl1
    have u0 : T 2 (saM S mm 0) ≠ -1 := yc7
    have u1 : T 2 (saM S mm 1) = -1 := hU.2.1
    refine lv_iload_n hx hb dX7_tellByMesh_26 rfl (lv_at hl 1 rfl) ?_
    refine lv_goto (tgt := 31) hx hb dX7_tellByMesh_27 (by decide) ?_
    refine lv_istore (lv' := [(4, .int (nI (S 9 mm).toNat)), (3, .int (nI (S 10 mm).toNat)), (2, .int (nI (S 9 mm).toNat)), (0, .ref (md 0)), (1, .int (nI mm))]) hx hb dX7_tellByMesh_31 hl (by decide) rfl (fun ls hl => ?_)
    refine lv_iload hx hb dX7_tellByMesh_33 (lv_at hl 0 rfl) ?_
    refine lv_iload_n hx hb dX7_tellByMesh_35 rfl (lv_at hl 2 rfl) ?_
    refine lv_icmp_ne (tgt := 43) hx hb dX7_tellByMesh_36 (by decide) (fun c97 => ?_) (fun c97 => ?_)
    · exact absurd rfl c97
    · refine lv_iload_n hx hb dX7_tellByMesh_39 rfl (lv_at hl 1 rfl) ?_
      refine lv_goto (tgt := 44) hx hb dX7_tellByMesh_40 (by decide) ?_
      refine lv_istore (lv' := [(5, .int (nI (S 10 mm).toNat)), (4, .int (nI (S 9 mm).toNat)), (3, .int (nI (S 10 mm).toNat)), (2, .int (nI (S 9 mm).toNat)), (0, .ref (md 0)), (1, .int (nI mm))]) hx hb dX7_tellByMesh_44 hl (by decide) rfl (fun ls hl => ?_)
      refine lv_aload_n hx hb dX7_tellByMesh_46 rfl (lv_at hl 4 rfl) ?_
      refine lv_iload_n hx hb dX7_tellByMesh_47 rfl (lv_at hl 5 rfl) ?_
      refine g_Vi (As := [.int (nI mm)]) (rest := []) F hP hS (k_X7_isInner l A G w md S _ _ _ Fm L mm hx0 hy5 hy6 hy7 Hf Hi hm) (cwV 1 hts gX7_tellByMesh_X7_isInner rfl rfl rfl cd_X7_isInner ⟨by rw [hR]; exact Nat.le_of_ble_eq_true rfl, by rw [hR]; exact Nat.le_of_ble_eq_true rfl⟩) hx0 rfl rfl rfl hl.1 (Nat.le_of_ble_eq_true rfl) dX7_tellByMesh_48 ⟨by rw [hR]; exact Nat.le_of_ble_eq_true rfl, by rw [hR]; exact Nat.le_of_ble_eq_true rfl⟩ rfl (fun r98 w99 H locs h100 hP hS => ?_)
      have hr98 := h100.1
      rw [h100.2] at hP
      rw [hr98]
      refine lv_if_eq (tgt := 58) hx hb dX7_tellByMesh_51 (by decide) (fun c101 => ?_) (fun c101 => ?_)
      · have yc101 := of_decide_eq_false (g_b0.mp c101)
        refine lv_ldc2 (v := -1) hx hb hown (hts _ (List.mem_cons_of_mem _ (List.mem_append_left _ (List.mem_append_left _ (List.mem_of_getElem? (i := 2) rfl))))) dX7_tellByMesh_58 ?_
        refine lv_lstore (lv' := [(6, .long (-1)), (5, .int (nI (S 10 mm).toNat)), (4, .int (nI (S 9 mm).toNat)), (3, .int (nI (S 10 mm).toNat)), (2, .int (nI (S 9 mm).toNat)), (0, .ref (md 0)), (1, .int (nI mm))]) hx hb dX7_tellByMesh_61 hl (by decide) rfl (fun ls hl => ?_)
        refine lv_aload_n hx hb dX7_tellByMesh_63 rfl (lv_at hl 5 rfl) ?_
        refine lv_lload hx hb dX7_tellByMesh_64 (lv_at hl 0 rfl) ?_
        refine lv_aload_n hx hb dX7_tellByMesh_66 rfl (lv_at hl 5 rfl) ?_
        refine g_get F hP (C := RX7) (T := TX7) (N := 20) iX7 hx0 rfl 15 (by decide) (List.mem_cons_of_mem _ (List.mem_append_left _ (List.mem_append_left _ (List.mem_of_getElem? (i := 3) rfl)))) (fun _ h9 => h9) rfl dX7_tellByMesh_67 ?_
        refine lv_aload_n hx hb dX7_tellByMesh_70 rfl (lv_at hl 5 rfl) ?_
        refine lv_iload hx hb dX7_tellByMesh_71 (lv_at hl 2 rfl) ?_
        refine g_Vi (As := [.int (nI (S 9 mm).toNat)]) (rest := [.ref (md 9), .long (-1), .ref (md 0)]) F hP hS (k_X7_shaftOf l A G w md S _ _ _ Fm L (S 9 mm).toNat hx0 hy4 Hf Hi hge0) (cwV 1 hts gX7_tellByMesh_X7_shaftOf rfl rfl rfl cd_X7_shaftOf ⟨by rw [hR]; exact Nat.le_of_ble_eq_true rfl, by rw [hR]; exact Nat.le_of_ble_eq_true rfl⟩) hx0 rfl rfl rfl hl.1 (Nat.le_of_ble_eq_true rfl) dX7_tellByMesh_73 ⟨by rw [hR]; exact Nat.le_of_ble_eq_true rfl, by rw [hR]; exact Nat.le_of_ble_eq_true rfl⟩ rfl (fun r102 w103 H locs h104 hP hS => ?_)
        have hr102 := h104.1
        rw [h104.2] at hP
        rw [hr102]
        rw [show iL (S 4 (S 9 mm).toNat) = nI (saM S mm 0) from by rw [iL_nn (by omega)]; rfl]
        refine g_lald F hP hy9 (vp_in_nI (by omega) (by decide)) dX7_tellByMesh_76 ?_
        rw [show (.long ((L 0) (nI (saM S mm 0) : Int32).toNatClampNeg) : Value) = .long (zL (T 0 (saM S mm 0))) from by rw [nI_clamp (by omega), (HT _ hs0).1]]
        refine lv_lmul hx hb dX7_tellByMesh_77 ?_
        refine lv_topl (fun v105 ev105 => ?_)
        obtain rfl : v105 = zL ((-1) * T 0 (saM S mm 0)) := by
          rw [ev105]
          rw [show ((-1) : Int64) = zL (-1) from by decide]; exact zL_mul _ _
        refine lv_aload_n hx hb dX7_tellByMesh_78 rfl (lv_at hl 5 rfl) ?_
        refine lv_iload hx hb dX7_tellByMesh_79 (lv_at hl 2 rfl) ?_
        refine g_Vi (As := [.int (nI (S 9 mm).toNat)]) (rest := [.long (zL ((-1) * T 0 (saM S mm 0))), .ref (md 0)]) F hP hS (k_X7_teeth l A G w md S _ _ _ Fm L (S 9 mm).toNat hx0 hy4 Hf Hi hge0) (cwV 1 hts gX7_tellByMesh_X7_teeth rfl rfl rfl cd_X7_teeth ⟨by rw [hR]; exact Nat.le_of_ble_eq_true rfl, by rw [hR]; exact Nat.le_of_ble_eq_true rfl⟩) hx0 rfl rfl rfl hl.1 (Nat.le_of_ble_eq_true rfl) dX7_tellByMesh_81 ⟨by rw [hR]; exact Nat.le_of_ble_eq_true rfl, by rw [hR]; exact Nat.le_of_ble_eq_true rfl⟩ rfl (fun r106 w107 H locs h108 hP hS => ?_)
        have hr106 := h108.1
        rw [h108.2] at hP
        rw [hr106]
        refine lv_i2l hx hb dX7_tellByMesh_84 rfl ?_
        refine lv_topl (fun v109 ev109 => ?_)
        obtain rfl : v109 = zL (S 5 (S 9 mm).toNat) := by
          rw [ev109]
          exact iL64 (by omega) (by omega)
        refine lv_lmul hx hb dX7_tellByMesh_85 ?_
        refine lv_topl (fun v110 ev110 => ?_)
        obtain rfl : v110 = zL ((-1) * T 0 (saM S mm 0) * S 5 (S 9 mm).toNat) := by
          rw [ev110]
          exact zL_mul _ _
        refine lv_aload_n hx hb dX7_tellByMesh_86 rfl (lv_at hl 5 rfl) ?_
        refine g_get F hP (C := RX7) (T := TX7) (N := 20) iX7 hx0 rfl 16 (by decide) (List.mem_cons_of_mem _ (List.mem_append_left _ (List.mem_append_left _ (List.mem_of_getElem? (i := 4) rfl)))) (fun _ h9 => h9) rfl dX7_tellByMesh_87 ?_
        refine lv_aload_n hx hb dX7_tellByMesh_90 rfl (lv_at hl 5 rfl) ?_
        refine lv_iload hx hb dX7_tellByMesh_91 (lv_at hl 2 rfl) ?_
        refine g_Vi (As := [.int (nI (S 9 mm).toNat)]) (rest := [.ref (md 10), .long (zL ((-1) * T 0 (saM S mm 0) * S 5 (S 9 mm).toNat)), .ref (md 0)]) F hP hS (k_X7_shaftOf l A G w md S _ _ _ Fm L (S 9 mm).toNat hx0 hy4 Hf Hi hge0) (cwV 1 hts gX7_tellByMesh_X7_shaftOf rfl rfl rfl cd_X7_shaftOf ⟨by rw [hR]; exact Nat.le_of_ble_eq_true rfl, by rw [hR]; exact Nat.le_of_ble_eq_true rfl⟩) hx0 rfl rfl rfl hl.1 (Nat.le_of_ble_eq_true rfl) dX7_tellByMesh_93 ⟨by rw [hR]; exact Nat.le_of_ble_eq_true rfl, by rw [hR]; exact Nat.le_of_ble_eq_true rfl⟩ rfl (fun r111 w112 H locs h113 hP hS => ?_)
        have hr111 := h113.1
        rw [h113.2] at hP
        rw [hr111]
        rw [show iL (S 4 (S 9 mm).toNat) = nI (saM S mm 0) from by rw [iL_nn (by omega)]; rfl]
        refine g_lald F hP hy10 (vp_in_nI (by omega) (by decide)) dX7_tellByMesh_96 ?_
        rw [show (.long ((L 1) (nI (saM S mm 0) : Int32).toNatClampNeg) : Value) = .long (zL (T 1 (saM S mm 0))) from by rw [nI_clamp (by omega), (HT _ hs0).2.1, if_neg u0]]
        refine lv_aload_n hx hb dX7_tellByMesh_97 rfl (lv_at hl 5 rfl) ?_
        refine lv_iload hx hb dX7_tellByMesh_98 (lv_at hl 1 rfl) ?_
        refine g_Vi (As := [.int (nI (S 10 mm).toNat)]) (rest := [.long (zL (T 1 (saM S mm 0))), .long (zL ((-1) * T 0 (saM S mm 0) * S 5 (S 9 mm).toNat)), .ref (md 0)]) F hP hS (k_X7_teeth l A G w md S _ _ _ Fm L (S 10 mm).toNat hx0 hy4 Hf Hi hge1) (cwV 1 hts gX7_tellByMesh_X7_teeth rfl rfl rfl cd_X7_teeth ⟨by rw [hR]; exact Nat.le_of_ble_eq_true rfl, by rw [hR]; exact Nat.le_of_ble_eq_true rfl⟩) hx0 rfl rfl rfl hl.1 (Nat.le_of_ble_eq_true rfl) dX7_tellByMesh_100 ⟨by rw [hR]; exact Nat.le_of_ble_eq_true rfl, by rw [hR]; exact Nat.le_of_ble_eq_true rfl⟩ rfl (fun r114 w115 H locs h116 hP hS => ?_)
        have hr114 := h116.1
        rw [h116.2] at hP
        rw [hr114]
        refine lv_i2l hx hb dX7_tellByMesh_103 rfl ?_
        refine lv_topl (fun v117 ev117 => ?_)
        obtain rfl : v117 = zL (S 5 (S 10 mm).toNat) := by
          rw [ev117]
          exact iL64 (by omega) (by omega)
        refine lv_lmul hx hb dX7_tellByMesh_104 ?_
        refine lv_topl (fun v118 ev118 => ?_)
        obtain rfl : v118 = zL (T 1 (saM S mm 0) * S 5 (S 10 mm).toNat) := by
          rw [ev118]
          exact zL_mul _ _
        have same := mesh_s1 Hi Ht hm (sg := (-1)) (Or.inr ⟨yc101, rfl⟩)
        have hbX : ((-1) * T 0 (saM S mm 0) * S 5 (S 9 mm).toNat).natAbs ≤ 1 * 1000000 * 200 := by
          rw [Int.natAbs_mul, Int.natAbs_mul]
          exact Nat.mul_le_mul (Nat.mul_le_mul (by decide) (by omega)) (by omega)
        have hbY : (T 1 (saM S mm 0) * S 5 (S 10 mm).toNat).natAbs ≤ 1000000 * 200 := by
          rw [Int.natAbs_mul]
          exact Nat.mul_le_mul (by omega) (by omega)
        have hnN := fN_le ((-1) * T 0 (saM S mm 0) * S 5 (S 9 mm).toNat) (T 1 (saM S mm 0) * S 5 (S 10 mm).toNat)
        have hnD := fD_le ((-1) * T 0 (saM S mm 0) * S 5 (S 9 mm).toNat) (T 1 (saM S mm 0) * S 5 (S 10 mm).toNat)
        refine g_Vv (As := [.long (zL ((-1) * T 0 (saM S mm 0) * S 5 (S 9 mm).toNat)), .long (zL (T 1 (saM S mm 0) * S 5 (S 10 mm).toNat))]) (rest := []) F hP hS (k_X7_make l A G w md S _ _ _ Fm L ((-1) * T 0 (saM S mm 0) * S 5 (S 9 mm).toNat) (T 1 (saM S mm 0) * S 5 (S 10 mm).toNat) hx0 (Int.mul_ne_zero (by omega) (by omega)) (by omega) (by omega)) (cwV 2 hts gX7_tellByMesh_X7_make rfl rfl rfl cd_X7_make ⟨by rw [hR]; exact Nat.le_of_ble_eq_true rfl, by rw [hR]; exact Nat.le_of_ble_eq_true rfl⟩) hx0 rfl rfl rfl hl.1 (Nat.le_of_ble_eq_true rfl) dX7_tellByMesh_105 ⟨by rw [hR]; exact Nat.le_of_ble_eq_true rfl, by rw [hR]; exact Nat.le_of_ble_eq_true rfl⟩ rfl (fun w120 H locs h121 hP hS => ?_)
        have f122 : w120 (md 1) = some (.inl (G.2.1 0, 10, .inl (Fm 1))) := by rw [h121]; exact g_up_f hy1 ((fun q => absurd (Hj 1 0 (by decide) (by decide) q) (by decide)))
        have f123 : w120 (md 2) = some (.inl (G.2.1 0, 10, .inl (Fm 2))) := by rw [h121]; exact g_up_f hy2 ((fun q => absurd (Hj 2 0 (by decide) (by decide) q) (by decide)))
        have f124 : w120 (md 3) = some (.inl (G.2.1 2, 10, .inl (Fm 3))) := by rw [h121]; exact g_up_f hy3 ((fun q => absurd (Hj 3 0 (by decide) (by decide) q) (by decide)))
        have f125 : w120 (md 4) = some (.inl (G.2.1 0, 64, .inl (Fm 4))) := by rw [h121]; exact g_up_f hy4 ((fun q => absurd (Hj 4 0 (by decide) (by decide) q) (by decide)))
        have f126 : w120 (md 5) = some (.inl (G.2.1 2, 16, .inl (Fm 5))) := by rw [h121]; exact g_up_f hy5 ((fun q => absurd (Hj 5 0 (by decide) (by decide) q) (by decide)))
        have f127 : w120 (md 6) = some (.inl (G.2.1 0, 16, .inl (Fm 6))) := by rw [h121]; exact g_up_f hy6 ((fun q => absurd (Hj 6 0 (by decide) (by decide) q) (by decide)))
        have f128 : w120 (md 7) = some (.inl (G.2.1 0, 16, .inl (Fm 7))) := by rw [h121]; exact g_up_f hy7 ((fun q => absurd (Hj 7 0 (by decide) (by decide) q) (by decide)))
        have f129 : w120 (md 8) = some (.inl (G.2.1 0, 20, .inl (Fm 8))) := by rw [h121]; exact g_up_f hy8 ((fun q => absurd (Hj 8 0 (by decide) (by decide) q) (by decide)))
        have f130 : w120 (md 9) = some (.inl (G.2.1 1, 10, .inr (.inl (L 0)))) := by rw [h121]; exact g_up_f hy9 ((fun q => absurd (Hj 9 0 (by decide) (by decide) q) (by decide)))
        have f131 : w120 (md 10) = some (.inl (G.2.1 1, 10, .inr (.inl (L 1)))) := by rw [h121]; exact g_up_f hy10 ((fun q => absurd (Hj 10 0 (by decide) (by decide) q) (by decide)))
        have f132 : w120 (md 11) = some (.inl (G.2.1 0, 10, .inl (Fm 11))) := by rw [h121]; exact g_up_f hy11 ((fun q => absurd (Hj 11 0 (by decide) (by decide) q) (by decide)))
        have f133 : w120 (md 0) = some (.inr (8, [.int th, .int (iL (S 0 0)), .ref (md 1), .ref (md 2), .ref (md 3), .int (iL (S 0 4)), .int (iL (S 0 5)), .int (iL (S 0 1)), .ref (md 4), .ref (md 5), .int (iL (S 0 2)), .ref (md 6), .ref (md 7), .int (iL (S 0 3)), .ref (md 8), .ref (md 9), .ref (md 10), .ref (md 11), .long (zL (fN ((-1) * T 0 (saM S mm 0) * S 5 (S 9 mm).toNat) (T 1 (saM S mm 0) * S 5 (S 10 mm).toNat))), .long (zL (fD ((-1) * T 0 (saM S mm 0) * S 5 (S 9 mm).toNat) (T 1 (saM S mm 0) * S 5 (S 10 mm).toNat)))])) := by rw [h121]; exact g_up_s _ _ _
        refine lv_aload_n hx hb dX7_tellByMesh_108 rfl (lv_at hl 5 rfl) ?_
        refine lv_aload_n hx hb dX7_tellByMesh_109 rfl (lv_at hl 5 rfl) ?_
        refine lv_iload hx hb dX7_tellByMesh_110 (lv_at hl 1 rfl) ?_
        refine g_Vi (As := [.int (nI (S 10 mm).toNat)]) (rest := [.ref (md 0)]) F hP hS (k_X7_shaftOf l A G w120 md S _ _ _ Fm L (S 10 mm).toNat f133 f125 Hf Hi hge1) (cwV 1 hts gX7_tellByMesh_X7_shaftOf rfl rfl rfl cd_X7_shaftOf ⟨by rw [hR]; exact Nat.le_of_ble_eq_true rfl, by rw [hR]; exact Nat.le_of_ble_eq_true rfl⟩) f133 rfl rfl rfl hl.1 (Nat.le_of_ble_eq_true rfl) dX7_tellByMesh_112 ⟨by rw [hR]; exact Nat.le_of_ble_eq_true rfl, by rw [hR]; exact Nat.le_of_ble_eq_true rfl⟩ rfl (fun r134 w135 H locs h136 hP hS => ?_)
        have hr134 := h136.1
        rw [h136.2] at hP
        rw [hr134]
        rw [show iL (S 4 (S 10 mm).toNat) = nI (saM S mm 1) from by rw [iL_nn (by omega)]; rfl]
        refine lv_aload_n hx hb dX7_tellByMesh_115 rfl (lv_at hl 5 rfl) ?_
        refine g_get F hP (C := RX7) (T := TX7) (N := 20) iX7 f133 rfl 17 (by decide) (List.mem_cons_of_mem _ (List.mem_append_left _ (List.mem_append_left _ (List.mem_of_getElem? (i := 5) rfl)))) (fun _ h9 => h9) rfl dX7_tellByMesh_116 ?_
        refine lv_aload_n hx hb dX7_tellByMesh_119 rfl (lv_at hl 5 rfl) ?_
        refine lv_iload hx hb dX7_tellByMesh_120 (lv_at hl 2 rfl) ?_
        refine g_Vi (As := [.int (nI (S 9 mm).toNat)]) (rest := [.ref (md 11), .int (nI (saM S mm 1)), .ref (md 0)]) F hP hS (k_X7_shaftOf l A G w120 md S _ _ _ Fm L (S 9 mm).toNat f133 f125 Hf Hi hge0) (cwV 1 hts gX7_tellByMesh_X7_shaftOf rfl rfl rfl cd_X7_shaftOf ⟨by rw [hR]; exact Nat.le_of_ble_eq_true rfl, by rw [hR]; exact Nat.le_of_ble_eq_true rfl⟩) f133 rfl rfl rfl hl.1 (Nat.le_of_ble_eq_true rfl) dX7_tellByMesh_122 ⟨by rw [hR]; exact Nat.le_of_ble_eq_true rfl, by rw [hR]; exact Nat.le_of_ble_eq_true rfl⟩ rfl (fun r137 w138 H locs h139 hP hS => ?_)
        have hr137 := h139.1
        rw [h139.2] at hP
        rw [hr137]
        rw [show iL (S 4 (S 9 mm).toNat) = nI (saM S mm 0) from by rw [iL_nn (by omega)]; rfl]
        refine g_iald F hP f132 (vp_in_nI (by omega) (by decide)) dX7_tellByMesh_125 ?_
        rw [show (.int ((Fm 11) (nI (saM S mm 0) : Int32).toNatClampNeg) : Value) = .int (iL (T 2 (saM S mm 0))) from by rw [nI_clamp (by omega), (HT _ hs0).2.2]]
        refine lv_iconst (v := 1) hx hb dX7_tellByMesh_126 (by decide) ?_
        refine lv_iadd hx hb dX7_tellByMesh_127 ?_
        refine lv_topi (fun v140 ev140 => ?_)
        obtain rfl : v140 = iL (T 2 (saM S mm 0) + 1) := by
          rw [ev140]
          exact iL_add _ 1
        refine g_Vi (As := [.int (nI (saM S mm 1)), .int (iL (T 2 (saM S mm 0) + 1))]) (rest := []) F hP hS (k_X7_tell l A G w120 md S th (fN ((-1) * T 0 (saM S mm 0) * S 5 (S 9 mm).toNat) (T 1 (saM S mm 0) * S 5 (S 10 mm).toNat)) (fD ((-1) * T 0 (saM S mm 0) * S 5 (S 9 mm).toNat) (T 1 (saM S mm 0) * S 5 (S 10 mm).toNat)) Fm L (saM S mm 1) (iL (T 2 (saM S mm 0) + 1)) f133 f130 f131 f132 Hj (by omega) (by omega) (by omega)) (cwV 2 hts gX7_tellByMesh_X7_tell rfl rfl rfl cd_X7_tell ⟨by rw [hR]; exact Nat.le_of_ble_eq_true rfl, by rw [hR]; exact Nat.le_of_ble_eq_true rfl⟩) f133 rfl rfl rfl hl.1 (Nat.le_of_ble_eq_true rfl) dX7_tellByMesh_128 ⟨by rw [hR]; exact Nat.le_of_ble_eq_true rfl, by rw [hR]; exact Nat.le_of_ble_eq_true rfl⟩ rfl (fun r141 w142 H locs h143 hP hS => ?_)
        rw [h143.1]
        rw [hQ]
        refine g_zret F hP hS hlocks hr (by first | rfl | exact g_nb _) dX7_tellByMesh_131 (by first | exact Nat.le_of_ble_eq_true rfl | omega) (by first | exact Nat.le_of_ble_eq_true rfl | omega) ?_
        exact ⟨by rw [same.1, same.2], tell_sol Hj ⟨f133, f122, f123, f124, f125, f126, f127, f128, f129, f130, f131, f132⟩ (mFr_tr (mFr_rf _ _) (mFr_se (i := 0) (by decide) h121)) HT same.1 same.2 (by rw [show gSI (fun k => T 2 (tSa S 0 mm k)) (tN 0) = T 2 (saM S mm 0) from gSI_1 (f := fun k => T 2 (tSa S 0 mm k)) (show -1 ≤ T 2 (saM S mm 0) by omega) u1, Int.add_comm]) rfl h143.2⟩
      · have yc101 := of_decide_eq_true (g_b1.mp c101)
        refine lv_lconst (v := 1) hx hb dX7_tellByMesh_54 (by decide) ?_
        refine lv_goto (tgt := 61) hx hb dX7_tellByMesh_55 (by decide) ?_
        refine lv_lstore (lv' := [(6, .long 1), (5, .int (nI (S 10 mm).toNat)), (4, .int (nI (S 9 mm).toNat)), (3, .int (nI (S 10 mm).toNat)), (2, .int (nI (S 9 mm).toNat)), (0, .ref (md 0)), (1, .int (nI mm))]) hx hb dX7_tellByMesh_61 hl (by decide) rfl (fun ls hl => ?_)
        refine lv_aload_n hx hb dX7_tellByMesh_63 rfl (lv_at hl 5 rfl) ?_
        refine lv_lload hx hb dX7_tellByMesh_64 (lv_at hl 0 rfl) ?_
        refine lv_aload_n hx hb dX7_tellByMesh_66 rfl (lv_at hl 5 rfl) ?_
        refine g_get F hP (C := RX7) (T := TX7) (N := 20) iX7 hx0 rfl 15 (by decide) (List.mem_cons_of_mem _ (List.mem_append_left _ (List.mem_append_left _ (List.mem_of_getElem? (i := 3) rfl)))) (fun _ h9 => h9) rfl dX7_tellByMesh_67 ?_
        refine lv_aload_n hx hb dX7_tellByMesh_70 rfl (lv_at hl 5 rfl) ?_
        refine lv_iload hx hb dX7_tellByMesh_71 (lv_at hl 2 rfl) ?_
        refine g_Vi (As := [.int (nI (S 9 mm).toNat)]) (rest := [.ref (md 9), .long 1, .ref (md 0)]) F hP hS (k_X7_shaftOf l A G w md S _ _ _ Fm L (S 9 mm).toNat hx0 hy4 Hf Hi hge0) (cwV 1 hts gX7_tellByMesh_X7_shaftOf rfl rfl rfl cd_X7_shaftOf ⟨by rw [hR]; exact Nat.le_of_ble_eq_true rfl, by rw [hR]; exact Nat.le_of_ble_eq_true rfl⟩) hx0 rfl rfl rfl hl.1 (Nat.le_of_ble_eq_true rfl) dX7_tellByMesh_73 ⟨by rw [hR]; exact Nat.le_of_ble_eq_true rfl, by rw [hR]; exact Nat.le_of_ble_eq_true rfl⟩ rfl (fun r144 w145 H locs h146 hP hS => ?_)
        have hr144 := h146.1
        rw [h146.2] at hP
        rw [hr144]
        rw [show iL (S 4 (S 9 mm).toNat) = nI (saM S mm 0) from by rw [iL_nn (by omega)]; rfl]
        refine g_lald F hP hy9 (vp_in_nI (by omega) (by decide)) dX7_tellByMesh_76 ?_
        rw [show (.long ((L 0) (nI (saM S mm 0) : Int32).toNatClampNeg) : Value) = .long (zL (T 0 (saM S mm 0))) from by rw [nI_clamp (by omega), (HT _ hs0).1]]
        refine lv_lmul hx hb dX7_tellByMesh_77 ?_
        refine lv_topl (fun v147 ev147 => ?_)
        obtain rfl : v147 = zL (1 * T 0 (saM S mm 0)) := by
          rw [ev147]
          rw [show (1 : Int64) = zL 1 from by decide]; exact zL_mul _ _
        refine lv_aload_n hx hb dX7_tellByMesh_78 rfl (lv_at hl 5 rfl) ?_
        refine lv_iload hx hb dX7_tellByMesh_79 (lv_at hl 2 rfl) ?_
        refine g_Vi (As := [.int (nI (S 9 mm).toNat)]) (rest := [.long (zL (1 * T 0 (saM S mm 0))), .ref (md 0)]) F hP hS (k_X7_teeth l A G w md S _ _ _ Fm L (S 9 mm).toNat hx0 hy4 Hf Hi hge0) (cwV 1 hts gX7_tellByMesh_X7_teeth rfl rfl rfl cd_X7_teeth ⟨by rw [hR]; exact Nat.le_of_ble_eq_true rfl, by rw [hR]; exact Nat.le_of_ble_eq_true rfl⟩) hx0 rfl rfl rfl hl.1 (Nat.le_of_ble_eq_true rfl) dX7_tellByMesh_81 ⟨by rw [hR]; exact Nat.le_of_ble_eq_true rfl, by rw [hR]; exact Nat.le_of_ble_eq_true rfl⟩ rfl (fun r148 w149 H locs h150 hP hS => ?_)
        have hr148 := h150.1
        rw [h150.2] at hP
        rw [hr148]
        refine lv_i2l hx hb dX7_tellByMesh_84 rfl ?_
        refine lv_topl (fun v151 ev151 => ?_)
        obtain rfl : v151 = zL (S 5 (S 9 mm).toNat) := by
          rw [ev151]
          exact iL64 (by omega) (by omega)
        refine lv_lmul hx hb dX7_tellByMesh_85 ?_
        refine lv_topl (fun v152 ev152 => ?_)
        obtain rfl : v152 = zL (1 * T 0 (saM S mm 0) * S 5 (S 9 mm).toNat) := by
          rw [ev152]
          exact zL_mul _ _
        refine lv_aload_n hx hb dX7_tellByMesh_86 rfl (lv_at hl 5 rfl) ?_
        refine g_get F hP (C := RX7) (T := TX7) (N := 20) iX7 hx0 rfl 16 (by decide) (List.mem_cons_of_mem _ (List.mem_append_left _ (List.mem_append_left _ (List.mem_of_getElem? (i := 4) rfl)))) (fun _ h9 => h9) rfl dX7_tellByMesh_87 ?_
        refine lv_aload_n hx hb dX7_tellByMesh_90 rfl (lv_at hl 5 rfl) ?_
        refine lv_iload hx hb dX7_tellByMesh_91 (lv_at hl 2 rfl) ?_
        refine g_Vi (As := [.int (nI (S 9 mm).toNat)]) (rest := [.ref (md 10), .long (zL (1 * T 0 (saM S mm 0) * S 5 (S 9 mm).toNat)), .ref (md 0)]) F hP hS (k_X7_shaftOf l A G w md S _ _ _ Fm L (S 9 mm).toNat hx0 hy4 Hf Hi hge0) (cwV 1 hts gX7_tellByMesh_X7_shaftOf rfl rfl rfl cd_X7_shaftOf ⟨by rw [hR]; exact Nat.le_of_ble_eq_true rfl, by rw [hR]; exact Nat.le_of_ble_eq_true rfl⟩) hx0 rfl rfl rfl hl.1 (Nat.le_of_ble_eq_true rfl) dX7_tellByMesh_93 ⟨by rw [hR]; exact Nat.le_of_ble_eq_true rfl, by rw [hR]; exact Nat.le_of_ble_eq_true rfl⟩ rfl (fun r153 w154 H locs h155 hP hS => ?_)
        have hr153 := h155.1
        rw [h155.2] at hP
        rw [hr153]
        rw [show iL (S 4 (S 9 mm).toNat) = nI (saM S mm 0) from by rw [iL_nn (by omega)]; rfl]
        refine g_lald F hP hy10 (vp_in_nI (by omega) (by decide)) dX7_tellByMesh_96 ?_
        rw [show (.long ((L 1) (nI (saM S mm 0) : Int32).toNatClampNeg) : Value) = .long (zL (T 1 (saM S mm 0))) from by rw [nI_clamp (by omega), (HT _ hs0).2.1, if_neg u0]]
        refine lv_aload_n hx hb dX7_tellByMesh_97 rfl (lv_at hl 5 rfl) ?_
        refine lv_iload hx hb dX7_tellByMesh_98 (lv_at hl 1 rfl) ?_
        refine g_Vi (As := [.int (nI (S 10 mm).toNat)]) (rest := [.long (zL (T 1 (saM S mm 0))), .long (zL (1 * T 0 (saM S mm 0) * S 5 (S 9 mm).toNat)), .ref (md 0)]) F hP hS (k_X7_teeth l A G w md S _ _ _ Fm L (S 10 mm).toNat hx0 hy4 Hf Hi hge1) (cwV 1 hts gX7_tellByMesh_X7_teeth rfl rfl rfl cd_X7_teeth ⟨by rw [hR]; exact Nat.le_of_ble_eq_true rfl, by rw [hR]; exact Nat.le_of_ble_eq_true rfl⟩) hx0 rfl rfl rfl hl.1 (Nat.le_of_ble_eq_true rfl) dX7_tellByMesh_100 ⟨by rw [hR]; exact Nat.le_of_ble_eq_true rfl, by rw [hR]; exact Nat.le_of_ble_eq_true rfl⟩ rfl (fun r156 w157 H locs h158 hP hS => ?_)
        have hr156 := h158.1
        rw [h158.2] at hP
        rw [hr156]
        refine lv_i2l hx hb dX7_tellByMesh_103 rfl ?_
        refine lv_topl (fun v159 ev159 => ?_)
        obtain rfl : v159 = zL (S 5 (S 10 mm).toNat) := by
          rw [ev159]
          exact iL64 (by omega) (by omega)
        refine lv_lmul hx hb dX7_tellByMesh_104 ?_
        refine lv_topl (fun v160 ev160 => ?_)
        obtain rfl : v160 = zL (T 1 (saM S mm 0) * S 5 (S 10 mm).toNat) := by
          rw [ev160]
          exact zL_mul _ _
        have same := mesh_s1 Hi Ht hm (sg := 1) (Or.inl ⟨yc101, rfl⟩)
        have hbX : (1 * T 0 (saM S mm 0) * S 5 (S 9 mm).toNat).natAbs ≤ 1 * 1000000 * 200 := by
          rw [Int.natAbs_mul, Int.natAbs_mul]
          exact Nat.mul_le_mul (Nat.mul_le_mul (by decide) (by omega)) (by omega)
        have hbY : (T 1 (saM S mm 0) * S 5 (S 10 mm).toNat).natAbs ≤ 1000000 * 200 := by
          rw [Int.natAbs_mul]
          exact Nat.mul_le_mul (by omega) (by omega)
        have hnN := fN_le (1 * T 0 (saM S mm 0) * S 5 (S 9 mm).toNat) (T 1 (saM S mm 0) * S 5 (S 10 mm).toNat)
        have hnD := fD_le (1 * T 0 (saM S mm 0) * S 5 (S 9 mm).toNat) (T 1 (saM S mm 0) * S 5 (S 10 mm).toNat)
        refine g_Vv (As := [.long (zL (1 * T 0 (saM S mm 0) * S 5 (S 9 mm).toNat)), .long (zL (T 1 (saM S mm 0) * S 5 (S 10 mm).toNat))]) (rest := []) F hP hS (k_X7_make l A G w md S _ _ _ Fm L (1 * T 0 (saM S mm 0) * S 5 (S 9 mm).toNat) (T 1 (saM S mm 0) * S 5 (S 10 mm).toNat) hx0 (Int.mul_ne_zero (by omega) (by omega)) (by omega) (by omega)) (cwV 2 hts gX7_tellByMesh_X7_make rfl rfl rfl cd_X7_make ⟨by rw [hR]; exact Nat.le_of_ble_eq_true rfl, by rw [hR]; exact Nat.le_of_ble_eq_true rfl⟩) hx0 rfl rfl rfl hl.1 (Nat.le_of_ble_eq_true rfl) dX7_tellByMesh_105 ⟨by rw [hR]; exact Nat.le_of_ble_eq_true rfl, by rw [hR]; exact Nat.le_of_ble_eq_true rfl⟩ rfl (fun w162 H locs h163 hP hS => ?_)
        have f164 : w162 (md 1) = some (.inl (G.2.1 0, 10, .inl (Fm 1))) := by rw [h163]; exact g_up_f hy1 ((fun q => absurd (Hj 1 0 (by decide) (by decide) q) (by decide)))
        have f165 : w162 (md 2) = some (.inl (G.2.1 0, 10, .inl (Fm 2))) := by rw [h163]; exact g_up_f hy2 ((fun q => absurd (Hj 2 0 (by decide) (by decide) q) (by decide)))
        have f166 : w162 (md 3) = some (.inl (G.2.1 2, 10, .inl (Fm 3))) := by rw [h163]; exact g_up_f hy3 ((fun q => absurd (Hj 3 0 (by decide) (by decide) q) (by decide)))
        have f167 : w162 (md 4) = some (.inl (G.2.1 0, 64, .inl (Fm 4))) := by rw [h163]; exact g_up_f hy4 ((fun q => absurd (Hj 4 0 (by decide) (by decide) q) (by decide)))
        have f168 : w162 (md 5) = some (.inl (G.2.1 2, 16, .inl (Fm 5))) := by rw [h163]; exact g_up_f hy5 ((fun q => absurd (Hj 5 0 (by decide) (by decide) q) (by decide)))
        have f169 : w162 (md 6) = some (.inl (G.2.1 0, 16, .inl (Fm 6))) := by rw [h163]; exact g_up_f hy6 ((fun q => absurd (Hj 6 0 (by decide) (by decide) q) (by decide)))
        have f170 : w162 (md 7) = some (.inl (G.2.1 0, 16, .inl (Fm 7))) := by rw [h163]; exact g_up_f hy7 ((fun q => absurd (Hj 7 0 (by decide) (by decide) q) (by decide)))
        have f171 : w162 (md 8) = some (.inl (G.2.1 0, 20, .inl (Fm 8))) := by rw [h163]; exact g_up_f hy8 ((fun q => absurd (Hj 8 0 (by decide) (by decide) q) (by decide)))
        have f172 : w162 (md 9) = some (.inl (G.2.1 1, 10, .inr (.inl (L 0)))) := by rw [h163]; exact g_up_f hy9 ((fun q => absurd (Hj 9 0 (by decide) (by decide) q) (by decide)))
        have f173 : w162 (md 10) = some (.inl (G.2.1 1, 10, .inr (.inl (L 1)))) := by rw [h163]; exact g_up_f hy10 ((fun q => absurd (Hj 10 0 (by decide) (by decide) q) (by decide)))
        have f174 : w162 (md 11) = some (.inl (G.2.1 0, 10, .inl (Fm 11))) := by rw [h163]; exact g_up_f hy11 ((fun q => absurd (Hj 11 0 (by decide) (by decide) q) (by decide)))
        have f175 : w162 (md 0) = some (.inr (8, [.int th, .int (iL (S 0 0)), .ref (md 1), .ref (md 2), .ref (md 3), .int (iL (S 0 4)), .int (iL (S 0 5)), .int (iL (S 0 1)), .ref (md 4), .ref (md 5), .int (iL (S 0 2)), .ref (md 6), .ref (md 7), .int (iL (S 0 3)), .ref (md 8), .ref (md 9), .ref (md 10), .ref (md 11), .long (zL (fN (1 * T 0 (saM S mm 0) * S 5 (S 9 mm).toNat) (T 1 (saM S mm 0) * S 5 (S 10 mm).toNat))), .long (zL (fD (1 * T 0 (saM S mm 0) * S 5 (S 9 mm).toNat) (T 1 (saM S mm 0) * S 5 (S 10 mm).toNat)))])) := by rw [h163]; exact g_up_s _ _ _
        refine lv_aload_n hx hb dX7_tellByMesh_108 rfl (lv_at hl 5 rfl) ?_
        refine lv_aload_n hx hb dX7_tellByMesh_109 rfl (lv_at hl 5 rfl) ?_
        refine lv_iload hx hb dX7_tellByMesh_110 (lv_at hl 1 rfl) ?_
        refine g_Vi (As := [.int (nI (S 10 mm).toNat)]) (rest := [.ref (md 0)]) F hP hS (k_X7_shaftOf l A G w162 md S _ _ _ Fm L (S 10 mm).toNat f175 f167 Hf Hi hge1) (cwV 1 hts gX7_tellByMesh_X7_shaftOf rfl rfl rfl cd_X7_shaftOf ⟨by rw [hR]; exact Nat.le_of_ble_eq_true rfl, by rw [hR]; exact Nat.le_of_ble_eq_true rfl⟩) f175 rfl rfl rfl hl.1 (Nat.le_of_ble_eq_true rfl) dX7_tellByMesh_112 ⟨by rw [hR]; exact Nat.le_of_ble_eq_true rfl, by rw [hR]; exact Nat.le_of_ble_eq_true rfl⟩ rfl (fun r176 w177 H locs h178 hP hS => ?_)
        have hr176 := h178.1
        rw [h178.2] at hP
        rw [hr176]
        rw [show iL (S 4 (S 10 mm).toNat) = nI (saM S mm 1) from by rw [iL_nn (by omega)]; rfl]
        refine lv_aload_n hx hb dX7_tellByMesh_115 rfl (lv_at hl 5 rfl) ?_
        refine g_get F hP (C := RX7) (T := TX7) (N := 20) iX7 f175 rfl 17 (by decide) (List.mem_cons_of_mem _ (List.mem_append_left _ (List.mem_append_left _ (List.mem_of_getElem? (i := 5) rfl)))) (fun _ h9 => h9) rfl dX7_tellByMesh_116 ?_
        refine lv_aload_n hx hb dX7_tellByMesh_119 rfl (lv_at hl 5 rfl) ?_
        refine lv_iload hx hb dX7_tellByMesh_120 (lv_at hl 2 rfl) ?_
        refine g_Vi (As := [.int (nI (S 9 mm).toNat)]) (rest := [.ref (md 11), .int (nI (saM S mm 1)), .ref (md 0)]) F hP hS (k_X7_shaftOf l A G w162 md S _ _ _ Fm L (S 9 mm).toNat f175 f167 Hf Hi hge0) (cwV 1 hts gX7_tellByMesh_X7_shaftOf rfl rfl rfl cd_X7_shaftOf ⟨by rw [hR]; exact Nat.le_of_ble_eq_true rfl, by rw [hR]; exact Nat.le_of_ble_eq_true rfl⟩) f175 rfl rfl rfl hl.1 (Nat.le_of_ble_eq_true rfl) dX7_tellByMesh_122 ⟨by rw [hR]; exact Nat.le_of_ble_eq_true rfl, by rw [hR]; exact Nat.le_of_ble_eq_true rfl⟩ rfl (fun r179 w180 H locs h181 hP hS => ?_)
        have hr179 := h181.1
        rw [h181.2] at hP
        rw [hr179]
        rw [show iL (S 4 (S 9 mm).toNat) = nI (saM S mm 0) from by rw [iL_nn (by omega)]; rfl]
        refine g_iald F hP f174 (vp_in_nI (by omega) (by decide)) dX7_tellByMesh_125 ?_
        rw [show (.int ((Fm 11) (nI (saM S mm 0) : Int32).toNatClampNeg) : Value) = .int (iL (T 2 (saM S mm 0))) from by rw [nI_clamp (by omega), (HT _ hs0).2.2]]
        refine lv_iconst (v := 1) hx hb dX7_tellByMesh_126 (by decide) ?_
        refine lv_iadd hx hb dX7_tellByMesh_127 ?_
        refine lv_topi (fun v182 ev182 => ?_)
        obtain rfl : v182 = iL (T 2 (saM S mm 0) + 1) := by
          rw [ev182]
          exact iL_add _ 1
        refine g_Vi (As := [.int (nI (saM S mm 1)), .int (iL (T 2 (saM S mm 0) + 1))]) (rest := []) F hP hS (k_X7_tell l A G w162 md S th (fN (1 * T 0 (saM S mm 0) * S 5 (S 9 mm).toNat) (T 1 (saM S mm 0) * S 5 (S 10 mm).toNat)) (fD (1 * T 0 (saM S mm 0) * S 5 (S 9 mm).toNat) (T 1 (saM S mm 0) * S 5 (S 10 mm).toNat)) Fm L (saM S mm 1) (iL (T 2 (saM S mm 0) + 1)) f175 f172 f173 f174 Hj (by omega) (by omega) (by omega)) (cwV 2 hts gX7_tellByMesh_X7_tell rfl rfl rfl cd_X7_tell ⟨by rw [hR]; exact Nat.le_of_ble_eq_true rfl, by rw [hR]; exact Nat.le_of_ble_eq_true rfl⟩) f175 rfl rfl rfl hl.1 (Nat.le_of_ble_eq_true rfl) dX7_tellByMesh_128 ⟨by rw [hR]; exact Nat.le_of_ble_eq_true rfl, by rw [hR]; exact Nat.le_of_ble_eq_true rfl⟩ rfl (fun r183 w184 H locs h185 hP hS => ?_)
        rw [h185.1]
        rw [hQ]
        refine g_zret F hP hS hlocks hr (by first | rfl | exact g_nb _) dX7_tellByMesh_131 (by first | exact Nat.le_of_ble_eq_true rfl | omega) (by first | exact Nat.le_of_ble_eq_true rfl | omega) ?_
        exact ⟨by rw [same.1, same.2], tell_sol Hj ⟨f175, f164, f165, f166, f167, f168, f169, f170, f171, f172, f173, f174⟩ (mFr_tr (mFr_rf _ _) (mFr_se (i := 0) (by decide) h163)) HT same.1 same.2 (by rw [show gSI (fun k => T 2 (tSa S 0 mm k)) (tN 0) = T 2 (saM S mm 0) from gSI_1 (f := fun k => T 2 (tSa S 0 mm k)) (show -1 ≤ T 2 (saM S mm 0) by omega) u1, Int.add_comm]) rfl h185.2⟩
