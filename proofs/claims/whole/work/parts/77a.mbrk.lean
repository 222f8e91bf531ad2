set_option maxHeartbeats 4000000 in
set_option maxRecDepth 100000 in
theorem k_X7_isBrokenMesh (l : Launch) (A : Nat → Prop) (G : g_C) (w : g_W) (md : Nat → Nat) (S : Sg) (th : Int32) (tp bt : Int64) (Fm : Nat → Nat → Int32) (L : Nat → Nat → Int64) (T : Sg) (mm : Nat) (hx0 : w (md 0) = some (.inr (8, [.int th, .int (iL (S 0 0)), .ref (md 1), .ref (md 2), .ref (md 3), .int (iL (S 0 4)), .int (iL (S 0 5)), .int (iL (S 0 1)), .ref (md 4), .ref (md 5), .int (iL (S 0 2)), .ref (md 6), .ref (md 7), .int (iL (S 0 3)), .ref (md 8), .ref (md 9), .ref (md 10), .ref (md 11), .long tp, .long bt]))) (hy4 : w (md 4) = some (.inl (G.2.1 0, 64, .inl (Fm 4)))) (hy5 : w (md 5) = some (.inl (G.2.1 2, 16, .inl (Fm 5)))) (hy6 : w (md 6) = some (.inl (G.2.1 0, 16, .inl (Fm 6)))) (hy7 : w (md 7) = some (.inl (G.2.1 0, 16, .inl (Fm 7)))) (hy9 : w (md 9) = some (.inl (G.2.1 1, 10, .inr (.inl (L 0))))) (hy10 : w (md 10) = some (.inl (G.2.1 1, 10, .inr (.inl (L 1))))) (Hf : modF S Fm) (Hi : invS S) (Ht : invT S T) (HT : modT S T Fm L) (hm : (mm : Int) < S 0 2) : mI l yX7_isBrokenMesh wsX7_isBrokenMesh ({ frames := 1, cells := 0, slots := 0, locals := 21 } : Room) [.ref (md 0), .int (nI mm)] A G w (fun r w' => r = g_b (brkB S T 0 mm) ∧ w' = w) 0 0 := by
  refine g_ofI (cc := cX7_isBrokenMesh) (maxL := 8) (ret := (some .boolean)) (own := RX7) (by decide) rfl rfl (Nat.le_of_ble_eq_true rfl) ?_
  intro p e R s m args below meth c Q ls hR F hP hS hlocks hr hnm0 hQ hl
  obtain ⟨⟨hx, hb, hml, hown, hts⟩, hK, hZ, hA⟩ := id F
  generalize hH0 : s.heap = H at hP ⊢
  have hS : va_S A s.heap H [] := by rw [← hH0]; exact va_S.rf
  generalize ([] : List Loc) = locs at hS ⊢
  have hl : lv_has ls 8 [(0, .ref (md 0)), (1, .int (nI mm))] := hl
  have iX7 : ∀ w ∈ u_ws RX7 TX7 20, w ∈ wsX7_isBrokenMesh := fun w h => List.mem_cons_of_mem _ (List.mem_append_right _ (h))
  have hi := Hi.1
  obtain ⟨a1, a2, a3, a4, a5⟩ := Hi.2.2.2.1 mm hm
  have hge0 : (((S 9 mm).toNat : Nat) : Int) < S 0 1 := by omega
  have hge1 : (((S 10 mm).toNat : Nat) : Int) < S 0 1 := by omega
  have g1 := Hi.2.2.1 (S 9 mm).toNat (by omega)
  have g2 := Hi.2.2.1 (S 10 mm).toNat (by omega)
  have hs0 : ((saM S mm 0 : Nat) : Int) < S 0 0 := tSa_lt (b := 0) Hi (by decide) hm 0
  have hs1 : ((saM S mm 1 : Nat) : Int) < S 0 0 := tSa_lt (b := 0) Hi (by decide) hm 1
  have t0 := Ht.1 _ hs0
  have t1 := Ht.1 _ hs1
  refine lv_aload_n hx hb dX7_isBrokenMesh_0 rfl (lv_at hl 0 rfl) ?_
  refine lv_aload_n hx hb dX7_isBrokenMesh_1 rfl (lv_at hl 0 rfl) ?_
  refine g_get F hP (C := RX7) (T := TX7) (N := 20) iX7 hx0 rfl 11 (by decide) (List.mem_cons_of_mem _ (List.mem_append_left _ (List.mem_of_getElem? (i := 0) rfl))) (fun _ h9 => h9) rfl dX7_isBrokenMesh_2 ?_
  refine lv_iload_n hx hb dX7_isBrokenMesh_5 rfl (lv_at hl 1 rfl) ?_
  refine g_iald F hP hy6 (vp_in_nI (by omega) (by decide)) dX7_isBrokenMesh_6 ?_
  rw [show (.int ((Fm 6) (nI mm : Int32).toNatClampNeg) : Value) = .int (nI (S 9 mm).toNat) from by rw [nI_clamp (by omega), (Hf.2.2.1 mm hm).1, iL_nn (by omega)]]
  refine g_Vi (As := [.int (nI (S 9 mm).toNat)]) (rest := []) F hP hS (k_X7_shaftOf l A G w md S _ _ _ Fm L (S 9 mm).toNat hx0 hy4 Hf Hi hge0) (cwV 1 hts gX7_isBrokenMesh_X7_shaftOf rfl rfl rfl cd_X7_shaftOf ⟨by rw [hR]; exact Nat.le_of_ble_eq_true rfl, by rw [hR]; exact Nat.le_of_ble_eq_true rfl⟩) hx0 rfl rfl rfl hl.1 (Nat.le_of_ble_eq_true rfl) dX7_isBrokenMesh_7 ⟨by rw [hR]; exact Nat.le_of_ble_eq_true rfl, by rw [hR]; exact Nat.le_of_ble_eq_true rfl⟩ rfl (fun r1 w2 H locs h3 hP hS => ?_)
  have hr1 := h3.1
  rw [h3.2] at hP
  rw [hr1]
  rw [show iL (S 4 (S 9 mm).toNat) = nI (saM S mm 0) from by rw [iL_nn (by omega)]; rfl]
  refine lv_istore_n (lv' := [(2, .int (nI (saM S mm 0))), (0, .ref (md 0)), (1, .int (nI mm))]) hx hb dX7_isBrokenMesh_10 rfl hl (by decide) rfl (fun ls hl => ?_)
  refine lv_aload_n hx hb dX7_isBrokenMesh_11 rfl (lv_at hl 1 rfl) ?_
  refine lv_aload_n hx hb dX7_isBrokenMesh_12 rfl (lv_at hl 1 rfl) ?_
  refine g_get F hP (C := RX7) (T := TX7) (N := 20) iX7 hx0 rfl 12 (by decide) (List.mem_cons_of_mem _ (List.mem_append_left _ (List.mem_of_getElem? (i := 1) rfl))) (fun _ h9 => h9) rfl dX7_isBrokenMesh_13 ?_
  refine lv_iload_n hx hb dX7_isBrokenMesh_16 rfl (lv_at hl 2 rfl) ?_
  refine g_iald F hP hy7 (vp_in_nI (by omega) (by decide)) dX7_isBrokenMesh_17 ?_
  rw [show (.int ((Fm 7) (nI mm : Int32).toNatClampNeg) : Value) = .int (nI (S 10 mm).toNat) from by rw [nI_clamp (by omega), (Hf.2.2.1 mm hm).2, iL_nn (by omega)]]
  refine g_Vi (As := [.int (nI (S 10 mm).toNat)]) (rest := []) F hP hS (k_X7_shaftOf l A G w md S _ _ _ Fm L (S 10 mm).toNat hx0 hy4 Hf Hi hge1) (cwV 1 hts gX7_isBrokenMesh_X7_shaftOf rfl rfl rfl cd_X7_shaftOf ⟨by rw [hR]; exact Nat.le_of_ble_eq_true rfl, by rw [hR]; exact Nat.le_of_ble_eq_true rfl⟩) hx0 rfl rfl rfl hl.1 (Nat.le_of_ble_eq_true rfl) dX7_isBrokenMesh_18 ⟨by rw [hR]; exact Nat.le_of_ble_eq_true rfl, by rw [hR]; exact Nat.le_of_ble_eq_true rfl⟩ rfl (fun r4 w5 H locs h6 hP hS => ?_)
  have hr4 := h6.1
  rw [h6.2] at hP
  rw [hr4]
  rw [show iL (S 4 (S 10 mm).toNat) = nI (saM S mm 1) from by rw [iL_nn (by omega)]; rfl]
  refine lv_istore_n (lv' := [(3, .int (nI (saM S mm 1))), (2, .int (nI (saM S mm 0))), (0, .ref (md 0)), (1, .int (nI mm))]) hx hb dX7_isBrokenMesh_21 rfl hl (by decide) rfl (fun ls hl => ?_)
  refine lv_aload_n hx hb dX7_isBrokenMesh_22 rfl (lv_at hl 2 rfl) ?_
  refine lv_iload_n hx hb dX7_isBrokenMesh_23 rfl (lv_at hl 1 rfl) ?_
  refine g_Vi (As := [.int (nI (saM S mm 0))]) (rest := []) F hP hS (k_X7_hasSpeed l A G w md S _ _ _ Fm L (saM S mm 0) (zB T (saM S mm 0)) hx0 hy10 (by have := hs0; omega) (zB_z HT hs0) (zB_b Ht hs0)) (cwV 1 hts gX7_isBrokenMesh_X7_hasSpeed rfl rfl rfl cd_X7_hasSpeed ⟨by rw [hR]; exact Nat.le_of_ble_eq_true rfl, by rw [hR]; exact Nat.le_of_ble_eq_true rfl⟩) hx0 rfl rfl rfl hl.1 (Nat.le_of_ble_eq_true rfl) dX7_isBrokenMesh_24 ⟨by rw [hR]; exact Nat.le_of_ble_eq_true rfl, by rw [hR]; exact Nat.le_of_ble_eq_true rfl⟩ rfl (fun r7 w8 H locs h9 hP hS => ?_)
  have hr7 := h9.1
  rw [h9.2] at hP
  rw [hr7]
  rw [zB_d Ht hs0]
  refine lv_if_eq (tgt := 38) hx hb dX7_isBrokenMesh_27 (by decide) (fun c10 => ?_) (fun c10 => ?_)
  · have yc10 := of_decide_eq_false (g_b0.mp c10)
    refine lv_iconst (v := 0) hx hb dX7_isBrokenMesh_38 (by decide) ?_
    rw [hQ]
    refine g_zret F hP hS hlocks hr (by first | rfl | exact g_nb _) dX7_isBrokenMesh_39 (by first | exact Nat.le_of_ble_eq_true rfl | omega) (by first | exact Nat.le_of_ble_eq_true rfl | omega) ?_
    exact ⟨by rw [brk_mf (Or.inl (Decidable.not_not.mp yc10))]; rfl, rfl⟩
  · have yc10 := of_decide_eq_true (g_b1.mp c10)
    refine lv_aload_n hx hb dX7_isBrokenMesh_30 rfl (lv_at hl 2 rfl) ?_
    refine lv_iload_n hx hb dX7_isBrokenMesh_31 rfl (lv_at hl 0 rfl) ?_
    refine g_Vi (As := [.int (nI (saM S mm 1))]) (rest := []) F hP hS (k_X7_hasSpeed l A G w md S _ _ _ Fm L (saM S mm 1) (zB T (saM S mm 1)) hx0 hy10 (by have := hs1; omega) (zB_z HT hs1) (zB_b Ht hs1)) (cwV 1 hts gX7_isBrokenMesh_X7_hasSpeed rfl rfl rfl cd_X7_hasSpeed ⟨by rw [hR]; exact Nat.le_of_ble_eq_true rfl, by rw [hR]; exact Nat.le_of_ble_eq_true rfl⟩) hx0 rfl rfl rfl hl.1 (Nat.le_of_ble_eq_true rfl) dX7_isBrokenMesh_32 ⟨by rw [hR]; exact Nat.le_of_ble_eq_true rfl, by rw [hR]; exact Nat.le_of_ble_eq_true rfl⟩ rfl (fun r11 w12 H locs h13 hP hS => ?_)
    have hr11 := h13.1
    rw [h13.2] at hP
    rw [hr11]
    rw [zB_d Ht hs1]
    refine lv_if_ne (tgt := 40) hx hb dX7_isBrokenMesh_35 (by decide) (fun c14 => ?_) (fun c14 => ?_)
    · have yc14 := of_decide_eq_true (g_b1.mp c14)
      refine lv_aload_n hx hb dX7_isBrokenMesh_40 rfl (lv_at hl 2 rfl) ?_
      refine g_get F hP (C := RX7) (T := TX7) (N := 20) iX7 hx0 rfl 15 (by decide) (List.mem_cons_of_mem _ (List.mem_append_left _ (List.mem_of_getElem? (i := 2) rfl))) (fun _ h9 => h9) rfl dX7_isBrokenMesh_41 ?_
      refine lv_iload_n hx hb dX7_isBrokenMesh_44 rfl (lv_at hl 1 rfl) ?_
      refine g_lald F hP hy9 (vp_in_nI (by omega) (by decide)) dX7_isBrokenMesh_45 ?_
      rw [show (.long ((L 0) (nI (saM S mm 0) : Int32).toNatClampNeg) : Value) = .long (zL (T 0 (saM S mm 0))) from by rw [nI_clamp (by omega), (HT _ hs0).1]]
      refine lv_aload_n hx hb dX7_isBrokenMesh_46 rfl (lv_at hl 2 rfl) ?_
      refine g_get F hP (C := RX7) (T := TX7) (N := 20) iX7 hx0 rfl 16 (by decide) (List.mem_cons_of_mem _ (List.mem_append_left _ (List.mem_of_getElem? (i := 3) rfl))) (fun _ h9 => h9) rfl dX7_isBrokenMesh_47 ?_
      refine lv_iload_n hx hb dX7_isBrokenMesh_50 rfl (lv_at hl 0 rfl) ?_
      refine g_lald F hP hy10 (vp_in_nI (by omega) (by decide)) dX7_isBrokenMesh_51 ?_
      rw [show (.long ((L 1) (nI (saM S mm 1) : Int32).toNatClampNeg) : Value) = .long (zL (T 1 (saM S mm 1))) from by rw [nI_clamp (by omega), (HT _ hs1).2.1, if_neg yc14]]
      refine lv_lmul hx hb dX7_isBrokenMesh_52 ?_
      refine lv_topl (fun v15 ev15 => ?_)
      obtain rfl : v15 = zL (T 0 (saM S mm 0) * T 1 (saM S mm 1)) := by
        rw [ev15]
        exact zL_mul _ _
      refine lv_aload_n hx hb dX7_isBrokenMesh_53 rfl (lv_at hl 2 rfl) ?_
      refine lv_aload_n hx hb dX7_isBrokenMesh_54 rfl (lv_at hl 2 rfl) ?_
      refine g_get F hP (C := RX7) (T := TX7) (N := 20) iX7 hx0 rfl 11 (by decide) (List.mem_cons_of_mem _ (List.mem_append_left _ (List.mem_of_getElem? (i := 0) rfl))) (fun _ h9 => h9) rfl dX7_isBrokenMesh_55 ?_
      refine lv_iload_n hx hb dX7_isBrokenMesh_58 rfl (lv_at hl 3 rfl) ?_
      refine g_iald F hP hy6 (vp_in_nI (by omega) (by decide)) dX7_isBrokenMesh_59 ?_
      rw [show (.int ((Fm 6) (nI mm : Int32).toNatClampNeg) : Value) = .int (nI (S 9 mm).toNat) from by rw [nI_clamp (by omega), (Hf.2.2.1 mm hm).1, iL_nn (by omega)]]
      refine g_Vi (As := [.int (nI (S 9 mm).toNat)]) (rest := [.long (zL (T 0 (saM S mm 0) * T 1 (saM S mm 1)))]) F hP hS (k_X7_teeth l A G w md S _ _ _ Fm L (S 9 mm).toNat hx0 hy4 Hf Hi hge0) (cwV 1 hts gX7_isBrokenMesh_X7_teeth rfl rfl rfl cd_X7_teeth ⟨by rw [hR]; exact Nat.le_of_ble_eq_true rfl, by rw [hR]; exact Nat.le_of_ble_eq_true rfl⟩) hx0 rfl rfl rfl hl.1 (Nat.le_of_ble_eq_true rfl) dX7_isBrokenMesh_60 ⟨by rw [hR]; exact Nat.le_of_ble_eq_true rfl, by rw [hR]; exact Nat.le_of_ble_eq_true rfl⟩ rfl (fun r16 w17 H locs h18 hP hS => ?_)
      have hr16 := h18.1
      rw [h18.2] at hP
      rw [hr16]
      refine lv_i2l hx hb dX7_isBrokenMesh_63 rfl ?_
      refine lv_topl (fun v19 ev19 => ?_)
      obtain rfl : v19 = zL (S 5 (S 9 mm).toNat) := by
        rw [ev19]
        exact iL64 (by omega) (by omega)
      refine lv_lmul hx hb dX7_isBrokenMesh_64 ?_
      refine lv_topl (fun v20 ev20 => ?_)
      obtain rfl : v20 = zL (T 0 (saM S mm 0) * T 1 (saM S mm 1) * S 5 (S 9 mm).toNat) := by
        rw [ev20]
        exact zL_mul _ _
      refine lv_lstore (lv' := [(4, .long (zL (T 0 (saM S mm 0) * T 1 (saM S mm 1) * S 5 (S 9 mm).toNat))), (3, .int (nI (saM S mm 1))), (2, .int (nI (saM S mm 0))), (0, .ref (md 0)), (1, .int (nI mm))]) hx hb dX7_isBrokenMesh_65 hl (by decide) rfl (fun ls hl => ?_)
      refine lv_aload_n hx hb dX7_isBrokenMesh_67 rfl (lv_at hl 3 rfl) ?_
      refine g_get F hP (C := RX7) (T := TX7) (N := 20) iX7 hx0 rfl 15 (by decide) (List.mem_cons_of_mem _ (List.mem_append_left _ (List.mem_of_getElem? (i := 2) rfl))) (fun _ h9 => h9) rfl dX7_isBrokenMesh_68 ?_
      refine lv_iload_n hx hb dX7_isBrokenMesh_71 rfl (lv_at hl 1 rfl) ?_
      refine g_lald F hP hy9 (vp_in_nI (by omega) (by decide)) dX7_isBrokenMesh_72 ?_
      rw [show (.long ((L 0) (nI (saM S mm 1) : Int32).toNatClampNeg) : Value) = .long (zL (T 0 (saM S mm 1))) from by rw [nI_clamp (by omega), (HT _ hs1).1]]
      refine lv_aload_n hx hb dX7_isBrokenMesh_73 rfl (lv_at hl 3 rfl) ?_
      refine g_get F hP (C := RX7) (T := TX7) (N := 20) iX7 hx0 rfl 16 (by decide) (List.mem_cons_of_mem _ (List.mem_append_left _ (List.mem_of_getElem? (i := 3) rfl))) (fun _ h9 => h9) rfl dX7_isBrokenMesh_74 ?_
      refine lv_iload_n hx hb dX7_isBrokenMesh_77 rfl (lv_at hl 2 rfl) ?_
      refine g_lald F hP hy10 (vp_in_nI (by omega) (by decide)) dX7_isBrokenMesh_78 ?_
      rw [show (.long ((L 1) (nI (saM S mm 0) : Int32).toNatClampNeg) : Value) = .long (zL (T 1 (saM S mm 0))) from by rw [nI_clamp (by omega), (HT _ hs0).2.1, if_neg yc10]]
      refine lv_lmul hx hb dX7_isBrokenMesh_79 ?_
      refine lv_topl (fun v21 ev21 => ?_)
      obtain rfl : v21 = zL (T 0 (saM S mm 1) * T 1 (saM S mm 0)) := by
        rw [ev21]
        exact zL_mul _ _
      refine lv_aload_n hx hb dX7_isBrokenMesh_80 rfl (lv_at hl 3 rfl) ?_
      refine lv_aload_n hx hb dX7_isBrokenMesh_81 rfl (lv_at hl 3 rfl) ?_
      refine g_get F hP (C := RX7) (T := TX7) (N := 20) iX7 hx0 rfl 12 (by decide) (List.mem_cons_of_mem _ (List.mem_append_left _ (List.mem_of_getElem? (i := 1) rfl))) (fun _ h9 => h9) rfl dX7_isBrokenMesh_82 ?_
      refine lv_iload_n hx hb dX7_isBrokenMesh_85 rfl (lv_at hl 4 rfl) ?_
      refine g_iald F hP hy7 (vp_in_nI (by omega) (by decide)) dX7_isBrokenMesh_86 ?_
      rw [show (.int ((Fm 7) (nI mm : Int32).toNatClampNeg) : Value) = .int (nI (S 10 mm).toNat) from by rw [nI_clamp (by omega), (Hf.2.2.1 mm hm).2, iL_nn (by omega)]]
      refine g_Vi (As := [.int (nI (S 10 mm).toNat)]) (rest := [.long (zL (T 0 (saM S mm 1) * T 1 (saM S mm 0)))]) F hP hS (k_X7_teeth l A G w md S _ _ _ Fm L (S 10 mm).toNat hx0 hy4 Hf Hi hge1) (cwV 1 hts gX7_isBrokenMesh_X7_teeth rfl rfl rfl cd_X7_teeth ⟨by rw [hR]; exact Nat.le_of_ble_eq_true rfl, by rw [hR]; exact Nat.le_of_ble_eq_true rfl⟩) hx0 rfl rfl rfl hl.1 (Nat.le_of_ble_eq_true rfl) dX7_isBrokenMesh_87 ⟨by rw [hR]; exact Nat.le_of_ble_eq_true rfl, by rw [hR]; exact Nat.le_of_ble_eq_true rfl⟩ rfl (fun r22 w23 H locs h24 hP hS => ?_)
      have hr22 := h24.1
      rw [h24.2] at hP
      rw [hr22]
      refine lv_i2l hx hb dX7_isBrokenMesh_90 rfl ?_
      refine lv_topl (fun v25 ev25 => ?_)
      obtain rfl : v25 = zL (S 5 (S 10 mm).toNat) := by
        rw [ev25]
        exact iL64 (by omega) (by omega)
      refine lv_lmul hx hb dX7_isBrokenMesh_91 ?_
      refine lv_topl (fun v26 ev26 => ?_)
      obtain rfl : v26 = zL (T 0 (saM S mm 1) * T 1 (saM S mm 0) * S 5 (S 10 mm).toNat) := by
        rw [ev26]
        exact zL_mul _ _
      refine lv_lstore (lv' := [(6, .long (zL (T 0 (saM S mm 1) * T 1 (saM S mm 0) * S 5 (S 10 mm).toNat))), (4, .long (zL (T 0 (saM S mm 0) * T 1 (saM S mm 1) * S 5 (S 9 mm).toNat))), (3, .int (nI (saM S mm 1))), (2, .int (nI (saM S mm 0))), (0, .ref (md 0)), (1, .int (nI mm))]) hx hb dX7_isBrokenMesh_92 hl (by decide) rfl (fun ls hl => ?_)
      have bb := brk_m Hi Ht hm yc10 yc14
      have b1 : (T 0 (saM S mm 0) * T 1 (saM S mm 1) * S 5 (S 9 mm).toNat).natAbs ≤ 1000000 * 1000000 * 200 := by
        rw [Int.natAbs_mul, Int.natAbs_mul]
        exact Nat.mul_le_mul (Nat.mul_le_mul (by omega) (by omega)) (by omega)
      have b2 : (T 0 (saM S mm 1) * T 1 (saM S mm 0) * S 5 (S 10 mm).toNat).natAbs ≤ 1000000 * 1000000 * 200 := by
        rw [Int.natAbs_mul, Int.natAbs_mul]
        exact Nat.mul_le_mul (Nat.mul_le_mul (by omega) (by omega)) (by omega)
      refine lv_aload_n hx hb dX7_isBrokenMesh_94 rfl (lv_at hl 4 rfl) ?_
      refine lv_iload_n hx hb dX7_isBrokenMesh_95 rfl (lv_at hl 5 rfl) ?_
      refine g_Vi (As := [.int (nI mm)]) (rest := []) F hP hS (k_X7_isInner l A G w md S _ _ _ Fm L mm hx0 hy5 hy6 hy7 Hf Hi hm) (cwV 1 hts gX7_isBrokenMesh_X7_isInner rfl rfl rfl cd_X7_isInner ⟨by rw [hR]; exact Nat.le_of_ble_eq_true rfl, by rw [hR]; exact Nat.le_of_ble_eq_true rfl⟩) hx0 rfl rfl rfl hl.1 (Nat.le_of_ble_eq_true rfl) dX7_isBrokenMesh_96 ⟨by rw [hR]; exact Nat.le_of_ble_eq_true rfl, by rw [hR]; exact Nat.le_of_ble_eq_true rfl⟩ rfl (fun r27 w28 H locs h29 hP hS => ?_)
      have hr27 := h29.1
      rw [h29.2] at hP
      rw [hr27]
      refine lv_if_eq (tgt := 118) hx hb dX7_isBrokenMesh_99 (by decide) (fun c30 => ?_) (fun c30 => ?_)
      · have yc30 := of_decide_eq_false (g_b0.mp c30)
        rw [if_neg yc30] at bb
        refine lv_lload hx hb dX7_isBrokenMesh_118 (lv_at hl 1 rfl) ?_
        refine lv_lload hx hb dX7_isBrokenMesh_120 (lv_at hl 0 rfl) ?_
        refine lv_lneg hx hb dX7_isBrokenMesh_122 ?_
        refine lv_topl (fun v31 ev31 => ?_)
        obtain rfl : v31 = zL (-(T 0 (saM S mm 1) * T 1 (saM S mm 0) * S 5 (S 10 mm).toNat)) := by
          rw [ev31]
          exact zL_neg _
        refine W.lcmp hx hb dX7_isBrokenMesh_123 ?_
        refine lv_if_eq (tgt := 131) hx hb dX7_isBrokenMesh_124 (by decide) (fun c32 => ?_) (fun c32 => ?_)
        · have c32 := (lg_cmp_eq (zL (T 0 (saM S mm 0) * T 1 (saM S mm 1) * S 5 (S 9 mm).toNat)) (zL (-(T 0 (saM S mm 1) * T 1 (saM S mm 0) * S 5 (S 10 mm).toNat)))).mp c32
          have yc32 : T 0 (saM S mm 0) * T 1 (saM S mm 1) * S 5 (S 9 mm).toNat = -(T 0 (saM S mm 1) * T 1 (saM S mm 0) * S 5 (S 10 mm).toNat) := (zL_eq (a := T 0 (saM S mm 0) * T 1 (saM S mm 1) * S 5 (S 9 mm).toNat) (b := -(T 0 (saM S mm 1) * T 1 (saM S mm 0) * S 5 (S 10 mm).toNat)) (by omega) (by omega) (by omega) (by omega)).mp c32
          rw [decide_eq_false (fun q => q yc32)] at bb
          refine lv_iconst (v := 0) hx hb dX7_isBrokenMesh_131 (by decide) ?_
          rw [hQ]
          refine g_zret F hP hS hlocks hr (by decide) dX7_isBrokenMesh_132 (by first | exact Nat.le_of_ble_eq_true rfl | omega) (by first | exact Nat.le_of_ble_eq_true rfl | omega) ?_
          exact ⟨by rw [bb]; rfl, rfl⟩
        · have c32 : ¬ ((zL (T 0 (saM S mm 0) * T 1 (saM S mm 1) * S 5 (S 9 mm).toNat)) = (zL (-(T 0 (saM S mm 1) * T 1 (saM S mm 0) * S 5 (S 10 mm).toNat)))) := fun h => c32 ((lg_cmp_eq (zL (T 0 (saM S mm 0) * T 1 (saM S mm 1) * S 5 (S 9 mm).toNat)) (zL (-(T 0 (saM S mm 1) * T 1 (saM S mm 0) * S 5 (S 10 mm).toNat)))).mpr h)
          have yc32 : ¬ T 0 (saM S mm 0) * T 1 (saM S mm 1) * S 5 (S 9 mm).toNat = -(T 0 (saM S mm 1) * T 1 (saM S mm 0) * S 5 (S 10 mm).toNat) := fun q => c32 ((zL_eq (a := T 0 (saM S mm 0) * T 1 (saM S mm 1) * S 5 (S 9 mm).toNat) (b := -(T 0 (saM S mm 1) * T 1 (saM S mm 0) * S 5 (S 10 mm).toNat)) (by omega) (by omega) (by omega) (by omega)).mpr q)
          rw [decide_eq_true yc32] at bb
          refine lv_iconst (v := 1) hx hb dX7_isBrokenMesh_127 (by decide) ?_
          refine lv_goto (tgt := 132) hx hb dX7_isBrokenMesh_128 (by decide) ?_
          rw [hQ]
          refine g_zret F hP hS hlocks hr (by decide) dX7_isBrokenMesh_132 (by first | exact Nat.le_of_ble_eq_true rfl | omega) (by first | exact Nat.le_of_ble_eq_true rfl | omega) ?_
          exact ⟨by rw [bb]; rfl, rfl⟩
      · have yc30 := of_decide_eq_true (g_b1.mp c30)
        rw [if_pos yc30] at bb
        refine lv_lload hx hb dX7_isBrokenMesh_102 (lv_at hl 1 rfl) ?_
        refine lv_lload hx hb dX7_isBrokenMesh_104 (lv_at hl 0 rfl) ?_
        refine W.lcmp hx hb dX7_isBrokenMesh_106 ?_
        refine lv_if_eq (tgt := 114) hx hb dX7_isBrokenMesh_107 (by decide) (fun c33 => ?_) (fun c33 => ?_)
        · have c33 := (lg_cmp_eq (zL (T 0 (saM S mm 0) * T 1 (saM S mm 1) * S 5 (S 9 mm).toNat)) (zL (T 0 (saM S mm 1) * T 1 (saM S mm 0) * S 5 (S 10 mm).toNat))).mp c33
          have yc33 : T 0 (saM S mm 0) * T 1 (saM S mm 1) * S 5 (S 9 mm).toNat = T 0 (saM S mm 1) * T 1 (saM S mm 0) * S 5 (S 10 mm).toNat := (zL_eq (a := T 0 (saM S mm 0) * T 1 (saM S mm 1) * S 5 (S 9 mm).toNat) (b := T 0 (saM S mm 1) * T 1 (saM S mm 0) * S 5 (S 10 mm).toNat) (by omega) (by omega) (by omega) (by omega)).mp c33
          rw [decide_eq_false (fun q => q yc33)] at bb
          refine lv_iconst (v := 0) hx hb dX7_isBrokenMesh_114 (by decide) ?_
          refine lv_goto (tgt := 132) hx hb dX7_isBrokenMesh_115 (by decide) ?_
          rw [hQ]
          refine g_zret F hP hS hlocks hr (by decide) dX7_isBrokenMesh_132 (by first | exact Nat.le_of_ble_eq_true rfl | omega) (by first | exact Nat.le_of_ble_eq_true rfl | omega) ?_
          exact ⟨by rw [bb]; rfl, rfl⟩
        · have c33 : ¬ ((zL (T 0 (saM S mm 0) * T 1 (saM S mm 1) * S 5 (S 9 mm).toNat)) = (zL (T 0 (saM S mm 1) * T 1 (saM S mm 0) * S 5 (S 10 mm).toNat))) := fun h => c33 ((lg_cmp_eq (zL (T 0 (saM S mm 0) * T 1 (saM S mm 1) * S 5 (S 9 mm).toNat)) (zL (T 0 (saM S mm 1) * T 1 (saM S mm 0) * S 5 (S 10 mm).toNat))).mpr h)
          have yc33 : ¬ T 0 (saM S mm 0) * T 1 (saM S mm 1) * S 5 (S 9 mm).toNat = T 0 (saM S mm 1) * T 1 (saM S mm 0) * S 5 (S 10 mm).toNat := fun q => c33 ((zL_eq (a := T 0 (saM S mm 0) * T 1 (saM S mm 1) * S 5 (S 9 mm).toNat) (b := T 0 (saM S mm 1) * T 1 (saM S mm 0) * S 5 (S 10 mm).toNat) (by omega) (by omega) (by omega) (by omega)).mpr q)
          rw [decide_eq_true yc33] at bb
          refine lv_iconst (v := 1) hx hb dX7_isBrokenMesh_110 (by decide) ?_
          refine lv_goto (tgt := 132) hx hb dX7_isBrokenMesh_111 (by decide) ?_
          rw [hQ]
          refine g_zret F hP hS hlocks hr (by decide) dX7_isBrokenMesh_132 (by first | exact Nat.le_of_ble_eq_true rfl | omega) (by first | exact Nat.le_of_ble_eq_true rfl | omega) ?_
          exact ⟨by rw [bb]; rfl, rfl⟩
    · have yc14 := of_decide_eq_false (g_b0.mp c14)
      refine lv_iconst (v := 0) hx hb dX7_isBrokenMesh_38 (by decide) ?_
      rw [hQ]
      refine g_zret F hP hS hlocks hr (by first | rfl | exact g_nb _) dX7_isBrokenMesh_39 (by first | exact Nat.le_of_ble_eq_true rfl | omega) (by first | exact Nat.le_of_ble_eq_true rfl | omega) ?_
      exact ⟨by rw [brk_mf (Or.inr (Decidable.not_not.mp yc14))]; rfl, rfl⟩
