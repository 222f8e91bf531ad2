theorem cd_X7_apart : yX7_apart.cls = RX7 ∧ yX7_apart.cls ≠ "java/lang/invoke/MethodHandle" ∧ yX7_apart.cls ≠ "java/lang/invoke/VarHandle" ∧ (parseMethodDescriptor yX7_apart.desc).map (fun d => d.parameters.length) = some 2 := by decide +kernel
set_option maxHeartbeats 4000000 in
set_option maxRecDepth 100000 in
theorem k_X7_misfitting (l : Launch) (A : Nat → Prop) (G : g_C) (w : g_W) (md : Nat → Nat) (S : Sg) (th : Int32) (tp bt : Int64) (Fm : Nat → Nat → Int32) (L : Nat → Nat → Int64) (hx0 : w (md 0) = some (.inr (8, [.int th, .int (iL (S 0 0)), .ref (md 1), .ref (md 2), .ref (md 3), .int (iL (S 0 4)), .int (iL (S 0 5)), .int (iL (S 0 1)), .ref (md 4), .ref (md 5), .int (iL (S 0 2)), .ref (md 6), .ref (md 7), .int (iL (S 0 3)), .ref (md 8), .ref (md 9), .ref (md 10), .ref (md 11), .long tp, .long bt]))) (hy1 : w (md 1) = some (.inl (G.2.1 0, 10, .inl (Fm 1)))) (hy2 : w (md 2) = some (.inl (G.2.1 0, 10, .inl (Fm 2)))) (hy4 : w (md 4) = some (.inl (G.2.1 0, 64, .inl (Fm 4)))) (hy5 : w (md 5) = some (.inl (G.2.1 2, 16, .inl (Fm 5)))) (hy6 : w (md 6) = some (.inl (G.2.1 0, 16, .inl (Fm 6)))) (hy7 : w (md 7) = some (.inl (G.2.1 0, 16, .inl (Fm 7)))) (Hf : modF S Fm) (Hi : invS S) : mI l yX7_misfitting wsX7_misfitting ({ frames := 2, cells := 0, slots := 0, locals := 63 } : Room) [.ref (md 0)] A G w (fun r w' => r = vlMisfits S ∧ w' = w) 0 0 := by
  refine g_ofI (cc := cX7_misfitting) (maxL := 3) (ret := (some .int)) (own := RX7) (by decide) rfl rfl (Nat.le_of_ble_eq_true rfl) ?_
  intro p e R s m args below meth c Q ls hR F hP hS hlocks hr hnm0 hQ hl
  obtain ⟨⟨hx, hb, hml, hown, hts⟩, hK, hZ, hA⟩ := id F
  generalize hH0 : s.heap = H at hP ⊢
  have hS : va_S A s.heap H [] := by rw [← hH0]; exact va_S.rf
  generalize ([] : List Loc) = locs at hS ⊢
  have hl : lv_has ls 3 [(0, .ref (md 0))] := hl
  have iX7 : ∀ w ∈ u_ws RX7 TX7 20, w ∈ wsX7_misfitting := fun w h => List.mem_cons_of_mem _ (List.mem_append_right _ (h))
  have hi := Hi.1
  refine lv_iconst (v := 0) hx hb dX7_misfitting_0 (by decide) ?_
  refine lv_istore_n (lv' := [(1, .int 0), (0, .ref (md 0))]) hx hb dX7_misfitting_1 rfl hl (by decide) rfl (fun ls hl => ?_)
  refine lv_iconst (v := 0) hx hb dX7_misfitting_2 (by decide) ?_
  refine lv_istore_n (lv' := [(2, .int 0), (1, .int 0), (0, .ref (md 0))]) hx hb dX7_misfitting_3 rfl hl (by decide) rfl (fun ls hl => ?_)
  have L4 : ∀ (n : Nat) (mm : Nat) (H : Heap) (locs : List Loc) (ls : Array Slot), (S 0 2).toNat + 1 ≤ mm + n → ((mm : Int) ≤ S 0 2) → g_P A G w H → va_S A s.heap H locs → lv_has ls 3 [(2, .int (nI mm)), (1, .int (bitsI (fun mm => ! fitsB S mm) mm)), (0, .ref (md 0))] → W p l e R s m args below meth c H locs (0) (0) Q (F0 m 4 ls []) := by
    intro n
    induction n with
    | zero =>
      intro mm H locs ls hfu hmN hP hS hl
      exact absurd hfu (by omega)
    | succ n ih_L4 =>
      intro mm H locs ls hfu hmN hP hS hl
      refine lv_iload_n hx hb dX7_misfitting_4 rfl (lv_at hl 0 rfl) ?_
      refine lv_aload_n hx hb dX7_misfitting_5 rfl (lv_at hl 2 rfl) ?_
      refine g_get F hP (C := RX7) (T := TX7) (N := 20) iX7 hx0 rfl 10 (by decide) (List.mem_cons_of_mem _ (List.mem_append_left _ (List.mem_append_left _ (List.mem_of_getElem? (i := 0) rfl)))) (fun _ h9 => h9) rfl dX7_misfitting_6 ?_
      refine lv_icmp_ge (tgt := 59) hx hb dX7_misfitting_9 (by decide) (fun c1 => ?_) (fun c1 => ?_)
      · have zc1 : S 0 2 ≤ mm := (iL_nle (by omega) (by omega) (by omega)).mp c1
        refine lv_iload_n hx hb dX7_misfitting_59 rfl (lv_at hl 1 rfl) ?_
        rw [hQ]
        refine g_iret F hP hS hlocks hr dX7_misfitting_60 (by first | exact Nat.le_of_ble_eq_true rfl | omega) (by first | exact Nat.le_of_ble_eq_true rfl | omega) ?_
        exact ⟨by unfold vlMisfits; rw [show (S 0 2).toNat = mm by omega], rfl⟩
      · have hm : (mm : Int) < S 0 2 := Int.not_le.mp (fun q => c1 ((iL_nle (z := S 0 2) (k := mm) (by omega) (by omega) (by omega)).mpr q))
        obtain ⟨a1, a2, a3, a4, a5⟩ := Hi.2.2.2.1 mm hm
        have hge0 : (((S 9 mm).toNat : Nat) : Int) < S 0 1 := by omega
        have hge1 : (((S 10 mm).toNat : Nat) : Int) < S 0 1 := by omega
        have g1 := Hi.2.2.1 (S 9 mm).toNat (by omega)
        have g2 := Hi.2.2.1 (S 10 mm).toNat (by omega)
        have hs0 : ((saM S mm 0 : Nat) : Int) < S 0 0 := tSa_lt (b := 0) Hi (by decide) hm 0
        have hs1 : ((saM S mm 1 : Nat) : Int) < S 0 0 := tSa_lt (b := 0) Hi (by decide) hm 1
        have es9 : bitsI (fun mm => ! fitsB S mm) (mm + 1) = (if (! fitsB S mm) then bitsI (fun mm => ! fitsB S mm) mm ||| (1 <<< (nI mm &&& 31)) else bitsI (fun mm => ! fitsB S mm) mm) := rfl
        have d9 := dsI_b Hi hs0 hs1
        have l9 := lenI_b Hi hm
        have sq9 := sq_le (x := lenI S mm) (n := 4000) (by omega)
        have ef9 : iL (dsI S (saM S mm 0) (saM S mm 1)) = iL (lenI S mm * lenI S mm) ↔ dsI S (saM S mm 0) (saM S mm 1) = lenI S mm * lenI S mm := iL_eq (by omega) (by omega) (by omega) (by omega)
        refine lv_aload_n hx hb dX7_misfitting_12 rfl (lv_at hl 2 rfl) ?_
        refine lv_aload_n hx hb dX7_misfitting_13 rfl (lv_at hl 2 rfl) ?_
        refine lv_aload_n hx hb dX7_misfitting_14 rfl (lv_at hl 2 rfl) ?_
        refine g_get F hP (C := RX7) (T := TX7) (N := 20) iX7 hx0 rfl 11 (by decide) (List.mem_cons_of_mem _ (List.mem_append_left _ (List.mem_append_left _ (List.mem_of_getElem? (i := 1) rfl)))) (fun _ h9 => h9) rfl dX7_misfitting_15 ?_
        refine lv_iload_n hx hb dX7_misfitting_18 rfl (lv_at hl 0 rfl) ?_
        refine g_iald F hP hy6 (vp_in_nI (by omega) (by decide)) dX7_misfitting_19 ?_
        rw [show (.int ((Fm 6) (nI mm : Int32).toNatClampNeg) : Value) = .int (nI (S 9 mm).toNat) from by rw [nI_clamp (by omega), (Hf.2.2.1 mm hm).1, iL_nn (by omega)]]
        refine g_Vi (As := [.int (nI (S 9 mm).toNat)]) (rest := [.ref (md 0)]) F hP hS (k_X7_shaftOf l A G w md S _ _ _ Fm L (S 9 mm).toNat hx0 hy4 Hf Hi hge0) (cwV 1 hts gX7_misfitting_X7_shaftOf rfl rfl rfl cd_X7_shaftOf ⟨by rw [hR]; exact Nat.le_of_ble_eq_true rfl, by rw [hR]; exact Nat.le_of_ble_eq_true rfl⟩) hx0 rfl rfl rfl hl.1 (Nat.le_of_ble_eq_true rfl) dX7_misfitting_20 ⟨by rw [hR]; exact Nat.le_of_ble_eq_true rfl, by rw [hR]; exact Nat.le_of_ble_eq_true rfl⟩ rfl (fun r2 w3 H locs h4 hP hS => ?_)
        have hr2 := h4.1
        rw [h4.2] at hP
        rw [hr2]
        rw [show iL (S 4 (S 9 mm).toNat) = nI (saM S mm 0) from by rw [iL_nn (by omega)]; rfl]
        refine lv_aload_n hx hb dX7_misfitting_23 rfl (lv_at hl 2 rfl) ?_
        refine lv_aload_n hx hb dX7_misfitting_24 rfl (lv_at hl 2 rfl) ?_
        refine g_get F hP (C := RX7) (T := TX7) (N := 20) iX7 hx0 rfl 12 (by decide) (List.mem_cons_of_mem _ (List.mem_append_left _ (List.mem_append_left _ (List.mem_of_getElem? (i := 2) rfl)))) (fun _ h9 => h9) rfl dX7_misfitting_25 ?_
        refine lv_iload_n hx hb dX7_misfitting_28 rfl (lv_at hl 0 rfl) ?_
        refine g_iald F hP hy7 (vp_in_nI (by omega) (by decide)) dX7_misfitting_29 ?_
        rw [show (.int ((Fm 7) (nI mm : Int32).toNatClampNeg) : Value) = .int (nI (S 10 mm).toNat) from by rw [nI_clamp (by omega), (Hf.2.2.1 mm hm).2, iL_nn (by omega)]]
        refine g_Vi (As := [.int (nI (S 10 mm).toNat)]) (rest := [.int (nI (saM S mm 0)), .ref (md 0)]) F hP hS (k_X7_shaftOf l A G w md S _ _ _ Fm L (S 10 mm).toNat hx0 hy4 Hf Hi hge1) (cwV 1 hts gX7_misfitting_X7_shaftOf rfl rfl rfl cd_X7_shaftOf ⟨by rw [hR]; exact Nat.le_of_ble_eq_true rfl, by rw [hR]; exact Nat.le_of_ble_eq_true rfl⟩) hx0 rfl rfl rfl hl.1 (Nat.le_of_ble_eq_true rfl) dX7_misfitting_30 ⟨by rw [hR]; exact Nat.le_of_ble_eq_true rfl, by rw [hR]; exact Nat.le_of_ble_eq_true rfl⟩ rfl (fun r5 w6 H locs h7 hP hS => ?_)
        have hr5 := h7.1
        rw [h7.2] at hP
        rw [hr5]
        rw [show iL (S 4 (S 10 mm).toNat) = nI (saM S mm 1) from by rw [iL_nn (by omega)]; rfl]
        refine g_Vi (As := [.int (nI (saM S mm 0)), .int (nI (saM S mm 1))]) (rest := []) F hP hS (k_X7_apart l A G w md S _ _ _ Fm L (saM S mm 0) (saM S mm 1) hx0 hy1 hy2 Hf Hi hs0 hs1) (cwV 2 hts gX7_misfitting_X7_apart rfl rfl rfl cd_X7_apart ⟨by rw [hR]; exact Nat.le_of_ble_eq_true rfl, by rw [hR]; exact Nat.le_of_ble_eq_true rfl⟩) hx0 rfl rfl rfl hl.1 (Nat.le_of_ble_eq_true rfl) dX7_misfitting_33 ⟨by rw [hR]; exact Nat.le_of_ble_eq_true rfl, by rw [hR]; exact Nat.le_of_ble_eq_true rfl⟩ rfl (fun r8 w9 H locs h10 hP hS => ?_)
        have hr8 := h10.1
        rw [h10.2] at hP
        rw [hr8]
        refine lv_aload_n hx hb dX7_misfitting_36 rfl (lv_at hl 2 rfl) ?_
        refine lv_iload_n hx hb dX7_misfitting_37 rfl (lv_at hl 0 rfl) ?_
        refine g_Vi (As := [.int (nI mm)]) (rest := [.int (iL (dsI S (saM S mm 0) (saM S mm 1)))]) F hP hS (k_X7_distanceOf l A G w md S _ _ _ Fm L mm hx0 hy4 hy5 hy6 hy7 Hf Hi hm) (cwV 1 hts gX7_misfitting_X7_distanceOf rfl rfl rfl cd_X7_distanceOf ⟨by rw [hR]; exact Nat.le_of_ble_eq_true rfl, by rw [hR]; exact Nat.le_of_ble_eq_true rfl⟩) hx0 rfl rfl rfl hl.1 (Nat.le_of_ble_eq_true rfl) dX7_misfitting_38 ⟨by rw [hR]; exact Nat.le_of_ble_eq_true rfl, by rw [hR]; exact Nat.le_of_ble_eq_true rfl⟩ rfl (fun r11 w12 H locs h13 hP hS => ?_)
        have hr11 := h13.1
        rw [h13.2] at hP
        rw [hr11]
        refine g_Si (As := [.int (iL (lenI S mm))]) (rest := [.int (iL (dsI S (saM S mm 0) (saM S mm 1)))]) F hP hS (k_X7_square l A G w (iL (lenI S mm))) (va_cwS 1 hts gX7_misfitting_X7_square rfl rfl rfl cd_X7_square ⟨by rw [hR]; exact Nat.le_of_ble_eq_true rfl, by rw [hR]; exact Nat.le_of_ble_eq_true rfl⟩) rfl hl.1 (Nat.le_of_ble_eq_true rfl) dX7_misfitting_41 ⟨by rw [hR]; exact Nat.le_of_ble_eq_true rfl, by rw [hR]; exact Nat.le_of_ble_eq_true rfl⟩ rfl (fun r14 w15 H locs h16 hP hS => ?_)
        have hr14 := h16.1
        rw [h16.2] at hP
        rw [hr14]
        rw [iL_mul]
        refine lv_icmp_eq (tgt := 53) hx hb dX7_misfitting_44 (by decide) (fun c17 => ?_) (fun c17 => ?_)
        · have yc17 : fitsB S mm = true := decide_eq_true (ef9.mp c17)
          rw [yc17] at es9
          have es8 : bitsI (fun mm => ! fitsB S mm) (mm + 1) = bitsI (fun mm => ! fitsB S mm) mm := es9
          obtain ⟨i18, ei18⟩ : ∃ y : Int32, y = nI mm + (1) := ⟨_, rfl⟩
          refine lv_iinc (v := i18) (lv' := [(2, .int i18), (1, .int (bitsI (fun mm => ! fitsB S mm) mm)), (0, .ref (md 0))]) hx hb dX7_misfitting_53 hl (k := 0) rfl (by rw [ei18]; rfl) (by decide) rfl (fun ls hl => ?_)
          obtain rfl : i18 = nI (mm + 1) := by
            rw [ei18]
            exact nI_1 mm
          refine lv_goto (tgt := 4) hx hb dX7_misfitting_56 (by decide) ?_
          rw [← es8] at hl
          exact ih_L4 (mm + 1) H locs ls (by omega) (by omega) hP hS (lv_sub hl [0, 1, 2] rfl)
        · have yc17 : fitsB S mm = false := decide_eq_false (fun q => c17 (ef9.mpr q))
          rw [yc17] at es9
          have es8 : bitsI (fun mm => ! fitsB S mm) (mm + 1) = bitsI (fun mm => ! fitsB S mm) mm ||| (1 <<< (nI mm &&& 31)) := es9
          refine lv_iload_n hx hb dX7_misfitting_47 rfl (lv_at hl 1 rfl) ?_
          refine lv_iconst (v := 1) hx hb dX7_misfitting_48 (by decide) ?_
          refine lv_iload_n hx hb dX7_misfitting_49 rfl (lv_at hl 0 rfl) ?_
          refine lv_ishl hx hb dX7_misfitting_50 ?_
          refine lv_topi (fun v19 ev19 => ?_)
          obtain rfl : v19 = 1 <<< (nI mm &&& 31) := by
            exact ev19
          refine lv_ior hx hb dX7_misfitting_51 ?_
          refine lv_topi (fun v20 ev20 => ?_)
          obtain rfl : v20 = bitsI (fun mm => ! fitsB S mm) (mm + 1) := by
            rw [ev20]
            exact es8.symm
          refine lv_istore_n (lv' := [(1, .int (bitsI (fun mm => ! fitsB S mm) (mm + 1))), (2, .int (nI mm)), (0, .ref (md 0))]) hx hb dX7_misfitting_52 rfl hl (by decide) rfl (fun ls hl => ?_)
          obtain ⟨i21, ei21⟩ : ∃ y : Int32, y = nI mm + (1) := ⟨_, rfl⟩
          refine lv_iinc (v := i21) (lv' := [(2, .int i21), (1, .int (bitsI (fun mm => ! fitsB S mm) (mm + 1))), (0, .ref (md 0))]) hx hb dX7_misfitting_53 hl (k := 1) rfl (by rw [ei21]; rfl) (by decide) rfl (fun ls hl => ?_)
          obtain rfl : i21 = nI (mm + 1) := by
            rw [ei21]
            exact nI_1 mm
          refine lv_goto (tgt := 4) hx hb dX7_misfitting_56 (by decide) ?_
          exact ih_L4 (mm + 1)  H locs ls (by omega) (by omega) hP hS (lv_sub hl [0, 1, 2] rfl)
  exact L4 ((S 0 2).toNat + 1) 0  H locs ls (by omega) (by omega) hP hS (lv_sub hl [0, 1, 2] rfl)
