theorem cd_X7_isBrokenMesh : yX7_isBrokenMesh.cls = RX7 ∧ yX7_isBrokenMesh.cls ≠ "java/lang/invoke/MethodHandle" ∧ yX7_isBrokenMesh.cls ≠ "java/lang/invoke/VarHandle" ∧ (parseMethodDescriptor yX7_isBrokenMesh.desc).map (fun d => d.parameters.length) = some 1 := by decide +kernel
theorem cd_X7_isBrokenSet : yX7_isBrokenSet.cls = RX7 ∧ yX7_isBrokenSet.cls ≠ "java/lang/invoke/MethodHandle" ∧ yX7_isBrokenSet.cls ≠ "java/lang/invoke/VarHandle" ∧ (parseMethodDescriptor yX7_isBrokenSet.desc).map (fun d => d.parameters.length) = some 1 := by decide +kernel
set_option maxHeartbeats 4000000 in
set_option maxRecDepth 100000 in
theorem k_X7_brokenOnes (l : Launch) (A : Nat → Prop) (G : g_C) (w : g_W) (md : Nat → Nat) (S : Sg) (th : Int32) (tp bt : Int64) (Fm : Nat → Nat → Int32) (L : Nat → Nat → Int64) (T : Sg) (bb : Bool) (Hm : modW G w md S th tp bt Fm L) (Hj : modI md) (Hf : modF S Fm) (Hi : invS S) (Ht : invT S T) (HT : modT S T Fm L) : mI l yX7_brokenOnes wsX7_brokenOnes ({ frames := 5, cells := 0, slots := 0, locals := 151 } : Room) [.ref (md 0), .int (g_b bb)] A G w (fun r w' => r = vlBroken S T bb ∧ ∃ tp2 bt2, w' = g_up w (md 0) (.inr (8, mC S th tp2 bt2 md))) 0 0 := by
  refine g_ofI (cc := cX7_brokenOnes) (maxL := 4) (ret := (some .int)) (own := RX7) (by decide) rfl rfl (Nat.le_of_ble_eq_true rfl) ?_
  intro p e R s m args below meth c Q ls hR F hP hS hlocks hr hnm0 hQ hl
  obtain ⟨⟨hx, hb, hml, hown, hts⟩, hK, hZ, hA⟩ := id F
  generalize hH0 : s.heap = H at hP ⊢
  have hS : va_S A s.heap H [] := by rw [← hH0]; exact va_S.rf
  generalize ([] : List Loc) = locs at hS ⊢
  have hl : lv_has ls 4 [(0, .ref (md 0)), (1, .int (g_b bb))] := hl
  have iX7 : ∀ w ∈ u_ws RX7 TX7 20, w ∈ wsX7_brokenOnes := fun w h => List.mem_cons_of_mem _ (List.mem_append_right _ (h))
  obtain ⟨hx0, hy1, hy2, hy3, hy4, hy5, hy6, hy7, hy8, hy9, hy10, hy11⟩ := id Hm
  have hi := Hi.1
  refine lv_iconst (v := 0) hx hb dX7_brokenOnes_0 (by decide) ?_
  refine lv_istore_n (lv' := [(2, .int 0), (0, .ref (md 0)), (1, .int (g_b bb))]) hx hb dX7_brokenOnes_1 rfl hl (by decide) rfl (fun ls hl => ?_)
  refine lv_iconst (v := 0) hx hb dX7_brokenOnes_2 (by decide) ?_
  refine lv_istore_n (lv' := [(3, .int 0), (2, .int 0), (0, .ref (md 0)), (1, .int (g_b bb))]) hx hb dX7_brokenOnes_3 rfl hl (by decide) rfl (fun ls hl => ?_)
  have L4 : ∀ (n : Nat) (k : Nat) (tp1 : Int64) (bt1 : Int64) (wa : g_W) (H : Heap) (locs : List Loc) (ls : Array Slot), 17 ≤ k + n → ((k : Int) ≤ S 0 (2 + bN bb)) → (wa = g_up w (md 0) (.inr (8, mC S th tp1 bt1 md))) → wa (md 0) = some (.inr (8, [.int th, .int (iL (S 0 0)), .ref (md 1), .ref (md 2), .ref (md 3), .int (iL (S 0 4)), .int (iL (S 0 5)), .int (iL (S 0 1)), .ref (md 4), .ref (md 5), .int (iL (S 0 2)), .ref (md 6), .ref (md 7), .int (iL (S 0 3)), .ref (md 8), .ref (md 9), .ref (md 10), .ref (md 11), .long tp1, .long bt1])) → wa (md 1) = some (.inl (G.2.1 0, 10, .inl (Fm 1))) → wa (md 2) = some (.inl (G.2.1 0, 10, .inl (Fm 2))) → wa (md 3) = some (.inl (G.2.1 2, 10, .inl (Fm 3))) → wa (md 4) = some (.inl (G.2.1 0, 64, .inl (Fm 4))) → wa (md 5) = some (.inl (G.2.1 2, 16, .inl (Fm 5))) → wa (md 6) = some (.inl (G.2.1 0, 16, .inl (Fm 6))) → wa (md 7) = some (.inl (G.2.1 0, 16, .inl (Fm 7))) → wa (md 8) = some (.inl (G.2.1 0, 20, .inl (Fm 8))) → wa (md 9) = some (.inl (G.2.1 1, 10, .inr (.inl (L 0)))) → wa (md 10) = some (.inl (G.2.1 1, 10, .inr (.inl (L 1)))) → wa (md 11) = some (.inl (G.2.1 0, 10, .inl (Fm 11))) → g_P A G wa H → va_S A s.heap H locs → lv_has ls 4 [(3, .int (nI k)), (2, .int (bitsI (brkB S T (bN bb)) k)), (0, .ref (md 0)), (1, .int (g_b bb))] → W p l e R s m args below meth c H locs (0) (0) Q (F0 m 4 ls []) := by
    intro n
    induction n with
    | zero =>
      intro k tp1 bt1 wa H locs ls hfu hkN hwa x0 x1 x2 x3 x4 x5 x6 x7 x8 x9 x10 x11 hP hS hl
      exact absurd hfu (by have := bN_le Hi bb; omega)
    | succ n ih_L4 =>
      intro k tp1 bt1 wa H locs ls hfu hkN hwa x0 x1 x2 x3 x4 x5 x6 x7 x8 x9 x10 x11 hP hS hl
      refine lv_iload_n hx hb dX7_brokenOnes_4 rfl (lv_at hl 0 rfl) ?_
      refine lv_iload_n hx hb dX7_brokenOnes_5 rfl (lv_at hl 3 rfl) ?_
      refine lv_if_eq (tgt := 16) hx hb dX7_brokenOnes_6 (by decide) (fun c1 => ?_) (fun c1 => ?_)
      · have yc1 : bb = false := g_b0.mp c1
        subst yc1
        have hkN2 : (k : Int) ≤ S 0 2 := hkN
        refine lv_aload_n hx hb dX7_brokenOnes_16 rfl (lv_at hl 2 rfl) ?_
        refine g_get F hP (C := RX7) (T := TX7) (N := 20) iX7 x0 rfl 10 (by decide) (List.mem_cons_of_mem _ (List.mem_append_left _ (List.mem_append_left _ (List.mem_of_getElem? (i := 1) rfl)))) (fun _ h9 => h9) rfl dX7_brokenOnes_17 ?_
        refine lv_icmp_ge (tgt := 58) hx hb dX7_brokenOnes_20 (by decide) (fun c2 => ?_) (fun c2 => ?_)
        · have zc2 : S 0 2 ≤ k := (iL_nle (by omega) (by omega) (by omega)).mp c2
          refine lv_iload_n hx hb dX7_brokenOnes_58 rfl (lv_at hl 1 rfl) ?_
          rw [hQ]
          refine g_iret F hP hS hlocks hr dX7_brokenOnes_59 (by first | exact Nat.le_of_ble_eq_true rfl | omega) (by first | exact Nat.le_of_ble_eq_true rfl | omega) ?_
          have hkk : (k : Int) ≤ S 0 2 := hkN
          exact ⟨by show _ = bitsI (brkB S T 0) (S 0 2).toNat; rw [show (S 0 2).toNat = k by omega]; rfl, tp1, bt1, hwa⟩
        · have hk : (k : Int) < S 0 2 := Int.not_le.mp (fun q => c2 ((iL_nle (z := S 0 2) (k := k) (by omega) (by omega) (by omega)).mpr q))
          have es9 : bitsI (brkB S T (bN false)) (k + 1) = (if brkB S T 0 k then bitsI (brkB S T (bN false)) k ||| (1 <<< (nI k &&& 31)) else bitsI (brkB S T (bN false)) k) := rfl
          refine lv_iload_n hx hb dX7_brokenOnes_23 rfl (lv_at hl 3 rfl) ?_
          refine lv_if_eq (tgt := 38) hx hb dX7_brokenOnes_24 (by decide) (fun c3 => ?_) (fun c3 => ?_)
          · refine lv_aload_n hx hb dX7_brokenOnes_38 rfl (lv_at hl 2 rfl) ?_
            refine lv_iload_n hx hb dX7_brokenOnes_39 rfl (lv_at hl 0 rfl) ?_
            refine g_Vi (As := [.int (nI k)]) (rest := []) F hP hS (k_X7_isBrokenMesh l A G wa md S _ _ _ Fm L T k x0 x4 x5 x6 x7 x9 x10 Hf Hi Ht HT hk) (cwV 1 hts gX7_brokenOnes_X7_isBrokenMesh rfl rfl rfl cd_X7_isBrokenMesh ⟨by rw [hR]; exact Nat.le_of_ble_eq_true rfl, by rw [hR]; exact Nat.le_of_ble_eq_true rfl⟩) x0 rfl rfl rfl hl.1 (Nat.le_of_ble_eq_true rfl) dX7_brokenOnes_40 ⟨by rw [hR]; exact Nat.le_of_ble_eq_true rfl, by rw [hR]; exact Nat.le_of_ble_eq_true rfl⟩ rfl (fun r4 w5 H locs h6 hP hS => ?_)
            have hr4 := h6.1
            rw [h6.2] at hP
            rw [hr4]
            refine lv_if_eq (tgt := 52) hx hb dX7_brokenOnes_43 (by decide) (fun c7 => ?_) (fun c7 => ?_)
            · have yc7 : brkB S T 0 k = false := g_b0.mp c7
              rw [yc7] at es9
              have es8 : bitsI (brkB S T (bN false)) (k + 1) = bitsI (brkB S T (bN false)) k := es9
              obtain ⟨i8, ei8⟩ : ∃ y : Int32, y = nI k + (1) := ⟨_, rfl⟩
              refine lv_iinc (v := i8) (lv' := [(3, .int i8), (2, .int (bitsI (brkB S T (bN false)) k)), (0, .ref (md 0)), (1, .int (g_b false))]) hx hb dX7_brokenOnes_52 hl (k := 0) rfl (by rw [ei8]; rfl) (by decide) rfl (fun ls hl => ?_)
              obtain rfl : i8 = nI (k + 1) := by
                rw [ei8]
                exact nI_1 k
              refine lv_goto (tgt := 4) hx hb dX7_brokenOnes_55 (by decide) ?_
              rw [← es8] at hl
              exact ih_L4 (k + 1) tp1 bt1 wa H locs ls (by omega) (by show ((k + 1 : Nat) : Int) ≤ S 0 2; omega) (hwa) x0 x1 x2 x3 x4 x5 x6 x7 x8 x9 x10 x11 hP hS (lv_sub hl [0, 1, 2, 3] rfl)
            · have yc7 : brkB S T 0 k = true := g_b1.mp c7
              rw [yc7] at es9
              have es8 : bitsI (brkB S T (bN false)) (k + 1) = bitsI (brkB S T (bN false)) k ||| (1 <<< (nI k &&& 31)) := es9
              refine lv_iload_n hx hb dX7_brokenOnes_46 rfl (lv_at hl 1 rfl) ?_
              refine lv_iconst (v := 1) hx hb dX7_brokenOnes_47 (by decide) ?_
              refine lv_iload_n hx hb dX7_brokenOnes_48 rfl (lv_at hl 0 rfl) ?_
              refine lv_ishl hx hb dX7_brokenOnes_49 ?_
              refine lv_topi (fun v9 ev9 => ?_)
              obtain rfl : v9 = 1 <<< (nI k &&& 31) := by
                exact ev9
              refine lv_ior hx hb dX7_brokenOnes_50 ?_
              refine lv_topi (fun v10 ev10 => ?_)
              obtain rfl : v10 = bitsI (brkB S T (bN false)) (k + 1) := by
                rw [ev10]
                exact es8.symm
              refine lv_istore_n (lv' := [(2, .int (bitsI (brkB S T (bN false)) (k + 1))), (3, .int (nI k)), (0, .ref (md 0)), (1, .int (g_b false))]) hx hb dX7_brokenOnes_51 rfl hl (by decide) rfl (fun ls hl => ?_)
              obtain ⟨i11, ei11⟩ : ∃ y : Int32, y = nI k + (1) := ⟨_, rfl⟩
              refine lv_iinc (v := i11) (lv' := [(3, .int i11), (2, .int (bitsI (brkB S T (bN false)) (k + 1))), (0, .ref (md 0)), (1, .int (g_b false))]) hx hb dX7_brokenOnes_52 hl (k := 1) rfl (by rw [ei11]; rfl) (by decide) rfl (fun ls hl => ?_)
              obtain rfl : i11 = nI (k + 1) := by
                rw [ei11]
                exact nI_1 k
              refine lv_goto (tgt := 4) hx hb dX7_brokenOnes_55 (by decide) ?_
              exact ih_L4 (k + 1) tp1 bt1 wa H locs ls (by omega) (by show ((k + 1 : Nat) : Int) ≤ S 0 2; omega) (hwa) x0 x1 x2 x3 x4 x5 x6 x7 x8 x9 x10 x11 hP hS (lv_sub hl [0, 1, 2, 3] rfl)
          · exact absurd rfl c3
      · have yc1 : bb = true := g_b1.mp c1
        subst yc1
        have hkN2 : (k : Int) ≤ S 0 3 := hkN
        refine lv_aload_n hx hb dX7_brokenOnes_9 rfl (lv_at hl 2 rfl) ?_
        refine g_get F hP (C := RX7) (T := TX7) (N := 20) iX7 x0 rfl 13 (by decide) (List.mem_cons_of_mem _ (List.mem_append_left _ (List.mem_append_left _ (List.mem_of_getElem? (i := 0) rfl)))) (fun _ h9 => h9) rfl dX7_brokenOnes_10 ?_
        refine lv_goto (tgt := 20) hx hb dX7_brokenOnes_13 (by decide) ?_
        refine lv_icmp_ge (tgt := 58) hx hb dX7_brokenOnes_20 (by decide) (fun c12 => ?_) (fun c12 => ?_)
        · have zc12 : S 0 3 ≤ k := (iL_nle (by omega) (by omega) (by omega)).mp c12
          refine lv_iload_n hx hb dX7_brokenOnes_58 rfl (lv_at hl 1 rfl) ?_
          rw [hQ]
          refine g_iret F hP hS hlocks hr dX7_brokenOnes_59 (by first | exact Nat.le_of_ble_eq_true rfl | omega) (by first | exact Nat.le_of_ble_eq_true rfl | omega) ?_
          have hkk : (k : Int) ≤ S 0 3 := hkN
          exact ⟨by show _ = bitsI (brkB S T 1) (S 0 3).toNat; rw [show (S 0 3).toNat = k by omega]; rfl, tp1, bt1, hwa⟩
        · have hk : (k : Int) < S 0 3 := Int.not_le.mp (fun q => c12 ((iL_nle (z := S 0 3) (k := k) (by omega) (by omega) (by omega)).mpr q))
          have es9 : bitsI (brkB S T (bN true)) (k + 1) = (if brkB S T 1 k then bitsI (brkB S T (bN true)) k ||| (1 <<< (nI k &&& 31)) else bitsI (brkB S T (bN true)) k) := rfl
          refine lv_iload_n hx hb dX7_brokenOnes_23 rfl (lv_at hl 3 rfl) ?_
          refine lv_if_eq (tgt := 38) hx hb dX7_brokenOnes_24 (by decide) (fun c13 => ?_) (fun c13 => ?_)
          · exact absurd c13 (by decide)
          · refine lv_aload_n hx hb dX7_brokenOnes_27 rfl (lv_at hl 2 rfl) ?_
            refine lv_iload_n hx hb dX7_brokenOnes_28 rfl (lv_at hl 0 rfl) ?_
            refine g_Vi (As := [.int (nI k)]) (rest := []) F hP hS (k_X7_isBrokenSet l A G wa md S _ _ _ Fm L T k x0 x8 x9 x10 Hf Hi Ht HT hk) (cwV 1 hts gX7_brokenOnes_X7_isBrokenSet rfl rfl rfl cd_X7_isBrokenSet ⟨by rw [hR]; exact Nat.le_of_ble_eq_true rfl, by rw [hR]; exact Nat.le_of_ble_eq_true rfl⟩) x0 rfl rfl rfl hl.1 (Nat.le_of_ble_eq_true rfl) dX7_brokenOnes_29 ⟨by rw [hR]; exact Nat.le_of_ble_eq_true rfl, by rw [hR]; exact Nat.le_of_ble_eq_true rfl⟩ rfl (fun r14 w15 H locs h16 hP hS => ?_)
            obtain ⟨erw15, tp2, bt2, eww15⟩ := h16
            rw [erw15]
            have f17 : w15 (md 1) = some (.inl (G.2.1 0, 10, .inl (Fm 1))) := by rw [eww15]; exact g_up_f x1 ((fun q => absurd (Hj 1 0 (by decide) (by decide) q) (by decide)))
            have f18 : w15 (md 2) = some (.inl (G.2.1 0, 10, .inl (Fm 2))) := by rw [eww15]; exact g_up_f x2 ((fun q => absurd (Hj 2 0 (by decide) (by decide) q) (by decide)))
            have f19 : w15 (md 3) = some (.inl (G.2.1 2, 10, .inl (Fm 3))) := by rw [eww15]; exact g_up_f x3 ((fun q => absurd (Hj 3 0 (by decide) (by decide) q) (by decide)))
            have f20 : w15 (md 4) = some (.inl (G.2.1 0, 64, .inl (Fm 4))) := by rw [eww15]; exact g_up_f x4 ((fun q => absurd (Hj 4 0 (by decide) (by decide) q) (by decide)))
            have f21 : w15 (md 5) = some (.inl (G.2.1 2, 16, .inl (Fm 5))) := by rw [eww15]; exact g_up_f x5 ((fun q => absurd (Hj 5 0 (by decide) (by decide) q) (by decide)))
            have f22 : w15 (md 6) = some (.inl (G.2.1 0, 16, .inl (Fm 6))) := by rw [eww15]; exact g_up_f x6 ((fun q => absurd (Hj 6 0 (by decide) (by decide) q) (by decide)))
            have f23 : w15 (md 7) = some (.inl (G.2.1 0, 16, .inl (Fm 7))) := by rw [eww15]; exact g_up_f x7 ((fun q => absurd (Hj 7 0 (by decide) (by decide) q) (by decide)))
            have f24 : w15 (md 8) = some (.inl (G.2.1 0, 20, .inl (Fm 8))) := by rw [eww15]; exact g_up_f x8 ((fun q => absurd (Hj 8 0 (by decide) (by decide) q) (by decide)))
            have f25 : w15 (md 9) = some (.inl (G.2.1 1, 10, .inr (.inl (L 0)))) := by rw [eww15]; exact g_up_f x9 ((fun q => absurd (Hj 9 0 (by decide) (by decide) q) (by decide)))
            have f26 : w15 (md 10) = some (.inl (G.2.1 1, 10, .inr (.inl (L 1)))) := by rw [eww15]; exact g_up_f x10 ((fun q => absurd (Hj 10 0 (by decide) (by decide) q) (by decide)))
            have f27 : w15 (md 11) = some (.inl (G.2.1 0, 10, .inl (Fm 11))) := by rw [eww15]; exact g_up_f x11 ((fun q => absurd (Hj 11 0 (by decide) (by decide) q) (by decide)))
            have f28 : w15 (md 0) = some (.inr (8, [.int th, .int (iL (S 0 0)), .ref (md 1), .ref (md 2), .ref (md 3), .int (iL (S 0 4)), .int (iL (S 0 5)), .int (iL (S 0 1)), .ref (md 4), .ref (md 5), .int (iL (S 0 2)), .ref (md 6), .ref (md 7), .int (iL (S 0 3)), .ref (md 8), .ref (md 9), .ref (md 10), .ref (md 11), .long tp2, .long bt2])) := by rw [eww15]; exact g_up_s _ _ _
            refine lv_if_eq (tgt := 52) hx hb dX7_brokenOnes_32 (by decide) (fun c29 => ?_) (fun c29 => ?_)
            · have yc29 : brkB S T 1 k = false := g_b0.mp c29
              rw [yc29] at es9
              have es8 : bitsI (brkB S T (bN true)) (k + 1) = bitsI (brkB S T (bN true)) k := es9
              obtain ⟨i30, ei30⟩ : ∃ y : Int32, y = nI k + (1) := ⟨_, rfl⟩
              refine lv_iinc (v := i30) (lv' := [(3, .int i30), (2, .int (bitsI (brkB S T (bN true)) k)), (0, .ref (md 0)), (1, .int (g_b true))]) hx hb dX7_brokenOnes_52 hl (k := 0) rfl (by rw [ei30]; rfl) (by decide) rfl (fun ls hl => ?_)
              obtain rfl : i30 = nI (k + 1) := by
                rw [ei30]
                exact nI_1 k
              refine lv_goto (tgt := 4) hx hb dX7_brokenOnes_55 (by decide) ?_
              rw [← es8] at hl
              exact ih_L4 (k + 1) tp2 bt2 w15 H locs ls (by omega) (by show ((k + 1 : Nat) : Int) ≤ S 0 3; omega) (by rw [eww15, hwa, g_up_up]) f28 f17 f18 f19 f20 f21 f22 f23 f24 f25 f26 f27 hP hS (lv_sub hl [0, 1, 2, 3] rfl)
            · have yc29 : brkB S T 1 k = true := g_b1.mp c29
              rw [yc29] at es9
              have es8 : bitsI (brkB S T (bN true)) (k + 1) = bitsI (brkB S T (bN true)) k ||| (1 <<< (nI k &&& 31)) := es9
              refine lv_goto (tgt := 46) hx hb dX7_brokenOnes_35 (by decide) ?_
              refine lv_iload_n hx hb dX7_brokenOnes_46 rfl (lv_at hl 1 rfl) ?_
              refine lv_iconst (v := 1) hx hb dX7_brokenOnes_47 (by decide) ?_
              refine lv_iload_n hx hb dX7_brokenOnes_48 rfl (lv_at hl 0 rfl) ?_
              refine lv_ishl hx hb dX7_brokenOnes_49 ?_
              refine lv_topi (fun v31 ev31 => ?_)
              obtain rfl : v31 = 1 <<< (nI k &&& 31) := by
                exact ev31
              refine lv_ior hx hb dX7_brokenOnes_50 ?_
              refine lv_topi (fun v32 ev32 => ?_)
              obtain rfl : v32 = bitsI (brkB S T (bN true)) (k + 1) := by
                rw [ev32]
                exact es8.symm
              refine lv_istore_n (lv' := [(2, .int (bitsI (brkB S T (bN true)) (k + 1))), (3, .int (nI k)), (0, .ref (md 0)), (1, .int (g_b true))]) hx hb dX7_brokenOnes_51 rfl hl (by decide) rfl (fun ls hl => ?_)
              obtain ⟨i33, ei33⟩ : ∃ y : Int32, y = nI k + (1) := ⟨_, rfl⟩
              refine lv_iinc (v := i33) (lv' := [(3, .int i33), (2, .int (bitsI (brkB S T (bN true)) (k + 1))), (0, .ref (md 0)), (1, .int (g_b true))]) hx hb dX7_brokenOnes_52 hl (k := 1) rfl (by rw [ei33]; rfl) (by decide) rfl (fun ls hl => ?_)
              obtain rfl : i33 = nI (k + 1) := by
                rw [ei33]
                exact nI_1 k
              refine lv_goto (tgt := 4) hx hb dX7_brokenOnes_55 (by decide) ?_
              exact ih_L4 (k + 1) tp2 bt2 w15 H locs ls (by omega) (by show ((k + 1 : Nat) : Int) ≤ S 0 3; omega) (by rw [eww15, hwa, g_up_up]) f28 f17 f18 f19 f20 f21 f22 f23 f24 f25 f26 f27 hP hS (lv_sub hl [0, 1, 2, 3] rfl)
  exact L4 17 0 tp bt w H locs ls (by omega) ((bN_le Hi bb).2) ((g_up_id hx0).symm) hx0 hy1 hy2 hy3 hy4 hy5 hy6 hy7 hy8 hy9 hy10 hy11 hP hS (lv_sub hl [0, 1, 2, 3] rfl)
