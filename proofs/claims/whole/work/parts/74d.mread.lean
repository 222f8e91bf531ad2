set_option maxHeartbeats 4000000 in
set_option maxRecDepth 100000 in
theorem k_X7_free (l : Launch) (A : Nat → Prop) (G : g_C) (w : g_W) (md : Nat → Nat) (S : Sg) (th : Int32) (tp bt : Int64) (Fm : Nat → Nat → Int32) (L : Nat → Nat → Int64) (Hm : modW G w md S th tp bt Fm L) (Hj : modI md) (Hf : modF S Fm) (Hi : invS S) : mI l yX7_free wsX7_free ({ frames := 6, cells := 2, slots := 20, locals := 177 } : Room) [.ref (md 0)] A G w (fun r w' => r = vlFree S (told S) ∧ mAft G md w w' S 0) 2 20 := by
  refine g_ofI (cc := cX7_free) (maxL := 3) (ret := (some .int)) (own := RX7) (by decide) rfl rfl (Nat.le_of_ble_eq_true rfl) ?_
  intro p e R s m args below meth c Q ls hR F hP hS hlocks hr hnm0 hQ hl
  obtain ⟨⟨hx, hb, hml, hown, hts⟩, hK, hZ, hA⟩ := id F
  generalize hH0 : s.heap = H at hP ⊢
  have hS : va_S A s.heap H [] := by rw [← hH0]; exact va_S.rf
  generalize ([] : List Loc) = locs at hS ⊢
  have hl : lv_has ls 3 [(0, .ref (md 0))] := hl
  have iX7 : ∀ w ∈ u_ws RX7 TX7 20, w ∈ wsX7_free := fun w h => List.mem_cons_of_mem _ (List.mem_append_right _ (h))
  obtain ⟨hx0, hy1, hy2, hy3, hy4, hy5, hy6, hy7, hy8, hy9, hy10, hy11⟩ := id Hm
  have hi := Hi.1
  refine lv_aload_n hx hb dX7_free_0 rfl (lv_at hl 0 rfl) ?_
  refine lv_iconst (v := 0) hx hb dX7_free_1 (by decide) ?_
  refine g_put F hP hS (C := RX7) (T := TX7) (N := 20) (v := .int 0) (ty := .int) iX7 tyX7 tyX7_ok nmX7 hx0 rfl 0 (by decide) (List.mem_cons_of_mem _ (List.mem_append_left _ (List.mem_append_left _ (List.mem_of_getElem? (i := 0) rfl)))) (fun _ h9 => h9) rfl (by decide +kernel) rfl rfl (by show 0 < 20; decide) dX7_free_2 (fun H locs hP hS => ?_)
  obtain ⟨w1, ew1⟩ : ∃ z, z = g_up w (md 0) (.inr (8, [.int 0, .int (iL (S 0 0)), .ref (md 1), .ref (md 2), .ref (md 3), .int (iL (S 0 4)), .int (iL (S 0 5)), .int (iL (S 0 1)), .ref (md 4), .ref (md 5), .int (iL (S 0 2)), .ref (md 6), .ref (md 7), .int (iL (S 0 3)), .ref (md 8), .ref (md 9), .ref (md 10), .ref (md 11), .long tp, .long bt])) := ⟨_, rfl⟩
  have hP : g_P A G w1 H := by rw [ew1]; exact hP
  have f2 : w1 (md 1) = some (.inl (G.2.1 0, 10, .inl (Fm 1))) := by rw [ew1]; exact g_up_f hy1 ((fun q => absurd (Hj 1 0 (by decide) (by decide) q) (by decide)))
  have f3 : w1 (md 2) = some (.inl (G.2.1 0, 10, .inl (Fm 2))) := by rw [ew1]; exact g_up_f hy2 ((fun q => absurd (Hj 2 0 (by decide) (by decide) q) (by decide)))
  have f4 : w1 (md 3) = some (.inl (G.2.1 2, 10, .inl (Fm 3))) := by rw [ew1]; exact g_up_f hy3 ((fun q => absurd (Hj 3 0 (by decide) (by decide) q) (by decide)))
  have f5 : w1 (md 4) = some (.inl (G.2.1 0, 64, .inl (Fm 4))) := by rw [ew1]; exact g_up_f hy4 ((fun q => absurd (Hj 4 0 (by decide) (by decide) q) (by decide)))
  have f6 : w1 (md 5) = some (.inl (G.2.1 2, 16, .inl (Fm 5))) := by rw [ew1]; exact g_up_f hy5 ((fun q => absurd (Hj 5 0 (by decide) (by decide) q) (by decide)))
  have f7 : w1 (md 6) = some (.inl (G.2.1 0, 16, .inl (Fm 6))) := by rw [ew1]; exact g_up_f hy6 ((fun q => absurd (Hj 6 0 (by decide) (by decide) q) (by decide)))
  have f8 : w1 (md 7) = some (.inl (G.2.1 0, 16, .inl (Fm 7))) := by rw [ew1]; exact g_up_f hy7 ((fun q => absurd (Hj 7 0 (by decide) (by decide) q) (by decide)))
  have f9 : w1 (md 8) = some (.inl (G.2.1 0, 20, .inl (Fm 8))) := by rw [ew1]; exact g_up_f hy8 ((fun q => absurd (Hj 8 0 (by decide) (by decide) q) (by decide)))
  have f10 : w1 (md 9) = some (.inl (G.2.1 1, 10, .inr (.inl (L 0)))) := by rw [ew1]; exact g_up_f hy9 ((fun q => absurd (Hj 9 0 (by decide) (by decide) q) (by decide)))
  have f11 : w1 (md 10) = some (.inl (G.2.1 1, 10, .inr (.inl (L 1)))) := by rw [ew1]; exact g_up_f hy10 ((fun q => absurd (Hj 10 0 (by decide) (by decide) q) (by decide)))
  have f12 : w1 (md 11) = some (.inl (G.2.1 0, 10, .inl (Fm 11))) := by rw [ew1]; exact g_up_f hy11 ((fun q => absurd (Hj 11 0 (by decide) (by decide) q) (by decide)))
  have f13 : w1 (md 0) = some (.inr (8, [.int 0, .int (iL (S 0 0)), .ref (md 1), .ref (md 2), .ref (md 3), .int (iL (S 0 4)), .int (iL (S 0 5)), .int (iL (S 0 1)), .ref (md 4), .ref (md 5), .int (iL (S 0 2)), .ref (md 6), .ref (md 7), .int (iL (S 0 3)), .ref (md 8), .ref (md 9), .ref (md 10), .ref (md 11), .long tp, .long bt])) := by rw [ew1]; exact g_up_s _ _ _
  refine lv_aload_n hx hb dX7_free_5 rfl (lv_at hl 0 rfl) ?_
  refine g_Vv (As := []) (rest := []) F hP hS (k_X7_solve l A G w1 md S 0 tp bt Fm L ⟨f13, f2, f3, f4, f5, f6, f7, f8, f9, f10, f11, f12⟩ Hj Hf Hi) (cwV 0 hts gX7_free_X7_solve rfl rfl rfl cd_X7_solve ⟨by rw [hR]; exact Nat.le_of_ble_eq_true rfl, by rw [hR]; exact Nat.le_of_ble_eq_true rfl⟩) f13 rfl rfl rfl hl.1 (Nat.le_of_ble_eq_true rfl) dX7_free_6 ⟨by rw [hR]; exact Nat.le_of_ble_eq_true rfl, by rw [hR]; exact Nat.le_of_ble_eq_true rfl⟩ rfl (fun w15 H locs h16 hP hS => ?_)
  obtain ⟨hfr2, tp2, bt2, L3, f3, ⟨z0, z1, z2, z3, z4, z5, z6, z7, z8, z9, z10, z11⟩, hT3⟩ := h16
  have HT : modT S (told S) (up1 Fm 11 f3) L3 := hT3
  have HF := modF_11 Hf f3
  have Ht := told_inv Hi
  have f17 : w15 (md 0) = some (.inr (8, [.int 0, .int (iL (S 0 0)), .ref (md 1), .ref (md 2), .ref (md 3), .int (iL (S 0 4)), .int (iL (S 0 5)), .int (iL (S 0 1)), .ref (md 4), .ref (md 5), .int (iL (S 0 2)), .ref (md 6), .ref (md 7), .int (iL (S 0 3)), .ref (md 8), .ref (md 9), .ref (md 10), .ref (md 11), .long tp2, .long bt2])) := z0
  have f18 : w15 (md 1) = some (.inl (G.2.1 0, 10, .inl (Fm 1))) := z1
  have f19 : w15 (md 2) = some (.inl (G.2.1 0, 10, .inl (Fm 2))) := z2
  have f20 : w15 (md 3) = some (.inl (G.2.1 2, 10, .inl (Fm 3))) := z3
  have f21 : w15 (md 4) = some (.inl (G.2.1 0, 64, .inl (Fm 4))) := z4
  have f22 : w15 (md 5) = some (.inl (G.2.1 2, 16, .inl (Fm 5))) := z5
  have f23 : w15 (md 6) = some (.inl (G.2.1 0, 16, .inl (Fm 6))) := z6
  have f24 : w15 (md 7) = some (.inl (G.2.1 0, 16, .inl (Fm 7))) := z7
  have f25 : w15 (md 8) = some (.inl (G.2.1 0, 20, .inl (Fm 8))) := z8
  have f26 : w15 (md 9) = some (.inl (G.2.1 1, 10, .inr (.inl (L3 0)))) := z9
  have f27 : w15 (md 10) = some (.inl (G.2.1 1, 10, .inr (.inl (L3 1)))) := z10
  have f28 : w15 (md 11) = some (.inl (G.2.1 0, 10, .inl f3)) := z11
  refine lv_iconst (v := 0) hx hb dX7_free_9 (by decide) ?_
  refine lv_istore_n (lv' := [(1, .int 0), (0, .ref (md 0))]) hx hb dX7_free_10 rfl hl (by decide) rfl (fun ls hl => ?_)
  refine lv_iconst (v := 0) hx hb dX7_free_11 (by decide) ?_
  refine lv_istore_n (lv' := [(2, .int 0), (1, .int 0), (0, .ref (md 0))]) hx hb dX7_free_12 rfl hl (by decide) rfl (fun ls hl => ?_)
  have L13 : ∀ (n : Nat) (k : Nat) (H : Heap) (locs : List Loc) (ls : Array Slot), (S 0 0).toNat + 1 ≤ k + n → ((k : Int) ≤ S 0 0) → g_P A G w15 H → va_S A s.heap H locs → lv_has ls 3 [(2, .int (nI k)), (1, .int (iL (cntI (fun k => decide (told S 2 k = -1)) k))), (0, .ref (md 0))] → W p l e R s m args below meth c H locs (2) (20) Q (F0 m 13 ls []) := by
    intro n
    induction n with
    | zero =>
      intro k H locs ls hfu hkN hP hS hl
      exact absurd hfu (by omega)
    | succ n ih_L13 =>
      intro k H locs ls hfu hkN hP hS hl
      refine lv_iload_n hx hb dX7_free_13 rfl (lv_at hl 0 rfl) ?_
      refine lv_aload_n hx hb dX7_free_14 rfl (lv_at hl 2 rfl) ?_
      refine g_get F hP (C := RX7) (T := TX7) (N := 20) iX7 f17 rfl 1 (by decide) (List.mem_cons_of_mem _ (List.mem_append_left _ (List.mem_append_left _ (List.mem_of_getElem? (i := 1) rfl)))) (fun _ h9 => h9) rfl dX7_free_15 ?_
      refine lv_icmp_ge (tgt := 43) hx hb dX7_free_18 (by decide) (fun c29 => ?_) (fun c29 => ?_)
      · have zc29 : S 0 0 ≤ k := (iL_nle (by omega) (by omega) (by omega)).mp c29
        refine lv_iload_n hx hb dX7_free_43 rfl (lv_at hl 1 rfl) ?_
        rw [hQ]
        refine g_iret F hP hS hlocks hr dX7_free_44 (by first | exact Nat.le_of_ble_eq_true rfl | omega) (by first | exact Nat.le_of_ble_eq_true rfl | omega) ?_
        exact ⟨by unfold vlFree; rw [show (S 0 0).toNat = k by omega], ⟨mFr_tr (mFr_tr (mFr_rf _ _) (mFr_se (i := 0) (by decide) ew1)) hfr2, _, _, (up1 Fm 11 f3), L3, ⟨f17, f18, f19, f20, f21, f22, f23, f24, f25, f26, f27, f28⟩, HF⟩⟩
      · have hk : (k : Int) < S 0 0 := Int.not_le.mp (fun q => c29 ((iL_nle (z := S 0 0) (k := k) (by omega) (by omega) (by omega)).mpr q))
        have es9 : cntI (fun k => decide (told S 2 k = -1)) (k + 1) = cntI (fun k => decide (told S 2 k = -1)) k + (if decide (told S 2 k = -1) then 1 else 0) := rfl
        refine lv_iload_n hx hb dX7_free_21 rfl (lv_at hl 1 rfl) ?_
        refine lv_aload_n hx hb dX7_free_22 rfl (lv_at hl 2 rfl) ?_
        refine lv_iload_n hx hb dX7_free_23 rfl (lv_at hl 0 rfl) ?_
        refine g_Vi (As := [.int (nI k)]) (rest := [.int (iL (cntI (fun k => decide (told S 2 k = -1)) k))]) F hP hS (k_X7_hasSpeed l A G w15 md S _ _ _ (up1 Fm 11 f3) L3 k (zB (told S) k) f17 f27 (by have := hk; omega) (zB_z HT hk) (zB_b Ht hk)) (cwV 1 hts gX7_free_X7_hasSpeed rfl rfl rfl cd_X7_hasSpeed ⟨by rw [hR]; exact Nat.le_of_ble_eq_true rfl, by rw [hR]; exact Nat.le_of_ble_eq_true rfl⟩) f17 rfl rfl rfl hl.1 (Nat.le_of_ble_eq_true rfl) dX7_free_24 ⟨by rw [hR]; exact Nat.le_of_ble_eq_true rfl, by rw [hR]; exact Nat.le_of_ble_eq_true rfl⟩ rfl (fun r30 w31 H locs h32 hP hS => ?_)
        have hr30 := h32.1
        rw [h32.2] at hP
        rw [hr30]
        rw [zB_d Ht hk]
        refine lv_if_eq (tgt := 34) hx hb dX7_free_27 (by decide) (fun c33 => ?_) (fun c33 => ?_)
        · have yc33 := of_decide_eq_false (g_b0.mp c33)
          refine lv_iconst (v := 1) hx hb dX7_free_34 (by decide) ?_
          refine lv_iadd hx hb dX7_free_35 ?_
          refine lv_topi (fun v34 ev34 => ?_)
          obtain rfl : v34 = iL (cntI (fun k => decide (told S 2 k = -1)) (k + 1)) := by
            rw [ev34]
            rw [es9, decide_eq_true (Decidable.not_not.mp yc33)]; exact iL_add _ 1
          refine lv_istore_n (lv' := [(1, .int (iL (cntI (fun k => decide (told S 2 k = -1)) (k + 1)))), (2, .int (nI k)), (0, .ref (md 0))]) hx hb dX7_free_36 rfl hl (by decide) rfl (fun ls hl => ?_)
          obtain ⟨i35, ei35⟩ : ∃ y : Int32, y = nI k + (1) := ⟨_, rfl⟩
          refine lv_iinc (v := i35) (lv' := [(2, .int i35), (1, .int (iL (cntI (fun k => decide (told S 2 k = -1)) (k + 1)))), (0, .ref (md 0))]) hx hb dX7_free_37 hl (k := 1) rfl (by rw [ei35]; rfl) (by decide) rfl (fun ls hl => ?_)
          obtain rfl : i35 = nI (k + 1) := by
            rw [ei35]
            exact nI_1 k
          refine lv_goto (tgt := 13) hx hb dX7_free_40 (by decide) ?_
          exact ih_L13 (k + 1)  H locs ls (by omega) (by omega) hP hS (lv_sub hl [0, 1, 2] rfl)
        · have yc33 := of_decide_eq_true (g_b1.mp c33)
          refine lv_iconst (v := 0) hx hb dX7_free_30 (by decide) ?_
          refine lv_goto (tgt := 35) hx hb dX7_free_31 (by decide) ?_
          refine lv_iadd hx hb dX7_free_35 ?_
          refine lv_topi (fun v36 ev36 => ?_)
          obtain rfl : v36 = iL (cntI (fun k => decide (told S 2 k = -1)) (k + 1)) := by
            rw [ev36]
            rw [es9, decide_eq_false yc33]; exact iL_add _ 0
          refine lv_istore_n (lv' := [(1, .int (iL (cntI (fun k => decide (told S 2 k = -1)) (k + 1)))), (2, .int (nI k)), (0, .ref (md 0))]) hx hb dX7_free_36 rfl hl (by decide) rfl (fun ls hl => ?_)
          obtain ⟨i37, ei37⟩ : ∃ y : Int32, y = nI k + (1) := ⟨_, rfl⟩
          refine lv_iinc (v := i37) (lv' := [(2, .int i37), (1, .int (iL (cntI (fun k => decide (told S 2 k = -1)) (k + 1)))), (0, .ref (md 0))]) hx hb dX7_free_37 hl (k := 1) rfl (by rw [ei37]; rfl) (by decide) rfl (fun ls hl => ?_)
          obtain rfl : i37 = nI (k + 1) := by
            rw [ei37]
            exact nI_1 k
          refine lv_goto (tgt := 13) hx hb dX7_free_40 (by decide) ?_
          exact ih_L13 (k + 1)  H locs ls (by omega) (by omega) hP hS (lv_sub hl [0, 1, 2] rfl)
  exact L13 ((S 0 0).toNat + 1) 0  H locs ls (by omega) (by omega) hP hS (lv_sub hl [0, 1, 2] rfl)
