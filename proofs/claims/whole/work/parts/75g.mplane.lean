theorem cd_X7_size : yX7_size.cls = RX7 ∧ yX7_size.cls ≠ "java/lang/invoke/MethodHandle" ∧ yX7_size.cls ≠ "java/lang/invoke/VarHandle" ∧ (parseMethodDescriptor yX7_size.desc).map (fun d => d.parameters.length) = some 1 := by decide +kernel
set_option maxHeartbeats 4000000 in
set_option maxRecDepth 100000 in
theorem k_X7_collisions (l : Launch) (A : Nat → Prop) (G : g_C) (w : g_W) (md : Nat → Nat) (S : Sg) (th : Int32) (tp bt : Int64) (Fm : Nat → Nat → Int32) (L : Nat → Nat → Int64) (Hm : modW G w md S th tp bt Fm L) (Hj : modI md) (Hf : modF S Fm) (Hi : invS S) : mI l yX7_collisions wsX7_collisions ({ frames := 2, cells := 0, slots := 0, locals := 42 } : Room) [.ref (md 0)] A G w (fun r w' => r = vlColl S ∧ mAft G md w w' S 0) 0 0 := by
  refine g_ofI (cc := cX7_collisions) (maxL := 4) (ret := (some .int)) (own := RX7) (by decide) rfl rfl (Nat.le_of_ble_eq_true rfl) ?_
  intro p e R s m args below meth c Q ls hR F hP hS hlocks hr hnm0 hQ hl
  obtain ⟨⟨hx, hb, hml, hown, hts⟩, hK, hZ, hA⟩ := id F
  generalize hH0 : s.heap = H at hP ⊢
  have hS : va_S A s.heap H [] := by rw [← hH0]; exact va_S.rf
  generalize ([] : List Loc) = locs at hS ⊢
  have hl : lv_has ls 4 [(0, .ref (md 0))] := hl
  have iX7 : ∀ w ∈ u_ws RX7 TX7 20, w ∈ wsX7_collisions := fun w h => List.mem_cons_of_mem _ (List.mem_append_right _ (h))
  obtain ⟨hx0, hy1, hy2, hy3, hy4, hy5, hy6, hy7, hy8, hy9, hy10, hy11⟩ := id Hm
  have hi := Hi.1
  refine lv_aload_n hx hb dX7_collisions_0 rfl (lv_at hl 0 rfl) ?_
  refine lv_iconst (v := 0) hx hb dX7_collisions_1 (by decide) ?_
  refine g_put F hP hS (C := RX7) (T := TX7) (N := 20) (v := .int 0) (ty := .int) iX7 tyX7 tyX7_ok nmX7 hx0 rfl 0 (by decide) (List.mem_cons_of_mem _ (List.mem_append_left _ (List.mem_append_left _ (List.mem_of_getElem? (i := 0) rfl)))) (fun _ h9 => h9) rfl (by decide +kernel) rfl rfl (by show 0 < 20; decide) dX7_collisions_2 (fun H locs hP hS => ?_)
  obtain ⟨w1, ew1⟩ : ∃ z, z = g_up w (md 0) (.inr (8, [.int 0, .int (iL (S 0 0)), .ref (md 1), .ref (md 2), .ref (md 3), .int (iL (S 0 4)), .int (iL (S 0 5)), .int (iL (S 0 1)), .ref (md 4), .ref (md 5), .int (iL (S 0 2)), .ref (md 6), .ref (md 7), .int (iL (S 0 3)), .ref (md 8), .ref (md 9), .ref (md 10), .ref (md 11), .long tp, .long bt])) := ⟨_, rfl⟩
  have hP : g_P A G w1 H := by rw [ew1]; exact hP
  have f2 : w1 (md 1) = some (.inl (G.2.1 0, 10, .inl (Fm 1))) := by rw [ew1]; exact g_up_f hy1 ((fun q => absurd (Hj 1 0 (by decide) (by decide) q) (by decide)))
  have f3 : w1 (md 2) = some (.inl (G.2.1 0, 10, .inl (Fm 2))) := by rw [ew1]; exact g_up_f hy2 ((fun q => absurd (Hj 2 0 (by decide) (by decide) q) (by decide)))
  have f4 : w1 (md 3) = some (.inl (G.2.1 2, 10, .inl (Fm 3))) := by rw [ew1]; exact g_up_f hy3 ((fun q => absurd (Hj 3 0 (by decide) (by decide) q) (by decide)))
  have f5 : w1 (md 4) = some (.inl (G.2.1 0, 64, .inl (Fm 4))) := by rw [ew1]; exact g_up_f hy4 ((fun q => absurd (Hj 4 0 (by decide) (by decide) q) (by decide)))
  have f6 : w1 (md 5) = some (.inl (G.2.1 2, 16, .inl (Fm 5))) := by rw [ew1]; exact g_up_f hy5 ((fun q => absurd (Hj 5 0 (by decide) (by decide) q) (by decide)))
  have f7 : w1 (md 6) = some (.inl (G.2.1 0, 16, .inl (Fm 6))) := by rw [ew1]; exact g_up_f hy6 ((fun q => absurd (Hj 6 0 (by decide) (by decide) q) (by decide)))
  have f8 : w1 (md 7) = some (.inl (G.2.1 0, 16, .inl (Fm 7))) := by rw [ew1]; exact g_up_f hy7 ((fun q => absurd (Hj 7 0 (by decide) (by decide) q) (by decide)))
  have f9 : w1 (md 8) = some (.inl (G.2.1 0, 20, .inl (Fm 8))) := by rw [ew1]; exact g_up_f hy8 ((fun q => absurd (Hj 8 0 (by decide) (by decide) q) (by decide)))
  have f10 : w1 (md 9) = some (.inl (G.2.1 1, 10, .inr (.inl (L 0)))) := by rw [ew1]; exact g_up_f hy9 ((fun q => absurd (Hj 9 0 (by decide) (by decide) q) (by decide)))
  have f11 : w1 (md 10) = some (.inl (G.2.1 1, 10, .inr (.inl (L 1)))) := by rw [ew1]; exact g_up_f hy10 ((fun q => absurd (Hj 10 0 (by decide) (by decide) q) (by decide)))
  have f12 : w1 (md 11) = some (.inl (G.2.1 0, 10, .inl (Fm 11))) := by rw [ew1]; exact g_up_f hy11 ((fun q => absurd (Hj 11 0 (by decide) (by decide) q) (by decide)))
  have f13 : w1 (md 0) = some (.inr (8, [.int 0, .int (iL (S 0 0)), .ref (md 1), .ref (md 2), .ref (md 3), .int (iL (S 0 4)), .int (iL (S 0 5)), .int (iL (S 0 1)), .ref (md 4), .ref (md 5), .int (iL (S 0 2)), .ref (md 6), .ref (md 7), .int (iL (S 0 3)), .ref (md 8), .ref (md 9), .ref (md 10), .ref (md 11), .long tp, .long bt])) := by rw [ew1]; exact g_up_s _ _ _
  refine lv_iconst (v := 0) hx hb dX7_collisions_5 (by decide) ?_
  refine lv_istore_n (lv' := [(1, .int 0), (0, .ref (md 0))]) hx hb dX7_collisions_6 rfl hl (by decide) rfl (fun ls hl => ?_)
  refine lv_iconst (v := 0) hx hb dX7_collisions_7 (by decide) ?_
  refine lv_istore_n (lv' := [(2, .int 0), (1, .int 0), (0, .ref (md 0))]) hx hb dX7_collisions_8 rfl hl (by decide) rfl (fun ls hl => ?_)
  have L9 : ∀ (n : Nat) (a : Nat) (H : Heap) (locs : List Loc) (ls : Array Slot), (S 0 1).toNat + 1 ≤ a + n → ((a : Int) ≤ S 0 1) → g_P A G w1 H → va_S A s.heap H locs → lv_has ls 4 [(2, .int (nI a)), (1, .int (iL (sumM (collB S) a))), (0, .ref (md 0))] → W p l e R s m args below meth c H locs (0) (0) Q (F0 m 9 ls []) := by
    intro n
    induction n with
    | zero =>
      intro a H locs ls hfu haN hP hS hl
      exact absurd hfu (by omega)
    | succ n ih_L9 =>
      intro a H locs ls hfu haN hP hS hl
      refine lv_iload_n hx hb dX7_collisions_9 rfl (lv_at hl 0 rfl) ?_
      refine lv_aload_n hx hb dX7_collisions_10 rfl (lv_at hl 2 rfl) ?_
      refine g_get F hP (C := RX7) (T := TX7) (N := 20) iX7 f13 rfl 7 (by decide) (List.mem_cons_of_mem _ (List.mem_append_left _ (List.mem_append_left _ (List.mem_of_getElem? (i := 1) rfl)))) (fun _ h9 => h9) rfl dX7_collisions_11 ?_
      refine lv_icmp_ge (tgt := 113) hx hb dX7_collisions_14 (by decide) (fun c14 => ?_) (fun c14 => ?_)
      · have zc14 : S 0 1 ≤ a := (iL_nle (by omega) (by omega) (by omega)).mp c14
        refine lv_iload_n hx hb dX7_collisions_113 rfl (lv_at hl 1 rfl) ?_
        rw [hQ]
        refine g_iret F hP hS hlocks hr dX7_collisions_114 (by first | exact Nat.le_of_ble_eq_true rfl | omega) (by first | exact Nat.le_of_ble_eq_true rfl | omega) ?_
        exact ⟨by unfold vlColl; rw [sumC_sum (fun a b => collB_c S a b), show (S 0 1).toNat = a by omega], ⟨mFr_tr (mFr_rf _ _) (mFr_se (i := 0) (by decide) ew1), _, _, Fm, L, ⟨f13, f2, f3, f4, f5, f6, f7, f8, f9, f10, f11, f12⟩, Hf⟩⟩
      · have ha : (a : Int) < S 0 1 := Int.not_le.mp (fun q => c14 ((iL_nle (z := S 0 1) (k := a) (by omega) (by omega) (by omega)).mpr q))
        have ua := Hi.2.2.1 a ha
        refine lv_iconst (v := 0) hx hb dX7_collisions_17 (by decide) ?_
        refine lv_istore_n (lv' := [(3, .int 0), (2, .int (nI a)), (1, .int (iL (sumM (collB S) a))), (0, .ref (md 0))]) hx hb dX7_collisions_18 rfl hl (by decide) rfl (fun ls hl => ?_)
        rw [show sumM (collB S) a = sumM (collB S) a + cntI (collB S a) 0 from (Int.add_zero _).symm] at hl
        have L19 : ∀ (n : Nat) (b : Nat) (H : Heap) (locs : List Loc) (ls : Array Slot), a + 1 ≤ b + n → (b ≤ a) → g_P A G w1 H → va_S A s.heap H locs → lv_has ls 4 [(3, .int (nI b)), (2, .int (nI a)), (1, .int (iL (sumM (collB S) a + cntI (collB S a) b))), (0, .ref (md 0))] → W p l e R s m args below meth c H locs (0) (0) Q (F0 m 19 ls []) := by
          intro n
          induction n with
          | zero =>
            intro b H locs ls hfu hbN hP hS hl
            exact absurd hfu (by omega)
          | succ n ih_L19 =>
            intro b H locs ls hfu hbN hP hS hl
            refine lv_iload_n hx hb dX7_collisions_19 rfl (lv_at hl 0 rfl) ?_
            refine lv_iload_n hx hb dX7_collisions_20 rfl (lv_at hl 1 rfl) ?_
            refine lv_icmp_ge (tgt := 107) hx hb dX7_collisions_21 (by decide) (fun c15 => ?_) (fun c15 => ?_)
            · have zc15 : a ≤ b := (nI_lei (a := a) (b := b) (by omega) (by omega)).mp c15
              obtain ⟨i16, ei16⟩ : ∃ y : Int32, y = nI a + (1) := ⟨_, rfl⟩
              refine lv_iinc (v := i16) (lv' := [(2, .int i16), (3, .int (nI b)), (1, .int (iL (sumM (collB S) a + cntI (collB S a) b))), (0, .ref (md 0))]) hx hb dX7_collisions_107 hl (k := 1) rfl (by rw [ei16]; rfl) (by decide) rfl (fun ls hl => ?_)
              obtain rfl : i16 = nI (a + 1) := by
                rw [ei16]
                exact nI_1 a
              refine lv_goto (tgt := 9) hx hb dX7_collisions_110 (by decide) ?_
              have sm9 : sumM (collB S) (a + 1) = sumM (collB S) a + cntI (collB S a) a := rfl
              rw [show b = a by omega, ← sm9] at hl
              exact ih_L9 (a + 1) H locs ls (by omega) (by omega) hP hS (lv_sub hl [0, 2, 3] rfl)
            · have hb9 : b < a := by
                rcases Nat.lt_or_ge b a with q | q
                · exact q
                · exact absurd ((nI_lei (a := a) (b := b) (by omega) (by omega)).mpr q) c15
              have hbb : (b : Int) < S 0 1 := by omega
              have ub := Hi.2.2.1 b hbb
              have es9 : cntI (collB S a) (b + 1) = cntI (collB S a) b + (if collB S a b then 1 else 0) := rfl
              refine lv_aload_n hx hb dX7_collisions_24 rfl (lv_at hl 3 rfl) ?_
              refine lv_iload_n hx hb dX7_collisions_25 rfl (lv_at hl 1 rfl) ?_
              refine g_Vi (As := [.int (nI a)]) (rest := []) F hP hS (k_X7_shaftOf l A G w1 md S _ _ _ Fm L a f13 f5 Hf Hi ha) (cwV 1 hts gX7_collisions_X7_shaftOf rfl rfl rfl cd_X7_shaftOf ⟨by rw [hR]; exact Nat.le_of_ble_eq_true rfl, by rw [hR]; exact Nat.le_of_ble_eq_true rfl⟩) f13 rfl rfl rfl hl.1 (Nat.le_of_ble_eq_true rfl) dX7_collisions_26 ⟨by rw [hR]; exact Nat.le_of_ble_eq_true rfl, by rw [hR]; exact Nat.le_of_ble_eq_true rfl⟩ rfl (fun r17 w18 H locs h19 hP hS => ?_)
              have hr17 := h19.1
              rw [h19.2] at hP
              rw [hr17]
              refine lv_aload_n hx hb dX7_collisions_29 rfl (lv_at hl 3 rfl) ?_
              refine lv_iload_n hx hb dX7_collisions_30 rfl (lv_at hl 0 rfl) ?_
              refine g_Vi (As := [.int (nI b)]) (rest := [.int (iL (S 4 a))]) F hP hS (k_X7_shaftOf l A G w1 md S _ _ _ Fm L b f13 f5 Hf Hi hbb) (cwV 1 hts gX7_collisions_X7_shaftOf rfl rfl rfl cd_X7_shaftOf ⟨by rw [hR]; exact Nat.le_of_ble_eq_true rfl, by rw [hR]; exact Nat.le_of_ble_eq_true rfl⟩) f13 rfl rfl rfl hl.1 (Nat.le_of_ble_eq_true rfl) dX7_collisions_31 ⟨by rw [hR]; exact Nat.le_of_ble_eq_true rfl, by rw [hR]; exact Nat.le_of_ble_eq_true rfl⟩ rfl (fun r20 w21 H locs h22 hP hS => ?_)
              have hr20 := h22.1
              rw [h22.2] at hP
              rw [hr20]
              refine lv_icmp_eq (tgt := 101) hx hb dX7_collisions_34 (by decide) (fun c23 => ?_) (fun c23 => ?_)
              · rw [iL_eq (a := S 4 a) (b := S 4 b) (by omega) (by omega) (by omega) (by omega)] at c23
                have nc9 : collB S a b = false := collB_f (fun q => q.1.1 c23)
                rw [nc9] at es9
                have es8 : cntI (collB S a) (b + 1) = cntI (collB S a) b := es9.trans (Int.add_zero _)
                obtain ⟨i24, ei24⟩ : ∃ y : Int32, y = nI b + (1) := ⟨_, rfl⟩
                refine lv_iinc (v := i24) (lv' := [(3, .int i24), (2, .int (nI a)), (1, .int (iL (sumM (collB S) a + cntI (collB S a) b))), (0, .ref (md 0))]) hx hb dX7_collisions_101 hl (k := 0) rfl (by rw [ei24]; rfl) (by decide) rfl (fun ls hl => ?_)
                obtain rfl : i24 = nI (b + 1) := by
                  rw [ei24]
                  exact nI_1 b
                refine lv_goto (tgt := 19) hx hb dX7_collisions_104 (by decide) ?_
                rw [← es8] at hl
                exact ih_L19 (b + 1) H locs ls (by omega) (by omega) hP hS (lv_sub hl [0, 1, 2, 3] rfl)
              · rw [iL_eq (a := S 4 a) (b := S 4 b) (by omega) (by omega) (by omega) (by omega)] at c23
                refine lv_aload_n hx hb dX7_collisions_37 rfl (lv_at hl 3 rfl) ?_
                refine lv_iload_n hx hb dX7_collisions_38 rfl (lv_at hl 1 rfl) ?_
                refine g_Vi (As := [.int (nI a)]) (rest := []) F hP hS (k_X7_layer l A G w1 md S _ _ _ Fm L a f13 f5 Hf Hi ha) (cwV 1 hts gX7_collisions_X7_layer rfl rfl rfl cd_X7_layer ⟨by rw [hR]; exact Nat.le_of_ble_eq_true rfl, by rw [hR]; exact Nat.le_of_ble_eq_true rfl⟩) f13 rfl rfl rfl hl.1 (Nat.le_of_ble_eq_true rfl) dX7_collisions_39 ⟨by rw [hR]; exact Nat.le_of_ble_eq_true rfl, by rw [hR]; exact Nat.le_of_ble_eq_true rfl⟩ rfl (fun r25 w26 H locs h27 hP hS => ?_)
                have hr25 := h27.1
                rw [h27.2] at hP
                rw [hr25]
                refine lv_aload_n hx hb dX7_collisions_42 rfl (lv_at hl 3 rfl) ?_
                refine lv_iload_n hx hb dX7_collisions_43 rfl (lv_at hl 0 rfl) ?_
                refine g_Vi (As := [.int (nI b)]) (rest := [.int (iL (S 7 a))]) F hP hS (k_X7_layer l A G w1 md S _ _ _ Fm L b f13 f5 Hf Hi hbb) (cwV 1 hts gX7_collisions_X7_layer rfl rfl rfl cd_X7_layer ⟨by rw [hR]; exact Nat.le_of_ble_eq_true rfl, by rw [hR]; exact Nat.le_of_ble_eq_true rfl⟩) f13 rfl rfl rfl hl.1 (Nat.le_of_ble_eq_true rfl) dX7_collisions_44 ⟨by rw [hR]; exact Nat.le_of_ble_eq_true rfl, by rw [hR]; exact Nat.le_of_ble_eq_true rfl⟩ rfl (fun r28 w29 H locs h30 hP hS => ?_)
                have hr28 := h30.1
                rw [h30.2] at hP
                rw [hr28]
                refine lv_icmp_ne (tgt := 101) hx hb dX7_collisions_47 (by decide) (fun c31 => ?_) (fun c31 => ?_)
                · rw [iL_eq (a := S 7 a) (b := S 7 b) (by omega) (by omega) (by omega) (by omega)] at c31
                  have nc9 : collB S a b = false := collB_f (fun q => c31 q.1.2.1)
                  rw [nc9] at es9
                  have es8 : cntI (collB S a) (b + 1) = cntI (collB S a) b := es9.trans (Int.add_zero _)
                  obtain ⟨i32, ei32⟩ : ∃ y : Int32, y = nI b + (1) := ⟨_, rfl⟩
                  refine lv_iinc (v := i32) (lv' := [(3, .int i32), (2, .int (nI a)), (1, .int (iL (sumM (collB S) a + cntI (collB S a) b))), (0, .ref (md 0))]) hx hb dX7_collisions_101 hl (k := 0) rfl (by rw [ei32]; rfl) (by decide) rfl (fun ls hl => ?_)
                  obtain rfl : i32 = nI (b + 1) := by
                    rw [ei32]
                    exact nI_1 b
                  refine lv_goto (tgt := 19) hx hb dX7_collisions_104 (by decide) ?_
                  rw [← es8] at hl
                  exact ih_L19 (b + 1) H locs ls (by omega) (by omega) hP hS (lv_sub hl [0, 1, 2, 3] rfl)
                · rw [iL_eq (a := S 7 a) (b := S 7 b) (by omega) (by omega) (by omega) (by omega)] at c31
                  refine lv_aload_n hx hb dX7_collisions_50 rfl (lv_at hl 3 rfl) ?_
                  refine lv_iload_n hx hb dX7_collisions_51 rfl (lv_at hl 1 rfl) ?_
                  refine lv_iload_n hx hb dX7_collisions_52 rfl (lv_at hl 0 rfl) ?_
                  refine g_Vi (As := [.int (nI a), .int (nI b)]) (rest := []) F hP hS (k_X7_areMeshed l A G w1 md S _ _ _ Fm L a b f13 f7 f8 Hf Hi ha hbb) (cwV 2 hts gX7_collisions_X7_areMeshed rfl rfl rfl cd_X7_areMeshed ⟨by rw [hR]; exact Nat.le_of_ble_eq_true rfl, by rw [hR]; exact Nat.le_of_ble_eq_true rfl⟩) f13 rfl rfl rfl hl.1 (Nat.le_of_ble_eq_true rfl) dX7_collisions_53 ⟨by rw [hR]; exact Nat.le_of_ble_eq_true rfl, by rw [hR]; exact Nat.le_of_ble_eq_true rfl⟩ rfl (fun r33 w34 H locs h35 hP hS => ?_)
                  obtain ⟨b0, eb0, hb0⟩ := h35.1
                  rw [h35.2] at hP
                  rw [eb0]
                  refine lv_if_eq (tgt := 62) hx hb dX7_collisions_56 (by decide) (fun c36 => ?_) (fun c36 => ?_)
                  · have yc36 : ¬ meshedP S a b := fun q => by
                      have q1 : b0 = false := g_b0.mp c36
                      rw [hb0.mpr q] at q1
                      cases q1
                    refine lv_iload_n hx hb dX7_collisions_62 rfl (lv_at hl 2 rfl) ?_
                    refine lv_aload_n hx hb dX7_collisions_63 rfl (lv_at hl 3 rfl) ?_
                    refine lv_aload_n hx hb dX7_collisions_64 rfl (lv_at hl 3 rfl) ?_
                    refine lv_iload_n hx hb dX7_collisions_65 rfl (lv_at hl 1 rfl) ?_
                    refine g_Vi (As := [.int (nI a)]) (rest := [.ref (md 0), .int (iL (sumM (collB S) a + cntI (collB S a) b))]) F hP hS (k_X7_shaftOf l A G w1 md S _ _ _ Fm L a f13 f5 Hf Hi ha) (cwV 1 hts gX7_collisions_X7_shaftOf rfl rfl rfl cd_X7_shaftOf ⟨by rw [hR]; exact Nat.le_of_ble_eq_true rfl, by rw [hR]; exact Nat.le_of_ble_eq_true rfl⟩) f13 rfl rfl rfl hl.1 (Nat.le_of_ble_eq_true rfl) dX7_collisions_66 ⟨by rw [hR]; exact Nat.le_of_ble_eq_true rfl, by rw [hR]; exact Nat.le_of_ble_eq_true rfl⟩ rfl (fun r37 w38 H locs h39 hP hS => ?_)
                    have hr37 := h39.1
                    rw [h39.2] at hP
                    rw [hr37]
                    rw [show iL (S 4 a) = nI (S 4 a).toNat from iL_nn (by omega)]
                    refine lv_aload_n hx hb dX7_collisions_69 rfl (lv_at hl 3 rfl) ?_
                    refine lv_iload_n hx hb dX7_collisions_70 rfl (lv_at hl 0 rfl) ?_
                    refine g_Vi (As := [.int (nI b)]) (rest := [.int (nI (S 4 a).toNat), .ref (md 0), .int (iL (sumM (collB S) a + cntI (collB S a) b))]) F hP hS (k_X7_shaftOf l A G w1 md S _ _ _ Fm L b f13 f5 Hf Hi hbb) (cwV 1 hts gX7_collisions_X7_shaftOf rfl rfl rfl cd_X7_shaftOf ⟨by rw [hR]; exact Nat.le_of_ble_eq_true rfl, by rw [hR]; exact Nat.le_of_ble_eq_true rfl⟩) f13 rfl rfl rfl hl.1 (Nat.le_of_ble_eq_true rfl) dX7_collisions_71 ⟨by rw [hR]; exact Nat.le_of_ble_eq_true rfl, by rw [hR]; exact Nat.le_of_ble_eq_true rfl⟩ rfl (fun r40 w41 H locs h42 hP hS => ?_)
                    have hr40 := h42.1
                    rw [h42.2] at hP
                    rw [hr40]
                    rw [show iL (S 4 b) = nI (S 4 b).toNat from iL_nn (by omega)]
                    refine g_Vi (As := [.int (nI (S 4 a).toNat), .int (nI (S 4 b).toNat)]) (rest := [.int (iL (sumM (collB S) a + cntI (collB S a) b))]) F hP hS (k_X7_apart l A G w1 md S _ _ _ Fm L (S 4 a).toNat (S 4 b).toNat f13 f2 f3 Hf Hi (by omega) (by omega)) (cwV 2 hts gX7_collisions_X7_apart rfl rfl rfl cd_X7_apart ⟨by rw [hR]; exact Nat.le_of_ble_eq_true rfl, by rw [hR]; exact Nat.le_of_ble_eq_true rfl⟩) f13 rfl rfl rfl hl.1 (Nat.le_of_ble_eq_true rfl) dX7_collisions_74 ⟨by rw [hR]; exact Nat.le_of_ble_eq_true rfl, by rw [hR]; exact Nat.le_of_ble_eq_true rfl⟩ rfl (fun r43 w44 H locs h45 hP hS => ?_)
                    have hr43 := h45.1
                    rw [h45.2] at hP
                    rw [hr43]
                    refine lv_aload_n hx hb dX7_collisions_77 rfl (lv_at hl 3 rfl) ?_
                    refine lv_iload_n hx hb dX7_collisions_78 rfl (lv_at hl 1 rfl) ?_
                    refine g_Vi (As := [.int (nI a)]) (rest := [.int (iL (dsI S (S 4 a).toNat (S 4 b).toNat)), .int (iL (sumM (collB S) a + cntI (collB S a) b))]) F hP hS (k_X7_size l A G w1 md S _ _ _ Fm L a f13 f5 f6 Hf Hi ha) (cwV 1 hts gX7_collisions_X7_size rfl rfl rfl cd_X7_size ⟨by rw [hR]; exact Nat.le_of_ble_eq_true rfl, by rw [hR]; exact Nat.le_of_ble_eq_true rfl⟩) f13 rfl rfl rfl hl.1 (Nat.le_of_ble_eq_true rfl) dX7_collisions_79 ⟨by rw [hR]; exact Nat.le_of_ble_eq_true rfl, by rw [hR]; exact Nat.le_of_ble_eq_true rfl⟩ rfl (fun r46 w47 H locs h48 hP hS => ?_)
                    have hr46 := h48.1
                    rw [h48.2] at hP
                    rw [hr46]
                    refine lv_aload_n hx hb dX7_collisions_82 rfl (lv_at hl 3 rfl) ?_
                    refine lv_iload_n hx hb dX7_collisions_83 rfl (lv_at hl 0 rfl) ?_
                    refine g_Vi (As := [.int (nI b)]) (rest := [.int (iL (szI S a)), .int (iL (dsI S (S 4 a).toNat (S 4 b).toNat)), .int (iL (sumM (collB S) a + cntI (collB S a) b))]) F hP hS (k_X7_size l A G w1 md S _ _ _ Fm L b f13 f5 f6 Hf Hi hbb) (cwV 1 hts gX7_collisions_X7_size rfl rfl rfl cd_X7_size ⟨by rw [hR]; exact Nat.le_of_ble_eq_true rfl, by rw [hR]; exact Nat.le_of_ble_eq_true rfl⟩) f13 rfl rfl rfl hl.1 (Nat.le_of_ble_eq_true rfl) dX7_collisions_84 ⟨by rw [hR]; exact Nat.le_of_ble_eq_true rfl, by rw [hR]; exact Nat.le_of_ble_eq_true rfl⟩ rfl (fun r49 w50 H locs h51 hP hS => ?_)
                    have hr49 := h51.1
                    rw [h51.2] at hP
                    rw [hr49]
                    refine lv_iadd hx hb dX7_collisions_87 ?_
                    refine lv_topi (fun v52 ev52 => ?_)
                    obtain rfl : v52 = iL (szI S a + szI S b) := by
                      rw [ev52]
                      exact iL_add _ _
                    refine g_Si (As := [.int (iL (szI S a + szI S b))]) (rest := [.int (iL (dsI S (S 4 a).toNat (S 4 b).toNat)), .int (iL (sumM (collB S) a + cntI (collB S a) b))]) F hP hS (k_X7_square l A G w1 (iL (szI S a + szI S b))) (va_cwS 1 hts gX7_collisions_X7_square rfl rfl rfl cd_X7_square ⟨by rw [hR]; exact Nat.le_of_ble_eq_true rfl, by rw [hR]; exact Nat.le_of_ble_eq_true rfl⟩) rfl hl.1 (Nat.le_of_ble_eq_true rfl) dX7_collisions_88 ⟨by rw [hR]; exact Nat.le_of_ble_eq_true rfl, by rw [hR]; exact Nat.le_of_ble_eq_true rfl⟩ rfl (fun r53 w54 H locs h55 hP hS => ?_)
                    have hr53 := h55.1
                    rw [h55.2] at hP
                    rw [hr53]
                    rw [iL_mul]
                    refine lv_icmp_ge (tgt := 98) hx hb dX7_collisions_91 (by decide) (fun c56 => ?_) (fun c56 => ?_)
                    · have s1 := szI_b Hi ha
                      have s2 := szI_b Hi hbb
                      have d9 := dsI_b Hi (p := (S 4 a).toNat) (q := (S 4 b).toNat) (by omega) (by omega)
                      have q9 := sq_le (x := szI S a + szI S b) (n := 4120) (by omega)
                      rw [iL_le (a := (szI S a + szI S b) * (szI S a + szI S b)) (b := dsI S (S 4 a).toNat (S 4 b).toNat) (by omega) (by omega) (by omega) (by omega)] at c56
                      have nc9 : collB S a b = false := collB_f (fun q => absurd q.1.2.2 (by omega))
                      rw [nc9] at es9
                      have es8 : cntI (collB S a) (b + 1) = cntI (collB S a) b := es9.trans (Int.add_zero _)
                      refine lv_iconst (v := 0) hx hb dX7_collisions_98 (by decide) ?_
                      refine lv_iadd hx hb dX7_collisions_99 ?_
                      refine lv_topi (fun v57 ev57 => ?_)
                      obtain rfl : v57 = iL (sumM (collB S) a + cntI (collB S a) (b + 1)) := by
                        rw [ev57]
                        rw [es8]; exact iL_add _ 0 |>.trans (by rw [Int.add_zero])
                      refine lv_istore_n (lv' := [(1, .int (iL (sumM (collB S) a + cntI (collB S a) (b + 1)))), (3, .int (nI b)), (2, .int (nI a)), (0, .ref (md 0))]) hx hb dX7_collisions_100 rfl hl (by decide) rfl (fun ls hl => ?_)
                      obtain ⟨i58, ei58⟩ : ∃ y : Int32, y = nI b + (1) := ⟨_, rfl⟩
                      refine lv_iinc (v := i58) (lv' := [(3, .int i58), (1, .int (iL (sumM (collB S) a + cntI (collB S a) (b + 1)))), (2, .int (nI a)), (0, .ref (md 0))]) hx hb dX7_collisions_101 hl (k := 1) rfl (by rw [ei58]; rfl) (by decide) rfl (fun ls hl => ?_)
                      obtain rfl : i58 = nI (b + 1) := by
                        rw [ei58]
                        exact nI_1 b
                      refine lv_goto (tgt := 19) hx hb dX7_collisions_104 (by decide) ?_
                      exact ih_L19 (b + 1)  H locs ls (by omega) (by omega) hP hS (lv_sub hl [0, 2, 1, 3] rfl)
                    · have s1 := szI_b Hi ha
                      have s2 := szI_b Hi hbb
                      have d9 := dsI_b Hi (p := (S 4 a).toNat) (q := (S 4 b).toNat) (by omega) (by omega)
                      have q9 := sq_le (x := szI S a + szI S b) (n := 4120) (by omega)
                      rw [iL_le (a := (szI S a + szI S b) * (szI S a + szI S b)) (b := dsI S (S 4 a).toNat (S 4 b).toNat) (by omega) (by omega) (by omega) (by omega)] at c56
                      have nc9 : collB S a b = true := collB_t.mpr ⟨⟨c23, c31, by omega⟩, yc36⟩
                      rw [nc9] at es9
                      have es8 : cntI (collB S a) (b + 1) = cntI (collB S a) b + 1 := es9
                      refine lv_iconst (v := 1) hx hb dX7_collisions_94 (by decide) ?_
                      refine lv_goto (tgt := 99) hx hb dX7_collisions_95 (by decide) ?_
                      refine lv_iadd hx hb dX7_collisions_99 ?_
                      refine lv_topi (fun v59 ev59 => ?_)
                      obtain rfl : v59 = iL (sumM (collB S) a + cntI (collB S a) (b + 1)) := by
                        rw [ev59]
                        rw [es8, ← Int.add_assoc]; exact iL_add _ 1
                      refine lv_istore_n (lv' := [(1, .int (iL (sumM (collB S) a + cntI (collB S a) (b + 1)))), (3, .int (nI b)), (2, .int (nI a)), (0, .ref (md 0))]) hx hb dX7_collisions_100 rfl hl (by decide) rfl (fun ls hl => ?_)
                      obtain ⟨i60, ei60⟩ : ∃ y : Int32, y = nI b + (1) := ⟨_, rfl⟩
                      refine lv_iinc (v := i60) (lv' := [(3, .int i60), (1, .int (iL (sumM (collB S) a + cntI (collB S a) (b + 1)))), (2, .int (nI a)), (0, .ref (md 0))]) hx hb dX7_collisions_101 hl (k := 1) rfl (by rw [ei60]; rfl) (by decide) rfl (fun ls hl => ?_)
                      obtain rfl : i60 = nI (b + 1) := by
                        rw [ei60]
                        exact nI_1 b
                      refine lv_goto (tgt := 19) hx hb dX7_collisions_104 (by decide) ?_
                      exact ih_L19 (b + 1)  H locs ls (by omega) (by omega) hP hS (lv_sub hl [0, 2, 1, 3] rfl)
                  · have yc36 : meshedP S a b := hb0.mp (g_b1.mp c36)
                    have nc9 : collB S a b = false := collB_f (fun q => q.2 yc36)
                    rw [nc9] at es9
                    have es8 : cntI (collB S a) (b + 1) = cntI (collB S a) b := es9.trans (Int.add_zero _)
                    refine lv_goto (tgt := 101) hx hb dX7_collisions_59 (by decide) ?_
                    obtain ⟨i61, ei61⟩ : ∃ y : Int32, y = nI b + (1) := ⟨_, rfl⟩
                    refine lv_iinc (v := i61) (lv' := [(3, .int i61), (2, .int (nI a)), (1, .int (iL (sumM (collB S) a + cntI (collB S a) b))), (0, .ref (md 0))]) hx hb dX7_collisions_101 hl (k := 0) rfl (by rw [ei61]; rfl) (by decide) rfl (fun ls hl => ?_)
                    obtain rfl : i61 = nI (b + 1) := by
                      rw [ei61]
                      exact nI_1 b
                    refine lv_goto (tgt := 19) hx hb dX7_collisions_104 (by decide) ?_
                    rw [← es8] at hl
                    exact ih_L19 (b + 1) H locs ls (by omega) (by omega) hP hS (lv_sub hl [0, 1, 2, 3] rfl)
        exact L19 (a + 1) 0  H locs ls (by omega) (by omega) hP hS (lv_sub hl [0, 1, 2, 3] rfl)
  exact L9 ((S 0 1).toNat + 1) 0  H locs ls (by omega) (by omega) hP hS (lv_sub hl [0, 1, 2] rfl)
