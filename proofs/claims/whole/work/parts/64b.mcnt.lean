set_option maxHeartbeats 4000000 in
set_option maxRecDepth 100000 in
theorem k_X7_planets (l : Launch) (A : Nat → Prop) (G : g_C) (w : g_W) (md : Nat → Nat) (S : Sg) (th : Int32) (tp bt : Int64) (Fm : Nat → Nat → Int32) (L : Nat → Nat → Int64) (pn qn : Int32) (Hm : modW G w md S th tp bt Fm L) (Hj : modI md) (Hf : modF S Fm) (Hi : invS S) : mI l yX7_planets wsX7_planets ({ frames := 1, cells := 0, slots := 0, locals := 22 } : Room) [.ref (md 0), .int pn, .int qn] A G w (fun r w' => mRes G md w w' S S (cdPlanets S pn qn) (r = vlPlanets S pn qn)) 0 0 := by
  refine g_ofI (cc := cX7_planets) (maxL := 5) (ret := (some .int)) (own := RX7) (by decide) rfl rfl (Nat.le_of_ble_eq_true rfl) ?_
  intro p e R s m args below meth c Q ls hR F hP hS hlocks hr hnm0 hQ hl
  obtain ⟨⟨hx, hb, hml, hown, hts⟩, hK, hZ, hA⟩ := id F
  generalize hH0 : s.heap = H at hP ⊢
  have hS : va_S A s.heap H [] := by rw [← hH0]; exact va_S.rf
  generalize ([] : List Loc) = locs at hS ⊢
  have hl : lv_has ls 5 [(0, .ref (md 0)), (1, .int pn), (2, .int qn)] := hl
  have iX7 : ∀ w ∈ u_ws RX7 TX7 20, w ∈ wsX7_planets := fun w h => List.mem_cons_of_mem _ (List.mem_append_right _ (h))
  obtain ⟨hx0, hy1, hy2, hy3, hy4, hy5, hy6, hy7, hy8, hy9, hy10, hy11⟩ := id Hm
  have hi := Hi.1
  refine lv_aload_n hx hb dX7_planets_0 rfl (lv_at hl 0 rfl) ?_
  refine lv_iconst (v := 0) hx hb dX7_planets_1 (by decide) ?_
  refine g_put F hP hS (C := RX7) (T := TX7) (N := 20) (v := .int 0) (ty := .int) iX7 tyX7 tyX7_ok nmX7 hx0 rfl 0 (by decide) (List.mem_cons_of_mem _ (List.mem_append_left _ (List.mem_of_getElem? (i := 0) rfl))) (fun _ h9 => h9) rfl (by decide +kernel) rfl rfl (by show 0 < 20; decide) dX7_planets_2 (fun H locs hP hS => ?_)
  obtain ⟨w1, ew1⟩ : ∃ z, z = g_up w (md 0) (.inr (8, [.int 0, .int (iL (S 0 0)), .ref (md 1), .ref (md 2), .ref (md 3), .int (iL (S 0 4)), .int (iL (S 0 5)), .int (iL (S 0 1)), .ref (md 4), .ref (md 5), .int (iL (S 0 2)), .ref (md 6), .ref (md 7), .int (iL (S 0 3)), .ref (md 8), .ref (md 9), .ref (md 10), .ref (md 11), .long tp, .long bt])) := ⟨_, rfl⟩
  have hP : g_P A G w1 H := by rw [ew1]; exact hP
  have f2 : w1 (md 1) = some (.inl (G.2.1 0, 10, .inl (Fm 1))) := by rw [ew1]; exact g_up_f hy1 ((fun q => absurd (Hj 1 0 (by decide) (by decide) q) (by decide)))
  have f3 : w1 (md 2) = some (.inl (G.2.1 0, 10, .inl (Fm 2))) := by rw [ew1]; exact g_up_f hy2 ((fun q => absurd (Hj 2 0 (by decide) (by decide) q) (by decide)))
  have f4 : w1 (md 3) = some (.inl (G.2.1 2, 10, .inl (Fm 3))) := by rw [ew1]; exact g_up_f hy3 ((fun q => absurd (Hj 3 0 (by decide) (by decide) q) (by decide)))
  have f5 : w1 (md 4) = some (.inl (G.2.1 0, 64, .inl (Fm 4))) := by rw [ew1]; exact g_up_f hy4 ((fun q => absurd (Hj 4 0 (by decide) (by decide) q) (by decide)))
  have f6 : w1 (md 5) = some (.inl (G.2.1 2, 16, .inl (Fm 5))) := by rw [ew1]; exact g_up_f hy5 ((fun q => absurd (Hj 5 0 (by decide) (by decide) q) (by decide)))
  have f7 : w1 (md 6) = some (.inl (G.2.1 0, 16, .inl (Fm 6))) := by rw [ew1]; exact g_up_f hy6 ((fun q => absurd (Hj 6 0 (by decide) (by decide) q) (by decide)))
  have f8 : w1 (md 7) = some (.inl (G.2.1 0, 16, .inl (Fm 7))) := by rw [ew1]; exact g_up_f hy7 ((fun q => absurd (Hj 7 0 (by decide) (by decide) q) (by decide)))
  have f9 : w1 (md 8) = some (.inl (G.2.1 0, 20, .inl (Fm 8))) := by rw [ew1]; exact g_up_f hy8 ((fun q => absurd (Hj 8 0 (by decide) (by decide) q) (by decide)))
  have f10 : w1 (md 9) = some (.inl (G.2.1 1, 10, .inr (.inl (L 0)))) := by rw [ew1]; exact g_up_f hy9 ((fun q => absurd (Hj 9 0 (by decide) (by decide) q) (by decide)))
  have f11 : w1 (md 10) = some (.inl (G.2.1 1, 10, .inr (.inl (L 1)))) := by rw [ew1]; exact g_up_f hy10 ((fun q => absurd (Hj 10 0 (by decide) (by decide) q) (by decide)))
  have f12 : w1 (md 11) = some (.inl (G.2.1 0, 10, .inl (Fm 11))) := by rw [ew1]; exact g_up_f hy11 ((fun q => absurd (Hj 11 0 (by decide) (by decide) q) (by decide)))
  have f13 : w1 (md 0) = some (.inr (8, [.int 0, .int (iL (S 0 0)), .ref (md 1), .ref (md 2), .ref (md 3), .int (iL (S 0 4)), .int (iL (S 0 5)), .int (iL (S 0 1)), .ref (md 4), .ref (md 5), .int (iL (S 0 2)), .ref (md 6), .ref (md 7), .int (iL (S 0 3)), .ref (md 8), .ref (md 9), .ref (md 10), .ref (md 11), .long tp, .long bt])) := by rw [ew1]; exact g_up_s _ _ _
  refine lv_iload_n hx hb dX7_planets_5 rfl (lv_at hl 1 rfl) ?_
  refine lv_iconst (v := 0) hx hb dX7_planets_6 (by decide) ?_
  refine lv_aload_n hx hb dX7_planets_7 rfl (lv_at hl 0 rfl) ?_
  refine g_get F hP (C := RX7) (T := TX7) (N := 20) iX7 f13 rfl 13 (by decide) (List.mem_cons_of_mem _ (List.mem_append_left _ (List.mem_of_getElem? (i := 1) rfl))) (fun _ h9 => h9) rfl dX7_planets_8 ?_
  refine lv_iconst (v := 1) hx hb dX7_planets_11 (by decide) ?_
  refine lv_isub hx hb dX7_planets_12 ?_
  refine lv_topi (fun v14 ev14 => ?_)
  obtain rfl : v14 = iL (S 0 3 - 1) := by
    rw [ev14]
    exact iL_sub _ 1
  refine g_Si (As := [.int pn, .int 0, .int (iL (S 0 3 - 1))]) (rest := []) F hP hS (k_X7_isIn l A G w1 pn 0 (iL (S 0 3 - 1))) (va_cwS 3 hts gX7_planets_X7_isIn rfl rfl rfl cd_X7_isIn ⟨by rw [hR]; exact Nat.le_of_ble_eq_true rfl, by rw [hR]; exact Nat.le_of_ble_eq_true rfl⟩) rfl hl.1 (Nat.le_of_ble_eq_true rfl) dX7_planets_13 ⟨by rw [hR]; exact Nat.le_of_ble_eq_true rfl, by rw [hR]; exact Nat.le_of_ble_eq_true rfl⟩ rfl (fun r15 w16 H locs h17 hP hS => ?_)
  have hr15 := h17.1
  rw [h17.2] at hP
  rw [hr15]
  refine lv_if_ne (tgt := 25) hx hb dX7_planets_16 (by decide) (fun c18 => ?_) (fun c18 => ?_)
  · have yc18 := of_decide_eq_true (g_b1.mp c18)
    have k1 : (0 ≤ pn) ↔ 0 ≤ pn.toInt := by rw [Int32.le_iff_toInt_le]; rfl
    have k2 : (pn ≤ iL (S 0 3 - 1)) ↔ pn.toInt < S 0 3 := by rw [Int32.le_iff_toInt_le, iL_t (by omega) (by omega)]; omega
    rw [k1, k2] at yc18
    refine lv_iload_n hx hb dX7_planets_25 rfl (lv_at hl 2 rfl) ?_
    refine lv_iconst (v := 1) hx hb dX7_planets_26 (by decide) ?_
    refine lv_bipush (v := 12) hx hb dX7_planets_27 (by decide) ?_
    refine g_Si (As := [.int qn, .int 1, .int 12]) (rest := []) F hP hS (k_X7_isIn l A G w1 qn 1 12) (va_cwS 3 hts gX7_planets_X7_isIn rfl rfl rfl cd_X7_isIn ⟨by rw [hR]; exact Nat.le_of_ble_eq_true rfl, by rw [hR]; exact Nat.le_of_ble_eq_true rfl⟩) rfl hl.1 (Nat.le_of_ble_eq_true rfl) dX7_planets_29 ⟨by rw [hR]; exact Nat.le_of_ble_eq_true rfl, by rw [hR]; exact Nat.le_of_ble_eq_true rfl⟩ rfl (fun r19 w20 H locs h21 hP hS => ?_)
    have hr19 := h21.1
    rw [h21.2] at hP
    rw [hr19]
    refine lv_if_ne (tgt := 41) hx hb dX7_planets_32 (by decide) (fun c22 => ?_) (fun c22 => ?_)
    · have yc22 := of_decide_eq_true (g_b1.mp c22)
      have kq : (1 ≤ qn ∧ qn ≤ 12) ↔ inQ qn 1 12 := by rw [Int32.le_iff_toInt_le, Int32.le_iff_toInt_le]; exact Iff.rfl
      rw [kq] at yc22
      have hkk : ((kN pn : Nat) : Int) < S 0 3 := kN_lt (j := 3) yc18
      have ep := kN_e yc18.1
      have eq9 : qn = nI (kN qn) := kN_e (by have := yc22; omega)
      have hq9 : 1 ≤ kN qn ∧ kN qn ≤ 12 := by have := yc22; unfold kN; omega
      have ps := Hi.2.2.2.2 _ hkk
      obtain ⟨a, ha9⟩ : ∃ a, a = (S 14 (kN pn) + S 15 (kN pn)).toNat := ⟨_, rfl⟩
      refine lv_aload_n hx hb dX7_planets_41 rfl (lv_at hl 0 rfl) ?_
      refine g_get F hP (C := RX7) (T := TX7) (N := 20) iX7 f13 rfl 14 (by decide) (List.mem_cons_of_mem _ (List.mem_append_left _ (List.mem_of_getElem? (i := 2) rfl))) (fun _ h9 => h9) rfl dX7_planets_42 ?_
      refine lv_iconst (v := 5) hx hb dX7_planets_45 (by decide) ?_
      refine lv_iload_n hx hb dX7_planets_46 rfl (lv_at hl 1 rfl) ?_
      refine lv_imul hx hb dX7_planets_47 ?_
      refine lv_topi (fun v23 ev23 => ?_)
      obtain rfl : v23 = nI (5 * kN pn) := by
        rw [ev23]
        conv => lhs; rw [ep]
        exact nI_mul 5 _
      refine lv_iconst (v := 3) hx hb dX7_planets_48 (by decide) ?_
      refine lv_iadd hx hb dX7_planets_49 ?_
      refine lv_topi (fun v24 ev24 => ?_)
      obtain rfl : v24 = nI (5 * kN pn + 3) := by
        rw [ev24]
        exact nI_add _ 3
      refine g_iald F hP f9 (vp_in_nI (n := 5 * kN pn + 3) (by omega) (by decide)) dX7_planets_50 ?_
      rw [show (.int ((Fm 8) (nI (5 * kN pn + 3) : Int32).toNatClampNeg) : Value) = .int (iL (S 14 (kN pn))) from by rw [nI_clamp (n := 5 * kN pn + 3) (by omega), (Hf.2.2.2.1 _ hkk).2.2.2.1]]
      refine lv_aload_n hx hb dX7_planets_51 rfl (lv_at hl 0 rfl) ?_
      refine g_get F hP (C := RX7) (T := TX7) (N := 20) iX7 f13 rfl 14 (by decide) (List.mem_cons_of_mem _ (List.mem_append_left _ (List.mem_of_getElem? (i := 2) rfl))) (fun _ h9 => h9) rfl dX7_planets_52 ?_
      refine lv_iconst (v := 5) hx hb dX7_planets_55 (by decide) ?_
      refine lv_iload_n hx hb dX7_planets_56 rfl (lv_at hl 1 rfl) ?_
      refine lv_imul hx hb dX7_planets_57 ?_
      refine lv_topi (fun v25 ev25 => ?_)
      obtain rfl : v25 = nI (5 * kN pn) := by
        rw [ev25]
        conv => lhs; rw [ep]
        exact nI_mul 5 _
      refine lv_iconst (v := 4) hx hb dX7_planets_58 (by decide) ?_
      refine lv_iadd hx hb dX7_planets_59 ?_
      refine lv_topi (fun v26 ev26 => ?_)
      obtain rfl : v26 = nI (5 * kN pn + 4) := by
        rw [ev26]
        exact nI_add _ 4
      refine g_iald F hP f9 (vp_in_nI (n := 5 * kN pn + 4) (by omega) (by decide)) dX7_planets_60 ?_
      rw [show (.int ((Fm 8) (nI (5 * kN pn + 4) : Int32).toNatClampNeg) : Value) = .int (iL (S 15 (kN pn))) from by rw [nI_clamp (n := 5 * kN pn + 4) (by omega), (Hf.2.2.2.1 _ hkk).2.2.2.2]]
      refine lv_iadd hx hb dX7_planets_61 ?_
      refine lv_topi (fun v27 ev27 => ?_)
      obtain rfl : v27 = nI a := by
        rw [ev27]
        rw [iL_add, iL_nn (by omega), ← ha9]
      refine lv_istore_n (lv' := [(3, .int (nI a)), (0, .ref (md 0)), (1, .int pn), (2, .int qn)]) hx hb dX7_planets_62 rfl hl (by decide) rfl (fun ls hl => ?_)
      refine lv_iload_n hx hb dX7_planets_63 rfl (lv_at hl 3 rfl) ?_
      rw [show (.int qn : Value) = .int (nI (kN qn)) from by rw [← eq9]]
      refine lv_istore (lv' := [(4, .int (nI (kN qn))), (3, .int (nI a)), (0, .ref (md 0)), (1, .int pn), (2, .int qn)]) hx hb dX7_planets_64 hl (by decide) rfl (fun ls hl => ?_)
      have L66 : ∀ (n : Nat) (k : Nat) (H : Heap) (locs : List Loc) (ls : Array Slot), k + 1 ≤ n → (1 ≤ k ∧ k ≤ kN qn) → (mostP a k = mostP a (kN qn)) → g_P A G w1 H → va_S A s.heap H locs → lv_has ls 5 [(4, .int (nI k)), (3, .int (nI a)), (0, .ref (md 0))] → W p l e R s m args below meth c H locs (0) (0) Q (F0 m 66 ls []) := by
        intro n
        induction n with
        | zero =>
          intro k H locs ls hfu hk hm hP hS hl
          exact absurd hfu (by omega)
        | succ n ih_L66 =>
          intro k H locs ls hfu hk hm hP hS hl
          refine lv_iload_n hx hb dX7_planets_66 rfl (lv_at hl 1 rfl) ?_
          refine lv_iload hx hb dX7_planets_67 (lv_at hl 0 rfl) ?_
          refine lv_irem hx hb dX7_planets_69 (nI_ne0 (by omega) (by omega)) ?_
          refine lv_topi (fun v28 ev28 => ?_)
          obtain rfl : v28 = nI (a % k) := by
            rw [ev28]
            exact pk_rem (by omega) (by omega) (by omega)
          refine lv_if_eq (tgt := 79) hx hb dX7_planets_70 (by decide) (fun c29 => ?_) (fun c29 => ?_)
          · have zc29 : a % k = 0 := (nI_eq (a := a % k) (b := 0) (by have := Nat.mod_lt a (show 0 < k by omega); omega) (by omega)).mp c29
            refine lv_iload hx hb dX7_planets_79 (lv_at hl 0 rfl) ?_
            rw [hQ]
            refine g_iret F hP hS hlocks hr dX7_planets_81 (by first | exact Nat.le_of_ble_eq_true rfl | omega) (by first | exact Nat.le_of_ble_eq_true rfl | omega) ?_
            have e9 : mostP a k = k := by
              obtain ⟨j, rfl⟩ : ∃ j, k = j + 1 := ⟨k - 1, by omega⟩
              by_cases j0 : j = 0
              · rw [j0]; rfl
              · rw [mostP, if_neg j0, if_pos zc29]
            exact Or.inr ⟨(if_pos yc18).trans (if_pos yc22), by unfold vlPlanets; rw [← ha9, ← hm, e9], ⟨mFr_tr (mFr_rf _ _) (mFr_se (i := 0) (by decide) ew1), _, _, Fm, L, ⟨f13, f2, f3, f4, f5, f6, f7, f8, f9, f10, f11, f12⟩, Hf⟩⟩
          · have zc29 : a % k ≠ 0 := fun q => c29 (by rw [q]; rfl)
            obtain ⟨i30, ei30⟩ : ∃ y : Int32, y = nI k + (-1) := ⟨_, rfl⟩
            refine lv_iinc (v := i30) (lv' := [(4, .int i30), (3, .int (nI a)), (0, .ref (md 0))]) hx hb dX7_planets_73 hl (k := 0) rfl (by rw [ei30]; rfl) (by decide) rfl (fun ls hl => ?_)
            obtain rfl : i30 = nI (k - 1) := by
              rw [ei30]
              obtain ⟨j, rfl⟩ : ∃ j, k = j + 1 := ⟨k - 1, by omega⟩
              exact pk_m1 j
            refine lv_goto (tgt := 66) hx hb dX7_planets_76 (by decide) ?_
            exact ih_L66 (k - 1)  H locs ls (by omega) (by
              have := Nat.mod_one a
              have : k ≠ 1 := fun q => zc29 (by rw [q]; exact Nat.mod_one a)
              omega) (by
              rw [← hm]
              have k1 : k ≠ 1 := fun q => zc29 (by rw [q]; exact Nat.mod_one a)
              obtain ⟨j, rfl⟩ : ∃ j, k = j + 1 := ⟨k - 1, by omega⟩
              rw [mostP, if_neg (by omega), if_neg zc29]; rfl) hP hS (lv_sub hl [0, 1, 2] rfl)
      exact L66 ((kN qn) + 1) (kN qn)  H locs ls (by omega) (by omega) (rfl) hP hS (lv_sub hl [0, 1, 2] rfl)
    · have yc22 := of_decide_eq_false (g_b0.mp c22)
      have kq : (1 ≤ qn ∧ qn ≤ 12) ↔ inQ qn 1 12 := by rw [Int32.le_iff_toInt_le, Int32.le_iff_toInt_le]; exact Iff.rfl
      rw [kq] at yc22
      refine lv_aload_n hx hb dX7_planets_35 rfl (lv_at hl 0 rfl) ?_
      refine lv_iconst (v := 2) hx hb dX7_planets_36 (by decide) ?_
      refine g_Vi (As := [.int 2]) (rest := []) F hP hS (k_X7_fail l A G w1 md S _ _ _ Fm L 2 f13) (cwV 1 hts gX7_planets_X7_fail rfl rfl rfl cd_X7_fail ⟨by rw [hR]; exact Nat.le_of_ble_eq_true rfl, by rw [hR]; exact Nat.le_of_ble_eq_true rfl⟩) f13 rfl rfl rfl hl.1 (Nat.le_of_ble_eq_true rfl) dX7_planets_37 ⟨by rw [hR]; exact Nat.le_of_ble_eq_true rfl, by rw [hR]; exact Nat.le_of_ble_eq_true rfl⟩ rfl (fun r31 w32 H locs h33 hP hS => ?_)
      obtain ⟨er, eww32⟩ := h33
      rw [er]
      have f34 : w32 (md 1) = some (.inl (G.2.1 0, 10, .inl (Fm 1))) := by rw [eww32]; exact g_up_f f2 ((fun q => absurd (Hj 1 0 (by decide) (by decide) q) (by decide)))
      have f35 : w32 (md 2) = some (.inl (G.2.1 0, 10, .inl (Fm 2))) := by rw [eww32]; exact g_up_f f3 ((fun q => absurd (Hj 2 0 (by decide) (by decide) q) (by decide)))
      have f36 : w32 (md 3) = some (.inl (G.2.1 2, 10, .inl (Fm 3))) := by rw [eww32]; exact g_up_f f4 ((fun q => absurd (Hj 3 0 (by decide) (by decide) q) (by decide)))
      have f37 : w32 (md 4) = some (.inl (G.2.1 0, 64, .inl (Fm 4))) := by rw [eww32]; exact g_up_f f5 ((fun q => absurd (Hj 4 0 (by decide) (by decide) q) (by decide)))
      have f38 : w32 (md 5) = some (.inl (G.2.1 2, 16, .inl (Fm 5))) := by rw [eww32]; exact g_up_f f6 ((fun q => absurd (Hj 5 0 (by decide) (by decide) q) (by decide)))
      have f39 : w32 (md 6) = some (.inl (G.2.1 0, 16, .inl (Fm 6))) := by rw [eww32]; exact g_up_f f7 ((fun q => absurd (Hj 6 0 (by decide) (by decide) q) (by decide)))
      have f40 : w32 (md 7) = some (.inl (G.2.1 0, 16, .inl (Fm 7))) := by rw [eww32]; exact g_up_f f8 ((fun q => absurd (Hj 7 0 (by decide) (by decide) q) (by decide)))
      have f41 : w32 (md 8) = some (.inl (G.2.1 0, 20, .inl (Fm 8))) := by rw [eww32]; exact g_up_f f9 ((fun q => absurd (Hj 8 0 (by decide) (by decide) q) (by decide)))
      have f42 : w32 (md 9) = some (.inl (G.2.1 1, 10, .inr (.inl (L 0)))) := by rw [eww32]; exact g_up_f f10 ((fun q => absurd (Hj 9 0 (by decide) (by decide) q) (by decide)))
      have f43 : w32 (md 10) = some (.inl (G.2.1 1, 10, .inr (.inl (L 1)))) := by rw [eww32]; exact g_up_f f11 ((fun q => absurd (Hj 10 0 (by decide) (by decide) q) (by decide)))
      have f44 : w32 (md 11) = some (.inl (G.2.1 0, 10, .inl (Fm 11))) := by rw [eww32]; exact g_up_f f12 ((fun q => absurd (Hj 11 0 (by decide) (by decide) q) (by decide)))
      have f45 : w32 (md 0) = some (.inr (8, [.int 2, .int (iL (S 0 0)), .ref (md 1), .ref (md 2), .ref (md 3), .int (iL (S 0 4)), .int (iL (S 0 5)), .int (iL (S 0 1)), .ref (md 4), .ref (md 5), .int (iL (S 0 2)), .ref (md 6), .ref (md 7), .int (iL (S 0 3)), .ref (md 8), .ref (md 9), .ref (md 10), .ref (md 11), .long tp, .long bt])) := by rw [eww32]; exact g_up_s _ _ _
      rw [hQ]
      refine g_iret F hP hS hlocks hr dX7_planets_40 (by first | exact Nat.le_of_ble_eq_true rfl | omega) (by first | exact Nat.le_of_ble_eq_true rfl | omega) ?_
      exact mRes_no (c := 2) ((if_pos yc18).trans (if_neg yc22)) (by decide) ⟨mFr_tr (mFr_tr (mFr_rf _ _) (mFr_se (i := 0) (by decide) ew1)) (mFr_se (i := 0) (by decide) eww32), _, _, Fm, L, ⟨f45, f34, f35, f36, f37, f38, f39, f40, f41, f42, f43, f44⟩, Hf⟩
  · have yc18 := of_decide_eq_false (g_b0.mp c18)
    have k1 : (0 ≤ pn) ↔ 0 ≤ pn.toInt := by rw [Int32.le_iff_toInt_le]; rfl
    have k2 : (pn ≤ iL (S 0 3 - 1)) ↔ pn.toInt < S 0 3 := by rw [Int32.le_iff_toInt_le, iL_t (by omega) (by omega)]; omega
    rw [k1, k2] at yc18
    refine lv_aload_n hx hb dX7_planets_19 rfl (lv_at hl 0 rfl) ?_
    refine lv_iconst (v := 1) hx hb dX7_planets_20 (by decide) ?_
    refine g_Vi (As := [.int 1]) (rest := []) F hP hS (k_X7_fail l A G w1 md S _ _ _ Fm L 1 f13) (cwV 1 hts gX7_planets_X7_fail rfl rfl rfl cd_X7_fail ⟨by rw [hR]; exact Nat.le_of_ble_eq_true rfl, by rw [hR]; exact Nat.le_of_ble_eq_true rfl⟩) f13 rfl rfl rfl hl.1 (Nat.le_of_ble_eq_true rfl) dX7_planets_21 ⟨by rw [hR]; exact Nat.le_of_ble_eq_true rfl, by rw [hR]; exact Nat.le_of_ble_eq_true rfl⟩ rfl (fun r46 w47 H locs h48 hP hS => ?_)
    obtain ⟨er, eww47⟩ := h48
    rw [er]
    have f49 : w47 (md 1) = some (.inl (G.2.1 0, 10, .inl (Fm 1))) := by rw [eww47]; exact g_up_f f2 ((fun q => absurd (Hj 1 0 (by decide) (by decide) q) (by decide)))
    have f50 : w47 (md 2) = some (.inl (G.2.1 0, 10, .inl (Fm 2))) := by rw [eww47]; exact g_up_f f3 ((fun q => absurd (Hj 2 0 (by decide) (by decide) q) (by decide)))
    have f51 : w47 (md 3) = some (.inl (G.2.1 2, 10, .inl (Fm 3))) := by rw [eww47]; exact g_up_f f4 ((fun q => absurd (Hj 3 0 (by decide) (by decide) q) (by decide)))
    have f52 : w47 (md 4) = some (.inl (G.2.1 0, 64, .inl (Fm 4))) := by rw [eww47]; exact g_up_f f5 ((fun q => absurd (Hj 4 0 (by decide) (by decide) q) (by decide)))
    have f53 : w47 (md 5) = some (.inl (G.2.1 2, 16, .inl (Fm 5))) := by rw [eww47]; exact g_up_f f6 ((fun q => absurd (Hj 5 0 (by decide) (by decide) q) (by decide)))
    have f54 : w47 (md 6) = some (.inl (G.2.1 0, 16, .inl (Fm 6))) := by rw [eww47]; exact g_up_f f7 ((fun q => absurd (Hj 6 0 (by decide) (by decide) q) (by decide)))
    have f55 : w47 (md 7) = some (.inl (G.2.1 0, 16, .inl (Fm 7))) := by rw [eww47]; exact g_up_f f8 ((fun q => absurd (Hj 7 0 (by decide) (by decide) q) (by decide)))
    have f56 : w47 (md 8) = some (.inl (G.2.1 0, 20, .inl (Fm 8))) := by rw [eww47]; exact g_up_f f9 ((fun q => absurd (Hj 8 0 (by decide) (by decide) q) (by decide)))
    have f57 : w47 (md 9) = some (.inl (G.2.1 1, 10, .inr (.inl (L 0)))) := by rw [eww47]; exact g_up_f f10 ((fun q => absurd (Hj 9 0 (by decide) (by decide) q) (by decide)))
    have f58 : w47 (md 10) = some (.inl (G.2.1 1, 10, .inr (.inl (L 1)))) := by rw [eww47]; exact g_up_f f11 ((fun q => absurd (Hj 10 0 (by decide) (by decide) q) (by decide)))
    have f59 : w47 (md 11) = some (.inl (G.2.1 0, 10, .inl (Fm 11))) := by rw [eww47]; exact g_up_f f12 ((fun q => absurd (Hj 11 0 (by decide) (by decide) q) (by decide)))
    have f60 : w47 (md 0) = some (.inr (8, [.int 1, .int (iL (S 0 0)), .ref (md 1), .ref (md 2), .ref (md 3), .int (iL (S 0 4)), .int (iL (S 0 5)), .int (iL (S 0 1)), .ref (md 4), .ref (md 5), .int (iL (S 0 2)), .ref (md 6), .ref (md 7), .int (iL (S 0 3)), .ref (md 8), .ref (md 9), .ref (md 10), .ref (md 11), .long tp, .long bt])) := by rw [eww47]; exact g_up_s _ _ _
    rw [hQ]
    refine g_iret F hP hS hlocks hr dX7_planets_24 (by first | exact Nat.le_of_ble_eq_true rfl | omega) (by first | exact Nat.le_of_ble_eq_true rfl | omega) ?_
    exact mRes_no (c := 1) (if_neg yc18) (by decide) ⟨mFr_tr (mFr_tr (mFr_rf _ _) (mFr_se (i := 0) (by decide) ew1)) (mFr_se (i := 0) (by decide) eww47), _, _, Fm, L, ⟨f60, f49, f50, f51, f52, f53, f54, f55, f56, f57, f58, f59⟩, Hf⟩
