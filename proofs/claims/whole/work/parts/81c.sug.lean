theorem cd_X6_isBetterPair : yX6_isBetterPair.cls ≠ "java/lang/invoke/MethodHandle" ∧ yX6_isBetterPair.cls ≠ "java/lang/invoke/VarHandle" ∧ (parseMethodDescriptor yX6_isBetterPair.desc).map (fun d => d.parameters.length) = some 6 := by decide +kernel
set_option maxHeartbeats 4000000 in
set_option maxRecDepth 100000 in
theorem k_X6_suggest (l : Launch) (hlt : l.stackTraces = false) (A : Nat → Prop) (G : g_C) (w : g_W) (h : Nat) (pn qn un vn : Int32) : xI l yX6_suggest wsX6_suggest ({ frames := 6, cells := 1, slots := 6, locals := 92 } : Room) [.ref h, .int pn, .int qn, .int un, .int vn] A G w (fun r w' => cdSug pn qn un vn = 0 ∧ isSug pn.toInt qn.toInt un.toInt vn.toInt r ∧ w' = w) (fun u => u.2 = w ∧ ((u.1 = "java/lang/IllegalArgumentException" ∧ cdSug pn qn un vn = 1))) 1 6 := by
  refine g_xofI (cc := cX6_suggest) (maxL := 11) (ret := (some .int)) (own := RX6) (by decide) rfl rfl (Nat.le_of_ble_eq_true rfl) ?_
  intro p e R s m args below meth c Q ls hR F hP hS hlocks hr hout hQ hl
  obtain ⟨⟨hx, hb, hml, hown, hts⟩, hK, hZ, hA⟩ := id F
  generalize hH0 : s.heap = H at hP ⊢
  have hS : va_S A s.heap H [] := by rw [← hH0]; exact va_S.rf
  generalize ([] : List Loc) = locs at hS ⊢
  have hl : lv_has ls 11 [(0, .ref h), (1, .int pn), (2, .int qn), (3, .int un), (4, .int vn)] := hl
  obtain ⟨P, hp1, hp2, rfl⟩ : ∃ P : Int, -2147483648 ≤ P ∧ P < 2147483648 ∧ pn = iL P := ⟨pn.toInt, Int32.le_toInt _, Int32.toInt_lt _, (iL_x pn).symm⟩
  obtain ⟨Z, hq1, hq2, rfl⟩ : ∃ P : Int, -2147483648 ≤ P ∧ P < 2147483648 ∧ qn = iL P := ⟨qn.toInt, Int32.le_toInt _, Int32.toInt_lt _, (iL_x qn).symm⟩
  obtain ⟨U, hu1, hu2, rfl⟩ : ∃ P : Int, -2147483648 ≤ P ∧ P < 2147483648 ∧ un = iL P := ⟨un.toInt, Int32.le_toInt _, Int32.toInt_lt _, (iL_x un).symm⟩
  obtain ⟨V, hv1, hv2, rfl⟩ : ∃ P : Int, -2147483648 ≤ P ∧ P < 2147483648 ∧ vn = iL P := ⟨vn.toInt, Int32.le_toInt _, Int32.toInt_lt _, (iL_x vn).symm⟩
  have hsg : sgQ (iL P) (iL Z) (iL U) (iL V) ↔ (1 ≤ P ∧ P ≤ 10000) ∧ (1 ≤ Z ∧ Z ≤ 10000) ∧ 8 ≤ U ∧ U ≤ V ∧ V ≤ 120 := by unfold sgQ inQ; rw [iL_t hp1 hp2, iL_t hq1 hq2, iL_t hu1 hu2, iL_t hv1 hv2]
  refine lv_iload_n hx hb dX6_suggest_0 rfl (lv_at hl 1 rfl) ?_
  refine lv_iconst (v := 1) hx hb dX6_suggest_1 (by decide) ?_
  refine lv_sipush (v := 10000) hx hb dX6_suggest_2 (by decide) ?_
  refine g_Si (As := [.int (iL P), .int 1, .int 10000]) (rest := []) F hP hS (k_X6_isWithin l A G w (iL P) 1 10000) (va_cwS 3 hts gX6_suggest_X6_isWithin rfl rfl rfl cd_X6_isWithin ⟨by rw [hR]; exact Nat.le_of_ble_eq_true rfl, by rw [hR]; exact Nat.le_of_ble_eq_true rfl⟩) rfl hl.1 (Nat.le_of_ble_eq_true rfl) dX6_suggest_5 ⟨by rw [hR]; exact Nat.le_of_ble_eq_true rfl, by rw [hR]; exact Nat.le_of_ble_eq_true rfl⟩ rfl (fun r1 w2 H locs h3 hP hS => ?_)
  have hr1 := h3.1
  rw [h3.2] at hP
  rw [hr1]
  refine lv_if_eq (tgt := 22) hx hb dX6_suggest_8 (by decide) (fun c4 => ?_) (fun c4 => ?_)
  · have yc4 := of_decide_eq_false (g_b0.mp c4)
    have kc4 : (1 ≤ iL P ∧ iL P ≤ 10000) ↔ (1 ≤ P ∧ P ≤ 10000) := by
      have k8 := iL_le (a := 1) (b := P) (by omega) (by omega) (by omega) (by omega)
      have k9 := iL_le (a := P) (b := 10000) (by omega) (by omega) (by omega) (by omega)
      exact and_congr k8 k9
    rw [kc4] at yc4
    rw [hQ]
    refine g_throw F hP hS hlt rfl (hZ.2.2.2.2.2.2.2.1 ("java/lang/IllegalArgumentException", "java/lang/IllegalArgumentException") (List.mem_of_getElem? (i := 0) rfl)) (by decide +kernel) (List.mem_cons_of_mem _ (List.mem_append_left _ (List.mem_of_getElem? (i := 0) rfl))) (List.mem_cons_of_mem _ (List.mem_append_left _ (List.mem_of_getElem? (i := 1) rfl))) (cls := "java/lang/IllegalArgumentException") (text := "no such ratio") (List.mem_of_getElem? (i := 14) rfl) (fun w h => List.mem_cons_of_mem _ (List.mem_append_right _ (h))) xt_IllegalAr_81_b (fun w h => (List.mem_cons.mp h).elim (fun e => by rw [e]; rfl) (fun h => (List.mem_cons.mp h).elim (fun e => by rw [e]; rfl) (fun h => xt_IllegalAr_81_g w h))) hl.1 dX6_suggest_22 dX6_suggest_25 dX6_suggest_26 dX6_suggest_28 dX6_suggest_31 hout (by rw [hR]; exact Nat.le_of_ble_eq_true rfl) (by rw [hR]; exact Nat.le_of_ble_eq_true rfl) (by rw [hR]; exact Nat.le_of_ble_eq_true rfl) (by rw [hR]; exact Nat.le_of_ble_eq_true rfl) hlocks ?_ (by decide) (by decide)
    exact ⟨rfl, rfl, if_neg (fun q => by have q2 := hsg.mp q; omega)⟩
  · have yc4 := of_decide_eq_true (g_b1.mp c4)
    have kc4 : (1 ≤ iL P ∧ iL P ≤ 10000) ↔ (1 ≤ P ∧ P ≤ 10000) := by
      have k8 := iL_le (a := 1) (b := P) (by omega) (by omega) (by omega) (by omega)
      have k9 := iL_le (a := P) (b := 10000) (by omega) (by omega) (by omega) (by omega)
      exact and_congr k8 k9
    rw [kc4] at yc4
    refine lv_iload_n hx hb dX6_suggest_11 rfl (lv_at hl 2 rfl) ?_
    refine lv_iconst (v := 1) hx hb dX6_suggest_12 (by decide) ?_
    refine lv_sipush (v := 10000) hx hb dX6_suggest_13 (by decide) ?_
    refine g_Si (As := [.int (iL Z), .int 1, .int 10000]) (rest := []) F hP hS (k_X6_isWithin l A G w (iL Z) 1 10000) (va_cwS 3 hts gX6_suggest_X6_isWithin rfl rfl rfl cd_X6_isWithin ⟨by rw [hR]; exact Nat.le_of_ble_eq_true rfl, by rw [hR]; exact Nat.le_of_ble_eq_true rfl⟩) rfl hl.1 (Nat.le_of_ble_eq_true rfl) dX6_suggest_16 ⟨by rw [hR]; exact Nat.le_of_ble_eq_true rfl, by rw [hR]; exact Nat.le_of_ble_eq_true rfl⟩ rfl (fun r5 w6 H locs h7 hP hS => ?_)
    have hr5 := h7.1
    rw [h7.2] at hP
    rw [hr5]
    refine lv_if_ne (tgt := 32) hx hb dX6_suggest_19 (by decide) (fun c8 => ?_) (fun c8 => ?_)
    · have yc8 := of_decide_eq_true (g_b1.mp c8)
      have kc8 : (1 ≤ iL Z ∧ iL Z ≤ 10000) ↔ (1 ≤ Z ∧ Z ≤ 10000) := by
        have k8 := iL_le (a := 1) (b := Z) (by omega) (by omega) (by omega) (by omega)
        have k9 := iL_le (a := Z) (b := 10000) (by omega) (by omega) (by omega) (by omega)
        exact and_congr k8 k9
      rw [kc8] at yc8
      refine lv_iload_n hx hb dX6_suggest_32 rfl (lv_at hl 3 rfl) ?_
      refine lv_bipush (v := 8) hx hb dX6_suggest_33 (by decide) ?_
      refine lv_icmp_lt (tgt := 51) hx hb dX6_suggest_35 (by decide) (fun c9 => ?_) (fun c9 => ?_)
      · have kc9 : iL U < 8 ↔ U < 8 := iL_lt (a := U) (b := 8) (by omega) (by omega) (by omega) (by omega)
        rw [kc9] at c9
        rw [hQ]
        refine g_throw F hP hS hlt rfl (hZ.2.2.2.2.2.2.2.1 ("java/lang/IllegalArgumentException", "java/lang/IllegalArgumentException") (List.mem_of_getElem? (i := 0) rfl)) (by decide +kernel) (List.mem_cons_of_mem _ (List.mem_append_left _ (List.mem_of_getElem? (i := 0) rfl))) (List.mem_cons_of_mem _ (List.mem_append_left _ (List.mem_of_getElem? (i := 1) rfl))) (cls := "java/lang/IllegalArgumentException") (text := "no such range of teeth") (List.mem_of_getElem? (i := 15) rfl) (fun w h => List.mem_cons_of_mem _ (List.mem_append_right _ (h))) xt_IllegalAr_81_b (fun w h => (List.mem_cons.mp h).elim (fun e => by rw [e]; rfl) (fun h => (List.mem_cons.mp h).elim (fun e => by rw [e]; rfl) (fun h => xt_IllegalAr_81_g w h))) hl.1 dX6_suggest_51 dX6_suggest_54 dX6_suggest_55 dX6_suggest_57 dX6_suggest_60 hout (by rw [hR]; exact Nat.le_of_ble_eq_true rfl) (by rw [hR]; exact Nat.le_of_ble_eq_true rfl) (by rw [hR]; exact Nat.le_of_ble_eq_true rfl) (by rw [hR]; exact Nat.le_of_ble_eq_true rfl) hlocks ?_ (by decide) (by decide)
        exact ⟨rfl, rfl, if_neg (fun q => by have q2 := hsg.mp q; omega)⟩
      · have kc9 : iL U < 8 ↔ U < 8 := iL_lt (a := U) (b := 8) (by omega) (by omega) (by omega) (by omega)
        rw [kc9] at c9
        refine lv_iload hx hb dX6_suggest_38 (lv_at hl 4 rfl) ?_
        refine lv_iload_n hx hb dX6_suggest_40 rfl (lv_at hl 3 rfl) ?_
        refine lv_icmp_lt (tgt := 51) hx hb dX6_suggest_41 (by decide) (fun c10 => ?_) (fun c10 => ?_)
        · rw [iL_lt (a := V) (b := U) (by omega) (by omega) (by omega) (by omega)] at c10
          rw [hQ]
          refine g_throw F hP hS hlt rfl (hZ.2.2.2.2.2.2.2.1 ("java/lang/IllegalArgumentException", "java/lang/IllegalArgumentException") (List.mem_of_getElem? (i := 0) rfl)) (by decide +kernel) (List.mem_cons_of_mem _ (List.mem_append_left _ (List.mem_of_getElem? (i := 0) rfl))) (List.mem_cons_of_mem _ (List.mem_append_left _ (List.mem_of_getElem? (i := 1) rfl))) (cls := "java/lang/IllegalArgumentException") (text := "no such range of teeth") (List.mem_of_getElem? (i := 15) rfl) (fun w h => List.mem_cons_of_mem _ (List.mem_append_right _ (h))) xt_IllegalAr_81_b (fun w h => (List.mem_cons.mp h).elim (fun e => by rw [e]; rfl) (fun h => (List.mem_cons.mp h).elim (fun e => by rw [e]; rfl) (fun h => xt_IllegalAr_81_g w h))) hl.1 dX6_suggest_51 dX6_suggest_54 dX6_suggest_55 dX6_suggest_57 dX6_suggest_60 hout (by rw [hR]; exact Nat.le_of_ble_eq_true rfl) (by rw [hR]; exact Nat.le_of_ble_eq_true rfl) (by rw [hR]; exact Nat.le_of_ble_eq_true rfl) (by rw [hR]; exact Nat.le_of_ble_eq_true rfl) hlocks ?_ (by decide) (by decide)
          exact ⟨rfl, rfl, if_neg (fun q => by have q2 := hsg.mp q; omega)⟩
        · rw [iL_lt (a := V) (b := U) (by omega) (by omega) (by omega) (by omega)] at c10
          refine lv_iload hx hb dX6_suggest_44 (lv_at hl 4 rfl) ?_
          refine lv_bipush (v := 120) hx hb dX6_suggest_46 (by decide) ?_
          refine lv_icmp_le (tgt := 61) hx hb dX6_suggest_48 (by decide) (fun c11 => ?_) (fun c11 => ?_)
          · have kc11 : iL V ≤ 120 ↔ V ≤ 120 := iL_le (a := V) (b := 120) (by omega) (by omega) (by omega) (by omega)
            rw [kc11] at c11
            have hp : 1 ≤ P ∧ P ≤ 10000 := by omega
            have hq : 1 ≤ Z ∧ Z ≤ 10000 := by omega
            have huv : 8 ≤ U ∧ U ≤ V ∧ V ≤ 120 := by omega
            refine lv_iload_n hx hb dX6_suggest_61 rfl (lv_at hl 3 rfl) ?_
            refine lv_istore (lv' := [(5, .int (iL U)), (0, .ref h), (1, .int (iL P)), (2, .int (iL Z)), (3, .int (iL U)), (4, .int (iL V))]) hx hb dX6_suggest_62 hl (by decide) rfl (fun ls hl => ?_)
            refine lv_iload_n hx hb dX6_suggest_64 rfl (lv_at hl 4 rfl) ?_
            refine lv_istore (lv' := [(6, .int (iL U)), (5, .int (iL U)), (0, .ref h), (1, .int (iL P)), (2, .int (iL Z)), (3, .int (iL U)), (4, .int (iL V))]) hx hb dX6_suggest_65 hl (by decide) rfl (fun ls hl => ?_)
            refine lv_iload_n hx hb dX6_suggest_67 rfl (lv_at hl 5 rfl) ?_
            refine lv_istore (lv' := [(7, .int (iL U)), (6, .int (iL U)), (5, .int (iL U)), (0, .ref h), (1, .int (iL P)), (2, .int (iL Z)), (3, .int (iL U)), (4, .int (iL V))]) hx hb dX6_suggest_68 hl (by decide) rfl (fun ls hl => ?_)
            have L70 : ∀ (n : Nat) (b : Int) (x1 : Int) (y1 : Int) (H : Heap) (locs : List Loc) (ls : Array Slot), V + 2 ≤ b + n → (U ≤ b ∧ b ≤ V + 1) → (sgC P Z U V b x1 y1) → g_P A G w H → va_S A s.heap H locs → lv_has ls 11 [(7, .int (iL b)), (6, .int (iL y1)), (5, .int (iL x1)), (0, .ref h), (1, .int (iL P)), (2, .int (iL Z)), (3, .int (iL U)), (4, .int (iL V))] → W p l e R s m args below meth c H locs (0) (0) Q (F0 m 70 ls []) := by
              intro n
              induction n with
              | zero =>
                intro b x1 y1 H locs ls hfu hbN hsc hP hS hl
                exact absurd hfu (by omega)
              | succ n ih_L70 =>
                intro b x1 y1 H locs ls hfu hbN hsc hP hS hl
                refine lv_iload hx hb dX6_suggest_70 (lv_at hl 0 rfl) ?_
                refine lv_iload hx hb dX6_suggest_72 (lv_at hl 7 rfl) ?_
                refine lv_icmp_gt (tgt := 152) hx hb dX6_suggest_74 (by decide) (fun c12 => ?_) (fun c12 => ?_)
                · rw [iL_lt (a := V) (b := b) (by omega) (by omega) (by omega) (by omega)] at c12
                  refine lv_sipush (v := 1000) hx hb dX6_suggest_152 (by decide) ?_
                  refine lv_iload hx hb dX6_suggest_155 (lv_at hl 2 rfl) ?_
                  refine lv_imul hx hb dX6_suggest_157 ?_
                  refine lv_topi (fun v13 ev13 => ?_)
                  obtain rfl : v13 = iL (1000 * x1) := by
                    rw [ev13]
                    exact iL_mul 1000 _
                  refine lv_iload hx hb dX6_suggest_158 (lv_at hl 1 rfl) ?_
                  refine lv_iadd hx hb dX6_suggest_160 ?_
                  refine lv_topi (fun v14 ev14 => ?_)
                  obtain rfl : v14 = iL (1000 * x1 + y1) := by
                    rw [ev14]
                    exact iL_add _ _
                  rw [hQ]
                  refine g_xiret F hP hS hlocks hr dX6_suggest_161 (by first | exact Nat.le_of_ble_eq_true rfl | omega) (by first | exact Nat.le_of_ble_eq_true rfl | omega) ?_
                  exact ⟨if_pos (hsg.mpr ⟨hp, hq, huv⟩), by rw [iL_t hp1 hp2, iL_t hq1 hq2, iL_t hu1 hu2, iL_t hv1 hv2]; exact ⟨x1, y1, sgC_e hsc (by omega), rfl⟩, rfl⟩
                · rw [iL_lt (a := V) (b := b) (by omega) (by omega) (by omega) (by omega)] at c12
                  have hbb : U ≤ b ∧ b ≤ V := by omega
                  have mb := mul_bd (x := P) (X := 10000) (y := b) (Y := 120) (by omega) (by omega) (by omega) (by omega)
                  obtain ⟨f, ef⟩ : ∃ f : Int, f = (P * b) / Z := ⟨_, rfl⟩
                  have hf1 : f * Z ≤ P * b := by rw [ef]; exact Int.ediv_mul_le _ (by omega)
                  have hf2 : P * b < (f + 1) * Z := by rw [ef]; exact Int.lt_ediv_add_one_mul_self _ (by omega)
                  have hf0 : 0 ≤ f := by rw [ef]; exact Int.ediv_nonneg (by omega) (by omega)
                  have hf3 : f ≤ P * b := by rw [ef]; exact Int.ediv_le_self _ (by omega)
                  have hcl := cl_b huv.2.1 (f := f)
                  have hcu := cu_b hcl.2
                  refine lv_iload_n hx hb dX6_suggest_77 rfl (lv_at hl 6 rfl) ?_
                  refine lv_iload hx hb dX6_suggest_78 (lv_at hl 7 rfl) ?_
                  refine lv_iload hx hb dX6_suggest_80 (lv_at hl 0 rfl) ?_
                  refine lv_iload_n hx hb dX6_suggest_82 rfl (lv_at hl 4 rfl) ?_
                  refine lv_imul hx hb dX6_suggest_83 ?_
                  refine lv_topi (fun v15 ev15 => ?_)
                  obtain rfl : v15 = iL (P * b) := by
                    rw [ev15]
                    rw [iL_mul, Int.mul_comm]
                  refine lv_iload_n hx hb dX6_suggest_84 rfl (lv_at hl 5 rfl) ?_
                  refine lv_idiv hx hb dX6_suggest_85 (fun q => absurd ((iL_eq (a := Z) (b := 0) (by omega) (by omega) (by omega) (by omega)).mp q) (by omega)) ?_
                  refine lv_topi (fun v16 ev16 => ?_)
                  obtain rfl : v16 = iL f := by
                    rw [ev16]
                    rw [iL_nn (z := P * b) (by omega), iL_nn (z := Z) (by omega), pk_div (by omega) (by omega) (by omega), ← iL_n, ef]
                    congr 1
                    rw [Int.natCast_ediv, Int.toNat_of_nonneg (by omega), Int.toNat_of_nonneg (by omega)]
                  refine va_mmin hx hb (by rw [hml]; exact hl.1.symm) hown (hts _ (List.mem_cons_of_mem _ (List.mem_append_left _ (List.mem_of_getElem? (i := 2) rfl)))) (hts _ (List.mem_cons_of_mem _ (List.mem_append_left _ (List.mem_of_getElem? (i := 3) rfl)))) (hts _ (List.mem_cons_of_mem _ (List.mem_append_left _ (List.mem_of_getElem? (i := 4) rfl)))) (hts _ (List.mem_cons_of_mem _ (List.mem_append_left _ (List.mem_of_getElem? (i := 5) rfl)))) (by rw [hR]; exact Nat.le_of_ble_eq_true rfl) (by rw [hR]; exact Nat.le_of_ble_eq_true rfl) (by rw [hR]; first | exact Nat.le_of_ble_eq_true rfl | (dsimp only; omega)) (by rw [hR]; first | exact Nat.le_of_ble_eq_true rfl | (dsimp only; omega)) dX6_suggest_86 ?_
                  refine lv_topi (fun v17 ev17 => ?_)
                  obtain rfl : v17 = iL (if f < V then f else V) := by
                    rw [ev17]
                    have k0 : iL f < iL V ↔ f < V := iL_lt (by omega) (by omega) (by omega) (by omega)
                    by_cases y : f < V
                    · rw [if_pos y, if_pos (k0.mpr y)]
                    · rw [if_neg y, if_neg (fun q => y (k0.mp q))]
                  refine va_mmax hx hb (by rw [hml]; exact hl.1.symm) hown (hts _ (List.mem_cons_of_mem _ (List.mem_append_left _ (List.mem_of_getElem? (i := 6) rfl)))) (hts _ (List.mem_cons_of_mem _ (List.mem_append_left _ (List.mem_of_getElem? (i := 7) rfl)))) (hts _ (List.mem_cons_of_mem _ (List.mem_append_left _ (List.mem_of_getElem? (i := 4) rfl)))) (hts _ (List.mem_cons_of_mem _ (List.mem_append_left _ (List.mem_of_getElem? (i := 8) rfl)))) (by rw [hR]; exact Nat.le_of_ble_eq_true rfl) (by rw [hR]; exact Nat.le_of_ble_eq_true rfl) (by rw [hR]; first | exact Nat.le_of_ble_eq_true rfl | (dsimp only; omega)) (by rw [hR]; first | exact Nat.le_of_ble_eq_true rfl | (dsimp only; omega)) dX6_suggest_89 ?_
                  refine lv_topi (fun v18 ev18 => ?_)
                  obtain rfl : v18 = iL (cl U V f) := by
                    rw [ev18]
                    unfold cl
                    have k0 : iL U < iL (if f < V then f else V) ↔ U < (if f < V then f else V) := iL_lt (by omega) (by omega) (by split <;> omega) (by split <;> omega)
                    by_cases y : U < (if f < V then f else V)
                    · rw [if_pos y, if_pos (k0.mpr y)]
                    · rw [if_neg y, if_neg (fun q => y (k0.mp q))]
                  refine lv_istore (lv' := [(8, .int (iL (cl U V f))), (7, .int (iL b)), (6, .int (iL y1)), (5, .int (iL x1)), (0, .ref h), (1, .int (iL P)), (2, .int (iL Z)), (3, .int (iL U)), (4, .int (iL V))]) hx hb dX6_suggest_92 hl (by decide) rfl (fun ls hl => ?_)
                  refine lv_iload hx hb dX6_suggest_94 (lv_at hl 8 rfl) ?_
                  refine lv_iload hx hb dX6_suggest_96 (lv_at hl 0 rfl) ?_
                  refine lv_iconst (v := 1) hx hb dX6_suggest_98 (by decide) ?_
                  refine lv_iadd hx hb dX6_suggest_99 ?_
                  refine lv_topi (fun v19 ev19 => ?_)
                  obtain rfl : v19 = iL (cl U V f + 1) := by
                    rw [ev19]
                    exact iL_add _ 1
                  refine va_mmin hx hb (by rw [hml]; exact hl.1.symm) hown (hts _ (List.mem_cons_of_mem _ (List.mem_append_left _ (List.mem_of_getElem? (i := 2) rfl)))) (hts _ (List.mem_cons_of_mem _ (List.mem_append_left _ (List.mem_of_getElem? (i := 3) rfl)))) (hts _ (List.mem_cons_of_mem _ (List.mem_append_left _ (List.mem_of_getElem? (i := 4) rfl)))) (hts _ (List.mem_cons_of_mem _ (List.mem_append_left _ (List.mem_of_getElem? (i := 5) rfl)))) (by rw [hR]; exact Nat.le_of_ble_eq_true rfl) (by rw [hR]; exact Nat.le_of_ble_eq_true rfl) (by rw [hR]; first | exact Nat.le_of_ble_eq_true rfl | (dsimp only; omega)) (by rw [hR]; first | exact Nat.le_of_ble_eq_true rfl | (dsimp only; omega)) dX6_suggest_100 ?_
                  refine lv_topi (fun v20 ev20 => ?_)
                  obtain rfl : v20 = iL (cu V (cl U V f)) := by
                    rw [ev20]
                    unfold cu
                    have k0 : iL (cl U V f + 1) < iL V ↔ cl U V f + 1 < V := iL_lt (by omega) (by omega) (by omega) (by omega)
                    by_cases y : cl U V f + 1 < V
                    · rw [if_pos y, if_pos (k0.mpr y)]
                    · rw [if_neg y, if_neg (fun q => y (k0.mp q))]
                  refine lv_istore (lv' := [(9, .int (iL (cu V (cl U V f)))), (8, .int (iL (cl U V f))), (7, .int (iL b)), (6, .int (iL y1)), (5, .int (iL x1)), (0, .ref h), (1, .int (iL P)), (2, .int (iL Z)), (3, .int (iL U)), (4, .int (iL V))]) hx hb dX6_suggest_103 hl (by decide) rfl (fun ls hl => ?_)
                  refine lv_iload hx hb dX6_suggest_105 (lv_at hl 1 rfl) ?_
                  refine lv_istore (lv' := [(10, .int (iL (cl U V f))), (9, .int (iL (cu V (cl U V f)))), (8, .int (iL (cl U V f))), (7, .int (iL b)), (6, .int (iL y1)), (5, .int (iL x1)), (0, .ref h), (1, .int (iL P)), (2, .int (iL Z)), (3, .int (iL U)), (4, .int (iL V))]) hx hb dX6_suggest_107 hl (by decide) rfl (fun ls hl => ?_)
                  have L109 : ∀ (n : Nat) (a : Int) (x1 : Int) (y1 : Int) (H : Heap) (locs : List Loc) (ls : Array Slot), V + 2 ≤ a + n → (cl U V f ≤ a ∧ a ≤ cu V (cl U V f) + 1) → (sgI P Z U V b a x1 y1 (cl U V f)) → g_P A G w H → va_S A s.heap H locs → lv_has ls 11 [(10, .int (iL a)), (9, .int (iL (cu V (cl U V f)))), (7, .int (iL b)), (6, .int (iL y1)), (5, .int (iL x1)), (0, .ref h), (1, .int (iL P)), (2, .int (iL Z)), (3, .int (iL U)), (4, .int (iL V))] → W p l e R s m args below meth c H locs (0) (0) Q (F0 m 109 ls []) := by
                    intro n
                    induction n with
                    | zero =>
                      intro a x1 y1 H locs ls hfu haN hin hP hS hl
                      exact absurd hfu (by omega)
                    | succ n ih_L109 =>
                      intro a x1 y1 H locs ls hfu haN hin hP hS hl
                      refine lv_iload hx hb dX6_suggest_109 (lv_at hl 0 rfl) ?_
                      refine lv_iload hx hb dX6_suggest_111 (lv_at hl 1 rfl) ?_
                      refine lv_icmp_gt (tgt := 146) hx hb dX6_suggest_113 (by decide) (fun c21 => ?_) (fun c21 => ?_)
                      · rw [iL_lt (a := cu V (cl U V f)) (b := a) (by omega) (by omega) (by omega) (by omega)] at c21
                        obtain ⟨i22, ei22⟩ : ∃ y : Int32, y = iL b + (1) := ⟨_, rfl⟩
                        refine lv_iinc (v := i22) (lv' := [(7, .int i22), (10, .int (iL a)), (9, .int (iL (cu V (cl U V f)))), (6, .int (iL y1)), (5, .int (iL x1)), (0, .ref h), (1, .int (iL P)), (2, .int (iL Z)), (3, .int (iL U)), (4, .int (iL V))]) hx hb dX6_suggest_146 hl (k := 2) rfl (by rw [ei22]; rfl) (by decide) rfl (fun ls hl => ?_)
                        obtain rfl : i22 = iL (b + 1) := by
                          rw [ei22]
                          exact iL_add _ 1
                        refine lv_goto (tgt := 70) hx hb dX6_suggest_149 (by decide) ?_
                        exact ih_L70 (b + 1) x1 y1  H locs ls (by omega) (by omega) (sgI_e (by omega) (by omega) huv.2.1 hbb hf1 hf2 hin (by omega)) hP hS (lv_sub hl [0, 3, 4, 5, 6, 7, 8, 9] rfl)
                      · rw [iL_lt (a := cu V (cl U V f)) (b := a) (by omega) (by omega) (by omega) (by omega)] at c21
                        refine lv_iload hx hb dX6_suggest_116 (lv_at hl 0 rfl) ?_
                        refine lv_iload hx hb dX6_suggest_118 (lv_at hl 2 rfl) ?_
                        refine lv_iload hx hb dX6_suggest_120 (lv_at hl 4 rfl) ?_
                        refine lv_iload hx hb dX6_suggest_122 (lv_at hl 3 rfl) ?_
                        refine lv_iload_n hx hb dX6_suggest_124 rfl (lv_at hl 6 rfl) ?_
                        refine lv_iload_n hx hb dX6_suggest_125 rfl (lv_at hl 7 rfl) ?_
                        have hxy := hin.1.1
                        refine g_Si (As := [.int (iL a), .int (iL b), .int (iL x1), .int (iL y1), .int (iL P), .int (iL Z)]) (rest := []) F hP hS (k_X6_isBetterPair l A G w a b x1 y1 P Z hp hq (by omega) (by omega) (by omega) (by omega)) (va_cwS 6 hts gX6_suggest_X6_isBetterPair rfl rfl rfl cd_X6_isBetterPair ⟨by rw [hR]; exact Nat.le_of_ble_eq_true rfl, by rw [hR]; exact Nat.le_of_ble_eq_true rfl⟩) rfl hl.1 (Nat.le_of_ble_eq_true rfl) dX6_suggest_126 ⟨by rw [hR]; exact Nat.le_of_ble_eq_true rfl, by rw [hR]; exact Nat.le_of_ble_eq_true rfl⟩ rfl (fun r23 w24 H locs h25 hP hS => ?_)
                        obtain ⟨b0, eb0, hb0⟩ := h25.1
                        rw [h25.2] at hP
                        rw [eb0]
                        refine lv_if_eq (tgt := 140) hx hb dX6_suggest_129 (by decide) (fun c26 => ?_) (fun c26 => ?_)
                        · have yc26 : ¬ bet P Z a b x1 y1 := fun q => by
                            have q1 : b0 = false := g_b0.mp c26
                            rw [hb0.mpr q] at q1
                            cases q1
                          obtain ⟨i27, ei27⟩ : ∃ y : Int32, y = iL a + (1) := ⟨_, rfl⟩
                          refine lv_iinc (v := i27) (lv' := [(10, .int i27), (9, .int (iL (cu V (cl U V f)))), (7, .int (iL b)), (6, .int (iL y1)), (5, .int (iL x1)), (0, .ref h), (1, .int (iL P)), (2, .int (iL Z)), (3, .int (iL U)), (4, .int (iL V))]) hx hb dX6_suggest_140 hl (k := 0) rfl (by rw [ei27]; rfl) (by decide) rfl (fun ls hl => ?_)
                          obtain rfl : i27 = iL (a + 1) := by
                            rw [ei27]
                            exact iL_add _ 1
                          refine lv_goto (tgt := 109) hx hb dX6_suggest_143 (by decide) ?_
                          exact ih_L109 (a + 1) x1 y1  H locs ls (by omega) (by omega) (sgI_no hin yc26) hP hS (lv_sub hl [0, 1, 2, 3, 4, 5, 6, 7, 8, 9] rfl)
                        · have yc26 : bet P Z a b x1 y1 := hb0.mp (g_b1.mp c26)
                          refine lv_iload hx hb dX6_suggest_132 (lv_at hl 0 rfl) ?_
                          refine lv_istore (lv' := [(5, .int (iL a)), (10, .int (iL a)), (9, .int (iL (cu V (cl U V f)))), (7, .int (iL b)), (6, .int (iL y1)), (0, .ref h), (1, .int (iL P)), (2, .int (iL Z)), (3, .int (iL U)), (4, .int (iL V))]) hx hb dX6_suggest_134 hl (by decide) rfl (fun ls hl => ?_)
                          refine lv_iload hx hb dX6_suggest_136 (lv_at hl 3 rfl) ?_
                          refine lv_istore (lv' := [(6, .int (iL b)), (5, .int (iL a)), (10, .int (iL a)), (9, .int (iL (cu V (cl U V f)))), (7, .int (iL b)), (0, .ref h), (1, .int (iL P)), (2, .int (iL Z)), (3, .int (iL U)), (4, .int (iL V))]) hx hb dX6_suggest_138 hl (by decide) rfl (fun ls hl => ?_)
                          obtain ⟨i28, ei28⟩ : ∃ y : Int32, y = iL a + (1) := ⟨_, rfl⟩
                          refine lv_iinc (v := i28) (lv' := [(10, .int i28), (6, .int (iL b)), (5, .int (iL a)), (9, .int (iL (cu V (cl U V f)))), (7, .int (iL b)), (0, .ref h), (1, .int (iL P)), (2, .int (iL Z)), (3, .int (iL U)), (4, .int (iL V))]) hx hb dX6_suggest_140 hl (k := 2) rfl (by rw [ei28]; rfl) (by decide) rfl (fun ls hl => ?_)
                          obtain rfl : i28 = iL (a + 1) := by
                            rw [ei28]
                            exact iL_add _ 1
                          refine lv_goto (tgt := 109) hx hb dX6_suggest_143 (by decide) ?_
                          exact ih_L109 (a + 1) a b  H locs ls (by omega) (by omega) (sgI_up (by omega) hbb (by omega) hin yc26) hP hS (lv_sub hl [0, 3, 4, 1, 2, 5, 6, 7, 8, 9] rfl)
                  exact L109 122 (cl U V f) x1 y1  H locs ls (by omega) (by omega) (sgI_0 hsc) hP hS (lv_sub hl [0, 1, 3, 4, 5, 6, 7, 8, 9, 10] rfl)
            exact L70 122 U U U  H locs ls (by omega) (by omega) (sgC_0 huv.2.1) hP hS (lv_sub hl [0, 1, 2, 3, 4, 5, 6, 7] rfl)
          · have kc11 : iL V ≤ 120 ↔ V ≤ 120 := iL_le (a := V) (b := 120) (by omega) (by omega) (by omega) (by omega)
            rw [kc11] at c11
            rw [hQ]
            refine g_throw F hP hS hlt rfl (hZ.2.2.2.2.2.2.2.1 ("java/lang/IllegalArgumentException", "java/lang/IllegalArgumentException") (List.mem_of_getElem? (i := 0) rfl)) (by decide +kernel) (List.mem_cons_of_mem _ (List.mem_append_left _ (List.mem_of_getElem? (i := 0) rfl))) (List.mem_cons_of_mem _ (List.mem_append_left _ (List.mem_of_getElem? (i := 1) rfl))) (cls := "java/lang/IllegalArgumentException") (text := "no such range of teeth") (List.mem_of_getElem? (i := 15) rfl) (fun w h => List.mem_cons_of_mem _ (List.mem_append_right _ (h))) xt_IllegalAr_81_b (fun w h => (List.mem_cons.mp h).elim (fun e => by rw [e]; rfl) (fun h => (List.mem_cons.mp h).elim (fun e => by rw [e]; rfl) (fun h => xt_IllegalAr_81_g w h))) hl.1 dX6_suggest_51 dX6_suggest_54 dX6_suggest_55 dX6_suggest_57 dX6_suggest_60 hout (by rw [hR]; exact Nat.le_of_ble_eq_true rfl) (by rw [hR]; exact Nat.le_of_ble_eq_true rfl) (by rw [hR]; exact Nat.le_of_ble_eq_true rfl) (by rw [hR]; exact Nat.le_of_ble_eq_true rfl) hlocks ?_ (by decide) (by decide)
            exact ⟨rfl, rfl, if_neg (fun q => by have q2 := hsg.mp q; omega)⟩
    · have yc8 := of_decide_eq_false (g_b0.mp c8)
      have kc8 : (1 ≤ iL Z ∧ iL Z ≤ 10000) ↔ (1 ≤ Z ∧ Z ≤ 10000) := by
        have k8 := iL_le (a := 1) (b := Z) (by omega) (by omega) (by omega) (by omega)
        have k9 := iL_le (a := Z) (b := 10000) (by omega) (by omega) (by omega) (by omega)
        exact and_congr k8 k9
      rw [kc8] at yc8
      rw [hQ]
      refine g_throw F hP hS hlt rfl (hZ.2.2.2.2.2.2.2.1 ("java/lang/IllegalArgumentException", "java/lang/IllegalArgumentException") (List.mem_of_getElem? (i := 0) rfl)) (by decide +kernel) (List.mem_cons_of_mem _ (List.mem_append_left _ (List.mem_of_getElem? (i := 0) rfl))) (List.mem_cons_of_mem _ (List.mem_append_left _ (List.mem_of_getElem? (i := 1) rfl))) (cls := "java/lang/IllegalArgumentException") (text := "no such ratio") (List.mem_of_getElem? (i := 14) rfl) (fun w h => List.mem_cons_of_mem _ (List.mem_append_right _ (h))) xt_IllegalAr_81_b (fun w h => (List.mem_cons.mp h).elim (fun e => by rw [e]; rfl) (fun h => (List.mem_cons.mp h).elim (fun e => by rw [e]; rfl) (fun h => xt_IllegalAr_81_g w h))) hl.1 dX6_suggest_22 dX6_suggest_25 dX6_suggest_26 dX6_suggest_28 dX6_suggest_31 hout (by rw [hR]; exact Nat.le_of_ble_eq_true rfl) (by rw [hR]; exact Nat.le_of_ble_eq_true rfl) (by rw [hR]; exact Nat.le_of_ble_eq_true rfl) (by rw [hR]; exact Nat.le_of_ble_eq_true rfl) hlocks ?_ (by decide) (by decide)
      exact ⟨rfl, rfl, if_neg (fun q => by have q2 := hsg.mp q; omega)⟩
