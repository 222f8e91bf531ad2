theorem cd_X2_fits : yX2_fits.cls = RX2 ∧ yX2_fits.cls ≠ "java/lang/invoke/MethodHandle" ∧ yX2_fits.cls ≠ "java/lang/invoke/VarHandle" ∧ (parseMethodDescriptor yX2_fits.desc).map (fun d => d.parameters.length) = some 0 := by decide +kernel
set_option maxHeartbeats 4000000 in
set_option maxRecDepth 100000 in
theorem k_X6_misfits (l : Launch) (A : Nat → Prop) (G : g_C) (w : g_W) (ad : Nat → Nat → Nat) (Cn : Nat → Nat → Option va_E) (S T : Sg) (Hh : holds w ad Cn) (Hr : rep G S T ad Cn) (Hi : invS S) : mI l yX6_misfits wsX6_misfits ({ frames := 3, cells := 0, slots := 0, locals := 82 } : Room) [.ref (ad 0 0)] A G w (fun r w' => r = vlMisfits S ∧ w' = w) 0 0 := by
  refine g_ofI (cc := cX6_misfits) (maxL := 3) (ret := (some .int)) (own := RX6) (by decide) rfl rfl (Nat.le_of_ble_eq_true rfl) ?_
  intro p e R s m args below meth c Q ls hR F hP hS hlocks hr hnm0 hQ hl
  obtain ⟨⟨hx, hb, hml, hown, hts⟩, hK, hZ, hA⟩ := id F
  generalize hH0 : s.heap = H at hP ⊢
  have hS : va_S A s.heap H [] := by rw [← hH0]; exact va_S.rf
  generalize ([] : List Loc) = locs at hS ⊢
  have hl : lv_has ls 3 [(0, .ref (ad 0 0))] := hl
  have iX6 : ∀ w ∈ u_ws RX6 TX6 6, w ∈ wsX6_misfits := fun w h => List.mem_cons_of_mem _ (List.mem_append_left _ (List.mem_append_left _ (List.mem_append_left _ (List.mem_append_left _ (List.mem_append_right _ (h))))))
  have hx0 := rep_x Hh Hr
  obtain ⟨m2, a2, hz2⟩ := rep_size Hh Hr 2 (by decide)
  have hi := Hi.1
  refine lv_iconst (v := 0) hx hb dX6_misfits_0 (by decide) ?_
  refine lv_istore_n (lv' := [(1, .int 0), (0, .ref (ad 0 0))]) hx hb dX6_misfits_1 rfl hl (by decide) rfl (fun ls hl => ?_)
  refine lv_iconst (v := 0) hx hb dX6_misfits_2 (by decide) ?_
  refine lv_istore_n (lv' := [(2, .int 0), (1, .int 0), (0, .ref (ad 0 0))]) hx hb dX6_misfits_3 rfl hl (by decide) rfl (fun ls hl => ?_)
  have L4 : ∀ (n : Nat) (k : Nat) (H : Heap) (locs : List Loc) (ls : Array Slot), (S 0 2).toNat + 1 ≤ k + n → ((k : Int) ≤ S 0 2) → g_P A G w H → va_S A s.heap H locs → lv_has ls 3 [(2, .int (nI k)), (1, .int (bitsI (fun m => ! fitsB S m) k)), (0, .ref (ad 0 0))] → W p l e R s m args below meth c H locs (0) (0) Q (F0 m 4 ls []) := by
    intro n
    induction n with
    | zero =>
      intro k H locs ls hfu hkN hP hS hl
      exact absurd hfu (by omega)
    | succ n ih_L4 =>
      intro k H locs ls hfu hkN hP hS hl
      refine lv_iload_n hx hb dX6_misfits_4 rfl (lv_at hl 0 rfl) ?_
      refine lv_aload_n hx hb dX6_misfits_5 rfl (lv_at hl 2 rfl) ?_
      refine g_get F hP (C := RX6) (T := TX6) (N := 6) iX6 hx0 rfl 2 (by decide) (List.mem_cons_of_mem _ (List.mem_append_left _ (List.mem_append_left _ (List.mem_append_left _ (List.mem_append_left _ (List.mem_append_left _ (List.mem_append_left _ (List.mem_of_getElem? (i := 0) rfl)))))))) (fun _ h9 => h9) rfl dX6_misfits_6 ?_
      refine g_Vi (As := []) (rest := [.int (nI k)]) F hP hS (k_size l A G w (ad 1 2) a2 m2 (iL (S 0 2)) hz2) (cwV 0 hts gX6_misfits_Jx4a65c_size_8abf5 rfl rfl rfl cd_Jx4a65c_size_8abf5 ⟨by rw [hR]; exact Nat.le_of_ble_eq_true rfl, by rw [hR]; exact Nat.le_of_ble_eq_true rfl⟩) hz2 rfl rfl rfl hl.1 (Nat.le_of_ble_eq_true rfl) dX6_misfits_9 ⟨by rw [hR]; exact Nat.le_of_ble_eq_true rfl, by rw [hR]; exact Nat.le_of_ble_eq_true rfl⟩ rfl (fun r1 w2 H locs h3 hP hS => ?_)
      have hr1 := h3.1
      rw [h3.2] at hP
      rw [hr1]
      refine lv_icmp_ge (tgt := 48) hx hb dX6_misfits_12 (by decide) (fun c4 => ?_) (fun c4 => ?_)
      · have zc4 : S 0 2 ≤ k := (iL_nle (by omega) (by omega) (by omega)).mp c4
        refine lv_iload_n hx hb dX6_misfits_48 rfl (lv_at hl 1 rfl) ?_
        rw [hQ]
        refine g_iret F hP hS hlocks hr dX6_misfits_49 (by first | exact Nat.le_of_ble_eq_true rfl | omega) (by first | exact Nat.le_of_ble_eq_true rfl | omega) ?_
        exact ⟨by unfold vlMisfits; rw [show (S 0 2).toNat = k from by omega], rfl⟩
      · have hk : (k : Int) < S 0 2 := Int.not_le.mp (fun q => c4 ((iL_nle (z := S 0 2) (k := k) (by omega) (by omega) (by omega)).mpr q))
        refine lv_iload_n hx hb dX6_misfits_15 rfl (lv_at hl 1 rfl) ?_
        refine lv_aload_n hx hb dX6_misfits_16 rfl (lv_at hl 2 rfl) ?_
        refine g_get F hP (C := RX6) (T := TX6) (N := 6) iX6 hx0 rfl 2 (by decide) (List.mem_cons_of_mem _ (List.mem_append_left _ (List.mem_append_left _ (List.mem_append_left _ (List.mem_append_left _ (List.mem_append_left _ (List.mem_append_left _ (List.mem_of_getElem? (i := 0) rfl)))))))) (fun _ h9 => h9) rfl dX6_misfits_17 ?_
        refine lv_iload_n hx hb dX6_misfits_20 rfl (lv_at hl 0 rfl) ?_
        obtain ⟨gm5, gc5, gf5, ga5, gb5, gk5, gn5, gd5, ge5⟩ := rep_get Hh Hr 2 (by decide) hk
        refine g_Vq (As := [.int (nI k)]) (rest := [.int (bitsI (fun m => ! fitsB S m) k)]) F hP hS (k_get l A G w (ad 1 2) (ad 2 2) (S 0 2).toNat gc5 gm5 gf5 k ga5 gb5 gk5 gn5 gd5) (cwV 1 hts gX6_misfits_Jx4a65c_get_915e3 rfl rfl rfl cd_Jx4a65c_get_915e3 ⟨by rw [hR]; exact Nat.le_of_ble_eq_true rfl, by rw [hR]; exact Nat.le_of_ble_eq_true rfl⟩) ga5 rfl rfl rfl hl.1 (Nat.le_of_ble_eq_true rfl) dX6_misfits_21 ⟨by rw [hR]; exact Nat.le_of_ble_eq_true rfl, by rw [hR]; exact Nat.le_of_ble_eq_true rfl⟩ rfl (fun r6 w7 H locs h8 hP hS => ?_)
        have hr6 := h8.1
        rw [h8.2] at hP
        have f9 := rep_me Hh Hr hk
        rw [hr6, ge5, show va_rf (some (ad (elk 2) k)) = .ref (ad 6 k) from rfl]
        refine g_cast F hP (C := RX2) (T := TX2) (N := 3) f9 rfl (List.mem_cons_of_mem _ (List.mem_append_left _ (List.mem_append_left _ (List.mem_append_left _ (List.mem_append_left _ (List.mem_append_left _ (List.mem_append_left _ (List.mem_of_getElem? (i := 1) rfl)))))))) dX6_misfits_24 ?_
        obtain ⟨ma1, ma2, ma3, ma4, ma5⟩ := Hi.2.2.2.1 k hk
        have hg1 : (((S 9 k).toNat : Nat) : Int) < S 0 1 := by omega
        have fg1 := rep_ge Hh Hr hg1
        obtain ⟨rb1, erb1, hb1⟩ := g_bi (Hi.2.2.1 _ hg1).2.2.2.2.2.2.2.2
        rw [erb1] at fg1
        have hsf1 : (((S 4 (S 9 k).toNat).toNat : Nat) : Int) < S 0 0 := by have := Hi.2.2.1 _ hg1; omega
        have fs1 := rep_sh Hh Hr hsf1
        have hg2 : (((S 10 k).toNat : Nat) : Int) < S 0 1 := by omega
        have fg2 := rep_ge Hh Hr hg2
        obtain ⟨rb2, erb2, hb2⟩ := g_bi (Hi.2.2.1 _ hg2).2.2.2.2.2.2.2.2
        rw [erb2] at fg2
        have hsf2 : (((S 4 (S 10 k).toNat).toNat : Nat) : Int) < S 0 0 := by have := Hi.2.2.1 _ hg2; omega
        have fs2 := rep_sh Hh Hr hsf2
        refine g_Vi (As := []) (rest := [.int (bitsI (fun m => ! fitsB S m) k)]) F hP hS (k_X2_fits l A G w (ad 6 k) _ _ _ _ _ _ _ rb1 _ _ _ _ rb2 _ _ _ _ _ _ _ _ _ _ f9 fg1 fg2 fs1 fs2) (cwV 0 hts gX6_misfits_X2_fits rfl rfl rfl cd_X2_fits ⟨by rw [hR]; exact Nat.le_of_ble_eq_true rfl, by rw [hR]; exact Nat.le_of_ble_eq_true rfl⟩) f9 rfl rfl rfl hl.1 (Nat.le_of_ble_eq_true rfl) dX6_misfits_27 ⟨by rw [hR]; exact Nat.le_of_ble_eq_true rfl, by rw [hR]; exact Nat.le_of_ble_eq_true rfl⟩ rfl (fun r10 w11 H locs h12 hP hS => ?_)
        have hr10 := h12.1
        rw [h12.2] at hP
        rw [hr10]
        have lb := lenI_b Hi hk
        have sb := sq_le (x := lenI S k) (n := 4000) (by omega)
        have db := dsI_b Hi hsf1 hsf2
        rw [len32 Hi hk hb1 hb2, ds32, iL_mul, decide_eq_decide.mpr (iL_eq (a := dsI S (S 4 (S 9 k).toNat).toNat (S 4 (S 10 k).toNat).toNat) (b := lenI S k * lenI S k) (by omega) (by omega) (by omega) (by omega))]
        rw [show decide (dsI S (S 4 (S 9 k).toNat).toNat (S 4 (S 10 k).toNat).toNat = lenI S k * lenI S k) = fitsB S k from rfl]
        refine lv_if_eq (tgt := 37) hx hb dX6_misfits_30 (by decide) (fun c13 => ?_) (fun c13 => ?_)
        · have yc13 : fitsB S k = false := g_b0.mp c13
          refine lv_iconst (v := 1) hx hb dX6_misfits_37 (by decide) ?_
          refine lv_iload_n hx hb dX6_misfits_38 rfl (lv_at hl 0 rfl) ?_
          refine lv_ishl hx hb dX6_misfits_39 ?_
          refine lv_topi (fun v14 ev14 => ?_)
          obtain rfl : v14 = 1 <<< (nI k &&& 31) := by
            exact ev14
          refine lv_ior hx hb dX6_misfits_40 ?_
          refine lv_topi (fun v15 ev15 => ?_)
          obtain rfl : v15 = bitsI (fun m => ! fitsB S m) (k + 1) := by
            rw [ev15]
            show _ = if ! fitsB S k then _ else _
            rw [yc13]
            rfl
          refine lv_istore_n (lv' := [(1, .int (bitsI (fun m => ! fitsB S m) (k + 1))), (2, .int (nI k)), (0, .ref (ad 0 0))]) hx hb dX6_misfits_41 rfl hl (by decide) rfl (fun ls hl => ?_)
          obtain ⟨i16, ei16⟩ : ∃ y : Int32, y = nI k + (1) := ⟨_, rfl⟩
          refine lv_iinc (v := i16) (lv' := [(2, .int i16), (1, .int (bitsI (fun m => ! fitsB S m) (k + 1))), (0, .ref (ad 0 0))]) hx hb dX6_misfits_42 hl (k := 1) rfl (by rw [ei16]; rfl) (by decide) rfl (fun ls hl => ?_)
          obtain rfl : i16 = nI (k + 1) := by
            rw [ei16]
            exact nI_1 k
          refine lv_goto (tgt := 4) hx hb dX6_misfits_45 (by decide) ?_
          exact ih_L4 (k + 1)  H locs ls (by omega) (by omega) hP hS (lv_sub hl [0, 1, 2] rfl)
        · have yc13 : fitsB S k = true := g_b1.mp c13
          refine lv_iconst (v := 0) hx hb dX6_misfits_33 (by decide) ?_
          refine lv_goto (tgt := 40) hx hb dX6_misfits_34 (by decide) ?_
          refine lv_ior hx hb dX6_misfits_40 ?_
          refine lv_topi (fun v17 ev17 => ?_)
          obtain rfl : v17 = bitsI (fun m => ! fitsB S m) (k + 1) := by
            rw [ev17]
            show bitsI (fun m => ! fitsB S m) k ||| 0 = if ! fitsB S k then _ else _
            rw [yc13]
            simp
          refine lv_istore_n (lv' := [(1, .int (bitsI (fun m => ! fitsB S m) (k + 1))), (2, .int (nI k)), (0, .ref (ad 0 0))]) hx hb dX6_misfits_41 rfl hl (by decide) rfl (fun ls hl => ?_)
          obtain ⟨i18, ei18⟩ : ∃ y : Int32, y = nI k + (1) := ⟨_, rfl⟩
          refine lv_iinc (v := i18) (lv' := [(2, .int i18), (1, .int (bitsI (fun m => ! fitsB S m) (k + 1))), (0, .ref (ad 0 0))]) hx hb dX6_misfits_42 hl (k := 1) rfl (by rw [ei18]; rfl) (by decide) rfl (fun ls hl => ?_)
          obtain rfl : i18 = nI (k + 1) := by
            rw [ei18]
            exact nI_1 k
          refine lv_goto (tgt := 4) hx hb dX6_misfits_45 (by decide) ?_
          exact ih_L4 (k + 1)  H locs ls (by omega) (by omega) hP hS (lv_sub hl [0, 1, 2] rfl)
  exact L4 ((S 0 2).toNat + 1) 0  H locs ls (by omega) (by omega) hP hS (lv_sub hl [0, 1, 2] rfl)
