theorem cd_X5_isBroken : yX5_isBroken.cls = RX5 ∧ yX5_isBroken.cls ≠ "java/lang/invoke/MethodHandle" ∧ yX5_isBroken.cls ≠ "java/lang/invoke/VarHandle" ∧ (parseMethodDescriptor yX5_isBroken.desc).map (fun d => d.parameters.length) = some 0 := by decide +kernel
set_option maxHeartbeats 4000000 in
set_option maxRecDepth 100000 in
theorem k_X6_broken (l : Launch) (A : Nat → Prop) (G : g_C) (w : g_W) (ad : Nat → Nat → Nat) (Cn : Nat → Nat → Option va_E) (S T : Sg) (ba : Bool) (Hh : holds w ad Cn) (Hr : rep G S T ad Cn) (Hi : invS S) (Ht : invT S T) : mI l yX6_broken wsX6_broken ({ frames := 4, cells := 0, slots := 0, locals := 123 } : Room) [.ref (ad 0 0), .int (g_b ba)] A G w (fun r w' => r = vlBroken S T ba ∧ ∃ Cn', upto ad Cn w w' Cn' ∧ rep G S T ad Cn') 0 0 := by
  refine g_ofI (cc := cX6_broken) (maxL := 4) (ret := (some .int)) (own := RX6) (by decide) rfl rfl (Nat.le_of_ble_eq_true rfl) ?_
  intro p e R s m args below meth c Q ls hR F hP hS hlocks hr hnm0 hQ hl
  obtain ⟨⟨hx, hb, hml, hown, hts⟩, hK, hZ, hA⟩ := id F
  generalize hH0 : s.heap = H at hP ⊢
  have hS : va_S A s.heap H [] := by rw [← hH0]; exact va_S.rf
  generalize ([] : List Loc) = locs at hS ⊢
  have hl : lv_has ls 4 [(0, .ref (ad 0 0)), (1, .int (g_b ba))] := hl
  have iX2 : ∀ w ∈ u_ws RX2 TX2 3, w ∈ wsX6_broken := fun w h => List.mem_cons_of_mem _ (List.mem_append_left _ (List.mem_append_left _ (List.mem_append_left _ (List.mem_append_left _ (List.mem_append_left _ (List.mem_append_right _ (h)))))))
  have iX3 : ∀ w ∈ u_ws RX3 TX3 2, w ∈ wsX6_broken := fun w h => List.mem_cons_of_mem _ (List.mem_append_left _ (List.mem_append_left _ (List.mem_append_left _ (List.mem_append_left _ (List.mem_append_left _ (List.mem_append_left _ (List.mem_append_right _ (h))))))))
  have iX6 : ∀ w ∈ u_ws RX6 TX6 6, w ∈ wsX6_broken := fun w h => List.mem_cons_of_mem _ (List.mem_append_left _ (List.mem_append_left _ (List.mem_append_left _ (List.mem_append_left _ (List.mem_append_left _ (List.mem_append_left _ (List.mem_append_left _ (List.mem_append_right _ (h)))))))))
  have hx0 := rep_x Hh Hr
  obtain ⟨m2, a2, hz2⟩ := rep_size Hh Hr 2 (by decide)
  obtain ⟨m3, a3, hz3⟩ := rep_size Hh Hr 3 (by decide)
  have hi := Hi.1
  obtain ⟨Cz, eCz⟩ : ∃ C, C = Cn := ⟨_, rfl⟩
  obtain ⟨wz, ewz⟩ : ∃ z, z = w := ⟨_, rfl⟩
  have hu : upto ad Cz wz w Cn := by rw [eCz, ewz]; exact upto_rf Hh
  refine lv_iconst (v := 0) hx hb dX6_broken_0 (by decide) ?_
  refine lv_istore_n (lv' := [(2, .int 0), (0, .ref (ad 0 0)), (1, .int (g_b ba))]) hx hb dX6_broken_1 rfl hl (by decide) rfl (fun ls hl => ?_)
  refine lv_iload_n hx hb dX6_broken_2 rfl (lv_at hl 2 rfl) ?_
  refine lv_if_eq (tgt := 58) hx hb dX6_broken_3 (by decide) (fun c1 => ?_) (fun c1 => ?_)
  · have yc1 : ba = false := g_b0.mp c1
    refine lv_iconst (v := 0) hx hb dX6_broken_58 (by decide) ?_
    refine lv_istore_n (lv' := [(3, .int 0), (2, .int 0), (0, .ref (ad 0 0)), (1, .int (g_b ba))]) hx hb dX6_broken_59 rfl hl (by decide) rfl (fun ls hl => ?_)
    have L60 : ∀ (n : Nat) (k : Nat) (Cn : Nat → Nat → Option va_E) (w : g_W) (H : Heap) (locs : List Loc) (ls : Array Slot), (S 0 2).toNat + 1 ≤ k + n → ((k : Int) ≤ S 0 2) → (holds w ad Cn) → (rep G S T ad Cn) → (upto ad Cz wz w Cn) → g_P A G w H → va_S A s.heap H locs → lv_has ls 4 [(3, .int (nI k)), (2, .int (bitsI (brkB S T 0) k)), (0, .ref (ad 0 0))] → W p l e R s m args below meth c H locs (0) (0) Q (F0 m 60 ls []) := by
      intro n
      induction n with
      | zero =>
        intro k Cn w H locs ls hfu hkN Hh Hr hu hP hS hl
        exact absurd hfu (by omega)
      | succ n ih_L60 =>
        intro k Cn w H locs ls hfu hkN Hh Hr hu hP hS hl
        have hx0 := rep_x Hh Hr
        obtain ⟨m2, a2, hz2⟩ := rep_size Hh Hr 2 (by decide)
        refine lv_iload_n hx hb dX6_broken_60 rfl (lv_at hl 0 rfl) ?_
        refine lv_aload_n hx hb dX6_broken_61 rfl (lv_at hl 2 rfl) ?_
        refine g_get F hP (C := RX6) (T := TX6) (N := 6) iX6 hx0 rfl 2 (by decide) (List.mem_cons_of_mem _ (List.mem_append_left _ (List.mem_append_left _ (List.mem_append_left _ (List.mem_append_left _ (List.mem_append_left _ (List.mem_append_left _ (List.mem_append_left _ (List.mem_append_left _ (List.mem_append_left _ (List.mem_of_getElem? (i := 3) rfl))))))))))) (fun _ h9 => h9) rfl dX6_broken_62 ?_
        refine g_Vi (As := []) (rest := [.int (nI k)]) F hP hS (k_size l A G w (ad 1 2) a2 m2 (iL (S 0 2)) hz2) (cwV 0 hts gX6_broken_Jx4a65c_size_8abf5 rfl rfl rfl cd_Jx4a65c_size_8abf5 ⟨by rw [hR]; exact Nat.le_of_ble_eq_true rfl, by rw [hR]; exact Nat.le_of_ble_eq_true rfl⟩) hz2 rfl rfl rfl hl.1 (Nat.le_of_ble_eq_true rfl) dX6_broken_65 ⟨by rw [hR]; exact Nat.le_of_ble_eq_true rfl, by rw [hR]; exact Nat.le_of_ble_eq_true rfl⟩ rfl (fun r2 w3 H locs h4 hP hS => ?_)
        have hr2 := h4.1
        rw [h4.2] at hP
        rw [hr2]
        refine lv_icmp_ge (tgt := 107) hx hb dX6_broken_68 (by decide) (fun c5 => ?_) (fun c5 => ?_)
        · have zc5 : S 0 2 ≤ k := (iL_nle (by omega) (by omega) (by omega)).mp c5
          refine lv_iload_n hx hb dX6_broken_107 rfl (lv_at hl 1 rfl) ?_
          rw [hQ]
          refine g_iret F hP hS hlocks hr dX6_broken_108 (by first | exact Nat.le_of_ble_eq_true rfl | omega) (by first | exact Nat.le_of_ble_eq_true rfl | omega) ?_
          rw [eCz, ewz] at hu
          exact ⟨by unfold vlBroken; rw [yc1, show (S 0 2).toNat = k from by omega]; rfl, Cn, hu, Hr⟩
        · have hk : (k : Int) < S 0 2 := Int.not_le.mp (fun q => c5 ((iL_nle (z := S 0 2) (k := k) (by omega) (by omega) (by omega)).mpr q))
          refine lv_iload_n hx hb dX6_broken_71 rfl (lv_at hl 1 rfl) ?_
          refine lv_aload_n hx hb dX6_broken_72 rfl (lv_at hl 2 rfl) ?_
          refine g_get F hP (C := RX6) (T := TX6) (N := 6) iX6 hx0 rfl 2 (by decide) (List.mem_cons_of_mem _ (List.mem_append_left _ (List.mem_append_left _ (List.mem_append_left _ (List.mem_append_left _ (List.mem_append_left _ (List.mem_append_left _ (List.mem_append_left _ (List.mem_append_left _ (List.mem_append_left _ (List.mem_of_getElem? (i := 3) rfl))))))))))) (fun _ h9 => h9) rfl dX6_broken_73 ?_
          refine lv_iload_n hx hb dX6_broken_76 rfl (lv_at hl 0 rfl) ?_
          obtain ⟨gm6, gc6, gf6, ga6, gb6, gk6, gn6, gd6, ge6⟩ := rep_get Hh Hr 2 (by decide) hk
          refine g_Vq (As := [.int (nI k)]) (rest := [.int (bitsI (brkB S T 0) k)]) F hP hS (k_get l A G w (ad 1 2) (ad 2 2) (S 0 2).toNat gc6 gm6 gf6 k ga6 gb6 gk6 gn6 gd6) (cwV 1 hts gX6_broken_Jx4a65c_get_915e3 rfl rfl rfl cd_Jx4a65c_get_915e3 ⟨by rw [hR]; exact Nat.le_of_ble_eq_true rfl, by rw [hR]; exact Nat.le_of_ble_eq_true rfl⟩) ga6 rfl rfl rfl hl.1 (Nat.le_of_ble_eq_true rfl) dX6_broken_77 ⟨by rw [hR]; exact Nat.le_of_ble_eq_true rfl, by rw [hR]; exact Nat.le_of_ble_eq_true rfl⟩ rfl (fun r7 w8 H locs h9 hP hS => ?_)
          have hr7 := h9.1
          rw [h9.2] at hP
          have f10 := rep_me Hh Hr hk
          rw [hr7, ge6, show va_rf (some (ad (elk 2) k)) = .ref (ad 6 k) from rfl]
          refine g_cast F hP (C := RX2) (T := TX2) (N := 3) f10 rfl (List.mem_cons_of_mem _ (List.mem_append_left _ (List.mem_append_left _ (List.mem_append_left _ (List.mem_append_left _ (List.mem_append_left _ (List.mem_append_left _ (List.mem_append_left _ (List.mem_append_left _ (List.mem_append_left _ (List.mem_of_getElem? (i := 4) rfl))))))))))) dX6_broken_80 ?_
          refine g_get F hP (C := RX2) (T := TX2) (N := 3) iX2 f10 rfl 2 (by decide) (List.mem_cons_of_mem _ (List.mem_append_left _ (List.mem_append_left _ (List.mem_append_left _ (List.mem_append_left _ (List.mem_append_left _ (List.mem_append_left _ (List.mem_append_left _ (List.mem_append_left _ (List.mem_append_left _ (List.mem_of_getElem? (i := 5) rfl))))))))))) (fun _ h9 => h9) rfl dX6_broken_83 ?_
          obtain ⟨ab, hab, TW⟩ := tieW_ofb Hh Hr Hi Ht (b := 0) (m := k) (by decide) hk
          have ft := TW.1
          have tb := Ht.1 _ (tSa_lt Hi (b := 0) (by decide) hk (tN 0 - 1))
          refine g_Vi (As := []) (rest := [.int (bitsI (brkB S T 0) k)]) F hP hS (k_X5_isBroken l A G w _ _ _ _ _ _ _ _ _ _ _ _ _ _ ab (tN 0 - 1) TW (tN_le _) (fun j _ => (tWt_le Hi (b := 0) (by decide) hk j).1) (fun pl hpl => tie_bd Hi Ht (b := 0) (by decide) hk hpl) (fun j _ => tie_sf Hh Hr Hi (b := 0) (by decide) hk j) (by decide) ⟨Nat.lt_of_le_of_lt tb.1 (by decide), by show (T 1 _).natAbs < _; omega⟩) (cwV 0 hts gX6_broken_X5_isBroken rfl rfl rfl cd_X5_isBroken ⟨by rw [hR]; exact Nat.le_of_ble_eq_true rfl, by rw [hR]; exact Nat.le_of_ble_eq_true rfl⟩) ft rfl rfl rfl hl.1 (Nat.le_of_ble_eq_true rfl) dX6_broken_86 ⟨by rw [hR]; exact Nat.le_of_ble_eq_true rfl, by rw [hR]; exact Nat.le_of_ble_eq_true rfl⟩ rfl (fun r11 w12 H locs h13 hP hS => ?_)
          obtain ⟨er, C1, u1, R1⟩ := broken_post Hh Hr Hi Ht (b := 0) (by decide) hk h13
          rw [er]
          refine lv_if_eq (tgt := 98) hx hb dX6_broken_89 (by decide) (fun c14 => ?_) (fun c14 => ?_)
          · have yc14 : brkB S T 0 k = false := g_b0.mp c14
            refine lv_iconst (v := 0) hx hb dX6_broken_98 (by decide) ?_
            refine lv_ior hx hb dX6_broken_99 ?_
            refine lv_topi (fun v15 ev15 => ?_)
            obtain rfl : v15 = bitsI (brkB S T 0) (k + 1) := by
              rw [ev15]
              show bitsI (brkB S T 0) k ||| 0 = if brkB S T 0 k then _ else _
              rw [yc14]
              simp
            refine lv_istore_n (lv' := [(2, .int (bitsI (brkB S T 0) (k + 1))), (3, .int (nI k)), (0, .ref (ad 0 0))]) hx hb dX6_broken_100 rfl hl (by decide) rfl (fun ls hl => ?_)
            obtain ⟨i16, ei16⟩ : ∃ y : Int32, y = nI k + (1) := ⟨_, rfl⟩
            refine lv_iinc (v := i16) (lv' := [(3, .int i16), (2, .int (bitsI (brkB S T 0) (k + 1))), (0, .ref (ad 0 0))]) hx hb dX6_broken_101 hl (k := 1) rfl (by rw [ei16]; rfl) (by decide) rfl (fun ls hl => ?_)
            obtain rfl : i16 = nI (k + 1) := by
              rw [ei16]
              exact nI_1 k
            refine lv_goto (tgt := 60) hx hb dX6_broken_104 (by decide) ?_
            exact ih_L60 (k + 1) C1 w12 H locs ls (by omega) (by omega) (u1.1) (R1) (upto_tr hu u1) hP hS (lv_sub hl [0, 1, 2] rfl)
          · have yc14 : brkB S T 0 k = true := g_b1.mp c14
            refine lv_iconst (v := 1) hx hb dX6_broken_92 (by decide) ?_
            refine lv_iload_n hx hb dX6_broken_93 rfl (lv_at hl 0 rfl) ?_
            refine lv_ishl hx hb dX6_broken_94 ?_
            refine lv_topi (fun v17 ev17 => ?_)
            obtain rfl : v17 = 1 <<< (nI k &&& 31) := by
              exact ev17
            refine lv_goto (tgt := 99) hx hb dX6_broken_95 (by decide) ?_
            refine lv_ior hx hb dX6_broken_99 ?_
            refine lv_topi (fun v18 ev18 => ?_)
            obtain rfl : v18 = bitsI (brkB S T 0) (k + 1) := by
              rw [ev18]
              show _ = if brkB S T 0 k then _ else _
              rw [yc14]
              rfl
            refine lv_istore_n (lv' := [(2, .int (bitsI (brkB S T 0) (k + 1))), (3, .int (nI k)), (0, .ref (ad 0 0))]) hx hb dX6_broken_100 rfl hl (by decide) rfl (fun ls hl => ?_)
            obtain ⟨i19, ei19⟩ : ∃ y : Int32, y = nI k + (1) := ⟨_, rfl⟩
            refine lv_iinc (v := i19) (lv' := [(3, .int i19), (2, .int (bitsI (brkB S T 0) (k + 1))), (0, .ref (ad 0 0))]) hx hb dX6_broken_101 hl (k := 1) rfl (by rw [ei19]; rfl) (by decide) rfl (fun ls hl => ?_)
            obtain rfl : i19 = nI (k + 1) := by
              rw [ei19]
              exact nI_1 k
            refine lv_goto (tgt := 60) hx hb dX6_broken_104 (by decide) ?_
            exact ih_L60 (k + 1) C1 w12 H locs ls (by omega) (by omega) (u1.1) (R1) (upto_tr hu u1) hP hS (lv_sub hl [0, 1, 2] rfl)
    exact L60 ((S 0 2).toNat + 1) 0 Cn w H locs ls (by omega) (by omega) (Hh) (Hr) (hu) hP hS (lv_sub hl [0, 1, 2] rfl)
  · have yc1 : ba = true := g_b1.mp c1
    refine lv_iconst (v := 0) hx hb dX6_broken_6 (by decide) ?_
    refine lv_istore_n (lv' := [(3, .int 0), (2, .int 0), (0, .ref (ad 0 0)), (1, .int (g_b ba))]) hx hb dX6_broken_7 rfl hl (by decide) rfl (fun ls hl => ?_)
    have L8 : ∀ (n : Nat) (k : Nat) (Cn : Nat → Nat → Option va_E) (w : g_W) (H : Heap) (locs : List Loc) (ls : Array Slot), (S 0 3).toNat + 1 ≤ k + n → ((k : Int) ≤ S 0 3) → (holds w ad Cn) → (rep G S T ad Cn) → (upto ad Cz wz w Cn) → g_P A G w H → va_S A s.heap H locs → lv_has ls 4 [(3, .int (nI k)), (2, .int (bitsI (brkB S T 1) k)), (0, .ref (ad 0 0))] → W p l e R s m args below meth c H locs (0) (0) Q (F0 m 8 ls []) := by
      intro n
      induction n with
      | zero =>
        intro k Cn w H locs ls hfu hkN Hh Hr hu hP hS hl
        exact absurd hfu (by omega)
      | succ n ih_L8 =>
        intro k Cn w H locs ls hfu hkN Hh Hr hu hP hS hl
        have hx0 := rep_x Hh Hr
        obtain ⟨m3, a3, hz3⟩ := rep_size Hh Hr 3 (by decide)
        refine lv_iload_n hx hb dX6_broken_8 rfl (lv_at hl 0 rfl) ?_
        refine lv_aload_n hx hb dX6_broken_9 rfl (lv_at hl 2 rfl) ?_
        refine g_get F hP (C := RX6) (T := TX6) (N := 6) iX6 hx0 rfl 3 (by decide) (List.mem_cons_of_mem _ (List.mem_append_left _ (List.mem_append_left _ (List.mem_append_left _ (List.mem_append_left _ (List.mem_append_left _ (List.mem_append_left _ (List.mem_append_left _ (List.mem_append_left _ (List.mem_append_left _ (List.mem_of_getElem? (i := 0) rfl))))))))))) (fun _ h9 => h9) rfl dX6_broken_10 ?_
        refine g_Vi (As := []) (rest := [.int (nI k)]) F hP hS (k_size l A G w (ad 1 3) a3 m3 (iL (S 0 3)) hz3) (cwV 0 hts gX6_broken_Jx4a65c_size_8abf5 rfl rfl rfl cd_Jx4a65c_size_8abf5 ⟨by rw [hR]; exact Nat.le_of_ble_eq_true rfl, by rw [hR]; exact Nat.le_of_ble_eq_true rfl⟩) hz3 rfl rfl rfl hl.1 (Nat.le_of_ble_eq_true rfl) dX6_broken_13 ⟨by rw [hR]; exact Nat.le_of_ble_eq_true rfl, by rw [hR]; exact Nat.le_of_ble_eq_true rfl⟩ rfl (fun r20 w21 H locs h22 hP hS => ?_)
        have hr20 := h22.1
        rw [h22.2] at hP
        rw [hr20]
        refine lv_icmp_ge (tgt := 55) hx hb dX6_broken_16 (by decide) (fun c23 => ?_) (fun c23 => ?_)
        · have zc23 : S 0 3 ≤ k := (iL_nle (by omega) (by omega) (by omega)).mp c23
          refine lv_goto (tgt := 107) hx hb dX6_broken_55 (by decide) ?_
          refine lv_iload_n hx hb dX6_broken_107 rfl (lv_at hl 1 rfl) ?_
          rw [hQ]
          refine g_iret F hP hS hlocks hr dX6_broken_108 (by first | exact Nat.le_of_ble_eq_true rfl | omega) (by first | exact Nat.le_of_ble_eq_true rfl | omega) ?_
          rw [eCz, ewz] at hu
          exact ⟨by unfold vlBroken; rw [yc1, show (S 0 3).toNat = k from by omega]; rfl, Cn, hu, Hr⟩
        · have hk : (k : Int) < S 0 3 := Int.not_le.mp (fun q => c23 ((iL_nle (z := S 0 3) (k := k) (by omega) (by omega) (by omega)).mpr q))
          refine lv_iload_n hx hb dX6_broken_19 rfl (lv_at hl 1 rfl) ?_
          refine lv_aload_n hx hb dX6_broken_20 rfl (lv_at hl 2 rfl) ?_
          refine g_get F hP (C := RX6) (T := TX6) (N := 6) iX6 hx0 rfl 3 (by decide) (List.mem_cons_of_mem _ (List.mem_append_left _ (List.mem_append_left _ (List.mem_append_left _ (List.mem_append_left _ (List.mem_append_left _ (List.mem_append_left _ (List.mem_append_left _ (List.mem_append_left _ (List.mem_append_left _ (List.mem_of_getElem? (i := 0) rfl))))))))))) (fun _ h9 => h9) rfl dX6_broken_21 ?_
          refine lv_iload_n hx hb dX6_broken_24 rfl (lv_at hl 0 rfl) ?_
          obtain ⟨gm24, gc24, gf24, ga24, gb24, gk24, gn24, gd24, ge24⟩ := rep_get Hh Hr 3 (by decide) hk
          refine g_Vq (As := [.int (nI k)]) (rest := [.int (bitsI (brkB S T 1) k)]) F hP hS (k_get l A G w (ad 1 3) (ad 2 3) (S 0 3).toNat gc24 gm24 gf24 k ga24 gb24 gk24 gn24 gd24) (cwV 1 hts gX6_broken_Jx4a65c_get_915e3 rfl rfl rfl cd_Jx4a65c_get_915e3 ⟨by rw [hR]; exact Nat.le_of_ble_eq_true rfl, by rw [hR]; exact Nat.le_of_ble_eq_true rfl⟩) ga24 rfl rfl rfl hl.1 (Nat.le_of_ble_eq_true rfl) dX6_broken_25 ⟨by rw [hR]; exact Nat.le_of_ble_eq_true rfl, by rw [hR]; exact Nat.le_of_ble_eq_true rfl⟩ rfl (fun r25 w26 H locs h27 hP hS => ?_)
          have hr25 := h27.1
          rw [h27.2] at hP
          have f28 := rep_pl Hh Hr hk
          rw [hr25, ge24, show va_rf (some (ad (elk 3) k)) = .ref (ad 11 k) from rfl]
          refine g_cast F hP (C := RX3) (T := TX3) (N := 2) f28 rfl (List.mem_cons_of_mem _ (List.mem_append_left _ (List.mem_append_left _ (List.mem_append_left _ (List.mem_append_left _ (List.mem_append_left _ (List.mem_append_left _ (List.mem_append_left _ (List.mem_append_left _ (List.mem_append_left _ (List.mem_of_getElem? (i := 1) rfl))))))))))) dX6_broken_28 ?_
          refine g_get F hP (C := RX3) (T := TX3) (N := 2) iX3 f28 rfl 1 (by decide) (List.mem_cons_of_mem _ (List.mem_append_left _ (List.mem_append_left _ (List.mem_append_left _ (List.mem_append_left _ (List.mem_append_left _ (List.mem_append_left _ (List.mem_append_left _ (List.mem_append_left _ (List.mem_append_left _ (List.mem_of_getElem? (i := 2) rfl))))))))))) (fun _ h9 => h9) rfl dX6_broken_31 ?_
          obtain ⟨ab, hab, TW⟩ := tieW_ofb Hh Hr Hi Ht (b := 1) (m := k) (by decide) hk
          have ft := TW.1
          have tb := Ht.1 _ (tSa_lt Hi (b := 1) (by decide) hk (tN 1 - 1))
          refine g_Vi (As := []) (rest := [.int (bitsI (brkB S T 1) k)]) F hP hS (k_X5_isBroken l A G w _ _ _ _ _ _ _ _ _ _ _ _ _ _ ab (tN 1 - 1) TW (tN_le _) (fun j _ => (tWt_le Hi (b := 1) (by decide) hk j).1) (fun pl hpl => tie_bd Hi Ht (b := 1) (by decide) hk hpl) (fun j _ => tie_sf Hh Hr Hi (b := 1) (by decide) hk j) (by decide) ⟨Nat.lt_of_le_of_lt tb.1 (by decide), by show (T 1 _).natAbs < _; omega⟩) (cwV 0 hts gX6_broken_X5_isBroken rfl rfl rfl cd_X5_isBroken ⟨by rw [hR]; exact Nat.le_of_ble_eq_true rfl, by rw [hR]; exact Nat.le_of_ble_eq_true rfl⟩) ft rfl rfl rfl hl.1 (Nat.le_of_ble_eq_true rfl) dX6_broken_34 ⟨by rw [hR]; exact Nat.le_of_ble_eq_true rfl, by rw [hR]; exact Nat.le_of_ble_eq_true rfl⟩ rfl (fun r29 w30 H locs h31 hP hS => ?_)
          obtain ⟨er, C1, u1, R1⟩ := broken_post Hh Hr Hi Ht (b := 1) (by decide) hk h31
          rw [er]
          refine lv_if_eq (tgt := 46) hx hb dX6_broken_37 (by decide) (fun c32 => ?_) (fun c32 => ?_)
          · have yc32 : brkB S T 1 k = false := g_b0.mp c32
            refine lv_iconst (v := 0) hx hb dX6_broken_46 (by decide) ?_
            refine lv_ior hx hb dX6_broken_47 ?_
            refine lv_topi (fun v33 ev33 => ?_)
            obtain rfl : v33 = bitsI (brkB S T 1) (k + 1) := by
              rw [ev33]
              show bitsI (brkB S T 1) k ||| 0 = if brkB S T 1 k then _ else _
              rw [yc32]
              simp
            refine lv_istore_n (lv' := [(2, .int (bitsI (brkB S T 1) (k + 1))), (3, .int (nI k)), (0, .ref (ad 0 0))]) hx hb dX6_broken_48 rfl hl (by decide) rfl (fun ls hl => ?_)
            obtain ⟨i34, ei34⟩ : ∃ y : Int32, y = nI k + (1) := ⟨_, rfl⟩
            refine lv_iinc (v := i34) (lv' := [(3, .int i34), (2, .int (bitsI (brkB S T 1) (k + 1))), (0, .ref (ad 0 0))]) hx hb dX6_broken_49 hl (k := 1) rfl (by rw [ei34]; rfl) (by decide) rfl (fun ls hl => ?_)
            obtain rfl : i34 = nI (k + 1) := by
              rw [ei34]
              exact nI_1 k
            refine lv_goto (tgt := 8) hx hb dX6_broken_52 (by decide) ?_
            exact ih_L8 (k + 1) C1 w30 H locs ls (by omega) (by omega) (u1.1) (R1) (upto_tr hu u1) hP hS (lv_sub hl [0, 1, 2] rfl)
          · have yc32 : brkB S T 1 k = true := g_b1.mp c32
            refine lv_iconst (v := 1) hx hb dX6_broken_40 (by decide) ?_
            refine lv_iload_n hx hb dX6_broken_41 rfl (lv_at hl 0 rfl) ?_
            refine lv_ishl hx hb dX6_broken_42 ?_
            refine lv_topi (fun v35 ev35 => ?_)
            obtain rfl : v35 = 1 <<< (nI k &&& 31) := by
              exact ev35
            refine lv_goto (tgt := 47) hx hb dX6_broken_43 (by decide) ?_
            refine lv_ior hx hb dX6_broken_47 ?_
            refine lv_topi (fun v36 ev36 => ?_)
            obtain rfl : v36 = bitsI (brkB S T 1) (k + 1) := by
              rw [ev36]
              show _ = if brkB S T 1 k then _ else _
              rw [yc32]
              rfl
            refine lv_istore_n (lv' := [(2, .int (bitsI (brkB S T 1) (k + 1))), (3, .int (nI k)), (0, .ref (ad 0 0))]) hx hb dX6_broken_48 rfl hl (by decide) rfl (fun ls hl => ?_)
            obtain ⟨i37, ei37⟩ : ∃ y : Int32, y = nI k + (1) := ⟨_, rfl⟩
            refine lv_iinc (v := i37) (lv' := [(3, .int i37), (2, .int (bitsI (brkB S T 1) (k + 1))), (0, .ref (ad 0 0))]) hx hb dX6_broken_49 hl (k := 1) rfl (by rw [ei37]; rfl) (by decide) rfl (fun ls hl => ?_)
            obtain rfl : i37 = nI (k + 1) := by
              rw [ei37]
              exact nI_1 k
            refine lv_goto (tgt := 8) hx hb dX6_broken_52 (by decide) ?_
            exact ih_L8 (k + 1) C1 w30 H locs ls (by omega) (by omega) (u1.1) (R1) (upto_tr hu u1) hP hS (lv_sub hl [0, 1, 2] rfl)
    exact L8 ((S 0 3).toNat + 1) 0 Cn w H locs ls (by omega) (by omega) (Hh) (Hr) (hu) hP hS (lv_sub hl [0, 1, 2] rfl)
