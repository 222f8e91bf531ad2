set_option maxHeartbeats 4000000 in
set_option maxRecDepth 100000 in
theorem k_X6_count (l : Launch) (hlt : l.stackTraces = false) (A : Nat → Prop) (G : g_C) (w : g_W) (ad : Nat → Nat → Nat) (Cn : Nat → Nat → Option va_E) (S T : Sg) (pn : Int32) (Hh : holds w ad Cn) (Hr : rep G S T ad Cn) (Hi : invS S) : xI l yX6_count wsX6_count ({ frames := 6, cells := 1, slots := 6, locals := 90 } : Room) [.ref (ad 0 0), .int pn] A G w (fun r w' => cdCount pn = 0 ∧ r = vlCount S pn ∧ w' = w) (fun u => u.2 = w ∧ ((u.1 = "java/lang/IndexOutOfBoundsException" ∧ cdCount pn = 1))) 1 6 := by
  refine g_xofI (cc := cX6_count) (maxL := 2) (ret := (some .int)) (own := RX6) (by decide) rfl rfl (Nat.le_of_ble_eq_true rfl) ?_
  intro p e R s m args below meth c Q ls hR F hP hS hlocks hr hout hQ hl
  obtain ⟨⟨hx, hb, hml, hown, hts⟩, hK, hZ, hA⟩ := id F
  generalize hH0 : s.heap = H at hP ⊢
  have hS : va_S A s.heap H [] := by rw [← hH0]; exact va_S.rf
  generalize ([] : List Loc) = locs at hS ⊢
  have hl : lv_has ls 2 [(0, .ref (ad 0 0)), (1, .int pn)] := hl
  have iX6 : ∀ w ∈ u_ws RX6 TX6 6, w ∈ wsX6_count := fun w h => List.mem_cons_of_mem _ (List.mem_append_left _ (List.mem_append_left _ (List.mem_append_right _ (h))))
  have hx0 := rep_x Hh Hr
  obtain ⟨m0, a0, hz0⟩ := rep_size Hh Hr 0 (by decide)
  obtain ⟨m1, a1, hz1⟩ := rep_size Hh Hr 1 (by decide)
  obtain ⟨m2, a2, hz2⟩ := rep_size Hh Hr 2 (by decide)
  obtain ⟨m3, a3, hz3⟩ := rep_size Hh Hr 3 (by decide)
  have hi := Hi.1
  refine lv_iload_n hx hb dX6_count_0 rfl (lv_at hl 1 rfl) ?_
  by_cases t1 : (pn).toInt < 0 ∨ (pn).toInt > 3
  · refine lv_tsOut (tgt := 64) hx hb dX6_count_1 t1 (by decide) ?_
    rw [hQ]
    refine g_throw F hP hS hlt rfl (hZ.2.2.2.2.2.2.2.1 ("java/lang/IndexOutOfBoundsException", "java/lang/IndexOutOfBoundsException") (List.mem_of_getElem? (i := 2) rfl)) (by decide +kernel) (List.mem_cons_of_mem _ (List.mem_append_left _ (List.mem_append_left _ (List.mem_append_left _ (List.mem_of_getElem? (i := 0) rfl))))) (List.mem_cons_of_mem _ (List.mem_append_left _ (List.mem_append_left _ (List.mem_append_left _ (List.mem_of_getElem? (i := 1) rfl))))) (cls := "java/lang/IndexOutOfBoundsException") (text := "nothing of that kind is counted") (List.mem_of_getElem? (i := 5) rfl) (fun w h => List.mem_cons_of_mem _ (List.mem_append_right _ (h))) xt_IndexOutO_136_b (fun w h => (List.mem_cons.mp h).elim (fun e => by rw [e]; rfl) (fun h => (List.mem_cons.mp h).elim (fun e => by rw [e]; rfl) (fun h => xt_IndexOutO_136_g w h))) hl.1 dX6_count_64 dX6_count_67 dX6_count_68 dX6_count_70 dX6_count_73 hout (by rw [hR]; exact Nat.le_of_ble_eq_true rfl) (by rw [hR]; exact Nat.le_of_ble_eq_true rfl) (by rw [hR]; exact Nat.le_of_ble_eq_true rfl) (by rw [hR]; exact Nat.le_of_ble_eq_true rfl) hlocks ?_ (by decide) (by decide)
    exact ⟨rfl, rfl, if_neg (fun q => by obtain ⟨q1, q2⟩ := q; omega)⟩
  · by_cases t2 : (pn).toInt = 0
    · refine lv_tsIn (off := 31) (tgt := 32) hx hb dX6_count_1 t1 (by rw [t2]; rfl) (by decide) ?_
      refine lv_aload_n hx hb dX6_count_32 rfl (lv_at hl 0 rfl) ?_
      refine g_get F hP (C := RX6) (T := TX6) (N := 6) iX6 hx0 rfl 0 (by decide) (List.mem_cons_of_mem _ (List.mem_append_left _ (List.mem_append_left _ (List.mem_append_left _ (List.mem_of_getElem? (i := 2) rfl))))) (fun _ h9 => h9) rfl dX6_count_33 ?_
      refine g_Vi (As := []) (rest := []) F hP hS (k_size l A G w (ad 1 0) a0 m0 (iL (S 0 0)) hz0) (cwV 0 hts gX6_count_Jx4a65c_size_8abf5 rfl rfl rfl cd_Jx4a65c_size_8abf5 ⟨by rw [hR]; exact Nat.le_of_ble_eq_true rfl, by rw [hR]; exact Nat.le_of_ble_eq_true rfl⟩) hz0 rfl rfl rfl hl.1 (Nat.le_of_ble_eq_true rfl) dX6_count_36 ⟨by rw [hR]; exact Nat.le_of_ble_eq_true rfl, by rw [hR]; exact Nat.le_of_ble_eq_true rfl⟩ rfl (fun r3 w4 H locs h5 hP hS => ?_)
      have hr3 := h5.1
      rw [h5.2] at hP
      rw [hr3]
      rw [hQ]
      refine g_xiret F hP hS hlocks hr dX6_count_39 (by first | exact Nat.le_of_ble_eq_true rfl | omega) (by first | exact Nat.le_of_ble_eq_true rfl | omega) ?_
      refine ⟨if_pos ⟨by omega, by omega⟩, ?_, rfl⟩
      unfold vlCount kN
      rw [t2]
      rfl
    by_cases t6 : (pn).toInt = 1
    · refine lv_tsIn (off := 39) (tgt := 40) hx hb dX6_count_1 t1 (by rw [t6]; rfl) (by decide) ?_
      refine lv_aload_n hx hb dX6_count_40 rfl (lv_at hl 0 rfl) ?_
      refine g_get F hP (C := RX6) (T := TX6) (N := 6) iX6 hx0 rfl 1 (by decide) (List.mem_cons_of_mem _ (List.mem_append_left _ (List.mem_append_left _ (List.mem_append_left _ (List.mem_of_getElem? (i := 3) rfl))))) (fun _ h9 => h9) rfl dX6_count_41 ?_
      refine g_Vi (As := []) (rest := []) F hP hS (k_size l A G w (ad 1 1) a1 m1 (iL (S 0 1)) hz1) (cwV 0 hts gX6_count_Jx4a65c_size_8abf5 rfl rfl rfl cd_Jx4a65c_size_8abf5 ⟨by rw [hR]; exact Nat.le_of_ble_eq_true rfl, by rw [hR]; exact Nat.le_of_ble_eq_true rfl⟩) hz1 rfl rfl rfl hl.1 (Nat.le_of_ble_eq_true rfl) dX6_count_44 ⟨by rw [hR]; exact Nat.le_of_ble_eq_true rfl, by rw [hR]; exact Nat.le_of_ble_eq_true rfl⟩ rfl (fun r7 w8 H locs h9 hP hS => ?_)
      have hr7 := h9.1
      rw [h9.2] at hP
      rw [hr7]
      rw [hQ]
      refine g_xiret F hP hS hlocks hr dX6_count_47 (by first | exact Nat.le_of_ble_eq_true rfl | omega) (by first | exact Nat.le_of_ble_eq_true rfl | omega) ?_
      refine ⟨if_pos ⟨by omega, by omega⟩, ?_, rfl⟩
      unfold vlCount kN
      rw [t6]
      rfl
    by_cases t10 : (pn).toInt = 2
    · refine lv_tsIn (off := 47) (tgt := 48) hx hb dX6_count_1 t1 (by rw [t10]; rfl) (by decide) ?_
      refine lv_aload_n hx hb dX6_count_48 rfl (lv_at hl 0 rfl) ?_
      refine g_get F hP (C := RX6) (T := TX6) (N := 6) iX6 hx0 rfl 2 (by decide) (List.mem_cons_of_mem _ (List.mem_append_left _ (List.mem_append_left _ (List.mem_append_left _ (List.mem_of_getElem? (i := 4) rfl))))) (fun _ h9 => h9) rfl dX6_count_49 ?_
      refine g_Vi (As := []) (rest := []) F hP hS (k_size l A G w (ad 1 2) a2 m2 (iL (S 0 2)) hz2) (cwV 0 hts gX6_count_Jx4a65c_size_8abf5 rfl rfl rfl cd_Jx4a65c_size_8abf5 ⟨by rw [hR]; exact Nat.le_of_ble_eq_true rfl, by rw [hR]; exact Nat.le_of_ble_eq_true rfl⟩) hz2 rfl rfl rfl hl.1 (Nat.le_of_ble_eq_true rfl) dX6_count_52 ⟨by rw [hR]; exact Nat.le_of_ble_eq_true rfl, by rw [hR]; exact Nat.le_of_ble_eq_true rfl⟩ rfl (fun r11 w12 H locs h13 hP hS => ?_)
      have hr11 := h13.1
      rw [h13.2] at hP
      rw [hr11]
      rw [hQ]
      refine g_xiret F hP hS hlocks hr dX6_count_55 (by first | exact Nat.le_of_ble_eq_true rfl | omega) (by first | exact Nat.le_of_ble_eq_true rfl | omega) ?_
      refine ⟨if_pos ⟨by omega, by omega⟩, ?_, rfl⟩
      unfold vlCount kN
      rw [t10]
      rfl
    by_cases t14 : (pn).toInt = 3
    · refine lv_tsIn (off := 55) (tgt := 56) hx hb dX6_count_1 t1 (by rw [t14]; rfl) (by decide) ?_
      refine lv_aload_n hx hb dX6_count_56 rfl (lv_at hl 0 rfl) ?_
      refine g_get F hP (C := RX6) (T := TX6) (N := 6) iX6 hx0 rfl 3 (by decide) (List.mem_cons_of_mem _ (List.mem_append_left _ (List.mem_append_left _ (List.mem_append_left _ (List.mem_of_getElem? (i := 5) rfl))))) (fun _ h9 => h9) rfl dX6_count_57 ?_
      refine g_Vi (As := []) (rest := []) F hP hS (k_size l A G w (ad 1 3) a3 m3 (iL (S 0 3)) hz3) (cwV 0 hts gX6_count_Jx4a65c_size_8abf5 rfl rfl rfl cd_Jx4a65c_size_8abf5 ⟨by rw [hR]; exact Nat.le_of_ble_eq_true rfl, by rw [hR]; exact Nat.le_of_ble_eq_true rfl⟩) hz3 rfl rfl rfl hl.1 (Nat.le_of_ble_eq_true rfl) dX6_count_60 ⟨by rw [hR]; exact Nat.le_of_ble_eq_true rfl, by rw [hR]; exact Nat.le_of_ble_eq_true rfl⟩ rfl (fun r15 w16 H locs h17 hP hS => ?_)
      have hr15 := h17.1
      rw [h17.2] at hP
      rw [hr15]
      rw [hQ]
      refine g_xiret F hP hS hlocks hr dX6_count_63 (by first | exact Nat.le_of_ble_eq_true rfl | omega) (by first | exact Nat.le_of_ble_eq_true rfl | omega) ?_
      refine ⟨if_pos ⟨by omega, by omega⟩, ?_, rfl⟩
      unfold vlCount kN
      rw [t14]
      rfl
    exact absurd t1 (by omega)
