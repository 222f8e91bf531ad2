set_option maxHeartbeats 4000000 in
set_option maxRecDepth 100000 in
theorem k_X6_distance (l : Launch) (hlt : l.stackTraces = false) (A : Nat → Prop) (G : g_C) (w : g_W) (ad : Nat → Nat → Nat) (Cn : Nat → Nat → Option va_E) (S T : Sg) (pn : Int32) (Hh : holds w ad Cn) (Hr : rep G S T ad Cn) (Hi : invS S) : xI l yX6_distance wsX6_distance ({ frames := 6, cells := 1, slots := 6, locals := 90 } : Room) [.ref (ad 0 0), .int pn] A G w (fun r w' => cdMeshN S pn = 0 ∧ r = vlDist S pn ∧ w' = w) (fun u => u.2 = w ∧ ((u.1 = "java/lang/IndexOutOfBoundsException" ∧ cdMeshN S pn = 1))) 1 6 := by
  refine g_xofI (cc := cX6_distance) (maxL := 2) (ret := (some .int)) (own := RX6) (by decide) rfl rfl (Nat.le_of_ble_eq_true rfl) ?_
  intro p e R s m args below meth c Q ls hR F hP hS hlocks hr hout hQ hl
  obtain ⟨⟨hx, hb, hml, hown, hts⟩, hK, hZ, hA⟩ := id F
  generalize hH0 : s.heap = H at hP ⊢
  have hS : va_S A s.heap H [] := by rw [← hH0]; exact va_S.rf
  generalize ([] : List Loc) = locs at hS ⊢
  have hl : lv_has ls 2 [(0, .ref (ad 0 0)), (1, .int pn)] := hl
  have iX6 : ∀ w ∈ u_ws RX6 TX6 6, w ∈ wsX6_distance := fun w h => List.mem_cons_of_mem _ (List.mem_append_left _ (List.mem_append_left _ (List.mem_append_left _ (List.mem_append_left _ (List.mem_append_right _ (h))))))
  have hx0 := rep_x Hh Hr
  obtain ⟨m2, a2, hz2⟩ := rep_size Hh Hr 2 (by decide)
  have hi := Hi.1
  have k1 : (0 ≤ pn) ↔ 0 ≤ pn.toInt := by rw [Int32.le_iff_toInt_le]; rfl
  have k2 : (pn ≤ iL (S 0 2 - 1)) ↔ pn.toInt < S 0 2 := by rw [Int32.le_iff_toInt_le, iL_t (by omega) (by omega)]; omega
  refine lv_iload_n hx hb dX6_distance_0 rfl (lv_at hl 1 rfl) ?_
  refine lv_iconst (v := 0) hx hb dX6_distance_1 (by decide) ?_
  refine lv_aload_n hx hb dX6_distance_2 rfl (lv_at hl 0 rfl) ?_
  refine g_get F hP (C := RX6) (T := TX6) (N := 6) iX6 hx0 rfl 2 (by decide) (List.mem_cons_of_mem _ (List.mem_append_left _ (List.mem_append_left _ (List.mem_append_left _ (List.mem_append_left _ (List.mem_append_left _ (List.mem_append_left _ (List.mem_of_getElem? (i := 2) rfl)))))))) (fun _ h9 => h9) rfl dX6_distance_3 ?_
  refine g_Vi (As := []) (rest := [.int 0, .int pn]) F hP hS (k_size l A G w (ad 1 2) a2 m2 (iL (S 0 2)) hz2) (cwV 0 hts gX6_distance_Jx4a65c_size_8abf5 rfl rfl rfl cd_Jx4a65c_size_8abf5 ⟨by rw [hR]; exact Nat.le_of_ble_eq_true rfl, by rw [hR]; exact Nat.le_of_ble_eq_true rfl⟩) hz2 rfl rfl rfl hl.1 (Nat.le_of_ble_eq_true rfl) dX6_distance_6 ⟨by rw [hR]; exact Nat.le_of_ble_eq_true rfl, by rw [hR]; exact Nat.le_of_ble_eq_true rfl⟩ rfl (fun r1 w2 H locs h3 hP hS => ?_)
  have hr1 := h3.1
  rw [h3.2] at hP
  rw [hr1]
  refine lv_iconst (v := 1) hx hb dX6_distance_9 (by decide) ?_
  refine lv_isub hx hb dX6_distance_10 ?_
  refine lv_topi (fun v4 ev4 => ?_)
  obtain rfl : v4 = iL (S 0 2 - 1) := by
    rw [ev4]
    exact iL_sub _ 1
  refine g_Si (As := [.int pn, .int 0, .int (iL (S 0 2 - 1))]) (rest := []) F hP hS (k_X6_isWithin l A G w pn 0 (iL (S 0 2 - 1))) (va_cwS 3 hts gX6_distance_X6_isWithin rfl rfl rfl cd_X6_isWithin ⟨by rw [hR]; exact Nat.le_of_ble_eq_true rfl, by rw [hR]; exact Nat.le_of_ble_eq_true rfl⟩) rfl hl.1 (Nat.le_of_ble_eq_true rfl) dX6_distance_11 ⟨by rw [hR]; exact Nat.le_of_ble_eq_true rfl, by rw [hR]; exact Nat.le_of_ble_eq_true rfl⟩ rfl (fun r5 w6 H locs h7 hP hS => ?_)
  have hr5 := h7.1
  rw [h7.2] at hP
  rw [hr5]
  refine lv_if_ne (tgt := 27) hx hb dX6_distance_14 (by decide) (fun c8 => ?_) (fun c8 => ?_)
  · have yc8 := of_decide_eq_true (g_b1.mp c8)
    rw [k1, k2] at yc8
    obtain ⟨k, hk, ek⟩ := ix_of yc8.1 yc8.2
    subst ek
    have nk : kN (nI k) = k := kN_n (by omega)
    refine lv_aload_n hx hb dX6_distance_27 rfl (lv_at hl 0 rfl) ?_
    refine g_get F hP (C := RX6) (T := TX6) (N := 6) iX6 hx0 rfl 2 (by decide) (List.mem_cons_of_mem _ (List.mem_append_left _ (List.mem_append_left _ (List.mem_append_left _ (List.mem_append_left _ (List.mem_append_left _ (List.mem_append_left _ (List.mem_of_getElem? (i := 2) rfl)))))))) (fun _ h9 => h9) rfl dX6_distance_28 ?_
    refine lv_iload_n hx hb dX6_distance_31 rfl (lv_at hl 1 rfl) ?_
    obtain ⟨gm9, gc9, gf9, ga9, gb9, gk9, gn9, gd9, ge9⟩ := rep_get Hh Hr 2 (by decide) hk
    refine g_Vq (As := [.int (nI k)]) (rest := []) F hP hS (k_get l A G w (ad 1 2) (ad 2 2) (S 0 2).toNat gc9 gm9 gf9 k ga9 gb9 gk9 gn9 gd9) (cwV 1 hts gX6_distance_Jx4a65c_get_915e3 rfl rfl rfl cd_Jx4a65c_get_915e3 ⟨by rw [hR]; exact Nat.le_of_ble_eq_true rfl, by rw [hR]; exact Nat.le_of_ble_eq_true rfl⟩) ga9 rfl rfl rfl hl.1 (Nat.le_of_ble_eq_true rfl) dX6_distance_32 ⟨by rw [hR]; exact Nat.le_of_ble_eq_true rfl, by rw [hR]; exact Nat.le_of_ble_eq_true rfl⟩ rfl (fun r10 w11 H locs h12 hP hS => ?_)
    have hr10 := h12.1
    rw [h12.2] at hP
    have f13 := rep_me Hh Hr hk
    rw [hr10, ge9, show va_rf (some (ad (elk 2) k)) = .ref (ad 6 k) from rfl]
    refine g_cast F hP (C := RX2) (T := TX2) (N := 3) f13 rfl (List.mem_cons_of_mem _ (List.mem_append_left _ (List.mem_append_left _ (List.mem_append_left _ (List.mem_append_left _ (List.mem_append_left _ (List.mem_append_left _ (List.mem_of_getElem? (i := 3) rfl)))))))) dX6_distance_35 ?_
    obtain ⟨ma1, ma2, ma3, ma4, ma5⟩ := Hi.2.2.2.1 k hk
    have hg1 : (((S 9 k).toNat : Nat) : Int) < S 0 1 := by omega
    have fg1 := rep_ge Hh Hr hg1
    obtain ⟨rb1, erb1, hb1⟩ := g_bi (Hi.2.2.1 _ hg1).2.2.2.2.2.2.2.2
    rw [erb1] at fg1
    have hg2 : (((S 10 k).toNat : Nat) : Int) < S 0 1 := by omega
    have fg2 := rep_ge Hh Hr hg2
    obtain ⟨rb2, erb2, hb2⟩ := g_bi (Hi.2.2.1 _ hg2).2.2.2.2.2.2.2.2
    rw [erb2] at fg2
    refine g_Vi (As := []) (rest := []) F hP hS (k_X2_length l A G w (ad 6 k) _ _ _ _ _ _ _ rb1 _ _ _ _ rb2 f13 fg1 fg2) (cwV 0 hts gX6_distance_X2_length rfl rfl rfl cd_X2_length ⟨by rw [hR]; exact Nat.le_of_ble_eq_true rfl, by rw [hR]; exact Nat.le_of_ble_eq_true rfl⟩) f13 rfl rfl rfl hl.1 (Nat.le_of_ble_eq_true rfl) dX6_distance_38 ⟨by rw [hR]; exact Nat.le_of_ble_eq_true rfl, by rw [hR]; exact Nat.le_of_ble_eq_true rfl⟩ rfl (fun r14 w15 H locs h16 hP hS => ?_)
    have hr14 := h16.1
    rw [h16.2] at hP
    rw [hr14]
    rw [hQ]
    refine g_xiret F hP hS hlocks hr dX6_distance_41 (by first | exact Nat.le_of_ble_eq_true rfl | omega) (by first | exact Nat.le_of_ble_eq_true rfl | omega) ?_
    exact ⟨if_pos yc8, by unfold vlDist; rw [nk]; exact len32 Hi hk hb1 hb2, rfl⟩
  · have yc8 := of_decide_eq_false (g_b0.mp c8)
    rw [k1, k2] at yc8
    rw [hQ]
    refine g_throw F hP hS hlt rfl (hZ.2.2.2.2.2.2.2.1 ("java/lang/IndexOutOfBoundsException", "java/lang/IndexOutOfBoundsException") (List.mem_of_getElem? (i := 2) rfl)) (by decide +kernel) (List.mem_cons_of_mem _ (List.mem_append_left _ (List.mem_append_left _ (List.mem_append_left _ (List.mem_append_left _ (List.mem_append_left _ (List.mem_append_left _ (List.mem_of_getElem? (i := 0) rfl)))))))) (List.mem_cons_of_mem _ (List.mem_append_left _ (List.mem_append_left _ (List.mem_append_left _ (List.mem_append_left _ (List.mem_append_left _ (List.mem_append_left _ (List.mem_of_getElem? (i := 1) rfl)))))))) (cls := "java/lang/IndexOutOfBoundsException") (text := "no such mesh") (List.mem_of_getElem? (i := 13) rfl) (fun w h => List.mem_cons_of_mem _ (List.mem_append_right _ (h))) xt_IndexOutO_136_b (fun w h => (List.mem_cons.mp h).elim (fun e => by rw [e]; rfl) (fun h => (List.mem_cons.mp h).elim (fun e => by rw [e]; rfl) (fun h => xt_IndexOutO_136_g w h))) hl.1 dX6_distance_17 dX6_distance_20 dX6_distance_21 dX6_distance_23 dX6_distance_26 hout (by rw [hR]; exact Nat.le_of_ble_eq_true rfl) (by rw [hR]; exact Nat.le_of_ble_eq_true rfl) (by rw [hR]; exact Nat.le_of_ble_eq_true rfl) (by rw [hR]; exact Nat.le_of_ble_eq_true rfl) hlocks ?_ (by decide) (by decide)
    exact ⟨rfl, rfl, if_neg yc8⟩
