theorem cd_X1_overlaps : yX1_overlaps.cls = RX1 ∧ yX1_overlaps.cls ≠ "java/lang/invoke/MethodHandle" ∧ yX1_overlaps.cls ≠ "java/lang/invoke/VarHandle" ∧ (parseMethodDescriptor yX1_overlaps.desc).map (fun d => d.parameters.length) = some 1 := by decide +kernel
theorem cd_X6_areMeshed : yX6_areMeshed.cls = RX6 ∧ yX6_areMeshed.cls ≠ "java/lang/invoke/MethodHandle" ∧ yX6_areMeshed.cls ≠ "java/lang/invoke/VarHandle" ∧ (parseMethodDescriptor yX6_areMeshed.desc).map (fun d => d.parameters.length) = some 2 := by decide +kernel
set_option maxHeartbeats 4000000 in
set_option maxRecDepth 100000 in
theorem k_X6_doCollide (l : Launch) (A : Nat → Prop) (G : g_C) (w : g_W) (ad : Nat → Nat → Nat) (Cn : Nat → Nat → Option va_E) (S T : Sg) (ga gb : Nat) (Hh : holds w ad Cn) (Hr : rep G S T ad Cn) (Hi : invS S) (hga : (ga : Int) < S 0 1) (hgb : (gb : Int) < S 0 1) : mI l yX6_doCollide wsX6_doCollide ({ frames := 4, cells := 0, slots := 0, locals := 87 } : Room) [.ref (ad 0 0), .ref (ad 5 ga), .ref (ad 5 gb)] A G w (fun r w' => r = g_b (collB S ga gb) ∧ w' = w) 0 0 := by
  refine g_ofI (cc := cX6_doCollide) (maxL := 3) (ret := (some .boolean)) (own := RX6) (by decide) rfl rfl (Nat.le_of_ble_eq_true rfl) ?_
  intro p e R s m args below meth c Q ls hR F hP hS hlocks hr hnm0 hQ hl
  obtain ⟨⟨hx, hb, hml, hown, hts⟩, hK, hZ, hA⟩ := id F
  generalize hH0 : s.heap = H at hP ⊢
  have hS : va_S A s.heap H [] := by rw [← hH0]; exact va_S.rf
  generalize ([] : List Loc) = locs at hS ⊢
  have hl : lv_has ls 3 [(0, .ref (ad 0 0)), (1, .ref (ad 5 ga)), (2, .ref (ad 5 gb))] := hl
  have hx0 := rep_x Hh Hr
  obtain ⟨m2, a2, hz2⟩ := rep_size Hh Hr 2 (by decide)
  have hi := Hi.1
  have fg1 := rep_ge Hh Hr hga
  obtain ⟨rb1, erb1, hb1⟩ := g_bi (Hi.2.2.1 _ hga).2.2.2.2.2.2.2.2
  rw [erb1] at fg1
  have hsf1 : (((S 4 ga).toNat : Nat) : Int) < S 0 0 := by have := Hi.2.2.1 _ hga; omega
  have fs1 := rep_sh Hh Hr hsf1
  have fg2 := rep_ge Hh Hr hgb
  obtain ⟨rb2, erb2, hb2⟩ := g_bi (Hi.2.2.1 _ hgb).2.2.2.2.2.2.2.2
  rw [erb2] at fg2
  have hsf2 : (((S 4 gb).toNat : Nat) : Int) < S 0 0 := by have := Hi.2.2.1 _ hgb; omega
  have fs2 := rep_sh Hh Hr hsf2
  refine lv_aload_n hx hb dX6_doCollide_0 rfl (lv_at hl 1 rfl) ?_
  refine lv_aload_n hx hb dX6_doCollide_1 rfl (lv_at hl 2 rfl) ?_
  refine g_Vi (As := [.ref (ad 5 gb)]) (rest := []) F hP hS (k_X1_overlaps l A G w (ad 5 ga) (ad 5 gb) _ _ _ _ rb1 _ _ _ _ rb2 _ _ _ _ _ _ _ _ _ _ fg1 fg2 fs1 fs2) (cwV 1 hts gX6_doCollide_X1_overlaps rfl rfl rfl cd_X1_overlaps ⟨by rw [hR]; exact Nat.le_of_ble_eq_true rfl, by rw [hR]; exact Nat.le_of_ble_eq_true rfl⟩) fg1 rfl rfl rfl hl.1 (Nat.le_of_ble_eq_true rfl) dX6_doCollide_2 ⟨by rw [hR]; exact Nat.le_of_ble_eq_true rfl, by rw [hR]; exact Nat.le_of_ble_eq_true rfl⟩ rfl (fun r1 w2 H locs h3 hP hS => ?_)
  have hr1 := h3.1
  rw [h3.2] at hP
  rw [hr1]
  refine lv_if_eq (tgt := 21) hx hb dX6_doCollide_5 (by decide) (fun c4 => ?_) (fun c4 => ?_)
  · have yc4 := of_decide_eq_false (g_b0.mp c4)
    rw [ov32 Hh Hr Hi hga hgb hb1 hb2] at yc4
    refine lv_iconst (v := 0) hx hb dX6_doCollide_21 (by decide) ?_
    rw [hQ]
    refine g_zret F hP hS hlocks hr (by first | rfl | exact g_nb _) dX6_doCollide_22 (by first | exact Nat.le_of_ble_eq_true rfl | omega) (by first | exact Nat.le_of_ble_eq_true rfl | omega) ?_
    exact ⟨by rw [collB_f (fun q => yc4 q.1)]; rfl, rfl⟩
  · have yc4 := of_decide_eq_true (g_b1.mp c4)
    rw [ov32 Hh Hr Hi hga hgb hb1 hb2] at yc4
    refine lv_aload_n hx hb dX6_doCollide_8 rfl (lv_at hl 0 rfl) ?_
    refine lv_aload_n hx hb dX6_doCollide_9 rfl (lv_at hl 1 rfl) ?_
    refine lv_aload_n hx hb dX6_doCollide_10 rfl (lv_at hl 2 rfl) ?_
    refine g_Vi (As := [.ref (ad 5 ga), .ref (ad 5 gb)]) (rest := []) F hP hS (k_X6_areMeshed l A G w ad Cn S T ga gb Hh Hr Hi hga hgb) (cwV 2 hts gX6_doCollide_X6_areMeshed rfl rfl rfl cd_X6_areMeshed ⟨by rw [hR]; exact Nat.le_of_ble_eq_true rfl, by rw [hR]; exact Nat.le_of_ble_eq_true rfl⟩) hx0 rfl rfl rfl hl.1 (Nat.le_of_ble_eq_true rfl) dX6_doCollide_11 ⟨by rw [hR]; exact Nat.le_of_ble_eq_true rfl, by rw [hR]; exact Nat.le_of_ble_eq_true rfl⟩ rfl (fun r5 w6 H locs h7 hP hS => ?_)
    obtain ⟨b0, eb0, hb0⟩ := h7.1
    rw [h7.2] at hP
    rw [eb0]
    refine lv_if_ne (tgt := 21) hx hb dX6_doCollide_14 (by decide) (fun c8 => ?_) (fun c8 => ?_)
    · have yc8 : b0 = true := g_b1.mp c8
      refine lv_iconst (v := 0) hx hb dX6_doCollide_21 (by decide) ?_
      rw [hQ]
      refine g_zret F hP hS hlocks hr (by first | rfl | exact g_nb _) dX6_doCollide_22 (by first | exact Nat.le_of_ble_eq_true rfl | omega) (by first | exact Nat.le_of_ble_eq_true rfl | omega) ?_
      exact ⟨by rw [collB_f (fun q => q.2 (hb0.mp yc8))]; rfl, rfl⟩
    · have yc8 : b0 = false := g_b0.mp c8
      refine lv_iconst (v := 1) hx hb dX6_doCollide_17 (by decide) ?_
      refine lv_goto (tgt := 22) hx hb dX6_doCollide_18 (by decide) ?_
      rw [hQ]
      refine g_zret F hP hS hlocks hr (by first | rfl | exact g_nb _) dX6_doCollide_22 (by first | exact Nat.le_of_ble_eq_true rfl | omega) (by first | exact Nat.le_of_ble_eq_true rfl | omega) ?_
      exact ⟨by rw [collB_t.mpr ⟨yc4, fun q => by rw [hb0.mpr q] at yc8; cases yc8⟩]; rfl, rfl⟩
