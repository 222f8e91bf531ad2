theorem cd_Jx4a65c_isEmpty_aae02 : yJx4a65c_isEmpty_aae02.cls = RJx4a65c ∧ yJx4a65c_isEmpty_aae02.cls ≠ "java/lang/invoke/MethodHandle" ∧ yJx4a65c_isEmpty_aae02.cls ≠ "java/lang/invoke/VarHandle" ∧ (parseMethodDescriptor yJx4a65c_isEmpty_aae02.desc).map (fun d => d.parameters.length) = some 0 := by decide +kernel
theorem cd_Jx4a65c_remove_915e3 : yJx4a65c_remove_915e3.cls = RJx4a65c ∧ yJx4a65c_remove_915e3.cls ≠ "java/lang/invoke/MethodHandle" ∧ yJx4a65c_remove_915e3.cls ≠ "java/lang/invoke/VarHandle" ∧ (parseMethodDescriptor yJx4a65c_remove_915e3.desc).map (fun d => d.parameters.length) = some 1 := by decide +kernel
set_option maxHeartbeats 4000000 in
set_option maxRecDepth 100000 in
theorem k_X6_unmesh (l : Launch) (hlt : l.stackTraces = false) (A : Nat → Prop) (G : g_C) (w : g_W) (ad : Nat → Nat → Nat) (Cn : Nat → Nat → Option va_E) (S T : Sg) (Hh : holds w ad Cn) (Hr : rep G S T ad Cn) (Hi : invS S) (Ht : invT S T) (Ha : agr S T) : xI l yX6_unmesh wsX6_unmesh ({ frames := 6, cells := 1, slots := 6, locals := 162 } : Room) [.ref (ad 0 0)] A G w (fun r w' => cdUnmesh S = 0 ∧ r = vlUnmesh S ∧ after G w ad Cn w' (nxUnmesh S)) (fun u => u.2 = w ∧ ((u.1 = "java/lang/IllegalStateException" ∧ cdUnmesh S = 1))) 1 6 := by
  refine g_xofI (cc := cX6_unmesh) (maxL := 1) (ret := (some .int)) (own := RX6) (by decide) rfl rfl (Nat.le_of_ble_eq_true rfl) ?_
  intro p e R s m args below meth c Q ls hR F hP hS hlocks hr hout hQ hl
  obtain ⟨⟨hx, hb, hml, hown, hts⟩, hK, hZ, hA⟩ := id F
  generalize hH0 : s.heap = H at hP ⊢
  have hS : va_S A s.heap H [] := by rw [← hH0]; exact va_S.rf
  generalize ([] : List Loc) = locs at hS ⊢
  have hl : lv_has ls 1 [(0, .ref (ad 0 0))] := hl
  have iX6 : ∀ w ∈ u_ws RX6 TX6 6, w ∈ wsX6_unmesh := fun w h => List.mem_cons_of_mem _ (List.mem_append_left _ (List.mem_append_left _ (List.mem_append_left _ (List.mem_append_left _ (List.mem_append_left _ (List.mem_append_left _ (List.mem_append_left _ (List.mem_append_left _ (List.mem_append_right _ (h))))))))))
  have hx0 := rep_x Hh Hr
  obtain ⟨m2, a2, hz2⟩ := rep_size Hh Hr 2 (by decide)
  have hi := Hi.1
  refine lv_aload_n hx hb dX6_unmesh_0 rfl (lv_at hl 0 rfl) ?_
  refine g_get F hP (C := RX6) (T := TX6) (N := 6) iX6 hx0 rfl 2 (by decide) (List.mem_cons_of_mem _ (List.mem_append_left _ (List.mem_append_left _ (List.mem_append_left _ (List.mem_append_left _ (List.mem_append_left _ (List.mem_append_left _ (List.mem_append_left _ (List.mem_append_left _ (List.mem_append_left _ (List.mem_append_left _ (List.mem_of_getElem? (i := 2) rfl)))))))))))) (fun _ h9 => h9) rfl dX6_unmesh_1 ?_
  refine g_Vi (As := []) (rest := []) F hP hS (k_isEmpty l A G w (ad 1 2) a2 m2 (iL (S 0 2)) hz2) (cwV 0 hts gX6_unmesh_Jx4a65c_isEmpty_aae02 rfl rfl rfl cd_Jx4a65c_isEmpty_aae02 ⟨by rw [hR]; exact Nat.le_of_ble_eq_true rfl, by rw [hR]; exact Nat.le_of_ble_eq_true rfl⟩) hz2 rfl rfl rfl hl.1 (Nat.le_of_ble_eq_true rfl) dX6_unmesh_4 ⟨by rw [hR]; exact Nat.le_of_ble_eq_true rfl, by rw [hR]; exact Nat.le_of_ble_eq_true rfl⟩ rfl (fun r1 w2 H locs h3 hP hS => ?_)
  have hr1 := h3.1
  rw [h3.2] at hP
  rw [hr1]
  refine lv_if_eq (tgt := 20) hx hb dX6_unmesh_7 (by decide) (fun c4 => ?_) (fun c4 => ?_)
  · have yc4 := of_decide_eq_false (g_b0.mp c4)
    have k4 : iL (S 0 2) = 0 ↔ S 0 2 = 0 := by rw [show (0 : Int32) = iL 0 from rfl, iL_eq (by omega) (by omega) (by omega) (by omega)]
    rw [k4] at yc4
    obtain ⟨k, hk1⟩ : ∃ k : Nat, S 0 2 = (k : Int) + 1 := ⟨(S 0 2 - 1).toNat, by omega⟩
    obtain ⟨mo9, ⟨la1, la2⟩ | ⟨cap9, fl9, la1, la2, la3, la4, la5, la6⟩⟩ := Hr.2.1 2 (by decide)
    · exact absurd la1 yc4
    have ga9 := Hh.1 _ _ _ la1
    have gb9 := Hh.1 _ _ _ la2
    rw [show iL (S 0 2) = nI (k + 1) from by rw [hk1, ← iL_n]; rfl] at ga9
    refine lv_aload_n hx hb dX6_unmesh_20 rfl (lv_at hl 0 rfl) ?_
    refine g_get F hP (C := RX6) (T := TX6) (N := 6) iX6 hx0 rfl 2 (by decide) (List.mem_cons_of_mem _ (List.mem_append_left _ (List.mem_append_left _ (List.mem_append_left _ (List.mem_append_left _ (List.mem_append_left _ (List.mem_append_left _ (List.mem_append_left _ (List.mem_append_left _ (List.mem_append_left _ (List.mem_append_left _ (List.mem_of_getElem? (i := 2) rfl)))))))))))) (fun _ h9 => h9) rfl dX6_unmesh_21 ?_
    refine lv_aload_n hx hb dX6_unmesh_24 rfl (lv_at hl 0 rfl) ?_
    refine g_get F hP (C := RX6) (T := TX6) (N := 6) iX6 hx0 rfl 2 (by decide) (List.mem_cons_of_mem _ (List.mem_append_left _ (List.mem_append_left _ (List.mem_append_left _ (List.mem_append_left _ (List.mem_append_left _ (List.mem_append_left _ (List.mem_append_left _ (List.mem_append_left _ (List.mem_append_left _ (List.mem_append_left _ (List.mem_of_getElem? (i := 2) rfl)))))))))))) (fun _ h9 => h9) rfl dX6_unmesh_25 ?_
    refine g_Vi (As := []) (rest := [.ref (ad 1 2)]) F hP hS (k_size l A G w (ad 1 2) a2 m2 (iL (S 0 2)) hz2) (cwV 0 hts gX6_unmesh_Jx4a65c_size_8abf5 rfl rfl rfl cd_Jx4a65c_size_8abf5 ⟨by rw [hR]; exact Nat.le_of_ble_eq_true rfl, by rw [hR]; exact Nat.le_of_ble_eq_true rfl⟩) hz2 rfl rfl rfl hl.1 (Nat.le_of_ble_eq_true rfl) dX6_unmesh_28 ⟨by rw [hR]; exact Nat.le_of_ble_eq_true rfl, by rw [hR]; exact Nat.le_of_ble_eq_true rfl⟩ rfl (fun r5 w6 H locs h7 hP hS => ?_)
    have hr5 := h7.1
    rw [h7.2] at hP
    rw [hr5]
    refine lv_iconst (v := 1) hx hb dX6_unmesh_31 (by decide) ?_
    refine lv_isub hx hb dX6_unmesh_32 ?_
    refine lv_topi (fun v8 ev8 => ?_)
    obtain rfl : v8 = nI k := by
      rw [ev8]
      rw [hk1, show (1 : Int32) = iL 1 from rfl, iL_sub, ← iL_n]
      rw [show (k : Int) + 1 - 1 = k from by omega]
    refine g_Vq (As := [.int (nI k)]) (rest := []) F hP hS (k_remove l A G w (ad 1 2) (ad 2 2) cap9 k mo9 fl9 ga9 gb9 (by omega) (by omega) _ (la6 k (by omega))) (cwV 1 hts gX6_unmesh_Jx4a65c_remove_915e3 rfl rfl rfl cd_Jx4a65c_remove_915e3 ⟨by rw [hR]; exact Nat.le_of_ble_eq_true rfl, by rw [hR]; exact Nat.le_of_ble_eq_true rfl⟩) hz2 rfl rfl rfl hl.1 (Nat.le_of_ble_eq_true rfl) dX6_unmesh_33 ⟨by rw [hR]; exact Nat.le_of_ble_eq_true rfl, by rw [hR]; exact Nat.le_of_ble_eq_true rfl⟩ rfl (fun r9 w10 H locs h11 hP hS => ?_)
    obtain ⟨C1, g1, H1, R1, I1⟩ := unmesh_new Hh Hr Hi hk1 la2 (rep_live la1) la6 (by omega) h11
    have hxt := rep_x H1 R1
    have a00 : ad 0 0 = ad 0 0 := rfl
    refine lv_pop hx hb dX6_unmesh_36 (by cases r9 <;> rfl) ?_
    refine lv_aload_n hx hb dX6_unmesh_37 rfl (lv_at hl 0 rfl) ?_
    refine g_Vv (As := []) (rest := []) F hP hS (k_X6_tellSpeeds l A G w10 _ _ (nxUnmesh S) T H1 R1 I1) (cwV 0 hts gX6_unmesh_X6_tellSpeeds rfl rfl rfl cd_X6_tellSpeeds ⟨by rw [hR]; exact Nat.le_of_ble_eq_true rfl, by rw [hR]; exact Nat.le_of_ble_eq_true rfl⟩) hxt rfl rfl rfl hl.1 (Nat.le_of_ble_eq_true rfl) dX6_unmesh_38 ⟨by rw [hR]; exact Nat.le_of_ble_eq_true rfl, by rw [hR]; exact Nat.le_of_ble_eq_true rfl⟩ rfl (fun w13 H locs h14 hP hS => ?_)
    have aft := after_tell I1 a00 g1 h14
    obtain ⟨ad3, C3, T3, z0, z1, z2⟩ := id aft
    have hx3 := rep_x z2.1 z2.2.1
    rw [z0] at hx3
    obtain ⟨m32, a32, hz32⟩ := rep_size z2.1 z2.2.1 2 (by decide)
    refine lv_aload_n hx hb dX6_unmesh_41 rfl (lv_at hl 0 rfl) ?_
    refine g_get F hP (C := RX6) (T := TX6) (N := 6) iX6 hx3 rfl 2 (by decide) (List.mem_cons_of_mem _ (List.mem_append_left _ (List.mem_append_left _ (List.mem_append_left _ (List.mem_append_left _ (List.mem_append_left _ (List.mem_append_left _ (List.mem_append_left _ (List.mem_append_left _ (List.mem_append_left _ (List.mem_append_left _ (List.mem_of_getElem? (i := 2) rfl)))))))))))) (fun _ h9 => h9) rfl dX6_unmesh_42 ?_
    refine g_Vi (As := []) (rest := []) F hP hS (k_size l A G w13 (ad3 1 2) a32 m32 (iL ((nxUnmesh S) 0 2)) hz32) (cwV 0 hts gX6_unmesh_Jx4a65c_size_8abf5 rfl rfl rfl cd_Jx4a65c_size_8abf5 ⟨by rw [hR]; exact Nat.le_of_ble_eq_true rfl, by rw [hR]; exact Nat.le_of_ble_eq_true rfl⟩) hz32 rfl rfl rfl hl.1 (Nat.le_of_ble_eq_true rfl) dX6_unmesh_45 ⟨by rw [hR]; exact Nat.le_of_ble_eq_true rfl, by rw [hR]; exact Nat.le_of_ble_eq_true rfl⟩ rfl (fun r15 w16 H locs h17 hP hS => ?_)
    have hr15 := h17.1
    rw [h17.2] at hP
    rw [hr15]
    rw [hQ]
    refine g_xiret F hP hS hlocks hr dX6_unmesh_48 (by first | exact Nat.le_of_ble_eq_true rfl | omega) (by first | exact Nat.le_of_ble_eq_true rfl | omega) ?_
    exact ⟨if_neg yc4, by unfold vlUnmesh; rw [show nxUnmesh S 0 2 = _ from up2_s _ _ _ _], aft⟩
  · have yc4 := of_decide_eq_true (g_b1.mp c4)
    have k4 : iL (S 0 2) = 0 ↔ S 0 2 = 0 := by rw [show (0 : Int32) = iL 0 from rfl, iL_eq (by omega) (by omega) (by omega) (by omega)]
    rw [k4] at yc4
    rw [hQ]
    refine g_throw F hP hS hlt rfl (hZ.2.2.2.2.2.2.2.1 ("java/lang/IllegalStateException", "java/lang/IllegalStateException") (List.mem_of_getElem? (i := 1) rfl)) (by decide +kernel) (List.mem_cons_of_mem _ (List.mem_append_left _ (List.mem_append_left _ (List.mem_append_left _ (List.mem_append_left _ (List.mem_append_left _ (List.mem_append_left _ (List.mem_append_left _ (List.mem_append_left _ (List.mem_append_left _ (List.mem_append_left _ (List.mem_of_getElem? (i := 0) rfl)))))))))))) (List.mem_cons_of_mem _ (List.mem_append_left _ (List.mem_append_left _ (List.mem_append_left _ (List.mem_append_left _ (List.mem_append_left _ (List.mem_append_left _ (List.mem_append_left _ (List.mem_append_left _ (List.mem_append_left _ (List.mem_append_left _ (List.mem_of_getElem? (i := 1) rfl)))))))))))) (cls := "java/lang/IllegalStateException") (text := "no mesh to take away") (List.mem_of_getElem? (i := 2) rfl) (fun w h => List.mem_cons_of_mem _ (List.mem_append_right _ (h))) xt_IllegalSt_44_b (fun w h => (List.mem_cons.mp h).elim (fun e => by rw [e]; rfl) (fun h => (List.mem_cons.mp h).elim (fun e => by rw [e]; rfl) (fun h => xt_IllegalSt_44_g w h))) hl.1 dX6_unmesh_10 dX6_unmesh_13 dX6_unmesh_14 dX6_unmesh_16 dX6_unmesh_19 hout (by rw [hR]; exact Nat.le_of_ble_eq_true rfl) (by rw [hR]; exact Nat.le_of_ble_eq_true rfl) (by rw [hR]; exact Nat.le_of_ble_eq_true rfl) (by rw [hR]; exact Nat.le_of_ble_eq_true rfl) hlocks ?_ (by decide) (by decide)
    exact ⟨rfl, rfl, if_pos yc4⟩
