set_option maxHeartbeats 4000000 in
set_option maxRecDepth 100000 in
theorem k_checkIndex3 (l : Launch) (A : Nat → Prop) (G : g_C) (w : g_W) (k n : Nat) (hk : k < n) (hn : n < 100000) : mI l yJ3_checkIndex_8e157 wsJ3_checkIndex_8e157 ({ frames := 0, cells := 0, slots := 0, locals := 0 } : Room) [.int (nI k), .int (nI n), .null] A G w (fun r w' => r = nI k ∧ w' = w) 0 0 := by
  refine g_ofI (cc := cJ3_checkIndex_8e157) (maxL := 3) (ret := (some .int)) (own := RJ3) (by decide) rfl rfl (by decide) ?_
  intro p e R s m args below meth c Q ls hR F hP hS hlocks hr hnm0 hQ hl
  obtain ⟨⟨hx, hb, hml, hown, hts⟩, hK, hZ, hA⟩ := id F
  generalize hH0 : s.heap = H at hP ⊢
  have hS : va_S A s.heap H [] := by rw [← hH0]; exact va_S.rf
  generalize ([] : List Loc) = locs at hS ⊢
  have hl : lv_has ls 3 [(0, .int (nI k)), (1, .int (nI n)), (2, .null)] := hl
  refine lv_iload_n hx hb dJ3_checkIndex_8e157_0 rfl (lv_at hl 0 rfl) ?_
  refine lv_if_lt (tgt := 9) hx hb dJ3_checkIndex_8e157_1 (by decide) (fun c1 => ?_) (fun c1 => ?_)
  · exact absurd c1 (nI_pos (by omega))
  · refine lv_iload_n hx hb dJ3_checkIndex_8e157_4 rfl (lv_at hl 0 rfl) ?_
    refine lv_iload_n hx hb dJ3_checkIndex_8e157_5 rfl (lv_at hl 1 rfl) ?_
    refine lv_icmp_lt (tgt := 16) hx hb dJ3_checkIndex_8e157_6 (by decide) (fun c2 => ?_) (fun c2 => ?_)
    · refine lv_iload_n hx hb dJ3_checkIndex_8e157_16 rfl (lv_at hl 0 rfl) ?_
      rw [hQ]
      refine g_iret F hP hS hlocks hr dJ3_checkIndex_8e157_17 (by decide) (by decide) ?_
      exact ⟨rfl, rfl⟩
    · exact absurd (nI_lt hk (by omega)) c2

theorem cd_J3_checkIndex_8e157 : yJ3_checkIndex_8e157.cls ≠ "java/lang/invoke/MethodHandle" ∧ yJ3_checkIndex_8e157.cls ≠ "java/lang/invoke/VarHandle" ∧ (parseMethodDescriptor yJ3_checkIndex_8e157.desc).map (fun d => d.parameters.length) = some 3 := by decide +kernel
set_option maxHeartbeats 4000000 in
set_option maxRecDepth 100000 in
theorem k_checkIndex2 (l : Launch) (A : Nat → Prop) (G : g_C) (w : g_W) (k n : Nat) (hk : k < n) (hn : n < 100000) : mI l yJ15_checkIndex_7cf53 wsJ15_checkIndex_7cf53 ({ frames := 1, cells := 0, slots := 0, locals := 22 } : Room) [.int (nI k), .int (nI n)] A G w (fun r w' => r = nI k ∧ w' = w) 0 0 := by
  refine g_ofI (cc := cJ15_checkIndex_7cf53) (maxL := 2) (ret := (some .int)) (own := RJ15) (by decide) rfl rfl (by decide) ?_
  intro p e R s m args below meth c Q ls hR F hP hS hlocks hr hnm0 hQ hl
  obtain ⟨⟨hx, hb, hml, hown, hts⟩, hK, hZ, hA⟩ := id F
  generalize hH0 : s.heap = H at hP ⊢
  have hS : va_S A s.heap H [] := by rw [← hH0]; exact va_S.rf
  generalize ([] : List Loc) = locs at hS ⊢
  have hl : lv_has ls 2 [(0, .int (nI k)), (1, .int (nI n))] := hl
  refine lv_iload_n hx hb dJ15_checkIndex_7cf53_0 rfl (lv_at hl 0 rfl) ?_
  refine lv_iload_n hx hb dJ15_checkIndex_7cf53_1 rfl (lv_at hl 1 rfl) ?_
  refine lv_null hx hb dJ15_checkIndex_7cf53_2 ?_
  refine g_Si (As := [.int (nI k), .int (nI n), .null]) (rest := []) F hP hS (k_checkIndex3 l A G w k n hk hn) (va_cwS 3 hts gJ15_checkIndex_7cf53_J3_checkIndex_8e157 rfl rfl rfl cd_J3_checkIndex_8e157 ⟨by rw [hR]; decide, by rw [hR]; decide⟩) rfl hl.1 (by decide) dJ15_checkIndex_7cf53_3 ⟨by rw [hR]; decide, by rw [hR]; decide⟩ rfl (fun r1 w2 H locs h3 hP hS => ?_)
  obtain ⟨hr1, rfl⟩ := h3
  obtain rfl : r1 = nI k := hr1
  rw [hQ]
  refine g_iret F hP hS hlocks hr dJ15_checkIndex_7cf53_6 (by decide) (by decide) ?_
  exact ⟨rfl, rfl⟩

set_option maxHeartbeats 4000000 in
set_option maxRecDepth 100000 in
theorem k_size (l : Launch) (A : Nat → Prop) (G : g_C) (w : g_W) (h arr : Nat) (mod sz : Int32) (hh : w h = some (.inr (0, [.int mod, .ref arr, .int sz]))) : mI l yJx4a65c_size_8abf5 wsJx4a65c_size_8abf5 ({ frames := 0, cells := 0, slots := 0, locals := 0 } : Room) [.ref h] A G w (fun r w' => r = sz ∧ w' = w) 0 0 := by
  refine g_ofI (cc := cJx4a65c_size_8abf5) (maxL := 1) (ret := (some .int)) (own := RJx4a65c) (by decide) rfl rfl (by decide) ?_
  intro p e R s m args below meth c Q ls hR F hP hS hlocks hr hnm0 hQ hl
  obtain ⟨⟨hx, hb, hml, hown, hts⟩, hK, hZ, hA⟩ := id F
  generalize hH0 : s.heap = H at hP ⊢
  have hS : va_S A s.heap H [] := by rw [← hH0]; exact va_S.rf
  generalize ([] : List Loc) = locs at hS ⊢
  have hl : lv_has ls 1 [(0, .ref h)] := hl
  have iJx4a65c : ∀ w ∈ u_ws RJx4a65c TJx4a65c 3, w ∈ wsJx4a65c_size_8abf5 := fun w h => List.mem_cons_of_mem _ (List.mem_append_right _ (h))
  refine lv_aload_n hx hb dJx4a65c_size_8abf5_0 rfl (lv_at hl 0 rfl) ?_
  refine g_get F hP (C := RJx4a65c) (T := TJx4a65c) (N := 3) iJx4a65c hh rfl 2 (by decide) (List.mem_cons_of_mem _ (List.mem_append_left _ (List.mem_of_getElem? (i := 0) rfl))) (fun _ h9 => h9) rfl dJx4a65c_size_8abf5_1 ?_
  rw [hQ]
  refine g_iret F hP hS hlocks hr dJx4a65c_size_8abf5_4 (by decide) (by decide) ?_
  exact ⟨rfl, rfl⟩

set_option maxHeartbeats 4000000 in
set_option maxRecDepth 100000 in
theorem k_isEmpty (l : Launch) (A : Nat → Prop) (G : g_C) (w : g_W) (h arr : Nat) (mod sz : Int32) (hh : w h = some (.inr (0, [.int mod, .ref arr, .int sz]))) : mI l yJx4a65c_isEmpty_aae02 wsJx4a65c_isEmpty_aae02 ({ frames := 0, cells := 0, slots := 0, locals := 0 } : Room) [.ref h] A G w (fun r w' => r = g_b (decide (sz = 0)) ∧ w' = w) 0 0 := by
  refine g_ofI (cc := cJx4a65c_isEmpty_aae02) (maxL := 1) (ret := (some .boolean)) (own := RJx4a65c) (by decide) rfl rfl (by decide) ?_
  intro p e R s m args below meth c Q ls hR F hP hS hlocks hr hnm0 hQ hl
  obtain ⟨⟨hx, hb, hml, hown, hts⟩, hK, hZ, hA⟩ := id F
  generalize hH0 : s.heap = H at hP ⊢
  have hS : va_S A s.heap H [] := by rw [← hH0]; exact va_S.rf
  generalize ([] : List Loc) = locs at hS ⊢
  have hl : lv_has ls 1 [(0, .ref h)] := hl
  have iJx4a65c : ∀ w ∈ u_ws RJx4a65c TJx4a65c 3, w ∈ wsJx4a65c_isEmpty_aae02 := fun w h => List.mem_cons_of_mem _ (List.mem_append_right _ (h))
  refine lv_aload_n hx hb dJx4a65c_isEmpty_aae02_0 rfl (lv_at hl 0 rfl) ?_
  refine g_get F hP (C := RJx4a65c) (T := TJx4a65c) (N := 3) iJx4a65c hh rfl 2 (by decide) (List.mem_cons_of_mem _ (List.mem_append_left _ (List.mem_of_getElem? (i := 0) rfl))) (fun _ h9 => h9) rfl dJx4a65c_isEmpty_aae02_1 ?_
  refine lv_if_ne (tgt := 11) hx hb dJx4a65c_isEmpty_aae02_4 (by decide) (fun c1 => ?_) (fun c1 => ?_)
  · refine lv_iconst (v := 0) hx hb dJx4a65c_isEmpty_aae02_11 (by decide) ?_
    rw [hQ]
    refine g_zret F hP hS hlocks hr (by first | rfl | exact g_nb _) dJx4a65c_isEmpty_aae02_12 (by decide) (by decide) ?_
    exact ⟨by first | exact g_bt (by simp_all) | exact g_bf (by simp_all) | exact g_bt (by grind) | exact g_bf (by grind), rfl⟩
  · refine lv_iconst (v := 1) hx hb dJx4a65c_isEmpty_aae02_7 (by decide) ?_
    refine lv_goto (tgt := 12) hx hb dJx4a65c_isEmpty_aae02_8 (by decide) ?_
    rw [hQ]
    refine g_zret F hP hS hlocks hr (by first | rfl | exact g_nb _) dJx4a65c_isEmpty_aae02_12 (by decide) (by decide) ?_
    exact ⟨by first | exact g_bt (by simp_all) | exact g_bf (by simp_all) | exact g_bt (by grind) | exact g_bf (by grind), rfl⟩

set_option maxHeartbeats 4000000 in
set_option maxRecDepth 100000 in
theorem k_elementData (l : Launch) (A : Nat → Prop) (G : g_C) (w : g_W) (h arr n cap : Nat) (mod : Int32) (f : Nat → Option Nat) (k : Nat) (hh : w h = some (.inr (0, [.int mod, .ref arr, .int (nI n)]))) (ha : w arr = some (.inl (G.2.1 3, cap, .inr (.inr (.inr (.inr f)))))) (hk : k < n) (hn : n ≤ cap) (hc : cap < 100000) : mQ l yJx4a65c_elementData_915e3 wsJx4a65c_elementData_915e3 ({ frames := 0, cells := 0, slots := 0, locals := 0 } : Room) [.ref h, .int (nI k)] A G w (fun r w' => r = f k ∧ w' = w) 0 0 := by
  refine g_ofQ (cc := cJx4a65c_elementData_915e3) (maxL := 2) (ret := (some (.object "java/lang/Object"))) (own := RJx4a65c) (by decide) rfl rfl (by decide) ?_
  intro p e R s m args below meth c Q ls hR F hP hS hlocks hr hnm0 hQ hl
  obtain ⟨⟨hx, hb, hml, hown, hts⟩, hK, hZ, hA⟩ := id F
  generalize hH0 : s.heap = H at hP ⊢
  have hS : va_S A s.heap H [] := by rw [← hH0]; exact va_S.rf
  generalize ([] : List Loc) = locs at hS ⊢
  have hl : lv_has ls 2 [(0, .ref h), (1, .int (nI k))] := hl
  have iJx4a65c : ∀ w ∈ u_ws RJx4a65c TJx4a65c 3, w ∈ wsJx4a65c_elementData_915e3 := fun w h => List.mem_cons_of_mem _ (List.mem_append_right _ (h))
  refine lv_aload_n hx hb dJx4a65c_elementData_915e3_0 rfl (lv_at hl 0 rfl) ?_
  refine g_get F hP (C := RJx4a65c) (T := TJx4a65c) (N := 3) iJx4a65c hh rfl 1 (by decide) (List.mem_cons_of_mem _ (List.mem_append_left _ (List.mem_of_getElem? (i := 0) rfl))) (fun _ h9 => h9) rfl dJx4a65c_elementData_915e3_1 ?_
  refine lv_iload_n hx hb dJx4a65c_elementData_915e3_4 rfl (lv_at hl 1 rfl) ?_
  refine g_aldqO F hP ha (vp_in_nI (by omega) (by omega)) dJx4a65c_elementData_915e3_5 ?_
  rw [show (va_rf (f (nI k).toNatClampNeg) : Value) = va_rf (f k) from by rw [nI_clamp (by omega)]]
  rw [hQ]
  refine g_aret (r := f k) F hP hS hlocks hr (by first | exact Or.inl ⟨_, rfl⟩ | exact Or.inr ⟨_, rfl⟩) dJx4a65c_elementData_915e3_6 (by decide) (by decide) ?_
  exact ⟨rfl, rfl⟩

theorem cd_J15_checkIndex_7cf53 : yJ15_checkIndex_7cf53.cls ≠ "java/lang/invoke/MethodHandle" ∧ yJ15_checkIndex_7cf53.cls ≠ "java/lang/invoke/VarHandle" ∧ (parseMethodDescriptor yJ15_checkIndex_7cf53.desc).map (fun d => d.parameters.length) = some 2 := by decide +kernel
theorem cd_Jx4a65c_elementData_915e3 : yJx4a65c_elementData_915e3.cls = RJx4a65c ∧ yJx4a65c_elementData_915e3.cls ≠ "java/lang/invoke/MethodHandle" ∧ yJx4a65c_elementData_915e3.cls ≠ "java/lang/invoke/VarHandle" ∧ (parseMethodDescriptor yJx4a65c_elementData_915e3.desc).map (fun d => d.parameters.length) = some 1 := by decide +kernel
set_option maxHeartbeats 4000000 in
set_option maxRecDepth 100000 in
theorem k_get (l : Launch) (A : Nat → Prop) (G : g_C) (w : g_W) (h arr n cap : Nat) (mod : Int32) (f : Nat → Option Nat) (k : Nat) (hh : w h = some (.inr (0, [.int mod, .ref arr, .int (nI n)]))) (ha : w arr = some (.inl (G.2.1 3, cap, .inr (.inr (.inr (.inr f)))))) (hk : k < n) (hn : n ≤ cap) (hc : cap < 100000) : mQ l yJx4a65c_get_915e3 wsJx4a65c_get_915e3 ({ frames := 2, cells := 0, slots := 0, locals := 43 } : Room) [.ref h, .int (nI k)] A G w (fun r w' => r = f k ∧ w' = w) 0 0 := by
  refine g_ofQ (cc := cJx4a65c_get_915e3) (maxL := 2) (ret := (some (.object "java/lang/Object"))) (own := RJx4a65c) (by decide) rfl rfl (by decide) ?_
  intro p e R s m args below meth c Q ls hR F hP hS hlocks hr hnm0 hQ hl
  obtain ⟨⟨hx, hb, hml, hown, hts⟩, hK, hZ, hA⟩ := id F
  generalize hH0 : s.heap = H at hP ⊢
  have hS : va_S A s.heap H [] := by rw [← hH0]; exact va_S.rf
  generalize ([] : List Loc) = locs at hS ⊢
  have hl : lv_has ls 2 [(0, .ref h), (1, .int (nI k))] := hl
  have iJx4a65c : ∀ w ∈ u_ws RJx4a65c TJx4a65c 3, w ∈ wsJx4a65c_get_915e3 := fun w h => List.mem_cons_of_mem _ (List.mem_append_right _ (h))
  refine lv_iload_n hx hb dJx4a65c_get_915e3_0 rfl (lv_at hl 1 rfl) ?_
  refine lv_aload_n hx hb dJx4a65c_get_915e3_1 rfl (lv_at hl 0 rfl) ?_
  refine g_get F hP (C := RJx4a65c) (T := TJx4a65c) (N := 3) iJx4a65c hh rfl 2 (by decide) (List.mem_cons_of_mem _ (List.mem_append_left _ (List.mem_of_getElem? (i := 0) rfl))) (fun _ h9 => h9) rfl dJx4a65c_get_915e3_2 ?_
  refine g_Si (As := [.int (nI k), .int (nI n)]) (rest := []) F hP hS (k_checkIndex2 l A G w k n hk (by omega)) (va_cwS 2 hts gJx4a65c_get_915e3_J15_checkIndex_7cf53 rfl rfl rfl cd_J15_checkIndex_7cf53 ⟨by rw [hR]; decide, by rw [hR]; decide⟩) rfl hl.1 (by decide) dJx4a65c_get_915e3_5 ⟨by rw [hR]; decide, by rw [hR]; decide⟩ rfl (fun r1 w2 H locs h3 hP hS => ?_)
  obtain ⟨hr1, rfl⟩ := h3
  obtain rfl : r1 = nI k := hr1
  refine lv_pop hx hb dJx4a65c_get_915e3_8 rfl ?_
  refine lv_aload_n hx hb dJx4a65c_get_915e3_9 rfl (lv_at hl 0 rfl) ?_
  refine lv_iload_n hx hb dJx4a65c_get_915e3_10 rfl (lv_at hl 1 rfl) ?_
  refine g_Vq (As := [.int (nI k)]) (rest := []) F hP hS (k_elementData l A G w h arr n cap mod f k hh ha hk hn hc) (cwV 1 hts gJx4a65c_get_915e3_Jx4a65c_elementData_915e3 rfl rfl rfl cd_Jx4a65c_elementData_915e3 ⟨by rw [hR]; decide, by rw [hR]; decide⟩) hh rfl rfl rfl hl.1 (by decide) dJx4a65c_get_915e3_11 ⟨by rw [hR]; decide, by rw [hR]; decide⟩ rfl (fun r4 w5 H locs h6 hP hS => ?_)
  obtain ⟨hr4, rfl⟩ := h6
  obtain rfl : r4 = f k := hr4
  rw [hQ]
  refine g_aret (r := f k) F hP hS hlocks hr (by first | exact Or.inl ⟨_, rfl⟩ | exact Or.inr ⟨_, rfl⟩) dJx4a65c_get_915e3_14 (by decide) (by decide) ?_
  exact ⟨rfl, rfl⟩

set_option maxHeartbeats 4000000 in
set_option maxRecDepth 100000 in
theorem k_newLength (l : Launch) (A : Nat → Prop) (G : g_C) (w : g_W) (c0 d0 : Nat) (h1 : c0 < 100000) (h2 : d0 < 100000) (h3 : 1 ≤ d0) : mI l yJ8_newLength_cabcc wsJ8_newLength_cabcc ({ frames := 1, cells := 0, slots := 0, locals := 40 } : Room) [.int (nI c0), .int (nI 1), .int (nI d0)] A G w (fun r w' => r = nI (c0 + d0) ∧ w' = w) 0 0 := by
  refine g_ofI (cc := cJ8_newLength_cabcc) (maxL := 4) (ret := (some .int)) (own := RJ8) (by decide) rfl rfl (by decide) ?_
  intro p e R s m args below meth c Q ls hR F hP hS hlocks hr hnm0 hQ hl
  obtain ⟨⟨hx, hb, hml, hown, hts⟩, hK, hZ, hA⟩ := id F
  generalize hH0 : s.heap = H at hP ⊢
  have hS : va_S A s.heap H [] := by rw [← hH0]; exact va_S.rf
  generalize ([] : List Loc) = locs at hS ⊢
  have hl : lv_has ls 4 [(0, .int (nI c0)), (1, .int (nI 1)), (2, .int (nI d0))] := hl
  refine lv_iload_n hx hb dJ8_newLength_cabcc_0 rfl (lv_at hl 0 rfl) ?_
  refine lv_iload_n hx hb dJ8_newLength_cabcc_1 rfl (lv_at hl 1 rfl) ?_
  refine lv_iload_n hx hb dJ8_newLength_cabcc_2 rfl (lv_at hl 2 rfl) ?_
  refine va_mmax hx hb (by rw [hml]; exact hl.1.symm) hown (hts _ (List.mem_cons_of_mem _ (List.mem_of_getElem? (i := 0) rfl))) (hts _ (List.mem_cons_of_mem _ (List.mem_of_getElem? (i := 1) rfl))) (hts _ (List.mem_cons_of_mem _ (List.mem_of_getElem? (i := 2) rfl))) (hts _ (List.mem_cons_of_mem _ (List.mem_of_getElem? (i := 3) rfl))) (by rw [hR]; decide) (by rw [hR]; decide) (by rw [hR]; decide) (by rw [hR]; decide) dJ8_newLength_cabcc_3 ?_
  refine lv_topi (fun v1 ev1 => ?_)
  obtain rfl : v1 = nI d0 := by rw [ev1]; by_cases z : 1 < d0
    · exact if_pos (nI_lt z (by omega))
    · rw [if_neg (nI_nlt (by omega) (by omega)), show d0 = 1 by omega]
  refine lv_iadd hx hb dJ8_newLength_cabcc_6 ?_
  refine lv_topi (fun v2 ev2 => ?_)
  obtain rfl : v2 = nI (c0 + d0) := by rw [ev2]; exact nI_add _ _
  refine lv_istore_n (lv' := [(3, .int (nI (c0 + d0))), (0, .int (nI c0)), (1, .int (nI 1)), (2, .int (nI d0))]) hx hb dJ8_newLength_cabcc_7 rfl hl (by decide) rfl (fun ls hl => ?_)
  refine lv_iconst (v := 0) hx hb dJ8_newLength_cabcc_8 (by decide) ?_
  refine lv_iload_n hx hb dJ8_newLength_cabcc_9 rfl (lv_at hl 0 rfl) ?_
  refine lv_icmp_ge (tgt := 21) hx hb dJ8_newLength_cabcc_10 (by decide) (fun c3 => ?_) (fun c3 => ?_)
  · exact absurd c3 (by rw [← nI_0]; exact nI_ge (by omega) (by omega))
  · refine lv_iload_n hx hb dJ8_newLength_cabcc_13 rfl (lv_at hl 0 rfl) ?_
    refine lv_ldc (v := 2147483639) hx hb hown (hts _ (List.mem_cons_of_mem _ (List.mem_of_getElem? (i := 4) rfl))) dJ8_newLength_cabcc_14 ?_
    refine lv_icmp_gt (tgt := 21) hx hb dJ8_newLength_cabcc_16 (by decide) (fun c4 => ?_) (fun c4 => ?_)
    · exact absurd c4 (by rw [show (2147483639 : Int32) = nI 2147483639 from rfl]; exact nI_nlt (by omega) (by omega))
    · refine lv_iload_n hx hb dJ8_newLength_cabcc_19 rfl (lv_at hl 0 rfl) ?_
      rw [hQ]
      refine g_iret F hP hS hlocks hr dJ8_newLength_cabcc_20 (by decide) (by decide) ?_
      exact ⟨rfl, rfl⟩

set_option maxHeartbeats 4000000 in
set_option maxRecDepth 100000 in
theorem k_copyOf3 (l : Launch) (A : Nat → Prop) (G : g_C) (w : g_W) (arr cap c1 ci : Nat) (f : Nat → Option Nat) (r0 : vw_C) (ha : w arr = some (.inl (G.2.1 3, cap, .inr (.inr (.inr (.inr f)))))) (h1 : cap ≤ c1) (h2 : c1 < 50000) (hci : vwCl[ci]? = some r0) (hcs : (r0.1, "java/lang/Object") ∈ g_casts) (hel : ∀ i, i < cap → ∀ y, f i = some y → ∃ fs, w y = some (.inr (ci, fs))) : mQ l yJ7_copyOf_6403c wsJ7_copyOf_6403c ({ frames := 1, cells := 1, slots := 50000, locals := 100 } : Room) [.ref arr, .int (nI c1), .ref (G.2.2 1)] A G w (fun r w' => ∃ q f', r = some q ∧ w q = none ∧ (∀ k, k < cap → f' k = f k) ∧ w' = g_up w q (.inl (G.2.1 3, c1, .inr (.inr (.inr (.inr f')))))) 1 50000 := by
  refine g_ofQ (cc := cJ7_copyOf_6403c) (maxL := 4) (ret := (some (.array (.object "java/lang/Object")))) (own := RJ7) (by decide) rfl rfl (by decide) ?_
  intro p e R s m args below meth c Q ls hR F hP hS hlocks hr hnm0 hQ hl
  obtain ⟨⟨hx, hb, hml, hown, hts⟩, hK, hZ, hA⟩ := id F
  generalize hH0 : s.heap = H at hP ⊢
  have hS : va_S A s.heap H [] := by rw [← hH0]; exact va_S.rf
  generalize ([] : List Loc) = locs at hS ⊢
  have hl : lv_has ls 4 [(0, .ref arr), (1, .int (nI c1)), (2, .ref (G.2.2 1))] := hl
  refine lv_aload_n hx hb dJ7_copyOf_6403c_0 rfl (lv_at hl 2 rfl) ?_
  refine g_ldcM F (List.mem_cons_of_mem _ (List.mem_of_getElem? (i := 0) rfl)) dJ7_copyOf_6403c_1 ?_
  refine lv_acmp_ne (tgt := 13) (rx := (some G.2.2 1)) (ry := (some G.2.2 1)) hx hb dJ7_copyOf_6403c_3 (by decide) (fun c1 => ?_) (fun c1 => ?_)
  · exact absurd rfl c1
  · refine lv_iload_n hx hb dJ7_copyOf_6403c_6 rfl (lv_at hl 1 rfl) ?_
    refine g_newqO F hP hS (N' := c1) (List.mem_cons_of_mem _ (List.mem_of_getElem? (i := 1) rfl)) (nI_pos (by omega)) (nI_clamp (by omega)) (by omega) (by rw [hR]; decide) (by rw [hR]; show 0 + c1 ≤ 50000; omega) dJ7_copyOf_6403c_7 (fun q2 H nq2 hP hS => ?_)
    obtain ⟨w3, ew3⟩ : ∃ z, z = g_up w q2 (.inl (G.2.1 3, c1, .inr (.inr (.inr (.inr (fun _ => none)))))) := ⟨_, rfl⟩
    have hP : g_P A G w3 H := by rw [ew3]; exact hP
    have f4 : w3 arr = some (.inl (G.2.1 3, cap, .inr (.inr (.inr (.inr f))))) := by rw [ew3]; exact g_up_f ha (g_neq ha nq2)
    have f5 : w3 q2 = some (.inl (G.2.1 3, c1, .inr (.inr (.inr (.inr (fun _ => none)))))) := by rw [ew3]; exact g_up_s _ _ _
    refine lv_goto (tgt := 24) hx hb dJ7_copyOf_6403c_10 (by decide) ?_
    refine lv_astore_n (lv' := [(3, .ref q2), (0, .ref arr), (1, .int (nI c1)), (2, .ref (G.2.2 1))]) hx hb dJ7_copyOf_6403c_24 rfl hl (by decide) rfl (fun ls hl => ?_)
    refine lv_aload_n hx hb dJ7_copyOf_6403c_25 rfl (lv_at hl 1 rfl) ?_
    refine lv_iconst (v := 0) hx hb dJ7_copyOf_6403c_26 (by decide) ?_
    refine lv_aload_n hx hb dJ7_copyOf_6403c_27 rfl (lv_at hl 0 rfl) ?_
    refine lv_iconst (v := 0) hx hb dJ7_copyOf_6403c_28 (by decide) ?_
    refine lv_aload_n hx hb dJ7_copyOf_6403c_29 rfl (lv_at hl 1 rfl) ?_
    refine g_alen F hP 3 rfl f4 (v := nI cap) rfl dJ7_copyOf_6403c_30 ?_
    refine lv_iload_n hx hb dJ7_copyOf_6403c_31 rfl (lv_at hl 2 rfl) ?_
    refine va_mmin hx hb (by rw [hml]; exact hl.1.symm) hown (hts _ (List.mem_cons_of_mem _ (List.mem_of_getElem? (i := 2) rfl))) (hts _ (List.mem_cons_of_mem _ (List.mem_of_getElem? (i := 3) rfl))) (hts _ (List.mem_cons_of_mem _ (List.mem_of_getElem? (i := 4) rfl))) (hts _ (List.mem_cons_of_mem _ (List.mem_of_getElem? (i := 5) rfl))) (by rw [hR]; decide) (by rw [hR]; decide) (by rw [hR]; decide) (by rw [hR]; decide) dJ7_copyOf_6403c_32 ?_
    refine lv_topi (fun v6 ev6 => ?_)
    obtain rfl : v6 = nI cap := by rw [ev6]; by_cases z : c1 < cap
      · exact absurd z (by omega)
      · rw [if_neg (nI_nlt (by omega) (by omega))]
    refine g_copyq F hP hS hl.1 (List.mem_cons_of_mem _ (List.mem_of_getElem? (i := 6) rfl)) (List.mem_cons_of_mem _ (List.mem_of_getElem? (i := 7) rfl)) (List.mem_cons_of_mem _ (List.mem_of_getElem? (i := 8) rfl)) (List.mem_cons_of_mem _ (List.mem_of_getElem? (i := 9) rfl)) (ci := ci) f4 f5 hci (hZ.2.2.2.2.2.2.2.1 _ hcs) (by decide) (by decide) (nI_pos (by omega)) (by rw [nI_clamp (n := cap) (by omega)]; show 0 + cap ≤ cap; omega) (by rw [nI_clamp (n := cap) (by omega)]; show 0 + cap ≤ c1; omega) (fun i hi y hy => by
      rw [nI_clamp (n := cap) (by omega)] at hi
      obtain ⟨fs, hfs⟩ := hel i hi y (by simpa [show (0 : Int32).toNatClampNeg = 0 from by decide] using hy)
      exact ⟨fs, by rw [ew3]; exact g_up_f hfs (g_neq hfs nq2)⟩) (by rw [hR]; decide) (by rw [hR]; decide +kernel) dJ7_copyOf_6403c_35 (fun H locs hP hS => ?_)
    obtain ⟨w7, ew7⟩ : ∃ z, z = g_up w3 q2 (.inl (G.2.1 3, c1, .inr (.inr (.inr (.inr (va_cpy f (fun _ => none) (0).toNatClampNeg (0).toNatClampNeg (nI cap).toNatClampNeg)))))) := ⟨_, rfl⟩
    have hP : g_P A G w7 H := by rw [ew7]; exact hP
    have f8 : w7 arr = some (.inl (G.2.1 3, cap, .inr (.inr (.inr (.inr f))))) := by rw [ew7]; exact g_up_f f4 (g_ne f4 f5 rfl)
    have f9 : w7 q2 = some (.inl (G.2.1 3, c1, .inr (.inr (.inr (.inr (va_cpy f (fun _ => none) (0).toNatClampNeg (0).toNatClampNeg (nI cap).toNatClampNeg)))))) := by rw [ew7]; exact g_up_s _ _ _
    refine lv_aload_n hx hb dJ7_copyOf_6403c_38 rfl (lv_at hl 0 rfl) ?_
    rw [hQ]
    refine g_aret (r := (some q2)) F hP hS hlocks hr (by first | exact Or.inl ⟨_, rfl⟩ | exact Or.inr ⟨_, rfl⟩) dJ7_copyOf_6403c_39 (by decide) (by decide) ?_
    refine ⟨q2, _, rfl, nq2, fun k hk => ?_, by simp only [ew7, ew3, g_up_up]; rfl⟩
    rw [nI_clamp (n := cap) (by omega)]
    simp [va_cpy, show (0 : Int32).toNatClampNeg = 0 from by decide, hk]

theorem cd_J7_copyOf_6403c : yJ7_copyOf_6403c.cls ≠ "java/lang/invoke/MethodHandle" ∧ yJ7_copyOf_6403c.cls ≠ "java/lang/invoke/VarHandle" ∧ (parseMethodDescriptor yJ7_copyOf_6403c.desc).map (fun d => d.parameters.length) = some 3 := by decide +kernel
set_option maxHeartbeats 4000000 in
set_option maxRecDepth 100000 in
theorem k_copyOf2 (l : Launch) (A : Nat → Prop) (G : g_C) (w : g_W) (arr cap c1 ci : Nat) (f : Nat → Option Nat) (r0 : vw_C) (ha : w arr = some (.inl (G.2.1 3, cap, .inr (.inr (.inr (.inr f)))))) (h1 : cap ≤ c1) (h2 : c1 < 50000) (hci : vwCl[ci]? = some r0) (hcs : (r0.1, "java/lang/Object") ∈ g_casts) (hel : ∀ i, i < cap → ∀ y, f i = some y → ∃ fs, w y = some (.inr (ci, fs))) : mQ l yJ7_copyOf_1904c wsJ7_copyOf_1904c ({ frames := 2, cells := 1, slots := 50000, locals := 123 } : Room) [.ref arr, .int (nI c1)] A G w (fun r w' => ∃ q f', r = some q ∧ w q = none ∧ (∀ k, k < cap → f' k = f k) ∧ w' = g_up w q (.inl (G.2.1 3, c1, .inr (.inr (.inr (.inr f')))))) 1 50000 := by
  refine g_ofQ (cc := cJ7_copyOf_1904c) (maxL := 2) (ret := (some (.array (.object "java/lang/Object")))) (own := RJ7) (by decide) rfl rfl (by decide) ?_
  intro p e R s m args below meth c Q ls hR F hP hS hlocks hr hnm0 hQ hl
  obtain ⟨⟨hx, hb, hml, hown, hts⟩, hK, hZ, hA⟩ := id F
  generalize hH0 : s.heap = H at hP ⊢
  have hS : va_S A s.heap H [] := by rw [← hH0]; exact va_S.rf
  generalize ([] : List Loc) = locs at hS ⊢
  have hl : lv_has ls 2 [(0, .ref arr), (1, .int (nI c1))] := hl
  refine lv_aload_n hx hb dJ7_copyOf_1904c_0 rfl (lv_at hl 0 rfl) ?_
  refine lv_iload_n hx hb dJ7_copyOf_1904c_1 rfl (lv_at hl 1 rfl) ?_
  refine lv_aload_n hx hb dJ7_copyOf_1904c_2 rfl (lv_at hl 0 rfl) ?_
  refine g_getC F hP hl.1 ha (List.mem_cons_of_mem _ (List.mem_of_getElem? (i := 0) rfl)) (List.mem_cons_of_mem _ (List.mem_of_getElem? (i := 1) rfl)) (List.mem_cons_of_mem _ (List.mem_of_getElem? (i := 2) rfl)) (List.mem_cons_of_mem _ (List.mem_of_getElem? (i := 3) rfl)) (by rw [hR]; decide) (by rw [hR]; decide) dJ7_copyOf_1904c_3 ?_
  refine g_Sq (As := [.ref arr, .int (nI c1), .ref (G.2.2 1)]) (rest := []) F hP hS (k_copyOf3 l A G w arr cap c1 ci f r0 ha h1 h2 hci hcs hel) (va_cwS 3 hts gJ7_copyOf_1904c_J7_copyOf_6403c rfl rfl rfl cd_J7_copyOf_6403c ⟨by rw [hR]; decide, by rw [hR]; decide⟩) rfl hl.1 (by decide) dJ7_copyOf_1904c_6 ⟨by rw [hR]; decide, by rw [hR]; decide⟩ rfl (fun r1 w2 H locs h3 hP hS => ?_)
  rw [hQ]
  refine g_aret (r := r1) F hP hS hlocks hr (by first | exact Or.inl ⟨_, rfl⟩ | exact Or.inr ⟨_, rfl⟩) dJ7_copyOf_1904c_9 (by decide) (by decide) ?_
  exact h3

theorem cd_J8_newLength_cabcc : yJ8_newLength_cabcc.cls ≠ "java/lang/invoke/MethodHandle" ∧ yJ8_newLength_cabcc.cls ≠ "java/lang/invoke/VarHandle" ∧ (parseMethodDescriptor yJ8_newLength_cabcc.desc).map (fun d => d.parameters.length) = some 3 := by decide +kernel
theorem cd_J7_copyOf_1904c : yJ7_copyOf_1904c.cls ≠ "java/lang/invoke/MethodHandle" ∧ yJ7_copyOf_1904c.cls ≠ "java/lang/invoke/VarHandle" ∧ (parseMethodDescriptor yJ7_copyOf_1904c.desc).map (fun d => d.parameters.length) = some 2 := by decide +kernel
set_option maxHeartbeats 4000000 in
set_option maxRecDepth 100000 in
theorem k_grow1 (l : Launch) (A : Nat → Prop) (G : g_C) (w : g_W) (h arr n cap : Nat) (mod : Int32) (f : Nat → Option Nat) (hh : w h = some (.inr (0, [.int mod, .ref arr, .int (nI n)]))) (ha : w arr = some (.inl (G.2.1 3, cap, .inr (.inr (.inr (.inr f)))))) (hn : n = cap) (hc0 : 2 ≤ cap) (hcm : cap < 30000) (c1 : Nat) (hc1 : c1 = cap + cap / 2) (ci : Nat) (r0 : vw_C) (hci : vwCl[ci]? = some r0) (hcs : (r0.1, "java/lang/Object") ∈ g_casts) (hel : ∀ i, i < cap → ∀ y, f i = some y → ∃ fs, w y = some (.inr (ci, fs))) : mQ l yJx4a65c_grow_92f84 wsJx4a65c_grow_92f84 ({ frames := 3, cells := 1, slots := 50000, locals := 144 } : Room) [.ref h, .int (nI (n + 1))] A G w (fun r w' => ∃ q f', r = some q ∧ w q = none ∧ (∀ k, k < cap → f' k = f k) ∧ w' = g_up (g_up w q (.inl (G.2.1 3, c1, .inr (.inr (.inr (.inr f')))))) h (.inr (0, [.int mod, .ref q, .int (nI n)]))) 1 50000 := by
  refine g_ofQ (cc := cJx4a65c_grow_92f84) (maxL := 4) (ret := (some (.array (.object "java/lang/Object")))) (own := RJx4a65c) (by decide) rfl rfl (by decide) ?_
  intro p e R s m args below meth c Q ls hR F hP hS hlocks hr hnm0 hQ hl
  obtain ⟨⟨hx, hb, hml, hown, hts⟩, hK, hZ, hA⟩ := id F
  generalize hH0 : s.heap = H at hP ⊢
  have hS : va_S A s.heap H [] := by rw [← hH0]; exact va_S.rf
  generalize ([] : List Loc) = locs at hS ⊢
  have hl : lv_has ls 4 [(0, .ref h), (1, .int (nI (n + 1)))] := hl
  have iJx4a65c : ∀ w ∈ u_ws RJx4a65c TJx4a65c 3, w ∈ wsJx4a65c_grow_92f84 := fun w h => List.mem_cons_of_mem _ (List.mem_append_right _ (h))
  refine lv_aload_n hx hb dJx4a65c_grow_92f84_0 rfl (lv_at hl 0 rfl) ?_
  refine g_get F hP (C := RJx4a65c) (T := TJx4a65c) (N := 3) iJx4a65c hh rfl 1 (by decide) (List.mem_cons_of_mem _ (List.mem_append_left _ (List.mem_append_left _ (List.mem_of_getElem? (i := 0) rfl)))) (fun _ h9 => h9) rfl dJx4a65c_grow_92f84_1 ?_
  refine g_alen F hP 3 rfl ha (v := nI cap) rfl dJx4a65c_grow_92f84_4 ?_
  refine lv_istore_n (lv' := [(2, .int (nI cap)), (0, .ref h), (1, .int (nI (n + 1)))]) hx hb dJx4a65c_grow_92f84_5 rfl hl (by decide) rfl (fun ls hl => ?_)
  refine lv_iload_n hx hb dJx4a65c_grow_92f84_6 rfl (lv_at hl 0 rfl) ?_
  refine lv_if_gt (tgt := 20) hx hb dJx4a65c_grow_92f84_7 (by decide) (fun c1 => ?_) (fun c1 => ?_)
  · refine lv_iload_n hx hb dJx4a65c_grow_92f84_20 rfl (lv_at hl 0 rfl) ?_
    refine lv_iload_n hx hb dJx4a65c_grow_92f84_21 rfl (lv_at hl 2 rfl) ?_
    refine lv_iload_n hx hb dJx4a65c_grow_92f84_22 rfl (lv_at hl 0 rfl) ?_
    refine lv_isub hx hb dJx4a65c_grow_92f84_23 ?_
    refine lv_topi (fun v2 ev2 => ?_)
    obtain rfl : v2 = nI 1 := by rw [ev2]; rw [hn, pk_sub (by omega), Nat.add_sub_cancel_left]
    refine lv_iload_n hx hb dJx4a65c_grow_92f84_24 rfl (lv_at hl 0 rfl) ?_
    refine lv_iconst (v := 1) hx hb dJx4a65c_grow_92f84_25 (by decide) ?_
    refine lv_ishr hx hb dJx4a65c_grow_92f84_26 ?_
    refine lv_topi (fun v3 ev3 => ?_)
    obtain rfl : v3 = nI (cap / 2) := by rw [ev3]; have k := pk_shrN (n := cap) (by omega) ((1 : Int32) &&& 31) 1 (by decide)
      rw [Nat.pow_one] at k
      exact k
    refine g_Si (As := [.int (nI cap), .int (nI 1), .int (nI (cap / 2))]) (rest := []) F hP hS (k_newLength l A G w cap (cap / 2) (by omega) (by omega) (by omega)) (va_cwS 3 hts gJx4a65c_grow_92f84_J8_newLength_cabcc rfl rfl rfl cd_J8_newLength_cabcc ⟨by rw [hR]; decide, by rw [hR]; decide⟩) rfl hl.1 (by decide) dJx4a65c_grow_92f84_27 ⟨by rw [hR]; decide, by rw [hR]; decide⟩ rfl (fun r4 w5 H locs h6 hP hS => ?_)
    obtain ⟨hr4, rfl⟩ := h6
    obtain rfl : r4 = nI (cap + cap / 2) := hr4
    refine lv_istore_n (lv' := [(3, .int (nI (cap + cap / 2))), (2, .int (nI cap)), (0, .ref h), (1, .int (nI (n + 1)))]) hx hb dJx4a65c_grow_92f84_30 rfl hl (by decide) rfl (fun ls hl => ?_)
    rw [← hc1] at hl
    refine lv_aload_n hx hb dJx4a65c_grow_92f84_31 rfl (lv_at hl 2 rfl) ?_
    refine lv_aload_n hx hb dJx4a65c_grow_92f84_32 rfl (lv_at hl 2 rfl) ?_
    refine g_get F hP (C := RJx4a65c) (T := TJx4a65c) (N := 3) iJx4a65c hh rfl 1 (by decide) (List.mem_cons_of_mem _ (List.mem_append_left _ (List.mem_append_left _ (List.mem_of_getElem? (i := 0) rfl)))) (fun _ h9 => h9) rfl dJx4a65c_grow_92f84_33 ?_
    refine lv_iload_n hx hb dJx4a65c_grow_92f84_36 rfl (lv_at hl 0 rfl) ?_
    refine g_Sq (As := [.ref arr, .int (nI c1)]) (rest := [.ref h]) F hP hS (k_copyOf2 l A G w arr cap c1 ci f r0 ha (by omega) (by omega) hci hcs hel) (va_cwS 2 hts gJx4a65c_grow_92f84_J7_copyOf_1904c rfl rfl rfl cd_J7_copyOf_1904c ⟨by rw [hR]; decide, by rw [hR]; decide⟩) rfl hl.1 (by decide) dJx4a65c_grow_92f84_37 ⟨by rw [hR]; decide, by rw [hR]; decide⟩ rfl (fun r7 w8 H locs h9 hP hS => ?_)
    obtain ⟨q10, fa11, hr7, nq10, kq10, ew8⟩ := h9
    subst hr7
    have f12 : w8 h = some (.inr (0, [.int mod, .ref arr, .int (nI n)])) := by rw [ew8]; exact g_up_f hh (g_neq hh nq10)
    have f13 : w8 arr = some (.inl (G.2.1 3, cap, .inr (.inr (.inr (.inr f))))) := by rw [ew8]; exact g_up_f ha (g_neq ha nq10)
    have f14 : w8 q10 = some (.inl (G.2.1 3, c1, .inr (.inr (.inr (.inr fa11))))) := by rw [ew8]; exact g_up_s _ _ _
    rw [show va_rf (some q10) = .ref q10 from rfl]
    refine lv_dup_x1 hx hb dJx4a65c_grow_92f84_40 rfl rfl ?_
    refine g_put F hP hS (C := RJx4a65c) (T := TJx4a65c) (N := 3) (v := .ref q10) iJx4a65c tyJx4a65c tyJx4a65c_ok nmJx4a65c f12 rfl 1 (by decide) (List.mem_cons_of_mem _ (List.mem_append_left _ (List.mem_append_left _ (List.mem_of_getElem? (i := 0) rfl)))) (fun _ h9 => h9) rfl (by decide +kernel) rfl rfl (by show 1 < 3; decide) dJx4a65c_grow_92f84_41 (fun H locs hP hS => ?_)
    obtain ⟨w15, ew15⟩ : ∃ z, z = g_up w8 h (.inr (0, [.int mod, .ref q10, .int (nI n)])) := ⟨_, rfl⟩
    have hP : g_P A G w15 H := by rw [ew15]; exact hP
    have f16 : w15 arr = some (.inl (G.2.1 3, cap, .inr (.inr (.inr (.inr f))))) := by rw [ew15]; exact g_up_f f13 (g_ne f13 f12 rfl)
    have f17 : w15 q10 = some (.inl (G.2.1 3, c1, .inr (.inr (.inr (.inr fa11))))) := by rw [ew15]; exact g_up_f f14 (g_ne f14 f12 rfl)
    have f18 : w15 h = some (.inr (0, [.int mod, .ref q10, .int (nI n)])) := by rw [ew15]; exact g_up_s _ _ _
    rw [hQ]
    refine g_aret (r := (some q10)) F hP hS hlocks hr (by first | exact Or.inl ⟨_, rfl⟩ | exact Or.inr ⟨_, rfl⟩) dJx4a65c_grow_92f84_44 (by decide) (by decide) ?_
    exact ⟨q10, fa11, rfl, nq10, kq10, by simp only [ew15, ew8]⟩
  · exact absurd (by rw [← nI_0]; exact nI_lt (by omega) (by omega)) c1

set_option maxHeartbeats 4000000 in
set_option maxRecDepth 100000 in
theorem k_grow1F (l : Launch) (A : Nat → Prop) (G : g_C) (w : g_W) (h : Nat) (mod : Int32) (hh : w h = some (.inr (0, [.int mod, .ref (G.2.2 0), .int (nI 0)]))) : mQ l yJx4a65c_grow_92f84 wsJx4a65c_grow_92f84 ({ frames := 1, cells := 1, slots := 50000, locals := 40 } : Room) [.ref h, .int (nI 1)] A G w (fun r w' => ∃ q, r = some q ∧ w q = none ∧ w' = g_up (g_up w q (.inl (G.2.1 3, 10, .inr (.inr (.inr (.inr (fun _ => none))))))) h (.inr (0, [.int mod, .ref q, .int (nI 0)]))) 1 50000 := by
  refine g_ofQ (cc := cJx4a65c_grow_92f84) (maxL := 4) (ret := (some (.array (.object "java/lang/Object")))) (own := RJx4a65c) (by decide) rfl rfl (by decide) ?_
  intro p e R s m args below meth c Q ls hR F hP hS hlocks hr hnm0 hQ hl
  obtain ⟨⟨hx, hb, hml, hown, hts⟩, hK, hZ, hA⟩ := id F
  generalize hH0 : s.heap = H at hP ⊢
  have hS : va_S A s.heap H [] := by rw [← hH0]; exact va_S.rf
  generalize ([] : List Loc) = locs at hS ⊢
  have hl : lv_has ls 4 [(0, .ref h), (1, .int (nI 1))] := hl
  have iJx4a65c : ∀ w ∈ u_ws RJx4a65c TJx4a65c 3, w ∈ wsJx4a65c_grow_92f84 := fun w h => List.mem_cons_of_mem _ (List.mem_append_right _ (h))
  refine lv_aload_n hx hb dJx4a65c_grow_92f84_0 rfl (lv_at hl 0 rfl) ?_
  refine g_get F hP (C := RJx4a65c) (T := TJx4a65c) (N := 3) iJx4a65c hh rfl 1 (by decide) (List.mem_cons_of_mem _ (List.mem_append_left _ (List.mem_append_left _ (List.mem_of_getElem? (i := 0) rfl)))) (fun _ h9 => h9) rfl dJx4a65c_grow_92f84_1 ?_
  refine g_tlen F hS dJx4a65c_grow_92f84_4 ?_
  refine lv_istore_n (lv' := [(2, .int 0), (0, .ref h), (1, .int (nI 1))]) hx hb dJx4a65c_grow_92f84_5 rfl hl (by decide) rfl (fun ls hl => ?_)
  refine lv_iload_n hx hb dJx4a65c_grow_92f84_6 rfl (lv_at hl 0 rfl) ?_
  refine lv_if_gt (tgt := 20) hx hb dJx4a65c_grow_92f84_7 (by decide) (fun c1 => ?_) (fun c1 => ?_)
  · exact absurd c1 (by decide)
  · refine lv_aload_n hx hb dJx4a65c_grow_92f84_10 rfl (lv_at hl 1 rfl) ?_
    refine g_get F hP (C := RJx4a65c) (T := TJx4a65c) (N := 3) iJx4a65c hh rfl 1 (by decide) (List.mem_cons_of_mem _ (List.mem_append_left _ (List.mem_append_left _ (List.mem_of_getElem? (i := 0) rfl)))) (fun _ h9 => h9) rfl dJx4a65c_grow_92f84_11 ?_
    refine g_gets F hS (List.mem_cons_of_mem _ (List.mem_append_left _ (List.mem_append_left _ (List.mem_of_getElem? (i := 1) rfl)))) dJx4a65c_grow_92f84_14 ?_
    refine lv_acmp_eq (tgt := 45) (rx := (some G.2.2 0)) (ry := (some G.2.2 0)) hx hb dJx4a65c_grow_92f84_17 (by decide) (fun c2 => ?_) (fun c2 => ?_)
    · refine lv_aload_n hx hb dJx4a65c_grow_92f84_45 rfl (lv_at hl 1 rfl) ?_
      refine lv_bipush (v := 10) hx hb dJx4a65c_grow_92f84_46 (by decide) ?_
      refine lv_iload_n hx hb dJx4a65c_grow_92f84_48 rfl (lv_at hl 2 rfl) ?_
      refine va_mmax hx hb (by rw [hml]; exact hl.1.symm) hown (hts _ (List.mem_cons_of_mem _ (List.mem_append_left _ (List.mem_append_left _ (List.mem_of_getElem? (i := 2) rfl))))) (hts _ (List.mem_cons_of_mem _ (List.mem_append_left _ (List.mem_append_left _ (List.mem_of_getElem? (i := 3) rfl))))) (hts _ (List.mem_cons_of_mem _ (List.mem_append_left _ (List.mem_append_left _ (List.mem_of_getElem? (i := 4) rfl))))) (hts _ (List.mem_cons_of_mem _ (List.mem_append_left _ (List.mem_append_left _ (List.mem_of_getElem? (i := 5) rfl))))) (by rw [hR]; decide) (by rw [hR]; decide) (by rw [hR]; decide) (by rw [hR]; decide) dJx4a65c_grow_92f84_49 ?_
      refine lv_topi (fun v3 ev3 => ?_)
      obtain rfl : v3 = nI 10 := by rw [ev3]; decide
      refine g_newqO F hP hS (N' := 10) (List.mem_cons_of_mem _ (List.mem_append_left _ (List.mem_append_left _ (List.mem_of_getElem? (i := 6) rfl)))) (by decide) (by decide) (by decide) (by rw [hR]; decide) (by rw [hR]; decide) dJx4a65c_grow_92f84_52 (fun q4 H nq4 hP hS => ?_)
      obtain ⟨w5, ew5⟩ : ∃ z, z = g_up w q4 (.inl (G.2.1 3, 10, .inr (.inr (.inr (.inr (fun _ => none)))))) := ⟨_, rfl⟩
      have hP : g_P A G w5 H := by rw [ew5]; exact hP
      have f6 : w5 h = some (.inr (0, [.int mod, .ref (G.2.2 0), .int (nI 0)])) := by rw [ew5]; exact g_up_f hh (g_neq hh nq4)
      have f7 : w5 q4 = some (.inl (G.2.1 3, 10, .inr (.inr (.inr (.inr (fun _ => none)))))) := by rw [ew5]; exact g_up_s _ _ _
      refine lv_dup_x1 hx hb dJx4a65c_grow_92f84_55 rfl rfl ?_
      refine g_put F hP hS (C := RJx4a65c) (T := TJx4a65c) (N := 3) (v := .ref q4) iJx4a65c tyJx4a65c tyJx4a65c_ok nmJx4a65c f6 rfl 1 (by decide) (List.mem_cons_of_mem _ (List.mem_append_left _ (List.mem_append_left _ (List.mem_of_getElem? (i := 0) rfl)))) (fun _ h9 => h9) rfl (by decide +kernel) rfl rfl (by show 1 < 3; decide) dJx4a65c_grow_92f84_56 (fun H locs hP hS => ?_)
      obtain ⟨w8, ew8⟩ : ∃ z, z = g_up w5 h (.inr (0, [.int mod, .ref q4, .int (nI 0)])) := ⟨_, rfl⟩
      have hP : g_P A G w8 H := by rw [ew8]; exact hP
      have f9 : w8 q4 = some (.inl (G.2.1 3, 10, .inr (.inr (.inr (.inr (fun _ => none)))))) := by rw [ew8]; exact g_up_f f7 (g_ne f7 f6 rfl)
      have f10 : w8 h = some (.inr (0, [.int mod, .ref q4, .int (nI 0)])) := by rw [ew8]; exact g_up_s _ _ _
      rw [hQ]
      refine g_aret (r := (some q4)) F hP hS hlocks hr (by first | exact Or.inl ⟨_, rfl⟩ | exact Or.inr ⟨_, rfl⟩) dJx4a65c_grow_92f84_59 (by decide) (by decide) ?_
      exact ⟨q4, rfl, nq4, by simp only [ew8, ew5]⟩
    · exact absurd rfl c2

theorem cd_Jx4a65c_grow_92f84 : yJx4a65c_grow_92f84.cls = RJx4a65c ∧ yJx4a65c_grow_92f84.cls ≠ "java/lang/invoke/MethodHandle" ∧ yJx4a65c_grow_92f84.cls ≠ "java/lang/invoke/VarHandle" ∧ (parseMethodDescriptor yJx4a65c_grow_92f84.desc).map (fun d => d.parameters.length) = some 1 := by decide +kernel
set_option maxHeartbeats 4000000 in
set_option maxRecDepth 100000 in
theorem k_grow0 (l : Launch) (A : Nat → Prop) (G : g_C) (w : g_W) (h arr n cap : Nat) (mod : Int32) (f : Nat → Option Nat) (hh : w h = some (.inr (0, [.int mod, .ref arr, .int (nI n)]))) (ha : w arr = some (.inl (G.2.1 3, cap, .inr (.inr (.inr (.inr f)))))) (hn : n = cap) (hc0 : 2 ≤ cap) (hcm : cap < 30000) (c1 : Nat) (hc1 : c1 = cap + cap / 2) (ci : Nat) (r0 : vw_C) (hci : vwCl[ci]? = some r0) (hcs : (r0.1, "java/lang/Object") ∈ g_casts) (hel : ∀ i, i < cap → ∀ y, f i = some y → ∃ fs, w y = some (.inr (ci, fs))) : mQ l yJx4a65c_grow_d5877 wsJx4a65c_grow_d5877 ({ frames := 2, cells := 1, slots := 50000, locals := 63 } : Room) [.ref h] A G w (fun r w' => ∃ q f', r = some q ∧ w q = none ∧ (∀ k, k < cap → f' k = f k) ∧ w' = g_up (g_up w q (.inl (G.2.1 3, c1, .inr (.inr (.inr (.inr f')))))) h (.inr (0, [.int mod, .ref q, .int (nI n)]))) 1 50000 := by
  refine g_ofQ (cc := cJx4a65c_grow_d5877) (maxL := 1) (ret := (some (.array (.object "java/lang/Object")))) (own := RJx4a65c) (by decide) rfl rfl (by decide) ?_
  intro p e R s m args below meth c Q ls hR F hP hS hlocks hr hnm0 hQ hl
  obtain ⟨⟨hx, hb, hml, hown, hts⟩, hK, hZ, hA⟩ := id F
  generalize hH0 : s.heap = H at hP ⊢
  have hS : va_S A s.heap H [] := by rw [← hH0]; exact va_S.rf
  generalize ([] : List Loc) = locs at hS ⊢
  have hl : lv_has ls 1 [(0, .ref h)] := hl
  have iJx4a65c : ∀ w ∈ u_ws RJx4a65c TJx4a65c 3, w ∈ wsJx4a65c_grow_d5877 := fun w h => List.mem_cons_of_mem _ (List.mem_append_right _ (h))
  refine lv_aload_n hx hb dJx4a65c_grow_d5877_0 rfl (lv_at hl 0 rfl) ?_
  refine lv_aload_n hx hb dJx4a65c_grow_d5877_1 rfl (lv_at hl 0 rfl) ?_
  refine g_get F hP (C := RJx4a65c) (T := TJx4a65c) (N := 3) iJx4a65c hh rfl 2 (by decide) (List.mem_cons_of_mem _ (List.mem_append_left _ (List.mem_append_left _ (List.mem_of_getElem? (i := 0) rfl)))) (fun _ h9 => h9) rfl dJx4a65c_grow_d5877_2 ?_
  refine lv_iconst (v := 1) hx hb dJx4a65c_grow_d5877_5 (by decide) ?_
  refine lv_iadd hx hb dJx4a65c_grow_d5877_6 ?_
  refine lv_topi (fun v1 ev1 => ?_)
  obtain rfl : v1 = nI (n + 1) := by rw [ev1]; exact nI_1 n
  refine g_Vq (As := [.int (nI (n + 1))]) (rest := []) F hP hS (k_grow1 l A G w h arr n cap mod f hh ha hn hc0 hcm c1 hc1 ci r0 hci hcs hel) (cwV 1 hts gJx4a65c_grow_d5877_Jx4a65c_grow_92f84 rfl rfl rfl cd_Jx4a65c_grow_92f84 ⟨by rw [hR]; decide, by rw [hR]; decide⟩) hh rfl rfl rfl hl.1 (by decide) dJx4a65c_grow_d5877_7 ⟨by rw [hR]; decide, by rw [hR]; decide⟩ rfl (fun r2 w3 H locs h4 hP hS => ?_)
  rw [hQ]
  refine g_aret (r := r2) F hP hS hlocks hr (by first | exact Or.inl ⟨_, rfl⟩ | exact Or.inr ⟨_, rfl⟩) dJx4a65c_grow_d5877_10 (by decide) (by decide) ?_
  exact h4

set_option maxHeartbeats 4000000 in
set_option maxRecDepth 100000 in
theorem k_grow0F (l : Launch) (A : Nat → Prop) (G : g_C) (w : g_W) (h : Nat) (mod : Int32) (hh : w h = some (.inr (0, [.int mod, .ref (G.2.2 0), .int (nI 0)]))) : mQ l yJx4a65c_grow_d5877 wsJx4a65c_grow_d5877 ({ frames := 2, cells := 1, slots := 50000, locals := 63 } : Room) [.ref h] A G w (fun r w' => ∃ q, r = some q ∧ w q = none ∧ w' = g_up (g_up w q (.inl (G.2.1 3, 10, .inr (.inr (.inr (.inr (fun _ => none))))))) h (.inr (0, [.int mod, .ref q, .int (nI 0)]))) 1 50000 := by
  refine g_ofQ (cc := cJx4a65c_grow_d5877) (maxL := 1) (ret := (some (.array (.object "java/lang/Object")))) (own := RJx4a65c) (by decide) rfl rfl (by decide) ?_
  intro p e R s m args below meth c Q ls hR F hP hS hlocks hr hnm0 hQ hl
  obtain ⟨⟨hx, hb, hml, hown, hts⟩, hK, hZ, hA⟩ := id F
  generalize hH0 : s.heap = H at hP ⊢
  have hS : va_S A s.heap H [] := by rw [← hH0]; exact va_S.rf
  generalize ([] : List Loc) = locs at hS ⊢
  have hl : lv_has ls 1 [(0, .ref h)] := hl
  have iJx4a65c : ∀ w ∈ u_ws RJx4a65c TJx4a65c 3, w ∈ wsJx4a65c_grow_d5877 := fun w h => List.mem_cons_of_mem _ (List.mem_append_right _ (h))
  refine lv_aload_n hx hb dJx4a65c_grow_d5877_0 rfl (lv_at hl 0 rfl) ?_
  refine lv_aload_n hx hb dJx4a65c_grow_d5877_1 rfl (lv_at hl 0 rfl) ?_
  refine g_get F hP (C := RJx4a65c) (T := TJx4a65c) (N := 3) iJx4a65c hh rfl 2 (by decide) (List.mem_cons_of_mem _ (List.mem_append_left _ (List.mem_append_left _ (List.mem_of_getElem? (i := 0) rfl)))) (fun _ h9 => h9) rfl dJx4a65c_grow_d5877_2 ?_
  refine lv_iconst (v := 1) hx hb dJx4a65c_grow_d5877_5 (by decide) ?_
  refine lv_iadd hx hb dJx4a65c_grow_d5877_6 ?_
  refine lv_topi (fun v1 ev1 => ?_)
  obtain rfl : v1 = nI 1 := by rw [ev1]; decide
  refine g_Vq (As := [.int (nI 1)]) (rest := []) F hP hS (k_grow1F l A G w h mod hh) (cwV 1 hts gJx4a65c_grow_d5877_Jx4a65c_grow_92f84 rfl rfl rfl cd_Jx4a65c_grow_92f84 ⟨by rw [hR]; decide, by rw [hR]; decide⟩) hh rfl rfl rfl hl.1 (by decide) dJx4a65c_grow_d5877_7 ⟨by rw [hR]; decide, by rw [hR]; decide⟩ rfl (fun r2 w3 H locs h4 hP hS => ?_)
  rw [hQ]
  refine g_aret (r := r2) F hP hS hlocks hr (by first | exact Or.inl ⟨_, rfl⟩ | exact Or.inr ⟨_, rfl⟩) dJx4a65c_grow_d5877_10 (by decide) (by decide) ?_
  exact h4

set_option maxHeartbeats 4000000 in
set_option maxRecDepth 100000 in
theorem k_addR (l : Launch) (A : Nat → Prop) (G : g_C) (w : g_W) (h arr n cap : Nat) (mod : Int32) (f : Nat → Option Nat) (hh : w h = some (.inr (0, [.int mod, .ref arr, .int (nI n)]))) (ha : w arr = some (.inl (G.2.1 3, cap, .inr (.inr (.inr (.inr f)))))) (hn : n < cap) (hcm : cap < 100000) (v ci : Nat) (r0 : vw_C) (vs : List Value) (hv : w v = some (.inr (ci, vs))) (hci : vwCl[ci]? = some r0) (hcs : (r0.1, "java/lang/Object") ∈ g_casts) (hvh : v ≠ h) : mV l yJx4a65c_add_72be8 wsJx4a65c_add_72be8 ({ frames := 0, cells := 0, slots := 0, locals := 0 } : Room) [.ref h, .ref v, .ref arr, .int (nI n)] A G w (fun w' => w' = g_up (g_up w arr (.inl (G.2.1 3, cap, .inr (.inr (.inr (.inr (va_up f n (some v)))))))) h (.inr (0, [.int mod, .ref arr, .int (nI (n + 1))]))) 0 0 := by
  refine g_ofV (cc := cJx4a65c_add_72be8) (maxL := 4) (ret := none) (own := RJx4a65c) (by decide) rfl rfl (by decide) ?_
  intro p e R s m args below meth c Q ls hR F hP hS hlocks hr hnm0 hQ hl
  obtain ⟨⟨hx, hb, hml, hown, hts⟩, hK, hZ, hA⟩ := id F
  generalize hH0 : s.heap = H at hP ⊢
  have hS : va_S A s.heap H [] := by rw [← hH0]; exact va_S.rf
  generalize ([] : List Loc) = locs at hS ⊢
  have hl : lv_has ls 4 [(0, .ref h), (1, .ref v), (2, .ref arr), (3, .int (nI n))] := hl
  have iJx4a65c : ∀ w ∈ u_ws RJx4a65c TJx4a65c 3, w ∈ wsJx4a65c_add_72be8 := fun w h => List.mem_cons_of_mem _ (List.mem_append_right _ (h))
  refine lv_iload_n hx hb dJx4a65c_add_72be8_0 rfl (lv_at hl 3 rfl) ?_
  refine lv_aload_n hx hb dJx4a65c_add_72be8_1 rfl (lv_at hl 2 rfl) ?_
  refine g_alen F hP 3 rfl ha (v := nI cap) rfl dJx4a65c_add_72be8_2 ?_
  refine lv_icmp_ne (tgt := 11) hx hb dJx4a65c_add_72be8_3 (by decide) (fun c1 => ?_) (fun c1 => ?_)
  · refine lv_aload_n hx hb dJx4a65c_add_72be8_11 rfl (lv_at hl 2 rfl) ?_
    refine lv_iload_n hx hb dJx4a65c_add_72be8_12 rfl (lv_at hl 3 rfl) ?_
    refine lv_aload_n hx hb dJx4a65c_add_72be8_13 rfl (lv_at hl 1 rfl) ?_
    refine g_astqO F hP hS ha hv hci (hZ.2.2.2.2.2.2.2.1 _ hcs) (vp_in_nI hn (by omega)) dJx4a65c_add_72be8_14 (fun H locs hP hS => ?_)
    obtain ⟨w2, ew2⟩ : ∃ z, z = g_up w arr (.inl (G.2.1 3, cap, .inr (.inr (.inr (.inr (va_up f (nI n).toNatClampNeg (some v))))))) := ⟨_, rfl⟩
    have hP : g_P A G w2 H := by rw [ew2]; exact hP
    have f3 : w2 h = some (.inr (0, [.int mod, .ref arr, .int (nI n)])) := by rw [ew2]; exact g_up_f hh (g_ne hh ha rfl)
    have f4 : w2 v = some (.inr (ci, vs)) := by rw [ew2]; exact g_up_f hv (g_noa hv ha)
    have f5 : w2 arr = some (.inl (G.2.1 3, cap, .inr (.inr (.inr (.inr (va_up f (nI n).toNatClampNeg (some v))))))) := by rw [ew2]; exact g_up_s _ _ _
    refine lv_aload_n hx hb dJx4a65c_add_72be8_15 rfl (lv_at hl 0 rfl) ?_
    refine lv_iload_n hx hb dJx4a65c_add_72be8_16 rfl (lv_at hl 3 rfl) ?_
    refine lv_iconst (v := 1) hx hb dJx4a65c_add_72be8_17 (by decide) ?_
    refine lv_iadd hx hb dJx4a65c_add_72be8_18 ?_
    refine lv_topi (fun v6 ev6 => ?_)
    obtain rfl : v6 = nI (n + 1) := by rw [ev6]; exact nI_1 n
    refine g_put F hP hS (C := RJx4a65c) (T := TJx4a65c) (N := 3) (v := .int (nI (n + 1))) iJx4a65c tyJx4a65c tyJx4a65c_ok nmJx4a65c f3 rfl 2 (by decide) (List.mem_cons_of_mem _ (List.mem_append_left _ (List.mem_append_left _ (List.mem_of_getElem? (i := 0) rfl)))) (fun _ h9 => h9) rfl (by decide +kernel) rfl rfl (by show 2 < 3; decide) dJx4a65c_add_72be8_19 (fun H locs hP hS => ?_)
    obtain ⟨w7, ew7⟩ : ∃ z, z = g_up w2 h (.inr (0, [.int mod, .ref arr, .int (nI (n + 1))])) := ⟨_, rfl⟩
    have hP : g_P A G w7 H := by rw [ew7]; exact hP
    have f8 : w7 v = some (.inr (ci, vs)) := by rw [ew7]; exact g_up_f f4 (hvh)
    have f9 : w7 arr = some (.inl (G.2.1 3, cap, .inr (.inr (.inr (.inr (va_up f (nI n).toNatClampNeg (some v))))))) := by rw [ew7]; exact g_up_f f5 (g_ne f5 f3 rfl)
    have f10 : w7 h = some (.inr (0, [.int mod, .ref arr, .int (nI (n + 1))])) := by rw [ew7]; exact g_up_s _ _ _
    rw [hQ]
    refine g_vret F hP hS hlocks hr dJx4a65c_add_72be8_22 (by decide) (by decide) ?_
    rw [nI_clamp (by omega)] at ew2
    simp only [ew7, ew2]
  · exact absurd ((nI_eq (by omega) (by omega)).mp (by simpa using c1)) (by omega)

theorem cd_Jx4a65c_grow_d5877 : yJx4a65c_grow_d5877.cls = RJx4a65c ∧ yJx4a65c_grow_d5877.cls ≠ "java/lang/invoke/MethodHandle" ∧ yJx4a65c_grow_d5877.cls ≠ "java/lang/invoke/VarHandle" ∧ (parseMethodDescriptor yJx4a65c_grow_d5877.desc).map (fun d => d.parameters.length) = some 0 := by decide +kernel
set_option maxHeartbeats 4000000 in
set_option maxRecDepth 100000 in
theorem k_addG (l : Launch) (A : Nat → Prop) (G : g_C) (w : g_W) (h arr n cap : Nat) (mod : Int32) (f : Nat → Option Nat) (hh : w h = some (.inr (0, [.int mod, .ref arr, .int (nI n)]))) (ha : w arr = some (.inl (G.2.1 3, cap, .inr (.inr (.inr (.inr f)))))) (v ci : Nat) (r0 : vw_C) (vs : List Value) (hv : w v = some (.inr (ci, vs))) (hci : vwCl[ci]? = some r0) (hcs : (r0.1, "java/lang/Object") ∈ g_casts) (hvh : v ≠ h) (hn : n = cap) (hc0 : 2 ≤ cap) (hcm : cap < 30000) (c1 : Nat) (hc1 : c1 = cap + cap / 2) (hel : ∀ i, i < cap → ∀ y, f i = some y → ∃ fs, w y = some (.inr (ci, fs))) : mV l yJx4a65c_add_72be8 wsJx4a65c_add_72be8 ({ frames := 3, cells := 1, slots := 50000, locals := 83 } : Room) [.ref h, .ref v, .ref arr, .int (nI n)] A G w (fun w' => ∃ q f', w q = none ∧ (∀ k, k < cap → f' k = f k) ∧ f' n = some v ∧ w' = g_up (g_up w q (.inl (G.2.1 3, c1, .inr (.inr (.inr (.inr f')))))) h (.inr (0, [.int mod, .ref q, .int (nI (n + 1))]))) 1 50000 := by
  refine g_ofV (cc := cJx4a65c_add_72be8) (maxL := 4) (ret := none) (own := RJx4a65c) (by decide) rfl rfl (by decide) ?_
  intro p e R s m args below meth c Q ls hR F hP hS hlocks hr hnm0 hQ hl
  obtain ⟨⟨hx, hb, hml, hown, hts⟩, hK, hZ, hA⟩ := id F
  generalize hH0 : s.heap = H at hP ⊢
  have hS : va_S A s.heap H [] := by rw [← hH0]; exact va_S.rf
  generalize ([] : List Loc) = locs at hS ⊢
  have hl : lv_has ls 4 [(0, .ref h), (1, .ref v), (2, .ref arr), (3, .int (nI n))] := hl
  have iJx4a65c : ∀ w ∈ u_ws RJx4a65c TJx4a65c 3, w ∈ wsJx4a65c_add_72be8 := fun w h => List.mem_cons_of_mem _ (List.mem_append_right _ (h))
  refine lv_iload_n hx hb dJx4a65c_add_72be8_0 rfl (lv_at hl 3 rfl) ?_
  refine lv_aload_n hx hb dJx4a65c_add_72be8_1 rfl (lv_at hl 2 rfl) ?_
  refine g_alen F hP 3 rfl ha (v := nI cap) rfl dJx4a65c_add_72be8_2 ?_
  refine lv_icmp_ne (tgt := 11) hx hb dJx4a65c_add_72be8_3 (by decide) (fun c1 => ?_) (fun c1 => ?_)
  · exact absurd (by rw [hn]) c1
  · refine lv_aload_n hx hb dJx4a65c_add_72be8_6 rfl (lv_at hl 0 rfl) ?_
    refine g_Vq (As := []) (rest := []) F hP hS (k_grow0 l A G w h arr n cap mod f hh ha hn hc0 hcm c1 hc1 ci r0 hci hcs hel) (cwV 0 hts gJx4a65c_add_72be8_Jx4a65c_grow_d5877 rfl rfl rfl cd_Jx4a65c_grow_d5877 ⟨by rw [hR]; decide, by rw [hR]; decide⟩) hh rfl rfl rfl hl.1 (by decide) dJx4a65c_add_72be8_7 ⟨by rw [hR]; decide, by rw [hR]; decide⟩ rfl (fun r2 w3 H locs h4 hP hS => ?_)
    obtain ⟨q5, fa6, hr2, nq5, kq5, ew3⟩ := h4
    subst hr2
    rw [show va_rf (some q5) = .ref q5 from rfl]
    have f7 : w3 arr = some (.inl (G.2.1 3, cap, .inr (.inr (.inr (.inr f))))) := by rw [ew3]; exact g_up_f (g_up_f ha (g_neq ha nq5)) (g_ne ha hh rfl)
    have f8 : w3 v = some (.inr (ci, vs)) := by rw [ew3]; exact g_up_f (g_up_f hv (g_neq hv nq5)) (hvh)
    have f9 : w3 q5 = some (.inl (G.2.1 3, c1, .inr (.inr (.inr (.inr fa6))))) := by rw [ew3]; exact g_up_f (g_up_s _ _ _) (Ne.symm (g_neq hh nq5))
    have f10 : w3 h = some (.inr (0, [.int mod, .ref q5, .int (nI n)])) := by rw [ew3]; exact g_up_s _ _ _
    refine lv_astore_n (lv' := [(2, .ref q5), (0, .ref h), (1, .ref v), (3, .int (nI n))]) hx hb dJx4a65c_add_72be8_10 rfl hl (by decide) rfl (fun ls hl => ?_)
    refine lv_aload_n hx hb dJx4a65c_add_72be8_11 rfl (lv_at hl 0 rfl) ?_
    refine lv_iload_n hx hb dJx4a65c_add_72be8_12 rfl (lv_at hl 3 rfl) ?_
    refine lv_aload_n hx hb dJx4a65c_add_72be8_13 rfl (lv_at hl 2 rfl) ?_
    refine g_astqO F hP hS f9 f8 hci (hZ.2.2.2.2.2.2.2.1 _ hcs) (vp_in_nI (by omega) (by omega)) dJx4a65c_add_72be8_14 (fun H locs hP hS => ?_)
    obtain ⟨w11, ew11⟩ : ∃ z, z = g_up w3 q5 (.inl (G.2.1 3, c1, .inr (.inr (.inr (.inr (va_up fa6 (nI n).toNatClampNeg (some v))))))) := ⟨_, rfl⟩
    have hP : g_P A G w11 H := by rw [ew11]; exact hP
    have f12 : w11 arr = some (.inl (G.2.1 3, cap, .inr (.inr (.inr (.inr f))))) := by rw [ew11]; exact g_up_f f7 (g_ne f7 f9 rfl)
    have f13 : w11 v = some (.inr (ci, vs)) := by rw [ew11]; exact g_up_f f8 (g_neq hv nq5)
    have f14 : w11 h = some (.inr (0, [.int mod, .ref q5, .int (nI n)])) := by rw [ew11]; exact g_up_f f10 (g_ne f10 f9 rfl)
    have f15 : w11 q5 = some (.inl (G.2.1 3, c1, .inr (.inr (.inr (.inr (va_up fa6 (nI n).toNatClampNeg (some v))))))) := by rw [ew11]; exact g_up_s _ _ _
    refine lv_aload_n hx hb dJx4a65c_add_72be8_15 rfl (lv_at hl 1 rfl) ?_
    refine lv_iload_n hx hb dJx4a65c_add_72be8_16 rfl (lv_at hl 3 rfl) ?_
    refine lv_iconst (v := 1) hx hb dJx4a65c_add_72be8_17 (by decide) ?_
    refine lv_iadd hx hb dJx4a65c_add_72be8_18 ?_
    refine lv_topi (fun v16 ev16 => ?_)
    obtain rfl : v16 = nI (n + 1) := by rw [ev16]; exact nI_1 n
    refine g_put F hP hS (C := RJx4a65c) (T := TJx4a65c) (N := 3) (v := .int (nI (n + 1))) iJx4a65c tyJx4a65c tyJx4a65c_ok nmJx4a65c f14 rfl 2 (by decide) (List.mem_cons_of_mem _ (List.mem_append_left _ (List.mem_append_left _ (List.mem_of_getElem? (i := 0) rfl)))) (fun _ h9 => h9) rfl (by decide +kernel) rfl rfl (by show 2 < 3; decide) dJx4a65c_add_72be8_19 (fun H locs hP hS => ?_)
    obtain ⟨w17, ew17⟩ : ∃ z, z = g_up w11 h (.inr (0, [.int mod, .ref q5, .int (nI (n + 1))])) := ⟨_, rfl⟩
    have hP : g_P A G w17 H := by rw [ew17]; exact hP
    have f18 : w17 arr = some (.inl (G.2.1 3, cap, .inr (.inr (.inr (.inr f))))) := by rw [ew17]; exact g_up_f f12 (g_ne f12 f14 rfl)
    have f19 : w17 v = some (.inr (ci, vs)) := by rw [ew17]; exact g_up_f f13 (hvh)
    have f20 : w17 q5 = some (.inl (G.2.1 3, c1, .inr (.inr (.inr (.inr (va_up fa6 (nI n).toNatClampNeg (some v))))))) := by rw [ew17]; exact g_up_f f15 (g_ne f15 f14 rfl)
    have f21 : w17 h = some (.inr (0, [.int mod, .ref q5, .int (nI (n + 1))])) := by rw [ew17]; exact g_up_s _ _ _
    rw [hQ]
    refine g_vret F hP hS hlocks hr dJx4a65c_add_72be8_22 (by decide) (by decide) ?_
    refine ⟨q5, va_up fa6 n (some v), nq5, fun k hk => by simp only [va_up]; rw [if_neg (by omega)]; exact kq5 k hk, by simp [va_up], ?_⟩
    rw [nI_clamp (by omega)] at ew11
    simp only [ew17, ew11, ew3]
    have zq := g_neq hh nq5
    funext z
    simp only [g_up]
    by_cases z3 : z = h <;> by_cases z4 : z = q5 <;> simp_all

set_option maxHeartbeats 4000000 in
set_option maxRecDepth 100000 in
theorem k_addF (l : Launch) (A : Nat → Prop) (G : g_C) (w : g_W) (h : Nat) (mod : Int32) (hh : w h = some (.inr (0, [.int mod, .ref (G.2.2 0), .int (nI 0)]))) (v ci : Nat) (r0 : vw_C) (vs : List Value) (hv : w v = some (.inr (ci, vs))) (hci : vwCl[ci]? = some r0) (hcs : (r0.1, "java/lang/Object") ∈ g_casts) (hvh : v ≠ h) : mV l yJx4a65c_add_72be8 wsJx4a65c_add_72be8 ({ frames := 3, cells := 1, slots := 50000, locals := 83 } : Room) [.ref h, .ref v, .ref (G.2.2 0), .int (nI 0)] A G w (fun w' => ∃ q f', w q = none ∧ f' 0 = some v ∧ w' = g_up (g_up w q (.inl (G.2.1 3, 10, .inr (.inr (.inr (.inr f')))))) h (.inr (0, [.int mod, .ref q, .int (nI 1)]))) 1 50000 := by
  refine g_ofV (cc := cJx4a65c_add_72be8) (maxL := 4) (ret := none) (own := RJx4a65c) (by decide) rfl rfl (by decide) ?_
  intro p e R s m args below meth c Q ls hR F hP hS hlocks hr hnm0 hQ hl
  obtain ⟨⟨hx, hb, hml, hown, hts⟩, hK, hZ, hA⟩ := id F
  generalize hH0 : s.heap = H at hP ⊢
  have hS : va_S A s.heap H [] := by rw [← hH0]; exact va_S.rf
  generalize ([] : List Loc) = locs at hS ⊢
  have hl : lv_has ls 4 [(0, .ref h), (1, .ref v), (2, .ref (G.2.2 0)), (3, .int (nI 0))] := hl
  have iJx4a65c : ∀ w ∈ u_ws RJx4a65c TJx4a65c 3, w ∈ wsJx4a65c_add_72be8 := fun w h => List.mem_cons_of_mem _ (List.mem_append_right _ (h))
  refine lv_iload_n hx hb dJx4a65c_add_72be8_0 rfl (lv_at hl 3 rfl) ?_
  refine lv_aload_n hx hb dJx4a65c_add_72be8_1 rfl (lv_at hl 2 rfl) ?_
  refine g_tlen F hS dJx4a65c_add_72be8_2 ?_
  refine lv_icmp_ne (tgt := 11) hx hb dJx4a65c_add_72be8_3 (by decide) (fun c1 => ?_) (fun c1 => ?_)
  · exact absurd (by decide) c1
  · refine lv_aload_n hx hb dJx4a65c_add_72be8_6 rfl (lv_at hl 0 rfl) ?_
    refine g_Vq (As := []) (rest := []) F hP hS (k_grow0F l A G w h mod hh) (cwV 0 hts gJx4a65c_add_72be8_Jx4a65c_grow_d5877 rfl rfl rfl cd_Jx4a65c_grow_d5877 ⟨by rw [hR]; decide, by rw [hR]; decide⟩) hh rfl rfl rfl hl.1 (by decide) dJx4a65c_add_72be8_7 ⟨by rw [hR]; decide, by rw [hR]; decide⟩ rfl (fun r2 w3 H locs h4 hP hS => ?_)
    obtain ⟨q5, hr2, nq5, ew3⟩ := h4
    subst hr2
    rw [show va_rf (some q5) = .ref q5 from rfl]
    have f6 : w3 v = some (.inr (ci, vs)) := by rw [ew3]; exact g_up_f (g_up_f hv (g_neq hv nq5)) (hvh)
    have f7 : w3 q5 = some (.inl (G.2.1 3, 10, .inr (.inr (.inr (.inr (fun _ => none)))))) := by rw [ew3]; exact g_up_f (g_up_s _ _ _) (Ne.symm (g_neq hh nq5))
    have f8 : w3 h = some (.inr (0, [.int mod, .ref q5, .int (nI 0)])) := by rw [ew3]; exact g_up_s _ _ _
    refine lv_astore_n (lv' := [(2, .ref q5), (0, .ref h), (1, .ref v), (3, .int (nI 0))]) hx hb dJx4a65c_add_72be8_10 rfl hl (by decide) rfl (fun ls hl => ?_)
    refine lv_aload_n hx hb dJx4a65c_add_72be8_11 rfl (lv_at hl 0 rfl) ?_
    refine lv_iload_n hx hb dJx4a65c_add_72be8_12 rfl (lv_at hl 3 rfl) ?_
    refine lv_aload_n hx hb dJx4a65c_add_72be8_13 rfl (lv_at hl 2 rfl) ?_
    refine g_astqO F hP hS f7 f6 hci (hZ.2.2.2.2.2.2.2.1 _ hcs) (by decide) dJx4a65c_add_72be8_14 (fun H locs hP hS => ?_)
    obtain ⟨w9, ew9⟩ : ∃ z, z = g_up w3 q5 (.inl (G.2.1 3, 10, .inr (.inr (.inr (.inr (va_up (fun _ => none) (nI 0).toNatClampNeg (some v))))))) := ⟨_, rfl⟩
    have hP : g_P A G w9 H := by rw [ew9]; exact hP
    have f10 : w9 v = some (.inr (ci, vs)) := by rw [ew9]; exact g_up_f f6 (g_neq hv nq5)
    have f11 : w9 h = some (.inr (0, [.int mod, .ref q5, .int (nI 0)])) := by rw [ew9]; exact g_up_f f8 (g_ne f8 f7 rfl)
    have f12 : w9 q5 = some (.inl (G.2.1 3, 10, .inr (.inr (.inr (.inr (va_up (fun _ => none) (nI 0).toNatClampNeg (some v))))))) := by rw [ew9]; exact g_up_s _ _ _
    refine lv_aload_n hx hb dJx4a65c_add_72be8_15 rfl (lv_at hl 1 rfl) ?_
    refine lv_iload_n hx hb dJx4a65c_add_72be8_16 rfl (lv_at hl 3 rfl) ?_
    refine lv_iconst (v := 1) hx hb dJx4a65c_add_72be8_17 (by decide) ?_
    refine lv_iadd hx hb dJx4a65c_add_72be8_18 ?_
    refine lv_topi (fun v13 ev13 => ?_)
    obtain rfl : v13 = nI 1 := by rw [ev13]; decide
    refine g_put F hP hS (C := RJx4a65c) (T := TJx4a65c) (N := 3) (v := .int (nI 1)) iJx4a65c tyJx4a65c tyJx4a65c_ok nmJx4a65c f11 rfl 2 (by decide) (List.mem_cons_of_mem _ (List.mem_append_left _ (List.mem_append_left _ (List.mem_of_getElem? (i := 0) rfl)))) (fun _ h9 => h9) rfl (by decide +kernel) rfl rfl (by show 2 < 3; decide) dJx4a65c_add_72be8_19 (fun H locs hP hS => ?_)
    obtain ⟨w14, ew14⟩ : ∃ z, z = g_up w9 h (.inr (0, [.int mod, .ref q5, .int (nI 1)])) := ⟨_, rfl⟩
    have hP : g_P A G w14 H := by rw [ew14]; exact hP
    have f15 : w14 v = some (.inr (ci, vs)) := by rw [ew14]; exact g_up_f f10 (hvh)
    have f16 : w14 q5 = some (.inl (G.2.1 3, 10, .inr (.inr (.inr (.inr (va_up (fun _ => none) (nI 0).toNatClampNeg (some v))))))) := by rw [ew14]; exact g_up_f f12 (g_ne f12 f11 rfl)
    have f17 : w14 h = some (.inr (0, [.int mod, .ref q5, .int (nI 1)])) := by rw [ew14]; exact g_up_s _ _ _
    rw [hQ]
    refine g_vret F hP hS hlocks hr dJx4a65c_add_72be8_22 (by decide) (by decide) ?_
    refine ⟨q5, _, nq5, ?_, ?_⟩
    · exact va_up (fun _ => none) 0 (some v)
    · simp [va_up]
    · rw [show (nI 0).toNatClampNeg = 0 from by decide] at ew9
      simp only [ew14, ew9, ew3]
      have zq := g_neq hh nq5
      funext z
      simp only [g_up]
      by_cases z3 : z = h <;> by_cases z4 : z = q5 <;> simp_all

set_option maxHeartbeats 4000000 in
set_option maxRecDepth 100000 in
theorem k_fastRemove (l : Launch) (A : Nat → Prop) (G : g_C) (w : g_W) (h arr cap k : Nat) (mod : Int32) (f : Nat → Option Nat) (hh : w h = some (.inr (0, [.int mod, .ref arr, .int (nI (k + 1))]))) (ha : w arr = some (.inl (G.2.1 3, cap, .inr (.inr (.inr (.inr f)))))) (hn : k < cap) (hcm : cap < 100000) : mV l yJx4a65c_fastRemove_b59b0 wsJx4a65c_fastRemove_b59b0 ({ frames := 0, cells := 0, slots := 0, locals := 0 } : Room) [.ref h, .ref arr, .int (nI k)] A G w (fun w' => w' = g_up (g_up w arr (.inl (G.2.1 3, cap, .inr (.inr (.inr (.inr (va_up f k none))))))) h (.inr (0, [.int (mod + 1), .ref arr, .int (nI k)]))) 0 0 := by
  refine g_ofV (cc := cJx4a65c_fastRemove_b59b0) (maxL := 4) (ret := none) (own := RJx4a65c) (by decide) rfl rfl (by decide) ?_
  intro p e R s m args below meth c Q ls hR F hP hS hlocks hr hnm0 hQ hl
  obtain ⟨⟨hx, hb, hml, hown, hts⟩, hK, hZ, hA⟩ := id F
  generalize hH0 : s.heap = H at hP ⊢
  have hS : va_S A s.heap H [] := by rw [← hH0]; exact va_S.rf
  generalize ([] : List Loc) = locs at hS ⊢
  have hl : lv_has ls 4 [(0, .ref h), (1, .ref arr), (2, .int (nI k))] := hl
  have iJx4a65c : ∀ w ∈ u_ws RJx4a65c TJx4a65c 3, w ∈ wsJx4a65c_fastRemove_b59b0 := fun w h => List.mem_cons_of_mem _ (List.mem_append_right _ (h))
  refine lv_aload_n hx hb dJx4a65c_fastRemove_b59b0_0 rfl (lv_at hl 0 rfl) ?_
  refine lv_dup hx hb dJx4a65c_fastRemove_b59b0_1 rfl ?_
  refine g_get F hP (C := RJx4a65c) (T := TJx4a65c) (N := 3) iJx4a65c hh rfl 0 (by decide) (List.mem_cons_of_mem _ (List.mem_append_left _ (List.mem_of_getElem? (i := 0) rfl))) (u_same (hts _ (List.mem_cons_of_mem _ (List.mem_append_left _ (List.mem_of_getElem? (i := 1) rfl))))) rfl dJx4a65c_fastRemove_b59b0_2 ?_
  refine lv_iconst (v := 1) hx hb dJx4a65c_fastRemove_b59b0_5 (by decide) ?_
  refine lv_iadd hx hb dJx4a65c_fastRemove_b59b0_6 ?_
  refine lv_topi (fun v1 ev1 => ?_)
  refine g_put F hP hS (C := RJx4a65c) (T := TJx4a65c) (N := 3) (v := .int v1) iJx4a65c tyJx4a65c tyJx4a65c_ok nmJx4a65c hh rfl 0 (by decide) (List.mem_cons_of_mem _ (List.mem_append_left _ (List.mem_of_getElem? (i := 0) rfl))) (u_same (hts _ (List.mem_cons_of_mem _ (List.mem_append_left _ (List.mem_of_getElem? (i := 1) rfl))))) rfl (by decide +kernel) rfl rfl (by show 0 < 3; decide) dJx4a65c_fastRemove_b59b0_7 (fun H locs hP hS => ?_)
  obtain ⟨w2, ew2⟩ : ∃ z, z = g_up w h (.inr (0, [.int v1, .ref arr, .int (nI (k + 1))])) := ⟨_, rfl⟩
  have hP : g_P A G w2 H := by rw [ew2]; exact hP
  have f3 : w2 arr = some (.inl (G.2.1 3, cap, .inr (.inr (.inr (.inr f))))) := by rw [ew2]; exact g_up_f ha (g_ne ha hh rfl)
  have f4 : w2 h = some (.inr (0, [.int v1, .ref arr, .int (nI (k + 1))])) := by rw [ew2]; exact g_up_s _ _ _
  refine lv_aload_n hx hb dJx4a65c_fastRemove_b59b0_10 rfl (lv_at hl 0 rfl) ?_
  refine g_get F hP (C := RJx4a65c) (T := TJx4a65c) (N := 3) iJx4a65c f4 rfl 2 (by decide) (List.mem_cons_of_mem _ (List.mem_append_left _ (List.mem_of_getElem? (i := 2) rfl))) (fun _ h9 => h9) rfl dJx4a65c_fastRemove_b59b0_11 ?_
  refine lv_iconst (v := 1) hx hb dJx4a65c_fastRemove_b59b0_14 (by decide) ?_
  refine lv_isub hx hb dJx4a65c_fastRemove_b59b0_15 ?_
  refine lv_topi (fun v5 ev5 => ?_)
  obtain rfl : v5 = nI k := by rw [ev5]; exact pk_m1 k
  refine lv_dup hx hb dJx4a65c_fastRemove_b59b0_16 rfl ?_
  refine lv_istore_n (lv' := [(3, .int (nI k)), (0, .ref h), (1, .ref arr), (2, .int (nI k))]) hx hb dJx4a65c_fastRemove_b59b0_17 rfl hl (by decide) rfl (fun ls hl => ?_)
  refine lv_iload_n hx hb dJx4a65c_fastRemove_b59b0_18 rfl (lv_at hl 3 rfl) ?_
  refine lv_icmp_le (tgt := 34) hx hb dJx4a65c_fastRemove_b59b0_19 (by decide) (fun c6 => ?_) (fun c6 => ?_)
  · refine lv_aload_n hx hb dJx4a65c_fastRemove_b59b0_34 rfl (lv_at hl 2 rfl) ?_
    refine lv_aload_n hx hb dJx4a65c_fastRemove_b59b0_35 rfl (lv_at hl 1 rfl) ?_
    refine lv_iload_n hx hb dJx4a65c_fastRemove_b59b0_36 rfl (lv_at hl 0 rfl) ?_
    refine lv_dup_x1 hx hb dJx4a65c_fastRemove_b59b0_37 rfl rfl ?_
    refine g_put F hP hS (C := RJx4a65c) (T := TJx4a65c) (N := 3) (v := .int (nI k)) iJx4a65c tyJx4a65c tyJx4a65c_ok nmJx4a65c f4 rfl 2 (by decide) (List.mem_cons_of_mem _ (List.mem_append_left _ (List.mem_of_getElem? (i := 2) rfl))) (fun _ h9 => h9) rfl (by decide +kernel) rfl rfl (by show 2 < 3; decide) dJx4a65c_fastRemove_b59b0_38 (fun H locs hP hS => ?_)
    obtain ⟨w7, ew7⟩ : ∃ z, z = g_up w2 h (.inr (0, [.int v1, .ref arr, .int (nI k)])) := ⟨_, rfl⟩
    have hP : g_P A G w7 H := by rw [ew7]; exact hP
    have f8 : w7 arr = some (.inl (G.2.1 3, cap, .inr (.inr (.inr (.inr f))))) := by rw [ew7]; exact g_up_f f3 (g_ne f3 f4 rfl)
    have f9 : w7 h = some (.inr (0, [.int v1, .ref arr, .int (nI k)])) := by rw [ew7]; exact g_up_s _ _ _
    refine lv_null hx hb dJx4a65c_fastRemove_b59b0_41 ?_
    refine g_astqN F hP hS f8 (vp_in_nI hn (by omega)) dJx4a65c_fastRemove_b59b0_42 (fun H locs hP hS => ?_)
    obtain ⟨w10, ew10⟩ : ∃ z, z = g_up w7 arr (.inl (G.2.1 3, cap, .inr (.inr (.inr (.inr (va_up f (nI k).toNatClampNeg none)))))) := ⟨_, rfl⟩
    have hP : g_P A G w10 H := by rw [ew10]; exact hP
    have f11 : w10 h = some (.inr (0, [.int v1, .ref arr, .int (nI k)])) := by rw [ew10]; exact g_up_f f9 (g_ne f9 f8 rfl)
    have f12 : w10 arr = some (.inl (G.2.1 3, cap, .inr (.inr (.inr (.inr (va_up f (nI k).toNatClampNeg none)))))) := by rw [ew10]; exact g_up_s _ _ _
    rw [hQ]
    refine g_vret F hP hS hlocks hr dJx4a65c_fastRemove_b59b0_43 (by decide) (by decide) ?_
    rw [nI_clamp (by omega)] at ew10
    simp only [ew10, ew7, ew2, g_up_up]
    have zq := g_ne hh ha rfl
    funext z
    simp only [g_up]
    by_cases z3 : z = h <;> by_cases z4 : z = arr <;> simp_all
  · exact absurd (nI_le (Nat.le_refl k) (by omega)) c6

theorem cd_Jx4a65c_fastRemove_b59b0 : yJx4a65c_fastRemove_b59b0.cls = RJx4a65c ∧ yJx4a65c_fastRemove_b59b0.cls ≠ "java/lang/invoke/MethodHandle" ∧ yJx4a65c_fastRemove_b59b0.cls ≠ "java/lang/invoke/VarHandle" ∧ (parseMethodDescriptor yJx4a65c_fastRemove_b59b0.desc).map (fun d => d.parameters.length) = some 2 := by decide +kernel
set_option maxHeartbeats 4000000 in
set_option maxRecDepth 100000 in
theorem k_remove (l : Launch) (A : Nat → Prop) (G : g_C) (w : g_W) (h arr cap k : Nat) (mod : Int32) (f : Nat → Option Nat) (hh : w h = some (.inr (0, [.int mod, .ref arr, .int (nI (k + 1))]))) (ha : w arr = some (.inl (G.2.1 3, cap, .inr (.inr (.inr (.inr f)))))) (hn : k < cap) (hcm : cap < 90000) (v : Nat) (hfk : f k = some v) : mQ l yJx4a65c_remove_915e3 wsJx4a65c_remove_915e3 ({ frames := 2, cells := 0, slots := 0, locals := 43 } : Room) [.ref h, .int (nI k)] A G w (fun r w' => w' = g_up (g_up w arr (.inl (G.2.1 3, cap, .inr (.inr (.inr (.inr (va_up f k none))))))) h (.inr (0, [.int (mod + 1), .ref arr, .int (nI k)]))) 0 0 := by
  refine g_ofQ (cc := cJx4a65c_remove_915e3) (maxL := 4) (ret := (some (.object "java/lang/Object"))) (own := RJx4a65c) (by decide) rfl rfl (by decide) ?_
  intro p e R s m args below meth c Q ls hR F hP hS hlocks hr hnm0 hQ hl
  obtain ⟨⟨hx, hb, hml, hown, hts⟩, hK, hZ, hA⟩ := id F
  generalize hH0 : s.heap = H at hP ⊢
  have hS : va_S A s.heap H [] := by rw [← hH0]; exact va_S.rf
  generalize ([] : List Loc) = locs at hS ⊢
  have hl : lv_has ls 4 [(0, .ref h), (1, .int (nI k))] := hl
  have iJx4a65c : ∀ w ∈ u_ws RJx4a65c TJx4a65c 3, w ∈ wsJx4a65c_remove_915e3 := fun w h => List.mem_cons_of_mem _ (List.mem_append_right _ (h))
  refine lv_iload_n hx hb dJx4a65c_remove_915e3_0 rfl (lv_at hl 1 rfl) ?_
  refine lv_aload_n hx hb dJx4a65c_remove_915e3_1 rfl (lv_at hl 0 rfl) ?_
  refine g_get F hP (C := RJx4a65c) (T := TJx4a65c) (N := 3) iJx4a65c hh rfl 2 (by decide) (List.mem_cons_of_mem _ (List.mem_append_left _ (List.mem_of_getElem? (i := 0) rfl))) (fun _ h9 => h9) rfl dJx4a65c_remove_915e3_2 ?_
  refine g_Si (As := [.int (nI k), .int (nI (k + 1))]) (rest := []) F hP hS (k_checkIndex2 l A G w k (k + 1) (by omega) (by omega)) (va_cwS 2 hts gJx4a65c_remove_915e3_J15_checkIndex_7cf53 rfl rfl rfl cd_J15_checkIndex_7cf53 ⟨by rw [hR]; decide, by rw [hR]; decide⟩) rfl hl.1 (by decide) dJx4a65c_remove_915e3_5 ⟨by rw [hR]; decide, by rw [hR]; decide⟩ rfl (fun r1 w2 H locs h3 hP hS => ?_)
  obtain ⟨hr1, rfl⟩ := h3
  obtain rfl : r1 = nI k := hr1
  refine lv_pop hx hb dJx4a65c_remove_915e3_8 rfl ?_
  refine lv_aload_n hx hb dJx4a65c_remove_915e3_9 rfl (lv_at hl 0 rfl) ?_
  refine g_get F hP (C := RJx4a65c) (T := TJx4a65c) (N := 3) iJx4a65c hh rfl 1 (by decide) (List.mem_cons_of_mem _ (List.mem_append_left _ (List.mem_of_getElem? (i := 1) rfl))) (fun _ h9 => h9) rfl dJx4a65c_remove_915e3_10 ?_
  refine lv_astore_n (lv' := [(2, .ref arr), (0, .ref h), (1, .int (nI k))]) hx hb dJx4a65c_remove_915e3_13 rfl hl (by decide) rfl (fun ls hl => ?_)
  refine lv_aload_n hx hb dJx4a65c_remove_915e3_14 rfl (lv_at hl 0 rfl) ?_
  refine lv_iload_n hx hb dJx4a65c_remove_915e3_15 rfl (lv_at hl 2 rfl) ?_
  refine g_aldqO F hP ha (vp_in_nI hn (by omega)) dJx4a65c_remove_915e3_16 ?_
  rw [show (va_rf (f (nI k).toNatClampNeg) : Value) = .ref v from by rw [nI_clamp (by omega), hfk]; rfl]
  refine lv_astore_n (lv' := [(3, .ref v), (2, .ref arr), (0, .ref h), (1, .int (nI k))]) hx hb dJx4a65c_remove_915e3_17 rfl hl (by decide) rfl (fun ls hl => ?_)
  refine lv_aload_n hx hb dJx4a65c_remove_915e3_18 rfl (lv_at hl 2 rfl) ?_
  refine lv_aload_n hx hb dJx4a65c_remove_915e3_19 rfl (lv_at hl 1 rfl) ?_
  refine lv_iload_n hx hb dJx4a65c_remove_915e3_20 rfl (lv_at hl 3 rfl) ?_
  refine g_Vv (As := [.ref arr, .int (nI k)]) (rest := []) F hP hS (k_fastRemove l A G w h arr cap k mod f hh ha hn (by omega)) (cwV 2 hts gJx4a65c_remove_915e3_Jx4a65c_fastRemove_b59b0 rfl rfl rfl cd_Jx4a65c_fastRemove_b59b0 ⟨by rw [hR]; decide, by rw [hR]; decide⟩) hh rfl rfl rfl hl.1 (by decide) dJx4a65c_remove_915e3_21 ⟨by rw [hR]; decide, by rw [hR]; decide⟩ rfl (fun w5 H locs h6 hP hS => ?_)
  refine lv_aload_n hx hb dJx4a65c_remove_915e3_24 rfl (lv_at hl 0 rfl) ?_
  rw [hQ]
  refine g_aret (r := (some v)) F hP hS hlocks hr (by first | exact Or.inl ⟨_, rfl⟩ | exact Or.inr ⟨_, rfl⟩) dJx4a65c_remove_915e3_25 (by decide) (by decide) ?_
  exact h6

set_option maxHeartbeats 4000000 in
set_option maxRecDepth 100000 in
theorem k_initC (l : Launch) (A : Nat → Prop) (G : g_C) (w : g_W) (h : Nat) (hh : w h = some (.inr (0, [.int 0, .null, .int 0]))) : mV l yJxa1e45_init_da8c8 wsJxa1e45_init_da8c8 ({ frames := 1, cells := 0, slots := 0, locals := 40 } : Room) [.ref h] A G w (fun w' => w' = w) 0 0 := by
  refine g_ofV (cc := cJxa1e45_init_da8c8) (maxL := 1) (ret := none) (own := RJxa1e45) (by decide) rfl rfl (by decide) ?_
  intro p e R s m args below meth c Q ls hR F hP hS hlocks hr hnm0 hQ hl
  obtain ⟨⟨hx, hb, hml, hown, hts⟩, hK, hZ, hA⟩ := id F
  generalize hH0 : s.heap = H at hP ⊢
  have hS : va_S A s.heap H [] := by rw [← hH0]; exact va_S.rf
  generalize ([] : List Loc) = locs at hS ⊢
  have hl : lv_has ls 1 [(0, .ref h)] := hl
  refine lv_aload_n hx hb dJxa1e45_init_da8c8_0 rfl (lv_at hl 0 rfl) ?_
  refine W.objInit hx hb hown (hts _ (List.mem_cons_of_mem _ (List.mem_of_getElem? (i := 0) rfl))) (hts _ (List.mem_cons_of_mem _ (List.mem_of_getElem? (i := 1) rfl))) (hts _ (List.mem_cons_of_mem _ (List.mem_of_getElem? (i := 2) rfl))) rfl (by rw [hml]; exact hl.1) rfl dJxa1e45_init_da8c8_1 (by rw [hR]; decide) (by rw [hR]; decide) ?_
  rw [hQ]
  refine g_vret F hP hS hlocks hr dJxa1e45_init_da8c8_4 (by decide) (by decide) ?_
  exact rfl

theorem cd_Jxa1e45_init_da8c8 : yJxa1e45_init_da8c8.cls ≠ "java/lang/invoke/MethodHandle" ∧ yJxa1e45_init_da8c8.cls ≠ "java/lang/invoke/VarHandle" ∧ (parseMethodDescriptor yJxa1e45_init_da8c8.desc).map (fun d => d.parameters.length) = some 0 := by decide +kernel
set_option maxHeartbeats 4000000 in
set_option maxRecDepth 100000 in
theorem k_initL (l : Launch) (A : Nat → Prop) (G : g_C) (w : g_W) (h : Nat) (hh : w h = some (.inr (0, [.int 0, .null, .int 0]))) : mV l yJxc12de_init_da8c8 wsJxc12de_init_da8c8 ({ frames := 2, cells := 0, slots := 0, locals := 60 } : Room) [.ref h] A G w (fun w' => w' = w) 0 0 := by
  refine g_ofV (cc := cJxc12de_init_da8c8) (maxL := 1) (ret := none) (own := RJxc12de) (by decide) rfl rfl (by decide) ?_
  intro p e R s m args below meth c Q ls hR F hP hS hlocks hr hnm0 hQ hl
  obtain ⟨⟨hx, hb, hml, hown, hts⟩, hK, hZ, hA⟩ := id F
  generalize hH0 : s.heap = H at hP ⊢
  have hS : va_S A s.heap H [] := by rw [← hH0]; exact va_S.rf
  generalize ([] : List Loc) = locs at hS ⊢
  have hl : lv_has ls 1 [(0, .ref h)] := hl
  have iJx4a65c : ∀ w ∈ u_ws RJx4a65c TJx4a65c 3, w ∈ wsJxc12de_init_da8c8 := fun w h => List.mem_cons_of_mem _ (List.mem_append_right _ (h))
  refine lv_aload_n hx hb dJxc12de_init_da8c8_0 rfl (lv_at hl 0 rfl) ?_
  refine g_Iv (As := []) (rest := []) F hP hS (k_initC l A G w h hh) (cwI 0 hts gJxc12de_init_da8c8_Jxa1e45_init_da8c8 rfl rfl rfl (hts _ (List.mem_cons_of_mem _ (List.mem_append_left _ (List.mem_of_getElem? (i := 3) rfl)))) (hts _ (List.mem_cons_of_mem _ (List.mem_append_left _ (List.mem_of_getElem? (i := 1) rfl)))) (hts _ (List.mem_cons_of_mem _ (List.mem_append_left _ (List.mem_of_getElem? (i := 2) rfl)))) rfl cd_Jxa1e45_init_da8c8 ⟨by rw [hR]; decide, by rw [hR]; decide⟩) rfl hl.1 (by decide) dJxc12de_init_da8c8_1 ⟨by rw [hR]; decide, by rw [hR]; decide⟩ rfl (fun w2 H locs h3 hP hS => ?_)
  subst h3
  refine lv_aload_n hx hb dJxc12de_init_da8c8_4 rfl (lv_at hl 0 rfl) ?_
  refine lv_iconst (v := 0) hx hb dJxc12de_init_da8c8_5 (by decide) ?_
  refine g_put F hP hS (C := RJx4a65c) (T := TJx4a65c) (N := 3) (v := .int 0) iJx4a65c tyJx4a65c tyJx4a65c_ok nmJx4a65c hh rfl 0 (by decide) (List.mem_cons_of_mem _ (List.mem_append_left _ (List.mem_of_getElem? (i := 0) rfl))) (fun _ h9 => h9) rfl (by decide +kernel) rfl rfl (by show 0 < 3; decide) dJxc12de_init_da8c8_6 (fun H locs hP hS => ?_)
  obtain ⟨w4, ew4⟩ : ∃ z, z = g_up w h (.inr (0, [.int 0, .null, .int 0])) := ⟨_, rfl⟩
  have hP : g_P A G w4 H := by rw [ew4]; exact hP
  have f5 : w4 h = some (.inr (0, [.int 0, .null, .int 0])) := by rw [ew4]; exact g_up_s _ _ _
  rw [hQ]
  refine g_vret F hP hS hlocks hr dJxc12de_init_da8c8_9 (by decide) (by decide) ?_
  rw [ew4]
  funext z
  simp only [g_up]
  by_cases z3 : z = h <;> simp_all

theorem cd_Jxc12de_init_da8c8 : yJxc12de_init_da8c8.cls ≠ "java/lang/invoke/MethodHandle" ∧ yJxc12de_init_da8c8.cls ≠ "java/lang/invoke/VarHandle" ∧ (parseMethodDescriptor yJxc12de_init_da8c8.desc).map (fun d => d.parameters.length) = some 0 := by decide +kernel
set_option maxHeartbeats 4000000 in
set_option maxRecDepth 100000 in
theorem k_initA (l : Launch) (A : Nat → Prop) (G : g_C) (w : g_W) (h : Nat) (hh : w h = some (.inr (0, [.int 0, .null, .int 0]))) : mV l yJx4a65c_init_da8c8 wsJx4a65c_init_da8c8 ({ frames := 3, cells := 0, slots := 0, locals := 80 } : Room) [.ref h] A G w (fun w' => w' = g_up w h (.inr (0, [.int 0, .ref (G.2.2 0), .int 0]))) 0 0 := by
  refine g_ofV (cc := cJx4a65c_init_da8c8) (maxL := 1) (ret := none) (own := RJx4a65c) (by decide) rfl rfl (by decide) ?_
  intro p e R s m args below meth c Q ls hR F hP hS hlocks hr hnm0 hQ hl
  obtain ⟨⟨hx, hb, hml, hown, hts⟩, hK, hZ, hA⟩ := id F
  generalize hH0 : s.heap = H at hP ⊢
  have hS : va_S A s.heap H [] := by rw [← hH0]; exact va_S.rf
  generalize ([] : List Loc) = locs at hS ⊢
  have hl : lv_has ls 1 [(0, .ref h)] := hl
  have iJx4a65c : ∀ w ∈ u_ws RJx4a65c TJx4a65c 3, w ∈ wsJx4a65c_init_da8c8 := fun w h => List.mem_cons_of_mem _ (List.mem_append_right _ (h))
  refine lv_aload_n hx hb dJx4a65c_init_da8c8_0 rfl (lv_at hl 0 rfl) ?_
  refine g_Iv (As := []) (rest := []) F hP hS (k_initL l A G w h hh) (cwI 0 hts gJx4a65c_init_da8c8_Jxc12de_init_da8c8 rfl rfl rfl (hts _ (List.mem_cons_of_mem _ (List.mem_append_left _ (List.mem_of_getElem? (i := 4) rfl)))) (hts _ (List.mem_cons_of_mem _ (List.mem_append_left _ (List.mem_of_getElem? (i := 2) rfl)))) (hts _ (List.mem_cons_of_mem _ (List.mem_append_left _ (List.mem_of_getElem? (i := 3) rfl)))) rfl cd_Jxc12de_init_da8c8 ⟨by rw [hR]; decide, by rw [hR]; decide⟩) rfl hl.1 (by decide) dJx4a65c_init_da8c8_1 ⟨by rw [hR]; decide, by rw [hR]; decide⟩ rfl (fun w2 H locs h3 hP hS => ?_)
  subst h3
  refine lv_aload_n hx hb dJx4a65c_init_da8c8_4 rfl (lv_at hl 0 rfl) ?_
  refine g_gets F hS (List.mem_cons_of_mem _ (List.mem_append_left _ (List.mem_of_getElem? (i := 0) rfl))) dJx4a65c_init_da8c8_5 ?_
  refine g_put F hP hS (C := RJx4a65c) (T := TJx4a65c) (N := 3) (v := .ref (G.2.2 0)) iJx4a65c tyJx4a65c tyJx4a65c_ok nmJx4a65c hh rfl 1 (by decide) (List.mem_cons_of_mem _ (List.mem_append_left _ (List.mem_of_getElem? (i := 1) rfl))) (fun _ h9 => h9) rfl (by decide +kernel) rfl rfl (by show 1 < 3; decide) dJx4a65c_init_da8c8_8 (fun H locs hP hS => ?_)
  obtain ⟨w4, ew4⟩ : ∃ z, z = g_up w h (.inr (0, [.int 0, .ref (G.2.2 0), .int 0])) := ⟨_, rfl⟩
  have hP : g_P A G w4 H := by rw [ew4]; exact hP
  have f5 : w4 h = some (.inr (0, [.int 0, .ref (G.2.2 0), .int 0])) := by rw [ew4]; exact g_up_s _ _ _
  rw [hQ]
  refine g_vret F hP hS hlocks hr dJx4a65c_init_da8c8_11 (by decide) (by decide) ?_
  simp only [ew4]

theorem cd_Jx4a65c_add_72be8 : yJx4a65c_add_72be8.cls = RJx4a65c ∧ yJx4a65c_add_72be8.cls ≠ "java/lang/invoke/MethodHandle" ∧ yJx4a65c_add_72be8.cls ≠ "java/lang/invoke/VarHandle" ∧ (parseMethodDescriptor yJx4a65c_add_72be8.desc).map (fun d => d.parameters.length) = some 3 := by decide +kernel
set_option maxHeartbeats 4000000 in
set_option maxRecDepth 100000 in
theorem k_addER (l : Launch) (A : Nat → Prop) (G : g_C) (w : g_W) (h arr n cap : Nat) (mod : Int32) (f : Nat → Option Nat) (hh : w h = some (.inr (0, [.int mod, .ref arr, .int (nI n)]))) (ha : w arr = some (.inl (G.2.1 3, cap, .inr (.inr (.inr (.inr f)))))) (hn : n < cap) (hcm : cap < 100000) (v ci : Nat) (r0 : vw_C) (vs : List Value) (hv : w v = some (.inr (ci, vs))) (hci : vwCl[ci]? = some r0) (hcs : (r0.1, "java/lang/Object") ∈ g_casts) (hvh : v ≠ h) : mI l yJx4a65c_add_9ea2d wsJx4a65c_add_9ea2d ({ frames := 4, cells := 0, slots := 0, locals := 106 } : Room) [.ref h, .ref v] A G w (fun r w' => w' = g_up (g_up w arr (.inl (G.2.1 3, cap, .inr (.inr (.inr (.inr (va_up f n (some v)))))))) h (.inr (0, [.int (mod + 1), .ref arr, .int (nI (n + 1))]))) 0 0 := by
  refine g_ofI (cc := cJx4a65c_add_9ea2d) (maxL := 2) (ret := (some .boolean)) (own := RJx4a65c) (by decide) rfl rfl (by decide) ?_
  intro p e R s m args below meth c Q ls hR F hP hS hlocks hr hnm0 hQ hl
  obtain ⟨⟨hx, hb, hml, hown, hts⟩, hK, hZ, hA⟩ := id F
  generalize hH0 : s.heap = H at hP ⊢
  have hS : va_S A s.heap H [] := by rw [← hH0]; exact va_S.rf
  generalize ([] : List Loc) = locs at hS ⊢
  have hl : lv_has ls 2 [(0, .ref h), (1, .ref v)] := hl
  have iJx4a65c : ∀ w ∈ u_ws RJx4a65c TJx4a65c 3, w ∈ wsJx4a65c_add_9ea2d := fun w h => List.mem_cons_of_mem _ (List.mem_append_right _ (h))
  refine lv_aload_n hx hb dJx4a65c_add_9ea2d_0 rfl (lv_at hl 0 rfl) ?_
  refine lv_dup hx hb dJx4a65c_add_9ea2d_1 rfl ?_
  refine g_get F hP (C := RJx4a65c) (T := TJx4a65c) (N := 3) iJx4a65c hh rfl 0 (by decide) (List.mem_cons_of_mem _ (List.mem_append_left _ (List.mem_append_left _ (List.mem_of_getElem? (i := 0) rfl)))) (u_same (hts _ (List.mem_cons_of_mem _ (List.mem_append_left _ (List.mem_append_left _ (List.mem_of_getElem? (i := 1) rfl)))))) rfl dJx4a65c_add_9ea2d_2 ?_
  refine lv_iconst (v := 1) hx hb dJx4a65c_add_9ea2d_5 (by decide) ?_
  refine lv_iadd hx hb dJx4a65c_add_9ea2d_6 ?_
  refine lv_topi (fun v1 ev1 => ?_)
  refine g_put F hP hS (C := RJx4a65c) (T := TJx4a65c) (N := 3) (v := .int v1) iJx4a65c tyJx4a65c tyJx4a65c_ok nmJx4a65c hh rfl 0 (by decide) (List.mem_cons_of_mem _ (List.mem_append_left _ (List.mem_append_left _ (List.mem_of_getElem? (i := 0) rfl)))) (u_same (hts _ (List.mem_cons_of_mem _ (List.mem_append_left _ (List.mem_append_left _ (List.mem_of_getElem? (i := 1) rfl)))))) rfl (by decide +kernel) rfl rfl (by show 0 < 3; decide) dJx4a65c_add_9ea2d_7 (fun H locs hP hS => ?_)
  obtain ⟨w2, ew2⟩ : ∃ z, z = g_up w h (.inr (0, [.int v1, .ref arr, .int (nI n)])) := ⟨_, rfl⟩
  have hP : g_P A G w2 H := by rw [ew2]; exact hP
  have f3 : w2 arr = some (.inl (G.2.1 3, cap, .inr (.inr (.inr (.inr f))))) := by rw [ew2]; exact g_up_f ha (g_ne ha hh rfl)
  have f4 : w2 v = some (.inr (ci, vs)) := by rw [ew2]; exact g_up_f hv (hvh)
  have f5 : w2 h = some (.inr (0, [.int v1, .ref arr, .int (nI n)])) := by rw [ew2]; exact g_up_s _ _ _
  refine lv_aload_n hx hb dJx4a65c_add_9ea2d_10 rfl (lv_at hl 0 rfl) ?_
  refine lv_aload_n hx hb dJx4a65c_add_9ea2d_11 rfl (lv_at hl 1 rfl) ?_
  refine lv_aload_n hx hb dJx4a65c_add_9ea2d_12 rfl (lv_at hl 0 rfl) ?_
  refine g_get F hP (C := RJx4a65c) (T := TJx4a65c) (N := 3) iJx4a65c f5 rfl 1 (by decide) (List.mem_cons_of_mem _ (List.mem_append_left _ (List.mem_append_left _ (List.mem_of_getElem? (i := 2) rfl)))) (fun _ h9 => h9) rfl dJx4a65c_add_9ea2d_13 ?_
  refine lv_aload_n hx hb dJx4a65c_add_9ea2d_16 rfl (lv_at hl 0 rfl) ?_
  refine g_get F hP (C := RJx4a65c) (T := TJx4a65c) (N := 3) iJx4a65c f5 rfl 2 (by decide) (List.mem_cons_of_mem _ (List.mem_append_left _ (List.mem_append_left _ (List.mem_of_getElem? (i := 3) rfl)))) (fun _ h9 => h9) rfl dJx4a65c_add_9ea2d_17 ?_
  refine g_Vv (As := [.ref v, .ref arr, .int (nI n)]) (rest := []) F hP hS (k_addR l A G w2 h arr n cap (mod + 1) f f5 f3 hn hcm v ci r0 vs f4 hci hcs hvh) (cwV 3 hts gJx4a65c_add_9ea2d_Jx4a65c_add_72be8 rfl rfl rfl cd_Jx4a65c_add_72be8 ⟨by rw [hR]; decide, by rw [hR]; decide⟩) f5 rfl rfl rfl hl.1 (by decide) dJx4a65c_add_9ea2d_20 ⟨by rw [hR]; decide, by rw [hR]; decide⟩ rfl (fun w7 H locs h8 hP hS => ?_)
  refine lv_iconst (v := 1) hx hb dJx4a65c_add_9ea2d_23 (by decide) ?_
  rw [hQ]
  refine g_zret F hP hS hlocks hr (by first | rfl | exact g_nb _) dJx4a65c_add_9ea2d_24 (by decide) (by decide) ?_
  have zq := g_ne hh ha rfl
  rw [h8]
  simp only [ew2]
  funext z
  simp only [g_up]
  by_cases z3 : z = h <;> by_cases z4 : z = arr <;> simp_all

set_option maxHeartbeats 4000000 in
set_option maxRecDepth 100000 in
theorem k_addEG (l : Launch) (A : Nat → Prop) (G : g_C) (w : g_W) (h arr n cap : Nat) (mod : Int32) (f : Nat → Option Nat) (hh : w h = some (.inr (0, [.int mod, .ref arr, .int (nI n)]))) (ha : w arr = some (.inl (G.2.1 3, cap, .inr (.inr (.inr (.inr f)))))) (v ci : Nat) (r0 : vw_C) (vs : List Value) (hv : w v = some (.inr (ci, vs))) (hci : vwCl[ci]? = some r0) (hcs : (r0.1, "java/lang/Object") ∈ g_casts) (hvh : v ≠ h) (hn : n = cap) (hc0 : 2 ≤ cap) (hcm : cap < 30000) (c1 : Nat) (hc1 : c1 = cap + cap / 2) (hel : ∀ i, i < cap → ∀ y, f i = some y → ∃ fs, w y = some (.inr (ci, fs))) : mI l yJx4a65c_add_9ea2d wsJx4a65c_add_9ea2d ({ frames := 4, cells := 1, slots := 50000, locals := 106 } : Room) [.ref h, .ref v] A G w (fun r w' => ∃ q f', w q = none ∧ (∀ k, k < cap → f' k = f k) ∧ f' n = some v ∧ w' = g_up (g_up w q (.inl (G.2.1 3, c1, .inr (.inr (.inr (.inr f')))))) h (.inr (0, [.int (mod + 1), .ref q, .int (nI (n + 1))]))) 1 50000 := by
  refine g_ofI (cc := cJx4a65c_add_9ea2d) (maxL := 2) (ret := (some .boolean)) (own := RJx4a65c) (by decide) rfl rfl (by decide) ?_
  intro p e R s m args below meth c Q ls hR F hP hS hlocks hr hnm0 hQ hl
  obtain ⟨⟨hx, hb, hml, hown, hts⟩, hK, hZ, hA⟩ := id F
  generalize hH0 : s.heap = H at hP ⊢
  have hS : va_S A s.heap H [] := by rw [← hH0]; exact va_S.rf
  generalize ([] : List Loc) = locs at hS ⊢
  have hl : lv_has ls 2 [(0, .ref h), (1, .ref v)] := hl
  have iJx4a65c : ∀ w ∈ u_ws RJx4a65c TJx4a65c 3, w ∈ wsJx4a65c_add_9ea2d := fun w h => List.mem_cons_of_mem _ (List.mem_append_right _ (h))
  refine lv_aload_n hx hb dJx4a65c_add_9ea2d_0 rfl (lv_at hl 0 rfl) ?_
  refine lv_dup hx hb dJx4a65c_add_9ea2d_1 rfl ?_
  refine g_get F hP (C := RJx4a65c) (T := TJx4a65c) (N := 3) iJx4a65c hh rfl 0 (by decide) (List.mem_cons_of_mem _ (List.mem_append_left _ (List.mem_append_left _ (List.mem_of_getElem? (i := 0) rfl)))) (u_same (hts _ (List.mem_cons_of_mem _ (List.mem_append_left _ (List.mem_append_left _ (List.mem_of_getElem? (i := 1) rfl)))))) rfl dJx4a65c_add_9ea2d_2 ?_
  refine lv_iconst (v := 1) hx hb dJx4a65c_add_9ea2d_5 (by decide) ?_
  refine lv_iadd hx hb dJx4a65c_add_9ea2d_6 ?_
  refine lv_topi (fun v1 ev1 => ?_)
  refine g_put F hP hS (C := RJx4a65c) (T := TJx4a65c) (N := 3) (v := .int v1) iJx4a65c tyJx4a65c tyJx4a65c_ok nmJx4a65c hh rfl 0 (by decide) (List.mem_cons_of_mem _ (List.mem_append_left _ (List.mem_append_left _ (List.mem_of_getElem? (i := 0) rfl)))) (u_same (hts _ (List.mem_cons_of_mem _ (List.mem_append_left _ (List.mem_append_left _ (List.mem_of_getElem? (i := 1) rfl)))))) rfl (by decide +kernel) rfl rfl (by show 0 < 3; decide) dJx4a65c_add_9ea2d_7 (fun H locs hP hS => ?_)
  obtain ⟨w2, ew2⟩ : ∃ z, z = g_up w h (.inr (0, [.int v1, .ref arr, .int (nI n)])) := ⟨_, rfl⟩
  have hP : g_P A G w2 H := by rw [ew2]; exact hP
  have f3 : w2 arr = some (.inl (G.2.1 3, cap, .inr (.inr (.inr (.inr f))))) := by rw [ew2]; exact g_up_f ha (g_ne ha hh rfl)
  have f4 : w2 v = some (.inr (ci, vs)) := by rw [ew2]; exact g_up_f hv (hvh)
  have f5 : w2 h = some (.inr (0, [.int v1, .ref arr, .int (nI n)])) := by rw [ew2]; exact g_up_s _ _ _
  refine lv_aload_n hx hb dJx4a65c_add_9ea2d_10 rfl (lv_at hl 0 rfl) ?_
  refine lv_aload_n hx hb dJx4a65c_add_9ea2d_11 rfl (lv_at hl 1 rfl) ?_
  refine lv_aload_n hx hb dJx4a65c_add_9ea2d_12 rfl (lv_at hl 0 rfl) ?_
  refine g_get F hP (C := RJx4a65c) (T := TJx4a65c) (N := 3) iJx4a65c f5 rfl 1 (by decide) (List.mem_cons_of_mem _ (List.mem_append_left _ (List.mem_append_left _ (List.mem_of_getElem? (i := 2) rfl)))) (fun _ h9 => h9) rfl dJx4a65c_add_9ea2d_13 ?_
  refine lv_aload_n hx hb dJx4a65c_add_9ea2d_16 rfl (lv_at hl 0 rfl) ?_
  refine g_get F hP (C := RJx4a65c) (T := TJx4a65c) (N := 3) iJx4a65c f5 rfl 2 (by decide) (List.mem_cons_of_mem _ (List.mem_append_left _ (List.mem_append_left _ (List.mem_of_getElem? (i := 3) rfl)))) (fun _ h9 => h9) rfl dJx4a65c_add_9ea2d_17 ?_
  refine g_Vv (As := [.ref v, .ref arr, .int (nI n)]) (rest := []) F hP hS (k_addG l A G w2 h arr n cap (mod + 1) f f5 f3 v ci r0 vs f4 hci hcs hvh hn hc0 hcm c1 hc1 (fun i hi y hy => by
    obtain ⟨fs, hfs⟩ := hel i hi y hy
    have hy0 : ci ≠ 0 := fun z => by
      subst z
      cases hci
      exact absurd hcs (by decide +kernel)
    exact ⟨fs, by rw [ew2]; exact g_up_f hfs (g_nci hfs hh hy0)⟩)) (cwV 3 hts gJx4a65c_add_9ea2d_Jx4a65c_add_72be8 rfl rfl rfl cd_Jx4a65c_add_72be8 ⟨by rw [hR]; decide, by rw [hR]; decide⟩) f5 rfl rfl rfl hl.1 (by decide) dJx4a65c_add_9ea2d_20 ⟨by rw [hR]; decide, by rw [hR]; decide⟩ rfl (fun w7 H locs h8 hP hS => ?_)
  refine lv_iconst (v := 1) hx hb dJx4a65c_add_9ea2d_23 (by decide) ?_
  rw [hQ]
  refine g_zret F hP hS hlocks hr (by first | rfl | exact g_nb _) dJx4a65c_add_9ea2d_24 (by decide) (by decide) ?_
  obtain ⟨q, f', a1, a2, a3, a4⟩ := h8
  rw [ew2] at a1
  obtain ⟨b1, b2⟩ := g_up_none a1
  refine ⟨q, f', b2, a2, a3, ?_⟩
  rw [a4]
  simp only [ew2]
  funext z
  simp only [g_up]
  by_cases z3 : z = h <;> by_cases z4 : z = q <;> simp_all

set_option maxHeartbeats 4000000 in
set_option maxRecDepth 100000 in
theorem k_addEF (l : Launch) (A : Nat → Prop) (G : g_C) (w : g_W) (h : Nat) (mod : Int32) (hh : w h = some (.inr (0, [.int mod, .ref (G.2.2 0), .int (nI 0)]))) (v ci : Nat) (r0 : vw_C) (vs : List Value) (hv : w v = some (.inr (ci, vs))) (hci : vwCl[ci]? = some r0) (hcs : (r0.1, "java/lang/Object") ∈ g_casts) (hvh : v ≠ h) : mI l yJx4a65c_add_9ea2d wsJx4a65c_add_9ea2d ({ frames := 4, cells := 1, slots := 50000, locals := 106 } : Room) [.ref h, .ref v] A G w (fun r w' => ∃ q f', w q = none ∧ f' 0 = some v ∧ w' = g_up (g_up w q (.inl (G.2.1 3, 10, .inr (.inr (.inr (.inr f')))))) h (.inr (0, [.int (mod + 1), .ref q, .int (nI 1)]))) 1 50000 := by
  refine g_ofI (cc := cJx4a65c_add_9ea2d) (maxL := 2) (ret := (some .boolean)) (own := RJx4a65c) (by decide) rfl rfl (by decide) ?_
  intro p e R s m args below meth c Q ls hR F hP hS hlocks hr hnm0 hQ hl
  obtain ⟨⟨hx, hb, hml, hown, hts⟩, hK, hZ, hA⟩ := id F
  generalize hH0 : s.heap = H at hP ⊢
  have hS : va_S A s.heap H [] := by rw [← hH0]; exact va_S.rf
  generalize ([] : List Loc) = locs at hS ⊢
  have hl : lv_has ls 2 [(0, .ref h), (1, .ref v)] := hl
  have iJx4a65c : ∀ w ∈ u_ws RJx4a65c TJx4a65c 3, w ∈ wsJx4a65c_add_9ea2d := fun w h => List.mem_cons_of_mem _ (List.mem_append_right _ (h))
  refine lv_aload_n hx hb dJx4a65c_add_9ea2d_0 rfl (lv_at hl 0 rfl) ?_
  refine lv_dup hx hb dJx4a65c_add_9ea2d_1 rfl ?_
  refine g_get F hP (C := RJx4a65c) (T := TJx4a65c) (N := 3) iJx4a65c hh rfl 0 (by decide) (List.mem_cons_of_mem _ (List.mem_append_left _ (List.mem_append_left _ (List.mem_of_getElem? (i := 0) rfl)))) (u_same (hts _ (List.mem_cons_of_mem _ (List.mem_append_left _ (List.mem_append_left _ (List.mem_of_getElem? (i := 1) rfl)))))) rfl dJx4a65c_add_9ea2d_2 ?_
  refine lv_iconst (v := 1) hx hb dJx4a65c_add_9ea2d_5 (by decide) ?_
  refine lv_iadd hx hb dJx4a65c_add_9ea2d_6 ?_
  refine lv_topi (fun v1 ev1 => ?_)
  refine g_put F hP hS (C := RJx4a65c) (T := TJx4a65c) (N := 3) (v := .int v1) iJx4a65c tyJx4a65c tyJx4a65c_ok nmJx4a65c hh rfl 0 (by decide) (List.mem_cons_of_mem _ (List.mem_append_left _ (List.mem_append_left _ (List.mem_of_getElem? (i := 0) rfl)))) (u_same (hts _ (List.mem_cons_of_mem _ (List.mem_append_left _ (List.mem_append_left _ (List.mem_of_getElem? (i := 1) rfl)))))) rfl (by decide +kernel) rfl rfl (by show 0 < 3; decide) dJx4a65c_add_9ea2d_7 (fun H locs hP hS => ?_)
  obtain ⟨w2, ew2⟩ : ∃ z, z = g_up w h (.inr (0, [.int v1, .ref (G.2.2 0), .int (nI 0)])) := ⟨_, rfl⟩
  have hP : g_P A G w2 H := by rw [ew2]; exact hP
  have f3 : w2 v = some (.inr (ci, vs)) := by rw [ew2]; exact g_up_f hv (hvh)
  have f4 : w2 h = some (.inr (0, [.int v1, .ref (G.2.2 0), .int (nI 0)])) := by rw [ew2]; exact g_up_s _ _ _
  refine lv_aload_n hx hb dJx4a65c_add_9ea2d_10 rfl (lv_at hl 0 rfl) ?_
  refine lv_aload_n hx hb dJx4a65c_add_9ea2d_11 rfl (lv_at hl 1 rfl) ?_
  refine lv_aload_n hx hb dJx4a65c_add_9ea2d_12 rfl (lv_at hl 0 rfl) ?_
  refine g_get F hP (C := RJx4a65c) (T := TJx4a65c) (N := 3) iJx4a65c f4 rfl 1 (by decide) (List.mem_cons_of_mem _ (List.mem_append_left _ (List.mem_append_left _ (List.mem_of_getElem? (i := 2) rfl)))) (fun _ h9 => h9) rfl dJx4a65c_add_9ea2d_13 ?_
  refine lv_aload_n hx hb dJx4a65c_add_9ea2d_16 rfl (lv_at hl 0 rfl) ?_
  refine g_get F hP (C := RJx4a65c) (T := TJx4a65c) (N := 3) iJx4a65c f4 rfl 2 (by decide) (List.mem_cons_of_mem _ (List.mem_append_left _ (List.mem_append_left _ (List.mem_of_getElem? (i := 3) rfl)))) (fun _ h9 => h9) rfl dJx4a65c_add_9ea2d_17 ?_
  refine g_Vv (As := [.ref v, .ref (G.2.2 0), .int (nI 0)]) (rest := []) F hP hS (k_addF l A G w2 h (mod + 1) f4 v ci r0 vs f3 hci hcs hvh) (cwV 3 hts gJx4a65c_add_9ea2d_Jx4a65c_add_72be8 rfl rfl rfl cd_Jx4a65c_add_72be8 ⟨by rw [hR]; decide, by rw [hR]; decide⟩) f4 rfl rfl rfl hl.1 (by decide) dJx4a65c_add_9ea2d_20 ⟨by rw [hR]; decide, by rw [hR]; decide⟩ rfl (fun w6 H locs h7 hP hS => ?_)
  refine lv_iconst (v := 1) hx hb dJx4a65c_add_9ea2d_23 (by decide) ?_
  rw [hQ]
  refine g_zret F hP hS hlocks hr (by first | rfl | exact g_nb _) dJx4a65c_add_9ea2d_24 (by decide) (by decide) ?_
  obtain ⟨q, f', a1, a3, a4⟩ := h7
  rw [ew2] at a1
  obtain ⟨b1, b2⟩ := g_up_none a1
  refine ⟨q, f', b2, a3, ?_⟩
  rw [a4]
  simp only [ew2]
  funext z
  simp only [g_up]
  by_cases z3 : z = h <;> by_cases z4 : z = q <;> simp_all
