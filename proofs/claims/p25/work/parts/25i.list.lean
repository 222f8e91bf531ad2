theorem cd_J8_newLength_cabcc : yJ8_newLength_cabcc.cls ≠ "java/lang/invoke/MethodHandle" ∧ yJ8_newLength_cabcc.cls ≠ "java/lang/invoke/VarHandle" ∧ (parseMethodDescriptor yJ8_newLength_cabcc.desc).map (fun d => d.parameters.length) = some 3 := by decide +kernel
theorem cd_J7_copyOf_1904c : yJ7_copyOf_1904c.cls ≠ "java/lang/invoke/MethodHandle" ∧ yJ7_copyOf_1904c.cls ≠ "java/lang/invoke/VarHandle" ∧ (parseMethodDescriptor yJ7_copyOf_1904c.desc).map (fun d => d.parameters.length) = some 2 := by decide +kernel
set_option maxHeartbeats 4000000 in
set_option maxRecDepth 100000 in
theorem k_grow1 (l : Launch) (A : Nat → Prop) (G : g_C) (w : g_W) (h arr n cap : Nat) (mod : Int32) (f : Nat → Option Nat) (hh : w h = some (.inr (0, [.int mod, .ref arr, .int (nI n)]))) (ha : w arr = some (.inl (G.2.1 3, cap, .inr (.inr (.inr (.inr f)))))) (hn : n = cap) (hc0 : 2 ≤ cap) (hcm : cap < 60) (cpn : Nat) (hcpn : cpn = cap + cap / 2) (ci : Nat) (r0 : vw_C) (hci : vwCl[ci]? = some r0) (hcs : (r0.1, "java/lang/Object") ∈ g_casts) (hel : ∀ i, i < cap → ∀ y, f i = some y → ∃ fs, w y = some (.inr (ci, fs))) : mQ l yJx4a65c_grow_92f84 wsJx4a65c_grow_92f84 ({ frames := 3, cells := 1, slots := 100, locals := 144 } : Room) [.ref h, .int (nI (n + 1))] A G w (fun r w' => ∃ q f', r = some q ∧ w q = none ∧ (∀ k, k < cap → f' k = f k) ∧ w' = g_up (g_up w q (.inl (G.2.1 3, cpn, .inr (.inr (.inr (.inr f')))))) h (.inr (0, [.int mod, .ref q, .int (nI n)]))) 1 100 := by
  refine g_ofQ (cc := cJx4a65c_grow_92f84) (maxL := 4) (ret := (some (.array (.object "java/lang/Object")))) (own := RJx4a65c) (by decide) rfl rfl (Nat.le_of_ble_eq_true rfl) ?_
  intro p e R s m args below meth c Q ls hR F hP hS hlocks hr hnm0 hQ hl
  obtain ⟨⟨hx, hb, hml, hown, hts⟩, hK, hZ, hA⟩ := id F
  generalize hH0 : s.heap = H at hP ⊢
  have hS : va_S A s.heap H [] := by rw [← hH0]; exact va_S.rf
  generalize ([] : List Loc) = locs at hS ⊢
  have hl : lv_has ls 4 [(0, .ref h), (1, .int (nI (n + 1)))] := hl
  have iJx4a65c : ∀ w ∈ u_ws RJx4a65c TJx4a65c 3, w ∈ wsJx4a65c_grow_92f84 := fun w h => List.mem_cons_of_mem _ (List.mem_append_right _ (h))
  refine lv_aload_n hx hb dJx4a65c_grow_92f84_0 rfl (lv_at hl 0 rfl) ?_
  refine g_get F hP (C := RJx4a65c) (T := TJx4a65c) (N := 3) iJx4a65c hh rfl 1 (by decide) (List.mem_cons_of_mem _ (List.mem_append_left _ (List.mem_append_left _ (List.mem_of_getElem? (i := 0) rfl)))) (fun _ h9 => h9) rfl dJx4a65c_grow_92f84_1 ?_
  refine g_alen F hP 3 rfl ha (v := nI cap) rfl dJx4a65c_grow_92f84_4 ?_
  refine lv_istore_n (lv' := [(2, .int (nI cap)), (0, .ref h), (1, .int (nI (n + 1)))]) hx hb dJx4a65c_grow_92f84_5 rfl hl (by decide) rfl (fun ls hl => ?_)
  refine lv_iload_n hx hb dJx4a65c_grow_92f84_6 rfl (lv_at hl 0 rfl) ?_
  refine lv_if_gt (tgt := 20) hx hb dJx4a65c_grow_92f84_7 (by decide) (fun c1 => ?_) (fun c1 => ?_)
  · refine lv_iload_n hx hb dJx4a65c_grow_92f84_20 rfl (lv_at hl 0 rfl) ?_
    refine lv_iload_n hx hb dJx4a65c_grow_92f84_21 rfl (lv_at hl 2 rfl) ?_
    refine lv_iload_n hx hb dJx4a65c_grow_92f84_22 rfl (lv_at hl 0 rfl) ?_
    refine lv_isub hx hb dJx4a65c_grow_92f84_23 ?_
    refine lv_topi (fun v2 ev2 => ?_)
    obtain rfl : v2 = nI 1 := by
      rw [ev2]
      rw [hn, pk_sub (by omega), Nat.add_sub_cancel_left]
    refine lv_iload_n hx hb dJx4a65c_grow_92f84_24 rfl (lv_at hl 0 rfl) ?_
    refine lv_iconst (v := 1) hx hb dJx4a65c_grow_92f84_25 (by decide) ?_
    refine lv_ishr hx hb dJx4a65c_grow_92f84_26 ?_
    refine lv_topi (fun v3 ev3 => ?_)
    obtain rfl : v3 = nI (cap / 2) := by
      rw [ev3]
      have k := pk_shrN (n := cap) (by omega) ((1 : Int32) &&& 31) 1 (by decide)
      rw [Nat.pow_one] at k
      exact k
    refine g_Si (As := [.int (nI cap), .int (nI 1), .int (nI (cap / 2))]) (rest := []) F hP hS (k_newLength l A G w cap (cap / 2) (by omega) (by omega) (by omega)) (va_cwS 3 hts gJx4a65c_grow_92f84_J8_newLength_cabcc rfl rfl rfl cd_J8_newLength_cabcc ⟨by rw [hR]; exact Nat.le_of_ble_eq_true rfl, by rw [hR]; exact Nat.le_of_ble_eq_true rfl⟩) rfl hl.1 (Nat.le_of_ble_eq_true rfl) dJx4a65c_grow_92f84_27 ⟨by rw [hR]; exact Nat.le_of_ble_eq_true rfl, by rw [hR]; exact Nat.le_of_ble_eq_true rfl⟩ rfl (fun r4 w5 H locs h6 hP hS => ?_)
    have hr4 := h6.1
    rw [h6.2] at hP
    rw [hr4]
    refine lv_istore_n (lv' := [(3, .int (nI (cap + cap / 2))), (2, .int (nI cap)), (0, .ref h), (1, .int (nI (n + 1)))]) hx hb dJx4a65c_grow_92f84_30 rfl hl (by decide) rfl (fun ls hl => ?_)
    rw [← hcpn] at hl
    refine lv_aload_n hx hb dJx4a65c_grow_92f84_31 rfl (lv_at hl 2 rfl) ?_
    refine lv_aload_n hx hb dJx4a65c_grow_92f84_32 rfl (lv_at hl 2 rfl) ?_
    refine g_get F hP (C := RJx4a65c) (T := TJx4a65c) (N := 3) iJx4a65c hh rfl 1 (by decide) (List.mem_cons_of_mem _ (List.mem_append_left _ (List.mem_append_left _ (List.mem_of_getElem? (i := 0) rfl)))) (fun _ h9 => h9) rfl dJx4a65c_grow_92f84_33 ?_
    refine lv_iload_n hx hb dJx4a65c_grow_92f84_36 rfl (lv_at hl 0 rfl) ?_
    refine g_Sq (As := [.ref arr, .int (nI cpn)]) (rest := [.ref h]) F hP hS (k_copyOf2 l A G w arr cap cpn ci f r0 ha (by omega) (by omega) hci hcs hel) (va_cwS 2 hts gJx4a65c_grow_92f84_J7_copyOf_1904c rfl rfl rfl cd_J7_copyOf_1904c ⟨by rw [hR]; exact Nat.le_of_ble_eq_true rfl, by rw [hR]; exact Nat.le_of_ble_eq_true rfl⟩) rfl hl.1 (Nat.le_of_ble_eq_true rfl) dJx4a65c_grow_92f84_37 ⟨by rw [hR]; exact Nat.le_of_ble_eq_true rfl, by rw [hR]; exact Nat.le_of_ble_eq_true rfl⟩ rfl (fun r7 w8 H locs h9 hP hS => ?_)
    obtain ⟨q10, fa11, hr7, nq10, kq10, ew8⟩ := h9
    subst hr7
    have f12 : w8 h = some (.inr (0, [.int mod, .ref arr, .int (nI n)])) := by rw [ew8]; exact g_up_f hh (g_neq hh nq10)
    have f13 : w8 arr = some (.inl (G.2.1 3, cap, .inr (.inr (.inr (.inr f))))) := by rw [ew8]; exact g_up_f ha (g_neq ha nq10)
    have f14 : w8 q10 = some (.inl (G.2.1 3, cpn, .inr (.inr (.inr (.inr fa11))))) := by rw [ew8]; exact g_up_s _ _ _
    rw [show va_rf (some q10) = .ref q10 from rfl]
    refine lv_dup_x1 hx hb dJx4a65c_grow_92f84_40 rfl rfl ?_
    refine g_put F hP hS (C := RJx4a65c) (T := TJx4a65c) (N := 3) (v := .ref q10) (ty := (.array (.object "java/lang/Object"))) iJx4a65c tyJx4a65c tyJx4a65c_ok nmJx4a65c f12 rfl 1 (by decide) (List.mem_cons_of_mem _ (List.mem_append_left _ (List.mem_append_left _ (List.mem_of_getElem? (i := 0) rfl)))) (fun _ h9 => h9) rfl (by decide +kernel) rfl rfl (by show 1 < 3; decide) dJx4a65c_grow_92f84_41 (fun H locs hP hS => ?_)
    obtain ⟨w15, ew15⟩ : ∃ z, z = g_up w8 h (.inr (0, [.int mod, .ref q10, .int (nI n)])) := ⟨_, rfl⟩
    have hP : g_P A G w15 H := by rw [ew15]; exact hP
    have f16 : w15 arr = some (.inl (G.2.1 3, cap, .inr (.inr (.inr (.inr f))))) := by rw [ew15]; exact g_up_f f13 (g_ne f13 f12 rfl)
    have f17 : w15 q10 = some (.inl (G.2.1 3, cpn, .inr (.inr (.inr (.inr fa11))))) := by rw [ew15]; exact g_up_f f14 (Ne.symm (g_neq hh nq10))
    have f18 : w15 h = some (.inr (0, [.int mod, .ref q10, .int (nI n)])) := by rw [ew15]; exact g_up_s _ _ _
    rw [hQ]
    refine g_aret (r := (some q10)) F hP hS hlocks hr (by first | exact Or.inl ⟨_, rfl⟩ | exact Or.inr ⟨_, rfl⟩) dJx4a65c_grow_92f84_44 (by first | exact Nat.le_of_ble_eq_true rfl | omega) (by first | exact Nat.le_of_ble_eq_true rfl | omega) ?_
    exact ⟨q10, fa11, rfl, nq10, kq10, by simp only [ew15, ew8]⟩
  · exact absurd (by rw [← nI_0]; exact nI_lt (by omega) (by omega)) c1
