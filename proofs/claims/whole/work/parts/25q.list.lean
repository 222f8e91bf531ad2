set_option maxHeartbeats 4000000 in
set_option maxRecDepth 100000 in
theorem k_fastRemove (l : Launch) (A : Nat → Prop) (G : g_C) (w : g_W) (h arr cap k : Nat) (mod : Int32) (f : Nat → Option Nat) (hh : w h = some (.inr (0, [.int mod, .ref arr, .int (nI (k + 1))]))) (ha : w arr = some (.inl (G.2.1 3, cap, .inr (.inr (.inr (.inr f)))))) (hn : k < cap) (hcm : cap < 100000) : mV l yJx4a65c_fastRemove_b59b0 wsJx4a65c_fastRemove_b59b0 ({ frames := 0, cells := 0, slots := 0, locals := 0 } : Room) [.ref h, .ref arr, .int (nI k)] A G w (fun w' => w' = g_up (g_up w arr (.inl (G.2.1 3, cap, .inr (.inr (.inr (.inr (va_up f k none))))))) h (.inr (0, [.int (mod + 1), .ref arr, .int (nI k)]))) 0 0 := by
  refine g_ofV (cc := cJx4a65c_fastRemove_b59b0) (maxL := 4) (ret := none) (own := RJx4a65c) (by decide) rfl rfl (Nat.le_of_ble_eq_true rfl) ?_
  intro p e R s m args below meth c Q ls hR F hP hS hlocks hr hnm0 hQ hl
  obtain ⟨⟨hx, hb, hml, hown, hts⟩, hK, hZ, hA⟩ := id F
  generalize hH0 : s.heap = H at hP ⊢
  have hS : va_S A s.heap H [] := by rw [← hH0]; exact va_S.rf
  generalize ([] : List Loc) = locs at hS ⊢
  have hl : lv_has ls 4 [(0, .ref h), (1, .ref arr), (2, .int (nI k))] := hl
  have iJx4a65c : ∀ w ∈ u_ws RJx4a65c TJx4a65c 3, w ∈ wsJx4a65c_fastRemove_b59b0 := fun w h => List.mem_cons_of_mem _ (List.mem_append_right _ (h))
  refine lv_aload_n hx hb dJx4a65c_fastRemove_b59b0_0 rfl (lv_at hl 0 rfl) ?_
  refine lv_dup hx hb dJx4a65c_fastRemove_b59b0_1 rfl ?_
  refine g_get F hP (C := RJx4a65c) (T := TJx4a65c) (N := 3) iJx4a65c hh rfl 0 (by decide) (List.mem_cons_of_mem _ (List.mem_append_left _ (List.mem_of_getElem? (i := 0) rfl))) (u_same (hts _ (List.mem_cons_of_mem _ (List.mem_append_left _ (List.mem_of_getElem? (i := 1) rfl))))) rfl dJx4a65c_fastRemove_b59b0_2 ?_
  refine lv_iconst (v := 1) hx hb dJx4a65c_fastRemove_b59b0_5 (by decide) ?_
  refine lv_iadd hx hb dJx4a65c_fastRemove_b59b0_6 ?_
  refine lv_topi (fun v1 ev1 => ?_)
  refine g_put F hP hS (C := RJx4a65c) (T := TJx4a65c) (N := 3) (v := .int v1) (ty := .int) iJx4a65c tyJx4a65c tyJx4a65c_ok nmJx4a65c hh rfl 0 (by decide) (List.mem_cons_of_mem _ (List.mem_append_left _ (List.mem_of_getElem? (i := 0) rfl))) (u_same (hts _ (List.mem_cons_of_mem _ (List.mem_append_left _ (List.mem_of_getElem? (i := 1) rfl))))) rfl (by decide +kernel) rfl rfl (by show 0 < 3; decide) dJx4a65c_fastRemove_b59b0_7 (fun H locs hP hS => ?_)
  obtain ⟨w2, ew2⟩ : ∃ z, z = g_up w h (.inr (0, [.int v1, .ref arr, .int (nI (k + 1))])) := ⟨_, rfl⟩
  have hP : g_P A G w2 H := by rw [ew2]; exact hP
  have f3 : w2 arr = some (.inl (G.2.1 3, cap, .inr (.inr (.inr (.inr f))))) := by rw [ew2]; exact g_up_f ha (g_ne ha hh rfl)
  have f4 : w2 h = some (.inr (0, [.int v1, .ref arr, .int (nI (k + 1))])) := by rw [ew2]; exact g_up_s _ _ _
  refine lv_aload_n hx hb dJx4a65c_fastRemove_b59b0_10 rfl (lv_at hl 0 rfl) ?_
  refine g_get F hP (C := RJx4a65c) (T := TJx4a65c) (N := 3) iJx4a65c f4 rfl 2 (by decide) (List.mem_cons_of_mem _ (List.mem_append_left _ (List.mem_of_getElem? (i := 2) rfl))) (fun _ h9 => h9) rfl dJx4a65c_fastRemove_b59b0_11 ?_
  refine lv_iconst (v := 1) hx hb dJx4a65c_fastRemove_b59b0_14 (by decide) ?_
  refine lv_isub hx hb dJx4a65c_fastRemove_b59b0_15 ?_
  refine lv_topi (fun v5 ev5 => ?_)
  obtain rfl : v5 = nI k := by
    rw [ev5]
    exact nI_pred k
  refine lv_dup hx hb dJx4a65c_fastRemove_b59b0_16 rfl ?_
  refine lv_istore_n (lv' := [(3, .int (nI k)), (0, .ref h), (1, .ref arr), (2, .int (nI k))]) hx hb dJx4a65c_fastRemove_b59b0_17 rfl hl (by decide) rfl (fun ls hl => ?_)
  refine lv_iload_n hx hb dJx4a65c_fastRemove_b59b0_18 rfl (lv_at hl 3 rfl) ?_
  refine lv_icmp_le (tgt := 34) hx hb dJx4a65c_fastRemove_b59b0_19 (by decide) (fun c6 => ?_) (fun c6 => ?_)
  · refine lv_aload_n hx hb dJx4a65c_fastRemove_b59b0_34 rfl (lv_at hl 2 rfl) ?_
    refine lv_aload_n hx hb dJx4a65c_fastRemove_b59b0_35 rfl (lv_at hl 1 rfl) ?_
    refine lv_iload_n hx hb dJx4a65c_fastRemove_b59b0_36 rfl (lv_at hl 0 rfl) ?_
    refine lv_dup_x1 hx hb dJx4a65c_fastRemove_b59b0_37 rfl rfl ?_
    refine g_put F hP hS (C := RJx4a65c) (T := TJx4a65c) (N := 3) (v := .int (nI k)) (ty := .int) iJx4a65c tyJx4a65c tyJx4a65c_ok nmJx4a65c f4 rfl 2 (by decide) (List.mem_cons_of_mem _ (List.mem_append_left _ (List.mem_of_getElem? (i := 2) rfl))) (fun _ h9 => h9) rfl (by decide +kernel) rfl rfl (by show 2 < 3; decide) dJx4a65c_fastRemove_b59b0_38 (fun H locs hP hS => ?_)
    obtain ⟨w7, ew7⟩ : ∃ z, z = g_up w2 h (.inr (0, [.int v1, .ref arr, .int (nI k)])) := ⟨_, rfl⟩
    have hP : g_P A G w7 H := by rw [ew7]; exact hP
    have f8 : w7 arr = some (.inl (G.2.1 3, cap, .inr (.inr (.inr (.inr f))))) := by rw [ew7]; exact g_up_f f3 (g_ne f3 f4 rfl)
    have f9 : w7 h = some (.inr (0, [.int v1, .ref arr, .int (nI k)])) := by rw [ew7]; exact g_up_s _ _ _
    refine lv_null hx hb dJx4a65c_fastRemove_b59b0_41 ?_
    refine g_astqN F hP hS f8 (vp_in_nI hn (by omega)) dJx4a65c_fastRemove_b59b0_42 (fun H locs hP hS => ?_)
    obtain ⟨w10, ew10⟩ : ∃ z, z = g_up w7 arr (.inl (G.2.1 3, cap, .inr (.inr (.inr (.inr (va_up f (nI k : Int32).toNatClampNeg none)))))) := ⟨_, rfl⟩
    have hP : g_P A G w10 H := by rw [ew10]; exact hP
    have f11 : w10 h = some (.inr (0, [.int v1, .ref arr, .int (nI k)])) := by rw [ew10]; exact g_up_f f9 (g_ne f9 f8 rfl)
    have f12 : w10 arr = some (.inl (G.2.1 3, cap, .inr (.inr (.inr (.inr (va_up f (nI k : Int32).toNatClampNeg none)))))) := by rw [ew10]; exact g_up_s _ _ _
    rw [hQ]
    refine g_vret F hP hS hlocks hr dJx4a65c_fastRemove_b59b0_43 (by first | exact Nat.le_of_ble_eq_true rfl | omega) (by first | exact Nat.le_of_ble_eq_true rfl | omega) ?_
    rw [nI_clamp (by omega)] at ew10
    simp only [ew10, ew7, ew2, g_up_up]
    have zq := g_ne hh ha rfl
    funext z
    simp only [g_up]
    by_cases z3 : z = h <;> by_cases z4 : z = arr <;> simp_all
  · exact absurd (nI_le (Nat.le_refl k) (by omega)) c6
