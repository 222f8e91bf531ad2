set_option maxHeartbeats 4000000 in
set_option maxRecDepth 100000 in
theorem k_addR (l : Launch) (A : Nat → Prop) (G : g_C) (w : g_W) (h arr n cap : Nat) (mod : Int32) (f : Nat → Option Nat) (hh : w h = some (.inr (0, [.int mod, .ref arr, .int (nI n)]))) (ha : w arr = some (.inl (G.2.1 3, cap, .inr (.inr (.inr (.inr f)))))) (hn : n < cap) (hcm : cap < 100000) (v ci : Nat) (r0 : vw_C) (vs : List Value) (hv : w v = some (.inr (ci, vs))) (hci : vwCl[ci]? = some r0) (hcs : (r0.1, "java/lang/Object") ∈ g_casts) (hvh : v ≠ h) : mV l yJx4a65c_add_72be8 wsJx4a65c_add_72be8 ({ frames := 0, cells := 0, slots := 0, locals := 0 } : Room) [.ref h, .ref v, .ref arr, .int (nI n)] A G w (fun w' => w' = g_up (g_up w arr (.inl (G.2.1 3, cap, .inr (.inr (.inr (.inr (va_up f n (some v)))))))) h (.inr (0, [.int mod, .ref arr, .int (nI (n + 1))]))) 0 0 := by
  refine g_ofV (cc := cJx4a65c_add_72be8) (maxL := 4) (ret := none) (own := RJx4a65c) (by decide) rfl rfl (Nat.le_of_ble_eq_true rfl) ?_
  intro p e R s m args below meth c Q ls hR F hP hS hlocks hr hnm0 hQ hl
  obtain ⟨⟨hx, hb, hml, hown, hts⟩, hK, hZ, hA⟩ := id F
  generalize hH0 : s.heap = H at hP ⊢
  have hS : va_S A s.heap H [] := by rw [← hH0]; exact va_S.rf
  generalize ([] : List Loc) = locs at hS ⊢
  have hl : lv_has ls 4 [(0, .ref h), (1, .ref v), (2, .ref arr), (3, .int (nI n))] := hl
  have iJx4a65c : ∀ w ∈ u_ws RJx4a65c TJx4a65c 3, w ∈ wsJx4a65c_add_72be8 := fun w h => List.mem_cons_of_mem _ (List.mem_append_right _ (h))
  refine lv_iload_n hx hb dJx4a65c_add_72be8_0 rfl (lv_at hl 3 rfl) ?_
  refine lv_aload_n hx hb dJx4a65c_add_72be8_1 rfl (lv_at hl 2 rfl) ?_
  refine g_alen F hP 3 rfl ha (v := nI cap) rfl dJx4a65c_add_72be8_2 ?_
  refine lv_icmp_ne (tgt := 11) hx hb dJx4a65c_add_72be8_3 (by decide) (fun c1 => ?_) (fun c1 => ?_)
  · refine lv_aload_n hx hb dJx4a65c_add_72be8_11 rfl (lv_at hl 2 rfl) ?_
    refine lv_iload_n hx hb dJx4a65c_add_72be8_12 rfl (lv_at hl 3 rfl) ?_
    refine lv_aload_n hx hb dJx4a65c_add_72be8_13 rfl (lv_at hl 1 rfl) ?_
    refine g_astqO F hP hS ha hv hci (hZ.2.2.2.2.2.2.2.1 _ hcs) (vp_in_nI hn (by omega)) dJx4a65c_add_72be8_14 (fun H locs hP hS => ?_)
    obtain ⟨w2, ew2⟩ : ∃ z, z = g_up w arr (.inl (G.2.1 3, cap, .inr (.inr (.inr (.inr (va_up f (nI n : Int32).toNatClampNeg (some v))))))) := ⟨_, rfl⟩
    have hP : g_P A G w2 H := by rw [ew2]; exact hP
    have f3 : w2 h = some (.inr (0, [.int mod, .ref arr, .int (nI n)])) := by rw [ew2]; exact g_up_f hh (g_ne hh ha rfl)
    have f4 : w2 v = some (.inr (ci, vs)) := by rw [ew2]; exact g_up_f hv (g_noa hv ha)
    have f5 : w2 arr = some (.inl (G.2.1 3, cap, .inr (.inr (.inr (.inr (va_up f (nI n : Int32).toNatClampNeg (some v))))))) := by rw [ew2]; exact g_up_s _ _ _
    refine lv_aload_n hx hb dJx4a65c_add_72be8_15 rfl (lv_at hl 0 rfl) ?_
    refine lv_iload_n hx hb dJx4a65c_add_72be8_16 rfl (lv_at hl 3 rfl) ?_
    refine lv_iconst (v := 1) hx hb dJx4a65c_add_72be8_17 (by decide) ?_
    refine lv_iadd hx hb dJx4a65c_add_72be8_18 ?_
    refine lv_topi (fun v6 ev6 => ?_)
    obtain rfl : v6 = nI (n + 1) := by
      rw [ev6]
      exact nI_1 n
    refine g_put F hP hS (C := RJx4a65c) (T := TJx4a65c) (N := 3) (v := .int (nI (n + 1))) (ty := .int) iJx4a65c tyJx4a65c tyJx4a65c_ok nmJx4a65c f3 rfl 2 (by decide) (List.mem_cons_of_mem _ (List.mem_append_left _ (List.mem_append_left _ (List.mem_of_getElem? (i := 0) rfl)))) (fun _ h9 => h9) rfl (by decide +kernel) rfl rfl (by show 2 < 3; decide) dJx4a65c_add_72be8_19 (fun H locs hP hS => ?_)
    obtain ⟨w7, ew7⟩ : ∃ z, z = g_up w2 h (.inr (0, [.int mod, .ref arr, .int (nI (n + 1))])) := ⟨_, rfl⟩
    have hP : g_P A G w7 H := by rw [ew7]; exact hP
    have f8 : w7 v = some (.inr (ci, vs)) := by rw [ew7]; exact g_up_f f4 (hvh)
    have f9 : w7 arr = some (.inl (G.2.1 3, cap, .inr (.inr (.inr (.inr (va_up f (nI n : Int32).toNatClampNeg (some v))))))) := by rw [ew7]; exact g_up_f f5 (g_ne f5 f3 rfl)
    have f10 : w7 h = some (.inr (0, [.int mod, .ref arr, .int (nI (n + 1))])) := by rw [ew7]; exact g_up_s _ _ _
    rw [hQ]
    refine g_vret F hP hS hlocks hr dJx4a65c_add_72be8_22 (by first | exact Nat.le_of_ble_eq_true rfl | omega) (by first | exact Nat.le_of_ble_eq_true rfl | omega) ?_
    rw [nI_clamp (by omega)] at ew2
    simp only [ew7, ew2]
  · exact absurd ((nI_eq (by omega) (by omega)).mp c1) (by omega)
