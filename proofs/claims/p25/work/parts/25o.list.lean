set_option maxHeartbeats 4000000 in
set_option maxRecDepth 100000 in
theorem k_addF (l : Launch) (A : Nat → Prop) (G : g_C) (w : g_W) (h : Nat) (mod : Int32) (hh : w h = some (.inr (0, [.int mod, .ref (G.2.2 0), .int (nI 0)]))) (v ci : Nat) (r0 : vw_C) (vs : List Value) (hv : w v = some (.inr (ci, vs))) (hci : vwCl[ci]? = some r0) (hcs : (r0.1, "java/lang/Object") ∈ g_casts) (hvh : v ≠ h) : mV l yJx4a65c_add_72be8 wsJx4a65c_add_72be8 ({ frames := 3, cells := 1, slots := 100, locals := 83 } : Room) [.ref h, .ref v, .ref (G.2.2 0), .int (nI 0)] A G w (fun w' => ∃ q f', w q = none ∧ f' 0 = some v ∧ w' = g_up (g_up w q (.inl (G.2.1 3, 10, .inr (.inr (.inr (.inr f')))))) h (.inr (0, [.int mod, .ref q, .int (nI 1)]))) 1 100 := by
  refine g_ofV (cc := cJx4a65c_add_72be8) (maxL := 4) (ret := none) (own := RJx4a65c) (by decide) rfl rfl (Nat.le_of_ble_eq_true rfl) ?_
  intro p e R s m args below meth c Q ls hR F hP hS hlocks hr hnm0 hQ hl
  obtain ⟨⟨hx, hb, hml, hown, hts⟩, hK, hZ, hA⟩ := id F
  generalize hH0 : s.heap = H at hP ⊢
  have hS : va_S A s.heap H [] := by rw [← hH0]; exact va_S.rf
  generalize ([] : List Loc) = locs at hS ⊢
  have hl : lv_has ls 4 [(0, .ref h), (1, .ref v), (2, .ref (G.2.2 0)), (3, .int (nI 0))] := hl
  have iJx4a65c : ∀ w ∈ u_ws RJx4a65c TJx4a65c 3, w ∈ wsJx4a65c_add_72be8 := fun w h => List.mem_cons_of_mem _ (List.mem_append_right _ (h))
  refine lv_iload_n hx hb dJx4a65c_add_72be8_0 rfl (lv_at hl 3 rfl) ?_
  refine lv_aload_n hx hb dJx4a65c_add_72be8_1 rfl (lv_at hl 2 rfl) ?_
  refine g_tlen F hS dJx4a65c_add_72be8_2 ?_
  refine lv_icmp_ne (tgt := 11) hx hb dJx4a65c_add_72be8_3 (by decide) (fun c1 => ?_) (fun c1 => ?_)
  · exact absurd (by decide) c1
  · refine lv_aload_n hx hb dJx4a65c_add_72be8_6 rfl (lv_at hl 0 rfl) ?_
    refine g_Vq (As := []) (rest := []) F hP hS (k_grow0F l A G w h mod hh) (cwV 0 hts gJx4a65c_add_72be8_Jx4a65c_grow_d5877 rfl rfl rfl cd_Jx4a65c_grow_d5877 ⟨by rw [hR]; exact Nat.le_of_ble_eq_true rfl, by rw [hR]; exact Nat.le_of_ble_eq_true rfl⟩) hh rfl rfl rfl hl.1 (Nat.le_of_ble_eq_true rfl) dJx4a65c_add_72be8_7 ⟨by rw [hR]; exact Nat.le_of_ble_eq_true rfl, by rw [hR]; exact Nat.le_of_ble_eq_true rfl⟩ rfl (fun r2 w3 H locs h4 hP hS => ?_)
    obtain ⟨q5, hr2, nq5, ew3⟩ := h4
    subst hr2
    rw [show va_rf (some q5) = .ref q5 from rfl]
    have f6 : w3 v = some (.inr (ci, vs)) := by rw [ew3]; exact g_up_f (g_up_f hv (g_neq hv nq5)) (hvh)
    have f7 : w3 q5 = some (.inl (G.2.1 3, 10, .inr (.inr (.inr (.inr (fun _ => none)))))) := by rw [ew3]; exact g_up_f (g_up_s _ _ _) (Ne.symm (g_neq hh nq5))
    have f8 : w3 h = some (.inr (0, [.int mod, .ref q5, .int (nI 0)])) := by rw [ew3]; exact g_up_s _ _ _
    refine lv_astore_n (lv' := [(2, .ref q5), (0, .ref h), (1, .ref v), (3, .int (nI 0))]) hx hb dJx4a65c_add_72be8_10 rfl hl (by decide) rfl (fun ls hl => ?_)
    refine lv_aload_n hx hb dJx4a65c_add_72be8_11 rfl (lv_at hl 0 rfl) ?_
    refine lv_iload_n hx hb dJx4a65c_add_72be8_12 rfl (lv_at hl 3 rfl) ?_
    refine lv_aload_n hx hb dJx4a65c_add_72be8_13 rfl (lv_at hl 2 rfl) ?_
    refine g_astqO F hP hS f7 f6 hci (hZ.2.2.2.2.2.2.2.1 _ hcs) (vp_in_nI (by decide) (by decide)) dJx4a65c_add_72be8_14 (fun H locs hP hS => ?_)
    obtain ⟨w9, ew9⟩ : ∃ z, z = g_up w3 q5 (.inl (G.2.1 3, 10, .inr (.inr (.inr (.inr (va_up (fun _ => none) (nI 0 : Int32).toNatClampNeg (some v))))))) := ⟨_, rfl⟩
    have hP : g_P A G w9 H := by rw [ew9]; exact hP
    have f10 : w9 v = some (.inr (ci, vs)) := by rw [ew9]; exact g_up_f f6 (g_neq hv nq5)
    have f11 : w9 h = some (.inr (0, [.int mod, .ref q5, .int (nI 0)])) := by rw [ew9]; exact g_up_f f8 (g_ne f8 f7 rfl)
    have f12 : w9 q5 = some (.inl (G.2.1 3, 10, .inr (.inr (.inr (.inr (va_up (fun _ => none) (nI 0 : Int32).toNatClampNeg (some v))))))) := by rw [ew9]; exact g_up_s _ _ _
    refine lv_aload_n hx hb dJx4a65c_add_72be8_15 rfl (lv_at hl 1 rfl) ?_
    refine lv_iload_n hx hb dJx4a65c_add_72be8_16 rfl (lv_at hl 3 rfl) ?_
    refine lv_iconst (v := 1) hx hb dJx4a65c_add_72be8_17 (by decide) ?_
    refine lv_iadd hx hb dJx4a65c_add_72be8_18 ?_
    refine lv_topi (fun v13 ev13 => ?_)
    obtain rfl : v13 = nI 1 := by
      rw [ev13]
      decide
    refine g_put F hP hS (C := RJx4a65c) (T := TJx4a65c) (N := 3) (v := .int (nI 1)) (ty := .int) iJx4a65c tyJx4a65c tyJx4a65c_ok nmJx4a65c f11 rfl 2 (by decide) (List.mem_cons_of_mem _ (List.mem_append_left _ (List.mem_append_left _ (List.mem_of_getElem? (i := 0) rfl)))) (fun _ h9 => h9) rfl (by decide +kernel) rfl rfl (by show 2 < 3; decide) dJx4a65c_add_72be8_19 (fun H locs hP hS => ?_)
    obtain ⟨w14, ew14⟩ : ∃ z, z = g_up w9 h (.inr (0, [.int mod, .ref q5, .int (nI 1)])) := ⟨_, rfl⟩
    have hP : g_P A G w14 H := by rw [ew14]; exact hP
    have f15 : w14 v = some (.inr (ci, vs)) := by rw [ew14]; exact g_up_f f10 (hvh)
    have f16 : w14 q5 = some (.inl (G.2.1 3, 10, .inr (.inr (.inr (.inr (va_up (fun _ => none) (nI 0 : Int32).toNatClampNeg (some v))))))) := by rw [ew14]; exact g_up_f f12 (g_ne f12 f11 rfl)
    have f17 : w14 h = some (.inr (0, [.int mod, .ref q5, .int (nI 1)])) := by rw [ew14]; exact g_up_s _ _ _
    rw [hQ]
    refine g_vret F hP hS hlocks hr dJx4a65c_add_72be8_22 (by first | exact Nat.le_of_ble_eq_true rfl | omega) (by first | exact Nat.le_of_ble_eq_true rfl | omega) ?_
    refine ⟨q5, va_up (fun _ => none) 0 (some v), nq5, by simp [va_up], ?_⟩
    · rw [show (nI 0).toNatClampNeg = 0 from by decide] at ew9
      simp only [ew14, ew9, ew3]
      have zq := g_neq hh nq5
      funext z
      simp only [g_up]
      by_cases z3 : z = h <;> by_cases z4 : z = q5 <;> simp_all
