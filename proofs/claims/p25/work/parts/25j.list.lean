set_option maxHeartbeats 4000000 in
set_option maxRecDepth 100000 in
theorem k_grow1F (l : Launch) (A : Nat → Prop) (G : g_C) (w : g_W) (h : Nat) (mod : Int32) (hh : w h = some (.inr (0, [.int mod, .ref (G.2.2 0), .int (nI 0)]))) : mQ l yJx4a65c_grow_92f84 wsJx4a65c_grow_92f84 ({ frames := 1, cells := 1, slots := 100, locals := 40 } : Room) [.ref h, .int (nI 1)] A G w (fun r w' => ∃ q, r = some q ∧ w q = none ∧ w' = g_up (g_up w q (.inl (G.2.1 3, 10, .inr (.inr (.inr (.inr (fun _ => none))))))) h (.inr (0, [.int mod, .ref q, .int (nI 0)]))) 1 100 := by
  refine g_ofQ (cc := cJx4a65c_grow_92f84) (maxL := 4) (ret := (some (.array (.object "java/lang/Object")))) (own := RJx4a65c) (by decide) rfl rfl (Nat.le_of_ble_eq_true rfl) ?_
  intro p e R s m args below meth c Q ls hR F hP hS hlocks hr hnm0 hQ hl
  obtain ⟨⟨hx, hb, hml, hown, hts⟩, hK, hZ, hA⟩ := id F
  generalize hH0 : s.heap = H at hP ⊢
  have hS : va_S A s.heap H [] := by rw [← hH0]; exact va_S.rf
  generalize ([] : List Loc) = locs at hS ⊢
  have hl : lv_has ls 4 [(0, .ref h), (1, .int (nI 1))] := hl
  have iJx4a65c : ∀ w ∈ u_ws RJx4a65c TJx4a65c 3, w ∈ wsJx4a65c_grow_92f84 := fun w h => List.mem_cons_of_mem _ (List.mem_append_right _ (h))
  refine lv_aload_n hx hb dJx4a65c_grow_92f84_0 rfl (lv_at hl 0 rfl) ?_
  refine g_get F hP (C := RJx4a65c) (T := TJx4a65c) (N := 3) iJx4a65c hh rfl 1 (by decide) (List.mem_cons_of_mem _ (List.mem_append_left _ (List.mem_append_left _ (List.mem_of_getElem? (i := 0) rfl)))) (fun _ h9 => h9) rfl dJx4a65c_grow_92f84_1 ?_
  refine g_tlen F hS dJx4a65c_grow_92f84_4 ?_
  refine lv_istore_n (lv' := [(2, .int 0), (0, .ref h), (1, .int (nI 1))]) hx hb dJx4a65c_grow_92f84_5 rfl hl (by decide) rfl (fun ls hl => ?_)
  refine lv_iload_n hx hb dJx4a65c_grow_92f84_6 rfl (lv_at hl 0 rfl) ?_
  refine lv_if_gt (tgt := 20) hx hb dJx4a65c_grow_92f84_7 (by decide) (fun c1 => ?_) (fun c1 => ?_)
  · exact absurd c1 (by decide)
  · refine lv_aload_n hx hb dJx4a65c_grow_92f84_10 rfl (lv_at hl 1 rfl) ?_
    refine g_get F hP (C := RJx4a65c) (T := TJx4a65c) (N := 3) iJx4a65c hh rfl 1 (by decide) (List.mem_cons_of_mem _ (List.mem_append_left _ (List.mem_append_left _ (List.mem_of_getElem? (i := 0) rfl)))) (fun _ h9 => h9) rfl dJx4a65c_grow_92f84_11 ?_
    refine g_gets F hS (List.mem_cons_of_mem _ (List.mem_append_left _ (List.mem_append_left _ (List.mem_of_getElem? (i := 1) rfl)))) dJx4a65c_grow_92f84_14 ?_
    refine lv_acmp_eq (tgt := 45) (rx := (some (G.2.2 0))) (ry := (some (G.2.2 0))) hx hb dJx4a65c_grow_92f84_17 (by decide) (fun c2 => ?_) (fun c2 => ?_)
    · refine lv_aload_n hx hb dJx4a65c_grow_92f84_45 rfl (lv_at hl 1 rfl) ?_
      refine lv_bipush (v := 10) hx hb dJx4a65c_grow_92f84_46 (by decide) ?_
      refine lv_iload_n hx hb dJx4a65c_grow_92f84_48 rfl (lv_at hl 2 rfl) ?_
      refine va_mmax hx hb (by rw [hml]; exact hl.1.symm) hown (hts _ (List.mem_cons_of_mem _ (List.mem_append_left _ (List.mem_append_left _ (List.mem_of_getElem? (i := 2) rfl))))) (hts _ (List.mem_cons_of_mem _ (List.mem_append_left _ (List.mem_append_left _ (List.mem_of_getElem? (i := 3) rfl))))) (hts _ (List.mem_cons_of_mem _ (List.mem_append_left _ (List.mem_append_left _ (List.mem_of_getElem? (i := 4) rfl))))) (hts _ (List.mem_cons_of_mem _ (List.mem_append_left _ (List.mem_append_left _ (List.mem_of_getElem? (i := 5) rfl))))) (by rw [hR]; exact Nat.le_of_ble_eq_true rfl) (by rw [hR]; exact Nat.le_of_ble_eq_true rfl) (by rw [hR]; first | exact Nat.le_of_ble_eq_true rfl | (dsimp only; omega)) (by rw [hR]; first | exact Nat.le_of_ble_eq_true rfl | (dsimp only; omega)) dJx4a65c_grow_92f84_49 ?_
      refine lv_topi (fun v3 ev3 => ?_)
      obtain rfl : v3 = nI 10 := by
        rw [ev3]
        decide
      refine g_newqO F hP hS (N' := 10) (List.mem_cons_of_mem _ (List.mem_append_left _ (List.mem_append_left _ (List.mem_of_getElem? (i := 6) rfl)))) (by decide) (by decide) (by decide) (by rw [hR]; exact Nat.le_of_ble_eq_true rfl) (by rw [hR]; exact Nat.le_of_ble_eq_true rfl) dJx4a65c_grow_92f84_52 (fun q4 H nq4 hP hS => ?_)
      obtain ⟨w5, ew5⟩ : ∃ z, z = g_up w q4 (.inl (G.2.1 3, 10, .inr (.inr (.inr (.inr (fun _ => none)))))) := ⟨_, rfl⟩
      have hP : g_P A G w5 H := by rw [ew5]; exact hP
      have f6 : w5 h = some (.inr (0, [.int mod, .ref (G.2.2 0), .int (nI 0)])) := by rw [ew5]; exact g_up_f hh (g_neq hh nq4)
      have f7 : w5 q4 = some (.inl (G.2.1 3, 10, .inr (.inr (.inr (.inr (fun _ => none)))))) := by rw [ew5]; exact g_up_s _ _ _
      refine lv_dup_x1 hx hb dJx4a65c_grow_92f84_55 rfl rfl ?_
      refine g_put F hP hS (C := RJx4a65c) (T := TJx4a65c) (N := 3) (v := .ref q4) (ty := (.array (.object "java/lang/Object"))) iJx4a65c tyJx4a65c tyJx4a65c_ok nmJx4a65c f6 rfl 1 (by decide) (List.mem_cons_of_mem _ (List.mem_append_left _ (List.mem_append_left _ (List.mem_of_getElem? (i := 0) rfl)))) (fun _ h9 => h9) rfl (by decide +kernel) rfl rfl (by show 1 < 3; decide) dJx4a65c_grow_92f84_56 (fun H locs hP hS => ?_)
      obtain ⟨w8, ew8⟩ : ∃ z, z = g_up w5 h (.inr (0, [.int mod, .ref q4, .int (nI 0)])) := ⟨_, rfl⟩
      have hP : g_P A G w8 H := by rw [ew8]; exact hP
      have f9 : w8 q4 = some (.inl (G.2.1 3, 10, .inr (.inr (.inr (.inr (fun _ => none)))))) := by rw [ew8]; exact g_up_f f7 (Ne.symm (g_neq hh nq4))
      have f10 : w8 h = some (.inr (0, [.int mod, .ref q4, .int (nI 0)])) := by rw [ew8]; exact g_up_s _ _ _
      rw [hQ]
      refine g_aret (r := (some q4)) F hP hS hlocks hr (by first | exact Or.inl ⟨_, rfl⟩ | exact Or.inr ⟨_, rfl⟩) dJx4a65c_grow_92f84_59 (by first | exact Nat.le_of_ble_eq_true rfl | omega) (by first | exact Nat.le_of_ble_eq_true rfl | omega) ?_
      exact ⟨q4, rfl, nq4, by simp only [ew8, ew5]⟩
    · exact absurd rfl c2
