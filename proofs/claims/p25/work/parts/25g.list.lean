set_option maxHeartbeats 4000000 in
set_option maxRecDepth 100000 in
theorem k_copyOf3 (l : Launch) (A : Nat → Prop) (G : g_C) (w : g_W) (arr cap cpn ci : Nat) (f : Nat → Option Nat) (r0 : vw_C) (ha : w arr = some (.inl (G.2.1 3, cap, .inr (.inr (.inr (.inr f)))))) (hp1 : cap ≤ cpn) (hp2 : cpn < 100) (hci : vwCl[ci]? = some r0) (hcs : (r0.1, "java/lang/Object") ∈ g_casts) (hel : ∀ i, i < cap → ∀ y, f i = some y → ∃ fs, w y = some (.inr (ci, fs))) : mQ l yJ7_copyOf_6403c wsJ7_copyOf_6403c ({ frames := 1, cells := 1, slots := 100, locals := 100 } : Room) [.ref arr, .int (nI cpn), .ref (G.2.2 1)] A G w (fun r w' => ∃ q f', r = some q ∧ w q = none ∧ (∀ k, k < cap → f' k = f k) ∧ w' = g_up w q (.inl (G.2.1 3, cpn, .inr (.inr (.inr (.inr f')))))) 1 100 := by
  refine g_ofQ (cc := cJ7_copyOf_6403c) (maxL := 4) (ret := (some (.array (.object "java/lang/Object")))) (own := RJ7) (by decide) rfl rfl (Nat.le_of_ble_eq_true rfl) ?_
  intro p e R s m args below meth c Q ls hR F hP hS hlocks hr hnm0 hQ hl
  obtain ⟨⟨hx, hb, hml, hown, hts⟩, hK, hZ, hA⟩ := id F
  generalize hH0 : s.heap = H at hP ⊢
  have hS : va_S A s.heap H [] := by rw [← hH0]; exact va_S.rf
  generalize ([] : List Loc) = locs at hS ⊢
  have hl : lv_has ls 4 [(0, .ref arr), (1, .int (nI cpn)), (2, .ref (G.2.2 1))] := hl
  refine lv_aload_n hx hb dJ7_copyOf_6403c_0 rfl (lv_at hl 2 rfl) ?_
  refine g_ldcM F (List.mem_cons_of_mem _ (List.mem_of_getElem? (i := 0) rfl)) dJ7_copyOf_6403c_1 ?_
  refine lv_acmp_ne (tgt := 13) (rx := (some (G.2.2 1))) (ry := (some (G.2.2 1))) hx hb dJ7_copyOf_6403c_3 (by decide) (fun c1 => ?_) (fun c1 => ?_)
  · exact absurd rfl c1
  · refine lv_iload_n hx hb dJ7_copyOf_6403c_6 rfl (lv_at hl 1 rfl) ?_
    refine g_newqO F hP hS (N' := cpn) (List.mem_cons_of_mem _ (List.mem_of_getElem? (i := 1) rfl)) (nI_pos (by omega)) (nI_clamp (by omega)) (by omega) (by rw [hR]; exact Nat.le_of_ble_eq_true rfl) (by rw [hR]; show 0 + cpn ≤ 100; omega) dJ7_copyOf_6403c_7 (fun q2 H nq2 hP hS => ?_)
    obtain ⟨w3, ew3⟩ : ∃ z, z = g_up w q2 (.inl (G.2.1 3, cpn, .inr (.inr (.inr (.inr (fun _ => none)))))) := ⟨_, rfl⟩
    have hP : g_P A G w3 H := by rw [ew3]; exact hP
    have f4 : w3 arr = some (.inl (G.2.1 3, cap, .inr (.inr (.inr (.inr f))))) := by rw [ew3]; exact g_up_f ha (g_neq ha nq2)
    have f5 : w3 q2 = some (.inl (G.2.1 3, cpn, .inr (.inr (.inr (.inr (fun _ => none)))))) := by rw [ew3]; exact g_up_s _ _ _
    refine lv_goto (tgt := 24) hx hb dJ7_copyOf_6403c_10 (by decide) ?_
    refine lv_astore_n (lv' := [(3, .ref q2), (0, .ref arr), (1, .int (nI cpn)), (2, .ref (G.2.2 1))]) hx hb dJ7_copyOf_6403c_24 rfl hl (by decide) rfl (fun ls hl => ?_)
    refine lv_aload_n hx hb dJ7_copyOf_6403c_25 rfl (lv_at hl 1 rfl) ?_
    refine lv_iconst (v := 0) hx hb dJ7_copyOf_6403c_26 (by decide) ?_
    refine lv_aload_n hx hb dJ7_copyOf_6403c_27 rfl (lv_at hl 0 rfl) ?_
    refine lv_iconst (v := 0) hx hb dJ7_copyOf_6403c_28 (by decide) ?_
    refine lv_aload_n hx hb dJ7_copyOf_6403c_29 rfl (lv_at hl 1 rfl) ?_
    refine g_alen F hP 3 rfl f4 (v := nI cap) rfl dJ7_copyOf_6403c_30 ?_
    refine lv_iload_n hx hb dJ7_copyOf_6403c_31 rfl (lv_at hl 2 rfl) ?_
    refine va_mmin hx hb (by rw [hml]; exact hl.1.symm) hown (hts _ (List.mem_cons_of_mem _ (List.mem_of_getElem? (i := 2) rfl))) (hts _ (List.mem_cons_of_mem _ (List.mem_of_getElem? (i := 3) rfl))) (hts _ (List.mem_cons_of_mem _ (List.mem_of_getElem? (i := 4) rfl))) (hts _ (List.mem_cons_of_mem _ (List.mem_of_getElem? (i := 5) rfl))) (by rw [hR]; exact Nat.le_of_ble_eq_true rfl) (by rw [hR]; exact Nat.le_of_ble_eq_true rfl) (by rw [hR]; first | exact Nat.le_of_ble_eq_true rfl | (dsimp only; omega)) (by rw [hR]; first | exact Nat.le_of_ble_eq_true rfl | (dsimp only; omega)) dJ7_copyOf_6403c_32 ?_
    refine lv_topi (fun v6 ev6 => ?_)
    obtain rfl : v6 = nI cap := by
      rw [ev6]
      by_cases z : cpn < cap
      · exact absurd z (by omega)
      · rw [if_neg (nI_nlt (by omega) (by omega))]
    refine g_copyq F hP hS hl.1 (List.mem_cons_of_mem _ (List.mem_of_getElem? (i := 6) rfl)) (List.mem_cons_of_mem _ (List.mem_of_getElem? (i := 7) rfl)) (List.mem_cons_of_mem _ (List.mem_of_getElem? (i := 8) rfl)) (List.mem_cons_of_mem _ (List.mem_of_getElem? (i := 9) rfl)) (ci := ci) f4 f5 hci (hZ.2.2.2.2.2.2.2.1 _ hcs) (by decide) (by decide) (nI_pos (by omega)) (by rw [nI_clamp (n := cap) (by omega)]; show 0 + cap ≤ cap; omega) (by rw [nI_clamp (n := cap) (by omega)]; show 0 + cap ≤ cpn; omega) (fun i hi y hy => by
      rw [nI_clamp (n := cap) (by omega)] at hi
      obtain ⟨fs, hfs⟩ := hel i hi y (by simpa [show (0 : Int32).toNatClampNeg = 0 from by decide] using hy)
      exact ⟨fs, by rw [ew3]; exact g_up_f hfs (g_neq hfs nq2)⟩) (by rw [hR]; exact Nat.le_of_ble_eq_true rfl) (by rw [hR]; exact Nat.le_of_ble_eq_true rfl) dJ7_copyOf_6403c_35 (fun H locs hP hS => ?_)
    obtain ⟨w7, ew7⟩ : ∃ z, z = g_up w3 q2 (.inl (G.2.1 3, cpn, .inr (.inr (.inr (.inr (va_cpy f (fun _ => none) (0 : Int32).toNatClampNeg (0 : Int32).toNatClampNeg (nI cap : Int32).toNatClampNeg)))))) := ⟨_, rfl⟩
    have hP : g_P A G w7 H := by rw [ew7]; exact hP
    have f8 : w7 arr = some (.inl (G.2.1 3, cap, .inr (.inr (.inr (.inr f))))) := by rw [ew7]; exact g_up_f f4 (g_neq ha nq2)
    have f9 : w7 q2 = some (.inl (G.2.1 3, cpn, .inr (.inr (.inr (.inr (va_cpy f (fun _ => none) (0 : Int32).toNatClampNeg (0 : Int32).toNatClampNeg (nI cap : Int32).toNatClampNeg)))))) := by rw [ew7]; exact g_up_s _ _ _
    refine lv_aload_n hx hb dJ7_copyOf_6403c_38 rfl (lv_at hl 0 rfl) ?_
    rw [hQ]
    refine g_aret (r := (some q2)) F hP hS hlocks hr (by first | exact Or.inl ⟨_, rfl⟩ | exact Or.inr ⟨_, rfl⟩) dJ7_copyOf_6403c_39 (by first | exact Nat.le_of_ble_eq_true rfl | omega) (by first | exact Nat.le_of_ble_eq_true rfl | omega) ?_
    refine ⟨q2, _, rfl, nq2, fun k hk => ?_, by simp only [ew7, ew3, g_up_up]; rfl⟩
    rw [nI_clamp (n := cap) (by omega)]
    simp [va_cpy, show (0 : Int32).toNatClampNeg = 0 from by decide, hk]
