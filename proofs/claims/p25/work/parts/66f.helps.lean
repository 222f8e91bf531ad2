set_option maxHeartbeats 4000000 in
set_option maxRecDepth 100000 in
theorem k_L_fraction (l : Launch) (A : Nat → Prop) (G : g_C) (w : g_W) (x y : Int) (hx1 : x.natAbs < 1125899906842624) (hy1 : y.natAbs < 1125899906842624) (hy0 : 0 < y) : mQ l yL_fraction wsL_fraction ({ frames := 101, cells := 1, slots := 2, locals := 2323 } : Room) [.long (zL x), .long (zL y)] A G w (fun r w' => ∃ q f, r = some q ∧ w q = none ∧ f 0 = zL (fN x y) ∧ f 1 = zL (fD x y) ∧ w' = g_up w q (.inl (G.2.1 1, 2, .inr (.inl f)))) 1 2 := by
  refine g_ofQ (cc := cL_fraction) (maxL := 6) (ret := (some (.array .long))) (own := RL) (by decide) rfl rfl (Nat.le_of_ble_eq_true rfl) ?_
  intro p e R s m args below meth c Q ls hR F hP hS hlocks hr hnm0 hQ hl
  obtain ⟨⟨hx, hb, hml, hown, hts⟩, hK, hZ, hA⟩ := id F
  generalize hH0 : s.heap = H at hP ⊢
  have hS : va_S A s.heap H [] := by rw [← hH0]; exact va_S.rf
  generalize ([] : List Loc) = locs at hS ⊢
  have hl : lv_has ls 6 [(0, .long (zL x)), (2, .long (zL y))] := hl
  have hgp : 0 < Int.gcd x y := fG_pos (x := x) (by omega)
  have hgl := fG_le (x := x) (y := y) (by omega)
  have hgf : fG x y = (Int.gcd x y : Int) := if_neg (by omega)
  refine lv_lload_n hx hb dL_fraction_0 rfl (lv_at hl 0 rfl) ?_
  refine lv_lload_n hx hb dL_fraction_1 rfl (lv_at hl 1 rfl) ?_
  refine g_Sl (As := [.long (zL x), .long (zL y)]) (rest := []) F hP hS (k_L_common l A G w x y hx1 hy1) (va_cwS 2 hts gL_fraction_L_common rfl rfl rfl cd_L_common ⟨by rw [hR]; exact Nat.le_of_ble_eq_true rfl, by rw [hR]; exact Nat.le_of_ble_eq_true rfl⟩) rfl hl.1 (Nat.le_of_ble_eq_true rfl) dL_fraction_2 ⟨by rw [hR]; exact Nat.le_of_ble_eq_true rfl, by rw [hR]; exact Nat.le_of_ble_eq_true rfl⟩ rfl (fun r1 w2 H locs h3 hP hS => ?_)
  have hr1 := h3.1
  rw [h3.2] at hP
  rw [hr1]
  refine lv_lstore (lv' := [(4, .long (zL (Int.gcd x y : Int))), (0, .long (zL x)), (2, .long (zL y))]) hx hb dL_fraction_5 hl (by decide) rfl (fun ls hl => ?_)
  refine lv_lload_n hx hb dL_fraction_7 rfl (lv_at hl 2 rfl) ?_
  refine lv_lconst (v := 0) hx hb dL_fraction_8 (by decide) ?_
  refine W.lcmp hx hb dL_fraction_9 ?_
  refine lv_if_ge (tgt := 17) hx hb dL_fraction_10 (by decide) (fun c4 => ?_) (fun c4 => ?_)
  · have c4 := (lg_cmp_ge (zL y) 0).mp c4
    refine lv_iconst (v := 0) hx hb dL_fraction_17 (by decide) ?_
    refine lv_lload hx hb dL_fraction_18 (lv_at hl 0 rfl) ?_
    refine lv_lconst (v := 0) hx hb dL_fraction_20 (by decide) ?_
    refine W.lcmp hx hb dL_fraction_21 ?_
    refine lv_if_ge (tgt := 29) hx hb dL_fraction_22 (by decide) (fun c5 => ?_) (fun c5 => ?_)
    · have c5 := (lg_cmp_ge (zL (Int.gcd x y : Int)) 0).mp c5
      refine lv_iconst (v := 0) hx hb dL_fraction_29 (by decide) ?_
      refine lv_icmp_eq (tgt := 38) hx hb dL_fraction_30 (by decide) (fun c6 => ?_) (fun c6 => ?_)
      · refine lv_iconst (v := 2) hx hb dL_fraction_38 (by decide) ?_
        refine g_newaJ F hP hS (N' := 2) (List.mem_cons_of_mem _ (List.mem_of_getElem? (i := 0) rfl)) (by decide) (by decide) (by decide) (by rw [hR]; exact Nat.le_of_ble_eq_true rfl) (by rw [hR]; exact Nat.le_of_ble_eq_true rfl) dL_fraction_39 (fun q7 H nq7 hP hS => ?_)
        obtain ⟨w8, ew8⟩ : ∃ z, z = g_up w q7 (.inl (G.2.1 1, 2, .inr (.inl (fun _ => 0)))) := ⟨_, rfl⟩
        have hP : g_P A G w8 H := by rw [ew8]; exact hP
        have f9 : w8 q7 = some (.inl (G.2.1 1, 2, .inr (.inl (fun _ => 0)))) := by rw [ew8]; exact g_up_s _ _ _
        refine lv_dup hx hb dL_fraction_41 rfl ?_
        refine lv_iconst (v := 0) hx hb dL_fraction_42 (by decide) ?_
        refine lv_lload_n hx hb dL_fraction_43 rfl (lv_at hl 1 rfl) ?_
        refine lv_lload hx hb dL_fraction_44 (lv_at hl 0 rfl) ?_
        refine lv_ldiv hx hb dL_fraction_46 (fun q => absurd ((zL_eq0 (by omega) (by omega)).mp q) (by omega)) ?_
        refine lv_topl (fun v10 ev10 => ?_)
        obtain rfl : v10 = zL (fN x y) := by
          rw [ev10]
          rw [zL_div (by omega) (by omega) (by omega) (by omega), fN, hgf]
        refine g_last F hP hS f9 (by unfold vp_in; decide) dL_fraction_47 (fun H locs hP hS => ?_)
        obtain ⟨w11, ew11⟩ : ∃ z, z = g_up w8 q7 (.inl (G.2.1 1, 2, .inr (.inl (vp_updL (fun _ => 0) (0 : Int32).toNatClampNeg (zL (fN x y)))))) := ⟨_, rfl⟩
        have hP : g_P A G w11 H := by rw [ew11]; exact hP
        have f12 : w11 q7 = some (.inl (G.2.1 1, 2, .inr (.inl (vp_updL (fun _ => 0) (0 : Int32).toNatClampNeg (zL (fN x y)))))) := by rw [ew11]; exact g_up_s _ _ _
        refine lv_dup hx hb dL_fraction_48 rfl ?_
        refine lv_iconst (v := 1) hx hb dL_fraction_49 (by decide) ?_
        refine lv_lload_n hx hb dL_fraction_50 rfl (lv_at hl 2 rfl) ?_
        refine lv_lload hx hb dL_fraction_51 (lv_at hl 0 rfl) ?_
        refine lv_ldiv hx hb dL_fraction_53 (fun q => absurd ((zL_eq0 (by omega) (by omega)).mp q) (by omega)) ?_
        refine lv_topl (fun v13 ev13 => ?_)
        obtain rfl : v13 = zL (fD x y) := by
          rw [ev13]
          rw [zL_div (by omega) (by omega) (by omega) (by omega), fD, hgf]
        refine g_last F hP hS f12 (by unfold vp_in; decide) dL_fraction_54 (fun H locs hP hS => ?_)
        obtain ⟨w14, ew14⟩ : ∃ z, z = g_up w11 q7 (.inl (G.2.1 1, 2, .inr (.inl (vp_updL (vp_updL (fun _ => 0) (0 : Int32).toNatClampNeg (zL (fN x y))) (1 : Int32).toNatClampNeg (zL (fD x y)))))) := ⟨_, rfl⟩
        have hP : g_P A G w14 H := by rw [ew14]; exact hP
        have f15 : w14 q7 = some (.inl (G.2.1 1, 2, .inr (.inl (vp_updL (vp_updL (fun _ => 0) (0 : Int32).toNatClampNeg (zL (fN x y))) (1 : Int32).toNatClampNeg (zL (fD x y)))))) := by rw [ew14]; exact g_up_s _ _ _
        rw [hQ]
        refine g_aret (r := (some q7)) F hP hS hlocks hr (by first | exact Or.inl ⟨_, rfl⟩ | exact Or.inr ⟨_, rfl⟩) dL_fraction_55 (by first | exact Nat.le_of_ble_eq_true rfl | omega) (by first | exact Nat.le_of_ble_eq_true rfl | omega) ?_
        refine ⟨q7, (vp_updL (vp_updL (fun _ => 0) (0 : Int32).toNatClampNeg (zL (fN x y))) (1 : Int32).toNatClampNeg (zL (fD x y))), rfl, nq7, ?_, ?_, by simp only [ew14, ew11, ew8, g_up_up]⟩
        · simp [vp_updL, show (0 : Int32).toNatClampNeg = 0 from by decide, show (1 : Int32).toNatClampNeg = 1 from by decide]
        · simp [vp_updL, show (0 : Int32).toNatClampNeg = 0 from by decide, show (1 : Int32).toNatClampNeg = 1 from by decide]
      · exact absurd rfl c6
    · have c5 : ¬ (0 ≤ (zL (Int.gcd x y : Int))) := fun h => c5 ((lg_cmp_ge (zL (Int.gcd x y : Int)) 0).mpr h)
      exact absurd ((zL_ge0 (by omega) (by omega)).mpr (by omega)) c5
  · have c4 : ¬ (0 ≤ (zL y)) := fun h => c4 ((lg_cmp_ge (zL y) 0).mpr h)
    exact absurd ((zL_ge0 (by omega) (by omega)).mpr (by omega)) c4
