set_option maxHeartbeats 4000000 in
set_option maxRecDepth 100000 in
theorem k_X7_digest (l : Launch) (A : Nat → Prop) (G : g_C) (w : g_W) (md : Nat → Nat) (S : Sg) (th : Int32) (tp bt : Int64) (Fm : Nat → Nat → Int32) (L : Nat → Nat → Int64) (Hm : modW G w md S th tp bt Fm L) (Hj : modI md) (Hf : modF S Fm) (Hi : invS S) : mL l yX7_digest wsX7_digest ({ frames := 6, cells := 2, slots := 20, locals := 177 } : Room) [.ref (md 0)] A G w (fun r w' => r = vlDigest S (told S) ∧ mAft G md w w' S 0) 2 20 := by
  refine g_ofL (cc := cX7_digest) (maxL := 4) (ret := (some .long)) (own := RX7) (by decide) rfl rfl (Nat.le_of_ble_eq_true rfl) ?_
  intro p e R s m args below meth c Q ls hR F hP hS hlocks hr hnm0 hQ hl
  obtain ⟨⟨hx, hb, hml, hown, hts⟩, hK, hZ, hA⟩ := id F
  generalize hH0 : s.heap = H at hP ⊢
  have hS : va_S A s.heap H [] := by rw [← hH0]; exact va_S.rf
  generalize ([] : List Loc) = locs at hS ⊢
  have hl : lv_has ls 4 [(0, .ref (md 0))] := hl
  have iX7 : ∀ w ∈ u_ws RX7 TX7 20, w ∈ wsX7_digest := fun w h => List.mem_cons_of_mem _ (List.mem_append_right _ (h))
  obtain ⟨hx0, hy1, hy2, hy3, hy4, hy5, hy6, hy7, hy8, hy9, hy10, hy11⟩ := id Hm
  have hi := Hi.1
  refine lv_aload_n hx hb dX7_digest_0 rfl (lv_at hl 0 rfl) ?_
  refine lv_iconst (v := 0) hx hb dX7_digest_1 (by decide) ?_
  refine g_put F hP hS (C := RX7) (T := TX7) (N := 20) (v := .int 0) (ty := .int) iX7 tyX7 tyX7_ok nmX7 hx0 rfl 0 (by decide) (List.mem_cons_of_mem _ (List.mem_append_left _ (List.mem_append_left _ (List.mem_of_getElem? (i := 0) rfl)))) (fun _ h9 => h9) rfl (by decide +kernel) rfl rfl (by show 0 < 20; decide) dX7_digest_2 (fun H locs hP hS => ?_)
  obtain ⟨w1, ew1⟩ : ∃ z, z = g_up w (md 0) (.inr (8, [.int 0, .int (iL (S 0 0)), .ref (md 1), .ref (md 2), .ref (md 3), .int (iL (S 0 4)), .int (iL (S 0 5)), .int (iL (S 0 1)), .ref (md 4), .ref (md 5), .int (iL (S 0 2)), .ref (md 6), .ref (md 7), .int (iL (S 0 3)), .ref (md 8), .ref (md 9), .ref (md 10), .ref (md 11), .long tp, .long bt])) := ⟨_, rfl⟩
  have hP : g_P A G w1 H := by rw [ew1]; exact hP
  have f2 : w1 (md 1) = some (.inl (G.2.1 0, 10, .inl (Fm 1))) := by rw [ew1]; exact g_up_f hy1 ((fun q => absurd (Hj 1 0 (by decide) (by decide) q) (by decide)))
  have f3 : w1 (md 2) = some (.inl (G.2.1 0, 10, .inl (Fm 2))) := by rw [ew1]; exact g_up_f hy2 ((fun q => absurd (Hj 2 0 (by decide) (by decide) q) (by decide)))
  have f4 : w1 (md 3) = some (.inl (G.2.1 2, 10, .inl (Fm 3))) := by rw [ew1]; exact g_up_f hy3 ((fun q => absurd (Hj 3 0 (by decide) (by decide) q) (by decide)))
  have f5 : w1 (md 4) = some (.inl (G.2.1 0, 64, .inl (Fm 4))) := by rw [ew1]; exact g_up_f hy4 ((fun q => absurd (Hj 4 0 (by decide) (by decide) q) (by decide)))
  have f6 : w1 (md 5) = some (.inl (G.2.1 2, 16, .inl (Fm 5))) := by rw [ew1]; exact g_up_f hy5 ((fun q => absurd (Hj 5 0 (by decide) (by decide) q) (by decide)))
  have f7 : w1 (md 6) = some (.inl (G.2.1 0, 16, .inl (Fm 6))) := by rw [ew1]; exact g_up_f hy6 ((fun q => absurd (Hj 6 0 (by decide) (by decide) q) (by decide)))
  have f8 : w1 (md 7) = some (.inl (G.2.1 0, 16, .inl (Fm 7))) := by rw [ew1]; exact g_up_f hy7 ((fun q => absurd (Hj 7 0 (by decide) (by decide) q) (by decide)))
  have f9 : w1 (md 8) = some (.inl (G.2.1 0, 20, .inl (Fm 8))) := by rw [ew1]; exact g_up_f hy8 ((fun q => absurd (Hj 8 0 (by decide) (by decide) q) (by decide)))
  have f10 : w1 (md 9) = some (.inl (G.2.1 1, 10, .inr (.inl (L 0)))) := by rw [ew1]; exact g_up_f hy9 ((fun q => absurd (Hj 9 0 (by decide) (by decide) q) (by decide)))
  have f11 : w1 (md 10) = some (.inl (G.2.1 1, 10, .inr (.inl (L 1)))) := by rw [ew1]; exact g_up_f hy10 ((fun q => absurd (Hj 10 0 (by decide) (by decide) q) (by decide)))
  have f12 : w1 (md 11) = some (.inl (G.2.1 0, 10, .inl (Fm 11))) := by rw [ew1]; exact g_up_f hy11 ((fun q => absurd (Hj 11 0 (by decide) (by decide) q) (by decide)))
  have f13 : w1 (md 0) = some (.inr (8, [.int 0, .int (iL (S 0 0)), .ref (md 1), .ref (md 2), .ref (md 3), .int (iL (S 0 4)), .int (iL (S 0 5)), .int (iL (S 0 1)), .ref (md 4), .ref (md 5), .int (iL (S 0 2)), .ref (md 6), .ref (md 7), .int (iL (S 0 3)), .ref (md 8), .ref (md 9), .ref (md 10), .ref (md 11), .long tp, .long bt])) := by rw [ew1]; exact g_up_s _ _ _
  refine lv_aload_n hx hb dX7_digest_5 rfl (lv_at hl 0 rfl) ?_
  refine g_Vv (As := []) (rest := []) F hP hS (k_X7_solve l A G w1 md S 0 tp bt Fm L ⟨f13, f2, f3, f4, f5, f6, f7, f8, f9, f10, f11, f12⟩ Hj Hf Hi) (cwV 0 hts gX7_digest_X7_solve rfl rfl rfl cd_X7_solve ⟨by rw [hR]; exact Nat.le_of_ble_eq_true rfl, by rw [hR]; exact Nat.le_of_ble_eq_true rfl⟩) f13 rfl rfl rfl hl.1 (Nat.le_of_ble_eq_true rfl) dX7_digest_6 ⟨by rw [hR]; exact Nat.le_of_ble_eq_true rfl, by rw [hR]; exact Nat.le_of_ble_eq_true rfl⟩ rfl (fun w15 H locs h16 hP hS => ?_)
  obtain ⟨hfr2, tp2, bt2, L3, f3, ⟨z0, z1, z2, z3, z4, z5, z6, z7, z8, z9, z10, z11⟩, hT3⟩ := h16
  have HT : modT S (told S) (up1 Fm 11 f3) L3 := hT3
  have HF := modF_11 Hf f3
  have Ht := told_inv Hi
  have f17 : w15 (md 0) = some (.inr (8, [.int 0, .int (iL (S 0 0)), .ref (md 1), .ref (md 2), .ref (md 3), .int (iL (S 0 4)), .int (iL (S 0 5)), .int (iL (S 0 1)), .ref (md 4), .ref (md 5), .int (iL (S 0 2)), .ref (md 6), .ref (md 7), .int (iL (S 0 3)), .ref (md 8), .ref (md 9), .ref (md 10), .ref (md 11), .long tp2, .long bt2])) := z0
  have f18 : w15 (md 1) = some (.inl (G.2.1 0, 10, .inl (Fm 1))) := z1
  have f19 : w15 (md 2) = some (.inl (G.2.1 0, 10, .inl (Fm 2))) := z2
  have f20 : w15 (md 3) = some (.inl (G.2.1 2, 10, .inl (Fm 3))) := z3
  have f21 : w15 (md 4) = some (.inl (G.2.1 0, 64, .inl (Fm 4))) := z4
  have f22 : w15 (md 5) = some (.inl (G.2.1 2, 16, .inl (Fm 5))) := z5
  have f23 : w15 (md 6) = some (.inl (G.2.1 0, 16, .inl (Fm 6))) := z6
  have f24 : w15 (md 7) = some (.inl (G.2.1 0, 16, .inl (Fm 7))) := z7
  have f25 : w15 (md 8) = some (.inl (G.2.1 0, 20, .inl (Fm 8))) := z8
  have f26 : w15 (md 9) = some (.inl (G.2.1 1, 10, .inr (.inl (L3 0)))) := z9
  have f27 : w15 (md 10) = some (.inl (G.2.1 1, 10, .inr (.inl (L3 1)))) := z10
  have f28 : w15 (md 11) = some (.inl (G.2.1 0, 10, .inl f3)) := z11
  refine lv_ldc2 (v := 8153) hx hb hown (hts _ (List.mem_cons_of_mem _ (List.mem_append_left _ (List.mem_append_left _ (List.mem_of_getElem? (i := 1) rfl))))) dX7_digest_9 ?_
  refine lv_aload_n hx hb dX7_digest_12 rfl (lv_at hl 0 rfl) ?_
  refine g_get F hP (C := RX7) (T := TX7) (N := 20) iX7 f17 rfl 1 (by decide) (List.mem_cons_of_mem _ (List.mem_append_left _ (List.mem_append_left _ (List.mem_of_getElem? (i := 2) rfl)))) (fun _ h9 => h9) rfl dX7_digest_13 ?_
  refine lv_i2l hx hb dX7_digest_16 rfl ?_
  refine lv_topl (fun v29 ev29 => ?_)
  obtain rfl : v29 = zL (S 0 0) := by
    rw [ev29]
    exact iL64 (by omega) (by omega)
  refine lv_ladd hx hb dX7_digest_17 ?_
  refine lv_topl (fun v30 ev30 => ?_)
  obtain rfl : v30 = dgL S (told S) 0 := by
    rw [ev30]
    show _ = (263 : Int64) * 31 + zL (S 0 0)
    rw [show (263 : Int64) * 31 = 8153 from by decide]
  refine lv_lstore_n (lv' := [(1, .long (dgL S (told S) 0)), (0, .ref (md 0))]) hx hb dX7_digest_18 rfl hl (by decide) rfl (fun ls hl => ?_)
  refine lv_iconst (v := 0) hx hb dX7_digest_19 (by decide) ?_
  refine lv_istore_n (lv' := [(3, .int 0), (1, .long (dgL S (told S) 0)), (0, .ref (md 0))]) hx hb dX7_digest_20 rfl hl (by decide) rfl (fun ls hl => ?_)
  have L21 : ∀ (n : Nat) (k : Nat) (H : Heap) (locs : List Loc) (ls : Array Slot), (S 0 0).toNat + 1 ≤ k + n → ((k : Int) ≤ S 0 0) → g_P A G w15 H → va_S A s.heap H locs → lv_has ls 4 [(3, .int (nI k)), (1, .long (dgL S (told S) k)), (0, .ref (md 0))] → W p l e R s m args below meth c H locs (2) (20) Q (F0 m 21 ls []) := by
    intro n
    induction n with
    | zero =>
      intro k H locs ls hfu hkN hP hS hl
      exact absurd hfu (by omega)
    | succ n ih_L21 =>
      intro k H locs ls hfu hkN hP hS hl
      refine lv_iload_n hx hb dX7_digest_21 rfl (lv_at hl 0 rfl) ?_
      refine lv_aload_n hx hb dX7_digest_22 rfl (lv_at hl 2 rfl) ?_
      refine g_get F hP (C := RX7) (T := TX7) (N := 20) iX7 f17 rfl 1 (by decide) (List.mem_cons_of_mem _ (List.mem_append_left _ (List.mem_append_left _ (List.mem_of_getElem? (i := 2) rfl)))) (fun _ h9 => h9) rfl dX7_digest_23 ?_
      refine lv_icmp_ge (tgt := 124) hx hb dX7_digest_26 (by decide) (fun c31 => ?_) (fun c31 => ?_)
      · have zc31 : S 0 0 ≤ k := (iL_nle (by omega) (by omega) (by omega)).mp c31
        rw [show k = (S 0 0).toNat by omega] at hl
        refine lv_lload_n hx hb dX7_digest_124 rfl (lv_at hl 1 rfl) ?_
        refine lv_ldc2 (v := 31) hx hb hown (hts _ (List.mem_cons_of_mem _ (List.mem_append_left _ (List.mem_append_left _ (List.mem_of_getElem? (i := 3) rfl))))) dX7_digest_125 ?_
        refine lv_lmul hx hb dX7_digest_128 ?_
        refine lv_topl (fun v32 ev32 => ?_)
        obtain rfl : v32 = dgL S (told S) (S 0 0).toNat * 31 := by
          exact ev32
        refine lv_aload_n hx hb dX7_digest_129 rfl (lv_at hl 2 rfl) ?_
        refine g_get F hP (C := RX7) (T := TX7) (N := 20) iX7 f17 rfl 5 (by decide) (List.mem_cons_of_mem _ (List.mem_append_left _ (List.mem_append_left _ (List.mem_of_getElem? (i := 10) rfl)))) (fun _ h9 => h9) rfl dX7_digest_130 ?_
        refine lv_i2l hx hb dX7_digest_133 rfl ?_
        refine lv_topl (fun v33 ev33 => ?_)
        obtain rfl : v33 = zL (S 0 4) := by
          rw [ev33]
          exact iL64 (by omega) (by omega)
        refine lv_ladd hx hb dX7_digest_134 ?_
        refine lv_topl (fun v34 ev34 => ?_)
        obtain rfl : v34 = mxL (dgL S (told S) (S 0 0).toNat) (zL (S 0 4)) := by
          exact ev34
        refine lv_ldc2 (v := 31) hx hb hown (hts _ (List.mem_cons_of_mem _ (List.mem_append_left _ (List.mem_append_left _ (List.mem_of_getElem? (i := 3) rfl))))) dX7_digest_135 ?_
        refine lv_lmul hx hb dX7_digest_138 ?_
        refine lv_topl (fun v35 ev35 => ?_)
        obtain rfl : v35 = (mxL (dgL S (told S) (S 0 0).toNat) (zL (S 0 4))) * 31 := by
          exact ev35
        refine lv_aload_n hx hb dX7_digest_139 rfl (lv_at hl 2 rfl) ?_
        refine g_get F hP (C := RX7) (T := TX7) (N := 20) iX7 f17 rfl 7 (by decide) (List.mem_cons_of_mem _ (List.mem_append_left _ (List.mem_append_left _ (List.mem_of_getElem? (i := 11) rfl)))) (fun _ h9 => h9) rfl dX7_digest_140 ?_
        refine lv_i2l hx hb dX7_digest_143 rfl ?_
        refine lv_topl (fun v36 ev36 => ?_)
        obtain rfl : v36 = zL (S 0 1) := by
          rw [ev36]
          exact iL64 (by omega) (by omega)
        refine lv_ladd hx hb dX7_digest_144 ?_
        refine lv_topl (fun v37 ev37 => ?_)
        obtain rfl : v37 = mxL (mxL (dgL S (told S) (S 0 0).toNat) (zL (S 0 4))) (zL (S 0 1)) := by
          exact ev37
        refine lv_ldc2 (v := 31) hx hb hown (hts _ (List.mem_cons_of_mem _ (List.mem_append_left _ (List.mem_append_left _ (List.mem_of_getElem? (i := 3) rfl))))) dX7_digest_145 ?_
        refine lv_lmul hx hb dX7_digest_148 ?_
        refine lv_topl (fun v38 ev38 => ?_)
        obtain rfl : v38 = (mxL (mxL (dgL S (told S) (S 0 0).toNat) (zL (S 0 4))) (zL (S 0 1))) * 31 := by
          exact ev38
        refine lv_aload_n hx hb dX7_digest_149 rfl (lv_at hl 2 rfl) ?_
        refine g_get F hP (C := RX7) (T := TX7) (N := 20) iX7 f17 rfl 10 (by decide) (List.mem_cons_of_mem _ (List.mem_append_left _ (List.mem_append_left _ (List.mem_of_getElem? (i := 12) rfl)))) (fun _ h9 => h9) rfl dX7_digest_150 ?_
        refine lv_i2l hx hb dX7_digest_153 rfl ?_
        refine lv_topl (fun v39 ev39 => ?_)
        obtain rfl : v39 = zL (S 0 2) := by
          rw [ev39]
          exact iL64 (by omega) (by omega)
        refine lv_ladd hx hb dX7_digest_154 ?_
        refine lv_topl (fun v40 ev40 => ?_)
        obtain rfl : v40 = mxL (mxL (mxL (dgL S (told S) (S 0 0).toNat) (zL (S 0 4))) (zL (S 0 1))) (zL (S 0 2)) := by
          exact ev40
        refine lv_ldc2 (v := 31) hx hb hown (hts _ (List.mem_cons_of_mem _ (List.mem_append_left _ (List.mem_append_left _ (List.mem_of_getElem? (i := 3) rfl))))) dX7_digest_155 ?_
        refine lv_lmul hx hb dX7_digest_158 ?_
        refine lv_topl (fun v41 ev41 => ?_)
        obtain rfl : v41 = (mxL (mxL (mxL (dgL S (told S) (S 0 0).toNat) (zL (S 0 4))) (zL (S 0 1))) (zL (S 0 2))) * 31 := by
          exact ev41
        refine lv_aload_n hx hb dX7_digest_159 rfl (lv_at hl 2 rfl) ?_
        refine g_get F hP (C := RX7) (T := TX7) (N := 20) iX7 f17 rfl 13 (by decide) (List.mem_cons_of_mem _ (List.mem_append_left _ (List.mem_append_left _ (List.mem_of_getElem? (i := 13) rfl)))) (fun _ h9 => h9) rfl dX7_digest_160 ?_
        refine lv_i2l hx hb dX7_digest_163 rfl ?_
        refine lv_topl (fun v42 ev42 => ?_)
        obtain rfl : v42 = zL (S 0 3) := by
          rw [ev42]
          exact iL64 (by omega) (by omega)
        refine lv_ladd hx hb dX7_digest_164 ?_
        refine lv_topl (fun v43 ev43 => ?_)
        obtain rfl : v43 = mxL (mxL (mxL (mxL (dgL S (told S) (S 0 0).toNat) (zL (S 0 4))) (zL (S 0 1))) (zL (S 0 2))) (zL (S 0 3)) := by
          exact ev43
        refine lv_lstore_n (lv' := [(1, .long (mxL (mxL (mxL (mxL (dgL S (told S) (S 0 0).toNat) (zL (S 0 4))) (zL (S 0 1))) (zL (S 0 2))) (zL (S 0 3)))), (3, .int (nI (S 0 0).toNat)), (0, .ref (md 0))]) hx hb dX7_digest_165 rfl hl (by decide) rfl (fun ls hl => ?_)
        refine lv_lload_n hx hb dX7_digest_166 rfl (lv_at hl 0 rfl) ?_
        refine lv_ldc2 (v := 31) hx hb hown (hts _ (List.mem_cons_of_mem _ (List.mem_append_left _ (List.mem_append_left _ (List.mem_of_getElem? (i := 3) rfl))))) dX7_digest_167 ?_
        refine lv_lmul hx hb dX7_digest_170 ?_
        refine lv_topl (fun v44 ev44 => ?_)
        obtain rfl : v44 = (mxL (mxL (mxL (mxL (dgL S (told S) (S 0 0).toNat) (zL (S 0 4))) (zL (S 0 1))) (zL (S 0 2))) (zL (S 0 3))) * 31 := by
          exact ev44
        refine lv_aload_n hx hb dX7_digest_171 rfl (lv_at hl 2 rfl) ?_
        refine lv_iconst (v := 0) hx hb dX7_digest_172 (by decide) ?_
        rw [show (.int 0 : Value) = .int (g_b false) from rfl]
        have HMb173 : modW G w15 md S 0 tp2 bt2 (up1 Fm 11 f3) L3 := ⟨f17, f18, f19, f20, f21, f22, f23, f24, f25, f26, f27, f28⟩
        refine g_Vi (As := [.int (g_b false)]) (rest := [.long ((mxL (mxL (mxL (mxL (dgL S (told S) (S 0 0).toNat) (zL (S 0 4))) (zL (S 0 1))) (zL (S 0 2))) (zL (S 0 3))) * 31)]) F hP hS (k_X7_brokenOnes l A G w15 md S 0 tp2 bt2 (up1 Fm 11 f3) L3 (told S) false HMb173 Hj HF Hi Ht HT) (cwV 1 hts gX7_digest_X7_brokenOnes rfl rfl rfl cd_X7_brokenOnes ⟨by rw [hR]; exact Nat.le_of_ble_eq_true rfl, by rw [hR]; exact Nat.le_of_ble_eq_true rfl⟩) f17 rfl rfl rfl hl.1 (Nat.le_of_ble_eq_true rfl) dX7_digest_173 ⟨by rw [hR]; exact Nat.le_of_ble_eq_true rfl, by rw [hR]; exact Nat.le_of_ble_eq_true rfl⟩ rfl (fun r45 w46 H locs h47 hP hS => ?_)
        obtain ⟨erw46, tp173, bt173, eww46⟩ := h47
        rw [erw46]
        have f48 : w46 (md 1) = some (.inl (G.2.1 0, 10, .inl (Fm 1))) := by rw [eww46]; exact g_up_f f18 ((fun q => absurd (Hj 1 0 (by decide) (by decide) q) (by decide)))
        have f49 : w46 (md 2) = some (.inl (G.2.1 0, 10, .inl (Fm 2))) := by rw [eww46]; exact g_up_f f19 ((fun q => absurd (Hj 2 0 (by decide) (by decide) q) (by decide)))
        have f50 : w46 (md 3) = some (.inl (G.2.1 2, 10, .inl (Fm 3))) := by rw [eww46]; exact g_up_f f20 ((fun q => absurd (Hj 3 0 (by decide) (by decide) q) (by decide)))
        have f51 : w46 (md 4) = some (.inl (G.2.1 0, 64, .inl (Fm 4))) := by rw [eww46]; exact g_up_f f21 ((fun q => absurd (Hj 4 0 (by decide) (by decide) q) (by decide)))
        have f52 : w46 (md 5) = some (.inl (G.2.1 2, 16, .inl (Fm 5))) := by rw [eww46]; exact g_up_f f22 ((fun q => absurd (Hj 5 0 (by decide) (by decide) q) (by decide)))
        have f53 : w46 (md 6) = some (.inl (G.2.1 0, 16, .inl (Fm 6))) := by rw [eww46]; exact g_up_f f23 ((fun q => absurd (Hj 6 0 (by decide) (by decide) q) (by decide)))
        have f54 : w46 (md 7) = some (.inl (G.2.1 0, 16, .inl (Fm 7))) := by rw [eww46]; exact g_up_f f24 ((fun q => absurd (Hj 7 0 (by decide) (by decide) q) (by decide)))
        have f55 : w46 (md 8) = some (.inl (G.2.1 0, 20, .inl (Fm 8))) := by rw [eww46]; exact g_up_f f25 ((fun q => absurd (Hj 8 0 (by decide) (by decide) q) (by decide)))
        have f56 : w46 (md 9) = some (.inl (G.2.1 1, 10, .inr (.inl (L3 0)))) := by rw [eww46]; exact g_up_f f26 ((fun q => absurd (Hj 9 0 (by decide) (by decide) q) (by decide)))
        have f57 : w46 (md 10) = some (.inl (G.2.1 1, 10, .inr (.inl (L3 1)))) := by rw [eww46]; exact g_up_f f27 ((fun q => absurd (Hj 10 0 (by decide) (by decide) q) (by decide)))
        have f58 : w46 (md 11) = some (.inl (G.2.1 0, 10, .inl f3)) := by rw [eww46]; exact g_up_f f28 ((fun q => absurd (Hj 11 0 (by decide) (by decide) q) (by decide)))
        have f59 : w46 (md 0) = some (.inr (8, [.int 0, .int (iL (S 0 0)), .ref (md 1), .ref (md 2), .ref (md 3), .int (iL (S 0 4)), .int (iL (S 0 5)), .int (iL (S 0 1)), .ref (md 4), .ref (md 5), .int (iL (S 0 2)), .ref (md 6), .ref (md 7), .int (iL (S 0 3)), .ref (md 8), .ref (md 9), .ref (md 10), .ref (md 11), .long tp173, .long bt173])) := by rw [eww46]; exact g_up_s _ _ _
        refine lv_i2l hx hb dX7_digest_176 rfl ?_
        refine lv_topl (fun v60 ev60 => ?_)
        obtain rfl : v60 = (vlBroken S (told S) false).toInt64 := by
          exact ev60
        refine lv_ladd hx hb dX7_digest_177 ?_
        refine lv_topl (fun v61 ev61 => ?_)
        obtain rfl : v61 = mxL (mxL (mxL (mxL (mxL (dgL S (told S) (S 0 0).toNat) (zL (S 0 4))) (zL (S 0 1))) (zL (S 0 2))) (zL (S 0 3))) ((vlBroken S (told S) false).toInt64) := by
          exact ev61
        refine lv_ldc2 (v := 31) hx hb hown (hts _ (List.mem_cons_of_mem _ (List.mem_append_left _ (List.mem_append_left _ (List.mem_of_getElem? (i := 3) rfl))))) dX7_digest_178 ?_
        refine lv_lmul hx hb dX7_digest_181 ?_
        refine lv_topl (fun v62 ev62 => ?_)
        obtain rfl : v62 = (mxL (mxL (mxL (mxL (mxL (dgL S (told S) (S 0 0).toNat) (zL (S 0 4))) (zL (S 0 1))) (zL (S 0 2))) (zL (S 0 3))) ((vlBroken S (told S) false).toInt64)) * 31 := by
          exact ev62
        refine lv_aload_n hx hb dX7_digest_182 rfl (lv_at hl 2 rfl) ?_
        refine lv_iconst (v := 1) hx hb dX7_digest_183 (by decide) ?_
        rw [show (.int 1 : Value) = .int (g_b true) from rfl]
        have HMb184 : modW G w46 md S 0 tp173 bt173 (up1 Fm 11 f3) L3 := ⟨f59, f48, f49, f50, f51, f52, f53, f54, f55, f56, f57, f58⟩
        refine g_Vi (As := [.int (g_b true)]) (rest := [.long ((mxL (mxL (mxL (mxL (mxL (dgL S (told S) (S 0 0).toNat) (zL (S 0 4))) (zL (S 0 1))) (zL (S 0 2))) (zL (S 0 3))) ((vlBroken S (told S) false).toInt64)) * 31)]) F hP hS (k_X7_brokenOnes l A G w46 md S 0 tp173 bt173 (up1 Fm 11 f3) L3 (told S) true HMb184 Hj HF Hi Ht HT) (cwV 1 hts gX7_digest_X7_brokenOnes rfl rfl rfl cd_X7_brokenOnes ⟨by rw [hR]; exact Nat.le_of_ble_eq_true rfl, by rw [hR]; exact Nat.le_of_ble_eq_true rfl⟩) f59 rfl rfl rfl hl.1 (Nat.le_of_ble_eq_true rfl) dX7_digest_184 ⟨by rw [hR]; exact Nat.le_of_ble_eq_true rfl, by rw [hR]; exact Nat.le_of_ble_eq_true rfl⟩ rfl (fun r63 w64 H locs h65 hP hS => ?_)
        obtain ⟨erw64, tp184, bt184, eww64⟩ := h65
        rw [erw64]
        have f66 : w64 (md 1) = some (.inl (G.2.1 0, 10, .inl (Fm 1))) := by rw [eww64]; exact g_up_f f48 ((fun q => absurd (Hj 1 0 (by decide) (by decide) q) (by decide)))
        have f67 : w64 (md 2) = some (.inl (G.2.1 0, 10, .inl (Fm 2))) := by rw [eww64]; exact g_up_f f49 ((fun q => absurd (Hj 2 0 (by decide) (by decide) q) (by decide)))
        have f68 : w64 (md 3) = some (.inl (G.2.1 2, 10, .inl (Fm 3))) := by rw [eww64]; exact g_up_f f50 ((fun q => absurd (Hj 3 0 (by decide) (by decide) q) (by decide)))
        have f69 : w64 (md 4) = some (.inl (G.2.1 0, 64, .inl (Fm 4))) := by rw [eww64]; exact g_up_f f51 ((fun q => absurd (Hj 4 0 (by decide) (by decide) q) (by decide)))
        have f70 : w64 (md 5) = some (.inl (G.2.1 2, 16, .inl (Fm 5))) := by rw [eww64]; exact g_up_f f52 ((fun q => absurd (Hj 5 0 (by decide) (by decide) q) (by decide)))
        have f71 : w64 (md 6) = some (.inl (G.2.1 0, 16, .inl (Fm 6))) := by rw [eww64]; exact g_up_f f53 ((fun q => absurd (Hj 6 0 (by decide) (by decide) q) (by decide)))
        have f72 : w64 (md 7) = some (.inl (G.2.1 0, 16, .inl (Fm 7))) := by rw [eww64]; exact g_up_f f54 ((fun q => absurd (Hj 7 0 (by decide) (by decide) q) (by decide)))
        have f73 : w64 (md 8) = some (.inl (G.2.1 0, 20, .inl (Fm 8))) := by rw [eww64]; exact g_up_f f55 ((fun q => absurd (Hj 8 0 (by decide) (by decide) q) (by decide)))
        have f74 : w64 (md 9) = some (.inl (G.2.1 1, 10, .inr (.inl (L3 0)))) := by rw [eww64]; exact g_up_f f56 ((fun q => absurd (Hj 9 0 (by decide) (by decide) q) (by decide)))
        have f75 : w64 (md 10) = some (.inl (G.2.1 1, 10, .inr (.inl (L3 1)))) := by rw [eww64]; exact g_up_f f57 ((fun q => absurd (Hj 10 0 (by decide) (by decide) q) (by decide)))
        have f76 : w64 (md 11) = some (.inl (G.2.1 0, 10, .inl f3)) := by rw [eww64]; exact g_up_f f58 ((fun q => absurd (Hj 11 0 (by decide) (by decide) q) (by decide)))
        have f77 : w64 (md 0) = some (.inr (8, [.int 0, .int (iL (S 0 0)), .ref (md 1), .ref (md 2), .ref (md 3), .int (iL (S 0 4)), .int (iL (S 0 5)), .int (iL (S 0 1)), .ref (md 4), .ref (md 5), .int (iL (S 0 2)), .ref (md 6), .ref (md 7), .int (iL (S 0 3)), .ref (md 8), .ref (md 9), .ref (md 10), .ref (md 11), .long tp184, .long bt184])) := by rw [eww64]; exact g_up_s _ _ _
        refine lv_i2l hx hb dX7_digest_187 rfl ?_
        refine lv_topl (fun v78 ev78 => ?_)
        obtain rfl : v78 = (vlBroken S (told S) true).toInt64 := by
          exact ev78
        refine lv_ladd hx hb dX7_digest_188 ?_
        refine lv_topl (fun v79 ev79 => ?_)
        obtain rfl : v79 = mxL (mxL (mxL (mxL (mxL (mxL (dgL S (told S) (S 0 0).toNat) (zL (S 0 4))) (zL (S 0 1))) (zL (S 0 2))) (zL (S 0 3))) ((vlBroken S (told S) false).toInt64)) ((vlBroken S (told S) true).toInt64) := by
          exact ev79
        refine lv_ldc2 (v := 31) hx hb hown (hts _ (List.mem_cons_of_mem _ (List.mem_append_left _ (List.mem_append_left _ (List.mem_of_getElem? (i := 3) rfl))))) dX7_digest_189 ?_
        refine lv_lmul hx hb dX7_digest_192 ?_
        refine lv_topl (fun v80 ev80 => ?_)
        obtain rfl : v80 = (mxL (mxL (mxL (mxL (mxL (mxL (dgL S (told S) (S 0 0).toNat) (zL (S 0 4))) (zL (S 0 1))) (zL (S 0 2))) (zL (S 0 3))) ((vlBroken S (told S) false).toInt64)) ((vlBroken S (told S) true).toInt64)) * 31 := by
          exact ev80
        refine lv_aload_n hx hb dX7_digest_193 rfl (lv_at hl 2 rfl) ?_
        refine g_Vi (As := []) (rest := [.long ((mxL (mxL (mxL (mxL (mxL (mxL (dgL S (told S) (S 0 0).toNat) (zL (S 0 4))) (zL (S 0 1))) (zL (S 0 2))) (zL (S 0 3))) ((vlBroken S (told S) false).toInt64)) ((vlBroken S (told S) true).toInt64)) * 31)]) F hP hS (k_X7_misfitting l A G w64 md S _ _ _ (up1 Fm 11 f3) L3 f77 f66 f67 f69 f70 f71 f72 HF Hi) (cwV 0 hts gX7_digest_X7_misfitting rfl rfl rfl cd_X7_misfitting ⟨by rw [hR]; exact Nat.le_of_ble_eq_true rfl, by rw [hR]; exact Nat.le_of_ble_eq_true rfl⟩) f77 rfl rfl rfl hl.1 (Nat.le_of_ble_eq_true rfl) dX7_digest_194 ⟨by rw [hR]; exact Nat.le_of_ble_eq_true rfl, by rw [hR]; exact Nat.le_of_ble_eq_true rfl⟩ rfl (fun r81 w82 H locs h83 hP hS => ?_)
        have hr81 := h83.1
        rw [h83.2] at hP
        rw [hr81]
        refine lv_i2l hx hb dX7_digest_197 rfl ?_
        refine lv_topl (fun v84 ev84 => ?_)
        obtain rfl : v84 = (vlMisfits S).toInt64 := by
          exact ev84
        refine lv_ladd hx hb dX7_digest_198 ?_
        refine lv_topl (fun v85 ev85 => ?_)
        obtain rfl : v85 = mxL (mxL (mxL (mxL (mxL (mxL (mxL (dgL S (told S) (S 0 0).toNat) (zL (S 0 4))) (zL (S 0 1))) (zL (S 0 2))) (zL (S 0 3))) ((vlBroken S (told S) false).toInt64)) ((vlBroken S (told S) true).toInt64)) ((vlMisfits S).toInt64) := by
          exact ev85
        rw [hQ]
        refine g_lret F hP hS hlocks hr dX7_digest_199 (by first | exact Nat.le_of_ble_eq_true rfl | omega) (by first | exact Nat.le_of_ble_eq_true rfl | omega) ?_
        exact ⟨rfl, ⟨mFr_tr (mFr_tr (mFr_tr (mFr_tr (mFr_rf _ _) (mFr_se (i := 0) (by decide) ew1)) hfr2) (mFr_se (i := 0) (by decide) eww46)) (mFr_se (i := 0) (by decide) eww64), _, _, (up1 Fm 11 f3), L3, ⟨f77, f66, f67, f68, f69, f70, f71, f72, f73, f74, f75, f76⟩, HF⟩⟩
      · have hk : (k : Int) < S 0 0 := Int.not_le.mp (fun q => c31 ((iL_nle (z := S 0 0) (k := k) (by omega) (by omega) (by omega)).mpr q))
        have sk := Hi.2.1 k hk
        have tk := Ht.1 k hk
        refine lv_lload_n hx hb dX7_digest_29 rfl (lv_at hl 1 rfl) ?_
        refine lv_ldc2 (v := 31) hx hb hown (hts _ (List.mem_cons_of_mem _ (List.mem_append_left _ (List.mem_append_left _ (List.mem_of_getElem? (i := 3) rfl))))) dX7_digest_30 ?_
        refine lv_lmul hx hb dX7_digest_33 ?_
        refine lv_topl (fun v86 ev86 => ?_)
        obtain rfl : v86 = dgL S (told S) k * 31 := by
          exact ev86
        refine lv_aload_n hx hb dX7_digest_34 rfl (lv_at hl 2 rfl) ?_
        refine g_get F hP (C := RX7) (T := TX7) (N := 20) iX7 f17 rfl 2 (by decide) (List.mem_cons_of_mem _ (List.mem_append_left _ (List.mem_append_left _ (List.mem_of_getElem? (i := 4) rfl)))) (fun _ h9 => h9) rfl dX7_digest_35 ?_
        refine lv_iload_n hx hb dX7_digest_38 rfl (lv_at hl 0 rfl) ?_
        refine g_iald F hP f18 (vp_in_nI (by omega) (by decide)) dX7_digest_39 ?_
        rw [show (.int ((Fm 1) (nI k : Int32).toNatClampNeg) : Value) = .int (iL (S 1 k)) from by rw [nI_clamp (by omega)]; exact congrArg Value.int (Hf.1 k hk).1]
        refine lv_i2l hx hb dX7_digest_40 rfl ?_
        refine lv_topl (fun v87 ev87 => ?_)
        obtain rfl : v87 = zL (S 1 k) := by
          rw [ev87]
          exact iL64 (by omega) (by omega)
        refine lv_ladd hx hb dX7_digest_41 ?_
        refine lv_topl (fun v88 ev88 => ?_)
        obtain rfl : v88 = mxL (dgL S (told S) k) (zL (S 1 k)) := by
          exact ev88
        refine lv_ldc2 (v := 31) hx hb hown (hts _ (List.mem_cons_of_mem _ (List.mem_append_left _ (List.mem_append_left _ (List.mem_of_getElem? (i := 3) rfl))))) dX7_digest_42 ?_
        refine lv_lmul hx hb dX7_digest_45 ?_
        refine lv_topl (fun v89 ev89 => ?_)
        obtain rfl : v89 = (mxL (dgL S (told S) k) (zL (S 1 k))) * 31 := by
          exact ev89
        refine lv_aload_n hx hb dX7_digest_46 rfl (lv_at hl 2 rfl) ?_
        refine g_get F hP (C := RX7) (T := TX7) (N := 20) iX7 f17 rfl 3 (by decide) (List.mem_cons_of_mem _ (List.mem_append_left _ (List.mem_append_left _ (List.mem_of_getElem? (i := 5) rfl)))) (fun _ h9 => h9) rfl dX7_digest_47 ?_
        refine lv_iload_n hx hb dX7_digest_50 rfl (lv_at hl 0 rfl) ?_
        refine g_iald F hP f19 (vp_in_nI (by omega) (by decide)) dX7_digest_51 ?_
        rw [show (.int ((Fm 2) (nI k : Int32).toNatClampNeg) : Value) = .int (iL (S 2 k)) from by rw [nI_clamp (by omega)]; exact congrArg Value.int (Hf.1 k hk).2.1]
        refine lv_i2l hx hb dX7_digest_52 rfl ?_
        refine lv_topl (fun v90 ev90 => ?_)
        obtain rfl : v90 = zL (S 2 k) := by
          rw [ev90]
          exact iL64 (by omega) (by omega)
        refine lv_ladd hx hb dX7_digest_53 ?_
        refine lv_topl (fun v91 ev91 => ?_)
        obtain rfl : v91 = mxL (mxL (dgL S (told S) k) (zL (S 1 k))) (zL (S 2 k)) := by
          exact ev91
        refine lv_ldc2 (v := 31) hx hb hown (hts _ (List.mem_cons_of_mem _ (List.mem_append_left _ (List.mem_append_left _ (List.mem_of_getElem? (i := 3) rfl))))) dX7_digest_54 ?_
        refine lv_lmul hx hb dX7_digest_57 ?_
        refine lv_topl (fun v92 ev92 => ?_)
        obtain rfl : v92 = (mxL (mxL (dgL S (told S) k) (zL (S 1 k))) (zL (S 2 k))) * 31 := by
          exact ev92
        refine lv_aload_n hx hb dX7_digest_58 rfl (lv_at hl 2 rfl) ?_
        refine g_get F hP (C := RX7) (T := TX7) (N := 20) iX7 f17 rfl 4 (by decide) (List.mem_cons_of_mem _ (List.mem_append_left _ (List.mem_append_left _ (List.mem_of_getElem? (i := 6) rfl)))) (fun _ h9 => h9) rfl dX7_digest_59 ?_
        refine lv_iload_n hx hb dX7_digest_62 rfl (lv_at hl 0 rfl) ?_
        refine g_zald F hP f20 (vp_in_nI (by omega) (by decide)) dX7_digest_63 ?_
        rw [show (.int ((Fm 3) (nI k : Int32).toNatClampNeg) : Value) = .int (g_b (decide (S 3 k = 1))) from by rw [nI_clamp (by omega), ← iL_b sk.2.2.2.2]; exact congrArg Value.int (Hf.1 k hk).2.2]
        refine lv_if_eq (tgt := 71) hx hb dX7_digest_64 (by decide) (fun c93 => ?_) (fun c93 => ?_)
        · have yc93 := of_decide_eq_false (g_b0.mp c93)
          have zc93 : (0 : Int64) = zL (S 3 k) := by rw [show S 3 k = 0 from by omega]; rfl
          refine lv_lconst (v := 0) hx hb dX7_digest_71 (by decide) ?_
          rw [show (.long 0 : Value) = .long (zL (S 3 k)) from by rw [← zc93]]
          refine lv_ladd hx hb dX7_digest_72 ?_
          refine lv_topl (fun v94 ev94 => ?_)
          obtain rfl : v94 = mxL (mxL (mxL (dgL S (told S) k) (zL (S 1 k))) (zL (S 2 k))) (zL (S 3 k)) := by
            exact ev94
          refine lv_ldc2 (v := 31) hx hb hown (hts _ (List.mem_cons_of_mem _ (List.mem_append_left _ (List.mem_append_left _ (List.mem_of_getElem? (i := 3) rfl))))) dX7_digest_73 ?_
          refine lv_lmul hx hb dX7_digest_76 ?_
          refine lv_topl (fun v95 ev95 => ?_)
          obtain rfl : v95 = (mxL (mxL (mxL (dgL S (told S) k) (zL (S 1 k))) (zL (S 2 k))) (zL (S 3 k))) * 31 := by
            exact ev95
          refine lv_aload_n hx hb dX7_digest_77 rfl (lv_at hl 2 rfl) ?_
          refine g_get F hP (C := RX7) (T := TX7) (N := 20) iX7 f17 rfl 17 (by decide) (List.mem_cons_of_mem _ (List.mem_append_left _ (List.mem_append_left _ (List.mem_of_getElem? (i := 7) rfl)))) (fun _ h9 => h9) rfl dX7_digest_78 ?_
          refine lv_iload_n hx hb dX7_digest_81 rfl (lv_at hl 0 rfl) ?_
          refine g_iald F hP f28 (vp_in_nI (by omega) (by decide)) dX7_digest_82 ?_
          rw [show (.int (f3 (nI k : Int32).toNatClampNeg) : Value) = .int (iL (told S 2 k)) from by rw [nI_clamp (by omega)]; exact congrArg Value.int (HT k hk).2.2]
          refine lv_i2l hx hb dX7_digest_83 rfl ?_
          refine lv_topl (fun v96 ev96 => ?_)
          obtain rfl : v96 = zL (told S 2 k) := by
            rw [ev96]
            exact iL64 (by omega) (by omega)
          refine lv_ladd hx hb dX7_digest_84 ?_
          refine lv_topl (fun v97 ev97 => ?_)
          obtain rfl : v97 = mxL (mxL (mxL (mxL (dgL S (told S) k) (zL (S 1 k))) (zL (S 2 k))) (zL (S 3 k))) (zL (told S 2 k)) := by
            exact ev97
          refine lv_lstore_n (lv' := [(1, .long (mxL (mxL (mxL (mxL (dgL S (told S) k) (zL (S 1 k))) (zL (S 2 k))) (zL (S 3 k))) (zL (told S 2 k)))), (3, .int (nI k)), (0, .ref (md 0))]) hx hb dX7_digest_85 rfl hl (by decide) rfl (fun ls hl => ?_)
          refine lv_aload_n hx hb dX7_digest_86 rfl (lv_at hl 2 rfl) ?_
          refine lv_iload_n hx hb dX7_digest_87 rfl (lv_at hl 1 rfl) ?_
          refine g_Vi (As := [.int (nI k)]) (rest := []) F hP hS (k_X7_hasSpeed l A G w15 md S _ _ _ (up1 Fm 11 f3) L3 k (zB (told S) k) f17 f27 (by have := hk; omega) (zB_z HT hk) (zB_b Ht hk)) (cwV 1 hts gX7_digest_X7_hasSpeed rfl rfl rfl cd_X7_hasSpeed ⟨by rw [hR]; exact Nat.le_of_ble_eq_true rfl, by rw [hR]; exact Nat.le_of_ble_eq_true rfl⟩) f17 rfl rfl rfl hl.1 (Nat.le_of_ble_eq_true rfl) dX7_digest_88 ⟨by rw [hR]; exact Nat.le_of_ble_eq_true rfl, by rw [hR]; exact Nat.le_of_ble_eq_true rfl⟩ rfl (fun r98 w99 H locs h100 hP hS => ?_)
          have hr98 := h100.1
          rw [h100.2] at hP
          rw [hr98]
          rw [zB_d Ht hk]
          refine lv_if_eq (tgt := 118) hx hb dX7_digest_91 (by decide) (fun c101 => ?_) (fun c101 => ?_)
          · have yc101 := of_decide_eq_false (g_b0.mp c101)
            obtain ⟨i102, ei102⟩ : ∃ y : Int32, y = nI k + (1) := ⟨_, rfl⟩
            refine lv_iinc (v := i102) (lv' := [(3, .int i102), (1, .long (mxL (mxL (mxL (mxL (dgL S (told S) k) (zL (S 1 k))) (zL (S 2 k))) (zL (S 3 k))) (zL (told S 2 k)))), (0, .ref (md 0))]) hx hb dX7_digest_118 hl (k := 1) rfl (by rw [ei102]; rfl) (by decide) rfl (fun ls hl => ?_)
            obtain rfl : i102 = nI (k + 1) := by
              rw [ei102]
              exact nI_1 k
            refine lv_goto (tgt := 21) hx hb dX7_digest_121 (by decide) ?_
            have es9 : dgL S (told S) (k + 1) = mxL (mxL (mxL (mxL (dgL S (told S) k) (zL (S 1 k))) (zL (S 2 k))) (zL (S 3 k))) (zL (told S 2 k)) := by
              show mxS S (told S) k (dgL S (told S) k) = _
              unfold mxS
              rw [if_neg yc101]
            rw [← es9] at hl
            exact ih_L21 (k + 1) H locs ls (by omega) (by omega) hP hS (lv_sub hl [0, 1, 2] rfl)
          · have yc101 := of_decide_eq_true (g_b1.mp c101)
            refine lv_lload_n hx hb dX7_digest_94 rfl (lv_at hl 0 rfl) ?_
            refine lv_ldc2 (v := 31) hx hb hown (hts _ (List.mem_cons_of_mem _ (List.mem_append_left _ (List.mem_append_left _ (List.mem_of_getElem? (i := 3) rfl))))) dX7_digest_95 ?_
            refine lv_lmul hx hb dX7_digest_98 ?_
            refine lv_topl (fun v103 ev103 => ?_)
            obtain rfl : v103 = (mxL (mxL (mxL (mxL (dgL S (told S) k) (zL (S 1 k))) (zL (S 2 k))) (zL (S 3 k))) (zL (told S 2 k))) * 31 := by
              exact ev103
            refine lv_aload_n hx hb dX7_digest_99 rfl (lv_at hl 2 rfl) ?_
            refine g_get F hP (C := RX7) (T := TX7) (N := 20) iX7 f17 rfl 15 (by decide) (List.mem_cons_of_mem _ (List.mem_append_left _ (List.mem_append_left _ (List.mem_of_getElem? (i := 8) rfl)))) (fun _ h9 => h9) rfl dX7_digest_100 ?_
            refine lv_iload_n hx hb dX7_digest_103 rfl (lv_at hl 1 rfl) ?_
            refine g_lald F hP f26 (vp_in_nI (by omega) (by decide)) dX7_digest_104 ?_
            rw [show (.long ((L3 0) (nI k : Int32).toNatClampNeg) : Value) = .long (zL (told S 0 k)) from by rw [nI_clamp (by omega), (HT k hk).1]]
            refine lv_ladd hx hb dX7_digest_105 ?_
            refine lv_topl (fun v104 ev104 => ?_)
            obtain rfl : v104 = mxL (mxL (mxL (mxL (mxL (dgL S (told S) k) (zL (S 1 k))) (zL (S 2 k))) (zL (S 3 k))) (zL (told S 2 k))) (zL (told S 0 k)) := by
              exact ev104
            refine lv_ldc2 (v := 31) hx hb hown (hts _ (List.mem_cons_of_mem _ (List.mem_append_left _ (List.mem_append_left _ (List.mem_of_getElem? (i := 3) rfl))))) dX7_digest_106 ?_
            refine lv_lmul hx hb dX7_digest_109 ?_
            refine lv_topl (fun v105 ev105 => ?_)
            obtain rfl : v105 = (mxL (mxL (mxL (mxL (mxL (dgL S (told S) k) (zL (S 1 k))) (zL (S 2 k))) (zL (S 3 k))) (zL (told S 2 k))) (zL (told S 0 k))) * 31 := by
              exact ev105
            refine lv_aload_n hx hb dX7_digest_110 rfl (lv_at hl 2 rfl) ?_
            refine g_get F hP (C := RX7) (T := TX7) (N := 20) iX7 f17 rfl 16 (by decide) (List.mem_cons_of_mem _ (List.mem_append_left _ (List.mem_append_left _ (List.mem_of_getElem? (i := 9) rfl)))) (fun _ h9 => h9) rfl dX7_digest_111 ?_
            refine lv_iload_n hx hb dX7_digest_114 rfl (lv_at hl 1 rfl) ?_
            refine g_lald F hP f27 (vp_in_nI (by omega) (by decide)) dX7_digest_115 ?_
            rw [show (.long ((L3 1) (nI k : Int32).toNatClampNeg) : Value) = .long (zL (told S 1 k)) from by rw [nI_clamp (by omega), (HT k hk).2.1, if_neg yc101]]
            refine lv_ladd hx hb dX7_digest_116 ?_
            refine lv_topl (fun v106 ev106 => ?_)
            obtain rfl : v106 = mxL (mxL (mxL (mxL (mxL (mxL (dgL S (told S) k) (zL (S 1 k))) (zL (S 2 k))) (zL (S 3 k))) (zL (told S 2 k))) (zL (told S 0 k))) (zL (told S 1 k)) := by
              exact ev106
            refine lv_lstore_n (lv' := [(1, .long (mxL (mxL (mxL (mxL (mxL (mxL (dgL S (told S) k) (zL (S 1 k))) (zL (S 2 k))) (zL (S 3 k))) (zL (told S 2 k))) (zL (told S 0 k))) (zL (told S 1 k)))), (3, .int (nI k)), (0, .ref (md 0))]) hx hb dX7_digest_117 rfl hl (by decide) rfl (fun ls hl => ?_)
            obtain ⟨i107, ei107⟩ : ∃ y : Int32, y = nI k + (1) := ⟨_, rfl⟩
            refine lv_iinc (v := i107) (lv' := [(3, .int i107), (1, .long (mxL (mxL (mxL (mxL (mxL (mxL (dgL S (told S) k) (zL (S 1 k))) (zL (S 2 k))) (zL (S 3 k))) (zL (told S 2 k))) (zL (told S 0 k))) (zL (told S 1 k)))), (0, .ref (md 0))]) hx hb dX7_digest_118 hl (k := 1) rfl (by rw [ei107]; rfl) (by decide) rfl (fun ls hl => ?_)
            obtain rfl : i107 = nI (k + 1) := by
              rw [ei107]
              exact nI_1 k
            refine lv_goto (tgt := 21) hx hb dX7_digest_121 (by decide) ?_
            have es9 : dgL S (told S) (k + 1) = mxL (mxL (mxL (mxL (mxL (mxL (dgL S (told S) k) (zL (S 1 k))) (zL (S 2 k))) (zL (S 3 k))) (zL (told S 2 k))) (zL (told S 0 k))) (zL (told S 1 k)) := by
              show mxS S (told S) k (dgL S (told S) k) = _
              unfold mxS
              rw [if_pos yc101]
            rw [← es9] at hl
            exact ih_L21 (k + 1) H locs ls (by omega) (by omega) hP hS (lv_sub hl [0, 1, 2] rfl)
        · have yc93 := of_decide_eq_true (g_b1.mp c93)
          have zc93 : (1 : Int64) = zL (S 3 k) := by rw [yc93]; rfl
          refine lv_lconst (v := 1) hx hb dX7_digest_67 (by decide) ?_
          refine lv_goto (tgt := 72) hx hb dX7_digest_68 (by decide) ?_
          rw [show (.long 1 : Value) = .long (zL (S 3 k)) from by rw [← zc93]]
          refine lv_ladd hx hb dX7_digest_72 ?_
          refine lv_topl (fun v108 ev108 => ?_)
          obtain rfl : v108 = mxL (mxL (mxL (dgL S (told S) k) (zL (S 1 k))) (zL (S 2 k))) (zL (S 3 k)) := by
            exact ev108
          refine lv_ldc2 (v := 31) hx hb hown (hts _ (List.mem_cons_of_mem _ (List.mem_append_left _ (List.mem_append_left _ (List.mem_of_getElem? (i := 3) rfl))))) dX7_digest_73 ?_
          refine lv_lmul hx hb dX7_digest_76 ?_
          refine lv_topl (fun v109 ev109 => ?_)
          obtain rfl : v109 = (mxL (mxL (mxL (dgL S (told S) k) (zL (S 1 k))) (zL (S 2 k))) (zL (S 3 k))) * 31 := by
            exact ev109
          refine lv_aload_n hx hb dX7_digest_77 rfl (lv_at hl 2 rfl) ?_
          refine g_get F hP (C := RX7) (T := TX7) (N := 20) iX7 f17 rfl 17 (by decide) (List.mem_cons_of_mem _ (List.mem_append_left _ (List.mem_append_left _ (List.mem_of_getElem? (i := 7) rfl)))) (fun _ h9 => h9) rfl dX7_digest_78 ?_
          refine lv_iload_n hx hb dX7_digest_81 rfl (lv_at hl 0 rfl) ?_
          refine g_iald F hP f28 (vp_in_nI (by omega) (by decide)) dX7_digest_82 ?_
          rw [show (.int (f3 (nI k : Int32).toNatClampNeg) : Value) = .int (iL (told S 2 k)) from by rw [nI_clamp (by omega)]; exact congrArg Value.int (HT k hk).2.2]
          refine lv_i2l hx hb dX7_digest_83 rfl ?_
          refine lv_topl (fun v110 ev110 => ?_)
          obtain rfl : v110 = zL (told S 2 k) := by
            rw [ev110]
            exact iL64 (by omega) (by omega)
          refine lv_ladd hx hb dX7_digest_84 ?_
          refine lv_topl (fun v111 ev111 => ?_)
          obtain rfl : v111 = mxL (mxL (mxL (mxL (dgL S (told S) k) (zL (S 1 k))) (zL (S 2 k))) (zL (S 3 k))) (zL (told S 2 k)) := by
            exact ev111
          refine lv_lstore_n (lv' := [(1, .long (mxL (mxL (mxL (mxL (dgL S (told S) k) (zL (S 1 k))) (zL (S 2 k))) (zL (S 3 k))) (zL (told S 2 k)))), (3, .int (nI k)), (0, .ref (md 0))]) hx hb dX7_digest_85 rfl hl (by decide) rfl (fun ls hl => ?_)
          refine lv_aload_n hx hb dX7_digest_86 rfl (lv_at hl 2 rfl) ?_
          refine lv_iload_n hx hb dX7_digest_87 rfl (lv_at hl 1 rfl) ?_
          refine g_Vi (As := [.int (nI k)]) (rest := []) F hP hS (k_X7_hasSpeed l A G w15 md S _ _ _ (up1 Fm 11 f3) L3 k (zB (told S) k) f17 f27 (by have := hk; omega) (zB_z HT hk) (zB_b Ht hk)) (cwV 1 hts gX7_digest_X7_hasSpeed rfl rfl rfl cd_X7_hasSpeed ⟨by rw [hR]; exact Nat.le_of_ble_eq_true rfl, by rw [hR]; exact Nat.le_of_ble_eq_true rfl⟩) f17 rfl rfl rfl hl.1 (Nat.le_of_ble_eq_true rfl) dX7_digest_88 ⟨by rw [hR]; exact Nat.le_of_ble_eq_true rfl, by rw [hR]; exact Nat.le_of_ble_eq_true rfl⟩ rfl (fun r112 w113 H locs h114 hP hS => ?_)
          have hr112 := h114.1
          rw [h114.2] at hP
          rw [hr112]
          rw [zB_d Ht hk]
          refine lv_if_eq (tgt := 118) hx hb dX7_digest_91 (by decide) (fun c115 => ?_) (fun c115 => ?_)
          · have yc115 := of_decide_eq_false (g_b0.mp c115)
            obtain ⟨i116, ei116⟩ : ∃ y : Int32, y = nI k + (1) := ⟨_, rfl⟩
            refine lv_iinc (v := i116) (lv' := [(3, .int i116), (1, .long (mxL (mxL (mxL (mxL (dgL S (told S) k) (zL (S 1 k))) (zL (S 2 k))) (zL (S 3 k))) (zL (told S 2 k)))), (0, .ref (md 0))]) hx hb dX7_digest_118 hl (k := 1) rfl (by rw [ei116]; rfl) (by decide) rfl (fun ls hl => ?_)
            obtain rfl : i116 = nI (k + 1) := by
              rw [ei116]
              exact nI_1 k
            refine lv_goto (tgt := 21) hx hb dX7_digest_121 (by decide) ?_
            have es9 : dgL S (told S) (k + 1) = mxL (mxL (mxL (mxL (dgL S (told S) k) (zL (S 1 k))) (zL (S 2 k))) (zL (S 3 k))) (zL (told S 2 k)) := by
              show mxS S (told S) k (dgL S (told S) k) = _
              unfold mxS
              rw [if_neg yc115]
            rw [← es9] at hl
            exact ih_L21 (k + 1) H locs ls (by omega) (by omega) hP hS (lv_sub hl [0, 1, 2] rfl)
          · have yc115 := of_decide_eq_true (g_b1.mp c115)
            refine lv_lload_n hx hb dX7_digest_94 rfl (lv_at hl 0 rfl) ?_
            refine lv_ldc2 (v := 31) hx hb hown (hts _ (List.mem_cons_of_mem _ (List.mem_append_left _ (List.mem_append_left _ (List.mem_of_getElem? (i := 3) rfl))))) dX7_digest_95 ?_
            refine lv_lmul hx hb dX7_digest_98 ?_
            refine lv_topl (fun v117 ev117 => ?_)
            obtain rfl : v117 = (mxL (mxL (mxL (mxL (dgL S (told S) k) (zL (S 1 k))) (zL (S 2 k))) (zL (S 3 k))) (zL (told S 2 k))) * 31 := by
              exact ev117
            refine lv_aload_n hx hb dX7_digest_99 rfl (lv_at hl 2 rfl) ?_
            refine g_get F hP (C := RX7) (T := TX7) (N := 20) iX7 f17 rfl 15 (by decide) (List.mem_cons_of_mem _ (List.mem_append_left _ (List.mem_append_left _ (List.mem_of_getElem? (i := 8) rfl)))) (fun _ h9 => h9) rfl dX7_digest_100 ?_
            refine lv_iload_n hx hb dX7_digest_103 rfl (lv_at hl 1 rfl) ?_
            refine g_lald F hP f26 (vp_in_nI (by omega) (by decide)) dX7_digest_104 ?_
            rw [show (.long ((L3 0) (nI k : Int32).toNatClampNeg) : Value) = .long (zL (told S 0 k)) from by rw [nI_clamp (by omega), (HT k hk).1]]
            refine lv_ladd hx hb dX7_digest_105 ?_
            refine lv_topl (fun v118 ev118 => ?_)
            obtain rfl : v118 = mxL (mxL (mxL (mxL (mxL (dgL S (told S) k) (zL (S 1 k))) (zL (S 2 k))) (zL (S 3 k))) (zL (told S 2 k))) (zL (told S 0 k)) := by
              exact ev118
            refine lv_ldc2 (v := 31) hx hb hown (hts _ (List.mem_cons_of_mem _ (List.mem_append_left _ (List.mem_append_left _ (List.mem_of_getElem? (i := 3) rfl))))) dX7_digest_106 ?_
            refine lv_lmul hx hb dX7_digest_109 ?_
            refine lv_topl (fun v119 ev119 => ?_)
            obtain rfl : v119 = (mxL (mxL (mxL (mxL (mxL (dgL S (told S) k) (zL (S 1 k))) (zL (S 2 k))) (zL (S 3 k))) (zL (told S 2 k))) (zL (told S 0 k))) * 31 := by
              exact ev119
            refine lv_aload_n hx hb dX7_digest_110 rfl (lv_at hl 2 rfl) ?_
            refine g_get F hP (C := RX7) (T := TX7) (N := 20) iX7 f17 rfl 16 (by decide) (List.mem_cons_of_mem _ (List.mem_append_left _ (List.mem_append_left _ (List.mem_of_getElem? (i := 9) rfl)))) (fun _ h9 => h9) rfl dX7_digest_111 ?_
            refine lv_iload_n hx hb dX7_digest_114 rfl (lv_at hl 1 rfl) ?_
            refine g_lald F hP f27 (vp_in_nI (by omega) (by decide)) dX7_digest_115 ?_
            rw [show (.long ((L3 1) (nI k : Int32).toNatClampNeg) : Value) = .long (zL (told S 1 k)) from by rw [nI_clamp (by omega), (HT k hk).2.1, if_neg yc115]]
            refine lv_ladd hx hb dX7_digest_116 ?_
            refine lv_topl (fun v120 ev120 => ?_)
            obtain rfl : v120 = mxL (mxL (mxL (mxL (mxL (mxL (dgL S (told S) k) (zL (S 1 k))) (zL (S 2 k))) (zL (S 3 k))) (zL (told S 2 k))) (zL (told S 0 k))) (zL (told S 1 k)) := by
              exact ev120
            refine lv_lstore_n (lv' := [(1, .long (mxL (mxL (mxL (mxL (mxL (mxL (dgL S (told S) k) (zL (S 1 k))) (zL (S 2 k))) (zL (S 3 k))) (zL (told S 2 k))) (zL (told S 0 k))) (zL (told S 1 k)))), (3, .int (nI k)), (0, .ref (md 0))]) hx hb dX7_digest_117 rfl hl (by decide) rfl (fun ls hl => ?_)
            obtain ⟨i121, ei121⟩ : ∃ y : Int32, y = nI k + (1) := ⟨_, rfl⟩
            refine lv_iinc (v := i121) (lv' := [(3, .int i121), (1, .long (mxL (mxL (mxL (mxL (mxL (mxL (dgL S (told S) k) (zL (S 1 k))) (zL (S 2 k))) (zL (S 3 k))) (zL (told S 2 k))) (zL (told S 0 k))) (zL (told S 1 k)))), (0, .ref (md 0))]) hx hb dX7_digest_118 hl (k := 1) rfl (by rw [ei121]; rfl) (by decide) rfl (fun ls hl => ?_)
            obtain rfl : i121 = nI (k + 1) := by
              rw [ei121]
              exact nI_1 k
            refine lv_goto (tgt := 21) hx hb dX7_digest_121 (by decide) ?_
            have es9 : dgL S (told S) (k + 1) = mxL (mxL (mxL (mxL (mxL (mxL (dgL S (told S) k) (zL (S 1 k))) (zL (S 2 k))) (zL (S 3 k))) (zL (told S 2 k))) (zL (told S 0 k))) (zL (told S 1 k)) := by
              show mxS S (told S) k (dgL S (told S) k) = _
              unfold mxS
              rw [if_pos yc115]
            rw [← es9] at hl
            exact ih_L21 (k + 1) H locs ls (by omega) (by omega) hP hS (lv_sub hl [0, 1, 2] rfl)
  exact L21 ((S 0 0).toNat + 1) 0  H locs ls (by omega) (by omega) hP hS (lv_sub hl [0, 1, 2] rfl)
