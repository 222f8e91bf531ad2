theorem cd_X6_ratio : yX6_ratio.cls = RX6 ∧ yX6_ratio.cls ≠ "java/lang/invoke/MethodHandle" ∧ yX6_ratio.cls ≠ "java/lang/invoke/VarHandle" ∧ (parseMethodDescriptor yX6_ratio.desc).map (fun d => d.parameters.length) = some 2 := by decide +kernel
set_option maxHeartbeats 4000000 in
set_option maxRecDepth 100000 in
theorem k_L_ratio (l : Launch) (hlt : l.stackTraces = false) (A : Nat → Prop) (G : g_C) (w : g_W) (ad : Nat → Nat → Nat) (Cn : Nat → Nat → Option va_E) (S T : Sg) (pn qn : Int32) (Hh : holds w ad Cn) (Hr : rep G S T ad Cn) (Hi : invS S) (Ht : invT S T) (Ha : agr S T) (o : Nat) (f0 : Nat → UInt64) (ho : w o = some (.inl (G.2.1 5, 1, .inr (.inr (.inr (.inl f0)))))) (hno : ∀ k i, Cn k i ≠ none → ad k i ≠ o) : xI l yL_ratio wsL_ratio ({ frames := 9, cells := 5, slots := 36, locals := 154 } : Room) [.ref (ad 0 0), .int pn, .int qn, .ref o] A G w (fun r w' => hpD G w w' o f0 (cdRatio S T pn qn) r (vlRatio T pn qn)) (fun _ => False) 5 36 := by
  refine g_xofIH (hh := [(0, 9, 12, 21), (0, 9, 16, 15)]) (cc := cL_ratio) (maxL := 5) (ret := (some .int)) (own := RL) (by decide) rfl rfl (Nat.le_of_ble_eq_true rfl) ?_
  intro p e R s m args below meth c Q ls hR F hP hS hlocks hr htab hQ hl
  obtain ⟨⟨hx, hb, hml, hown, hts⟩, hK, hZ, hA⟩ := id F
  generalize hH0 : s.heap = H at hP ⊢
  have hS : va_S A s.heap H [] := by rw [← hH0]; exact va_S.rf
  generalize ([] : List Loc) = locs at hS ⊢
  have hl : lv_has ls 5 [(0, .ref (ad 0 0)), (1, .int pn), (2, .int qn), (3, .ref o)] := hl
  have hx0 := rep_x Hh Hr
  refine lv_aload_n hx hb dL_ratio_0 rfl (lv_at hl 3 rfl) ?_
  refine lv_iconst (v := 0) hx hb dL_ratio_1 (by decide) ?_
  refine lv_aload_n hx hb dL_ratio_2 rfl (lv_at hl 0 rfl) ?_
  refine lv_iload_n hx hb dL_ratio_3 rfl (lv_at hl 1 rfl) ?_
  refine lv_iload_n hx hb dL_ratio_4 rfl (lv_at hl 2 rfl) ?_
  rw [hQ]
  refine g_cVd (As := [.int pn, .int qn]) (rest := [.int 0, .ref o]) F hP hS (k_X6_ratio l hlt A G w ad Cn S T pn qn Hh Hr Hi Ht) (cwV 2 hts gL_ratio_X6_ratio rfl rfl rfl cd_X6_ratio ⟨by rw [hR]; exact Nat.le_of_ble_eq_true rfl, by rw [hR]; exact Nat.le_of_ble_eq_true rfl⟩) hx0 rfl rfl rfl hl.1 (Nat.le_of_ble_eq_true rfl) dL_ratio_5 ⟨by rw [hR]; exact Nat.le_of_ble_eq_true rfl, by rw [hR]; exact Nat.le_of_ble_eq_true rfl⟩ rfl (fun E w9 ce q9 H locs hpx hP hS hce hcv hcl => ?_) (fun r1 w1 H locs h1 hP hS => ?_)
  · rw [← hQ]
    obtain ⟨ew9, hpx⟩ := hpx
    have ew9 : w9 = w := ew9
    rw [ew9] at hP
    rcases hpx with ⟨eE, ec⟩ | ⟨eE, ec⟩
    · have eE : E = "java/lang/IndexOutOfBoundsException" := eE
      subst eE
      refine vx_catch hown [] ⟨0, 9, 12, 21⟩ [⟨0, 9, 16, 15⟩] htab (fun z hz => (nomatch hz)) (by decide) (by decide) (hts _ (List.mem_cons_of_mem _ (List.mem_append_left _ (List.mem_append_left _ (List.mem_append_left _ (List.mem_append_left _ (List.mem_append_left _ (List.mem_append_left _ (List.mem_append_left _ (List.mem_of_getElem? (i := 0) rfl)))))))))) (va_Nw.use rfl (hZ.2.2.2.2.2.2.2.1 ("java/lang/IndexOutOfBoundsException", "java/lang/IndexOutOfBoundsException") (List.mem_of_getElem? (i := 2) rfl))) hce hcv hcl ?_
      refine lv_astore (lv' := [(4, .ref q9), (0, .ref (ad 0 0)), (1, .int pn), (2, .int qn), (3, .ref o)]) hx hb dL_ratio_12 hl (by decide) rfl (fun ls hl => ?_)
      refine lv_iconst (v := 1) hx hb dL_ratio_14 (by decide) ?_
      rw [hQ]
      refine g_xiret F hP hS hlocks hr dL_ratio_15 (by first | exact Nat.le_of_ble_eq_true rfl | omega) (by first | exact Nat.le_of_ble_eq_true rfl | omega) ?_
      exact hpD_no ec (by decide) rfl rfl
    · have eE : E = "java/lang/IllegalStateException" := eE
      subst eE
      refine vx_catch hown [⟨0, 9, 12, 21⟩] ⟨0, 9, 16, 15⟩ [] htab (fun z hz => by rw [List.mem_singleton.mp hz]; exact Or.inr ⟨by decide, "java/lang/IndexOutOfBoundsException", hts _ (List.mem_cons_of_mem _ (List.mem_append_left _ (List.mem_append_left _ (List.mem_append_left _ (List.mem_append_left _ (List.mem_append_left _ (List.mem_append_left _ (List.mem_append_left _ (List.mem_of_getElem? (i := 0) rfl))))))))), hZ.2.2.2.2.2.2.2.2.1.1 ("java/lang/IllegalStateException", "java/lang/IndexOutOfBoundsException") (List.mem_of_getElem? (i := 3) rfl)⟩) (by decide) (by decide) (hts _ (List.mem_cons_of_mem _ (List.mem_append_left _ (List.mem_append_left _ (List.mem_append_left _ (List.mem_append_left _ (List.mem_append_left _ (List.mem_append_left _ (List.mem_append_left _ (List.mem_of_getElem? (i := 1) rfl)))))))))) (va_Nw.use rfl (hZ.2.2.2.2.2.2.2.1 ("java/lang/IllegalStateException", "java/lang/IllegalStateException") (List.mem_of_getElem? (i := 1) rfl))) hce hcv hcl ?_
      refine lv_astore (lv' := [(4, .ref q9), (0, .ref (ad 0 0)), (1, .int pn), (2, .int qn), (3, .ref o)]) hx hb dL_ratio_16 hl (by decide) rfl (fun ls hl => ?_)
      refine lv_iconst (v := 2) hx hb dL_ratio_18 (by decide) ?_
      rw [hQ]
      refine g_xiret F hP hS hlocks hr dL_ratio_19 (by first | exact Nat.le_of_ble_eq_true rfl | omega) (by first | exact Nat.le_of_ble_eq_true rfl | omega) ?_
      exact hpD_no ec (by decide) rfl rfl
  · rw [← hQ]
    rw [h1.2.2] at hP
    rw [h1.2.1]
    refine g_dast F hP hS ho (by unfold vp_in; decide) dL_ratio_8 (fun H locs hP hS => ?_)
    obtain ⟨w1, ew1⟩ : ∃ z, z = g_up w o (.inl (G.2.1 5, 1, .inr (.inr (.inr (.inl (vf_upd f0 (0 : Int32).toNatClampNeg (vlRatio T pn qn))))))) := ⟨_, rfl⟩
    have hP : g_P A G w1 H := by rw [ew1]; exact hP
    have f2 : w1 (ad 0 0) = some (.inr (7, [.ref (ad 1 0), .ref (ad 1 1), .ref (ad 1 2), .ref (ad 1 3), .int (iL (S 0 4)), .int (iL (S 0 5))])) := by rw [ew1]; exact g_up_f hx0 (g_ne hx0 ho rfl)
    have f3 : w1 o = some (.inl (G.2.1 5, 1, .inr (.inr (.inr (.inl (vf_upd f0 (0 : Int32).toNatClampNeg (vlRatio T pn qn))))))) := by rw [ew1]; exact g_up_s _ _ _
    refine lv_goto (tgt := 20) hx hb dL_ratio_9 (by decide) ?_
    refine lv_iconst (v := 0) hx hb dL_ratio_20 (by decide) ?_
    rw [hQ]
    refine g_xiret F hP hS hlocks hr dL_ratio_21 (by first | exact Nat.le_of_ble_eq_true rfl | omega) (by first | exact Nat.le_of_ble_eq_true rfl | omega) ?_
    exact Or.inr ⟨h1.1, rfl, ew1⟩
