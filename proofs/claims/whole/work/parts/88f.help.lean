theorem cd_X6_addPlanets : yX6_addPlanets.cls = RX6 ∧ yX6_addPlanets.cls ≠ "java/lang/invoke/MethodHandle" ∧ yX6_addPlanets.cls ≠ "java/lang/invoke/VarHandle" ∧ (parseMethodDescriptor yX6_addPlanets.desc).map (fun d => d.parameters.length) = some 5 := by decide +kernel
set_option maxHeartbeats 4000000 in
set_option maxRecDepth 100000 in
theorem k_L_addPlanets (l : Launch) (hlt : l.stackTraces = false) (A : Nat → Prop) (G : g_C) (w : g_W) (ad : Nat → Nat → Nat) (Cn : Nat → Nat → Option va_E) (S T : Sg) (un vn zn tn pn : Int32) (Hh : holds w ad Cn) (Hr : rep G S T ad Cn) (Hi : invS S) (Ht : invT S T) (Ha : agr S T) (o : Nat) (f0 : Nat → Int64) (ho : w o = some (.inl (G.2.1 1, 1, .inr (.inl f0)))) (hno : ∀ k i, Cn k i ≠ none → ad k i ≠ o) : xI l yL_addPlanets wsL_addPlanets ({ frames := 8, cells := 11, slots := 150, locals := 256 } : Room) [.ref (ad 0 0), .int un, .int vn, .int zn, .int tn, .int pn, .ref o] A G w (fun r w' => hpP G w w' o f0 (cdAddPl S un vn zn tn pn) r (fun w1 => after G w ad Cn w1 (nxAddPl S un vn zn tn pn)) ((vlAddPl S).toInt64)) (fun _ => False) 11 150 := by
  refine g_xofIH (hh := [(0, 16, 19, 21), (0, 16, 23, 13), (0, 16, 27, 15)]) (cc := cL_addPlanets) (maxL := 8) (ret := (some .int)) (own := RL) (by decide) rfl rfl (Nat.le_of_ble_eq_true rfl) ?_
  intro p e R s m args below meth c Q ls hR F hP hS hlocks hr htab hQ hl
  obtain ⟨⟨hx, hb, hml, hown, hts⟩, hK, hZ, hA⟩ := id F
  generalize hH0 : s.heap = H at hP ⊢
  have hS : va_S A s.heap H [] := by rw [← hH0]; exact va_S.rf
  generalize ([] : List Loc) = locs at hS ⊢
  have hl : lv_has ls 8 [(0, .ref (ad 0 0)), (1, .int un), (2, .int vn), (3, .int zn), (4, .int tn), (5, .int pn), (6, .ref o)] := hl
  have hx0 := rep_x Hh Hr
  refine lv_aload hx hb dL_addPlanets_0 (lv_at hl 6 rfl) ?_
  refine lv_iconst (v := 0) hx hb dL_addPlanets_2 (by decide) ?_
  refine lv_aload_n hx hb dL_addPlanets_3 rfl (lv_at hl 0 rfl) ?_
  refine lv_iload_n hx hb dL_addPlanets_4 rfl (lv_at hl 1 rfl) ?_
  refine lv_iload_n hx hb dL_addPlanets_5 rfl (lv_at hl 2 rfl) ?_
  refine lv_iload_n hx hb dL_addPlanets_6 rfl (lv_at hl 3 rfl) ?_
  refine lv_iload hx hb dL_addPlanets_7 (lv_at hl 4 rfl) ?_
  refine lv_iload hx hb dL_addPlanets_9 (lv_at hl 5 rfl) ?_
  rw [hQ]
  refine g_cVi (As := [.int un, .int vn, .int zn, .int tn, .int pn]) (rest := [.int 0, .ref o]) F hP hS (k_X6_addPlanets l hlt A G w ad Cn S T un vn zn tn pn Hh Hr Hi Ht Ha) (cwV 5 hts gL_addPlanets_X6_addPlanets rfl rfl rfl cd_X6_addPlanets ⟨by rw [hR]; exact Nat.le_of_ble_eq_true rfl, by rw [hR]; exact Nat.le_of_ble_eq_true rfl⟩) hx0 rfl rfl rfl hl.1 (Nat.le_of_ble_eq_true rfl) dL_addPlanets_11 ⟨by rw [hR]; exact Nat.le_of_ble_eq_true rfl, by rw [hR]; exact Nat.le_of_ble_eq_true rfl⟩ rfl (fun E w9 ce q9 H locs hpx hP hS hce hcv hcl => ?_) (fun r1 w1 H locs h1 hP hS => ?_)
  · rw [← hQ]
    obtain ⟨ew9, hpx⟩ := hpx
    have ew9 : w9 = w := ew9
    rw [ew9] at hP
    rcases hpx with ⟨eE, ec⟩ | ⟨eE, ec⟩ | ⟨eE, ec⟩
    · have eE : E = "java/lang/IndexOutOfBoundsException" := eE
      subst eE
      refine vx_catch hown [] ⟨0, 16, 19, 21⟩ [⟨0, 16, 23, 13⟩, ⟨0, 16, 27, 15⟩] htab (fun z hz => (nomatch hz)) (by decide) (by decide) (hts _ (List.mem_cons_of_mem _ (List.mem_append_left _ (List.mem_append_left _ (List.mem_append_left _ (List.mem_append_left _ (List.mem_append_left _ (List.mem_append_left _ (List.mem_append_left _ (List.mem_append_left _ (List.mem_append_left _ (List.mem_append_left _ (List.mem_append_left _ (List.mem_append_left _ (List.mem_of_getElem? (i := 0) rfl))))))))))))))) (va_Nw.use rfl (hZ.2.2.2.2.2.2.2.1 ("java/lang/IndexOutOfBoundsException", "java/lang/IndexOutOfBoundsException") (List.mem_of_getElem? (i := 2) rfl))) hce hcv hcl ?_
      refine lv_astore (lv' := [(7, .ref q9), (0, .ref (ad 0 0)), (1, .int un), (2, .int vn), (3, .int zn), (4, .int tn), (5, .int pn), (6, .ref o)]) hx hb dL_addPlanets_19 hl (by decide) rfl (fun ls hl => ?_)
      refine lv_iconst (v := 1) hx hb dL_addPlanets_21 (by decide) ?_
      rw [hQ]
      refine g_xiret F hP hS hlocks hr dL_addPlanets_22 (by first | exact Nat.le_of_ble_eq_true rfl | omega) (by first | exact Nat.le_of_ble_eq_true rfl | omega) ?_
      exact hp_no ec (by decide) rfl rfl
    · have eE : E = "java/lang/IllegalArgumentException" := eE
      subst eE
      refine vx_catch hown [⟨0, 16, 19, 21⟩] ⟨0, 16, 23, 13⟩ [⟨0, 16, 27, 15⟩] htab (fun z hz => by rw [List.mem_singleton.mp hz]; exact Or.inr ⟨by decide, "java/lang/IndexOutOfBoundsException", hts _ (List.mem_cons_of_mem _ (List.mem_append_left _ (List.mem_append_left _ (List.mem_append_left _ (List.mem_append_left _ (List.mem_append_left _ (List.mem_append_left _ (List.mem_append_left _ (List.mem_append_left _ (List.mem_append_left _ (List.mem_append_left _ (List.mem_append_left _ (List.mem_append_left _ (List.mem_of_getElem? (i := 0) rfl)))))))))))))), hZ.2.2.2.2.2.2.2.2.1.1 ("java/lang/IllegalArgumentException", "java/lang/IndexOutOfBoundsException") (List.mem_of_getElem? (i := 1) rfl)⟩) (by decide) (by decide) (hts _ (List.mem_cons_of_mem _ (List.mem_append_left _ (List.mem_append_left _ (List.mem_append_left _ (List.mem_append_left _ (List.mem_append_left _ (List.mem_append_left _ (List.mem_append_left _ (List.mem_append_left _ (List.mem_append_left _ (List.mem_append_left _ (List.mem_append_left _ (List.mem_append_left _ (List.mem_of_getElem? (i := 1) rfl))))))))))))))) (va_Nw.use rfl (hZ.2.2.2.2.2.2.2.1 ("java/lang/IllegalArgumentException", "java/lang/IllegalArgumentException") (List.mem_of_getElem? (i := 0) rfl))) hce hcv hcl ?_
      refine lv_astore (lv' := [(7, .ref q9), (0, .ref (ad 0 0)), (1, .int un), (2, .int vn), (3, .int zn), (4, .int tn), (5, .int pn), (6, .ref o)]) hx hb dL_addPlanets_23 hl (by decide) rfl (fun ls hl => ?_)
      refine lv_iconst (v := 2) hx hb dL_addPlanets_25 (by decide) ?_
      rw [hQ]
      refine g_xiret F hP hS hlocks hr dL_addPlanets_26 (by first | exact Nat.le_of_ble_eq_true rfl | omega) (by first | exact Nat.le_of_ble_eq_true rfl | omega) ?_
      exact hp_no ec (by decide) rfl rfl
    · have eE : E = "java/lang/IllegalStateException" := eE
      subst eE
      refine vx_catch hown [⟨0, 16, 19, 21⟩, ⟨0, 16, 23, 13⟩] ⟨0, 16, 27, 15⟩ [] htab (fun z hz => by
        rcases List.mem_cons.mp hz with hz | hz
        · rw [hz]; exact Or.inr ⟨by decide, "java/lang/IndexOutOfBoundsException", hts _ (List.mem_cons_of_mem _ (List.mem_append_left _ (List.mem_append_left _ (List.mem_append_left _ (List.mem_append_left _ (List.mem_append_left _ (List.mem_append_left _ (List.mem_append_left _ (List.mem_append_left _ (List.mem_append_left _ (List.mem_append_left _ (List.mem_append_left _ (List.mem_append_left _ (List.mem_of_getElem? (i := 0) rfl)))))))))))))), hZ.2.2.2.2.2.2.2.2.1.1 ("java/lang/IllegalStateException", "java/lang/IndexOutOfBoundsException") (List.mem_of_getElem? (i := 3) rfl)⟩
        · rw [List.mem_singleton.mp hz]; exact Or.inr ⟨by decide, "java/lang/IllegalArgumentException", hts _ (List.mem_cons_of_mem _ (List.mem_append_left _ (List.mem_append_left _ (List.mem_append_left _ (List.mem_append_left _ (List.mem_append_left _ (List.mem_append_left _ (List.mem_append_left _ (List.mem_append_left _ (List.mem_append_left _ (List.mem_append_left _ (List.mem_append_left _ (List.mem_append_left _ (List.mem_of_getElem? (i := 1) rfl)))))))))))))), hZ.2.2.2.2.2.2.2.2.1.1 ("java/lang/IllegalStateException", "java/lang/IllegalArgumentException") (List.mem_of_getElem? (i := 2) rfl)⟩) (by decide) (by decide) (hts _ (List.mem_cons_of_mem _ (List.mem_append_left _ (List.mem_append_left _ (List.mem_append_left _ (List.mem_append_left _ (List.mem_append_left _ (List.mem_append_left _ (List.mem_append_left _ (List.mem_append_left _ (List.mem_append_left _ (List.mem_append_left _ (List.mem_append_left _ (List.mem_append_left _ (List.mem_of_getElem? (i := 2) rfl))))))))))))))) (va_Nw.use rfl (hZ.2.2.2.2.2.2.2.1 ("java/lang/IllegalStateException", "java/lang/IllegalStateException") (List.mem_of_getElem? (i := 1) rfl))) hce hcv hcl ?_
      refine lv_astore (lv' := [(7, .ref q9), (0, .ref (ad 0 0)), (1, .int un), (2, .int vn), (3, .int zn), (4, .int tn), (5, .int pn), (6, .ref o)]) hx hb dL_addPlanets_27 hl (by decide) rfl (fun ls hl => ?_)
      refine lv_iconst (v := 3) hx hb dL_addPlanets_29 (by decide) ?_
      rw [hQ]
      refine g_xiret F hP hS hlocks hr dL_addPlanets_30 (by first | exact Nat.le_of_ble_eq_true rfl | omega) (by first | exact Nat.le_of_ble_eq_true rfl | omega) ?_
      exact hp_no ec (by decide) rfl rfl
  · rw [← hQ]
    obtain ⟨ad2, C2, T2, z0, z1, z2⟩ := h1.2.2
    have ho1 : w1 o = some (.inl (G.2.1 1, 1, .inr (.inl f0))) := by rw [z1.1 o (by rw [ho]; exact fun q => (nomatch q)) hno]; exact ho
    rw [h1.2.1]
    refine lv_i2l hx hb dL_addPlanets_14 rfl ?_
    refine lv_topl (fun v1 ev1 => ?_)
    obtain rfl : v1 = (vlAddPl S).toInt64 := by
      exact ev1
    refine g_last F hP hS ho1 (by unfold vp_in; decide) dL_addPlanets_15 (fun H locs hP hS => ?_)
    obtain ⟨w2, ew2⟩ : ∃ z, z = g_up w1 o (.inl (G.2.1 1, 1, .inr (.inl (vp_updL f0 (0 : Int32).toNatClampNeg ((vlAddPl S).toInt64))))) := ⟨_, rfl⟩
    have hP : g_P A G w2 H := by rw [ew2]; exact hP
    have f3 : w2 o = some (.inl (G.2.1 1, 1, .inr (.inl (vp_updL f0 (0 : Int32).toNatClampNeg ((vlAddPl S).toInt64))))) := by rw [ew2]; exact g_up_s _ _ _
    refine lv_goto (tgt := 31) hx hb dL_addPlanets_16 (by decide) ?_
    refine lv_iconst (v := 0) hx hb dL_addPlanets_31 (by decide) ?_
    rw [hQ]
    refine g_xiret F hP hS hlocks hr dL_addPlanets_32 (by first | exact Nat.le_of_ble_eq_true rfl | omega) (by first | exact Nat.le_of_ble_eq_true rfl | omega) ?_
    exact Or.inr ⟨h1.1, rfl, _, ⟨ad2, C2, T2, z0, z1, z2⟩, ew2⟩
