theorem cd_X6_unmesh : yX6_unmesh.cls = RX6 ∧ yX6_unmesh.cls ≠ "java/lang/invoke/MethodHandle" ∧ yX6_unmesh.cls ≠ "java/lang/invoke/VarHandle" ∧ (parseMethodDescriptor yX6_unmesh.desc).map (fun d => d.parameters.length) = some 0 := by decide +kernel
set_option maxHeartbeats 4000000 in
set_option maxRecDepth 100000 in
theorem k_L_unmesh (l : Launch) (hlt : l.stackTraces = false) (A : Nat → Prop) (G : g_C) (w : g_W) (ad : Nat → Nat → Nat) (Cn : Nat → Nat → Option va_E) (S T : Sg)  (Hh : holds w ad Cn) (Hr : rep G S T ad Cn) (Hi : invS S) (Ht : invT S T) (Ha : agr S T) (o : Nat) (f0 : Nat → Int64) (ho : w o = some (.inl (G.2.1 1, 1, .inr (.inl f0)))) (hno : ∀ k i, Cn k i ≠ none → ad k i ≠ o) : xI l yL_unmesh wsL_unmesh ({ frames := 7, cells := 1, slots := 6, locals := 182 } : Room) [.ref (ad 0 0), .ref o] A G w (fun r w' => hpP G w w' o f0 (cdUnmesh S) r (fun w1 => after G w ad Cn w1 (nxUnmesh S)) ((vlUnmesh S).toInt64)) (fun _ => False) 1 6 := by
  refine g_xofIH (hh := [(0, 8, 11, 15)]) (cc := cL_unmesh) (maxL := 3) (ret := (some .int)) (own := RL) (by decide) rfl rfl (Nat.le_of_ble_eq_true rfl) ?_
  intro p e R s m args below meth c Q ls hR F hP hS hlocks hr htab hQ hl
  obtain ⟨⟨hx, hb, hml, hown, hts⟩, hK, hZ, hA⟩ := id F
  generalize hH0 : s.heap = H at hP ⊢
  have hS : va_S A s.heap H [] := by rw [← hH0]; exact va_S.rf
  generalize ([] : List Loc) = locs at hS ⊢
  have hl : lv_has ls 3 [(0, .ref (ad 0 0)), (1, .ref o)] := hl
  have hx0 := rep_x Hh Hr
  refine lv_aload_n hx hb dL_unmesh_0 rfl (lv_at hl 1 rfl) ?_
  refine lv_iconst (v := 0) hx hb dL_unmesh_1 (by decide) ?_
  refine lv_aload_n hx hb dL_unmesh_2 rfl (lv_at hl 0 rfl) ?_
  rw [hQ]
  refine g_cVi (As := []) (rest := [.int 0, .ref o]) F hP hS (k_X6_unmesh l hlt A G w ad Cn S T Hh Hr Hi Ht Ha) (cwV 0 hts gL_unmesh_X6_unmesh rfl rfl rfl cd_X6_unmesh ⟨by rw [hR]; exact Nat.le_of_ble_eq_true rfl, by rw [hR]; exact Nat.le_of_ble_eq_true rfl⟩) hx0 rfl rfl rfl hl.1 (Nat.le_of_ble_eq_true rfl) dL_unmesh_3 ⟨by rw [hR]; exact Nat.le_of_ble_eq_true rfl, by rw [hR]; exact Nat.le_of_ble_eq_true rfl⟩ rfl (fun E w9 ce q9 H locs hpx hP hS hce hcv hcl => ?_) (fun r1 w1 H locs h1 hP hS => ?_)
  · rw [← hQ]
    obtain ⟨ew9, hpx⟩ := hpx
    have ew9 : w9 = w := ew9
    rw [ew9] at hP
    obtain ⟨eE, ec⟩ := hpx
    have eE : E = "java/lang/IllegalStateException" := eE
    subst eE
    refine vx_catch hown [] ⟨0, 8, 11, 15⟩ [] htab (fun z hz => (nomatch hz)) (by decide) (by decide) (hts _ (List.mem_cons_of_mem _ (List.mem_append_left _ (List.mem_append_left _ (List.mem_append_left _ (List.mem_append_left _ (List.mem_append_left _ (List.mem_append_left _ (List.mem_append_left _ (List.mem_append_left _ (List.mem_append_left _ (List.mem_append_left _ (List.mem_of_getElem? (i := 0) rfl))))))))))))) (va_Nw.use rfl (hZ.2.2.2.2.2.2.2.1 ("java/lang/IllegalStateException", "java/lang/IllegalStateException") (List.mem_of_getElem? (i := 1) rfl))) hce hcv hcl ?_
    refine lv_astore_n (lv' := [(2, .ref q9), (0, .ref (ad 0 0)), (1, .ref o)]) hx hb dL_unmesh_11 rfl hl (by decide) rfl (fun ls hl => ?_)
    refine lv_iconst (v := 1) hx hb dL_unmesh_12 (by decide) ?_
    rw [hQ]
    refine g_xiret F hP hS hlocks hr dL_unmesh_13 (by first | exact Nat.le_of_ble_eq_true rfl | omega) (by first | exact Nat.le_of_ble_eq_true rfl | omega) ?_
    exact hp_no ec (by decide) rfl rfl
  · rw [← hQ]
    obtain ⟨ad2, C2, T2, z0, z1, z2⟩ := h1.2.2
    have ho1 : w1 o = some (.inl (G.2.1 1, 1, .inr (.inl f0))) := by rw [z1.1 o (by rw [ho]; exact fun q => (nomatch q)) hno]; exact ho
    rw [h1.2.1]
    refine lv_i2l hx hb dL_unmesh_6 rfl ?_
    refine lv_topl (fun v1 ev1 => ?_)
    obtain rfl : v1 = (vlUnmesh S).toInt64 := by
      exact ev1
    refine g_last F hP hS ho1 (by unfold vp_in; decide) dL_unmesh_7 (fun H locs hP hS => ?_)
    obtain ⟨w2, ew2⟩ : ∃ z, z = g_up w1 o (.inl (G.2.1 1, 1, .inr (.inl (vp_updL f0 (0 : Int32).toNatClampNeg ((vlUnmesh S).toInt64))))) := ⟨_, rfl⟩
    have hP : g_P A G w2 H := by rw [ew2]; exact hP
    have f3 : w2 o = some (.inl (G.2.1 1, 1, .inr (.inl (vp_updL f0 (0 : Int32).toNatClampNeg ((vlUnmesh S).toInt64))))) := by rw [ew2]; exact g_up_s _ _ _
    refine lv_goto (tgt := 14) hx hb dL_unmesh_8 (by decide) ?_
    refine lv_iconst (v := 0) hx hb dL_unmesh_14 (by decide) ?_
    rw [hQ]
    refine g_xiret F hP hS hlocks hr dL_unmesh_15 (by first | exact Nat.le_of_ble_eq_true rfl | omega) (by first | exact Nat.le_of_ble_eq_true rfl | omega) ?_
    exact Or.inr ⟨h1.1, rfl, _, ⟨ad2, C2, T2, z0, z1, z2⟩, ew2⟩
