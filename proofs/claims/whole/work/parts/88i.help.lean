theorem cd_X6_drive : yX6_drive.cls = RX6 ∧ yX6_drive.cls ≠ "java/lang/invoke/MethodHandle" ∧ yX6_drive.cls ≠ "java/lang/invoke/VarHandle" ∧ (parseMethodDescriptor yX6_drive.desc).map (fun d => d.parameters.length) = some 2 := by decide +kernel
set_option maxHeartbeats 4000000 in
set_option maxRecDepth 100000 in
theorem k_L_drive (l : Launch) (hlt : l.stackTraces = false) (A : Nat → Prop) (G : g_C) (w : g_W) (ad : Nat → Nat → Nat) (Cn : Nat → Nat → Option va_E) (S T : Sg) (pn vn : Int32) (Hh : holds w ad Cn) (Hr : rep G S T ad Cn) (Hi : invS S) (Ht : invT S T) (Ha : agr S T) (o : Nat) (f0 : Nat → Int64) (ho : w o = some (.inl (G.2.1 1, 1, .inr (.inl f0)))) (hno : ∀ k i, Cn k i ≠ none → ad k i ≠ o) : xI l yL_drive wsL_drive ({ frames := 8, cells := 2, slots := 12, locals := 185 } : Room) [.ref (ad 0 0), .int pn, .int vn, .ref o] A G w (fun r w' => hpP G w w' o f0 (cdDrive S pn vn) r (fun w1 => after G w ad Cn w1 (nxDrive S pn vn)) ((vlDrive S).toInt64)) (fun _ => False) 2 12 := by
  refine g_xofIH (hh := [(0, 10, 13, 21), (0, 10, 17, 13)]) (cc := cL_drive) (maxL := 5) (ret := (some .int)) (own := RL) (by decide) rfl rfl (Nat.le_of_ble_eq_true rfl) ?_
  intro p e R s m args below meth c Q ls hR F hP hS hlocks hr htab hQ hl
  obtain ⟨⟨hx, hb, hml, hown, hts⟩, hK, hZ, hA⟩ := id F
  generalize hH0 : s.heap = H at hP ⊢
  have hS : va_S A s.heap H [] := by rw [← hH0]; exact va_S.rf
  generalize ([] : List Loc) = locs at hS ⊢
  have hl : lv_has ls 5 [(0, .ref (ad 0 0)), (1, .int pn), (2, .int vn), (3, .ref o)] := hl
  have hx0 := rep_x Hh Hr
  refine lv_aload_n hx hb dL_drive_0 rfl (lv_at hl 3 rfl) ?_
  refine lv_iconst (v := 0) hx hb dL_drive_1 (by decide) ?_
  refine lv_aload_n hx hb dL_drive_2 rfl (lv_at hl 0 rfl) ?_
  refine lv_iload_n hx hb dL_drive_3 rfl (lv_at hl 1 rfl) ?_
  refine lv_iload_n hx hb dL_drive_4 rfl (lv_at hl 2 rfl) ?_
  rw [hQ]
  refine g_cVi (As := [.int pn, .int vn]) (rest := [.int 0, .ref o]) F hP hS (k_X6_drive l hlt A G w ad Cn S T pn vn Hh Hr Hi Ht Ha) (cwV 2 hts gL_drive_X6_drive rfl rfl rfl cd_X6_drive ⟨by rw [hR]; exact Nat.le_of_ble_eq_true rfl, by rw [hR]; exact Nat.le_of_ble_eq_true rfl⟩) hx0 rfl rfl rfl hl.1 (Nat.le_of_ble_eq_true rfl) dL_drive_5 ⟨by rw [hR]; exact Nat.le_of_ble_eq_true rfl, by rw [hR]; exact Nat.le_of_ble_eq_true rfl⟩ rfl (fun E w9 ce q9 H locs hpx hP hS hce hcv hcl => ?_) (fun r1 w1 H locs h1 hP hS => ?_)
  · rw [← hQ]
    obtain ⟨ew9, hpx⟩ := hpx
    have ew9 : w9 = w := ew9
    rw [ew9] at hP
    rcases hpx with ⟨eE, ec⟩ | ⟨eE, ec⟩
    · have eE : E = "java/lang/IndexOutOfBoundsException" := eE
      subst eE
      refine vx_catch hown [] ⟨0, 10, 13, 21⟩ [⟨0, 10, 17, 13⟩] htab (fun z hz => (nomatch hz)) (by decide) (by decide) (hts _ (List.mem_cons_of_mem _ (List.mem_append_left _ (List.mem_append_left _ (List.mem_append_left _ (List.mem_append_left _ (List.mem_append_left _ (List.mem_append_left _ (List.mem_append_left _ (List.mem_append_left _ (List.mem_append_left _ (List.mem_append_left _ (List.mem_append_left _ (List.mem_of_getElem? (i := 0) rfl)))))))))))))) (va_Nw.use rfl (hZ.2.2.2.2.2.2.2.1 ("java/lang/IndexOutOfBoundsException", "java/lang/IndexOutOfBoundsException") (List.mem_of_getElem? (i := 2) rfl))) hce hcv hcl ?_
      refine lv_astore (lv' := [(4, .ref q9), (0, .ref (ad 0 0)), (1, .int pn), (2, .int vn), (3, .ref o)]) hx hb dL_drive_13 hl (by decide) rfl (fun ls hl => ?_)
      refine lv_iconst (v := 1) hx hb dL_drive_15 (by decide) ?_
      rw [hQ]
      refine g_xiret F hP hS hlocks hr dL_drive_16 (by first | exact Nat.le_of_ble_eq_true rfl | omega) (by first | exact Nat.le_of_ble_eq_true rfl | omega) ?_
      exact hp_no ec (by decide) rfl rfl
    · have eE : E = "java/lang/IllegalArgumentException" := eE
      subst eE
      refine vx_catch hown [⟨0, 10, 13, 21⟩] ⟨0, 10, 17, 13⟩ [] htab (fun z hz => by rw [List.mem_singleton.mp hz]; exact Or.inr ⟨by decide, "java/lang/IndexOutOfBoundsException", hts _ (List.mem_cons_of_mem _ (List.mem_append_left _ (List.mem_append_left _ (List.mem_append_left _ (List.mem_append_left _ (List.mem_append_left _ (List.mem_append_left _ (List.mem_append_left _ (List.mem_append_left _ (List.mem_append_left _ (List.mem_append_left _ (List.mem_append_left _ (List.mem_of_getElem? (i := 0) rfl))))))))))))), hZ.2.2.2.2.2.2.2.2.1.1 ("java/lang/IllegalArgumentException", "java/lang/IndexOutOfBoundsException") (List.mem_of_getElem? (i := 1) rfl)⟩) (by decide) (by decide) (hts _ (List.mem_cons_of_mem _ (List.mem_append_left _ (List.mem_append_left _ (List.mem_append_left _ (List.mem_append_left _ (List.mem_append_left _ (List.mem_append_left _ (List.mem_append_left _ (List.mem_append_left _ (List.mem_append_left _ (List.mem_append_left _ (List.mem_append_left _ (List.mem_of_getElem? (i := 1) rfl)))))))))))))) (va_Nw.use rfl (hZ.2.2.2.2.2.2.2.1 ("java/lang/IllegalArgumentException", "java/lang/IllegalArgumentException") (List.mem_of_getElem? (i := 0) rfl))) hce hcv hcl ?_
      refine lv_astore (lv' := [(4, .ref q9), (0, .ref (ad 0 0)), (1, .int pn), (2, .int vn), (3, .ref o)]) hx hb dL_drive_17 hl (by decide) rfl (fun ls hl => ?_)
      refine lv_iconst (v := 2) hx hb dL_drive_19 (by decide) ?_
      rw [hQ]
      refine g_xiret F hP hS hlocks hr dL_drive_20 (by first | exact Nat.le_of_ble_eq_true rfl | omega) (by first | exact Nat.le_of_ble_eq_true rfl | omega) ?_
      exact hp_no ec (by decide) rfl rfl
  · rw [← hQ]
    obtain ⟨ad2, C2, T2, z0, z1, z2⟩ := h1.2.2
    have ho1 : w1 o = some (.inl (G.2.1 1, 1, .inr (.inl f0))) := by rw [z1.1 o (by rw [ho]; exact fun q => (nomatch q)) hno]; exact ho
    rw [h1.2.1]
    refine lv_i2l hx hb dL_drive_8 rfl ?_
    refine lv_topl (fun v1 ev1 => ?_)
    obtain rfl : v1 = (vlDrive S).toInt64 := by
      exact ev1
    refine g_last F hP hS ho1 (by unfold vp_in; decide) dL_drive_9 (fun H locs hP hS => ?_)
    obtain ⟨w2, ew2⟩ : ∃ z, z = g_up w1 o (.inl (G.2.1 1, 1, .inr (.inl (vp_updL f0 (0 : Int32).toNatClampNeg ((vlDrive S).toInt64))))) := ⟨_, rfl⟩
    have hP : g_P A G w2 H := by rw [ew2]; exact hP
    have f3 : w2 o = some (.inl (G.2.1 1, 1, .inr (.inl (vp_updL f0 (0 : Int32).toNatClampNeg ((vlDrive S).toInt64))))) := by rw [ew2]; exact g_up_s _ _ _
    refine lv_goto (tgt := 21) hx hb dL_drive_10 (by decide) ?_
    refine lv_iconst (v := 0) hx hb dL_drive_21 (by decide) ?_
    rw [hQ]
    refine g_xiret F hP hS hlocks hr dL_drive_22 (by first | exact Nat.le_of_ble_eq_true rfl | omega) (by first | exact Nat.le_of_ble_eq_true rfl | omega) ?_
    exact Or.inr ⟨h1.1, rfl, _, ⟨ad2, C2, T2, z0, z1, z2⟩, ew2⟩
