theorem cd_X6_requireGear : yX6_requireGear.cls = RX6 ∧ yX6_requireGear.cls ≠ "java/lang/invoke/MethodHandle" ∧ yX6_requireGear.cls ≠ "java/lang/invoke/VarHandle" ∧ (parseMethodDescriptor yX6_requireGear.desc).map (fun d => d.parameters.length) = some 1 := by decide +kernel
theorem cd_X1_suits : yX1_suits.cls = RX1 ∧ yX1_suits.cls ≠ "java/lang/invoke/MethodHandle" ∧ yX1_suits.cls ≠ "java/lang/invoke/VarHandle" ∧ (parseMethodDescriptor yX1_suits.desc).map (fun d => d.parameters.length) = some 1 := by decide +kernel
theorem cd_X6_areMeshed : yX6_areMeshed.cls = RX6 ∧ yX6_areMeshed.cls ≠ "java/lang/invoke/MethodHandle" ∧ yX6_areMeshed.cls ≠ "java/lang/invoke/VarHandle" ∧ (parseMethodDescriptor yX6_areMeshed.desc).map (fun d => d.parameters.length) = some 2 := by decide +kernel
theorem cd_X2_init : yX2_init.cls ≠ "java/lang/invoke/MethodHandle" ∧ yX2_init.cls ≠ "java/lang/invoke/VarHandle" ∧ (parseMethodDescriptor yX2_init.desc).map (fun d => d.parameters.length) = some 2 := by decide +kernel
set_option maxHeartbeats 4000000 in
set_option maxRecDepth 100000 in
theorem k_X6_mesh (l : Launch) (hlt : l.stackTraces = false) (A : Nat → Prop) (G : g_C) (w : g_W) (ad : Nat → Nat → Nat) (Cn : Nat → Nat → Option va_E) (S T : Sg) (an bn : Int32) (Hh : holds w ad Cn) (Hr : rep G S T ad Cn) (Hi : invS S) (Ht : invT S T) (Ha : agr S T) : xI l yX6_mesh wsX6_mesh ({ frames := 7, cells := 10, slots := 150, locals := 231 } : Room) [.ref (ad 0 0), .int an, .int bn] A G w (fun r w' => cdMesh S an bn = 0 ∧ r = vlMesh S ∧ after G w ad Cn w' (nxMesh S an bn)) (fun u => u.2 = w ∧ ((u.1 = "java/lang/IndexOutOfBoundsException" ∧ cdMesh S an bn = 1) ∨ (u.1 = "java/lang/IllegalArgumentException" ∧ cdMesh S an bn = 2) ∨ (u.1 = "java/lang/IllegalStateException" ∧ cdMesh S an bn = 3))) 10 150 := by
  refine g_xofI (cc := cX6_mesh) (maxL := 5) (ret := (some .int)) (own := RX6) (by decide) rfl rfl (Nat.le_of_ble_eq_true rfl) ?_
  intro p e R s m args below meth c Q ls hR F hP hS hlocks hr hout hQ hl
  obtain ⟨⟨hx, hb, hml, hown, hts⟩, hK, hZ, hA⟩ := id F
  generalize hH0 : s.heap = H at hP ⊢
  have hS : va_S A s.heap H [] := by rw [← hH0]; exact va_S.rf
  generalize ([] : List Loc) = locs at hS ⊢
  have hl : lv_has ls 5 [(0, .ref (ad 0 0)), (1, .int an), (2, .int bn)] := hl
  have iX2 : ∀ w ∈ u_ws RX2 TX2 3, w ∈ wsX6_mesh := fun w h => List.mem_cons_of_mem _ (List.mem_append_left _ (List.mem_append_left _ (List.mem_append_left _ (List.mem_append_left _ (List.mem_append_left _ (List.mem_append_left _ (List.mem_append_left _ (List.mem_append_left _ (List.mem_append_left _ (List.mem_append_left _ (List.mem_append_right _ (h))))))))))))
  have iX6 : ∀ w ∈ u_ws RX6 TX6 6, w ∈ wsX6_mesh := fun w h => List.mem_cons_of_mem _ (List.mem_append_left _ (List.mem_append_left _ (List.mem_append_left _ (List.mem_append_left _ (List.mem_append_left _ (List.mem_append_left _ (List.mem_append_left _ (List.mem_append_left _ (List.mem_append_left _ (List.mem_append_left _ (List.mem_append_left _ (List.mem_append_right _ (h)))))))))))))
  have hx0 := rep_x Hh Hr
  obtain ⟨m1, a1, hz1⟩ := rep_size Hh Hr 1 (by decide)
  obtain ⟨m2, a2, hz2⟩ := rep_size Hh Hr 2 (by decide)
  have hi := Hi.1
  refine lv_aload_n hx hb dX6_mesh_0 rfl (lv_at hl 0 rfl) ?_
  refine lv_iload_n hx hb dX6_mesh_1 rfl (lv_at hl 1 rfl) ?_
  rw [hQ]
  refine g_xVv (As := [.int an]) (rest := []) F hP hS (k_X6_requireGear l hlt A G w ad Cn S T an Hh Hr Hi) (cwV 1 hts gX6_mesh_X6_requireGear rfl rfl rfl cd_X6_requireGear ⟨by rw [hR]; exact Nat.le_of_ble_eq_true rfl, by rw [hR]; exact Nat.le_of_ble_eq_true rfl⟩) hx0 rfl rfl rfl hl.1 (Nat.le_of_ble_eq_true rfl) dX6_mesh_2 ⟨by rw [hR]; exact Nat.le_of_ble_eq_true rfl, by rw [hR]; exact Nat.le_of_ble_eq_true rfl⟩ rfl hout hlocks (by decide) (by decide) (fun u h => by obtain ⟨h1, h2⟩ := h; subst h1; exact ⟨rfl, Or.inl ⟨rfl, (if_neg (fun q => h2 q.1))⟩⟩) (fun w2 H locs h3 hP hS => ?_)
  rw [← hQ]
  rw [h3.2] at hP
  have ska := h3.1
  obtain ⟨ka, hka, eka⟩ := ix_of ska.1 ska.2
  subst eka
  have nka : kN (nI ka) = ka := kN_n (by omega)
  refine lv_aload_n hx hb dX6_mesh_5 rfl (lv_at hl 0 rfl) ?_
  refine lv_iload_n hx hb dX6_mesh_6 rfl (lv_at hl 2 rfl) ?_
  rw [hQ]
  refine g_xVv (As := [.int bn]) (rest := []) F hP hS (k_X6_requireGear l hlt A G w ad Cn S T bn Hh Hr Hi) (cwV 1 hts gX6_mesh_X6_requireGear rfl rfl rfl cd_X6_requireGear ⟨by rw [hR]; exact Nat.le_of_ble_eq_true rfl, by rw [hR]; exact Nat.le_of_ble_eq_true rfl⟩) hx0 rfl rfl rfl hl.1 (Nat.le_of_ble_eq_true rfl) dX6_mesh_7 ⟨by rw [hR]; exact Nat.le_of_ble_eq_true rfl, by rw [hR]; exact Nat.le_of_ble_eq_true rfl⟩ rfl hout hlocks (by decide) (by decide) (fun u h => by obtain ⟨h1, h2⟩ := h; subst h1; exact ⟨rfl, Or.inl ⟨rfl, (if_neg (fun q => h2 q.2))⟩⟩) (fun w5 H locs h6 hP hS => ?_)
  rw [← hQ]
  rw [h6.2] at hP
  have skb := h6.1
  obtain ⟨kb, hkb, ekb⟩ := ix_of skb.1 skb.2
  subst ekb
  have nkb : kN (nI kb) = kb := kN_n (by omega)
  refine lv_aload_n hx hb dX6_mesh_10 rfl (lv_at hl 0 rfl) ?_
  refine g_get F hP (C := RX6) (T := TX6) (N := 6) iX6 hx0 rfl 1 (by decide) (List.mem_cons_of_mem _ (List.mem_append_left _ (List.mem_append_left _ (List.mem_append_left _ (List.mem_append_left _ (List.mem_append_left _ (List.mem_append_left _ (List.mem_append_left _ (List.mem_append_left _ (List.mem_append_left _ (List.mem_append_left _ (List.mem_append_left _ (List.mem_append_left _ (List.mem_append_left _ (List.mem_of_getElem? (i := 4) rfl))))))))))))))) (fun _ h9 => h9) rfl dX6_mesh_11 ?_
  refine lv_iload_n hx hb dX6_mesh_14 rfl (lv_at hl 1 rfl) ?_
  obtain ⟨gm7, gc7, gf7, ga7, gb7, gk7, gn7, gd7, ge7⟩ := rep_get Hh Hr 1 (by decide) hka
  refine g_Vq (As := [.int (nI ka)]) (rest := []) F hP hS (k_get l A G w (ad 1 1) (ad 2 1) (S 0 1).toNat gc7 gm7 gf7 ka ga7 gb7 gk7 gn7 gd7) (cwV 1 hts gX6_mesh_Jx4a65c_get_915e3 rfl rfl rfl cd_Jx4a65c_get_915e3 ⟨by rw [hR]; exact Nat.le_of_ble_eq_true rfl, by rw [hR]; exact Nat.le_of_ble_eq_true rfl⟩) ga7 rfl rfl rfl hl.1 (Nat.le_of_ble_eq_true rfl) dX6_mesh_15 ⟨by rw [hR]; exact Nat.le_of_ble_eq_true rfl, by rw [hR]; exact Nat.le_of_ble_eq_true rfl⟩ rfl (fun r8 w9 H locs h10 hP hS => ?_)
  have hr8 := h10.1
  rw [h10.2] at hP
  have f11 := rep_ge Hh Hr hka
  rw [hr8, ge7, show va_rf (some (ad (elk 1) ka)) = .ref (ad 5 ka) from rfl]
  refine g_cast F hP (C := RX1) (T := TX1) (N := 5) f11 rfl (List.mem_cons_of_mem _ (List.mem_append_left _ (List.mem_append_left _ (List.mem_append_left _ (List.mem_append_left _ (List.mem_append_left _ (List.mem_append_left _ (List.mem_append_left _ (List.mem_append_left _ (List.mem_append_left _ (List.mem_append_left _ (List.mem_append_left _ (List.mem_append_left _ (List.mem_append_left _ (List.mem_of_getElem? (i := 5) rfl))))))))))))))) dX6_mesh_18 ?_
  refine lv_astore_n (lv' := [(3, .ref (ad 5 ka)), (0, .ref (ad 0 0)), (1, .int (nI ka)), (2, .int (nI kb))]) hx hb dX6_mesh_21 rfl hl (by decide) rfl (fun ls hl => ?_)
  refine lv_aload_n hx hb dX6_mesh_22 rfl (lv_at hl 1 rfl) ?_
  refine g_get F hP (C := RX6) (T := TX6) (N := 6) iX6 hx0 rfl 1 (by decide) (List.mem_cons_of_mem _ (List.mem_append_left _ (List.mem_append_left _ (List.mem_append_left _ (List.mem_append_left _ (List.mem_append_left _ (List.mem_append_left _ (List.mem_append_left _ (List.mem_append_left _ (List.mem_append_left _ (List.mem_append_left _ (List.mem_append_left _ (List.mem_append_left _ (List.mem_append_left _ (List.mem_of_getElem? (i := 4) rfl))))))))))))))) (fun _ h9 => h9) rfl dX6_mesh_23 ?_
  refine lv_iload_n hx hb dX6_mesh_26 rfl (lv_at hl 3 rfl) ?_
  obtain ⟨gm12, gc12, gf12, ga12, gb12, gk12, gn12, gd12, ge12⟩ := rep_get Hh Hr 1 (by decide) hkb
  refine g_Vq (As := [.int (nI kb)]) (rest := []) F hP hS (k_get l A G w (ad 1 1) (ad 2 1) (S 0 1).toNat gc12 gm12 gf12 kb ga12 gb12 gk12 gn12 gd12) (cwV 1 hts gX6_mesh_Jx4a65c_get_915e3 rfl rfl rfl cd_Jx4a65c_get_915e3 ⟨by rw [hR]; exact Nat.le_of_ble_eq_true rfl, by rw [hR]; exact Nat.le_of_ble_eq_true rfl⟩) ga12 rfl rfl rfl hl.1 (Nat.le_of_ble_eq_true rfl) dX6_mesh_27 ⟨by rw [hR]; exact Nat.le_of_ble_eq_true rfl, by rw [hR]; exact Nat.le_of_ble_eq_true rfl⟩ rfl (fun r13 w14 H locs h15 hP hS => ?_)
  have hr13 := h15.1
  rw [h15.2] at hP
  have f16 := rep_ge Hh Hr hkb
  rw [hr13, ge12, show va_rf (some (ad (elk 1) kb)) = .ref (ad 5 kb) from rfl]
  refine g_cast F hP (C := RX1) (T := TX1) (N := 5) f16 rfl (List.mem_cons_of_mem _ (List.mem_append_left _ (List.mem_append_left _ (List.mem_append_left _ (List.mem_append_left _ (List.mem_append_left _ (List.mem_append_left _ (List.mem_append_left _ (List.mem_append_left _ (List.mem_append_left _ (List.mem_append_left _ (List.mem_append_left _ (List.mem_append_left _ (List.mem_append_left _ (List.mem_of_getElem? (i := 5) rfl))))))))))))))) dX6_mesh_30 ?_
  refine lv_astore (lv' := [(4, .ref (ad 5 kb)), (3, .ref (ad 5 ka)), (0, .ref (ad 0 0)), (1, .int (nI ka)), (2, .int (nI kb))]) hx hb dX6_mesh_33 hl (by decide) rfl (fun ls hl => ?_)
  have fg1 := rep_ge Hh Hr hka
  obtain ⟨rb1, erb1, hb1⟩ := g_bi (Hi.2.2.1 _ hka).2.2.2.2.2.2.2.2
  rw [erb1] at fg1
  have hsf1 : (((S 4 ka).toNat : Nat) : Int) < S 0 0 := by have := Hi.2.2.1 _ hka; omega
  have f17 := rep_sh Hh Hr hsf1
  have f18 := rep_fr Hh Hr hsf1
  have fg2 := rep_ge Hh Hr hkb
  obtain ⟨rb2, erb2, hb2⟩ := g_bi (Hi.2.2.1 _ hkb).2.2.2.2.2.2.2.2
  rw [erb2] at fg2
  have hsf2 : (((S 4 kb).toNat : Nat) : Int) < S 0 0 := by have := Hi.2.2.1 _ hkb; omega
  have f19 := rep_sh Hh Hr hsf2
  have f20 := rep_fr Hh Hr hsf2
  refine lv_aload_n hx hb dX6_mesh_35 rfl (lv_at hl 1 rfl) ?_
  refine lv_aload hx hb dX6_mesh_36 (lv_at hl 0 rfl) ?_
  refine g_Vi (As := [.ref (ad 5 kb)]) (rest := []) F hP hS (k_X1_suits l A G w (ad 5 ka) (ad 5 kb) _ _ _ _ rb1 _ _ _ _ rb2 fg1 fg2) (cwV 1 hts gX6_mesh_X1_suits rfl rfl rfl cd_X1_suits ⟨by rw [hR]; exact Nat.le_of_ble_eq_true rfl, by rw [hR]; exact Nat.le_of_ble_eq_true rfl⟩) fg1 rfl rfl rfl hl.1 (Nat.le_of_ble_eq_true rfl) dX6_mesh_38 ⟨by rw [hR]; exact Nat.le_of_ble_eq_true rfl, by rw [hR]; exact Nat.le_of_ble_eq_true rfl⟩ rfl (fun r21 w22 H locs h23 hP hS => ?_)
  have hr21 := h23.1
  rw [h23.2] at hP
  rw [hr21]
  refine lv_if_eq (tgt := 54) hx hb dX6_mesh_41 (by decide) (fun c24 => ?_) (fun c24 => ?_)
  · have yc24 := of_decide_eq_false (g_b0.mp c24)
    rw [su32 Hh Hr Hi hka hkb hb1 hb2] at yc24
    rw [hQ]
    refine g_throw F hP hS hlt rfl (hZ.2.2.2.2.2.2.2.1 ("java/lang/IllegalArgumentException", "java/lang/IllegalArgumentException") (List.mem_of_getElem? (i := 0) rfl)) (by decide +kernel) (List.mem_cons_of_mem _ (List.mem_append_left _ (List.mem_append_left _ (List.mem_append_left _ (List.mem_append_left _ (List.mem_append_left _ (List.mem_append_left _ (List.mem_append_left _ (List.mem_append_left _ (List.mem_append_left _ (List.mem_append_left _ (List.mem_append_left _ (List.mem_append_left _ (List.mem_append_left _ (List.mem_of_getElem? (i := 0) rfl))))))))))))))) (List.mem_cons_of_mem _ (List.mem_append_left _ (List.mem_append_left _ (List.mem_append_left _ (List.mem_append_left _ (List.mem_append_left _ (List.mem_append_left _ (List.mem_append_left _ (List.mem_append_left _ (List.mem_append_left _ (List.mem_append_left _ (List.mem_append_left _ (List.mem_append_left _ (List.mem_append_left _ (List.mem_of_getElem? (i := 1) rfl))))))))))))))) (cls := "java/lang/IllegalArgumentException") (text := "these gears can't be meshed") (List.mem_of_getElem? (i := 0) rfl) (fun w h => List.mem_cons_of_mem _ (List.mem_append_left _ (List.mem_append_left _ (List.mem_append_right _ (h))))) xt_IllegalAr_81_b (fun w h => (List.mem_cons.mp h).elim (fun e => by rw [e]; rfl) (fun h => (List.mem_cons.mp h).elim (fun e => by rw [e]; rfl) (fun h => xt_IllegalAr_81_g w h))) hl.1 dX6_mesh_54 dX6_mesh_57 dX6_mesh_58 dX6_mesh_60 dX6_mesh_63 hout (by rw [hR]; exact Nat.le_of_ble_eq_true rfl) (by rw [hR]; exact Nat.le_of_ble_eq_true rfl) (by rw [hR]; exact Nat.le_of_ble_eq_true rfl) (by rw [hR]; exact Nat.le_of_ble_eq_true rfl) hlocks ?_ (by decide) (by decide)
    exact ⟨rfl, Or.inr (Or.inl ⟨rfl, (if_pos ⟨ska, skb⟩).trans (by rw [nka, nkb]; exact if_neg (fun q => yc24 q.1))⟩)⟩
  · have yc24 := of_decide_eq_true (g_b1.mp c24)
    rw [su32 Hh Hr Hi hka hkb hb1 hb2] at yc24
    refine lv_aload_n hx hb dX6_mesh_44 rfl (lv_at hl 2 rfl) ?_
    refine lv_aload_n hx hb dX6_mesh_45 rfl (lv_at hl 1 rfl) ?_
    refine lv_aload hx hb dX6_mesh_46 (lv_at hl 0 rfl) ?_
    refine g_Vi (As := [.ref (ad 5 ka), .ref (ad 5 kb)]) (rest := []) F hP hS (k_X6_areMeshed l A G w ad Cn S T ka kb Hh Hr Hi hka hkb) (cwV 2 hts gX6_mesh_X6_areMeshed rfl rfl rfl cd_X6_areMeshed ⟨by rw [hR]; exact Nat.le_of_ble_eq_true rfl, by rw [hR]; exact Nat.le_of_ble_eq_true rfl⟩) hx0 rfl rfl rfl hl.1 (Nat.le_of_ble_eq_true rfl) dX6_mesh_48 ⟨by rw [hR]; exact Nat.le_of_ble_eq_true rfl, by rw [hR]; exact Nat.le_of_ble_eq_true rfl⟩ rfl (fun r25 w26 H locs h27 hP hS => ?_)
    obtain ⟨b0, eb0, hb0⟩ := h27.1
    rw [h27.2] at hP
    rw [eb0]
    refine lv_if_eq (tgt := 64) hx hb dX6_mesh_51 (by decide) (fun c28 => ?_) (fun c28 => ?_)
    · have yc28 : ¬ meshedP S ka kb := fun q => by
        have q1 : b0 = false := g_b0.mp c28
        rw [hb0.mpr q] at q1
        cases q1
      refine lv_aload_n hx hb dX6_mesh_64 rfl (lv_at hl 2 rfl) ?_
      refine g_get F hP (C := RX6) (T := TX6) (N := 6) iX6 hx0 rfl 2 (by decide) (List.mem_cons_of_mem _ (List.mem_append_left _ (List.mem_append_left _ (List.mem_append_left _ (List.mem_append_left _ (List.mem_append_left _ (List.mem_append_left _ (List.mem_append_left _ (List.mem_append_left _ (List.mem_append_left _ (List.mem_append_left _ (List.mem_append_left _ (List.mem_append_left _ (List.mem_append_left _ (List.mem_of_getElem? (i := 6) rfl))))))))))))))) (fun _ h9 => h9) rfl dX6_mesh_65 ?_
      refine g_Vi (As := []) (rest := []) F hP hS (k_size l A G w (ad 1 2) a2 m2 (iL (S 0 2)) hz2) (cwV 0 hts gX6_mesh_Jx4a65c_size_8abf5 rfl rfl rfl cd_Jx4a65c_size_8abf5 ⟨by rw [hR]; exact Nat.le_of_ble_eq_true rfl, by rw [hR]; exact Nat.le_of_ble_eq_true rfl⟩) hz2 rfl rfl rfl hl.1 (Nat.le_of_ble_eq_true rfl) dX6_mesh_68 ⟨by rw [hR]; exact Nat.le_of_ble_eq_true rfl, by rw [hR]; exact Nat.le_of_ble_eq_true rfl⟩ rfl (fun r29 w30 H locs h31 hP hS => ?_)
      have hr29 := h31.1
      rw [h31.2] at hP
      rw [hr29]
      refine lv_bipush (v := 16) hx hb dX6_mesh_71 (by decide) ?_
      refine lv_icmp_lt (tgt := 86) hx hb dX6_mesh_73 (by decide) (fun c32 => ?_) (fun c32 => ?_)
      · rw [show (16 : Int32) = iL 16 from rfl, iL_lt (by omega) (by omega) (by omega) (by omega)] at c32
        refine lv_aload_n hx hb dX6_mesh_86 rfl (lv_at hl 2 rfl) ?_
        refine g_get F hP (C := RX6) (T := TX6) (N := 6) iX6 hx0 rfl 2 (by decide) (List.mem_cons_of_mem _ (List.mem_append_left _ (List.mem_append_left _ (List.mem_append_left _ (List.mem_append_left _ (List.mem_append_left _ (List.mem_append_left _ (List.mem_append_left _ (List.mem_append_left _ (List.mem_append_left _ (List.mem_append_left _ (List.mem_append_left _ (List.mem_append_left _ (List.mem_append_left _ (List.mem_of_getElem? (i := 6) rfl))))))))))))))) (fun _ h9 => h9) rfl dX6_mesh_87 ?_
        refine g_new F hP hS (ci := 3) (C := RX2) (T := TX2) (N := 3) (fs := [.null, .null, .null]) iX2 tyX2 tyX2_ok (List.mem_cons_of_mem _ (List.mem_append_left _ (List.mem_append_left _ (List.mem_append_left _ (List.mem_append_left _ (List.mem_append_left _ (List.mem_append_left _ (List.mem_append_left _ (List.mem_append_left _ (List.mem_append_left _ (List.mem_append_left _ (List.mem_append_left _ (List.mem_append_left _ (List.mem_append_left _ (List.mem_of_getElem? (i := 7) rfl))))))))))))))) (List.mem_cons_of_mem _ (List.mem_append_left _ (List.mem_append_left _ (List.mem_append_left _ (List.mem_append_left _ (List.mem_append_left _ (List.mem_append_left _ (List.mem_append_left _ (List.mem_append_left _ (List.mem_append_left _ (List.mem_append_left _ (List.mem_append_left _ (List.mem_append_left _ (List.mem_append_left _ (List.mem_of_getElem? (i := 8) rfl))))))))))))))) (List.mem_cons_of_mem _ (List.mem_append_left _ (List.mem_append_left _ (List.mem_append_left _ (List.mem_append_left _ (List.mem_append_left _ (List.mem_append_left _ (List.mem_append_left _ (List.mem_append_left _ (List.mem_append_left _ (List.mem_append_left _ (List.mem_append_left _ (List.mem_append_left _ (List.mem_append_left _ (List.mem_of_getElem? (i := 9) rfl))))))))))))))) rfl (by intro j hj; match j, hj with | 0, _ => rfl | 1, _ => rfl | 2, _ => rfl | j + 3, hj => exact absurd hj (by omega)) (by rw [hR]; exact Nat.le_of_ble_eq_true rfl) (by rw [hR]; exact Nat.le_of_ble_eq_true rfl) dX6_mesh_90 (fun q33 H nq33 hP hS => ?_)
        obtain ⟨w34, ew34⟩ : ∃ z, z = g_up w q33 (.inr (3, [.null, .null, .null])) := ⟨_, rfl⟩
        have hP : g_P A G w34 H := by rw [ew34]; exact hP
        have f35 : w34 (ad 0 0) = some (.inr (7, [.ref (ad 1 0), .ref (ad 1 1), .ref (ad 1 2), .ref (ad 1 3), .int (iL (S 0 4)), .int (iL (S 0 5))])) := by rw [ew34]; exact g_up_f hx0 (g_neq hx0 nq33)
        have f36 : w34 (ad 1 1) = some (.inr (0, [.int m1, .ref a1, .int (iL (S 0 1))])) := by rw [ew34]; exact g_up_f hz1 (g_neq hz1 nq33)
        have f37 : w34 (ad 1 2) = some (.inr (0, [.int m2, .ref a2, .int (iL (S 0 2))])) := by rw [ew34]; exact g_up_f hz2 (g_neq hz2 nq33)
        have f38 : w34 (ad 5 ka) = some (.inr (2, [.ref (ad 3 (S 4 ka).toNat), .int (iL (S 5 ka)), .int (iL (S 6 ka)), .int (iL (S 7 ka)), .int (g_b rb1)])) := by rw [ew34]; exact g_up_f fg1 (g_neq fg1 nq33)
        have f39 : w34 (ad 5 kb) = some (.inr (2, [.ref (ad 3 (S 4 kb).toNat), .int (iL (S 5 kb)), .int (iL (S 6 kb)), .int (iL (S 7 kb)), .int (g_b rb2)])) := by rw [ew34]; exact g_up_f fg2 (g_neq fg2 nq33)
        have f40 : w34 (ad 3 ((S 4 ka).toNat)) = some (.inr (5, [.int (iL (S 1 (S 4 ka).toNat)), .int (iL (S 2 (S 4 ka).toNat)), .int (iL (S 3 (S 4 ka).toNat)), .int (iL (T 2 (S 4 ka).toNat)), .ref (ad 4 (S 4 ka).toNat)])) := by rw [ew34]; exact g_up_f f17 (g_neq f17 nq33)
        have f41 : w34 (ad 4 ((S 4 ka).toNat)) = some (.inr (1, [.long (zL (T 0 (S 4 ka).toNat)), .long (zL (T 1 (S 4 ka).toNat))])) := by rw [ew34]; exact g_up_f f18 (g_neq f18 nq33)
        have f42 : w34 (ad 3 ((S 4 kb).toNat)) = some (.inr (5, [.int (iL (S 1 (S 4 kb).toNat)), .int (iL (S 2 (S 4 kb).toNat)), .int (iL (S 3 (S 4 kb).toNat)), .int (iL (T 2 (S 4 kb).toNat)), .ref (ad 4 (S 4 kb).toNat)])) := by rw [ew34]; exact g_up_f f19 (g_neq f19 nq33)
        have f43 : w34 (ad 4 ((S 4 kb).toNat)) = some (.inr (1, [.long (zL (T 0 (S 4 kb).toNat)), .long (zL (T 1 (S 4 kb).toNat))])) := by rw [ew34]; exact g_up_f f20 (g_neq f20 nq33)
        have f44 : w34 q33 = some (.inr (3, [.null, .null, .null])) := by rw [ew34]; exact g_up_s _ _ _
        refine lv_dup hx hb dX6_mesh_93 rfl ?_
        refine lv_aload_n hx hb dX6_mesh_94 rfl (lv_at hl 1 rfl) ?_
        refine lv_aload hx hb dX6_mesh_95 (lv_at hl 0 rfl) ?_
        refine g_Iv (As := [.ref (ad 5 ka), .ref (ad 5 kb)]) (rest := [.ref q33, .ref (ad 1 2)]) F hP hS (k_X2_init l A G w34 q33 (ad 5 ka) (ad 5 kb) _ _ _ _ rb1 _ _ _ _ rb2 _ _ _ _ _ _ _ _ _ _ f44 f38 f39 f40 f42) (cwI 2 hts gX6_mesh_X2_init rfl rfl rfl (hts _ (List.mem_cons_of_mem _ (List.mem_append_left _ (List.mem_append_left _ (List.mem_append_left _ (List.mem_append_left _ (List.mem_append_left _ (List.mem_append_left _ (List.mem_append_left _ (List.mem_append_left _ (List.mem_append_left _ (List.mem_append_left _ (List.mem_append_left _ (List.mem_append_left _ (List.mem_append_left _ (List.mem_of_getElem? (i := 9) rfl)))))))))))))))) (hts _ (List.mem_cons_of_mem _ (List.mem_append_left _ (List.mem_append_left _ (List.mem_append_left _ (List.mem_append_left _ (List.mem_append_left _ (List.mem_append_left _ (List.mem_append_left _ (List.mem_append_left _ (List.mem_append_left _ (List.mem_append_left _ (List.mem_append_left _ (List.mem_append_left _ (List.mem_append_right _ (List.mem_append_right _ (List.mem_append_left _ (List.mem_of_getElem? (i := 16) rfl)))))))))))))))))) (hts _ (List.mem_cons_of_mem _ (List.mem_append_left _ (List.mem_append_left _ (List.mem_append_left _ (List.mem_append_left _ (List.mem_append_left _ (List.mem_append_left _ (List.mem_append_left _ (List.mem_append_left _ (List.mem_append_left _ (List.mem_append_left _ (List.mem_append_left _ (List.mem_append_left _ (List.mem_append_right _ (List.mem_append_right _ (List.mem_append_left _ (List.mem_of_getElem? (i := 17) rfl)))))))))))))))))) rfl cd_X2_init ⟨by rw [hR]; exact Nat.le_of_ble_eq_true rfl, by rw [hR]; exact Nat.le_of_ble_eq_true rfl⟩) rfl hl.1 (Nat.le_of_ble_eq_true rfl) dX6_mesh_97 ⟨by rw [hR]; exact Nat.le_of_ble_eq_true rfl, by rw [hR]; exact Nat.le_of_ble_eq_true rfl⟩ rfl (fun w46 H locs h47 hP hS => ?_)
        obtain ⟨qq1, qq2, qq3, qq4, qq5, fS, ⟨nn1, nn2, nn3, nn4, nn5⟩, ⟨dd1_2, dd1_3, dd1_4, dd1_5, dd2_3, dd2_4, dd2_5, dd3_4, dd3_5, dd4_5⟩, fs0, ewi⟩ := h47
        obtain ⟨ad2, C2, g2, H2, R2, dA, ⟨t0, t1, t2, t3, t4, t5⟩, cc0, cc1, cc2, cc3, cc4, cc5⟩ := six_new (b := 6) (n := (S 0 2).toNat) Hh Hr Hi (fun k i h => by unfold relN at h; omega) nq33 ew34 nn1 nn2 nn3 nn4 nn5 dd1_2 dd1_3 dd1_4 dd1_5 dd2_3 dd2_4 dd2_5 dd3_4 dd3_5 dd4_5 ewi
        have t0 : ad2 6 (S 0 2).toNat = q33 := t0
        have cc0 : C2 6 (S 0 2).toNat = _ := cc0
        have t1 : ad2 7 (S 0 2).toNat = qq1 := t1
        have cc1 : C2 7 (S 0 2).toNat = _ := cc1
        have t2 : ad2 8 (S 0 2).toNat = qq2 := t2
        have cc2 : C2 8 (S 0 2).toNat = _ := cc2
        have t3 : ad2 10 (S 0 2).toNat = qq3 := t3
        have cc3 : C2 10 (S 0 2).toNat = _ := cc3
        have t4 : ad2 16 (S 0 2).toNat = qq4 := t4
        have cc4 : C2 16 (S 0 2).toNat = _ := cc4
        have t5 : ad2 17 (S 0 2).toNat = qq5 := t5
        have cc5 : C2 17 (S 0 2).toNat = _ := cc5
        have d10 : ad2 1 2 = ad 1 2 := dA 1 2 (by omega)
        have d00 : ad2 0 0 = ad 0 0 := dA 0 0 (by omega)
        have hv := H2.1 _ _ _ cc0
        rw [t0] at hv
        obtain ⟨ha, mo, fl, hL, l1, l2, hf⟩ := listW_j H2 R2 Hi (j := 2) (by decide) (ci := 3) (fun k hk => ⟨_, rep_me H2 R2 hk⟩)
        obtain ⟨m9, a9, hz9⟩ := rep_size H2 R2 2 (by decide)
        rw [d10] at hL hz9
        refine g_Vi (As := [.ref q33]) (rest := []) F hP hS (k_addU l A G w46 (ad 1 2) (ad2 2 2) (S 0 2).toNat 3 ha mo fl hL q33 _ _ hv rfl (by decide +kernel) (g_nci hv hz9 (by decide))) (cwV 1 hts gX6_mesh_Jx4a65c_add_9ea2d rfl rfl rfl cd_Jx4a65c_add_9ea2d ⟨by rw [hR]; exact Nat.le_of_ble_eq_true rfl, by rw [hR]; exact Nat.le_of_ble_eq_true rfl⟩) hz9 rfl rfl rfl hl.1 (Nat.le_of_ble_eq_true rfl) dX6_mesh_100 ⟨by rw [hR]; exact Nat.le_of_ble_eq_true rfl, by rw [hR]; exact Nat.le_of_ble_eq_true rfl⟩ rfl (fun r48 w49 H locs h50 hP hS => ?_)
        rw [← d10] at h50
        have P9 := h50
        rw [show q33 = ad2 (elk 2) (S 0 2).toNat from t0.symm] at P9
        obtain ⟨ad3, C3, T3, z00, g3, H3, R3, I3⟩ := mesh_fin (a := nI ka) (b := nI kb) Hi g2 H2 R2 d00 ska skb (by rw [nka, nkb]; exact ⟨yc24, yc28⟩) c32 (by rw [nka]; exact hb1) (by rw [nkb]; exact hb2) (by rw [nka, nkb, dA 5 ka (by omega), dA 5 kb (by omega), t1]; exact cc0) (by rw [t2, t3]; exact cc1) cc2 (by rw [nka, dA 3 _ (by omega)]; exact cc4) (by rw [nkb, dA 3 _ (by omega)]; exact cc5) cc3 (by rw [t4]; exact fs0.1) (by rw [t5]; exact fs0.2) (by rw [nka]) (by rw [nkb]) l1 l2 hf P9
        have hxt := rep_x H3 R3
        rw [z00] at hxt
        refine lv_pop hx hb dX6_mesh_103 rfl ?_
        refine lv_aload_n hx hb dX6_mesh_104 rfl (lv_at hl 2 rfl) ?_
        have tq := k_X6_tellSpeeds l A G w49 ad3 C3 (nxMesh S (nI ka) (nI kb)) T3 H3 R3 I3
        rw [z00] at tq
        refine g_Vv (As := []) (rest := []) F hP hS (tq) (cwV 0 hts gX6_mesh_X6_tellSpeeds rfl rfl rfl cd_X6_tellSpeeds ⟨by rw [hR]; exact Nat.le_of_ble_eq_true rfl, by rw [hR]; exact Nat.le_of_ble_eq_true rfl⟩) hxt rfl rfl rfl hl.1 (Nat.le_of_ble_eq_true rfl) dX6_mesh_105 ⟨by rw [hR]; exact Nat.le_of_ble_eq_true rfl, by rw [hR]; exact Nat.le_of_ble_eq_true rfl⟩ rfl (fun w52 H locs h53 hP hS => ?_)
        have aft := after_tell I3 z00 g3 h53
        obtain ⟨ad4, C4, T4, z0, z1, z2⟩ := id aft
        have hx3 := rep_x z2.1 z2.2.1
        rw [z0] at hx3
        obtain ⟨m32, a32, hz32⟩ := rep_size z2.1 z2.2.1 2 (by decide)
        refine lv_aload_n hx hb dX6_mesh_108 rfl (lv_at hl 2 rfl) ?_
        refine g_get F hP (C := RX6) (T := TX6) (N := 6) iX6 hx3 rfl 2 (by decide) (List.mem_cons_of_mem _ (List.mem_append_left _ (List.mem_append_left _ (List.mem_append_left _ (List.mem_append_left _ (List.mem_append_left _ (List.mem_append_left _ (List.mem_append_left _ (List.mem_append_left _ (List.mem_append_left _ (List.mem_append_left _ (List.mem_append_left _ (List.mem_append_left _ (List.mem_append_left _ (List.mem_of_getElem? (i := 6) rfl))))))))))))))) (fun _ h9 => h9) rfl dX6_mesh_109 ?_
        refine g_Vi (As := []) (rest := []) F hP hS (k_size l A G w52 (ad4 1 2) a32 m32 (iL ((nxMesh S (nI ka) (nI kb)) 0 2)) hz32) (cwV 0 hts gX6_mesh_Jx4a65c_size_8abf5 rfl rfl rfl cd_Jx4a65c_size_8abf5 ⟨by rw [hR]; exact Nat.le_of_ble_eq_true rfl, by rw [hR]; exact Nat.le_of_ble_eq_true rfl⟩) hz32 rfl rfl rfl hl.1 (Nat.le_of_ble_eq_true rfl) dX6_mesh_112 ⟨by rw [hR]; exact Nat.le_of_ble_eq_true rfl, by rw [hR]; exact Nat.le_of_ble_eq_true rfl⟩ rfl (fun r54 w55 H locs h56 hP hS => ?_)
        have hr54 := h56.1
        rw [h56.2] at hP
        rw [hr54]
        refine lv_iconst (v := 1) hx hb dX6_mesh_115 (by decide) ?_
        refine lv_isub hx hb dX6_mesh_116 ?_
        refine lv_topi (fun v57 ev57 => ?_)
        obtain rfl : v57 = iL (S 0 2) := by
          rw [ev57]
          rw [show nxMesh S (nI ka) (nI kb) 0 2 = S 0 2 + 1 from by unfold nxMesh; rw [up2_k _ _ _ (by decide), up2_k _ _ _ (by decide), up2_s], show (1 : Int32) = iL 1 from rfl, iL_sub]
          rw [show S 0 2 + 1 - 1 = S 0 2 from by omega]
        rw [hQ]
        refine g_xiret F hP hS hlocks hr dX6_mesh_117 (by first | exact Nat.le_of_ble_eq_true rfl | omega) (by first | exact Nat.le_of_ble_eq_true rfl | omega) ?_
        exact ⟨(if_pos ⟨ska, skb⟩).trans (by rw [nka, nkb]; exact (if_pos ⟨yc24, yc28⟩).trans (if_pos c32)), rfl, aft⟩
      · rw [show (16 : Int32) = iL 16 from rfl, iL_lt (by omega) (by omega) (by omega) (by omega)] at c32
        rw [hQ]
        refine g_throw F hP hS hlt rfl (hZ.2.2.2.2.2.2.2.1 ("java/lang/IllegalStateException", "java/lang/IllegalStateException") (List.mem_of_getElem? (i := 1) rfl)) (by decide +kernel) (List.mem_cons_of_mem _ (List.mem_append_left _ (List.mem_append_left _ (List.mem_append_left _ (List.mem_append_left _ (List.mem_append_left _ (List.mem_append_left _ (List.mem_append_left _ (List.mem_append_left _ (List.mem_append_left _ (List.mem_append_left _ (List.mem_append_left _ (List.mem_append_left _ (List.mem_append_left _ (List.mem_of_getElem? (i := 2) rfl))))))))))))))) (List.mem_cons_of_mem _ (List.mem_append_left _ (List.mem_append_left _ (List.mem_append_left _ (List.mem_append_left _ (List.mem_append_left _ (List.mem_append_left _ (List.mem_append_left _ (List.mem_append_left _ (List.mem_append_left _ (List.mem_append_left _ (List.mem_append_left _ (List.mem_append_left _ (List.mem_append_left _ (List.mem_of_getElem? (i := 3) rfl))))))))))))))) (cls := "java/lang/IllegalStateException") (text := "no more meshes") (List.mem_of_getElem? (i := 1) rfl) (fun w h => List.mem_cons_of_mem _ (List.mem_append_left _ (List.mem_append_right _ (h)))) xt_IllegalSt_44_b (fun w h => (List.mem_cons.mp h).elim (fun e => by rw [e]; rfl) (fun h => (List.mem_cons.mp h).elim (fun e => by rw [e]; rfl) (fun h => xt_IllegalSt_44_g w h))) hl.1 dX6_mesh_76 dX6_mesh_79 dX6_mesh_80 dX6_mesh_82 dX6_mesh_85 hout (by rw [hR]; exact Nat.le_of_ble_eq_true rfl) (by rw [hR]; exact Nat.le_of_ble_eq_true rfl) (by rw [hR]; exact Nat.le_of_ble_eq_true rfl) (by rw [hR]; exact Nat.le_of_ble_eq_true rfl) hlocks ?_ (by decide) (by decide)
        exact ⟨rfl, Or.inr (Or.inr ⟨rfl, (if_pos ⟨ska, skb⟩).trans (by rw [nka, nkb]; exact (if_pos ⟨yc24, yc28⟩).trans (if_neg c32))⟩)⟩
    · have yc28 : meshedP S ka kb := hb0.mp (g_b1.mp c28)
      rw [hQ]
      refine g_throw F hP hS hlt rfl (hZ.2.2.2.2.2.2.2.1 ("java/lang/IllegalArgumentException", "java/lang/IllegalArgumentException") (List.mem_of_getElem? (i := 0) rfl)) (by decide +kernel) (List.mem_cons_of_mem _ (List.mem_append_left _ (List.mem_append_left _ (List.mem_append_left _ (List.mem_append_left _ (List.mem_append_left _ (List.mem_append_left _ (List.mem_append_left _ (List.mem_append_left _ (List.mem_append_left _ (List.mem_append_left _ (List.mem_append_left _ (List.mem_append_left _ (List.mem_append_left _ (List.mem_of_getElem? (i := 0) rfl))))))))))))))) (List.mem_cons_of_mem _ (List.mem_append_left _ (List.mem_append_left _ (List.mem_append_left _ (List.mem_append_left _ (List.mem_append_left _ (List.mem_append_left _ (List.mem_append_left _ (List.mem_append_left _ (List.mem_append_left _ (List.mem_append_left _ (List.mem_append_left _ (List.mem_append_left _ (List.mem_append_left _ (List.mem_of_getElem? (i := 1) rfl))))))))))))))) (cls := "java/lang/IllegalArgumentException") (text := "these gears can't be meshed") (List.mem_of_getElem? (i := 0) rfl) (fun w h => List.mem_cons_of_mem _ (List.mem_append_left _ (List.mem_append_left _ (List.mem_append_right _ (h))))) xt_IllegalAr_81_b (fun w h => (List.mem_cons.mp h).elim (fun e => by rw [e]; rfl) (fun h => (List.mem_cons.mp h).elim (fun e => by rw [e]; rfl) (fun h => xt_IllegalAr_81_g w h))) hl.1 dX6_mesh_54 dX6_mesh_57 dX6_mesh_58 dX6_mesh_60 dX6_mesh_63 hout (by rw [hR]; exact Nat.le_of_ble_eq_true rfl) (by rw [hR]; exact Nat.le_of_ble_eq_true rfl) (by rw [hR]; exact Nat.le_of_ble_eq_true rfl) (by rw [hR]; exact Nat.le_of_ble_eq_true rfl) hlocks ?_ (by decide) (by decide)
      exact ⟨rfl, Or.inr (Or.inl ⟨rfl, (if_pos ⟨ska, skb⟩).trans (by rw [nka, nkb]; exact if_neg (fun q => q.2 yc28))⟩)⟩
