theorem cd_X7_toldOf : yX7_toldOf.cls = RX7 ∧ yX7_toldOf.cls ≠ "java/lang/invoke/MethodHandle" ∧ yX7_toldOf.cls ≠ "java/lang/invoke/VarHandle" ∧ (parseMethodDescriptor yX7_toldOf.desc).map (fun d => d.parameters.length) = some 1 := by decide +kernel
theorem cd_X7_tellBySet : yX7_tellBySet.cls = RX7 ∧ yX7_tellBySet.cls ≠ "java/lang/invoke/MethodHandle" ∧ yX7_tellBySet.cls ≠ "java/lang/invoke/VarHandle" ∧ (parseMethodDescriptor yX7_tellBySet.desc).map (fun d => d.parameters.length) = some 1 := by decide +kernel
theorem cd_X7_tellByMesh : yX7_tellByMesh.cls = RX7 ∧ yX7_tellByMesh.cls ≠ "java/lang/invoke/MethodHandle" ∧ yX7_tellByMesh.cls ≠ "java/lang/invoke/VarHandle" ∧ (parseMethodDescriptor yX7_tellByMesh.desc).map (fun d => d.parameters.length) = some 1 := by decide +kernel
set_option maxHeartbeats 4000000 in
set_option maxRecDepth 100000 in
theorem k_X7_solve (l : Launch) (A : Nat → Prop) (G : g_C) (w : g_W) (md : Nat → Nat) (S : Sg) (th : Int32) (tp bt : Int64) (Fm : Nat → Nat → Int32) (L : Nat → Nat → Int64) (Hm : modW G w md S th tp bt Fm L) (Hj : modI md) (Hf : modF S Fm) (Hi : invS S) : mV l yX7_solve wsX7_solve ({ frames := 5, cells := 2, slots := 20, locals := 152 } : Room) [.ref (md 0)] A G w (fun w' => solP G md w w' S (told S) th Fm) 2 20 := by
  refine g_ofV (cc := cX7_solve) (maxL := 6) (ret := none) (own := RX7) (by decide) rfl rfl (Nat.le_of_ble_eq_true rfl) ?_
  intro p e R s m args below meth c Q ls hR F hP hS hlocks hr hnm0 hQ hl
  obtain ⟨⟨hx, hb, hml, hown, hts⟩, hK, hZ, hA⟩ := id F
  generalize hH0 : s.heap = H at hP ⊢
  have hS : va_S A s.heap H [] := by rw [← hH0]; exact va_S.rf
  generalize ([] : List Loc) = locs at hS ⊢
  have hl : lv_has ls 6 [(0, .ref (md 0))] := hl
  have iX7 : ∀ w ∈ u_ws RX7 TX7 20, w ∈ wsX7_solve := fun w h => List.mem_cons_of_mem _ (List.mem_append_right _ (h))
  obtain ⟨hx0, hy1, hy2, hy3, hy4, hy5, hy6, hy7, hy8, hy9, hy10, hy11⟩ := id Hm
  have hi := Hi.1
  refine lv_iconst (v := 0) hx hb dX7_solve_0 (by decide) ?_
  refine lv_istore_n (lv' := [(1, .int 0), (0, .ref (md 0))]) hx hb dX7_solve_1 rfl hl (by decide) rfl (fun ls hl => ?_)
  have L2 : ∀ (n : Nat) (k : Nat) (La : Nat → Int64) (Lb : Nat → Int64) (Fs : Nat → Int32) (wa : g_W) (H : Heap) (locs : List Loc) (ls : Array Slot), (S 0 0).toNat + 1 ≤ k + n → ((k : Int) ≤ S 0 0) → (mFr md w wa) → (∀ j, j < k → T0st S La Lb Fs j) → wa (md 0) = some (.inr (8, [.int th, .int (iL (S 0 0)), .ref (md 1), .ref (md 2), .ref (md 3), .int (iL (S 0 4)), .int (iL (S 0 5)), .int (iL (S 0 1)), .ref (md 4), .ref (md 5), .int (iL (S 0 2)), .ref (md 6), .ref (md 7), .int (iL (S 0 3)), .ref (md 8), .ref (md 9), .ref (md 10), .ref (md 11), .long tp, .long bt])) → wa (md 1) = some (.inl (G.2.1 0, 10, .inl (Fm 1))) → wa (md 2) = some (.inl (G.2.1 0, 10, .inl (Fm 2))) → wa (md 3) = some (.inl (G.2.1 2, 10, .inl (Fm 3))) → wa (md 4) = some (.inl (G.2.1 0, 64, .inl (Fm 4))) → wa (md 5) = some (.inl (G.2.1 2, 16, .inl (Fm 5))) → wa (md 6) = some (.inl (G.2.1 0, 16, .inl (Fm 6))) → wa (md 7) = some (.inl (G.2.1 0, 16, .inl (Fm 7))) → wa (md 8) = some (.inl (G.2.1 0, 20, .inl (Fm 8))) → wa (md 9) = some (.inl (G.2.1 1, 10, .inr (.inl La))) → wa (md 10) = some (.inl (G.2.1 1, 10, .inr (.inl Lb))) → wa (md 11) = some (.inl (G.2.1 0, 10, .inl Fs)) → g_P A G wa H → va_S A s.heap H locs → lv_has ls 6 [(1, .int (nI k)), (0, .ref (md 0))] → W p l e R s m args below meth c H locs (0) (0) Q (F0 m 2 ls []) := by
    intro n
    induction n with
    | zero =>
      intro k La Lb Fs wa H locs ls hfu hkN hfr hT0 x0 x1 x2 x3 x4 x5 x6 x7 x8 x9 x10 x11 hP hS hl
      exact absurd hfu (by omega)
    | succ n ih_L2 =>
      intro k La Lb Fs wa H locs ls hfu hkN hfr hT0 x0 x1 x2 x3 x4 x5 x6 x7 x8 x9 x10 x11 hP hS hl
      refine lv_iload_n hx hb dX7_solve_2 rfl (lv_at hl 0 rfl) ?_
      refine lv_aload_n hx hb dX7_solve_3 rfl (lv_at hl 1 rfl) ?_
      refine g_get F hP (C := RX7) (T := TX7) (N := 20) iX7 x0 rfl 1 (by decide) (List.mem_cons_of_mem _ (List.mem_append_left _ (List.mem_append_left _ (List.mem_of_getElem? (i := 0) rfl)))) (fun _ h9 => h9) rfl dX7_solve_4 ?_
      refine lv_icmp_ge (tgt := 92) hx hb dX7_solve_7 (by decide) (fun c1 => ?_) (fun c1 => ?_)
      · have zc1 : S 0 0 ≤ k := (iL_nle (by omega) (by omega) (by omega)).mp c1
        refine lv_bipush (v := 16) hx hb dX7_solve_92 (by decide) ?_
        refine g_newaZ F hP hS (N' := 16) (List.mem_cons_of_mem _ (List.mem_append_left _ (List.mem_append_left _ (List.mem_of_getElem? (i := 7) rfl)))) (by decide) (by decide) (by decide) (by rw [hR]; exact Nat.le_of_ble_eq_true rfl) (by rw [hR]; exact Nat.le_of_ble_eq_true rfl) dX7_solve_94 (fun q2 H nq2 hP hS => ?_)
        obtain ⟨w3, ew3⟩ : ∃ z, z = g_up wa q2 (.inl (G.2.1 2, 16, .inl (fun _ => 0))) := ⟨_, rfl⟩
        have hP : g_P A G w3 H := by rw [ew3]; exact hP
        have f4 : w3 (md 0) = some (.inr (8, [.int th, .int (iL (S 0 0)), .ref (md 1), .ref (md 2), .ref (md 3), .int (iL (S 0 4)), .int (iL (S 0 5)), .int (iL (S 0 1)), .ref (md 4), .ref (md 5), .int (iL (S 0 2)), .ref (md 6), .ref (md 7), .int (iL (S 0 3)), .ref (md 8), .ref (md 9), .ref (md 10), .ref (md 11), .long tp, .long bt])) := by rw [ew3]; exact g_up_f x0 (g_neq x0 nq2)
        have f5 : w3 (md 1) = some (.inl (G.2.1 0, 10, .inl (Fm 1))) := by rw [ew3]; exact g_up_f x1 (g_neq x1 nq2)
        have f6 : w3 (md 2) = some (.inl (G.2.1 0, 10, .inl (Fm 2))) := by rw [ew3]; exact g_up_f x2 (g_neq x2 nq2)
        have f7 : w3 (md 3) = some (.inl (G.2.1 2, 10, .inl (Fm 3))) := by rw [ew3]; exact g_up_f x3 (g_neq x3 nq2)
        have f8 : w3 (md 4) = some (.inl (G.2.1 0, 64, .inl (Fm 4))) := by rw [ew3]; exact g_up_f x4 (g_neq x4 nq2)
        have f9 : w3 (md 5) = some (.inl (G.2.1 2, 16, .inl (Fm 5))) := by rw [ew3]; exact g_up_f x5 (g_neq x5 nq2)
        have f10 : w3 (md 6) = some (.inl (G.2.1 0, 16, .inl (Fm 6))) := by rw [ew3]; exact g_up_f x6 (g_neq x6 nq2)
        have f11 : w3 (md 7) = some (.inl (G.2.1 0, 16, .inl (Fm 7))) := by rw [ew3]; exact g_up_f x7 (g_neq x7 nq2)
        have f12 : w3 (md 8) = some (.inl (G.2.1 0, 20, .inl (Fm 8))) := by rw [ew3]; exact g_up_f x8 (g_neq x8 nq2)
        have f13 : w3 (md 9) = some (.inl (G.2.1 1, 10, .inr (.inl La))) := by rw [ew3]; exact g_up_f x9 (g_neq x9 nq2)
        have f14 : w3 (md 10) = some (.inl (G.2.1 1, 10, .inr (.inl Lb))) := by rw [ew3]; exact g_up_f x10 (g_neq x10 nq2)
        have f15 : w3 (md 11) = some (.inl (G.2.1 0, 10, .inl Fs)) := by rw [ew3]; exact g_up_f x11 (g_neq x11 nq2)
        have f16 : w3 q2 = some (.inl (G.2.1 2, 16, .inl (fun _ => 0))) := by rw [ew3]; exact g_up_s _ _ _
        refine lv_astore_n (lv' := [(1, .ref q2), (0, .ref (md 0))]) hx hb dX7_solve_96 rfl hl (by decide) rfl (fun ls hl => ?_)
        refine lv_iconst (v := 4) hx hb dX7_solve_97 (by decide) ?_
        refine g_newaZ F hP hS (N' := 4) (List.mem_cons_of_mem _ (List.mem_append_left _ (List.mem_append_left _ (List.mem_of_getElem? (i := 7) rfl)))) (by decide) (by decide) (by decide) (by rw [hR]; exact Nat.le_of_ble_eq_true rfl) (by rw [hR]; exact Nat.le_of_ble_eq_true rfl) dX7_solve_98 (fun q17 H nq17 hP hS => ?_)
        obtain ⟨w18, ew18⟩ : ∃ z, z = g_up w3 q17 (.inl (G.2.1 2, 4, .inl (fun _ => 0))) := ⟨_, rfl⟩
        have hP : g_P A G w18 H := by rw [ew18]; exact hP
        have f19 : w18 (md 0) = some (.inr (8, [.int th, .int (iL (S 0 0)), .ref (md 1), .ref (md 2), .ref (md 3), .int (iL (S 0 4)), .int (iL (S 0 5)), .int (iL (S 0 1)), .ref (md 4), .ref (md 5), .int (iL (S 0 2)), .ref (md 6), .ref (md 7), .int (iL (S 0 3)), .ref (md 8), .ref (md 9), .ref (md 10), .ref (md 11), .long tp, .long bt])) := by rw [ew18]; exact g_up_f f4 (g_neq f4 nq17)
        have f20 : w18 (md 1) = some (.inl (G.2.1 0, 10, .inl (Fm 1))) := by rw [ew18]; exact g_up_f f5 (g_neq f5 nq17)
        have f21 : w18 (md 2) = some (.inl (G.2.1 0, 10, .inl (Fm 2))) := by rw [ew18]; exact g_up_f f6 (g_neq f6 nq17)
        have f22 : w18 (md 3) = some (.inl (G.2.1 2, 10, .inl (Fm 3))) := by rw [ew18]; exact g_up_f f7 (g_neq f7 nq17)
        have f23 : w18 (md 4) = some (.inl (G.2.1 0, 64, .inl (Fm 4))) := by rw [ew18]; exact g_up_f f8 (g_neq f8 nq17)
        have f24 : w18 (md 5) = some (.inl (G.2.1 2, 16, .inl (Fm 5))) := by rw [ew18]; exact g_up_f f9 (g_neq f9 nq17)
        have f25 : w18 (md 6) = some (.inl (G.2.1 0, 16, .inl (Fm 6))) := by rw [ew18]; exact g_up_f f10 (g_neq f10 nq17)
        have f26 : w18 (md 7) = some (.inl (G.2.1 0, 16, .inl (Fm 7))) := by rw [ew18]; exact g_up_f f11 (g_neq f11 nq17)
        have f27 : w18 (md 8) = some (.inl (G.2.1 0, 20, .inl (Fm 8))) := by rw [ew18]; exact g_up_f f12 (g_neq f12 nq17)
        have f28 : w18 (md 9) = some (.inl (G.2.1 1, 10, .inr (.inl La))) := by rw [ew18]; exact g_up_f f13 (g_neq f13 nq17)
        have f29 : w18 (md 10) = some (.inl (G.2.1 1, 10, .inr (.inl Lb))) := by rw [ew18]; exact g_up_f f14 (g_neq f14 nq17)
        have f30 : w18 (md 11) = some (.inl (G.2.1 0, 10, .inl Fs)) := by rw [ew18]; exact g_up_f f15 (g_neq f15 nq17)
        have f31 : w18 q2 = some (.inl (G.2.1 2, 16, .inl (fun _ => 0))) := by rw [ew18]; exact g_up_f f16 (g_neq f16 nq17)
        have f32 : w18 q17 = some (.inl (G.2.1 2, 4, .inl (fun _ => 0))) := by rw [ew18]; exact g_up_s _ _ _
        refine lv_astore_n (lv' := [(2, .ref q17), (1, .ref q2), (0, .ref (md 0))]) hx hb dX7_solve_100 rfl hl (by decide) rfl (fun ls hl => ?_)
        obtain ⟨dqs, nqs1⟩ : q17 ≠ q2 ∧ wa q17 = none := by
          have q1 := nq17
          rw [ew3] at q1
          exact g_up_none q1
        have oqm : w q2 = none := mFr_no hfr nq2
        have oqs : w q17 = none := mFr_no hfr nqs1
        have live : ∀ i, i < 12 → w (md i) ≠ none := fun i hi9 => by
          match i, hi9 with
          | 0, _ => rw [hx0]; exact fun q => (nomatch q)
          | 1, _ => rw [hy1]; exact fun q => (nomatch q)
          | 2, _ => rw [hy2]; exact fun q => (nomatch q)
          | 3, _ => rw [hy3]; exact fun q => (nomatch q)
          | 4, _ => rw [hy4]; exact fun q => (nomatch q)
          | 5, _ => rw [hy5]; exact fun q => (nomatch q)
          | 6, _ => rw [hy6]; exact fun q => (nomatch q)
          | 7, _ => rw [hy7]; exact fun q => (nomatch q)
          | 8, _ => rw [hy8]; exact fun q => (nomatch q)
          | 9, _ => rw [hy9]; exact fun q => (nomatch q)
          | 10, _ => rw [hy10]; exact fun q => (nomatch q)
          | 11, _ => rw [hy11]; exact fun q => (nomatch q)
          | i + 12, h9 => exact absurd h9 (by omega)
        have dq2 : ∀ i, i < 12 → md i ≠ q2 := fun i h1 q => live i h1 (by rw [q]; exact oqm)
        have dq17 : ∀ i, i < 12 → md i ≠ q17 := fun i h1 q => live i h1 (by rw [q]; exact oqs)
        have hT9 : modT S (T0 S) (fun _ => Fs) (L2 La Lb) := fun j hj => hT0 j (by omega)
        refine lv_iconst (v := 1) hx hb dX7_solve_101 (by decide) ?_
        refine lv_istore_n (lv' := [(3, .int 1), (2, .ref q17), (1, .ref q2), (0, .ref (md 0))]) hx hb dX7_solve_102 rfl hl (by decide) rfl (fun ls hl => ?_)
        have L103 : ∀ (n : Nat) (T : Sg) (tp1 : Int64) (bt1 : Int64) (La : Nat → Int64) (Lb : Nat → Int64) (Fs : Nat → Int32) (aM : Nat → Int32) (aS : Nat → Int32) (im : Bool) (wa : g_W) (H : Heap) (locs : List Loc) (ls : Array Slot), fuS S T im ≤ n → (solI S T) → (modT S T (fun _ => Fs) (L2 La Lb)) → (mFr md w wa) → (∀ j : Nat, (j : Int) < S 0 2 → aM j = iL (T 3 j)) → (∀ j : Nat, (j : Int) < S 0 3 → aS j = iL (T 4 j)) → (im = false → step S T = none) → wa (md 0) = some (.inr (8, [.int th, .int (iL (S 0 0)), .ref (md 1), .ref (md 2), .ref (md 3), .int (iL (S 0 4)), .int (iL (S 0 5)), .int (iL (S 0 1)), .ref (md 4), .ref (md 5), .int (iL (S 0 2)), .ref (md 6), .ref (md 7), .int (iL (S 0 3)), .ref (md 8), .ref (md 9), .ref (md 10), .ref (md 11), .long tp1, .long bt1])) → wa (md 1) = some (.inl (G.2.1 0, 10, .inl (Fm 1))) → wa (md 2) = some (.inl (G.2.1 0, 10, .inl (Fm 2))) → wa (md 3) = some (.inl (G.2.1 2, 10, .inl (Fm 3))) → wa (md 4) = some (.inl (G.2.1 0, 64, .inl (Fm 4))) → wa (md 5) = some (.inl (G.2.1 2, 16, .inl (Fm 5))) → wa (md 6) = some (.inl (G.2.1 0, 16, .inl (Fm 6))) → wa (md 7) = some (.inl (G.2.1 0, 16, .inl (Fm 7))) → wa (md 8) = some (.inl (G.2.1 0, 20, .inl (Fm 8))) → wa (md 9) = some (.inl (G.2.1 1, 10, .inr (.inl La))) → wa (md 10) = some (.inl (G.2.1 1, 10, .inr (.inl Lb))) → wa (md 11) = some (.inl (G.2.1 0, 10, .inl Fs)) → wa q2 = some (.inl (G.2.1 2, 16, .inl aM)) → wa q17 = some (.inl (G.2.1 2, 4, .inl aS)) → g_P A G wa H → va_S A s.heap H locs → lv_has ls 6 [(3, .int (g_b im)), (2, .ref q17), (1, .ref q2), (0, .ref (md 0))] → W p l e R s m args below meth c H locs (2) (20) Q (F0 m 103 ls []) := by
          intro n
          induction n with
          | zero =>
            intro T tp1 bt1 La Lb Fs aM aS im wa H locs ls hfu hI hT hfr haM haS him x0 x1 x2 x3 x4 x5 x6 x7 x8 x9 x10 x11 xm xs hP hS hl
            exact absurd hfu (by have := fuS_pos S T im; omega)
          | succ n ih_L103 =>
            intro T tp1 bt1 La Lb Fs aM aS im wa H locs ls hfu hI hT hfr haM haS him x0 x1 x2 x3 x4 x5 x6 x7 x8 x9 x10 x11 xm xs hP hS hl
            refine lv_iload_n hx hb dX7_solve_103 rfl (lv_at hl 0 rfl) ?_
            refine lv_if_eq (tgt := 270) hx hb dX7_solve_104 (by decide) (fun c33 => ?_) (fun c33 => ?_)
            · have yc33 : im = false := g_b0.mp c33
              rw [hQ]
              refine g_vret F hP hS hlocks hr dX7_solve_270 (by first | exact Nat.le_of_ble_eq_true rfl | omega) (by first | exact Nat.le_of_ble_eq_true rfl | omega) ?_
              exact ⟨hfr, tp1, bt1, L2 La Lb, Fs, ⟨x0, x1, x2, x3, x4, x5, x6, x7, x8, x9, x10, x11⟩, by rw [← solI_e hI (him yc33)]; exact hT⟩
            · have yc33 : im = true := g_b1.mp c33
              subst yc33
              have fu0 := fuS_t S T
              have HM : modW G wa md S th tp1 bt1 (up1 Fm 11 Fs) (L2 La Lb) := ⟨x0, x1, x2, x3, x4, x5, x6, x7, x8, x9, x10, x11⟩
              have HF := modF_11 Hf Fs
              refine lv_iconst (v := 0) hx hb dX7_solve_107 (by decide) ?_
              refine lv_istore (lv' := [(4, .int 0), (3, .int (g_b true)), (2, .ref q17), (1, .ref q2), (0, .ref (md 0))]) hx hb dX7_solve_108 hl (by decide) rfl (fun ls hl => ?_)
              have L110 : ∀ (n : Nat) (k : Nat) (H : Heap) (locs : List Loc) (ls : Array Slot), (S 0 2).toNat + 1 ≤ k + n → ((k : Int) ≤ S 0 2) → (firstT S T 0 k ((S 0 2).toNat - k) = firstT S T 0 0 (S 0 2).toNat) → g_P A G wa H → va_S A s.heap H locs → lv_has ls 6 [(4, .int (nI k)), (3, .int (g_b true)), (2, .ref q17), (1, .ref q2), (0, .ref (md 0))] → W p l e R s m args below meth c H locs (2) (20) Q (F0 m 110 ls []) := by
                intro n
                induction n with
                | zero =>
                  intro k H locs ls hfu hkN hft hP hS hl
                  exact absurd hfu (by omega)
                | succ n ih_L110 =>
                  intro k H locs ls hfu hkN hft hP hS hl
                  refine lv_iload hx hb dX7_solve_110 (lv_at hl 0 rfl) ?_
                  refine lv_aload_n hx hb dX7_solve_112 rfl (lv_at hl 4 rfl) ?_
                  refine g_get F hP (C := RX7) (T := TX7) (N := 20) iX7 x0 rfl 10 (by decide) (List.mem_cons_of_mem _ (List.mem_append_left _ (List.mem_append_left _ (List.mem_of_getElem? (i := 8) rfl)))) (fun _ h9 => h9) rfl dX7_solve_113 ?_
                  refine lv_icmp_ge (tgt := 165) hx hb dX7_solve_116 (by decide) (fun c34 => ?_) (fun c34 => ?_)
                  · have zc34 : S 0 2 ≤ k := (iL_nle (by omega) (by omega) (by omega)).mp c34
                    refine lv_iload hx hb dX7_solve_165 (lv_at hl 0 rfl) ?_
                    refine lv_aload_n hx hb dX7_solve_167 rfl (lv_at hl 4 rfl) ?_
                    refine g_get F hP (C := RX7) (T := TX7) (N := 20) iX7 x0 rfl 10 (by decide) (List.mem_cons_of_mem _ (List.mem_append_left _ (List.mem_append_left _ (List.mem_of_getElem? (i := 8) rfl)))) (fun _ h9 => h9) rfl dX7_solve_168 ?_
                    refine lv_icmp_ge (tgt := 195) hx hb dX7_solve_171 (by decide) (fun c35 => ?_) (fun c35 => ?_)
                    · have hmn : firstT S T 0 0 (S 0 2).toNat = none := by rw [← hft, firstT_end (by omega)]
                      have fu9 := fuS_f S T
                      refine lv_iconst (v := 0) hx hb dX7_solve_195 (by decide) ?_
                      refine lv_istore (lv' := [(5, .int 0), (4, .int (nI k)), (3, .int (g_b true)), (2, .ref q17), (1, .ref q2), (0, .ref (md 0))]) hx hb dX7_solve_196 hl (by decide) rfl (fun ls hl => ?_)
                      have L198 : ∀ (n : Nat) (j : Nat) (H : Heap) (locs : List Loc) (ls : Array Slot), (S 0 3).toNat + 1 ≤ j + n → ((j : Int) ≤ S 0 3) → (firstT S T 1 j ((S 0 3).toNat - j) = firstT S T 1 0 (S 0 3).toNat) → g_P A G wa H → va_S A s.heap H locs → lv_has ls 6 [(5, .int (nI j)), (3, .int (g_b true)), (2, .ref q17), (1, .ref q2), (0, .ref (md 0))] → W p l e R s m args below meth c H locs (2) (20) Q (F0 m 198 ls []) := by
                        intro n
                        induction n with
                        | zero =>
                          intro j H locs ls hfu hjN hft5 hP hS hl
                          exact absurd hfu (by omega)
                        | succ n ih_L198 =>
                          intro j H locs ls hfu hjN hft5 hP hS hl
                          refine lv_iload hx hb dX7_solve_198 (lv_at hl 0 rfl) ?_
                          refine lv_aload_n hx hb dX7_solve_200 rfl (lv_at hl 4 rfl) ?_
                          refine g_get F hP (C := RX7) (T := TX7) (N := 20) iX7 x0 rfl 13 (by decide) (List.mem_cons_of_mem _ (List.mem_append_left _ (List.mem_append_left _ (List.mem_of_getElem? (i := 11) rfl)))) (fun _ h9 => h9) rfl dX7_solve_201 ?_
                          refine lv_icmp_ge (tgt := 230) hx hb dX7_solve_204 (by decide) (fun c36 => ?_) (fun c36 => ?_)
                          · have zc36 : S 0 3 ≤ j := (iL_nle (by omega) (by omega) (by omega)).mp c36
                            refine lv_iload hx hb dX7_solve_230 (lv_at hl 0 rfl) ?_
                            refine lv_aload_n hx hb dX7_solve_232 rfl (lv_at hl 4 rfl) ?_
                            refine g_get F hP (C := RX7) (T := TX7) (N := 20) iX7 x0 rfl 13 (by decide) (List.mem_cons_of_mem _ (List.mem_append_left _ (List.mem_append_left _ (List.mem_of_getElem? (i := 11) rfl)))) (fun _ h9 => h9) rfl dX7_solve_233 ?_
                            refine lv_icmp_ge (tgt := 243) hx hb dX7_solve_236 (by decide) (fun c37 => ?_) (fun c37 => ?_)
                            · refine lv_iconst (v := 0) hx hb dX7_solve_243 (by decide) ?_
                              refine lv_istore_n (lv' := [(3, .int 0), (5, .int (nI j)), (2, .ref q17), (1, .ref q2), (0, .ref (md 0))]) hx hb dX7_solve_244 rfl hl (by decide) rfl (fun ls hl => ?_)
                              refine lv_iload_n hx hb dX7_solve_245 rfl (lv_at hl 0 rfl) ?_
                              refine lv_if_eq (tgt := 267) hx hb dX7_solve_246 (by decide) (fun c38 => ?_) (fun c38 => ?_)
                              · refine lv_goto (tgt := 103) hx hb dX7_solve_267 (by decide) ?_
                                exact ih_L103 T tp1 bt1 La Lb Fs aM aS false wa H locs ls (by omega) (hI) (hT) (hfr) (haM) (haS) ((fun _ => (step_set hmn).trans (by rw [← hft5, firstT_end (by omega)]))) x0 x1 x2 x3 x4 x5 x6 x7 x8 x9 x10 x11 xm xs hP hS (lv_sub hl [0, 2, 3, 4] rfl)
                              · exact absurd (by decide) c38
                            · exact absurd c36 c37
                          · have hj : (j : Int) < S 0 3 := Int.not_le.mp (fun q => c36 ((iL_nle (z := S 0 3) (k := j) (by omega) (by omega) (by omega)).mpr q))
                            have tl := tc_le (S := S) (T := T) (m := j) 3
                            refine lv_aload_n hx hb dX7_solve_207 rfl (lv_at hl 2 rfl) ?_
                            refine lv_iload hx hb dX7_solve_208 (lv_at hl 0 rfl) ?_
                            refine g_zald F hP xs (vp_in_nI (by omega) (by decide)) dX7_solve_210 ?_
                            rw [show (.int (aS (nI j : Int32).toNatClampNeg) : Value) = .int (g_b (decide (T 4 j = 1))) from by rw [nI_clamp (by omega), haS j hj, iL_b (hI.1.2.2 j hj)]]
                            refine lv_if_ne (tgt := 224) hx hb dX7_solve_211 (by decide) (fun c39 => ?_) (fun c39 => ?_)
                            · have yc39 := of_decide_eq_true (g_b1.mp c39)
                              have no9 : firstT S T 1 (j + 1) ((S 0 3).toNat - (j + 1)) = firstT S T 1 0 (S 0 3).toNat := by rw [← firstT_none (by omega) (tTry_none (fun q => by have : T 4 j = 0 := q.1; omega))]; exact hft5
                              obtain ⟨i40, ei40⟩ : ∃ y : Int32, y = nI j + (1) := ⟨_, rfl⟩
                              refine lv_iinc (v := i40) (lv' := [(5, .int i40), (3, .int (g_b true)), (2, .ref q17), (1, .ref q2), (0, .ref (md 0))]) hx hb dX7_solve_224 hl (k := 0) rfl (by rw [ei40]; rfl) (by decide) rfl (fun ls hl => ?_)
                              obtain rfl : i40 = nI (j + 1) := by
                                rw [ei40]
                                exact nI_1 j
                              refine lv_goto (tgt := 198) hx hb dX7_solve_227 (by decide) ?_
                              exact ih_L198 (j + 1)  H locs ls (by omega) (by omega) (no9) hP hS (lv_sub hl [0, 1, 2, 3, 4] rfl)
                            · have yc39 := of_decide_eq_false (g_b0.mp c39)
                              have h0 : T (3 + 1) j = 0 := (hI.1.2.2 j hj).elim (fun q => q) (fun q => absurd q yc39)
                              refine lv_aload_n hx hb dX7_solve_214 rfl (lv_at hl 4 rfl) ?_
                              refine lv_iload hx hb dX7_solve_215 (lv_at hl 0 rfl) ?_
                              refine g_Vi (As := [.int (nI j)]) (rest := []) F hP hS (k_X7_toldOf l A G wa md S _ _ _ (up1 Fm 11 Fs) (L2 La Lb) T j x0 x8 x10 HF Hi hI.1 hT hj) (cwV 1 hts gX7_solve_X7_toldOf rfl rfl rfl cd_X7_toldOf ⟨by rw [hR]; exact Nat.le_of_ble_eq_true rfl, by rw [hR]; exact Nat.le_of_ble_eq_true rfl⟩) x0 rfl rfl rfl hl.1 (Nat.le_of_ble_eq_true rfl) dX7_solve_217 ⟨by rw [hR]; exact Nat.le_of_ble_eq_true rfl, by rw [hR]; exact Nat.le_of_ble_eq_true rfl⟩ rfl (fun r41 w42 H locs h43 hP hS => ?_)
                              have hr41 := h43.1
                              rw [h43.2] at hP
                              rw [hr41]
                              refine lv_iconst (v := 2) hx hb dX7_solve_220 (by decide) ?_
                              refine lv_icmp_eq (tgt := 230) hx hb dX7_solve_221 (by decide) (fun c44 => ?_) (fun c44 => ?_)
                              · have yc44 : tcN S T j 3 = 2 := (nI_eq (a := tcN S T j 3) (b := 2) (by omega) (by omega)).mp c44
                                refine lv_iload hx hb dX7_solve_230 (lv_at hl 0 rfl) ?_
                                refine lv_aload_n hx hb dX7_solve_232 rfl (lv_at hl 4 rfl) ?_
                                refine g_get F hP (C := RX7) (T := TX7) (N := 20) iX7 x0 rfl 13 (by decide) (List.mem_cons_of_mem _ (List.mem_append_left _ (List.mem_append_left _ (List.mem_of_getElem? (i := 11) rfl)))) (fun _ h9 => h9) rfl dX7_solve_233 ?_
                                refine lv_icmp_ge (tgt := 243) hx hb dX7_solve_236 (by decide) (fun c45 => ?_) (fun c45 => ?_)
                                · exact absurd c45 c36
                                · refine lv_iconst (v := 1) hx hb dX7_solve_239 (by decide) ?_
                                  refine lv_goto (tgt := 244) hx hb dX7_solve_240 (by decide) ?_
                                  refine lv_istore_n (lv' := [(3, .int 1), (5, .int (nI j)), (2, .ref q17), (1, .ref q2), (0, .ref (md 0))]) hx hb dX7_solve_244 rfl hl (by decide) rfl (fun ls hl => ?_)
                                  refine lv_iload_n hx hb dX7_solve_245 rfl (lv_at hl 0 rfl) ?_
                                  refine lv_if_eq (tgt := 267) hx hb dX7_solve_246 (by decide) (fun c46 => ?_) (fun c46 => ?_)
                                  · exact absurd c46 (by decide)
                                  · refine lv_aload_n hx hb dX7_solve_249 rfl (lv_at hl 2 rfl) ?_
                                    refine lv_iload hx hb dX7_solve_250 (lv_at hl 1 rfl) ?_
                                    refine lv_aload_n hx hb dX7_solve_252 rfl (lv_at hl 4 rfl) ?_
                                    refine lv_iload hx hb dX7_solve_253 (lv_at hl 1 rfl) ?_
                                    obtain ⟨pl, hU⟩ := tUp.mp yc44
                                    have hst : step S T = some (tTell S T 1 j pl) := (step_set hmn).trans (by rw [← hft5]; exact firstT_some (by omega) (tTry_some h0 hU))
                                    refine g_Vi (As := [.int (nI j)]) (rest := [.int (nI j), .ref q17]) F hP hS (k_X7_tellBySet l A G wa md S th tp1 bt1 (up1 Fm 11 Fs) (L2 La Lb) T j pl HM Hj HF Hi hI.1 hT hj hU) (cwV 1 hts gX7_solve_X7_tellBySet rfl rfl rfl cd_X7_tellBySet ⟨by rw [hR]; exact Nat.le_of_ble_eq_true rfl, by rw [hR]; exact Nat.le_of_ble_eq_true rfl⟩) x0 rfl rfl rfl hl.1 (Nat.le_of_ble_eq_true rfl) dX7_solve_255 ⟨by rw [hR]; exact Nat.le_of_ble_eq_true rfl, by rw [hR]; exact Nat.le_of_ble_eq_true rfl⟩ rfl (fun r47 w48 H locs h49 hP hS => ?_)
                                    obtain ⟨hfr2, tp2, bt2, L3, f3, ⟨z0, z1, z2, z3, z4, z5, z6, z7, z8, z9, z10, z11⟩, hT3⟩ := h49.2
                                    obtain ⟨hI2, hmu⟩ := solI_s Hi hI hst
                                    have fu1 := fuS_t S (tTell S T 1 j pl)
                                    have f50 : w48 (md 0) = some (.inr (8, [.int th, .int (iL (S 0 0)), .ref (md 1), .ref (md 2), .ref (md 3), .int (iL (S 0 4)), .int (iL (S 0 5)), .int (iL (S 0 1)), .ref (md 4), .ref (md 5), .int (iL (S 0 2)), .ref (md 6), .ref (md 7), .int (iL (S 0 3)), .ref (md 8), .ref (md 9), .ref (md 10), .ref (md 11), .long tp2, .long bt2])) := z0
                                    have f51 : w48 (md 1) = some (.inl (G.2.1 0, 10, .inl (Fm 1))) := z1
                                    have f52 : w48 (md 2) = some (.inl (G.2.1 0, 10, .inl (Fm 2))) := z2
                                    have f53 : w48 (md 3) = some (.inl (G.2.1 2, 10, .inl (Fm 3))) := z3
                                    have f54 : w48 (md 4) = some (.inl (G.2.1 0, 64, .inl (Fm 4))) := z4
                                    have f55 : w48 (md 5) = some (.inl (G.2.1 2, 16, .inl (Fm 5))) := z5
                                    have f56 : w48 (md 6) = some (.inl (G.2.1 0, 16, .inl (Fm 6))) := z6
                                    have f57 : w48 (md 7) = some (.inl (G.2.1 0, 16, .inl (Fm 7))) := z7
                                    have f58 : w48 (md 8) = some (.inl (G.2.1 0, 20, .inl (Fm 8))) := z8
                                    have f59 : w48 (md 9) = some (.inl (G.2.1 1, 10, .inr (.inl (L3 0)))) := z9
                                    have f60 : w48 (md 10) = some (.inl (G.2.1 1, 10, .inr (.inl (L3 1)))) := z10
                                    have f61 : w48 (md 11) = some (.inl (G.2.1 0, 10, .inl f3)) := z11
                                    have f62 : w48 q2 = some (.inl (G.2.1 2, 16, .inl aM)) := by rw [hfr2.1 q2 (by rw [xm]; exact fun q => (nomatch q)) dq2]; exact xm
                                    have f63 : w48 q17 = some (.inl (G.2.1 2, 4, .inl aS)) := by rw [hfr2.1 q17 (by rw [xs]; exact fun q => (nomatch q)) dq17]; exact xs
                                    have er47 : r47 = g_b (decide (¬ bigT S T 1 j pl)) := h49.1
                                    rw [er47]
                                    refine lv_if_ne (tgt := 265) hx hb dX7_solve_258 (by decide) (fun c64 => ?_) (fun c64 => ?_)
                                    · have yc64 : ¬ bigT S T 1 j pl := of_decide_eq_true (g_b1.mp c64)
                                      refine lv_iconst (v := 0) hx hb dX7_solve_265 (by decide) ?_
                                      refine g_zast F hP hS f63 (vp_in_nI (by omega) (by decide)) (by first | rfl | exact g_nb8 _) dX7_solve_266 (fun H locs hP hS => ?_)
                                      obtain ⟨w65, ew65⟩ : ∃ z, z = g_up w48 q17 (.inl (G.2.1 2, 4, .inl (upd aS (nI j : Int32).toNatClampNeg 0))) := ⟨_, rfl⟩
                                      have hP : g_P A G w65 H := by rw [ew65]; exact hP
                                      have f66 : w65 (md 0) = some (.inr (8, [.int th, .int (iL (S 0 0)), .ref (md 1), .ref (md 2), .ref (md 3), .int (iL (S 0 4)), .int (iL (S 0 5)), .int (iL (S 0 1)), .ref (md 4), .ref (md 5), .int (iL (S 0 2)), .ref (md 6), .ref (md 7), .int (iL (S 0 3)), .ref (md 8), .ref (md 9), .ref (md 10), .ref (md 11), .long tp2, .long bt2])) := by rw [ew65]; exact g_up_f f50 ((dq17 0 (by decide)))
                                      have f67 : w65 (md 1) = some (.inl (G.2.1 0, 10, .inl (Fm 1))) := by rw [ew65]; exact g_up_f f51 ((dq17 1 (by decide)))
                                      have f68 : w65 (md 2) = some (.inl (G.2.1 0, 10, .inl (Fm 2))) := by rw [ew65]; exact g_up_f f52 ((dq17 2 (by decide)))
                                      have f69 : w65 (md 3) = some (.inl (G.2.1 2, 10, .inl (Fm 3))) := by rw [ew65]; exact g_up_f f53 ((dq17 3 (by decide)))
                                      have f70 : w65 (md 4) = some (.inl (G.2.1 0, 64, .inl (Fm 4))) := by rw [ew65]; exact g_up_f f54 ((dq17 4 (by decide)))
                                      have f71 : w65 (md 5) = some (.inl (G.2.1 2, 16, .inl (Fm 5))) := by rw [ew65]; exact g_up_f f55 ((dq17 5 (by decide)))
                                      have f72 : w65 (md 6) = some (.inl (G.2.1 0, 16, .inl (Fm 6))) := by rw [ew65]; exact g_up_f f56 ((dq17 6 (by decide)))
                                      have f73 : w65 (md 7) = some (.inl (G.2.1 0, 16, .inl (Fm 7))) := by rw [ew65]; exact g_up_f f57 ((dq17 7 (by decide)))
                                      have f74 : w65 (md 8) = some (.inl (G.2.1 0, 20, .inl (Fm 8))) := by rw [ew65]; exact g_up_f f58 ((dq17 8 (by decide)))
                                      have f75 : w65 (md 9) = some (.inl (G.2.1 1, 10, .inr (.inl (L3 0)))) := by rw [ew65]; exact g_up_f f59 ((dq17 9 (by decide)))
                                      have f76 : w65 (md 10) = some (.inl (G.2.1 1, 10, .inr (.inl (L3 1)))) := by rw [ew65]; exact g_up_f f60 ((dq17 10 (by decide)))
                                      have f77 : w65 (md 11) = some (.inl (G.2.1 0, 10, .inl f3)) := by rw [ew65]; exact g_up_f f61 ((dq17 11 (by decide)))
                                      have f78 : w65 q2 = some (.inl (G.2.1 2, 16, .inl aM)) := by rw [ew65]; exact g_up_f f62 (g_neq f16 nq17)
                                      have f79 : w65 q17 = some (.inl (G.2.1 2, 4, .inl (upd aS (nI j : Int32).toNatClampNeg 0))) := by rw [ew65]; exact g_up_s _ _ _
                                      refine lv_goto (tgt := 103) hx hb dX7_solve_267 (by decide) ?_
                                      exact ih_L103 (tTell S T 1 j pl) tp2 bt2 (L3 0) (L3 1) f3 aM (upd aS (nI j : Int32).toNatClampNeg 0) true w65 H locs ls (by omega) (hI2) (modT_L2 hT3) (mFr_st (mFr_tr hfr hfr2) oqs ew65) ((fun i hi9 => by rw [show tTell S T 1 j pl 3 i = T 3 i from asd_no (b := 1) (b' := 0) (by decide) i]; exact haM i hi9)) (asd_up (b := 1) h0 (by omega) haS (Or.inr ⟨yc64, rfl⟩)) ((fun q => (nomatch q))) f66 f67 f68 f69 f70 f71 f72 f73 f74 f75 f76 f77 f78 f79 hP hS (lv_sub hl [0, 2, 3, 4] rfl)
                                    · have yc64 : bigT S T 1 j pl := Decidable.not_not.mp (of_decide_eq_false (g_b0.mp c64))
                                      refine lv_iconst (v := 1) hx hb dX7_solve_261 (by decide) ?_
                                      refine lv_goto (tgt := 266) hx hb dX7_solve_262 (by decide) ?_
                                      refine g_zast F hP hS f63 (vp_in_nI (by omega) (by decide)) (by first | rfl | exact g_nb8 _) dX7_solve_266 (fun H locs hP hS => ?_)
                                      obtain ⟨w80, ew80⟩ : ∃ z, z = g_up w48 q17 (.inl (G.2.1 2, 4, .inl (upd aS (nI j : Int32).toNatClampNeg 1))) := ⟨_, rfl⟩
                                      have hP : g_P A G w80 H := by rw [ew80]; exact hP
                                      have f81 : w80 (md 0) = some (.inr (8, [.int th, .int (iL (S 0 0)), .ref (md 1), .ref (md 2), .ref (md 3), .int (iL (S 0 4)), .int (iL (S 0 5)), .int (iL (S 0 1)), .ref (md 4), .ref (md 5), .int (iL (S 0 2)), .ref (md 6), .ref (md 7), .int (iL (S 0 3)), .ref (md 8), .ref (md 9), .ref (md 10), .ref (md 11), .long tp2, .long bt2])) := by rw [ew80]; exact g_up_f f50 ((dq17 0 (by decide)))
                                      have f82 : w80 (md 1) = some (.inl (G.2.1 0, 10, .inl (Fm 1))) := by rw [ew80]; exact g_up_f f51 ((dq17 1 (by decide)))
                                      have f83 : w80 (md 2) = some (.inl (G.2.1 0, 10, .inl (Fm 2))) := by rw [ew80]; exact g_up_f f52 ((dq17 2 (by decide)))
                                      have f84 : w80 (md 3) = some (.inl (G.2.1 2, 10, .inl (Fm 3))) := by rw [ew80]; exact g_up_f f53 ((dq17 3 (by decide)))
                                      have f85 : w80 (md 4) = some (.inl (G.2.1 0, 64, .inl (Fm 4))) := by rw [ew80]; exact g_up_f f54 ((dq17 4 (by decide)))
                                      have f86 : w80 (md 5) = some (.inl (G.2.1 2, 16, .inl (Fm 5))) := by rw [ew80]; exact g_up_f f55 ((dq17 5 (by decide)))
                                      have f87 : w80 (md 6) = some (.inl (G.2.1 0, 16, .inl (Fm 6))) := by rw [ew80]; exact g_up_f f56 ((dq17 6 (by decide)))
                                      have f88 : w80 (md 7) = some (.inl (G.2.1 0, 16, .inl (Fm 7))) := by rw [ew80]; exact g_up_f f57 ((dq17 7 (by decide)))
                                      have f89 : w80 (md 8) = some (.inl (G.2.1 0, 20, .inl (Fm 8))) := by rw [ew80]; exact g_up_f f58 ((dq17 8 (by decide)))
                                      have f90 : w80 (md 9) = some (.inl (G.2.1 1, 10, .inr (.inl (L3 0)))) := by rw [ew80]; exact g_up_f f59 ((dq17 9 (by decide)))
                                      have f91 : w80 (md 10) = some (.inl (G.2.1 1, 10, .inr (.inl (L3 1)))) := by rw [ew80]; exact g_up_f f60 ((dq17 10 (by decide)))
                                      have f92 : w80 (md 11) = some (.inl (G.2.1 0, 10, .inl f3)) := by rw [ew80]; exact g_up_f f61 ((dq17 11 (by decide)))
                                      have f93 : w80 q2 = some (.inl (G.2.1 2, 16, .inl aM)) := by rw [ew80]; exact g_up_f f62 (g_neq f16 nq17)
                                      have f94 : w80 q17 = some (.inl (G.2.1 2, 4, .inl (upd aS (nI j : Int32).toNatClampNeg 1))) := by rw [ew80]; exact g_up_s _ _ _
                                      refine lv_goto (tgt := 103) hx hb dX7_solve_267 (by decide) ?_
                                      exact ih_L103 (tTell S T 1 j pl) tp2 bt2 (L3 0) (L3 1) f3 aM (upd aS (nI j : Int32).toNatClampNeg 1) true w80 H locs ls (by omega) (hI2) (modT_L2 hT3) (mFr_st (mFr_tr hfr hfr2) oqs ew80) ((fun i hi9 => by rw [show tTell S T 1 j pl 3 i = T 3 i from asd_no (b := 1) (b' := 0) (by decide) i]; exact haM i hi9)) (asd_up (b := 1) h0 (by omega) haS (Or.inl ⟨yc64, rfl⟩)) ((fun q => (nomatch q))) f81 f82 f83 f84 f85 f86 f87 f88 f89 f90 f91 f92 f93 f94 hP hS (lv_sub hl [0, 2, 3, 4] rfl)
                              · have yc44 : tcN S T j 3 ≠ 2 := fun q => c44 (by rw [q]; rfl)
                                have no9 : firstT S T 1 (j + 1) ((S 0 3).toNat - (j + 1)) = firstT S T 1 0 (S 0 3).toNat := by rw [← firstT_none (by omega) (tTry_none (fun q => yc44 (tUp.mpr q.2)))]; exact hft5
                                obtain ⟨i95, ei95⟩ : ∃ y : Int32, y = nI j + (1) := ⟨_, rfl⟩
                                refine lv_iinc (v := i95) (lv' := [(5, .int i95), (3, .int (g_b true)), (2, .ref q17), (1, .ref q2), (0, .ref (md 0))]) hx hb dX7_solve_224 hl (k := 0) rfl (by rw [ei95]; rfl) (by decide) rfl (fun ls hl => ?_)
                                obtain rfl : i95 = nI (j + 1) := by
                                  rw [ei95]
                                  exact nI_1 j
                                refine lv_goto (tgt := 198) hx hb dX7_solve_227 (by decide) ?_
                                exact ih_L198 (j + 1)  H locs ls (by omega) (by omega) (no9) hP hS (lv_sub hl [0, 1, 2, 3, 4] rfl)
                      exact L198 ((S 0 3).toNat + 1) 0  H locs ls (by omega) (by omega) (rfl) hP hS (lv_sub hl [0, 2, 3, 4, 5] rfl)
                    · exact absurd c34 c35
                  · have hk : (k : Int) < S 0 2 := Int.not_le.mp (fun q => c34 ((iL_nle (z := S 0 2) (k := k) (by omega) (by omega) (by omega)).mpr q))
                    obtain ⟨a1, a2, a3, a4, a5⟩ := Hi.2.2.2.1 k hk
                    have g1 := Hi.2.2.1 (S 9 k).toNat (by omega)
                    have g2 := Hi.2.2.1 (S 10 k).toNat (by omega)
                    have hs0 : ((saM S k 0 : Nat) : Int) < S 0 0 := tSa_lt (b := 0) Hi (by decide) hk 0
                    have hs1 : ((saM S k 1 : Nat) : Int) < S 0 0 := tSa_lt (b := 0) Hi (by decide) hk 1
                    refine lv_aload_n hx hb dX7_solve_119 rfl (lv_at hl 3 rfl) ?_
                    refine lv_iload hx hb dX7_solve_120 (lv_at hl 0 rfl) ?_
                    refine g_zald F hP xm (vp_in_nI (by omega) (by decide)) dX7_solve_122 ?_
                    rw [show (.int (aM (nI k : Int32).toNatClampNeg) : Value) = .int (g_b (decide (T 3 k = 1))) from by rw [nI_clamp (by omega), haM k hk, iL_b (hI.1.2.1 k hk)]]
                    refine lv_if_ne (tgt := 159) hx hb dX7_solve_123 (by decide) (fun c96 => ?_) (fun c96 => ?_)
                    · have yc96 := of_decide_eq_true (g_b1.mp c96)
                      have no9 : firstT S T 0 (k + 1) ((S 0 2).toNat - (k + 1)) = firstT S T 0 0 (S 0 2).toNat := by rw [← firstT_none (by omega) (tTry_none (fun q => by have : T 3 k = 0 := q.1; omega))]; exact hft
                      obtain ⟨i97, ei97⟩ : ∃ y : Int32, y = nI k + (1) := ⟨_, rfl⟩
                      refine lv_iinc (v := i97) (lv' := [(4, .int i97), (3, .int (g_b true)), (2, .ref q17), (1, .ref q2), (0, .ref (md 0))]) hx hb dX7_solve_159 hl (k := 0) rfl (by rw [ei97]; rfl) (by decide) rfl (fun ls hl => ?_)
                      obtain rfl : i97 = nI (k + 1) := by
                        rw [ei97]
                        exact nI_1 k
                      refine lv_goto (tgt := 110) hx hb dX7_solve_162 (by decide) ?_
                      exact ih_L110 (k + 1)  H locs ls (by omega) (by omega) (no9) hP hS (lv_sub hl [0, 1, 2, 3, 4] rfl)
                    · have yc96 := of_decide_eq_false (g_b0.mp c96)
                      have h0 : T (3 + 0) k = 0 := (hI.1.2.1 k hk).elim (fun q => q) (fun q => absurd q yc96)
                      refine lv_aload_n hx hb dX7_solve_126 rfl (lv_at hl 4 rfl) ?_
                      refine lv_aload_n hx hb dX7_solve_127 rfl (lv_at hl 4 rfl) ?_
                      refine lv_aload_n hx hb dX7_solve_128 rfl (lv_at hl 4 rfl) ?_
                      refine g_get F hP (C := RX7) (T := TX7) (N := 20) iX7 x0 rfl 11 (by decide) (List.mem_cons_of_mem _ (List.mem_append_left _ (List.mem_append_left _ (List.mem_of_getElem? (i := 9) rfl)))) (fun _ h9 => h9) rfl dX7_solve_129 ?_
                      refine lv_iload hx hb dX7_solve_132 (lv_at hl 0 rfl) ?_
                      refine g_iald F hP x6 (vp_in_nI (by omega) (by decide)) dX7_solve_134 ?_
                      rw [show (.int ((Fm 6) (nI k : Int32).toNatClampNeg) : Value) = .int (nI (S 9 k).toNat) from by rw [nI_clamp (by omega), (Hf.2.2.1 k hk).1, iL_nn (by omega)]]
                      refine g_Vi (As := [.int (nI (S 9 k).toNat)]) (rest := [.ref (md 0)]) F hP hS (k_X7_shaftOf l A G wa md S _ _ _ Fm (L2 La Lb) (S 9 k).toNat x0 x4 Hf Hi (by omega)) (cwV 1 hts gX7_solve_X7_shaftOf rfl rfl rfl cd_X7_shaftOf ⟨by rw [hR]; exact Nat.le_of_ble_eq_true rfl, by rw [hR]; exact Nat.le_of_ble_eq_true rfl⟩) x0 rfl rfl rfl hl.1 (Nat.le_of_ble_eq_true rfl) dX7_solve_135 ⟨by rw [hR]; exact Nat.le_of_ble_eq_true rfl, by rw [hR]; exact Nat.le_of_ble_eq_true rfl⟩ rfl (fun r98 w99 H locs h100 hP hS => ?_)
                      have hr98 := h100.1
                      rw [h100.2] at hP
                      rw [hr98]
                      rw [show iL (S 4 (S 9 k).toNat) = nI (saM S k 0) from by rw [iL_nn (by omega)]; rfl]
                      refine g_Vi (As := [.int (nI (saM S k 0))]) (rest := []) F hP hS (k_X7_hasSpeed l A G wa md S _ _ _ (up1 Fm 11 Fs) (L2 La Lb) (saM S k 0) (zB T (saM S k 0)) x0 x10 (by have := hs0; omega) (zB_z hT hs0) (zB_b hI.1 hs0)) (cwV 1 hts gX7_solve_X7_hasSpeed rfl rfl rfl cd_X7_hasSpeed ⟨by rw [hR]; exact Nat.le_of_ble_eq_true rfl, by rw [hR]; exact Nat.le_of_ble_eq_true rfl⟩) x0 rfl rfl rfl hl.1 (Nat.le_of_ble_eq_true rfl) dX7_solve_138 ⟨by rw [hR]; exact Nat.le_of_ble_eq_true rfl, by rw [hR]; exact Nat.le_of_ble_eq_true rfl⟩ rfl (fun r101 w102 H locs h103 hP hS => ?_)
                      have hr101 := h103.1
                      rw [h103.2] at hP
                      rw [hr101]
                      rw [zB_d hI.1 hs0]
                      refine lv_aload_n hx hb dX7_solve_141 rfl (lv_at hl 4 rfl) ?_
                      refine lv_aload_n hx hb dX7_solve_142 rfl (lv_at hl 4 rfl) ?_
                      refine lv_aload_n hx hb dX7_solve_143 rfl (lv_at hl 4 rfl) ?_
                      refine g_get F hP (C := RX7) (T := TX7) (N := 20) iX7 x0 rfl 12 (by decide) (List.mem_cons_of_mem _ (List.mem_append_left _ (List.mem_append_left _ (List.mem_of_getElem? (i := 10) rfl)))) (fun _ h9 => h9) rfl dX7_solve_144 ?_
                      refine lv_iload hx hb dX7_solve_147 (lv_at hl 0 rfl) ?_
                      refine g_iald F hP x7 (vp_in_nI (by omega) (by decide)) dX7_solve_149 ?_
                      rw [show (.int ((Fm 7) (nI k : Int32).toNatClampNeg) : Value) = .int (nI (S 10 k).toNat) from by rw [nI_clamp (by omega), (Hf.2.2.1 k hk).2, iL_nn (by omega)]]
                      refine g_Vi (As := [.int (nI (S 10 k).toNat)]) (rest := [.ref (md 0), .int (g_b (decide (T 2 (saM S k 0) ≠ -1)))]) F hP hS (k_X7_shaftOf l A G wa md S _ _ _ Fm (L2 La Lb) (S 10 k).toNat x0 x4 Hf Hi (by omega)) (cwV 1 hts gX7_solve_X7_shaftOf rfl rfl rfl cd_X7_shaftOf ⟨by rw [hR]; exact Nat.le_of_ble_eq_true rfl, by rw [hR]; exact Nat.le_of_ble_eq_true rfl⟩) x0 rfl rfl rfl hl.1 (Nat.le_of_ble_eq_true rfl) dX7_solve_150 ⟨by rw [hR]; exact Nat.le_of_ble_eq_true rfl, by rw [hR]; exact Nat.le_of_ble_eq_true rfl⟩ rfl (fun r104 w105 H locs h106 hP hS => ?_)
                      have hr104 := h106.1
                      rw [h106.2] at hP
                      rw [hr104]
                      rw [show iL (S 4 (S 10 k).toNat) = nI (saM S k 1) from by rw [iL_nn (by omega)]; rfl]
                      refine g_Vi (As := [.int (nI (saM S k 1))]) (rest := [.int (g_b (decide (T 2 (saM S k 0) ≠ -1)))]) F hP hS (k_X7_hasSpeed l A G wa md S _ _ _ (up1 Fm 11 Fs) (L2 La Lb) (saM S k 1) (zB T (saM S k 1)) x0 x10 (by have := hs1; omega) (zB_z hT hs1) (zB_b hI.1 hs1)) (cwV 1 hts gX7_solve_X7_hasSpeed rfl rfl rfl cd_X7_hasSpeed ⟨by rw [hR]; exact Nat.le_of_ble_eq_true rfl, by rw [hR]; exact Nat.le_of_ble_eq_true rfl⟩) x0 rfl rfl rfl hl.1 (Nat.le_of_ble_eq_true rfl) dX7_solve_153 ⟨by rw [hR]; exact Nat.le_of_ble_eq_true rfl, by rw [hR]; exact Nat.le_of_ble_eq_true rfl⟩ rfl (fun r107 w108 H locs h109 hP hS => ?_)
                      have hr107 := h109.1
                      rw [h109.2] at hP
                      rw [hr107]
                      rw [zB_d hI.1 hs1]
                      refine lv_icmp_ne (tgt := 165) hx hb dX7_solve_156 (by decide) (fun c110 => ?_) (fun c110 => ?_)
                      · have yc110 : ¬ (T 2 (saM S k 0) = -1 ↔ T 2 (saM S k 1) = -1) := fun q => c110 (g_bi2.mpr (dec_ne.mpr q))
                        refine lv_iload hx hb dX7_solve_165 (lv_at hl 0 rfl) ?_
                        refine lv_aload_n hx hb dX7_solve_167 rfl (lv_at hl 4 rfl) ?_
                        refine g_get F hP (C := RX7) (T := TX7) (N := 20) iX7 x0 rfl 10 (by decide) (List.mem_cons_of_mem _ (List.mem_append_left _ (List.mem_append_left _ (List.mem_of_getElem? (i := 8) rfl)))) (fun _ h9 => h9) rfl dX7_solve_168 ?_
                        refine lv_icmp_ge (tgt := 195) hx hb dX7_solve_171 (by decide) (fun c111 => ?_) (fun c111 => ?_)
                        · exact absurd c111 c34
                        · refine lv_aload_n hx hb dX7_solve_174 rfl (lv_at hl 3 rfl) ?_
                          refine lv_iload hx hb dX7_solve_175 (lv_at hl 0 rfl) ?_
                          refine lv_aload_n hx hb dX7_solve_177 rfl (lv_at hl 4 rfl) ?_
                          refine lv_iload hx hb dX7_solve_178 (lv_at hl 0 rfl) ?_
                          obtain ⟨pl, hU⟩ := tU_ex yc110
                          have hst : step S T = some (tTell S T 0 k pl) := step_mesh (by rw [← hft]; exact firstT_some (by omega) (tTry_some h0 hU))
                          refine g_Vi (As := [.int (nI k)]) (rest := [.int (nI k), .ref q2]) F hP hS (k_X7_tellByMesh l A G wa md S th tp1 bt1 (up1 Fm 11 Fs) (L2 La Lb) T k pl HM Hj HF Hi hI.1 hT hk hU) (cwV 1 hts gX7_solve_X7_tellByMesh rfl rfl rfl cd_X7_tellByMesh ⟨by rw [hR]; exact Nat.le_of_ble_eq_true rfl, by rw [hR]; exact Nat.le_of_ble_eq_true rfl⟩) x0 rfl rfl rfl hl.1 (Nat.le_of_ble_eq_true rfl) dX7_solve_180 ⟨by rw [hR]; exact Nat.le_of_ble_eq_true rfl, by rw [hR]; exact Nat.le_of_ble_eq_true rfl⟩ rfl (fun r112 w113 H locs h114 hP hS => ?_)
                          obtain ⟨hfr2, tp2, bt2, L3, f3, ⟨z0, z1, z2, z3, z4, z5, z6, z7, z8, z9, z10, z11⟩, hT3⟩ := h114.2
                          obtain ⟨hI2, hmu⟩ := solI_s Hi hI hst
                          have fu1 := fuS_t S (tTell S T 0 k pl)
                          have f115 : w113 (md 0) = some (.inr (8, [.int th, .int (iL (S 0 0)), .ref (md 1), .ref (md 2), .ref (md 3), .int (iL (S 0 4)), .int (iL (S 0 5)), .int (iL (S 0 1)), .ref (md 4), .ref (md 5), .int (iL (S 0 2)), .ref (md 6), .ref (md 7), .int (iL (S 0 3)), .ref (md 8), .ref (md 9), .ref (md 10), .ref (md 11), .long tp2, .long bt2])) := z0
                          have f116 : w113 (md 1) = some (.inl (G.2.1 0, 10, .inl (Fm 1))) := z1
                          have f117 : w113 (md 2) = some (.inl (G.2.1 0, 10, .inl (Fm 2))) := z2
                          have f118 : w113 (md 3) = some (.inl (G.2.1 2, 10, .inl (Fm 3))) := z3
                          have f119 : w113 (md 4) = some (.inl (G.2.1 0, 64, .inl (Fm 4))) := z4
                          have f120 : w113 (md 5) = some (.inl (G.2.1 2, 16, .inl (Fm 5))) := z5
                          have f121 : w113 (md 6) = some (.inl (G.2.1 0, 16, .inl (Fm 6))) := z6
                          have f122 : w113 (md 7) = some (.inl (G.2.1 0, 16, .inl (Fm 7))) := z7
                          have f123 : w113 (md 8) = some (.inl (G.2.1 0, 20, .inl (Fm 8))) := z8
                          have f124 : w113 (md 9) = some (.inl (G.2.1 1, 10, .inr (.inl (L3 0)))) := z9
                          have f125 : w113 (md 10) = some (.inl (G.2.1 1, 10, .inr (.inl (L3 1)))) := z10
                          have f126 : w113 (md 11) = some (.inl (G.2.1 0, 10, .inl f3)) := z11
                          have f127 : w113 q2 = some (.inl (G.2.1 2, 16, .inl aM)) := by rw [hfr2.1 q2 (by rw [xm]; exact fun q => (nomatch q)) dq2]; exact xm
                          have f128 : w113 q17 = some (.inl (G.2.1 2, 4, .inl aS)) := by rw [hfr2.1 q17 (by rw [xs]; exact fun q => (nomatch q)) dq17]; exact xs
                          have er112 : r112 = g_b (decide (¬ bigT S T 0 k pl)) := h114.1
                          rw [er112]
                          refine lv_if_ne (tgt := 190) hx hb dX7_solve_183 (by decide) (fun c129 => ?_) (fun c129 => ?_)
                          · have yc129 : ¬ bigT S T 0 k pl := of_decide_eq_true (g_b1.mp c129)
                            refine lv_iconst (v := 0) hx hb dX7_solve_190 (by decide) ?_
                            refine g_zast F hP hS f127 (vp_in_nI (by omega) (by decide)) (by first | rfl | exact g_nb8 _) dX7_solve_191 (fun H locs hP hS => ?_)
                            obtain ⟨w130, ew130⟩ : ∃ z, z = g_up w113 q2 (.inl (G.2.1 2, 16, .inl (upd aM (nI k : Int32).toNatClampNeg 0))) := ⟨_, rfl⟩
                            have hP : g_P A G w130 H := by rw [ew130]; exact hP
                            have f131 : w130 (md 0) = some (.inr (8, [.int th, .int (iL (S 0 0)), .ref (md 1), .ref (md 2), .ref (md 3), .int (iL (S 0 4)), .int (iL (S 0 5)), .int (iL (S 0 1)), .ref (md 4), .ref (md 5), .int (iL (S 0 2)), .ref (md 6), .ref (md 7), .int (iL (S 0 3)), .ref (md 8), .ref (md 9), .ref (md 10), .ref (md 11), .long tp2, .long bt2])) := by rw [ew130]; exact g_up_f f115 ((dq2 0 (by decide)))
                            have f132 : w130 (md 1) = some (.inl (G.2.1 0, 10, .inl (Fm 1))) := by rw [ew130]; exact g_up_f f116 ((dq2 1 (by decide)))
                            have f133 : w130 (md 2) = some (.inl (G.2.1 0, 10, .inl (Fm 2))) := by rw [ew130]; exact g_up_f f117 ((dq2 2 (by decide)))
                            have f134 : w130 (md 3) = some (.inl (G.2.1 2, 10, .inl (Fm 3))) := by rw [ew130]; exact g_up_f f118 ((dq2 3 (by decide)))
                            have f135 : w130 (md 4) = some (.inl (G.2.1 0, 64, .inl (Fm 4))) := by rw [ew130]; exact g_up_f f119 ((dq2 4 (by decide)))
                            have f136 : w130 (md 5) = some (.inl (G.2.1 2, 16, .inl (Fm 5))) := by rw [ew130]; exact g_up_f f120 ((dq2 5 (by decide)))
                            have f137 : w130 (md 6) = some (.inl (G.2.1 0, 16, .inl (Fm 6))) := by rw [ew130]; exact g_up_f f121 ((dq2 6 (by decide)))
                            have f138 : w130 (md 7) = some (.inl (G.2.1 0, 16, .inl (Fm 7))) := by rw [ew130]; exact g_up_f f122 ((dq2 7 (by decide)))
                            have f139 : w130 (md 8) = some (.inl (G.2.1 0, 20, .inl (Fm 8))) := by rw [ew130]; exact g_up_f f123 ((dq2 8 (by decide)))
                            have f140 : w130 (md 9) = some (.inl (G.2.1 1, 10, .inr (.inl (L3 0)))) := by rw [ew130]; exact g_up_f f124 ((dq2 9 (by decide)))
                            have f141 : w130 (md 10) = some (.inl (G.2.1 1, 10, .inr (.inl (L3 1)))) := by rw [ew130]; exact g_up_f f125 ((dq2 10 (by decide)))
                            have f142 : w130 (md 11) = some (.inl (G.2.1 0, 10, .inl f3)) := by rw [ew130]; exact g_up_f f126 ((dq2 11 (by decide)))
                            have f143 : w130 q17 = some (.inl (G.2.1 2, 4, .inl aS)) := by rw [ew130]; exact g_up_f f128 (dqs)
                            have f144 : w130 q2 = some (.inl (G.2.1 2, 16, .inl (upd aM (nI k : Int32).toNatClampNeg 0))) := by rw [ew130]; exact g_up_s _ _ _
                            refine lv_goto (tgt := 103) hx hb dX7_solve_192 (by decide) ?_
                            exact ih_L103 (tTell S T 0 k pl) tp2 bt2 (L3 0) (L3 1) f3 (upd aM (nI k : Int32).toNatClampNeg 0) aS true w130 H locs ls (by omega) (hI2) (modT_L2 hT3) (mFr_st (mFr_tr hfr hfr2) oqm ew130) (asd_up (b := 0) h0 (by omega) haM (Or.inr ⟨yc129, rfl⟩)) ((fun i hi9 => by rw [show tTell S T 0 k pl 4 i = T 4 i from asd_no (b := 0) (b' := 1) (by decide) i]; exact haS i hi9)) ((fun q => (nomatch q))) f131 f132 f133 f134 f135 f136 f137 f138 f139 f140 f141 f142 f144 f143 hP hS (lv_sub hl [1, 2, 3, 4] rfl)
                          · have yc129 : bigT S T 0 k pl := Decidable.not_not.mp (of_decide_eq_false (g_b0.mp c129))
                            refine lv_iconst (v := 1) hx hb dX7_solve_186 (by decide) ?_
                            refine lv_goto (tgt := 191) hx hb dX7_solve_187 (by decide) ?_
                            refine g_zast F hP hS f127 (vp_in_nI (by omega) (by decide)) (by first | rfl | exact g_nb8 _) dX7_solve_191 (fun H locs hP hS => ?_)
                            obtain ⟨w145, ew145⟩ : ∃ z, z = g_up w113 q2 (.inl (G.2.1 2, 16, .inl (upd aM (nI k : Int32).toNatClampNeg 1))) := ⟨_, rfl⟩
                            have hP : g_P A G w145 H := by rw [ew145]; exact hP
                            have f146 : w145 (md 0) = some (.inr (8, [.int th, .int (iL (S 0 0)), .ref (md 1), .ref (md 2), .ref (md 3), .int (iL (S 0 4)), .int (iL (S 0 5)), .int (iL (S 0 1)), .ref (md 4), .ref (md 5), .int (iL (S 0 2)), .ref (md 6), .ref (md 7), .int (iL (S 0 3)), .ref (md 8), .ref (md 9), .ref (md 10), .ref (md 11), .long tp2, .long bt2])) := by rw [ew145]; exact g_up_f f115 ((dq2 0 (by decide)))
                            have f147 : w145 (md 1) = some (.inl (G.2.1 0, 10, .inl (Fm 1))) := by rw [ew145]; exact g_up_f f116 ((dq2 1 (by decide)))
                            have f148 : w145 (md 2) = some (.inl (G.2.1 0, 10, .inl (Fm 2))) := by rw [ew145]; exact g_up_f f117 ((dq2 2 (by decide)))
                            have f149 : w145 (md 3) = some (.inl (G.2.1 2, 10, .inl (Fm 3))) := by rw [ew145]; exact g_up_f f118 ((dq2 3 (by decide)))
                            have f150 : w145 (md 4) = some (.inl (G.2.1 0, 64, .inl (Fm 4))) := by rw [ew145]; exact g_up_f f119 ((dq2 4 (by decide)))
                            have f151 : w145 (md 5) = some (.inl (G.2.1 2, 16, .inl (Fm 5))) := by rw [ew145]; exact g_up_f f120 ((dq2 5 (by decide)))
                            have f152 : w145 (md 6) = some (.inl (G.2.1 0, 16, .inl (Fm 6))) := by rw [ew145]; exact g_up_f f121 ((dq2 6 (by decide)))
                            have f153 : w145 (md 7) = some (.inl (G.2.1 0, 16, .inl (Fm 7))) := by rw [ew145]; exact g_up_f f122 ((dq2 7 (by decide)))
                            have f154 : w145 (md 8) = some (.inl (G.2.1 0, 20, .inl (Fm 8))) := by rw [ew145]; exact g_up_f f123 ((dq2 8 (by decide)))
                            have f155 : w145 (md 9) = some (.inl (G.2.1 1, 10, .inr (.inl (L3 0)))) := by rw [ew145]; exact g_up_f f124 ((dq2 9 (by decide)))
                            have f156 : w145 (md 10) = some (.inl (G.2.1 1, 10, .inr (.inl (L3 1)))) := by rw [ew145]; exact g_up_f f125 ((dq2 10 (by decide)))
                            have f157 : w145 (md 11) = some (.inl (G.2.1 0, 10, .inl f3)) := by rw [ew145]; exact g_up_f f126 ((dq2 11 (by decide)))
                            have f158 : w145 q17 = some (.inl (G.2.1 2, 4, .inl aS)) := by rw [ew145]; exact g_up_f f128 (dqs)
                            have f159 : w145 q2 = some (.inl (G.2.1 2, 16, .inl (upd aM (nI k : Int32).toNatClampNeg 1))) := by rw [ew145]; exact g_up_s _ _ _
                            refine lv_goto (tgt := 103) hx hb dX7_solve_192 (by decide) ?_
                            exact ih_L103 (tTell S T 0 k pl) tp2 bt2 (L3 0) (L3 1) f3 (upd aM (nI k : Int32).toNatClampNeg 1) aS true w145 H locs ls (by omega) (hI2) (modT_L2 hT3) (mFr_st (mFr_tr hfr hfr2) oqm ew145) (asd_up (b := 0) h0 (by omega) haM (Or.inl ⟨yc129, rfl⟩)) ((fun i hi9 => by rw [show tTell S T 0 k pl 4 i = T 4 i from asd_no (b := 0) (b' := 1) (by decide) i]; exact haS i hi9)) ((fun q => (nomatch q))) f146 f147 f148 f149 f150 f151 f152 f153 f154 f155 f156 f157 f159 f158 hP hS (lv_sub hl [1, 2, 3, 4] rfl)
                      · have yc110 := dec_ne.mp (g_bi2.mp c110)
                        have no9 : firstT S T 0 (k + 1) ((S 0 2).toNat - (k + 1)) = firstT S T 0 0 (S 0 2).toNat := by rw [← firstT_none (by omega) (tTry_none (fun q => tUm yc110 q.2))]; exact hft
                        obtain ⟨i160, ei160⟩ : ∃ y : Int32, y = nI k + (1) := ⟨_, rfl⟩
                        refine lv_iinc (v := i160) (lv' := [(4, .int i160), (3, .int (g_b true)), (2, .ref q17), (1, .ref q2), (0, .ref (md 0))]) hx hb dX7_solve_159 hl (k := 0) rfl (by rw [ei160]; rfl) (by decide) rfl (fun ls hl => ?_)
                        obtain rfl : i160 = nI (k + 1) := by
                          rw [ei160]
                          exact nI_1 k
                        refine lv_goto (tgt := 110) hx hb dX7_solve_162 (by decide) ?_
                        exact ih_L110 (k + 1)  H locs ls (by omega) (by omega) (no9) hP hS (lv_sub hl [0, 1, 2, 3, 4] rfl)
              exact L110 ((S 0 2).toNat + 1) 0  H locs ls (by omega) (by omega) (rfl) hP hS (lv_sub hl [0, 1, 2, 3, 4] rfl)
        exact L103 40 (T0 S) tp bt La Lb Fs (fun _ => 0) (fun _ => 0) true w18 H locs ls (by have := mu_le Hi (T0 S); have := fuS_t S (T0 S); omega) (solI_0 Hi) (hT9) (mFr_st (mFr_st hfr oqm ew3) oqs ew18) ((fun j hj => rfl)) ((fun j hj => rfl)) ((fun q => (nomatch q))) f19 f20 f21 f22 f23 f24 f25 f26 f27 f28 f29 f30 f31 f32 hP hS (lv_sub hl [0, 1, 2, 3] rfl)
      · have hk : (k : Int) < S 0 0 := Int.not_le.mp (fun q => c1 ((iL_nle (z := S 0 0) (k := k) (by omega) (by omega) (by omega)).mpr q))
        refine lv_iload_n hx hb dX7_solve_10 rfl (lv_at hl 0 rfl) ?_
        refine lv_aload_n hx hb dX7_solve_11 rfl (lv_at hl 1 rfl) ?_
        refine g_get F hP (C := RX7) (T := TX7) (N := 20) iX7 x0 rfl 5 (by decide) (List.mem_cons_of_mem _ (List.mem_append_left _ (List.mem_append_left _ (List.mem_of_getElem? (i := 1) rfl)))) (fun _ h9 => h9) rfl dX7_solve_12 ?_
        refine lv_icmp_eq (tgt := 27) hx hb dX7_solve_15 (by decide) (fun c161 => ?_) (fun c161 => ?_)
        · have hd : (k : Int) = S 0 4 := (nI_eqi (by omega) (by omega) (by omega)).mp c161
          refine lv_iconst (v := 1) hx hb dX7_solve_27 (by decide) ?_
          refine lv_goto (tgt := 32) hx hb dX7_solve_28 (by decide) ?_
          refine lv_istore_n (lv' := [(2, .int 1), (1, .int (nI k)), (0, .ref (md 0))]) hx hb dX7_solve_32 rfl hl (by decide) rfl (fun ls hl => ?_)
          refine lv_aload_n hx hb dX7_solve_33 rfl (lv_at hl 2 rfl) ?_
          refine g_get F hP (C := RX7) (T := TX7) (N := 20) iX7 x0 rfl 15 (by decide) (List.mem_cons_of_mem _ (List.mem_append_left _ (List.mem_append_left _ (List.mem_of_getElem? (i := 3) rfl)))) (fun _ h9 => h9) rfl dX7_solve_34 ?_
          refine lv_iload_n hx hb dX7_solve_37 rfl (lv_at hl 1 rfl) ?_
          refine lv_iload_n hx hb dX7_solve_38 rfl (lv_at hl 1 rfl) ?_
          refine lv_aload_n hx hb dX7_solve_39 rfl (lv_at hl 2 rfl) ?_
          refine g_get F hP (C := RX7) (T := TX7) (N := 20) iX7 x0 rfl 5 (by decide) (List.mem_cons_of_mem _ (List.mem_append_left _ (List.mem_append_left _ (List.mem_of_getElem? (i := 1) rfl)))) (fun _ h9 => h9) rfl dX7_solve_40 ?_
          refine lv_icmp_ne (tgt := 54) hx hb dX7_solve_43 (by decide) (fun c162 => ?_) (fun c162 => ?_)
          · exact absurd c161 c162
          · refine lv_aload_n hx hb dX7_solve_46 rfl (lv_at hl 2 rfl) ?_
            refine g_get F hP (C := RX7) (T := TX7) (N := 20) iX7 x0 rfl 6 (by decide) (List.mem_cons_of_mem _ (List.mem_append_left _ (List.mem_append_left _ (List.mem_of_getElem? (i := 4) rfl)))) (fun _ h9 => h9) rfl dX7_solve_47 ?_
            refine lv_i2l hx hb dX7_solve_50 rfl ?_
            refine lv_topl (fun v163 ev163 => ?_)
            obtain rfl : v163 = zL (S 0 5) := by
              rw [ev163]
              exact iL64 (by omega) (by omega)
            refine lv_goto (tgt := 55) hx hb dX7_solve_51 (by decide) ?_
            refine g_last F hP hS x9 (vp_in_nI (by omega) (by decide)) dX7_solve_55 (fun H locs hP hS => ?_)
            obtain ⟨w164, ew164⟩ : ∃ z, z = g_up wa (md 9) (.inl (G.2.1 1, 10, .inr (.inl (vp_updL La (nI k : Int32).toNatClampNeg (zL (S 0 5)))))) := ⟨_, rfl⟩
            have hP : g_P A G w164 H := by rw [ew164]; exact hP
            have f165 : w164 (md 0) = some (.inr (8, [.int th, .int (iL (S 0 0)), .ref (md 1), .ref (md 2), .ref (md 3), .int (iL (S 0 4)), .int (iL (S 0 5)), .int (iL (S 0 1)), .ref (md 4), .ref (md 5), .int (iL (S 0 2)), .ref (md 6), .ref (md 7), .int (iL (S 0 3)), .ref (md 8), .ref (md 9), .ref (md 10), .ref (md 11), .long tp, .long bt])) := by rw [ew164]; exact g_up_f x0 ((fun q => absurd (Hj 0 9 (by decide) (by decide) q) (by decide)))
            have f166 : w164 (md 1) = some (.inl (G.2.1 0, 10, .inl (Fm 1))) := by rw [ew164]; exact g_up_f x1 ((fun q => absurd (Hj 1 9 (by decide) (by decide) q) (by decide)))
            have f167 : w164 (md 2) = some (.inl (G.2.1 0, 10, .inl (Fm 2))) := by rw [ew164]; exact g_up_f x2 ((fun q => absurd (Hj 2 9 (by decide) (by decide) q) (by decide)))
            have f168 : w164 (md 3) = some (.inl (G.2.1 2, 10, .inl (Fm 3))) := by rw [ew164]; exact g_up_f x3 ((fun q => absurd (Hj 3 9 (by decide) (by decide) q) (by decide)))
            have f169 : w164 (md 4) = some (.inl (G.2.1 0, 64, .inl (Fm 4))) := by rw [ew164]; exact g_up_f x4 ((fun q => absurd (Hj 4 9 (by decide) (by decide) q) (by decide)))
            have f170 : w164 (md 5) = some (.inl (G.2.1 2, 16, .inl (Fm 5))) := by rw [ew164]; exact g_up_f x5 ((fun q => absurd (Hj 5 9 (by decide) (by decide) q) (by decide)))
            have f171 : w164 (md 6) = some (.inl (G.2.1 0, 16, .inl (Fm 6))) := by rw [ew164]; exact g_up_f x6 ((fun q => absurd (Hj 6 9 (by decide) (by decide) q) (by decide)))
            have f172 : w164 (md 7) = some (.inl (G.2.1 0, 16, .inl (Fm 7))) := by rw [ew164]; exact g_up_f x7 ((fun q => absurd (Hj 7 9 (by decide) (by decide) q) (by decide)))
            have f173 : w164 (md 8) = some (.inl (G.2.1 0, 20, .inl (Fm 8))) := by rw [ew164]; exact g_up_f x8 ((fun q => absurd (Hj 8 9 (by decide) (by decide) q) (by decide)))
            have f174 : w164 (md 10) = some (.inl (G.2.1 1, 10, .inr (.inl Lb))) := by rw [ew164]; exact g_up_f x10 ((fun q => absurd (Hj 10 9 (by decide) (by decide) q) (by decide)))
            have f175 : w164 (md 11) = some (.inl (G.2.1 0, 10, .inl Fs)) := by rw [ew164]; exact g_up_f x11 ((fun q => absurd (Hj 11 9 (by decide) (by decide) q) (by decide)))
            have f176 : w164 (md 9) = some (.inl (G.2.1 1, 10, .inr (.inl (vp_updL La (nI k : Int32).toNatClampNeg (zL (S 0 5)))))) := by rw [ew164]; exact g_up_s _ _ _
            refine lv_aload_n hx hb dX7_solve_56 rfl (lv_at hl 2 rfl) ?_
            refine g_get F hP (C := RX7) (T := TX7) (N := 20) iX7 f165 rfl 16 (by decide) (List.mem_cons_of_mem _ (List.mem_append_left _ (List.mem_append_left _ (List.mem_of_getElem? (i := 5) rfl)))) (fun _ h9 => h9) rfl dX7_solve_57 ?_
            refine lv_iload_n hx hb dX7_solve_60 rfl (lv_at hl 1 rfl) ?_
            refine lv_iload_n hx hb dX7_solve_61 rfl (lv_at hl 0 rfl) ?_
            refine lv_if_eq (tgt := 69) hx hb dX7_solve_62 (by decide) (fun c177 => ?_) (fun c177 => ?_)
            · exact absurd c177 (by decide)
            · refine lv_lconst (v := 1) hx hb dX7_solve_65 (by decide) ?_
              refine lv_goto (tgt := 70) hx hb dX7_solve_66 (by decide) ?_
              refine g_last F hP hS f174 (vp_in_nI (by omega) (by decide)) dX7_solve_70 (fun H locs hP hS => ?_)
              obtain ⟨w178, ew178⟩ : ∃ z, z = g_up w164 (md 10) (.inl (G.2.1 1, 10, .inr (.inl (vp_updL Lb (nI k : Int32).toNatClampNeg 1)))) := ⟨_, rfl⟩
              have hP : g_P A G w178 H := by rw [ew178]; exact hP
              have f179 : w178 (md 0) = some (.inr (8, [.int th, .int (iL (S 0 0)), .ref (md 1), .ref (md 2), .ref (md 3), .int (iL (S 0 4)), .int (iL (S 0 5)), .int (iL (S 0 1)), .ref (md 4), .ref (md 5), .int (iL (S 0 2)), .ref (md 6), .ref (md 7), .int (iL (S 0 3)), .ref (md 8), .ref (md 9), .ref (md 10), .ref (md 11), .long tp, .long bt])) := by rw [ew178]; exact g_up_f f165 ((fun q => absurd (Hj 0 10 (by decide) (by decide) q) (by decide)))
              have f180 : w178 (md 1) = some (.inl (G.2.1 0, 10, .inl (Fm 1))) := by rw [ew178]; exact g_up_f f166 ((fun q => absurd (Hj 1 10 (by decide) (by decide) q) (by decide)))
              have f181 : w178 (md 2) = some (.inl (G.2.1 0, 10, .inl (Fm 2))) := by rw [ew178]; exact g_up_f f167 ((fun q => absurd (Hj 2 10 (by decide) (by decide) q) (by decide)))
              have f182 : w178 (md 3) = some (.inl (G.2.1 2, 10, .inl (Fm 3))) := by rw [ew178]; exact g_up_f f168 ((fun q => absurd (Hj 3 10 (by decide) (by decide) q) (by decide)))
              have f183 : w178 (md 4) = some (.inl (G.2.1 0, 64, .inl (Fm 4))) := by rw [ew178]; exact g_up_f f169 ((fun q => absurd (Hj 4 10 (by decide) (by decide) q) (by decide)))
              have f184 : w178 (md 5) = some (.inl (G.2.1 2, 16, .inl (Fm 5))) := by rw [ew178]; exact g_up_f f170 ((fun q => absurd (Hj 5 10 (by decide) (by decide) q) (by decide)))
              have f185 : w178 (md 6) = some (.inl (G.2.1 0, 16, .inl (Fm 6))) := by rw [ew178]; exact g_up_f f171 ((fun q => absurd (Hj 6 10 (by decide) (by decide) q) (by decide)))
              have f186 : w178 (md 7) = some (.inl (G.2.1 0, 16, .inl (Fm 7))) := by rw [ew178]; exact g_up_f f172 ((fun q => absurd (Hj 7 10 (by decide) (by decide) q) (by decide)))
              have f187 : w178 (md 8) = some (.inl (G.2.1 0, 20, .inl (Fm 8))) := by rw [ew178]; exact g_up_f f173 ((fun q => absurd (Hj 8 10 (by decide) (by decide) q) (by decide)))
              have f188 : w178 (md 11) = some (.inl (G.2.1 0, 10, .inl Fs)) := by rw [ew178]; exact g_up_f f175 ((fun q => absurd (Hj 11 10 (by decide) (by decide) q) (by decide)))
              have f189 : w178 (md 9) = some (.inl (G.2.1 1, 10, .inr (.inl (vp_updL La (nI k : Int32).toNatClampNeg (zL (S 0 5)))))) := by rw [ew178]; exact g_up_f f176 ((fun q => absurd (Hj 9 10 (by decide) (by decide) q) (by decide)))
              have f190 : w178 (md 10) = some (.inl (G.2.1 1, 10, .inr (.inl (vp_updL Lb (nI k : Int32).toNatClampNeg 1)))) := by rw [ew178]; exact g_up_s _ _ _
              refine lv_aload_n hx hb dX7_solve_71 rfl (lv_at hl 2 rfl) ?_
              refine g_get F hP (C := RX7) (T := TX7) (N := 20) iX7 f179 rfl 17 (by decide) (List.mem_cons_of_mem _ (List.mem_append_left _ (List.mem_append_left _ (List.mem_of_getElem? (i := 6) rfl)))) (fun _ h9 => h9) rfl dX7_solve_72 ?_
              refine lv_iload_n hx hb dX7_solve_75 rfl (lv_at hl 1 rfl) ?_
              refine lv_iload_n hx hb dX7_solve_76 rfl (lv_at hl 0 rfl) ?_
              refine lv_if_eq (tgt := 84) hx hb dX7_solve_77 (by decide) (fun c191 => ?_) (fun c191 => ?_)
              · exact absurd c191 (by decide)
              · refine lv_iconst (v := 0) hx hb dX7_solve_80 (by decide) ?_
                refine lv_goto (tgt := 85) hx hb dX7_solve_81 (by decide) ?_
                refine g_iast F hP hS f188 (vp_in_nI (by omega) (by decide)) dX7_solve_85 (fun H locs hP hS => ?_)
                obtain ⟨w192, ew192⟩ : ∃ z, z = g_up w178 (md 11) (.inl (G.2.1 0, 10, .inl (upd Fs (nI k : Int32).toNatClampNeg 0))) := ⟨_, rfl⟩
                have hP : g_P A G w192 H := by rw [ew192]; exact hP
                have f193 : w192 (md 0) = some (.inr (8, [.int th, .int (iL (S 0 0)), .ref (md 1), .ref (md 2), .ref (md 3), .int (iL (S 0 4)), .int (iL (S 0 5)), .int (iL (S 0 1)), .ref (md 4), .ref (md 5), .int (iL (S 0 2)), .ref (md 6), .ref (md 7), .int (iL (S 0 3)), .ref (md 8), .ref (md 9), .ref (md 10), .ref (md 11), .long tp, .long bt])) := by rw [ew192]; exact g_up_f f179 ((fun q => absurd (Hj 0 11 (by decide) (by decide) q) (by decide)))
                have f194 : w192 (md 1) = some (.inl (G.2.1 0, 10, .inl (Fm 1))) := by rw [ew192]; exact g_up_f f180 ((fun q => absurd (Hj 1 11 (by decide) (by decide) q) (by decide)))
                have f195 : w192 (md 2) = some (.inl (G.2.1 0, 10, .inl (Fm 2))) := by rw [ew192]; exact g_up_f f181 ((fun q => absurd (Hj 2 11 (by decide) (by decide) q) (by decide)))
                have f196 : w192 (md 3) = some (.inl (G.2.1 2, 10, .inl (Fm 3))) := by rw [ew192]; exact g_up_f f182 ((fun q => absurd (Hj 3 11 (by decide) (by decide) q) (by decide)))
                have f197 : w192 (md 4) = some (.inl (G.2.1 0, 64, .inl (Fm 4))) := by rw [ew192]; exact g_up_f f183 ((fun q => absurd (Hj 4 11 (by decide) (by decide) q) (by decide)))
                have f198 : w192 (md 5) = some (.inl (G.2.1 2, 16, .inl (Fm 5))) := by rw [ew192]; exact g_up_f f184 ((fun q => absurd (Hj 5 11 (by decide) (by decide) q) (by decide)))
                have f199 : w192 (md 6) = some (.inl (G.2.1 0, 16, .inl (Fm 6))) := by rw [ew192]; exact g_up_f f185 ((fun q => absurd (Hj 6 11 (by decide) (by decide) q) (by decide)))
                have f200 : w192 (md 7) = some (.inl (G.2.1 0, 16, .inl (Fm 7))) := by rw [ew192]; exact g_up_f f186 ((fun q => absurd (Hj 7 11 (by decide) (by decide) q) (by decide)))
                have f201 : w192 (md 8) = some (.inl (G.2.1 0, 20, .inl (Fm 8))) := by rw [ew192]; exact g_up_f f187 ((fun q => absurd (Hj 8 11 (by decide) (by decide) q) (by decide)))
                have f202 : w192 (md 9) = some (.inl (G.2.1 1, 10, .inr (.inl (vp_updL La (nI k : Int32).toNatClampNeg (zL (S 0 5)))))) := by rw [ew192]; exact g_up_f f189 ((fun q => absurd (Hj 9 11 (by decide) (by decide) q) (by decide)))
                have f203 : w192 (md 10) = some (.inl (G.2.1 1, 10, .inr (.inl (vp_updL Lb (nI k : Int32).toNatClampNeg 1)))) := by rw [ew192]; exact g_up_f f190 ((fun q => absurd (Hj 10 11 (by decide) (by decide) q) (by decide)))
                have f204 : w192 (md 11) = some (.inl (G.2.1 0, 10, .inl (upd Fs (nI k : Int32).toNatClampNeg 0))) := by rw [ew192]; exact g_up_s _ _ _
                obtain ⟨i205, ei205⟩ : ∃ y : Int32, y = nI k + (1) := ⟨_, rfl⟩
                refine lv_iinc (v := i205) (lv' := [(1, .int i205), (2, .int 1), (0, .ref (md 0))]) hx hb dX7_solve_86 hl (k := 1) rfl (by rw [ei205]; rfl) (by decide) rfl (fun ls hl => ?_)
                obtain rfl : i205 = nI (k + 1) := by
                  rw [ei205]
                  exact nI_1 k
                refine lv_goto (tgt := 2) hx hb dX7_solve_89 (by decide) ?_
                exact ih_L2 (k + 1) (vp_updL La (nI k : Int32).toNatClampNeg (zL (S 0 5))) (vp_updL Lb (nI k : Int32).toNatClampNeg 1) (upd Fs (nI k : Int32).toNatClampNeg 0) w192 H locs ls (by omega) (by omega) (mFr_tr hfr (mFr_tr (mFr_tr (mFr_tr (mFr_rf _ _) (mFr_se (i := 9) (by decide) ew164)) (mFr_se (i := 10) (by decide) ew178)) (mFr_se (i := 11) (by decide) ew192))) (T0_st (by omega) hT0 (T0c1 hd)) f193 f194 f195 f196 f197 f198 f199 f200 f201 f202 f203 f204 hP hS (lv_sub hl [0, 2] rfl)
        · have hd : ¬ (k : Int) = S 0 4 := fun q => c161 ((nI_eqi (by omega) (by omega) (by omega)).mpr q)
          refine lv_aload_n hx hb dX7_solve_18 rfl (lv_at hl 1 rfl) ?_
          refine g_get F hP (C := RX7) (T := TX7) (N := 20) iX7 x0 rfl 4 (by decide) (List.mem_cons_of_mem _ (List.mem_append_left _ (List.mem_append_left _ (List.mem_of_getElem? (i := 2) rfl)))) (fun _ h9 => h9) rfl dX7_solve_19 ?_
          refine lv_iload_n hx hb dX7_solve_22 rfl (lv_at hl 0 rfl) ?_
          refine g_zald F hP x3 (vp_in_nI (by omega) (by decide)) dX7_solve_23 ?_
          rw [show (.int ((Fm 3) (nI k : Int32).toNatClampNeg) : Value) = .int (g_b (decide (S 3 k = 1))) from by rw [nI_clamp (by omega), (Hf.1 k hk).2.2, iL_b (Hi.2.1 k hk).2.2.2.2]]
          refine lv_if_eq (tgt := 31) hx hb dX7_solve_24 (by decide) (fun c206 => ?_) (fun c206 => ?_)
          · have yc206 := of_decide_eq_false (g_b0.mp c206)
            refine lv_iconst (v := 0) hx hb dX7_solve_31 (by decide) ?_
            refine lv_istore_n (lv' := [(2, .int 0), (1, .int (nI k)), (0, .ref (md 0))]) hx hb dX7_solve_32 rfl hl (by decide) rfl (fun ls hl => ?_)
            refine lv_aload_n hx hb dX7_solve_33 rfl (lv_at hl 2 rfl) ?_
            refine g_get F hP (C := RX7) (T := TX7) (N := 20) iX7 x0 rfl 15 (by decide) (List.mem_cons_of_mem _ (List.mem_append_left _ (List.mem_append_left _ (List.mem_of_getElem? (i := 3) rfl)))) (fun _ h9 => h9) rfl dX7_solve_34 ?_
            refine lv_iload_n hx hb dX7_solve_37 rfl (lv_at hl 1 rfl) ?_
            refine lv_iload_n hx hb dX7_solve_38 rfl (lv_at hl 1 rfl) ?_
            refine lv_aload_n hx hb dX7_solve_39 rfl (lv_at hl 2 rfl) ?_
            refine g_get F hP (C := RX7) (T := TX7) (N := 20) iX7 x0 rfl 5 (by decide) (List.mem_cons_of_mem _ (List.mem_append_left _ (List.mem_append_left _ (List.mem_of_getElem? (i := 1) rfl)))) (fun _ h9 => h9) rfl dX7_solve_40 ?_
            refine lv_icmp_ne (tgt := 54) hx hb dX7_solve_43 (by decide) (fun c207 => ?_) (fun c207 => ?_)
            · refine lv_lconst (v := 0) hx hb dX7_solve_54 (by decide) ?_
              refine g_last F hP hS x9 (vp_in_nI (by omega) (by decide)) dX7_solve_55 (fun H locs hP hS => ?_)
              obtain ⟨w208, ew208⟩ : ∃ z, z = g_up wa (md 9) (.inl (G.2.1 1, 10, .inr (.inl (vp_updL La (nI k : Int32).toNatClampNeg 0)))) := ⟨_, rfl⟩
              have hP : g_P A G w208 H := by rw [ew208]; exact hP
              have f209 : w208 (md 0) = some (.inr (8, [.int th, .int (iL (S 0 0)), .ref (md 1), .ref (md 2), .ref (md 3), .int (iL (S 0 4)), .int (iL (S 0 5)), .int (iL (S 0 1)), .ref (md 4), .ref (md 5), .int (iL (S 0 2)), .ref (md 6), .ref (md 7), .int (iL (S 0 3)), .ref (md 8), .ref (md 9), .ref (md 10), .ref (md 11), .long tp, .long bt])) := by rw [ew208]; exact g_up_f x0 ((fun q => absurd (Hj 0 9 (by decide) (by decide) q) (by decide)))
              have f210 : w208 (md 1) = some (.inl (G.2.1 0, 10, .inl (Fm 1))) := by rw [ew208]; exact g_up_f x1 ((fun q => absurd (Hj 1 9 (by decide) (by decide) q) (by decide)))
              have f211 : w208 (md 2) = some (.inl (G.2.1 0, 10, .inl (Fm 2))) := by rw [ew208]; exact g_up_f x2 ((fun q => absurd (Hj 2 9 (by decide) (by decide) q) (by decide)))
              have f212 : w208 (md 3) = some (.inl (G.2.1 2, 10, .inl (Fm 3))) := by rw [ew208]; exact g_up_f x3 ((fun q => absurd (Hj 3 9 (by decide) (by decide) q) (by decide)))
              have f213 : w208 (md 4) = some (.inl (G.2.1 0, 64, .inl (Fm 4))) := by rw [ew208]; exact g_up_f x4 ((fun q => absurd (Hj 4 9 (by decide) (by decide) q) (by decide)))
              have f214 : w208 (md 5) = some (.inl (G.2.1 2, 16, .inl (Fm 5))) := by rw [ew208]; exact g_up_f x5 ((fun q => absurd (Hj 5 9 (by decide) (by decide) q) (by decide)))
              have f215 : w208 (md 6) = some (.inl (G.2.1 0, 16, .inl (Fm 6))) := by rw [ew208]; exact g_up_f x6 ((fun q => absurd (Hj 6 9 (by decide) (by decide) q) (by decide)))
              have f216 : w208 (md 7) = some (.inl (G.2.1 0, 16, .inl (Fm 7))) := by rw [ew208]; exact g_up_f x7 ((fun q => absurd (Hj 7 9 (by decide) (by decide) q) (by decide)))
              have f217 : w208 (md 8) = some (.inl (G.2.1 0, 20, .inl (Fm 8))) := by rw [ew208]; exact g_up_f x8 ((fun q => absurd (Hj 8 9 (by decide) (by decide) q) (by decide)))
              have f218 : w208 (md 10) = some (.inl (G.2.1 1, 10, .inr (.inl Lb))) := by rw [ew208]; exact g_up_f x10 ((fun q => absurd (Hj 10 9 (by decide) (by decide) q) (by decide)))
              have f219 : w208 (md 11) = some (.inl (G.2.1 0, 10, .inl Fs)) := by rw [ew208]; exact g_up_f x11 ((fun q => absurd (Hj 11 9 (by decide) (by decide) q) (by decide)))
              have f220 : w208 (md 9) = some (.inl (G.2.1 1, 10, .inr (.inl (vp_updL La (nI k : Int32).toNatClampNeg 0)))) := by rw [ew208]; exact g_up_s _ _ _
              refine lv_aload_n hx hb dX7_solve_56 rfl (lv_at hl 2 rfl) ?_
              refine g_get F hP (C := RX7) (T := TX7) (N := 20) iX7 f209 rfl 16 (by decide) (List.mem_cons_of_mem _ (List.mem_append_left _ (List.mem_append_left _ (List.mem_of_getElem? (i := 5) rfl)))) (fun _ h9 => h9) rfl dX7_solve_57 ?_
              refine lv_iload_n hx hb dX7_solve_60 rfl (lv_at hl 1 rfl) ?_
              refine lv_iload_n hx hb dX7_solve_61 rfl (lv_at hl 0 rfl) ?_
              refine lv_if_eq (tgt := 69) hx hb dX7_solve_62 (by decide) (fun c221 => ?_) (fun c221 => ?_)
              · refine lv_lconst (v := 0) hx hb dX7_solve_69 (by decide) ?_
                refine g_last F hP hS f218 (vp_in_nI (by omega) (by decide)) dX7_solve_70 (fun H locs hP hS => ?_)
                obtain ⟨w222, ew222⟩ : ∃ z, z = g_up w208 (md 10) (.inl (G.2.1 1, 10, .inr (.inl (vp_updL Lb (nI k : Int32).toNatClampNeg 0)))) := ⟨_, rfl⟩
                have hP : g_P A G w222 H := by rw [ew222]; exact hP
                have f223 : w222 (md 0) = some (.inr (8, [.int th, .int (iL (S 0 0)), .ref (md 1), .ref (md 2), .ref (md 3), .int (iL (S 0 4)), .int (iL (S 0 5)), .int (iL (S 0 1)), .ref (md 4), .ref (md 5), .int (iL (S 0 2)), .ref (md 6), .ref (md 7), .int (iL (S 0 3)), .ref (md 8), .ref (md 9), .ref (md 10), .ref (md 11), .long tp, .long bt])) := by rw [ew222]; exact g_up_f f209 ((fun q => absurd (Hj 0 10 (by decide) (by decide) q) (by decide)))
                have f224 : w222 (md 1) = some (.inl (G.2.1 0, 10, .inl (Fm 1))) := by rw [ew222]; exact g_up_f f210 ((fun q => absurd (Hj 1 10 (by decide) (by decide) q) (by decide)))
                have f225 : w222 (md 2) = some (.inl (G.2.1 0, 10, .inl (Fm 2))) := by rw [ew222]; exact g_up_f f211 ((fun q => absurd (Hj 2 10 (by decide) (by decide) q) (by decide)))
                have f226 : w222 (md 3) = some (.inl (G.2.1 2, 10, .inl (Fm 3))) := by rw [ew222]; exact g_up_f f212 ((fun q => absurd (Hj 3 10 (by decide) (by decide) q) (by decide)))
                have f227 : w222 (md 4) = some (.inl (G.2.1 0, 64, .inl (Fm 4))) := by rw [ew222]; exact g_up_f f213 ((fun q => absurd (Hj 4 10 (by decide) (by decide) q) (by decide)))
                have f228 : w222 (md 5) = some (.inl (G.2.1 2, 16, .inl (Fm 5))) := by rw [ew222]; exact g_up_f f214 ((fun q => absurd (Hj 5 10 (by decide) (by decide) q) (by decide)))
                have f229 : w222 (md 6) = some (.inl (G.2.1 0, 16, .inl (Fm 6))) := by rw [ew222]; exact g_up_f f215 ((fun q => absurd (Hj 6 10 (by decide) (by decide) q) (by decide)))
                have f230 : w222 (md 7) = some (.inl (G.2.1 0, 16, .inl (Fm 7))) := by rw [ew222]; exact g_up_f f216 ((fun q => absurd (Hj 7 10 (by decide) (by decide) q) (by decide)))
                have f231 : w222 (md 8) = some (.inl (G.2.1 0, 20, .inl (Fm 8))) := by rw [ew222]; exact g_up_f f217 ((fun q => absurd (Hj 8 10 (by decide) (by decide) q) (by decide)))
                have f232 : w222 (md 11) = some (.inl (G.2.1 0, 10, .inl Fs)) := by rw [ew222]; exact g_up_f f219 ((fun q => absurd (Hj 11 10 (by decide) (by decide) q) (by decide)))
                have f233 : w222 (md 9) = some (.inl (G.2.1 1, 10, .inr (.inl (vp_updL La (nI k : Int32).toNatClampNeg 0)))) := by rw [ew222]; exact g_up_f f220 ((fun q => absurd (Hj 9 10 (by decide) (by decide) q) (by decide)))
                have f234 : w222 (md 10) = some (.inl (G.2.1 1, 10, .inr (.inl (vp_updL Lb (nI k : Int32).toNatClampNeg 0)))) := by rw [ew222]; exact g_up_s _ _ _
                refine lv_aload_n hx hb dX7_solve_71 rfl (lv_at hl 2 rfl) ?_
                refine g_get F hP (C := RX7) (T := TX7) (N := 20) iX7 f223 rfl 17 (by decide) (List.mem_cons_of_mem _ (List.mem_append_left _ (List.mem_append_left _ (List.mem_of_getElem? (i := 6) rfl)))) (fun _ h9 => h9) rfl dX7_solve_72 ?_
                refine lv_iload_n hx hb dX7_solve_75 rfl (lv_at hl 1 rfl) ?_
                refine lv_iload_n hx hb dX7_solve_76 rfl (lv_at hl 0 rfl) ?_
                refine lv_if_eq (tgt := 84) hx hb dX7_solve_77 (by decide) (fun c235 => ?_) (fun c235 => ?_)
                · refine lv_iconst (v := (-1)) hx hb dX7_solve_84 (by decide) ?_
                  refine g_iast F hP hS f232 (vp_in_nI (by omega) (by decide)) dX7_solve_85 (fun H locs hP hS => ?_)
                  obtain ⟨w236, ew236⟩ : ∃ z, z = g_up w222 (md 11) (.inl (G.2.1 0, 10, .inl (upd Fs (nI k : Int32).toNatClampNeg (-1)))) := ⟨_, rfl⟩
                  have hP : g_P A G w236 H := by rw [ew236]; exact hP
                  have f237 : w236 (md 0) = some (.inr (8, [.int th, .int (iL (S 0 0)), .ref (md 1), .ref (md 2), .ref (md 3), .int (iL (S 0 4)), .int (iL (S 0 5)), .int (iL (S 0 1)), .ref (md 4), .ref (md 5), .int (iL (S 0 2)), .ref (md 6), .ref (md 7), .int (iL (S 0 3)), .ref (md 8), .ref (md 9), .ref (md 10), .ref (md 11), .long tp, .long bt])) := by rw [ew236]; exact g_up_f f223 ((fun q => absurd (Hj 0 11 (by decide) (by decide) q) (by decide)))
                  have f238 : w236 (md 1) = some (.inl (G.2.1 0, 10, .inl (Fm 1))) := by rw [ew236]; exact g_up_f f224 ((fun q => absurd (Hj 1 11 (by decide) (by decide) q) (by decide)))
                  have f239 : w236 (md 2) = some (.inl (G.2.1 0, 10, .inl (Fm 2))) := by rw [ew236]; exact g_up_f f225 ((fun q => absurd (Hj 2 11 (by decide) (by decide) q) (by decide)))
                  have f240 : w236 (md 3) = some (.inl (G.2.1 2, 10, .inl (Fm 3))) := by rw [ew236]; exact g_up_f f226 ((fun q => absurd (Hj 3 11 (by decide) (by decide) q) (by decide)))
                  have f241 : w236 (md 4) = some (.inl (G.2.1 0, 64, .inl (Fm 4))) := by rw [ew236]; exact g_up_f f227 ((fun q => absurd (Hj 4 11 (by decide) (by decide) q) (by decide)))
                  have f242 : w236 (md 5) = some (.inl (G.2.1 2, 16, .inl (Fm 5))) := by rw [ew236]; exact g_up_f f228 ((fun q => absurd (Hj 5 11 (by decide) (by decide) q) (by decide)))
                  have f243 : w236 (md 6) = some (.inl (G.2.1 0, 16, .inl (Fm 6))) := by rw [ew236]; exact g_up_f f229 ((fun q => absurd (Hj 6 11 (by decide) (by decide) q) (by decide)))
                  have f244 : w236 (md 7) = some (.inl (G.2.1 0, 16, .inl (Fm 7))) := by rw [ew236]; exact g_up_f f230 ((fun q => absurd (Hj 7 11 (by decide) (by decide) q) (by decide)))
                  have f245 : w236 (md 8) = some (.inl (G.2.1 0, 20, .inl (Fm 8))) := by rw [ew236]; exact g_up_f f231 ((fun q => absurd (Hj 8 11 (by decide) (by decide) q) (by decide)))
                  have f246 : w236 (md 9) = some (.inl (G.2.1 1, 10, .inr (.inl (vp_updL La (nI k : Int32).toNatClampNeg 0)))) := by rw [ew236]; exact g_up_f f233 ((fun q => absurd (Hj 9 11 (by decide) (by decide) q) (by decide)))
                  have f247 : w236 (md 10) = some (.inl (G.2.1 1, 10, .inr (.inl (vp_updL Lb (nI k : Int32).toNatClampNeg 0)))) := by rw [ew236]; exact g_up_f f234 ((fun q => absurd (Hj 10 11 (by decide) (by decide) q) (by decide)))
                  have f248 : w236 (md 11) = some (.inl (G.2.1 0, 10, .inl (upd Fs (nI k : Int32).toNatClampNeg (-1)))) := by rw [ew236]; exact g_up_s _ _ _
                  obtain ⟨i249, ei249⟩ : ∃ y : Int32, y = nI k + (1) := ⟨_, rfl⟩
                  refine lv_iinc (v := i249) (lv' := [(1, .int i249), (2, .int 0), (0, .ref (md 0))]) hx hb dX7_solve_86 hl (k := 1) rfl (by rw [ei249]; rfl) (by decide) rfl (fun ls hl => ?_)
                  obtain rfl : i249 = nI (k + 1) := by
                    rw [ei249]
                    exact nI_1 k
                  refine lv_goto (tgt := 2) hx hb dX7_solve_89 (by decide) ?_
                  exact ih_L2 (k + 1) (vp_updL La (nI k : Int32).toNatClampNeg 0) (vp_updL Lb (nI k : Int32).toNatClampNeg 0) (upd Fs (nI k : Int32).toNatClampNeg (-1)) w236 H locs ls (by omega) (by omega) (mFr_tr hfr (mFr_tr (mFr_tr (mFr_tr (mFr_rf _ _) (mFr_se (i := 9) (by decide) ew208)) (mFr_se (i := 10) (by decide) ew222)) (mFr_se (i := 11) (by decide) ew236))) (T0_st (by omega) hT0 (T0c3 hd yc206)) f237 f238 f239 f240 f241 f242 f243 f244 f245 f246 f247 f248 hP hS (lv_sub hl [0, 2] rfl)
                · exact absurd (by decide) c235
              · exact absurd (by decide) c221
            · exact absurd c207 c161
          · have yc206 := of_decide_eq_true (g_b1.mp c206)
            refine lv_iconst (v := 1) hx hb dX7_solve_27 (by decide) ?_
            refine lv_goto (tgt := 32) hx hb dX7_solve_28 (by decide) ?_
            refine lv_istore_n (lv' := [(2, .int 1), (1, .int (nI k)), (0, .ref (md 0))]) hx hb dX7_solve_32 rfl hl (by decide) rfl (fun ls hl => ?_)
            refine lv_aload_n hx hb dX7_solve_33 rfl (lv_at hl 2 rfl) ?_
            refine g_get F hP (C := RX7) (T := TX7) (N := 20) iX7 x0 rfl 15 (by decide) (List.mem_cons_of_mem _ (List.mem_append_left _ (List.mem_append_left _ (List.mem_of_getElem? (i := 3) rfl)))) (fun _ h9 => h9) rfl dX7_solve_34 ?_
            refine lv_iload_n hx hb dX7_solve_37 rfl (lv_at hl 1 rfl) ?_
            refine lv_iload_n hx hb dX7_solve_38 rfl (lv_at hl 1 rfl) ?_
            refine lv_aload_n hx hb dX7_solve_39 rfl (lv_at hl 2 rfl) ?_
            refine g_get F hP (C := RX7) (T := TX7) (N := 20) iX7 x0 rfl 5 (by decide) (List.mem_cons_of_mem _ (List.mem_append_left _ (List.mem_append_left _ (List.mem_of_getElem? (i := 1) rfl)))) (fun _ h9 => h9) rfl dX7_solve_40 ?_
            refine lv_icmp_ne (tgt := 54) hx hb dX7_solve_43 (by decide) (fun c250 => ?_) (fun c250 => ?_)
            · refine lv_lconst (v := 0) hx hb dX7_solve_54 (by decide) ?_
              refine g_last F hP hS x9 (vp_in_nI (by omega) (by decide)) dX7_solve_55 (fun H locs hP hS => ?_)
              obtain ⟨w251, ew251⟩ : ∃ z, z = g_up wa (md 9) (.inl (G.2.1 1, 10, .inr (.inl (vp_updL La (nI k : Int32).toNatClampNeg 0)))) := ⟨_, rfl⟩
              have hP : g_P A G w251 H := by rw [ew251]; exact hP
              have f252 : w251 (md 0) = some (.inr (8, [.int th, .int (iL (S 0 0)), .ref (md 1), .ref (md 2), .ref (md 3), .int (iL (S 0 4)), .int (iL (S 0 5)), .int (iL (S 0 1)), .ref (md 4), .ref (md 5), .int (iL (S 0 2)), .ref (md 6), .ref (md 7), .int (iL (S 0 3)), .ref (md 8), .ref (md 9), .ref (md 10), .ref (md 11), .long tp, .long bt])) := by rw [ew251]; exact g_up_f x0 ((fun q => absurd (Hj 0 9 (by decide) (by decide) q) (by decide)))
              have f253 : w251 (md 1) = some (.inl (G.2.1 0, 10, .inl (Fm 1))) := by rw [ew251]; exact g_up_f x1 ((fun q => absurd (Hj 1 9 (by decide) (by decide) q) (by decide)))
              have f254 : w251 (md 2) = some (.inl (G.2.1 0, 10, .inl (Fm 2))) := by rw [ew251]; exact g_up_f x2 ((fun q => absurd (Hj 2 9 (by decide) (by decide) q) (by decide)))
              have f255 : w251 (md 3) = some (.inl (G.2.1 2, 10, .inl (Fm 3))) := by rw [ew251]; exact g_up_f x3 ((fun q => absurd (Hj 3 9 (by decide) (by decide) q) (by decide)))
              have f256 : w251 (md 4) = some (.inl (G.2.1 0, 64, .inl (Fm 4))) := by rw [ew251]; exact g_up_f x4 ((fun q => absurd (Hj 4 9 (by decide) (by decide) q) (by decide)))
              have f257 : w251 (md 5) = some (.inl (G.2.1 2, 16, .inl (Fm 5))) := by rw [ew251]; exact g_up_f x5 ((fun q => absurd (Hj 5 9 (by decide) (by decide) q) (by decide)))
              have f258 : w251 (md 6) = some (.inl (G.2.1 0, 16, .inl (Fm 6))) := by rw [ew251]; exact g_up_f x6 ((fun q => absurd (Hj 6 9 (by decide) (by decide) q) (by decide)))
              have f259 : w251 (md 7) = some (.inl (G.2.1 0, 16, .inl (Fm 7))) := by rw [ew251]; exact g_up_f x7 ((fun q => absurd (Hj 7 9 (by decide) (by decide) q) (by decide)))
              have f260 : w251 (md 8) = some (.inl (G.2.1 0, 20, .inl (Fm 8))) := by rw [ew251]; exact g_up_f x8 ((fun q => absurd (Hj 8 9 (by decide) (by decide) q) (by decide)))
              have f261 : w251 (md 10) = some (.inl (G.2.1 1, 10, .inr (.inl Lb))) := by rw [ew251]; exact g_up_f x10 ((fun q => absurd (Hj 10 9 (by decide) (by decide) q) (by decide)))
              have f262 : w251 (md 11) = some (.inl (G.2.1 0, 10, .inl Fs)) := by rw [ew251]; exact g_up_f x11 ((fun q => absurd (Hj 11 9 (by decide) (by decide) q) (by decide)))
              have f263 : w251 (md 9) = some (.inl (G.2.1 1, 10, .inr (.inl (vp_updL La (nI k : Int32).toNatClampNeg 0)))) := by rw [ew251]; exact g_up_s _ _ _
              refine lv_aload_n hx hb dX7_solve_56 rfl (lv_at hl 2 rfl) ?_
              refine g_get F hP (C := RX7) (T := TX7) (N := 20) iX7 f252 rfl 16 (by decide) (List.mem_cons_of_mem _ (List.mem_append_left _ (List.mem_append_left _ (List.mem_of_getElem? (i := 5) rfl)))) (fun _ h9 => h9) rfl dX7_solve_57 ?_
              refine lv_iload_n hx hb dX7_solve_60 rfl (lv_at hl 1 rfl) ?_
              refine lv_iload_n hx hb dX7_solve_61 rfl (lv_at hl 0 rfl) ?_
              refine lv_if_eq (tgt := 69) hx hb dX7_solve_62 (by decide) (fun c264 => ?_) (fun c264 => ?_)
              · exact absurd c264 (by decide)
              · refine lv_lconst (v := 1) hx hb dX7_solve_65 (by decide) ?_
                refine lv_goto (tgt := 70) hx hb dX7_solve_66 (by decide) ?_
                refine g_last F hP hS f261 (vp_in_nI (by omega) (by decide)) dX7_solve_70 (fun H locs hP hS => ?_)
                obtain ⟨w265, ew265⟩ : ∃ z, z = g_up w251 (md 10) (.inl (G.2.1 1, 10, .inr (.inl (vp_updL Lb (nI k : Int32).toNatClampNeg 1)))) := ⟨_, rfl⟩
                have hP : g_P A G w265 H := by rw [ew265]; exact hP
                have f266 : w265 (md 0) = some (.inr (8, [.int th, .int (iL (S 0 0)), .ref (md 1), .ref (md 2), .ref (md 3), .int (iL (S 0 4)), .int (iL (S 0 5)), .int (iL (S 0 1)), .ref (md 4), .ref (md 5), .int (iL (S 0 2)), .ref (md 6), .ref (md 7), .int (iL (S 0 3)), .ref (md 8), .ref (md 9), .ref (md 10), .ref (md 11), .long tp, .long bt])) := by rw [ew265]; exact g_up_f f252 ((fun q => absurd (Hj 0 10 (by decide) (by decide) q) (by decide)))
                have f267 : w265 (md 1) = some (.inl (G.2.1 0, 10, .inl (Fm 1))) := by rw [ew265]; exact g_up_f f253 ((fun q => absurd (Hj 1 10 (by decide) (by decide) q) (by decide)))
                have f268 : w265 (md 2) = some (.inl (G.2.1 0, 10, .inl (Fm 2))) := by rw [ew265]; exact g_up_f f254 ((fun q => absurd (Hj 2 10 (by decide) (by decide) q) (by decide)))
                have f269 : w265 (md 3) = some (.inl (G.2.1 2, 10, .inl (Fm 3))) := by rw [ew265]; exact g_up_f f255 ((fun q => absurd (Hj 3 10 (by decide) (by decide) q) (by decide)))
                have f270 : w265 (md 4) = some (.inl (G.2.1 0, 64, .inl (Fm 4))) := by rw [ew265]; exact g_up_f f256 ((fun q => absurd (Hj 4 10 (by decide) (by decide) q) (by decide)))
                have f271 : w265 (md 5) = some (.inl (G.2.1 2, 16, .inl (Fm 5))) := by rw [ew265]; exact g_up_f f257 ((fun q => absurd (Hj 5 10 (by decide) (by decide) q) (by decide)))
                have f272 : w265 (md 6) = some (.inl (G.2.1 0, 16, .inl (Fm 6))) := by rw [ew265]; exact g_up_f f258 ((fun q => absurd (Hj 6 10 (by decide) (by decide) q) (by decide)))
                have f273 : w265 (md 7) = some (.inl (G.2.1 0, 16, .inl (Fm 7))) := by rw [ew265]; exact g_up_f f259 ((fun q => absurd (Hj 7 10 (by decide) (by decide) q) (by decide)))
                have f274 : w265 (md 8) = some (.inl (G.2.1 0, 20, .inl (Fm 8))) := by rw [ew265]; exact g_up_f f260 ((fun q => absurd (Hj 8 10 (by decide) (by decide) q) (by decide)))
                have f275 : w265 (md 11) = some (.inl (G.2.1 0, 10, .inl Fs)) := by rw [ew265]; exact g_up_f f262 ((fun q => absurd (Hj 11 10 (by decide) (by decide) q) (by decide)))
                have f276 : w265 (md 9) = some (.inl (G.2.1 1, 10, .inr (.inl (vp_updL La (nI k : Int32).toNatClampNeg 0)))) := by rw [ew265]; exact g_up_f f263 ((fun q => absurd (Hj 9 10 (by decide) (by decide) q) (by decide)))
                have f277 : w265 (md 10) = some (.inl (G.2.1 1, 10, .inr (.inl (vp_updL Lb (nI k : Int32).toNatClampNeg 1)))) := by rw [ew265]; exact g_up_s _ _ _
                refine lv_aload_n hx hb dX7_solve_71 rfl (lv_at hl 2 rfl) ?_
                refine g_get F hP (C := RX7) (T := TX7) (N := 20) iX7 f266 rfl 17 (by decide) (List.mem_cons_of_mem _ (List.mem_append_left _ (List.mem_append_left _ (List.mem_of_getElem? (i := 6) rfl)))) (fun _ h9 => h9) rfl dX7_solve_72 ?_
                refine lv_iload_n hx hb dX7_solve_75 rfl (lv_at hl 1 rfl) ?_
                refine lv_iload_n hx hb dX7_solve_76 rfl (lv_at hl 0 rfl) ?_
                refine lv_if_eq (tgt := 84) hx hb dX7_solve_77 (by decide) (fun c278 => ?_) (fun c278 => ?_)
                · exact absurd c278 (by decide)
                · refine lv_iconst (v := 0) hx hb dX7_solve_80 (by decide) ?_
                  refine lv_goto (tgt := 85) hx hb dX7_solve_81 (by decide) ?_
                  refine g_iast F hP hS f275 (vp_in_nI (by omega) (by decide)) dX7_solve_85 (fun H locs hP hS => ?_)
                  obtain ⟨w279, ew279⟩ : ∃ z, z = g_up w265 (md 11) (.inl (G.2.1 0, 10, .inl (upd Fs (nI k : Int32).toNatClampNeg 0))) := ⟨_, rfl⟩
                  have hP : g_P A G w279 H := by rw [ew279]; exact hP
                  have f280 : w279 (md 0) = some (.inr (8, [.int th, .int (iL (S 0 0)), .ref (md 1), .ref (md 2), .ref (md 3), .int (iL (S 0 4)), .int (iL (S 0 5)), .int (iL (S 0 1)), .ref (md 4), .ref (md 5), .int (iL (S 0 2)), .ref (md 6), .ref (md 7), .int (iL (S 0 3)), .ref (md 8), .ref (md 9), .ref (md 10), .ref (md 11), .long tp, .long bt])) := by rw [ew279]; exact g_up_f f266 ((fun q => absurd (Hj 0 11 (by decide) (by decide) q) (by decide)))
                  have f281 : w279 (md 1) = some (.inl (G.2.1 0, 10, .inl (Fm 1))) := by rw [ew279]; exact g_up_f f267 ((fun q => absurd (Hj 1 11 (by decide) (by decide) q) (by decide)))
                  have f282 : w279 (md 2) = some (.inl (G.2.1 0, 10, .inl (Fm 2))) := by rw [ew279]; exact g_up_f f268 ((fun q => absurd (Hj 2 11 (by decide) (by decide) q) (by decide)))
                  have f283 : w279 (md 3) = some (.inl (G.2.1 2, 10, .inl (Fm 3))) := by rw [ew279]; exact g_up_f f269 ((fun q => absurd (Hj 3 11 (by decide) (by decide) q) (by decide)))
                  have f284 : w279 (md 4) = some (.inl (G.2.1 0, 64, .inl (Fm 4))) := by rw [ew279]; exact g_up_f f270 ((fun q => absurd (Hj 4 11 (by decide) (by decide) q) (by decide)))
                  have f285 : w279 (md 5) = some (.inl (G.2.1 2, 16, .inl (Fm 5))) := by rw [ew279]; exact g_up_f f271 ((fun q => absurd (Hj 5 11 (by decide) (by decide) q) (by decide)))
                  have f286 : w279 (md 6) = some (.inl (G.2.1 0, 16, .inl (Fm 6))) := by rw [ew279]; exact g_up_f f272 ((fun q => absurd (Hj 6 11 (by decide) (by decide) q) (by decide)))
                  have f287 : w279 (md 7) = some (.inl (G.2.1 0, 16, .inl (Fm 7))) := by rw [ew279]; exact g_up_f f273 ((fun q => absurd (Hj 7 11 (by decide) (by decide) q) (by decide)))
                  have f288 : w279 (md 8) = some (.inl (G.2.1 0, 20, .inl (Fm 8))) := by rw [ew279]; exact g_up_f f274 ((fun q => absurd (Hj 8 11 (by decide) (by decide) q) (by decide)))
                  have f289 : w279 (md 9) = some (.inl (G.2.1 1, 10, .inr (.inl (vp_updL La (nI k : Int32).toNatClampNeg 0)))) := by rw [ew279]; exact g_up_f f276 ((fun q => absurd (Hj 9 11 (by decide) (by decide) q) (by decide)))
                  have f290 : w279 (md 10) = some (.inl (G.2.1 1, 10, .inr (.inl (vp_updL Lb (nI k : Int32).toNatClampNeg 1)))) := by rw [ew279]; exact g_up_f f277 ((fun q => absurd (Hj 10 11 (by decide) (by decide) q) (by decide)))
                  have f291 : w279 (md 11) = some (.inl (G.2.1 0, 10, .inl (upd Fs (nI k : Int32).toNatClampNeg 0))) := by rw [ew279]; exact g_up_s _ _ _
                  obtain ⟨i292, ei292⟩ : ∃ y : Int32, y = nI k + (1) := ⟨_, rfl⟩
                  refine lv_iinc (v := i292) (lv' := [(1, .int i292), (2, .int 1), (0, .ref (md 0))]) hx hb dX7_solve_86 hl (k := 1) rfl (by rw [ei292]; rfl) (by decide) rfl (fun ls hl => ?_)
                  obtain rfl : i292 = nI (k + 1) := by
                    rw [ei292]
                    exact nI_1 k
                  refine lv_goto (tgt := 2) hx hb dX7_solve_89 (by decide) ?_
                  exact ih_L2 (k + 1) (vp_updL La (nI k : Int32).toNatClampNeg 0) (vp_updL Lb (nI k : Int32).toNatClampNeg 1) (upd Fs (nI k : Int32).toNatClampNeg 0) w279 H locs ls (by omega) (by omega) (mFr_tr hfr (mFr_tr (mFr_tr (mFr_tr (mFr_rf _ _) (mFr_se (i := 9) (by decide) ew251)) (mFr_se (i := 10) (by decide) ew265)) (mFr_se (i := 11) (by decide) ew279))) (T0_st (by omega) hT0 (T0c2 hd yc206)) f280 f281 f282 f283 f284 f285 f286 f287 f288 f289 f290 f291 hP hS (lv_sub hl [0, 2] rfl)
            · exact absurd c250 c161
  exact L2 ((S 0 0).toNat + 1) 0 (L 0) (L 1) (Fm 11) w H locs ls (by omega) (by omega) (mFr_rf _ _) ((fun j hj => absurd hj (Nat.not_lt_zero j))) hx0 hy1 hy2 hy3 hy4 hy5 hy6 hy7 hy8 hy9 hy10 hy11 hP hS (lv_sub hl [0, 1] rfl)
