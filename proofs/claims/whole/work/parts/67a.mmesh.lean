set_option maxHeartbeats 4000000 in
set_option maxRecDepth 100000 in
theorem k_X7_areMeshed (l : Launch) (A : Nat → Prop) (G : g_C) (w : g_W) (md : Nat → Nat) (S : Sg) (th : Int32) (tp bt : Int64) (Fm : Nat → Nat → Int32) (L : Nat → Nat → Int64) (ga gb : Nat) (hx0 : w (md 0) = some (.inr (8, [.int th, .int (iL (S 0 0)), .ref (md 1), .ref (md 2), .ref (md 3), .int (iL (S 0 4)), .int (iL (S 0 5)), .int (iL (S 0 1)), .ref (md 4), .ref (md 5), .int (iL (S 0 2)), .ref (md 6), .ref (md 7), .int (iL (S 0 3)), .ref (md 8), .ref (md 9), .ref (md 10), .ref (md 11), .long tp, .long bt]))) (hy6 : w (md 6) = some (.inl (G.2.1 0, 16, .inl (Fm 6)))) (hy7 : w (md 7) = some (.inl (G.2.1 0, 16, .inl (Fm 7)))) (Hf : modF S Fm) (Hi : invS S) (hga : (ga : Int) < S 0 1) (hgb : (gb : Int) < S 0 1) : mI l yX7_areMeshed wsX7_areMeshed ({ frames := 0, cells := 0, slots := 0, locals := 0 } : Room) [.ref (md 0), .int (nI ga), .int (nI gb)] A G w (fun r w' => (∃ b0 : Bool, r = g_b b0 ∧ (b0 = true ↔ meshedP S ga gb)) ∧ w' = w) 0 0 := by
  refine g_ofI (cc := cX7_areMeshed) (maxL := 5) (ret := (some .boolean)) (own := RX7) (by decide) rfl rfl (Nat.le_of_ble_eq_true rfl) ?_
  intro p e R s m args below meth c Q ls hR F hP hS hlocks hr hnm0 hQ hl
  obtain ⟨⟨hx, hb, hml, hown, hts⟩, hK, hZ, hA⟩ := id F
  generalize hH0 : s.heap = H at hP ⊢
  have hS : va_S A s.heap H [] := by rw [← hH0]; exact va_S.rf
  generalize ([] : List Loc) = locs at hS ⊢
  have hl : lv_has ls 5 [(0, .ref (md 0)), (1, .int (nI ga)), (2, .int (nI gb))] := hl
  have iX7 : ∀ w ∈ u_ws RX7 TX7 20, w ∈ wsX7_areMeshed := fun w h => List.mem_cons_of_mem _ (List.mem_append_right _ (h))
  have hi := Hi.1
  refine lv_iconst (v := 0) hx hb dX7_areMeshed_0 (by decide) ?_
  refine lv_istore_n (lv' := [(3, .int 0), (0, .ref (md 0)), (1, .int (nI ga)), (2, .int (nI gb))]) hx hb dX7_areMeshed_1 rfl hl (by decide) rfl (fun ls hl => ?_)
  refine lv_iconst (v := 0) hx hb dX7_areMeshed_2 (by decide) ?_
  refine lv_istore (lv' := [(4, .int 0), (3, .int 0), (0, .ref (md 0)), (1, .int (nI ga)), (2, .int (nI gb))]) hx hb dX7_areMeshed_3 hl (by decide) rfl (fun ls hl => ?_)
  have L5 : ∀ (n : Nat) (k : Nat) (bb : Bool) (H : Heap) (locs : List Loc) (ls : Array Slot), (S 0 2).toNat + 1 ≤ k + n → ((k : Int) ≤ S 0 2) → (bb = true ↔ ∃ j, j < k ∧ meshAt S j ga gb) → g_P A G w H → va_S A s.heap H locs → lv_has ls 5 [(4, .int (nI k)), (3, .int (g_b bb)), (0, .ref (md 0)), (1, .int (nI ga)), (2, .int (nI gb))] → W p l e R s m args below meth c H locs (0) (0) Q (F0 m 5 ls []) := by
    intro n
    induction n with
    | zero =>
      intro k bb H locs ls hfu hkN hbb hP hS hl
      exact absurd hfu (by omega)
    | succ n ih_L5 =>
      intro k bb H locs ls hfu hkN hbb hP hS hl
      refine lv_iload hx hb dX7_areMeshed_5 (lv_at hl 0 rfl) ?_
      refine lv_aload_n hx hb dX7_areMeshed_7 rfl (lv_at hl 2 rfl) ?_
      refine g_get F hP (C := RX7) (T := TX7) (N := 20) iX7 hx0 rfl 10 (by decide) (List.mem_cons_of_mem _ (List.mem_append_left _ (List.mem_of_getElem? (i := 0) rfl))) (fun _ h9 => h9) rfl dX7_areMeshed_8 ?_
      refine lv_icmp_ge (tgt := 74) hx hb dX7_areMeshed_11 (by decide) (fun c1 => ?_) (fun c1 => ?_)
      · have zc1 : S 0 2 ≤ k := (iL_nle (by omega) (by omega) (by omega)).mp c1
        refine lv_iload_n hx hb dX7_areMeshed_74 rfl (lv_at hl 1 rfl) ?_
        rw [hQ]
        refine g_zret F hP hS hlocks hr (by first | rfl | exact g_nb _) dX7_areMeshed_75 (by first | exact Nat.le_of_ble_eq_true rfl | omega) (by first | exact Nat.le_of_ble_eq_true rfl | omega) ?_
        exact ⟨⟨bb, rfl, hbb.trans ⟨fun ⟨j, j1, j2⟩ => ⟨j, by omega, j2⟩, fun ⟨j, j1, j2⟩ => ⟨j, by omega, j2⟩⟩⟩, rfl⟩
      · have hk : (k : Int) < S 0 2 := Int.not_le.mp (fun q => c1 ((iL_nle (z := S 0 2) (k := k) (by omega) (by omega) (by omega)).mpr q))
        obtain ⟨a1, a2, a3, a4, a5⟩ := Hi.2.2.2.1 k hk
        refine lv_iload_n hx hb dX7_areMeshed_14 rfl (lv_at hl 1 rfl) ?_
        refine lv_if_ne (tgt := 62) hx hb dX7_areMeshed_15 (by decide) (fun c2 => ?_) (fun c2 => ?_)
        · have yc2 : bb = true := g_b1.mp c2
          refine lv_iconst (v := 1) hx hb dX7_areMeshed_62 (by decide) ?_
          refine lv_goto (tgt := 67) hx hb dX7_areMeshed_63 (by decide) ?_
          rw [show (.int 1 : Value) = .int (g_b true) from rfl]
          have hb2 : true = true ↔ ∃ j, j < k + 1 ∧ meshAt S j ga gb := ⟨fun _ => by obtain ⟨j, j1, j2⟩ := hbb.mp yc2; exact ⟨j, by omega, j2⟩, fun _ => rfl⟩
          refine lv_istore_n (lv' := [(3, .int (g_b true)), (4, .int (nI k)), (0, .ref (md 0)), (1, .int (nI ga)), (2, .int (nI gb))]) hx hb dX7_areMeshed_67 rfl hl (by decide) rfl (fun ls hl => ?_)
          obtain ⟨i3, ei3⟩ : ∃ y : Int32, y = nI k + (1) := ⟨_, rfl⟩
          refine lv_iinc (v := i3) (lv' := [(4, .int i3), (3, .int (g_b true)), (0, .ref (md 0)), (1, .int (nI ga)), (2, .int (nI gb))]) hx hb dX7_areMeshed_68 hl (k := 1) rfl (by rw [ei3]; rfl) (by decide) rfl (fun ls hl => ?_)
          obtain rfl : i3 = nI (k + 1) := by
            rw [ei3]
            exact nI_1 k
          refine lv_goto (tgt := 5) hx hb dX7_areMeshed_71 (by decide) ?_
          exact ih_L5 (k + 1) true  H locs ls (by omega) (by omega) (hb2) hP hS (lv_sub hl [0, 1, 2, 3, 4] rfl)
        · have yc2 : bb = false := g_b0.mp c2
          refine lv_aload_n hx hb dX7_areMeshed_18 rfl (lv_at hl 2 rfl) ?_
          refine g_get F hP (C := RX7) (T := TX7) (N := 20) iX7 hx0 rfl 11 (by decide) (List.mem_cons_of_mem _ (List.mem_append_left _ (List.mem_of_getElem? (i := 1) rfl))) (fun _ h9 => h9) rfl dX7_areMeshed_19 ?_
          refine lv_iload hx hb dX7_areMeshed_22 (lv_at hl 0 rfl) ?_
          refine g_iald F hP hy6 (vp_in_nI (by omega) (by decide)) dX7_areMeshed_24 ?_
          rw [show (.int ((Fm 6) (nI k : Int32).toNatClampNeg) : Value) = .int (nI (S 9 k).toNat) from by rw [nI_clamp (by omega), (Hf.2.2.1 k hk).1, iL_nn (by omega)]]
          refine lv_iload_n hx hb dX7_areMeshed_25 rfl (lv_at hl 3 rfl) ?_
          refine lv_icmp_ne (tgt := 40) hx hb dX7_areMeshed_26 (by decide) (fun c4 => ?_) (fun c4 => ?_)
          · rw [nI_eq (a := (S 9 k).toNat) (b := ga) (by omega) (by omega)] at c4
            refine lv_aload_n hx hb dX7_areMeshed_40 rfl (lv_at hl 2 rfl) ?_
            refine g_get F hP (C := RX7) (T := TX7) (N := 20) iX7 hx0 rfl 11 (by decide) (List.mem_cons_of_mem _ (List.mem_append_left _ (List.mem_of_getElem? (i := 1) rfl))) (fun _ h9 => h9) rfl dX7_areMeshed_41 ?_
            refine lv_iload hx hb dX7_areMeshed_44 (lv_at hl 0 rfl) ?_
            refine g_iald F hP hy6 (vp_in_nI (by omega) (by decide)) dX7_areMeshed_46 ?_
            rw [show (.int ((Fm 6) (nI k : Int32).toNatClampNeg) : Value) = .int (nI (S 9 k).toNat) from by rw [nI_clamp (by omega), (Hf.2.2.1 k hk).1, iL_nn (by omega)]]
            refine lv_iload_n hx hb dX7_areMeshed_47 rfl (lv_at hl 4 rfl) ?_
            refine lv_icmp_ne (tgt := 66) hx hb dX7_areMeshed_48 (by decide) (fun c5 => ?_) (fun c5 => ?_)
            · rw [nI_eq (a := (S 9 k).toNat) (b := gb) (by omega) (by omega)] at c5
              refine lv_iconst (v := 0) hx hb dX7_areMeshed_66 (by decide) ?_
              rw [show (.int 0 : Value) = .int (g_b false) from rfl]
              have hb2 : false = true ↔ ∃ j, j < k + 1 ∧ meshAt S j ga gb := ⟨fun q => (nomatch q), fun ⟨j, j1, j2⟩ => (Nat.lt_succ_iff_lt_or_eq.mp j1).elim (fun q => absurd (hbb.mpr ⟨j, q, j2⟩) (by rw [yc2]; decide)) (fun q => absurd (q ▸ j2) (fun z => z.elim (fun q => c4 q.1) (fun q => c5 q.1)))⟩
              refine lv_istore_n (lv' := [(3, .int (g_b false)), (4, .int (nI k)), (0, .ref (md 0)), (1, .int (nI ga)), (2, .int (nI gb))]) hx hb dX7_areMeshed_67 rfl hl (by decide) rfl (fun ls hl => ?_)
              obtain ⟨i6, ei6⟩ : ∃ y : Int32, y = nI k + (1) := ⟨_, rfl⟩
              refine lv_iinc (v := i6) (lv' := [(4, .int i6), (3, .int (g_b false)), (0, .ref (md 0)), (1, .int (nI ga)), (2, .int (nI gb))]) hx hb dX7_areMeshed_68 hl (k := 1) rfl (by rw [ei6]; rfl) (by decide) rfl (fun ls hl => ?_)
              obtain rfl : i6 = nI (k + 1) := by
                rw [ei6]
                exact nI_1 k
              refine lv_goto (tgt := 5) hx hb dX7_areMeshed_71 (by decide) ?_
              exact ih_L5 (k + 1) false  H locs ls (by omega) (by omega) (hb2) hP hS (lv_sub hl [0, 1, 2, 3, 4] rfl)
            · rw [nI_eq (a := (S 9 k).toNat) (b := gb) (by omega) (by omega)] at c5
              refine lv_aload_n hx hb dX7_areMeshed_51 rfl (lv_at hl 2 rfl) ?_
              refine g_get F hP (C := RX7) (T := TX7) (N := 20) iX7 hx0 rfl 12 (by decide) (List.mem_cons_of_mem _ (List.mem_append_left _ (List.mem_of_getElem? (i := 2) rfl))) (fun _ h9 => h9) rfl dX7_areMeshed_52 ?_
              refine lv_iload hx hb dX7_areMeshed_55 (lv_at hl 0 rfl) ?_
              refine g_iald F hP hy7 (vp_in_nI (by omega) (by decide)) dX7_areMeshed_57 ?_
              rw [show (.int ((Fm 7) (nI k : Int32).toNatClampNeg) : Value) = .int (nI (S 10 k).toNat) from by rw [nI_clamp (by omega), (Hf.2.2.1 k hk).2, iL_nn (by omega)]]
              refine lv_iload_n hx hb dX7_areMeshed_58 rfl (lv_at hl 3 rfl) ?_
              refine lv_icmp_ne (tgt := 66) hx hb dX7_areMeshed_59 (by decide) (fun c7 => ?_) (fun c7 => ?_)
              · rw [nI_eq (a := (S 10 k).toNat) (b := ga) (by omega) (by omega)] at c7
                refine lv_iconst (v := 0) hx hb dX7_areMeshed_66 (by decide) ?_
                rw [show (.int 0 : Value) = .int (g_b false) from rfl]
                have hb2 : false = true ↔ ∃ j, j < k + 1 ∧ meshAt S j ga gb := ⟨fun q => (nomatch q), fun ⟨j, j1, j2⟩ => (Nat.lt_succ_iff_lt_or_eq.mp j1).elim (fun q => absurd (hbb.mpr ⟨j, q, j2⟩) (by rw [yc2]; decide)) (fun q => absurd (q ▸ j2) (fun z => z.elim (fun q => c4 q.1) (fun q => c7 q.2)))⟩
                refine lv_istore_n (lv' := [(3, .int (g_b false)), (4, .int (nI k)), (0, .ref (md 0)), (1, .int (nI ga)), (2, .int (nI gb))]) hx hb dX7_areMeshed_67 rfl hl (by decide) rfl (fun ls hl => ?_)
                obtain ⟨i8, ei8⟩ : ∃ y : Int32, y = nI k + (1) := ⟨_, rfl⟩
                refine lv_iinc (v := i8) (lv' := [(4, .int i8), (3, .int (g_b false)), (0, .ref (md 0)), (1, .int (nI ga)), (2, .int (nI gb))]) hx hb dX7_areMeshed_68 hl (k := 1) rfl (by rw [ei8]; rfl) (by decide) rfl (fun ls hl => ?_)
                obtain rfl : i8 = nI (k + 1) := by
                  rw [ei8]
                  exact nI_1 k
                refine lv_goto (tgt := 5) hx hb dX7_areMeshed_71 (by decide) ?_
                exact ih_L5 (k + 1) false  H locs ls (by omega) (by omega) (hb2) hP hS (lv_sub hl [0, 1, 2, 3, 4] rfl)
              · rw [nI_eq (a := (S 10 k).toNat) (b := ga) (by omega) (by omega)] at c7
                refine lv_iconst (v := 1) hx hb dX7_areMeshed_62 (by decide) ?_
                refine lv_goto (tgt := 67) hx hb dX7_areMeshed_63 (by decide) ?_
                rw [show (.int 1 : Value) = .int (g_b true) from rfl]
                have hb2 : true = true ↔ ∃ j, j < k + 1 ∧ meshAt S j ga gb := ⟨fun _ => ⟨k, Nat.lt_succ_self k, Or.inr ⟨c5, c7⟩⟩, fun _ => rfl⟩
                refine lv_istore_n (lv' := [(3, .int (g_b true)), (4, .int (nI k)), (0, .ref (md 0)), (1, .int (nI ga)), (2, .int (nI gb))]) hx hb dX7_areMeshed_67 rfl hl (by decide) rfl (fun ls hl => ?_)
                obtain ⟨i9, ei9⟩ : ∃ y : Int32, y = nI k + (1) := ⟨_, rfl⟩
                refine lv_iinc (v := i9) (lv' := [(4, .int i9), (3, .int (g_b true)), (0, .ref (md 0)), (1, .int (nI ga)), (2, .int (nI gb))]) hx hb dX7_areMeshed_68 hl (k := 1) rfl (by rw [ei9]; rfl) (by decide) rfl (fun ls hl => ?_)
                obtain rfl : i9 = nI (k + 1) := by
                  rw [ei9]
                  exact nI_1 k
                refine lv_goto (tgt := 5) hx hb dX7_areMeshed_71 (by decide) ?_
                exact ih_L5 (k + 1) true  H locs ls (by omega) (by omega) (hb2) hP hS (lv_sub hl [0, 1, 2, 3, 4] rfl)
          · rw [nI_eq (a := (S 9 k).toNat) (b := ga) (by omega) (by omega)] at c4
            refine lv_aload_n hx hb dX7_areMeshed_29 rfl (lv_at hl 2 rfl) ?_
            refine g_get F hP (C := RX7) (T := TX7) (N := 20) iX7 hx0 rfl 12 (by decide) (List.mem_cons_of_mem _ (List.mem_append_left _ (List.mem_of_getElem? (i := 2) rfl))) (fun _ h9 => h9) rfl dX7_areMeshed_30 ?_
            refine lv_iload hx hb dX7_areMeshed_33 (lv_at hl 0 rfl) ?_
            refine g_iald F hP hy7 (vp_in_nI (by omega) (by decide)) dX7_areMeshed_35 ?_
            rw [show (.int ((Fm 7) (nI k : Int32).toNatClampNeg) : Value) = .int (nI (S 10 k).toNat) from by rw [nI_clamp (by omega), (Hf.2.2.1 k hk).2, iL_nn (by omega)]]
            refine lv_iload_n hx hb dX7_areMeshed_36 rfl (lv_at hl 4 rfl) ?_
            refine lv_icmp_eq (tgt := 62) hx hb dX7_areMeshed_37 (by decide) (fun c10 => ?_) (fun c10 => ?_)
            · rw [nI_eq (a := (S 10 k).toNat) (b := gb) (by omega) (by omega)] at c10
              refine lv_iconst (v := 1) hx hb dX7_areMeshed_62 (by decide) ?_
              refine lv_goto (tgt := 67) hx hb dX7_areMeshed_63 (by decide) ?_
              rw [show (.int 1 : Value) = .int (g_b true) from rfl]
              have hb2 : true = true ↔ ∃ j, j < k + 1 ∧ meshAt S j ga gb := ⟨fun _ => ⟨k, Nat.lt_succ_self k, Or.inl ⟨c4, c10⟩⟩, fun _ => rfl⟩
              refine lv_istore_n (lv' := [(3, .int (g_b true)), (4, .int (nI k)), (0, .ref (md 0)), (1, .int (nI ga)), (2, .int (nI gb))]) hx hb dX7_areMeshed_67 rfl hl (by decide) rfl (fun ls hl => ?_)
              obtain ⟨i11, ei11⟩ : ∃ y : Int32, y = nI k + (1) := ⟨_, rfl⟩
              refine lv_iinc (v := i11) (lv' := [(4, .int i11), (3, .int (g_b true)), (0, .ref (md 0)), (1, .int (nI ga)), (2, .int (nI gb))]) hx hb dX7_areMeshed_68 hl (k := 1) rfl (by rw [ei11]; rfl) (by decide) rfl (fun ls hl => ?_)
              obtain rfl : i11 = nI (k + 1) := by
                rw [ei11]
                exact nI_1 k
              refine lv_goto (tgt := 5) hx hb dX7_areMeshed_71 (by decide) ?_
              exact ih_L5 (k + 1) true  H locs ls (by omega) (by omega) (hb2) hP hS (lv_sub hl [0, 1, 2, 3, 4] rfl)
            · rw [nI_eq (a := (S 10 k).toNat) (b := gb) (by omega) (by omega)] at c10
              refine lv_aload_n hx hb dX7_areMeshed_40 rfl (lv_at hl 2 rfl) ?_
              refine g_get F hP (C := RX7) (T := TX7) (N := 20) iX7 hx0 rfl 11 (by decide) (List.mem_cons_of_mem _ (List.mem_append_left _ (List.mem_of_getElem? (i := 1) rfl))) (fun _ h9 => h9) rfl dX7_areMeshed_41 ?_
              refine lv_iload hx hb dX7_areMeshed_44 (lv_at hl 0 rfl) ?_
              refine g_iald F hP hy6 (vp_in_nI (by omega) (by decide)) dX7_areMeshed_46 ?_
              rw [show (.int ((Fm 6) (nI k : Int32).toNatClampNeg) : Value) = .int (nI (S 9 k).toNat) from by rw [nI_clamp (by omega), (Hf.2.2.1 k hk).1, iL_nn (by omega)]]
              refine lv_iload_n hx hb dX7_areMeshed_47 rfl (lv_at hl 4 rfl) ?_
              refine lv_icmp_ne (tgt := 66) hx hb dX7_areMeshed_48 (by decide) (fun c12 => ?_) (fun c12 => ?_)
              · rw [nI_eq (a := (S 9 k).toNat) (b := gb) (by omega) (by omega)] at c12
                refine lv_iconst (v := 0) hx hb dX7_areMeshed_66 (by decide) ?_
                rw [show (.int 0 : Value) = .int (g_b false) from rfl]
                have hb2 : false = true ↔ ∃ j, j < k + 1 ∧ meshAt S j ga gb := ⟨fun q => (nomatch q), fun ⟨j, j1, j2⟩ => (Nat.lt_succ_iff_lt_or_eq.mp j1).elim (fun q => absurd (hbb.mpr ⟨j, q, j2⟩) (by rw [yc2]; decide)) (fun q => absurd (q ▸ j2) (fun z => z.elim (fun q => c10 q.2) (fun q => c12 q.1)))⟩
                refine lv_istore_n (lv' := [(3, .int (g_b false)), (4, .int (nI k)), (0, .ref (md 0)), (1, .int (nI ga)), (2, .int (nI gb))]) hx hb dX7_areMeshed_67 rfl hl (by decide) rfl (fun ls hl => ?_)
                obtain ⟨i13, ei13⟩ : ∃ y : Int32, y = nI k + (1) := ⟨_, rfl⟩
                refine lv_iinc (v := i13) (lv' := [(4, .int i13), (3, .int (g_b false)), (0, .ref (md 0)), (1, .int (nI ga)), (2, .int (nI gb))]) hx hb dX7_areMeshed_68 hl (k := 1) rfl (by rw [ei13]; rfl) (by decide) rfl (fun ls hl => ?_)
                obtain rfl : i13 = nI (k + 1) := by
                  rw [ei13]
                  exact nI_1 k
                refine lv_goto (tgt := 5) hx hb dX7_areMeshed_71 (by decide) ?_
                exact ih_L5 (k + 1) false  H locs ls (by omega) (by omega) (hb2) hP hS (lv_sub hl [0, 1, 2, 3, 4] rfl)
              · rw [nI_eq (a := (S 9 k).toNat) (b := gb) (by omega) (by omega)] at c12
                refine lv_aload_n hx hb dX7_areMeshed_51 rfl (lv_at hl 2 rfl) ?_
                refine g_get F hP (C := RX7) (T := TX7) (N := 20) iX7 hx0 rfl 12 (by decide) (List.mem_cons_of_mem _ (List.mem_append_left _ (List.mem_of_getElem? (i := 2) rfl))) (fun _ h9 => h9) rfl dX7_areMeshed_52 ?_
                refine lv_iload hx hb dX7_areMeshed_55 (lv_at hl 0 rfl) ?_
                refine g_iald F hP hy7 (vp_in_nI (by omega) (by decide)) dX7_areMeshed_57 ?_
                rw [show (.int ((Fm 7) (nI k : Int32).toNatClampNeg) : Value) = .int (nI (S 10 k).toNat) from by rw [nI_clamp (by omega), (Hf.2.2.1 k hk).2, iL_nn (by omega)]]
                refine lv_iload_n hx hb dX7_areMeshed_58 rfl (lv_at hl 3 rfl) ?_
                refine lv_icmp_ne (tgt := 66) hx hb dX7_areMeshed_59 (by decide) (fun c14 => ?_) (fun c14 => ?_)
                · rw [nI_eq (a := (S 10 k).toNat) (b := ga) (by omega) (by omega)] at c14
                  refine lv_iconst (v := 0) hx hb dX7_areMeshed_66 (by decide) ?_
                  rw [show (.int 0 : Value) = .int (g_b false) from rfl]
                  have hb2 : false = true ↔ ∃ j, j < k + 1 ∧ meshAt S j ga gb := ⟨fun q => (nomatch q), fun ⟨j, j1, j2⟩ => (Nat.lt_succ_iff_lt_or_eq.mp j1).elim (fun q => absurd (hbb.mpr ⟨j, q, j2⟩) (by rw [yc2]; decide)) (fun q => absurd (q ▸ j2) (fun z => z.elim (fun q => c10 q.2) (fun q => c14 q.2)))⟩
                  refine lv_istore_n (lv' := [(3, .int (g_b false)), (4, .int (nI k)), (0, .ref (md 0)), (1, .int (nI ga)), (2, .int (nI gb))]) hx hb dX7_areMeshed_67 rfl hl (by decide) rfl (fun ls hl => ?_)
                  obtain ⟨i15, ei15⟩ : ∃ y : Int32, y = nI k + (1) := ⟨_, rfl⟩
                  refine lv_iinc (v := i15) (lv' := [(4, .int i15), (3, .int (g_b false)), (0, .ref (md 0)), (1, .int (nI ga)), (2, .int (nI gb))]) hx hb dX7_areMeshed_68 hl (k := 1) rfl (by rw [ei15]; rfl) (by decide) rfl (fun ls hl => ?_)
                  obtain rfl : i15 = nI (k + 1) := by
                    rw [ei15]
                    exact nI_1 k
                  refine lv_goto (tgt := 5) hx hb dX7_areMeshed_71 (by decide) ?_
                  exact ih_L5 (k + 1) false  H locs ls (by omega) (by omega) (hb2) hP hS (lv_sub hl [0, 1, 2, 3, 4] rfl)
                · rw [nI_eq (a := (S 10 k).toNat) (b := ga) (by omega) (by omega)] at c14
                  refine lv_iconst (v := 1) hx hb dX7_areMeshed_62 (by decide) ?_
                  refine lv_goto (tgt := 67) hx hb dX7_areMeshed_63 (by decide) ?_
                  rw [show (.int 1 : Value) = .int (g_b true) from rfl]
                  have hb2 : true = true ↔ ∃ j, j < k + 1 ∧ meshAt S j ga gb := ⟨fun _ => ⟨k, Nat.lt_succ_self k, Or.inr ⟨c12, c14⟩⟩, fun _ => rfl⟩
                  refine lv_istore_n (lv' := [(3, .int (g_b true)), (4, .int (nI k)), (0, .ref (md 0)), (1, .int (nI ga)), (2, .int (nI gb))]) hx hb dX7_areMeshed_67 rfl hl (by decide) rfl (fun ls hl => ?_)
                  obtain ⟨i16, ei16⟩ : ∃ y : Int32, y = nI k + (1) := ⟨_, rfl⟩
                  refine lv_iinc (v := i16) (lv' := [(4, .int i16), (3, .int (g_b true)), (0, .ref (md 0)), (1, .int (nI ga)), (2, .int (nI gb))]) hx hb dX7_areMeshed_68 hl (k := 1) rfl (by rw [ei16]; rfl) (by decide) rfl (fun ls hl => ?_)
                  obtain rfl : i16 = nI (k + 1) := by
                    rw [ei16]
                    exact nI_1 k
                  refine lv_goto (tgt := 5) hx hb dX7_areMeshed_71 (by decide) ?_
                  exact ih_L5 (k + 1) true  H locs ls (by omega) (by omega) (hb2) hP hS (lv_sub hl [0, 1, 2, 3, 4] rfl)
  exact L5 ((S 0 2).toNat + 1) 0 false  H locs ls (by omega) (by omega) (⟨fun q => (nomatch q), fun ⟨j, j1, _⟩ => absurd j1 (Nat.not_lt_zero j)⟩) hP hS (lv_sub hl [0, 1, 2, 3, 4] rfl)
