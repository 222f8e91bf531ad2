/-! what the law finds at its start -/
theorem arr_p {s : State} {args : Array Value} {ty : FieldType} (h : (Cond.arrayClass ty).before args s = true) : ∃ c : ClassId, ArrOfT s c ty ∧ s.vm.findClass ("[" ++ ty.toString) = some c := by
  obtain ⟨c, k, comp, h1, h2, h3⟩ := Cond.arrayClass_spec h
  exact ⟨c, fun n z => ⟨fun q hq => (by cases hq), k, h2, comp, h3⟩, h1⟩
theorem arr_o {s : State} {args : Array Value} {C : String} (h : (Cond.arrayOver (.object C)).before args s = true) : ∃ c : ClassId, ArrOfT s c (.object C) ∧ va_RA s c (.object C) := by
  obtain ⟨comp, c, k, h1, h2, h3, h4, h5⟩ := Cond.arrayOver_spec h
  exact ⟨c, fun n z => ⟨fun q hq => (by cases hq), k, h3, comp, h4⟩, k, comp, h3, h4, h1, h5⟩
theorem len_0 {s : State} {args : Array Value} {t : Term} (h : (Cond.eq (.length t) (.int 0)).before args s = true) : (Term.length t).eval args s none [] s = some (.int (Int32.ofNat 0)) := by
  cases hv : (Term.length t).eval args s none [] s with
  | none => simp [Cond.before, Cond.holds, Cond.value, hv] at h
  | some v =>
    obtain ⟨a, cell, -, -, rfl⟩ := Term.length_spec hv
    have hq := Cond.eq_ints hv (show (Term.int 0).eval args s none [] s = some (.int 0) from rfl)
    have hd : cell.slots.size.toInt32 = 0 := by simpa [Cond.before, Cond.holds, hq] using h
    rw [hd]; rfl
theorem str_r {s : State} {args : Array Value} {k : Nat} {tx : String} {cur : Nat} (hc : s.vm.findClass RX6 = some cur) (h : (Cond.stringRef RX6 k tx).before args s = true) : ∃ a : Nat, vk_R RX6 k tx a s := by
  obtain ⟨k1, cf, i, a, -, -, -, -, -, hev⟩ := Cond.stringRef_spec hc h
  exact ⟨a, vk_R.of h hev⟩
set_option maxHeartbeats 4000000 in
set_option maxRecDepth 100000 in
theorem law_GK {p : Program} {s : State} {m : MethodId} {meth : Method} {c : Code} {b L : Nat} {xs : Nat → Int32} (C0 : lw_At p s m meth c b L xs) : ∃ G : g_C, g_K G s ∧ g_Z (fun q : Nat => s.heap.size ≤ q) G s s.heap := by
  obtain ⟨hx, hb, hr, hml, hown, hts, hX, hbl, hlocks, hgv⟩ := C0
  have hs := flat_of_before _ hgv
  have tb : ∀ (i : Nat) (w : Cond), tables_1[i]? = some w → w.before #[Value.ref b] s = true := fun i w h => hts w (by unfold lw_tbl; exact List.mem_append_right _ (List.mem_of_getElem? h))
  have hA : ∀ a : Nat, a < s.heap.size → ¬ (fun q : Nat => s.heap.size ≤ q) a := fun a h => Nat.not_le.mpr h
  obtain ⟨c0, i0, kn0⟩ := u_known (C := RJx4a65c) (T := TJx4a65c) (N := 3) (n := 3) hts lin_wsJx4a65c0 (tb 33 (Cond.instantiable "java/util/ArrayList" (3 : Nat)) (by decide +kernel))
  obtain ⟨c1, i1, kn1⟩ := u_known (C := RX0) (T := TX0) (N := 2) (n := 2) hts lin_wsX00 (tb 280 (Cond.instantiable "GearTrains$Fraction" (2 : Nat)) (by decide +kernel))
  obtain ⟨c2, i2, kn2⟩ := u_known (C := RX1) (T := TX1) (N := 5) (n := 5) hts lin_wsX10 (tb 425 (Cond.instantiable "GearTrains$Gear" (5 : Nat)) (by decide +kernel))
  obtain ⟨c3, i3, kn3⟩ := u_known (C := RX2) (T := TX2) (N := 3) (n := 3) hts lin_wsX20 (tb 472 (Cond.instantiable "GearTrains$Mesh" (3 : Nat)) (by decide +kernel))
  obtain ⟨c4, i4, kn4⟩ := u_known (C := RX3) (T := TX3) (N := 2) (n := 2) hts lin_wsX30 (tb 529 (Cond.instantiable "GearTrains$PlanetSet" (2 : Nat)) (by decide +kernel))
  obtain ⟨c5, i5, kn5⟩ := u_known (C := RX4) (T := TX4) (N := 5) (n := 5) hts lin_wsX40 (tb 274 (Cond.instantiable "GearTrains$Shaft" (5 : Nat)) (by decide +kernel))
  obtain ⟨c6, i6, kn6⟩ := u_known (C := RX5) (T := TX5) (N := 3) (n := 3) hts lin_wsX50 (tb 220 (Cond.instantiable "GearTrains$Tie" (3 : Nat)) (by decide +kernel))
  obtain ⟨c7, i7, kn7⟩ := u_known (C := RX6) (T := TX6) (N := 6) (n := 6) hts lin_wsX60 (tb 25 (Cond.instantiable "GearTrains" (6 : Nat)) (by decide +kernel))
  obtain ⟨c9, i9, kn9⟩ := u_known (C := RX9) (T := TX9) (N := 2) (n := 2) hts lin_wsX90 (tb 480 (Cond.instantiable "GearTrains$Term" (2 : Nat)) (by decide +kernel))
  obtain ⟨dC, dI, hKc⟩ : ∃ (dC : Nat → ClassId) (dI : Nat → Nat → Nat), ∀ (k : Nat) (q : vw_C), vwCl[k]? = some q → u_Kn s q.1 q.2.1 q.2.2 (dC k) (dI k) := by
    refine ⟨fun k => if k = 0 then c0 else if k = 1 then c1 else if k = 2 then c2 else if k = 3 then c3 else if k = 4 then c4 else if k = 5 then c5 else if k = 6 then c6 else if k = 7 then c7 else if k = 8 then c0 else c9, fun k => if k = 0 then i0 else if k = 1 then i1 else if k = 2 then i2 else if k = 3 then i3 else if k = 4 then i4 else if k = 5 then i5 else if k = 6 then i6 else if k = 7 then i7 else if k = 8 then i0 else i9, ?_⟩
    intro k q hq
    match k, hq with
    | 0, hq => cases hq; exact kn0
    | 1, hq => cases hq; exact kn1
    | 2, hq => cases hq; exact kn2
    | 3, hq => cases hq; exact kn3
    | 4, hq => cases hq; exact kn4
    | 5, hq => cases hq; exact kn5
    | 6, hq => cases hq; exact kn6
    | 7, hq => cases hq; exact kn7
    | 8, hq => cases hq; exact kn0
    | 9, hq => cases hq; exact kn9
    | k + 10, hq => exact absurd hq (by simp)
  obtain ⟨aI, bI, nnI⟩ := arr_p (tb 272 (Cond.arrayClass FieldType.int) (by decide +kernel))
  obtain ⟨aJ, bJ, nnJ⟩ := arr_p (tb 562 (Cond.arrayClass FieldType.long) (by decide +kernel))
  obtain ⟨aZ, bZ, nnZ⟩ := arr_p (tb 571 (Cond.arrayClass FieldType.boolean) (by decide +kernel))
  obtain ⟨aO, bO, nnO⟩ := arr_o (tb 368 (Cond.arrayOver (FieldType.object "java/lang/Object")) (by decide +kernel))
  obtain ⟨aS, bS, nnS⟩ := arr_o (tb 479 (Cond.arrayOver (FieldType.object "GearTrains$Term")) (by decide +kernel))
  obtain ⟨t0, ht0, hT0⟩ := va_Tof (tm := Term.static "java/util/ArrayList" "DEFAULTCAPACITY_EMPTY_ELEMENTDATA" "[Ljava/lang/Object;") (ty := .object "java/lang/Object") (N := 0) (f := fun _ => .null) (A := fun q : Nat => s.heap.size ≤ q) (by decide) (hs (Cond.arrayOf (Term.static "java/util/ArrayList" "DEFAULTCAPACITY_EMPTY_ELEMENTDATA" "[Ljava/lang/Object;") (.object "java/lang/Object")) (by decide +kernel)) (len_0 (hs (Cond.eq (.length (Term.static "java/util/ArrayList" "DEFAULTCAPACITY_EMPTY_ELEMENTDATA" "[Ljava/lang/Object;")) (.int 0)) (by decide +kernel))) (fun j hj => absurd hj (Nat.not_lt_zero j)) hA
  obtain ⟨mi, hMi⟩ := va_Mi.of (hs (Cond.isRef (.mirror "[Ljava/lang/Object;")) (by decide +kernel))
  refine ⟨((dC, dI), (fun k => if k = 0 then aI else if k = 1 then aJ else if k = 2 then aZ else if k = 3 then aO else aS), fun k => if k = 0 then t0 else mi), ⟨hKc, ?_⟩, ?_, hT0, ?_, ?_, ?_, ?_, ⟨hMi, ?_⟩, ?_, ⟨?_, ?_⟩, ?_⟩
  · intro k q hq
    match k, hq with
    | 0, hq => cases hq; exact ⟨bI, nnI⟩
    | 1, hq => cases hq; exact ⟨bJ, nnJ⟩
    | 2, hq => cases hq; exact ⟨bZ, nnZ⟩
    | 3, hq => cases hq; exact ⟨bO, nnO⟩
    | 4, hq => cases hq; exact ⟨bS, nnS⟩
    | k + 5, hq => exact absurd hq (by simp [g_tys])
  · exact va_Zref (tb 45 (Cond.laysStatic "java/util/ArrayList" "DEFAULTCAPACITY_EMPTY_ELEMENTDATA" "[Ljava/lang/Object;") (by decide +kernel)) (tb 4 (Cond.initialized "java/util/ArrayList") (by decide +kernel)) ht0 hA
  · exact vx_Zqof (tb 119 (Cond.laysStatic "java/lang/Throwable" "UNASSIGNED_STACK" "[Ljava/lang/StackTraceElement;") (by decide +kernel)) (tb 5 (Cond.initialized "java/lang/Throwable") (by decide +kernel)) (hs (Cond.isRef (Term.static "java/lang/Throwable" "UNASSIGNED_STACK" "[Ljava/lang/StackTraceElement;")) (by decide +kernel)) hA
  · exact vx_Zqof (tb 121 (Cond.laysStatic "java/lang/Throwable" "SUPPRESSED_SENTINEL" "Ljava/util/List;") (by decide +kernel)) (tb 5 (Cond.initialized "java/lang/Throwable") (by decide +kernel)) (hs (Cond.isRef (Term.static "java/lang/Throwable" "SUPPRESSED_SENTINEL" "Ljava/util/List;")) (by decide +kernel)) hA
  · exact va_AO.of (tb 368 (Cond.arrayOver (FieldType.object "java/lang/Object")) (by decide +kernel))
  · exact va_AO.of (tb 479 (Cond.arrayOver (FieldType.object "GearTrains$Term")) (by decide +kernel))
  · exact va_Dc.of (tb 589 (Cond.declares (⟨"java/lang/Object", "getClass", "()Ljava/lang/Class;"⟩ : MethodName)) (by decide +kernel))
  · intro q hq
    rcases List.mem_cons.mp hq with hq | hq
    · rw [hq]; exact va_Nw.of rfl (tb 258 (Cond.castable "java/lang/IllegalArgumentException" "java/lang/IllegalArgumentException") (by decide +kernel))
    rcases List.mem_cons.mp hq with hq | hq
    · rw [hq]; exact va_Nw.of rfl (tb 189 (Cond.castable "java/lang/IllegalStateException" "java/lang/IllegalStateException") (by decide +kernel))
    rcases List.mem_cons.mp hq with hq | hq
    · rw [hq]; exact va_Nw.of rfl (tb 94 (Cond.castable "java/lang/IndexOutOfBoundsException" "java/lang/IndexOutOfBoundsException") (by decide +kernel))
    rcases List.mem_cons.mp hq with hq | hq
    · rw [hq]; exact va_Nw.of rfl (tb 578 (Cond.castable "GearTrains$Shaft" "java/lang/Object") (by decide +kernel))
    rcases List.mem_cons.mp hq with hq | hq
    · rw [hq]; exact va_Nw.of rfl (tb 581 (Cond.castable "GearTrains$Gear" "java/lang/Object") (by decide +kernel))
    rcases List.mem_cons.mp hq with hq | hq
    · rw [hq]; exact va_Nw.of rfl (tb 582 (Cond.castable "GearTrains$Mesh" "java/lang/Object") (by decide +kernel))
    rcases List.mem_cons.mp hq with hq | hq
    · rw [hq]; exact va_Nw.of rfl (tb 584 (Cond.castable "GearTrains$PlanetSet" "java/lang/Object") (by decide +kernel))
    exact absurd hq List.not_mem_nil
  · intro q hq
    rcases List.mem_cons.mp hq with hq | hq
    · rw [hq]; exact va_Nc.of (hs (Cond.not (.castable "java/lang/IllegalStateException" "java/lang/IllegalArgumentException")) (by decide +kernel))
    rcases List.mem_cons.mp hq with hq | hq
    · rw [hq]; exact va_Nc.of (hs (Cond.not (.castable "java/lang/IndexOutOfBoundsException" "java/lang/IllegalArgumentException")) (by decide +kernel))
    exact absurd hq List.not_mem_nil
  · intro q hq
    rcases List.mem_cons.mp hq with hq | hq
    · rw [hq]; exact va_Nw.of rfl (tb 96 (Cond.declares (⟨"java/lang/RuntimeException", "<init>", "(Ljava/lang/String;)V"⟩ : MethodName)) (by decide +kernel))
    rcases List.mem_cons.mp hq with hq | hq
    · rw [hq]; exact va_Nw.of rfl (tb 98 (Cond.declares (⟨"java/lang/Exception", "<init>", "(Ljava/lang/String;)V"⟩ : MethodName)) (by decide +kernel))
    rcases List.mem_cons.mp hq with hq | hq
    · rw [hq]; exact va_Nw.of rfl (tb 100 (Cond.declares (⟨"java/lang/Throwable", "<init>", "(Ljava/lang/String;)V"⟩ : MethodName)) (by decide +kernel))
    exact absurd hq List.not_mem_nil
  · have hc6 := kn7.2.1
    intro q hq
    rcases List.mem_cons.mp hq with hq | hq
    · rw [hq]; exact str_r hc6 (tb 470 (Cond.stringRef "GearTrains" (100 : Nat) "these gears can't be meshed") (by decide +kernel))
    rcases List.mem_cons.mp hq with hq | hq
    · rw [hq]; exact str_r hc6 (tb 471 (Cond.stringRef "GearTrains" (102 : Nat) "no more meshes") (by decide +kernel))
    rcases List.mem_cons.mp hq with hq | hq
    · rw [hq]; exact str_r hc6 (tb 526 (Cond.stringRef "GearTrains" (121 : Nat) "a shaft stands twice in the set") (by decide +kernel))
    rcases List.mem_cons.mp hq with hq | hq
    · rw [hq]; exact str_r hc6 (tb 527 (Cond.stringRef "GearTrains" (123 : Nat) "no such number of teeth") (by decide +kernel))
    rcases List.mem_cons.mp hq with hq | hq
    · rw [hq]; exact str_r hc6 (tb 528 (Cond.stringRef "GearTrains" (125 : Nat) "no more planet sets") (by decide +kernel))
    rcases List.mem_cons.mp hq with hq | hq
    · rw [hq]; exact str_r hc6 (tb 555 (Cond.stringRef "GearTrains" (143 : Nat) "nothing of that kind is counted") (by decide +kernel))
    rcases List.mem_cons.mp hq with hq | hq
    · rw [hq]; exact str_r hc6 (tb 550 (Cond.stringRef "GearTrains" (145 : Nat) "no such speed of a driver") (by decide +kernel))
    rcases List.mem_cons.mp hq with hq | hq
    · rw [hq]; exact str_r hc6 (tb 382 (Cond.stringRef "GearTrains" (151 : Nat) "the driver is not held") (by decide +kernel))
    rcases List.mem_cons.mp hq with hq | hq
    · rw [hq]; exact str_r hc6 (tb 265 (Cond.stringRef "GearTrains" (244 : Nat) "no such place") (by decide +kernel))
    rcases List.mem_cons.mp hq with hq | hq
    · rw [hq]; exact str_r hc6 (tb 133 (Cond.stringRef "GearTrains" (246 : Nat) "no such shaft") (by decide +kernel))
    rcases List.mem_cons.mp hq with hq | hq
    · rw [hq]; exact str_r hc6 (tb 457 (Cond.stringRef "GearTrains" (248 : Nat) "no such gear") (by decide +kernel))
    rcases List.mem_cons.mp hq with hq | hq
    · rw [hq]; exact str_r hc6 (tb 196 (Cond.stringRef "GearTrains" (250 : Nat) "the speed is not told") (by decide +kernel))
    rcases List.mem_cons.mp hq with hq | hq
    · rw [hq]; exact str_r hc6 (tb 273 (Cond.stringRef "GearTrains" (42 : Nat) "no more shafts") (by decide +kernel))
    rcases List.mem_cons.mp hq with hq | hq
    · rw [hq]; exact str_r hc6 (tb 422 (Cond.stringRef "GearTrains" (79 : Nat) "no such kind of gear") (by decide +kernel))
    rcases List.mem_cons.mp hq with hq | hq
    · rw [hq]; exact str_r hc6 (tb 423 (Cond.stringRef "GearTrains" (82 : Nat) "no more gears") (by decide +kernel))
    exact absurd hq List.not_mem_nil
