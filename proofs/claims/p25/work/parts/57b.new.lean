def Sz : Sg := fun f k => if f = 0 ∧ k = 4 then -1 else 0
theorem bench_new {G : g_C} {w w' : g_W} {h q1 q2 q3 q4 : Nat} (hh : w h ≠ none) (hn : w q1 = none ∧ w q2 = none ∧ w q3 = none ∧ w q4 = none) (hd : q1 ≠ q2 ∧ q1 ≠ q3 ∧ q1 ≠ q4 ∧ q2 ≠ q3 ∧ q2 ≠ q4 ∧ q3 ≠ q4) (hw : w' = g_up (g_up (g_up (g_up (g_up w q1 (.inr (0, [.int 0, .ref (G.2.2 0), .int 0]))) q2 (.inr (0, [.int 0, .ref (G.2.2 0), .int 0]))) q3 (.inr (0, [.int 0, .ref (G.2.2 0), .int 0]))) q4 (.inr (0, [.int 0, .ref (G.2.2 0), .int 0]))) h (.inr (7, [.ref q1, .ref q2, .ref q3, .ref q4, .int (-1), .int 0]))) :
    ∃ (ad : Nat → Nat → Nat) (Cn : Nat → Nat → Option va_E) (T : Sg), ad 0 0 = h ∧ bench G w' Sz T ad Cn ∧ (∀ a, w a ≠ none → a ≠ h → w' a = w a) ∧ (∀ k i, Cn k i ≠ none → ad k i = h ∨ w (ad k i) = none) := by
  have e0 : ∀ i, i < 4 → Sz 0 i = 0 := fun i hi => if_neg (by omega)
  have ef : ∀ f k, f ≠ 0 → Sz f k = 0 := fun f k z => if_neg (fun q => z q.1)
  have h1 : q1 ≠ h := fun z => hh (by rw [← z]; exact hn.1)
  have h2 : q2 ≠ h := fun z => hh (by rw [← z]; exact hn.2.1)
  have h3 : q3 ≠ h := fun z => hh (by rw [← z]; exact hn.2.2.1)
  have h4 : q4 ≠ h := fun z => hh (by rw [← z]; exact hn.2.2.2)
  have ha : ∃ ad : Nat → Nat → Nat, ad = fun k i => if k = 0 then h else if i = 0 then q1 else if i = 1 then q2 else if i = 2 then q3 else q4 := ⟨_, rfl⟩
  obtain ⟨ad, ea⟩ := ha
  have a0 : ad 0 0 = h := by rw [ea]; rfl
  have a1 : ad 1 0 = q1 := by rw [ea]; rfl
  have a2 : ad 1 1 = q2 := by rw [ea]; rfl
  have a3 : ad 1 2 = q3 := by rw [ea]; rfl
  have a4 : ad 1 3 = q4 := by rw [ea]; rfl
  have hC : ∃ Cn : Nat → Nat → Option va_E, Cn = fun k i => if k = 0 ∧ i = 0 then some (.inr (7, [.ref q1, .ref q2, .ref q3, .ref q4, .int (-1), .int 0])) else if k = 1 ∧ i < 4 then some (.inr (0, [.int 0, .ref (G.2.2 0), .int 0])) else none := ⟨_, rfl⟩
  obtain ⟨Cn, eC⟩ := hC
  have c0 : Cn 0 0 = some (.inr (7, [.ref q1, .ref q2, .ref q3, .ref q4, .int (-1), .int 0])) := by rw [eC]; rfl
  have c1 : ∀ i, i < 4 → Cn 1 i = some (.inr (0, [.int 0, .ref (G.2.2 0), .int 0])) := by
    intro i hi
    rw [eC]
    dsimp only
    rw [if_neg (by omega), if_pos ⟨rfl, hi⟩]
  have live : ∀ k i e, Cn k i = some e → (k = 0 ∧ i = 0) ∨ (k = 1 ∧ i < 4) := by
    intro k i e he
    rw [eC] at he
    dsimp only at he
    by_cases z : k = 0 ∧ i = 0
    · exact Or.inl z
    · by_cases y : k = 1 ∧ i < 4
      · exact Or.inr y
      · rw [if_neg z, if_neg y] at he; cases he
  have r0 : w' h = some (.inr (7, [.ref q1, .ref q2, .ref q3, .ref q4, .int (-1), .int 0])) := by rw [hw]; exact g_up_s _ _ _
  have r1 : w' q1 = some (.inr (0, [.int 0, .ref (G.2.2 0), .int 0])) := by rw [hw, g_up_n _ h1, g_up_n _ hd.2.2.1, g_up_n _ hd.2.1, g_up_n _ hd.1]; exact g_up_s _ _ _
  have r2 : w' q2 = some (.inr (0, [.int 0, .ref (G.2.2 0), .int 0])) := by rw [hw, g_up_n _ h2, g_up_n _ hd.2.2.2.2.1, g_up_n _ hd.2.2.2.1]; exact g_up_s _ _ _
  have r3 : w' q3 = some (.inr (0, [.int 0, .ref (G.2.2 0), .int 0])) := by rw [hw, g_up_n _ h3, g_up_n _ hd.2.2.2.2.2]; exact g_up_s _ _ _
  have r4 : w' q4 = some (.inr (0, [.int 0, .ref (G.2.2 0), .int 0])) := by rw [hw, g_up_n _ h4]; exact g_up_s _ _ _
  have cs : ∀ i, i < 4 → i = 0 ∨ i = 1 ∨ i = 2 ∨ i = 3 := fun i hi => by omega
  have Hh : holds w' ad Cn := by
    refine ⟨fun k i e he => ?_, fun k i k' i' z1 z2 z3 => ?_⟩
    · rcases live k i e he with ⟨rfl, rfl⟩ | ⟨rfl, hi⟩
      · rw [c0] at he; cases he; rw [a0]; exact r0
      · rw [c1 i hi] at he
        cases he
        rcases cs i hi with rfl | rfl | rfl | rfl
        · rw [a1]; exact r1
        · rw [a2]; exact r2
        · rw [a3]; exact r3
        · rw [a4]; exact r4
    · obtain ⟨d1, d2, d3, d4, d5, d6⟩ := hd
      cases y1 : Cn k i with
      | none => exact absurd y1 z1
      | some e1 =>
        cases y2 : Cn k' i' with
        | none => exact absurd y2 z2
        | some e2 =>
          rcases live k i e1 y1 with ⟨rfl, rfl⟩ | ⟨rfl, hi⟩ <;> rcases live k' i' e2 y2 with ⟨rfl, rfl⟩ | ⟨rfl, hi'⟩
          · exact ⟨rfl, rfl⟩
          · rcases cs i' hi' with rfl | rfl | rfl | rfl <;> simp only [a0, a1, a2, a3, a4] at z3 <;> exact absurd z3.symm (by assumption)
          · rcases cs i hi with rfl | rfl | rfl | rfl <;> simp only [a0, a1, a2, a3, a4] at z3 <;> exact absurd z3 (by assumption)
          · rcases cs i hi with rfl | rfl | rfl | rfl <;> rcases cs i' hi' with rfl | rfl | rfl | rfl <;> simp only [a0, a1, a2, a3, a4] at z3 <;> first | exact ⟨rfl, rfl⟩ | exact absurd z3 (by assumption) | exact absurd z3.symm (by assumption)
  have Hi : invS Sz := by
    refine ⟨by rw [e0 0 (by decide), e0 1 (by decide), e0 2 (by decide), e0 3 (by decide)]; decide, fun k hk => ?_, fun k hk => ?_, fun k hk => ?_, fun k hk => ?_⟩
    · rw [e0 0 (by decide)] at hk; omega
    · rw [e0 1 (by decide)] at hk; omega
    · rw [e0 2 (by decide)] at hk; omega
    · rw [e0 3 (by decide)] at hk; omega
  refine ⟨ad, Cn, told Sz, a0, ⟨Hh, ⟨?_, fun j hj => ?_, fun k hk => ?_, fun k hk => ?_, fun k hk => ?_, fun k hk => ?_⟩, Hi, told_inv Hi, fun _ _ _ _ => rfl⟩, fun a ha hne => ?_, fun k i hk => ?_⟩
  · unfold rep0
    rw [c0, a1, a2, a3, a4]; rfl
  · exact ⟨0, Or.inl ⟨e0 j hj, c1 j hj⟩⟩
  · rw [e0 0 (by decide)] at hk; omega
  · rw [e0 1 (by decide)] at hk; omega
  · rw [e0 2 (by decide)] at hk; omega
  · rw [e0 3 (by decide)] at hk; omega
  · rw [hw, g_up_n _ hne, g_up_n _ (fun z => ha (by rw [z]; exact hn.2.2.2)), g_up_n _ (fun z => ha (by rw [z]; exact hn.2.2.1)), g_up_n _ (fun z => ha (by rw [z]; exact hn.2.1)), g_up_n _ (fun z => ha (by rw [z]; exact hn.1))]
  · cases y1 : Cn k i with
    | none => exact absurd y1 hk
    | some e1 =>
      rcases live k i e1 y1 with ⟨rfl, rfl⟩ | ⟨rfl, hi⟩
      · exact Or.inl a0
      · rcases cs i hi with rfl | rfl | rfl | rfl
        · rw [a1]; exact Or.inr hn.1
        · rw [a2]; exact Or.inr hn.2.1
        · rw [a3]; exact Or.inr hn.2.2.1
        · rw [a4]; exact Or.inr hn.2.2.2
