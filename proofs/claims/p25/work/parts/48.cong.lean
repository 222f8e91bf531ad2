/-! what is told hangs on the ties, the driver and what is held alone -/
def samT (S S' : Sg) (n : Nat) : Prop := (S' 0 2 = S 0 2 ∧ S' 0 3 = S 0 3) ∧ (∀ b m k : Nat, b < 2 → (m : Int) < S 0 (2 + b) → tSa S' b m k = tSa S b m k ∧ tWt S' b m k = tWt S b m k ∧ tSa S b m k < n) ∧ (S' 0 4 = S 0 4 ∧ S' 0 5 = S 0 5) ∧ ∀ k, k < n → S' 3 k = S 3 k
def relT (S' : Sg) (n : Nat) (T T' : Sg) : Prop := (∀ f k : Nat, (f < 3 → k < n) → T' f k = T f k) ∧ ∀ f k : Nat, f < 3 → n ≤ k → T' f k = T0 S' f k
section CG
variable {S S' T T' : Sg} {n : Nat}
theorem rel_tie (h : samT S S' n) (r : relT S' n T T') {b m : Nat} (hb : b < 2) (hm : (m : Int) < S 0 (2 + b)) :
    (∀ pl, tUnk S' T' b m pl ↔ tUnk S T b m pl) ∧ (∀ pl, relT S' n (tTell S T b m pl) (tTell S' T' b m pl)) ∧ T' (3 + b) m = T (3 + b) m ∧ tNu S' T' b m = tNu S T b m ∧ tDe S' T' b m = tDe S T b m ∧ tWt S' b m = tWt S b m ∧ ∀ k, T' 2 (tSa S' b m k) = T 2 (tSa S b m k) := by
  have hs : ∀ k, tSa S' b m k = tSa S b m k := fun k => (h.2.1 b m k hb hm).1
  have hl : ∀ k, tSa S b m k < n := fun k => (h.2.1 b m k hb hm).2.2
  have h2 : ∀ k, T' 2 (tSa S' b m k) = T 2 (tSa S b m k) := fun k => by rw [hs k]; exact r.1 2 _ (fun _ => hl k)
  have hnu : tNu S' T' b m = tNu S T b m := by funext k; unfold tNu; rw [hs k]; exact r.1 0 _ (fun _ => hl k)
  have hde : tDe S' T' b m = tDe S T b m := by funext k; unfold tDe; rw [hs k]; exact r.1 1 _ (fun _ => hl k)
  have hwt : tWt S' b m = tWt S b m := by funext k; exact (h.2.1 b m k hb hm).2.1
  refine ⟨fun pl => ?_, fun pl => ?_, r.1 _ _ (fun q => absurd q (by omega)), hnu, hde, hwt, h2⟩
  · unfold tUnk
    rw [h2 pl]
    exact ⟨fun q => ⟨q.1, q.2.1, fun j hj hn => by rw [← h2 j]; exact q.2.2 j hj hn⟩, fun q => ⟨q.1, q.2.1, fun j hj hn => by rw [h2 j]; exact q.2.2 j hj hn⟩⟩
  · have hX : tX S' T' b m pl = tX S T b m pl := by unfold tX; rw [hnu, hde, hwt]
    have hY : tY S' T' b m pl = tY S T b m pl := by unfold tY; rw [hnu, hde, hwt]
    have hg : gSI (fun k => T' 2 (tSa S' b m k)) (tN b) = gSI (fun k => T 2 (tSa S b m k)) (tN b) := by rw [show (fun k => T' 2 (tSa S' b m k)) = (fun k => T 2 (tSa S b m k)) from funext h2]
    have u : ∀ (A A' : Sg) (f0 i0 : Nat) (v : Int), (f0 < 3 → i0 < n) → relT S' n A A' → relT S' n (up2 A f0 i0 v) (up2 A' f0 i0 v) := by
      intro A A' f0 i0 v hi ra
      refine ⟨fun f k hk => ?_, fun f k hf hk => ?_⟩
      · by_cases z : f = f0 ∧ k = i0
        · rw [z.1, z.2, up2_s, up2_s]
        · rw [show ∀ B : Sg, up2 B f0 i0 v f k = B f k from fun B => if_neg z, show ∀ B : Sg, up2 B f0 i0 v f k = B f k from fun B => if_neg z]
          exact ra.1 f k hk
      · have z : ¬ (f = f0 ∧ k = i0) := fun z => by have := hi (by omega); omega
        rw [show ∀ B : Sg, up2 B f0 i0 v f k = B f k from fun B => if_neg z]
        exact ra.2 f k hf hk
    unfold tTell
    rw [hX, hY, hg, hs pl]
    split
    · exact u _ _ _ _ _ (fun q => absurd q (by omega)) r
    · exact u _ _ _ _ _ (fun _ => hl pl) (u _ _ _ _ _ (fun _ => hl pl) (u _ _ _ _ _ (fun _ => hl pl) r))
theorem rel_try (h : samT S S' n) (r : relT S' n T T') {b m : Nat} (hb : b < 2) (hm : (m : Int) < S 0 (2 + b)) :
    (tTry S T b m = none ∧ tTry S' T' b m = none) ∨ ∃ A A', tTry S T b m = some A ∧ tTry S' T' b m = some A' ∧ relT S' n A A' := by
  obtain ⟨h1, h2, h3, -⟩ := rel_tie h r hb hm
  rcases Classical.em (T (3 + b) m = 0 ∧ ∃ pl, tUnk S T b m pl) with ⟨z1, pl, z2⟩ | z
  · exact Or.inr ⟨_, _, tTry_some z1 z2, tTry_some (by rw [h3]; exact z1) ((h1 pl).mpr z2), h2 pl⟩
  · exact Or.inl ⟨tTry_none z, tTry_none (fun ⟨q1, pl, q2⟩ => z ⟨by rw [← h3]; exact q1, pl, (h1 pl).mp q2⟩)⟩
theorem rel_first (h : samT S S' n) (r : relT S' n T T') {b : Nat} (hb : b < 2) : ∀ (c i : Nat), ((i + c : Nat) : Int) ≤ S 0 (2 + b) →
    (firstT S T b i c = none ∧ firstT S' T' b i c = none) ∨ ∃ A A', firstT S T b i c = some A ∧ firstT S' T' b i c = some A' ∧ relT S' n A A' := by
  intro c
  induction c with
  | zero => intro i _; exact Or.inl ⟨rfl, rfl⟩
  | succ c ih =>
    intro i hi
    unfold firstT
    rcases rel_try h r hb (m := i) (by omega) with ⟨e1, e2⟩ | ⟨A, A', e1, e2, e3⟩
    · rw [e1, e2]
      exact ih (i + 1) (by omega)
    · rw [e1, e2]
      exact Or.inr ⟨A, A', rfl, rfl, e3⟩
theorem rel_step (Hi : invS S) (h : samT S S' n) (r : relT S' n T T') : (step S T = none ∧ step S' T' = none) ∨ ∃ A A', step S T = some A ∧ step S' T' = some A' ∧ relT S' n A A' := by
  have hi := Hi.1
  unfold step
  rw [h.1.1, h.1.2]
  rcases rel_first h r (b := 0) (by decide) (S 0 2).toNat 0 (by show ((0 + (S 0 2).toNat : Nat) : Int) ≤ S 0 2; omega) with ⟨e1, e2⟩ | ⟨A, A', e1, e2, e3⟩
  · rw [e1, e2]
    exact rel_first h r (b := 1) (by decide) (S 0 3).toNat 0 (by show ((0 + (S 0 3).toNat : Nat) : Int) ≤ S 0 3; omega)
  · rw [e1, e2]
    exact Or.inr ⟨A, A', rfl, rfl, e3⟩
theorem rel_run (Hi : invS S) (h : samT S S' n) : ∀ (c : Nat) (T T' : Sg), relT S' n T T' → relT S' n (run S c T) (run S' c T') := by
  intro c
  induction c with
  | zero => intro T T' r; exact r
  | succ c ih =>
    intro T T' r
    rcases rel_step Hi h r with ⟨e1, e2⟩ | ⟨A, A', e1, e2, e3⟩
    · rw [run_none e1, run_none e2]; exact r
    · rw [run_some e1, run_some e2]; exact ih A A' e3
theorem told_cong (Hi : invS S) (h : samT S S' n) : relT S' n (told S) (told S') := by
  refine rel_run Hi h 30 _ _ ⟨fun f k hk => ?_, fun _ _ _ _ => rfl⟩
  have e : ∀ S0 : Sg, T0 S0 f k = if f = 0 then (if (k : Int) = S0 0 4 then S0 0 5 else 0) else if f = 1 then 1 else if f = 2 then (if (k : Int) = S0 0 4 ∨ S0 3 k = 1 then 0 else -1) else 0 := fun S0 => rfl
  rw [e, e, h.2.2.1.1, h.2.2.1.2]
  by_cases z : f = 2
  · rw [z, h.2.2.2 k (hk (by omega))]
  · rw [if_neg z, if_neg z]
end CG
