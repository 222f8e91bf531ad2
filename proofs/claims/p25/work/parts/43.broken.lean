/-! which ties are broken -/
noncomputable def brkB (S T : Sg) (b m : Nat) : Bool := @decide ((∀ k, k < tN b → T 2 (tSa S b m k) ≠ -1) ∧ ¬ (fN (tX S T b m (tN b - 1)) (tY S T b m (tN b - 1)) = tNu S T b m (tN b - 1) ∧ fD (tX S T b m (tN b - 1)) (tY S T b m (tN b - 1)) = tDe S T b m (tN b - 1))) (Classical.propDecidable _)
theorem brkB_t {S T : Sg} {b m : Nat} : brkB S T b m = true ↔ ((∀ k, k < tN b → T 2 (tSa S b m k) ≠ -1) ∧ ¬ (fN (tX S T b m (tN b - 1)) (tY S T b m (tN b - 1)) = tNu S T b m (tN b - 1) ∧ fD (tX S T b m (tN b - 1)) (tY S T b m (tN b - 1)) = tDe S T b m (tN b - 1))) := by
  unfold brkB
  exact @decide_eq_true_iff _ (Classical.propDecidable _)
noncomputable def vlBroken (S T : Sg) (ba : Bool) : Int32 := if ba then bitsI (brkB S T 1) (S 0 3).toNat else bitsI (brkB S T 0) (S 0 2).toNat
theorem broken_post {G : g_C} {S T : Sg} {w w' : g_W} {ad : Nat → Nat → Nat} {Cn : Nat → Nat → Option va_E} (Hh : holds w ad Cn) (Hr : rep G S T ad Cn) (Hi : invS S) (Ht : invT S T) {b m : Nat} (hb : b < 2) (hm : (m : Int) < S 0 (2 + b)) {r : Int32}
    (h : ∃ b0 : Bool, r = g_b b0 ∧ (b0 = true ↔ (∀ k, k < tN b → iL (T 2 (tSa S b m k)) ≠ -1) ∧ ¬ (fN (tX S T b m (tN b - 1)) (tY S T b m (tN b - 1)) = tNu S T b m (tN b - 1) ∧ fD (tX S T b m (tN b - 1)) (tY S T b m (tN b - 1)) = tDe S T b m (tN b - 1))) ∧ ∃ x y : Int64, w' = g_up w (ad (7 + 5 * b + 3) m) (.inr (1, [.long x, .long y]))) :
    r = g_b (brkB S T b m) ∧ ∃ Cn', upto ad Cn w w' Cn' ∧ rep G S T ad Cn' := by
  obtain ⟨b0, h1, h2, x, y, h3⟩ := h
  have k1 : ∀ k, iL (T 2 (tSa S b m k)) ≠ -1 ↔ T 2 (tSa S b m k) ≠ -1 := by
    intro k
    have := (Ht.1 _ (tSa_lt Hi hb hm k)).2.2.2.2
    rw [show (-1 : Int32) = iL (-1) from rfl, ne_eq, iL_eq (by omega) (by omega) (by omega) (by omega)]
  have e : b0 = brkB S T b m := by
    have h4 : b0 = true ↔ brkB S T b m = true := by
      rw [h2, brkB_t]
      exact ⟨fun q => ⟨fun k hk => (k1 k).mp (q.1 k hk), q.2⟩, fun q => ⟨fun k hk => (k1 k).mpr (q.1 k hk), q.2⟩⟩
    cases hb0 : b0 <;> cases hb1 : brkB S T b m <;> simp_all
  refine ⟨by rw [h1, e], ?_⟩
  obtain ⟨t1, t2, t3, ⟨xx, yy, t4⟩⟩ := tieR_of Hr hb hm
  have u1 := upto_set Hh (7 + 5 * b + 3) m (.inr (1, [.long x, .long y])) (rep_live t4)
  rw [← h3] at u1
  refine ⟨_, u1, ?_⟩
  refine rep_frs Hr (fun k i k1 k2 => up2_k _ _ _ (by omega)) (fun i => ?_) (fun i => ?_)
  · by_cases z : 10 = 7 + 5 * b + 3 ∧ i = m
    · unfold up2; rw [if_pos z]; exact Or.inr ⟨_, _, rfl⟩
    · unfold up2; rw [if_neg z]; exact Or.inl rfl
  · by_cases z : 15 = 7 + 5 * b + 3 ∧ i = m
    · unfold up2; rw [if_pos z]; exact Or.inr ⟨_, _, rfl⟩
    · unfold up2; rw [if_neg z]; exact Or.inl rfl
