/-! ties: what the world holds of one, and its numbers -/
theorem iL_64 {z : Int} (h1 : -2147483648 ≤ z) (h2 : z < 2147483648) : (Int32.ofInt z).toInt64 = zL z := Int32.toInt64_ofInt (by rw [Int32.toInt_minValue]; exact h1) (by rw [Int32.toInt_maxValue]; omega)
def tieW (G : g_C) (w : g_W) (t art : Nat) (te : Nat → Nat) (fr N : Nat) (sa sf : Nat → Nat) (wt : Nat → Int) (X Y HD ST : Nat → Int32) (nu de : Nat → Int) (asd : Int32) : Prop :=
  w t = some (.inr (6, [.ref art, .ref fr, .int asd])) ∧
  (∃ f : Nat → Option Nat, w art = some (.inl (G.2.1 4, N, .inr (.inr (.inr (.inr f))))) ∧ ∀ k, k < N → f k = some (te k)) ∧
  ((∀ k, k < N → w (te k) = some (.inr (9, [.ref (sa k), .int (Int32.ofInt (wt k))]))) ∧ ∀ k j, k < N → j < N → te k = te j → k = j) ∧
  (∃ n d : Int64, w fr = some (.inr (1, [.long n, .long d]))) ∧
  (∀ k, k < N → w (sa k) = some (.inr (5, [.int (X k), .int (Y k), .int (HD k), .int (ST k), .ref (sf k)]))) ∧
  (∀ k, k < N → w (sf k) = some (.inr (1, [.long (zL (nu k)), .long (zL (de k))])))
def askS (pl : Nat) (nu de wt : Nat → Int) : Nat → Int × Int
  | 0 => (0, 1)
  | k + 1 => if k = pl then askS pl nu de wt k else ((askS pl nu de wt k).1 * de k + wt k * nu k * (askS pl nu de wt k).2, (askS pl nu de wt k).2 * de k)
theorem askS_eq {pl : Nat} {nu de wt : Nat → Int} {k : Nat} (h : k = pl) : askS pl nu de wt (k + 1) = askS pl nu de wt k := if_pos h
theorem askS_ne {pl : Nat} {nu de wt : Nat → Int} {k : Nat} (h : k ≠ pl) : askS pl nu de wt (k + 1) = ((askS pl nu de wt k).1 * de k + wt k * nu k * (askS pl nu de wt k).2, (askS pl nu de wt k).2 * de k) := if_neg h
abbrev askX (pl : Nat) (nu de wt : Nat → Int) (N : Nat) : Int := -(askS pl nu de wt N).1
abbrev askY (pl : Nat) (nu de wt : Nat → Int) (N : Nat) : Int := wt pl * (askS pl nu de wt N).2
/-- the numbers of a tie stay small -/
def askB (pl : Nat) (nu de wt : Nat → Int) (N : Nat) : Prop := askY pl nu de wt N ≠ 0 ∧ (askX pl nu de wt N).natAbs < 1125899906842624 ∧ (askY pl nu de wt N).natAbs < 1125899906842624
def gS (ST : Nat → Int32) : Nat → Int32
  | 0 => -1
  | k + 1 => if gS ST k < ST k then ST k else gS ST k
/-- the only shaft that is not told -/
def onlyU (ST : Nat → Int32) (N k : Nat) : Prop := k < N ∧ ST k = -1 ∧ ∀ j, j < N → j ≠ k → ST j ≠ -1
