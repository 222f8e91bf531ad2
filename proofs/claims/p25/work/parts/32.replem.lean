/-! what a method reads off the bench -/
section RL
variable {G : g_C} {S T : Sg} {w : g_W} {ad : Nat → Nat → Nat} {Cn : Nat → Nat → Option va_E}
theorem rep_x (Hh : holds w ad Cn) (Hr : rep G S T ad Cn) : w (ad 0 0) = some (.inr (7, [.ref (ad 1 0), .ref (ad 1 1), .ref (ad 1 2), .ref (ad 1 3), .int (iL (S 0 4)), .int (iL (S 0 5))])) := Hh.1 _ _ _ Hr.1
theorem rep_size (Hh : holds w ad Cn) (Hr : rep G S T ad Cn) (j : Nat) (hj : j < 4) : ∃ (mod : Int32) (arr : Nat), w (ad 1 j) = some (.inr (0, [.int mod, .ref arr, .int (iL (S 0 j))])) := by
  obtain ⟨mod, ⟨h0, h1⟩ | ⟨cap, f, h1, -⟩⟩ := Hr.2.1 j hj
  · exact ⟨mod, _, by rw [h0]; exact Hh.1 _ _ _ h1⟩
  · exact ⟨mod, _, Hh.1 _ _ _ h1⟩
theorem rep_get (Hh : holds w ad Cn) (Hr : rep G S T ad Cn) (j : Nat) (hj : j < 4) {k : Nat} (hk : (k : Int) < S 0 j) : ∃ (mod : Int32) (cap : Nat) (f : Nat → Option Nat), w (ad 1 j) = some (.inr (0, [.int mod, .ref (ad 2 j), .int (nI (S 0 j).toNat)])) ∧ w (ad 2 j) = some (.inl (G.2.1 3, cap, .inr (.inr (.inr (.inr f))))) ∧ k < (S 0 j).toNat ∧ (S 0 j).toNat ≤ cap ∧ cap < 100000 ∧ f k = some (ad (elk j) k) := by
  obtain ⟨mod, ⟨h0, h1⟩ | ⟨cap, f, h1, h2, h3, h4, h5, h6⟩⟩ := Hr.2.1 j hj
  · omega
  · exact ⟨mod, cap, f, by rw [← iL_nn (by omega)]; exact Hh.1 _ _ _ h1, Hh.1 _ _ _ h2, by omega, by omega, by omega, h6 k hk⟩
theorem rep_sh (Hh : holds w ad Cn) (Hr : rep G S T ad Cn) {k : Nat} (hk : (k : Int) < S 0 0) : w (ad 3 k) = some (.inr (5, [.int (iL (S 1 k)), .int (iL (S 2 k)), .int (iL (S 3 k)), .int (iL (T 2 k)), .ref (ad 4 k)])) := Hh.1 _ _ _ (Hr.2.2.1 k hk).1
theorem rep_fr (Hh : holds w ad Cn) (Hr : rep G S T ad Cn) {k : Nat} (hk : (k : Int) < S 0 0) : w (ad 4 k) = some (.inr (1, [.long (zL (T 0 k)), .long (zL (T 1 k))])) := Hh.1 _ _ _ (Hr.2.2.1 k hk).2
theorem rep_ge (Hh : holds w ad Cn) (Hr : rep G S T ad Cn) {k : Nat} (hk : (k : Int) < S 0 1) : w (ad 5 k) = some (.inr (2, [.ref (ad 3 (S 4 k).toNat), .int (iL (S 5 k)), .int (iL (S 6 k)), .int (iL (S 7 k)), .int (iL (S 8 k))])) := Hh.1 _ _ _ (Hr.2.2.2.1 k hk)
theorem rep_me (Hh : holds w ad Cn) (Hr : rep G S T ad Cn) {k : Nat} (hk : (k : Int) < S 0 2) : w (ad 6 k) = some (.inr (3, [.ref (ad 5 (S 9 k).toNat), .ref (ad 5 (S 10 k).toNat), .ref (ad 7 k)])) := Hh.1 _ _ _ (Hr.2.2.2.2.1 k hk).1
theorem rep_pl (Hh : holds w ad Cn) (Hr : rep G S T ad Cn) {k : Nat} (hk : (k : Int) < S 0 3) : w (ad 11 k) = some (.inr (4, [.int (iL (S 14 k + S 15 k)), .ref (ad 12 k)])) := Hh.1 _ _ _ (Hr.2.2.2.2.2 k hk).1
end RL
/-- a shaft's, a gear's, a mesh's, a set's number, asked for by an int -/
theorem ix_of {p : Int32} {n : Int} (h1 : 0 ≤ p.toInt) (h2 : p.toInt < n) : ∃ k : Nat, (k : Int) < n ∧ p = nI k := ⟨p.toInt.toNat, by omega, by rw [← iL_nn h1, iL_x]⟩
