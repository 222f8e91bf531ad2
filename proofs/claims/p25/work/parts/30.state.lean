/-! the bench's state as numbers, and the heap by names (kind, number) -/
abbrev Sg : Type := Nat → Nat → Int
def iL (z : Int) : Int32 := Int32.ofInt z
def up2 {α : Type} (f : Nat → Nat → α) (k i : Nat) (v : α) : Nat → Nat → α := fun a b => if a = k ∧ b = i then v else f a b
theorem up2_s {α : Type} (f : Nat → Nat → α) (k i : Nat) (v : α) : up2 f k i v k i = v := by simp [up2]
theorem up2_k {α : Type} (f : Nat → Nat → α) {k i a : Nat} (b : Nat) (v : α) (h : a ≠ k) : up2 f k i v a b = f a b := by simp [up2, h]
theorem up2_i {α : Type} (f : Nat → Nat → α) {k i b : Nat} (a : Nat) (v : α) (h : b ≠ i) : up2 f k i v a b = f a b := by simp [up2, h]
def holds (w : g_W) (ad : Nat → Nat → Nat) (Cn : Nat → Nat → Option va_E) : Prop :=
  (∀ (k i : Nat) (e : va_E), Cn k i = some e → w (ad k i) = some e) ∧ ∀ (k i k' i' : Nat), Cn k i ≠ none → Cn k' i' ≠ none → ad k i = ad k' i' → k = k' ∧ i = i'
theorem holds_set {w : g_W} {ad : Nat → Nat → Nat} {Cn : Nat → Nat → Option va_E} (h : holds w ad Cn) (k i : Nat) (e : va_E) (hl : Cn k i ≠ none) : holds (g_up w (ad k i) e) ad (up2 Cn k i (some e)) := by
  have hlv : ∀ a b, up2 Cn k i (some e) a b ≠ none → Cn a b ≠ none := by
    intro a b hab
    by_cases z : a = k ∧ b = i
    · obtain ⟨rfl, rfl⟩ := z
      exact hl
    · simpa [up2, z] using hab
  refine ⟨fun a b x hx => ?_, fun a b a' b' h1 h2 h3 => h.2 a b a' b' (hlv a b h1) (hlv a' b' h2) h3⟩
  by_cases z : a = k ∧ b = i
  · obtain ⟨rfl, rfl⟩ := z
    rw [up2_s] at hx
    cases hx
    exact g_up_s _ _ _
  · have hx' : Cn a b = some x := by simpa [up2, z] using hx
    rw [g_up_n _ (fun q => z (h.2 a b k i (by rw [hx']; exact fun q => nomatch q) hl q))]
    exact h.1 a b x hx'
theorem holds_new {w : g_W} {ad : Nat → Nat → Nat} {Cn : Nat → Nat → Option va_E} (h : holds w ad Cn) (k i : Nat) (e : va_E) {q : Nat} (hq : w q = none) : holds (g_up w q e) (up2 ad k i q) (up2 Cn k i (some e)) := by
  have key : ∀ a b, ¬ (a = k ∧ b = i) → up2 Cn k i (some e) a b = Cn a b ∧ up2 ad k i q a b = ad a b := fun a b z => by simp [up2, z]
  have fresh : ∀ a b, Cn a b ≠ none → ad a b ≠ q := by
    intro a b hab z
    cases hc : Cn a b with
    | none => exact hab hc
    | some x =>
      have := h.1 a b x hc
      rw [z, hq] at this
      cases this
  refine ⟨fun a b x hx => ?_, fun a b a' b' h1 h2 h3 => ?_⟩
  · by_cases z : a = k ∧ b = i
    · obtain ⟨rfl, rfl⟩ := z
      rw [up2_s] at hx ⊢
      cases hx
      exact g_up_s _ _ _
    · rw [(key a b z).1] at hx
      rw [(key a b z).2, g_up_n _ (fresh a b (by rw [hx]; exact fun q => nomatch q))]
      exact h.1 a b x hx
  · by_cases z : a = k ∧ b = i
    · by_cases z' : a' = k ∧ b' = i
      · exact ⟨z.1.trans z'.1.symm, z.2.trans z'.2.symm⟩
      · rw [(key a' b' z').1] at h2
        rw [(key a' b' z').2] at h3
        obtain ⟨rfl, rfl⟩ := z
        rw [up2_s] at h3
        exact absurd h3.symm (fresh a' b' h2)
    · rw [(key a b z).1] at h1
      rw [(key a b z).2] at h3
      by_cases z' : a' = k ∧ b' = i
      · obtain ⟨rfl, rfl⟩ := z'
        rw [up2_s] at h3
        exact absurd h3 (fresh a b h1)
      · rw [(key a' b' z').1] at h2
        rw [(key a' b' z').2] at h3
        exact h.2 a b a' b' h1 h2 h3
theorem holds_ne {w : g_W} {ad : Nat → Nat → Nat} {Cn : Nat → Nat → Option va_E} (h : holds w ad Cn) {k i k' i' : Nat} {e e' : va_E} (h1 : Cn k i = some e) (h2 : Cn k' i' = some e') (hn : ¬ (k = k' ∧ i = i')) : ad k i ≠ ad k' i' :=
  fun z => hn (h.2 k i k' i' (by rw [h1]; exact fun q => nomatch q) (by rw [h2]; exact fun q => nomatch q) z)
theorem holds_fresh {w : g_W} {ad : Nat → Nat → Nat} {Cn : Nat → Nat → Option va_E} (h : holds w ad Cn) {k i q : Nat} {e : va_E} (h1 : Cn k i = some e) (hq : w q = none) : ad k i ≠ q := g_neq (h.1 k i e h1) hq
/-- the kinds: 0 the bench; 1 lists; 2 their arrays; 3 shafts; 4 their fractions; 5 gears; 6 meshes; 7 ties; 8 their terms' row; 10 what was asked; 16, 17 the terms; 11, 12, 13, 15, 21 .. 23 the same of sets -/
def elk (j : Nat) : Nat := if j = 0 then 3 else if j = 1 then 5 else if j = 2 then 6 else 11
def wtM (S : Sg) (m k : Nat) : Int := if k = 0 then S 5 (S 9 m).toNat else if S 8 (S 9 m).toNat = 1 ∨ S 8 (S 10 m).toNat = 1 then -S 5 (S 10 m).toNat else S 5 (S 10 m).toNat
def saM (S : Sg) (m k : Nat) : Nat := if k = 0 then (S 4 (S 9 m).toNat).toNat else (S 4 (S 10 m).toNat).toNat
def wtP (S : Sg) (m k : Nat) : Int := if k = 0 then S 14 m else if k = 1 then S 15 m else -(S 14 m + S 15 m)
def saP (S : Sg) (m k : Nat) : Nat := if k = 0 then (S 11 m).toNat else if k = 1 then (S 12 m).toNat else (S 13 m).toNat
def listR (G : g_C) (n : Int) (el : Nat → Nat) (ad : Nat → Nat → Nat) (Cn : Nat → Nat → Option va_E) (j : Nat) : Prop :=
  ∃ mod : Int32, (n = 0 ∧ Cn 1 j = some (.inr (0, [.int mod, .ref (G.2.2 0), .int 0]))) ∨
    ∃ (cap : Nat) (f : Nat → Option Nat), Cn 1 j = some (.inr (0, [.int mod, .ref (ad 2 j), .int (iL n)])) ∧ Cn 2 j = some (.inl (G.2.1 3, cap, .inr (.inr (.inr (.inr f))))) ∧ n ≤ cap ∧ 2 ≤ cap ∧ cap ≤ 100 ∧ ∀ k : Nat, (k : Int) < n → f k = some (el k)
/-- the cells of a tie of N shafts at the names (b, m) .. (b + 3, m) -/
def tieR (G : g_C) (ad : Nat → Nat → Nat) (Cn : Nat → Nat → Option va_E) (b m N : Nat) (sa : Nat → Nat) (wt : Nat → Int) (asd : Int) : Prop :=
  Cn b m = some (.inr (6, [.ref (ad (b + 1) m), .ref (ad (b + 3) m), .int (iL asd)])) ∧
  (∃ f : Nat → Option Nat, Cn (b + 1) m = some (.inl (G.2.1 4, N, .inr (.inr (.inr (.inr f))))) ∧ ∀ k, k < N → f k = some (ad (b + 9 + k) m)) ∧
  (∀ k, k < N → Cn (b + 9 + k) m = some (.inr (9, [.ref (ad 3 (sa k)), .int (Int32.ofInt (wt k))]))) ∧
  (∃ x y : Int64, Cn (b + 3) m = some (.inr (1, [.long x, .long y])))
def rep0 (S : Sg) (ad : Nat → Nat → Nat) (Cn : Nat → Nat → Option va_E) : Prop := Cn 0 0 = some (.inr (7, [.ref (ad 1 0), .ref (ad 1 1), .ref (ad 1 2), .ref (ad 1 3), .int (iL (S 0 4)), .int (iL (S 0 5))]))
def repL (G : g_C) (S : Sg) (ad : Nat → Nat → Nat) (Cn : Nat → Nat → Option va_E) : Prop := ∀ j, j < 4 → listR G (S 0 j) (ad (elk j)) ad Cn j
def repS (S T : Sg) (ad : Nat → Nat → Nat) (Cn : Nat → Nat → Option va_E) : Prop := ∀ k : Nat, (k : Int) < S 0 0 → Cn 3 k = some (.inr (5, [.int (iL (S 1 k)), .int (iL (S 2 k)), .int (iL (S 3 k)), .int (iL (T 2 k)), .ref (ad 4 k)])) ∧ Cn 4 k = some (.inr (1, [.long (zL (T 0 k)), .long (zL (T 1 k))]))
def repG (S : Sg) (ad : Nat → Nat → Nat) (Cn : Nat → Nat → Option va_E) : Prop := ∀ k : Nat, (k : Int) < S 0 1 → Cn 5 k = some (.inr (2, [.ref (ad 3 (S 4 k).toNat), .int (iL (S 5 k)), .int (iL (S 6 k)), .int (iL (S 7 k)), .int (iL (S 8 k))]))
def repM (G : g_C) (S T : Sg) (ad : Nat → Nat → Nat) (Cn : Nat → Nat → Option va_E) : Prop := ∀ k : Nat, (k : Int) < S 0 2 → Cn 6 k = some (.inr (3, [.ref (ad 5 (S 9 k).toNat), .ref (ad 5 (S 10 k).toNat), .ref (ad 7 k)])) ∧ tieR G ad Cn 7 k 2 (saM S k) (wtM S k) (T 3 k)
def repP (G : g_C) (S T : Sg) (ad : Nat → Nat → Nat) (Cn : Nat → Nat → Option va_E) : Prop := ∀ k : Nat, (k : Int) < S 0 3 → Cn 11 k = some (.inr (4, [.int (iL (S 14 k + S 15 k)), .ref (ad 12 k)])) ∧ tieR G ad Cn 12 k 3 (saP S k) (wtP S k) (T 4 k)
def rep (G : g_C) (S T : Sg) (ad : Nat → Nat → Nat) (Cn : Nat → Nat → Option va_E) : Prop := rep0 S ad Cn ∧ repL G S ad Cn ∧ repS S T ad Cn ∧ repG S ad Cn ∧ repM G S T ad Cn ∧ repP G S T ad Cn
/-- what is always so of the numbers -/
def invS (S : Sg) : Prop :=
  (0 ≤ S 0 0 ∧ S 0 0 ≤ 10 ∧ 0 ≤ S 0 1 ∧ S 0 1 ≤ 16 ∧ 0 ≤ S 0 2 ∧ S 0 2 ≤ 16 ∧ 0 ≤ S 0 3 ∧ S 0 3 ≤ 4 ∧ -1 ≤ S 0 4 ∧ S 0 4 < S 0 0 ∧ -1000 ≤ S 0 5 ∧ S 0 5 ≤ 1000) ∧
  (∀ k : Nat, (k : Int) < S 0 0 → -1000 ≤ S 1 k ∧ S 1 k ≤ 1000 ∧ -1000 ≤ S 2 k ∧ S 2 k ≤ 1000 ∧ (S 3 k = 0 ∨ S 3 k = 1)) ∧
  (∀ k : Nat, (k : Int) < S 0 1 → 0 ≤ S 4 k ∧ S 4 k < S 0 0 ∧ 8 ≤ S 5 k ∧ S 5 k ≤ 200 ∧ 1 ≤ S 6 k ∧ S 6 k ≤ 10 ∧ 0 ≤ S 7 k ∧ S 7 k ≤ 5 ∧ (S 8 k = 0 ∨ S 8 k = 1)) ∧
  (∀ k : Nat, (k : Int) < S 0 2 → 0 ≤ S 9 k ∧ S 9 k < S 0 1 ∧ 0 ≤ S 10 k ∧ S 10 k < S 0 1 ∧ S 4 (S 9 k).toNat ≠ S 4 (S 10 k).toNat) ∧
  (∀ k : Nat, (k : Int) < S 0 3 → 0 ≤ S 11 k ∧ S 11 k < S 0 0 ∧ 0 ≤ S 12 k ∧ S 12 k < S 0 0 ∧ 0 ≤ S 13 k ∧ S 13 k < S 0 0 ∧ S 11 k ≠ S 12 k ∧ S 11 k ≠ S 13 k ∧ S 12 k ≠ S 13 k ∧ 8 ≤ S 14 k ∧ S 14 k ≤ 100 ∧ 24 ≤ S 15 k ∧ S 15 k ≤ 300)
/-- .. and of what is told -/
def invT (S T : Sg) : Prop :=
  (∀ k : Nat, (k : Int) < S 0 0 → (T 0 k).natAbs ≤ 1000000 ∧ 0 < T 1 k ∧ T 1 k ≤ 1000000 ∧ Int.gcd (T 0 k) (T 1 k) = 1 ∧ -1 ≤ T 2 k ∧ T 2 k ≤ 1000 ∧ (T 2 k = -1 → T 0 k = 0 ∧ T 1 k = 1)) ∧
  (∀ k : Nat, (k : Int) < S 0 2 → T 3 k = 0 ∨ T 3 k = 1) ∧ (∀ k : Nat, (k : Int) < S 0 3 → T 4 k = 0 ∨ T 4 k = 1)
theorem iL_t {z : Int} (h1 : -2147483648 ≤ z) (h2 : z < 2147483648) : (iL z).toInt = z := Int32.toInt_ofInt_of_le h1 h2
theorem iL_n (n : Nat) : iL (n : Int) = nI n := Int32.ofInt_eq_ofNat
theorem iL_nn {z : Int} (h : 0 ≤ z) : iL z = nI z.toNat := by rw [← iL_n, Int.toNat_of_nonneg h]
theorem iL_x (x : Int32) : iL x.toInt = x := Int32.ofInt_toInt x
theorem iL_le {a b : Int} (h1 : -2147483648 ≤ a) (h2 : a < 2147483648) (h3 : -2147483648 ≤ b) (h4 : b < 2147483648) : iL a ≤ iL b ↔ a ≤ b := by rw [Int32.le_iff_toInt_le, iL_t h1 h2, iL_t h3 h4]
theorem iL_lt {a b : Int} (h1 : -2147483648 ≤ a) (h2 : a < 2147483648) (h3 : -2147483648 ≤ b) (h4 : b < 2147483648) : iL a < iL b ↔ a < b := by rw [Int32.lt_iff_toInt_lt, iL_t h1 h2, iL_t h3 h4]
theorem iL_eq {a b : Int} (h1 : -2147483648 ≤ a) (h2 : a < 2147483648) (h3 : -2147483648 ≤ b) (h4 : b < 2147483648) : iL a = iL b ↔ a = b := by rw [← Int32.toInt_inj, iL_t h1 h2, iL_t h3 h4]
theorem iL_b {z : Int} (h : z = 0 ∨ z = 1) : iL z = g_b (decide (z = 1)) := by rcases h with rfl | rfl <;> decide
theorem iL_add (a b : Int) : iL a + iL b = iL (a + b) := (Int32.ofInt_add a b).symm
theorem iL_sub (a b : Int) : iL a - iL b = iL (a - b) := (Int32.ofInt_sub a b).symm
theorem iL_mul (a b : Int) : iL a * iL b = iL (a * b) := (Int32.ofInt_mul a b).symm
theorem iL_neg (a : Int) : -iL a = iL (-a) := (Int32.ofInt_neg a).symm
