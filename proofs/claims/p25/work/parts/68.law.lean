/-! the bench with its told table, beside the law's rows -/
noncomputable def tT (S T : Sg) : Sg := fun f => if f < 3 then told S f else T f
theorem tT_lo {S T : Sg} {f : Nat} (h : f < 3) : tT S T f = told S f := if_pos h
section LC
variable {G : g_C} {S S' T : Sg} {w w1 : g_W} {ad : Nat → Nat → Nat} {Cn : Nat → Nat → Option va_E} {x : Nat} {L : List Nat}
theorem bench_T (h : bench G w S T ad Cn) : bench G w S (tT S T) ad Cn := by
  obtain ⟨h1, h2, h3, h4, h5⟩ := h
  have t := told_inv h3
  refine ⟨h1, rep_Tc h2 (fun f k hf hk => ?_) (fun k hk => rfl) (fun k hk => rfl), h3, ⟨fun k hk => ?_, h4.2.1, h4.2.2⟩, fun f k hf hk => ?_⟩
  · rw [tT_lo hf, h5 f k hf hk]
  · rw [tT_lo (by decide), tT_lo (by decide), tT_lo (by decide)]
    exact t.1 k hk
  · rw [tT_lo hf]
def lwC (G : g_C) (w : g_W) (x : Nat) (S : Sg) (L : List Nat) : Prop := ∃ (ad : Nat → Nat → Nat) (Cn : Nat → Nat → Option va_E) (T : Sg), ad 0 0 = x ∧ bench G w S T ad Cn ∧ (∀ f, f < 3 → T f = told S f) ∧ ∀ a ∈ L, w a ≠ none ∧ ∀ k i, Cn k i ≠ none → ad k i ≠ a
theorem lwC_of (h : lwB G w x S L) : lwC G w x S L := by
  obtain ⟨ad, Cn, T, h0, hB, hL⟩ := h
  exact ⟨ad, Cn, tT S T, h0, bench_T hB, fun f hf => tT_lo hf, hL⟩
theorem lwC_set (h : lwC G w x S L) {a : Nat} (ha : a ∈ L) {e : va_E} (hw : w1 = g_up w a e) : lwC G w1 x S L := by
  obtain ⟨ad, Cn, T, h0, hB, h3, hL⟩ := h
  refine ⟨ad, Cn, T, h0, bench_c hB (fun k i hk => by rw [hw]; exact g_up_n _ ((hL a ha).2 k i hk)), h3, fun b hb => ⟨?_, (hL b hb).2⟩⟩
  by_cases z : b = a
  · rw [hw, z, g_up_s]; exact fun y => (nomatch y)
  · rw [hw, g_up_n _ z]; exact (hL b hb).1
theorem lwC_new (h : lwC G w x S L) {q : Nat} (hq : w q = none) {e : va_E} (hw : w1 = g_up w q e) : lwC G w1 x S (q :: L) := by
  obtain ⟨ad, Cn, T, h0, hB, h3, hL⟩ := h
  have nq : ∀ k i, Cn k i ≠ none → ad k i ≠ q := fun k i hk z => bench_live hB hk (by rw [z]; exact hq)
  refine ⟨ad, Cn, T, h0, bench_c hB (fun k i hk => by rw [hw]; exact g_up_n _ (nq k i hk)), h3, fun b hb => ?_⟩
  rcases List.mem_cons.mp hb with z | z
  · rw [z]
    exact ⟨by rw [hw, g_up_s]; exact fun y => (nomatch y), nq⟩
  · have hne : b ≠ q := fun y => (hL b z).1 (by rw [y]; exact hq)
    exact ⟨by rw [hw, g_up_n _ hne]; exact (hL b z).1, (hL b z).2⟩
theorem lwC_sub {L' : List Nat} (h : lwC G w x S L) (hs : ∀ a ∈ L', a ∈ L) : lwC G w x S L' := by
  obtain ⟨ad, Cn, T, h0, hB, h3, hL⟩ := h
  exact ⟨ad, Cn, T, h0, hB, h3, fun a ha => hL a (hs a ha)⟩
theorem lwC_up {Cn' : Nat → Nat → Option va_E} (h0 : ad 0 0 = x) (hB : bench G w S T ad Cn) (h3 : ∀ f, f < 3 → T f = told S f) (hL : ∀ a ∈ L, w a ≠ none ∧ ∀ k i, Cn k i ≠ none → ad k i ≠ a) (hu : upto ad Cn w w1 Cn') (hr : rep G S T ad Cn') : lwC G w1 x S L ∧ ∀ a ∈ L, w1 a = w a := by
  have kp : ∀ a ∈ L, w1 a = w a := fun a ha => hu.2.2 a (hL a ha).2
  exact ⟨⟨ad, Cn', T, h0, ⟨hu.1, hr, hB.2.2⟩, h3, fun a ha => ⟨by rw [kp a ha]; exact (hL a ha).1, fun k i hk => (hL a ha).2 k i (fun q => hk ((hu.2.1 k i).mpr q))⟩⟩, kp⟩
theorem t3_brk (h : ∀ f, f < 3 → T f = told S f) (b m : Nat) : brkB S T b m = brkB S (told S) b m := by
  have e1 : tNu S T b m = tNu S (told S) b m := by funext k; unfold tNu; rw [h 0 (by decide)]
  have e2 : tDe S T b m = tDe S (told S) b m := by funext k; unfold tDe; rw [h 1 (by decide)]
  unfold brkB tX tY
  rw [e1, e2, h 2 (by decide)]
theorem t3_broken (h : ∀ f, f < 3 → T f = told S f) (b : Bool) : vlBroken S T b = vlBroken S (told S) b := by
  unfold vlBroken
  rw [show brkB S T 1 = brkB S (told S) 1 from funext (t3_brk h 1), show brkB S T 0 = brkB S (told S) 0 from funext (t3_brk h 0)]
end LC
/-! which shafts the law has found a reason for -/
def byB (S T : Sg) (M P : Nat) (Fb : Nat → Int32) (B : Nat → Bool) : Prop :=
  (∀ k : Nat, (k : Int) < S 0 0 → Fb k = g_b (B k)) ∧ (∀ k : Nat, (k : Int) < S 0 0 → B k = true → T 2 k ≠ -1) ∧ (∀ k : Nat, (k : Int) < S 0 0 → bas S k → B k = true) ∧
  (∀ m k : Nat, m < M → (k : Int) < S 0 0 → byM S T m k → B k = true) ∧ ∀ m k : Nat, m < P → (k : Int) < S 0 0 → byP S T m k → B k = true
def setB (B : Nat → Bool) (j : Nat) : Nat → Bool := fun k => if k = j then true else B k
section BB
variable {S T : Sg} {M P : Nat} {Fb : Nat → Int32} {B : Nat → Bool}
theorem byB_set (h : byB S T M P Fb B) {j : Nat} (ht : T 2 j ≠ -1) : byB S T M P (upd Fb j 1) (setB B j) ∧ setB B j j = true ∧ ∀ k, B k = true → setB B j k = true := by
  obtain ⟨h1, h2, h3, h4, h5⟩ := h
  have up : ∀ k, B k = true → setB B j k = true := fun k hk => by
    unfold setB
    split
    · rfl
    · exact hk
  refine ⟨⟨fun k hk => ?_, fun k hk hb => ?_, fun k hk hb => up k (h3 k hk hb), fun m k hm hk hb => up k (h4 m k hm hk hb), fun m k hm hk hb => up k (h5 m k hm hk hb)⟩, if_pos rfl, up⟩
  · by_cases z : k = j
    · rw [z, pk_us]; unfold setB; rw [if_pos rfl]; rfl
    · rw [pk_un z, h1 k hk]; unfold setB; rw [if_neg z]
  · by_cases z : k = j
    · rw [z]; exact ht
    · unfold setB at hb; rw [if_neg z] at hb; exact h2 k hk hb
theorem byB_m (h : byB S T M P Fb B) (hn : ∀ k : Nat, (k : Int) < S 0 0 → byM S T M k → B k = true) : byB S T (M + 1) P Fb B := by
  obtain ⟨h1, h2, h3, h4, h5⟩ := h
  refine ⟨h1, h2, h3, fun m k hm hk hb => ?_, h5⟩
  rcases Nat.lt_succ_iff_lt_or_eq.mp hm with q | q
  · exact h4 m k q hk hb
  · rw [q] at hb; exact hn k hk hb
theorem byB_p (h : byB S T M P Fb B) (hn : ∀ k : Nat, (k : Int) < S 0 0 → byP S T P k → B k = true) : byB S T M (P + 1) Fb B := by
  obtain ⟨h1, h2, h3, h4, h5⟩ := h
  refine ⟨h1, h2, h3, h4, fun m k hm hk hb => ?_⟩
  rcases Nat.lt_succ_iff_lt_or_eq.mp hm with q | q
  · exact h5 m k q hk hb
  · rw [q] at hb; exact hn k hk hb
theorem byB_end (Hi : invS S) (Ht : invT S T) (W : witI S T) (h : byB S T (S 0 2).toNat (S 0 3).toNat Fb B) {k : Nat} (hk : (k : Int) < S 0 0) : Fb k = g_b (decide (T 2 k ≠ -1)) := by
  obtain ⟨h1, h2, h3, h4, h5⟩ := h
  rw [h1 k hk]
  by_cases z : T 2 k = -1
  · rw [decide_eq_false (fun q => q z)]
    cases hb : B k
    · rfl
    · exact absurd z (h2 k hk hb)
  · rw [decide_eq_true z]
    have : B k = true := by
      rcases told_by Hi Ht W hk z with q | ⟨m, q1, q2⟩ | ⟨m, q1, q2⟩
      · exact h3 k hk q
      · exact h4 m k (by omega) hk q2
      · exact h5 m k (by omega) hk q2
    rw [this]
end BB
/-- how many of the first i shafts of a set are told -/
def tcP (S T : Sg) (m : Nat) : Nat → Nat
  | 0 => 0
  | i + 1 => tcP S T m i + (if T 2 (saP S m i) ≠ -1 then 1 else 0)
theorem tcP_le (S T : Sg) (m i : Nat) : tcP S T m i ≤ i := by
  induction i with
  | zero => exact Nat.le_refl 0
  | succ i ih =>
    show tcP S T m i + (if T 2 (saP S m i) ≠ -1 then 1 else 0) ≤ i + 1
    split <;> omega
theorem tcP_all {S T : Sg} {m : Nat} : ∀ i, tcP S T m i = i ↔ ∀ j, j < i → T 2 (saP S m j) ≠ -1 := by
  intro i
  induction i with
  | zero => exact ⟨fun _ j h => absurd h (Nat.not_lt_zero j), fun _ => rfl⟩
  | succ i ih =>
    have e : tcP S T m (i + 1) = tcP S T m i + (if T 2 (saP S m i) ≠ -1 then 1 else 0) := rfl
    have l := tcP_le S T m i
    rw [e]
    by_cases z : T 2 (saP S m i) = -1
    · rw [if_neg (fun q => q z)]
      exact ⟨fun q => by omega, fun q => absurd z (q i (by omega))⟩
    · rw [if_pos z]
      constructor
      · intro q j hj
        rcases Nat.lt_succ_iff_lt_or_eq.mp hj with y | y
        · exact (ih.mp (by omega)) j y
        · rw [y]; exact z
      · intro q
        have := ih.mpr (fun j hj => q j (by omega))
        omega
theorem bas_d (S : Sg) (k : Nat) (b : Bool) (h : b = true ↔ bas S k) : (b = false ↔ ¬ bas S k) := by
  cases b
  · exact ⟨fun _ q => (nomatch (h.mpr q)), fun _ => rfl⟩
  · exact ⟨fun q => (nomatch q), fun q => absurd (h.mp rfl) q⟩
theorem tI_ne {z : Int} (h : -1 ≤ z ∧ z ≤ 1000) : (iL z ≠ -1) ↔ z ≠ -1 := by
  rw [show (-1 : Int32) = iL (-1) from rfl, ne_eq, iL_eq (by omega) (by omega) (by omega) (by omega)]
