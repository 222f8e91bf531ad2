/-! ties of the bench, and what a step does to it -/
section TI
variable {G : g_C} {S T T' : Sg} {w w' w1 w2 : g_W} {ad : Nat → Nat → Nat} {Cn Cn' C1 C2 : Nat → Nat → Option va_E}
def upto (ad : Nat → Nat → Nat) (Cn : Nat → Nat → Option va_E) (w w' : g_W) (Cn' : Nat → Nat → Option va_E) : Prop :=
  holds w' ad Cn' ∧ (∀ k i, Cn' k i = none ↔ Cn k i = none) ∧ ∀ a, (∀ k i, Cn k i ≠ none → ad k i ≠ a) → w' a = w a
theorem upto_rf (h : holds w ad Cn) : upto ad Cn w w Cn := ⟨h, fun _ _ => Iff.rfl, fun _ _ => rfl⟩
theorem upto_tr (h1 : upto ad Cn w w1 C1) (h2 : upto ad C1 w1 w2 C2) : upto ad Cn w w2 C2 :=
  ⟨h2.1, fun k i => (h2.2.1 k i).trans (h1.2.1 k i), fun a ha => (h2.2.2 a (fun k i hk => ha k i (fun q => hk ((h1.2.1 k i).mpr q)))).trans (h1.2.2 a ha)⟩
theorem upto_set (h : holds w ad Cn) (k i : Nat) (e : va_E) (hl : Cn k i ≠ none) : upto ad Cn w (g_up w (ad k i) e) (up2 Cn k i (some e)) := by
  refine ⟨holds_set h k i e hl, fun a b => ?_, fun a ha => g_up_n _ (fun q => ha k i hl q.symm)⟩
  by_cases z : a = k ∧ b = i
  · obtain ⟨rfl, rfl⟩ := z
    rw [up2_s]
    exact ⟨fun q => (nomatch q), fun q => absurd q hl⟩
  · simp [up2, z]
theorem listR_congr {n : Int} {el : Nat → Nat} {j : Nat} (h : listR G n el ad Cn j) (h1 : Cn' 1 j = Cn 1 j) (h2 : Cn' 2 j = Cn 2 j) : listR G n el ad Cn' j := by
  unfold listR at h ⊢
  rw [h1, h2]
  exact h
theorem tieR_congr {b m N : Nat} {sa : Nat → Nat} {wt : Nat → Int} {z : Int} (h : tieR G ad Cn b m N sa wt z) (h0 : Cn' b m = Cn b m) (h1 : Cn' (b + 1) m = Cn (b + 1) m) (h2 : ∀ k, k < N → Cn' (b + 9 + k) m = Cn (b + 9 + k) m) (h3 : Cn' (b + 3) m = Cn (b + 3) m ∨ ∃ x y : Int64, Cn' (b + 3) m = some (.inr (1, [.long x, .long y]))) : tieR G ad Cn' b m N sa wt z := by
  refine ⟨by rw [h0]; exact h.1, by rw [h1]; exact h.2.1, fun k hk => by rw [h2 k hk]; exact h.2.2.1 k hk, ?_⟩
  rcases h3 with q | q
  · rw [q]; exact h.2.2.2
  · exact q
theorem rep_frs (hr : rep G S T ad Cn) (h : ∀ k i, k ≠ 10 → k ≠ 15 → Cn' k i = Cn k i) (h10 : ∀ i, Cn' 10 i = Cn 10 i ∨ ∃ x y : Int64, Cn' 10 i = some (.inr (1, [.long x, .long y]))) (h15 : ∀ i, Cn' 15 i = Cn 15 i ∨ ∃ x y : Int64, Cn' 15 i = some (.inr (1, [.long x, .long y]))) : rep G S T ad Cn' := by
  obtain ⟨r0, r1, r2, r3, r4, r5⟩ := hr
  refine ⟨by unfold rep0; rw [h 0 0 (by decide) (by decide)]; exact r0, fun j hj => listR_congr (r1 j hj) (h _ _ (by decide) (by decide)) (h _ _ (by decide) (by decide)), fun k hk => ?_, fun k hk => ?_, fun k hk => ⟨?_, ?_⟩, fun k hk => ⟨?_, ?_⟩⟩
  · rw [h 3 k (by decide) (by decide), h 4 k (by decide) (by decide)]; exact r2 k hk
  · rw [h 5 k (by decide) (by decide)]; exact r3 k hk
  · rw [h 6 k (by decide) (by decide)]; exact (r4 k hk).1
  · exact tieR_congr (r4 k hk).2 (h _ _ (by decide) (by decide)) (h _ _ (by decide) (by decide)) (fun i hi => h _ _ (by omega) (by omega)) (h10 k)
  · rw [h 11 k (by decide) (by decide)]; exact (r5 k hk).1
  · exact tieR_congr (r5 k hk).2 (h _ _ (by decide) (by decide)) (h _ _ (by decide) (by decide)) (fun i hi => h _ _ (by omega) (by omega)) (h15 k)
theorem rep_told (hr : rep G S T ad Cn) (h : ∀ k i, k ≠ 3 → k ≠ 4 → Cn' k i = Cn k i) (hs : repS S T' ad Cn') (hT : ∀ m, T' 3 m = T 3 m ∧ T' 4 m = T 4 m) : rep G S T' ad Cn' := by
  obtain ⟨r0, r1, r2, r3, r4, r5⟩ := hr
  refine ⟨by unfold rep0; rw [h 0 0 (by decide) (by decide)]; exact r0, fun j hj => listR_congr (r1 j hj) (h _ _ (by decide) (by decide)) (h _ _ (by decide) (by decide)), hs, fun k hk => ?_, fun k hk => ⟨?_, ?_⟩, fun k hk => ⟨?_, ?_⟩⟩
  · rw [h 5 k (by decide) (by decide)]; exact r3 k hk
  · rw [h 6 k (by decide) (by decide)]; exact (r4 k hk).1
  · rw [(hT k).1]; exact tieR_congr (r4 k hk).2 (h _ _ (by decide) (by decide)) (h _ _ (by decide) (by decide)) (fun i hi => h _ _ (by omega) (by omega)) (Or.inl (h _ _ (by decide) (by decide)))
  · rw [h 11 k (by decide) (by decide)]; exact (r5 k hk).1
  · rw [(hT k).2]; exact tieR_congr (r5 k hk).2 (h _ _ (by decide) (by decide)) (h _ _ (by decide) (by decide)) (fun i hi => h _ _ (by omega) (by omega)) (Or.inl (h _ _ (by decide) (by decide)))
theorem rep_aside (hr : rep G S T ad Cn) (h : ∀ k i, k ≠ 7 → k ≠ 12 → Cn' k i = Cn k i) (hT : ∀ f k, f < 3 → T' f k = T f k)
    (h7 : ∀ m : Nat, (m : Int) < S 0 2 → Cn' 7 m = some (.inr (6, [.ref (ad 8 m), .ref (ad 10 m), .int (iL (T' 3 m))])))
    (h12 : ∀ m : Nat, (m : Int) < S 0 3 → Cn' 12 m = some (.inr (6, [.ref (ad 13 m), .ref (ad 15 m), .int (iL (T' 4 m))]))) : rep G S T' ad Cn' := by
  obtain ⟨r0, r1, r2, r3, r4, r5⟩ := hr
  refine ⟨by unfold rep0; rw [h 0 0 (by decide) (by decide)]; exact r0, fun j hj => listR_congr (r1 j hj) (h _ _ (by decide) (by decide)) (h _ _ (by decide) (by decide)), fun k hk => ?_, fun k hk => ?_, fun k hk => ⟨?_, ?_⟩, fun k hk => ⟨?_, ?_⟩⟩
  · rw [h 3 k (by decide) (by decide), h 4 k (by decide) (by decide), hT 0 k (by decide), hT 1 k (by decide), hT 2 k (by decide)]; exact r2 k hk
  · rw [h 5 k (by decide) (by decide)]; exact r3 k hk
  · rw [h 6 k (by decide) (by decide)]; exact (r4 k hk).1
  · exact ⟨h7 k hk, by rw [h 8 k (by decide) (by decide)]; exact (r4 k hk).2.2.1, fun i hi => by rw [h _ k (by omega) (by omega)]; exact (r4 k hk).2.2.2.1 i hi, by rw [h 10 k (by decide) (by decide)]; exact (r4 k hk).2.2.2.2⟩
  · rw [h 11 k (by decide) (by decide)]; exact (r5 k hk).1
  · exact ⟨h12 k hk, by rw [h 13 k (by decide) (by decide)]; exact (r5 k hk).2.2.1, fun i hi => by rw [h _ k (by omega) (by omega)]; exact (r5 k hk).2.2.2.1 i hi, by rw [h 15 k (by decide) (by decide)]; exact (r5 k hk).2.2.2.2⟩
/-- .. its shafts are shafts, no two the same; its weights are small and not 0 -/
theorem saM_lt (Hi : invS S) {m : Nat} (hm : (m : Int) < S 0 2) (k : Nat) : (saM S m k : Int) < S 0 0 := by
  obtain ⟨a1, a2, a3, a4, -⟩ := Hi.2.2.2.1 m hm
  unfold saM
  split
  · have := Hi.2.2.1 (S 9 m).toNat (by omega); omega
  · have := Hi.2.2.1 (S 10 m).toNat (by omega); omega
theorem saP_lt (Hi : invS S) {m : Nat} (hm : (m : Int) < S 0 3) (k : Nat) : (saP S m k : Int) < S 0 0 := by
  have := Hi.2.2.2.2 m hm
  unfold saP
  split
  · omega
  · split <;> omega
theorem tSa_lt (Hi : invS S) {b m : Nat} (hb : b < 2) (hm : (m : Int) < S 0 (2 + b)) (k : Nat) : (tSa S b m k : Int) < S 0 0 := by
  unfold tSa
  split
  · rename_i h; rw [h] at hm; exact saM_lt Hi hm k
  · have : b = 1 := by omega
    rw [this] at hm; exact saP_lt Hi hm k
theorem tSa_ne (Hi : invS S) {b m : Nat} (hb : b < 2) (hm : (m : Int) < S 0 (2 + b)) {k j : Nat} (hk : k < tN b) (hj : j < tN b) (hkj : k ≠ j) : tSa S b m k ≠ tSa S b m j := by
  unfold tSa
  unfold tN at hk hj
  split
  · rename_i h
    rw [if_pos h] at hk hj
    rw [h] at hm
    obtain ⟨a1, a2, a3, a4, a5⟩ := Hi.2.2.2.1 m hm
    have b1 := (Hi.2.2.1 (S 9 m).toNat (by omega)).1
    have b2 := (Hi.2.2.1 (S 10 m).toNat (by omega)).1
    unfold saM
    split <;> split <;> omega
  · rename_i h
    rw [if_neg h] at hk hj
    have h1 : b = 1 := by omega
    rw [h1] at hm
    have := Hi.2.2.2.2 m hm
    unfold saP
    split <;> split <;> (try split) <;> (try split) <;> omega
theorem tWt_le (Hi : invS S) {b m : Nat} (hb : b < 2) (hm : (m : Int) < S 0 (2 + b)) (k : Nat) : (tWt S b m k).natAbs ≤ 400 ∧ tWt S b m k ≠ 0 := by
  unfold tWt
  split
  · rename_i h
    rw [h] at hm
    obtain ⟨a1, a2, a3, a4, a5⟩ := Hi.2.2.2.1 m hm
    have b1 := Hi.2.2.1 (S 9 m).toNat (by omega)
    have b2 := Hi.2.2.1 (S 10 m).toNat (by omega)
    unfold wtM
    split
    · omega
    · split <;> omega
  · have h1 : b = 1 := by omega
    rw [h1] at hm
    have := Hi.2.2.2.2 m hm
    unfold wtP
    split
    · omega
    · split <;> omega
theorem mul3_le {x y z : Int} {a b c : Nat} (h1 : x.natAbs ≤ a) (h2 : y.natAbs ≤ b) (h3 : z.natAbs ≤ c) : (x * y * z).natAbs ≤ a * b * c := by
  rw [Int.natAbs_mul, Int.natAbs_mul]
  exact Nat.mul_le_mul (Nat.mul_le_mul h1 h2) h3
theorem ask_bd {N : Nat} (hN : N ≤ 3) {pl : Nat} (hpl : pl < N) {nu de wt : Nat → Int} (h1 : ∀ k, k < N → (nu k).natAbs ≤ 1000000) (h2 : ∀ k, k < N → 0 < de k ∧ de k ≤ 1000000) (h3 : ∀ k, k < N → (wt k).natAbs ≤ 400 ∧ wt k ≠ 0) : askB pl nu de wt N := by
  -- after k shafts: at most min k 2 of them counted
  have key : ∀ k, k ≤ N → 0 < (askS pl nu de wt k).2 ∧ (((k ≤ pl ∧ k = 0 ∨ k ≤ pl + 1 ∧ k = 1 ∧ pl = 0) → askS pl nu de wt k = (0, 1)) ∧
      ((k ≤ pl ∧ k = 1 ∨ pl < k ∧ k = 2) → (askS pl nu de wt k).2 ≤ 1000000 ∧ (askS pl nu de wt k).1.natAbs ≤ 400000000) ∧
      ((askS pl nu de wt k).2 ≤ 1000000000000 ∧ (askS pl nu de wt k).1.natAbs ≤ 800000000000000)) := by
    intro k
    induction k with
    | zero => intro _; exact ⟨Int.one_pos, fun _ => rfl, fun q => by omega, show (1 : Int) ≤ 1000000000000 by decide, show (0 : Int).natAbs ≤ 800000000000000 by decide⟩
    | succ k ih =>
      intro hk
      obtain ⟨i0, i1, i2, i3, i4⟩ := ih (by omega)
      by_cases hkp : k = pl
      · rw [askS_eq hkp]
        exact ⟨i0, fun q => i1 (by omega), fun q => i2 (by omega), i3, i4⟩
      · rw [askS_ne hkp]
        have n1 := h1 k (by omega); have d1 := h2 k (by omega); have w1 := (h3 k (by omega)).1
        refine ⟨Int.mul_pos i0 d1.1, fun q => by omega, fun q => ?_, ?_⟩
        · have e0 := i1 (by omega)
          rw [e0]
          dsimp only
          have := mul3_le w1 n1 (show ((1 : Int)).natAbs ≤ 1 by decide)
          omega
        · by_cases hz : k ≤ pl ∧ k = 0 ∨ k ≤ pl + 1 ∧ k = 1 ∧ pl = 0
          · rw [i1 hz]
            dsimp only
            have := mul3_le w1 n1 (show ((1 : Int)).natAbs ≤ 1 by decide)
            omega
          · obtain ⟨j1, j2⟩ := i2 (by omega)
            have m1 := mul3_le w1 n1 (show ((askS pl nu de wt k).2).natAbs ≤ 1000000 by omega)
            have m2 : ((askS pl nu de wt k).1 * de k).natAbs ≤ 400000000 * 1000000 := by rw [Int.natAbs_mul]; exact Nat.mul_le_mul j2 (by omega)
            have m3 : ((askS pl nu de wt k).2 * de k).natAbs ≤ 1000000 * 1000000 := by rw [Int.natAbs_mul]; exact Nat.mul_le_mul (by omega) (by omega)
            dsimp only
            omega
  obtain ⟨k0, -, -, k1, k2⟩ := key N (Nat.le_refl N)
  have wp := h3 pl hpl
  refine ⟨Int.mul_ne_zero wp.2 (by omega), by show (-(askS pl nu de wt N).1).natAbs < _; omega, ?_⟩
  show (wt pl * (askS pl nu de wt N).2).natAbs < _
  have : (wt pl * (askS pl nu de wt N).2).natAbs ≤ 400 * 1000000000000 := by rw [Int.natAbs_mul]; exact Nat.mul_le_mul wp.1 (by omega)
  omega
theorem tN_le (b : Nat) : tN b ≤ 3 := by unfold tN; split <;> decide
theorem tN_pos (b : Nat) : 0 < tN b := by unfold tN; split <;> decide
theorem tie_bd (Hi : invS S) (Ht : invT S T) {b m : Nat} (hb : b < 2) (hm : (m : Int) < S 0 (2 + b)) {pl : Nat} (hpl : pl < tN b) : askB pl (tNu S T b m) (tDe S T b m) (tWt S b m) (tN b) :=
  ask_bd (tN_le b) hpl (fun k _ => (Ht.1 _ (tSa_lt Hi hb hm k)).1) (fun k _ => ⟨(Ht.1 _ (tSa_lt Hi hb hm k)).2.1, (Ht.1 _ (tSa_lt Hi hb hm k)).2.2.1⟩) (fun k _ => tWt_le Hi hb hm k)
theorem tieR_of (Hr : rep G S T ad Cn) {b m : Nat} (hb : b < 2) (hm : (m : Int) < S 0 (2 + b)) : tieR G ad Cn (7 + 5 * b) m (tN b) (tSa S b m) (tWt S b m) (T (3 + b) m) := by
  match b, hb with
  | 0, _ => exact (Hr.2.2.2.2.1 m hm).2
  | 1, _ => exact (Hr.2.2.2.2.2 m hm).2
theorem tieW_of (Hh : holds w ad Cn) (Hr : rep G S T ad Cn) (Hi : invS S) {b m : Nat} (hb : b < 2) (hm : (m : Int) < S 0 (2 + b)) : tieW G w (ad (7 + 5 * b) m) (ad (7 + 5 * b + 1) m) (fun k => ad (7 + 5 * b + 9 + k) m) (ad (7 + 5 * b + 3) m) (tN b) (fun k => ad 3 (tSa S b m k)) (fun k => ad 4 (tSa S b m k)) (tWt S b m) (fun k => iL (S 1 (tSa S b m k))) (fun k => iL (S 2 (tSa S b m k))) (fun k => iL (S 3 (tSa S b m k))) (fun k => iL (T 2 (tSa S b m k))) (tNu S T b m) (tDe S T b m) (iL (T (3 + b) m)) := by
  obtain ⟨h1, ⟨f, h2, h3⟩, h4, ⟨x, y, h6⟩⟩ := tieR_of Hr hb hm
  exact ⟨Hh.1 _ _ _ h1, ⟨f, Hh.1 _ _ _ h2, h3⟩, ⟨fun k hk => Hh.1 _ _ _ (h4 k hk), fun k j hk hj q => by have := (Hh.2 _ m _ m (by rw [h4 k hk]; exact fun z => (nomatch z)) (by rw [h4 j hj]; exact fun z => (nomatch z)) q).1; omega⟩, ⟨x, y, Hh.1 _ _ _ h6⟩, fun k hk => rep_sh Hh Hr (tSa_lt Hi hb hm k), fun k hk => rep_fr Hh Hr (tSa_lt Hi hb hm k)⟩
theorem tie_sf (Hh : holds w ad Cn) (Hr : rep G S T ad Cn) (Hi : invS S) {b m : Nat} (hb : b < 2) (hm : (m : Int) < S 0 (2 + b)) (k : Nat) : ad 4 (tSa S b m k) ≠ ad (7 + 5 * b + 3) m := by
  obtain ⟨-, -, -, ⟨x, y, h6⟩⟩ := tieR_of Hr hb hm
  exact holds_ne Hh (Hr.2.2.1 _ (tSa_lt Hi hb hm k)).2 h6 (by omega)
theorem onlyU_t (Hi : invS S) (Ht : invT S T) {b m : Nat} (hb : b < 2) (hm : (m : Int) < S 0 (2 + b)) (pl : Nat) : onlyU (fun k => iL (T 2 (tSa S b m k))) (tN b) pl ↔ tUnk S T b m pl := by
  have k1 : ∀ k, iL (T 2 (tSa S b m k)) = -1 ↔ T 2 (tSa S b m k) = -1 := by
    intro k
    have := (Ht.1 _ (tSa_lt Hi hb hm k)).2.2.2.2
    rw [show (-1 : Int32) = iL (-1) from rfl, iL_eq (by omega) (by omega) (by omega) (by omega)]
  unfold onlyU tUnk
  refine ⟨fun h => ⟨h.1, (k1 pl).mp h.2.1, fun j hj hn q => h.2.2 j hj hn ((k1 j).mpr q)⟩, fun h => ⟨h.1, (k1 pl).mpr h.2.1, fun j hj hn q => h.2.2 j hj hn ((k1 j).mp q)⟩⟩
theorem gS_t {f : Nat → Int} {N : Nat} (h : ∀ k, k < N → -1 ≤ f k ∧ f k ≤ 1000) : gS (fun k => iL (f k)) N = iL (gSI f N) ∧ -1 ≤ gSI f N ∧ gSI f N ≤ 1000 := by
  induction N with
  | zero => exact ⟨rfl, show (-1 : Int) ≤ -1 by decide, show (-1 : Int) ≤ 1000 by decide⟩
  | succ k ih =>
    obtain ⟨i1, i2, i3⟩ := ih (fun j hj => h j (by omega))
    have hk := h k (by omega)
    have e : iL (gSI f k) < iL (f k) ↔ gSI f k < f k := iL_lt (by omega) (by omega) (by omega) (by omega)
    show (if gS (fun k => iL (f k)) k < iL (f k) then iL (f k) else gS (fun k => iL (f k)) k) = iL (if gSI f k < f k then f k else gSI f k) ∧ -1 ≤ (if gSI f k < f k then f k else gSI f k) ∧ (if gSI f k < f k then f k else gSI f k) ≤ 1000
    rw [i1]
    by_cases z : gSI f k < f k
    · rw [if_pos z, if_pos (e.mpr z)]; exact ⟨rfl, hk⟩
    · rw [if_neg z, if_neg (fun q => z (e.mp q))]; exact ⟨rfl, i2, i3⟩
/-- a table of what is told that is bounded by c -/
def stB (S T : Sg) (c : Int) : Prop := ∀ k : Nat, (k : Int) < S 0 0 → T 2 k ≤ c
theorem tTell_inv (Hi : invS S) (Ht : invT S T) {c : Int} (hc : stB S T c) (hc1 : -1 ≤ c ∧ c < 1000) {b m : Nat} (hb : b < 2) (hm : (m : Int) < S 0 (2 + b)) {pl : Nat} (hU : tUnk S T b m pl) : invT S (tTell S T b m pl) ∧ stB S (tTell S T b m pl) (c + 1) := by
  have hpl := hU.1
  obtain ⟨B1, -, -⟩ := tie_bd Hi Ht hb hm hpl
  have gb : -1 ≤ gSI (fun k => T 2 (tSa S b m k)) (tN b) ∧ gSI (fun k => T 2 (tSa S b m k)) (tN b) ≤ c := by
    have : ∀ N, -1 ≤ gSI (fun k => T 2 (tSa S b m k)) N ∧ gSI (fun k => T 2 (tSa S b m k)) N ≤ c := by
      intro N
      induction N with
      | zero => exact ⟨show (-1 : Int) ≤ -1 by decide, hc1.1⟩
      | succ k ih =>
        have h1 := hc _ (tSa_lt Hi hb hm k)
        have h2 := (Ht.1 _ (tSa_lt Hi hb hm k)).2.2.2.2.1
        show -1 ≤ (if gSI (fun k => T 2 (tSa S b m k)) k < T 2 (tSa S b m k) then T 2 (tSa S b m k) else gSI (fun k => T 2 (tSa S b m k)) k) ∧ _
        have e : gSI (fun k => T 2 (tSa S b m k)) (k + 1) = (if gSI (fun k => T 2 (tSa S b m k)) k < T 2 (tSa S b m k) then T 2 (tSa S b m k) else gSI (fun k => T 2 (tSa S b m k)) k) := rfl
        rw [e]
        split <;> omega
    exact this _
  unfold tTell
  split
  · refine ⟨⟨fun k hk => ?_, fun k hk => ?_, fun k hk => ?_⟩, fun k hk => ?_⟩
    · rw [up2_k _ _ _ (by omega), up2_k _ _ _ (by omega), up2_k _ _ _ (by omega)]; exact Ht.1 k hk
    · by_cases z : 3 = 3 + b ∧ k = m
      · unfold up2; rw [if_pos z]; exact Or.inr rfl
      · unfold up2; rw [if_neg z]; exact Ht.2.1 k hk
    · by_cases z : 4 = 3 + b ∧ k = m
      · unfold up2; rw [if_pos z]; exact Or.inr rfl
      · unfold up2; rw [if_neg z]; exact Ht.2.2 k hk
    · rw [up2_k _ _ _ (by omega)]; have := hc k hk; omega
  · rename_i hg
    have hD := fD_pos (x := tX S T b m pl) B1
    have hC := fND_co (x := tX S T b m pl) B1
    refine ⟨⟨fun k hk => ?_, fun k hk => ?_, fun k hk => ?_⟩, fun k hk => ?_⟩
    · by_cases z : k = tSa S b m pl
      · rw [z]
        rw [up2_s, up2_k _ _ _ (by decide), up2_k _ _ _ (by decide), up2_s, up2_k _ _ _ (by decide), up2_s]
        exact ⟨by omega, hD, by omega, hC, by omega, by omega, fun q => by omega⟩
      · rw [up2_i _ _ _ z, up2_i _ _ _ z, up2_i _ _ _ z, up2_i _ _ _ z, up2_i _ _ _ z, up2_i _ _ _ z, up2_i _ _ _ z, up2_i _ _ _ z, up2_i _ _ _ z]; exact Ht.1 k hk
    · rw [up2_k _ _ _ (by decide), up2_k _ _ _ (by decide), up2_k _ _ _ (by decide)]; exact Ht.2.1 k hk
    · rw [up2_k _ _ _ (by decide), up2_k _ _ _ (by decide), up2_k _ _ _ (by decide)]; exact Ht.2.2 k hk
    · by_cases z : k = tSa S b m pl
      · rw [z, up2_s]; omega
      · rw [up2_i _ _ _ z, up2_i _ _ _ z, up2_i _ _ _ z]; have := hc k hk; omega
theorem rep_live {k i : Nat} {e : va_E} (h : Cn k i = some e) : Cn k i ≠ none := by rw [h]; exact fun q => (nomatch q)
/-- the answer of tellsOrStepsAside, by names -/
theorem tell_post (Hh : holds w ad Cn) (Hr : rep G S T ad Cn) (Hi : invS S) (Ht : invT S T) {b m : Nat} (hb : b < 2) (hm : (m : Int) < S 0 (2 + b)) {r : Int32} {ab : Bool} (hab : iL (T (3 + b) m) = g_b ab)
    (h : ((ab = true ∨ ∀ k, ¬ onlyU (fun k => iL (T 2 (tSa S b m k))) (tN b) k) ∧ r = 0 ∧ w' = w) ∨ (ab = false ∧ ∃ pl, onlyU (fun k => iL (T 2 (tSa S b m k))) (tN b) pl ∧ r = 1 ∧
      (((1000000 < (fN (tX S T b m pl) (tY S T b m pl)).natAbs ∨ 1000000 < fD (tX S T b m pl) (tY S T b m pl)) ∧ w' = g_up (g_up w (ad (7 + 5 * b + 3) m) (.inr (1, [.long (zL (fN (tX S T b m pl) (tY S T b m pl))), .long (zL (fD (tX S T b m pl) (tY S T b m pl)))]))) (ad (7 + 5 * b) m) (.inr (6, [.ref (ad (7 + 5 * b + 1) m), .ref (ad (7 + 5 * b + 3) m), .int 1]))) ∨
       (¬ (1000000 < (fN (tX S T b m pl) (tY S T b m pl)).natAbs ∨ 1000000 < fD (tX S T b m pl) (tY S T b m pl)) ∧ w' = g_up (g_up (g_up w (ad (7 + 5 * b + 3) m) (.inr (1, [.long (zL (fN (tX S T b m pl) (tY S T b m pl))), .long (zL (fD (tX S T b m pl) (tY S T b m pl)))]))) (ad 4 (tSa S b m pl)) (.inr (1, [.long (zL (fN (tX S T b m pl) (tY S T b m pl))), .long (zL (fD (tX S T b m pl) (tY S T b m pl)))]))) (ad 3 (tSa S b m pl)) (.inr (5, [.int (iL (S 1 (tSa S b m pl))), .int (iL (S 2 (tSa S b m pl))), .int (iL (S 3 (tSa S b m pl))), .int (1 + gS (fun k => iL (T 2 (tSa S b m k))) (tN b)), .ref (ad 4 (tSa S b m pl))])))))) :
    (tTry S T b m = none ∧ r = 0 ∧ w' = w) ∨ (r = 1 ∧ ∃ T' Cn', tTry S T b m = some T' ∧ upto ad Cn w w' Cn' ∧ rep G S T' ad Cn') := by
  have tr : T (3 + b) m = 0 ∨ T (3 + b) m = 1 := by
    match b, hb with
    | 0, _ => exact Ht.2.1 m hm
    | 1, _ => exact Ht.2.2 m hm
  obtain ⟨t1, t2, t3, ⟨xx, yy, t4⟩⟩ := tieR_of Hr hb hm
  rcases h with ⟨h1, h2, h3⟩ | ⟨h1, pl, h2, h3, h4⟩
  · refine Or.inl ⟨tTry_none ?_, h2, h3⟩
    rintro ⟨q1, pl, q2⟩
    rcases h1 with q | q
    · rw [q1, q] at hab
      exact absurd hab (by decide)
    · exact q pl ((onlyU_t Hi Ht hb hm pl).mpr q2)
  · have hz : T (3 + b) m = 0 := by
      rcases tr with q | q
      · exact q
      · rw [q, h1] at hab
        exact absurd hab (by decide)
    have hU := (onlyU_t Hi Ht hb hm pl).mp h2
    obtain ⟨g1, g2, g3⟩ := gS_t (f := fun k => T 2 (tSa S b m k)) (N := tN b) (fun k _ => ⟨(Ht.1 _ (tSa_lt Hi hb hm k)).2.2.2.2.1, (Ht.1 _ (tSa_lt Hi hb hm k)).2.2.2.2.2.1⟩)
    refine Or.inr ⟨h3, tTell S T b m pl, ?_⟩
    rcases h4 with ⟨c1, c2⟩ | ⟨c1, c2⟩
    · refine ⟨up2 (up2 Cn (7 + 5 * b + 3) m (some (.inr (1, [.long (zL (fN (tX S T b m pl) (tY S T b m pl))), .long (zL (fD (tX S T b m pl) (tY S T b m pl)))])))) (7 + 5 * b) m (some (.inr (6, [.ref (ad (7 + 5 * b + 1) m), .ref (ad (7 + 5 * b + 3) m), .int 1]))), tTry_some hz hU, ?_, ?_⟩
      · have u1 := upto_set Hh (7 + 5 * b + 3) m (.inr (1, [.long (zL (fN (tX S T b m pl) (tY S T b m pl))), .long (zL (fD (tX S T b m pl) (tY S T b m pl)))])) (rep_live t4)
        rw [c2]
        exact upto_tr u1 (upto_set u1.1 _ _ _ (fun q => rep_live t1 ((u1.2.1 _ _).mp q)))
      · have r1 : rep G S T ad (up2 Cn (7 + 5 * b + 3) m (some (.inr (1, [.long (zL (fN (tX S T b m pl) (tY S T b m pl))), .long (zL (fD (tX S T b m pl) (tY S T b m pl)))])))) := by
          refine rep_frs Hr (fun k i k1 k2 => up2_k _ _ _ (by omega)) (fun i => ?_) (fun i => ?_)
          · by_cases z : 10 = 7 + 5 * b + 3 ∧ i = m
            · unfold up2; rw [if_pos z]; exact Or.inr ⟨_, _, rfl⟩
            · unfold up2; rw [if_neg z]; exact Or.inl rfl
          · by_cases z : 15 = 7 + 5 * b + 3 ∧ i = m
            · unfold up2; rw [if_pos z]; exact Or.inr ⟨_, _, rfl⟩
            · unfold up2; rw [if_neg z]; exact Or.inl rfl
        unfold tTell
        rw [if_pos c1]
        refine rep_aside r1 (fun k i k1 k2 => up2_k _ _ _ (by omega)) (fun f k hf => up2_k _ _ _ (by omega)) (fun k hk => ?_) (fun k hk => ?_)
        · by_cases z : 7 = 7 + 5 * b ∧ k = m
          · obtain ⟨z1, z2⟩ := z
            have zb : b = 0 := by omega
            rw [zb, z2, up2_s, up2_s]; rfl
          · have z' : ¬ (3 = 3 + b ∧ k = m) := fun q => z ⟨by omega, q.2⟩
            rw [show ∀ (f : Nat → Nat → Option va_E) v, up2 f (7 + 5 * b) m v 7 k = f 7 k from fun f v => if_neg z, show ∀ (f : Sg) v, up2 f (3 + b) m v 3 k = f 3 k from fun f v => if_neg z']
            exact (r1.2.2.2.2.1 k hk).2.1
        · by_cases z : 12 = 7 + 5 * b ∧ k = m
          · obtain ⟨z1, z2⟩ := z
            have zb : b = 1 := by omega
            rw [zb, z2, up2_s, up2_s]; rfl
          · have z' : ¬ (4 = 3 + b ∧ k = m) := fun q => z ⟨by omega, q.2⟩
            rw [show ∀ (f : Nat → Nat → Option va_E) v, up2 f (7 + 5 * b) m v 12 k = f 12 k from fun f v => if_neg z, show ∀ (f : Sg) v, up2 f (3 + b) m v 4 k = f 4 k from fun f v => if_neg z']
            exact (r1.2.2.2.2.2 k hk).2.1
    · refine ⟨up2 (up2 (up2 Cn (7 + 5 * b + 3) m (some (.inr (1, [.long (zL (fN (tX S T b m pl) (tY S T b m pl))), .long (zL (fD (tX S T b m pl) (tY S T b m pl)))])))) 4 (tSa S b m pl) (some (.inr (1, [.long (zL (fN (tX S T b m pl) (tY S T b m pl))), .long (zL (fD (tX S T b m pl) (tY S T b m pl)))])))) 3 (tSa S b m pl) (some (.inr (5, [.int (iL (S 1 (tSa S b m pl))), .int (iL (S 2 (tSa S b m pl))), .int (iL (S 3 (tSa S b m pl))), .int (1 + gS (fun k => iL (T 2 (tSa S b m k))) (tN b)), .ref (ad 4 (tSa S b m pl))]))), tTry_some hz hU, ?_, ?_⟩
      · have hs := Hr.2.2.1 _ (tSa_lt Hi hb hm pl)
        have u1 := upto_set Hh (7 + 5 * b + 3) m (.inr (1, [.long (zL (fN (tX S T b m pl) (tY S T b m pl))), .long (zL (fD (tX S T b m pl) (tY S T b m pl)))])) (rep_live t4)
        have u2 := upto_tr u1 (upto_set u1.1 4 (tSa S b m pl) (.inr (1, [.long (zL (fN (tX S T b m pl) (tY S T b m pl))), .long (zL (fD (tX S T b m pl) (tY S T b m pl)))])) (fun q => rep_live hs.2 ((u1.2.1 _ _).mp q)))
        rw [c2]
        exact upto_tr u2 (upto_set u2.1 _ _ _ (fun q => rep_live hs.1 ((u2.2.1 _ _).mp q)))
      · have r1 : rep G S T ad (up2 Cn (7 + 5 * b + 3) m (some (.inr (1, [.long (zL (fN (tX S T b m pl) (tY S T b m pl))), .long (zL (fD (tX S T b m pl) (tY S T b m pl)))])))) := by
          refine rep_frs Hr (fun k i k1 k2 => up2_k _ _ _ (by omega)) (fun i => ?_) (fun i => ?_)
          · by_cases z : 10 = 7 + 5 * b + 3 ∧ i = m
            · unfold up2; rw [if_pos z]; exact Or.inr ⟨_, _, rfl⟩
            · unfold up2; rw [if_neg z]; exact Or.inl rfl
          · by_cases z : 15 = 7 + 5 * b + 3 ∧ i = m
            · unfold up2; rw [if_pos z]; exact Or.inr ⟨_, _, rfl⟩
            · unfold up2; rw [if_neg z]; exact Or.inl rfl
        unfold tTell
        rw [if_neg c1]
        refine rep_told r1 (fun k i k1 k2 => by rw [up2_k _ _ _ k1, up2_k _ _ _ k2]) (fun k hk => ?_) (fun j => ⟨by rw [up2_k _ _ _ (by decide), up2_k _ _ _ (by decide), up2_k _ _ _ (by decide)], by rw [up2_k _ _ _ (by decide), up2_k _ _ _ (by decide), up2_k _ _ _ (by decide)]⟩)
        by_cases z : k = tSa S b m pl
        · rw [z]
          refine ⟨?_, ?_⟩
          · rw [up2_s, up2_s, g1, show (1 : Int32) = iL 1 from rfl, iL_add]
          · rw [up2_k _ _ _ (by decide), up2_s, up2_k _ _ _ (by decide), up2_k _ _ _ (by decide), up2_s, up2_k _ _ _ (by decide), up2_s]
        · have := r1.2.2.1 k hk
          rw [up2_i _ _ _ z, up2_i _ _ _ z, up2_i _ _ _ z, up2_i _ _ _ z, up2_i _ _ _ z, up2_i _ _ _ z, up2_i _ _ _ z, up2_i _ _ _ z, up2_i _ _ _ z, up2_i _ _ _ z, up2_i _ _ _ z, up2_i _ _ _ z, up2_i _ _ _ z]
          exact this
end TI
