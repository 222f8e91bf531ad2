/-! numbers -/
def g_b (b : Bool) : Int32 := if b then 1 else 0
theorem g_nb (b : Bool) : narrow .boolean (.int (g_b b)) = .int (g_b b) := by cases b <;> decide +kernel
theorem g_fb (b : Bool) : fits .boolean (.int (g_b b)) = true := by cases b <;> decide +kernel
theorem g_bt {p : Prop} [d : Decidable p] (h : p) : (1 : Int32) = g_b (decide p) := by simp [g_b, h]
theorem g_bf {p : Prop} [d : Decidable p] (h : ¬ p) : (0 : Int32) = g_b (decide p) := by simp [g_b, h]
theorem g_b0 {b : Bool} : g_b b = 0 ↔ b = false := by cases b <;> decide
theorem g_b1 {b : Bool} : ¬ g_b b = 0 ↔ b = true := by cases b <;> decide
theorem g_up_up (w : g_W) (a : Nat) (e e' : va_E) : g_up (g_up w a e) a e' = g_up w a e' := by
  funext q
  unfold g_up
  by_cases h : q = a <;> simp [h]
theorem g_up_sw (w : g_W) {a b : Nat} (e e' : va_E) (h : a ≠ b) : g_up (g_up w a e) b e' = g_up (g_up w b e') a e := by
  funext q
  unfold g_up
  by_cases h1 : q = a
  · subst h1
    simp [h]
  · by_cases h2 : q = b
    · subst h2
      simp [h1]
    · simp [h1, h2]
theorem g_up_none {w : g_W} {a q : Nat} {e : va_E} (h : g_up w a e q = none) : q ≠ a ∧ w q = none := by
  unfold g_up at h
  by_cases z : q = a
  · rw [if_pos z] at h
    cases h
  · rw [if_neg z] at h
    exact ⟨z, h⟩
theorem g_noa {w : g_W} {a b : Nat} {x : Nat × List Value} {y : ClassId × vp_A} (hb : w b = some (.inr x)) (ha : w a = some (.inl y)) : b ≠ a := by
  intro z
  subst z
  rw [ha] at hb
  cases hb
theorem g_nci {w : g_W} {a b i j : Nat} {x y : List Value} (hb : w b = some (.inr (i, x))) (ha : w a = some (.inr (j, y))) (h : i ≠ j) : b ≠ a := by
  intro z
  subst z
  rw [ha] at hb
  cases hb
  exact h rfl
def zL (z : Int) : Int64 := Int64.ofInt z
theorem zL_N (n : Nat) : zL (n : Int) = lN n := Int64.ofInt_eq_ofNat
theorem zL_0 : zL 0 = 0 := by decide
theorem zL_1 : zL 1 = 1 := by decide
theorem zL_add (a b : Int) : zL a + zL b = zL (a + b) := (Int64.ofInt_add a b).symm
theorem zL_sub (a b : Int) : zL a - zL b = zL (a - b) := (Int64.ofInt_sub a b).symm
theorem zL_mul (a b : Int) : zL a * zL b = zL (a * b) := (Int64.ofInt_mul a b).symm
theorem zL_neg (a : Int) : -zL a = zL (-a) := (Int64.ofInt_neg a).symm
theorem zL_t {z : Int} (h1 : -9223372036854775808 ≤ z) (h2 : z < 9223372036854775808) : (zL z).toInt = z := Int64.toInt_ofInt_of_le h1 h2
theorem zL_lt {a b : Int} (h1 : -9223372036854775808 ≤ a) (h2 : a < 9223372036854775808) (h3 : -9223372036854775808 ≤ b) (h4 : b < 9223372036854775808) : zL a < zL b ↔ a < b := by
  rw [Int64.lt_iff_toInt_lt, zL_t h1 h2, zL_t h3 h4]
theorem zL_le {a b : Int} (h1 : -9223372036854775808 ≤ a) (h2 : a < 9223372036854775808) (h3 : -9223372036854775808 ≤ b) (h4 : b < 9223372036854775808) : zL a ≤ zL b ↔ a ≤ b := by
  rw [Int64.le_iff_toInt_le, zL_t h1 h2, zL_t h3 h4]
theorem zL_eq {a b : Int} (h1 : -9223372036854775808 ≤ a) (h2 : a < 9223372036854775808) (h3 : -9223372036854775808 ≤ b) (h4 : b < 9223372036854775808) : zL a = zL b ↔ a = b := by
  rw [← Int64.toInt_inj, zL_t h1 h2, zL_t h3 h4]
theorem zL_ge0 {a : Int} (h1 : -9223372036854775808 ≤ a) (h2 : a < 9223372036854775808) : 0 ≤ zL a ↔ 0 ≤ a := by
  rw [← zL_0, zL_le (by decide) (by decide) h1 h2]
theorem zL_lt0 {a : Int} (h1 : -9223372036854775808 ≤ a) (h2 : a < 9223372036854775808) : zL a < 0 ↔ a < 0 := by
  rw [← zL_0, zL_lt h1 h2 (by decide) (by decide)]
theorem zL_gt0 {a : Int} (h1 : -9223372036854775808 ≤ a) (h2 : a < 9223372036854775808) : 0 < zL a ↔ 0 < a := by
  rw [← zL_0, zL_lt (by decide) (by decide) h1 h2]
theorem zL_eq0 {a : Int} (h1 : -9223372036854775808 ≤ a) (h2 : a < 9223372036854775808) : zL a = 0 ↔ a = 0 := by
  rw [← zL_0, zL_eq h1 h2 (by decide) (by decide)]
theorem zL_div {a b : Int} (h1 : -9223372036854775808 ≤ a) (h2 : a < 9223372036854775808) (h3 : -9223372036854775808 ≤ b) (h4 : b < 9223372036854775808) : zL a / zL b = zL (a.tdiv b) :=
  (Int64.ofInt_tdiv (by rw [Int64.toInt_minValue]; exact h1) (by rw [Int64.toInt_maxValue]; omega) (by rw [Int64.toInt_minValue]; exact h3) (by rw [Int64.toInt_maxValue]; omega)).symm
theorem zL_abs {a : Int} (h1 : -9223372036854775807 ≤ a) (h2 : a < 9223372036854775808) : (if 0 < zL a then zL a else -zL a) = lN a.natAbs := by
  rw [← zL_N]
  by_cases h : 0 < a
  · rw [if_pos ((zL_gt0 (by omega) h2).mpr h)]
    congr 1
    omega
  · rw [if_neg (fun q => h ((zL_gt0 (by omega) h2).mp q)), zL_neg]
    congr 1
    omega
theorem zL_i (z : Int) : (zL z).toInt32 = Int32.ofInt z := Int64.toInt32_ofInt
theorem zL_of32 (x : Int32) : x.toInt64 = zL x.toInt := by
  apply Int64.toInt_inj.mp
  rw [Int32.toInt_toInt64, zL_t]
  · have := Int32.le_toInt x; omega
  · have := Int32.toInt_lt x; omega
/-! Euclid's algorithm is over soon -/
def fib2 : Nat → Nat × Nat
  | 0 => (0, 1)
  | n + 1 => ((fib2 n).2, (fib2 n).1 + (fib2 n).2)
def eu_I (b0 k a b : Nat) : Prop := k = 0 ∧ b = b0 ∨ ∃ j, k = j + 1 ∧ b < a ∧ (fib2 j).2 * a + (fib2 j).1 * b ≤ b0
theorem eu_step {b0 k a b : Nat} (h : eu_I b0 k a b) (hb : b ≠ 0) : eu_I b0 (k + 1) b (a % b) := by
  have hm : a % b < b := Nat.mod_lt _ (Nat.pos_of_ne_zero hb)
  rcases h with ⟨rfl, rfl⟩ | ⟨j, rfl, hlt, hle⟩
  · exact Or.inr ⟨0, rfl, hm, by simp [fib2]⟩
  · refine Or.inr ⟨j + 1, rfl, hm, ?_⟩
    have h1 : b + a % b ≤ a := by
      have h2 := Nat.div_add_mod a b
      have h3 : 1 ≤ a / b := (Nat.le_div_iff_mul_le (Nat.pos_of_ne_zero hb)).mpr (by omega)
      have h4 : b * 1 ≤ b * (a / b) := Nat.mul_le_mul_left b h3
      omega
    have h5 : (fib2 j).2 * (b + a % b) ≤ (fib2 j).2 * a := Nat.mul_le_mul_left _ h1
    show ((fib2 j).1 + (fib2 j).2) * b + (fib2 j).2 * (a % b) ≤ b0
    rw [Nat.mul_add] at h5
    rw [Nat.add_mul]
    omega
theorem eu_end {b0 k a b : Nat} (h : eu_I b0 k a b) (hb : b0 < 2 ^ 60) (hk : k ≤ 100) : k < 100 := by
  rcases h with ⟨rfl, -⟩ | ⟨j, rfl, hlt, hle⟩
  · decide
  · rcases Nat.lt_or_ge j 99 with q | q
    · omega
    · have hj : j = 99 := by omega
      subst hj
      have h1 : (fib2 99).2 = 354224848179261915075 := by decide +kernel
      rw [h1] at hle
      have h2 : (2 : Nat) ^ 60 = 1152921504606846976 := by decide +kernel
      omega
/-! fractions in lowest terms -/
def fG (x y : Int) : Int := if y < 0 then -(Int.gcd x y : Int) else (Int.gcd x y : Int)
def fN (x y : Int) : Int := x.tdiv (fG x y)
def fD (x y : Int) : Int := y.tdiv (fG x y)
theorem fG_abs (x y : Int) : (fG x y).natAbs = Int.gcd x y := by unfold fG; split <;> omega
theorem fG_pos {x y : Int} (hy : y ≠ 0) : 0 < Int.gcd x y := Int.gcd_pos_of_ne_zero_right _ hy
theorem fG_le {x y : Int} (hy : y ≠ 0) : Int.gcd x y ≤ y.natAbs := by
  have h := Int.gcd_dvd_right x y
  exact Nat.le_of_dvd (by omega) (by have := Int.natAbs_dvd_natAbs.mpr h; simpa using this)
theorem fG_ne {x y : Int} (hy : y ≠ 0) : fG x y ≠ 0 := by
  have h1 := fG_abs x y
  have h2 := fG_pos (x := x) hy
  omega
theorem fG_dx (x y : Int) : fG x y ∣ x := by
  unfold fG
  split
  · exact Int.neg_dvd.mpr (Int.gcd_dvd_left x y)
  · exact Int.gcd_dvd_left x y
theorem fG_dy (x y : Int) : fG x y ∣ y := by
  unfold fG
  split
  · exact Int.neg_dvd.mpr (Int.gcd_dvd_right x y)
  · exact Int.gcd_dvd_right x y
theorem fN_mul (x y : Int) : fN x y * fG x y = x := Int.tdiv_mul_cancel (fG_dx x y)
theorem fD_mul (x y : Int) : fD x y * fG x y = y := Int.tdiv_mul_cancel (fG_dy x y)
theorem fN_le (x y : Int) : (fN x y).natAbs ≤ x.natAbs := Int.natAbs_tdiv_le_natAbs _ _
theorem fD_le (x y : Int) : (fD x y).natAbs ≤ y.natAbs := Int.natAbs_tdiv_le_natAbs _ _
theorem fD_pos {x y : Int} (hy : y ≠ 0) : 0 < fD x y := by
  have h1 := fD_mul x y
  have h2 := fG_pos (x := x) hy
  by_cases h : y < 0
  · have hg : fG x y < 0 := by unfold fG; rw [if_pos h]; omega
    rcases Int.lt_trichotomy (fD x y) 0 with q | q | q
    · have := Int.mul_pos_of_neg_of_neg q hg
      omega
    · rw [q, Int.zero_mul] at h1
      omega
    · exact q
  · have hg : 0 < fG x y := by unfold fG; rw [if_neg h]; omega
    rcases Int.lt_trichotomy (fD x y) 0 with q | q | q
    · have := Int.mul_neg_of_neg_of_pos q hg
      omega
    · rw [q, Int.zero_mul] at h1
      omega
    · exact q
theorem fND_co {x y : Int} (hy : y ≠ 0) : Int.gcd (fN x y) (fD x y) = 1 := by
  have h1 : Int.gcd (fN x y * fG x y) (fD x y * fG x y) = Int.gcd (fN x y) (fD x y) * (fG x y).natAbs := Int.gcd_mul_right ..
  rw [fN_mul, fD_mul, fG_abs] at h1
  have h2 := fG_pos (x := x) hy
  have h3 : 1 * Int.gcd x y = Int.gcd (fN x y) (fD x y) * Int.gcd x y := by omega
  exact (Nat.eq_of_mul_eq_mul_right h2 h3).symm
theorem fr_uniq {a b c d : Int} (hb : 0 < b) (hd : 0 < d) (h1 : Int.gcd a b = 1) (h2 : Int.gcd c d = 1) (h : a * d = c * b) : a = c ∧ b = d := by
  have k1 : b ∣ d := by
    have q : b ∣ a * d := ⟨c, by rw [h, Int.mul_comm]⟩
    have q' : b.natAbs ∣ a.natAbs * d.natAbs := by rw [← Int.natAbs_mul]; exact Int.natAbs_dvd_natAbs.mpr q
    exact Int.natAbs_dvd_natAbs.mp (Nat.Coprime.dvd_of_dvd_mul_left (k := b.natAbs) (m := a.natAbs) (by show Nat.gcd _ _ = 1; rw [Nat.gcd_comm]; exact h1) q')
  have k2 : d ∣ b := by
    have q : d ∣ c * b := ⟨a, by rw [← h, Int.mul_comm]⟩
    have q' : d.natAbs ∣ c.natAbs * b.natAbs := by rw [← Int.natAbs_mul]; exact Int.natAbs_dvd_natAbs.mpr q
    exact Int.natAbs_dvd_natAbs.mp (Nat.Coprime.dvd_of_dvd_mul_left (k := d.natAbs) (m := c.natAbs) (by show Nat.gcd _ _ = 1; rw [Nat.gcd_comm]; exact h2) q')
  have e : b = d := Int.dvd_antisymm (by omega) (by omega) k1 k2
  subst e
  exact ⟨Int.eq_of_mul_eq_mul_right (by omega) h, rfl⟩
theorem f_same {a b c d : Int} (hb : b ≠ 0) (hd : d ≠ 0) : (fN a b = fN c d ∧ fD a b = fD c d) ↔ a * d = c * b := by
  constructor
  · rintro ⟨h1, h2⟩
    have e1 := fN_mul a b
    have e2 := fD_mul a b
    have e3 := fN_mul c d
    have e4 := fD_mul c d
    calc a * d = (fN a b * fG a b) * (fD c d * fG c d) := by rw [e1, e4]
      _ = (fN c d * fG c d) * (fD a b * fG a b) := by rw [h1, h2, Int.mul_assoc, Int.mul_assoc, Int.mul_left_comm (fG a b), Int.mul_left_comm (fG c d), Int.mul_comm (fG a b)]
      _ = c * b := by rw [e3, e2]
  · intro h
    refine fr_uniq (fD_pos hb) (fD_pos hd) (fND_co hb) (fND_co hd) ?_
    have e1 := fN_mul a b
    have e2 := fD_mul a b
    have e3 := fN_mul c d
    have e4 := fD_mul c d
    have hg : fG a b * fG c d ≠ 0 := Int.mul_ne_zero (fG_ne hb) (fG_ne hd)
    refine Int.eq_of_mul_eq_mul_right hg ?_
    calc fN a b * fD c d * (fG a b * fG c d) = (fN a b * fG a b) * (fD c d * fG c d) := by rw [Int.mul_assoc, Int.mul_assoc, Int.mul_left_comm (fD c d)]
      _ = a * d := by rw [e1, e4]
      _ = c * b := h
      _ = (fN c d * fG c d) * (fD a b * fG a b) := by rw [e3, e2]
      _ = fN c d * fD a b * (fG a b * fG c d) := by rw [Int.mul_assoc, Int.mul_assoc, Int.mul_left_comm (fG c d), Int.mul_comm (fG c d)]
theorem f_id {a b : Int} (hb : 0 < b) (h : Int.gcd a b = 1) : fN a b = a ∧ fD a b = b := by
  have hg : fG a b = 1 := by
    unfold fG
    rw [if_neg (by omega), h]
    rfl
  unfold fN fD
  rw [hg]
  simp
theorem f_one (a : Int) : fN a 1 = a ∧ fD a 1 = 1 := f_id (by decide) (by simp)
