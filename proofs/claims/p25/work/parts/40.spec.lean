/-! what each call answers, by numbers -/
abbrev shQ (S : Sg) (j : Nat) (p : Int32) : Prop := 0 ≤ p.toInt ∧ p.toInt < S 0 j
abbrev inQ (p : Int32) (a b : Int) : Prop := a ≤ p.toInt ∧ p.toInt ≤ b
def kN (p : Int32) : Nat := p.toInt.toNat
theorem kN_n {k : Nat} (h : k < 2147483648) : kN (nI k) = k := by unfold kN; rw [nI_toInt h]; rfl
theorem kN_lt {S : Sg} {j : Nat} {p : Int32} (h : shQ S j p) : ((kN p : Nat) : Int) < S 0 j := by unfold kN; omega
theorem kN_e {p : Int32} (h : 0 ≤ p.toInt) : p = nI (kN p) := by unfold kN; rw [← iL_nn h, iL_x]
/-- bits and counts -/
def bitsI (f : Nat → Bool) : Nat → Int32
  | 0 => 0
  | k + 1 => if f k then bitsI f k ||| (1 <<< (nI k &&& 31)) else bitsI f k
def cntI (f : Nat → Bool) : Nat → Int
  | 0 => 0
  | k + 1 => cntI f k + (if f k then 1 else 0)
theorem cntI_b (f : Nat → Bool) (n : Nat) : 0 ≤ cntI f n ∧ cntI f n ≤ n := by
  induction n with
  | zero => exact ⟨Int.le_refl _, Int.le_refl _⟩
  | succ k ih =>
    have e : cntI f (k + 1) = cntI f k + (if f k then 1 else 0) := rfl
    rw [e]
    split <;> omega
theorem cntI_c {f g : Nat → Bool} {n : Nat} (h : ∀ k, k < n → f k = g k) : cntI f n = cntI g n := by
  induction n with
  | zero => rfl
  | succ k ih =>
    show cntI f k + (if f k then 1 else 0) = cntI g k + (if g k then 1 else 0)
    rw [ih (fun j hj => h j (by omega)), h k (by omega)]
theorem bitsI_c {f g : Nat → Bool} {n : Nat} (h : ∀ k, k < n → f k = g k) : bitsI f n = bitsI g n := by
  induction n with
  | zero => rfl
  | succ k ih =>
    show (if f k then bitsI f k ||| (1 <<< (nI k &&& 31)) else bitsI f k) = (if g k then bitsI g k ||| (1 <<< (nI k &&& 31)) else bitsI g k)
    rw [ih (fun j hj => h j (by omega)), h k (by omega)]
/-! the plane -/
def szI (S : Sg) (g : Nat) : Int := S 6 g * (S 5 g + (if S 8 g = 1 then 6 else 2))
def dsI (S : Sg) (p q : Nat) : Int := (S 1 p - S 1 q) * (S 1 p - S 1 q) + (S 2 p - S 2 q) * (S 2 p - S 2 q)
abbrev inner (S : Sg) (m : Nat) : Prop := S 8 (S 9 m).toNat = 1 ∨ S 8 (S 10 m).toNat = 1
def lenI (S : Sg) (m : Nat) : Int := S 6 (S 9 m).toNat * (if inner S m then ((S 5 (S 9 m).toNat - S 5 (S 10 m).toNat).natAbs : Int) else S 5 (S 9 m).toNat + S 5 (S 10 m).toNat)
def fitsB (S : Sg) (m : Nat) : Bool := decide (dsI S (S 4 (S 9 m).toNat).toNat (S 4 (S 10 m).toNat).toNat = lenI S m * lenI S m)
def ovlP (S : Sg) (a b : Nat) : Prop := S 4 a ≠ S 4 b ∧ S 7 a = S 7 b ∧ dsI S (S 4 a).toNat (S 4 b).toNat < (szI S a + szI S b) * (szI S a + szI S b)
noncomputable def collB (S : Sg) (a b : Nat) : Bool := @decide (ovlP S a b ∧ ¬ meshedP S a b) (Classical.propDecidable _)
theorem sq_le {x : Int} {n : Nat} (h : x.natAbs ≤ n) : 0 ≤ x * x ∧ x * x ≤ (n * n : Nat) := by
  have h1 : (x * x).natAbs ≤ n * n := by rw [Int.natAbs_mul]; exact Nat.mul_le_mul h h
  have h2 : 0 ≤ x * x := by
    rcases Int.le_total 0 x with q | q
    · exact Int.mul_nonneg q q
    · exact Int.mul_nonneg_of_nonpos_of_nonpos q q
  omega
theorem dsI_b {S : Sg} (Hi : invS S) {p q : Nat} (hp : (p : Int) < S 0 0) (hq : (q : Int) < S 0 0) : 0 ≤ dsI S p q ∧ dsI S p q ≤ 8000000 := by
  have h1 := Hi.2.1 p hp; have h2 := Hi.2.1 q hq
  have a1 := sq_le (x := S 1 p - S 1 q) (n := 2000) (by omega)
  have a2 := sq_le (x := S 2 p - S 2 q) (n := 2000) (by omega)
  unfold dsI
  omega
theorem szI_b {S : Sg} (Hi : invS S) {g : Nat} (hg : (g : Int) < S 0 1) : 0 ≤ szI S g ∧ szI S g ≤ 2060 := by
  have h := Hi.2.2.1 g hg
  have hb : 0 ≤ (S 5 g + (if S 8 g = 1 then 6 else 2)) ∧ (S 5 g + (if S 8 g = 1 then 6 else 2)) ≤ 206 := by split <;> omega
  unfold szI
  refine ⟨Int.mul_nonneg (by omega) hb.1, ?_⟩
  have : (S 6 g * (S 5 g + (if S 8 g = 1 then 6 else 2))).natAbs ≤ 10 * 206 := by rw [Int.natAbs_mul]; exact Nat.mul_le_mul (by omega) (by omega)
  omega
theorem lenI_b {S : Sg} (Hi : invS S) {m : Nat} (hm : (m : Int) < S 0 2) : 0 ≤ lenI S m ∧ lenI S m ≤ 4000 := by
  obtain ⟨a1, a2, a3, a4, a5⟩ := Hi.2.2.2.1 m hm
  have b1 := Hi.2.2.1 (S 9 m).toNat (by omega)
  have b2 := Hi.2.2.1 (S 10 m).toNat (by omega)
  have hb : 0 ≤ (if inner S m then ((S 5 (S 9 m).toNat - S 5 (S 10 m).toNat).natAbs : Int) else S 5 (S 9 m).toNat + S 5 (S 10 m).toNat) ∧ (if inner S m then ((S 5 (S 9 m).toNat - S 5 (S 10 m).toNat).natAbs : Int) else S 5 (S 9 m).toNat + S 5 (S 10 m).toNat) ≤ 400 := by split <;> omega
  unfold lenI
  refine ⟨Int.mul_nonneg (by omega) hb.1, ?_⟩
  have : (S 6 (S 9 m).toNat * (if inner S m then ((S 5 (S 9 m).toNat - S 5 (S 10 m).toNat).natAbs : Int) else S 5 (S 9 m).toNat + S 5 (S 10 m).toNat)).natAbs ≤ 10 * 400 := by rw [Int.natAbs_mul]; exact Nat.mul_le_mul (by omega) (by omega)
  omega
/-- the same in ints -/
theorem g_bi {S : Sg} {g : Nat} (h : S 8 g = 0 ∨ S 8 g = 1) : ∃ b : Bool, iL (S 8 g) = g_b b ∧ (b = true ↔ S 8 g = 1) := ⟨decide (S 8 g = 1), iL_b h, by simp⟩
theorem sz32 {S : Sg} {g : Nat} {b : Bool} (h : b = true ↔ S 8 g = 1) : iL (S 6 g) * (iL (S 5 g) + (if b then 6 else 2)) = iL (szI S g) := by
  unfold szI
  by_cases z : S 8 g = 1
  · rw [if_pos z, if_pos (h.mpr z), show (6 : Int32) = iL 6 from rfl, iL_add, iL_mul]
  · rw [if_neg z, if_neg (fun q => z (h.mp q)), show (2 : Int32) = iL 2 from rfl, iL_add, iL_mul]
theorem ds32 (S : Sg) (p q : Nat) : (iL (S 1 p) - iL (S 1 q)) * (iL (S 1 p) - iL (S 1 q)) + (iL (S 2 p) - iL (S 2 q)) * (iL (S 2 p) - iL (S 2 q)) = iL (dsI S p q) := by
  unfold dsI
  rw [iL_sub, iL_sub, iL_mul, iL_mul, iL_add]
theorem len32 {S : Sg} (Hi : invS S) {m : Nat} (hm : (m : Int) < S 0 2) {b1 b2 : Bool} (h1 : b1 = true ↔ S 8 (S 9 m).toNat = 1) (h2 : b2 = true ↔ S 8 (S 10 m).toNat = 1) :
    iL (S 6 (S 9 m).toNat) * (if b1 || b2 then (if 0 ≤ iL (S 5 (S 9 m).toNat) - iL (S 5 (S 10 m).toNat) then iL (S 5 (S 9 m).toNat) - iL (S 5 (S 10 m).toNat) else 0 - (iL (S 5 (S 9 m).toNat) - iL (S 5 (S 10 m).toNat))) else iL (S 5 (S 9 m).toNat) + iL (S 5 (S 10 m).toNat)) = iL (lenI S m) := by
  obtain ⟨a1, a2, a3, a4, a5⟩ := Hi.2.2.2.1 m hm
  have c1 := Hi.2.2.1 (S 9 m).toNat (by omega)
  have c2 := Hi.2.2.1 (S 10 m).toNat (by omega)
  unfold lenI
  by_cases z : inner S m
  · rw [if_pos z, if_pos (by rcases z with q | q <;> simp [h1, h2, q])]
    have le0 : iL 0 ≤ iL (S 5 (S 9 m).toNat - S 5 (S 10 m).toNat) ↔ 0 ≤ S 5 (S 9 m).toNat - S 5 (S 10 m).toNat := iL_le (by omega) (by omega) (by omega) (by omega)
    rw [iL_sub, show (0 : Int32) = iL 0 from rfl, iL_sub]
    by_cases y : 0 ≤ S 5 (S 9 m).toNat - S 5 (S 10 m).toNat
    · rw [if_pos (le0.mpr y), iL_mul, Int.natAbs_of_nonneg y]
    · rw [if_neg (fun q => y (le0.mp q)), iL_mul, show (0 - (S 5 (S 9 m).toNat - S 5 (S 10 m).toNat)) = ((S 5 (S 9 m).toNat - S 5 (S 10 m).toNat).natAbs : Int) from by omega]
  · have zz : ¬ ((b1 || b2) = true) := by
      intro q
      rcases Bool.or_eq_true _ _ ▸ q with q | q
      · exact z (Or.inl (h1.mp q))
      · exact z (Or.inr (h2.mp q))
    rw [if_neg z, if_neg zz, iL_add, iL_mul]
theorem ov32 {G : g_C} {S T : Sg} {w : g_W} {ad : Nat → Nat → Nat} {Cn : Nat → Nat → Option va_E} (Hh : holds w ad Cn) (Hr : rep G S T ad Cn) (Hi : invS S) {a b : Nat} (ha : (a : Int) < S 0 1) (hb : (b : Int) < S 0 1) {b1 b2 : Bool} (h1 : b1 = true ↔ S 8 a = 1) (h2 : b2 = true ↔ S 8 b = 1) :
    (ad 3 (S 4 a).toNat ≠ ad 3 (S 4 b).toNat ∧ iL (S 7 a) = iL (S 7 b) ∧ ¬ (iL (S 6 a) * (iL (S 5 a) + (if b1 then 6 else 2)) + iL (S 6 b) * (iL (S 5 b) + (if b2 then 6 else 2))) * (iL (S 6 a) * (iL (S 5 a) + (if b1 then 6 else 2)) + iL (S 6 b) * (iL (S 5 b) + (if b2 then 6 else 2))) ≤ ((iL (S 1 (S 4 a).toNat) - iL (S 1 (S 4 b).toNat)) * (iL (S 1 (S 4 a).toNat) - iL (S 1 (S 4 b).toNat)) + (iL (S 2 (S 4 a).toNat) - iL (S 2 (S 4 b).toNat)) * (iL (S 2 (S 4 a).toNat) - iL (S 2 (S 4 b).toNat)))) ↔ ovlP S a b := by
  have ga := Hi.2.2.1 a ha; have gb := Hi.2.2.1 b hb
  have s1 := szI_b Hi ha; have s2 := szI_b Hi hb
  have d := dsI_b Hi (p := (S 4 a).toNat) (q := (S 4 b).toNat) (by omega) (by omega)
  have q := sq_le (x := szI S a + szI S b) (n := 4120) (by omega)
  have e1 : ad 3 (S 4 a).toNat = ad 3 (S 4 b).toNat ↔ S 4 a = S 4 b := by rw [ad3_in Hh Hr (by omega) (by omega)]; omega
  have e2 : iL (S 7 a) = iL (S 7 b) ↔ S 7 a = S 7 b := iL_eq (by omega) (by omega) (by omega) (by omega)
  have e3 : iL ((szI S a + szI S b) * (szI S a + szI S b)) ≤ iL (dsI S (S 4 a).toNat (S 4 b).toNat) ↔ (szI S a + szI S b) * (szI S a + szI S b) ≤ dsI S (S 4 a).toNat (S 4 b).toNat := iL_le (by omega) (by omega) (by omega) (by omega)
  rw [sz32 h1, sz32 h2, ds32, iL_add, iL_mul, e3, e2, ne_eq, e1, Int.not_le]
  exact Iff.rfl
theorem collB_t {S : Sg} {a b : Nat} : collB S a b = true ↔ ovlP S a b ∧ ¬ meshedP S a b := by
  unfold collB
  exact @decide_eq_true_iff _ (Classical.propDecidable _)
theorem collB_f {S : Sg} {a b : Nat} (h : ¬ (ovlP S a b ∧ ¬ meshedP S a b)) : collB S a b = false := by
  cases hc : collB S a b
  · rfl
  · exact absurd (collB_t.mp hc) h
theorem dsI_c (S : Sg) (p q : Nat) : dsI S p q = dsI S q p := by
  unfold dsI
  rw [← Int.neg_mul_neg, ← Int.neg_mul_neg (S 2 p - S 2 q)]
  rw [show -(S 1 p - S 1 q) = S 1 q - S 1 p from by omega, show -(S 2 p - S 2 q) = S 2 q - S 2 p from by omega]
theorem meshedP_c (S : Sg) (a b : Nat) : meshedP S a b ↔ meshedP S b a := by
  unfold meshedP meshAt
  exact ⟨fun ⟨k, h1, h2⟩ => ⟨k, h1, h2.symm⟩, fun ⟨k, h1, h2⟩ => ⟨k, h1, h2.symm⟩⟩
theorem ovlP_c (S : Sg) (a b : Nat) : ovlP S a b ↔ ovlP S b a := by
  unfold ovlP
  rw [dsI_c, Int.add_comm (szI S a) (szI S b)]
  exact ⟨fun h => ⟨fun q => h.1 q.symm, h.2.1.symm, h.2.2⟩, fun h => ⟨fun q => h.1 q.symm, h.2.1.symm, h.2.2⟩⟩
theorem collB_c (S : Sg) (a b : Nat) : collB S a b = collB S b a := by
  have e : collB S a b = true ↔ collB S b a = true := by rw [collB_t, collB_t, ovlP_c, meshedP_c]
  cases h1 : collB S a b <;> cases h2 : collB S b a <;> simp_all
/-- pairs, counted by rows above the diagonal, and below it -/
def cntR (f : Nat → Nat → Bool) (a : Nat) : Nat → Int
  | 0 => 0
  | j + 1 => if a < j then cntR f a j + (if f a j then 1 else 0) else 0
def sumC (f : Nat → Nat → Bool) (n : Nat) : Nat → Int
  | 0 => 0
  | a + 1 => sumC f n a + cntR f a n
def sumM (f : Nat → Nat → Bool) : Nat → Int
  | 0 => 0
  | a + 1 => sumM f a + cntI (f a) a
theorem cntR_0 (f : Nat → Nat → Bool) (a : Nat) {j : Nat} (h : j ≤ a + 1) : cntR f a j = 0 := by
  cases j with
  | zero => rfl
  | succ j => unfold cntR; rw [if_neg (by omega)]
theorem cntR_s (f : Nat → Nat → Bool) {a j : Nat} (h : a < j) : cntR f a (j + 1) = cntR f a j + (if f a j then 1 else 0) := by
  conv => lhs; unfold cntR
  rw [if_pos h]
theorem cntR_b (f : Nat → Nat → Bool) (a j : Nat) : 0 ≤ cntR f a j ∧ cntR f a j ≤ j := by
  induction j with
  | zero => exact ⟨Int.le_refl _, Int.le_refl _⟩
  | succ j ih =>
    unfold cntR
    split
    · split <;> omega
    · omega
theorem sumC_b (f : Nat → Nat → Bool) (n a : Nat) : 0 ≤ sumC f n a ∧ sumC f n a ≤ (a * n : Nat) := by
  induction a with
  | zero => exact ⟨Int.le_refl _, by simp [sumC]⟩
  | succ a ih =>
    have e : sumC f n (a + 1) = sumC f n a + cntR f a n := rfl
    have := cntR_b f a n
    rw [e, Nat.succ_mul]
    omega
theorem sumC_sum {f : Nat → Nat → Bool} (hf : ∀ a b, f a b = f b a) : ∀ n, sumC f n n = sumM f n := by
  have step : ∀ n a, a ≤ n → sumC f (n + 1) a = sumC f n a + cntI (f n) a := by
    intro n a
    induction a with
    | zero => intro _; rfl
    | succ a ih =>
      intro ha
      have e1 : sumC f (n + 1) (a + 1) = sumC f (n + 1) a + cntR f a (n + 1) := rfl
      have e2 : sumC f n (a + 1) = sumC f n a + cntR f a n := rfl
      have e3 : cntI (f n) (a + 1) = cntI (f n) a + (if f n a then 1 else 0) := rfl
      rw [e1, e2, e3, ih (by omega), cntR_s f (by omega), hf a n]
      omega
  intro n
  induction n with
  | zero => rfl
  | succ n ih =>
    have e1 : sumC f (n + 1) (n + 1) = sumC f (n + 1) n + cntR f n (n + 1) := rfl
    have e2 : sumM f (n + 1) = sumM f n + cntI (f n) n := rfl
    rw [e1, e2, step n n (Nat.le_refl n), ih, cntR_0 f n (Nat.le_refl _)]
    omega
/-! codes and values of the calls that change nothing -/
def cdCount (p : Int32) : Nat := if inQ p 0 3 then 0 else 1
def vlCount (S : Sg) (p : Int32) : Int32 := iL (S 0 (kN p))
def cdShaft (S : Sg) (p : Int32) : Nat := if shQ S 0 p then 0 else 1
def vlIsTold (T : Sg) (p : Int32) : Bool := decide (T 2 (kN p) ≠ -1)
def vlStage (T : Sg) (p : Int32) : Int32 := iL (T 2 (kN p))
def cdSpeed (S T : Sg) (p : Int32) : Nat := if shQ S 0 p then (if T 2 (kN p) ≠ -1 then 0 else 2) else 1
def vlSpeed (T : Sg) (p : Int32) (b : Bool) : Int32 := if b then iL (T 1 (kN p)) else iL (T 0 (kN p))
def cdPlanets (S : Sg) (p q : Int32) : Nat := if shQ S 3 p then (if inQ q 1 12 then 0 else 2) else 1
def vlPlanets (S : Sg) (p q : Int32) : Int32 := nI (mostP (S 14 (kN p) + S 15 (kN p)).toNat (kN q))
def cdMeshN (S : Sg) (p : Int32) : Nat := if shQ S 2 p then 0 else 1
def vlDist (S : Sg) (p : Int32) : Int32 := iL (lenI S (kN p))
def vlFree (S T : Sg) : Int32 := iL (cntI (fun k => decide (T 2 k = -1)) (S 0 0).toNat)
def vlMisfits (S : Sg) : Int32 := bitsI (fun m => ! fitsB S m) (S 0 2).toNat
noncomputable def vlColl (S : Sg) : Int32 := iL (sumC (collB S) (S 0 1).toNat (S 0 1).toNat)
