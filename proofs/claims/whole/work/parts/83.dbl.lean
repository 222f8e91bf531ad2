/-! quotients of small whole numbers, as doubles, are no NaN -/
section DB
theorem b_t : FP.Core.b64.tails = 4503599627370496 := by decide
theorem b_e : FP.Core.b64.exps = 2048 := by decide
theorem b_q : FP.Core.b64.qmin = -1074 := by decide
theorem b_m : FP.Core.b64.qmax = 971 := by decide
theorem b_p : FP.Core.b64.p = 53 := rfl
theorem asm_e {s : Bool} {E T : Nat} : FP.Core.assemble FP.Core.b64 s E T = (s.toNat * 2048 + E) * 4503599627370496 + T := by
  unfold FP.Core.assemble
  rw [b_t, b_e]
theorem asm_b {s : Bool} {E T : Nat} (hE : E < 2047) (hT : T < 4503599627370496) : (s.toNat * 2048 + E) * 4503599627370496 + T < 18446744073709551616 := by
  have h : s.toNat ≤ 1 := by cases s <;> decide
  omega
theorem asm_d {s : Bool} {E T : Nat} (hE : E < 2047) (hT : T < 4503599627370496) : FP.Core.decode FP.Core.b64 ((s.toNat * 2048 + E) * 4503599627370496 + T) = if E = 0 then .fin s T (-1074) else .fin s (4503599627370496 + T) (-1074 + ((E : Int) - 1)) := by
  have h : s.toNat ≤ 1 := by cases s <;> decide
  have e1 : FP.Core.fieldE FP.Core.b64 ((s.toNat * 2048 + E) * 4503599627370496 + T) = E := by
    unfold FP.Core.fieldE
    rw [b_t, b_e]
    omega
  have e2 : FP.Core.fieldT FP.Core.b64 ((s.toNat * 2048 + E) * 4503599627370496 + T) = T := by
    unfold FP.Core.fieldT
    rw [b_t]
    omega
  have e3 : FP.Core.fieldS FP.Core.b64 ((s.toNat * 2048 + E) * 4503599627370496 + T) = s := by
    unfold FP.Core.fieldS
    rw [b_t, b_e]
    have e4 : ((s.toNat * 2048 + E) * 4503599627370496 + T) / 4503599627370496 / 2048 % 2 = s.toNat := by omega
    rw [e4]
    cases s <;> decide
  unfold FP.Core.decode
  rw [e1, e2, e3, b_t, b_e, b_q]
  rw [if_neg (by omega)]
theorem asm_n {s : Bool} {E T : Nat} (hE : E < 2047) (hT : T < 4503599627370496) : vf_n64 (UInt64.ofNat ((s.toNat * 2048 + E) * 4503599627370496 + T)) := by
  have h : s.toNat ≤ 1 := by cases s <;> decide
  unfold vf_n64
  rw [UInt64.le_iff_toNat_le, UInt64.toNat_and, UInt64.toNat_ofNat_of_lt' (asm_b hE hT)]
  rw [show (0x7fffffffffffffff : UInt64).toNat = 2 ^ 63 - 1 from by decide, Nat.and_two_pow_sub_one_eq_mod, show (0x7ff0000000000000 : UInt64).toNat = 9218868437227405312 from by decide]
  omega
/-- a zero (where z allows it), or a normal number with its last digit at lo .. hi -/
def fr (x : UInt64) (lo hi : Int) (z : Bool) : Prop := ∃ s c q, FP.Core.decode FP.Core.b64 x.toNat = .fin s c q ∧ ((z = true ∧ c = 0) ∨ (4503599627370496 ≤ c ∧ c < 9007199254740992 ∧ lo ≤ q ∧ q ≤ hi))
theorem enc_n {s : Bool} {c : Nat} {q : Int} (h1 : 4503599627370496 ≤ c) (h2 : c < 9007199254740992) (h3 : -1074 ≤ q) (h4 : q ≤ 971) : vf_n64 (UInt64.ofNat (FP.Core.encode FP.Core.b64 (.fin s c q))) ∧ FP.Core.decode FP.Core.b64 (UInt64.ofNat (FP.Core.encode FP.Core.b64 (.fin s c q))).toNat = .fin s c q := by
  have e : FP.Core.encode FP.Core.b64 (.fin s c q) = (s.toNat * 2048 + ((q - -1074).toNat + 1)) * 4503599627370496 + (c - 4503599627370496) := by
    unfold FP.Core.encode
    rw [b_t, b_q]
    dsimp only
    rw [if_neg (by omega), asm_e]
  have hE : (q - -1074).toNat + 1 < 2047 := by omega
  have hT : c - 4503599627370496 < 4503599627370496 := by omega
  rw [e]
  refine ⟨asm_n hE hT, ?_⟩
  rw [UInt64.toNat_ofNat_of_lt' (asm_b hE hT), asm_d hE hT, if_neg (by omega)]
  rw [show 4503599627370496 + (c - 4503599627370496) = c from by omega, show (-1074 + ((((q - -1074).toNat + 1 : Nat) : Int) - 1)) = q from by omega]
theorem enc_z {s : Bool} : vf_n64 (UInt64.ofNat (FP.Core.encode FP.Core.b64 (.fin s 0 (-1074)))) ∧ FP.Core.decode FP.Core.b64 (UInt64.ofNat (FP.Core.encode FP.Core.b64 (.fin s 0 (-1074)))).toNat = .fin s 0 (-1074) := by
  have e : FP.Core.encode FP.Core.b64 (.fin s 0 (-1074)) = (s.toNat * 2048 + 0) * 4503599627370496 + 0 := by
    unfold FP.Core.encode
    rw [b_t, b_q]
    dsimp only
    rw [if_pos (by omega), asm_e]
  rw [e]
  refine ⟨asm_n (by decide) (by decide), ?_⟩
  rw [UInt64.toNat_ofNat_of_lt' (asm_b (by decide) (by decide)), asm_d (by decide) (by decide), if_pos rfl]
theorem rr {s : Bool} {num den : Nat} {e k : Int} {t : Nat} (hn : 0 < num) (hd : 0 < den) (hl : FP.Core.leading num den = k) (ht : (t : Int) = 52 - k) (h1 : 4503599627370496 * den ≤ num * 2 ^ t) (h2 : num * 2 ^ t < 9007199254740992 * den) (hL : -1000 ≤ k + e ∧ k + e ≤ 900) :
    ∃ c q, FP.Core.roundRatio FP.Core.b64 s num den e = .fin s c q ∧ 4503599627370496 ≤ c ∧ c < 9007199254740992 ∧ k + e - 52 ≤ q ∧ q ≤ k + e - 51 := by
  have hq : FP.Core.quantum FP.Core.b64 num den e = k + e - 52 := by
    unfold FP.Core.quantum
    rw [hl, b_q, b_p]
    show max (-1074 : Int) (k + e - (((53 : Nat) : Int) - 1)) = _
    omega
  have eN : FP.Core.unitsNum num e (k + e - 52) = num * 2 ^ t := by
    unfold FP.Core.unitsNum
    rw [show (e - (k + e - 52)).toNat = t from by omega]
  have eM : FP.Core.unitsDen den e (k + e - 52) = den := by
    unfold FP.Core.unitsDen
    rw [show (k + e - 52 - e).toNat = 0 from by omega, Nat.pow_zero, Nat.mul_one]
  have d1 : 4503599627370496 ≤ num * 2 ^ t / den := (Nat.le_div_iff_mul_le hd).mpr h1
  have d2 : num * 2 ^ t / den < 9007199254740992 := (Nat.div_lt_iff_lt_mul hd).mpr h2
  obtain ⟨c0, hc⟩ : ∃ c0, c0 = FP.Core.nearest (num * 2 ^ t) den := ⟨_, rfl⟩
  have hc0 : 4503599627370496 ≤ c0 ∧ c0 ≤ 9007199254740992 := by
    rw [hc]
    unfold FP.Core.nearest
    split
    · omega
    · split
      · omega
      · omega
  have hr : FP.Core.roundRatio FP.Core.b64 s num den e = FP.Core.settle FP.Core.b64 s c0 (k + e - 52) := by
    unfold FP.Core.roundRatio FP.Core.roundAt
    rw [if_neg (by omega), hq, eN, eM, hc]
  rw [hr]
  unfold FP.Core.settle FP.Core.bound
  rw [b_p, b_m, b_t]
  by_cases z : c0 < 9007199254740992
  · rw [if_pos (show c0 < 2 ^ 53 from z), if_pos (by omega)]
    exact ⟨c0, _, rfl, hc0.1, z, by omega, by omega⟩
  · rw [if_neg (show ¬ c0 < 2 ^ 53 from z), if_pos (by omega)]
    exact ⟨_, _, rfl, by omega, by omega, by omega, by omega⟩
theorem log52 {c : Nat} (h1 : 4503599627370496 ≤ c) (h2 : c < 9007199254740992) : c.log2 = 52 := by
  have l1 := Nat.log2_self_le (n := c) (by omega)
  have l2 := Nat.lt_log2_self (n := c)
  rcases Nat.lt_trichotomy c.log2 52 with h | h | h
  · have := Nat.pow_le_pow_right (n := 2) (by decide) (show c.log2 + 1 ≤ 52 by omega)
    omega
  · exact h
  · have := Nat.pow_le_pow_right (n := 2) (by decide) (show 53 ≤ c.log2 by omega)
    omega
theorem dv {x y : UInt64} {lo hi lo' hi' : Int} {z : Bool} (hx : fr x lo hi z) (hy : fr y lo' hi' false) (h1 : -900 ≤ lo - hi') (h2 : hi - lo' ≤ 800) : vf_n64 (FP.ddiv x y) ∧ fr (FP.ddiv x y) (lo - hi' - 53) (hi - lo' - 51) z := by
  obtain ⟨s, c, q, ex, hc⟩ := hx
  obtain ⟨s', d, r, ey, hd⟩ := hy
  have hd' : 4503599627370496 ≤ d ∧ d < 9007199254740992 ∧ lo' ≤ r ∧ r ≤ hi' := by
    rcases hd with ⟨q1, -⟩ | q1
    · cases q1
    · exact q1
  have e : FP.ddiv x y = UInt64.ofNat (FP.Core.encode FP.Core.b64 (FP.Core.roundRatio FP.Core.b64 (s != s') c d (q - r))) := by
    show UInt64.ofNat (FP.Core.encode FP.Core.b64 (FP.Core.quotient FP.Core.b64 (FP.Core.decode FP.Core.b64 x.toNat) (FP.Core.decode FP.Core.b64 y.toNat))) = _
    rw [ex, ey]
    unfold FP.Core.quotient
    dsimp only
    rw [if_neg (by omega)]
  rw [e]
  rcases hc with ⟨hz, h0⟩ | hc
  · have er : FP.Core.roundRatio FP.Core.b64 (s != s') c d (q - r) = .fin (s != s') 0 (-1074) := by
      unfold FP.Core.roundRatio
      rw [if_pos h0, b_q]
    rw [er]
    exact ⟨enc_z.1, _, _, _, enc_z.2, Or.inl ⟨hz, rfl⟩⟩
  · have l1 := log52 hc.1 hc.2.1
    have l2 := log52 hd'.1 hd'.2.1
    have hk : (d ≤ c ∧ FP.Core.leading c d = 0) ∨ (c < d ∧ FP.Core.leading c d = -1) := by
      unfold FP.Core.leading
      rw [l1, l2]
      by_cases y1 : d ≤ c
      · refine Or.inl ⟨y1, ?_⟩
        show (if d * 2 ^ ((52 : Nat) - (52 : Nat) : Int).toNat ≤ c * 2 ^ (-((52 : Nat) - (52 : Nat) : Int)).toNat then (((52 : Nat) : Int) - ((52 : Nat) : Int)) else ((52 : Nat) : Int) - ((52 : Nat) : Int) - 1) = 0
        rw [show ((52 : Nat) - (52 : Nat) : Int) = 0 from by decide, show (-(0 : Int)).toNat = 0 from by decide, show (0 : Int).toNat = 0 from by decide, Nat.pow_zero, Nat.mul_one, Nat.mul_one, if_pos y1]
      · refine Or.inr ⟨by omega, ?_⟩
        show (if d * 2 ^ ((52 : Nat) - (52 : Nat) : Int).toNat ≤ c * 2 ^ (-((52 : Nat) - (52 : Nat) : Int)).toNat then (((52 : Nat) : Int) - ((52 : Nat) : Int)) else ((52 : Nat) : Int) - ((52 : Nat) : Int) - 1) = -1
        rw [show ((52 : Nat) - (52 : Nat) : Int) = 0 from by decide, show (-(0 : Int)).toNat = 0 from by decide, show (0 : Int).toNat = 0 from by decide, Nat.pow_zero, Nat.mul_one, Nat.mul_one, if_neg y1]
        decide
    rcases hk with ⟨y1, y2⟩ | ⟨y1, y2⟩
    · obtain ⟨c1, q1, er, g1, g2, g3, g4⟩ := rr (s := (s != s')) (num := c) (den := d) (e := q - r) (k := 0) (t := 52) (by omega) (by omega) y2 (by decide) (by omega) (by omega) (by omega)
      rw [er]
      have en := enc_n (s := (s != s')) (c := c1) (q := q1) g1 g2 (by omega) (by omega)
      exact ⟨en.1, _, _, _, en.2, Or.inr ⟨g1, g2, by omega, by omega⟩⟩
    · obtain ⟨c1, q1, er, g1, g2, g3, g4⟩ := rr (s := (s != s')) (num := c) (den := d) (e := q - r) (k := -1) (t := 53) (by omega) (by omega) y2 (by decide) (by omega) (by omega) (by omega)
      rw [er]
      have en := enc_n (s := (s != s')) (c := c1) (q := q1) g1 g2 (by omega) (by omega)
      exact ⟨en.1, _, _, _, en.2, Or.inr ⟨g1, g2, by omega, by omega⟩⟩
theorem l2d_fr {n : Int} (h : n.natAbs ≤ 1000000) : fr (FP.l2d (zL n)) (-52) (-32) (decide (n = 0)) := by
  have e : FP.l2d (zL n) = UInt64.ofNat (FP.Core.encode FP.Core.b64 (FP.Core.roundRatio FP.Core.b64 (decide (n < 0)) n.natAbs 1 0)) := by
    show UInt64.ofNat (FP.Core.encode FP.Core.b64 (FP.Core.round FP.Core.b64 (FP.Core.ofInt (zL n).toInt))) = _
    rw [zL_t (by omega) (by omega)]
    rfl
  rw [e]
  by_cases z : n = 0
  · subst z
    have er : FP.Core.roundRatio FP.Core.b64 (decide ((0 : Int) < 0)) (0 : Int).natAbs 1 0 = .fin (decide ((0 : Int) < 0)) 0 (-1074) := by
      unfold FP.Core.roundRatio
      rw [if_pos (by decide), b_q]
    rw [er]
    exact ⟨_, _, _, enc_z.2, Or.inl ⟨rfl, rfl⟩⟩
  · have l1 := Nat.log2_self_le (n := n.natAbs) (by omega)
    have l2 := Nat.lt_log2_self (n := n.natAbs)
    have l3 : n.natAbs.log2 ≤ 19 := by
      rcases Nat.lt_or_ge 19 n.natAbs.log2 with y | y
      · have := Nat.pow_le_pow_right (n := 2) (by decide) (show 20 ≤ n.natAbs.log2 by omega)
        omega
      · exact y
    obtain ⟨k, hk⟩ : ∃ k, k = n.natAbs.log2 := ⟨_, rfl⟩
    rw [← hk] at l1 l2 l3
    have hl : FP.Core.leading n.natAbs 1 = (k : Int) := by
      unfold FP.Core.leading
      rw [← hk]
      show (if 1 * 2 ^ (((k : Nat) : Int) - ((0 : Nat) : Int)).toNat ≤ n.natAbs * 2 ^ (-(((k : Nat) : Int) - ((0 : Nat) : Int))).toNat then (((k : Nat) : Int) - ((0 : Nat) : Int)) else ((k : Nat) : Int) - ((0 : Nat) : Int) - 1) = _
      rw [show (((k : Nat) : Int) - ((0 : Nat) : Int)).toNat = k from by omega, show (-(((k : Nat) : Int) - ((0 : Nat) : Int))).toNat = 0 from by omega, Nat.pow_zero, Nat.mul_one, Nat.one_mul, if_pos l1]
      omega
    have p1 : 2 ^ k * 2 ^ (52 - k) = 4503599627370496 := by rw [← Nat.pow_add, show k + (52 - k) = 52 from by omega]
    have p2 : 2 ^ (k + 1) * 2 ^ (52 - k) = 9007199254740992 := by rw [← Nat.pow_add, show k + 1 + (52 - k) = 53 from by omega]
    have p3 : 0 < 2 ^ (52 - k) := Nat.pow_pos (by decide)
    have m1 := Nat.mul_le_mul_right (2 ^ (52 - k)) l1
    have m2 := Nat.mul_lt_mul_of_pos_right l2 p3
    obtain ⟨c1, q1, er, g1, g2, g3, g4⟩ := rr (s := decide (n < 0)) (num := n.natAbs) (den := 1) (e := 0) (k := (k : Int)) (t := 52 - k) (by omega) (by decide) hl (by omega) (by omega) (by omega) (by omega)
    rw [er]
    have en := enc_n (s := decide (n < 0)) (c := c1) (q := q1) g1 g2 (by omega) (by omega)
    exact ⟨_, _, _, en.2, Or.inr ⟨g1, g2, by omega, by omega⟩⟩
/-- the speed as a double -/
def spD (T : Sg) (k : Nat) : UInt64 := FP.ddiv (FP.l2d (zL (T 0 k))) (FP.l2d (zL (T 1 k)))
theorem spD_fr {S T : Sg} (Ht : invT S T) {k : Nat} (hk : (k : Int) < S 0 0) : vf_n64 (spD T k) ∧ fr (spD T k) (-73) (-31) (decide (T 0 k = 0)) := by
  have tk := Ht.1 k hk
  have h2 := l2d_fr (n := T 1 k) (by omega)
  rw [decide_eq_false (show ¬ T 1 k = 0 by omega)] at h2
  exact dv (l2d_fr (n := T 0 k) (by omega)) h2 (by decide) (by decide)
theorem raD_n {S T : Sg} (Ht : invT S T) {a b : Nat} (ha : (a : Int) < S 0 0) (hb : (b : Int) < S 0 0) (h0 : T 0 b ≠ 0) : vf_n64 (FP.ddiv (spD T a) (spD T b)) := by
  have h2 := (spD_fr Ht hb).2
  rw [decide_eq_false h0] at h2
  exact (dv (spD_fr Ht ha).2 h2 (by decide) (by decide)).1
def cdRatio (S T : Sg) (p q : Int32) : Nat := if shQ S 0 p ∧ shQ S 0 q then (if T 2 (kN p) ≠ -1 ∧ T 2 (kN q) ≠ -1 ∧ T 0 (kN q) ≠ 0 then 0 else 2) else 1
def vlRatio (T : Sg) (p q : Int32) : UInt64 := FP.ddiv (spD T (kN p)) (spD T (kN q))
end DB
