section MS
variable {S T : Sg} {m : Nat}
theorem mesh_X1 : tX S T 0 m 1 = -(S 5 (S 9 m).toNat * T 0 (saM S m 0)) := by
  show -(0 * T 1 (saM S m 0) + wtM S m 0 * T 0 (saM S m 0) * 1) = _
  rw [Int.zero_mul, Int.zero_add, Int.mul_one]; rfl
theorem mesh_Y1 : tY S T 0 m 1 = wtM S m 1 * T 1 (saM S m 0) := by
  show wtM S m 1 * (1 * T 1 (saM S m 0)) = _
  rw [Int.one_mul]
theorem mesh_X0 : tX S T 0 m 0 = -(wtM S m 1 * T 0 (saM S m 1)) := by
  show -(0 * T 1 (saM S m 1) + wtM S m 1 * T 0 (saM S m 1) * 1) = _
  rw [Int.zero_mul, Int.zero_add, Int.mul_one]
theorem mesh_Y0 : tY S T 0 m 0 = S 5 (S 9 m).toNat * T 1 (saM S m 1) := by
  show wtM S m 0 * (1 * T 1 (saM S m 1)) = _
  rw [Int.one_mul]; rfl
theorem wtM1 : wtM S m 1 = if inner S m then -S 5 (S 10 m).toNat else S 5 (S 10 m).toNat := rfl
theorem mesh_s1 (Hi : invS S) (Ht : invT S T) (hm : (m : Int) < S 0 2) {sg : Int} (hs : (inner S m ∧ sg = 1) ∨ (¬ inner S m ∧ sg = -1)) :
    fN (sg * T 0 (saM S m 0) * S 5 (S 9 m).toNat) (T 1 (saM S m 0) * S 5 (S 10 m).toNat) = fN (tX S T 0 m 1) (tY S T 0 m 1) ∧ fD (sg * T 0 (saM S m 0) * S 5 (S 9 m).toNat) (T 1 (saM S m 0) * S 5 (S 10 m).toNat) = fD (tX S T 0 m 1) (tY S T 0 m 1) := by
  obtain ⟨a1, a2, a3, a4, a5⟩ := Hi.2.2.2.1 m hm
  have g1 := Hi.2.2.1 (S 9 m).toNat (by omega)
  have g2 := Hi.2.2.1 (S 10 m).toNat (by omega)
  have hk : ((saM S m 0 : Nat) : Int) < S 0 0 := tSa_lt (b := 0) Hi (by decide) hm 0
  have t1 := Ht.1 _ hk
  have B : tY S T 0 m 1 ≠ 0 := (tie_bd (b := 0) Hi Ht (by decide) hm (pl := 1) (by decide)).1
  refine (f_same (Int.mul_ne_zero (by omega) (by omega)) B).mpr ?_
  rw [mesh_X1, mesh_Y1, wtM1]
  rcases hs with ⟨h1, rfl⟩ | ⟨h1, rfl⟩
  · rw [if_pos h1]; grind
  · rw [if_neg h1]; grind
theorem mesh_s0 (Hi : invS S) (Ht : invT S T) (hm : (m : Int) < S 0 2) {sg : Int} (hs : (inner S m ∧ sg = 1) ∨ (¬ inner S m ∧ sg = -1)) :
    fN (sg * T 0 (saM S m 1) * S 5 (S 10 m).toNat) (T 1 (saM S m 1) * S 5 (S 9 m).toNat) = fN (tX S T 0 m 0) (tY S T 0 m 0) ∧ fD (sg * T 0 (saM S m 1) * S 5 (S 10 m).toNat) (T 1 (saM S m 1) * S 5 (S 9 m).toNat) = fD (tX S T 0 m 0) (tY S T 0 m 0) := by
  obtain ⟨a1, a2, a3, a4, a5⟩ := Hi.2.2.2.1 m hm
  have g1 := Hi.2.2.1 (S 9 m).toNat (by omega)
  have g2 := Hi.2.2.1 (S 10 m).toNat (by omega)
  have hk : ((saM S m 1 : Nat) : Int) < S 0 0 := tSa_lt (b := 0) Hi (by decide) hm 1
  have t1 := Ht.1 _ hk
  have B : tY S T 0 m 0 ≠ 0 := (tie_bd (b := 0) Hi Ht (by decide) hm (pl := 0) (by decide)).1
  refine (f_same (Int.mul_ne_zero (by omega) (by omega)) B).mpr ?_
  rw [mesh_X0, mesh_Y0, wtM1]
  rcases hs with ⟨h1, rfl⟩ | ⟨h1, rfl⟩
  · rw [if_pos h1]; grind
  · rw [if_neg h1]; grind
theorem set_X0 : tX S T 1 m 0 = -(S 15 m * T 0 (saP S m 1) * T 1 (saP S m 2) + -(S 14 m + S 15 m) * T 0 (saP S m 2) * T 1 (saP S m 1)) := by
  show -((0 * T 1 (saP S m 1) + S 15 m * T 0 (saP S m 1) * 1) * T 1 (saP S m 2) + -(S 14 m + S 15 m) * T 0 (saP S m 2) * (1 * T 1 (saP S m 1))) = _
  rw [Int.zero_mul, Int.zero_add, Int.mul_one, Int.one_mul]
theorem set_Y0 : tY S T 1 m 0 = S 14 m * (T 1 (saP S m 1) * T 1 (saP S m 2)) := by
  show S 14 m * (1 * T 1 (saP S m 1) * T 1 (saP S m 2)) = _
  rw [Int.one_mul]
theorem set_X1 : tX S T 1 m 1 = -(S 14 m * T 0 (saP S m 0) * T 1 (saP S m 2) + -(S 14 m + S 15 m) * T 0 (saP S m 2) * T 1 (saP S m 0)) := by
  show -((0 * T 1 (saP S m 0) + S 14 m * T 0 (saP S m 0) * 1) * T 1 (saP S m 2) + -(S 14 m + S 15 m) * T 0 (saP S m 2) * (1 * T 1 (saP S m 0))) = _
  rw [Int.zero_mul, Int.zero_add, Int.mul_one, Int.one_mul]
theorem set_Y1 : tY S T 1 m 1 = S 15 m * (T 1 (saP S m 0) * T 1 (saP S m 2)) := by
  show S 15 m * (1 * T 1 (saP S m 0) * T 1 (saP S m 2)) = _
  rw [Int.one_mul]
theorem set_X2 : tX S T 1 m 2 = -(S 14 m * T 0 (saP S m 0) * T 1 (saP S m 1) + S 15 m * T 0 (saP S m 1) * T 1 (saP S m 0)) := by
  show -((0 * T 1 (saP S m 0) + S 14 m * T 0 (saP S m 0) * 1) * T 1 (saP S m 1) + S 15 m * T 0 (saP S m 1) * (1 * T 1 (saP S m 0))) = _
  rw [Int.zero_mul, Int.zero_add, Int.mul_one, Int.one_mul]
theorem set_Y2 : tY S T 1 m 2 = -(S 14 m + S 15 m) * (T 1 (saP S m 0) * T 1 (saP S m 1)) := by
  show -(S 14 m + S 15 m) * (1 * T 1 (saP S m 0) * T 1 (saP S m 1)) = _
  rw [Int.one_mul]
end MS
section BK
variable {S T : Sg} {m : Nat}
theorem brkB_m : brkB S T 0 m = true ↔ ((∀ k, k < 2 → T 2 (saM S m k) ≠ -1) ∧ ¬ (fN (tX S T 0 m 1) (tY S T 0 m 1) = T 0 (saM S m 1) ∧ fD (tX S T 0 m 1) (tY S T 0 m 1) = T 1 (saM S m 1))) := brkB_t
theorem brkB_p : brkB S T 1 m = true ↔ ((∀ k, k < 3 → T 2 (saP S m k) ≠ -1) ∧ ¬ (fN (tX S T 1 m 2) (tY S T 1 m 2) = T 0 (saP S m 2) ∧ fD (tX S T 1 m 2) (tY S T 1 m 2) = T 1 (saP S m 2))) := brkB_t
theorem brk_mf (h : T 2 (saM S m 0) = -1 ∨ T 2 (saM S m 1) = -1) : brkB S T 0 m = false := by
  cases hc : brkB S T 0 m
  · rfl
  · have q := (brkB_t.mp hc).1
    rcases h with h | h
    · exact absurd h (q 0 (by decide))
    · exact absurd h (q 1 (by decide))
theorem eq_pl (Hi : invS S) (Ht : invT S T) {b pl : Nat} (hb : b < 2) (hm : (m : Int) < S 0 (2 + b)) (hpl : pl < tN b) : (fN (tX S T b m pl) (tY S T b m pl) = T 0 (tSa S b m pl) ∧ fD (tX S T b m pl) (tY S T b m pl) = T 1 (tSa S b m pl)) ↔ tX S T b m pl * T 1 (tSa S b m pl) = T 0 (tSa S b m pl) * tY S T b m pl := by
  have t0 := Ht.1 _ (tSa_lt Hi hb hm pl)
  have q := f_same (a := tX S T b m pl) (b := tY S T b m pl) (c := T 0 (tSa S b m pl)) (d := T 1 (tSa S b m pl)) (tie_bd Hi Ht hb hm hpl).1 (by omega)
  rw [(f_id t0.2.1 t0.2.2.2.1).1, (f_id t0.2.1 t0.2.2.2.1).2] at q
  exact q
/-- the law's equation of a mesh -/
def sgI (S : Sg) (m : Nat) : Int := if inner S m then 1 else -1
def lawM (S T : Sg) (m : Nat) : Prop := T 0 (saM S m 0) * S 5 (S 9 m).toNat * T 1 (saM S m 1) = sgI S m * T 0 (saM S m 1) * S 5 (S 10 m).toNat * T 1 (saM S m 0)
theorem eq_m1 (Hi : invS S) (Ht : invT S T) (hm : (m : Int) < S 0 2) : (fN (tX S T 0 m 1) (tY S T 0 m 1) = T 0 (saM S m 1) ∧ fD (tX S T 0 m 1) (tY S T 0 m 1) = T 1 (saM S m 1)) ↔ lawM S T m := by
  have q := eq_pl (b := 0) (pl := 1) Hi Ht (by decide) hm (by decide)
  have q2 : (fN (tX S T 0 m 1) (tY S T 0 m 1) = T 0 (saM S m 1) ∧ fD (tX S T 0 m 1) (tY S T 0 m 1) = T 1 (saM S m 1)) ↔ tX S T 0 m 1 * T 1 (saM S m 1) = T 0 (saM S m 1) * tY S T 0 m 1 := q
  rw [q2, mesh_X1, mesh_Y1, wtM1]
  unfold lawM sgI
  by_cases z : inner S m
  · rw [if_pos z, if_pos z]
    constructor <;> intro h <;> grind
  · rw [if_neg z, if_neg z]
    constructor <;> intro h <;> grind
theorem eq_m0 (Hi : invS S) (Ht : invT S T) (hm : (m : Int) < S 0 2) : (fN (tX S T 0 m 0) (tY S T 0 m 0) = T 0 (saM S m 0) ∧ fD (tX S T 0 m 0) (tY S T 0 m 0) = T 1 (saM S m 0)) ↔ lawM S T m := by
  have q := eq_pl (b := 0) (pl := 0) Hi Ht (by decide) hm (by decide)
  have q2 : (fN (tX S T 0 m 0) (tY S T 0 m 0) = T 0 (saM S m 0) ∧ fD (tX S T 0 m 0) (tY S T 0 m 0) = T 1 (saM S m 0)) ↔ tX S T 0 m 0 * T 1 (saM S m 0) = T 0 (saM S m 0) * tY S T 0 m 0 := q
  rw [q2, mesh_X0, mesh_Y0, wtM1]
  unfold lawM sgI
  by_cases z : inner S m
  · rw [if_pos z, if_pos z]
    constructor <;> intro h <;> grind
  · rw [if_neg z, if_neg z]
    constructor <;> intro h <;> grind
theorem brk_law (Hi : invS S) (Ht : invT S T) (hm : (m : Int) < S 0 2) : brkB S T 0 m = true ↔ ((∀ k, k < 2 → T 2 (saM S m k) ≠ -1) ∧ ¬ lawM S T m) := by
  rw [brkB_m, eq_m1 Hi Ht hm]
/-- the equation of a set, by places -/
def lawP (S T : Sg) (m : Nat) : Prop := S 14 m * T 0 (saP S m 0) * T 1 (saP S m 1) * T 1 (saP S m 2) + S 15 m * T 0 (saP S m 1) * T 1 (saP S m 0) * T 1 (saP S m 2) = (S 14 m + S 15 m) * T 0 (saP S m 2) * T 1 (saP S m 0) * T 1 (saP S m 1)
theorem eq_p (Hi : invS S) (Ht : invT S T) (hm : (m : Int) < S 0 3) {pl : Nat} (hpl : pl < 3) : (fN (tX S T 1 m pl) (tY S T 1 m pl) = T 0 (saP S m pl) ∧ fD (tX S T 1 m pl) (tY S T 1 m pl) = T 1 (saP S m pl)) ↔ lawP S T m := by
  have q := eq_pl (b := 1) (pl := pl) Hi Ht (by decide) hm hpl
  have q2 : (fN (tX S T 1 m pl) (tY S T 1 m pl) = T 0 (saP S m pl) ∧ fD (tX S T 1 m pl) (tY S T 1 m pl) = T 1 (saP S m pl)) ↔ tX S T 1 m pl * T 1 (saP S m pl) = T 0 (saP S m pl) * tY S T 1 m pl := q
  rw [q2]
  unfold lawP
  rcases (show pl = 0 ∨ pl = 1 ∨ pl = 2 by omega) with rfl | rfl | rfl
  · rw [set_X0, set_Y0]
    constructor <;> intro h <;> grind
  · rw [set_X1, set_Y1]
    constructor <;> intro h <;> grind
  · rw [set_X2, set_Y2]
    constructor <;> intro h <;> grind
theorem brk_set (Hi : invS S) (Ht : invT S T) (hm : (m : Int) < S 0 3) : brkB S T 1 m = true ↔ ((∀ k, k < 3 → T 2 (saP S m k) ≠ -1) ∧ ¬ lawP S T m) := by
  rw [brkB_p, eq_p Hi Ht hm (by decide)]
/-- a mesh that told k, as the law asks for it -/
def byM (S T : Sg) (m k : Nat) : Prop := (∀ j, j < 2 → T 2 (saM S m j) ≠ -1) ∧ lawM S T m ∧ ((k = saM S m 1 ∧ T 2 (saM S m 1) = T 2 (saM S m 0) + 1) ∨ (k = saM S m 0 ∧ T 2 (saM S m 0) = T 2 (saM S m 1) + 1))
/-- the place of the greatest stage of a set: the first one -/
def latP (S T : Sg) (m : Nat) : Nat → Nat
  | 0 => 0
  | i + 1 => if T 2 (saP S m (latP S T m i)) < T 2 (saP S m i) then i else latP S T m i
def byP (S T : Sg) (m k : Nat) : Prop := (∀ j, j < 3 → T 2 (saP S m j) ≠ -1) ∧ lawP S T m ∧ k = saP S m (latP S T m 3)
theorem latP_lt (m : Nat) : ∀ i, i ≤ 3 → latP S T m i < 3 := by
  intro i
  induction i with
  | zero => intro _; exact (by decide : 0 < 3)
  | succ i ih =>
    intro h
    show (if T 2 (saP S m (latP S T m i)) < T 2 (saP S m i) then i else latP S T m i) < 3
    have := ih (by omega)
    split <;> omega
theorem latP_top {pl : Nat} (hpl : pl < 3) (h : ∀ j, j < 3 → j ≠ pl → T 2 (saP S m j) + 1 ≤ T 2 (saP S m pl)) : latP S T m 3 = pl := by
  have key : ∀ i, i ≤ 3 → (pl < i → latP S T m i = pl) ∧ (latP S T m i < 3) := by
    intro i
    induction i with
    | zero => intro _; exact ⟨fun q => absurd q (Nat.not_lt_zero pl), latP_lt m 0 (Nat.zero_le 3)⟩
    | succ i ih =>
      intro hi
      obtain ⟨i1, i2⟩ := ih (by omega)
      have e : latP S T m (i + 1) = if T 2 (saP S m (latP S T m i)) < T 2 (saP S m i) then i else latP S T m i := rfl
      refine ⟨fun q => ?_, latP_lt m (i + 1) hi⟩
      rw [e]
      rcases Nat.lt_succ_iff_lt_or_eq.mp q with z | z
      · rw [i1 z, if_neg (fun y => by have := h i (by omega) (by omega); omega)]
      · rw [← z]
        rcases Nat.decEq (latP S T m pl) pl with y | y
        · rw [← z] at i2
          have := h (latP S T m pl) i2 y
          rw [if_pos (by omega)]
        · rw [y, if_neg (by omega)]
  exact (key 3 (Nat.le_refl _)).1 hpl
/-- each told shaft is the driver, a held one, or told as the law asks for it -/
theorem told_by (Hi : invS S) (Ht : invT S T) (W : witI S T) {k : Nat} (hk : (k : Int) < S 0 0) (ht : T 2 k ≠ -1) : bas S k ∨ (∃ m : Nat, (m : Int) < S 0 2 ∧ byM S T m k) ∨ ∃ m : Nat, (m : Int) < S 0 3 ∧ byP S T m k := by
  rcases W.2.1 k hk ht with q | ⟨b, m, pl, hb, hm, h1, h2, h3, h4, h5, j, h6, h7, h8⟩
  · exact Or.inl q
  · match b, hb with
    | 0, _ =>
      have hm2 : (m : Int) < S 0 2 := hm
      have h1' : pl < 2 := h1
      have h6' : j < 2 := h6
      have h2' : saM S m pl = k := h2
      have h3' : ∀ j, j < 2 → T 2 (saM S m j) ≠ -1 := h3
      have h8' : T 2 (saM S m j) + 1 = T 2 k := h8
      have h4' : fN (tX S T 0 m pl) (tY S T 0 m pl) = T 0 k ∧ fD (tX S T 0 m pl) (tY S T 0 m pl) = T 1 k := h4
      rw [← h2'] at h4' h8'
      refine Or.inr (Or.inl ⟨m, hm2, h3', ?_, ?_⟩)
      · rcases (show pl = 0 ∨ pl = 1 by omega) with rfl | rfl
        · exact (eq_m0 Hi Ht hm2).mp h4'
        · exact (eq_m1 Hi Ht hm2).mp h4'
      · rcases (show pl = 0 ∨ pl = 1 by omega) with rfl | rfl
        · have : j = 1 := by omega
          rw [this] at h8'
          exact Or.inr ⟨h2'.symm, h8'.symm⟩
        · have : j = 0 := by omega
          rw [this] at h8'
          exact Or.inl ⟨h2'.symm, h8'.symm⟩
    | 1, _ =>
      have hm2 : (m : Int) < S 0 3 := hm
      have h1' : pl < 3 := h1
      have h2' : saP S m pl = k := h2
      have h3' : ∀ j, j < 3 → T 2 (saP S m j) ≠ -1 := h3
      have h5' : ∀ j, j < 3 → j ≠ pl → T 2 (saP S m j) + 1 ≤ T 2 k := h5
      have h4' : fN (tX S T 1 m pl) (tY S T 1 m pl) = T 0 k ∧ fD (tX S T 1 m pl) (tY S T 1 m pl) = T 1 k := h4
      rw [← h2'] at h4' h5'
      refine Or.inr (Or.inr ⟨m, hm2, h3', (eq_p Hi Ht hm2 h1').mp h4', ?_⟩)
      rw [latP_top h1' h5', h2']
/-- a mesh with just one told shaft would tell what is too great -/
theorem mesh_big (Hi : invS S) (W : witI S T) (hs : step S T = none) {pl : Nat} (hm : (m : Int) < S 0 2) (hu : tUnk S T 0 m pl) : bigF (tX S T 0 m pl) (tY S T 0 m pl) := by
  obtain ⟨p, h1, h2, h3⟩ := W.2.2 0 m (by decide) hm (step_no (b := 0) Hi hs (by decide) hm hu)
  rcases Nat.decEq pl p with q | q
  · exact absurd hu.2.1 (h2 pl hu.1 q)
  · rw [q]; exact h3
end BK
