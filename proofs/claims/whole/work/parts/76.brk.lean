/-! the reference's broken ties -/
section BK
variable {S T : Sg} {m : Nat}
theorem brkB_m : brkB S T 0 m = true ↔ ((∀ k, k < 2 → T 2 (saM S m k) ≠ -1) ∧ ¬ (fN (tX S T 0 m 1) (tY S T 0 m 1) = T 0 (saM S m 1) ∧ fD (tX S T 0 m 1) (tY S T 0 m 1) = T 1 (saM S m 1))) := brkB_t
theorem brkB_p : brkB S T 1 m = true ↔ ((∀ k, k < 3 → T 2 (saP S m k) ≠ -1) ∧ ¬ (fN (tX S T 1 m 2) (tY S T 1 m 2) = T 0 (saP S m 2) ∧ fD (tX S T 1 m 2) (tY S T 1 m 2) = T 1 (saP S m 2))) := brkB_t
theorem brk_m (Hi : invS S) (Ht : invT S T) (hm : (m : Int) < S 0 2) (h0 : T 2 (saM S m 0) ≠ -1) (h1 : T 2 (saM S m 1) ≠ -1) :
    brkB S T 0 m = decide (¬ T 0 (saM S m 0) * T 1 (saM S m 1) * S 5 (S 9 m).toNat = (if inner S m then T 0 (saM S m 1) * T 1 (saM S m 0) * S 5 (S 10 m).toNat else -(T 0 (saM S m 1) * T 1 (saM S m 0) * S 5 (S 10 m).toNat))) := by
  obtain ⟨a1, a2, a3, a4, a5⟩ := Hi.2.2.2.1 m hm
  have g1 := Hi.2.2.1 (S 9 m).toNat (by omega)
  have g2 := Hi.2.2.1 (S 10 m).toNat (by omega)
  have k1 : ((saM S m 1 : Nat) : Int) < S 0 0 := tSa_lt (b := 0) Hi (by decide) hm 1
  have t1 := Ht.1 _ k1
  have B := tie_bd (b := 0) Hi Ht (by decide) hm (pl := 1) (by decide)
  have e : (fN (tX S T 0 m 1) (tY S T 0 m 1) = T 0 (saM S m 1) ∧ fD (tX S T 0 m 1) (tY S T 0 m 1) = T 1 (saM S m 1)) ↔ tX S T 0 m 1 * T 1 (saM S m 1) = T 0 (saM S m 1) * tY S T 0 m 1 := by
    have q := f_same (a := tX S T 0 m 1) (b := tY S T 0 m 1) (c := T 0 (saM S m 1)) (d := T 1 (saM S m 1)) B.1 (by omega)
    rw [(f_id t1.2.1 t1.2.2.2.1).1, (f_id t1.2.1 t1.2.2.2.1).2] at q
    exact q
  have e2 : tX S T 0 m 1 * T 1 (saM S m 1) = T 0 (saM S m 1) * tY S T 0 m 1 ↔ T 0 (saM S m 0) * T 1 (saM S m 1) * S 5 (S 9 m).toNat = (if inner S m then T 0 (saM S m 1) * T 1 (saM S m 0) * S 5 (S 10 m).toNat else -(T 0 (saM S m 1) * T 1 (saM S m 0) * S 5 (S 10 m).toNat)) := by
    rw [mesh_X1, mesh_Y1, wtM1]
    by_cases z : inner S m
    · rw [if_pos z, if_pos z]
      constructor <;> intro h <;> grind
    · rw [if_neg z, if_neg z]
      constructor <;> intro h <;> grind
  have e3 : brkB S T 0 m = true ↔ ¬ T 0 (saM S m 0) * T 1 (saM S m 1) * S 5 (S 9 m).toNat = (if inner S m then T 0 (saM S m 1) * T 1 (saM S m 0) * S 5 (S 10 m).toNat else -(T 0 (saM S m 1) * T 1 (saM S m 0) * S 5 (S 10 m).toNat)) := by
    rw [brkB_m, ← e2, ← e]
    constructor
    · intro h; exact h.2
    · intro h
      refine ⟨fun k hk => ?_, h⟩
      have hk2 : k < 2 := hk
      rcases (show k = 0 ∨ k = 1 by omega) with rfl | rfl
      · exact h0
      · exact h1
  cases hc : brkB S T 0 m
  · exact (decide_eq_false (fun q => by rw [e3.mpr q] at hc; cases hc)).symm
  · exact (decide_eq_true (e3.mp hc)).symm
theorem brk_mf (h : T 2 (saM S m 0) = -1 ∨ T 2 (saM S m 1) = -1) : brkB S T 0 m = false := by
  cases hc : brkB S T 0 m
  · rfl
  · have q := (brkB_t.mp hc).1
    rcases h with h | h
    · exact absurd h (q 0 (by decide))
    · exact absurd h (q 1 (by decide))
theorem tc3 : tcN S T m 3 = 3 ↔ ∀ k, k < 3 → T 2 (saP S m k) ≠ -1 := by
  show ((0 + (if T 2 (saP S m 0) ≠ -1 then 1 else 0)) + (if T 2 (saP S m 1) ≠ -1 then 1 else 0)) + (if T 2 (saP S m 2) ≠ -1 then 1 else 0) = 3 ↔ _
  constructor
  · intro h k hk
    by_cases c0 : T 2 (saP S m 0) = -1
    · rw [if_neg (fun q => q c0)] at h; split at h <;> split at h <;> omega
    · by_cases c1 : T 2 (saP S m 1) = -1
      · rw [if_neg (c := T 2 (saP S m 1) ≠ -1) (fun q => q c1)] at h; split at h <;> split at h <;> omega
      · by_cases c2 : T 2 (saP S m 2) = -1
        · exact absurd h (by simp [c0, c1, c2])
        · rcases (show k = 0 ∨ k = 1 ∨ k = 2 by omega) with rfl | rfl | rfl
          · exact c0
          · exact c1
          · exact c2
  · intro h
    rw [if_pos (h 0 (by decide)), if_pos (h 1 (by decide)), if_pos (h 2 (by decide))]
theorem brk_pf (h : tcN S T m 3 < 3) : brkB S T 1 m = false := by
  cases hc : brkB S T 1 m
  · rfl
  · have q := tc3.mpr (brkB_t.mp hc).1
    omega
theorem brk_p (Hi : invS S) (Ht : invT S T) (hm : (m : Int) < S 0 3) (h3 : ∀ k, k < 3 → T 2 (saP S m k) ≠ -1) {s1 s2 x1 x2 : Int} (e1 : s1 = T 0 (saP S m 0) * S 14 m * T 1 (saP S m 1) + T 0 (saP S m 1) * S 15 m * T 1 (saP S m 0)) (e2 : s2 = T 1 (saP S m 0) * T 1 (saP S m 1)) (e3 : x1 = T 0 (saP S m 2) * (S 14 m + S 15 m)) (e4 : x2 = T 1 (saP S m 2)) :
    brkB S T 1 m = decide (¬ (fN x1 x2 = fN s1 s2 ∧ fD x1 x2 = fD s1 s2)) := by
  have ps := Hi.2.2.2.2 m hm
  have k0 : ((saP S m 0 : Nat) : Int) < S 0 0 := tSa_lt (b := 1) Hi (by decide) hm 0
  have k1 : ((saP S m 1 : Nat) : Int) < S 0 0 := tSa_lt (b := 1) Hi (by decide) hm 1
  have k2 : ((saP S m 2 : Nat) : Int) < S 0 0 := tSa_lt (b := 1) Hi (by decide) hm 2
  have t0 := Ht.1 _ k0
  have t1 := Ht.1 _ k1
  have t2 := Ht.1 _ k2
  have B := tie_bd (b := 1) Hi Ht (by decide) hm (pl := 2) (by decide)
  have d0 : T 1 (saP S m 0) ≠ 0 := by omega
  have d1 : T 1 (saP S m 1) ≠ 0 := by omega
  have d2 : T 1 (saP S m 2) ≠ 0 := by omega
  have e : (fN (tX S T 1 m 2) (tY S T 1 m 2) = T 0 (saP S m 2) ∧ fD (tX S T 1 m 2) (tY S T 1 m 2) = T 1 (saP S m 2)) ↔ tX S T 1 m 2 * T 1 (saP S m 2) = T 0 (saP S m 2) * tY S T 1 m 2 := by
    have q := f_same (a := tX S T 1 m 2) (b := tY S T 1 m 2) (c := T 0 (saP S m 2)) (d := T 1 (saP S m 2)) B.1 (by omega)
    rw [(f_id t2.2.1 t2.2.2.2.1).1, (f_id t2.2.1 t2.2.2.2.1).2] at q
    exact q
  have e5 : (fN x1 x2 = fN s1 s2 ∧ fD x1 x2 = fD s1 s2) ↔ x1 * s2 = s1 * x2 := f_same (by rw [e4]; exact d2) (by rw [e2]; exact Int.mul_ne_zero d0 d1)
  have e6 : tX S T 1 m 2 * T 1 (saP S m 2) = T 0 (saP S m 2) * tY S T 1 m 2 ↔ x1 * s2 = s1 * x2 := by
    rw [set_X2, set_Y2, e1, e2, e3, e4]
    constructor <;> intro h <;> grind
  have e7 : brkB S T 1 m = true ↔ ¬ (fN x1 x2 = fN s1 s2 ∧ fD x1 x2 = fD s1 s2) := by
    rw [brkB_p, e5, ← e6, ← e]
    exact ⟨fun h => h.2, fun h => ⟨h3, h⟩⟩
  cases hc : brkB S T 1 m
  · exact (decide_eq_false (fun q => by rw [e7.mpr q] at hc; cases hc)).symm
  · exact (decide_eq_true (e7.mp hc)).symm
end BK
def bN (b : Bool) : Nat := if b then 1 else 0
theorem bN_le {S : Sg} (Hi : invS S) (b : Bool) : S 0 (2 + bN b) ≤ 16 ∧ 0 ≤ S 0 (2 + bN b) := by
  have hi := Hi.1
  cases b
  · show S 0 2 ≤ 16 ∧ 0 ≤ S 0 2
    omega
  · show S 0 3 ≤ 16 ∧ 0 ≤ S 0 3
    omega
