theorem modF_addPl {S : Sg} {Fm : Nat → Nat → Int32} {su ri ca s p t : Int32} {f8 : Nat → Int32} (Hf : modF S Fm) (Hi : invS S) (ht : t = iL (s.toInt + 2 * p.toInt)) (h8 : ∀ j, f8 j = if j = 5 * (S 0 3).toNat + 4 then t else if j = 5 * (S 0 3).toNat + 3 then s else if j = 5 * (S 0 3).toNat + 2 then ca else if j = 5 * (S 0 3).toNat + 1 then ri else if j = 5 * (S 0 3).toNat then su else Fm 8 j) : modF (nxAddPl S su ri ca s p) (up1 Fm 8 f8) := by
  have hi := Hi.1
  have e0 : nxAddPl S su ri ca s p 0 3 = S 0 3 + 1 := by unfold nxAddPl; rw [up2_k _ _ _ (by decide), up2_k _ _ _ (by decide), up2_k _ _ _ (by decide), up2_k _ _ _ (by decide), up2_k _ _ _ (by decide), up2_s]
  have e0' : ∀ i, i ≠ 3 → nxAddPl S su ri ca s p 0 i = S 0 i := fun i z => by unfold nxAddPl; rw [up2_k _ _ _ (by decide), up2_k _ _ _ (by decide), up2_k _ _ _ (by decide), up2_k _ _ _ (by decide), up2_k _ _ _ (by decide), up2_i _ _ _ z]
  have e11 : nxAddPl S su ri ca s p 11 (S 0 3).toNat = su.toInt := by unfold nxAddPl; rw [up2_k _ _ _ (by decide), up2_k _ _ _ (by decide), up2_k _ _ _ (by decide), up2_k _ _ _ (by decide), up2_s]
  have e12 : nxAddPl S su ri ca s p 12 (S 0 3).toNat = ri.toInt := by unfold nxAddPl; rw [up2_k _ _ _ (by decide), up2_k _ _ _ (by decide), up2_k _ _ _ (by decide), up2_s]
  have e13 : nxAddPl S su ri ca s p 13 (S 0 3).toNat = ca.toInt := by unfold nxAddPl; rw [up2_k _ _ _ (by decide), up2_k _ _ _ (by decide), up2_s]
  have e14 : nxAddPl S su ri ca s p 14 (S 0 3).toNat = s.toInt := by unfold nxAddPl; rw [up2_k _ _ _ (by decide), up2_s]
  have e15 : nxAddPl S su ri ca s p 15 (S 0 3).toNat = s.toInt + 2 * p.toInt := by unfold nxAddPl; rw [up2_s]
  have ei : ∀ f k : Nat, f ≠ 0 → k ≠ (S 0 3).toNat → nxAddPl S su ri ca s p f k = S f k := fun f k z z1 => by unfold nxAddPl; rw [up2_i _ _ _ z1, up2_i _ _ _ z1, up2_i _ _ _ z1, up2_i _ _ _ z1, up2_i _ _ _ z1, up2_k _ _ _ z]
  have eo : ∀ f k : Nat, f ≠ 0 → f < 11 → nxAddPl S su ri ca s p f k = S f k := fun f k z z1 => by unfold nxAddPl; rw [up2_k _ _ _ (by omega), up2_k _ _ _ (by omega), up2_k _ _ _ (by omega), up2_k _ _ _ (by omega), up2_k _ _ _ (by omega), up2_k _ _ _ z]
  refine ⟨fun k hk => ?_, fun k hk => ?_, fun k hk => ?_, fun k hk => ?_, fun k hk => ?_⟩
  · rw [e0' 0 (by decide)] at hk
    rw [eo 1 k (by decide) (by decide), eo 2 k (by decide) (by decide), eo 3 k (by decide) (by decide)]
    exact Hf.1 k hk
  · rw [e0' 1 (by decide)] at hk
    rw [eo 4 k (by decide) (by decide), eo 5 k (by decide) (by decide), eo 6 k (by decide) (by decide), eo 7 k (by decide) (by decide), eo 8 k (by decide) (by decide)]
    exact Hf.2.1 k hk
  · rw [e0' 2 (by decide)] at hk
    rw [eo 9 k (by decide) (by decide), eo 10 k (by decide) (by decide)]
    exact Hf.2.2.1 k hk
  · rw [e0] at hk
    show f8 (5 * k) = _ ∧ f8 (5 * k + 1) = _ ∧ f8 (5 * k + 2) = _ ∧ f8 (5 * k + 3) = _ ∧ f8 (5 * k + 4) = _
    by_cases z : k = (S 0 3).toNat
    · rw [z, e11, e12, e13, e14, e15, h8, h8, h8, h8, h8, iL_x, iL_x, iL_x, iL_x]
      refine ⟨?_, ?_, ?_, ?_, ?_⟩
      · rw [if_neg (by omega), if_neg (by omega), if_neg (by omega), if_neg (by omega), if_pos rfl]
      · rw [if_neg (by omega), if_neg (by omega), if_neg (by omega), if_pos rfl]
      · rw [if_neg (by omega), if_neg (by omega), if_pos rfl]
      · rw [if_neg (by omega), if_pos rfl]
      · rw [if_pos rfl, ht]
    · rw [ei 11 k (by decide) z, ei 12 k (by decide) z, ei 13 k (by decide) z, ei 14 k (by decide) z, ei 15 k (by decide) z, h8, h8, h8, h8, h8]
      have g : ∀ j, 5 * k ≤ j → j ≤ 5 * k + 4 → (if j = 5 * (S 0 3).toNat + 4 then t else if j = 5 * (S 0 3).toNat + 3 then s else if j = 5 * (S 0 3).toNat + 2 then ca else if j = 5 * (S 0 3).toNat + 1 then ri else if j = 5 * (S 0 3).toNat then su else Fm 8 j) = Fm 8 j := fun j j1 j2 => by rw [if_neg (by omega), if_neg (by omega), if_neg (by omega), if_neg (by omega), if_neg (by omega)]
      rw [g _ (by omega) (by omega), g _ (by omega) (by omega), g _ (by omega) (by omega), g _ (by omega) (by omega), g _ (by omega) (by omega)]
      exact Hf.2.2.2.1 k (by omega)
  · rw [e0' 0 (by decide)] at hk
    exact Hf.2.2.2.2 k hk
