def bldP (S : Sg) (Fs Fg Fm Fp Fn : Nat → Int32) : Prop := (2 ≤ S 0 0 ∧ S 0 0 ≤ 8) ∧ (Fn 0 = iL (S 0 0) ∧ Fn 2 = iL (S 0 2) ∧ Fn 3 = iL (S 0 3) ∧ Fn 4 = iL (S 0 4) ∧ (0 ≤ S 0 4 → Fn 5 = iL (S 0 5))) ∧ arS S (S 0 0).toNat Fs ∧ arG S (S 0 1).toNat Fg ∧ arM S (S 0 2).toNat Fm ∧ arP S (S 0 3).toNat Fp
theorem md_eq {u n d : Nat} (hu : u < n) (hd : d ≤ n) : (u + d) % n = if u + d < n then u + d else u + d - n := by
  split
  · rename_i h; exact Nat.mod_eq_of_lt h
  · rename_i h
    rw [Nat.mod_eq_sub_mod (by omega)]
    exact Nat.mod_eq_of_lt (by omega)
theorem at_1 {P : Prop} {M : Nat → Prop} {j : Nat} {b : Bool} (h : b = true ↔ P ∧ ∀ i, i < j → ¬ M i) (y : b = true) (n : ¬ M j) : true = true ↔ P ∧ ∀ i, i < j + 1 → ¬ M i :=
  ⟨fun _ => ⟨(h.mp y).1, fun i hi => (Nat.lt_succ_iff_lt_or_eq.mp hi).elim ((h.mp y).2 i) (fun e => by rw [e]; exact n)⟩, fun _ => rfl⟩
theorem at_0 {P : Prop} {M : Nat → Prop} {j : Nat} {b : Bool} (h : b = true ↔ P ∧ ∀ i, i < j → ¬ M i) (y : b = false) : false = true ↔ P ∧ ∀ i, i < j + 1 → ¬ M i :=
  ⟨fun q => (nomatch q), fun q => by rw [h.mpr ⟨q.1, fun i hi => q.2 i (by omega)⟩] at y; cases y⟩
theorem at_m {P : Prop} {M : Nat → Prop} {j : Nat} (n : M j) : false = true ↔ P ∧ ∀ i, i < j + 1 → ¬ M i :=
  ⟨fun q => (nomatch q), fun q => absurd n (q.2 j (by omega))⟩
