theorem modF_mesh {S : Sg} {Fm : Nat → Nat → Int32} {a b : Int32} (Hf : modF S Fm) (Hi : invS S) : modF (nxMesh S a b) (up1 (up1 Fm 6 (upd (Fm 6) (iL (S 0 2)).toNatClampNeg a)) 7 (upd (Fm 7) (iL (S 0 2)).toNatClampNeg b)) := by
  have hi := Hi.1
  rw [iL_cl (by omega) (by omega)]
  have e0 : nxMesh S a b 0 2 = S 0 2 + 1 := by unfold nxMesh; rw [up2_k _ _ _ (by decide), up2_k _ _ _ (by decide), up2_s]
  have e0' : ∀ i, i ≠ 2 → nxMesh S a b 0 i = S 0 i := fun i z => by unfold nxMesh; rw [up2_k _ _ _ (by decide), up2_k _ _ _ (by decide), up2_i _ _ _ z]
  have e9 : nxMesh S a b 9 (S 0 2).toNat = a.toInt := by unfold nxMesh; rw [up2_k _ _ _ (by decide), up2_s]
  have e10 : nxMesh S a b 10 (S 0 2).toNat = b.toInt := by unfold nxMesh; rw [up2_s]
  have eo : ∀ f k : Nat, f ≠ 0 → f ≠ 9 → f ≠ 10 → nxMesh S a b f k = S f k := by intro f k z1 z2 z3; unfold nxMesh; rw [up2_k _ _ _ z3, up2_k _ _ _ z2, up2_k _ _ _ z1]
  have ei : ∀ f k : Nat, f ≠ 0 → k ≠ (S 0 2).toNat → nxMesh S a b f k = S f k := by intro f k z z1; unfold nxMesh; rw [up2_i _ _ _ z1, up2_i _ _ _ z1, up2_k _ _ _ z]
  refine ⟨fun k hk => ?_, fun k hk => ?_, fun k hk => ?_, fun k hk => ?_, fun k hk => ?_⟩
  · rw [e0' 0 (by decide)] at hk
    rw [eo 1 k (by decide) (by decide) (by decide), eo 2 k (by decide) (by decide) (by decide), eo 3 k (by decide) (by decide) (by decide)]
    exact Hf.1 k hk
  · rw [e0' 1 (by decide)] at hk
    rw [eo 4 k (by decide) (by decide) (by decide), eo 5 k (by decide) (by decide) (by decide), eo 6 k (by decide) (by decide) (by decide), eo 7 k (by decide) (by decide) (by decide), eo 8 k (by decide) (by decide) (by decide)]
    exact Hf.2.1 k hk
  · rw [e0] at hk
    show upd (Fm 6) (S 0 2).toNat a k = _ ∧ upd (Fm 7) (S 0 2).toNat b k = _
    by_cases z : k = (S 0 2).toNat
    · rw [z, upd_sx, upd_sx, e9, e10, iL_x, iL_x]; exact ⟨rfl, rfl⟩
    · rw [upd_nx z, upd_nx z, ei 9 k (by decide) z, ei 10 k (by decide) z]
      exact Hf.2.2.1 k (by omega)
  · rw [e0' 3 (by decide)] at hk
    rw [eo 11 k (by decide) (by decide) (by decide), eo 12 k (by decide) (by decide) (by decide), eo 13 k (by decide) (by decide) (by decide), eo 14 k (by decide) (by decide) (by decide), eo 15 k (by decide) (by decide) (by decide)]
    exact Hf.2.2.2.1 k hk
  · rw [e0' 0 (by decide)] at hk
    exact Hf.2.2.2.2 k hk
