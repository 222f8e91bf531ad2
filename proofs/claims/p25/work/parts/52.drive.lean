/-! drive, hold, unmesh: the bench just before speeds are told anew -/
def cdDrive (S : Sg) (p v : Int32) : Nat := if shQ S 0 p then (if inQ v (-1000) 1000 then 0 else 2) else 1
def vlDrive (S : Sg) : Int32 := iL (S 0 4)
def nxDrive (S : Sg) (p v : Int32) : Sg := up2 (up2 (up2 S 0 4 (kN p)) 0 5 v.toInt) 3 (kN p) 0
def cdHold (S : Sg) (p : Int32) : Nat := if shQ S 0 p then (if p.toInt = S 0 4 then 2 else 0) else 1
def vlHold (S : Sg) (p : Int32) : Bool := decide (S 3 (kN p) = 1)
def nxHold (S : Sg) (p : Int32) (b : Bool) : Sg := up2 S 3 (kN p) (if b then 1 else 0)
def cdUnmesh (S : Sg) : Nat := if S 0 2 = 0 then 1 else 0
def vlUnmesh (S : Sg) : Int32 := iL (S 0 2 - 1)
def nxUnmesh (S : Sg) : Sg := up2 S 0 2 (S 0 2 - 1)
section DRV
variable {G : g_C} {S S' T T' : Sg} {w w' w1 w2 : g_W} {ad : Nat → Nat → Nat} {Cn C1 : Nat → Nat → Option va_E} {p v : Int32}
/-- the same bench with other numbers where the cells show them -/
theorem rep_same (Hi : invS S) (hr : rep G S T ad Cn) (hS : ∀ f k, relF S f k → f ≠ 0 → f ≠ 3 → S' f k = S f k) (hS0 : ∀ i, i < 4 → S' 0 i = S 0 i) (hC : ∀ a b, a ≠ 0 → a ≠ 3 → C1 a b = Cn a b)
    (h0 : C1 0 0 = some (.inr (7, [.ref (ad 1 0), .ref (ad 1 1), .ref (ad 1 2), .ref (ad 1 3), .int (iL (S' 0 4)), .int (iL (S' 0 5))]))) (h3 : ∀ k : Nat, (k : Int) < S 0 0 → C1 3 k = some (.inr (5, [.int (iL (S 1 k)), .int (iL (S 2 k)), .int (iL (S' 3 k)), .int (iL (T 2 k)), .ref (ad 4 k)]))) : rep G S' T ad C1 := by
  obtain ⟨r0, r1, r2, r3, r4, r5⟩ := hr
  have hi := Hi.1
  refine ⟨h0, fun j hj => ?_, fun k hk => ?_, fun k hk => ?_, fun k hk => ?_, fun k hk => ?_⟩
  · rw [hS0 j hj]; exact listR_congr (r1 j hj) (hC _ _ (by decide) (by decide)) (hC _ _ (by decide) (by decide))
  · rw [hS0 0 (by decide)] at hk
    rw [h3 k hk, hC 4 k (by decide) (by decide), hS 1 k (by unfold relF; omega) (by decide) (by decide), hS 2 k (by unfold relF; omega) (by decide) (by decide)]
    exact ⟨rfl, (r2 k hk).2⟩
  · rw [hS0 1 (by decide)] at hk
    rw [hC 5 k (by decide) (by decide), hS 4 k (by unfold relF; omega) (by decide) (by decide), hS 5 k (by unfold relF; omega) (by decide) (by decide), hS 6 k (by unfold relF; omega) (by decide) (by decide), hS 7 k (by unfold relF; omega) (by decide) (by decide), hS 8 k (by unfold relF; omega) (by decide) (by decide)]
    exact r3 k hk
  · rw [hS0 2 (by decide)] at hk
    obtain ⟨a1, a2, a3, a4, -⟩ := Hi.2.2.2.1 k hk
    have f9 := hS 9 k (by unfold relF; omega) (by decide) (by decide)
    have f10 := hS 10 k (by unfold relF; omega) (by decide) (by decide)
    have s1 : saM S' k = saM S k := by
      funext i; unfold saM
      rw [f9, f10, hS 4 (S 9 k).toNat (by unfold relF; omega) (by decide) (by decide), hS 4 (S 10 k).toNat (by unfold relF; omega) (by decide) (by decide)]
    have s2 : wtM S' k = wtM S k := by
      funext i; unfold wtM
      rw [f9, f10, hS 5 (S 9 k).toNat (by unfold relF; omega) (by decide) (by decide), hS 5 (S 10 k).toNat (by unfold relF; omega) (by decide) (by decide), hS 8 (S 9 k).toNat (by unfold relF; omega) (by decide) (by decide), hS 8 (S 10 k).toNat (by unfold relF; omega) (by decide) (by decide)]
    rw [s1, s2, f9, f10, hC 6 k (by decide) (by decide)]
    exact ⟨(r4 k hk).1, tieR_congr (r4 k hk).2 (hC _ _ (by decide) (by decide)) (hC _ _ (by decide) (by decide)) (fun i hi => hC _ _ (by omega) (by omega)) (Or.inl (hC _ _ (by decide) (by decide)))⟩
  · rw [hS0 3 (by decide)] at hk
    have g : ∀ f, 11 ≤ f → f ≤ 15 → S' f k = S f k := fun f z1 z2 => hS f k (by unfold relF; omega) (by omega) (by omega)
    have s1 : saP S' k = saP S k := by
      funext i; unfold saP
      rw [g 11 (by decide) (by decide), g 12 (by decide) (by decide), g 13 (by decide) (by decide)]
    have s2 : wtP S' k = wtP S k := by
      funext i; unfold wtP
      rw [g 14 (by decide) (by decide), g 15 (by decide) (by decide)]
    rw [s1, s2, g 14 (by decide) (by decide), g 15 (by decide) (by decide), hC 11 k (by decide) (by decide)]
    exact ⟨(r5 k hk).1, tieR_congr (r5 k hk).2 (hC _ _ (by decide) (by decide)) (hC _ _ (by decide) (by decide)) (fun i hi => hC _ _ (by omega) (by omega)) (Or.inl (hC _ _ (by decide) (by decide)))⟩
theorem inv_same (Hi : invS S) (hS : ∀ f k, relF S f k → f ≠ 0 → f ≠ 3 → S' f k = S f k) (hS0 : ∀ i, i < 4 → S' 0 i = S 0 i) (h4 : -1 ≤ S' 0 4 ∧ S' 0 4 < S 0 0 ∧ -1000 ≤ S' 0 5 ∧ S' 0 5 ≤ 1000) (h3 : ∀ k : Nat, (k : Int) < S 0 0 → S' 3 k = 0 ∨ S' 3 k = 1) : invS S' := by
  have hi := Hi.1
  refine ⟨by rw [hS0 0 (by decide), hS0 1 (by decide), hS0 2 (by decide), hS0 3 (by decide)]; omega, fun k hk => ?_, fun k hk => ?_, fun k hk => ?_, fun k hk => ?_⟩
  · rw [hS0 0 (by decide)] at hk
    have g := Hi.2.1 k hk
    rw [hS 1 k (by unfold relF; omega) (by decide) (by decide), hS 2 k (by unfold relF; omega) (by decide) (by decide)]
    exact ⟨g.1, g.2.1, g.2.2.1, g.2.2.2.1, h3 k hk⟩
  · rw [hS0 1 (by decide)] at hk
    have g := Hi.2.2.1 k hk
    rw [hS0 0 (by decide), hS 4 k (by unfold relF; omega) (by decide) (by decide), hS 5 k (by unfold relF; omega) (by decide) (by decide), hS 6 k (by unfold relF; omega) (by decide) (by decide), hS 7 k (by unfold relF; omega) (by decide) (by decide), hS 8 k (by unfold relF; omega) (by decide) (by decide)]
    exact g
  · rw [hS0 2 (by decide)] at hk
    have g := Hi.2.2.2.1 k hk
    rw [hS0 1 (by decide), hS 9 k (by unfold relF; omega) (by decide) (by decide), hS 10 k (by unfold relF; omega) (by decide) (by decide), hS 4 (S 9 k).toNat (by unfold relF; omega) (by decide) (by decide), hS 4 (S 10 k).toNat (by unfold relF; omega) (by decide) (by decide)]
    exact g
  · rw [hS0 3 (by decide)] at hk
    have g := Hi.2.2.2.2 k hk
    rw [hS0 0 (by decide), hS 11 k (by unfold relF; omega) (by decide) (by decide), hS 12 k (by unfold relF; omega) (by decide) (by decide), hS 13 k (by unfold relF; omega) (by decide) (by decide), hS 14 k (by unfold relF; omega) (by decide) (by decide), hS 15 k (by unfold relF; omega) (by decide) (by decide)]
    exact g
theorem drive_new (Hh : holds w ad Cn) (Hr : rep G S T ad Cn) (Hi : invS S) (hp : shQ S 0 p) (hv : inQ v (-1000) 1000)
    (hw : w1 = g_up (g_up w (ad 0 0) (.inr (7, [.ref (ad 1 0), .ref (ad 1 1), .ref (ad 1 2), .ref (ad 1 3), .int p, .int v]))) (ad 3 (kN p)) (.inr (5, [.int (iL (S 1 (kN p))), .int (iL (S 2 (kN p))), .int 0, .int (iL (T 2 (kN p))), .ref (ad 4 (kN p))]))) :
    ∃ C1, grow w ad Cn w1 ad C1 ∧ holds w1 ad C1 ∧ rep G (nxDrive S p v) T ad C1 ∧ invS (nxDrive S p v) := by
  have hi := Hi.1
  have hk := kN_lt hp
  have hs := Hr.2.2.1 _ hk
  have u1 := upto_set Hh 0 0 (.inr (7, [.ref (ad 1 0), .ref (ad 1 1), .ref (ad 1 2), .ref (ad 1 3), .int p, .int v])) (rep_live Hr.1)
  have u2 := upto_tr u1 (upto_set u1.1 3 (kN p) (.inr (5, [.int (iL (S 1 (kN p))), .int (iL (S 2 (kN p))), .int 0, .int (iL (T 2 (kN p))), .ref (ad 4 (kN p))])) (fun q => rep_live hs.1 ((u1.2.1 _ _).mp q)))
  rw [← hw] at u2
  have e4 : nxDrive S p v 0 4 = p.toInt := by unfold nxDrive; rw [up2_k _ _ _ (by decide), up2_i _ _ _ (by decide), up2_s]; unfold kN; omega
  have e5 : nxDrive S p v 0 5 = v.toInt := by unfold nxDrive; rw [up2_k _ _ _ (by decide), up2_s]
  have e3 : nxDrive S p v 3 (kN p) = 0 := by unfold nxDrive; rw [up2_s]
  have eo : ∀ f k : Nat, ¬ (f = 0 ∧ (k = 4 ∨ k = 5)) → ¬ (f = 3 ∧ k = kN p) → nxDrive S p v f k = S f k := by
    intro f k z1 z2
    have y1 : ¬ (f = 0 ∧ k = 4) := fun q => z1 ⟨q.1, Or.inl q.2⟩
    have y2 : ¬ (f = 0 ∧ k = 5) := fun q => z1 ⟨q.1, Or.inr q.2⟩
    simp [nxDrive, up2, y1, y2, z2]
  refine ⟨_, grow_up u2, u2.1, rep_same Hi Hr (fun f k _ z1 z2 => eo f k (fun q => z1 q.1) (fun q => z2 q.1)) (fun i h => eo 0 i (by omega) (by omega)) (fun a b z1 z2 => by rw [up2_k _ _ _ z2, up2_k _ _ _ z1]) ?_ (fun k hk2 => ?_), inv_same Hi (fun f k _ z1 z2 => eo f k (fun q => z1 q.1) (fun q => z2 q.1)) (fun i h => eo 0 i (by omega) (by omega)) ?_ (fun k hk2 => ?_)⟩
  · rw [up2_k _ _ _ (by decide), up2_s, e4, e5, iL_x, iL_x]
  · by_cases z : k = kN p
    · rw [z, up2_s, e3]; rfl
    · rw [up2_i _ _ _ z, up2_k _ _ _ (by decide), eo 3 k (by omega) (fun q => z q.2)]
      exact (Hr.2.2.1 k hk2).1
  · rw [e4, e5]
    exact ⟨by have := hp.1; omega, hp.2, hv.1, hv.2⟩
  · by_cases z : k = kN p
    · rw [z, e3]; exact Or.inl rfl
    · rw [eo 3 k (by omega) (fun q => z q.2)]; exact (Hi.2.1 k hk2).2.2.2.2
theorem hold_new (Hh : holds w ad Cn) (Hr : rep G S T ad Cn) (Hi : invS S) (hp : shQ S 0 p) {b : Bool} (hw : w1 = g_up w (ad 3 (kN p)) (.inr (5, [.int (iL (S 1 (kN p))), .int (iL (S 2 (kN p))), .int (g_b b), .int (iL (T 2 (kN p))), .ref (ad 4 (kN p))]))) :
    ∃ C1, grow w ad Cn w1 ad C1 ∧ holds w1 ad C1 ∧ rep G (nxHold S p b) T ad C1 ∧ invS (nxHold S p b) := by
  have hi := Hi.1
  have hk := kN_lt hp
  have hs := Hr.2.2.1 _ hk
  have u2 := upto_set Hh 3 (kN p) (.inr (5, [.int (iL (S 1 (kN p))), .int (iL (S 2 (kN p))), .int (g_b b), .int (iL (T 2 (kN p))), .ref (ad 4 (kN p))])) (rep_live hs.1)
  rw [← hw] at u2
  have e3 : nxHold S p b 3 (kN p) = (if b then 1 else 0) := by unfold nxHold; rw [up2_s]
  have eo : ∀ f k : Nat, ¬ (f = 3 ∧ k = kN p) → nxHold S p b f k = S f k := fun f k z => if_neg z
  refine ⟨_, grow_up u2, u2.1, rep_same Hi Hr (fun f k _ z1 z2 => eo f k (fun q => z2 q.1)) (fun i h => eo 0 i (by omega)) (fun a b z1 z2 => by rw [up2_k _ _ _ z2]) ?_ (fun k hk2 => ?_), inv_same Hi (fun f k _ z1 z2 => eo f k (fun q => z2 q.1)) (fun i h => eo 0 i (by omega)) ?_ (fun k hk2 => ?_)⟩
  · rw [up2_k _ _ _ (by decide), eo 0 4 (by omega), eo 0 5 (by omega)]; exact Hr.1
  · by_cases z : k = kN p
    · rw [z, up2_s, e3]
      cases b <;> rfl
    · rw [up2_i _ _ _ z, eo 3 k (fun q => z q.2)]
      exact (Hr.2.2.1 k hk2).1
  · rw [eo 0 4 (by omega), eo 0 5 (by omega)]; omega
  · by_cases z : k = kN p
    · rw [z, e3]
      cases b
      · exact Or.inl rfl
      · exact Or.inr rfl
    · rw [eo 3 k (fun q => z q.2)]; exact (Hi.2.1 k hk2).2.2.2.2
theorem unmesh_new (Hh : holds w ad Cn) (Hr : rep G S T ad Cn) (Hi : invS S) {k cap : Nat} {mod : Int32} {f : Nat → Option Nat} (hk : S 0 2 = (k : Int) + 1) (hcap : Cn 2 2 = some (.inl (G.2.1 3, cap, .inr (.inr (.inr (.inr f)))))) (h12 : Cn 1 2 ≠ none) (hf : ∀ i : Nat, (i : Int) < S 0 2 → f i = some (ad (elk 2) i)) (hc : (k : Int) + 1 ≤ cap ∧ 2 ≤ cap ∧ cap ≤ 100)
    (hw : w1 = g_up (g_up w (ad 2 2) (.inl (G.2.1 3, cap, .inr (.inr (.inr (.inr (va_up f k none))))))) (ad 1 2) (.inr (0, [.int mod, .ref (ad 2 2), .int (nI k)]))) :
    ∃ C1, grow w ad Cn w1 ad C1 ∧ holds w1 ad C1 ∧ rep G (nxUnmesh S) T ad C1 ∧ invS (nxUnmesh S) := by
  have hi := Hi.1
  have u1 := upto_set Hh 2 2 (.inl (G.2.1 3, cap, .inr (.inr (.inr (.inr (va_up f k none)))))) (rep_live hcap)
  have u2 := upto_tr u1 (upto_set u1.1 1 2 (.inr (0, [.int mod, .ref (ad 2 2), .int (nI k)])) (fun q => h12 ((u1.2.1 _ _).mp q)))
  rw [← hw] at u2
  have e2 : nxUnmesh S 0 2 = k := by unfold nxUnmesh; rw [up2_s]; omega
  have eo : ∀ f k : Nat, ¬ (f = 0 ∧ k = 2) → nxUnmesh S f k = S f k := fun f k z => if_neg z
  have eS : ∀ f k : Nat, f ≠ 0 → nxUnmesh S f k = S f k := fun f k z => eo f k (fun q => z q.1)
  obtain ⟨r0, r1, r2, r3, r4, r5⟩ := Hr
  have c : ∀ a b, a ≠ 1 → a ≠ 2 → up2 (up2 Cn 2 2 (some (.inl (G.2.1 3, cap, .inr (.inr (.inr (.inr (va_up f k none)))))))) 1 2 (some (.inr (0, [.int mod, .ref (ad 2 2), .int (nI k)]))) a b = Cn a b := fun a b z1 z2 => by rw [up2_k _ _ _ z1, up2_k _ _ _ z2]
  refine ⟨_, grow_up u2, u2.1, ⟨?_, fun j hj => ?_, fun i hk2 => ?_, fun i hk2 => ?_, fun i hk2 => ?_, fun i hk2 => ?_⟩, ⟨?_, fun i hk2 => ?_, fun i hk2 => ?_, fun i hk2 => ?_, fun i hk2 => ?_⟩⟩
  · unfold rep0
    rw [c 0 0 (by decide) (by decide), eo 0 4 (by omega), eo 0 5 (by omega)]; exact r0
  · by_cases z : j = 2
    · rw [z, e2]
      refine ⟨mod, Or.inr ⟨cap, va_up f k none, by rw [up2_s, iL_n], by rw [up2_k _ _ _ (by decide), up2_s], by omega, hc.2.1, hc.2.2, fun i hi2 => ?_⟩⟩
      simp only [va_up]
      rw [if_neg (by omega)]
      exact hf i (by omega)
    · rw [eo 0 j (fun q => z q.2)]
      exact listR_congr (r1 j hj) (by rw [up2_i _ _ _ z, up2_k _ _ _ (by decide)]) (by rw [up2_k _ _ _ (by decide), up2_i _ _ _ z])
  · rw [eo 0 0 (by omega)] at hk2
    rw [c 3 i (by decide) (by decide), c 4 i (by decide) (by decide), eS 1 i (by decide), eS 2 i (by decide), eS 3 i (by decide)]
    exact r2 i hk2
  · rw [eo 0 1 (by omega)] at hk2
    rw [c 5 i (by decide) (by decide), eS 4 i (by decide), eS 5 i (by decide), eS 6 i (by decide), eS 7 i (by decide), eS 8 i (by decide)]
    exact r3 i hk2
  · rw [e2] at hk2
    have g := r4 i (by omega)
    rw [show saM (nxUnmesh S) i = saM S i from by funext j; unfold saM; rw [eS 9 i (by decide), eS 10 i (by decide), eS 4 _ (by decide), eS 4 _ (by decide)], show wtM (nxUnmesh S) i = wtM S i from by funext j; unfold wtM; rw [eS 9 i (by decide), eS 10 i (by decide), eS 5 _ (by decide), eS 5 _ (by decide), eS 8 _ (by decide), eS 8 _ (by decide)], eS 9 i (by decide), eS 10 i (by decide), c 6 i (by decide) (by decide)]
    exact ⟨g.1, tieR_congr g.2 (c _ _ (by decide) (by decide)) (c _ _ (by decide) (by decide)) (fun i hi => c _ _ (by omega) (by omega)) (Or.inl (c _ _ (by decide) (by decide)))⟩
  · rw [eo 0 3 (by omega)] at hk2
    have g := r5 i hk2
    rw [show saP (nxUnmesh S) i = saP S i from by funext j; unfold saP; rw [eS 11 i (by decide), eS 12 i (by decide), eS 13 i (by decide)], show wtP (nxUnmesh S) i = wtP S i from by funext j; unfold wtP; rw [eS 14 i (by decide), eS 15 i (by decide)], eS 14 i (by decide), eS 15 i (by decide), c 11 i (by decide) (by decide)]
    exact ⟨g.1, tieR_congr g.2 (c _ _ (by decide) (by decide)) (c _ _ (by decide) (by decide)) (fun i hi => c _ _ (by omega) (by omega)) (Or.inl (c _ _ (by decide) (by decide)))⟩
  · rw [e2, eo 0 0 (by omega), eo 0 1 (by omega), eo 0 3 (by omega), eo 0 4 (by omega), eo 0 5 (by omega)]; omega
  · rw [eo 0 0 (by omega)] at hk2
    rw [eS 1 i (by decide), eS 2 i (by decide), eS 3 i (by decide)]; exact Hi.2.1 i hk2
  · rw [eo 0 1 (by omega)] at hk2
    rw [eo 0 0 (by omega), eS 4 i (by decide), eS 5 i (by decide), eS 6 i (by decide), eS 7 i (by decide), eS 8 i (by decide)]; exact Hi.2.2.1 i hk2
  · rw [e2] at hk2
    rw [eo 0 1 (by omega), eS 9 i (by decide), eS 10 i (by decide), eS 4 _ (by decide), eS 4 _ (by decide)]; exact Hi.2.2.2.1 i (by omega)
  · rw [eo 0 3 (by omega)] at hk2
    rw [eo 0 0 (by omega), eS 11 i (by decide), eS 12 i (by decide), eS 13 i (by decide), eS 14 i (by decide), eS 15 i (by decide)]; exact Hi.2.2.2.2 i hk2
end DRV
