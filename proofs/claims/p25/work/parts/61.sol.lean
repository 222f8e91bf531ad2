/-! what holds of the speeds that are told, behind the last step -/
section WIT
variable {S T T' : Sg}
theorem firstT_no {S T : Sg} {b : Nat} : ∀ (c i : Nat), firstT S T b i c = none → ∀ m, i ≤ m → m < i + c → tTry S T b m = none := by
  intro c
  induction c with
  | zero => intro i _ m h1 h2; omega
  | succ c ih =>
    intro i h m h1 h2
    unfold firstT at h
    cases ht : tTry S T b i with
    | some T1 => rw [ht] at h; cases h
    | none =>
      rw [ht] at h
      rcases Nat.eq_or_lt_of_le h1 with q | q
      · rw [← q]; exact ht
      · exact ih (i + 1) h m q (by omega)
theorem step_no (Hi : invS S) (h : step S T = none) {b m pl : Nat} (hb : b < 2) (hm : (m : Int) < S 0 (2 + b)) (hu : tUnk S T b m pl) : T (3 + b) m ≠ 0 := by
  intro z
  have hi := Hi.1
  have hs := tTry_some z hu
  unfold step at h
  cases h0 : firstT S T 0 0 (S 0 2).toNat with
  | some T1 => rw [h0] at h; cases h
  | none =>
    rw [h0] at h
    match b, hb with
    | 0, _ =>
      have hm2 : (m : Int) < S 0 2 := hm
      have := firstT_no _ _ h0 m (Nat.zero_le _) (by omega)
      rw [this] at hs; cases hs
    | 1, _ =>
      have hm2 : (m : Int) < S 0 3 := hm
      have := firstT_no _ _ h m (Nat.zero_le _) (by omega)
      rw [this] at hs; cases hs
theorem run_fix {S : Sg} (Hi : invS S) : ∀ (c : Nat) (T : Sg), mu S T ≤ c → step S (run S c T) = none := by
  intro c
  induction c with
  | zero =>
    intro T h
    cases hs : step S (run S 0 T) with
    | none => rfl
    | some T' =>
      have h1 := mu_step Hi hs
      have h2 := mu_ge S T'
      have h3 : mu S (run S 0 T) = mu S T := rfl
      omega
  | succ c ih =>
    intro T h
    cases hs : step S T with
    | none => rw [run_none hs]; exact hs
    | some T' =>
      rw [run_some hs]
      have h1 := mu_step Hi hs
      exact ih T' (by omega)
theorem told_fix {S : Sg} (Hi : invS S) : step S (told S) = none := run_fix Hi 30 _ (mu_le Hi _)
theorem askS_c {pl N : Nat} {nu de nu' de' wt : Nat → Int} (h : ∀ j, j < N → j ≠ pl → nu' j = nu j ∧ de' j = de j) : ∀ k, k ≤ N → askS pl nu' de' wt k = askS pl nu de wt k := by
  intro k
  induction k with
  | zero => intro _; rfl
  | succ k ih =>
    intro hk
    by_cases z : k = pl
    · rw [askS_eq z, askS_eq z]; exact ih (by omega)
    · rw [askS_ne z, askS_ne z, ih (by omega), (h k (by omega) z).1, (h k (by omega) z).2]
theorem tXY_c {b m pl : Nat} (h : ∀ j, j < tN b → j ≠ pl → T' 0 (tSa S b m j) = T 0 (tSa S b m j) ∧ T' 1 (tSa S b m j) = T 1 (tSa S b m j)) : tX S T' b m pl = tX S T b m pl ∧ tY S T' b m pl = tY S T b m pl := by
  have e : askS pl (tNu S T' b m) (tDe S T' b m) (tWt S b m) (tN b) = askS pl (tNu S T b m) (tDe S T b m) (tWt S b m) (tN b) := askS_c (N := tN b) h (tN b) (Nat.le_refl _)
  refine ⟨?_, ?_⟩
  · show -(askS pl (tNu S T' b m) (tDe S T' b m) (tWt S b m) (tN b)).1 = -(askS pl (tNu S T b m) (tDe S T b m) (tWt S b m) (tN b)).1
    rw [e]
  · show tWt S b m pl * (askS pl (tNu S T' b m) (tDe S T' b m) (tWt S b m) (tN b)).2 = tWt S b m pl * (askS pl (tNu S T b m) (tDe S T b m) (tWt S b m) (tN b)).2
    rw [e]
def bigF (x y : Int) : Prop := 1000000 < (fN x y).natAbs ∨ 1000000 < fD x y
def bas (S : Sg) (k : Nat) : Prop := (k : Int) = S 0 4 ∨ S 3 k = 1
/-- k was told by this tie, whose place pl it has -/
def witB (S T : Sg) (b m pl k : Nat) : Prop := pl < tN b ∧ tSa S b m pl = k ∧ (∀ j, j < tN b → T 2 (tSa S b m j) ≠ -1) ∧ (fN (tX S T b m pl) (tY S T b m pl) = T 0 k ∧ fD (tX S T b m pl) (tY S T b m pl) = T 1 k) ∧
  (∀ j, j < tN b → j ≠ pl → T 2 (tSa S b m j) + 1 ≤ T 2 k) ∧ ∃ j, j < tN b ∧ j ≠ pl ∧ T 2 (tSa S b m j) + 1 = T 2 k
def asiB (S T : Sg) (b m : Nat) : Prop := ∃ pl, pl < tN b ∧ (∀ j, j < tN b → j ≠ pl → T 2 (tSa S b m j) ≠ -1) ∧ bigF (tX S T b m pl) (tY S T b m pl)
def witI (S T : Sg) : Prop :=
  (∀ k : Nat, (k : Int) < S 0 0 → bas S k → T 0 k = (if (k : Int) = S 0 4 then S 0 5 else 0) ∧ T 1 k = 1 ∧ T 2 k = 0) ∧
  (∀ k : Nat, (k : Int) < S 0 0 → T 2 k ≠ -1 → bas S k ∨ ∃ b m pl : Nat, b < 2 ∧ (m : Int) < S 0 (2 + b) ∧ witB S T b m pl k) ∧
  (∀ b m : Nat, b < 2 → (m : Int) < S 0 (2 + b) → T (3 + b) m ≠ 0 → asiB S T b m)
theorem witI_0 : witI S (T0 S) := by
  have e0 : ∀ k, T0 S 0 k = if (k : Int) = S 0 4 then S 0 5 else 0 := fun _ => rfl
  have e1 : ∀ k, T0 S 1 k = 1 := fun _ => rfl
  have e2 : ∀ k, T0 S 2 k = if (k : Int) = S 0 4 ∨ S 3 k = 1 then 0 else -1 := fun _ => rfl
  refine ⟨fun k _ hb => ⟨e0 k, e1 k, by rw [e2]; exact if_pos hb⟩, fun k _ h => ?_, fun b m hb _ h => ?_⟩
  · rcases Classical.em (bas S k) with z | z
    · exact Or.inl z
    · exact absurd (by rw [e2]; exact if_neg z) h
  · exact absurd (by unfold T0; rw [if_neg (by omega), if_neg (by omega), if_neg (by omega)]) h
theorem wit_keep (Hi : invS S) (h : ∀ f k : Nat, f < 3 → (k : Int) < S 0 0 → T 2 k ≠ -1 → T' f k = T f k) {b m pl k : Nat} (hb : b < 2) (hm : (m : Int) < S 0 (2 + b)) (W : witB S T b m pl k) : witB S T' b m pl k := by
  obtain ⟨h1, h2, h3, ⟨h4, h5⟩, h6, j, h7, h8, h9⟩ := W
  have e : ∀ f, f < 3 → ∀ j, j < tN b → T' f (tSa S b m j) = T f (tSa S b m j) := fun f hf j hj => h f _ hf (tSa_lt Hi hb hm j) (h3 j hj)
  have ek : ∀ f, f < 3 → T' f k = T f k := fun f hf => by rw [← h2]; exact e f hf pl h1
  obtain ⟨x1, x2⟩ := tXY_c (S := S) (T := T) (T' := T') (b := b) (m := m) (pl := pl) (fun j hj _ => ⟨e 0 (by decide) j hj, e 1 (by decide) j hj⟩)
  refine ⟨h1, h2, fun j hj => by rw [e 2 (by decide) j hj]; exact h3 j hj, ⟨by rw [x1, x2, ek 0 (by decide)]; exact h4, by rw [x1, x2, ek 1 (by decide)]; exact h5⟩, fun j hj hn => by rw [e 2 (by decide) j hj, ek 2 (by decide)]; exact h6 j hj hn, j, h7, h8, by rw [e 2 (by decide) j h7, ek 2 (by decide)]; exact h9⟩
theorem asi_keep (Hi : invS S) (h : ∀ f k : Nat, f < 3 → (k : Int) < S 0 0 → T 2 k ≠ -1 → T' f k = T f k) {b m : Nat} (hb : b < 2) (hm : (m : Int) < S 0 (2 + b)) (W : asiB S T b m) : asiB S T' b m := by
  obtain ⟨pl, h1, h3, h4⟩ := W
  have e : ∀ f, f < 3 → ∀ j, j < tN b → j ≠ pl → T' f (tSa S b m j) = T f (tSa S b m j) := fun f hf j hj hn => h f _ hf (tSa_lt Hi hb hm j) (h3 j hj hn)
  obtain ⟨x1, x2⟩ := tXY_c (S := S) (T := T) (T' := T') (b := b) (m := m) (pl := pl) (fun j hj hn => ⟨e 0 (by decide) j hj hn, e 1 (by decide) j hj hn⟩)
  exact ⟨pl, h1, fun j hj hn => by rw [e 2 (by decide) j hj hn]; exact h3 j hj hn, by rw [x1, x2]; exact h4⟩
theorem gSI_up {st : Nat → Int} : ∀ (N j : Nat), j < N → st j ≤ gSI st N := by
  intro N
  induction N with
  | zero => intro j h; exact absurd h (Nat.not_lt_zero j)
  | succ k ih =>
    intro j hj
    have e : gSI st (k + 1) = if gSI st k < st k then st k else gSI st k := rfl
    rw [e]
    rcases Nat.lt_succ_iff_lt_or_eq.mp hj with q | q
    · have := ih j q
      split <;> omega
    · rw [q]
      split <;> omega
theorem gSI_at {st : Nat → Int} : ∀ N : Nat, gSI st N = -1 ∨ ∃ j, j < N ∧ st j = gSI st N := by
  intro N
  induction N with
  | zero => exact Or.inl rfl
  | succ k ih =>
    have e : gSI st (k + 1) = if gSI st k < st k then st k else gSI st k := rfl
    rw [e]
    split
    · exact Or.inr ⟨k, by omega, rfl⟩
    · rcases ih with q | ⟨j, q1, q2⟩
      · exact Or.inl q
      · exact Or.inr ⟨j, by omega, q2⟩
theorem tN_two (b : Nat) : 2 ≤ tN b := by unfold tN; split <;> decide
theorem witI_s (Hi : invS S) (Ht : invT S T) (W : witI S T) (hs : step S T = some T') : witI S T' := by
  obtain ⟨b, m, pl, hb, hm, h0, hU, rfl⟩ := step_inv Hi hs
  obtain ⟨w1, w2, w3⟩ := W
  have hpl := hU.1
  have hk0 := tSa_lt Hi hb hm pl
  by_cases big : 1000000 < (fN (tX S T b m pl) (tY S T b m pl)).natAbs ∨ 1000000 < fD (tX S T b m pl) (tY S T b m pl)
  · have e : ∀ f k : Nat, f < 3 → tTell S T b m pl f k = T f k := fun f k hf => by unfold tTell; rw [if_pos big]; exact up2_k _ _ _ (by omega)
    have kp : ∀ f k : Nat, f < 3 → (k : Int) < S 0 0 → T 2 k ≠ -1 → tTell S T b m pl f k = T f k := fun f k hf _ _ => e f k hf
    refine ⟨fun k hk hbs => by rw [e 0 k (by decide), e 1 k (by decide), e 2 k (by decide)]; exact w1 k hk hbs, fun k hk ht => ?_, fun b' m' hb' hm' ha => ?_⟩
    · rw [e 2 k (by decide)] at ht
      rcases w2 k hk ht with q | ⟨b1, m1, p1, q1, q2, q3⟩
      · exact Or.inl q
      · exact Or.inr ⟨b1, m1, p1, q1, q2, wit_keep Hi kp q1 q2 q3⟩
    · by_cases z : 3 + b' = 3 + b ∧ m' = m
      · have zb : b' = b := by omega
        rw [zb, z.2]
        exact asi_keep Hi kp hb hm ⟨pl, hpl, hU.2.2, big⟩
      · refine asi_keep Hi kp hb' hm' (w3 b' m' hb' hm' ?_)
        rw [show tTell S T b m pl (3 + b') m' = T (3 + b') m' from by unfold tTell; rw [if_pos big]; exact if_neg z] at ha
        exact ha
  · have e0 : tTell S T b m pl = up2 (up2 (up2 T 0 (tSa S b m pl) (fN (tX S T b m pl) (tY S T b m pl))) 1 (tSa S b m pl) (fD (tX S T b m pl) (tY S T b m pl))) 2 (tSa S b m pl) (1 + gSI (fun k => T 2 (tSa S b m k)) (tN b)) := by unfold tTell; rw [if_neg big]
    have en : ∀ f k : Nat, k ≠ tSa S b m pl → tTell S T b m pl f k = T f k := fun f k z => by rw [e0, up2_i _ _ _ z, up2_i _ _ _ z, up2_i _ _ _ z]
    have e3 : ∀ f k : Nat, 2 < f → tTell S T b m pl f k = T f k := fun f k z => by rw [e0, up2_k _ _ _ (by omega), up2_k _ _ _ (by omega), up2_k _ _ _ (by omega)]
    have n0 : tTell S T b m pl 0 (tSa S b m pl) = fN (tX S T b m pl) (tY S T b m pl) := by rw [e0, up2_k _ _ _ (by decide), up2_k _ _ _ (by decide), up2_s]
    have n1 : tTell S T b m pl 1 (tSa S b m pl) = fD (tX S T b m pl) (tY S T b m pl) := by rw [e0, up2_k _ _ _ (by decide), up2_s]
    have n2 : tTell S T b m pl 2 (tSa S b m pl) = 1 + gSI (fun k => T 2 (tSa S b m k)) (tN b) := by rw [e0, up2_s]
    have kp : ∀ f k : Nat, f < 3 → (k : Int) < S 0 0 → T 2 k ≠ -1 → tTell S T b m pl f k = T f k := fun f k _ _ ht => en f k (fun z => ht (by rw [z]; exact hU.2.1))
    refine ⟨fun k hk hbs => ?_, fun k hk ht => ?_, fun b' m' hb' hm' ha => ?_⟩
    · obtain ⟨q1, q2, q3⟩ := w1 k hk hbs
      have z : T 2 k ≠ -1 := by omega
      rw [kp 0 k (by decide) hk z, kp 1 k (by decide) hk z, kp 2 k (by decide) hk z]
      exact ⟨q1, q2, q3⟩
    · by_cases z : k = tSa S b m pl
      · refine Or.inr ⟨b, m, pl, hb, hm, hpl, z.symm, ?_⟩
        have oth : ∀ f j : Nat, j < tN b → j ≠ pl → tTell S T b m pl f (tSa S b m j) = T f (tSa S b m j) := fun f j hj hn => en f _ (tSa_ne Hi hb hm hj hpl hn)
        obtain ⟨x1, x2⟩ := tXY_c (S := S) (T := T) (T' := tTell S T b m pl) (b := b) (m := m) (pl := pl) (fun j hj hn => ⟨oth 0 j hj hn, oth 1 j hj hn⟩)
        have lo : ∀ j, j < tN b → j ≠ pl → 0 ≤ T 2 (tSa S b m j) := fun j hj hn => by
          have := (Ht.1 _ (tSa_lt Hi hb hm j)).2.2.2.2.1
          have := hU.2.2 j hj hn
          omega
        obtain ⟨j1, hj1, hn1⟩ : ∃ j, j < tN b ∧ j ≠ pl := by
          have := tN_two b
          rcases Nat.decEq pl 0 with q | q
          · exact ⟨0, by omega, fun y => q y.symm⟩
          · exact ⟨1, by omega, by omega⟩
        have g0 : 0 ≤ gSI (fun k => T 2 (tSa S b m k)) (tN b) := by
          have a1 : T 2 (tSa S b m j1) ≤ gSI (fun k => T 2 (tSa S b m k)) (tN b) := gSI_up (st := fun k => T 2 (tSa S b m k)) (tN b) j1 hj1
          have := lo j1 hj1 hn1
          omega
        rw [z, n2]
        refine ⟨fun j hj => ?_, ⟨by rw [x1, x2, n0], by rw [x1, x2, n1]⟩, fun j hj hn => ?_, ?_⟩
        · rcases Nat.decEq j pl with q | q
          · rw [oth 2 j hj q]; exact hU.2.2 j hj q
          · rw [q, n2]; omega
        · rw [oth 2 j hj hn]
          have a1 : T 2 (tSa S b m j) ≤ gSI (fun k => T 2 (tSa S b m k)) (tN b) := gSI_up (st := fun k => T 2 (tSa S b m k)) (tN b) j hj
          omega
        · rcases gSI_at (st := fun k => T 2 (tSa S b m k)) (tN b) with q | ⟨j, q1, q2⟩
          · omega
          · have q3 : j ≠ pl := fun y => by
              have q4 : T 2 (tSa S b m j) = gSI (fun k => T 2 (tSa S b m k)) (tN b) := q2
              rw [y, hU.2.1] at q4
              omega
            refine ⟨j, q1, q3, ?_⟩
            rw [oth 2 j q1 q3]
            have q4 : T 2 (tSa S b m j) = gSI (fun k => T 2 (tSa S b m k)) (tN b) := q2
            omega
      · rw [en 2 k z] at ht
        rcases w2 k hk ht with q | ⟨b1, m1, p1, q1, q2, q3⟩
        · exact Or.inl q
        · exact Or.inr ⟨b1, m1, p1, q1, q2, wit_keep Hi kp q1 q2 q3⟩
    · rw [e3 (3 + b') m' (by omega)] at ha
      exact asi_keep Hi kp hb' hm' (w3 b' m' hb' hm' ha)
theorem run_wit {S : Sg} (Hi : invS S) : ∀ (c : Nat) (T : Sg) (z : Int), invT S T → stB S T z → -1 ≤ z → z + c ≤ 1000 → witI S T → witI S (run S c T) := by
  intro c
  induction c with
  | zero => intro T z _ _ _ _ W; exact W
  | succ c ih =>
    intro T z h1 h2 h3 h4 W
    cases hs : step S T with
    | none => rw [run_none hs]; exact W
    | some T' =>
      rw [run_some hs]
      obtain ⟨g1, g2⟩ := step_pres Hi h1 h2 ⟨h3, by omega⟩ hs
      exact ih T' (z + 1) g1 g2 (by omega) (by omega) (witI_s Hi h1 W hs)
theorem told_wit {S : Sg} (Hi : invS S) : witI S (told S) := run_wit Hi 30 _ 0 (T0_inv Hi).1 (T0_inv Hi).2 (by decide) (by decide) witI_0
end WIT
