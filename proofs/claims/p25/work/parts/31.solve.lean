/-! how speeds are told -/
def tN (b : Nat) : Nat := if b = 0 then 2 else 3
def tSa (S : Sg) (b m k : Nat) : Nat := if b = 0 then saM S m k else saP S m k
def tWt (S : Sg) (b m k : Nat) : Int := if b = 0 then wtM S m k else wtP S m k
def tUnk (S T : Sg) (b m pl : Nat) : Prop := pl < tN b ∧ T 2 (tSa S b m pl) = -1 ∧ ∀ j, j < tN b → j ≠ pl → T 2 (tSa S b m j) ≠ -1
def tNu (S T : Sg) (b m k : Nat) : Int := T 0 (tSa S b m k)
def tDe (S T : Sg) (b m k : Nat) : Int := T 1 (tSa S b m k)
def tX (S T : Sg) (b m pl : Nat) : Int := askX pl (tNu S T b m) (tDe S T b m) (tWt S b m) (tN b)
def tY (S T : Sg) (b m pl : Nat) : Int := askY pl (tNu S T b m) (tDe S T b m) (tWt S b m) (tN b)
def gSI (st : Nat → Int) : Nat → Int
  | 0 => -1
  | k + 1 => if gSI st k < st k then st k else gSI st k
def tTell (S T : Sg) (b m pl : Nat) : Sg :=
  if 1000000 < (fN (tX S T b m pl) (tY S T b m pl)).natAbs ∨ 1000000 < fD (tX S T b m pl) (tY S T b m pl) then up2 T (3 + b) m 1
  else up2 (up2 (up2 T 0 (tSa S b m pl) (fN (tX S T b m pl) (tY S T b m pl))) 1 (tSa S b m pl) (fD (tX S T b m pl) (tY S T b m pl))) 2 (tSa S b m pl) (1 + gSI (fun k => T 2 (tSa S b m k)) (tN b))
/-- what one tie does: nothing, or a new table -/
noncomputable def tTry (S T : Sg) (b m : Nat) : Option Sg := @dite _ (T (3 + b) m = 0 ∧ ∃ pl, tUnk S T b m pl) (Classical.propDecidable _) (fun h => some (tTell S T b m (Classical.choose h.2))) (fun _ => none)
theorem tUnk_one {S T : Sg} {b m pl pl' : Nat} (h : tUnk S T b m pl) (h' : tUnk S T b m pl') : pl = pl' := by
  rcases Nat.decEq pl pl' with q | q
  · exact absurd h'.2.1 (h.2.2 pl' h'.1 (fun z => q z.symm))
  · exact q
theorem tTry_some {S T : Sg} {b m pl : Nat} (h0 : T (3 + b) m = 0) (h : tUnk S T b m pl) : tTry S T b m = some (tTell S T b m pl) := by
  have hx : T (3 + b) m = 0 ∧ ∃ pl, tUnk S T b m pl := ⟨h0, pl, h⟩
  unfold tTry
  rw [dif_pos hx, tUnk_one (Classical.choose_spec hx.2) h]
theorem tTry_none {S T : Sg} {b m : Nat} (h : ¬ (T (3 + b) m = 0 ∧ ∃ pl, tUnk S T b m pl)) : tTry S T b m = none := by
  unfold tTry
  rw [dif_neg h]
theorem tTry_inv {S T T' : Sg} {b m : Nat} (h : tTry S T b m = some T') : T (3 + b) m = 0 ∧ ∃ pl, tUnk S T b m pl ∧ T' = tTell S T b m pl := by
  unfold tTry at h
  split at h
  · rename_i hx
    cases h
    exact ⟨hx.1, _, Classical.choose_spec hx.2, rfl⟩
  · cases h
noncomputable def firstT (S T : Sg) (b : Nat) : Nat → Nat → Option Sg
  | _, 0 => none
  | i, c + 1 => match tTry S T b i with
    | some T' => some T'
    | none => firstT S T b (i + 1) c
noncomputable def step (S T : Sg) : Option Sg := match firstT S T 0 0 (S 0 2).toNat with
  | some T' => some T'
  | none => firstT S T 1 0 (S 0 3).toNat
noncomputable def run (S : Sg) : Nat → Sg → Sg
  | 0, T => T
  | c + 1, T => match step S T with
    | none => T
    | some T' => run S c T'
def T0 (S : Sg) : Sg := fun f k => if f = 0 then (if (k : Int) = S 0 4 then S 0 5 else 0) else if f = 1 then 1 else if f = 2 then (if (k : Int) = S 0 4 ∨ S 3 k = 1 then 0 else -1) else 0
noncomputable def told (S : Sg) : Sg := run S 30 (T0 S)
