/-! the reference after a call -/
def mFr (md : Nat → Nat) (w w' : g_W) : Prop := (∀ a, w a ≠ none → (∀ i, i < 12 → md i ≠ a) → w' a = w a) ∧ ∀ a, w a ≠ none → w' a ≠ none
theorem mFr_rf (md : Nat → Nat) (w : g_W) : mFr md w w := ⟨fun _ _ _ => rfl, fun _ h => h⟩
theorem mFr_tr {md : Nat → Nat} {w w1 w2 : g_W} (h1 : mFr md w w1) (h2 : mFr md w1 w2) : mFr md w w2 :=
  ⟨fun a ha ho => by rw [h2.1 a (by rw [h1.1 a ha ho]; exact ha) ho, h1.1 a ha ho], fun a ha => h2.2 a (h1.2 a ha)⟩
theorem mFr_set {md : Nat → Nat} {w : g_W} {i : Nat} (hi : i < 12) (e : va_E) : mFr md w (g_up w (md i) e) := by
  refine ⟨fun a _ ho => g_up_n _ (fun q => ho i hi q.symm), fun a ha => ?_⟩
  by_cases z : a = md i
  · rw [z, g_up_s]; exact fun q => (nomatch q)
  · rw [g_up_n _ z]; exact ha
theorem mFr_new {md : Nat → Nat} {w : g_W} {q : Nat} (hq : w q = none) (e : va_E) : mFr md w (g_up w q e) := by
  refine ⟨fun a ha _ => g_up_n _ (fun z => ha (by rw [z]; exact hq)), fun a ha => ?_⟩
  by_cases z : a = q
  · rw [z, g_up_s]; exact fun y => (nomatch y)
  · rw [g_up_n _ z]; exact ha
def mAft (G : g_C) (md : Nat → Nat) (w w' : g_W) (S : Sg) (c : Nat) : Prop := mFr md w w' ∧ ∃ (tp bt : Int64) (Fm : Nat → Nat → Int32) (L : Nat → Nat → Int64), modW G w' md S (nI c) tp bt Fm L ∧ modF S Fm
def mRes (G : g_C) (md : Nat → Nat) (w w' : g_W) (S S' : Sg) (cd : Nat) (ok : Prop) : Prop := (cd ≠ 0 ∧ mAft G md w w' S cd) ∨ (cd = 0 ∧ ok ∧ mAft G md w w' S' 0)
def up1 {α : Type} (f : Nat → α) (i : Nat) (v : α) : Nat → α := fun j => if j = i then v else f j
theorem mRes_no {G : g_C} {md : Nat → Nat} {w w' : g_W} {S S' : Sg} {cd c : Nat} {ok : Prop} (h : cd = c) (hc : c ≠ 0) (ha : mAft G md w w' S c) : mRes G md w w' S S' cd ok := by
  subst h
  exact Or.inl ⟨hc, ha⟩
theorem mFr_se {md : Nat → Nat} {w w1 : g_W} {i : Nat} {e : va_E} (hi : i < 12) (h : w1 = g_up w (md i) e) : mFr md w w1 := by rw [h]; exact mFr_set hi e
theorem mFr_ne {md : Nat → Nat} {w w1 : g_W} {q : Nat} {e : va_E} (hq : w q = none) (h : w1 = g_up w q e) : mFr md w w1 := by rw [h]; exact mFr_new hq e
