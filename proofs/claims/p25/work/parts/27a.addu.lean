/-- a list of n elements of class ci at h, with its array at arr (ha), or with none yet -/
def listW (G : g_C) (w : g_W) (h arr n ci : Nat) (ha : Bool) (mod : Int32) (f : Nat → Option Nat) : Prop :=
  (ha = false ∧ n = 0 ∧ w h = some (.inr (0, [.int mod, .ref (G.2.2 0), .int (nI 0)]))) ∨
  (ha = true ∧ ∃ cap, w h = some (.inr (0, [.int mod, .ref arr, .int (nI n)])) ∧ w arr = some (.inl (G.2.1 3, cap, .inr (.inr (.inr (.inr f))))) ∧ n ≤ cap ∧ 2 ≤ cap ∧ cap ≤ 100 ∧ n < 40 ∧ ∀ i, i < n → ∃ y fs, f i = some y ∧ w y = some (.inr (ci, fs)))
def addP (G : g_C) (w : g_W) (h arr n : Nat) (ha : Bool) (mod : Int32) (f : Nat → Option Nat) (v : Nat) (w' : g_W) : Prop :=
  ∃ (q cap : Nat) (f' : Nat → Option Nat), (w q = none ∨ (q = arr ∧ ha = true)) ∧ n + 1 ≤ cap ∧ 2 ≤ cap ∧ cap ≤ 100 ∧ (∀ k, k < n → f' k = f k) ∧ f' n = some v ∧ w' = g_up (g_up w q (.inl (G.2.1 3, cap, .inr (.inr (.inr (.inr f')))))) h (.inr (0, [.int (mod + 1), .ref q, .int (nI (n + 1))]))
