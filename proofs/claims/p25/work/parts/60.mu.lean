/-! the reference's solving, by numbers -/
theorem cntI_dec {f g : Nat → Bool} {n j : Nat} (hj : j < n) (hf : f j = true) (hg : g j = false) (h : ∀ k, k ≠ j → g k = f k) : cntI g n + 1 = cntI f n := by
  induction n with
  | zero => exact absurd hj (Nat.not_lt_zero j)
  | succ n ih =>
    show cntI g n + (if g n then 1 else 0) + 1 = cntI f n + (if f n then 1 else 0)
    by_cases z : n = j
    · rw [z, hf, hg, cntI_c (f := g) (g := f) (n := j) (fun k hk => h k (by omega))]
      simp
    · rw [h n z]
      have := ih (by omega)
      omega
def mu (S T : Sg) : Int := cntI (fun k => decide (T 2 k = -1)) (S 0 0).toNat + cntI (fun k => decide (T 3 k = 0)) (S 0 2).toNat + cntI (fun k => decide (T 4 k = 0)) (S 0 3).toNat
theorem gSI_ge (st : Nat → Int) : ∀ N, -1 ≤ gSI st N := by
  intro N
  induction N with
  | zero => exact (by decide : (-1 : Int) ≤ -1)
  | succ k ih =>
    show -1 ≤ (if gSI st k < st k then st k else gSI st k)
    split <;> omega
theorem mu_step {S T T' : Sg} (Hi : invS S) (h : step S T = some T') : mu S T' + 1 = mu S T := by
  obtain ⟨b, m, pl, h1, h2, h3, h4, rfl⟩ := step_inv Hi h
  have hi := Hi.1
  have hk := tSa_lt Hi h1 h2 pl
  have g0 := gSI_ge (fun k => T 2 (tSa S b m k)) (tN b)
  unfold mu tTell
  split
  · match b, h1 with
    | 0, _ =>
      have e2 : ∀ v, up2 T (3 + 0) m v 2 = T 2 := fun v => by funext k; exact up2_k _ _ _ (by decide)
      have e4 : ∀ v, up2 T (3 + 0) m v 4 = T 4 := fun v => by funext k; exact up2_k _ _ _ (by decide)
      rw [e2, e4]
      have := cntI_dec (f := fun k => decide (T 3 k = 0)) (g := fun k => decide (up2 T (3 + 0) m 1 3 k = 0)) (n := (S 0 2).toNat) (j := m) (by have : (m : Int) < S 0 2 := h2; omega) (decide_eq_true h3) (by show decide (up2 T 3 m 1 3 m = 0) = false; rw [up2_s]; decide) (fun k hk => by show decide (up2 T 3 m 1 3 k = 0) = _; rw [up2_i _ _ _ hk])
      omega
    | 1, _ =>
      have e2 : ∀ v, up2 T (3 + 1) m v 2 = T 2 := fun v => by funext k; exact up2_k _ _ _ (by decide)
      have e3 : ∀ v, up2 T (3 + 1) m v 3 = T 3 := fun v => by funext k; exact up2_k _ _ _ (by decide)
      rw [e2, e3]
      have := cntI_dec (f := fun k => decide (T 4 k = 0)) (g := fun k => decide (up2 T (3 + 1) m 1 4 k = 0)) (n := (S 0 3).toNat) (j := m) (by have : (m : Int) < S 0 3 := h2; omega) (decide_eq_true h3) (by show decide (up2 T 4 m 1 4 m = 0) = false; rw [up2_s]; decide) (fun k hk => by show decide (up2 T 4 m 1 4 k = 0) = _; rw [up2_i _ _ _ hk])
      omega
  · have e3 : ∀ (A B : Int) (x y : Int), (up2 (up2 (up2 T 0 (tSa S b m pl) A) 1 (tSa S b m pl) B) 2 (tSa S b m pl) x) 3 = T 3 := fun A B x y => by funext k; rw [up2_k _ _ _ (by decide), up2_k _ _ _ (by decide), up2_k _ _ _ (by decide)]
    have e4 : ∀ (A B : Int) (x y : Int), (up2 (up2 (up2 T 0 (tSa S b m pl) A) 1 (tSa S b m pl) B) 2 (tSa S b m pl) x) 4 = T 4 := fun A B x y => by funext k; rw [up2_k _ _ _ (by decide), up2_k _ _ _ (by decide), up2_k _ _ _ (by decide)]
    rw [e3 _ _ _ 0, e4 _ _ _ 0]
    have := cntI_dec (f := fun k => decide (T 2 k = -1)) (g := fun k => decide (up2 (up2 (up2 T 0 (tSa S b m pl) (fN (tX S T b m pl) (tY S T b m pl))) 1 (tSa S b m pl) (fD (tX S T b m pl) (tY S T b m pl))) 2 (tSa S b m pl) (1 + gSI (fun k => T 2 (tSa S b m k)) (tN b)) 2 k = -1)) (n := (S 0 0).toNat) (j := tSa S b m pl) (by omega) (decide_eq_true h4.2.1) (by show decide (up2 _ 2 _ _ 2 _ = -1) = false; rw [up2_s]; exact decide_eq_false (by omega)) (fun k hk => by show decide (up2 _ 2 _ _ 2 k = -1) = _; rw [up2_i _ _ _ hk, up2_k _ _ _ (by decide), up2_k _ _ _ (by decide)])
    omega
theorem mu_ge (S T : Sg) : 0 ≤ mu S T := by
  have := cntI_b (fun k => decide (T 2 k = -1)) (S 0 0).toNat
  have := cntI_b (fun k => decide (T 3 k = 0)) (S 0 2).toNat
  have := cntI_b (fun k => decide (T 4 k = 0)) (S 0 3).toNat
  unfold mu
  omega
theorem mu_le {S : Sg} (Hi : invS S) (T : Sg) : mu S T ≤ 30 := by
  have hi := Hi.1
  have := cntI_b (fun k => decide (T 2 k = -1)) (S 0 0).toNat
  have := cntI_b (fun k => decide (T 3 k = 0)) (S 0 2).toNat
  have := cntI_b (fun k => decide (T 4 k = 0)) (S 0 3).toNat
  unfold mu
  omega
