/-! the reference's solving, by numbers -/
theorem cntI_dec {f g : Nat → Bool} {n j : Nat} (hj : j < n) (hf : f j = true) (hg : g j = false) (h : ∀ k, k ≠ j → g k = f k) : cntI g n + 1 = cntI f n := by
  induction n with
  | zero => exact absurd hj (Nat.not_lt_zero j)
  | succ n ih =>
    show cntI g n + (if g n then 1 else 0) + 1 = cntI f n + (if f n then 1 else 0)
    by_cases z : n = j
    · rw [z, hf, hg, cntI_c (f := g) (g := f) (n := j) (fun k hk => h k (by omega))]
      simp
    · rw [h n z]
      have := ih (by omega)
      omega
def mu (S T : Sg) : Int := cntI (fun k => decide (T 2 k = -1)) (S 0 0).toNat + cntI (fun k => decide (T 3 k = 0)) (S 0 2).toNat + cntI (fun k => decide (T 4 k = 0)) (S 0 3).toNat
theorem gSI_ge (st : Nat → Int) : ∀ N, -1 ≤ gSI st N := by
  intro N
  induction N with
  | zero => exact (by decide : (-1 : Int) ≤ -1)
  | succ k ih =>
    show -1 ≤ (if gSI st k < st k then st k else gSI st k)
    split <;> omega
theorem mu_step {S T T' : Sg} (Hi : invS S) (h : step S T = some T') : mu S T' + 1 = mu S T := by
  obtain ⟨b, m, pl, h1, h2, h3, h4, rfl⟩ := step_inv Hi h
  have hi := Hi.1
  have hk := tSa_lt Hi h1 h2 pl
  have g0 := gSI_ge (fun k => T 2 (tSa S b m k)) (tN b)
  unfold mu tTell
  split
  · match b, h1 with
    | 0, _ =>
      have e2 : ∀ v, up2 T (3 + 0) m v 2 = T 2 := fun v => by funext k; exact up2_k _ _ _ (by decide)
      have e4 : ∀ v, up2 T (3 + 0) m v 4 = T 4 := fun v => by funext k; exact up2_k _ _ _ (by decide)
      rw [e2, e4]
      have := cntI_dec (f := fun k => decide (T 3 k = 0)) (g := fun k => decide (up2 T (3 + 0) m 1 3 k = 0)) (n := (S 0 2).toNat) (j := m) (by have : (m : Int) < S 0 2 := h2; omega) (decide_eq_true h3) (by show decide (up2 T 3 m 1 3 m = 0) = false; rw [up2_s]; decide) (fun k hk => by show decide (up2 T 3 m 1 3 k = 0) = _; rw [up2_i _ _ _ hk])
      omega
    | 1, _ =>
      have e2 : ∀ v, up2 T (3 + 1) m v 2 = T 2 := fun v => by funext k; exact up2_k _ _ _ (by decide)
      have e3 : ∀ v, up2 T (3 + 1) m v 3 = T 3 := fun v => by funext k; exact up2_k _ _ _ (by decide)
      rw [e2, e3]
      have := cntI_dec (f := fun k => decide (T 4 k = 0)) (g := fun k => decide (up2 T (3 + 1) m 1 4 k = 0)) (n := (S 0 3).toNat) (j := m) (by have : (m : Int) < S 0 3 := h2; omega) (decide_eq_true h3) (by show decide (up2 T 4 m 1 4 m = 0) = false; rw [up2_s]; decide) (fun k hk => by show decide (up2 T 4 m 1 4 k = 0) = _; rw [up2_i _ _ _ hk])
      omega
  · have e3 : ∀ (A B : Int) (x y : Int), (up2 (up2 (up2 T 0 (tSa S b m pl) A) 1 (tSa S b m pl) B) 2 (tSa S b m pl) x) 3 = T 3 := fun A B x y => by funext k; rw [up2_k _ _ _ (by decide), up2_k _ _ _ (by decide), up2_k _ _ _ (by decide)]
    have e4 : ∀ (A B : Int) (x y : Int), (up2 (up2 (up2 T 0 (tSa S b m pl) A) 1 (tSa S b m pl) B) 2 (tSa S b m pl) x) 4 = T 4 := fun A B x y => by funext k; rw [up2_k _ _ _ (by decide), up2_k _ _ _ (by decide), up2_k _ _ _ (by decide)]
    rw [e3 _ _ _ 0, e4 _ _ _ 0]
    have := cntI_dec (f := fun k => decide (T 2 k = -1)) (g := fun k => decide (up2 (up2 (up2 T 0 (tSa S b m pl) (fN (tX S T b m pl) (tY S T b m pl))) 1 (tSa S b m pl) (fD (tX S T b m pl) (tY S T b m pl))) 2 (tSa S b m pl) (1 + gSI (fun k => T 2 (tSa S b m k)) (tN b)) 2 k = -1)) (n := (S 0 0).toNat) (j := tSa S b m pl) (by omega) (decide_eq_true h4.2.1) (by show decide (up2 _ 2 _ _ 2 _ = -1) = false; rw [up2_s]; exact decide_eq_false (by omega)) (fun k hk => by show decide (up2 _ 2 _ _ 2 k = -1) = _; rw [up2_i _ _ _ hk, up2_k _ _ _ (by decide), up2_k _ _ _ (by decide)])
    omega
theorem mu_ge (S T : Sg) : 0 ≤ mu S T := by
  have := cntI_b (fun k => decide (T 2 k = -1)) (S 0 0).toNat
  have := cntI_b (fun k => decide (T 3 k = 0)) (S 0 2).toNat
  have := cntI_b (fun k => decide (T 4 k = 0)) (S 0 3).toNat
  unfold mu
  omega
theorem mu_le {S : Sg} (Hi : invS S) (T : Sg) : mu S T ≤ 30 := by
  have hi := Hi.1
  have := cntI_b (fun k => decide (T 2 k = -1)) (S 0 0).toNat
  have := cntI_b (fun k => decide (T 3 k = 0)) (S 0 2).toNat
  have := cntI_b (fun k => decide (T 4 k = 0)) (S 0 3).toNat
  unfold mu
  omega
/-- what is so on the way -/
def solI (S T : Sg) : Prop := invT S T ∧ (∃ z : Int, stB S T z ∧ -1 ≤ z ∧ z + mu S T ≤ 100) ∧ ∃ c : Nat, mu S T ≤ c ∧ run S c T = told S
theorem solI_0 {S : Sg} (Hi : invS S) : solI S (T0 S) := ⟨(T0_inv Hi).1, ⟨0, (T0_inv Hi).2, by decide, by have := mu_le Hi (T0 S); omega⟩, 30, mu_le Hi _, rfl⟩
theorem solI_s {S T T' : Sg} (Hi : invS S) (h : solI S T) (hs : step S T = some T') : solI S T' ∧ mu S T' + 1 = mu S T := by
  obtain ⟨h1, ⟨z, h2, h3, h4⟩, c, h5, h6⟩ := h
  have m1 := mu_step Hi hs
  have m2 := mu_ge S T'
  obtain ⟨g1, g2⟩ := step_pres Hi h1 h2 ⟨h3, by omega⟩ hs
  obtain ⟨c1, rfl⟩ : ∃ c1, c = c1 + 1 := ⟨c - 1, by omega⟩
  rw [run_some hs] at h6
  exact ⟨⟨g1, ⟨z + 1, g2, by omega, by omega⟩, c1, by omega, h6⟩, m1⟩
theorem solI_e {S T : Sg} (h : solI S T) (hs : step S T = none) : T = told S := by
  obtain ⟨-, -, c, -, h6⟩ := h
  rw [run_none hs] at h6
  exact h6
/-- the reference's denominators: 0 where nothing is told -/
def zB (T : Sg) (k : Nat) : Int := if T 2 k = -1 then 0 else T 1 k
theorem zB_z {S T : Sg} {F : Nat → Nat → Int32} {L : Nat → Nat → Int64} (h : modT S T F L) {k : Nat} (hk : (k : Int) < S 0 0) : L 1 k = zL (zB T k) := by
  rw [(h k hk).2.1]
  unfold zB
  split
  · exact zL_0.symm
  · rfl
theorem zB_b {S T : Sg} (Ht : invT S T) {k : Nat} (hk : (k : Int) < S 0 0) : (zB T k).natAbs < 1152921504606846976 := by
  have := Ht.1 k hk
  unfold zB
  split <;> omega
theorem zB_d {S T : Sg} (Ht : invT S T) {k : Nat} (hk : (k : Int) < S 0 0) : decide (0 < zB T k) = decide (T 2 k ≠ -1) := by
  have := Ht.1 k hk
  refine decide_eq_decide.mpr ?_
  unfold zB
  split <;> omega
def solP (G : g_C) (md : Nat → Nat) (w w' : g_W) (S T' : Sg) (th : Int32) (Fm : Nat → Nat → Int32) : Prop :=
  mFr md w w' ∧ ∃ (tp bt : Int64) (L' : Nat → Nat → Int64) (f11 : Nat → Int32), modW G w' md S th tp bt (up1 Fm 11 f11) L' ∧ modT S T' (fun _ => f11) L'
theorem modF_11 {S : Sg} {F : Nat → Nat → Int32} (Hf : modF S F) (f : Nat → Int32) : modF S (up1 F 11 f) := by
  unfold modF at *
  exact Hf
theorem gSI_1 {f : Nat → Int} (h0 : -1 ≤ f 0) (h1 : f 1 = -1) : gSI f 2 = f 0 := by
  show (if (if -1 < f 0 then f 0 else -1) < f 1 then f 1 else (if -1 < f 0 then f 0 else -1)) = f 0
  rw [h1]
  split <;> split <;> omega
theorem gSI_0 {f : Nat → Int} (h1 : -1 ≤ f 1) (h0 : f 0 = -1) : gSI f 2 = f 1 := by
  show (if (if -1 < f 0 then f 0 else -1) < f 1 then f 1 else (if -1 < f 0 then f 0 else -1)) = f 1
  rw [h0]
  split <;> split <;> omega
def mxT (S T : Sg) (m pl : Nat) : Nat → Int
  | 0 => 0
  | k + 1 => if k = pl then mxT S T m pl k else if mxT S T m pl k < T 2 (saP S m k) then T 2 (saP S m k) else mxT S T m pl k
theorem mxT_g {S T : Sg} {m pl : Nat} (hp : pl < 3) (h1 : T 2 (saP S m pl) = -1) (h2 : ∀ j, j < 3 → j ≠ pl → 0 ≤ T 2 (saP S m j)) : 1 + gSI (fun k => T 2 (tSa S 1 m k)) (tN 1) = mxT S T m pl 3 + 1 := by
  obtain ⟨f, hf⟩ : ∃ f : Nat → Int, f = fun k => T 2 (saP S m k) := ⟨_, rfl⟩
  have e : (fun k => T 2 (tSa S 1 m k)) = f := by rw [hf]; rfl
  have e1 : f pl = -1 := by rw [hf]; exact h1
  have e2 : ∀ j, j < 3 → j ≠ pl → 0 ≤ f j := fun j q1 q2 => by rw [hf]; exact h2 j q1 q2
  have em : ∀ k, mxT S T m pl (k + 1) = if k = pl then mxT S T m pl k else if mxT S T m pl k < f k then f k else mxT S T m pl k := fun k => by rw [hf]; rfl
  have eg : ∀ k, gSI f (k + 1) = if gSI f k < f k then f k else gSI f k := fun k => rfl
  have g3 : gSI f 3 = if gSI f 2 < f 2 then f 2 else gSI f 2 := eg 2
  have g2 : gSI f 2 = if gSI f 1 < f 1 then f 1 else gSI f 1 := eg 1
  have g1 : gSI f 1 = if -1 < f 0 then f 0 else -1 := eg 0
  rw [e, show tN 1 = 3 from rfl]
  rcases (show pl = 0 ∨ pl = 1 ∨ pl = 2 by omega) with rfl | rfl | rfl
  · have a1 := e2 1 (by decide) (by decide)
    have a2 := e2 2 (by decide) (by decide)
    have m3 : mxT S T m 0 3 = if mxT S T m 0 2 < f 2 then f 2 else mxT S T m 0 2 := (em 2).trans (if_neg (by decide))
    have m2 : mxT S T m 0 2 = if mxT S T m 0 1 < f 1 then f 1 else mxT S T m 0 1 := (em 1).trans (if_neg (by decide))
    have m1 : mxT S T m 0 1 = 0 := (em 0).trans (if_pos rfl)
    rw [m1] at m2
    rw [e1] at g1
    have g1' : gSI f 1 = -1 := g1
    rw [g1'] at g2
    rw [g3, m3, g2, m2]
    repeat' split
    all_goals omega
  · have a1 := e2 0 (by decide) (by decide)
    have a2 := e2 2 (by decide) (by decide)
    have m3 : mxT S T m 1 3 = if mxT S T m 1 2 < f 2 then f 2 else mxT S T m 1 2 := (em 2).trans (if_neg (by decide))
    have m2 : mxT S T m 1 2 = mxT S T m 1 1 := (em 1).trans (if_pos rfl)
    have m1 : mxT S T m 1 1 = if 0 < f 0 then f 0 else 0 := (em 0).trans (if_neg (by decide))
    rw [e1] at g2
    rw [g3, m3, g2, m2, g1, m1]
    repeat' split
    all_goals omega
  · have a1 := e2 0 (by decide) (by decide)
    have a2 := e2 1 (by decide) (by decide)
    have m3 : mxT S T m 2 3 = mxT S T m 2 2 := (em 2).trans (if_pos rfl)
    have m2 : mxT S T m 2 2 = if mxT S T m 2 1 < f 1 then f 1 else mxT S T m 2 1 := (em 1).trans (if_neg (by decide))
    have m1 : mxT S T m 2 1 = if 0 < f 0 then f 0 else 0 := (em 0).trans (if_neg (by decide))
    rw [e1] at g3
    rw [g3, m3, g2, m2, g1, m1]
    repeat' split
    all_goals omega
theorem tell_sol {G : g_C} {md : Nat → Nat} {w w1 w' : g_W} {S T : Sg} {th : Int32} {n d : Int} {Fm : Nat → Nat → Int32} {L : Nat → Nat → Int64} {b m pl k : Nat} {tp bt : Int64} {sg : Int32} (Hj : modI md) (H1 : modW G w1 md S th tp bt Fm L) (hfr : mFr md w w1) (HT : modT S T Fm L)
    (hn : n = fN (tX S T b m pl) (tY S T b m pl)) (hd : d = fD (tX S T b m pl) (tY S T b m pl)) (hsg : sg = iL (1 + gSI (fun k => T 2 (tSa S b m k)) (tN b))) (hk : k = tSa S b m pl)
    (hw : w' = @ite _ (1000000 < n.natAbs ∨ 1000000 < d) (Classical.propDecidable _) w1 (g_up (g_up (g_up w1 (md 9) (.inl (G.2.1 1, 10, .inr (.inl (vp_updL (L 0) k (zL n)))))) (md 10) (.inl (G.2.1 1, 10, .inr (.inl (vp_updL (L 1) k (zL d)))))) (md 11) (.inl (G.2.1 0, 10, .inl (upd (Fm 11) k sg))))) :
    solP G md w w' S (tTell S T b m pl) th Fm := by
  have ne : ∀ i j, i < 12 → j < 12 → i ≠ j → md i ≠ md j := fun i j h1 h2 h3 q => h3 (Hj i j h1 h2 q)
  unfold tTell
  rw [← hn, ← hd]
  by_cases big : 1000000 < n.natAbs ∨ 1000000 < d
  · rw [if_pos big] at hw
    rw [if_pos big, hw]
    refine ⟨hfr, tp, bt, L, Fm 11, H1, fun j hj => ?_⟩
    rw [up2_k _ _ _ (by omega), up2_k _ _ _ (by omega), up2_k _ _ _ (by omega)]
    exact HT j hj
  · rw [if_neg big] at hw
    rw [if_neg big, hw]
    obtain ⟨c0, c1, c2, c3, c4, c5, c6, c7, c8, c9, c10, c11⟩ := H1
    have go : ∀ i, i < 9 → ∀ (e9 e10 e11 : va_E), g_up (g_up (g_up w1 (md 9) e9) (md 10) e10) (md 11) e11 (md i) = w1 (md i) := fun i hi e9 e10 e11 => by
      rw [g_up_n _ (ne i 11 (by omega) (by decide) (by omega)), g_up_n _ (ne i 10 (by omega) (by decide) (by omega)), g_up_n _ (ne i 9 (by omega) (by decide) (by omega))]
    refine ⟨mFr_tr hfr (mFr_tr (mFr_set (i := 9) (by decide) _) (mFr_tr (mFr_set (i := 10) (by decide) _) (mFr_set (i := 11) (by decide) _))), tp, bt, (fun i => if i = 0 then vp_updL (L 0) k (zL n) else if i = 1 then vp_updL (L 1) k (zL d) else L i), upd (Fm 11) k sg, ?_, fun j hj => ?_⟩
    · refine ⟨?_, ?_, ?_, ?_, ?_, ?_, ?_, ?_, ?_, ?_, ?_, ?_⟩
      · rw [go 0 (by decide)]; exact c0
      · rw [go 1 (by decide)]; exact c1
      · rw [go 2 (by decide)]; exact c2
      · rw [go 3 (by decide)]; exact c3
      · rw [go 4 (by decide)]; exact c4
      · rw [go 5 (by decide)]; exact c5
      · rw [go 6 (by decide)]; exact c6
      · rw [go 7 (by decide)]; exact c7
      · rw [go 8 (by decide)]; exact c8
      · rw [g_up_n _ (ne 9 11 (by decide) (by decide) (by decide)), g_up_n _ (ne 9 10 (by decide) (by decide) (by decide)), g_up_s]; rfl
      · rw [g_up_n _ (ne 10 11 (by decide) (by decide) (by decide)), g_up_s]; rfl
      · rw [g_up_s]; rfl
    · show vp_updL (L 0) k (zL n) j = _ ∧ vp_updL (L 1) k (zL d) j = _ ∧ upd (Fm 11) k sg j = _
      have hg := gSI_ge (fun k => T 2 (tSa S b m k)) (tN b)
      by_cases z : j = k
      · rw [← hk, z, up2_k _ _ _ (by decide), up2_k _ _ _ (by decide), up2_s, up2_s, up2_k _ _ _ (by decide), up2_s, upd_sx, if_neg (by omega)]
        unfold vp_updL
        rw [if_pos rfl, if_pos rfl]
        exact ⟨rfl, rfl, hsg⟩
      · rw [← hk, up2_i _ _ _ z, up2_i _ _ _ z, up2_i _ _ _ z, up2_i _ _ _ z, up2_i _ _ _ z, up2_i _ _ _ z, up2_i _ _ _ z, up2_i _ _ _ z, up2_i _ _ _ z, upd_nx z]
        unfold vp_updL
        rw [if_neg z, if_neg z]
        exact HT j hj
theorem f_two {s1 s2 u X Y : Int} (h2 : s2 ≠ 0) (hu : u ≠ 0) (hY : Y ≠ 0) (h : s1 * Y = X * (s2 * u)) : fN (fN s1 s2) (fD s1 s2 * u) = fN X Y ∧ fD (fN s1 s2) (fD s1 s2 * u) = fD X Y := by
  have e1 := fN_mul s1 s2
  have e2 := fD_mul s1 s2
  refine (f_same (Int.mul_ne_zero (by have := fD_pos (x := s1) h2; omega) hu) hY).mpr ?_
  refine Int.eq_of_mul_eq_mul_right (fG_ne (x := s1) h2) ?_
  calc fN s1 s2 * Y * fG s1 s2 = (fN s1 s2 * fG s1 s2) * Y := by rw [Int.mul_assoc, Int.mul_comm Y, Int.mul_assoc]
    _ = s1 * Y := by rw [e1]
    _ = X * (s2 * u) := h
    _ = X * ((fD s1 s2 * fG s1 s2) * u) := by rw [e2]
    _ = X * (fD s1 s2 * u) * fG s1 s2 := by rw [Int.mul_assoc X, Int.mul_assoc (fD s1 s2), Int.mul_assoc (fD s1 s2), Int.mul_comm (fG s1 s2)]
section MS
variable {S T : Sg} {m : Nat}
theorem mesh_X1 : tX S T 0 m 1 = -(S 5 (S 9 m).toNat * T 0 (saM S m 0)) := by
  show -(0 * T 1 (saM S m 0) + wtM S m 0 * T 0 (saM S m 0) * 1) = _
  rw [Int.zero_mul, Int.zero_add, Int.mul_one]; rfl
theorem mesh_Y1 : tY S T 0 m 1 = wtM S m 1 * T 1 (saM S m 0) := by
  show wtM S m 1 * (1 * T 1 (saM S m 0)) = _
  rw [Int.one_mul]
theorem mesh_X0 : tX S T 0 m 0 = -(wtM S m 1 * T 0 (saM S m 1)) := by
  show -(0 * T 1 (saM S m 1) + wtM S m 1 * T 0 (saM S m 1) * 1) = _
  rw [Int.zero_mul, Int.zero_add, Int.mul_one]
theorem mesh_Y0 : tY S T 0 m 0 = S 5 (S 9 m).toNat * T 1 (saM S m 1) := by
  show wtM S m 0 * (1 * T 1 (saM S m 1)) = _
  rw [Int.one_mul]; rfl
theorem wtM1 : wtM S m 1 = if inner S m then -S 5 (S 10 m).toNat else S 5 (S 10 m).toNat := rfl
theorem mesh_s1 (Hi : invS S) (Ht : invT S T) (hm : (m : Int) < S 0 2) {sg : Int} (hs : (inner S m ∧ sg = 1) ∨ (¬ inner S m ∧ sg = -1)) :
    fN (sg * T 0 (saM S m 0) * S 5 (S 9 m).toNat) (T 1 (saM S m 0) * S 5 (S 10 m).toNat) = fN (tX S T 0 m 1) (tY S T 0 m 1) ∧ fD (sg * T 0 (saM S m 0) * S 5 (S 9 m).toNat) (T 1 (saM S m 0) * S 5 (S 10 m).toNat) = fD (tX S T 0 m 1) (tY S T 0 m 1) := by
  obtain ⟨a1, a2, a3, a4, a5⟩ := Hi.2.2.2.1 m hm
  have g1 := Hi.2.2.1 (S 9 m).toNat (by omega)
  have g2 := Hi.2.2.1 (S 10 m).toNat (by omega)
  have hk : ((saM S m 0 : Nat) : Int) < S 0 0 := tSa_lt (b := 0) Hi (by decide) hm 0
  have t1 := Ht.1 _ hk
  have B : tY S T 0 m 1 ≠ 0 := (tie_bd (b := 0) Hi Ht (by decide) hm (pl := 1) (by decide)).1
  refine (f_same (Int.mul_ne_zero (by omega) (by omega)) B).mpr ?_
  rw [mesh_X1, mesh_Y1, wtM1]
  rcases hs with ⟨h1, rfl⟩ | ⟨h1, rfl⟩
  · rw [if_pos h1]; grind
  · rw [if_neg h1]; grind
theorem mesh_s0 (Hi : invS S) (Ht : invT S T) (hm : (m : Int) < S 0 2) {sg : Int} (hs : (inner S m ∧ sg = 1) ∨ (¬ inner S m ∧ sg = -1)) :
    fN (sg * T 0 (saM S m 1) * S 5 (S 10 m).toNat) (T 1 (saM S m 1) * S 5 (S 9 m).toNat) = fN (tX S T 0 m 0) (tY S T 0 m 0) ∧ fD (sg * T 0 (saM S m 1) * S 5 (S 10 m).toNat) (T 1 (saM S m 1) * S 5 (S 9 m).toNat) = fD (tX S T 0 m 0) (tY S T 0 m 0) := by
  obtain ⟨a1, a2, a3, a4, a5⟩ := Hi.2.2.2.1 m hm
  have g1 := Hi.2.2.1 (S 9 m).toNat (by omega)
  have g2 := Hi.2.2.1 (S 10 m).toNat (by omega)
  have hk : ((saM S m 1 : Nat) : Int) < S 0 0 := tSa_lt (b := 0) Hi (by decide) hm 1
  have t1 := Ht.1 _ hk
  have B : tY S T 0 m 0 ≠ 0 := (tie_bd (b := 0) Hi Ht (by decide) hm (pl := 0) (by decide)).1
  refine (f_same (Int.mul_ne_zero (by omega) (by omega)) B).mpr ?_
  rw [mesh_X0, mesh_Y0, wtM1]
  rcases hs with ⟨h1, rfl⟩ | ⟨h1, rfl⟩
  · rw [if_pos h1]; grind
  · rw [if_neg h1]; grind
theorem set_X0 : tX S T 1 m 0 = -(S 15 m * T 0 (saP S m 1) * T 1 (saP S m 2) + -(S 14 m + S 15 m) * T 0 (saP S m 2) * T 1 (saP S m 1)) := by
  show -((0 * T 1 (saP S m 1) + S 15 m * T 0 (saP S m 1) * 1) * T 1 (saP S m 2) + -(S 14 m + S 15 m) * T 0 (saP S m 2) * (1 * T 1 (saP S m 1))) = _
  rw [Int.zero_mul, Int.zero_add, Int.mul_one, Int.one_mul]
theorem set_Y0 : tY S T 1 m 0 = S 14 m * (T 1 (saP S m 1) * T 1 (saP S m 2)) := by
  show S 14 m * (1 * T 1 (saP S m 1) * T 1 (saP S m 2)) = _
  rw [Int.one_mul]
theorem set_X1 : tX S T 1 m 1 = -(S 14 m * T 0 (saP S m 0) * T 1 (saP S m 2) + -(S 14 m + S 15 m) * T 0 (saP S m 2) * T 1 (saP S m 0)) := by
  show -((0 * T 1 (saP S m 0) + S 14 m * T 0 (saP S m 0) * 1) * T 1 (saP S m 2) + -(S 14 m + S 15 m) * T 0 (saP S m 2) * (1 * T 1 (saP S m 0))) = _
  rw [Int.zero_mul, Int.zero_add, Int.mul_one, Int.one_mul]
theorem set_Y1 : tY S T 1 m 1 = S 15 m * (T 1 (saP S m 0) * T 1 (saP S m 2)) := by
  show S 15 m * (1 * T 1 (saP S m 0) * T 1 (saP S m 2)) = _
  rw [Int.one_mul]
theorem set_X2 : tX S T 1 m 2 = -(S 14 m * T 0 (saP S m 0) * T 1 (saP S m 1) + S 15 m * T 0 (saP S m 1) * T 1 (saP S m 0)) := by
  show -((0 * T 1 (saP S m 0) + S 14 m * T 0 (saP S m 0) * 1) * T 1 (saP S m 1) + S 15 m * T 0 (saP S m 1) * (1 * T 1 (saP S m 0))) = _
  rw [Int.zero_mul, Int.zero_add, Int.mul_one, Int.one_mul]
theorem set_Y2 : tY S T 1 m 2 = -(S 14 m + S 15 m) * (T 1 (saP S m 0) * T 1 (saP S m 1)) := by
  show -(S 14 m + S 15 m) * (1 * T 1 (saP S m 0) * T 1 (saP S m 1)) = _
  rw [Int.one_mul]
theorem set_s (Hi : invS S) (Ht : invT S T) (hm : (m : Int) < S 0 3) {pl a b : Nat} {u v x : Int}
    (hp : (pl = 0 ∧ a = saP S m 2 ∧ u = S 14 m + S 15 m ∧ b = saP S m 1 ∧ v = -S 15 m ∧ x = S 14 m) ∨ (pl = 1 ∧ a = saP S m 2 ∧ u = S 14 m + S 15 m ∧ b = saP S m 0 ∧ v = -S 14 m ∧ x = S 15 m) ∨ (pl = 2 ∧ a = saP S m 0 ∧ u = S 14 m ∧ b = saP S m 1 ∧ v = S 15 m ∧ x = S 14 m + S 15 m)) :
    (fN (fN (T 0 a * u * T 1 b + T 0 b * v * T 1 a) (T 1 a * T 1 b)) (fD (T 0 a * u * T 1 b + T 0 b * v * T 1 a) (T 1 a * T 1 b) * x) = fN (tX S T 1 m pl) (tY S T 1 m pl) ∧ fD (fN (T 0 a * u * T 1 b + T 0 b * v * T 1 a) (T 1 a * T 1 b)) (fD (T 0 a * u * T 1 b + T 0 b * v * T 1 a) (T 1 a * T 1 b) * x) = fD (tX S T 1 m pl) (tY S T 1 m pl)) ∧
    (T 0 a * u * T 1 b + T 0 b * v * T 1 a).natAbs ≤ 800000000000000 ∧ (T 1 a * T 1 b).natAbs ≤ 1000000000000 ∧ T 1 a ≠ 0 ∧ T 1 b ≠ 0 ∧ 0 < x ∧ x ≤ 400 := by
  have ps := Hi.2.2.2.2 m hm
  have k0 : ((saP S m 0 : Nat) : Int) < S 0 0 := tSa_lt (b := 1) Hi (by decide) hm 0
  have k1 : ((saP S m 1 : Nat) : Int) < S 0 0 := tSa_lt (b := 1) Hi (by decide) hm 1
  have k2 : ((saP S m 2 : Nat) : Int) < S 0 0 := tSa_lt (b := 1) Hi (by decide) hm 2
  have t0 := Ht.1 _ k0
  have t1 := Ht.1 _ k1
  have t2 := Ht.1 _ k2
  have hb : ∀ n1 d1 u1 : Int, n1.natAbs ≤ 1000000 → u1.natAbs ≤ 400 → d1.natAbs ≤ 1000000 → (n1 * u1 * d1).natAbs ≤ 400000000000000 := by
    intro n1 d1 u1 q1 q2 q3
    rw [Int.natAbs_mul, Int.natAbs_mul]
    exact Nat.mul_le_mul (Nat.mul_le_mul q1 q2) q3
  have hd : ∀ d1 d2 : Int, d1.natAbs ≤ 1000000 → d2.natAbs ≤ 1000000 → (d1 * d2).natAbs ≤ 1000000000000 := by
    intro d1 d2 q1 q2
    rw [Int.natAbs_mul]
    exact Nat.mul_le_mul q1 q2
  have B := fun pl hpl => (tie_bd (b := 1) Hi Ht (by decide) hm (pl := pl) hpl).1
  rcases hp with ⟨rfl, rfl, rfl, rfl, rfl, rfl⟩ | ⟨rfl, rfl, rfl, rfl, rfl, rfl⟩ | ⟨rfl, rfl, rfl, rfl, rfl, rfl⟩
  · have e1 := hb (T 0 (saP S m 2)) (T 1 (saP S m 1)) (S 14 m + S 15 m) (by omega) (by omega) (by omega)
    have e2 := hb (T 0 (saP S m 1)) (T 1 (saP S m 2)) (-S 15 m) (by omega) (by omega) (by omega)
    have e3 := hd (T 1 (saP S m 2)) (T 1 (saP S m 1)) (by omega) (by omega)
    refine ⟨f_two (Int.mul_ne_zero (by omega) (by omega)) (by omega) (B 0 (by decide)) ?_, by omega, e3, by omega, by omega, by omega, by omega⟩
    rw [set_X0, set_Y0]; grind
  · have e1 := hb (T 0 (saP S m 2)) (T 1 (saP S m 0)) (S 14 m + S 15 m) (by omega) (by omega) (by omega)
    have e2 := hb (T 0 (saP S m 0)) (T 1 (saP S m 2)) (-S 14 m) (by omega) (by omega) (by omega)
    have e3 := hd (T 1 (saP S m 2)) (T 1 (saP S m 0)) (by omega) (by omega)
    refine ⟨f_two (Int.mul_ne_zero (by omega) (by omega)) (by omega) (B 1 (by decide)) ?_, by omega, e3, by omega, by omega, by omega, by omega⟩
    rw [set_X1, set_Y1]; grind
  · have e1 := hb (T 0 (saP S m 0)) (T 1 (saP S m 1)) (S 14 m) (by omega) (by omega) (by omega)
    have e2 := hb (T 0 (saP S m 1)) (T 1 (saP S m 0)) (S 15 m) (by omega) (by omega) (by omega)
    have e3 := hd (T 1 (saP S m 0)) (T 1 (saP S m 1)) (by omega) (by omega)
    refine ⟨f_two (Int.mul_ne_zero (by omega) (by omega)) (by omega) (B 2 (by decide)) ?_, by omega, e3, by omega, by omega, by omega, by omega⟩
    rw [set_X2, set_Y2]; grind
/-- which shaft is the one that is not told -/
theorem tU0 (h0 : T 2 (saM S m 0) = -1) (h1 : T 2 (saM S m 1) ≠ -1) : tUnk S T 0 m 0 := ⟨by decide, h0, fun j hj hn => by
  have hj2 : j < 2 := hj
  obtain rfl : j = 1 := by omega
  exact h1⟩
theorem tU1 (h0 : T 2 (saM S m 0) ≠ -1) (h1 : T 2 (saM S m 1) = -1) : tUnk S T 0 m 1 := ⟨by decide, h1, fun j hj hn => by
  have hj2 : j < 2 := hj
  obtain rfl : j = 0 := by omega
  exact h0⟩
theorem tUm (h : T 2 (saM S m 0) = -1 ↔ T 2 (saM S m 1) = -1) : ¬ ∃ pl, tUnk S T 0 m pl := by
  rintro ⟨pl, h1, h2, h3⟩
  have h1' : pl < 2 := h1
  rcases (show pl = 0 ∨ pl = 1 by omega) with rfl | rfl
  · exact h3 1 (by decide) (by decide) (h.mp h2)
  · exact h3 0 (by decide) (by decide) (h.mpr h2)
def tcN (S T : Sg) (m : Nat) : Nat → Nat
  | 0 => 0
  | k + 1 => tcN S T m k + (if T 2 (saP S m k) ≠ -1 then 1 else 0)
theorem tc_le (k : Nat) : tcN S T m k ≤ k := by
  induction k with
  | zero => exact Nat.le_refl _
  | succ k ih => show tcN S T m k + _ ≤ _; split <;> omega
theorem tUp : tcN S T m 3 = 2 ↔ ∃ pl, tUnk S T 1 m pl := by
  show ((0 + (if T 2 (saP S m 0) ≠ -1 then 1 else 0)) + (if T 2 (saP S m 1) ≠ -1 then 1 else 0)) + (if T 2 (saP S m 2) ≠ -1 then 1 else 0) = 2 ↔ _
  constructor
  · intro h
    by_cases c0 : T 2 (saP S m 0) = -1
    · skip
      by_cases c1 : T 2 (saP S m 1) = -1
      · exact absurd h (by simp [c0, c1]; split <;> omega)
      · by_cases c2 : T 2 (saP S m 2) = -1
        · exact absurd h (by simp [c0, c1, c2])
        · exact ⟨0, (by decide : 0 < 3), c0, fun j hj hn => by
            have hj2 : j < 3 := hj
            rcases (show j = 1 ∨ j = 2 by omega) with rfl | rfl
            · exact c1
            · exact c2⟩
    · by_cases c1 : T 2 (saP S m 1) = -1
      · by_cases c2 : T 2 (saP S m 2) = -1
        · exact absurd h (by simp [c0, c1, c2])
        · exact ⟨1, (by decide : 1 < 3), c1, fun j hj hn => by
            have hj2 : j < 3 := hj
            rcases (show j = 0 ∨ j = 2 by omega) with rfl | rfl
            · exact c0
            · exact c2⟩
      · by_cases c2 : T 2 (saP S m 2) = -1
        · exact ⟨2, (by decide : 2 < 3), c2, fun j hj hn => by
            have hj2 : j < 3 := hj
            rcases (show j = 0 ∨ j = 1 by omega) with rfl | rfl
            · exact c0
            · exact c1⟩
        · exact absurd h (by simp [c0, c1, c2])
  · rintro ⟨pl, h1, h2, h3⟩
    have h1' : pl < 3 := h1
    rcases (show pl = 0 ∨ pl = 1 ∨ pl = 2 by omega) with rfl | rfl | rfl
    · have c1 : T 2 (saP S m 1) ≠ -1 := h3 1 (by decide) (by decide)
      have c2 : T 2 (saP S m 2) ≠ -1 := h3 2 (by decide) (by decide)
      have h2' : T 2 (saP S m 0) = -1 := h2
      simp [h2', c1, c2]
    · have c1 : T 2 (saP S m 0) ≠ -1 := h3 0 (by decide) (by decide)
      have c2 : T 2 (saP S m 2) ≠ -1 := h3 2 (by decide) (by decide)
      have h2' : T 2 (saP S m 1) = -1 := h2
      simp [h2', c1, c2]
    · have c1 : T 2 (saP S m 0) ≠ -1 := h3 0 (by decide) (by decide)
      have c2 : T 2 (saP S m 1) ≠ -1 := h3 1 (by decide) (by decide)
      have h2' : T 2 (saP S m 2) = -1 := h2
      simp [h2', c1, c2]
end MS
/-! the loops of solving -/
abbrev L2 (La Lb : Nat → Int64) : Nat → Nat → Int64 := fun i => if i = 0 then La else Lb
theorem modT_L2 {S T : Sg} {F : Nat → Nat → Int32} {L : Nat → Nat → Int64} (h : modT S T F L) : modT S T F (L2 (L 0) (L 1)) := fun k hk => h k hk
def T0st (S : Sg) (La Lb : Nat → Int64) (Fs : Nat → Int32) (j : Nat) : Prop := La j = zL (T0 S 0 j) ∧ Lb j = (if T0 S 2 j = -1 then 0 else zL (T0 S 1 j)) ∧ Fs j = iL (T0 S 2 j)
theorem T0_st {S : Sg} {La Lb : Nat → Int64} {Fs : Nat → Int32} {k : Nat} {a b : Int64} {f : Int32} (hk : k < 2147483648) (h : ∀ j, j < k → T0st S La Lb Fs j) (hn : a = zL (T0 S 0 k) ∧ b = (if T0 S 2 k = -1 then 0 else zL (T0 S 1 k)) ∧ f = iL (T0 S 2 k)) :
    ∀ j, j < k + 1 → T0st S (vp_updL La (nI k : Int32).toNatClampNeg a) (vp_updL Lb (nI k : Int32).toNatClampNeg b) (upd Fs (nI k : Int32).toNatClampNeg f) j := by
  intro j hj
  rw [nI_clamp hk]
  unfold T0st vp_updL upd
  by_cases z : j = k
  · rw [if_pos z, if_pos z, if_pos z, z]
    exact hn
  · rw [if_neg z, if_neg z, if_neg z]
    exact h j (by omega)
theorem T0c1 {S : Sg} {k : Nat} (h : (k : Int) = S 0 4) : zL (S 0 5) = zL (T0 S 0 k) ∧ (1 : Int64) = (if T0 S 2 k = -1 then 0 else zL (T0 S 1 k)) ∧ (0 : Int32) = iL (T0 S 2 k) := by
  have e0 : T0 S 0 k = S 0 5 := if_pos h
  have e1 : T0 S 1 k = 1 := rfl
  have e2 : T0 S 2 k = 0 := if_pos (Or.inl h)
  rw [e0, e1, e2]
  exact ⟨rfl, rfl, rfl⟩
theorem T0c2 {S : Sg} {k : Nat} (h : ¬ (k : Int) = S 0 4) (h3 : S 3 k = 1) : (0 : Int64) = zL (T0 S 0 k) ∧ (1 : Int64) = (if T0 S 2 k = -1 then 0 else zL (T0 S 1 k)) ∧ (0 : Int32) = iL (T0 S 2 k) := by
  have e0 : T0 S 0 k = 0 := if_neg h
  have e1 : T0 S 1 k = 1 := rfl
  have e2 : T0 S 2 k = 0 := if_pos (Or.inr h3)
  rw [e0, e1, e2]
  exact ⟨rfl, rfl, rfl⟩
theorem T0c3 {S : Sg} {k : Nat} (h : ¬ (k : Int) = S 0 4) (h3 : ¬ S 3 k = 1) : (0 : Int64) = zL (T0 S 0 k) ∧ (0 : Int64) = (if T0 S 2 k = -1 then 0 else zL (T0 S 1 k)) ∧ (-1 : Int32) = iL (T0 S 2 k) := by
  have e0 : T0 S 0 k = 0 := if_neg h
  have e2 : T0 S 2 k = -1 := by
    show (if (k : Int) = S 0 4 ∨ S 3 k = 1 then (0 : Int) else -1) = -1
    exact if_neg (fun q => q.elim h h3)
  rw [e0, e2]
  exact ⟨rfl, rfl, rfl⟩
def fuS (S T : Sg) (im : Bool) : Int := mu S T + (if im then 2 else 1)
theorem fuS_pos (S T : Sg) (im : Bool) : 0 < fuS S T im := by
  have := mu_ge S T
  unfold fuS
  split <;> omega
theorem fuS_t (S T : Sg) : fuS S T true = mu S T + 2 := rfl
theorem fuS_f (S T : Sg) : fuS S T false = mu S T + 1 := rfl
theorem mFr_st {md : Nat → Nat} {w w1 w2 : g_W} {q : Nat} {e : va_E} (h : mFr md w w1) (hq : w q = none) (h2 : w2 = g_up w1 q e) : mFr md w w2 := by
  rw [h2]
  refine ⟨fun a ha ho => ?_, fun a ha => ?_⟩
  · rw [g_up_n _ (fun z => ha (by rw [z]; exact hq))]; exact h.1 a ha ho
  · rw [g_up_n _ (fun z => ha (by rw [z]; exact hq))]; exact h.2 a ha
theorem mFr_no {md : Nat → Nat} {w w1 : g_W} {q : Nat} (h : mFr md w w1) (hq : w1 q = none) : w q = none := by
  cases hc : w q with
  | none => rfl
  | some x => exact absurd hq (h.2 q (by rw [hc]; exact fun z => (nomatch z)))
abbrev bigT (S T : Sg) (b m pl : Nat) : Prop := 1000000 < (fN (tX S T b m pl) (tY S T b m pl)).natAbs ∨ 1000000 < fD (tX S T b m pl) (tY S T b m pl)
theorem asd_up {S T : Sg} {b m pl : Nat} {f : Nat → Int32} {v : Int32} (h0 : T (3 + b) m = 0) (hm : m < 2147483648) (h : ∀ j : Nat, (j : Int) < S 0 (2 + b) → f j = iL (T (3 + b) j)) (hv : (bigT S T b m pl ∧ v = 1) ∨ (¬ bigT S T b m pl ∧ v = 0)) :
    ∀ j : Nat, (j : Int) < S 0 (2 + b) → upd f (nI m : Int32).toNatClampNeg v j = iL (tTell S T b m pl (3 + b) j) := by
  intro j hj
  rw [nI_clamp hm]
  unfold tTell
  rcases hv with ⟨h1, rfl⟩ | ⟨h1, rfl⟩
  · rw [if_pos h1]
    by_cases z : j = m
    · rw [z, upd_sx, up2_s]; rfl
    · rw [upd_nx z, up2_i _ _ _ z]; exact h j hj
  · rw [if_neg h1, up2_k _ _ _ (by omega), up2_k _ _ _ (by omega), up2_k _ _ _ (by omega)]
    by_cases z : j = m
    · rw [z, upd_sx, h0]; rfl
    · rw [upd_nx z]; exact h j hj
theorem asd_no {S T : Sg} {b b' m pl : Nat} (hb : b' ≠ b) (j : Nat) : tTell S T b m pl (3 + b') j = T (3 + b') j := by
  unfold tTell
  split
  · exact up2_k _ _ _ (by omega)
  · rw [up2_k _ _ _ (by omega), up2_k _ _ _ (by omega), up2_k _ _ _ (by omega)]
theorem g_bi2 {a b : Bool} : g_b a = g_b b ↔ a = b := by cases a <;> cases b <;> decide
theorem dec_ne {x y : Int} : decide (x ≠ -1) = decide (y ≠ -1) ↔ (x = -1 ↔ y = -1) := by
  rw [decide_eq_decide]
  omega
theorem tU_ex {S T : Sg} {m : Nat} (h : ¬ (T 2 (saM S m 0) = -1 ↔ T 2 (saM S m 1) = -1)) : ∃ pl, tUnk S T 0 m pl := by
  by_cases c0 : T 2 (saM S m 0) = -1
  · exact ⟨0, tU0 c0 (fun q => h ⟨fun _ => q, fun _ => c0⟩)⟩
  · by_cases c1 : T 2 (saM S m 1) = -1
    · exact ⟨1, tU1 c0 c1⟩
    · exact absurd ⟨fun q => absurd q c0, fun q => absurd q c1⟩ h
theorem nI_lei {a b : Nat} (ha : a < 2147483648) (hb : b < 2147483648) : nI a ≤ nI b ↔ a ≤ b := by
  rw [← iL_n a, iL_nle (by omega) (by omega) hb]
  omega
theorem n3_le {k : Nat} (hk : k < 2147483648) : (3 : Int32) ≤ nI k ↔ 3 ≤ k := nI_lei (a := 3) (by decide) hk
