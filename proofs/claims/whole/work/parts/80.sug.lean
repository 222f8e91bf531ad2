/-! the pair that is suggested -/
def offZ (p q a b : Int) : Int := ((a * q - p * b).natAbs : Int)
/-- (a, b) is at least as good as (a', b') -/
def wo (p q a b a' b' : Int) : Prop := offZ p q a b * b' < offZ p q a' b' * b ∨ (offZ p q a b * b' = offZ p q a' b' * b ∧ (a + b < a' + b' ∨ (a + b = a' + b' ∧ a ≤ a')))
/-- (a, b) is better than (a', b') -/
def bet (p q a b a' b' : Int) : Prop := offZ p q a b * b' < offZ p q a' b' * b ∨ (offZ p q a b * b' = offZ p q a' b' * b ∧ (a + b < a' + b' ∨ (a + b = a' + b' ∧ a < a')))
section SU
variable {p q a b a' b' a'' b'' u v : Int}
theorem bet_wo (h : bet p q a b a' b') : wo p q a b a' b' := by
  unfold bet at h
  unfold wo
  omega
theorem nbet (h : ¬ bet p q a b a' b') : wo p q a' b' a b := by
  unfold bet at h
  unfold wo
  omega
theorem wo_rf : wo p q a b a b := Or.inr ⟨rfl, Or.inr ⟨rfl, Int.le_refl _⟩⟩
theorem wo_an (h : wo p q a b a' b') (h' : wo p q a' b' a b) : a = a' ∧ b = b' := by
  unfold wo at h h'
  omega
theorem rat3 {x y z c c' c'' : Int} (h0 : 0 < c) (h1 : 0 < c') (h2 : 0 < c'') (k1 : x * c' ≤ y * c) (k2 : y * c'' ≤ z * c') : x * c'' ≤ z * c ∧ ((x * c' < y * c ∨ y * c'' < z * c') → x * c'' < z * c) := by
  have e1 : x * c'' * c' = x * c' * c'' := by rw [Int.mul_assoc, Int.mul_assoc, Int.mul_comm c'' c']
  have e2 : y * c * c'' = y * c'' * c := by rw [Int.mul_assoc, Int.mul_assoc, Int.mul_comm c c'']
  have e3 : z * c' * c = z * c * c' := by rw [Int.mul_assoc, Int.mul_assoc, Int.mul_comm c' c]
  have l1 : x * c' * c'' ≤ y * c * c'' := Int.mul_le_mul_of_nonneg_right k1 (by omega)
  have l2 : y * c'' * c ≤ z * c' * c := Int.mul_le_mul_of_nonneg_right k2 (by omega)
  refine ⟨Int.le_of_mul_le_mul_right (a := c') (by omega) h1, fun hs => Int.lt_of_mul_lt_mul_right (a := c') ?_ (by omega)⟩
  rcases hs with hs | hs
  · have := Int.mul_lt_mul_of_pos_right hs h2
    omega
  · have := Int.mul_lt_mul_of_pos_right hs h0
    omega
theorem wo_tr (hb : 0 < b) (hb' : 0 < b') (hb'' : 0 < b'') (h : wo p q a b a' b') (h' : wo p q a' b' a'' b'') : wo p q a b a'' b'' := by
  have k1 : offZ p q a b * b' ≤ offZ p q a' b' * b := by unfold wo at h; omega
  have k2 : offZ p q a' b' * b'' ≤ offZ p q a'' b'' * b' := by unfold wo at h'; omega
  obtain ⟨r1, r2⟩ := rat3 hb hb' hb'' k1 k2
  unfold wo at *
  by_cases z : offZ p q a b * b'' < offZ p q a'' b'' * b
  · exact Or.inl z
  · have z1 : ¬ (offZ p q a b * b' < offZ p q a' b' * b) := fun y => z (r2 (Or.inl y))
    have z2 : ¬ (offZ p q a' b' * b'' < offZ p q a'' b'' * b') := fun y => z (r2 (Or.inr y))
    omega
def best (p q u v a b : Int) : Prop := (u ≤ a ∧ a ≤ v ∧ u ≤ b ∧ b ≤ v) ∧ ∀ x y, u ≤ x → x ≤ v → u ≤ y → y ≤ v → wo p q a b x y
def isSug (p q u v : Int) (r : Int32) : Prop := ∃ a b, best p q u v a b ∧ r = iL (1000 * a + b)
theorem sug_one {r r' : Int32} (h : isSug p q u v r) (h' : isSug p q u v r') : r = r' := by
  obtain ⟨a, b, ⟨h1, h2⟩, rfl⟩ := h
  obtain ⟨a', b', ⟨h3, h4⟩, rfl⟩ := h'
  obtain ⟨rfl, rfl⟩ := wo_an (h2 a' b' h3.1 h3.2.1 h3.2.2.1 h3.2.2.2) (h4 a b h1.1 h1.2.1 h1.2.2.1 h1.2.2.2)
  rfl
abbrev sgQ (p q u v : Int32) : Prop := inQ p 1 10000 ∧ inQ q 1 10000 ∧ 8 ≤ u.toInt ∧ u.toInt ≤ v.toInt ∧ v.toInt ≤ 120
def cdSug (p q u v : Int32) : Nat := if sgQ p q u v then 0 else 1
theorem mul_bd {x y X Y : Int} (h1 : 0 ≤ x) (h2 : x ≤ X) (h3 : 0 ≤ y) (h4 : y ≤ Y) : 0 ≤ x * y ∧ x * y ≤ X * Y := ⟨Int.mul_nonneg h1 h3, Int.mul_le_mul h2 h4 h3 (by omega)⟩
theorem off_bd (hp : 1 ≤ p ∧ p ≤ 10000) (hq : 1 ≤ q ∧ q ≤ 10000) (ha : 0 ≤ a ∧ a ≤ 120) (hb : 0 ≤ b ∧ b ≤ 120) : (0 ≤ a * q ∧ a * q ≤ 1200000) ∧ (0 ≤ p * b ∧ p * b ≤ 1200000) ∧ 0 ≤ offZ p q a b ∧ offZ p q a b ≤ 1200000 := by
  have h1 := mul_bd (X := 120) (Y := 10000) ha.1 ha.2 (by omega) hq.2
  have h2 := mul_bd (X := 10000) (Y := 120) (by omega) hp.2 hb.1 hb.2
  unfold offZ
  omega
def cl (u v f : Int) : Int := if u < (if f < v then f else v) then (if f < v then f else v) else u
def cu (v c : Int) : Int := if c + 1 < v then c + 1 else v
theorem wo_same (hb : 0 < b) (h : offZ p q a b < offZ p q a' b ∨ a = a') : wo p q a b a' b := by
  rcases h with h | rfl
  · exact Or.inl (Int.mul_lt_mul_of_pos_right h hb)
  · exact wo_rf
theorem cand {f : Int} (hq : 0 < q) (hb : 0 < b) (huv : u ≤ v) (hf1 : f * q ≤ p * b) (hf2 : p * b < (f + 1) * q) (ha : u ≤ a' ∧ a' ≤ v) : wo p q (cl u v f) b a' b ∨ (cl u v f < v ∧ wo p q (cu v (cl u v f)) b a' b) := by
  have up : ∀ c, u ≤ c → p * b < c * q → c ≤ a' → wo p q c b a' b := by
    intro c h1 h2 h3
    rcases Int.lt_or_eq_of_le h3 with h | h
    · have := Int.mul_lt_mul_of_pos_right h hq
      refine wo_same hb (Or.inl ?_)
      unfold offZ
      omega
    · exact wo_same hb (Or.inr h)
  have dn : ∀ c, c * q ≤ p * b → a' ≤ c → wo p q c b a' b := by
    intro c h2 h3
    rcases Int.lt_or_eq_of_le h3 with h | h
    · have := Int.mul_lt_mul_of_pos_right h hq
      refine wo_same hb (Or.inl ?_)
      unfold offZ
      omega
    · exact wo_same hb (Or.inr h.symm)
  by_cases h1 : f < u
  · have ec : cl u v f = u := by unfold cl; split <;> split at * <;> omega
    have h2 : (f + 1) * q ≤ u * q := Int.mul_le_mul_of_nonneg_right (by omega) (by omega)
    rw [ec]
    exact Or.inl (up u (Int.le_refl u) (by omega) ha.1)
  · by_cases h3 : v ≤ f
    · have ec : cl u v f = v := by unfold cl; split <;> split at * <;> omega
      have h2 : v * q ≤ f * q := Int.mul_le_mul_of_nonneg_right h3 (by omega)
      rw [ec]
      exact Or.inl (dn v (by omega) ha.2)
    · have ec : cl u v f = f := by unfold cl; split <;> split at * <;> omega
      rw [ec]
      by_cases h4 : a' ≤ f
      · exact Or.inl (dn f hf1 h4)
      · have eu : cu v f = f + 1 := by unfold cu; split <;> omega
        rw [eu]
        exact Or.inr ⟨by omega, up (f + 1) (by omega) hf2 (by omega)⟩
theorem cl_b (huv : u ≤ v) {f : Int} : u ≤ cl u v f ∧ cl u v f ≤ v := by unfold cl; split <;> split at * <;> omega
theorem cu_b {c : Int} (h : c ≤ v) : c ≤ cu v c ∧ cu v c ≤ v ∧ cu v c ≤ c + 1 := by unfold cu; split <;> omega
/-- the class's way: by b, then by the two candidates -/
def sgC (p q u v b a b' : Int) : Prop := (u ≤ a ∧ a ≤ v ∧ u ≤ b' ∧ b' ≤ v) ∧ ∀ x y, u ≤ x → x ≤ v → u ≤ y → y < b → wo p q a b' x y
def sgI (p q u v b a x' y' : Int) (c0 : Int) : Prop := sgC p q u v b x' y' ∧ ∀ x, c0 ≤ x → x < a → wo p q x' y' x b
theorem sgC_0 (huv : u ≤ v) : sgC p q u v u u u := ⟨⟨Int.le_refl u, huv, Int.le_refl u, huv⟩, fun x y _ _ h1 h2 => absurd h2 (by omega)⟩
theorem sgI_0 {x' y' : Int} (h : sgC p q u v b x' y') {c0 : Int} : sgI p q u v b c0 x' y' c0 := ⟨h, fun x h1 h2 => absurd h2 (by omega)⟩
theorem sgI_no {x' y' c0 : Int} (h : sgI p q u v b a x' y' c0) (hn : ¬ bet p q a b x' y') : sgI p q u v b (a + 1) x' y' c0 := by
  refine ⟨h.1, fun x h1 h2 => ?_⟩
  by_cases z : x = a
  · rw [z]; exact nbet hn
  · exact h.2 x h1 (by omega)
theorem sgI_up {x' y' c0 : Int} (hu : 0 < u) (hb : u ≤ b ∧ b ≤ v) (ha : u ≤ a ∧ a ≤ v) (h : sgI p q u v b a x' y' c0) (hn : bet p q a b x' y') : sgI p q u v b (a + 1) a b c0 := by
  have hy : 0 < y' := by have := h.1.1; omega
  refine ⟨⟨⟨ha.1, ha.2, hb.1, hb.2⟩, fun x y h1 h2 h3 h4 => wo_tr (by omega) hy (by omega) (bet_wo hn) (h.1.2 x y h1 h2 h3 h4)⟩, fun x h1 h2 => ?_⟩
  by_cases z : x = a
  · rw [z]; exact wo_rf
  · exact wo_tr (by omega) hy (by omega) (bet_wo hn) (h.2 x h1 (by omega))
theorem sgI_e {x' y' f : Int} (hu : 0 < u) (hq : 0 < q) (huv : u ≤ v) (hb : u ≤ b ∧ b ≤ v) (hf1 : f * q ≤ p * b) (hf2 : p * b < (f + 1) * q) (h : sgI p q u v b a x' y' (cl u v f)) (ha : cu v (cl u v f) < a) : sgC p q u v (b + 1) x' y' := by
  refine ⟨h.1.1, fun x y h1 h2 h3 h4 => ?_⟩
  by_cases z : y = b
  · have hy : 0 < y' := by have := h.1.1; omega
    have hc := cl_b huv (f := f)
    have hcu := cu_b hc.2
    rw [z]
    rcases cand hq (by omega : 0 < b) huv hf1 hf2 ⟨h1, h2⟩ with w1 | ⟨w0, w1⟩
    · exact wo_tr hy (by omega) (by omega) (h.2 _ (Int.le_refl _) (by omega)) w1
    · exact wo_tr hy (by omega) (by omega) (h.2 _ hcu.1 ha) w1
  · exact h.1.2 x y h1 h2 h3 (by omega)
theorem sgC_e {x' y' : Int} (h : sgC p q u v b x' y') (hb : v < b) : best p q u v x' y' := ⟨h.1, fun x y h1 h2 h3 h4 => h.2 x y h1 h2 h3 (by omega)⟩
/-- the reference's way: by the sum, then by a -/
def vis (u v s a x y : Int) : Prop := u ≤ x ∧ x ≤ v ∧ u ≤ y ∧ y ≤ v ∧ (x + y < s ∨ (x + y = s ∧ x < a))
def bsM (p q u v s a A B : Int) : Prop := (A = -1 ∧ B = -1 ∧ ∀ x y, ¬ vis u v s a x y) ∨ (vis u v s a A B ∧ ∀ x y, vis u v s a x y → wo p q A B x y)
theorem bsM_c {s s' A B : Int} (h : bsM p q u v s a A B) (e : ∀ x y, vis u v s a x y ↔ vis u v s' a' x y) : bsM p q u v s' a' A B := by
  rcases h with ⟨h1, h2, h3⟩ | ⟨h1, h2⟩
  · exact Or.inl ⟨h1, h2, fun x y z => h3 x y ((e x y).mpr z)⟩
  · exact Or.inr ⟨(e A B).mp h1, fun x y z => h2 x y ((e x y).mpr z)⟩
theorem vis_s {s x y : Int} (hb : b = s - a) (ha : u ≤ a ∧ a ≤ v) (hb2 : u ≤ b ∧ b ≤ v) : vis u v s (a + 1) x y ↔ vis u v s a x y ∨ (x = a ∧ y = b) := by
  unfold vis
  omega
theorem bsM_up {s A B : Int} (hu : 0 < u) (hb : b = s - a) (ha : u ≤ a ∧ a ≤ v) (hb2 : u ≤ b ∧ b ≤ v) (h : bsM p q u v s a A B) (hn : A = -1 ∨ offZ p q a b * B < offZ p q A B * b) : bsM p q u v s (a + 1) a b := by
  refine Or.inr ⟨(vis_s hb ha hb2).mpr (Or.inr ⟨rfl, rfl⟩), fun x y z => ?_⟩
  rcases (vis_s hb ha hb2).mp z with z | ⟨rfl, rfl⟩
  · rcases h with ⟨h1, h2, h3⟩ | ⟨h1, h2⟩
    · exact absurd z (h3 x y)
    · rcases hn with hn | hn
      · exact absurd h1 (by unfold vis; omega)
      · refine wo_tr (by omega) (by unfold vis at h1; omega) (by unfold vis at z; omega) (Or.inl hn) (h2 x y z)
  · exact wo_rf
theorem bsM_no {s A B : Int} (hb : b = s - a) (ha : u ≤ a ∧ a ≤ v) (hb2 : u ≤ b ∧ b ≤ v) (h : bsM p q u v s a A B) (hA : A ≠ -1) (hn : ¬ offZ p q a b * B < offZ p q A B * b) : bsM p q u v s (a + 1) A B := by
  rcases h with ⟨h1, h2, h3⟩ | ⟨h1, h2⟩
  · exact absurd h1 hA
  · refine Or.inr ⟨(vis_s hb ha hb2).mpr (Or.inl h1), fun x y z => ?_⟩
    rcases (vis_s hb ha hb2).mp z with z | ⟨rfl, rfl⟩
    · exact h2 x y z
    · unfold vis at h1
      unfold wo
      omega
theorem bsM_0 (hu : 0 < u) : bsM p q u v (2 * u) u (-1) (-1) := Or.inl ⟨rfl, rfl, fun x y z => by unfold vis at z; omega⟩
theorem bsM_i {s A B c : Int} (h : bsM p q u v s u A B) (hc : c = (if u < s - v then s - v else u)) : bsM p q u v s c A B := bsM_c h (fun x y => by
  unfold vis
  rw [hc]
  split <;> omega)
theorem bsM_o {s A B d : Int} (h : bsM p q u v s a A B) (hd : d = (if s - u < v then s - u else v)) (ha : d < a) : bsM p q u v (s + 1) u A B := bsM_c h (fun x y => by
  unfold vis
  split at hd <;> omega)
theorem bsM_e {s A B : Int} (huv : u ≤ v) (h : bsM p q u v s u A B) (hs : 2 * v < s) : best p q u v A B := by
  rcases h with ⟨h1, h2, h3⟩ | ⟨h1, h2⟩
  · exact absurd (show vis u v s u u u by unfold vis; omega) (h3 u u)
  · unfold vis at h1
    exact ⟨⟨h1.1, h1.2.1, h1.2.2.1, h1.2.2.2.1⟩, fun x y k1 k2 k3 k4 => h2 x y (by unfold vis; omega)⟩
theorem bsM_r {s A B : Int} (h : bsM p q u v s a A B) : (A = -1 ∧ B = -1) ∨ (u ≤ A ∧ A ≤ v ∧ u ≤ B ∧ B ≤ v) := by
  rcases h with ⟨h1, h2, -⟩ | ⟨h1, -⟩
  · exact Or.inl ⟨h1, h2⟩
  · unfold vis at h1
    omega
end SU
