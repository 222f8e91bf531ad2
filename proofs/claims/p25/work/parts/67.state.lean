/-! the bench beside the law's own rows -/
section BE
variable {G : g_C} {S S' : Sg} {w w1 : g_W} {x : Nat} {L : List Nat}
theorem holds_c {ad : Nat → Nat → Nat} {Cn : Nat → Nat → Option va_E} (h : holds w ad Cn) (e : ∀ k i, Cn k i ≠ none → w1 (ad k i) = w (ad k i)) : holds w1 ad Cn :=
  ⟨fun k i x hx => by rw [e k i (by rw [hx]; exact fun z => (nomatch z))]; exact h.1 k i x hx, h.2⟩
theorem bench_c {T : Sg} {ad : Nat → Nat → Nat} {Cn : Nat → Nat → Option va_E} (h : bench G w S T ad Cn) (e : ∀ k i, Cn k i ≠ none → w1 (ad k i) = w (ad k i)) : bench G w1 S T ad Cn := ⟨holds_c h.1 e, h.2⟩
theorem bench_live {T : Sg} {ad : Nat → Nat → Nat} {Cn : Nat → Nat → Option va_E} (h : bench G w S T ad Cn) {k i : Nat} (hk : Cn k i ≠ none) : w (ad k i) ≠ none := by
  cases hc : Cn k i with
  | none => exact absurd hc hk
  | some x => rw [h.1.1 k i x hc]; exact fun z => (nomatch z)
def lwB (G : g_C) (w : g_W) (x : Nat) (S : Sg) (L : List Nat) : Prop := ∃ (ad : Nat → Nat → Nat) (Cn : Nat → Nat → Option va_E) (T : Sg), ad 0 0 = x ∧ bench G w S T ad Cn ∧ ∀ a ∈ L, w a ≠ none ∧ ∀ k i, Cn k i ≠ none → ad k i ≠ a
theorem lwB_set (h : lwB G w x S L) {a : Nat} (ha : a ∈ L) {e : va_E} (hw : w1 = g_up w a e) : lwB G w1 x S L := by
  obtain ⟨ad, Cn, T, h0, hB, hL⟩ := h
  refine ⟨ad, Cn, T, h0, bench_c hB (fun k i hk => by rw [hw]; exact g_up_n _ ((hL a ha).2 k i hk)), fun b hb => ⟨?_, (hL b hb).2⟩⟩
  by_cases z : b = a
  · rw [hw, z, g_up_s]; exact fun y => (nomatch y)
  · rw [hw, g_up_n _ z]; exact (hL b hb).1
theorem lwB_new (h : lwB G w x S L) {q : Nat} (hq : w q = none) {e : va_E} (hw : w1 = g_up w q e) : lwB G w1 x S (q :: L) := by
  obtain ⟨ad, Cn, T, h0, hB, hL⟩ := h
  have nq : ∀ k i, Cn k i ≠ none → ad k i ≠ q := fun k i hk z => bench_live hB hk (by rw [z]; exact hq)
  refine ⟨ad, Cn, T, h0, bench_c hB (fun k i hk => by rw [hw]; exact g_up_n _ (nq k i hk)), fun b hb => ?_⟩
  rcases List.mem_cons.mp hb with z | z
  · rw [z]
    exact ⟨by rw [hw, g_up_s]; exact fun y => (nomatch y), nq⟩
  · have hne : b ≠ q := fun y => (hL b z).1 (by rw [y]; exact hq)
    exact ⟨by rw [hw, g_up_n _ hne]; exact (hL b z).1, (hL b z).2⟩
theorem lwB_sub {L' : List Nat} (h : lwB G w x S L) (hs : ∀ a ∈ L', a ∈ L) : lwB G w x S L' := by
  obtain ⟨ad, Cn, T, h0, hB, hL⟩ := h
  exact ⟨ad, Cn, T, h0, hB, fun a ha => hL a (hs a ha)⟩
theorem lwB_aft {ad : Nat → Nat → Nat} {Cn : Nat → Nat → Option va_E} (h0 : ad 0 0 = x) (hL : ∀ a ∈ L, w a ≠ none ∧ ∀ k i, Cn k i ≠ none → ad k i ≠ a) (hA : after G w ad Cn w1 S') : lwB G w1 x S' L ∧ ∀ a ∈ L, w1 a = w a := by
  obtain ⟨ad2, C2, T2, z0, z1, z2⟩ := hA
  have kp : ∀ a ∈ L, w1 a = w a := fun a ha => z1.1 a (hL a ha).1 (hL a ha).2
  refine ⟨⟨ad2, C2, T2, z0.trans h0, z2, fun a ha => ⟨by rw [kp a ha]; exact (hL a ha).1, fun k i hk q => ?_⟩⟩, kp⟩
  rcases z1.2.1 k i hk with ⟨k0, i0, y1, y2⟩ | y
  · exact (hL a ha).2 k0 i0 y1 (y2.trans q)
  · rw [q] at y; exact (hL a ha).1 y
theorem lwB_inv (h : lwB G w x S L) : invS S := by
  obtain ⟨ad, Cn, T, h0, hB, hL⟩ := h
  exact hB.2.2.1
end BE
/-! the law's rows, by the bench's numbers -/
def arS (S : Sg) (n : Nat) (F : Nat → Int32) : Prop := ∀ k : Nat, k < n → F (3 * k + 2) = iL (S 3 k)
def arG (S : Sg) (n : Nat) (F : Nat → Int32) : Prop := ∀ g : Nat, g < n → F (5 * g) = iL (S 4 g) ∧ F (5 * g + 1) = iL (S 5 g) ∧ F (5 * g + 2) = iL (S 6 g) ∧ F (5 * g + 3) = iL (S 7 g) ∧ F (5 * g + 4) = iL (S 8 g)
def arM (S : Sg) (n : Nat) (F : Nat → Int32) : Prop := ∀ m : Nat, m < n → F (2 * m) = iL (S 9 m) ∧ F (2 * m + 1) = iL (S 10 m)
def arP (S : Sg) (n : Nat) (F : Nat → Int32) : Prop := ∀ k : Nat, k < n → F (5 * k) = iL (S 11 k) ∧ F (5 * k + 1) = iL (S 12 k) ∧ F (5 * k + 2) = iL (S 13 k)
section NX
variable {S S' : Sg} {F F' : Nat → Int32} {n : Nat}
theorem nx_shaft {x y : Int32} (h : S' = nxAddShaft S x y) : S' 0 0 = S 0 0 + 1 ∧ (∀ i, i ≠ 0 → S' 0 i = S 0 i) ∧ S' 3 (S 0 0).toNat = 0 ∧ (∀ k, k ≠ (S 0 0).toNat → S' 3 k = S 3 k) ∧ ∀ f k, 4 ≤ f → S' f k = S f k := by
  rw [h]
  unfold nxAddShaft
  refine ⟨?_, fun i z => ?_, ?_, fun k z => ?_, fun f k z => ?_⟩
  · rw [up2_k _ _ _ (by decide), up2_k _ _ _ (by decide), up2_k _ _ _ (by decide), up2_s]
  · rw [up2_k _ _ _ (by decide), up2_k _ _ _ (by decide), up2_k _ _ _ (by decide), up2_i _ _ _ z]
  · rw [up2_s]
  · rw [up2_i _ _ _ z, up2_k _ _ _ (by decide), up2_k _ _ _ (by decide), up2_k _ _ _ (by decide)]
  · rw [up2_k _ _ _ (by omega), up2_k _ _ _ (by omega), up2_k _ _ _ (by omega), up2_k _ _ _ (by omega)]
theorem nx_hold {k : Nat} {b : Bool} (hk : k < 100) (h : S' = nxHold S (nI k) b) : S' 3 k = (if b then 1 else 0) ∧ (∀ j, j ≠ k → S' 3 j = S 3 j) ∧ ∀ f j, f ≠ 3 → S' f j = S f j := by
  rw [h]
  unfold nxHold
  rw [kN_n (by omega)]
  exact ⟨up2_s _ _ _ _, fun j z => up2_i _ _ _ z, fun f j z => up2_k _ _ _ z⟩
theorem nx_drive {k : Nat} {v : Int32} (hk : k < 100) (h : S' = nxDrive S (nI k) v) : S' 0 4 = k ∧ S' 0 5 = v.toInt ∧ S' 3 k = 0 ∧ (∀ j, j ≠ k → S' 3 j = S 3 j) ∧ (∀ i, i ≠ 4 → i ≠ 5 → S' 0 i = S 0 i) ∧ ∀ f j, f ≠ 0 → f ≠ 3 → S' f j = S f j := by
  rw [h]
  unfold nxDrive
  rw [kN_n (by omega)]
  refine ⟨?_, ?_, up2_s _ _ _ _, fun j z => ?_, fun i z1 z2 => ?_, fun f j z1 z2 => ?_⟩
  · rw [up2_k _ _ _ (by decide), up2_i _ _ _ (by decide), up2_s]
  · rw [up2_k _ _ _ (by decide), up2_s]
  · rw [up2_i _ _ _ z, up2_k _ _ _ (by decide), up2_k _ _ _ (by decide)]
  · rw [up2_k _ _ _ (by decide), up2_i _ _ _ z2, up2_i _ _ _ z1]
  · rw [up2_k _ _ _ z2, up2_k _ _ _ z1, up2_k _ _ _ z1]
theorem nx_gear {p te mo la : Int32} {ri : Bool} (h : S' = nxAddGear S p te mo la ri) : S' 0 1 = S 0 1 + 1 ∧ (∀ i, i ≠ 1 → S' 0 i = S 0 i) ∧ (S' 4 (S 0 1).toNat = p.toInt ∧ S' 5 (S 0 1).toNat = te.toInt ∧ S' 6 (S 0 1).toNat = mo.toInt ∧ S' 7 (S 0 1).toNat = la.toInt ∧ S' 8 (S 0 1).toNat = (if ri then 1 else 0)) ∧ (∀ f k, k ≠ (S 0 1).toNat → 1 ≤ f → S' f k = S f k) ∧ ∀ f k, 1 ≤ f → (f < 4 ∨ 8 < f) → S' f k = S f k := by
  rw [h]
  unfold nxAddGear
  refine ⟨?_, fun i z => ?_, ⟨?_, ?_, ?_, ?_, ?_⟩, fun f k z z1 => ?_, fun f k z1 z2 => ?_⟩
  · rw [up2_k _ _ _ (by decide), up2_k _ _ _ (by decide), up2_k _ _ _ (by decide), up2_k _ _ _ (by decide), up2_k _ _ _ (by decide), up2_s]
  · rw [up2_k _ _ _ (by decide), up2_k _ _ _ (by decide), up2_k _ _ _ (by decide), up2_k _ _ _ (by decide), up2_k _ _ _ (by decide), up2_i _ _ _ z]
  · rw [up2_k _ _ _ (by decide), up2_k _ _ _ (by decide), up2_k _ _ _ (by decide), up2_k _ _ _ (by decide), up2_s]
  · rw [up2_k _ _ _ (by decide), up2_k _ _ _ (by decide), up2_k _ _ _ (by decide), up2_s]
  · rw [up2_k _ _ _ (by decide), up2_k _ _ _ (by decide), up2_s]
  · rw [up2_k _ _ _ (by decide), up2_s]
  · rw [up2_s]
  · rw [up2_i _ _ _ z, up2_i _ _ _ z, up2_i _ _ _ z, up2_i _ _ _ z, up2_i _ _ _ z, up2_k _ _ _ (by omega)]
  · rw [up2_k _ _ _ (by omega), up2_k _ _ _ (by omega), up2_k _ _ _ (by omega), up2_k _ _ _ (by omega), up2_k _ _ _ (by omega), up2_k _ _ _ (by omega)]
theorem nx_mesh {a b : Int32} (h : S' = nxMesh S a b) : S' 0 2 = S 0 2 + 1 ∧ (∀ i, i ≠ 2 → S' 0 i = S 0 i) ∧ S' 9 (S 0 2).toNat = a.toInt ∧ S' 10 (S 0 2).toNat = b.toInt ∧ (∀ f k, k ≠ (S 0 2).toNat → 1 ≤ f → S' f k = S f k) ∧ ∀ f k, 1 ≤ f → f ≠ 9 → f ≠ 10 → S' f k = S f k := by
  rw [h]
  unfold nxMesh
  refine ⟨?_, fun i z => ?_, ?_, ?_, fun f k z z1 => ?_, fun f k z1 z2 z3 => ?_⟩
  · rw [up2_k _ _ _ (by decide), up2_k _ _ _ (by decide), up2_s]
  · rw [up2_k _ _ _ (by decide), up2_k _ _ _ (by decide), up2_i _ _ _ z]
  · rw [up2_k _ _ _ (by decide), up2_s]
  · rw [up2_s]
  · rw [up2_i _ _ _ z, up2_i _ _ _ z, up2_k _ _ _ (by omega)]
  · rw [up2_k _ _ _ z3, up2_k _ _ _ z2, up2_k _ _ _ (by omega)]
theorem nx_planets {su ri ca s p : Int32} (h : S' = nxAddPl S su ri ca s p) : S' 0 3 = S 0 3 + 1 ∧ (∀ i, i ≠ 3 → S' 0 i = S 0 i) ∧ (S' 11 (S 0 3).toNat = su.toInt ∧ S' 12 (S 0 3).toNat = ri.toInt ∧ S' 13 (S 0 3).toNat = ca.toInt) ∧ (∀ f k, k ≠ (S 0 3).toNat → 1 ≤ f → S' f k = S f k) ∧ ∀ f k, 1 ≤ f → (f < 11 ∨ 15 < f) → S' f k = S f k := by
  rw [h]
  unfold nxAddPl
  refine ⟨?_, fun i z => ?_, ⟨?_, ?_, ?_⟩, fun f k z z1 => ?_, fun f k z1 z2 => ?_⟩
  · rw [up2_k _ _ _ (by decide), up2_k _ _ _ (by decide), up2_k _ _ _ (by decide), up2_k _ _ _ (by decide), up2_k _ _ _ (by decide), up2_s]
  · rw [up2_k _ _ _ (by decide), up2_k _ _ _ (by decide), up2_k _ _ _ (by decide), up2_k _ _ _ (by decide), up2_k _ _ _ (by decide), up2_i _ _ _ z]
  · rw [up2_k _ _ _ (by decide), up2_k _ _ _ (by decide), up2_k _ _ _ (by decide), up2_k _ _ _ (by decide), up2_s]
  · rw [up2_k _ _ _ (by decide), up2_k _ _ _ (by decide), up2_k _ _ _ (by decide), up2_s]
  · rw [up2_k _ _ _ (by decide), up2_k _ _ _ (by decide), up2_s]
  · rw [up2_i _ _ _ z, up2_i _ _ _ z, up2_i _ _ _ z, up2_i _ _ _ z, up2_i _ _ _ z, up2_k _ _ _ (by omega)]
  · rw [up2_k _ _ _ (by omega), up2_k _ _ _ (by omega), up2_k _ _ _ (by omega), up2_k _ _ _ (by omega), up2_k _ _ _ (by omega), up2_k _ _ _ (by omega)]
/-- a row with one element more -/
theorem arS_1 (h : arS S n F) (hs : ∀ k, k < n → S' 3 k = S 3 k) (hf : ∀ j, j < 3 * n → F' j = F j) (hn : F' (3 * n + 2) = iL (S' 3 n)) : arS S' (n + 1) F' := by
  intro k hk
  rcases Nat.lt_succ_iff_lt_or_eq.mp hk with q | q
  · rw [hf _ (by omega), hs k q]; exact h k q
  · rw [q]; exact hn
theorem arG_1 (h : arG S n F) (hs : ∀ f k, k < n → 4 ≤ f → f ≤ 8 → S' f k = S f k) (hf : ∀ j, j < 5 * n → F' j = F j) (hn : F' (5 * n) = iL (S' 4 n) ∧ F' (5 * n + 1) = iL (S' 5 n) ∧ F' (5 * n + 2) = iL (S' 6 n) ∧ F' (5 * n + 3) = iL (S' 7 n) ∧ F' (5 * n + 4) = iL (S' 8 n)) : arG S' (n + 1) F' := by
  intro k hk
  rcases Nat.lt_succ_iff_lt_or_eq.mp hk with q | q
  · rw [hf _ (by omega), hf _ (by omega), hf _ (by omega), hf _ (by omega), hf _ (by omega), hs 4 k q (by decide) (by decide), hs 5 k q (by decide) (by decide), hs 6 k q (by decide) (by decide), hs 7 k q (by decide) (by decide), hs 8 k q (by decide) (by decide)]
    exact h k q
  · rw [q]; exact hn
theorem arM_1 (h : arM S n F) (hs : ∀ f k, k < n → 9 ≤ f → f ≤ 10 → S' f k = S f k) (hf : ∀ j, j < 2 * n → F' j = F j) (hn : F' (2 * n) = iL (S' 9 n) ∧ F' (2 * n + 1) = iL (S' 10 n)) : arM S' (n + 1) F' := by
  intro k hk
  rcases Nat.lt_succ_iff_lt_or_eq.mp hk with q | q
  · rw [hf _ (by omega), hf _ (by omega), hs 9 k q (by decide) (by decide), hs 10 k q (by decide) (by decide)]
    exact h k q
  · rw [q]; exact hn
theorem arP_1 (h : arP S n F) (hs : ∀ f k, k < n → 11 ≤ f → f ≤ 13 → S' f k = S f k) (hf : ∀ j, j < 5 * n → F' j = F j) (hn : F' (5 * n) = iL (S' 11 n) ∧ F' (5 * n + 1) = iL (S' 12 n) ∧ F' (5 * n + 2) = iL (S' 13 n)) : arP S' (n + 1) F' := by
  intro k hk
  rcases Nat.lt_succ_iff_lt_or_eq.mp hk with q | q
  · rw [hf _ (by omega), hf _ (by omega), hf _ (by omega), hs 11 k q (by decide) (by decide), hs 12 k q (by decide) (by decide), hs 13 k q (by decide) (by decide)]
    exact h k q
  · rw [q]; exact hn
theorem arS_c (h : arS S n F) (hs : ∀ k, k < n → S' 3 k = S 3 k) : arS S' n F := fun k hk => by rw [hs k hk]; exact h k hk
theorem arG_c (h : arG S n F) (hs : ∀ f k, k < n → 4 ≤ f → f ≤ 8 → S' f k = S f k) : arG S' n F := fun k hk => by
  rw [hs 4 k hk (by decide) (by decide), hs 5 k hk (by decide) (by decide), hs 6 k hk (by decide) (by decide), hs 7 k hk (by decide) (by decide), hs 8 k hk (by decide) (by decide)]
  exact h k hk
theorem arM_c (h : arM S n F) (hs : ∀ f k, k < n → 9 ≤ f → f ≤ 10 → S' f k = S f k) : arM S' n F := fun k hk => by
  rw [hs 9 k hk (by decide) (by decide), hs 10 k hk (by decide) (by decide)]
  exact h k hk
theorem arP_c (h : arP S n F) (hs : ∀ f k, k < n → 11 ≤ f → f ≤ 13 → S' f k = S f k) : arP S' n F := fun k hk => by
  rw [hs 11 k hk (by decide) (by decide), hs 12 k hk (by decide) (by decide), hs 13 k hk (by decide) (by decide)]
  exact h k hk
end NX
theorem arS_0 (S : Sg) (F : Nat → Int32) : arS S 0 F := fun _ h => absurd h (Nat.not_lt_zero _)
theorem arG_0 (S : Sg) (F : Nat → Int32) : arG S 0 F := fun _ h => absurd h (Nat.not_lt_zero _)
theorem arM_0 (S : Sg) (F : Nat → Int32) : arM S 0 F := fun _ h => absurd h (Nat.not_lt_zero _)
theorem arP_0 (S : Sg) (F : Nat → Int32) : arP S 0 F := fun _ h => absurd h (Nat.not_lt_zero _)
theorem nI_mod {a d : Nat} (ha : a < 2147483648) (h0 : 0 < d) (hd : d < 2147483648) : nI a - nI a / nI d * nI d = nI (a % d) := pk_rem (by omega) h0 (by omega)
theorem nI_dv {a d : Nat} (ha : a < 2147483648) (h0 : 0 < d) (hd : d < 2147483648) : nI a / nI d = nI (a / d) := pk_div (by omega) h0 (by omega)
theorem iL_nat {z : Int} {n : Nat} (h : z = n) : iL z = nI n := by rw [h]; exact iL_n n
theorem nI_i (n : Nat) (h : n < 2147483648) : (nI n).toInt = (n : Int) := nI_toInt (by omega)
