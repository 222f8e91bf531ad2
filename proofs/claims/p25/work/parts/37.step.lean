/-! the telling of speeds, step by step -/
theorem firstT_some {S T T' : Sg} {b k n : Nat} (hk : k < n) (h : tTry S T b k = some T') : firstT S T b k (n - k) = some T' := by
  rw [show n - k = (n - k - 1) + 1 from by omega]
  unfold firstT
  rw [h]
theorem firstT_none {S T : Sg} {b k n : Nat} (hk : k < n) (h : tTry S T b k = none) : firstT S T b k (n - k) = firstT S T b (k + 1) (n - (k + 1)) := by
  rw [show n - k = (n - (k + 1)) + 1 from by omega]
  conv => lhs; unfold firstT
  rw [h]
theorem firstT_end {S T : Sg} {b k n : Nat} (hk : n ≤ k) : firstT S T b k (n - k) = none := by
  rw [show n - k = 0 from by omega]
  unfold firstT
  rfl
theorem step_mesh {S T T' : Sg} (h : firstT S T 0 0 (S 0 2).toNat = some T') : step S T = some T' := by
  unfold step
  rw [h]
theorem step_set {S T : Sg} (h : firstT S T 0 0 (S 0 2).toNat = none) : step S T = firstT S T 1 0 (S 0 3).toNat := by
  unfold step
  rw [h]
theorem run_none {S T : Sg} {c : Nat} (h : step S T = none) : run S c T = T := by
  cases c with
  | zero => rfl
  | succ c => unfold run; rw [h]
theorem run_some {S T T' : Sg} {c : Nat} (h : step S T = some T') : run S (c + 1) T = run S c T' := by
  conv => lhs; unfold run
  rw [h]
theorem firstT_inv {S T T' : Sg} {b : Nat} : ∀ (c k : Nat), firstT S T b k c = some T' → ∃ m pl, k ≤ m ∧ m < k + c ∧ T (3 + b) m = 0 ∧ tUnk S T b m pl ∧ T' = tTell S T b m pl := by
  intro c
  induction c with
  | zero => intro k h; exact absurd h (by unfold firstT; exact fun q => (nomatch q))
  | succ c ih =>
    intro k h
    unfold firstT at h
    cases ht : tTry S T b k with
    | some T1 =>
      rw [ht] at h
      cases h
      obtain ⟨h1, pl, h2, h3⟩ := tTry_inv ht
      exact ⟨k, pl, Nat.le_refl k, by omega, h1, h2, h3⟩
    | none =>
      rw [ht] at h
      obtain ⟨m, pl, h1, h2, h3⟩ := ih (k + 1) h
      exact ⟨m, pl, by omega, by omega, h3⟩
theorem step_inv {S T T' : Sg} (Hi : invS S) (h : step S T = some T') : ∃ b m pl : Nat, b < 2 ∧ (m : Int) < S 0 (2 + b) ∧ T (3 + b) m = 0 ∧ tUnk S T b m pl ∧ T' = tTell S T b m pl := by
  unfold step at h
  have hi := Hi.1
  cases ht : firstT S T 0 0 (S 0 2).toNat with
  | some T1 =>
    rw [ht] at h
    cases h
    obtain ⟨m, pl, -, h2, h3⟩ := firstT_inv _ _ ht
    exact ⟨0, m, pl, by decide, by show (m : Int) < S 0 2; omega, h3⟩
  | none =>
    rw [ht] at h
    obtain ⟨m, pl, -, h2, h3⟩ := firstT_inv _ _ h
    exact ⟨1, m, pl, by decide, by show (m : Int) < S 0 3; omega, h3⟩
theorem step_pres {S T T' : Sg} {c : Int} (Hi : invS S) (Ht : invT S T) (hc : stB S T c) (hc1 : -1 ≤ c ∧ c < 1000) (h : step S T = some T') : invT S T' ∧ stB S T' (c + 1) := by
  obtain ⟨b, m, pl, h1, h2, h3, h4, rfl⟩ := step_inv Hi h
  exact tTell_inv Hi Ht hc hc1 h1 h2 h4
theorem T0_inv {S : Sg} (Hi : invS S) : invT S (T0 S) ∧ stB S (T0 S) 0 := by
  have hi := Hi.1
  refine ⟨⟨fun k hk => ?_, fun k hk => Or.inl rfl, fun k hk => Or.inl rfl⟩, fun k hk => ?_⟩
  · have e0 : T0 S 0 k = if (k : Int) = S 0 4 then S 0 5 else 0 := rfl
    have e1 : T0 S 1 k = 1 := rfl
    have e2 : T0 S 2 k = if (k : Int) = S 0 4 ∨ S 3 k = 1 then 0 else -1 := rfl
    rw [e1, e2, e0]
    refine ⟨by split <;> omega, by decide, by decide, by simp, by split <;> omega, by split <;> omega, fun q => ⟨?_, rfl⟩⟩
    split at q
    · omega
    · rename_i h; rw [if_neg (fun z => h (Or.inl z))]
  · show (if (k : Int) = S 0 4 ∨ S 3 k = 1 then (0 : Int) else -1) ≤ 0
    split <;> omega
theorem run_pres {S : Sg} (Hi : invS S) : ∀ (c : Nat) (T : Sg) (z : Int), invT S T → stB S T z → -1 ≤ z → z + c ≤ 1000 → invT S (run S c T) ∧ stB S (run S c T) (z + c) := by
  intro c
  induction c with
  | zero => intro T z h1 h2 h3 h4; exact ⟨h1, by rw [show z + ((0 : Nat) : Int) = z from by omega]; exact h2⟩
  | succ c ih =>
    intro T z h1 h2 h3 h4
    cases hs : step S T with
    | none => rw [run_none hs]; exact ⟨h1, fun k hk => by have := h2 k hk; omega⟩
    | some T' =>
      rw [run_some hs]
      obtain ⟨g1, g2⟩ := step_pres Hi h1 h2 ⟨h3, by omega⟩ hs
      have := ih T' (z + 1) g1 g2 (by omega) (by omega)
      rw [show z + ((c + 1 : Nat) : Int) = z + 1 + (c : Int) from by omega]
      exact this
theorem told_inv {S : Sg} (Hi : invS S) : invT S (told S) := (run_pres Hi 30 _ 0 (T0_inv Hi).1 (T0_inv Hi).2 (by decide) (by decide)).1
theorem told_st {S : Sg} (Hi : invS S) : stB S (told S) 30 := (run_pres Hi 30 _ 0 (T0_inv Hi).1 (T0_inv Hi).2 (by decide) (by decide)).2
/-- the tables on the way to the first one -/
def mixA (S T : Sg) (k : Nat) : Sg := fun f i => if f < 3 ∧ i < k then T0 S f i else T f i
def mixB (f0 : Nat) (T : Sg) (k : Nat) : Sg := fun f i => if f = f0 ∧ i < k then 0 else T f i
section ST
variable {G : g_C} {S T T' : Sg} {w w' w1 w2 wz : g_W} {ad : Nat → Nat → Nat} {Cn Cn' Cz : Nat → Nat → Option va_E}
theorem rep_Tc (hr : rep G S T ad Cn) (h : ∀ f k : Nat, f < 3 → (k : Int) < S 0 0 → T' f k = T f k) (h3 : ∀ k : Nat, (k : Int) < S 0 2 → T' 3 k = T 3 k) (h4 : ∀ k : Nat, (k : Int) < S 0 3 → T' 4 k = T 4 k) : rep G S T' ad Cn := by
  obtain ⟨r0, r1, r2, r3, r4, r5⟩ := hr
  refine ⟨r0, r1, fun k hk => ?_, r3, fun k hk => ?_, fun k hk => ?_⟩
  · rw [h 0 k (by decide) hk, h 1 k (by decide) hk, h 2 k (by decide) hk]; exact r2 k hk
  · rw [h3 k hk]; exact r4 k hk
  · rw [h4 k hk]; exact r5 k hk
theorem begin_post (Hh : holds w ad Cn) (Hi : invS S) {k : Nat} (Hr : rep G S (mixA S T k) ad Cn) (hu : upto ad Cz wz w Cn) (hk : (k : Int) < S 0 0) {isd hd : Bool} (h1 : isd = decide ((k : Int) = S 0 4)) (h2 : hd = decide (S 3 k = 1))
    (hw : w1 = g_up (g_up w (ad 4 k) (.inr (1, [.long (if isd then (iL (S 0 5)).toInt64 else 0), .long 1]))) (ad 3 k) (.inr (5, [.int (iL (S 1 k)), .int (iL (S 2 k)), .int (g_b hd), .int (if isd || hd then 0 else -1), .ref (ad 4 k)]))) :
    ∃ Cn', upto ad Cz wz w1 Cn' ∧ holds w1 ad Cn' ∧ rep G S (mixA S T (k + 1)) ad Cn' := by
  have hs := Hr.2.2.1 k hk
  have u1 := upto_set Hh 4 k (.inr (1, [.long (if isd then (iL (S 0 5)).toInt64 else 0), .long 1])) (rep_live hs.2)
  have u2 := upto_set u1.1 3 k (.inr (5, [.int (iL (S 1 k)), .int (iL (S 2 k)), .int (g_b hd), .int (if isd || hd then 0 else -1), .ref (ad 4 k)])) (fun q => rep_live hs.1 ((u1.2.1 _ _).mp q))
  rw [← hw] at u2
  refine ⟨_, upto_tr hu (upto_tr u1 u2), u2.1, ?_⟩
  refine rep_told Hr (fun a i k1 k2 => by rw [up2_k _ _ _ k1, up2_k _ _ _ k2]) (fun j hj => ?_) (fun j => ⟨rfl, rfl⟩)
  by_cases z : j = k
  · rw [z, up2_s, up2_k _ _ _ (by decide), up2_s]
    have e0 : mixA S T (k + 1) 0 k = if (k : Int) = S 0 4 then S 0 5 else 0 := by unfold mixA; rw [if_pos ⟨by decide, by omega⟩]; rfl
    have e1 : mixA S T (k + 1) 1 k = 1 := by unfold mixA; rw [if_pos ⟨by decide, by omega⟩]; rfl
    have e2 : mixA S T (k + 1) 2 k = if (k : Int) = S 0 4 ∨ S 3 k = 1 then 0 else -1 := by unfold mixA; rw [if_pos ⟨by decide, by omega⟩]; rfl
    have hi := Hi.1
    have h3 := (Hi.2.1 k hk).2.2.2.2
    have h5 : (iL (S 0 5)).toInt64 = zL (S 0 5) := iL_64 (by omega) (by omega)
    rw [e0, e1, e2, h5, h1, h2, iL_b h3]
    refine ⟨?_, ?_⟩
    · by_cases y : (k : Int) = S 0 4
      · simp [y]; rfl
      · by_cases y2 : S 3 k = 1
        · simp [y, y2]; rfl
        · simp [y, y2]; rfl
    · by_cases y : (k : Int) = S 0 4
      · simp [y]; rfl
      · simp [y]; exact ⟨rfl, rfl⟩
  · have := Hr.2.2.1 j hj
    have e : ∀ f, mixA S T (k + 1) f j = mixA S T k f j := by
      intro f
      unfold mixA
      by_cases y : f < 3 ∧ j < k
      · rw [if_pos y, if_pos ⟨y.1, by omega⟩]
      · rw [if_neg y, if_neg (by omega)]
    rw [up2_i _ _ _ z, up2_i _ _ _ z, up2_i _ _ _ z, up2_i _ _ _ z, e, e, e]
    exact this
theorem clear_post (Hh : holds w ad Cn) {b k : Nat} (hb : b < 2) (Hr : rep G S (mixB (3 + b) T k) ad Cn) (hu : upto ad Cz wz w Cn) (hk : (k : Int) < S 0 (2 + b))
    (hw : w1 = g_up w (ad (7 + 5 * b) k) (.inr (6, [.ref (ad (7 + 5 * b + 1) k), .ref (ad (7 + 5 * b + 3) k), .int 0]))) :
    ∃ Cn', upto ad Cz wz w1 Cn' ∧ holds w1 ad Cn' ∧ rep G S (mixB (3 + b) T (k + 1)) ad Cn' := by
  obtain ⟨t1, -⟩ := tieR_of Hr hb hk
  have u1 := upto_set Hh (7 + 5 * b) k (.inr (6, [.ref (ad (7 + 5 * b + 1) k), .ref (ad (7 + 5 * b + 3) k), .int 0])) (rep_live t1)
  rw [← hw] at u1
  refine ⟨_, upto_tr hu u1, u1.1, ?_⟩
  have e : ∀ f j, ¬ (f = 3 + b ∧ j = k) → mixB (3 + b) T (k + 1) f j = mixB (3 + b) T k f j := by
    intro f j z
    unfold mixB
    by_cases y : f = 3 + b ∧ j < k
    · rw [if_pos y, if_pos ⟨y.1, by omega⟩]
    · rw [if_neg y, if_neg (by omega)]
  have e1 : mixB (3 + b) T (k + 1) (3 + b) k = 0 := by unfold mixB; rw [if_pos ⟨rfl, by omega⟩]
  refine rep_aside Hr (fun a i k1 k2 => up2_k _ _ _ (by omega)) (fun f i hf => e f i (by omega)) (fun j hj => ?_) (fun j hj => ?_)
  · by_cases z : 7 = 7 + 5 * b ∧ j = k
    · obtain ⟨z1, z2⟩ := z
      have zb : b = 0 := by omega
      subst zb
      rw [z2, up2_s, e1]; rfl
    · rw [show ∀ (f : Nat → Nat → Option va_E) v, up2 f (7 + 5 * b) k v 7 j = f 7 j from fun f v => if_neg z, e 3 j (by omega)]
      exact (Hr.2.2.2.2.1 j hj).2.1
  · by_cases z : 12 = 7 + 5 * b ∧ j = k
    · obtain ⟨z1, z2⟩ := z
      have zb : b = 1 := by omega
      subst zb
      rw [z2, up2_s, e1]; rfl
    · rw [show ∀ (f : Nat → Nat → Option va_E) v, up2 f (7 + 5 * b) k v 12 j = f 12 j from fun f v => if_neg z, e 4 j (by omega)]
      exact (Hr.2.2.2.2.2 j hj).2.1
theorem rep_A0 (Hr : rep G S T ad Cn) : rep G S (mixA S T 0) ad Cn := rep_Tc Hr (fun f k _ _ => if_neg (by omega)) (fun k _ => rfl) (fun k _ => rfl)
theorem rep_B0 {f0 : Nat} (Hr : rep G S T ad Cn) : rep G S (mixB f0 T 0) ad Cn := rep_Tc Hr (fun f k _ _ => if_neg (by omega)) (fun k _ => if_neg (by omega)) (fun k _ => if_neg (by omega))
theorem rep_T0 {n0 n2 n3 : Nat} (Hr : rep G S (mixB 4 (mixB 3 (mixA S T n0) n2) n3) ad Cn) (h0 : S 0 0 ≤ n0) (h2 : S 0 2 ≤ n2) (h3 : S 0 3 ≤ n3) : rep G S (T0 S) ad Cn := by
  refine rep_Tc Hr (fun f k hf hk => ?_) (fun k hk => ?_) (fun k hk => ?_)
  · unfold mixB; rw [if_neg (by omega), if_neg (by omega)]; unfold mixA; rw [if_pos ⟨hf, by omega⟩]
  · unfold mixB; rw [if_neg (by omega), if_pos ⟨rfl, by omega⟩]; rfl
  · unfold mixB; rw [if_pos ⟨rfl, by omega⟩]; rfl
theorem tieW_ofb (Hh : holds w ad Cn) (Hr : rep G S T ad Cn) (Hi : invS S) (Ht : invT S T) {b m : Nat} (hb : b < 2) (hm : (m : Int) < S 0 (2 + b)) : ∃ ab : Bool, iL (T (3 + b) m) = g_b ab ∧ tieW G w (ad (7 + 5 * b) m) (ad (7 + 5 * b + 1) m) (fun k => ad (7 + 5 * b + 9 + k) m) (ad (7 + 5 * b + 3) m) (tN b) (fun k => ad 3 (tSa S b m k)) (fun k => ad 4 (tSa S b m k)) (tWt S b m) (fun k => iL (S 1 (tSa S b m k))) (fun k => iL (S 2 (tSa S b m k))) (fun k => iL (S 3 (tSa S b m k))) (fun k => iL (T 2 (tSa S b m k))) (tNu S T b m) (tDe S T b m) (g_b ab) := by
  have tr : T (3 + b) m = 0 ∨ T (3 + b) m = 1 := by
    match b, hb with
    | 0, _ => exact Ht.2.1 m hm
    | 1, _ => exact Ht.2.2 m hm
  have e := iL_b tr
  have := tieW_of Hh Hr Hi hb hm
  rw [e] at this
  exact ⟨_, e, this⟩
end ST
theorem iL_nle {z : Int} {k : Nat} (h1 : -2147483648 ≤ z) (h2 : z < 2147483648) (hk : k < 2147483648) : iL z ≤ nI k ↔ z ≤ k := by rw [← iL_n]; exact iL_le h1 h2 (by omega) (by omega)
theorem nI_eqi {z : Int} {k : Nat} (h1 : -2147483648 ≤ z) (h2 : z < 2147483648) (hk : k < 2147483648) : nI k = iL z ↔ (k : Int) = z := by rw [← iL_n]; exact iL_eq (by omega) (by omega) h1 h2
def meshAt (S : Sg) (k a b : Nat) : Prop := ((S 9 k).toNat = a ∧ (S 10 k).toNat = b) ∨ ((S 9 k).toNat = b ∧ (S 10 k).toNat = a)
def meshedP (S : Sg) (a b : Nat) : Prop := ∃ k : Nat, (k : Int) < S 0 2 ∧ meshAt S k a b
theorem ad5_in {G : g_C} {S T : Sg} {w : g_W} {ad : Nat → Nat → Nat} {Cn : Nat → Nat → Option va_E} (Hh : holds w ad Cn) (Hr : rep G S T ad Cn) {a b : Nat} (ha : (a : Int) < S 0 1) (hb : (b : Int) < S 0 1) : ad 5 a = ad 5 b ↔ a = b :=
  ⟨fun q => (Hh.2 5 a 5 b (rep_live (Hr.2.2.2.1 a ha)) (rep_live (Hr.2.2.2.1 b hb)) q).2, fun q => by rw [q]⟩
theorem ad3_in {G : g_C} {S T : Sg} {w : g_W} {ad : Nat → Nat → Nat} {Cn : Nat → Nat → Option va_E} (Hh : holds w ad Cn) (Hr : rep G S T ad Cn) {a b : Nat} (ha : (a : Int) < S 0 0) (hb : (b : Int) < S 0 0) : ad 3 a = ad 3 b ↔ a = b :=
  ⟨fun q => (Hh.2 3 a 3 b (rep_live (Hr.2.2.1 a ha).1) (rep_live (Hr.2.2.1 b hb).1) q).2, fun q => by rw [q]⟩
theorem isOf_ad {G : g_C} {S T : Sg} {w : g_W} {ad : Nat → Nat → Nat} {Cn : Nat → Nat → Option va_E} (Hh : holds w ad Cn) (Hr : rep G S T ad Cn) (Hi : invS S) {k a b : Nat} (hk : (k : Int) < S 0 2) (ha : (a : Int) < S 0 1) (hb : (b : Int) < S 0 1) : ((ad 5 (S 9 k).toNat = ad 5 a ∧ ad 5 (S 10 k).toNat = ad 5 b) ∨ (ad 5 (S 9 k).toNat = ad 5 b ∧ ad 5 (S 10 k).toNat = ad 5 a)) ↔ meshAt S k a b := by
  obtain ⟨a1, a2, a3, a4, -⟩ := Hi.2.2.2.1 k hk
  rw [ad5_in Hh Hr (by omega) ha, ad5_in Hh Hr (by omega) hb, ad5_in Hh Hr (by omega) hb, ad5_in Hh Hr (by omega) ha]
  exact Iff.rfl
