/-! codes, values and new tables of the calls that change the bench -/
abbrev plQ (x y : Int32) : Prop := inQ x (-1000) 1000 ∧ inQ y (-1000) 1000
def cdAddShaft (S : Sg) (x y : Int32) : Nat := if plQ x y then (if S 0 0 < 10 then 0 else 2) else 1
def vlAddShaft (S : Sg) : Int32 := iL (S 0 0)
def nxAddShaft (S : Sg) (x y : Int32) : Sg := up2 (up2 (up2 (up2 S 0 0 (S 0 0 + 1)) 1 (S 0 0).toNat x.toInt) 2 (S 0 0).toNat y.toInt) 3 (S 0 0).toNat 0
abbrev geQ (te mo la : Int32) : Prop := inQ te 8 200 ∧ inQ mo 1 10 ∧ inQ la 0 5
def cdAddGear (S : Sg) (p te mo la : Int32) : Nat := if shQ S 0 p then (if geQ te mo la then (if S 0 1 < 16 then 0 else 3) else 2) else 1
def vlAddGear (S : Sg) : Int32 := iL (S 0 1)
def nxAddGear (S : Sg) (p te mo la : Int32) (ri : Bool) : Sg := up2 (up2 (up2 (up2 (up2 (up2 S 0 1 (S 0 1 + 1)) 4 (S 0 1).toNat p.toInt) 5 (S 0 1).toNat te.toInt) 6 (S 0 1).toNat mo.toInt) 7 (S 0 1).toNat la.toInt) 8 (S 0 1).toNat (if ri then 1 else 0)
def cdMove (S : Sg) (p x y : Int32) : Nat := if shQ S 0 p then (if plQ x y then 0 else 2) else 1
def vlMove (S : Sg) (p x y : Int32) : Int32 := (iL (S 1 (kN p)) - x) * (iL (S 1 (kN p)) - x) + (iL (S 2 (kN p)) - y) * (iL (S 2 (kN p)) - y)
def nxMove (S : Sg) (p x y : Int32) : Sg := up2 (up2 S 1 (kN p) x.toInt) 2 (kN p) y.toInt
section ADD
variable {G : g_C} {S S' T T' : Sg} {w w' w1 w2 : g_W} {ad ad' ad2 : Nat → Nat → Nat} {Cn Cn' C2 : Nat → Nat → Option va_E} {q q2 : Nat} {x y : Int32}
/-- a new shaft beside the bench -/
theorem shaft_new (Hh : holds w ad Cn) (Hr : rep G S T ad Cn) (Hi : invS S) (hq : w q = none) (hw1 : w1 = g_up w q (.inr (5, [.int 0, .int 0, .int 0, .int 0, .null]))) (hq2 : w1 q2 = none) (hw2 : w2 = g_up (g_up w1 q2 (.inr (1, [.long 0, .long 1]))) q (.inr (5, [.int x, .int y, .int 0, .int (-1), .ref q2]))) :
    ∃ (ad2 : Nat → Nat → Nat) (C2 : Nat → Nat → Option va_E), grow w ad Cn w2 ad2 C2 ∧ holds w2 ad2 C2 ∧ rep G S T ad2 C2 ∧ ad2 0 0 = ad 0 0 ∧ ad2 1 0 = ad 1 0 ∧ ad2 3 (S 0 0).toNat = q ∧ C2 3 (S 0 0).toNat = some (.inr (5, [.int x, .int y, .int 0, .int (-1), .ref (ad2 4 (S 0 0).toNat)])) ∧ C2 4 (S 0 0).toNat = some (.inr (1, [.long 0, .long 1])) := by
  have hi := Hi.1
  have a1 := holds_new Hh 3 (S 0 0).toNat (.inr (5, [.int 0, .int 0, .int 0, .int 0, .null])) hq
  have b1 := grow_new (ad := ad) (Cn := Cn) 3 (S 0 0).toNat (.inr (5, [.int 0, .int 0, .int 0, .int 0, .null])) hq
  rw [← hw1] at a1 b1
  have a2 := holds_new a1 4 (S 0 0).toNat (.inr (1, [.long 0, .long 1])) hq2
  have b2 := grow_new (ad := up2 ad 3 (S 0 0).toNat q) (Cn := up2 Cn 3 (S 0 0).toNat (some (.inr (5, [.int 0, .int 0, .int 0, .int 0, .null])))) 4 (S 0 0).toNat (.inr (1, [.long 0, .long 1])) hq2
  have e3 : up2 (up2 ad 3 (S 0 0).toNat q) 4 (S 0 0).toNat q2 3 (S 0 0).toNat = q := by rw [up2_k _ _ _ (by decide), up2_s]
  have l3 : up2 (up2 Cn 3 (S 0 0).toNat (some (.inr (5, [.int 0, .int 0, .int 0, .int 0, .null])))) 4 (S 0 0).toNat (some (.inr (1, [.long 0, .long 1]))) 3 (S 0 0).toNat ≠ none := by
    rw [up2_k _ _ _ (by decide), up2_s]; exact fun z => (nomatch z)
  have a3 := holds_set a2 3 (S 0 0).toNat (.inr (5, [.int x, .int y, .int 0, .int (-1), .ref q2])) l3
  have b3 := grow_set a2 3 (S 0 0).toNat (.inr (5, [.int x, .int y, .int 0, .int (-1), .ref q2])) l3
  rw [e3, ← hw2] at a3 b3
  refine ⟨_, _, grow_tr b1 (grow_tr b2 b3), a3, ?_, ?_, ?_, e3, ?_, ?_⟩
  · refine rep_out Hi Hr (fun k i h => ?_)
    have z : ¬ (k = 3 ∧ i = (S 0 0).toNat) ∧ ¬ (k = 4 ∧ i = (S 0 0).toNat) := by unfold relN at h; omega
    simp [up2, z]
  · rw [up2_k _ _ _ (by decide), up2_k _ _ _ (by decide)]
  · rw [up2_k _ _ _ (by decide), up2_k _ _ _ (by decide)]
  · rw [up2_s, up2_s]
  · rw [up2_k _ _ _ (by decide), up2_s]
theorem listW_j (Hh : holds w ad Cn) (Hr : rep G S T ad Cn) (Hi : invS S) {j : Nat} (hj : j < 4) {ci : Nat} (hel : ∀ k : Nat, (k : Int) < S 0 j → ∃ fs, w (ad (elk j) k) = some (.inr (ci, fs))) :
    ∃ (ha : Bool) (mod : Int32) (f : Nat → Option Nat), listW G w (ad 1 j) (ad 2 j) (S 0 j).toNat ci ha mod f ∧ Cn 1 j ≠ none ∧ (ha = true → Cn 2 j ≠ none) ∧ ∀ k : Nat, (k : Int) < S 0 j → f k = some (ad (elk j) k) := by
  have hi := Hi.1
  refine listW_of Hh ?_ (Hr.2.1 j hj) hel
  match j, hj with
  | 0, _ => omega
  | 1, _ => omega
  | 2, _ => omega
  | 3, _ => omega
theorem addShaft_fin (hB : bench G w S T ad Cn) (hg : grow w ad Cn w2 ad2 C2) (Hh : holds w2 ad2 C2) (Hr : rep G S T ad2 C2) (h00 : ad2 0 0 = ad 0 0)
    (hC3 : C2 3 (S 0 0).toNat = some (.inr (5, [.int x, .int y, .int 0, .int (-1), .ref (ad2 4 (S 0 0).toNat)]))) (hC4 : C2 4 (S 0 0).toNat = some (.inr (1, [.long 0, .long 1]))) (hpl : plQ x y) (hn : S 0 0 < 10)
    {ha : Bool} {mod : Int32} {f : Nat → Option Nat} (h1 : C2 1 0 ≠ none) (h2 : ha = true → C2 2 0 ≠ none) (hf : ∀ k : Nat, (k : Int) < S 0 0 → f k = some (ad2 (elk 0) k)) (P : addP G w2 (ad2 1 0) (ad2 2 0) (S 0 0).toNat ha mod f (ad2 (elk 0) (S 0 0).toNat) w') : after G w ad Cn w' (nxAddShaft S x y) := by
  obtain ⟨-, -, Hi, Ht, Ha⟩ := hB
  have hi := Hi.1
  obtain ⟨q3, C3, g3, hh3, l3, k3⟩ := add_post Hh hi.1 h1 h2 hf (by decide) P
  have e0 : nxAddShaft S x y 0 0 = S 0 0 + 1 := by unfold nxAddShaft; rw [up2_k _ _ _ (by decide), up2_k _ _ _ (by decide), up2_k _ _ _ (by decide), up2_s]
  have e0' : ∀ i, i ≠ 0 → nxAddShaft S x y 0 i = S 0 i := fun i z => by unfold nxAddShaft; rw [up2_k _ _ _ (by decide), up2_k _ _ _ (by decide), up2_k _ _ _ (by decide), up2_i _ _ _ z]
  have e1 : nxAddShaft S x y 1 (S 0 0).toNat = x.toInt := by unfold nxAddShaft; rw [up2_k _ _ _ (by decide), up2_k _ _ _ (by decide), up2_s]
  have e2 : nxAddShaft S x y 2 (S 0 0).toNat = y.toInt := by unfold nxAddShaft; rw [up2_k _ _ _ (by decide), up2_s]
  have e3 : nxAddShaft S x y 3 (S 0 0).toNat = 0 := by unfold nxAddShaft; rw [up2_s]
  have eS : ∀ f k, relF S f k → f ≠ 0 → nxAddShaft S x y f k = S f k := by
    intro f k h z
    have z1 : ¬ (f = 0 ∧ k = 0) ∧ ¬ (f = 1 ∧ k = (S 0 0).toNat) ∧ ¬ (f = 2 ∧ k = (S 0 0).toNat) ∧ ¬ (f = 3 ∧ k = (S 0 0).toNat) := by unfold relF at h; omega
    simp [nxAddShaft, up2, z1]
  have T9 : ∃ T9 : Sg, T9 = fun f k => if f < 3 ∧ k = (S 0 0).toNat then (if f = 0 then 0 else if f = 1 then 1 else -1) else T f k := ⟨_, rfl⟩
  obtain ⟨T9, eT⟩ := T9
  have t0 : T9 0 (S 0 0).toNat = 0 ∧ T9 1 (S 0 0).toNat = 1 ∧ T9 2 (S 0 0).toNat = -1 := by rw [eT]; simp
  have tk : ∀ f k : Nat, ¬ (f < 3 ∧ k = (S 0 0).toNat) → T9 f k = T f k := by intro f k z; rw [eT]; exact if_neg z
  have hrn : rep G (nxAddShaft S x y) T9 (up2 ad2 2 0 q3) C3 := by
    refine rep_addj Hi (j := 0) (by decide) Hr e0 (fun i z _ => e0' i z) eS (fun f k z1 z2 z3 => tk f k (fun z => by have := z1 z.1; omega)) l3 k3 (fun a b z => ?_) (fun _ => ?_) (fun z => absurd z (by decide)) (fun z => absurd z (by decide)) (fun z => absurd z (by decide))
    · exact if_neg z
    · refine ⟨?_, ?_⟩
      · rw [k3 3 _ (by omega) (by omega), hC3, e1, e2, e3, t0.2.2, iL_x, iL_x, up2_k _ _ _ (by decide)]; rfl
      · rw [k3 4 _ (by omega) (by omega), hC4, t0.1, t0.2.1]; rfl
  have hin : invS (nxAddShaft S x y) := by
    refine ⟨by rw [e0, e0' 1 (by decide), e0' 2 (by decide), e0' 3 (by decide), e0' 4 (by decide), e0' 5 (by decide)]; omega, fun k hk => ?_, fun k hk => ?_, fun k hk => ?_, fun k hk => ?_⟩
    · rw [e0] at hk
      by_cases z : k = (S 0 0).toNat
      · rw [z, e1, e2, e3]; exact ⟨hpl.1.1, hpl.1.2, hpl.2.1, hpl.2.2, Or.inl rfl⟩
      · have hk' : (k : Int) < S 0 0 := by omega
        rw [eS 1 k (by unfold relF; omega) (by decide), eS 2 k (by unfold relF; omega) (by decide), eS 3 k (by unfold relF; omega) (by decide)]
        exact Hi.2.1 k hk'
    · rw [e0' 1 (by decide)] at hk
      have g := Hi.2.2.1 k hk
      rw [e0, eS 4 k (by unfold relF; omega) (by decide), eS 5 k (by unfold relF; omega) (by decide), eS 6 k (by unfold relF; omega) (by decide), eS 7 k (by unfold relF; omega) (by decide), eS 8 k (by unfold relF; omega) (by decide)]
      exact ⟨g.1, by omega, g.2.2⟩
    · rw [e0' 2 (by decide)] at hk
      have g := Hi.2.2.2.1 k hk
      rw [e0' 1 (by decide), eS 9 k (by unfold relF; omega) (by decide), eS 10 k (by unfold relF; omega) (by decide), eS 4 (S 9 k).toNat (by unfold relF; omega) (by decide), eS 4 (S 10 k).toNat (by unfold relF; omega) (by decide)]
      exact g
    · rw [e0' 3 (by decide)] at hk
      have g := Hi.2.2.2.2 k hk
      rw [e0, eS 11 k (by unfold relF; omega) (by decide), eS 12 k (by unfold relF; omega) (by decide), eS 13 k (by unfold relF; omega) (by decide), eS 14 k (by unfold relF; omega) (by decide), eS 15 k (by unfold relF; omega) (by decide)]
      omega
  refine ⟨up2 ad2 2 0 q3, C3, T9, ?_, grow_tr hg g3, hh3, hrn, hin, ⟨fun k hk => ?_, fun k hk => ?_, fun k hk => ?_⟩, fun f k hf hk => ?_⟩
  · rw [up2_k _ _ _ (by decide)]; exact h00
  · rw [e0] at hk
    by_cases z : k = (S 0 0).toNat
    · rw [z, t0.1, t0.2.1, t0.2.2]; decide
    · rw [tk 0 k (by omega), tk 1 k (by omega), tk 2 k (by omega)]; exact Ht.1 k (by omega)
  · rw [e0' 2 (by decide)] at hk
    rw [tk 3 k (by omega)]; exact Ht.2.1 k hk
  · rw [e0' 3 (by decide)] at hk
    rw [tk 4 k (by omega)]; exact Ht.2.2 k hk
  · rw [e0] at hk
    have rc := told_cong Hi (samT_of (S' := nxAddShaft S x y) Hi (fun f k h z => eS f k h (by omega)) (e0' 2 (by decide)) (e0' 3 (by decide)) (e0' 4 (by decide)) (e0' 5 (by decide)))
    by_cases z : k = (S 0 0).toNat
    · rw [rc.2 f k hf (by omega), z]
      have ed : ∀ S0 : Sg, T0 S0 f (S 0 0).toNat = if f = 0 then (if (((S 0 0).toNat : Nat) : Int) = S0 0 4 then S0 0 5 else 0) else if f = 1 then 1 else if f = 2 then (if (((S 0 0).toNat : Nat) : Int) = S0 0 4 ∨ S0 3 (S 0 0).toNat = 1 then 0 else -1) else 0 := fun S0 => rfl
      have na : ¬ (((S 0 0).toNat : Nat) : Int) = S 0 4 := by omega
      rw [ed, e0' 4 (by decide), e3]
      match f, hf with
      | 0, _ => rw [t0.1, if_pos rfl, if_neg na]
      | 1, _ => rw [t0.2.1, if_neg (by decide), if_pos rfl]
      | 2, _ => rw [t0.2.2, if_neg (by decide), if_neg (by decide), if_pos rfl, if_neg (fun q => q.elim na (by decide))]
    · rw [tk f k (fun q => z q.2), rc.1 f k (fun _ => by omega)]
      exact Ha f k hf (by omega)
end ADD
section ADG
variable {G : g_C} {S S' T T' : Sg} {w w' w1 w2 : g_W} {ad ad' ad2 : Nat → Nat → Nat} {Cn Cn' C2 : Nat → Nat → Option va_E} {q q2 : Nat} {x y : Int32}
/-- a new gear beside the bench -/
theorem gear_new (Hh : holds w ad Cn) (Hr : rep G S T ad Cn) (Hi : invS S) {e e' : va_E} (hq : w q = none) (hw1 : w1 = g_up w q e) (hw2 : w2 = g_up w1 q e') :
    ∃ (ad2 : Nat → Nat → Nat) (C2 : Nat → Nat → Option va_E), grow w ad Cn w2 ad2 C2 ∧ holds w2 ad2 C2 ∧ rep G S T ad2 C2 ∧ ad2 0 0 = ad 0 0 ∧ ad2 1 1 = ad 1 1 ∧ (∀ k : Nat, ad2 3 k = ad 3 k) ∧ ad2 5 (S 0 1).toNat = q ∧ C2 5 (S 0 1).toNat = some e' := by
  have hi := Hi.1
  have a1 := holds_new Hh 5 (S 0 1).toNat e' hq
  have b1 := grow_new (ad := ad) (Cn := Cn) 5 (S 0 1).toNat e' hq
  rw [show g_up w q e' = w2 from by rw [hw2, hw1, g_up_up]] at a1 b1
  refine ⟨_, _, b1, a1, ?_, ?_, ?_, fun k => ?_, by rw [up2_s], by rw [up2_s]⟩
  · refine rep_out Hi Hr (fun k i h => ?_)
    have z : ¬ (k = 5 ∧ i = (S 0 1).toNat) := by unfold relN at h; omega
    simp [up2, z]
  · rw [up2_k _ _ _ (by decide)]
  · rw [up2_k _ _ _ (by decide)]
  · rw [up2_k _ _ _ (by decide)]
theorem addGear_fin (hB : bench G w S T ad Cn) (hg : grow w ad Cn w2 ad2 C2) (Hh : holds w2 ad2 C2) (Hr : rep G S T ad2 C2) (h00 : ad2 0 0 = ad 0 0) {p te mo la : Int32} {ri : Bool} (hp : shQ S 0 p) (hge : geQ te mo la) (hn : S 0 1 < 16)
    (hC : C2 5 (S 0 1).toNat = some (.inr (2, [.ref (ad2 3 (kN p)), .int te, .int mo, .int la, .int (g_b ri)])))
    {ha : Bool} {mod : Int32} {f : Nat → Option Nat} (h1 : C2 1 1 ≠ none) (h2 : ha = true → C2 2 1 ≠ none) (hf : ∀ k : Nat, (k : Int) < S 0 1 → f k = some (ad2 (elk 1) k)) (P : addP G w2 (ad2 1 1) (ad2 2 1) (S 0 1).toNat ha mod f (ad2 (elk 1) (S 0 1).toNat) w') : after G w ad Cn w' (nxAddGear S p te mo la ri) := by
  obtain ⟨-, -, Hi, Ht, Ha⟩ := hB
  have hi := Hi.1
  obtain ⟨q3, C3, g3, hh3, l3, k3⟩ := add_post Hh hi.2.2.1 h1 h2 hf (by decide) P
  have S9 : ∃ S9 : Sg, S9 = nxAddGear S p te mo la ri := ⟨_, rfl⟩
  obtain ⟨S9, eS9⟩ := S9
  rw [← eS9]
  have e0 : S9 0 1 = S 0 1 + 1 := by rw [eS9]; unfold nxAddGear; rw [up2_k _ _ _ (by decide), up2_k _ _ _ (by decide), up2_k _ _ _ (by decide), up2_k _ _ _ (by decide), up2_k _ _ _ (by decide), up2_s]
  have e0' : ∀ i, i ≠ 1 → S9 0 i = S 0 i := fun i z => by rw [eS9]; unfold nxAddGear; rw [up2_k _ _ _ (by decide), up2_k _ _ _ (by decide), up2_k _ _ _ (by decide), up2_k _ _ _ (by decide), up2_k _ _ _ (by decide), up2_i _ _ _ z]
  have e4 : S9 4 (S 0 1).toNat = p.toInt := by rw [eS9]; unfold nxAddGear; rw [up2_k _ _ _ (by decide), up2_k _ _ _ (by decide), up2_k _ _ _ (by decide), up2_k _ _ _ (by decide), up2_s]
  have e5 : S9 5 (S 0 1).toNat = te.toInt := by rw [eS9]; unfold nxAddGear; rw [up2_k _ _ _ (by decide), up2_k _ _ _ (by decide), up2_k _ _ _ (by decide), up2_s]
  have e6 : S9 6 (S 0 1).toNat = mo.toInt := by rw [eS9]; unfold nxAddGear; rw [up2_k _ _ _ (by decide), up2_k _ _ _ (by decide), up2_s]
  have e7 : S9 7 (S 0 1).toNat = la.toInt := by rw [eS9]; unfold nxAddGear; rw [up2_k _ _ _ (by decide), up2_s]
  have e8 : S9 8 (S 0 1).toNat = (if ri then 1 else 0) := by rw [eS9]; unfold nxAddGear; rw [up2_s]
  have eS : ∀ f k, relF S f k → f ≠ 0 → S9 f k = S f k := by
    intro f k h z
    have z1 : ¬ (f = 0 ∧ k = 1) ∧ ¬ (f = 4 ∧ k = (S 0 1).toNat) ∧ ¬ (f = 5 ∧ k = (S 0 1).toNat) ∧ ¬ (f = 6 ∧ k = (S 0 1).toNat) ∧ ¬ (f = 7 ∧ k = (S 0 1).toNat) ∧ ¬ (f = 8 ∧ k = (S 0 1).toNat) := by unfold relF at h; omega
    rw [eS9]
    simp [nxAddGear, up2, z1]
  have hrn : rep G S9 T (up2 ad2 2 1 q3) C3 := by
    refine rep_addj Hi (j := 1) (by decide) Hr e0 (fun i z _ => e0' i z) eS (fun f k _ _ _ => rfl) l3 k3 (fun a b z => if_neg z) (fun z => absurd z (by decide)) (fun _ => ?_) (fun z => absurd z (by decide)) (fun z => absurd z (by decide))
    show C3 5 (S 0 1).toNat = _
    rw [k3 5 _ (by omega) (by omega), hC, e4, e5, e6, e7, e8, iL_x, iL_x, iL_x, up2_k _ _ _ (by decide)]
    cases ri <;> rfl
  have hin : invS S9 := by
    refine ⟨by rw [e0, e0' 0 (by decide), e0' 2 (by decide), e0' 3 (by decide), e0' 4 (by decide), e0' 5 (by decide)]; omega, fun k hk => ?_, fun k hk => ?_, fun k hk => ?_, fun k hk => ?_⟩
    · rw [e0' 0 (by decide)] at hk
      rw [eS 1 k (by unfold relF; omega) (by decide), eS 2 k (by unfold relF; omega) (by decide), eS 3 k (by unfold relF; omega) (by decide)]
      exact Hi.2.1 k hk
    · rw [e0] at hk
      rw [e0' 0 (by decide)]
      by_cases z : k = (S 0 1).toNat
      · rw [z, e4, e5, e6, e7, e8]
        refine ⟨hp.1, hp.2, hge.1.1, hge.1.2, hge.2.1.1, hge.2.1.2, hge.2.2.1, hge.2.2.2, ?_⟩
        cases ri
        · exact Or.inl rfl
        · exact Or.inr rfl
      · rw [eS 4 k (by unfold relF; omega) (by decide), eS 5 k (by unfold relF; omega) (by decide), eS 6 k (by unfold relF; omega) (by decide), eS 7 k (by unfold relF; omega) (by decide), eS 8 k (by unfold relF; omega) (by decide)]
        exact Hi.2.2.1 k (by omega)
    · rw [e0' 2 (by decide)] at hk
      have g := Hi.2.2.2.1 k hk
      rw [e0, eS 9 k (by unfold relF; omega) (by decide), eS 10 k (by unfold relF; omega) (by decide), eS 4 (S 9 k).toNat (by unfold relF; omega) (by decide), eS 4 (S 10 k).toNat (by unfold relF; omega) (by decide)]
      omega
    · rw [e0' 3 (by decide)] at hk
      have g := Hi.2.2.2.2 k hk
      rw [e0' 0 (by decide), eS 11 k (by unfold relF; omega) (by decide), eS 12 k (by unfold relF; omega) (by decide), eS 13 k (by unfold relF; omega) (by decide), eS 14 k (by unfold relF; omega) (by decide), eS 15 k (by unfold relF; omega) (by decide)]
      exact g
  refine ⟨up2 ad2 2 1 q3, C3, T, ?_, grow_tr hg g3, hh3, hrn, hin, ⟨fun k hk => ?_, fun k hk => ?_, fun k hk => ?_⟩, fun f k hf hk => ?_⟩
  · rw [up2_k _ _ _ (by decide)]; exact h00
  · rw [e0' 0 (by decide)] at hk; exact Ht.1 k hk
  · rw [e0' 2 (by decide)] at hk; exact Ht.2.1 k hk
  · rw [e0' 3 (by decide)] at hk; exact Ht.2.2 k hk
  · rw [e0' 0 (by decide)] at hk
    have rc := told_cong Hi (samT_of (S' := S9) Hi (fun f k h z => eS f k h (by omega)) (e0' 2 (by decide)) (e0' 3 (by decide)) (e0' 4 (by decide)) (e0' 5 (by decide)))
    rw [rc.1 f k (fun _ => by omega)]
    exact Ha f k hf hk
theorem move_fin (hB : bench G w S T ad Cn) {p : Int32} (hp : shQ S 0 p) (hpl : plQ x y) (hw : w' = g_up w (ad 3 (kN p)) (.inr (5, [.int x, .int y, .int (iL (S 3 (kN p))), .int (iL (T 2 (kN p))), .ref (ad 4 (kN p))]))) : after G w ad Cn w' (nxMove S p x y) := by
  obtain ⟨Hh, Hr, Hi, Ht, Ha⟩ := hB
  have hi := Hi.1
  have hk := kN_lt hp
  have hs := Hr.2.2.1 _ hk
  have u1 := upto_set Hh 3 (kN p) (.inr (5, [.int x, .int y, .int (iL (S 3 (kN p))), .int (iL (T 2 (kN p))), .ref (ad 4 (kN p))])) (rep_live hs.1)
  rw [← hw] at u1
  have S9 : ∃ S9 : Sg, S9 = nxMove S p x y := ⟨_, rfl⟩
  obtain ⟨S9, eS9⟩ := S9
  rw [← eS9]
  have e1 : S9 1 (kN p) = x.toInt := by rw [eS9]; unfold nxMove; rw [up2_k _ _ _ (by decide), up2_s]
  have e2 : S9 2 (kN p) = y.toInt := by rw [eS9]; unfold nxMove; rw [up2_s]
  have eo : ∀ f k : Nat, ¬ (f = 1 ∧ k = kN p) → ¬ (f = 2 ∧ k = kN p) → S9 f k = S f k := by intro f k z1 z2; rw [eS9]; simp [nxMove, up2, z1, z2]
  have e0 : ∀ i, S9 0 i = S 0 i := fun i => eo 0 i (by omega) (by omega)
  have e3 : ∀ f k : Nat, 3 ≤ f → S9 f k = S f k := fun f k h => eo f k (by omega) (by omega)
  have rc := told_cong Hi (samT_of (S' := S9) Hi (fun f k h z => e3 f k z) (e0 2) (e0 3) (e0 4) (e0 5))
  obtain ⟨r0, r1, r2, r3, r4, r5⟩ := Hr
  have c : ∀ a i, a ≠ 3 → up2 Cn 3 (kN p) (some (.inr (5, [.int x, .int y, .int (iL (S 3 (kN p))), .int (iL (T 2 (kN p))), .ref (ad 4 (kN p))]))) a i = Cn a i := fun a i z => up2_k _ _ _ z
  refine ⟨ad, _, T, rfl, grow_up u1, u1.1, ⟨?_, fun j hj => ?_, fun k hk => ?_, fun k hk => ?_, fun k hk => ?_, fun k hk => ?_⟩, ⟨by rw [e0, e0, e0, e0, e0, e0]; exact hi, fun k hk => ?_, fun k hk => ?_, fun k hk => ?_, fun k hk => ?_⟩, ⟨fun k hk => ?_, fun k hk => ?_, fun k hk => ?_⟩, fun f k hf hk => ?_⟩
  · unfold rep0
    rw [c 0 0 (by decide), e0, e0]; exact r0
  · rw [e0]
    exact listR_congr (r1 j hj) (c _ _ (by decide)) (c _ _ (by decide))
  · rw [e0] at hk
    by_cases z : k = kN p
    · rw [z, up2_s, c 4 _ (by decide), e1, e2, e3 3 _ (by decide), iL_x, iL_x]
      exact ⟨rfl, hs.2⟩
    · rw [up2_i _ _ _ z, up2_i _ _ _ z, eo 1 k (fun q => z q.2) (fun q => z q.2), eo 2 k (fun q => z q.2) (fun q => z q.2), e3 3 _ (by decide)]
      exact r2 k hk
  · rw [e0] at hk
    rw [c 5 _ (by decide), e3 4 _ (by decide), e3 5 _ (by decide), e3 6 _ (by decide), e3 7 _ (by decide), e3 8 _ (by decide)]
    exact r3 k hk
  · rw [e0] at hk
    obtain ⟨s1, s2, s3, s4⟩ := sa_wt_eq (S' := S9) Hi hk (fun f k h z => e3 f k z)
    rw [s1, s2, s3, s4, c 6 _ (by decide)]
    exact ⟨(r4 k hk).1, tieR_congr (r4 k hk).2 (c _ _ (by decide)) (c _ _ (by decide)) (fun i hi => c _ _ (by omega)) (Or.inl (c _ _ (by decide)))⟩
  · rw [e0] at hk
    obtain ⟨s1, s2, s3, s4⟩ := saP_wt_eq (S' := S9) hk (fun f k h z => e3 f k z)
    rw [s1, s2, s3, s4, c 11 _ (by decide)]
    exact ⟨(r5 k hk).1, tieR_congr (r5 k hk).2 (c _ _ (by decide)) (c _ _ (by decide)) (fun i hi => c _ _ (by omega)) (Or.inl (c _ _ (by decide)))⟩
  · rw [e0] at hk
    have g := Hi.2.1 k hk
    rw [e3 3 _ (by decide)]
    by_cases z : k = kN p
    · rw [z] at g ⊢
      rw [e1, e2]
      exact ⟨hpl.1.1, hpl.1.2, hpl.2.1, hpl.2.2, g.2.2.2.2⟩
    · rw [eo 1 k (fun q => z q.2) (fun q => z q.2), eo 2 k (fun q => z q.2) (fun q => z q.2)]
      exact g
  · rw [e0] at hk
    rw [e0, e3 4 _ (by decide), e3 5 _ (by decide), e3 6 _ (by decide), e3 7 _ (by decide), e3 8 _ (by decide)]
    exact Hi.2.2.1 k hk
  · rw [e0] at hk
    rw [e0, e3 9 _ (by decide), e3 10 _ (by decide), e3 4 _ (by decide), e3 4 _ (by decide)]
    exact Hi.2.2.2.1 k hk
  · rw [e0] at hk
    rw [e0, e3 11 _ (by decide), e3 12 _ (by decide), e3 13 _ (by decide), e3 14 _ (by decide), e3 15 _ (by decide)]
    exact Hi.2.2.2.2 k hk
  · rw [e0] at hk; exact Ht.1 k hk
  · rw [e0] at hk; exact Ht.2.1 k hk
  · rw [e0] at hk; exact Ht.2.2 k hk
  · rw [e0] at hk
    rw [rc.1 f k (fun _ => by omega)]
    exact Ha f k hf hk
end ADG
