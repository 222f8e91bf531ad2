/-! the bench with one element more -/
def relN (S : Sg) (k i : Nat) : Prop := k = 0 ∨ k = 1 ∨ k = 2 ∨ ((k = 3 ∨ k = 4) ∧ (i : Int) < S 0 0) ∨ (k = 5 ∧ (i : Int) < S 0 1) ∨ (((6 ≤ k ∧ k ≤ 8) ∨ k = 10 ∨ (16 ≤ k ∧ k ≤ 17)) ∧ (i : Int) < S 0 2) ∨ (((11 ≤ k ∧ k ≤ 13) ∨ k = 15 ∨ (21 ≤ k ∧ k ≤ 23)) ∧ (i : Int) < S 0 3)
def relF (S : Sg) (f k : Nat) : Prop := (f = 0 ∧ k ≤ 5) ∨ ((1 ≤ f ∧ f ≤ 3) ∧ (k : Int) < S 0 0) ∨ ((4 ≤ f ∧ f ≤ 8) ∧ (k : Int) < S 0 1) ∨ ((f = 9 ∨ f = 10) ∧ (k : Int) < S 0 2) ∨ ((11 ≤ f ∧ f ≤ 15) ∧ (k : Int) < S 0 3)
abbrev entS (S T : Sg) (ad : Nat → Nat → Nat) (Cn : Nat → Nat → Option va_E) (k : Nat) : Prop := Cn 3 k = some (.inr (5, [.int (iL (S 1 k)), .int (iL (S 2 k)), .int (iL (S 3 k)), .int (iL (T 2 k)), .ref (ad 4 k)])) ∧ Cn 4 k = some (.inr (1, [.long (zL (T 0 k)), .long (zL (T 1 k))]))
abbrev entG (S : Sg) (ad : Nat → Nat → Nat) (Cn : Nat → Nat → Option va_E) (k : Nat) : Prop := Cn 5 k = some (.inr (2, [.ref (ad 3 (S 4 k).toNat), .int (iL (S 5 k)), .int (iL (S 6 k)), .int (iL (S 7 k)), .int (iL (S 8 k))]))
abbrev entM (G : g_C) (S T : Sg) (ad : Nat → Nat → Nat) (Cn : Nat → Nat → Option va_E) (k : Nat) : Prop := Cn 6 k = some (.inr (3, [.ref (ad 5 (S 9 k).toNat), .ref (ad 5 (S 10 k).toNat), .ref (ad 7 k)])) ∧ tieR G ad Cn 7 k 2 (saM S k) (wtM S k) (T 3 k)
abbrev entP (G : g_C) (S T : Sg) (ad : Nat → Nat → Nat) (Cn : Nat → Nat → Option va_E) (k : Nat) : Prop := Cn 11 k = some (.inr (4, [.int (iL (S 14 k + S 15 k)), .ref (ad 12 k)])) ∧ tieR G ad Cn 12 k 3 (saP S k) (wtP S k) (T 4 k)
section REP
variable {G : g_C} {S S' T T' : Sg} {w w' : g_W} {ad ad' : Nat → Nat → Nat} {Cn Cn' : Nat → Nat → Option va_E}
theorem sa_wt_eq (Hi : invS S) {m : Nat} (hm : (m : Int) < S 0 2) (hS : ∀ f k, relF S f k → 3 ≤ f → S' f k = S f k) : saM S' m = saM S m ∧ wtM S' m = wtM S m ∧ S' 9 m = S 9 m ∧ S' 10 m = S 10 m := by
  obtain ⟨a1, a2, a3, a4, -⟩ := Hi.2.2.2.1 m hm
  have e9 : S' 9 m = S 9 m := hS 9 m (Or.inr (Or.inr (Or.inr (Or.inl ⟨Or.inl rfl, hm⟩)))) (by decide)
  have e10 : S' 10 m = S 10 m := hS 10 m (Or.inr (Or.inr (Or.inr (Or.inl ⟨Or.inr rfl, hm⟩)))) (by decide)
  have g1 : ∀ f, 4 ≤ f → f ≤ 8 → S' f (S 9 m).toNat = S f (S 9 m).toNat := fun f h1 h2 => hS f _ (Or.inr (Or.inr (Or.inl ⟨⟨h1, h2⟩, by omega⟩))) (by omega)
  have g2 : ∀ f, 4 ≤ f → f ≤ 8 → S' f (S 10 m).toNat = S f (S 10 m).toNat := fun f h1 h2 => hS f _ (Or.inr (Or.inr (Or.inl ⟨⟨h1, h2⟩, by omega⟩))) (by omega)
  refine ⟨?_, ?_, e9, e10⟩
  · funext k
    unfold saM
    rw [e9, e10, g1 4 (by decide) (by decide), g2 4 (by decide) (by decide)]
  · funext k
    unfold wtM
    rw [e9, e10, g1 5 (by decide) (by decide), g2 5 (by decide) (by decide), g1 8 (by decide) (by decide), g2 8 (by decide) (by decide)]
theorem saP_wt_eq {m : Nat} (hm : (m : Int) < S 0 3) (hS : ∀ f k, relF S f k → 3 ≤ f → S' f k = S f k) : saP S' m = saP S m ∧ wtP S' m = wtP S m ∧ S' 14 m = S 14 m ∧ S' 15 m = S 15 m := by
  have g : ∀ f, 11 ≤ f → f ≤ 15 → S' f m = S f m := fun f h1 h2 => hS f _ (Or.inr (Or.inr (Or.inr (Or.inr ⟨⟨h1, h2⟩, hm⟩)))) (by omega)
  refine ⟨?_, ?_, g 14 (by decide) (by decide), g 15 (by decide) (by decide)⟩
  · funext k
    unfold saP
    rw [g 11 (by decide) (by decide), g 12 (by decide) (by decide), g 13 (by decide) (by decide)]
  · funext k
    unfold wtP
    rw [g 14 (by decide) (by decide), g 15 (by decide) (by decide)]
theorem entG_ext (Hi : invS S) {k : Nat} (hk : (k : Int) < S 0 1) (h : entG S ad Cn k) (hn : ∀ a b, relN S a b → a ≠ 1 → a ≠ 2 → Cn' a b = Cn a b ∧ ad' a b = ad a b) (hS : ∀ f k, relF S f k → f ≠ 0 → S' f k = S f k) : entG S' ad' Cn' k := by
  have g := Hi.2.2.1 k hk
  have e : ∀ f, 4 ≤ f → f ≤ 8 → S' f k = S f k := fun f h1 h2 => hS f k (Or.inr (Or.inr (Or.inl ⟨⟨h1, h2⟩, hk⟩))) (by omega)
  unfold entG
  rw [(hn 5 k (by unfold relN; omega) (by decide) (by decide)).1, e 4 (by decide) (by decide), e 5 (by decide) (by decide), e 6 (by decide) (by decide), e 7 (by decide) (by decide), e 8 (by decide) (by decide), (hn 3 (S 4 k).toNat (by unfold relN; omega) (by decide) (by decide)).2]
  exact h
theorem entS_ext {k : Nat} (hk : (k : Int) < S 0 0) (h : entS S T ad Cn k) (hn : ∀ a b, relN S a b → a ≠ 1 → a ≠ 2 → Cn' a b = Cn a b ∧ ad' a b = ad a b) (hS : ∀ f k, relF S f k → f ≠ 0 → S' f k = S f k) (hT : ∀ f, f < 3 → T' f k = T f k) : entS S' T' ad' Cn' k := by
  have e : ∀ f, 1 ≤ f → f ≤ 3 → S' f k = S f k := fun f h1 h2 => hS f k (Or.inr (Or.inl ⟨⟨h1, h2⟩, hk⟩)) (by omega)
  unfold entS
  rw [(hn 3 k (by unfold relN; omega) (by decide) (by decide)).1, (hn 4 k (by unfold relN; omega) (by decide) (by decide)).1, (hn 4 k (by unfold relN; omega) (by decide) (by decide)).2, e 1 (by decide) (by decide), e 2 (by decide) (by decide), e 3 (by decide) (by decide), hT 0 (by decide), hT 1 (by decide), hT 2 (by decide)]
  exact h
theorem entM_ext (Hi : invS S) {k : Nat} (hk : (k : Int) < S 0 2) (h : entM G S T ad Cn k) (hn : ∀ a b, relN S a b → a ≠ 1 → a ≠ 2 → Cn' a b = Cn a b ∧ ad' a b = ad a b) (hS : ∀ f k, relF S f k → f ≠ 0 → S' f k = S f k) (hT : T' 3 k = T 3 k) : entM G S' T' ad' Cn' k := by
  obtain ⟨e1, e2, e3, e4⟩ := sa_wt_eq Hi hk (fun f k h1 h2 => hS f k h1 (by omega))
  obtain ⟨a1, a2, a3, a4, -⟩ := Hi.2.2.2.1 k hk
  refine ⟨?_, ?_⟩
  · rw [(hn 6 k (by unfold relN; omega) (by decide) (by decide)).1, e3, e4, (hn 5 (S 9 k).toNat (by unfold relN; omega) (by decide) (by decide)).2, (hn 5 (S 10 k).toNat (by unfold relN; omega) (by decide) (by decide)).2, (hn 7 k (by unfold relN; omega) (by decide) (by decide)).2]
    exact h.1
  · rw [e1, e2, hT]
    exact tieR_ext h.2 (fun a h1 h2 h9 => hn a k (by unfold relN; omega) (by omega) (by omega)) (fun i hi => hn _ k (by unfold relN; omega) (by omega) (by omega)) (fun i _ => (hn 3 _ (by have := saM_lt Hi hk i; unfold relN; omega) (by decide) (by decide)).2)
theorem entP_ext (Hi : invS S) {k : Nat} (hk : (k : Int) < S 0 3) (h : entP G S T ad Cn k) (hn : ∀ a b, relN S a b → a ≠ 1 → a ≠ 2 → Cn' a b = Cn a b ∧ ad' a b = ad a b) (hS : ∀ f k, relF S f k → f ≠ 0 → S' f k = S f k) (hT : T' 4 k = T 4 k) : entP G S' T' ad' Cn' k := by
  obtain ⟨e1, e2, e3, e4⟩ := saP_wt_eq hk (fun f k h1 h2 => hS f k h1 (by omega))
  refine ⟨?_, ?_⟩
  · rw [(hn 11 k (by unfold relN; omega) (by decide) (by decide)).1, e3, e4, (hn 12 k (by unfold relN; omega) (by decide) (by decide)).2]
    exact h.1
  · rw [e1, e2, hT]
    exact tieR_ext h.2 (fun a h1 h2 h9 => hn a k (by unfold relN; omega) (by omega) (by omega)) (fun i hi => hn _ k (by unfold relN; omega) (by omega) (by omega)) (fun i _ => (hn 3 _ (by have := saP_lt Hi hk i; unfold relN; omega) (by decide) (by decide)).2)
/-- cells beside the bench do not matter -/
theorem rep_out (Hi : invS S) (hr : rep G S T ad Cn) (h : ∀ k i, relN S k i → Cn' k i = Cn k i ∧ ad' k i = ad k i) : rep G S T ad' Cn' := by
  obtain ⟨r0, r1, r2, r3, r4, r5⟩ := hr
  have hi := Hi.1
  have hn : ∀ a b, relN S a b → a ≠ 1 → a ≠ 2 → Cn' a b = Cn a b ∧ ad' a b = ad a b := fun a b q _ _ => h a b q
  have h1 : ∀ j, Cn' 1 j = Cn 1 j ∧ ad' 1 j = ad 1 j := fun j => h 1 j (by unfold relN; omega)
  have h2 : ∀ j, Cn' 2 j = Cn 2 j ∧ ad' 2 j = ad 2 j := fun j => h 2 j (by unfold relN; omega)
  refine ⟨?_, fun j hj => listR_ext (r1 j hj) (h1 j).1 (h2 j).1 (h2 j).2 (fun k hk => (h _ _ ?_).2), fun k hk => entS_ext hk (r2 k hk) hn (fun _ _ _ _ => rfl) (fun _ _ => rfl), fun k hk => entG_ext Hi hk (r3 k hk) hn (fun _ _ _ _ => rfl), fun k hk => entM_ext Hi hk (r4 k hk) hn (fun _ _ _ _ => rfl) rfl, fun k hk => entP_ext Hi hk (r5 k hk) hn (fun _ _ _ _ => rfl) rfl⟩
  · unfold rep0
    rw [(h 0 0 (by unfold relN; omega)).1, (h1 0).2, (h1 1).2, (h1 2).2, (h1 3).2]
    exact r0
  · unfold elk relN
    match j, hj with
    | 0, _ => exact Or.inr (Or.inr (Or.inr (Or.inl ⟨Or.inl rfl, hk⟩)))
    | 1, _ => exact Or.inr (Or.inr (Or.inr (Or.inr (Or.inl ⟨rfl, hk⟩))))
    | 2, _ => exact Or.inr (Or.inr (Or.inr (Or.inr (Or.inr (Or.inl ⟨by decide, hk⟩)))))
    | 3, _ => exact Or.inr (Or.inr (Or.inr (Or.inr (Or.inr (Or.inr ⟨by decide, hk⟩)))))
theorem rep_addj (Hi : invS S) {j : Nat} (hj : j < 4) (hr : rep G S T ad Cn) (h0 : S' 0 j = S 0 j + 1) (hS0 : ∀ i, i ≠ j → i ≤ 5 → S' 0 i = S 0 i) (hS : ∀ f k, relF S f k → f ≠ 0 → S' f k = S f k)
    (hT : ∀ f k : Nat, (f < 3 → (k : Int) < S 0 0) → (f = 3 → (k : Int) < S 0 2) → (f = 4 → (k : Int) < S 0 3) → T' f k = T f k)
    (hl : listR G (S 0 j + 1) (ad' (elk j)) ad' Cn' j) (hC : ∀ a b, ¬ (a = 1 ∧ b = j) → ¬ (a = 2 ∧ b = j) → Cn' a b = Cn a b) (had : ∀ a b, ¬ (a = 2 ∧ b = j) → ad' a b = ad a b)
    (n0 : j = 0 → entS S' T' ad' Cn' (S 0 0).toNat) (n1 : j = 1 → entG S' ad' Cn' (S 0 1).toNat) (n2 : j = 2 → entM G S' T' ad' Cn' (S 0 2).toNat) (n3 : j = 3 → entP G S' T' ad' Cn' (S 0 3).toNat) : rep G S' T' ad' Cn' := by
  obtain ⟨r0, r1, r2, r3, r4, r5⟩ := hr
  have hi := Hi.1
  have hn : ∀ a b, relN S a b → a ≠ 1 → a ≠ 2 → Cn' a b = Cn a b ∧ ad' a b = ad a b := fun a b _ z1 z2 => ⟨hC a b (fun q => z1 q.1) (fun q => z2 q.1), had a b (fun q => z2 q.1)⟩
  refine ⟨?_, fun i hi4 => ?_, fun k hk => ?_, fun k hk => ?_, fun k hk => ?_, fun k hk => ?_⟩
  · unfold rep0
    rw [hC 0 0 (by omega) (by omega), had 1 0 (by omega), had 1 1 (by omega), had 1 2 (by omega), had 1 3 (by omega), hS0 4 (by omega) (by omega), hS0 5 (by omega) (by omega)]
    exact r0
  · by_cases z : i = j
    · rw [z, h0]; exact hl
    · rw [hS0 i z (by omega)]
      exact listR_ext (r1 i hi4) (hC 1 i (by omega) (by omega)) (hC 2 i (by omega) (by omega)) (had 2 i (by omega)) (fun k _ => had _ _ (fun q => by have q1 := q.1; unfold elk at q1; split at q1 <;> (try split at q1) <;> (try split at q1) <;> omega))
  · by_cases z : j = 0 ∧ k = (S 0 0).toNat
    · rw [z.2]; exact n0 z.1
    · have hk' : (k : Int) < S 0 0 := by
        by_cases y : j = 0
        · rw [y] at h0; omega
        · rw [hS0 0 (by omega) (by omega)] at hk; exact hk
      exact entS_ext hk' (r2 k hk') hn hS (fun f hf => hT f k (fun _ => hk') (by omega) (by omega))
  · by_cases z : j = 1 ∧ k = (S 0 1).toNat
    · rw [z.2]; exact n1 z.1
    · have hk' : (k : Int) < S 0 1 := by
        by_cases y : j = 1
        · rw [y] at h0; omega
        · rw [hS0 1 (by omega) (by omega)] at hk; exact hk
      exact entG_ext Hi hk' (r3 k hk') hn hS
  · by_cases z : j = 2 ∧ k = (S 0 2).toNat
    · rw [z.2]; exact n2 z.1
    · have hk' : (k : Int) < S 0 2 := by
        by_cases y : j = 2
        · rw [y] at h0; omega
        · rw [hS0 2 (by omega) (by omega)] at hk; exact hk
      exact entM_ext Hi hk' (r4 k hk') hn hS (hT 3 k (by omega) (fun _ => hk') (by omega))
  · by_cases z : j = 3 ∧ k = (S 0 3).toNat
    · rw [z.2]; exact n3 z.1
    · have hk' : (k : Int) < S 0 3 := by
        by_cases y : j = 3
        · rw [y] at h0; omega
        · rw [hS0 3 (by omega) (by omega)] at hk; exact hk
      exact entP_ext Hi hk' (r5 k hk') hn hS (hT 4 k (by omega) (by omega) (fun _ => hk'))
theorem samT_of (Hi : invS S) (hS : ∀ f k, relF S f k → 3 ≤ f → S' f k = S f k) (h2 : S' 0 2 = S 0 2) (h3 : S' 0 3 = S 0 3) (h4 : S' 0 4 = S 0 4) (h5 : S' 0 5 = S 0 5) : samT S S' (S 0 0).toNat := by
  have hi := Hi.1
  refine ⟨⟨h2, h3⟩, fun b m k hb hm => ?_, ⟨h4, h5⟩, fun k hk => hS 3 k (Or.inr (Or.inl ⟨by decide, by omega⟩)) (by decide)⟩
  have hlt := tSa_lt Hi hb hm k
  match b, hb with
  | 0, _ =>
    obtain ⟨e1, e2, -⟩ := sa_wt_eq Hi hm hS
    exact ⟨congrFun e1 k, congrFun e2 k, by omega⟩
  | 1, _ =>
    obtain ⟨e1, e2, -⟩ := saP_wt_eq hm hS
    exact ⟨congrFun e1 k, congrFun e2 k, by omega⟩
end REP
