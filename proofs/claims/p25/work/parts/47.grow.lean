/-! calls that change the bench: what is kept, what is new -/
def grow (w : g_W) (ad : Nat → Nat → Nat) (Cn : Nat → Nat → Option va_E) (w' : g_W) (ad' : Nat → Nat → Nat) (Cn' : Nat → Nat → Option va_E) : Prop :=
  (∀ a, w a ≠ none → (∀ k i, Cn k i ≠ none → ad k i ≠ a) → w' a = w a) ∧ (∀ k i, Cn' k i ≠ none → (∃ k0 i0, Cn k0 i0 ≠ none ∧ ad k0 i0 = ad' k i) ∨ w (ad' k i) = none) ∧ (∀ a, w a ≠ none → w' a ≠ none)
section GRO
variable {G : g_C} {S S' T T' : Sg} {w w' w1 w2 : g_W} {ad ad' ad1 ad2 : Nat → Nat → Nat} {Cn Cn' C1 C2 : Nat → Nat → Option va_E}
theorem grow_rf (w : g_W) (ad : Nat → Nat → Nat) (Cn : Nat → Nat → Option va_E) : grow w ad Cn w ad Cn := ⟨fun _ _ _ => rfl, fun k i h => Or.inl ⟨k, i, h, rfl⟩, fun _ h => h⟩
theorem grow_tr (h1 : grow w ad Cn w1 ad1 C1) (h2 : grow w1 ad1 C1 w2 ad2 C2) : grow w ad Cn w2 ad2 C2 := by
  refine ⟨fun a ha ho => ?_, fun k i hk => ?_, fun a ha => h2.2.2 a (h1.2.2 a ha)⟩
  · have e := h1.1 a ha ho
    rw [h2.1 a (by rw [e]; exact ha) (fun k i hk q => ?_), e]
    rcases h1.2.1 k i hk with ⟨k0, i0, z1, z2⟩ | z
    · exact ho k0 i0 z1 (z2.trans q)
    · rw [q] at z; exact ha z
  · rcases h2.2.1 k i hk with ⟨k0, i0, z1, z2⟩ | z
    · rcases h1.2.1 k0 i0 z1 with ⟨k1, i1, y1, y2⟩ | y
      · exact Or.inl ⟨k1, i1, y1, y2.trans z2⟩
      · rw [z2] at y; exact Or.inr y
    · refine Or.inr (Decidable.not_not.mp (fun q => h1.2.2 _ q z))
theorem grow_up (h : upto ad Cn w w' Cn') : grow w ad Cn w' ad Cn' := by
  refine ⟨fun a _ ho => h.2.2 a ho, fun k i hk => Or.inl ⟨k, i, fun q => hk ((h.2.1 k i).mpr q), rfl⟩, fun a ha => ?_⟩
  rcases Classical.em (∃ k i, Cn k i ≠ none ∧ ad k i = a) with ⟨k, i, z1, z2⟩ | z
  · cases hc : Cn' k i with
    | none => exact absurd ((h.2.1 k i).mp hc) z1
    | some x => rw [← z2, h.1.1 k i x hc]; exact fun q => (nomatch q)
  · rw [h.2.2 a (fun k i hk q => z ⟨k, i, hk, q⟩)]
    exact ha
theorem grow_set (hh : holds w ad Cn) (k i : Nat) (e : va_E) (hl : Cn k i ≠ none) : grow w ad Cn (g_up w (ad k i) e) ad (up2 Cn k i (some e)) := grow_up (upto_set hh k i e hl)
theorem grow_new (k i : Nat) (e : va_E) {q : Nat} (hq : w q = none) : grow w ad Cn (g_up w q e) (up2 ad k i q) (up2 Cn k i (some e)) := by
  have key : ∀ a b, ¬ (a = k ∧ b = i) → up2 Cn k i (some e) a b = Cn a b ∧ up2 ad k i q a b = ad a b := fun a b z => by simp [up2, z]
  refine ⟨fun a ha _ => g_up_n _ (fun z => ha (by rw [z]; exact hq)), fun a b hab => ?_, fun a ha => ?_⟩
  · by_cases z : a = k ∧ b = i
    · obtain ⟨rfl, rfl⟩ := z
      rw [up2_s]
      exact Or.inr hq
    · rw [(key a b z).2]
      rw [(key a b z).1] at hab
      exact Or.inl ⟨a, b, hab, rfl⟩
  · by_cases z : a = q
    · rw [z, g_up_s]; exact fun y => (nomatch y)
    · rw [g_up_n _ z]; exact ha
theorem listR_ext {n : Int} {el el' : Nat → Nat} {j : Nat} (h : listR G n el ad Cn j) (h1 : Cn' 1 j = Cn 1 j) (h2 : Cn' 2 j = Cn 2 j) (h3 : ad' 2 j = ad 2 j) (h4 : ∀ k : Nat, (k : Int) < n → el' k = el k) : listR G n el' ad' Cn' j := by
  obtain ⟨mod, ⟨a1, a2⟩ | ⟨cap, f, a1, a2, a3, a4, a5, a6⟩⟩ := h
  · exact ⟨mod, Or.inl ⟨a1, h1.trans a2⟩⟩
  · exact ⟨mod, Or.inr ⟨cap, f, by rw [h1, h3]; exact a1, h2.trans a2, a3, a4, a5, fun k hk => by rw [h4 k hk]; exact a6 k hk⟩⟩
theorem tieR_ext {b m N : Nat} {sa : Nat → Nat} {wt : Nat → Int} {z : Int} (h : tieR G ad Cn b m N sa wt z) (h0 : ∀ k, b ≤ k → k < b + 4 → k ≠ b + 2 → Cn' k m = Cn k m ∧ ad' k m = ad k m) (h2 : ∀ k, k < N → Cn' (b + 9 + k) m = Cn (b + 9 + k) m ∧ ad' (b + 9 + k) m = ad (b + 9 + k) m) (h3 : ∀ k, k < N → ad' 3 (sa k) = ad 3 (sa k)) : tieR G ad' Cn' b m N sa wt z := by
  obtain ⟨a1, ⟨f, a2, a3⟩, a4, a6⟩ := h
  refine ⟨?_, ⟨f, ?_, fun k hk => by rw [(h2 k hk).2]; exact a3 k hk⟩, fun k hk => ?_, ?_⟩
  · rw [(h0 b (by omega) (by omega) (by omega)).1, (h0 (b + 1) (by omega) (by omega) (by omega)).2, (h0 (b + 3) (by omega) (by omega) (by omega)).2]; exact a1
  · rw [(h0 (b + 1) (by omega) (by omega) (by omega)).1]; exact a2
  · rw [(h2 k hk).1, h3 k hk]; exact a4 k hk
  · rw [(h0 (b + 3) (by omega) (by omega) (by omega)).1]; exact a6
/-- the answer of add, by names: the list j has one element more -/
theorem listW_of (Hh : holds w ad Cn) {j : Nat} {n : Int} (hn : 0 ≤ n ∧ n < 40) {ci : Nat} (hl : listR G n (ad (elk j)) ad Cn j) (hel : ∀ k : Nat, (k : Int) < n → ∃ fs, w (ad (elk j) k) = some (.inr (ci, fs))) :
    ∃ (ha : Bool) (mod : Int32) (f : Nat → Option Nat), listW G w (ad 1 j) (ad 2 j) n.toNat ci ha mod f ∧ Cn 1 j ≠ none ∧ (ha = true → Cn 2 j ≠ none) ∧ ∀ k : Nat, (k : Int) < n → f k = some (ad (elk j) k) := by
  obtain ⟨mod, ⟨a1, a2⟩ | ⟨cap, f, a1, a2, a3, a4, a5, a6⟩⟩ := hl
  · refine ⟨false, mod, fun _ => none, Or.inl ⟨rfl, by omega, ?_⟩, rep_live a2, fun q => (nomatch q), fun k hk => absurd hk (by omega)⟩
    exact Hh.1 _ _ _ a2
  · refine ⟨true, mod, f, Or.inr ⟨rfl, cap, ?_, Hh.1 _ _ _ a2, by omega, a4, a5, by omega, fun i hi => ?_⟩, rep_live a1, fun _ => rep_live a2, a6⟩
    · rw [← iL_nn hn.1]; exact Hh.1 _ _ _ a1
    · obtain ⟨fs, hfs⟩ := hel i (by omega)
      exact ⟨_, fs, a6 i (by omega), hfs⟩
theorem add_post (Hh : holds w ad Cn) {j : Nat} {n : Int} (hn : 0 ≤ n) {ha : Bool} {mod : Int32} {f : Nat → Option Nat} (h1 : Cn 1 j ≠ none) (h2 : ha = true → Cn 2 j ≠ none) (hf : ∀ k : Nat, (k : Int) < n → f k = some (ad (elk j) k)) (hj : elk j ≠ 2)
    (P : addP G w (ad 1 j) (ad 2 j) n.toNat ha mod f (ad (elk j) n.toNat) w') :
    ∃ (q : Nat) (C2 : Nat → Nat → Option va_E), grow w ad Cn w' (up2 ad 2 j q) C2 ∧ holds w' (up2 ad 2 j q) C2 ∧ listR G (n + 1) (up2 ad 2 j q (elk j)) (up2 ad 2 j q) C2 j ∧ ∀ a b, ¬ (a = 1 ∧ b = j) → ¬ (a = 2 ∧ b = j) → C2 a b = Cn a b := by
  obtain ⟨q, cap, f', p1, p2, p3, p4, p5, p6, p7⟩ := P
  -- first the array, then the list
  have e0 : up2 ad 2 j q 1 j = ad 1 j := up2_k _ _ _ (by decide)
  have s1 : ∃ C1, grow w ad Cn (g_up w q (.inl (G.2.1 3, cap, .inr (.inr (.inr (.inr f')))))) (up2 ad 2 j q) C1 ∧ holds (g_up w q (.inl (G.2.1 3, cap, .inr (.inr (.inr (.inr f')))))) (up2 ad 2 j q) C1 ∧ C1 = up2 Cn 2 j (some (.inl (G.2.1 3, cap, .inr (.inr (.inr (.inr f')))))) := by
    rcases p1 with z | ⟨z1, z2⟩
    · exact ⟨_, grow_new 2 j _ z, holds_new Hh 2 j _ z, rfl⟩
    · have ead : up2 ad 2 j q = ad := by
        funext a b
        unfold up2
        split
        · rename_i hab; rw [z1, hab.1, hab.2]
        · rfl
      rw [ead, z1]
      exact ⟨_, grow_set Hh 2 j _ (h2 z2), holds_set Hh 2 j _ (h2 z2), rfl⟩
  obtain ⟨C1, g1, hh1, e1⟩ := s1
  have l1 : C1 1 j ≠ none := by rw [e1, up2_k _ _ _ (by decide)]; exact h1
  have g2 := grow_set hh1 1 j (.inr (0, [.int (mod + 1), .ref q, .int (nI (n.toNat + 1))])) l1
  have hh2 := holds_set hh1 1 j (.inr (0, [.int (mod + 1), .ref q, .int (nI (n.toNat + 1))])) l1
  rw [e0, ← p7] at g2 hh2
  refine ⟨q, _, grow_tr g1 g2, hh2, ⟨mod + 1, Or.inr ⟨cap, f', ?_, ?_, by omega, p3, p4, fun k hk => ?_⟩⟩, fun a b z1 z2 => ?_⟩
  · rw [up2_s, up2_s, show iL (n + 1) = nI (n.toNat + 1) from by rw [← iL_n]; rw [show ((n.toNat + 1 : Nat) : Int) = n + 1 from by omega]]
  · rw [up2_k _ _ _ (by decide), e1, up2_s]
  · rw [up2_k _ _ _ hj]
    by_cases z : k = n.toNat
    · rw [z]; exact p6
    · rw [p5 k (by omega)]; exact hf k (by omega)
  · rw [show ∀ (g : Nat → Nat → Option va_E) v, up2 g 1 j v a b = g a b from fun g v => if_neg z1, e1]
    exact if_neg z2
/-- everything that is so between two calls -/
def agr (S T : Sg) : Prop := ∀ f k : Nat, f < 3 → (k : Int) < S 0 0 → T f k = told S f k
def bench (G : g_C) (w : g_W) (S T : Sg) (ad : Nat → Nat → Nat) (Cn : Nat → Nat → Option va_E) : Prop := holds w ad Cn ∧ rep G S T ad Cn ∧ invS S ∧ invT S T ∧ agr S T
def after (G : g_C) (w : g_W) (ad : Nat → Nat → Nat) (Cn : Nat → Nat → Option va_E) (w' : g_W) (S' : Sg) : Prop := ∃ (ad' : Nat → Nat → Nat) (Cn' : Nat → Nat → Option va_E) (T' : Sg), ad' 0 0 = ad 0 0 ∧ grow w ad Cn w' ad' Cn' ∧ bench G w' S' T' ad' Cn'
theorem after_tell (Hi : invS S) {adz : Nat → Nat → Nat} {Cz : Nat → Nat → Option va_E} {wz : g_W} (h0 : ad 0 0 = adz 0 0) (hg : grow wz adz Cz w ad Cn) (h : ∃ Cn', upto ad Cn w w' Cn' ∧ rep G S (told S) ad Cn') : after G wz adz Cz w' S := by
  obtain ⟨C1, h1, h2⟩ := h
  exact ⟨ad, C1, told S, h0, grow_tr hg (grow_up h1), h1.1, h2, Hi, told_inv Hi, fun _ _ _ _ => rfl⟩
end GRO
