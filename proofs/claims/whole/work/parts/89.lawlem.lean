/-! what is so between two steps of the law -/
def sepL (ad : Nat → Nat → Nat) (Cn : Nat → Nat → Option va_E) (md : Nat → Nat) (o od : Nat) : Prop := (∀ k i, Cn k i ≠ none → (∀ j, j < 12 → ad k i ≠ md j) ∧ ad k i ≠ o ∧ ad k i ≠ od) ∧ ∀ j, j < 12 → md j ≠ o ∧ md j ≠ od
def lwJ (G : g_C) (w : g_W) (x mo o od : Nat) (S : Sg) : Prop := ∃ (ad : Nat → Nat → Nat) (Cn : Nat → Nat → Option va_E) (T : Sg) (md : Nat → Nat) (th : Int32) (tp bt : Int64) (Fm : Nat → Nat → Int32) (L : Nat → Nat → Int64) (fo : Nat → Int64) (fd : Nat → UInt64),
  ad 0 0 = x ∧ md 0 = mo ∧ bench G w S T ad Cn ∧ (∀ f, f < 3 → T f = told S f) ∧ modI md ∧ modW G w md S th tp bt Fm L ∧ modF S Fm ∧ w o = some (.inl (G.2.1 1, 1, .inr (.inl fo))) ∧ w od = some (.inl (G.2.1 5, 1, .inr (.inr (.inr (.inl fd))))) ∧ sepL ad Cn md o od
noncomputable def tT (S T : Sg) : Sg := fun f => if f < 3 then told S f else T f
theorem tT_lo {S T : Sg} {f : Nat} (h : f < 3) : tT S T f = told S f := if_pos h
section LW
variable {G : g_C} {S S' T : Sg} {w w1 w2 wA : g_W} {ad ad2 : Nat → Nat → Nat} {Cn C2 : Nat → Nat → Option va_E} {md : Nat → Nat} {th : Int32} {tp bt : Int64} {Fm : Nat → Nat → Int32} {L : Nat → Nat → Int64} {fo f1 : Nat → Int64} {fd f2 : Nat → UInt64} {o od : Nat} {c : Nat}
theorem bench_T (h : bench G w S T ad Cn) : bench G w S (tT S T) ad Cn := by
  obtain ⟨h1, h2, h3, h4, h5⟩ := h
  have t := told_inv h3
  refine ⟨h1, rep_Tc h2 (fun f k hf hk => ?_) (fun k hk => rfl) (fun k hk => rfl), h3, ⟨fun k hk => ?_, h4.2.1, h4.2.2⟩, fun f k hf hk => ?_⟩
  · rw [tT_lo hf, h5 f k hf hk]
  · rw [tT_lo (by decide), tT_lo (by decide), tT_lo (by decide)]
    exact t.1 k hk
  · rw [tT_lo hf]
theorem holds_c (h : holds w ad Cn) (e : ∀ k i, Cn k i ≠ none → w1 (ad k i) = w (ad k i)) : holds w1 ad Cn :=
  ⟨fun k i x hx => by rw [e k i (by rw [hx]; exact fun z => (nomatch z))]; exact h.1 k i x hx, h.2⟩
theorem bench_c (h : bench G w S T ad Cn) (e : ∀ k i, Cn k i ≠ none → w1 (ad k i) = w (ad k i)) : bench G w1 S T ad Cn := ⟨holds_c h.1 e, h.2⟩
theorem bench_live (h : bench G w S T ad Cn) {k i : Nat} (hk : Cn k i ≠ none) : w (ad k i) ≠ none := by
  cases hc : Cn k i with
  | none => exact absurd hc hk
  | some x => rw [h.1.1 k i x hc]; exact fun z => (nomatch z)
theorem modW_c (h : modW G w md S th tp bt Fm L) (e : ∀ j, j < 12 → w1 (md j) = w (md j)) : modW G w1 md S th tp bt Fm L := by
  obtain ⟨c0, c1, c2, c3, c4, c5, c6, c7, c8, c9, c10, c11⟩ := h
  refine ⟨?_, ?_, ?_, ?_, ?_, ?_, ?_, ?_, ?_, ?_, ?_, ?_⟩
  · rw [e 0 (by decide)]; exact c0
  · rw [e 1 (by decide)]; exact c1
  · rw [e 2 (by decide)]; exact c2
  · rw [e 3 (by decide)]; exact c3
  · rw [e 4 (by decide)]; exact c4
  · rw [e 5 (by decide)]; exact c5
  · rw [e 6 (by decide)]; exact c6
  · rw [e 7 (by decide)]; exact c7
  · rw [e 8 (by decide)]; exact c8
  · rw [e 9 (by decide)]; exact c9
  · rw [e 10 (by decide)]; exact c10
  · rw [e 11 (by decide)]; exact c11
theorem modW_live (h : modW G w md S th tp bt Fm L) : ∀ j, j < 12 → w (md j) ≠ none := by
  obtain ⟨c0, c1, c2, c3, c4, c5, c6, c7, c8, c9, c10, c11⟩ := h
  intro j hj
  match j, hj with
  | 0, _ => rw [c0]; exact fun z => (nomatch z)
  | 1, _ => rw [c1]; exact fun z => (nomatch z)
  | 2, _ => rw [c2]; exact fun z => (nomatch z)
  | 3, _ => rw [c3]; exact fun z => (nomatch z)
  | 4, _ => rw [c4]; exact fun z => (nomatch z)
  | 5, _ => rw [c5]; exact fun z => (nomatch z)
  | 6, _ => rw [c6]; exact fun z => (nomatch z)
  | 7, _ => rw [c7]; exact fun z => (nomatch z)
  | 8, _ => rw [c8]; exact fun z => (nomatch z)
  | 9, _ => rw [c9]; exact fun z => (nomatch z)
  | 10, _ => rw [c10]; exact fun z => (nomatch z)
  | 11, _ => rw [c11]; exact fun z => (nomatch z)
  | j + 12, h9 => exact absurd h9 (by omega)
theorem after_rf (h : bench G w S T ad Cn) : after G w ad Cn w S := ⟨ad, Cn, T, rfl, grow_rf _ _ _, h⟩
theorem after_up {Cn' : Nat → Nat → Option va_E} (h : bench G w S T ad Cn) (hu : upto ad Cn w w1 Cn') (hr : rep G S T ad Cn') : after G w ad Cn w1 S := ⟨ad, Cn', T, rfl, grow_up hu, hu.1, hr, h.2.2⟩
/-- the model's cells, behind a call of the class -/
theorem lw_m1 (hA : after G w ad Cn wA S') (hs : sepL ad Cn md o od) (H : modW G w md S th tp bt Fm L) : modW G wA md S th tp bt Fm L := by
  obtain ⟨ad2, C2, T2, z0, z1, z2⟩ := hA
  exact modW_c H (fun j hj => z1.1 _ (modW_live H j hj) (fun k i hk q => (hs.1 k i hk).1 j hj q))
theorem lw_m2 (hs : sepL ad Cn md o od) (H : modW G w md S th tp bt Fm L) {a : Nat} (ha : a = o ∨ a = od) {e : va_E} (hw : w1 = g_up w a e) : modW G w1 md S th tp bt Fm L := by
  refine modW_c H (fun j hj => ?_)
  rw [hw]
  refine g_up_n _ ?_
  rcases ha with rfl | rfl
  · exact (hs.2 j hj).1
  · exact (hs.2 j hj).2
/-- a new step, behind a call of the class that may have written the row a, and a call of the model -/
theorem lw_step (hB : bench G w S T ad Cn) (hs : sepL ad Cn md o od) (Hj : modI md) (HM : modW G w md S th tp bt Fm L) (ho : w o = some (.inl (G.2.1 1, 1, .inr (.inl fo)))) (hd : w od = some (.inl (G.2.1 5, 1, .inr (.inr (.inr (.inl fd))))))
    (hA : after G w ad Cn wA S') (h1 : ∀ a, wA a ≠ none → a ≠ o → a ≠ od → w1 a = wA a) (g1 : w1 o = some (.inl (G.2.1 1, 1, .inr (.inl f1)))) (g2 : w1 od = some (.inl (G.2.1 5, 1, .inr (.inr (.inr (.inl f2)))))) (hM : mAft G md w1 w2 S' c) : lwJ G w2 (ad 0 0) (md 0) o od S' := by
  obtain ⟨ad2, C2, T2, z0, z1, z2⟩ := hA
  obtain ⟨m1, tp2, bt2, F2, L2, m2, m3⟩ := hM
  have hs2 : sepL ad2 C2 md o od := by
    refine ⟨fun k i hk => ?_, hs.2⟩
    rcases z1.2.1 k i hk with ⟨k0, i0, y1, y2⟩ | y
    · rw [← y2]; exact hs.1 k0 i0 y1
    · refine ⟨fun j hj q => modW_live HM j hj (by rw [← q]; exact y), fun q => ?_, fun q => ?_⟩
      · rw [q, ho] at y; cases y
      · rw [q, hd] at y; cases y
  have e2 : ∀ k i, C2 k i ≠ none → w2 (ad2 k i) = wA (ad2 k i) := by
    intro k i hk
    have q := hs2.1 k i hk
    have q1 := h1 (ad2 k i) (bench_live z2 hk) q.2.1 q.2.2
    rw [m1.1 (ad2 k i) (by rw [q1]; exact bench_live z2 hk) (fun j hj y => q.1 j hj y.symm), q1]
  exact ⟨ad2, C2, tT S' T2, md, nI c, tp2, bt2, F2, L2, f1, f2, z0, rfl, bench_T (bench_c z2 e2), fun f hf => tT_lo hf, Hj, m2, m3,
    by rw [m1.1 o (by rw [g1]; exact fun z => (nomatch z)) (fun j hj => (hs.2 j hj).1)]; exact g1,
    by rw [m1.1 od (by rw [g2]; exact fun z => (nomatch z)) (fun j hj => (hs.2 j hj).2)]; exact g2, hs2⟩
/-- the rows out, behind a call of the class -/
theorem lw_o (hA : after G w ad Cn wA S') (hs : sepL ad Cn md o od) {e : va_E} {a : Nat} (ha : a = o ∨ a = od) (h : w a = some e) : wA a = some e := by
  obtain ⟨ad2, C2, T2, z0, z1, z2⟩ := hA
  rw [z1.1 a (by rw [h]; exact fun z => (nomatch z)) (fun k i hk q => ?_)]
  · exact h
  · rcases ha with rfl | rfl
    · exact (hs.1 k i hk).2.1 q
    · exact (hs.1 k i hk).2.2 q
end LW
section T3
variable {S T : Sg}
theorem t3_isTold (h : ∀ f, f < 3 → T f = told S f) (p : Int32) : vlIsTold T p = vlIsTold (told S) p := by unfold vlIsTold; rw [h 2 (by decide)]
theorem t3_cdSpeed (h : ∀ f, f < 3 → T f = told S f) (p : Int32) : cdSpeed S T p = cdSpeed S (told S) p := by unfold cdSpeed; rw [h 2 (by decide)]
theorem t3_speed (h : ∀ f, f < 3 → T f = told S f) (p : Int32) (b : Bool) : vlSpeed T p b = vlSpeed (told S) p b := by unfold vlSpeed; rw [h 0 (by decide), h 1 (by decide)]
theorem t3_stage (h : ∀ f, f < 3 → T f = told S f) (p : Int32) : vlStage T p = vlStage (told S) p := by unfold vlStage; rw [h 2 (by decide)]
theorem t3_cdRatio (h : ∀ f, f < 3 → T f = told S f) (p q : Int32) : cdRatio S T p q = cdRatio S (told S) p q := by unfold cdRatio; rw [h 0 (by decide), h 2 (by decide)]
theorem t3_ratio (h : ∀ f, f < 3 → T f = told S f) (p q : Int32) : vlRatio T p q = vlRatio (told S) p q := by unfold vlRatio spD; rw [h 0 (by decide), h 1 (by decide)]
theorem t3_brk (h : ∀ f, f < 3 → T f = told S f) (b m : Nat) : brkB S T b m = brkB S (told S) b m := by
  have e1 : tNu S T b m = tNu S (told S) b m := by funext k; unfold tNu; rw [h 0 (by decide)]
  have e2 : tDe S T b m = tDe S (told S) b m := by funext k; unfold tDe; rw [h 1 (by decide)]
  unfold brkB tX tY
  rw [e1, e2, h 2 (by decide)]
theorem t3_broken (h : ∀ f, f < 3 → T f = told S f) (b : Bool) : vlBroken S T b = vlBroken S (told S) b := by
  unfold vlBroken
  rw [show brkB S T 1 = brkB S (told S) 1 from funext (t3_brk h 1), show brkB S T 0 = brkB S (told S) 0 from funext (t3_brk h 0)]
theorem t3_free (h : ∀ f, f < 3 → T f = told S f) : vlFree S T = vlFree S (told S) := by unfold vlFree; rw [h 2 (by decide)]
theorem t3_cdTorque (h : ∀ f, f < 3 → T f = told S f) (p q : Int32) : cdTorque S T p q = cdTorque S (told S) p q := by unfold cdTorque; rw [h 0 (by decide), h 2 (by decide)]
theorem t3_torque (h : ∀ f, f < 3 → T f = told S f) (p q : Int32) : vlTorque S T p q = vlTorque S (told S) p q := by unfold vlTorque; rw [h 0 (by decide), h 1 (by decide), h 2 (by decide)]
theorem t3_dg (h : ∀ f, f < 3 → T f = told S f) (k : Nat) : dgL S T k = dgL S (told S) k := by
  induction k with
  | zero => rfl
  | succ k ih =>
    show mxS S T k (dgL S T k) = mxS S (told S) k (dgL S (told S) k)
    rw [ih]
    unfold mxS
    rw [h 0 (by decide), h 1 (by decide), h 2 (by decide)]
theorem t3_digest (h : ∀ f, f < 3 → T f = told S f) : vlDigest S T = vlDigest S (told S) := by unfold vlDigest; rw [t3_dg h, t3_broken h, t3_broken h]
end T3
