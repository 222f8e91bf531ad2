/-! the reference after a call -/
def mFr (md : Nat → Nat) (w w' : g_W) : Prop := (∀ a, w a ≠ none → (∀ i, i < 12 → md i ≠ a) → w' a = w a) ∧ ∀ a, w a ≠ none → w' a ≠ none
theorem mFr_rf (md : Nat → Nat) (w : g_W) : mFr md w w := ⟨fun _ _ _ => rfl, fun _ h => h⟩
theorem mFr_tr {md : Nat → Nat} {w w1 w2 : g_W} (h1 : mFr md w w1) (h2 : mFr md w1 w2) : mFr md w w2 :=
  ⟨fun a ha ho => by rw [h2.1 a (by rw [h1.1 a ha ho]; exact ha) ho, h1.1 a ha ho], fun a ha => h2.2 a (h1.2 a ha)⟩
theorem mFr_set {md : Nat → Nat} {w : g_W} {i : Nat} (hi : i < 12) (e : va_E) : mFr md w (g_up w (md i) e) := by
  refine ⟨fun a _ ho => g_up_n _ (fun q => ho i hi q.symm), fun a ha => ?_⟩
  by_cases z : a = md i
  · rw [z, g_up_s]; exact fun q => (nomatch q)
  · rw [g_up_n _ z]; exact ha
theorem mFr_new {md : Nat → Nat} {w : g_W} {q : Nat} (hq : w q = none) (e : va_E) : mFr md w (g_up w q e) := by
  refine ⟨fun a ha _ => g_up_n _ (fun z => ha (by rw [z]; exact hq)), fun a ha => ?_⟩
  by_cases z : a = q
  · rw [z, g_up_s]; exact fun y => (nomatch y)
  · rw [g_up_n _ z]; exact ha
def mAft (G : g_C) (md : Nat → Nat) (w w' : g_W) (S : Sg) (c : Nat) : Prop := mFr md w w' ∧ ∃ (tp bt : Int64) (Fm : Nat → Nat → Int32) (L : Nat → Nat → Int64), modW G w' md S (nI c) tp bt Fm L ∧ modF S Fm
def mRes (G : g_C) (md : Nat → Nat) (w w' : g_W) (S S' : Sg) (cd : Nat) (ok : Prop) : Prop := (cd ≠ 0 ∧ mAft G md w w' S cd) ∨ (cd = 0 ∧ ok ∧ mAft G md w w' S' 0)
def up1 {α : Type} (f : Nat → α) (i : Nat) (v : α) : Nat → α := fun j => if j = i then v else f j
theorem mRes_no {G : g_C} {md : Nat → Nat} {w w' : g_W} {S S' : Sg} {cd c : Nat} {ok : Prop} (h : cd = c) (hc : c ≠ 0) (ha : mAft G md w w' S c) : mRes G md w w' S S' cd ok := by
  subst h
  exact Or.inl ⟨hc, ha⟩
theorem mFr_se {md : Nat → Nat} {w w1 : g_W} {i : Nat} {e : va_E} (hi : i < 12) (h : w1 = g_up w (md i) e) : mFr md w w1 := by rw [h]; exact mFr_set hi e
theorem mFr_ne {md : Nat → Nat} {w w1 : g_W} {q : Nat} {e : va_E} (hq : w q = none) (h : w1 = g_up w q e) : mFr md w w1 := by rw [h]; exact mFr_new hq e
section MF
variable {S : Sg} {Fm : Nat → Nat → Int32} {x y p : Int32}
theorem iL_cl {z : Int} (h0 : 0 ≤ z) (h : z < 2147483648) : (iL z).toNatClampNeg = z.toNat := by rw [iL_nn h0]; exact nI_clamp (by omega)
theorem vp_iL {z : Int} {N : Nat} (h0 : 0 ≤ z) (h : z < N) (hN : N < 2147483648) : vp_in (iL z) N := by rw [iL_nn h0]; exact vp_in_nI (by omega) hN
theorem upd_sx {f : Nat → Int32} {k : Nat} {v : Int32} : upd f k v k = v := by simp [upd]
theorem upd_nx {f : Nat → Int32} {k j : Nat} {v : Int32} (h : j ≠ k) : upd f k v j = f j := by simp [upd, h]
theorem modF_addShaft (Hf : modF S Fm) (Hi : invS S) : modF (nxAddShaft S x y) (up1 (up1 Fm 1 (upd (Fm 1) (iL (S 0 0)).toNatClampNeg x)) 2 (upd (Fm 2) (iL (S 0 0)).toNatClampNeg y)) := by
  have hi := Hi.1
  rw [iL_cl hi.1 (by omega)]
  have e0 : nxAddShaft S x y 0 0 = S 0 0 + 1 := by unfold nxAddShaft; rw [up2_k _ _ _ (by decide), up2_k _ _ _ (by decide), up2_k _ _ _ (by decide), up2_s]
  have e0' : ∀ i, i ≠ 0 → nxAddShaft S x y 0 i = S 0 i := fun i z => by unfold nxAddShaft; rw [up2_k _ _ _ (by decide), up2_k _ _ _ (by decide), up2_k _ _ _ (by decide), up2_i _ _ _ z]
  have e1 : nxAddShaft S x y 1 (S 0 0).toNat = x.toInt := by unfold nxAddShaft; rw [up2_k _ _ _ (by decide), up2_k _ _ _ (by decide), up2_s]
  have e2 : nxAddShaft S x y 2 (S 0 0).toNat = y.toInt := by unfold nxAddShaft; rw [up2_k _ _ _ (by decide), up2_s]
  have e3 : nxAddShaft S x y 3 (S 0 0).toNat = 0 := by unfold nxAddShaft; rw [up2_s]
  have ei : ∀ f k : Nat, f ≠ 0 → k ≠ (S 0 0).toNat → nxAddShaft S x y f k = S f k := fun f k z z1 => by unfold nxAddShaft; rw [up2_i _ _ _ z1, up2_i _ _ _ z1, up2_i _ _ _ z1, up2_k _ _ _ z]
  have eo : ∀ f k : Nat, 4 ≤ f → nxAddShaft S x y f k = S f k := fun f k z => by unfold nxAddShaft; rw [up2_k _ _ _ (by omega), up2_k _ _ _ (by omega), up2_k _ _ _ (by omega), up2_k _ _ _ (by omega)]
  refine ⟨fun k hk => ?_, fun k hk => ?_, fun k hk => ?_, fun k hk => ?_, fun k hk => ?_⟩
  · rw [e0] at hk
    show upd (Fm 1) (S 0 0).toNat x k = _ ∧ upd (Fm 2) (S 0 0).toNat y k = _ ∧ Fm 3 k = _
    by_cases z : k = (S 0 0).toNat
    · rw [z, upd_sx, upd_sx, e1, e2, e3, iL_x, iL_x]
      exact ⟨rfl, rfl, Hf.2.2.2.2 _ (by omega)⟩
    · rw [upd_nx z, upd_nx z, ei 1 k (by decide) z, ei 2 k (by decide) z, ei 3 k (by decide) z]
      exact Hf.1 k (by omega)
  · rw [e0' 1 (by decide)] at hk
    rw [eo 4 k (by decide), eo 5 k (by decide), eo 6 k (by decide), eo 7 k (by decide), eo 8 k (by decide)]
    exact Hf.2.1 k hk
  · rw [e0' 2 (by decide)] at hk
    rw [eo 9 k (by decide), eo 10 k (by decide)]
    exact Hf.2.2.1 k hk
  · rw [e0' 3 (by decide)] at hk
    rw [eo 11 k (by decide), eo 12 k (by decide), eo 13 k (by decide), eo 14 k (by decide), eo 15 k (by decide)]
    exact Hf.2.2.2.1 k hk
  · rw [e0] at hk
    exact Hf.2.2.2.2 k (by omega)
theorem modF_move (Hf : modF S Fm) (hp : shQ S 0 p) (hi : S 0 0 ≤ 10) : modF (nxMove S p x y) (up1 (up1 Fm 1 (upd (Fm 1) p.toNatClampNeg x)) 2 (upd (Fm 2) p.toNatClampNeg y)) := by
  have ep : p.toNatClampNeg = kN p := by
    have := iL_cl hp.1 (by omega)
    rw [iL_x] at this
    exact this
  rw [ep]
  have e1 : nxMove S p x y 1 (kN p) = x.toInt := by unfold nxMove; rw [up2_k _ _ _ (by decide), up2_s]
  have e2 : nxMove S p x y 2 (kN p) = y.toInt := by unfold nxMove; rw [up2_s]
  have eo : ∀ f k : Nat, ¬ (f = 1 ∧ k = kN p) → ¬ (f = 2 ∧ k = kN p) → nxMove S p x y f k = S f k := by intro f k z1 z2; simp [nxMove, up2, z1, z2]
  have e0 : ∀ i, nxMove S p x y 0 i = S 0 i := fun i => eo 0 i (by omega) (by omega)
  have e3 : ∀ f k : Nat, 3 ≤ f → nxMove S p x y f k = S f k := fun f k h => eo f k (by omega) (by omega)
  refine ⟨fun k hk => ?_, fun k hk => ?_, fun k hk => ?_, fun k hk => ?_, fun k hk => ?_⟩
  · rw [e0] at hk
    show upd (Fm 1) (kN p) x k = _ ∧ upd (Fm 2) (kN p) y k = _ ∧ Fm 3 k = _
    rw [e3 3 k (by decide)]
    by_cases z : k = kN p
    · rw [z] at hk ⊢
      rw [upd_sx, upd_sx, e1, e2, iL_x, iL_x]
      exact ⟨rfl, rfl, (Hf.1 _ hk).2.2⟩
    · rw [upd_nx z, upd_nx z, eo 1 k (fun q => z q.2) (fun q => z q.2), eo 2 k (fun q => z q.2) (fun q => z q.2)]
      exact Hf.1 k hk
  · rw [e0] at hk
    rw [e3 4 k (by decide), e3 5 k (by decide), e3 6 k (by decide), e3 7 k (by decide), e3 8 k (by decide)]
    exact Hf.2.1 k hk
  · rw [e0] at hk
    rw [e3 9 k (by decide), e3 10 k (by decide)]
    exact Hf.2.2.1 k hk
  · rw [e0] at hk
    rw [e3 11 k (by decide), e3 12 k (by decide), e3 13 k (by decide), e3 14 k (by decide), e3 15 k (by decide)]
    exact Hf.2.2.2.1 k hk
  · rw [e0] at hk
    exact Hf.2.2.2.2 k hk
theorem mC_of {S' : Sg} {th : Int32} {tp bt : Int64} {md : Nat → Nat} {v0 v1 v2 v3 v4 v5 : Int32} (h0 : iL (S' 0 0) = v0) (h1 : iL (S' 0 1) = v1) (h2 : iL (S' 0 2) = v2) (h3 : iL (S' 0 3) = v3) (h4 : iL (S' 0 4) = v4) (h5 : iL (S' 0 5) = v5) :
    mC S' th tp bt md = [.int th, .int v0, .ref (md 1), .ref (md 2), .ref (md 3), .int v4, .int v5, .int v1, .ref (md 4), .ref (md 5), .int v2, .ref (md 6), .ref (md 7), .int v3, .ref (md 8), .ref (md 9), .ref (md 10), .ref (md 11), .long tp, .long bt] := by
  unfold mC
  rw [h0, h1, h2, h3, h4, h5]
end MF
theorem sq32 (u v : Int32) : (u - v) * (u - v) = (v - u) * (v - u) := by
  have h : ∀ a b : Int, (iL a - iL b) * (iL a - iL b) = (iL b - iL a) * (iL b - iL a) := fun a b => by rw [iL_sub, iL_sub, iL_mul, iL_mul, ← Int.neg_mul_neg (a - b), show -(a - b) = b - a from by omega]
  have h2 := h u.toInt v.toInt
  rw [iL_x, iL_x] at h2
  exact h2
section MF2
variable {S : Sg} {Fm : Nat → Nat → Int32} {v p : Int32}
theorem p_cl (hp : shQ S 0 p) (hi : S 0 0 ≤ 10) : p.toNatClampNeg = kN p := by
  have := iL_cl hp.1 (by omega)
  rw [iL_x] at this
  exact this
theorem modF_held (Hf : modF S Fm) (hp : shQ S 0 p) (hi : S 0 0 ≤ 10) {S' : Sg} {u : Int32} (hS : ∀ f k, f ≠ 0 → ¬ (f = 3 ∧ k = kN p) → S' f k = S f k) (hS0 : ∀ i, i < 4 → S' 0 i = S 0 i) (h3 : iL (S' 3 (kN p)) = u) : modF S' (up1 Fm 3 (upd (Fm 3) p.toNatClampNeg u)) := by
  rw [p_cl hp hi]
  have hk := kN_lt hp
  refine ⟨fun k hk => ?_, fun k hk => ?_, fun k hk => ?_, fun k hk => ?_, fun k hk => ?_⟩
  · rw [hS0 0 (by decide)] at hk
    show Fm 1 k = _ ∧ Fm 2 k = _ ∧ upd (Fm 3) (kN p) u k = _
    rw [hS 1 k (by decide) (by omega), hS 2 k (by decide) (by omega)]
    by_cases z : k = kN p
    · rw [z] at hk ⊢
      rw [upd_sx, h3]
      exact ⟨(Hf.1 _ hk).1, (Hf.1 _ hk).2.1, rfl⟩
    · rw [upd_nx z, hS 3 k (by decide) (fun q => z q.2)]
      exact Hf.1 k hk
  · rw [hS0 1 (by decide)] at hk
    rw [hS 4 k (by decide) (by omega), hS 5 k (by decide) (by omega), hS 6 k (by decide) (by omega), hS 7 k (by decide) (by omega), hS 8 k (by decide) (by omega)]
    exact Hf.2.1 k hk
  · rw [hS0 2 (by decide)] at hk
    rw [hS 9 k (by decide) (by omega), hS 10 k (by decide) (by omega)]
    exact Hf.2.2.1 k hk
  · rw [hS0 3 (by decide)] at hk
    rw [hS 11 k (by decide) (by omega), hS 12 k (by decide) (by omega), hS 13 k (by decide) (by omega), hS 14 k (by decide) (by omega), hS 15 k (by decide) (by omega)]
    exact Hf.2.2.2.1 k hk
  · rw [hS0 0 (by decide)] at hk
    show upd (Fm 3) (kN p) u k = 0
    rw [upd_nx (by omega)]
    exact Hf.2.2.2.2 k hk
theorem modF_drive (Hf : modF S Fm) (hp : shQ S 0 p) (hi : S 0 0 ≤ 10) : modF (nxDrive S p v) (up1 Fm 3 (upd (Fm 3) p.toNatClampNeg 0)) := by
  refine modF_held Hf hp hi (fun f k z1 z2 => ?_) (fun i h => ?_) ?_
  · unfold nxDrive
    rw [show ∀ A : Sg, up2 A 3 (kN p) 0 f k = A f k from fun A => if_neg z2, up2_k _ _ _ z1, up2_k _ _ _ z1]
  · unfold nxDrive
    rw [up2_k _ _ _ (by decide), up2_i _ _ _ (by omega), up2_i _ _ _ (by omega)]
  · unfold nxDrive
    rw [up2_s]; rfl
theorem modF_hold (Hf : modF S Fm) (hp : shQ S 0 p) (hi : S 0 0 ≤ 10) {b : Bool} : modF (nxHold S p b) (up1 Fm 3 (upd (Fm 3) p.toNatClampNeg (g_b b))) := by
  refine modF_held Hf hp hi (fun f k z1 z2 => if_neg z2) (fun i h => up2_k _ _ _ (by decide)) ?_
  unfold nxHold
  rw [up2_s]
  cases b <;> rfl
end MF2
theorem modF_addGear {S : Sg} {Fm : Nat → Nat → Int32} {p te mo la : Int32} {ri : Bool} {f4 f5 : Nat → Int32} (Hf : modF S Fm) (Hi : invS S) (h4 : ∀ j, f4 j = if j = 4 * (S 0 1).toNat + 3 then la else if j = 4 * (S 0 1).toNat + 2 then mo else if j = 4 * (S 0 1).toNat + 1 then te else if j = 4 * (S 0 1).toNat then p else Fm 4 j) (h5 : ∀ j, f5 j = if j = (S 0 1).toNat then g_b ri else Fm 5 j) : modF (nxAddGear S p te mo la ri) (up1 (up1 Fm 4 f4) 5 f5) := by
  have hi := Hi.1
  have e0 : nxAddGear S p te mo la ri 0 1 = S 0 1 + 1 := by unfold nxAddGear; rw [up2_k _ _ _ (by decide), up2_k _ _ _ (by decide), up2_k _ _ _ (by decide), up2_k _ _ _ (by decide), up2_k _ _ _ (by decide), up2_s]
  have e0' : ∀ i, i ≠ 1 → nxAddGear S p te mo la ri 0 i = S 0 i := fun i z => by unfold nxAddGear; rw [up2_k _ _ _ (by decide), up2_k _ _ _ (by decide), up2_k _ _ _ (by decide), up2_k _ _ _ (by decide), up2_k _ _ _ (by decide), up2_i _ _ _ z]
  have e4 : nxAddGear S p te mo la ri 4 (S 0 1).toNat = p.toInt := by unfold nxAddGear; rw [up2_k _ _ _ (by decide), up2_k _ _ _ (by decide), up2_k _ _ _ (by decide), up2_k _ _ _ (by decide), up2_s]
  have e5 : nxAddGear S p te mo la ri 5 (S 0 1).toNat = te.toInt := by unfold nxAddGear; rw [up2_k _ _ _ (by decide), up2_k _ _ _ (by decide), up2_k _ _ _ (by decide), up2_s]
  have e6 : nxAddGear S p te mo la ri 6 (S 0 1).toNat = mo.toInt := by unfold nxAddGear; rw [up2_k _ _ _ (by decide), up2_k _ _ _ (by decide), up2_s]
  have e7 : nxAddGear S p te mo la ri 7 (S 0 1).toNat = la.toInt := by unfold nxAddGear; rw [up2_k _ _ _ (by decide), up2_s]
  have e8 : nxAddGear S p te mo la ri 8 (S 0 1).toNat = (if ri then 1 else 0) := by unfold nxAddGear; rw [up2_s]
  have ei : ∀ f k : Nat, f ≠ 0 → k ≠ (S 0 1).toNat → nxAddGear S p te mo la ri f k = S f k := fun f k z z1 => by unfold nxAddGear; rw [up2_i _ _ _ z1, up2_i _ _ _ z1, up2_i _ _ _ z1, up2_i _ _ _ z1, up2_i _ _ _ z1, up2_k _ _ _ z]
  have eo : ∀ f k : Nat, f ≠ 0 → (f < 4 ∨ 8 < f) → nxAddGear S p te mo la ri f k = S f k := fun f k z z1 => by unfold nxAddGear; rw [up2_k _ _ _ (by omega), up2_k _ _ _ (by omega), up2_k _ _ _ (by omega), up2_k _ _ _ (by omega), up2_k _ _ _ (by omega), up2_k _ _ _ z]
  refine ⟨fun k hk => ?_, fun k hk => ?_, fun k hk => ?_, fun k hk => ?_, fun k hk => ?_⟩
  · rw [e0' 0 (by decide)] at hk
    rw [eo 1 k (by decide) (by decide), eo 2 k (by decide) (by decide), eo 3 k (by decide) (by decide)]
    exact Hf.1 k hk
  · rw [e0] at hk
    show f4 (4 * k) = _ ∧ f4 (4 * k + 1) = _ ∧ f4 (4 * k + 2) = _ ∧ f4 (4 * k + 3) = _ ∧ f5 k = _
    by_cases z : k = (S 0 1).toNat
    · rw [z, e4, e5, e6, e7, e8, h4, h4, h4, h4, h5, iL_x, iL_x, iL_x, iL_x]
      refine ⟨?_, ?_, ?_, ?_, ?_⟩
      · rw [if_neg (by omega), if_neg (by omega), if_neg (by omega), if_pos rfl]
      · rw [if_neg (by omega), if_neg (by omega), if_pos rfl]
      · rw [if_neg (by omega), if_pos rfl]
      · rw [if_pos rfl]
      · rw [if_pos rfl]; cases ri <;> rfl
    · rw [ei 4 k (by decide) z, ei 5 k (by decide) z, ei 6 k (by decide) z, ei 7 k (by decide) z, ei 8 k (by decide) z, h4, h4, h4, h4, h5]
      rw [if_neg (by omega), if_neg (by omega), if_neg (by omega), if_neg (by omega), if_neg (by omega), if_neg (by omega), if_neg (by omega), if_neg (by omega), if_neg (by omega), if_neg (by omega), if_neg (by omega), if_neg (by omega), if_neg (by omega), if_neg (by omega), if_neg (by omega), if_neg (by omega), if_neg z]
      exact Hf.2.1 k (by omega)
  · rw [e0' 2 (by decide)] at hk
    rw [eo 9 k (by decide) (by decide), eo 10 k (by decide) (by decide)]
    exact Hf.2.2.1 k hk
  · rw [e0' 3 (by decide)] at hk
    rw [eo 11 k (by decide) (by decide), eo 12 k (by decide) (by decide), eo 13 k (by decide) (by decide), eo 14 k (by decide) (by decide), eo 15 k (by decide) (by decide)]
    exact Hf.2.2.2.1 k hk
  · rw [e0' 0 (by decide)] at hk
    exact Hf.2.2.2.2 k hk
