/-! mesh and addPlanets: five new cells, and one element more -/
def canM (S : Sg) (a b : Nat) : Prop := (S 4 a ≠ S 4 b ∧ S 7 a = S 7 b ∧ S 6 a = S 6 b ∧ ((S 8 a = 1 ∧ S 8 b = 0 ∧ S 5 b < S 5 a) ∨ (S 8 a = 0 ∧ (S 8 b = 0 ∨ S 5 a < S 5 b)))) ∧ ¬ meshedP S a b
noncomputable def cdMesh (S : Sg) (a b : Int32) : Nat := if shQ S 1 a ∧ shQ S 1 b then (@ite _ (canM S (kN a) (kN b)) (Classical.propDecidable _) (if S 0 2 < 16 then 0 else 3) 2) else 1
def vlMesh (S : Sg) : Int32 := iL (S 0 2)
def nxMesh (S : Sg) (a b : Int32) : Sg := up2 (up2 (up2 S 0 2 (S 0 2 + 1)) 9 (S 0 2).toNat a.toInt) 10 (S 0 2).toNat b.toInt
abbrev paQ (su ri ca s p : Int32) : Prop := (su ≠ ri ∧ su ≠ ca ∧ ri ≠ ca) ∧ inQ s 8 100 ∧ inQ p 8 100
def cdAddPl (S : Sg) (su ri ca s p : Int32) : Nat := if shQ S 0 su ∧ shQ S 0 ri ∧ shQ S 0 ca then (if paQ su ri ca s p then (if S 0 3 < 4 then 0 else 3) else 2) else 1
def vlAddPl (S : Sg) : Int32 := iL (S 0 3)
def nxAddPl (S : Sg) (su ri ca s p : Int32) : Sg := up2 (up2 (up2 (up2 (up2 (up2 S 0 3 (S 0 3 + 1)) 11 (S 0 3).toNat su.toInt) 12 (S 0 3).toNat ri.toInt) 13 (S 0 3).toNat ca.toInt) 14 (S 0 3).toNat s.toInt) 15 (S 0 3).toNat (s.toInt + 2 * p.toInt)
section MSH
variable {G : g_C} {S S' T T' : Sg} {w w' w1 w2 : g_W} {ad ad2 : Nat → Nat → Nat} {Cn C2 : Nat → Nat → Option va_E}
theorem g_nn {w : g_W} {a b : Nat} {e : va_E} (h : w a = none) (hn : a ≠ b) : g_up w b e a = none := by rw [g_up_n _ hn]; exact h
theorem six_new (Hh : holds w ad Cn) (Hr : rep G S T ad Cn) (Hi : invS S) {b n : Nat} (hout : ∀ k i, relN S k i → ¬ ((k = b ∨ k = b + 1 ∨ k = b + 2 ∨ k = b + 4 ∨ k = b + 10 ∨ k = b + 11) ∧ i = n)) {e0 e1 e2 e3 e4 e5 e6 : va_E} {q q1 q2 q3 q4 q5 : Nat} (hq : w q = none) (hw1 : w1 = g_up w q e0)
    (h1 : w1 q1 = none) (h2 : w1 q2 = none) (h3 : w1 q3 = none) (h4 : w1 q4 = none) (h5 : w1 q5 = none) (d1_2 : q1 ≠ q2) (d1_3 : q1 ≠ q3) (d1_4 : q1 ≠ q4) (d1_5 : q1 ≠ q5) (d2_3 : q2 ≠ q3) (d2_4 : q2 ≠ q4) (d2_5 : q2 ≠ q5) (d3_4 : q3 ≠ q4) (d3_5 : q3 ≠ q5) (d4_5 : q4 ≠ q5) (hw2 : w2 = g_up (g_up (g_up (g_up (g_up (g_up w1 q1 e1) q2 e2) q3 e3) q4 e4) q5 e5) q e6) :
    ∃ (ad2 : Nat → Nat → Nat) (C2 : Nat → Nat → Option va_E), grow w ad Cn w2 ad2 C2 ∧ holds w2 ad2 C2 ∧ rep G S T ad2 C2 ∧ (∀ k i, ¬ ((k = b ∨ k = b + 1 ∨ k = b + 2 ∨ k = b + 4 ∨ k = b + 10 ∨ k = b + 11) ∧ i = n) → ad2 k i = ad k i) ∧ (ad2 b n = q ∧ ad2 (b + 1) n = q1 ∧ ad2 (b + 2) n = q2 ∧ ad2 (b + 4) n = q3 ∧ ad2 (b + 10) n = q4 ∧ ad2 (b + 11) n = q5) ∧ C2 b n = some e6 ∧ C2 (b + 1) n = some e1 ∧ C2 (b + 2) n = some e2 ∧ C2 (b + 4) n = some e3 ∧ C2 (b + 10) n = some e4 ∧ C2 (b + 11) n = some e5 := by
  have a0 := holds_new Hh b n e0 hq
  have g0 := grow_new (ad := ad) (Cn := Cn) b n e0 hq
  rw [← hw1] at a0 g0
  have n1 : w1 q1 = none := h1
  have a1 := holds_new a0 (b + 1) n e1 n1
  have g1 := grow_new (ad := up2 ad b n q) (Cn := up2 Cn b n (some e0)) (b + 1) n e1 n1
  have n2 : (g_up w1 q1 e1) q2 = none := (g_nn h2 d1_2.symm)
  have a2 := holds_new a1 (b + 2) n e2 n2
  have g2 := grow_new (ad := up2 (up2 ad b n q) (b + 1) n q1) (Cn := up2 (up2 Cn b n (some e0)) (b + 1) n (some e1)) (b + 2) n e2 n2
  have n3 : (g_up (g_up w1 q1 e1) q2 e2) q3 = none := (g_nn (g_nn h3 d1_3.symm) d2_3.symm)
  have a3 := holds_new a2 (b + 4) n e3 n3
  have g3 := grow_new (ad := up2 (up2 (up2 ad b n q) (b + 1) n q1) (b + 2) n q2) (Cn := up2 (up2 (up2 Cn b n (some e0)) (b + 1) n (some e1)) (b + 2) n (some e2)) (b + 4) n e3 n3
  have n4 : (g_up (g_up (g_up w1 q1 e1) q2 e2) q3 e3) q4 = none := (g_nn (g_nn (g_nn h4 d1_4.symm) d2_4.symm) d3_4.symm)
  have a4 := holds_new a3 (b + 10) n e4 n4
  have g4 := grow_new (ad := up2 (up2 (up2 (up2 ad b n q) (b + 1) n q1) (b + 2) n q2) (b + 4) n q3) (Cn := up2 (up2 (up2 (up2 Cn b n (some e0)) (b + 1) n (some e1)) (b + 2) n (some e2)) (b + 4) n (some e3)) (b + 10) n e4 n4
  have n5 : (g_up (g_up (g_up (g_up w1 q1 e1) q2 e2) q3 e3) q4 e4) q5 = none := (g_nn (g_nn (g_nn (g_nn h5 d1_5.symm) d2_5.symm) d3_5.symm) d4_5.symm)
  have a5 := holds_new a4 (b + 11) n e5 n5
  have g5 := grow_new (ad := up2 (up2 (up2 (up2 (up2 ad b n q) (b + 1) n q1) (b + 2) n q2) (b + 4) n q3) (b + 10) n q4) (Cn := up2 (up2 (up2 (up2 (up2 Cn b n (some e0)) (b + 1) n (some e1)) (b + 2) n (some e2)) (b + 4) n (some e3)) (b + 10) n (some e4)) (b + 11) n e5 n5
  have ea : (up2 (up2 (up2 (up2 (up2 (up2 ad b n q) (b + 1) n q1) (b + 2) n q2) (b + 4) n q3) (b + 10) n q4) (b + 11) n q5) b n = q := by rw [up2_k _ _ _ (by omega), up2_k _ _ _ (by omega), up2_k _ _ _ (by omega), up2_k _ _ _ (by omega), up2_k _ _ _ (by omega), up2_s]
  have ec : (up2 (up2 (up2 (up2 (up2 (up2 Cn b n (some e0)) (b + 1) n (some e1)) (b + 2) n (some e2)) (b + 4) n (some e3)) (b + 10) n (some e4)) (b + 11) n (some e5)) b n ≠ none := by rw [up2_k _ _ _ (by omega), up2_k _ _ _ (by omega), up2_k _ _ _ (by omega), up2_k _ _ _ (by omega), up2_k _ _ _ (by omega), up2_s]; exact fun z => (nomatch z)
  have a6 := holds_set a5 b n e6 ec
  have g6 := grow_set a5 b n e6 ec
  rw [ea, ← hw2] at a6 g6
  have hA : ∀ k i, ¬ ((k = b ∨ k = b + 1 ∨ k = b + 2 ∨ k = b + 4 ∨ k = b + 10 ∨ k = b + 11) ∧ i = n) → (up2 (up2 (up2 (up2 (up2 (up2 ad b n q) (b + 1) n q1) (b + 2) n q2) (b + 4) n q3) (b + 10) n q4) (b + 11) n q5) k i = ad k i := by
    intro k i z
    have z1 : ¬ (k = b ∧ i = n) ∧ ¬ (k = b + 1 ∧ i = n) ∧ ¬ (k = b + 2 ∧ i = n) ∧ ¬ (k = b + 4 ∧ i = n) ∧ ¬ (k = b + 10 ∧ i = n) ∧ ¬ (k = b + 11 ∧ i = n) := by omega
    simp only [up2, if_neg z1.1, if_neg z1.2.1, if_neg z1.2.2.1, if_neg z1.2.2.2.1, if_neg z1.2.2.2.2.1, if_neg z1.2.2.2.2.2]
  refine ⟨_, _, grow_tr g0 (grow_tr g1 (grow_tr g2 (grow_tr g3 (grow_tr g4 (grow_tr g5 g6))))), a6, ?_, hA, ⟨ea, ?_, ?_, ?_, ?_, ?_⟩, ?_, ?_, ?_, ?_, ?_, ?_⟩
  · refine rep_out Hi Hr (fun k i h => ⟨?_, hA k i (hout k i h)⟩)
    have z := hout k i h
    have z1 : ¬ (k = b ∧ i = n) ∧ ¬ (k = b + 1 ∧ i = n) ∧ ¬ (k = b + 2 ∧ i = n) ∧ ¬ (k = b + 4 ∧ i = n) ∧ ¬ (k = b + 10 ∧ i = n) ∧ ¬ (k = b + 11 ∧ i = n) := by omega
    simp only [up2, if_neg z1.1, if_neg z1.2.1, if_neg z1.2.2.1, if_neg z1.2.2.2.1, if_neg z1.2.2.2.2.1, if_neg z1.2.2.2.2.2]
  · rw [up2_k _ _ _ (by omega), up2_k _ _ _ (by omega), up2_k _ _ _ (by omega), up2_k _ _ _ (by omega), up2_s]
  · rw [up2_k _ _ _ (by omega), up2_k _ _ _ (by omega), up2_k _ _ _ (by omega), up2_s]
  · rw [up2_k _ _ _ (by omega), up2_k _ _ _ (by omega), up2_s]
  · rw [up2_k _ _ _ (by omega), up2_s]
  · rw [up2_s]
  · rw [up2_s]
  · rw [up2_k _ _ _ (by omega), up2_k _ _ _ (by omega), up2_k _ _ _ (by omega), up2_k _ _ _ (by omega), up2_k _ _ _ (by omega), up2_s]
  · rw [up2_k _ _ _ (by omega), up2_k _ _ _ (by omega), up2_k _ _ _ (by omega), up2_k _ _ _ (by omega), up2_s]
  · rw [up2_k _ _ _ (by omega), up2_k _ _ _ (by omega), up2_k _ _ _ (by omega), up2_s]
  · rw [up2_k _ _ _ (by omega), up2_k _ _ _ (by omega), up2_s]
  · rw [up2_k _ _ _ (by omega), up2_s]
theorem seven_new (Hh : holds w ad Cn) (Hr : rep G S T ad Cn) (Hi : invS S) {b n : Nat} (hout : ∀ k i, relN S k i → ¬ ((k = b ∨ k = b + 1 ∨ k = b + 2 ∨ k = b + 4 ∨ k = b + 10 ∨ k = b + 11 ∨ k = b + 12) ∧ i = n)) {e0 e1 e2 e3 e4 e5 e6 e7 : va_E} {q q1 q2 q3 q4 q5 q6 : Nat} (hq : w q = none) (hw1 : w1 = g_up w q e0)
    (h1 : w1 q1 = none) (h2 : w1 q2 = none) (h3 : w1 q3 = none) (h4 : w1 q4 = none) (h5 : w1 q5 = none) (h6 : w1 q6 = none) (d1_2 : q1 ≠ q2) (d1_3 : q1 ≠ q3) (d1_4 : q1 ≠ q4) (d1_5 : q1 ≠ q5) (d1_6 : q1 ≠ q6) (d2_3 : q2 ≠ q3) (d2_4 : q2 ≠ q4) (d2_5 : q2 ≠ q5) (d2_6 : q2 ≠ q6) (d3_4 : q3 ≠ q4) (d3_5 : q3 ≠ q5) (d3_6 : q3 ≠ q6) (d4_5 : q4 ≠ q5) (d4_6 : q4 ≠ q6) (d5_6 : q5 ≠ q6) (hw2 : w2 = g_up (g_up (g_up (g_up (g_up (g_up (g_up w1 q1 e1) q2 e2) q3 e3) q4 e4) q5 e5) q6 e6) q e7) :
    ∃ (ad2 : Nat → Nat → Nat) (C2 : Nat → Nat → Option va_E), grow w ad Cn w2 ad2 C2 ∧ holds w2 ad2 C2 ∧ rep G S T ad2 C2 ∧ (∀ k i, ¬ ((k = b ∨ k = b + 1 ∨ k = b + 2 ∨ k = b + 4 ∨ k = b + 10 ∨ k = b + 11 ∨ k = b + 12) ∧ i = n) → ad2 k i = ad k i) ∧ (ad2 b n = q ∧ ad2 (b + 1) n = q1 ∧ ad2 (b + 2) n = q2 ∧ ad2 (b + 4) n = q3 ∧ ad2 (b + 10) n = q4 ∧ ad2 (b + 11) n = q5 ∧ ad2 (b + 12) n = q6) ∧ C2 b n = some e7 ∧ C2 (b + 1) n = some e1 ∧ C2 (b + 2) n = some e2 ∧ C2 (b + 4) n = some e3 ∧ C2 (b + 10) n = some e4 ∧ C2 (b + 11) n = some e5 ∧ C2 (b + 12) n = some e6 := by
  have a0 := holds_new Hh b n e0 hq
  have g0 := grow_new (ad := ad) (Cn := Cn) b n e0 hq
  rw [← hw1] at a0 g0
  have n1 : w1 q1 = none := h1
  have a1 := holds_new a0 (b + 1) n e1 n1
  have g1 := grow_new (ad := up2 ad b n q) (Cn := up2 Cn b n (some e0)) (b + 1) n e1 n1
  have n2 : (g_up w1 q1 e1) q2 = none := (g_nn h2 d1_2.symm)
  have a2 := holds_new a1 (b + 2) n e2 n2
  have g2 := grow_new (ad := up2 (up2 ad b n q) (b + 1) n q1) (Cn := up2 (up2 Cn b n (some e0)) (b + 1) n (some e1)) (b + 2) n e2 n2
  have n3 : (g_up (g_up w1 q1 e1) q2 e2) q3 = none := (g_nn (g_nn h3 d1_3.symm) d2_3.symm)
  have a3 := holds_new a2 (b + 4) n e3 n3
  have g3 := grow_new (ad := up2 (up2 (up2 ad b n q) (b + 1) n q1) (b + 2) n q2) (Cn := up2 (up2 (up2 Cn b n (some e0)) (b + 1) n (some e1)) (b + 2) n (some e2)) (b + 4) n e3 n3
  have n4 : (g_up (g_up (g_up w1 q1 e1) q2 e2) q3 e3) q4 = none := (g_nn (g_nn (g_nn h4 d1_4.symm) d2_4.symm) d3_4.symm)
  have a4 := holds_new a3 (b + 10) n e4 n4
  have g4 := grow_new (ad := up2 (up2 (up2 (up2 ad b n q) (b + 1) n q1) (b + 2) n q2) (b + 4) n q3) (Cn := up2 (up2 (up2 (up2 Cn b n (some e0)) (b + 1) n (some e1)) (b + 2) n (some e2)) (b + 4) n (some e3)) (b + 10) n e4 n4
  have n5 : (g_up (g_up (g_up (g_up w1 q1 e1) q2 e2) q3 e3) q4 e4) q5 = none := (g_nn (g_nn (g_nn (g_nn h5 d1_5.symm) d2_5.symm) d3_5.symm) d4_5.symm)
  have a5 := holds_new a4 (b + 11) n e5 n5
  have g5 := grow_new (ad := up2 (up2 (up2 (up2 (up2 ad b n q) (b + 1) n q1) (b + 2) n q2) (b + 4) n q3) (b + 10) n q4) (Cn := up2 (up2 (up2 (up2 (up2 Cn b n (some e0)) (b + 1) n (some e1)) (b + 2) n (some e2)) (b + 4) n (some e3)) (b + 10) n (some e4)) (b + 11) n e5 n5
  have n6 : (g_up (g_up (g_up (g_up (g_up w1 q1 e1) q2 e2) q3 e3) q4 e4) q5 e5) q6 = none := (g_nn (g_nn (g_nn (g_nn (g_nn h6 d1_6.symm) d2_6.symm) d3_6.symm) d4_6.symm) d5_6.symm)
  have a6 := holds_new a5 (b + 12) n e6 n6
  have g6 := grow_new (ad := up2 (up2 (up2 (up2 (up2 (up2 ad b n q) (b + 1) n q1) (b + 2) n q2) (b + 4) n q3) (b + 10) n q4) (b + 11) n q5) (Cn := up2 (up2 (up2 (up2 (up2 (up2 Cn b n (some e0)) (b + 1) n (some e1)) (b + 2) n (some e2)) (b + 4) n (some e3)) (b + 10) n (some e4)) (b + 11) n (some e5)) (b + 12) n e6 n6
  have ea : (up2 (up2 (up2 (up2 (up2 (up2 (up2 ad b n q) (b + 1) n q1) (b + 2) n q2) (b + 4) n q3) (b + 10) n q4) (b + 11) n q5) (b + 12) n q6) b n = q := by rw [up2_k _ _ _ (by omega), up2_k _ _ _ (by omega), up2_k _ _ _ (by omega), up2_k _ _ _ (by omega), up2_k _ _ _ (by omega), up2_k _ _ _ (by omega), up2_s]
  have ec : (up2 (up2 (up2 (up2 (up2 (up2 (up2 Cn b n (some e0)) (b + 1) n (some e1)) (b + 2) n (some e2)) (b + 4) n (some e3)) (b + 10) n (some e4)) (b + 11) n (some e5)) (b + 12) n (some e6)) b n ≠ none := by rw [up2_k _ _ _ (by omega), up2_k _ _ _ (by omega), up2_k _ _ _ (by omega), up2_k _ _ _ (by omega), up2_k _ _ _ (by omega), up2_k _ _ _ (by omega), up2_s]; exact fun z => (nomatch z)
  have a7 := holds_set a6 b n e7 ec
  have g7 := grow_set a6 b n e7 ec
  rw [ea, ← hw2] at a7 g7
  have hA : ∀ k i, ¬ ((k = b ∨ k = b + 1 ∨ k = b + 2 ∨ k = b + 4 ∨ k = b + 10 ∨ k = b + 11 ∨ k = b + 12) ∧ i = n) → (up2 (up2 (up2 (up2 (up2 (up2 (up2 ad b n q) (b + 1) n q1) (b + 2) n q2) (b + 4) n q3) (b + 10) n q4) (b + 11) n q5) (b + 12) n q6) k i = ad k i := by
    intro k i z
    have z1 : ¬ (k = b ∧ i = n) ∧ ¬ (k = b + 1 ∧ i = n) ∧ ¬ (k = b + 2 ∧ i = n) ∧ ¬ (k = b + 4 ∧ i = n) ∧ ¬ (k = b + 10 ∧ i = n) ∧ ¬ (k = b + 11 ∧ i = n) ∧ ¬ (k = b + 12 ∧ i = n) := by omega
    simp only [up2, if_neg z1.1, if_neg z1.2.1, if_neg z1.2.2.1, if_neg z1.2.2.2.1, if_neg z1.2.2.2.2.1, if_neg z1.2.2.2.2.2.1, if_neg z1.2.2.2.2.2.2]
  refine ⟨_, _, grow_tr g0 (grow_tr g1 (grow_tr g2 (grow_tr g3 (grow_tr g4 (grow_tr g5 (grow_tr g6 g7)))))), a7, ?_, hA, ⟨ea, ?_, ?_, ?_, ?_, ?_, ?_⟩, ?_, ?_, ?_, ?_, ?_, ?_, ?_⟩
  · refine rep_out Hi Hr (fun k i h => ⟨?_, hA k i (hout k i h)⟩)
    have z := hout k i h
    have z1 : ¬ (k = b ∧ i = n) ∧ ¬ (k = b + 1 ∧ i = n) ∧ ¬ (k = b + 2 ∧ i = n) ∧ ¬ (k = b + 4 ∧ i = n) ∧ ¬ (k = b + 10 ∧ i = n) ∧ ¬ (k = b + 11 ∧ i = n) ∧ ¬ (k = b + 12 ∧ i = n) := by omega
    simp only [up2, if_neg z1.1, if_neg z1.2.1, if_neg z1.2.2.1, if_neg z1.2.2.2.1, if_neg z1.2.2.2.2.1, if_neg z1.2.2.2.2.2.1, if_neg z1.2.2.2.2.2.2]
  · rw [up2_k _ _ _ (by omega), up2_k _ _ _ (by omega), up2_k _ _ _ (by omega), up2_k _ _ _ (by omega), up2_k _ _ _ (by omega), up2_s]
  · rw [up2_k _ _ _ (by omega), up2_k _ _ _ (by omega), up2_k _ _ _ (by omega), up2_k _ _ _ (by omega), up2_s]
  · rw [up2_k _ _ _ (by omega), up2_k _ _ _ (by omega), up2_k _ _ _ (by omega), up2_s]
  · rw [up2_k _ _ _ (by omega), up2_k _ _ _ (by omega), up2_s]
  · rw [up2_k _ _ _ (by omega), up2_s]
  · rw [up2_s]
  · rw [up2_s]
  · rw [up2_k _ _ _ (by omega), up2_k _ _ _ (by omega), up2_k _ _ _ (by omega), up2_k _ _ _ (by omega), up2_k _ _ _ (by omega), up2_k _ _ _ (by omega), up2_s]
  · rw [up2_k _ _ _ (by omega), up2_k _ _ _ (by omega), up2_k _ _ _ (by omega), up2_k _ _ _ (by omega), up2_k _ _ _ (by omega), up2_s]
  · rw [up2_k _ _ _ (by omega), up2_k _ _ _ (by omega), up2_k _ _ _ (by omega), up2_k _ _ _ (by omega), up2_s]
  · rw [up2_k _ _ _ (by omega), up2_k _ _ _ (by omega), up2_k _ _ _ (by omega), up2_s]
  · rw [up2_k _ _ _ (by omega), up2_k _ _ _ (by omega), up2_s]
  · rw [up2_k _ _ _ (by omega), up2_s]
theorem mesh_fin (Hi : invS S) (hg : grow w ad Cn w2 ad2 C2) (Hh : holds w2 ad2 C2) (Hr : rep G S T ad2 C2) (h00 : ad2 0 0 = ad 0 0) {a b : Int32} (hp : shQ S 1 a) (hp2 : shQ S 1 b) (hc : canM S (kN a) (kN b)) (hn : S 0 2 < 16)
    {fS : Nat → Option Nat} {v0 v1 : Int32} {b1 b2 : Bool} (hb1 : b1 = true ↔ S 8 (kN a) = 1) (hb2 : b2 = true ↔ S 8 (kN b) = 1)
    (c6 : C2 6 (S 0 2).toNat = some (.inr (3, [.ref (ad2 5 (kN a)), .ref (ad2 5 (kN b)), .ref (ad2 7 (S 0 2).toNat)]))) (c7 : C2 7 (S 0 2).toNat = some (.inr (6, [.ref (ad2 8 (S 0 2).toNat), .ref (ad2 10 (S 0 2).toNat), .int 0])))
    (c8 : C2 8 (S 0 2).toNat = some (.inl (G.2.1 4, 2, .inr (.inr (.inr (.inr fS)))))) (c16 : C2 16 (S 0 2).toNat = some (.inr (9, [.ref (ad2 3 (S 4 (kN a)).toNat), .int v0]))) (c17 : C2 17 (S 0 2).toNat = some (.inr (9, [.ref (ad2 3 (S 4 (kN b)).toNat), .int v1]))) (c10 : C2 10 (S 0 2).toNat = some (.inr (1, [.long 0, .long 1])))
    (s0 : fS 0 = some (ad2 16 (S 0 2).toNat)) (s1 : fS 1 = some (ad2 17 (S 0 2).toNat)) (hv0 : v0 = iL (S 5 (kN a))) (hv1 : v1 = (if b1 || b2 then -iL (S 5 (kN b)) else iL (S 5 (kN b))))
    {ha : Bool} {mod : Int32} {f : Nat → Option Nat} (h1 : C2 1 2 ≠ none) (h2 : ha = true → C2 2 2 ≠ none) (hf : ∀ k : Nat, (k : Int) < S 0 2 → f k = some (ad2 (elk 2) k)) (P : addP G w2 (ad2 1 2) (ad2 2 2) (S 0 2).toNat ha mod f (ad2 (elk 2) (S 0 2).toNat) w') :
    ∃ ad3 C3 T3, ad3 0 0 = ad 0 0 ∧ grow w ad Cn w' ad3 C3 ∧ holds w' ad3 C3 ∧ rep G (nxMesh S a b) T3 ad3 C3 ∧ invS (nxMesh S a b) := by
  have hi := Hi.1
  have ga := Hi.2.2.1 _ (kN_lt hp)
  have gb := Hi.2.2.1 _ (kN_lt hp2)
  have ka : a.toInt.toNat = kN a := rfl
  have kb : b.toInt.toNat = kN b := rfl
  obtain ⟨q3, C3, g3, hh3, l3, k3⟩ := add_post Hh (by omega) h1 h2 hf (by decide) P
  have S9 : ∃ S9 : Sg, S9 = nxMesh S a b := ⟨_, rfl⟩
  obtain ⟨S9, eS9⟩ := S9
  rw [← eS9]
  have e0 : S9 0 2 = S 0 2 + 1 := by rw [eS9]; unfold nxMesh; rw [up2_k _ _ _ (by decide), up2_k _ _ _ (by decide), up2_s]
  have e0' : ∀ i, i ≠ 2 → S9 0 i = S 0 i := fun i z => by rw [eS9]; unfold nxMesh; rw [up2_k _ _ _ (by decide), up2_k _ _ _ (by decide), up2_i _ _ _ z]
  have e9 : S9 9 (S 0 2).toNat = a.toInt := by rw [eS9]; unfold nxMesh; rw [up2_k _ _ _ (by decide), up2_s]
  have e10 : S9 10 (S 0 2).toNat = b.toInt := by rw [eS9]; unfold nxMesh; rw [up2_s]
  have eo : ∀ f k : Nat, f ≠ 0 → f ≠ 9 → f ≠ 10 → S9 f k = S f k := by intro f k z1 z2 z3; rw [eS9]; unfold nxMesh; rw [up2_k _ _ _ z3, up2_k _ _ _ z2, up2_k _ _ _ z1]
  have eS : ∀ f k, relF S f k → f ≠ 0 → S9 f k = S f k := by
    intro f k h z
    by_cases z9 : f = 9 ∨ f = 10
    · have z1 : k ≠ (S 0 2).toNat := by unfold relF at h; omega
      rw [eS9]; unfold nxMesh; rw [up2_i _ _ _ z1, up2_i _ _ _ z1, up2_k _ _ _ z]
    · exact eo f k z (fun q => z9 (Or.inl q)) (fun q => z9 (Or.inr q))
  have had : ∀ k i, ¬ (k = 2 ∧ i = 2) → up2 ad2 2 2 q3 k i = ad2 k i := fun k i z => if_neg z
  refine ⟨up2 ad2 2 2 q3, C3, up2 T 3 (S 0 2).toNat 0, ?_, grow_tr hg g3, hh3, ?_, ?_⟩
  · rw [had 0 0 (by omega)]; exact h00
  · refine rep_addj Hi (j := 2) (by decide) Hr e0 (fun i z _ => e0' i z) eS (fun f k _ z3 _ => ?_) l3 k3 (fun a b z => if_neg z) (fun z => absurd z (by decide)) (fun z => absurd z (by decide)) (fun _ => ⟨?_, ?_, ⟨fS, ?_, fun k hk => ?_⟩, fun k hk => ?_, ⟨0, 1, ?_⟩⟩) (fun z => absurd z (by decide))
    · have z : ¬ (f = 3 ∧ k = (S 0 2).toNat) := fun q => by have := z3 q.1; omega
      exact if_neg z
    · rw [k3 6 _ (by omega) (by omega), c6, e9, e10, had 5 _ (by omega), had 5 _ (by omega), had 7 _ (by omega)]; rfl
    · rw [k3 7 _ (by omega) (by omega), c7, had 8 _ (by omega), had 10 _ (by omega), up2_s]; rfl
    · rw [k3 8 _ (by omega) (by omega), c8]
    · rw [had _ _ (by omega)]
      match k, hk with
      | 0, _ => exact s0
      | 1, _ => exact s1
    · rw [k3 _ _ (by omega) (by omega)]
      unfold saM wtM
      rw [e9, e10, ka, kb, eo 4 _ (by decide) (by decide) (by decide), eo 4 _ (by decide) (by decide) (by decide), eo 5 _ (by decide) (by decide) (by decide), eo 5 _ (by decide) (by decide) (by decide), eo 8 _ (by decide) (by decide) (by decide), eo 8 _ (by decide) (by decide) (by decide), had 3 _ (by omega)]
      match k, hk with
      | 0, _ => rw [show 7 + 9 + 0 = 16 from rfl, c16, hv0]; rfl
      | 1, _ =>
        rw [show 7 + 9 + 1 = 17 from rfl, c17, hv1]
        rw [if_neg (by decide : ¬ (1 : Nat) = 0), if_neg (by decide : ¬ (1 : Nat) = 0)]
        by_cases z : S 8 (kN a) = 1 ∨ S 8 (kN b) = 1
        · rw [if_pos z, if_pos (by rcases z with y | y <;> simp [hb1, hb2, y])]
          rw [iL_neg]; rfl
        · have zz : ¬ ((b1 || b2) = true) := by
            intro y
            rcases Bool.or_eq_true _ _ ▸ y with y | y
            · exact z (Or.inl (hb1.mp y))
            · exact z (Or.inr (hb2.mp y))
          rw [if_neg z, if_neg zz]; rfl
    · rw [k3 10 _ (by omega) (by omega), c10]
  · refine ⟨by rw [e0, e0' 0 (by decide), e0' 1 (by decide), e0' 3 (by decide), e0' 4 (by decide), e0' 5 (by decide)]; omega, fun k hk => ?_, fun k hk => ?_, fun k hk => ?_, fun k hk => ?_⟩
    · rw [e0' 0 (by decide)] at hk
      rw [eo 1 k (by decide) (by decide) (by decide), eo 2 k (by decide) (by decide) (by decide), eo 3 k (by decide) (by decide) (by decide)]
      exact Hi.2.1 k hk
    · rw [e0' 1 (by decide)] at hk
      rw [e0' 0 (by decide), eo 4 k (by decide) (by decide) (by decide), eo 5 k (by decide) (by decide) (by decide), eo 6 k (by decide) (by decide) (by decide), eo 7 k (by decide) (by decide) (by decide), eo 8 k (by decide) (by decide) (by decide)]
      exact Hi.2.2.1 k hk
    · rw [e0] at hk
      rw [e0' 1 (by decide), eo 4 _ (by decide) (by decide) (by decide), eo 4 _ (by decide) (by decide) (by decide)]
      by_cases z : k = (S 0 2).toNat
      · rw [z, e9, e10]
        exact ⟨hp.1, hp.2, hp2.1, hp2.2, hc.1.1⟩
      · rw [eS 9 k (by unfold relF; omega) (by decide), eS 10 k (by unfold relF; omega) (by decide)]
        exact Hi.2.2.2.1 k (by omega)
    · rw [e0' 3 (by decide)] at hk
      rw [e0' 0 (by decide), eo 11 k (by decide) (by decide) (by decide), eo 12 k (by decide) (by decide) (by decide), eo 13 k (by decide) (by decide) (by decide), eo 14 k (by decide) (by decide) (by decide), eo 15 k (by decide) (by decide) (by decide)]
      exact Hi.2.2.2.2 k hk
end MSH
section PLN
variable {G : g_C} {S S' T T' : Sg} {w w' w1 w2 : g_W} {ad ad2 : Nat → Nat → Nat} {Cn C2 : Nat → Nat → Option va_E}
theorem pl32 (s p : Int32) : s + 2 * p = iL (s.toInt + 2 * p.toInt) ∧ s + (s + 2 * p) = iL (s.toInt + (s.toInt + 2 * p.toInt)) := by
  have e : s + 2 * p = iL (s.toInt + 2 * p.toInt) := by
    rw [← iL_add, ← iL_mul, iL_x, iL_x]; rfl
  refine ⟨e, ?_⟩
  exact (congrArg (s + ·) e).trans ((congrArg (· + iL (s.toInt + 2 * p.toInt)) (iL_x s).symm).trans (iL_add _ _))
theorem planets_fin (Hi : invS S) (hg : grow w ad Cn w2 ad2 C2) (Hh : holds w2 ad2 C2) (Hr : rep G S T ad2 C2) (h00 : ad2 0 0 = ad 0 0) {su ri ca s p : Int32} (hp1 : shQ S 0 su) (hp2 : shQ S 0 ri) (hp3 : shQ S 0 ca) (hq : paQ su ri ca s p) (hn : S 0 3 < 4)
    {fS : Nat → Option Nat}
    (c11 : C2 11 (S 0 3).toNat = some (.inr (4, [.int (s + (s + 2 * p)), .ref (ad2 12 (S 0 3).toNat)]))) (c12 : C2 12 (S 0 3).toNat = some (.inr (6, [.ref (ad2 13 (S 0 3).toNat), .ref (ad2 15 (S 0 3).toNat), .int 0])))
    (c13 : C2 13 (S 0 3).toNat = some (.inl (G.2.1 4, 3, .inr (.inr (.inr (.inr fS)))))) (c21 : C2 21 (S 0 3).toNat = some (.inr (9, [.ref (ad2 3 (kN su)), .int s]))) (c22 : C2 22 (S 0 3).toNat = some (.inr (9, [.ref (ad2 3 (kN ri)), .int (s + 2 * p)]))) (c23 : C2 23 (S 0 3).toNat = some (.inr (9, [.ref (ad2 3 (kN ca)), .int (-(s + (s + 2 * p)))]))) (c15 : C2 15 (S 0 3).toNat = some (.inr (1, [.long 0, .long 1])))
    (s0 : fS 0 = some (ad2 21 (S 0 3).toNat) ∧ fS 1 = some (ad2 22 (S 0 3).toNat) ∧ fS 2 = some (ad2 23 (S 0 3).toNat))
    {ha : Bool} {mod : Int32} {f : Nat → Option Nat} (h1 : C2 1 3 ≠ none) (h2 : ha = true → C2 2 3 ≠ none) (hf : ∀ k : Nat, (k : Int) < S 0 3 → f k = some (ad2 (elk 3) k)) (P : addP G w2 (ad2 1 3) (ad2 2 3) (S 0 3).toNat ha mod f (ad2 (elk 3) (S 0 3).toNat) w') :
    ∃ ad3 C3 T3, ad3 0 0 = ad 0 0 ∧ grow w ad Cn w' ad3 C3 ∧ holds w' ad3 C3 ∧ rep G (nxAddPl S su ri ca s p) T3 ad3 C3 ∧ invS (nxAddPl S su ri ca s p) := by
  have hi := Hi.1
  obtain ⟨q3, C3, g3, hh3, l3, k3⟩ := add_post Hh (by omega) h1 h2 hf (by decide) P
  have ne : ∀ x y : Int32, x ≠ y → x.toInt ≠ y.toInt := fun x y h z => h (Int32.toInt_inj.mp z)
  have S9 : ∃ S9 : Sg, S9 = nxAddPl S su ri ca s p := ⟨_, rfl⟩
  obtain ⟨S9, eS9⟩ := S9
  rw [← eS9]
  have e0 : S9 0 3 = S 0 3 + 1 := by rw [eS9]; unfold nxAddPl; rw [up2_k _ _ _ (by decide), up2_k _ _ _ (by decide), up2_k _ _ _ (by decide), up2_k _ _ _ (by decide), up2_k _ _ _ (by decide), up2_s]
  have e0' : ∀ i, i ≠ 3 → S9 0 i = S 0 i := fun i z => by rw [eS9]; unfold nxAddPl; rw [up2_k _ _ _ (by decide), up2_k _ _ _ (by decide), up2_k _ _ _ (by decide), up2_k _ _ _ (by decide), up2_k _ _ _ (by decide), up2_i _ _ _ z]
  have e11 : S9 11 (S 0 3).toNat = su.toInt := by rw [eS9]; unfold nxAddPl; rw [up2_k _ _ _ (by decide), up2_k _ _ _ (by decide), up2_k _ _ _ (by decide), up2_k _ _ _ (by decide), up2_s]
  have e12 : S9 12 (S 0 3).toNat = ri.toInt := by rw [eS9]; unfold nxAddPl; rw [up2_k _ _ _ (by decide), up2_k _ _ _ (by decide), up2_k _ _ _ (by decide), up2_s]
  have e13 : S9 13 (S 0 3).toNat = ca.toInt := by rw [eS9]; unfold nxAddPl; rw [up2_k _ _ _ (by decide), up2_k _ _ _ (by decide), up2_s]
  have e14 : S9 14 (S 0 3).toNat = s.toInt := by rw [eS9]; unfold nxAddPl; rw [up2_k _ _ _ (by decide), up2_s]
  have e15 : S9 15 (S 0 3).toNat = s.toInt + 2 * p.toInt := by rw [eS9]; unfold nxAddPl; rw [up2_s]
  have eo : ∀ f k : Nat, f ≠ 0 → f < 11 → S9 f k = S f k := by intro f k z1 z2; rw [eS9]; unfold nxAddPl; rw [up2_k _ _ _ (by omega), up2_k _ _ _ (by omega), up2_k _ _ _ (by omega), up2_k _ _ _ (by omega), up2_k _ _ _ (by omega), up2_k _ _ _ z1]
  have ei : ∀ f k : Nat, f ≠ 0 → k ≠ (S 0 3).toNat → S9 f k = S f k := by intro f k z z1; rw [eS9]; unfold nxAddPl; rw [up2_i _ _ _ z1, up2_i _ _ _ z1, up2_i _ _ _ z1, up2_i _ _ _ z1, up2_i _ _ _ z1, up2_k _ _ _ z]
  have eS : ∀ f k, relF S f k → f ≠ 0 → S9 f k = S f k := by
    intro f k h z
    by_cases z9 : f < 11
    · exact eo f k z z9
    · exact ei f k z (by unfold relF at h; omega)
  have had : ∀ k i, ¬ (k = 2 ∧ i = 3) → up2 ad2 2 3 q3 k i = ad2 k i := fun k i z => if_neg z
  obtain ⟨p1, p2⟩ := pl32 s p
  refine ⟨up2 ad2 2 3 q3, C3, up2 T 4 (S 0 3).toNat 0, ?_, grow_tr hg g3, hh3, ?_, ?_⟩
  · rw [had 0 0 (by omega)]; exact h00
  · refine rep_addj Hi (j := 3) (by decide) Hr e0 (fun i z _ => e0' i z) eS (fun f k _ _ z4 => ?_) l3 k3 (fun a b z => if_neg z) (fun z => absurd z (by decide)) (fun z => absurd z (by decide)) (fun z => absurd z (by decide)) (fun _ => ⟨?_, ?_, ⟨fS, ?_, fun k hk => ?_⟩, fun k hk => ?_, ⟨0, 1, ?_⟩⟩)
    · have z : ¬ (f = 4 ∧ k = (S 0 3).toNat) := fun q => by have := z4 q.1; omega
      exact if_neg z
    · rw [k3 11 _ (by omega) (by omega), c11, e14, e15, had 12 _ (by omega), p2]
    · rw [k3 12 _ (by omega) (by omega), c12, had 13 _ (by omega), had 15 _ (by omega), up2_s]; rfl
    · rw [k3 13 _ (by omega) (by omega), c13]
    · rw [had _ _ (by omega)]
      match k, hk with
      | 0, _ => exact s0.1
      | 1, _ => exact s0.2.1
      | 2, _ => exact s0.2.2
    · rw [k3 _ _ (by omega) (by omega)]
      unfold saP wtP
      rw [e11, e12, e13, e14, e15, had 3 _ (by omega)]
      match k, hk with
      | 0, _ => rw [show 12 + 9 + 0 = 21 from rfl, c21]; exact congrArg (fun v => some (Sum.inr (9, [Value.ref (ad2 3 (kN su)), Value.int v]))) (iL_x s).symm
      | 1, _ => rw [show 12 + 9 + 1 = 22 from rfl, c22, p1]; rfl
      | 2, _ => rw [show 12 + 9 + 2 = 23 from rfl, c23, p2, iL_neg]; rfl
    · rw [k3 15 _ (by omega) (by omega), c15]
  · refine ⟨by rw [e0, e0' 0 (by decide), e0' 1 (by decide), e0' 2 (by decide), e0' 4 (by decide), e0' 5 (by decide)]; omega, fun k hk => ?_, fun k hk => ?_, fun k hk => ?_, fun k hk => ?_⟩
    · rw [e0' 0 (by decide)] at hk
      rw [eo 1 k (by decide) (by decide), eo 2 k (by decide) (by decide), eo 3 k (by decide) (by decide)]
      exact Hi.2.1 k hk
    · rw [e0' 1 (by decide)] at hk
      rw [e0' 0 (by decide), eo 4 k (by decide) (by decide), eo 5 k (by decide) (by decide), eo 6 k (by decide) (by decide), eo 7 k (by decide) (by decide), eo 8 k (by decide) (by decide)]
      exact Hi.2.2.1 k hk
    · rw [e0' 2 (by decide)] at hk
      rw [e0' 1 (by decide), eo 9 k (by decide) (by decide), eo 10 k (by decide) (by decide), eo 4 _ (by decide) (by decide), eo 4 _ (by decide) (by decide)]
      exact Hi.2.2.2.1 k hk
    · rw [e0] at hk
      rw [e0' 0 (by decide)]
      by_cases z : k = (S 0 3).toNat
      · rw [z, e11, e12, e13, e14, e15]
        obtain ⟨⟨z1, z2, z3⟩, z4, z5⟩ := hq
        exact ⟨hp1.1, hp1.2, hp2.1, hp2.2, hp3.1, hp3.2, ne _ _ z1, ne _ _ z2, ne _ _ z3, z4.1, z4.2, by omega, by omega⟩
      · rw [ei 11 k (by decide) z, ei 12 k (by decide) z, ei 13 k (by decide) z, ei 14 k (by decide) z, ei 15 k (by decide) z]
        exact Hi.2.2.2.2 k (by omega)
end PLN
section MSW
variable {G : g_C} {S T : Sg} {w : g_W} {ad : Nat → Nat → Nat} {Cn : Nat → Nat → Option va_E}
theorem su32 (Hh : holds w ad Cn) (Hr : rep G S T ad Cn) (Hi : invS S) {a b : Nat} (ha : (a : Int) < S 0 1) (hb : (b : Int) < S 0 1) {b1 b2 : Bool} (h1 : b1 = true ↔ S 8 a = 1) (h2 : b2 = true ↔ S 8 b = 1) :
    (ad 3 (S 4 a).toNat ≠ ad 3 (S 4 b).toNat ∧ iL (S 7 a) = iL (S 7 b) ∧ iL (S 6 a) = iL (S 6 b) ∧ ((b1 = true ∧ b2 = false ∧ ¬ iL (S 5 a) ≤ iL (S 5 b)) ∨ (b1 = false ∧ (b2 = false ∨ ¬ iL (S 5 b) ≤ iL (S 5 a))))) ↔ (S 4 a ≠ S 4 b ∧ S 7 a = S 7 b ∧ S 6 a = S 6 b ∧ ((S 8 a = 1 ∧ S 8 b = 0 ∧ S 5 b < S 5 a) ∨ (S 8 a = 0 ∧ (S 8 b = 0 ∨ S 5 a < S 5 b)))) := by
  have ga := Hi.2.2.1 a ha; have gb := Hi.2.2.1 b hb
  have e1 : ad 3 (S 4 a).toNat = ad 3 (S 4 b).toNat ↔ S 4 a = S 4 b := by rw [ad3_in Hh Hr (by omega) (by omega)]; omega
  have e2 : iL (S 7 a) = iL (S 7 b) ↔ S 7 a = S 7 b := iL_eq (by omega) (by omega) (by omega) (by omega)
  have e3 : iL (S 6 a) = iL (S 6 b) ↔ S 6 a = S 6 b := iL_eq (by omega) (by omega) (by omega) (by omega)
  have e4 : iL (S 5 a) ≤ iL (S 5 b) ↔ S 5 a ≤ S 5 b := iL_le (by omega) (by omega) (by omega) (by omega)
  have e5 : iL (S 5 b) ≤ iL (S 5 a) ↔ S 5 b ≤ S 5 a := iL_le (by omega) (by omega) (by omega) (by omega)
  have f1 : b1 = false ↔ S 8 a = 0 := by
    cases b1
    · exact ⟨fun _ => by have q9 : ¬ S 8 a = 1 := fun q => (nomatch (h1.mpr q)); omega, fun _ => rfl⟩
    · have := h1.mp rfl; exact ⟨fun q => (nomatch q), fun q => by omega⟩
  have f2 : b2 = false ↔ S 8 b = 0 := by
    cases b2
    · exact ⟨fun _ => by have q9 : ¬ S 8 b = 1 := fun q => (nomatch (h2.mpr q)); omega, fun _ => rfl⟩
    · have := h2.mp rfl; exact ⟨fun q => (nomatch q), fun q => by omega⟩
  rw [ne_eq, e1, e2, e3, e4, e5, h1, f1, f2, Int.not_le, Int.not_le]
theorem rep_getA (Hh : holds w ad Cn) (Hr : rep G S T ad Cn) (j : Nat) (hj : j < 4) (hp : 0 < S 0 j) : ∃ (mod : Int32) (cap : Nat) (f : Nat → Option Nat), w (ad 1 j) = some (.inr (0, [.int mod, .ref (ad 2 j), .int (nI (S 0 j).toNat)])) ∧ w (ad 2 j) = some (.inl (G.2.1 3, cap, .inr (.inr (.inr (.inr f))))) ∧ (S 0 j).toNat ≤ cap ∧ cap < 100000 ∧ ∀ k : Nat, (k : Int) < S 0 j → f k = some (ad (elk j) k) := by
  obtain ⟨mod, ⟨h0, h1⟩ | ⟨cap, f, h1, h2, h3, h4, h5, h6⟩⟩ := Hr.2.1 j hj
  · omega
  · exact ⟨mod, cap, f, by rw [← iL_nn (by omega)]; exact Hh.1 _ _ _ h1, Hh.1 _ _ _ h2, by omega, by omega, h6⟩
end MSW
