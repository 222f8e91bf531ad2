/-! the reference's cells -/
section GZ
variable {p : Program} {l : Launch} {e : Env} {R : Room} {s : State} {m : MethodId} {args : Array Value} {below : List Frame} {meth : Method} {c : Code} {H : Heap} {locs : List Loc} {cells slots : Nat} {Q : State → Prop}
variable {cc : ByteArray} {pc nL : Nat} {ls : Array Slot} {rest : List Value} {A : Nat → Prop} {G : g_C} {w : g_W} {Ts : List Cond} {own : String} {a : Nat}
theorem g_zast (F : g_F p m c cc nL s args Ts own A G) (hP : g_P A G w H) (hS : va_S A s.heap H locs) {n : Nat} {f : Nat → Int32} (ha : w a = some (.inl (G.2.1 2, n, .inl f))) {i : Int32} {x : Int32} (hin : vp_in i n) (hx0 : vp_nar .boolean x = x) (hdg : decode cc pc = .ok (.bastore, 1))
    (kk : ∀ (H1 : Heap) (locs1 : List Loc), g_P A G (g_up w a (.inl (G.2.1 2, n, .inl (upd f i.toNatClampNeg x)))) H1 → va_S A s.heap H1 locs1 → W p l e R s m args below meth c H1 locs1 cells slots Q (F0 m (pc + 1) ls rest)) : W p l e R s m args below meth c H locs cells slots Q (F0 m pc ls (.int x :: .int i :: .ref a :: rest)) := by
  obtain ⟨⟨hx, hb, hml, hown, hts⟩, hK, hZ, hA⟩ := F
  obtain ⟨ws, h1, h2, h3⟩ := hP
  obtain ⟨k0, hk0⟩ := h3 a _ ha
  rw [← hx0] at kk
  exact va_zast hx hb hK h1 h2 hS k0 2 hk0 rfl hin hdg (fun H1 locs1 p1 p2 p3 => kk H1 locs1 (g_P_set hk0 h3 p1 p2) p3)
end GZ
theorem g_nb8 (b : Bool) : vp_nar .boolean (g_b b) = g_b b := by cases b <;> decide
/-- the object and its eleven arrays -/
abbrev mC (S : Sg) (th : Int32) (tp bt : Int64) (md : Nat → Nat) : List Value := [.int th, .int (iL (S 0 0)), .ref (md 1), .ref (md 2), .ref (md 3), .int (iL (S 0 4)), .int (iL (S 0 5)), .int (iL (S 0 1)), .ref (md 4), .ref (md 5), .int (iL (S 0 2)), .ref (md 6), .ref (md 7), .int (iL (S 0 3)), .ref (md 8), .ref (md 9), .ref (md 10), .ref (md 11), .long tp, .long bt]
def modW (G : g_C) (w : g_W) (md : Nat → Nat) (S : Sg) (th : Int32) (tp bt : Int64) (F : Nat → Nat → Int32) (L : Nat → Nat → Int64) : Prop :=
  w (md 0) = some (.inr (8, mC S th tp bt md)) ∧ w (md 1) = some (.inl (G.2.1 0, 10, .inl (F 1))) ∧ w (md 2) = some (.inl (G.2.1 0, 10, .inl (F 2))) ∧ w (md 3) = some (.inl (G.2.1 2, 10, .inl (F 3))) ∧ w (md 4) = some (.inl (G.2.1 0, 64, .inl (F 4))) ∧ w (md 5) = some (.inl (G.2.1 2, 16, .inl (F 5))) ∧ w (md 6) = some (.inl (G.2.1 0, 16, .inl (F 6))) ∧ w (md 7) = some (.inl (G.2.1 0, 16, .inl (F 7))) ∧ w (md 8) = some (.inl (G.2.1 0, 20, .inl (F 8))) ∧ w (md 9) = some (.inl (G.2.1 1, 10, .inr (.inl (L 0)))) ∧ w (md 10) = some (.inl (G.2.1 1, 10, .inr (.inl (L 1)))) ∧ w (md 11) = some (.inl (G.2.1 0, 10, .inl (F 11)))
/-- what the tables hold -/
def modF (S : Sg) (F : Nat → Nat → Int32) : Prop :=
  (∀ k : Nat, (k : Int) < S 0 0 → F 1 k = iL (S 1 k) ∧ F 2 k = iL (S 2 k) ∧ F 3 k = iL (S 3 k)) ∧
  (∀ k : Nat, (k : Int) < S 0 1 → F 4 (4 * k) = iL (S 4 k) ∧ F 4 (4 * k + 1) = iL (S 5 k) ∧ F 4 (4 * k + 2) = iL (S 6 k) ∧ F 4 (4 * k + 3) = iL (S 7 k) ∧ F 5 k = iL (S 8 k)) ∧
  (∀ k : Nat, (k : Int) < S 0 2 → F 6 k = iL (S 9 k) ∧ F 7 k = iL (S 10 k)) ∧
  (∀ k : Nat, (k : Int) < S 0 3 → F 8 (5 * k) = iL (S 11 k) ∧ F 8 (5 * k + 1) = iL (S 12 k) ∧ F 8 (5 * k + 2) = iL (S 13 k) ∧ F 8 (5 * k + 3) = iL (S 14 k) ∧ F 8 (5 * k + 4) = iL (S 15 k)) ∧ ∀ k : Nat, (S 0 0 ≤ k → F 3 k = 0)
def modI (md : Nat → Nat) : Prop := ∀ i j, i < 12 → j < 12 → md i = md j → i = j
/-- what was solved -/
def modT (S T : Sg) (F : Nat → Nat → Int32) (L : Nat → Nat → Int64) : Prop := ∀ k : Nat, (k : Int) < S 0 0 → L 0 k = zL (T 0 k) ∧ L 1 k = (if T 2 k = -1 then 0 else zL (T 1 k)) ∧ F 11 k = iL (T 2 k)
