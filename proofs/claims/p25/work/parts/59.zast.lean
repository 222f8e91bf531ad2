section GZ
variable {p : Program} {l : Launch} {e : Env} {R : Room} {s : State} {m : MethodId} {args : Array Value} {below : List Frame} {meth : Method} {c : Code} {H : Heap} {locs : List Loc} {cells slots : Nat} {Q : State → Prop}
variable {cc : ByteArray} {pc nL : Nat} {ls : Array Slot} {rest : List Value} {A : Nat → Prop} {G : g_C} {w : g_W} {Ts : List Cond} {own : String} {a : Nat}
theorem g_zast (F : g_F p m c cc nL s args Ts own A G) (hP : g_P A G w H) (hS : va_S A s.heap H locs) {n : Nat} {f : Nat → Int32} (ha : w a = some (.inl (G.2.1 2, n, .inl f))) {i : Int32} {x : Int32} (hin : vp_in i n) (hx0 : vp_nar .boolean x = x) (hdg : decode cc pc = .ok (.bastore, 1))
    (kk : ∀ (H1 : Heap) (locs1 : List Loc), g_P A G (g_up w a (.inl (G.2.1 2, n, .inl (upd f i.toNatClampNeg x)))) H1 → va_S A s.heap H1 locs1 → W p l e R s m args below meth c H1 locs1 cells slots Q (F0 m (pc + 1) ls rest)) : W p l e R s m args below meth c H locs cells slots Q (F0 m pc ls (.int x :: .int i :: .ref a :: rest)) := by
  obtain ⟨⟨hx, hb, hml, hown, hts⟩, hK, hZ, hA⟩ := F
  obtain ⟨ws, h1, h2, h3⟩ := hP
  obtain ⟨k0, hk0⟩ := h3 a _ ha
  rw [← hx0] at kk
  exact va_zast hx hb hK h1 h2 hS k0 2 hk0 rfl hin hdg (fun H1 locs1 p1 p2 p3 => kk H1 locs1 (g_P_set hk0 h3 p1 p2) p3)
end GZ
theorem g_nb8 (b : Bool) : vp_nar .boolean (g_b b) = g_b b := by cases b <;> decide
