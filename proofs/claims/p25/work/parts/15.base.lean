/-! the world as a map from addresses to cells; contracts over it -/
abbrev g_W : Type := Nat → Option va_E
abbrev g_C : Type := va_G × (Nat → ClassId) × (Nat → Nat)
def g_tys (G : g_C) : List (ClassId × FieldType) := [(G.2.1 0, .int), (G.2.1 1, .long), (G.2.1 2, .boolean), (G.2.1 3, .object "java/lang/Object"), (G.2.1 4, .object "GearTrains$Term")]
def g_K (G : g_C) (U : State) : Prop := va_K G.1 vwCl (g_tys G) U
def g_up (w : g_W) (a : Nat) (e : va_E) : g_W := fun q => if q = a then some e else w q
theorem g_up_s (w : g_W) (a : Nat) (e : va_E) : g_up w a e a = some e := by simp [g_up]
theorem g_up_n {w : g_W} {a b : Nat} (e : va_E) (h : b ≠ a) : g_up w a e b = w b := by simp [g_up, h]
def g_kd (e : va_E) : Nat := match e with
  | .inr o => o.1
  | .inl (_, _, .inl _) => 100
  | .inl (_, _, .inr (.inl _)) => 101
  | .inl (_, _, .inr (.inr (.inr (.inr _)))) => 102
  | _ => 103
theorem g_ne {w : g_W} {a b : Nat} {e0 e1 : va_E} (hb : w b = some e1) (ha : w a = some e0) (h : Nat.beq (g_kd e1) (g_kd e0) = false) : b ≠ a := by
  intro z
  subst z
  rw [ha] at hb
  cases hb
  rw [Nat.beq_refl] at h
  cases h
theorem g_neq {w : g_W} {b q : Nat} {e1 : va_E} (hb : w b = some e1) (hq : w q = none) : b ≠ q := by
  intro z
  subst z
  rw [hb] at hq
  cases hq
theorem g_up_f {w : g_W} {a b : Nat} {e e1 : va_E} (hb : w b = some e1) (hn : b ≠ a) : g_up w a e b = some e1 := (g_up_n e hn).trans hb
def g_P (A : Nat → Prop) (G : g_C) (w : g_W) (H : Heap) : Prop := ∃ ws : va_W, va_P G.1 vwCl ws H ∧ va_D A ws ∧ ∀ (a : Nat) (e : va_E), w a = some e → ∃ k : Nat, ws[k]? = some (a, e)
theorem g_P_set {A : Nat → Prop} {G : g_C} {w : g_W} {H1 : Heap} {ws : va_W} {k a : Nat} {e0 e : va_E} (hk : ws[k]? = some (a, e0)) (hw : ∀ (a : Nat) (e : va_E), w a = some e → ∃ k : Nat, ws[k]? = some (a, e)) (hP1 : va_P G.1 vwCl (ws.set k (a, e)) H1) (hD1 : va_D A (ws.set k (a, e))) : g_P A G (g_up w a e) H1 := by
  refine ⟨_, hP1, hD1, fun b eb hb => ?_⟩
  unfold g_up at hb
  by_cases hba : b = a
  · subst hba
    rw [if_pos rfl] at hb
    cases hb
    exact ⟨k, List.getElem?_set_self (List.getElem?_eq_some_iff.mp hk).1⟩
  · rw [if_neg hba] at hb
    obtain ⟨j, hj⟩ := hw b eb hb
    refine ⟨j, ?_⟩
    rw [List.getElem?_set_ne (fun h => ?_)]
    · exact hj
    · subst h
      rw [hk] at hj
      cases hj
      exact hba rfl
theorem g_P_push {A : Nat → Prop} {G : g_C} {w : g_W} {H1 : Heap} {ws : va_W} {a : Nat} {e : va_E} (hw : ∀ (a : Nat) (e : va_E), w a = some e → ∃ k : Nat, ws[k]? = some (a, e)) (hP1 : va_P G.1 vwCl (ws ++ [(a, e)]) H1) (hD1 : va_D A (ws ++ [(a, e)])) : g_P A G (g_up w a e) H1 ∧ w a = none := by
  have hlast : (ws ++ [(a, e)])[ws.length]? = some (a, e) := by simp
  have hin : ∀ (b : Nat) (eb : va_E), w b = some eb → ∃ k : Nat, k < ws.length ∧ (ws ++ [(a, e)])[k]? = some (b, eb) := by
    intro b eb hb
    obtain ⟨k, hk⟩ := hw b eb hb
    have hl := (List.getElem?_eq_some_iff.mp hk).1
    exact ⟨k, hl, by rw [List.getElem?_append_left hl]; exact hk⟩
  refine ⟨⟨_, hP1, hD1, fun b eb hb => ?_⟩, ?_⟩
  · unfold g_up at hb
    by_cases hba : b = a
    · subst hba
      rw [if_pos rfl] at hb
      cases hb
      exact ⟨_, hlast⟩
    · rw [if_neg hba] at hb
      obtain ⟨k, -, hk⟩ := hin b eb hb
      exact ⟨k, hk⟩
  · cases hq : w a with
    | none => rfl
    | some e0 =>
      obtain ⟨k, hl, hk⟩ := hin a e0 hq
      have := hD1.1 k ws.length _ _ hk hlast rfl
      omega
theorem g_P_kept {A : Nat → Prop} {G : g_C} {w : g_W} {H H1 : Heap} (h : g_P A G w H) (hq : ∀ q : Nat, q < H.size → H1[q]? = H[q]?) : g_P A G w H1 := by
  obtain ⟨ws, h1, h2, h3⟩ := h
  exact ⟨ws, h1.kept (fun k q hk => hq q.1 ((h1 k q hk).lt)), h2, h3⟩
theorem g_P_lt {A : Nat → Prop} {G : g_C} {w : g_W} {H : Heap} (h : g_P A G w H) {a : Nat} {e : va_E} (ha : w a = some e) : a < H.size ∧ A a := by
  obtain ⟨ws, h1, h2, h3⟩ := h
  obtain ⟨k, hk⟩ := h3 a e ha
  exact ⟨(h1 k _ hk).lt, h2.2 k _ hk⟩
theorem g_P_recv {A : Nat → Prop} {G : g_C} {w : g_W} {H : Heap} {s : State} (hK : g_K G s) (h : g_P A G w H) {a ci : Nat} {fs : List Value} {q : vw_C} (hc : vwCl[ci]? = some q) (ha : w a = some (.inr (ci, fs))) : ∃ cell : Cell, H[a]? = some cell ∧ cell.vm.isStatics = false ∧ s.vm.findClass q.1 = some cell.cls := by
  obtain ⟨ws, h1, h2, h3⟩ := h
  obtain ⟨k, hk⟩ := h3 a _ ha
  exact va_recv hK h1 hc hk

/-- what stays the same of the machine's own: static fields, strings, castable classes -/
abbrev g_strs : List (Nat × String) := [(100, "these gears can't be meshed"), (102, "no more meshes"), (121, "a shaft stands twice in the set"), (123, "no such number of teeth"), (125, "no more planet sets"), (143, "nothing of that kind is counted"), (145, "no such speed of a driver"), (151, "the driver is not held"), (244, "no such place"), (246, "no such shaft"), (248, "no such gear"), (250, "the speed is not told"), (42, "no more shafts"), (79, "no such kind of gear"), (82, "no more gears")]
abbrev g_casts : List (String × String) := [("java/lang/IllegalArgumentException", "java/lang/IllegalArgumentException"), ("java/lang/IllegalStateException", "java/lang/IllegalStateException"), ("java/lang/IndexOutOfBoundsException", "java/lang/IndexOutOfBoundsException"), ("GearTrains$Shaft", "java/lang/Object"), ("GearTrains$Gear", "java/lang/Object"), ("GearTrains$Mesh", "java/lang/Object"), ("GearTrains$PlanetSet", "java/lang/Object")]
abbrev g_decls : List String := ["java/lang/RuntimeException", "java/lang/Exception", Bundle.tN]
abbrev g_ncasts : List (String × String) := [("java/lang/IllegalStateException", "java/lang/IllegalArgumentException"), ("java/lang/IndexOutOfBoundsException", "java/lang/IllegalArgumentException")]
def g_Z (A : Nat → Prop) (G : g_C) (U : State) (H : Heap) : Prop :=
  va_Z "java/util/ArrayList" "DEFAULTCAPACITY_EMPTY_ELEMENTDATA" "[Ljava/lang/Object;" (.ref (G.2.2 0)) A U H ∧ va_T (.object "java/lang/Object") (G.2.2 0) 0 (fun _ => .null) A U H ∧
  vx_Zq Bundle.tN "UNASSIGNED_STACK" Bundle.steD A U H ∧ vx_Zq Bundle.tN "SUPPRESSED_SENTINEL" Bundle.listD A U H ∧
  va_AO "java/lang/Object" U ∧ va_AO "GearTrains$Term" U ∧ (va_Mi "[Ljava/lang/Object;" (G.2.2 1) U ∧ va_Dc U) ∧
  (∀ q ∈ g_casts, va_Nw (.castable q.1 q.2) U) ∧ ((∀ q ∈ g_ncasts, va_Nc q.1 q.2 U) ∧ ∀ n ∈ g_decls, va_Nw (.declares (Bundle.initS n)) U) ∧
  ∀ q ∈ g_strs, ∃ a : Nat, vk_R RX6 q.1 q.2 a U
theorem g_Z_to {A : Nat → Prop} {G : g_C} {s U : State} {H0 H1 : Heap} (hW : s.WarmedH U.vm) (hq : ∀ q : Nat, q < H0.size → ¬ A q → H1[q]? = H0[q]?) (h : g_Z A G s H0) : g_Z A G U H1 := by
  obtain ⟨h1, h2, h3, h4, h5, h6, h7, h8, h9, h11⟩ := h
  refine ⟨(va_Z.moved hW.alike h1).kept hq, (va_T.moved hW.alike h2).kept hq, (vx_Zq.moved hW.alike h3).kept hq, (vx_Zq.moved hW.alike h4).kept hq, va_AO.moved hW.alike h5, va_AO.moved hW.alike h6, ⟨va_Mi.moved hW.alike h7.1, va_Dc.moved hW.alike h7.2⟩, fun q hq => va_Nw.warmC hW (h8 q hq), ⟨fun q hq => va_Nc.moved hW.alike (h9.1 q hq), fun n hn => va_Nw.warmD hW (h9.2 n hn)⟩, fun q hq => ?_⟩
  obtain ⟨a, ha⟩ := h11 q hq
  exact ⟨a, vk_R.warm hW ha⟩
/-- what a method finds at its start -/
def g_I (A : Nat → Prop) (G : g_C) (w : g_W) : State → Prop := fun U => (∀ q : Nat, U.heap.size ≤ q → A q) ∧ g_K G U ∧ g_Z A G U U.heap ∧ g_P A G w U.heap
def g_B (A : Nat → Prop) (G : g_C) : g_W → State → Prop := fun w t => g_P A G w t.heap
def g_BX (A : Nat → Prop) (G : g_C) : String → String × g_W → State → Prop := fun E u t => u.1 = E ∧ g_P A G u.2 t.heap
theorem g_blind {A : Nat → Prop} {G : g_C} {w : g_W} {As : List Value} : FrameBlind (va_Pc As (g_I A G w)) := by
  intro a U g mk h
  obtain ⟨h0, h1, h2, h3, h4⟩ := h
  exact ⟨h0, h1, va_K.moved (u := U) (U := U.calling g mk a) (Vm.Alike.refl U.vm) h2, g_Z_to (s := U) (U := U.calling g mk a) (State.WarmedH.refl U) (fun _ _ _ => rfl) h3, h4⟩
theorem g_pre {A : Nat → Prop} {G : g_C} {w : g_W} {s U : State} {H : Heap} {locs : List Loc} (hA : ∀ q : Nat, s.heap.size ≤ q → A q) (hK : g_K G s) (hZ : g_Z A G s s.heap) (hP : g_P A G w H) (hS : va_S A s.heap H locs) (hU : U.heap = H) (hW : s.WarmedH U.vm) : g_I A G w U := by
  subst hU
  exact ⟨fun q hq => hA q (Nat.le_trans hS.1 hq), va_K.moved hW.alike hK, g_Z_to hW hS.2.1 hZ, hP⟩
/-- contracts: int, long, double, nothing, a reference or null -/
abbrev mI (l : Launch) (y : MethodName) (ws : List Cond) (rm : Room) (As : List Value) (A : Nat → Prop) (G : g_C) (w : g_W) (post : Int32 → g_W → Prop) (mc ms : Nat) : Prop := Met l y ws rm (va_Pc As (g_I A G w)) (va_Qi post (g_B A G) A) mc ms A
abbrev mL (l : Launch) (y : MethodName) (ws : List Cond) (rm : Room) (As : List Value) (A : Nat → Prop) (G : g_C) (w : g_W) (post : Int64 → g_W → Prop) (mc ms : Nat) : Prop := Met l y ws rm (va_Pc As (g_I A G w)) (va_Ql post (g_B A G) A) mc ms A
abbrev mD (l : Launch) (y : MethodName) (ws : List Cond) (rm : Room) (As : List Value) (A : Nat → Prop) (G : g_C) (w : g_W) (post : UInt64 → g_W → Prop) (mc ms : Nat) : Prop := Met l y ws rm (va_Pc As (g_I A G w)) (va_Qd post (g_B A G) A) mc ms A
abbrev mV (l : Launch) (y : MethodName) (ws : List Cond) (rm : Room) (As : List Value) (A : Nat → Prop) (G : g_C) (w : g_W) (post : g_W → Prop) (mc ms : Nat) : Prop := Met l y ws rm (va_Pc As (g_I A G w)) (va_Qv post (g_B A G) A) mc ms A
abbrev mQ (l : Launch) (y : MethodName) (ws : List Cond) (rm : Room) (As : List Value) (A : Nat → Prop) (G : g_C) (w : g_W) (post : Option Nat → g_W → Prop) (mc ms : Nat) : Prop := Met l y ws rm (va_Pc As (g_I A G w)) (va_Qq post (g_B A G) A) mc ms A
abbrev xI (l : Launch) (y : MethodName) (ws : List Cond) (rm : Room) (As : List Value) (A : Nat → Prop) (G : g_C) (w : g_W) (post : Int32 → g_W → Prop) (px : String × g_W → Prop) (mc ms : Nat) : Prop := vx_Met l y ws rm (va_Pc As (g_I A G w)) (va_Qi post (g_B A G) A) (vx_X px (g_BX A G) A) mc ms A
abbrev xL (l : Launch) (y : MethodName) (ws : List Cond) (rm : Room) (As : List Value) (A : Nat → Prop) (G : g_C) (w : g_W) (post : Int64 → g_W → Prop) (px : String × g_W → Prop) (mc ms : Nat) : Prop := vx_Met l y ws rm (va_Pc As (g_I A G w)) (va_Ql post (g_B A G) A) (vx_X px (g_BX A G) A) mc ms A
abbrev xD (l : Launch) (y : MethodName) (ws : List Cond) (rm : Room) (As : List Value) (A : Nat → Prop) (G : g_C) (w : g_W) (post : UInt64 → g_W → Prop) (px : String × g_W → Prop) (mc ms : Nat) : Prop := vx_Met l y ws rm (va_Pc As (g_I A G w)) (va_Qd post (g_B A G) A) (vx_X px (g_BX A G) A) mc ms A
abbrev xV (l : Launch) (y : MethodName) (ws : List Cond) (rm : Room) (As : List Value) (A : Nat → Prop) (G : g_C) (w : g_W) (post : g_W → Prop) (px : String × g_W → Prop) (mc ms : Nat) : Prop := vx_Met l y ws rm (va_Pc As (g_I A G w)) (va_Qv post (g_B A G) A) (vx_X px (g_BX A G) A) mc ms A
/-- the method's own machine -/
def g_F (p : Program) (m : MethodId) (c : Code) (cc : ByteArray) (nL : Nat) (s : State) (args : Array Value) (Ts : List Cond) (own : String) (A : Nat → Prop) (G : g_C) : Prop :=
  CallFix p m c cc nL s args Ts own ∧ g_K G s ∧ g_Z A G s s.heap ∧ ∀ q : Nat, s.heap.size ≤ q → A q
section GR
variable {p : Program} {l : Launch} {e : Env} {R : Room} {s : State} {m : MethodId} {args : Array Value} {below : List Frame} {meth : Method} {c : Code} {H : Heap} {locs : List Loc} {cells slots : Nat} {Q : State → Prop}
variable {cc : ByteArray} {pc nL : Nat} {ls : Array Slot} {rest : List Value} {A : Nat → Prop} {G : g_C} {w : g_W} {Ts : List Cond} {own : String} {a : Nat}

theorem g_get (F : g_F p m c cc nL s args Ts own A G) (hP : g_P A G w H) {ref C : String} {T : u_T} {N ci index : Nat} {fs : List Value} {v : Value} (hin : ∀ w ∈ u_ws C T N, w ∈ Ts) (he : w a = some (.inr (ci, fs))) (hc : vwCl[ci]? = some (C, T, N)) (k : Nat) (hk : k < N) (hlink : Cond.fieldLink own index ref (T k).2.1 (T k).2.2.1 ∈ Ts) (hsame : ∀ x, s.fieldFound? (T k).1 (T k).2.1 (T k).2.2.1 = some x → s.fieldFound? ref (T k).2.1 (T k).2.2.1 = some x) (hv : fs[k]? = some v) (hdg : decode cc pc = .ok (.getfield index, 3))
    (kk : W p l e R s m args below meth c H locs cells slots Q (F0 m (pc + 3) ls (v :: rest))) : W p l e R s m args below meth c H locs cells slots Q (F0 m pc ls (.ref a :: rest)) := by
  obtain ⟨⟨hx, hb, hml, hown, hts⟩, hK, hZ, hA⟩ := F
  obtain ⟨ws, h1, h2, h3⟩ := hP
  obtain ⟨k0, hk0⟩ := h3 a _ he
  exact va_get hx hb hts hin hown hK h1 k0 hk0 hc k hk (hts _ hlink) hsame hv hdg kk
theorem g_put (F : g_F p m c cc nL s args Ts own A G) (hP : g_P A G w H) (hS : va_S A s.heap H locs) {ref C : String} {T : u_T} {N ci index : Nat} {fs : List Value} {v : Value} (hin : ∀ w ∈ u_ws C T N, w ∈ Ts) (ty0 : Nat → FieldType) (hty : ∀ k, k < N → parseFieldDescriptor (T k).2.2.1 = some (ty0 k)) (hnm : ∀ a, a < N → ∀ b, b < N → a ≠ b → (T a).2.1 ≠ (T b).2.1) (he : w a = some (.inr (ci, fs))) (hc : vwCl[ci]? = some (C, T, N)) (k : Nat) (hk : k < N) (hlink : Cond.fieldLink own index ref (T k).2.1 (T k).2.2.1 ∈ Ts) (hsame : ∀ x, s.fieldFound? (T k).1 (T k).2.1 (T k).2.2.1 = some x → s.fieldFound? ref (T k).2.1 (T k).2.2.1 = some x) (hfin : (T k).2.2.2 = false) {ty : FieldType} (hd : parseFieldDescriptor (T k).2.2.1 = some ty) (hn : narrow ty v = v) (hfit : fits ty v = true) (hl : k < fs.length)
    (hdg : decode cc pc = .ok (.putfield index, 3)) (kk : ∀ (H1 : Heap) (locs1 : List Loc), g_P A G (g_up w a (.inr (ci, fs.set k v))) H1 → va_S A s.heap H1 locs1 → W p l e R s m args below meth c H1 locs1 cells slots Q (F0 m (pc + 3) ls rest)) : W p l e R s m args below meth c H locs cells slots Q (F0 m pc ls (v :: .ref a :: rest)) := by
  obtain ⟨⟨hx, hb, hml, hown, hts⟩, hK, hZ, hA⟩ := F
  obtain ⟨ws, h1, h2, h3⟩ := hP
  obtain ⟨k0, hk0⟩ := h3 a _ he
  exact va_put hx hb hts hin ty0 hty hnm hown hK h1 h2 hS k0 hk0 hc k hk (hts _ hlink) hsame hfin hd hn hfit hl hdg (fun H1 locs1 p1 p2 p3 => kk H1 locs1 (g_P_set hk0 h3 p1 p2) p3)
theorem g_putF (F : g_F p m c cc nL s args Ts own A G) (hP : g_P A G w H) (hS : va_S A s.heap H locs) {ref C : String} {T : u_T} {N ci index : Nat} {fs : List Value} {v : Value} (hin : ∀ w ∈ u_ws C T N, w ∈ Ts) (ty0 : Nat → FieldType) (hty : ∀ k, k < N → parseFieldDescriptor (T k).2.2.1 = some (ty0 k)) (hnm : ∀ a, a < N → ∀ b, b < N → a ≠ b → (T a).2.1 ≠ (T b).2.1) (he : w a = some (.inr (ci, fs))) (hc : vwCl[ci]? = some (C, T, N)) (k : Nat) (hk : k < N) (hlink : Cond.fieldLink own index ref (T k).2.1 (T k).2.2.1 ∈ Ts) (hsame : ∀ x, s.fieldFound? (T k).1 (T k).2.1 (T k).2.2.1 = some x → s.fieldFound? ref (T k).2.1 (T k).2.2.1 = some x) (hfin : (T k).2.2.2 = true) (hin2 : meth.name = "<init>") (hdecl : (T k).1 = own) {ty : FieldType} (hd : parseFieldDescriptor (T k).2.2.1 = some ty) (hn : narrow ty v = v) (hfit : fits ty v = true) (hl : k < fs.length)
    (hdg : decode cc pc = .ok (.putfield index, 3)) (kk : ∀ (H1 : Heap) (locs1 : List Loc), g_P A G (g_up w a (.inr (ci, fs.set k v))) H1 → va_S A s.heap H1 locs1 → W p l e R s m args below meth c H1 locs1 cells slots Q (F0 m (pc + 3) ls rest)) : W p l e R s m args below meth c H locs cells slots Q (F0 m pc ls (v :: .ref a :: rest)) := by
  obtain ⟨⟨hx, hb, hml, hown, hts⟩, hK, hZ, hA⟩ := F
  obtain ⟨ws, h1, h2, h3⟩ := hP
  obtain ⟨k0, hk0⟩ := h3 a _ he
  exact va_putF hx hb hts hin ty0 hty hnm hown hK h1 h2 hS k0 hk0 hc k hk (hts _ hlink) hsame hfin hin2 hdecl hd hn hfit hl hdg (fun H1 locs1 p1 p2 p3 => kk H1 locs1 (g_P_set hk0 h3 p1 p2) p3)
theorem g_new (F : g_F p m c cc nL s args Ts own A G) (hP : g_P A G w H) (hS : va_S A s.heap H locs) {C : String} {T : u_T} {N ci index : Nat} {fs : List Value} (hin : ∀ w ∈ u_ws C T N, w ∈ Ts) (ty : Nat → FieldType) (hty : ∀ k, k < N → parseFieldDescriptor (T k).2.2.1 = some (ty k)) (hcl : Cond.classLink own index C ∈ Ts) (hinst : Cond.instantiable C N ∈ Ts) (hini : Cond.initialized C ∈ Ts) (hc : vwCl[ci]? = some (C, T, N)) (hfs : ∀ j, j < N → defaultValue (ty j) = vp_V fs j) (hcells : cells + 1 ≤ R.cells) (hslots : slots + N ≤ R.slots) (hdg : decode cc pc = .ok (.new index, 3))
    (kk : ∀ (q : Nat) (H1 : Heap), w q = none → g_P A G (g_up w q (.inr (ci, fs))) H1 → va_S A s.heap H1 locs → W p l e R s m args below meth c H1 locs (cells + 1) (slots + N) Q (F0 m (pc + 3) ls (.ref q :: rest))) : W p l e R s m args below meth c H locs cells slots Q (F0 m pc ls rest) := by
  obtain ⟨⟨hx, hb, hml, hown, hts⟩, hK, hZ, hA⟩ := F
  obtain ⟨ws, h1, h2, h3⟩ := hP
  exact va_new hx hb hts hin ty hty hown (hts _ hcl) (hts _ hinst) (hts _ hini) hK h1 h2 hS hA hc hfs hcells hslots hdg (fun q H1 p1 p2 p3 => kk q H1 (g_P_push h3 p1 p2).2 (g_P_push h3 p1 p2).1 p3)
theorem g_iald (F : g_F p m c cc nL s args Ts own A G) (hP : g_P A G w H) {n : Nat} {f : Nat → Int32} (ha : w a = some (.inl (G.2.1 0, n, .inl f))) {i : Int32} (hin : vp_in i n) (hdg : decode cc pc = .ok (.iaload, 1))
    (kk : W p l e R s m args below meth c H locs cells slots Q (F0 m (pc + 1) ls (.int (f i.toNatClampNeg) :: rest))) : W p l e R s m args below meth c H locs cells slots Q (F0 m pc ls (.int i :: .ref a :: rest)) := by
  obtain ⟨⟨hx, hb, hml, hown, hts⟩, hK, hZ, hA⟩ := F
  obtain ⟨ws, h1, h2, h3⟩ := hP
  obtain ⟨k0, hk0⟩ := h3 a _ ha
  exact va_iald hx hb hK h1 k0 0 hk0 rfl hin hdg kk
theorem g_zald (F : g_F p m c cc nL s args Ts own A G) (hP : g_P A G w H) {n : Nat} {f : Nat → Int32} (ha : w a = some (.inl (G.2.1 2, n, .inl f))) {i : Int32} (hin : vp_in i n) (hdg : decode cc pc = .ok (.baload, 1))
    (kk : W p l e R s m args below meth c H locs cells slots Q (F0 m (pc + 1) ls (.int (f i.toNatClampNeg) :: rest))) : W p l e R s m args below meth c H locs cells slots Q (F0 m pc ls (.int i :: .ref a :: rest)) := by
  obtain ⟨⟨hx, hb, hml, hown, hts⟩, hK, hZ, hA⟩ := F
  obtain ⟨ws, h1, h2, h3⟩ := hP
  obtain ⟨k0, hk0⟩ := h3 a _ ha
  exact va_zald hx hb hK h1 k0 2 hk0 rfl hin hdg kk
theorem g_lald (F : g_F p m c cc nL s args Ts own A G) (hP : g_P A G w H) {n : Nat} {f : Nat → Int64} (ha : w a = some (.inl (G.2.1 1, n, .inr (.inl f)))) {i : Int32} (hin : vp_in i n) (hdg : decode cc pc = .ok (.laload, 1))
    (kk : W p l e R s m args below meth c H locs cells slots Q (F0 m (pc + 1) ls (.long (f i.toNatClampNeg) :: rest))) : W p l e R s m args below meth c H locs cells slots Q (F0 m pc ls (.int i :: .ref a :: rest)) := by
  obtain ⟨⟨hx, hb, hml, hown, hts⟩, hK, hZ, hA⟩ := F
  obtain ⟨ws, h1, h2, h3⟩ := hP
  obtain ⟨k0, hk0⟩ := h3 a _ ha
  exact va_lald hx hb hK h1 k0 1 hk0 rfl hin hdg kk
theorem g_iast (F : g_F p m c cc nL s args Ts own A G) (hP : g_P A G w H) (hS : va_S A s.heap H locs) {n : Nat} {f : Nat → Int32} (ha : w a = some (.inl (G.2.1 0, n, .inl f))) {i : Int32} {x : Int32} (hin : vp_in i n) (hdg : decode cc pc = .ok (.iastore, 1))
    (kk : ∀ (H1 : Heap) (locs1 : List Loc), g_P A G (g_up w a (.inl (G.2.1 0, n, .inl (upd f i.toNatClampNeg x)))) H1 → va_S A s.heap H1 locs1 → W p l e R s m args below meth c H1 locs1 cells slots Q (F0 m (pc + 1) ls rest)) : W p l e R s m args below meth c H locs cells slots Q (F0 m pc ls (.int x :: .int i :: .ref a :: rest)) := by
  obtain ⟨⟨hx, hb, hml, hown, hts⟩, hK, hZ, hA⟩ := F
  obtain ⟨ws, h1, h2, h3⟩ := hP
  obtain ⟨k0, hk0⟩ := h3 a _ ha
  exact va_iast hx hb hK h1 h2 hS k0 0 hk0 rfl hin hdg (fun H1 locs1 p1 p2 p3 => kk H1 locs1 (g_P_set hk0 h3 p1 p2) p3)
theorem g_last (F : g_F p m c cc nL s args Ts own A G) (hP : g_P A G w H) (hS : va_S A s.heap H locs) {n : Nat} {f : Nat → Int64} (ha : w a = some (.inl (G.2.1 1, n, .inr (.inl f)))) {i : Int32} {x : Int64} (hin : vp_in i n) (hdg : decode cc pc = .ok (.lastore, 1))
    (kk : ∀ (H1 : Heap) (locs1 : List Loc), g_P A G (g_up w a (.inl (G.2.1 1, n, .inr (.inl (vp_updL f i.toNatClampNeg x))))) H1 → va_S A s.heap H1 locs1 → W p l e R s m args below meth c H1 locs1 cells slots Q (F0 m (pc + 1) ls rest)) : W p l e R s m args below meth c H locs cells slots Q (F0 m pc ls (.long x :: .int i :: .ref a :: rest)) := by
  obtain ⟨⟨hx, hb, hml, hown, hts⟩, hK, hZ, hA⟩ := F
  obtain ⟨ws, h1, h2, h3⟩ := hP
  obtain ⟨k0, hk0⟩ := h3 a _ ha
  exact va_last hx hb hK h1 h2 hS k0 1 hk0 rfl hin hdg (fun H1 locs1 p1 p2 p3 => kk H1 locs1 (g_P_set hk0 h3 p1 p2) p3)
theorem g_alen (F : g_F p m c cc nL s args Ts own A G) (hP : g_P A G w H) {x : vp_A} (t : Nat) {cA : ClassId} {ty : FieldType} (ht : (g_tys G)[t]? = some (cA, ty)) (ha : w a = some (.inl (cA, x))) {v : Int32} (hv : Int32.ofNat x.1 = v) (hdg : decode cc pc = .ok (.arraylength, 1))
    (kk : W p l e R s m args below meth c H locs cells slots Q (F0 m (pc + 1) ls (.int v :: rest))) : W p l e R s m args below meth c H locs cells slots Q (F0 m pc ls (.ref a :: rest)) := by
  obtain ⟨⟨hx, hb, hml, hown, hts⟩, hK, hZ, hA⟩ := F
  obtain ⟨ws, h1, h2, h3⟩ := hP
  obtain ⟨k0, hk0⟩ := h3 a _ ha
  exact va_alen hx hb hK h1 k0 t hk0 ht hv hdg kk
theorem g_aldqO (F : g_F p m c cc nL s args Ts own A G) (hP : g_P A G w H) {n : Nat} {f : Nat → Option Nat} (ha : w a = some (.inl (G.2.1 3, n, .inr (.inr (.inr (.inr f)))))) {i : Int32} (hin : vp_in i n) (hdg : decode cc pc = .ok (.aaload, 1))
    (kk : W p l e R s m args below meth c H locs cells slots Q (F0 m (pc + 1) ls (va_rf (f i.toNatClampNeg) :: rest))) : W p l e R s m args below meth c H locs cells slots Q (F0 m pc ls (.int i :: .ref a :: rest)) := by
  obtain ⟨⟨hx, hb, hml, hown, hts⟩, hK, hZ, hA⟩ := F
  obtain ⟨ws, h1, h2, h3⟩ := hP
  obtain ⟨k0, hk0⟩ := h3 a _ ha
  exact va_aldq hx hb hK h1 k0 3 hk0 rfl hin hdg kk
theorem g_aldqS (F : g_F p m c cc nL s args Ts own A G) (hP : g_P A G w H) {n : Nat} {f : Nat → Option Nat} (ha : w a = some (.inl (G.2.1 4, n, .inr (.inr (.inr (.inr f)))))) {i : Int32} (hin : vp_in i n) (hdg : decode cc pc = .ok (.aaload, 1))
    (kk : W p l e R s m args below meth c H locs cells slots Q (F0 m (pc + 1) ls (va_rf (f i.toNatClampNeg) :: rest))) : W p l e R s m args below meth c H locs cells slots Q (F0 m pc ls (.int i :: .ref a :: rest)) := by
  obtain ⟨⟨hx, hb, hml, hown, hts⟩, hK, hZ, hA⟩ := F
  obtain ⟨ws, h1, h2, h3⟩ := hP
  obtain ⟨k0, hk0⟩ := h3 a _ ha
  exact va_aldq hx hb hK h1 k0 4 hk0 rfl hin hdg kk
theorem g_astqS (F : g_F p m c cc nL s args Ts own A G) (hP : g_P A G w H) (hS : va_S A s.heap H locs) {n v : Nat} {vs : List Value} {f : Nat → Option Nat} (ha : w a = some (.inl (G.2.1 4, n, .inr (.inr (.inr (.inr f)))))) (hv : w v = some (.inr (9, vs))) {i : Int32} (hin : vp_in i n) (hdg : decode cc pc = .ok (.aastore, 1))
    (kk : ∀ (H1 : Heap) (locs1 : List Loc), g_P A G (g_up w a (.inl (G.2.1 4, n, .inr (.inr (.inr (.inr (va_up f i.toNatClampNeg (some v)))))))) H1 → va_S A s.heap H1 locs1 → W p l e R s m args below meth c H1 locs1 cells slots Q (F0 m (pc + 1) ls rest)) : W p l e R s m args below meth c H locs cells slots Q (F0 m pc ls (.ref v :: .int i :: .ref a :: rest)) := by
  obtain ⟨⟨hx, hb, hml, hown, hts⟩, hK, hZ, hA⟩ := F
  obtain ⟨ws, h1, h2, h3⟩ := hP
  obtain ⟨k0, hk0⟩ := h3 a _ ha
  obtain ⟨k1, hk1⟩ := h3 v _ hv
  exact va_astq (r := (RX9, TX9, 2)) hx hb hK h1 h2 hS k0 4 k1 9 hk0 rfl hk1 rfl hin hdg (fun H1 locs1 p1 p2 p3 => kk H1 locs1 (g_P_set hk0 h3 p1 p2) p3)
theorem g_astqO (F : g_F p m c cc nL s args Ts own A G) (hP : g_P A G w H) (hS : va_S A s.heap H locs) {n v ci : Nat} {r : vw_C} {vs : List Value} {f : Nat → Option Nat} (ha : w a = some (.inl (G.2.1 3, n, .inr (.inr (.inr (.inr f)))))) (hv : w v = some (.inr (ci, vs))) (hc : vwCl[ci]? = some r) (hca : va_Nw (.castable r.1 "java/lang/Object") s) {i : Int32} (hin : vp_in i n) (hdg : decode cc pc = .ok (.aastore, 1))
    (kk : ∀ (H1 : Heap) (locs1 : List Loc), g_P A G (g_up w a (.inl (G.2.1 3, n, .inr (.inr (.inr (.inr (va_up f i.toNatClampNeg (some v)))))))) H1 → va_S A s.heap H1 locs1 → W p l e R s m args below meth c H1 locs1 cells slots Q (F0 m (pc + 1) ls rest)) : W p l e R s m args below meth c H locs cells slots Q (F0 m pc ls (.ref v :: .int i :: .ref a :: rest)) := by
  obtain ⟨⟨hx, hb, hml, hown, hts⟩, hK, hZ, hA⟩ := F
  obtain ⟨ws, h1, h2, h3⟩ := hP
  obtain ⟨k0, hk0⟩ := h3 a _ ha
  obtain ⟨k1, hk1⟩ := h3 v _ hv
  exact va_astqO (E := "java/lang/Object") hx hb hK h1 h2 hS k0 3 k1 ci hk0 rfl hca hk1 hc hin hdg (fun H1 locs1 p1 p2 p3 => kk H1 locs1 (g_P_set hk0 h3 p1 p2) p3)
theorem g_astqN (F : g_F p m c cc nL s args Ts own A G) (hP : g_P A G w H) (hS : va_S A s.heap H locs) {n : Nat} {f : Nat → Option Nat} (ha : w a = some (.inl (G.2.1 3, n, .inr (.inr (.inr (.inr f)))))) {i : Int32} (hin : vp_in i n) (hdg : decode cc pc = .ok (.aastore, 1))
    (kk : ∀ (H1 : Heap) (locs1 : List Loc), g_P A G (g_up w a (.inl (G.2.1 3, n, .inr (.inr (.inr (.inr (va_up f i.toNatClampNeg none))))))) H1 → va_S A s.heap H1 locs1 → W p l e R s m args below meth c H1 locs1 cells slots Q (F0 m (pc + 1) ls rest)) : W p l e R s m args below meth c H locs cells slots Q (F0 m pc ls (.null :: .int i :: .ref a :: rest)) := by
  obtain ⟨⟨hx, hb, hml, hown, hts⟩, hK, hZ, hA⟩ := F
  obtain ⟨ws, h1, h2, h3⟩ := hP
  obtain ⟨k0, hk0⟩ := h3 a _ ha
  exact va_astqN hx hb hK h1 h2 hS k0 3 hk0 rfl hin hdg (fun H1 locs1 p1 p2 p3 => kk H1 locs1 (g_P_set hk0 h3 p1 p2) p3)
theorem g_newaI (F : g_F p m c cc nL s args Ts own A G) (hP : g_P A G w H) (hS : va_S A s.heap H locs) (harr : Cond.arrayClass (newarray.typeOf .int) ∈ Ts) {n : Int32} {N' : Nat} (hn : ¬ n < 0) (hN : n.toNatClampNeg = N') (hbytes : N' * componentBytes .int ≤ 536870912) (hcells : cells + 1 ≤ R.cells) (hslots : slots + N' ≤ R.slots) (hdg : decode cc pc = .ok (.newarray .int, 2))
    (kk : ∀ (q : Nat) (H1 : Heap), w q = none → g_P A G (g_up w q (.inl (G.2.1 0, N', .inl (fun _ => 0)))) H1 → va_S A s.heap H1 locs → W p l e R s m args below meth c H1 locs (cells + 1) (slots + N') Q (F0 m (pc + 2) ls (.ref q :: rest))) : W p l e R s m args below meth c H locs cells slots Q (F0 m pc ls (.int n :: rest)) := by
  obtain ⟨⟨hx, hb, hml, hown, hts⟩, hK, hZ, hA⟩ := F
  obtain ⟨ws, h1, h2, h3⟩ := hP
  refine va_newa (atype := .int) (ty := .int) (a0 := (N', .inl (fun _ => 0))) hx hb (hts _ harr) rfl hK h1 h2 hS hA (fun _ => rfl) hn hN hbytes hcells hslots hdg (fun q cA H1 p0 p1 p2 p3 => ?_)
  have e1 := va_nm_int (p0.2 5 (cA, .int) rfl).2
  have e2 := va_nm_int (hK.2 0 (G.2.1 0, .int) rfl).2
  cases Option.some.inj (e1.symm.trans e2)
  exact kk q H1 (g_P_push h3 p1 p2).2 (g_P_push h3 p1 p2).1 p3
theorem g_newaJ (F : g_F p m c cc nL s args Ts own A G) (hP : g_P A G w H) (hS : va_S A s.heap H locs) (harr : Cond.arrayClass (newarray.typeOf .long) ∈ Ts) {n : Int32} {N' : Nat} (hn : ¬ n < 0) (hN : n.toNatClampNeg = N') (hbytes : N' * componentBytes .long ≤ 536870912) (hcells : cells + 1 ≤ R.cells) (hslots : slots + N' ≤ R.slots) (hdg : decode cc pc = .ok (.newarray .long, 2))
    (kk : ∀ (q : Nat) (H1 : Heap), w q = none → g_P A G (g_up w q (.inl (G.2.1 1, N', .inr (.inl (fun _ => 0))))) H1 → va_S A s.heap H1 locs → W p l e R s m args below meth c H1 locs (cells + 1) (slots + N') Q (F0 m (pc + 2) ls (.ref q :: rest))) : W p l e R s m args below meth c H locs cells slots Q (F0 m pc ls (.int n :: rest)) := by
  obtain ⟨⟨hx, hb, hml, hown, hts⟩, hK, hZ, hA⟩ := F
  obtain ⟨ws, h1, h2, h3⟩ := hP
  refine va_newa (atype := .long) (ty := .long) (a0 := (N', .inr (.inl (fun _ => 0)))) hx hb (hts _ harr) rfl hK h1 h2 hS hA (fun _ => rfl) hn hN hbytes hcells hslots hdg (fun q cA H1 p0 p1 p2 p3 => ?_)
  have e1 := va_nm_long (p0.2 5 (cA, .long) rfl).2
  have e2 := va_nm_long (hK.2 1 (G.2.1 1, .long) rfl).2
  cases Option.some.inj (e1.symm.trans e2)
  exact kk q H1 (g_P_push h3 p1 p2).2 (g_P_push h3 p1 p2).1 p3
theorem g_newaZ (F : g_F p m c cc nL s args Ts own A G) (hP : g_P A G w H) (hS : va_S A s.heap H locs) (harr : Cond.arrayClass (newarray.typeOf .boolean) ∈ Ts) {n : Int32} {N' : Nat} (hn : ¬ n < 0) (hN : n.toNatClampNeg = N') (hbytes : N' * componentBytes .boolean ≤ 536870912) (hcells : cells + 1 ≤ R.cells) (hslots : slots + N' ≤ R.slots) (hdg : decode cc pc = .ok (.newarray .boolean, 2))
    (kk : ∀ (q : Nat) (H1 : Heap), w q = none → g_P A G (g_up w q (.inl (G.2.1 2, N', .inl (fun _ => 0)))) H1 → va_S A s.heap H1 locs → W p l e R s m args below meth c H1 locs (cells + 1) (slots + N') Q (F0 m (pc + 2) ls (.ref q :: rest))) : W p l e R s m args below meth c H locs cells slots Q (F0 m pc ls (.int n :: rest)) := by
  obtain ⟨⟨hx, hb, hml, hown, hts⟩, hK, hZ, hA⟩ := F
  obtain ⟨ws, h1, h2, h3⟩ := hP
  refine va_newa (atype := .boolean) (ty := .boolean) (a0 := (N', .inl (fun _ => 0))) hx hb (hts _ harr) rfl hK h1 h2 hS hA (fun _ => rfl) hn hN hbytes hcells hslots hdg (fun q cA H1 p0 p1 p2 p3 => ?_)
  have e1 := va_nm_boolean (p0.2 5 (cA, .boolean) rfl).2
  have e2 := va_nm_boolean (hK.2 2 (G.2.1 2, .boolean) rfl).2
  cases Option.some.inj (e1.symm.trans e2)
  exact kk q H1 (g_P_push h3 p1 p2).2 (g_P_push h3 p1 p2).1 p3
theorem g_newqO (F : g_F p m c cc nL s args Ts own A G) (hP : g_P A G w H) (hS : va_S A s.heap H locs) {index : Nat} (hcl : Cond.classLink own index "java/lang/Object" ∈ Ts) {n : Int32} {N' : Nat} (hn : ¬ n < 0) (hN : n.toNatClampNeg = N') (hbytes : N' * 4 ≤ 536870912) (hcells : cells + 1 ≤ R.cells) (hslots : slots + N' ≤ R.slots) (hdg : decode cc pc = .ok (.anewarray index, 3))
    (kk : ∀ (q : Nat) (H1 : Heap), w q = none → g_P A G (g_up w q (.inl (G.2.1 3, N', .inr (.inr (.inr (.inr (fun _ => none))))))) H1 → va_S A s.heap H1 locs → W p l e R s m args below meth c H1 locs (cells + 1) (slots + N') Q (F0 m (pc + 3) ls (.ref q :: rest))) : W p l e R s m args below meth c H locs cells slots Q (F0 m pc ls (.int n :: rest)) := by
  obtain ⟨⟨hx, hb, hml, hown, hts⟩, hK, hZ, hA⟩ := F
  obtain ⟨ws, h1, h2, h3⟩ := hP
  refine va_newq hx hb hown (hts _ hcl) hZ.2.2.2.2.1 hK h1 h2 hS hA hn hN hbytes hcells hslots hdg (fun q cA H1 p0 p1 p2 p3 => ?_)
  obtain ⟨kA, comp, -, -, -, e1⟩ := (p0.2 5 (cA, .object "java/lang/Object") rfl).2
  obtain ⟨kA2, comp2, -, -, -, e2⟩ := (hK.2 3 (G.2.1 3, .object "java/lang/Object") rfl).2
  cases Option.some.inj (e1.symm.trans e2)
  exact kk q H1 (g_P_push h3 p1 p2).2 (g_P_push h3 p1 p2).1 p3
theorem g_newqS (F : g_F p m c cc nL s args Ts own A G) (hP : g_P A G w H) (hS : va_S A s.heap H locs) {index : Nat} (hcl : Cond.classLink own index "GearTrains$Term" ∈ Ts) {n : Int32} {N' : Nat} (hn : ¬ n < 0) (hN : n.toNatClampNeg = N') (hbytes : N' * 4 ≤ 536870912) (hcells : cells + 1 ≤ R.cells) (hslots : slots + N' ≤ R.slots) (hdg : decode cc pc = .ok (.anewarray index, 3))
    (kk : ∀ (q : Nat) (H1 : Heap), w q = none → g_P A G (g_up w q (.inl (G.2.1 4, N', .inr (.inr (.inr (.inr (fun _ => none))))))) H1 → va_S A s.heap H1 locs → W p l e R s m args below meth c H1 locs (cells + 1) (slots + N') Q (F0 m (pc + 3) ls (.ref q :: rest))) : W p l e R s m args below meth c H locs cells slots Q (F0 m pc ls (.int n :: rest)) := by
  obtain ⟨⟨hx, hb, hml, hown, hts⟩, hK, hZ, hA⟩ := F
  obtain ⟨ws, h1, h2, h3⟩ := hP
  refine va_newq hx hb hown (hts _ hcl) hZ.2.2.2.2.2.1 hK h1 h2 hS hA hn hN hbytes hcells hslots hdg (fun q cA H1 p0 p1 p2 p3 => ?_)
  obtain ⟨kA, comp, -, -, -, e1⟩ := (p0.2 5 (cA, .object "GearTrains$Term") rfl).2
  obtain ⟨kA2, comp2, -, -, -, e2⟩ := (hK.2 4 (G.2.1 4, .object "GearTrains$Term") rfl).2
  cases Option.some.inj (e1.symm.trans e2)
  exact kk q H1 (g_P_push h3 p1 p2).2 (g_P_push h3 p1 p2).1 p3
theorem g_cast (F : g_F p m c cc nL s args Ts own A G) (hP : g_P A G w H) {C : String} {T : u_T} {N ci index : Nat} {fs : List Value} (he : w a = some (.inr (ci, fs))) (hc : vwCl[ci]? = some (C, T, N)) (hlink : Cond.classLink own index C ∈ Ts) (hdg : decode cc pc = .ok (.checkcast index, 3))
    (kk : W p l e R s m args below meth c H locs cells slots Q (F0 m (pc + 3) ls (.ref a :: rest))) : W p l e R s m args below meth c H locs cells slots Q (F0 m pc ls (.ref a :: rest)) := by
  obtain ⟨⟨hx, hb, hml, hown, hts⟩, hK, hZ, hA⟩ := F
  exact va_castS hx hb hown (hts _ hlink) (hK.1 ci _ hc).2 (g_P_recv hK hP hc he) hdg kk
theorem g_gets (F : g_F p m c cc nL s args Ts own A G) (hS : va_S A s.heap H locs) {index : Nat} (hlink : Cond.fieldLink own index "java/util/ArrayList" "DEFAULTCAPACITY_EMPTY_ELEMENTDATA" "[Ljava/lang/Object;" ∈ Ts) (hdg : decode cc pc = .ok (.getstatic index, 3))
    (kk : W p l e R s m args below meth c H locs cells slots Q (F0 m (pc + 3) ls (.ref (G.2.2 0) :: rest))) : W p l e R s m args below meth c H locs cells slots Q (F0 m pc ls rest) := by
  obtain ⟨⟨hx, hb, hml, hown, hts⟩, hK, hZ, hA⟩ := F
  exact va_gets hx hb hZ.1 hS hown (hts _ hlink) (fun _ h9 => h9) hdg kk
theorem g_tlen (F : g_F p m c cc nL s args Ts own A G) (hS : va_S A s.heap H locs) (hdg : decode cc pc = .ok (.arraylength, 1))
    (kk : W p l e R s m args below meth c H locs cells slots Q (F0 m (pc + 1) ls (.int 0 :: rest))) : W p l e R s m args below meth c H locs cells slots Q (F0 m pc ls (.ref (G.2.2 0) :: rest)) := by
  obtain ⟨⟨hx, hb, hml, hown, hts⟩, hK, hZ, hA⟩ := F
  exact va_tlen hx hb hZ.2.1 hS rfl hdg kk
theorem g_ldcM (F : g_F p m c cc nL s args Ts own A G) {index : Nat} (hlink : Cond.classLink own index "[Ljava/lang/Object;" ∈ Ts) (hdg : decode cc pc = .ok (.ldc index, 2))
    (kk : W p l e R s m args below meth c H locs cells slots Q (F0 m (pc + 2) ls (.ref (G.2.2 1) :: rest))) : W p l e R s m args below meth c H locs cells slots Q (F0 m pc ls rest) := by
  obtain ⟨⟨hx, hb, hml, hown, hts⟩, hK, hZ, hA⟩ := F
  exact va_ldcM hx hb hown (hts _ hlink) hZ.2.2.2.2.2.2.1.1 hdg kk
theorem g_oarr (hK : g_K G s) (hP : g_P A G w H) {x : vp_A} (ha : w a = some (.inl (G.2.1 3, x))) : ∃ cell : Cell, H[a]? = some cell ∧ cell.vm.isStatics = false ∧ s.vm.findClass "[Ljava/lang/Object;" = some cell.cls := by
  obtain ⟨ws, h1, h2, h3⟩ := hP
  obtain ⟨k0, hk0⟩ := h3 a _ ha
  have h4 := h1 k0 _ hk0
  have h5 : s.vm.findClass "[Ljava/lang/Object;" = some (G.2.1 3) := va_nmO (hK.2 3 (G.2.1 3, .object "java/lang/Object") rfl).2 (by decide +kernel)
  refine ⟨vp_cell (G.2.1 3) x, h4, ?_, ?_⟩
  · obtain ⟨n, f | f | f | f | f⟩ := x <;> rfl
  · rw [h5]
    obtain ⟨n, f | f | f | f | f⟩ := x <;> rfl
theorem g_getC (F : g_F p m c cc nL s args Ts own A G) (hP : g_P A G w H) (hsz : ls.size = nL) {index : Nat} {x : vp_A} (ha : w a = some (.inl (G.2.1 3, x))) (hlink : Cond.methodLink own index ⟨"java/lang/Object", "getClass", "()Ljava/lang/Class;"⟩ ∈ Ts) (hsel : Cond.selects "[Ljava/lang/Object;" ⟨"java/lang/Object", "getClass", "()Ljava/lang/Class;"⟩ ⟨"java/lang/Object", "getClass", "()Ljava/lang/Class;"⟩ ∈ Ts) (hinst : Cond.instanceMethod ⟨"java/lang/Object", "getClass", "()Ljava/lang/Class;"⟩ ∈ Ts) (hnat : Cond.native ⟨"java/lang/Object", "getClass", "()Ljava/lang/Class;"⟩ ∈ Ts) (hframes : 1 ≤ R.frames) (hlocals : (rest.map fun v => v.category).sum + 14 ≤ R.locals) (hdg : decode cc pc = .ok (.invokevirtual index, 3))
    (kk : W p l e R s m args below meth c H locs cells slots Q (F0 m (pc + 3) ls (.ref (G.2.2 1) :: rest))) : W p l e R s m args below meth c H locs cells slots Q (F0 m pc ls (.ref a :: rest)) := by
  obtain ⟨⟨hx, hb, hml, hown, hts⟩, hK, hZ, hA⟩ := F
  exact va_getC hx hb (hml.trans hsz.symm) hown (hts _ hlink) (va_Dc.use hZ.2.2.2.2.2.2.1.2) (hts _ hsel) (hts _ hinst) (hts _ hnat) hZ.2.2.2.2.2.2.1.1 (g_oarr hK hP ha) hframes hlocals hdg kk
theorem g_copyq (F : g_F p m c cc nL s args Ts own A G) (hP : g_P A G w H) (hS : va_S A s.heap H locs) (hsz : ls.size = nL) {index : Nat} (hlink : Cond.methodLink own index arraycopyName ∈ Ts) (hnat : Cond.native arraycopyName ∈ Ts) (hstat : Cond.static arraycopyName ∈ Ts) (hini : Cond.initialized "java/lang/System" ∈ Ts) {a0 n0 n1 ci : Nat} {r : vw_C} {f g : Nat → Option Nat} (ha0 : w a0 = some (.inl (G.2.1 3, n0, .inr (.inr (.inr (.inr f)))))) (ha1 : w a = some (.inl (G.2.1 3, n1, .inr (.inr (.inr (.inr g)))))) (hc : vwCl[ci]? = some r) (hca : va_Nw (.castable r.1 "java/lang/Object") s)
    {sp dp n : Int32} (h1 : ¬ sp < 0) (h2 : ¬ dp < 0) (h3 : ¬ n < 0) (h4 : sp.toNatClampNeg + n.toNatClampNeg ≤ n0) (h5 : dp.toNatClampNeg + n.toNatClampNeg ≤ n1) (hel : ∀ i : Nat, i < n.toNatClampNeg → ∀ y : Nat, f (sp.toNatClampNeg + i) = some y → ∃ fs, w y = some (.inr (ci, fs))) (hframes : 1 ≤ R.frames) (hlocals : (rest.map fun v => v.category).sum + (nativeFrameWords "java/lang/System" "arraycopy" 5 + 11) ≤ R.locals) (hdg : decode cc pc = .ok (.invokestatic index, 3))
    (kk : ∀ (H1 : Heap) (locs1 : List Loc), g_P A G (g_up w a (.inl (G.2.1 3, n1, .inr (.inr (.inr (.inr (va_cpy f g sp.toNatClampNeg dp.toNatClampNeg n.toNatClampNeg))))))) H1 → va_S A s.heap H1 locs1 → W p l e R s m args below meth c H1 locs1 cells slots Q (F0 m (pc + 3) ls rest)) : W p l e R s m args below meth c H locs cells slots Q (F0 m pc ls (.int n :: .int dp :: .ref a :: .int sp :: .ref a0 :: rest)) := by
  have hP0 := hP
  obtain ⟨⟨hx, hb, hml, hown, hts⟩, hK, hZ, hA⟩ := F
  obtain ⟨ws, p1, p2, p3⟩ := hP
  obtain ⟨k0, hk0⟩ := p3 a0 _ ha0
  obtain ⟨k1, hk1⟩ := p3 a _ ha1
  refine va_copyq (E0 := "java/lang/Object") (E1 := "java/lang/Object") (C := r.1) hx hb (hml.trans hsz.symm) hown (hts _ hlink) (hts _ hnat) (hts _ hstat) (hts _ hini) hK p1 p2 hS k0 k1 3 3 hk0 hk1 rfl rfl h1 h2 h3 h4 h5 (fun i hi y hy => ?_) (fun comp c0 e1 e2 => ?_) hframes hlocals hdg (fun H1 locs1 q1 q2 q3 => kk H1 locs1 (g_P_set hk1 p3 q1 q2) q3)
  · obtain ⟨fs, hfs⟩ := hel i hi y hy
    exact g_P_recv hK hP0 hc hfs
  · obtain ⟨c3, c4, hc3, hc4, hasg⟩ := Cond.castable_spec hca
    cases Option.some.inj (hc3.symm.trans e2)
    cases Option.some.inj (hc4.symm.trans e1)
    exact hasg
end GR
section GC
variable {p : Program} {l : Launch} {e : Env} {R : Room} {s : State} {m : MethodId} {args : Array Value} {below : List Frame} {meth : Method} {c : Code} {H : Heap} {locs : List Loc} {cells slots : Nat} {Q : State → Prop}
variable {cc bytes : ByteArray} {pc nL maxL index n mc ms ci : Nat} {ls : Array Slot} {rest st0 As : List Value} {A : Nat → Prop} {G : g_C} {w : g_W} {Ts ws : List Cond} {own C : String} {b : Nat} {y : MethodName} {ret : Option FieldType} {rm : Room} {fs : List Value} {q : vw_C}

theorem g_Vi (F : g_F p m c cc nL s args Ts own A G) (hP : g_P A G w H) (hS : va_S A s.heap H locs) {post : Int32 → g_W → Prop} (hM : mI l y ws rm (.ref b :: As) A G w post mc ms) (cw : CallW R s args own C index y bytes maxL ret ws rm mc ms n) (hr : w b = some (.inr (ci, fs))) (hc : vwCl[ci]? = some q) (hC : q.1 = C) (hn : As.length = n) (hsz : ls.size = nL) (hroom : (rest.map fun v => v.category).sum ≤ 8) (hdg : decode cc pc = .ok (.invokevirtual index, 3)) (hf : cells + mc ≤ R.cells ∧ slots + ms ≤ R.slots) (hst : st0 = As.reverse ++ .ref b :: rest)
    (kk : ∀ (r : Int32) (w1 : g_W) (H1 : Heap) (locs1 : List Loc), post r w1 → g_P A G w1 H1 → va_S A s.heap H1 locs1 → W p l e R s m args below meth c H1 locs1 (cells + mc) (slots + ms) Q (F0 m (pc + 3) ls (.int r :: rest))) : W p l e R s m args below meth c H locs cells slots Q (F0 m pc ls st0) := by
  obtain ⟨Fx, hK, hZ, hA⟩ := F
  exact va_calli (va_runV Fx hM cw ⟨g_blind, hC ▸ g_P_recv hK hP hc hr, fun U hU hW => ⟨rfl, g_pre hA hK hZ hP hS hU hW⟩⟩ rfl hn hsz hst (lv_room hroom) hdg hf) hS (fun _ _ h => h) (fun _ h => h) (fun r w1 t H1 locs1 ht hvm hw hB hz1 hk1 hS1 => kk r w1 H1 locs1 hw (by rw [← ht]; exact hB) hS1)
theorem g_Vl (F : g_F p m c cc nL s args Ts own A G) (hP : g_P A G w H) (hS : va_S A s.heap H locs) {post : Int64 → g_W → Prop} (hM : mL l y ws rm (.ref b :: As) A G w post mc ms) (cw : CallW R s args own C index y bytes maxL ret ws rm mc ms n) (hr : w b = some (.inr (ci, fs))) (hc : vwCl[ci]? = some q) (hC : q.1 = C) (hn : As.length = n) (hsz : ls.size = nL) (hroom : (rest.map fun v => v.category).sum ≤ 8) (hdg : decode cc pc = .ok (.invokevirtual index, 3)) (hf : cells + mc ≤ R.cells ∧ slots + ms ≤ R.slots) (hst : st0 = As.reverse ++ .ref b :: rest)
    (kk : ∀ (r : Int64) (w1 : g_W) (H1 : Heap) (locs1 : List Loc), post r w1 → g_P A G w1 H1 → va_S A s.heap H1 locs1 → W p l e R s m args below meth c H1 locs1 (cells + mc) (slots + ms) Q (F0 m (pc + 3) ls (.long r :: rest))) : W p l e R s m args below meth c H locs cells slots Q (F0 m pc ls st0) := by
  obtain ⟨Fx, hK, hZ, hA⟩ := F
  exact va_calll (va_runV Fx hM cw ⟨g_blind, hC ▸ g_P_recv hK hP hc hr, fun U hU hW => ⟨rfl, g_pre hA hK hZ hP hS hU hW⟩⟩ rfl hn hsz hst (lv_room hroom) hdg hf) hS (fun _ _ h => h) (fun _ h => h) (fun r w1 t H1 locs1 ht hvm hw hB hz1 hk1 hS1 => kk r w1 H1 locs1 hw (by rw [← ht]; exact hB) hS1)
theorem g_Vd (F : g_F p m c cc nL s args Ts own A G) (hP : g_P A G w H) (hS : va_S A s.heap H locs) {post : UInt64 → g_W → Prop} (hM : mD l y ws rm (.ref b :: As) A G w post mc ms) (cw : CallW R s args own C index y bytes maxL ret ws rm mc ms n) (hr : w b = some (.inr (ci, fs))) (hc : vwCl[ci]? = some q) (hC : q.1 = C) (hn : As.length = n) (hsz : ls.size = nL) (hroom : (rest.map fun v => v.category).sum ≤ 8) (hdg : decode cc pc = .ok (.invokevirtual index, 3)) (hf : cells + mc ≤ R.cells ∧ slots + ms ≤ R.slots) (hst : st0 = As.reverse ++ .ref b :: rest)
    (kk : ∀ (r : UInt64) (w1 : g_W) (H1 : Heap) (locs1 : List Loc), post r w1 → g_P A G w1 H1 → va_S A s.heap H1 locs1 → W p l e R s m args below meth c H1 locs1 (cells + mc) (slots + ms) Q (F0 m (pc + 3) ls (.double r :: rest))) : W p l e R s m args below meth c H locs cells slots Q (F0 m pc ls st0) := by
  obtain ⟨Fx, hK, hZ, hA⟩ := F
  exact va_calld (va_runV Fx hM cw ⟨g_blind, hC ▸ g_P_recv hK hP hc hr, fun U hU hW => ⟨rfl, g_pre hA hK hZ hP hS hU hW⟩⟩ rfl hn hsz hst (lv_room hroom) hdg hf) hS (fun _ _ h => h) (fun _ h => h) (fun r w1 t H1 locs1 ht hvm hw hB hz1 hk1 hS1 => kk r w1 H1 locs1 hw (by rw [← ht]; exact hB) hS1)
theorem g_Vv (F : g_F p m c cc nL s args Ts own A G) (hP : g_P A G w H) (hS : va_S A s.heap H locs) {post : g_W → Prop} (hM : mV l y ws rm (.ref b :: As) A G w post mc ms) (cw : CallW R s args own C index y bytes maxL ret ws rm mc ms n) (hr : w b = some (.inr (ci, fs))) (hc : vwCl[ci]? = some q) (hC : q.1 = C) (hn : As.length = n) (hsz : ls.size = nL) (hroom : (rest.map fun v => v.category).sum ≤ 8) (hdg : decode cc pc = .ok (.invokevirtual index, 3)) (hf : cells + mc ≤ R.cells ∧ slots + ms ≤ R.slots) (hst : st0 = As.reverse ++ .ref b :: rest)
    (kk : ∀ (w1 : g_W) (H1 : Heap) (locs1 : List Loc), post w1 → g_P A G w1 H1 → va_S A s.heap H1 locs1 → W p l e R s m args below meth c H1 locs1 (cells + mc) (slots + ms) Q (F0 m (pc + 3) ls (rest))) : W p l e R s m args below meth c H locs cells slots Q (F0 m pc ls st0) := by
  obtain ⟨Fx, hK, hZ, hA⟩ := F
  exact va_callv (va_runV Fx hM cw ⟨g_blind, hC ▸ g_P_recv hK hP hc hr, fun U hU hW => ⟨rfl, g_pre hA hK hZ hP hS hU hW⟩⟩ rfl hn hsz hst (lv_room hroom) hdg hf) hS (fun _ _ h => h) (fun _ h => h) (fun  w1 t H1 locs1 ht hvm hw hB hz1 hk1 hS1 => kk  w1 H1 locs1 hw (by rw [← ht]; exact hB) hS1)
theorem g_Vq (F : g_F p m c cc nL s args Ts own A G) (hP : g_P A G w H) (hS : va_S A s.heap H locs) {post : Option Nat → g_W → Prop} (hM : mQ l y ws rm (.ref b :: As) A G w post mc ms) (cw : CallW R s args own C index y bytes maxL ret ws rm mc ms n) (hr : w b = some (.inr (ci, fs))) (hc : vwCl[ci]? = some q) (hC : q.1 = C) (hn : As.length = n) (hsz : ls.size = nL) (hroom : (rest.map fun v => v.category).sum ≤ 8) (hdg : decode cc pc = .ok (.invokevirtual index, 3)) (hf : cells + mc ≤ R.cells ∧ slots + ms ≤ R.slots) (hst : st0 = As.reverse ++ .ref b :: rest)
    (kk : ∀ (r : Option Nat) (w1 : g_W) (H1 : Heap) (locs1 : List Loc), post r w1 → g_P A G w1 H1 → va_S A s.heap H1 locs1 → W p l e R s m args below meth c H1 locs1 (cells + mc) (slots + ms) Q (F0 m (pc + 3) ls (va_rf r :: rest))) : W p l e R s m args below meth c H locs cells slots Q (F0 m pc ls st0) := by
  obtain ⟨Fx, hK, hZ, hA⟩ := F
  exact va_callq (va_runV Fx hM cw ⟨g_blind, hC ▸ g_P_recv hK hP hc hr, fun U hU hW => ⟨rfl, g_pre hA hK hZ hP hS hU hW⟩⟩ rfl hn hsz hst (lv_room hroom) hdg hf) hS (fun _ _ h => h) (fun _ h => h) (fun r w1 t H1 locs1 ht hvm hw hB hz1 hk1 hS1 => kk r w1 H1 locs1 hw (by rw [← ht]; exact hB) hS1)
theorem g_Si (F : g_F p m c cc nL s args Ts own A G) (hP : g_P A G w H) (hS : va_S A s.heap H locs) {post : Int32 → g_W → Prop} (hM : mI l y ws rm As A G w post mc ms) (cw : CallB R s args own index y bytes maxL ret ws rm mc ms n ∧ (Cond.static y).before args s = true) (hn : As.length = n) (hsz : ls.size = nL) (hroom : (rest.map fun v => v.category).sum ≤ 8) (hdg : decode cc pc = .ok (.invokestatic index, 3)) (hf : cells + mc ≤ R.cells ∧ slots + ms ≤ R.slots) (hst : st0 = As.reverse ++ rest)
    (kk : ∀ (r : Int32) (w1 : g_W) (H1 : Heap) (locs1 : List Loc), post r w1 → g_P A G w1 H1 → va_S A s.heap H1 locs1 → W p l e R s m args below meth c H1 locs1 (cells + mc) (slots + ms) Q (F0 m (pc + 3) ls (.int r :: rest))) : W p l e R s m args below meth c H locs cells slots Q (F0 m pc ls st0) := by
  obtain ⟨Fx, hK, hZ, hA⟩ := F
  exact va_calli (va_runS Fx hM cw ⟨g_blind, fun U hU hW => ⟨rfl, g_pre hA hK hZ hP hS hU hW⟩⟩ rfl hn hsz hst (lv_room hroom) hdg hf) hS (fun _ _ h => h) (fun _ h => h) (fun r w1 t H1 locs1 ht hvm hw hB hz1 hk1 hS1 => kk r w1 H1 locs1 hw (by rw [← ht]; exact hB) hS1)
theorem g_Sl (F : g_F p m c cc nL s args Ts own A G) (hP : g_P A G w H) (hS : va_S A s.heap H locs) {post : Int64 → g_W → Prop} (hM : mL l y ws rm As A G w post mc ms) (cw : CallB R s args own index y bytes maxL ret ws rm mc ms n ∧ (Cond.static y).before args s = true) (hn : As.length = n) (hsz : ls.size = nL) (hroom : (rest.map fun v => v.category).sum ≤ 8) (hdg : decode cc pc = .ok (.invokestatic index, 3)) (hf : cells + mc ≤ R.cells ∧ slots + ms ≤ R.slots) (hst : st0 = As.reverse ++ rest)
    (kk : ∀ (r : Int64) (w1 : g_W) (H1 : Heap) (locs1 : List Loc), post r w1 → g_P A G w1 H1 → va_S A s.heap H1 locs1 → W p l e R s m args below meth c H1 locs1 (cells + mc) (slots + ms) Q (F0 m (pc + 3) ls (.long r :: rest))) : W p l e R s m args below meth c H locs cells slots Q (F0 m pc ls st0) := by
  obtain ⟨Fx, hK, hZ, hA⟩ := F
  exact va_calll (va_runS Fx hM cw ⟨g_blind, fun U hU hW => ⟨rfl, g_pre hA hK hZ hP hS hU hW⟩⟩ rfl hn hsz hst (lv_room hroom) hdg hf) hS (fun _ _ h => h) (fun _ h => h) (fun r w1 t H1 locs1 ht hvm hw hB hz1 hk1 hS1 => kk r w1 H1 locs1 hw (by rw [← ht]; exact hB) hS1)
theorem g_Sd (F : g_F p m c cc nL s args Ts own A G) (hP : g_P A G w H) (hS : va_S A s.heap H locs) {post : UInt64 → g_W → Prop} (hM : mD l y ws rm As A G w post mc ms) (cw : CallB R s args own index y bytes maxL ret ws rm mc ms n ∧ (Cond.static y).before args s = true) (hn : As.length = n) (hsz : ls.size = nL) (hroom : (rest.map fun v => v.category).sum ≤ 8) (hdg : decode cc pc = .ok (.invokestatic index, 3)) (hf : cells + mc ≤ R.cells ∧ slots + ms ≤ R.slots) (hst : st0 = As.reverse ++ rest)
    (kk : ∀ (r : UInt64) (w1 : g_W) (H1 : Heap) (locs1 : List Loc), post r w1 → g_P A G w1 H1 → va_S A s.heap H1 locs1 → W p l e R s m args below meth c H1 locs1 (cells + mc) (slots + ms) Q (F0 m (pc + 3) ls (.double r :: rest))) : W p l e R s m args below meth c H locs cells slots Q (F0 m pc ls st0) := by
  obtain ⟨Fx, hK, hZ, hA⟩ := F
  exact va_calld (va_runS Fx hM cw ⟨g_blind, fun U hU hW => ⟨rfl, g_pre hA hK hZ hP hS hU hW⟩⟩ rfl hn hsz hst (lv_room hroom) hdg hf) hS (fun _ _ h => h) (fun _ h => h) (fun r w1 t H1 locs1 ht hvm hw hB hz1 hk1 hS1 => kk r w1 H1 locs1 hw (by rw [← ht]; exact hB) hS1)
theorem g_Sv (F : g_F p m c cc nL s args Ts own A G) (hP : g_P A G w H) (hS : va_S A s.heap H locs) {post : g_W → Prop} (hM : mV l y ws rm As A G w post mc ms) (cw : CallB R s args own index y bytes maxL ret ws rm mc ms n ∧ (Cond.static y).before args s = true) (hn : As.length = n) (hsz : ls.size = nL) (hroom : (rest.map fun v => v.category).sum ≤ 8) (hdg : decode cc pc = .ok (.invokestatic index, 3)) (hf : cells + mc ≤ R.cells ∧ slots + ms ≤ R.slots) (hst : st0 = As.reverse ++ rest)
    (kk : ∀ (w1 : g_W) (H1 : Heap) (locs1 : List Loc), post w1 → g_P A G w1 H1 → va_S A s.heap H1 locs1 → W p l e R s m args below meth c H1 locs1 (cells + mc) (slots + ms) Q (F0 m (pc + 3) ls (rest))) : W p l e R s m args below meth c H locs cells slots Q (F0 m pc ls st0) := by
  obtain ⟨Fx, hK, hZ, hA⟩ := F
  exact va_callv (va_runS Fx hM cw ⟨g_blind, fun U hU hW => ⟨rfl, g_pre hA hK hZ hP hS hU hW⟩⟩ rfl hn hsz hst (lv_room hroom) hdg hf) hS (fun _ _ h => h) (fun _ h => h) (fun  w1 t H1 locs1 ht hvm hw hB hz1 hk1 hS1 => kk  w1 H1 locs1 hw (by rw [← ht]; exact hB) hS1)
theorem g_Sq (F : g_F p m c cc nL s args Ts own A G) (hP : g_P A G w H) (hS : va_S A s.heap H locs) {post : Option Nat → g_W → Prop} (hM : mQ l y ws rm As A G w post mc ms) (cw : CallB R s args own index y bytes maxL ret ws rm mc ms n ∧ (Cond.static y).before args s = true) (hn : As.length = n) (hsz : ls.size = nL) (hroom : (rest.map fun v => v.category).sum ≤ 8) (hdg : decode cc pc = .ok (.invokestatic index, 3)) (hf : cells + mc ≤ R.cells ∧ slots + ms ≤ R.slots) (hst : st0 = As.reverse ++ rest)
    (kk : ∀ (r : Option Nat) (w1 : g_W) (H1 : Heap) (locs1 : List Loc), post r w1 → g_P A G w1 H1 → va_S A s.heap H1 locs1 → W p l e R s m args below meth c H1 locs1 (cells + mc) (slots + ms) Q (F0 m (pc + 3) ls (va_rf r :: rest))) : W p l e R s m args below meth c H locs cells slots Q (F0 m pc ls st0) := by
  obtain ⟨Fx, hK, hZ, hA⟩ := F
  exact va_callq (va_runS Fx hM cw ⟨g_blind, fun U hU hW => ⟨rfl, g_pre hA hK hZ hP hS hU hW⟩⟩ rfl hn hsz hst (lv_room hroom) hdg hf) hS (fun _ _ h => h) (fun _ h => h) (fun r w1 t H1 locs1 ht hvm hw hB hz1 hk1 hS1 => kk r w1 H1 locs1 hw (by rw [← ht]; exact hB) hS1)
theorem g_Iv (F : g_F p m c cc nL s args Ts own A G) (hP : g_P A G w H) (hS : va_S A s.heap H locs) {post : g_W → Prop} (hM : mV l y ws rm (.ref b :: As) A G w post mc ms) (cw : CallB R s args own index y bytes maxL none ws rm mc ms n ∧ y.name = "<init>" ∧ (Cond.instanceMethod y).before args s = true) (hn : As.length = n) (hsz : ls.size = nL) (hroom : (rest.map fun v => v.category).sum ≤ 8) (hdg : decode cc pc = .ok (.invokespecial index, 3)) (hf : cells + mc ≤ R.cells ∧ slots + ms ≤ R.slots) (hst : st0 = As.reverse ++ .ref b :: rest)
    (kk : ∀ (w1 : g_W) (H1 : Heap) (locs1 : List Loc), post w1 → g_P A G w1 H1 → va_S A s.heap H1 locs1 → W p l e R s m args below meth c H1 locs1 (cells + mc) (slots + ms) Q (F0 m (pc + 3) ls (rest))) : W p l e R s m args below meth c H locs cells slots Q (F0 m pc ls st0) := by
  obtain ⟨Fx, hK, hZ, hA⟩ := F
  exact va_callv (va_runI Fx hM cw ⟨g_blind, fun U hU hW => ⟨rfl, g_pre hA hK hZ hP hS hU hW⟩⟩ rfl hn hsz hst (lv_room hroom) hdg hf) hS (fun _ _ h => h) (fun _ h => h) (fun  w1 t H1 locs1 ht hvm hw hB hz1 hk1 hS1 => kk  w1 H1 locs1 hw (by rw [← ht]; exact hB) hS1)
theorem g_xVi (F : g_F p m c cc nL s args Ts own A G) (hP : g_P A G w H) (hS : va_S A s.heap H locs) {post : Int32 → g_W → Prop} {px px0 : String × g_W → Prop} {Qc : Array Value → State → Outcome → State → Prop} {mc0 ms0 : Nat} (hM : xI l y ws rm (.ref b :: As) A G w post px mc ms) (cw : CallW R s args own C index y bytes maxL ret ws rm mc ms n) (hr : w b = some (.inr (ci, fs))) (hc : vwCl[ci]? = some q) (hC : q.1 = C) (hn : As.length = n) (hsz : ls.size = nL) (hroom : (rest.map fun v => v.category).sum ≤ 8) (hdg : decode cc pc = .ok (.invokevirtual index, 3)) (hf : cells + mc ≤ R.cells ∧ slots + ms ≤ R.slots) (hst : st0 = As.reverse ++ .ref b :: rest)
    (hout : ∀ x ∈ c.exceptionTable.toList, False) (hlocks : meth.locks = false) (hmc : cells + mc ≤ mc0) (hms : slots + ms ≤ ms0) (hpx : ∀ u, px u → px0 u)
    (kk : ∀ (r : Int32) (w1 : g_W) (H1 : Heap) (locs1 : List Loc), post r w1 → g_P A G w1 H1 → va_S A s.heap H1 locs1 → W p l e R s m args below meth c H1 locs1 (cells + mc) (slots + ms) (vx_MQ below Qc (vx_X px0 (g_BX A G) A) args s mc0 ms0 A) (F0 m (pc + 3) ls (.int r :: rest))) : W p l e R s m args below meth c H locs cells slots (vx_MQ below Qc (vx_X px0 (g_BX A G) A) args s mc0 ms0 A) (F0 m pc ls st0) := by
  obtain ⟨Fx, hK, hZ, hA⟩ := F
  refine vx_calli (vx_runV Fx hM cw ⟨g_blind, hC ▸ g_P_recv hK hP hc hr, fun U hU hW => ⟨rfl, g_pre hA hK hZ hP hS hU hW⟩⟩ rfl hn hsz hst (lv_room hroom) hdg hf) hS (fun _ _ h => h) (fun _ h => h) (fun _ _ h => h) (fun E ce q9 u t H1 locs1 ht hvm hpu hB hz1 hk1 hS1 hce hcv hcl => ?_) (fun r w1 t H1 locs1 ht hvm hw hB hz1 hk1 hS1 => kk r w1 H1 locs1 hw (by rw [← ht]; exact hB) hS1)
  refine vx_out (fun x hx => (hout x hx).elim) hlocks hce hcv hcl (fun t2 ht2 hvm2 => ⟨u, hpx u hpu, ⟨hB.1, by rw [ht2, ← ht]; exact hB.2⟩, hS1.F ht2⟩) (fun z hz => hS1.2.2 z hz) hmc hms
theorem g_xVl (F : g_F p m c cc nL s args Ts own A G) (hP : g_P A G w H) (hS : va_S A s.heap H locs) {post : Int64 → g_W → Prop} {px px0 : String × g_W → Prop} {Qc : Array Value → State → Outcome → State → Prop} {mc0 ms0 : Nat} (hM : xL l y ws rm (.ref b :: As) A G w post px mc ms) (cw : CallW R s args own C index y bytes maxL ret ws rm mc ms n) (hr : w b = some (.inr (ci, fs))) (hc : vwCl[ci]? = some q) (hC : q.1 = C) (hn : As.length = n) (hsz : ls.size = nL) (hroom : (rest.map fun v => v.category).sum ≤ 8) (hdg : decode cc pc = .ok (.invokevirtual index, 3)) (hf : cells + mc ≤ R.cells ∧ slots + ms ≤ R.slots) (hst : st0 = As.reverse ++ .ref b :: rest)
    (hout : ∀ x ∈ c.exceptionTable.toList, False) (hlocks : meth.locks = false) (hmc : cells + mc ≤ mc0) (hms : slots + ms ≤ ms0) (hpx : ∀ u, px u → px0 u)
    (kk : ∀ (r : Int64) (w1 : g_W) (H1 : Heap) (locs1 : List Loc), post r w1 → g_P A G w1 H1 → va_S A s.heap H1 locs1 → W p l e R s m args below meth c H1 locs1 (cells + mc) (slots + ms) (vx_MQ below Qc (vx_X px0 (g_BX A G) A) args s mc0 ms0 A) (F0 m (pc + 3) ls (.long r :: rest))) : W p l e R s m args below meth c H locs cells slots (vx_MQ below Qc (vx_X px0 (g_BX A G) A) args s mc0 ms0 A) (F0 m pc ls st0) := by
  obtain ⟨Fx, hK, hZ, hA⟩ := F
  refine vx_calll (vx_runV Fx hM cw ⟨g_blind, hC ▸ g_P_recv hK hP hc hr, fun U hU hW => ⟨rfl, g_pre hA hK hZ hP hS hU hW⟩⟩ rfl hn hsz hst (lv_room hroom) hdg hf) hS (fun _ _ h => h) (fun _ h => h) (fun _ _ h => h) (fun E ce q9 u t H1 locs1 ht hvm hpu hB hz1 hk1 hS1 hce hcv hcl => ?_) (fun r w1 t H1 locs1 ht hvm hw hB hz1 hk1 hS1 => kk r w1 H1 locs1 hw (by rw [← ht]; exact hB) hS1)
  refine vx_out (fun x hx => (hout x hx).elim) hlocks hce hcv hcl (fun t2 ht2 hvm2 => ⟨u, hpx u hpu, ⟨hB.1, by rw [ht2, ← ht]; exact hB.2⟩, hS1.F ht2⟩) (fun z hz => hS1.2.2 z hz) hmc hms
theorem g_xVd (F : g_F p m c cc nL s args Ts own A G) (hP : g_P A G w H) (hS : va_S A s.heap H locs) {post : UInt64 → g_W → Prop} {px px0 : String × g_W → Prop} {Qc : Array Value → State → Outcome → State → Prop} {mc0 ms0 : Nat} (hM : xD l y ws rm (.ref b :: As) A G w post px mc ms) (cw : CallW R s args own C index y bytes maxL ret ws rm mc ms n) (hr : w b = some (.inr (ci, fs))) (hc : vwCl[ci]? = some q) (hC : q.1 = C) (hn : As.length = n) (hsz : ls.size = nL) (hroom : (rest.map fun v => v.category).sum ≤ 8) (hdg : decode cc pc = .ok (.invokevirtual index, 3)) (hf : cells + mc ≤ R.cells ∧ slots + ms ≤ R.slots) (hst : st0 = As.reverse ++ .ref b :: rest)
    (hout : ∀ x ∈ c.exceptionTable.toList, False) (hlocks : meth.locks = false) (hmc : cells + mc ≤ mc0) (hms : slots + ms ≤ ms0) (hpx : ∀ u, px u → px0 u)
    (kk : ∀ (r : UInt64) (w1 : g_W) (H1 : Heap) (locs1 : List Loc), post r w1 → g_P A G w1 H1 → va_S A s.heap H1 locs1 → W p l e R s m args below meth c H1 locs1 (cells + mc) (slots + ms) (vx_MQ below Qc (vx_X px0 (g_BX A G) A) args s mc0 ms0 A) (F0 m (pc + 3) ls (.double r :: rest))) : W p l e R s m args below meth c H locs cells slots (vx_MQ below Qc (vx_X px0 (g_BX A G) A) args s mc0 ms0 A) (F0 m pc ls st0) := by
  obtain ⟨Fx, hK, hZ, hA⟩ := F
  refine vx_calld (vx_runV Fx hM cw ⟨g_blind, hC ▸ g_P_recv hK hP hc hr, fun U hU hW => ⟨rfl, g_pre hA hK hZ hP hS hU hW⟩⟩ rfl hn hsz hst (lv_room hroom) hdg hf) hS (fun _ _ h => h) (fun _ h => h) (fun _ _ h => h) (fun E ce q9 u t H1 locs1 ht hvm hpu hB hz1 hk1 hS1 hce hcv hcl => ?_) (fun r w1 t H1 locs1 ht hvm hw hB hz1 hk1 hS1 => kk r w1 H1 locs1 hw (by rw [← ht]; exact hB) hS1)
  refine vx_out (fun x hx => (hout x hx).elim) hlocks hce hcv hcl (fun t2 ht2 hvm2 => ⟨u, hpx u hpu, ⟨hB.1, by rw [ht2, ← ht]; exact hB.2⟩, hS1.F ht2⟩) (fun z hz => hS1.2.2 z hz) hmc hms
theorem g_xVv (F : g_F p m c cc nL s args Ts own A G) (hP : g_P A G w H) (hS : va_S A s.heap H locs) {post : g_W → Prop} {px px0 : String × g_W → Prop} {Qc : Array Value → State → Outcome → State → Prop} {mc0 ms0 : Nat} (hM : xV l y ws rm (.ref b :: As) A G w post px mc ms) (cw : CallW R s args own C index y bytes maxL ret ws rm mc ms n) (hr : w b = some (.inr (ci, fs))) (hc : vwCl[ci]? = some q) (hC : q.1 = C) (hn : As.length = n) (hsz : ls.size = nL) (hroom : (rest.map fun v => v.category).sum ≤ 8) (hdg : decode cc pc = .ok (.invokevirtual index, 3)) (hf : cells + mc ≤ R.cells ∧ slots + ms ≤ R.slots) (hst : st0 = As.reverse ++ .ref b :: rest)
    (hout : ∀ x ∈ c.exceptionTable.toList, False) (hlocks : meth.locks = false) (hmc : cells + mc ≤ mc0) (hms : slots + ms ≤ ms0) (hpx : ∀ u, px u → px0 u)
    (kk : ∀ (w1 : g_W) (H1 : Heap) (locs1 : List Loc), post w1 → g_P A G w1 H1 → va_S A s.heap H1 locs1 → W p l e R s m args below meth c H1 locs1 (cells + mc) (slots + ms) (vx_MQ below Qc (vx_X px0 (g_BX A G) A) args s mc0 ms0 A) (F0 m (pc + 3) ls (rest))) : W p l e R s m args below meth c H locs cells slots (vx_MQ below Qc (vx_X px0 (g_BX A G) A) args s mc0 ms0 A) (F0 m pc ls st0) := by
  obtain ⟨Fx, hK, hZ, hA⟩ := F
  refine vx_callv (vx_runV Fx hM cw ⟨g_blind, hC ▸ g_P_recv hK hP hc hr, fun U hU hW => ⟨rfl, g_pre hA hK hZ hP hS hU hW⟩⟩ rfl hn hsz hst (lv_room hroom) hdg hf) hS (fun _ _ h => h) (fun _ h => h) (fun _ _ h => h) (fun E ce q9 u t H1 locs1 ht hvm hpu hB hz1 hk1 hS1 hce hcv hcl => ?_) (fun  w1 t H1 locs1 ht hvm hw hB hz1 hk1 hS1 => kk  w1 H1 locs1 hw (by rw [← ht]; exact hB) hS1)
  refine vx_out (fun x hx => (hout x hx).elim) hlocks hce hcv hcl (fun t2 ht2 hvm2 => ⟨u, hpx u hpu, ⟨hB.1, by rw [ht2, ← ht]; exact hB.2⟩, hS1.F ht2⟩) (fun z hz => hS1.2.2 z hz) hmc hms
theorem g_xSi (F : g_F p m c cc nL s args Ts own A G) (hP : g_P A G w H) (hS : va_S A s.heap H locs) {post : Int32 → g_W → Prop} {px px0 : String × g_W → Prop} {Qc : Array Value → State → Outcome → State → Prop} {mc0 ms0 : Nat} (hM : xI l y ws rm As A G w post px mc ms) (cw : CallB R s args own index y bytes maxL ret ws rm mc ms n ∧ (Cond.static y).before args s = true) (hn : As.length = n) (hsz : ls.size = nL) (hroom : (rest.map fun v => v.category).sum ≤ 8) (hdg : decode cc pc = .ok (.invokestatic index, 3)) (hf : cells + mc ≤ R.cells ∧ slots + ms ≤ R.slots) (hst : st0 = As.reverse ++ rest)
    (hout : ∀ x ∈ c.exceptionTable.toList, False) (hlocks : meth.locks = false) (hmc : cells + mc ≤ mc0) (hms : slots + ms ≤ ms0) (hpx : ∀ u, px u → px0 u)
    (kk : ∀ (r : Int32) (w1 : g_W) (H1 : Heap) (locs1 : List Loc), post r w1 → g_P A G w1 H1 → va_S A s.heap H1 locs1 → W p l e R s m args below meth c H1 locs1 (cells + mc) (slots + ms) (vx_MQ below Qc (vx_X px0 (g_BX A G) A) args s mc0 ms0 A) (F0 m (pc + 3) ls (.int r :: rest))) : W p l e R s m args below meth c H locs cells slots (vx_MQ below Qc (vx_X px0 (g_BX A G) A) args s mc0 ms0 A) (F0 m pc ls st0) := by
  obtain ⟨Fx, hK, hZ, hA⟩ := F
  refine vx_calli (vx_runS Fx hM cw ⟨g_blind, fun U hU hW => ⟨rfl, g_pre hA hK hZ hP hS hU hW⟩⟩ rfl hn hsz hst (lv_room hroom) hdg hf) hS (fun _ _ h => h) (fun _ h => h) (fun _ _ h => h) (fun E ce q9 u t H1 locs1 ht hvm hpu hB hz1 hk1 hS1 hce hcv hcl => ?_) (fun r w1 t H1 locs1 ht hvm hw hB hz1 hk1 hS1 => kk r w1 H1 locs1 hw (by rw [← ht]; exact hB) hS1)
  refine vx_out (fun x hx => (hout x hx).elim) hlocks hce hcv hcl (fun t2 ht2 hvm2 => ⟨u, hpx u hpu, ⟨hB.1, by rw [ht2, ← ht]; exact hB.2⟩, hS1.F ht2⟩) (fun z hz => hS1.2.2 z hz) hmc hms
theorem g_xSl (F : g_F p m c cc nL s args Ts own A G) (hP : g_P A G w H) (hS : va_S A s.heap H locs) {post : Int64 → g_W → Prop} {px px0 : String × g_W → Prop} {Qc : Array Value → State → Outcome → State → Prop} {mc0 ms0 : Nat} (hM : xL l y ws rm As A G w post px mc ms) (cw : CallB R s args own index y bytes maxL ret ws rm mc ms n ∧ (Cond.static y).before args s = true) (hn : As.length = n) (hsz : ls.size = nL) (hroom : (rest.map fun v => v.category).sum ≤ 8) (hdg : decode cc pc = .ok (.invokestatic index, 3)) (hf : cells + mc ≤ R.cells ∧ slots + ms ≤ R.slots) (hst : st0 = As.reverse ++ rest)
    (hout : ∀ x ∈ c.exceptionTable.toList, False) (hlocks : meth.locks = false) (hmc : cells + mc ≤ mc0) (hms : slots + ms ≤ ms0) (hpx : ∀ u, px u → px0 u)
    (kk : ∀ (r : Int64) (w1 : g_W) (H1 : Heap) (locs1 : List Loc), post r w1 → g_P A G w1 H1 → va_S A s.heap H1 locs1 → W p l e R s m args below meth c H1 locs1 (cells + mc) (slots + ms) (vx_MQ below Qc (vx_X px0 (g_BX A G) A) args s mc0 ms0 A) (F0 m (pc + 3) ls (.long r :: rest))) : W p l e R s m args below meth c H locs cells slots (vx_MQ below Qc (vx_X px0 (g_BX A G) A) args s mc0 ms0 A) (F0 m pc ls st0) := by
  obtain ⟨Fx, hK, hZ, hA⟩ := F
  refine vx_calll (vx_runS Fx hM cw ⟨g_blind, fun U hU hW => ⟨rfl, g_pre hA hK hZ hP hS hU hW⟩⟩ rfl hn hsz hst (lv_room hroom) hdg hf) hS (fun _ _ h => h) (fun _ h => h) (fun _ _ h => h) (fun E ce q9 u t H1 locs1 ht hvm hpu hB hz1 hk1 hS1 hce hcv hcl => ?_) (fun r w1 t H1 locs1 ht hvm hw hB hz1 hk1 hS1 => kk r w1 H1 locs1 hw (by rw [← ht]; exact hB) hS1)
  refine vx_out (fun x hx => (hout x hx).elim) hlocks hce hcv hcl (fun t2 ht2 hvm2 => ⟨u, hpx u hpu, ⟨hB.1, by rw [ht2, ← ht]; exact hB.2⟩, hS1.F ht2⟩) (fun z hz => hS1.2.2 z hz) hmc hms
theorem g_xSd (F : g_F p m c cc nL s args Ts own A G) (hP : g_P A G w H) (hS : va_S A s.heap H locs) {post : UInt64 → g_W → Prop} {px px0 : String × g_W → Prop} {Qc : Array Value → State → Outcome → State → Prop} {mc0 ms0 : Nat} (hM : xD l y ws rm As A G w post px mc ms) (cw : CallB R s args own index y bytes maxL ret ws rm mc ms n ∧ (Cond.static y).before args s = true) (hn : As.length = n) (hsz : ls.size = nL) (hroom : (rest.map fun v => v.category).sum ≤ 8) (hdg : decode cc pc = .ok (.invokestatic index, 3)) (hf : cells + mc ≤ R.cells ∧ slots + ms ≤ R.slots) (hst : st0 = As.reverse ++ rest)
    (hout : ∀ x ∈ c.exceptionTable.toList, False) (hlocks : meth.locks = false) (hmc : cells + mc ≤ mc0) (hms : slots + ms ≤ ms0) (hpx : ∀ u, px u → px0 u)
    (kk : ∀ (r : UInt64) (w1 : g_W) (H1 : Heap) (locs1 : List Loc), post r w1 → g_P A G w1 H1 → va_S A s.heap H1 locs1 → W p l e R s m args below meth c H1 locs1 (cells + mc) (slots + ms) (vx_MQ below Qc (vx_X px0 (g_BX A G) A) args s mc0 ms0 A) (F0 m (pc + 3) ls (.double r :: rest))) : W p l e R s m args below meth c H locs cells slots (vx_MQ below Qc (vx_X px0 (g_BX A G) A) args s mc0 ms0 A) (F0 m pc ls st0) := by
  obtain ⟨Fx, hK, hZ, hA⟩ := F
  refine vx_calld (vx_runS Fx hM cw ⟨g_blind, fun U hU hW => ⟨rfl, g_pre hA hK hZ hP hS hU hW⟩⟩ rfl hn hsz hst (lv_room hroom) hdg hf) hS (fun _ _ h => h) (fun _ h => h) (fun _ _ h => h) (fun E ce q9 u t H1 locs1 ht hvm hpu hB hz1 hk1 hS1 hce hcv hcl => ?_) (fun r w1 t H1 locs1 ht hvm hw hB hz1 hk1 hS1 => kk r w1 H1 locs1 hw (by rw [← ht]; exact hB) hS1)
  refine vx_out (fun x hx => (hout x hx).elim) hlocks hce hcv hcl (fun t2 ht2 hvm2 => ⟨u, hpx u hpu, ⟨hB.1, by rw [ht2, ← ht]; exact hB.2⟩, hS1.F ht2⟩) (fun z hz => hS1.2.2 z hz) hmc hms
theorem g_xSv (F : g_F p m c cc nL s args Ts own A G) (hP : g_P A G w H) (hS : va_S A s.heap H locs) {post : g_W → Prop} {px px0 : String × g_W → Prop} {Qc : Array Value → State → Outcome → State → Prop} {mc0 ms0 : Nat} (hM : xV l y ws rm As A G w post px mc ms) (cw : CallB R s args own index y bytes maxL ret ws rm mc ms n ∧ (Cond.static y).before args s = true) (hn : As.length = n) (hsz : ls.size = nL) (hroom : (rest.map fun v => v.category).sum ≤ 8) (hdg : decode cc pc = .ok (.invokestatic index, 3)) (hf : cells + mc ≤ R.cells ∧ slots + ms ≤ R.slots) (hst : st0 = As.reverse ++ rest)
    (hout : ∀ x ∈ c.exceptionTable.toList, False) (hlocks : meth.locks = false) (hmc : cells + mc ≤ mc0) (hms : slots + ms ≤ ms0) (hpx : ∀ u, px u → px0 u)
    (kk : ∀ (w1 : g_W) (H1 : Heap) (locs1 : List Loc), post w1 → g_P A G w1 H1 → va_S A s.heap H1 locs1 → W p l e R s m args below meth c H1 locs1 (cells + mc) (slots + ms) (vx_MQ below Qc (vx_X px0 (g_BX A G) A) args s mc0 ms0 A) (F0 m (pc + 3) ls (rest))) : W p l e R s m args below meth c H locs cells slots (vx_MQ below Qc (vx_X px0 (g_BX A G) A) args s mc0 ms0 A) (F0 m pc ls st0) := by
  obtain ⟨Fx, hK, hZ, hA⟩ := F
  refine vx_callv (vx_runS Fx hM cw ⟨g_blind, fun U hU hW => ⟨rfl, g_pre hA hK hZ hP hS hU hW⟩⟩ rfl hn hsz hst (lv_room hroom) hdg hf) hS (fun _ _ h => h) (fun _ h => h) (fun _ _ h => h) (fun E ce q9 u t H1 locs1 ht hvm hpu hB hz1 hk1 hS1 hce hcv hcl => ?_) (fun  w1 t H1 locs1 ht hvm hw hB hz1 hk1 hS1 => kk  w1 H1 locs1 hw (by rw [← ht]; exact hB) hS1)
  refine vx_out (fun x hx => (hout x hx).elim) hlocks hce hcv hcl (fun t2 ht2 hvm2 => ⟨u, hpx u hpu, ⟨hB.1, by rw [ht2, ← ht]; exact hB.2⟩, hS1.F ht2⟩) (fun z hz => hS1.2.2 z hz) hmc hms
theorem g_iret (F : g_F p m c cc nL s args Ts own A G) (hP : g_P A G w H) (hS : va_S A s.heap H locs) {post : Int32 → g_W → Prop} {v : Int32} (hlocks : meth.locks = false) (hr : meth.sig.returnType = some .int) (hdg : decode cc pc = .ok (.ireturn, 1)) (hmc : cells ≤ mc) (hms : slots ≤ ms) (hq : post v w) : W p l e R s m args below meth c H locs cells slots (MQ below (va_Qi post (g_B A G) A) args s mc ms A) (F0 m pc ls [.int v]) := by
  obtain ⟨⟨hx, hb, hml, hown, hts⟩, hK, hZ, hA⟩ := F
  
  refine W.widen (k := mc) (n := ms) hmc hms ?_
  exact W.iret hx hb hr (fun t ht hW => ⟨⟨v, w, rfl, hq, by show g_P A G w t.heap; rw [ht]; exact hP⟩, hS.F ht⟩) hS.2.2 hdg hlocks
theorem g_xiret (F : g_F p m c cc nL s args Ts own A G) (hP : g_P A G w H) (hS : va_S A s.heap H locs) {post : Int32 → g_W → Prop} {v : Int32} {XC : String → State → State → Prop} (hlocks : meth.locks = false) (hr : meth.sig.returnType = some .int) (hdg : decode cc pc = .ok (.ireturn, 1)) (hmc : cells ≤ mc) (hms : slots ≤ ms) (hq : post v w) : W p l e R s m args below meth c H locs cells slots (vx_MQ below (va_Qi post (g_B A G) A) XC args s mc ms A) (F0 m pc ls [.int v]) := by
  obtain ⟨⟨hx, hb, hml, hown, hts⟩, hK, hZ, hA⟩ := F
  refine vx_ret ?_
  refine W.widen (k := mc) (n := ms) hmc hms ?_
  exact W.iret hx hb hr (fun t ht hW => ⟨⟨v, w, rfl, hq, by show g_P A G w t.heap; rw [ht]; exact hP⟩, hS.F ht⟩) hS.2.2 hdg hlocks
theorem g_zret (F : g_F p m c cc nL s args Ts own A G) (hP : g_P A G w H) (hS : va_S A s.heap H locs) {post : Int32 → g_W → Prop} {v : Int32} (hlocks : meth.locks = false) (hr : meth.sig.returnType = some .boolean) (hn : narrow .boolean (.int v) = .int v) (hdg : decode cc pc = .ok (.ireturn, 1)) (hmc : cells ≤ mc) (hms : slots ≤ ms) (hq : post v w) : W p l e R s m args below meth c H locs cells slots (MQ below (va_Qi post (g_B A G) A) args s mc ms A) (F0 m pc ls [.int v]) := by
  obtain ⟨⟨hx, hb, hml, hown, hts⟩, hK, hZ, hA⟩ := F
  
  refine W.widen (k := mc) (n := ms) hmc hms ?_
  exact W.zret hx hb hr hn (fun t ht hW => ⟨⟨v, w, rfl, hq, by show g_P A G w t.heap; rw [ht]; exact hP⟩, hS.F ht⟩) hS.2.2 hdg hlocks
theorem g_xzret (F : g_F p m c cc nL s args Ts own A G) (hP : g_P A G w H) (hS : va_S A s.heap H locs) {post : Int32 → g_W → Prop} {v : Int32} {XC : String → State → State → Prop} (hlocks : meth.locks = false) (hr : meth.sig.returnType = some .boolean) (hn : narrow .boolean (.int v) = .int v) (hdg : decode cc pc = .ok (.ireturn, 1)) (hmc : cells ≤ mc) (hms : slots ≤ ms) (hq : post v w) : W p l e R s m args below meth c H locs cells slots (vx_MQ below (va_Qi post (g_B A G) A) XC args s mc ms A) (F0 m pc ls [.int v]) := by
  obtain ⟨⟨hx, hb, hml, hown, hts⟩, hK, hZ, hA⟩ := F
  refine vx_ret ?_
  refine W.widen (k := mc) (n := ms) hmc hms ?_
  exact W.zret hx hb hr hn (fun t ht hW => ⟨⟨v, w, rfl, hq, by show g_P A G w t.heap; rw [ht]; exact hP⟩, hS.F ht⟩) hS.2.2 hdg hlocks
theorem g_lret (F : g_F p m c cc nL s args Ts own A G) (hP : g_P A G w H) (hS : va_S A s.heap H locs) {post : Int64 → g_W → Prop} {v : Int64} (hlocks : meth.locks = false) (hr : meth.sig.returnType = some .long) (hdg : decode cc pc = .ok (.lreturn, 1)) (hmc : cells ≤ mc) (hms : slots ≤ ms) (hq : post v w) : W p l e R s m args below meth c H locs cells slots (MQ below (va_Ql post (g_B A G) A) args s mc ms A) (F0 m pc ls [.long v]) := by
  obtain ⟨⟨hx, hb, hml, hown, hts⟩, hK, hZ, hA⟩ := F
  
  refine W.widen (k := mc) (n := ms) hmc hms ?_
  exact W.lret hx hb hr (fun t ht hW => ⟨⟨v, w, rfl, hq, by show g_P A G w t.heap; rw [ht]; exact hP⟩, hS.F ht⟩) hS.2.2 hdg hlocks
theorem g_xlret (F : g_F p m c cc nL s args Ts own A G) (hP : g_P A G w H) (hS : va_S A s.heap H locs) {post : Int64 → g_W → Prop} {v : Int64} {XC : String → State → State → Prop} (hlocks : meth.locks = false) (hr : meth.sig.returnType = some .long) (hdg : decode cc pc = .ok (.lreturn, 1)) (hmc : cells ≤ mc) (hms : slots ≤ ms) (hq : post v w) : W p l e R s m args below meth c H locs cells slots (vx_MQ below (va_Ql post (g_B A G) A) XC args s mc ms A) (F0 m pc ls [.long v]) := by
  obtain ⟨⟨hx, hb, hml, hown, hts⟩, hK, hZ, hA⟩ := F
  refine vx_ret ?_
  refine W.widen (k := mc) (n := ms) hmc hms ?_
  exact W.lret hx hb hr (fun t ht hW => ⟨⟨v, w, rfl, hq, by show g_P A G w t.heap; rw [ht]; exact hP⟩, hS.F ht⟩) hS.2.2 hdg hlocks
theorem g_dret (F : g_F p m c cc nL s args Ts own A G) (hP : g_P A G w H) (hS : va_S A s.heap H locs) {post : UInt64 → g_W → Prop} {v : UInt64} (hlocks : meth.locks = false) (hr : meth.sig.returnType = some .double) (hdg : decode cc pc = .ok (.dreturn, 1)) (hmc : cells ≤ mc) (hms : slots ≤ ms) (hq : post v w) : W p l e R s m args below meth c H locs cells slots (MQ below (va_Qd post (g_B A G) A) args s mc ms A) (F0 m pc ls [.double v]) := by
  obtain ⟨⟨hx, hb, hml, hown, hts⟩, hK, hZ, hA⟩ := F
  
  refine W.widen (k := mc) (n := ms) hmc hms ?_
  exact W.dret hx hb hr (fun t ht hW => ⟨⟨v, w, rfl, hq, by show g_P A G w t.heap; rw [ht]; exact hP⟩, hS.F ht⟩) hS.2.2 hdg hlocks
theorem g_xdret (F : g_F p m c cc nL s args Ts own A G) (hP : g_P A G w H) (hS : va_S A s.heap H locs) {post : UInt64 → g_W → Prop} {v : UInt64} {XC : String → State → State → Prop} (hlocks : meth.locks = false) (hr : meth.sig.returnType = some .double) (hdg : decode cc pc = .ok (.dreturn, 1)) (hmc : cells ≤ mc) (hms : slots ≤ ms) (hq : post v w) : W p l e R s m args below meth c H locs cells slots (vx_MQ below (va_Qd post (g_B A G) A) XC args s mc ms A) (F0 m pc ls [.double v]) := by
  obtain ⟨⟨hx, hb, hml, hown, hts⟩, hK, hZ, hA⟩ := F
  refine vx_ret ?_
  refine W.widen (k := mc) (n := ms) hmc hms ?_
  exact W.dret hx hb hr (fun t ht hW => ⟨⟨v, w, rfl, hq, by show g_P A G w t.heap; rw [ht]; exact hP⟩, hS.F ht⟩) hS.2.2 hdg hlocks
theorem g_vret (F : g_F p m c cc nL s args Ts own A G) (hP : g_P A G w H) (hS : va_S A s.heap H locs) {post : g_W → Prop} (hlocks : meth.locks = false) (hr : meth.sig.returnType = none) (hdg : decode cc pc = .ok (.return_, 1)) (hmc : cells ≤ mc) (hms : slots ≤ ms) (hq : post w) : W p l e R s m args below meth c H locs cells slots (MQ below (va_Qv post (g_B A G) A) args s mc ms A) (F0 m pc ls []) := by
  obtain ⟨⟨hx, hb, hml, hown, hts⟩, hK, hZ, hA⟩ := F
  
  refine W.widen (k := mc) (n := ms) hmc hms ?_
  exact W.vret hx hb hr (fun t ht hW => ⟨⟨w, rfl, hq, by show g_P A G w t.heap; rw [ht]; exact hP⟩, hS.F ht⟩) hS.2.2 hdg hlocks
theorem g_xvret (F : g_F p m c cc nL s args Ts own A G) (hP : g_P A G w H) (hS : va_S A s.heap H locs) {post : g_W → Prop} {XC : String → State → State → Prop} (hlocks : meth.locks = false) (hr : meth.sig.returnType = none) (hdg : decode cc pc = .ok (.return_, 1)) (hmc : cells ≤ mc) (hms : slots ≤ ms) (hq : post w) : W p l e R s m args below meth c H locs cells slots (vx_MQ below (va_Qv post (g_B A G) A) XC args s mc ms A) (F0 m pc ls []) := by
  obtain ⟨⟨hx, hb, hml, hown, hts⟩, hK, hZ, hA⟩ := F
  refine vx_ret ?_
  refine W.widen (k := mc) (n := ms) hmc hms ?_
  exact W.vret hx hb hr (fun t ht hW => ⟨⟨w, rfl, hq, by show g_P A G w t.heap; rw [ht]; exact hP⟩, hS.F ht⟩) hS.2.2 hdg hlocks
theorem g_aret (F : g_F p m c cc nL s args Ts own A G) (hP : g_P A G w H) (hS : va_S A s.heap H locs) {post : Option Nat → g_W → Prop} {r : Option Nat} {rt : FieldType} (hlocks : meth.locks = false) (hr : meth.sig.returnType = some rt) (hrt : (∃ n, rt = .object n) ∨ ∃ t, rt = .array t) (hdg : decode cc pc = .ok (.areturn, 1)) (hmc : cells ≤ mc) (hms : slots ≤ ms) (hq : post r w) : W p l e R s m args below meth c H locs cells slots (MQ below (va_Qq post (g_B A G) A) args s mc ms A) (F0 m pc ls [va_rf r]) := by
  obtain ⟨⟨hx, hb, hml, hown, hts⟩, hK, hZ, hA⟩ := F
  refine W.widen (k := mc) (n := ms) hmc hms ?_
  exact W.aret hx hb hr hrt (by cases r with | none => exact Or.inl rfl | some x => exact Or.inr ⟨x, rfl⟩) (fun t ht hW => ⟨⟨r, w, rfl, hq, by show g_P A G w t.heap; rw [ht]; exact hP⟩, hS.F ht⟩) hS.2.2 hdg hlocks
/-- throw new E("text") -/
theorem g_throw (F : g_F p m c cc nL s args Ts own A G) (hP : g_P A G w H) (hS : va_S A s.heap H locs) (hl : l.stackTraces = false) {cls text : String} {ik is ic : Nat} {px : String × g_W → Prop} {Qc : Array Value → State → Outcome → State → Prop} (hown6 : own = RX6)
    (hcast : va_Nw (.castable cls cls) s) (hcls : Bundle.fit cls = true)
    (hk : Cond.classLink own ik cls ∈ Ts) (hini : Cond.initialized cls ∈ Ts) (hstr : (is, text) ∈ g_strs) (hat : ∀ w ∈ (vx_atS own ic cls ["java/lang/RuntimeException", "java/lang/Exception"]).filter goodWord, w ∈ Ts)
    (hbad : ∀ w ∈ (vx_atS own ic cls ["java/lang/RuntimeException", "java/lang/Exception"]).filter (fun w => !goodWord w), w ∈ [Cond.declares (Bundle.initS "java/lang/RuntimeException"), Cond.declares (Bundle.initS "java/lang/Exception"), Cond.declares (Bundle.initS Bundle.tN), Cond.castable cls cls])
    (hgood : ∀ w ∈ Cond.classLink own ik cls :: Cond.initialized cls :: vx_atS own ic cls ["java/lang/RuntimeException", "java/lang/Exception"], vx_ot w = true) (hsize : ls.size = nL)
    (d0 : decode cc pc = .ok (.new ik, 3)) (d3 : decode cc (pc + 3) = .ok (.dup, 1)) (d4 : decode cc (pc + 4) = .ok (.ldc is, 2)) (d6 : decode cc (pc + 6) = .ok (.invokespecial ic, 3)) (d9 : decode cc (pc + 9) = .ok (.athrow, 1))
    (hout : ∀ x ∈ c.exceptionTable.toList, False)
    (hRframes : 5 < R.frames) (hRlocals : (rest.map fun v => v.category).sum + 82 ≤ R.locals) (hRcells : cells + 1 ≤ R.cells) (hRslots : slots + 6 ≤ R.slots) (hlocks : meth.locks = false)
    (hpx : px (cls, w)) (hc : cells + 1 ≤ mc) (hs : slots + 6 ≤ ms) :
    W p l e R s m args below meth c H locs cells slots (vx_MQ below Qc (vx_X px (g_BX A G) A) args s mc ms A) (F0 m pc ls rest) := by
  obtain ⟨⟨hx, hb, hml, hown, hts⟩, hK, hZ, hA⟩ := F
  subst hown6
  obtain ⟨sa, hsa⟩ := hZ.2.2.2.2.2.2.2.2.2 (is, text) hstr
  refine vx_throwS (names := ["java/lang/RuntimeException", "java/lang/Exception"]) hx hb hl hown hcls (by decide +kernel) (hts _ hk) (hts _ hini) hsa (vx_hat (fun w hw => hts w (hat w hw)) hbad (vx_c (va_Nw.use rfl (hZ.2.2.2.2.2.2.2.2.1.2 _ (List.mem_of_getElem? (i := 0) rfl))) (vx_c (va_Nw.use rfl (hZ.2.2.2.2.2.2.2.2.1.2 _ (List.mem_of_getElem? (i := 1) rfl))) (vx_c (va_Nw.use rfl (hZ.2.2.2.2.2.2.2.2.1.2 _ (List.mem_of_getElem? (i := 2) rfl))) (vx_c (va_Nw.use rfl hcast) vx_n))))) hgood hZ.2.2.1 hZ.2.2.2.1 hS (hsize.trans hml.symm) d0 d3 d4 d6 d9 (fun x hx => (hout x hx).elim) hRframes hRlocals hRcells hRslots hlocks (fun t hvm hz hk1 => ⟨(cls, w), hpx, ⟨rfl, g_P_kept hP hk1⟩, ⟨Nat.le_trans hS.1 hz, fun q h1 h2 => (hk1 q (Nat.lt_of_lt_of_le h1 hS.1)).trans (hS.2.1 q h1 h2)⟩⟩) hS.2.2 hc hs
end GC
section GO
variable {l : Launch} {y : MethodName} {ws ws' : List Cond} {rm : Room} {As : List Value} {A : Nat → Prop} {G : g_C} {w : g_W} {mc ms maxL : Nat} {cc : ByteArray} {ret : Option FieldType} {own : String} {px : String × g_W → Prop}

theorem g_ofI {post : Int32 → g_W → Prop} (hy : plainName y.cls = true) (hyc : y.cls = own) (hw : ws = Cond.code y cc maxL ret :: ws') (hlen : (lg_sl As).length ≤ maxL)
    (body : ∀ (p : Program) (e : Env) (R : Room) (s : State) (m : MethodId) (args : Array Value) (below : List Frame) (meth : Method) (c : Code) (Q : State → Prop) (ls : Array Slot), R = rm → g_F p m c cc maxL s args ws own A G → g_P A G w s.heap → va_S A s.heap s.heap [] → meth.locks = false → meth.sig.returnType = ret → meth.name = y.name → Q = MQ below (va_Qi post (g_B A G) A) args s mc ms A → lv_has ls maxL (lv_args 0 As) → W p l e R s m args below meth c s.heap [] 0 0 Q (F0 m 0 ls [])) : mI l y ws rm As A G w post mc ms := by
  refine Met.ofW (cc := cc) (maxL := maxL) (ret := ret) hy hw ?_
  intro p e s m args below meth c s₁ B hml hv
  obtain ⟨rfl, hA, hK, hZ, hP⟩ := hv
  have hl := lv_entry As hlen
  rw [lg_entry_eq]
  exact body p e _ s m _ below meth c _ _ rfl ⟨⟨B.exec, B.bytes, hml, by rw [← hyc]; exact findClass_of_methodNamed B.named, atoms_spec (ws := ws) B.pre⟩, hK, hZ, hA⟩ hP va_S.rf B.notSynchronized B.returns (name_of_methodNamed B.named B.method).1 rfl hl
theorem g_xofI {post : Int32 → g_W → Prop} (hy : plainName y.cls = true) (hyc : y.cls = own) (hw : ws = Cond.code y cc maxL ret :: ws') (hlen : (lg_sl As).length ≤ maxL)
    (body : ∀ (p : Program) (e : Env) (R : Room) (s : State) (m : MethodId) (args : Array Value) (below : List Frame) (meth : Method) (c : Code) (Q : State → Prop) (ls : Array Slot), R = rm → g_F p m c cc maxL s args ws own A G → g_P A G w s.heap → va_S A s.heap s.heap [] → meth.locks = false → meth.sig.returnType = ret → (∀ x ∈ c.exceptionTable.toList, False) → Q = vx_MQ below (va_Qi post (g_B A G) A) (vx_X px (g_BX A G) A) args s mc ms A → lv_has ls maxL (lv_args 0 As) → W p l e R s m args below meth c s.heap [] 0 0 Q (F0 m 0 ls [])) : xI l y ws rm As A G w post px mc ms := by
  refine vx_ofW (cc := cc) (maxL := maxL) (ret := ret) hy hw ?_
  intro p e s m args below meth c s₁ B hml hout hv
  obtain ⟨rfl, hA, hK, hZ, hP⟩ := hv
  have hl := lv_entry As hlen
  rw [lg_entry_eq]
  exact body p e _ s m _ below meth c _ _ rfl ⟨⟨B.exec, B.bytes, hml, by rw [← hyc]; exact findClass_of_methodNamed B.named, atoms_spec (ws := ws) B.pre⟩, hK, hZ, hA⟩ hP va_S.rf B.notSynchronized B.returns hout rfl hl
theorem g_ofL {post : Int64 → g_W → Prop} (hy : plainName y.cls = true) (hyc : y.cls = own) (hw : ws = Cond.code y cc maxL ret :: ws') (hlen : (lg_sl As).length ≤ maxL)
    (body : ∀ (p : Program) (e : Env) (R : Room) (s : State) (m : MethodId) (args : Array Value) (below : List Frame) (meth : Method) (c : Code) (Q : State → Prop) (ls : Array Slot), R = rm → g_F p m c cc maxL s args ws own A G → g_P A G w s.heap → va_S A s.heap s.heap [] → meth.locks = false → meth.sig.returnType = ret → meth.name = y.name → Q = MQ below (va_Ql post (g_B A G) A) args s mc ms A → lv_has ls maxL (lv_args 0 As) → W p l e R s m args below meth c s.heap [] 0 0 Q (F0 m 0 ls [])) : mL l y ws rm As A G w post mc ms := by
  refine Met.ofW (cc := cc) (maxL := maxL) (ret := ret) hy hw ?_
  intro p e s m args below meth c s₁ B hml hv
  obtain ⟨rfl, hA, hK, hZ, hP⟩ := hv
  have hl := lv_entry As hlen
  rw [lg_entry_eq]
  exact body p e _ s m _ below meth c _ _ rfl ⟨⟨B.exec, B.bytes, hml, by rw [← hyc]; exact findClass_of_methodNamed B.named, atoms_spec (ws := ws) B.pre⟩, hK, hZ, hA⟩ hP va_S.rf B.notSynchronized B.returns (name_of_methodNamed B.named B.method).1 rfl hl
theorem g_xofL {post : Int64 → g_W → Prop} (hy : plainName y.cls = true) (hyc : y.cls = own) (hw : ws = Cond.code y cc maxL ret :: ws') (hlen : (lg_sl As).length ≤ maxL)
    (body : ∀ (p : Program) (e : Env) (R : Room) (s : State) (m : MethodId) (args : Array Value) (below : List Frame) (meth : Method) (c : Code) (Q : State → Prop) (ls : Array Slot), R = rm → g_F p m c cc maxL s args ws own A G → g_P A G w s.heap → va_S A s.heap s.heap [] → meth.locks = false → meth.sig.returnType = ret → (∀ x ∈ c.exceptionTable.toList, False) → Q = vx_MQ below (va_Ql post (g_B A G) A) (vx_X px (g_BX A G) A) args s mc ms A → lv_has ls maxL (lv_args 0 As) → W p l e R s m args below meth c s.heap [] 0 0 Q (F0 m 0 ls [])) : xL l y ws rm As A G w post px mc ms := by
  refine vx_ofW (cc := cc) (maxL := maxL) (ret := ret) hy hw ?_
  intro p e s m args below meth c s₁ B hml hout hv
  obtain ⟨rfl, hA, hK, hZ, hP⟩ := hv
  have hl := lv_entry As hlen
  rw [lg_entry_eq]
  exact body p e _ s m _ below meth c _ _ rfl ⟨⟨B.exec, B.bytes, hml, by rw [← hyc]; exact findClass_of_methodNamed B.named, atoms_spec (ws := ws) B.pre⟩, hK, hZ, hA⟩ hP va_S.rf B.notSynchronized B.returns hout rfl hl
theorem g_ofD {post : UInt64 → g_W → Prop} (hy : plainName y.cls = true) (hyc : y.cls = own) (hw : ws = Cond.code y cc maxL ret :: ws') (hlen : (lg_sl As).length ≤ maxL)
    (body : ∀ (p : Program) (e : Env) (R : Room) (s : State) (m : MethodId) (args : Array Value) (below : List Frame) (meth : Method) (c : Code) (Q : State → Prop) (ls : Array Slot), R = rm → g_F p m c cc maxL s args ws own A G → g_P A G w s.heap → va_S A s.heap s.heap [] → meth.locks = false → meth.sig.returnType = ret → meth.name = y.name → Q = MQ below (va_Qd post (g_B A G) A) args s mc ms A → lv_has ls maxL (lv_args 0 As) → W p l e R s m args below meth c s.heap [] 0 0 Q (F0 m 0 ls [])) : mD l y ws rm As A G w post mc ms := by
  refine Met.ofW (cc := cc) (maxL := maxL) (ret := ret) hy hw ?_
  intro p e s m args below meth c s₁ B hml hv
  obtain ⟨rfl, hA, hK, hZ, hP⟩ := hv
  have hl := lv_entry As hlen
  rw [lg_entry_eq]
  exact body p e _ s m _ below meth c _ _ rfl ⟨⟨B.exec, B.bytes, hml, by rw [← hyc]; exact findClass_of_methodNamed B.named, atoms_spec (ws := ws) B.pre⟩, hK, hZ, hA⟩ hP va_S.rf B.notSynchronized B.returns (name_of_methodNamed B.named B.method).1 rfl hl
theorem g_xofD {post : UInt64 → g_W → Prop} (hy : plainName y.cls = true) (hyc : y.cls = own) (hw : ws = Cond.code y cc maxL ret :: ws') (hlen : (lg_sl As).length ≤ maxL)
    (body : ∀ (p : Program) (e : Env) (R : Room) (s : State) (m : MethodId) (args : Array Value) (below : List Frame) (meth : Method) (c : Code) (Q : State → Prop) (ls : Array Slot), R = rm → g_F p m c cc maxL s args ws own A G → g_P A G w s.heap → va_S A s.heap s.heap [] → meth.locks = false → meth.sig.returnType = ret → (∀ x ∈ c.exceptionTable.toList, False) → Q = vx_MQ below (va_Qd post (g_B A G) A) (vx_X px (g_BX A G) A) args s mc ms A → lv_has ls maxL (lv_args 0 As) → W p l e R s m args below meth c s.heap [] 0 0 Q (F0 m 0 ls [])) : xD l y ws rm As A G w post px mc ms := by
  refine vx_ofW (cc := cc) (maxL := maxL) (ret := ret) hy hw ?_
  intro p e s m args below meth c s₁ B hml hout hv
  obtain ⟨rfl, hA, hK, hZ, hP⟩ := hv
  have hl := lv_entry As hlen
  rw [lg_entry_eq]
  exact body p e _ s m _ below meth c _ _ rfl ⟨⟨B.exec, B.bytes, hml, by rw [← hyc]; exact findClass_of_methodNamed B.named, atoms_spec (ws := ws) B.pre⟩, hK, hZ, hA⟩ hP va_S.rf B.notSynchronized B.returns hout rfl hl
theorem g_ofV {post : g_W → Prop} (hy : plainName y.cls = true) (hyc : y.cls = own) (hw : ws = Cond.code y cc maxL ret :: ws') (hlen : (lg_sl As).length ≤ maxL)
    (body : ∀ (p : Program) (e : Env) (R : Room) (s : State) (m : MethodId) (args : Array Value) (below : List Frame) (meth : Method) (c : Code) (Q : State → Prop) (ls : Array Slot), R = rm → g_F p m c cc maxL s args ws own A G → g_P A G w s.heap → va_S A s.heap s.heap [] → meth.locks = false → meth.sig.returnType = ret → meth.name = y.name → Q = MQ below (va_Qv post (g_B A G) A) args s mc ms A → lv_has ls maxL (lv_args 0 As) → W p l e R s m args below meth c s.heap [] 0 0 Q (F0 m 0 ls [])) : mV l y ws rm As A G w post mc ms := by
  refine Met.ofW (cc := cc) (maxL := maxL) (ret := ret) hy hw ?_
  intro p e s m args below meth c s₁ B hml hv
  obtain ⟨rfl, hA, hK, hZ, hP⟩ := hv
  have hl := lv_entry As hlen
  rw [lg_entry_eq]
  exact body p e _ s m _ below meth c _ _ rfl ⟨⟨B.exec, B.bytes, hml, by rw [← hyc]; exact findClass_of_methodNamed B.named, atoms_spec (ws := ws) B.pre⟩, hK, hZ, hA⟩ hP va_S.rf B.notSynchronized B.returns (name_of_methodNamed B.named B.method).1 rfl hl
theorem g_xofV {post : g_W → Prop} (hy : plainName y.cls = true) (hyc : y.cls = own) (hw : ws = Cond.code y cc maxL ret :: ws') (hlen : (lg_sl As).length ≤ maxL)
    (body : ∀ (p : Program) (e : Env) (R : Room) (s : State) (m : MethodId) (args : Array Value) (below : List Frame) (meth : Method) (c : Code) (Q : State → Prop) (ls : Array Slot), R = rm → g_F p m c cc maxL s args ws own A G → g_P A G w s.heap → va_S A s.heap s.heap [] → meth.locks = false → meth.sig.returnType = ret → (∀ x ∈ c.exceptionTable.toList, False) → Q = vx_MQ below (va_Qv post (g_B A G) A) (vx_X px (g_BX A G) A) args s mc ms A → lv_has ls maxL (lv_args 0 As) → W p l e R s m args below meth c s.heap [] 0 0 Q (F0 m 0 ls [])) : xV l y ws rm As A G w post px mc ms := by
  refine vx_ofW (cc := cc) (maxL := maxL) (ret := ret) hy hw ?_
  intro p e s m args below meth c s₁ B hml hout hv
  obtain ⟨rfl, hA, hK, hZ, hP⟩ := hv
  have hl := lv_entry As hlen
  rw [lg_entry_eq]
  exact body p e _ s m _ below meth c _ _ rfl ⟨⟨B.exec, B.bytes, hml, by rw [← hyc]; exact findClass_of_methodNamed B.named, atoms_spec (ws := ws) B.pre⟩, hK, hZ, hA⟩ hP va_S.rf B.notSynchronized B.returns hout rfl hl
theorem g_ofQ {post : Option Nat → g_W → Prop} (hy : plainName y.cls = true) (hyc : y.cls = own) (hw : ws = Cond.code y cc maxL ret :: ws') (hlen : (lg_sl As).length ≤ maxL)
    (body : ∀ (p : Program) (e : Env) (R : Room) (s : State) (m : MethodId) (args : Array Value) (below : List Frame) (meth : Method) (c : Code) (Q : State → Prop) (ls : Array Slot), R = rm → g_F p m c cc maxL s args ws own A G → g_P A G w s.heap → va_S A s.heap s.heap [] → meth.locks = false → meth.sig.returnType = ret → meth.name = y.name → Q = MQ below (va_Qq post (g_B A G) A) args s mc ms A → lv_has ls maxL (lv_args 0 As) → W p l e R s m args below meth c s.heap [] 0 0 Q (F0 m 0 ls [])) : mQ l y ws rm As A G w post mc ms := by
  refine Met.ofW (cc := cc) (maxL := maxL) (ret := ret) hy hw ?_
  intro p e s m args below meth c s₁ B hml hv
  obtain ⟨rfl, hA, hK, hZ, hP⟩ := hv
  have hl := lv_entry As hlen
  rw [lg_entry_eq]
  exact body p e _ s m _ below meth c _ _ rfl ⟨⟨B.exec, B.bytes, hml, by rw [← hyc]; exact findClass_of_methodNamed B.named, atoms_spec (ws := ws) B.pre⟩, hK, hZ, hA⟩ hP va_S.rf B.notSynchronized B.returns (name_of_methodNamed B.named B.method).1 rfl hl
end GO
