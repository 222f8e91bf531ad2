/-! calls in a method with a table of its own; the law's helpers -/
section LH
variable {p : Program} {l : Launch} {e : Env} {R : Room} {s : State} {m : MethodId} {args : Array Value} {below : List Frame} {meth : Method} {c : Code} {H : Heap} {locs : List Loc} {cells slots : Nat} {Q : State → Prop}
variable {cc bytes : ByteArray} {pc nL maxL index n mc ms ci : Nat} {ls : Array Slot} {rest st0 As : List Value} {A : Nat → Prop} {G : g_C} {w : g_W} {Ts ws ws' : List Cond} {own C : String} {b : Nat} {y : MethodName} {ret : Option FieldType} {rm : Room} {fs : List Value} {q : vw_C}

theorem g_xofIH {post : Int32 → g_W → Prop} {px : String × g_W → Prop} {hh : List (Nat × Nat × Nat × Nat)} (hy : plainName y.cls = true) (hyc : y.cls = own) (hw : ws = Cond.codeWith y cc maxL ret hh :: ws') (hlen : (lg_sl As).length ≤ maxL)
    (body : ∀ (p : Program) (e : Env) (R : Room) (s : State) (m : MethodId) (args : Array Value) (below : List Frame) (meth : Method) (c : Code) (Q : State → Prop) (ls : Array Slot), R = rm → g_F p m c cc maxL s args ws own A G → g_P A G w s.heap → va_S A s.heap s.heap [] → meth.locks = false → meth.sig.returnType = ret → c.exceptionTable.toList = tableOf hh → Q = vx_MQ below (va_Qi post (g_B A G) A) (vx_X px (g_BX A G) A) args s mc ms A → lv_has ls maxL (lv_args 0 As) → W p l e R s m args below meth c s.heap [] 0 0 Q (F0 m 0 ls [])) : xI l y ws rm As A G w post px mc ms := by
  refine vx_ofWH (cc := cc) (maxL := maxL) (ret := ret) (hh := hh) hy hw ?_
  intro p e s m args below meth c s₁ B hml hv
  obtain ⟨rfl, hA, hK, hZ, hP⟩ := hv
  have hl := lv_entry As hlen
  have hts := atoms_spec (ws := ws) B.pre
  have htab := vx_table (x := y) B (hts _ (by rw [hw]; exact List.mem_cons_self))
  rw [lg_entry_eq]
  exact body p e _ s m _ below meth c _ _ rfl ⟨⟨B.exec, B.bytes, hml, by rw [← hyc]; exact findClass_of_methodNamed B.named, hts⟩, hK, hZ, hA⟩ hP va_S.rf B.notSynchronized B.returns htab rfl hl
theorem g_cVi (F : g_F p m c cc nL s args Ts own A G) (hP : g_P A G w H) (hS : va_S A s.heap H locs) {post : Int32 → g_W → Prop} {px : String × g_W → Prop} (hM : xI l y ws rm (.ref b :: As) A G w post px mc ms) (cw : CallW R s args own C index y bytes maxL ret ws rm mc ms n) (hr : w b = some (.inr (ci, fs))) (hc : vwCl[ci]? = some q) (hC : q.1 = C) (hn : As.length = n) (hsz : ls.size = nL) (hroom : (rest.map fun v => v.category).sum ≤ 8) (hdg : decode cc pc = .ok (.invokevirtual index, 3)) (hf : cells + mc ≤ R.cells ∧ slots + ms ≤ R.slots) (hst : st0 = As.reverse ++ .ref b :: rest)
    (kx : ∀ (E : String) (w1 : g_W) (ce : Cell) (q9 : Nat) (H1 : Heap) (locs1 : List Loc), px (E, w1) → g_P A G w1 H1 → va_S A s.heap H1 locs1 → H1[q9]? = some ce → ce.vm = .none → s.vm.findClass E = some ce.cls → vx_W p l e R s m args below meth c H1 locs1 (cells + mc) (slots + ms) Q (F0 m pc ls rest) q9)
    (kk : ∀ (r : Int32) (w1 : g_W) (H1 : Heap) (locs1 : List Loc), post r w1 → g_P A G w1 H1 → va_S A s.heap H1 locs1 → W p l e R s m args below meth c H1 locs1 (cells + mc) (slots + ms) Q (F0 m (pc + 3) ls (.int r :: rest))) : W p l e R s m args below meth c H locs cells slots Q (F0 m pc ls st0) := by
  obtain ⟨Fx, hK, hZ, hA⟩ := F
  refine vx_calli (vx_runV Fx hM cw ⟨g_blind, hC ▸ g_P_recv hK hP hc hr, fun U hU hW => ⟨rfl, g_pre hA hK hZ hP hS hU hW⟩⟩ rfl hn hsz hst (lv_room hroom) hdg hf) hS (fun _ _ h => h) (fun _ h => h) (fun _ _ h => h) (fun E ce q9 u t H1 locs1 ht hvm hpu hB hz1 hk1 hS1 hce hcv hcl => ?_) (fun r w1 t H1 locs1 ht hvm hw hB hz1 hk1 hS1 => kk r w1 H1 locs1 hw (by rw [← ht]; exact hB) hS1)
  obtain ⟨E1, w1⟩ := u
  obtain ⟨rfl, hB2⟩ := hB
  exact kx E1 w1 ce q9 H1 locs1 hpu (by rw [← ht]; exact hB2) hS1 hce hcv hcl
theorem g_cVl (F : g_F p m c cc nL s args Ts own A G) (hP : g_P A G w H) (hS : va_S A s.heap H locs) {post : Int64 → g_W → Prop} {px : String × g_W → Prop} (hM : xL l y ws rm (.ref b :: As) A G w post px mc ms) (cw : CallW R s args own C index y bytes maxL ret ws rm mc ms n) (hr : w b = some (.inr (ci, fs))) (hc : vwCl[ci]? = some q) (hC : q.1 = C) (hn : As.length = n) (hsz : ls.size = nL) (hroom : (rest.map fun v => v.category).sum ≤ 8) (hdg : decode cc pc = .ok (.invokevirtual index, 3)) (hf : cells + mc ≤ R.cells ∧ slots + ms ≤ R.slots) (hst : st0 = As.reverse ++ .ref b :: rest)
    (kx : ∀ (E : String) (w1 : g_W) (ce : Cell) (q9 : Nat) (H1 : Heap) (locs1 : List Loc), px (E, w1) → g_P A G w1 H1 → va_S A s.heap H1 locs1 → H1[q9]? = some ce → ce.vm = .none → s.vm.findClass E = some ce.cls → vx_W p l e R s m args below meth c H1 locs1 (cells + mc) (slots + ms) Q (F0 m pc ls rest) q9)
    (kk : ∀ (r : Int64) (w1 : g_W) (H1 : Heap) (locs1 : List Loc), post r w1 → g_P A G w1 H1 → va_S A s.heap H1 locs1 → W p l e R s m args below meth c H1 locs1 (cells + mc) (slots + ms) Q (F0 m (pc + 3) ls (.long r :: rest))) : W p l e R s m args below meth c H locs cells slots Q (F0 m pc ls st0) := by
  obtain ⟨Fx, hK, hZ, hA⟩ := F
  refine vx_calll (vx_runV Fx hM cw ⟨g_blind, hC ▸ g_P_recv hK hP hc hr, fun U hU hW => ⟨rfl, g_pre hA hK hZ hP hS hU hW⟩⟩ rfl hn hsz hst (lv_room hroom) hdg hf) hS (fun _ _ h => h) (fun _ h => h) (fun _ _ h => h) (fun E ce q9 u t H1 locs1 ht hvm hpu hB hz1 hk1 hS1 hce hcv hcl => ?_) (fun r w1 t H1 locs1 ht hvm hw hB hz1 hk1 hS1 => kk r w1 H1 locs1 hw (by rw [← ht]; exact hB) hS1)
  obtain ⟨E1, w1⟩ := u
  obtain ⟨rfl, hB2⟩ := hB
  exact kx E1 w1 ce q9 H1 locs1 hpu (by rw [← ht]; exact hB2) hS1 hce hcv hcl
theorem g_cVd (F : g_F p m c cc nL s args Ts own A G) (hP : g_P A G w H) (hS : va_S A s.heap H locs) {post : UInt64 → g_W → Prop} {px : String × g_W → Prop} (hM : xD l y ws rm (.ref b :: As) A G w post px mc ms) (cw : CallW R s args own C index y bytes maxL ret ws rm mc ms n) (hr : w b = some (.inr (ci, fs))) (hc : vwCl[ci]? = some q) (hC : q.1 = C) (hn : As.length = n) (hsz : ls.size = nL) (hroom : (rest.map fun v => v.category).sum ≤ 8) (hdg : decode cc pc = .ok (.invokevirtual index, 3)) (hf : cells + mc ≤ R.cells ∧ slots + ms ≤ R.slots) (hst : st0 = As.reverse ++ .ref b :: rest)
    (kx : ∀ (E : String) (w1 : g_W) (ce : Cell) (q9 : Nat) (H1 : Heap) (locs1 : List Loc), px (E, w1) → g_P A G w1 H1 → va_S A s.heap H1 locs1 → H1[q9]? = some ce → ce.vm = .none → s.vm.findClass E = some ce.cls → vx_W p l e R s m args below meth c H1 locs1 (cells + mc) (slots + ms) Q (F0 m pc ls rest) q9)
    (kk : ∀ (r : UInt64) (w1 : g_W) (H1 : Heap) (locs1 : List Loc), post r w1 → g_P A G w1 H1 → va_S A s.heap H1 locs1 → W p l e R s m args below meth c H1 locs1 (cells + mc) (slots + ms) Q (F0 m (pc + 3) ls (.double r :: rest))) : W p l e R s m args below meth c H locs cells slots Q (F0 m pc ls st0) := by
  obtain ⟨Fx, hK, hZ, hA⟩ := F
  refine vx_calld (vx_runV Fx hM cw ⟨g_blind, hC ▸ g_P_recv hK hP hc hr, fun U hU hW => ⟨rfl, g_pre hA hK hZ hP hS hU hW⟩⟩ rfl hn hsz hst (lv_room hroom) hdg hf) hS (fun _ _ h => h) (fun _ h => h) (fun _ _ h => h) (fun E ce q9 u t H1 locs1 ht hvm hpu hB hz1 hk1 hS1 hce hcv hcl => ?_) (fun r w1 t H1 locs1 ht hvm hw hB hz1 hk1 hS1 => kk r w1 H1 locs1 hw (by rw [← ht]; exact hB) hS1)
  obtain ⟨E1, w1⟩ := u
  obtain ⟨rfl, hB2⟩ := hB
  exact kx E1 w1 ce q9 H1 locs1 hpu (by rw [← ht]; exact hB2) hS1 hce hcv hcl
theorem g_Sxi (F : g_F p m c cc nL s args Ts own A G) (hP : g_P A G w H) (hS : va_S A s.heap H locs) {hh : List (Nat × Nat × Nat × Nat)} {post : Int32 → g_W → Prop} (hM : xI l y ws rm As A G w post (fun _ => False) mc ms) (cw : vx_CSW R s args own index y bytes maxL ret hh ws rm mc ms n) (hn : As.length = n) (hsz : ls.size = nL) (hroom : (rest.map fun v => v.category).sum ≤ 8) (hdg : decode cc pc = .ok (.invokestatic index, 3)) (hf : cells + mc ≤ R.cells ∧ slots + ms ≤ R.slots) (hst : st0 = As.reverse ++ rest)
    (kk : ∀ (r : Int32) (w1 : g_W) (H1 : Heap) (locs1 : List Loc), post r w1 → g_P A G w1 H1 → va_S A s.heap H1 locs1 → W p l e R s m args below meth c H1 locs1 (cells + mc) (slots + ms) Q (F0 m (pc + 3) ls (.int r :: rest))) : W p l e R s m args below meth c H locs cells slots Q (F0 m pc ls st0) := by
  obtain ⟨Fx, hK, hZ, hA⟩ := F
  exact vx_calli (vx_runSX Fx hM cw ⟨g_blind, fun U hU hW => ⟨rfl, g_pre hA hK hZ hP hS hU hW⟩⟩ rfl hn hsz hst (lv_room hroom) hdg hf) hS (fun _ _ h => h) (fun _ h => h) (fun _ _ h => h) (fun E ce q9 u t H1 locs1 ht hvm hpu hB hz1 hk1 hS1 hce hcv hcl => hpu.elim) (fun r w1 t H1 locs1 ht hvm hw hB hz1 hk1 hS1 => kk r w1 H1 locs1 hw (by rw [← ht]; exact hB) hS1)
end LH
/-- what a helper of the law answers: a number, and the call's value in the row out -/
def hpP (G : g_C) (w w' : g_W) (o : Nat) (f0 : Nat → Int64) (cd : Nat) (r : Int32) (Wp : g_W → Prop) (v : Int64) : Prop := ((cd ≠ 0 ∧ cd < 4) ∧ r = nI cd ∧ w' = w) ∨ (cd = 0 ∧ r = 0 ∧ ∃ w1, Wp w1 ∧ w' = g_up w1 o (.inl (G.2.1 1, 1, .inr (.inl (vp_updL f0 0 v)))))
def hpD (G : g_C) (w w' : g_W) (o : Nat) (f0 : Nat → UInt64) (cd : Nat) (r : Int32) (v : UInt64) : Prop := ((cd ≠ 0 ∧ cd < 4) ∧ r = nI cd ∧ w' = w) ∨ (cd = 0 ∧ r = 0 ∧ w' = g_up w o (.inl (G.2.1 5, 1, .inr (.inr (.inr (.inl (vf_upd f0 0 v)))))))
theorem hp_no {G : g_C} {w w' : g_W} {o : Nat} {f0 : Nat → Int64} {cd k : Nat} {r : Int32} {Wp : g_W → Prop} {v : Int64} (h : cd = k) (hk : k ≠ 0 ∧ k < 4) (hr : r = nI k) (hw : w' = w) : hpP G w w' o f0 cd r Wp v := by
  subst h
  exact Or.inl ⟨hk, hr, hw⟩
theorem hpD_no {G : g_C} {w w' : g_W} {o : Nat} {f0 : Nat → UInt64} {cd k : Nat} {r : Int32} {v : UInt64} (h : cd = k) (hk : k ≠ 0 ∧ k < 4) (hr : r = nI k) (hw : w' = w) : hpD G w w' o f0 cd r v := by
  subst h
  exact Or.inl ⟨hk, hr, hw⟩
