/-! rows for methods that are given the script; calls that may throw, out of methods that catch or are sure -/
section P25
variable {p : Program} {l : Launch} {e : Env} {R : Room} {s : State} {m : MethodId} {args : Array Value} {below : List Frame} {meth : Method} {c : Code} {H : Heap} {locs : List Loc} {cells slots : Nat} {Q : State → Prop}
variable {cc bytes : ByteArray} {pc nL maxL index n mc ms ci : Nat} {ls : Array Slot} {rest st0 As : List Value} {A : Nat → Prop} {G : g_C} {w : g_W} {Ts ws ws' : List Cond} {own C : String} {b : Nat} {y : MethodName} {ret : Option FieldType} {rm : Room} {fs : List Value} {q : vw_C}

variable {b9 N9 : Nat} {xs : Nat → Int32}
def g_IS (A : Nat → Prop) (G : g_C) (w : g_W) (b N : Nat) (xs : Nat → Int32) : State → Prop := fun U => g_I A G w U ∧ va_X b N xs U U.heap ∧ b < U.heap.size
theorem g_blindS : FrameBlind (va_Pc As (g_IS A G w b9 N9 xs)) := by
  intro a U g mk h
  obtain ⟨h0, h1, h2, h3⟩ := h
  have k : va_Pc As (g_I A G w) a (U.calling g mk a) := g_blind a U g mk ⟨h0, h1⟩
  exact ⟨h0, k.2, va_X.moved (u := U) (U := U.calling g mk a) (Vm.Alike.refl U.vm) h2, h3⟩
theorem g_preS {s U : State} {H : Heap} (hA : ∀ q : Nat, s.heap.size ≤ q → A q) (hK : g_K G s) (hZ : g_Z A G s s.heap) (hP : g_P A G w H) (hS : va_S A s.heap H locs) (hX : va_X b9 N9 xs s s.heap) (hbl : b9 < s.heap.size) (hbA : ¬ A b9) (hU : U.heap = H) (hW : s.WarmedH U.vm) : g_IS A G w b9 N9 xs U := by
  refine ⟨g_pre hA hK hZ hP hS hU hW, ?_⟩
  subst hU
  exact ⟨va_X.moved hW.alike (hX.kept (hS.2.1 b9 hbl hbA)), Nat.lt_of_lt_of_le hbl hS.1⟩
abbrev mIS (l : Launch) (y : MethodName) (ws : List Cond) (rm : Room) (As : List Value) (A : Nat → Prop) (G : g_C) (w : g_W) (b N : Nat) (xs : Nat → Int32) (post : Int32 → g_W → Prop) (mc ms : Nat) : Prop := Met l y ws rm (va_Pc As (g_IS A G w b N xs)) (va_Qi post (g_B A G) A) mc ms A
abbrev xQS (l : Launch) (y : MethodName) (ws : List Cond) (rm : Room) (As : List Value) (A : Nat → Prop) (G : g_C) (w : g_W) (b N : Nat) (xs : Nat → Int32) (post : Option Nat → g_W → Prop) (px : String × g_W → Prop) (mc ms : Nat) : Prop := vx_Met l y ws rm (va_Pc As (g_IS A G w b N xs)) (va_Qq post (g_B A G) A) (vx_X px (g_BX A G) A) mc ms A
theorem g_ofIS {post : Int32 → g_W → Prop} (hy : plainName y.cls = true) (hyc : y.cls = own) (hw : ws = Cond.code y cc maxL ret :: ws') (hlen : (lg_sl As).length ≤ maxL)
    (body : ∀ (p : Program) (e : Env) (R : Room) (s : State) (m : MethodId) (args : Array Value) (below : List Frame) (meth : Method) (c : Code) (Q : State → Prop) (ls : Array Slot), R = rm → g_F p m c cc maxL s args ws own A G → g_P A G w s.heap → va_S A s.heap s.heap [] → va_X b9 N9 xs s s.heap → b9 < s.heap.size → meth.locks = false → meth.sig.returnType = ret → Q = MQ below (va_Qi post (g_B A G) A) args s mc ms A → lv_has ls maxL (lv_args 0 As) → W p l e R s m args below meth c s.heap [] 0 0 Q (F0 m 0 ls [])) : mIS l y ws rm As A G w b9 N9 xs post mc ms := by
  refine Met.ofW (cc := cc) (maxL := maxL) (ret := ret) hy hw ?_
  intro p e s m args below meth c s₁ B hml hv
  obtain ⟨rfl, ⟨hA, hK, hZ, hP⟩, hX, hbl⟩ := hv
  have hl := lv_entry As hlen
  rw [lg_entry_eq]
  exact body p e _ s m _ below meth c _ _ rfl ⟨⟨B.exec, B.bytes, hml, by rw [← hyc]; exact findClass_of_methodNamed B.named, atoms_spec (ws := ws) B.pre⟩, hK, hZ, hA⟩ hP va_S.rf hX hbl B.notSynchronized B.returns rfl hl
theorem g_SiS (F : g_F p m c cc nL s args Ts own A G) (hP : g_P A G w H) (hS : va_S A s.heap H locs) (hX : va_X b9 N9 xs s s.heap) (hbl : b9 < s.heap.size) (hbA : ¬ A b9) {post : Int32 → g_W → Prop} (hM : mIS l y ws rm As A G w b9 N9 xs post mc ms) (cw : CallB R s args own index y bytes maxL ret ws rm mc ms n ∧ (Cond.static y).before args s = true) (hn : As.length = n) (hsz : ls.size = nL) (hroom : (rest.map fun v => v.category).sum ≤ 8) (hdg : decode cc pc = .ok (.invokestatic index, 3)) (hf : cells + mc ≤ R.cells ∧ slots + ms ≤ R.slots) (hst : st0 = As.reverse ++ rest)
    (kk : ∀ (r : Int32) (w1 : g_W) (H1 : Heap) (locs1 : List Loc), post r w1 → g_P A G w1 H1 → va_S A s.heap H1 locs1 → W p l e R s m args below meth c H1 locs1 (cells + mc) (slots + ms) Q (F0 m (pc + 3) ls (.int r :: rest))) : W p l e R s m args below meth c H locs cells slots Q (F0 m pc ls st0) := by
  obtain ⟨Fx, hK, hZ, hA⟩ := F
  exact va_calli (va_runS Fx hM cw ⟨g_blindS, fun U hU hW => ⟨rfl, g_preS hA hK hZ hP hS hX hbl hbA hU hW⟩⟩ rfl hn hsz hst (lv_room hroom) hdg hf) hS (fun _ _ h => h) (fun _ h => h) (fun r w1 t H1 locs1 ht hvm hw hB hz1 hk1 hS1 => kk r w1 H1 locs1 hw (by rw [← ht]; exact hB) hS1)
theorem g_xofQSH {post : Option Nat → g_W → Prop} {px : String × g_W → Prop} {hh : List (Nat × Nat × Nat × Nat)} (hy : plainName y.cls = true) (hyc : y.cls = own) (hw : ws = Cond.codeWith y cc maxL ret hh :: ws') (hlen : (lg_sl As).length ≤ maxL)
    (body : ∀ (p : Program) (e : Env) (R : Room) (s : State) (m : MethodId) (args : Array Value) (below : List Frame) (meth : Method) (c : Code) (Q : State → Prop) (ls : Array Slot), R = rm → g_F p m c cc maxL s args ws own A G → g_P A G w s.heap → va_S A s.heap s.heap [] → va_X b9 N9 xs s s.heap → b9 < s.heap.size → meth.locks = false → meth.sig.returnType = ret → c.exceptionTable.toList = tableOf hh → Q = vx_MQ below (va_Qq post (g_B A G) A) (vx_X px (g_BX A G) A) args s mc ms A → lv_has ls maxL (lv_args 0 As) → W p l e R s m args below meth c s.heap [] 0 0 Q (F0 m 0 ls [])) : xQS l y ws rm As A G w b9 N9 xs post px mc ms := by
  refine vx_ofWH (cc := cc) (maxL := maxL) (ret := ret) (hh := hh) hy hw ?_
  intro p e s m args below meth c s₁ B hml hv
  obtain ⟨rfl, ⟨hA, hK, hZ, hP⟩, hX, hbl⟩ := hv
  have hl := lv_entry As hlen
  have hts := atoms_spec (ws := ws) B.pre
  have htab := vx_table (x := y) B (hts _ (by rw [hw]; exact List.mem_cons_self))
  rw [lg_entry_eq]
  exact body p e _ s m _ below meth c _ _ rfl ⟨⟨B.exec, B.bytes, hml, by rw [← hyc]; exact findClass_of_methodNamed B.named, hts⟩, hK, hZ, hA⟩ hP va_S.rf hX hbl B.notSynchronized B.returns htab rfl hl
theorem g_xaret (F : g_F p m c cc nL s args Ts own A G) (hP : g_P A G w H) (hS : va_S A s.heap H locs) {post : Option Nat → g_W → Prop} {r : Option Nat} {rt : FieldType} {XC : String → State → State → Prop} (hlocks : meth.locks = false) (hr : meth.sig.returnType = some rt) (hrt : (∃ n, rt = .object n) ∨ ∃ t, rt = .array t) (hdg : decode cc pc = .ok (.areturn, 1)) (hmc : cells ≤ mc) (hms : slots ≤ ms) (hq : post r w) : W p l e R s m args below meth c H locs cells slots (vx_MQ below (va_Qq post (g_B A G) A) XC args s mc ms A) (F0 m pc ls [va_rf r]) := by
  obtain ⟨⟨hx, hb, hml, hown, hts⟩, hK, hZ, hA⟩ := F
  refine vx_ret ?_
  refine W.widen (k := mc) (n := ms) hmc hms ?_
  exact W.aret hx hb hr hrt (by cases r with | none => exact Or.inl rfl | some x => exact Or.inr ⟨x, rfl⟩) (fun t ht hW => ⟨⟨r, w, rfl, hq, by show g_P A G w t.heap; rw [ht]; exact hP⟩, hS.F ht⟩) hS.2.2 hdg hlocks
theorem g_callq {S SX : Type} {post : Option Nat → S → Prop} {px : SX → Prop} {B : S → State → Prop} {BX : String → SX → State → Prop} {A0 A1 AX : Nat → Prop} {free : Addr → Prop} {a : Array Value} (hr : vx_Run p l e R s m args below meth c H locs cells slots mc ms (F0 m pc ls st0) rest (va_Qq post B A1 a) (vx_X px BX AX) free) (hS : va_S A0 s.heap H locs) (hA : ∀ q, q < H.size → A1 q → A0 q) (hf : ∀ q, free q → A0 q) (hAX : ∀ q, q < H.size → AX q → A0 q) (hno : ∀ u, ¬ px u)
    (kk : ∀ (r : Option Nat) (u : S) (t : State) (H1 : Heap) (locs1 : List Loc), t.heap = H1 → s.vm.Alike t.vm → post r u → B u t → H.size ≤ H1.size → (∀ q : Nat, q < H.size → ¬ A1 q → H1[q]? = H[q]?) → va_S A0 s.heap H1 locs1 → W p l e R s m args below meth c H1 locs1 (cells + mc) (slots + ms) Q (F0 m (pc + 3) ls (va_rf r :: rest))) : W p l e R s m args below meth c H locs cells slots Q (F0 m pc ls st0) := by
  intro T hT X
  rcases hr T hT X with ⟨v, st₀, t, T', L, h0, X', hL, e1, e2, ⟨⟨r, u, hv, hp, hb⟩, hF⟩, st⟩ | ⟨q, st₀, t, T', L, E, ce, h0, X', hL, e1, e2, ⟨u, hp, hb, hF⟩, hce, hcv, hcl, st⟩
  · cases hv
    obtain ⟨k1, k2, k3⟩ := vx_keep h0 e1 hS hA hf hL hF
    obtain ⟨t2, a1, b1⟩ := kk r u t T'.heap (locs ++ L) e1.symm (by rw [← e2]; exact X'.warmed.alike) hp hb k1 k2 k3 T' rfl X'
    exact ⟨t2, st t2 a1, b1⟩
  · exact absurd hp (hno u)
theorem g_SxqS (F : g_F p m c cc nL s args Ts own A G) (hP : g_P A G w H) (hS : va_S A s.heap H locs) (hX : va_X b9 N9 xs s s.heap) (hbl : b9 < s.heap.size) (hbA : ¬ A b9) {hh : List (Nat × Nat × Nat × Nat)} {post : Option Nat → g_W → Prop} (hM : xQS l y ws rm As A G w b9 N9 xs post (fun _ => False) mc ms) (cw : vx_CSW R s args own index y bytes maxL ret hh ws rm mc ms n) (hn : As.length = n) (hsz : ls.size = nL) (hroom : (rest.map fun v => v.category).sum ≤ 8) (hdg : decode cc pc = .ok (.invokestatic index, 3)) (hf : cells + mc ≤ R.cells ∧ slots + ms ≤ R.slots) (hst : st0 = As.reverse ++ rest)
    (kk : ∀ (r : Option Nat) (w1 : g_W) (H1 : Heap) (locs1 : List Loc), post r w1 → g_P A G w1 H1 → va_S A s.heap H1 locs1 → W p l e R s m args below meth c H1 locs1 (cells + mc) (slots + ms) Q (F0 m (pc + 3) ls (va_rf r :: rest))) : W p l e R s m args below meth c H locs cells slots Q (F0 m pc ls st0) := by
  obtain ⟨Fx, hK, hZ, hA⟩ := F
  exact g_callq (vx_runSX Fx hM cw ⟨g_blindS, fun U hU hW => ⟨rfl, g_preS hA hK hZ hP hS hX hbl hbA hU hW⟩⟩ rfl hn hsz hst (lv_room hroom) hdg hf) hS (fun _ _ h => h) (fun _ h => h) (fun _ _ h => h) (fun _ h => h) (fun r w1 t H1 locs1 ht hvm hw hB hz1 hk1 hS1 => kk r w1 H1 locs1 hw (by rw [← ht]; exact hB) hS1)
theorem g_cVi (F : g_F p m c cc nL s args Ts own A G) (hP : g_P A G w H) (hS : va_S A s.heap H locs) {post : Int32 → g_W → Prop} {px : String × g_W → Prop} (hM : xI l y ws rm (.ref b :: As) A G w post px mc ms) (cw : CallW R s args own C index y bytes maxL ret ws rm mc ms n) (hr : w b = some (.inr (ci, fs))) (hc : vwCl[ci]? = some q) (hC : q.1 = C) (hn : As.length = n) (hsz : ls.size = nL) (hroom : (rest.map fun v => v.category).sum ≤ 8) (hdg : decode cc pc = .ok (.invokevirtual index, 3)) (hf : cells + mc ≤ R.cells ∧ slots + ms ≤ R.slots) (hst : st0 = As.reverse ++ .ref b :: rest)
    (kx : ∀ (E : String) (w1 : g_W) (ce : Cell) (q9 : Nat) (H1 : Heap) (locs1 : List Loc), px (E, w1) → g_P A G w1 H1 → va_S A s.heap H1 locs1 → H1[q9]? = some ce → ce.vm = .none → s.vm.findClass E = some ce.cls → vx_W p l e R s m args below meth c H1 locs1 (cells + mc) (slots + ms) Q (F0 m pc ls rest) q9)
    (kk : ∀ (r : Int32) (w1 : g_W) (H1 : Heap) (locs1 : List Loc), post r w1 → g_P A G w1 H1 → va_S A s.heap H1 locs1 → W p l e R s m args below meth c H1 locs1 (cells + mc) (slots + ms) Q (F0 m (pc + 3) ls (.int r :: rest))) : W p l e R s m args below meth c H locs cells slots Q (F0 m pc ls st0) := by
  obtain ⟨Fx, hK, hZ, hA⟩ := F
  refine vx_calli (vx_runV Fx hM cw ⟨g_blind, hC ▸ g_P_recv hK hP hc hr, fun U hU hW => ⟨rfl, g_pre hA hK hZ hP hS hU hW⟩⟩ rfl hn hsz hst (lv_room hroom) hdg hf) hS (fun _ _ h => h) (fun _ h => h) (fun _ _ h => h) (fun E ce q9 u t H1 locs1 ht hvm hpu hB hz1 hk1 hS1 hce hcv hcl => ?_) (fun r w1 t H1 locs1 ht hvm hw hB hz1 hk1 hS1 => kk r w1 H1 locs1 hw (by rw [← ht]; exact hB) hS1)
  obtain ⟨E1, w1⟩ := u
  obtain ⟨rfl, hB2⟩ := hB
  exact kx E1 w1 ce q9 H1 locs1 hpu (by rw [← ht]; exact hB2) hS1 hce hcv hcl
end P25
/-! bits of a set of ties -/
def bitsN (f : Nat → Bool) : Nat → Nat
  | 0 => 0
  | k + 1 => bitsN f k + (if f k then 2 ^ k else 0)
theorem bitsN_lt (f : Nat → Bool) : ∀ k, bitsN f k < 2 ^ k := by
  intro k
  induction k with
  | zero => exact (by decide : 0 < 1)
  | succ k ih =>
    show bitsN f k + (if f k then 2 ^ k else 0) < 2 ^ (k + 1)
    rw [Nat.pow_succ]
    split <;> omega
theorem shl1 : ∀ k : Nat, k < 16 → (1 : Int32) <<< (nI k &&& 31) = nI (2 ^ k) := by decide +kernel
theorem smod_k : ∀ k : Nat, k < 16 → ((nI k &&& 31).toBitVec.smod 32).toNat = k := by decide +kernel
theorem or_pow {a k : Nat} (ha : a < 2 ^ k) : nI a ||| nI (2 ^ k) = nI (a + 2 ^ k) := by
  have e : a ||| 2 ^ k = a + 2 ^ k := by
    have := Nat.two_pow_add_eq_or_of_lt ha 1
    rw [Nat.mul_one] at this
    rw [Nat.or_comm, ← this, Nat.add_comm]
  rw [← e]
  apply Int32.toBitVec_inj.mp
  rw [Int32.toBitVec_or]
  exact (BitVec.ofNat_or).symm
theorem bitsI_N (f : Nat → Bool) : ∀ k, k ≤ 16 → bitsI f k = nI (bitsN f k) := by
  intro k
  induction k with
  | zero => intro _; rfl
  | succ k ih =>
    intro hk
    show (if f k then bitsI f k ||| (1 <<< (nI k &&& 31)) else bitsI f k) = nI (bitsN f k + (if f k then 2 ^ k else 0))
    rw [ih (by omega)]
    cases f k
    · rfl
    · rw [if_pos rfl, if_pos rfl, shl1 k (by omega), or_pow (bitsN_lt f k)]
theorem bitsN_at (f : Nat → Bool) {m : Nat} : ∀ n, m < n → bitsN f n / 2 ^ m % 2 = if f m then 1 else 0 := by
  intro n
  induction n with
  | zero => intro h; exact absurd h (Nat.not_lt_zero m)
  | succ n ih =>
    intro h
    show (bitsN f n + (if f n then 2 ^ n else 0)) / 2 ^ m % 2 = _
    rcases Nat.lt_succ_iff_lt_or_eq.mp h with q | q
    · obtain ⟨d, rfl⟩ : ∃ d, n = m + (d + 1) := ⟨n - m - 1, by omega⟩
      have i := ih q
      cases f (m + (d + 1))
      · rw [if_neg (by decide), Nat.add_zero]; exact i
      · rw [if_pos rfl, show (2 : Nat) ^ (m + (d + 1)) = 2 ^ m * (2 * 2 ^ d) from by rw [Nat.pow_add, Nat.pow_succ, Nat.mul_comm (2 ^ d) 2], Nat.add_mul_div_left _ _ (Nat.two_pow_pos m), Nat.add_mul_mod_self_left]
        exact i
    · rw [← q]
      have hl := bitsN_lt f m
      cases f m
      · rw [if_neg (by decide), if_neg (by decide), Nat.add_zero, Nat.div_eq_of_lt hl]
      · rw [if_pos rfl, if_pos rfl, Nat.add_div_right _ (Nat.two_pow_pos m), Nat.div_eq_of_lt hl]
theorem bits_at (f : Nat → Bool) {n m : Nat} (hn : n ≤ 16) (hm : m < n) : (bitsI f n >>> (nI m &&& 31)) &&& 1 = g_b (f m) := by
  have hl := bitsN_lt f n
  have h2 : (2 : Nat) ^ n ≤ 2 ^ 16 := Nat.pow_le_pow_right (by decide) hn
  have hl2 : bitsN f n < 65536 := by omega
  rw [bitsI_N f n hn, pk_shrN (n := bitsN f n) (by omega) (nI m &&& 31) m (smod_k m (by omega))]
  have hd := Nat.div_le_self (bitsN f n) (2 ^ m)
  rw [pk_andN (n := bitsN f n / 2 ^ m) (by omega) (m := 1) 1 (by decide), Nat.pow_one, bitsN_at f n hm]
  cases f m <;> rfl
