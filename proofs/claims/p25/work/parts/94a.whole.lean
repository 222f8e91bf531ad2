set_option maxHeartbeats 4000000 in
set_option maxRecDepth 100000 in
/-- from the entry, for every script of at most 260 ints, the law comes to its end with true -/
theorem whole_start {p : Program} {e : Env} {s : State} {m : MethodId} {below : List Frame} {meth : Method} {c : Code} (l : Launch) (hflags : l.flags = flags0) {b L : Nat} {xs : Nat → Int32} (hL : L ≤ 260) (C0 : lw_At p s m meth c b L xs) : W p l e room_1 s m #[Value.ref b] below meth c s.heap [] 0 0 (lw_Z below #[Value.ref b] s) (entryFrame m ([Value.ref b] : List Value).toArray 22) := by
  obtain ⟨G, hK, hZ⟩ := law_GK C0
  obtain ⟨hx, hb, hr, hml, hown, hts, hX, hbl, hlocks, hgv⟩ := id C0
  have hlt : l.stackTraces = false := by
    unfold Launch.stackTraces
    rw [hflags]
    decide
  have hA : ∀ q : Nat, s.heap.size ≤ q → (fun q : Nat => s.heap.size ≤ q) q := fun _ h => h
  have hbA : ¬ (fun q : Nat => s.heap.size ≤ q) b := Nat.not_le.mpr hbl
  have F : g_F p m c cL_law 22 s #[Value.ref b] wsL_law RL (fun q : Nat => s.heap.size ≤ q) G := ⟨⟨hx, hb, hml, hown, fun w hw => hts w (wsL_law_in w hw)⟩, hK, hZ, hA⟩
  have hP : g_P (fun q : Nat => s.heap.size ≤ q) G (fun _ => none) s.heap := ⟨[], fun k q h => by simp at h, ⟨fun i j p q h => by simp at h, fun k q h => by simp at h⟩, fun a e h => by cases h⟩
  have hl := lv_entry ([.ref b]) (n := 22) (Nat.le_of_ble_eq_true rfl)
  rw [lg_entry_eq]
  generalize (lg_sl ([.ref b]) ++ List.replicate (22 - (lg_sl ([.ref b])).length) Slot.unset).toArray = ls at hl ⊢
  have hl : lv_has ls 22 [(0, .ref b)] := hl
  refine law_0 F rfl hlt hX hbl hbA hL (fun x hs bz nn sh ge me pl n0 S Fs Fg Fm Fp Fn Fh Fb w H locs ls dhsbz dhsnn dhssh dhsge dhsme dhspl dbznn dbzsh dbzge dbzme dbzpl dnnsh dnnge dnnme dnnpl dshge dshme dshpl dgeme dgepl dmepl Hi hbp hn0 hB hhs hbz hnn hsh hge hme hpl hP hS hl => ?_) hP va_S.rf hl
  have hi := Hi.1
  have Ht := told_inv Hi
  have Wi := told_wit Hi
  have hfx := told_fix Hi
  obtain ⟨n1, hn1⟩ : ∃ n1 : Nat, S 0 1 = n1 := ⟨(S 0 1).toNat, by omega⟩
  obtain ⟨n2, hn2⟩ : ∃ n2 : Nat, S 0 2 = n2 := ⟨(S 0 2).toNat, by omega⟩
  obtain ⟨n3, hn3⟩ : ∃ n3 : Nat, S 0 3 = n3 := ⟨(S 0 3).toNat, by omega⟩
  refine law_1 F rfl hlt dhsbz dhsnn dhssh dhsge dhsme dhspl dbznn dbzsh dbzge dbzme dbzpl dnnsh dnnge dnnme dnnpl dshge dshme dshpl dgeme dgepl dmepl rfl Hi Ht Wi hfx hbp hn0 hn1 hn2 hn3 hB hhs hbz hnn hsh hge hme hpl hP hS hl (fun Fh Fb B w H locs ls hB hFh hBy hhs hbz hnn hsh hge hme hpl hP hS hl => ?_)
  refine law_2 F rfl hlt dhsbz dhsnn dhssh dhsge dhsme dhspl dbznn dbzsh dbzge dbzme dbzpl dnnsh dnnge dnnme dnnpl dshge dshme dshpl dgeme dgepl dmepl rfl Hi Ht Wi hfx hbp hn0 hn1 hn2 hn3 hB hFh hBy hhs hbz hnn hsh hge hme hpl hP hS hl (fun Fh Fb B w H locs ls hB hFh hBy hhs hbz hnn hsh hge hme hpl hP hS hl => ?_)
  refine law_3 F rfl hlt dhsbz dhsnn dhssh dhsge dhsme dhspl dbznn dbzsh dbzge dbzme dbzpl dnnsh dnnge dnnme dnnpl dshge dshme dshpl dgeme dgepl dmepl rfl Hi Ht Wi hfx hbp hn0 hn1 hn2 hn3 hB hFh hBy hhs hbz hnn hsh hge hme hpl hP hS hl (fun Fh Fb B w H locs ls hFh hBy hhs hbz hnn hsh hge hme hpl hP hS hl => ?_)
  refine law_4 F rfl hlt dhsbz dhsnn dhssh dhsge dhsme dhspl dbznn dbzsh dbzge dbzme dbzpl dnnsh dnnge dnnme dnnpl dshge dshme dshpl dgeme dgepl dmepl rfl Hi Ht Wi hfx hbp hn0 hn1 hn2 hn3 hFh hBy hhs hbz hnn hsh hge hme hpl hP hS hl (fun w H locs ls hP hS hl => ?_)
  refine lv_iconst (v := 1) hx hb dL_law_825 (by decide) ?_
  refine va_forget (fun q hq => hS.2.2 q hq) ?_
  refine W.widen (k := 699085) (n := 7004443) (by omega) (by omega) ?_
  exact lw_ret hx hb hr hlocks dL_law_826
