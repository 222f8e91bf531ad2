/-! more rows of the walk: tableswitch -/
section TSW
variable {p : Program} {l : Launch} {e : Env} {R : Room} {s : State} {m : MethodId} {args : Array Value} {below : List Frame} {meth : Method} {c : Code} {H : Heap} {locs : List Loc} {cells slots : Nat} {Q : State → Prop} {cc : ByteArray} {pc : Nat} {ls : Array Slot} {rest : List Value}
theorem lv_tsIn (hexec : p.tables.exec = Jvm.exec) (hb : c.code = cc) {x : Int32} {dd low high : Int} {os : Array Int} {len : Nat} (hdg : decode cc pc = .ok (.tableswitch dd low high os, len)) (hin : ¬ (x.toInt < low ∨ x.toInt > high)) {off : Int} (ho : os[(x.toInt - low).toNat]? = some off) {tgt : Nat} (ht : (pc : Int) + off = (tgt : Int))
    (k : W p l e R s m args below meth c H locs cells slots Q (F0 m tgt ls rest)) : W p l e R s m args below meth c H locs cells slots Q (F0 m pc ls (.int x :: rest)) := by
  intro T hT X
  obtain ⟨t, a, b⟩ := k T hT X
  refine ⟨t, ?_, b⟩
  jvm_step X.here [X.here.top, hexec, hb, hdg, hin, ho, ht]
  exact a
theorem lv_tsOut (hexec : p.tables.exec = Jvm.exec) (hb : c.code = cc) {x : Int32} {dd low high : Int} {os : Array Int} {len : Nat} (hdg : decode cc pc = .ok (.tableswitch dd low high os, len)) (hout : x.toInt < low ∨ x.toInt > high) {tgt : Nat} (ht : (pc : Int) + dd = (tgt : Int))
    (k : W p l e R s m args below meth c H locs cells slots Q (F0 m tgt ls rest)) : W p l e R s m args below meth c H locs cells slots Q (F0 m pc ls (.int x :: rest)) := by
  intro T hT X
  obtain ⟨t, a, b⟩ := k T hT X
  refine ⟨t, ?_, b⟩
  jvm_step X.here [X.here.top, hexec, hb, hdg, hout, ht]
  exact a
end TSW
