/-! longs: digests and torques -/
def mxL (d x : Int64) : Int64 := d * 31 + x
def mxS (S T : Sg) (k : Nat) (d : Int64) : Int64 :=
  if T 2 k ≠ -1 then mxL (mxL (mxL (mxL (mxL (mxL d (zL (S 1 k))) (zL (S 2 k))) (zL (S 3 k))) (zL (T 2 k))) (zL (T 0 k))) (zL (T 1 k))
  else mxL (mxL (mxL (mxL d (zL (S 1 k))) (zL (S 2 k))) (zL (S 3 k))) (zL (T 2 k))
def dgL (S T : Sg) : Nat → Int64
  | 0 => mxL 263 (zL (S 0 0))
  | k + 1 => mxS S T k (dgL S T k)
noncomputable def vlDigest (S T : Sg) : Int64 := mxL (mxL (mxL (mxL (mxL (mxL (mxL (dgL S T (S 0 0).toNat) (zL (S 0 4))) (zL (S 0 1))) (zL (S 0 2))) (zL (S 0 3))) (vlBroken S T false).toInt64) (vlBroken S T true).toInt64) (vlMisfits S).toInt64
def leftL (t : Int64) : Nat → Int64
  | 0 => t
  | k + 1 => leftL t k * 98 / 100
def cdTorque (S T : Sg) (p q : Int32) : Nat := if shQ S 0 p then (if inQ q 1 10000 then (if S 0 4 ≠ -1 ∧ T 2 (kN p) ≠ -1 ∧ T 0 (kN p) ≠ 0 then 0 else 3) else 2) else 1
def vlTorque (S T : Sg) (p q : Int32) : Int64 := leftL q.toInt64 (T 2 (kN p)).toNat * (iL (S 0 5)).toInt64 * zL (T 1 (kN p)) / zL (T 0 (kN p))
theorem iL64 {z : Int} (h1 : -2147483648 ≤ z) (h2 : z < 2147483648) : (iL z).toInt64 = zL z := iL_64 h1 h2
