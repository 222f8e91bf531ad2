def blw (v : Int32) (k : Nat) : Nat := v.toBitVec.toNat % 2 ^ 31 % k
theorem blw_lt (v : Int32) {k : Nat} (h : 0 < k) : blw v k < k := Nat.mod_lt _ h
theorem zL_rem {x y : Int} (h1 : -9223372036854775808 ≤ x) (h2 : x < 9223372036854775808) (h3 : -9223372036854775808 ≤ y) (h4 : y < 9223372036854775808) : zL x - zL x / zL y * zL y = zL (x.tmod y) := by
  rw [zL_div h1 h2 h3 h4, zL_mul, zL_sub, Int.tmod_def, Int.mul_comm]
theorem gcd_tm (x y : Int) : Int.gcd y (x.tmod y) = Int.gcd x y := by
  show Nat.gcd y.natAbs (x.tmod y).natAbs = Nat.gcd x.natAbs y.natAbs
  rw [Int.natAbs_tmod, Nat.gcd_comm x.natAbs y.natAbs, Nat.gcd_rec y.natAbs x.natAbs, Nat.gcd_comm]
