def mostP (a : Nat) : Nat → Nat
  | 0 => 1
  | k + 1 => if k = 0 then 1 else if a % (k + 1) = 0 then k + 1 else mostP a k
