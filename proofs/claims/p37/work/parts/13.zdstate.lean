theorem nI_nneg {n : Nat} (h : n < 2 ^ 31) : ¬ nI n < 0 := nI_pos h
def dQuiet (u : Nat → Int32) : Nat → Nat
  | 0 => 0
  | i + 1 => if u (dQuiet u i) < u (i + 1) then i + 1 else dQuiet u i
theorem dQuiet_le (u : Nat → Int32) : ∀ i, dQuiet u i ≤ i
  | 0 => Nat.le_refl 0
  | i + 1 => by
    have := dQuiet_le u i
    unfold dQuiet
    split <;> omega
/-- the first k, of j many, whose B isn't 0 -/
def dBest (B : Nat → Int32) : Nat → Nat → Int32
  | 0, _ => -1
  | j + 1, k => if B k = 0 then dBest B j (k + 1) else nI k
def dHead (f : Nat → Int32) (rt : Int32) : Int64 := ((((((((((1973 * 31 + (f 0).toInt64) * 31 + (f 1).toInt64) * 31 + (f 2).toInt64) * 31 + (f 3).toInt64) * 31 + (f 4).toInt64) * 31 + (f 5).toInt64) * 31 + (f 6).toInt64) * 31 + (f 9).toInt64) * 31 + (f 7).toInt64) * 31 + (f 8).toInt64) * 31 + rt.toInt64
def dFour (r : Nat → Nat → Int32) (i : Nat) (d : Int64) : Int64 := (((d * 31 + (r 0 i).toInt64) * 31 + (r 1 i).toInt64) * 31 + (r 2 i).toInt64) * 31 + (r 3 i).toInt64
def dTo (r : Nat → Nat → Int32) (i : Nat) (d : Int64) : Nat → Int64
  | 0 => d
  | k + 1 => (dTo r i d k * 31 + (dToGo (r 4) (i * 10 + k)).toInt64) * 31 + (r 5 (i * 10 + k)).toInt64
def dGs (r : Nat → Nat → Int32) (gg : Nat) (d : Int64) : Nat → Int64
  | 0 => d
  | i + 1 => dTo r i (dFour r i (dGs r gg d i)) gg
