/-! What a state is: the cells of a Dinner, of the class, of the reference, of the law's row; the pure functions that the methods are. -/
/-- a Dinner: f its ten ints (guests, seconds, limit, speaker, toSpeak, pause, unsaidInPauses, meetings, lost, sent), r its seven rows (spoken, interruptions, coughs, unsaid, toGo, caught, order), a the addresses -/
def DC (cI : ClassId) (a : Nat → Nat) (f : Nat → Int32) (r : Nat → Nat → Int32) : va_W := [(a 0, .inr (0, [.int (f 0), .int (f 1), .int (f 2), .int (f 3), .int (f 4), .int (f 5), .int (f 6), .int (f 7), .int (f 8), .int (f 9), .ref (a 1), .ref (a 2), .ref (a 3), .ref (a 4), .ref (a 5), .ref (a 6), .ref (a 7)])), (a 1, .inl (cI, 10, .inl (r 0))), (a 2, .inl (cI, 10, .inl (r 1))), (a 3, .inl (cI, 10, .inl (r 2))), (a 4, .inl (cI, 10, .inl (r 3))), (a 5, .inl (cI, 100, .inl (r 4))), (a 6, .inl (cI, 100, .inl (r 5))), (a 7, .inl (cI, 100, .inl (r 6)))]
/-- the class's own object -/
def XO (x : Nat) (a b : Nat → Nat) : va_W := [(x, .inr (1, [.ref (a 0), .ref (b 0)]))]
/-- the reference: g its ints by their places, n the row now, k the row kept -/
def MC (cI : ClassId) (b : Nat → Nat) (g : Nat → Int32) (n k : Nat → Int32) : va_W := [(b 0, .inr (2, [.int (g 0), .int (g 1), .int (g 2), .ref (b 1), .ref (b 2), .int (g 5), .int (g 6)])), (b 1, .inl (cI, 348, .inl n)), (b 2, .inl (cI, 348, .inl k))]
/-- the law's row of one long -/
def OUT (cJ : ClassId) (q : Nat) (v : Nat → Int64) : va_W := [(q, .inl (cJ, 1, .inr (.inl v)))]
abbrev dS : Type := (Nat → Int32) × (Nat → Nat → Int32)
/-- the class's state put into cells -/
abbrev DCs (cI : ClassId) (a : Nat → Nat) (u : dS) : va_W := DC cI a u.1 u.2
theorem ite01 {P : Prop} [Decidable P] : (if P then (0 : Int32) else 1) = 0 ↔ P := by
  by_cases h : P <;> simp [h]
theorem ite01n {P : Prop} [Decidable P] : ¬ (if P then (0 : Int32) else 1) = 0 ↔ ¬ P := by
  by_cases h : P <;> simp [h]
theorem ite10 {P : Prop} [Decidable P] : (if P then (1 : Int32) else 0) = 0 ↔ ¬ P := by
  by_cases h : P <;> simp [h]
theorem ite10n {P : Prop} [Decidable P] : ¬ (if P then (1 : Int32) else 0) = 0 ↔ P := by
  by_cases h : P <;> simp [h]
/-- seconds beyond a multiple of the limit -/
def dBm (lim x : Int32) : Int32 := if 0 < lim then x - x / lim * lim else 0
/-- how far apart two guests sit -/
def dSeats (g x y : Int32) : Int32 := if g - (if 0 ≤ x - y then x - y else 0 - (x - y)) < (if 0 ≤ x - y then x - y else 0 - (x - y)) then g - (if 0 ≤ x - y then x - y else 0 - (x - y)) else (if 0 ≤ x - y then x - y else 0 - (x - y))
def dToGo (t : Nat → Int32) (k : Nat) : Int32 := if t k = -1 then 0 else t k
def dUntil (f : Nat → Int32) : Int32 := if f 3 = -1 then f 2 - dBm (f 2) (f 5) else f 4 + f 2
/-- the first n cells of a row, added -/
def dSum (u : Nat → Int32) : Nat → Int32
  | 0 => 0
  | n + 1 => dSum u n + u n
def dRate (g q : Int32) (u : Nat → Int32) (n : Nat) : Int32 := if 0 < 10 - (if 0 ≤ (dSum u n + q) / g - 4 then (dSum u n + q) / g - 4 else 0 - ((dSum u n + q) / g - 4)) then 10 - (if 0 ≤ (dSum u n + q) / g - 4 then (dSum u n + q) / g - 4 else 0 - ((dSum u n + q) / g - 4)) else 0
def dCough (f : Nat → Int32) (x wt : Int32) : Int32 := if f 3 = -1 then wt else if f 3 = x then 0 else wt / 2
def dFate (f : Nat → Int32) (t : Nat → Int32) (x y : Nat) (mo : Int32) : Int32 := if mo < dToGo t (y * 10 + x) then 3 else if f 3 = nI y ∧ mo + 2 * dSeats (f 0) (nI x) (nI y) < f 4 then 0 else 1
