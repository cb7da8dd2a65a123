/-! What a state is: the cells of a Dinner, of the class, of the reference, of the law's row; the pure functions that the methods are. -/
/-- a Dinner: f its ten ints (guests, seconds, limit, speaker, toSpeak, pause, unsaidInPauses, meetings, lost, sent), r its seven rows (spoken, interruptions, coughs, unsaid, toGo, caught, order), a the addresses -/
def DC (cI : ClassId) (a : Nat → Nat) (f : Nat → Int32) (r : Nat → Nat → Int32) : va_W := [(a 0, .inr (0, [.int (f 0), .int (f 1), .int (f 2), .int (f 3), .int (f 4), .int (f 5), .int (f 6), .int (f 7), .int (f 8), .int (f 9), .ref (a 1), .ref (a 2), .ref (a 3), .ref (a 4), .ref (a 5), .ref (a 6), .ref (a 7)])), (a 1, .inl (cI, 10, .inl (r 0))), (a 2, .inl (cI, 10, .inl (r 1))), (a 3, .inl (cI, 10, .inl (r 2))), (a 4, .inl (cI, 10, .inl (r 3))), (a 5, .inl (cI, 100, .inl (r 4))), (a 6, .inl (cI, 100, .inl (r 5))), (a 7, .inl (cI, 100, .inl (r 6)))]
/-- the class's own object -/
def XO (x : Nat) (a b : Nat → Nat) : va_W := [(x, .inr (1, [.ref (a 0), .ref (b 0)]))]
abbrev dS : Type := (Nat → Int32) × (Nat → Nat → Int32)
/-- the class's state put into cells -/
abbrev DCs (cI : ClassId) (a : Nat → Nat) (u : dS) : va_W := DC cI a u.1 u.2
theorem ite01 {P : Prop} [Decidable P] : (if P then (0 : Int32) else 1) = 0 ↔ P := by
  by_cases h : P <;> simp [h]
theorem ite01n {P : Prop} [Decidable P] : ¬ (if P then (0 : Int32) else 1) = 0 ↔ ¬ P := by
  by_cases h : P <;> simp [h]
theorem ite10 {P : Prop} [Decidable P] : (if P then (1 : Int32) else 0) = 0 ↔ ¬ P := by
  by_cases h : P <;> simp [h]
theorem ite10n {P : Prop} [Decidable P] : ¬ (if P then (1 : Int32) else 0) = 0 ↔ P := by
  by_cases h : P <;> simp [h]
/-- seconds beyond a multiple of the limit -/
def dBm (lim x : Int32) : Int32 := if 0 < lim then x - x / lim * lim else 0
/-- how far apart two guests sit -/
def dSeats (g x y : Int32) : Int32 := if g - (if 0 ≤ x - y then x - y else 0 - (x - y)) < (if 0 ≤ x - y then x - y else 0 - (x - y)) then g - (if 0 ≤ x - y then x - y else 0 - (x - y)) else (if 0 ≤ x - y then x - y else 0 - (x - y))
def dToGo (t : Nat → Int32) (k : Nat) : Int32 := if t k = -1 then 0 else t k
def dUntil (f : Nat → Int32) : Int32 := if f 3 = -1 then f 2 - dBm (f 2) (f 5) else f 4 + f 2
/-- the first n cells of a row, added -/
def dSum (u : Nat → Int32) : Nat → Int32
  | 0 => 0
  | n + 1 => dSum u n + u n
def dRate (g q : Int32) (u : Nat → Int32) (n : Nat) : Int32 := if 0 < 10 - (if 0 ≤ (dSum u n + q) / g - 4 then (dSum u n + q) / g - 4 else 0 - ((dSum u n + q) / g - 4)) then 10 - (if 0 ≤ (dSum u n + q) / g - 4 then (dSum u n + q) / g - 4 else 0 - ((dSum u n + q) / g - 4)) else 0
def dCough (f : Nat → Int32) (x wt : Int32) : Int32 := if f 3 = -1 then wt else if f 3 = x then 0 else wt / 2
def dFate (f : Nat → Int32) (t : Nat → Int32) (x y : Nat) (mo : Int32) : Int32 := if mo < dToGo t (y * 10 + x) then 3 else if f 3 = nI y ∧ mo + 2 * dSeats (f 0) (nI x) (nI y) < f 4 then 0 else 1
/-! the class's steps, as functions of its ints f and its rows r; L: the pairs under way, in the order of their sending -/
def dN (x : Int32) : Nat := x.toNatClampNeg
theorem dN_nI {k : Nat} (h : k < 2 ^ 31) : dN (nI k) = k := nI_clamp h
def dInt (f : Nat → Int32) (x : Nat) : Int32 := if f 3 = nI x then -1 else f 3
def dSpeak (f : Nat → Int32) (r : Nat → Nat → Int32) (x : Nat) (secs : Int32) : dS := (upd (upd f 3 (nI x)) 4 secs, if dInt f x = -1 then r else va_up r 1 (upd (r 1) x (r 1 x + 1)))
def dLetCough (f : Nat → Int32) (r : Nat → Nat → Int32) (x : Nat) (wt : Int32) : dS := (f, va_up (va_up r 2 (upd (r 2) x (r 2 x + 1))) 3 (upd (r 3) x (r 3 x + dCough f (nI x) wt)))
def dSend (f : Nat → Int32) (r : Nat → Nat → Int32) (x y n : Nat) : dS := (upd f 9 (f 9 + 1), va_up (va_up r 4 (upd (r 4) (x * 10 + y) (2 * dSeats (f 0) (nI x) (nI y)))) 6 (upd (r 6) n (nI (x * 10 + y))))
def dTalk (f : Nat → Int32) (r : Nat → Nat → Int32) : dS := if f 3 = -1 then (if dBm (f 2) (f 5 + 1) = 0 then upd (upd f 5 (f 5 + 1)) 6 (f 6 + 1) else upd f 5 (f 5 + 1), r) else (if f 4 - 1 = 0 then upd (upd (upd f 3 (-1)) 4 (f 4 - 1)) 5 0 else upd (upd f 4 (f 4 - 1)) 5 0, va_up r 0 (upd (r 0) (dN (f 3)) (r 0 (dN (f 3)) + 1)))
def dArr (f : Nat → Int32) (r : Nat → Nat → Int32) (x y : Nat) : dS :=
  if r 4 (y * 10 + x) = -1 then
    if f 3 = nI y then (upd f 8 (f 8 + 1), va_up r 4 (upd (r 4) (x * 10 + y) (-1)))
    else (f, va_up (va_up (va_up r 3 (upd (r 3) x (r 3 x + 1))) 4 (upd (r 4) (x * 10 + y) (-1))) 5 (upd (r 5) (x * 10 + y) (r 5 (x * 10 + y) + 1)))
  else (upd f 7 (f 7 + 1), va_up (va_up r 3 (upd (upd (r 3) x (r 3 x + 3)) y (upd (r 3) x (r 3 x + 3) y + 3))) 4 (upd (upd (r 4) (y * 10 + x) (-1)) (x * 10 + y) (-1)))
/-- the row o says the pairs of L, in their order -/
def oR (o : Nat → Int32) (L : List Nat) : Prop := ∀ j, j < L.length → o j = nI (L.getD j 0)
def dDec (t : Nat → Int32) (L : List Nat) : Nat → (Nat → Int32)
  | 0 => t
  | i + 1 => upd (dDec t L i) (L.getD i 0) (dDec t L i (L.getD i 0) - 1)
def dM1 (f : Nat → Int32) (r : Nat → Nat → Int32) (L : List Nat) : dS := (f, va_up r 4 (dDec (r 4) L L.length))
def dArrs (L : List Nat) (s : dS) : Nat → dS
  | 0 => s
  | i + 1 => if (dArrs L s i).2 4 (L.getD i 0) = 0 then dArr (dArrs L s i).1 (dArrs L s i).2 (L.getD i 0 / 10) (L.getD i 0 % 10) else dArrs L s i
def dFgt (t o : Nat → Int32) (L : List Nat) : Nat → Nat × (Nat → Int32)
  | 0 => (0, o)
  | i + 1 => if t (L.getD i 0) = -1 then dFgt t o L i else ((dFgt t o L i).1 + 1, upd (dFgt t o L i).2 (dFgt t o L i).1 (nI (L.getD i 0)))
def dForget (f : Nat → Int32) (r : Nat → Nat → Int32) (L : List Nat) : dS := (upd f 9 (nI (dFgt (r 4) (r 6) L L.length).1), va_up r 6 (dFgt (r 4) (r 6) L L.length).2)
def dMove (f : Nat → Int32) (r : Nat → Nat → Int32) (L : List Nat) : dS := dForget (dArrs L (dM1 f r L) L.length).1 (dArrs L (dM1 f r L) L.length).2 L
def dSec (f : Nat → Int32) (r : Nat → Nat → Int32) (L : List Nat) : dS := (upd (dMove (dTalk f r).1 (dTalk f r).2 L).1 1 ((dMove (dTalk f r).1 (dTalk f r).2 L).1 1 + 1), (dMove (dTalk f r).1 (dTalk f r).2 L).2)
def dKeep (t : Nat → Int32) (L : List Nat) : List Nat := L.filter (fun p => !decide (t p = -1))
def dGo (s : dS) (L : List Nat) : Nat → dS × List Nat
  | 0 => (s, L)
  | k + 1 => (dSec (dGo s L k).1.1 (dGo s L k).1.2 (dGo s L k).2, dKeep ((dSec (dGo s L k).1.1 (dGo s L k).1.2 (dGo s L k).2).2 4) (dGo s L k).2)
/-- what a second needs, so that no index is wrong -/
def dOk (f : Nat → Int32) (r : Nat → Nat → Int32) (L : List Nat) : Prop := (f 3 = -1 ∨ ∃ q, q < 10 ∧ f 3 = nI q) ∧ f 9 = nI L.length ∧ oR (r 6) L ∧ (∀ p ∈ L, p < 100) ∧ L.length ≤ 100
theorem dgt {L : List Nat} (h : ∀ p ∈ L, p < 100) (i : Nat) : L.getD i 0 < 100 := by
  by_cases hi : i < L.length
  · have e : L.getD i 0 = L[i] := by simp [hi]
    rw [e]
    exact h _ (List.getElem_mem hi)
  · have e : L.getD i 0 = 0 := by simp [Nat.not_lt.mp hi]
    rw [e]
    decide
theorem dTalk9 (f : Nat → Int32) (r : Nat → Nat → Int32) : (dTalk f r).1 9 = f 9 := by
  unfold dTalk
  split <;> split <;> simp [upd]
theorem dTalk6 (f : Nat → Int32) (r : Nat → Nat → Int32) : (dTalk f r).2 6 = r 6 := by
  unfold dTalk
  split <;> simp [va_up]
theorem dArr9 (f : Nat → Int32) (r : Nat → Nat → Int32) (x y : Nat) : (dArr f r x y).1 9 = f 9 := by
  unfold dArr
  split
  · split <;> simp [upd]
  · simp [upd]
theorem dArr6 (f : Nat → Int32) (r : Nat → Nat → Int32) (x y : Nat) : (dArr f r x y).2 6 = r 6 := by
  unfold dArr
  split
  · split <;> simp [va_up]
  · simp [va_up]
theorem dArrs9 (L : List Nat) (s : dS) : ∀ i, (dArrs L s i).1 9 = s.1 9
  | 0 => rfl
  | i + 1 => by
    unfold dArrs
    split
    · rw [dArr9, dArrs9 L s i]
    · exact dArrs9 L s i
theorem dArrs6 (L : List Nat) (s : dS) : ∀ i, (dArrs L s i).2 6 = s.2 6
  | 0 => rfl
  | i + 1 => by
    unfold dArrs
    split
    · rw [dArr6, dArrs6 L s i]
    · exact dArrs6 L s i
theorem dFgt_le (t o : Nat → Int32) (L : List Nat) : ∀ i, (dFgt t o L i).1 ≤ i
  | 0 => Nat.le_refl 0
  | i + 1 => by
    have h := dFgt_le t o L i
    unfold dFgt
    split
    · omega
    · show (dFgt t o L i).1 + 1 ≤ i + 1
      omega
theorem dFgt_far (t o : Nat → Int32) (L : List Nat) : ∀ i j, i ≤ j → (dFgt t o L i).2 j = o j
  | 0, j, _ => rfl
  | i + 1, j, h => by
    have h1 := dFgt_far t o L i j (by omega)
    have h2 := dFgt_le t o L i
    unfold dFgt
    split
    · exact h1
    · show upd _ _ _ j = o j
      rw [pk_un (by omega)]
      exact h1
theorem dFgt_get {t o : Nat → Int32} {L : List Nat} (ho : oR o L) {i : Nat} (hi : i < L.length) : (dFgt t o L i).2 i = nI (L.getD i 0) := by
  rw [dFgt_far t o L i i (Nat.le_refl i)]
  exact ho i hi
def dFill (g : Nat → Int32) (v : Int32) (i : Nat) : Nat → Int32 := fun j => if j < i then v else g j
theorem dFill_0 (g : Nat → Int32) (v : Int32) : dFill g v 0 = g := by
  funext j
  simp [dFill]
theorem dFill_s (g : Nat → Int32) (v : Int32) (i : Nat) : upd (dFill g v i) i v = dFill g v (i + 1) := by
  funext j
  simp only [upd, dFill]
  by_cases h : j = i
  · rw [if_pos h, if_pos (by omega)]
  · rw [if_neg h]
    by_cases h2 : j < i
    · rw [if_pos h2, if_pos (by omega)]
    · rw [if_neg h2, if_neg (by omega)]
def dBeginF (f : Nat → Int32) (x : Int32) : Nat → Int32 := upd (upd (upd (upd (upd (upd (upd (upd (upd f 0 x) 1 0) 3 (-1)) 4 0) 5 0) 6 0) 7 0) 8 0) 9 0
def dBeginR (r : Nat → Nat → Int32) : Nat → Nat → Int32 := va_up (va_up (va_up (va_up (va_up (va_up r 0 (fun _ => 0)) 1 (fun _ => 0)) 2 (fun _ => 0)) 3 (fun _ => 0)) 4 (fun _ => -1)) 5 (fun _ => 0)
