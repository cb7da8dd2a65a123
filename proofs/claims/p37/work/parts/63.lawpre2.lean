/-! One pair's share of what the law counts. -/
theorem qW_0 {t : Nat → Int32} {p : Nat} (h : dToGo t p ≤ 0) : qW t p = 0 := if_neg (Int32.not_lt.mpr h)
theorem qW_1 {t : Nat → Int32} {p : Nat} (h : ¬ dToGo t p ≤ 0) : qW t p = 1 := if_pos (Int32.not_le.mp h)
theorem qO_0 {t t' : Nat → Int32} {p : Nat} (h : dToGo t p = 0) : qO t t' p = 0 := if_pos h
theorem qO_1 {t t' : Nat → Int32} {p : Nat} (h : ¬ dToGo t p = 0) (h2 : dToGo t' p = 0) : qO t t' p = 1 := (if_neg h).trans (if_pos h2)
theorem qO_2 {t t' : Nat → Int32} {p : Nat} (h : ¬ dToGo t p = 0) (h2 : ¬ dToGo t' p = 0) : qO t t' p = 0 := (if_neg h).trans (if_neg h2)
