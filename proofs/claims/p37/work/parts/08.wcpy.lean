theorem wCpy {g h : Nat → Int32} {n j : Nat} (hj : j < n) : va_cpy g h 0 0 n j = g j := by
  rw [pk_cpy_in (Nat.zero_le _) (by omega)]
  simp
