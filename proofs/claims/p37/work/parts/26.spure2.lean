/-! What a second leaves as it was; what many seconds want. -/
section SP2
theorem sArr_f {k : Nat} {s : sS} {i j : Nat} (h7 : j ≠ 7) (h8 : j ≠ 8) : (sArr k s i).1 j = s.1 j := by
  unfold sArr
  split
  · exact mUp h7
  · split
    · exact mUp h8
    · rfl
theorem sArrs_f {k : Nat} {s : sS} {j : Nat} (h7 : j ≠ 7) (h8 : j ≠ 8) : ∀ i, (sArrs k s i).1 j = s.1 j
  | 0 => rfl
  | i + 1 => by
    have ih := sArrs_f (k := k) (s := s) h7 h8 i
    unfold sArrs
    split
    · rw [sArr_f h7 h8]; exact ih
    · exact ih
theorem dTalk_f {j : Nat} (h3 : j ≠ 3) (h4 : j ≠ 4) (h5 : j ≠ 5) (h6 : j ≠ 6) (f : Nat → Int32) (r : Nat → Nat → Int32) : (dTalk f r).1 j = f j := by
  unfold dTalk
  split <;> split <;> simp only [mUp h3, mUp h4, mUp h5, mUp h6]
def pOk (n k : Nat) (s : sS) : Prop := s.1 0 = nI n ∧ (s.1 3 = -1 ∨ ∃ q, q < n ∧ s.1 3 = nI q) ∧ 0 < s.1 2 ∧ ∀ i, i < k → ∃ x y : Nat, x < n ∧ y < n ∧ s.2.2 i 0 = nI x ∧ s.2.2 i 1 = nI y
end SP2
section SP3
variable {p : Program} {l : Launch} {e : Env} {R : Room} {s : State} {m : MethodId} {args : Array Value} {below : List Frame} {meth : Method} {c : Code} {H : Heap} {locs : List Loc} {cells slots : Nat} {Q : State → Prop}
theorem wAloadO_n {cc : ByteArray} {rest : List Value} {pc : Nat} {ls : Array Slot} (hx : p.tables.exec = Jvm.exec) (hb : c.code = cc) {k : Fin 4} {i : Nat} {o : Option Nat} (hdg : decode cc pc = .ok (.aload_n k, 1)) (hi : (k : Nat) = i) (hl : ls[i]? = some (.val (va_rf o)))
    (kk : W p l e R s m args below meth c H locs cells slots Q (F0 m (pc + 1) ls (va_rf o :: rest))) : W p l e R s m args below meth c H locs cells slots Q (F0 m pc ls rest) := by
  cases o with
  | none => exact lv_aload_nN hx hb hdg hi hl kk
  | some q => exact lv_aload_n hx hb hdg hi hl kk
end SP3
