/-! What the law's own walk needs: its two tables, and what stands through it. -/
section LP
/-- a table filled row by row, up to the row a, the column b -/
def gRow (F : Nat → Int32) (a b : Nat) : Nat → Nat → Int32 := fun i j => if i < a ∨ (i = a ∧ j < b) then F (i * 10 + j) else 0
theorem gRow_0 (F : Nat → Int32) : gRow F 0 0 = fun _ _ => 0 := by
  funext i j
  exact if_neg (by omega)
theorem gRow_in {F : Nat → Int32} {a b i j : Nat} (h : i < a ∨ (i = a ∧ j < b)) : gRow F a b i j = F (i * 10 + j) := if_pos h
theorem gRow_up {F : Nat → Int32} {a b : Nat} : gUp (gRow F a b) a b (F (a * 10 + b)) = gRow F a (b + 1) := by
  funext i j
  by_cases ei : i = a
  · subst ei
    by_cases ej : j = b
    · subst ej
      rw [gUp_s, gRow_in (by omega)]
    · rw [gUp_j ej]
      by_cases h : i < i ∨ (i = i ∧ j < b)
      · rw [gRow_in h, gRow_in (by omega)]
      · rw [show gRow F i b i j = 0 from if_neg h, show gRow F i (b + 1) i j = 0 from if_neg (by omega)]
  · rw [gUp_i ei]
    by_cases h : i < a ∨ (i = a ∧ j < b)
    · rw [gRow_in h, gRow_in (by omega)]
    · rw [show gRow F a b i j = 0 from if_neg h, show gRow F a (b + 1) i j = 0 from if_neg (by omega)]
theorem gRow_end {F : Nat → Int32} {a n : Nat} : ∀ i, i < n → ∀ j, j < n → gRow F a n i j = gRow F (a + 1) 0 i j := fun i _ j hj => by
  by_cases h : i < a ∨ (i = a ∧ j < n)
  · rw [gRow_in h, gRow_in (by omega)]
  · rw [show gRow F a n i j = 0 from if_neg h, show gRow F (a + 1) 0 i j = 0 from if_neg (by omega)]
theorem gRow_diag {F : Nat → Int32} {n a b c : Nat} (h : ∀ a, a < n → F (a * 10 + a) = 0) (hc : c < n) : gRow F a b c c = 0 := by
  unfold gRow
  split
  · exact h c hc
  · rfl
theorem wDropP {D : va_G} {X Y Z : va_W} {H : Heap} (h : va_P D vwCl (X ++ (Y ++ Z)) H) : va_P D vwCl Y H := wPsub (fun q hq => List.mem_append_right _ (List.mem_append_left _ hq)) h
theorem wDropD {A : Nat → Prop} {X Y Z : va_W} (h : va_D A (X ++ (Y ++ Z))) : va_D A Y := wDsub ((List.sublist_append_left Y Z).trans (List.sublist_append_right X (Y ++ Z))) h
/-- what stands through the whole of the law -/
def lawE (p : Program) (s : State) (m : MethodId) (args : Array Value) (c : Code) (D : va_G) (cI cR : ClassId) (A : Nat → Prop) (sb LN : Nat) (xs : Nat → Int32) : Prop :=
  (p.tables.exec = Jvm.exec ∧ c.code = cL_law ∧ c.maxLocals = 27 ∧ s.vm.findClass RL = some m.cls ∧ ∀ w ∈ wsL_law, w.before args s = true) ∧ wNest s ∧ va_K D vwCl [(cI, .int), (cR, .array .int)] s ∧ va_X sb LN xs s s.heap ∧ sb < s.heap.size ∧ LN < 2 ^ 31 ∧ (∀ q : Nat, s.heap.size ≤ q → A q) ∧ ¬ A sb
variable {p : Program} {l : Launch} {e : Env} {R : Room} {s : State} {m : MethodId} {args : Array Value} {below : List Frame} {meth : Method} {c : Code} {H : Heap} {locs : List Loc} {cells slots : Nat} {Q : State → Prop} {pc : Nat} {ls : Array Slot} {rest : List Value}
theorem wTopd {x z : UInt64} (h : x = z) (k : W p l e R s m args below meth c H locs cells slots Q (F0 m pc ls (.double z :: rest))) : W p l e R s m args below meth c H locs cells slots Q (F0 m pc ls (.double x :: rest)) := h ▸ k
/-- the class of rows of rows, by what the tables say of it -/
theorem wKR {D : va_G} {cI : ClassId} (hN : wNest s) (hK : va_K D vwCl [(cI, .int)] s) : ∃ cR, va_K D vwCl [(cI, .int), (cR, .array .int)] s := by
  obtain ⟨comp, c9, k9, h1, -, h3, h4, h5⟩ := arrayOverA_spec (hN.2.use (A := #[]))
  refine ⟨c9, hK.1, fun k q hq => ?_⟩
  match k, hq with
  | 0, hq => exact hK.2 0 q hq
  | 1, hq =>
    cases hq
    exact ⟨fun N z => ⟨(fun q h => by cases h), k9, h3, comp, h4⟩, h5⟩
  | k + 2, hq => simp at hq
end LP
