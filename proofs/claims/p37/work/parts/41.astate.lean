/-! A dinner of the class and the law's, as one state. -/
section AS
abbrev aS : Type := (Nat × Nat × Nat) × ((Nat → Int32) × (Nat → Nat → Int32) × (Nat → Nat → Int32) × List Nat) × ((Nat → Nat) × (Nat → Nat) × (Nat → Nat))
def aInv (K : Nat) (u : aS) : Prop := InvC u.1.1 u.1.2.1 u.2.1.1 u.2.1.2.1 u.2.1.2.2.2 K ∧ InvT u.1.1 u.1.2.2 (u.2.1.2.1 4) u.2.1.2.2.2 u.2.1.2.2.1
theorem aInv.mono {K K' : Nat} {u : aS} (h : K ≤ K') (hu : aInv K u) : aInv K' u := ⟨hu.1.mono h, hu.2⟩
theorem SCsame {cI cR : ClassId} {a ca ga : Nat → Nat} {n k : Nat} {f f' : Nat → Int32} {r r' : Nat → Nat → Int32} {X : va_W} (h : Same f' r' f r) : SC cI cR a ca ga n k f' r' ++ (CW cI ca n (r' 5) ++ X) = SC cI cR a ca ga n k f r ++ (CW cI ca n (r 5) ++ X) := by
  unfold SC
  rw [h.1 0 (by decide), h.1 1 (by decide), h.1 2 (by decide), h.1 3 (by decide), h.1 4 (by decide), h.1 5 (by decide), h.1 6 (by decide), h.1 7 (by decide), h.1 8 (by decide), h.2 0 (by decide) (by decide), h.2 1 (by decide) (by decide), h.2 2 (by decide) (by decide), h.2 3 (by decide) (by decide), h.2 5 (by decide) (by decide)]
theorem sF0_0 (m : Nat) : sF0 m 0 = nI m := by
  unfold sF0
  rw [mUp (by decide), mUp (by decide), mUs]
theorem to_ne {n g u : Nat} (hg : g < n) (hu : u < n - 1) : g ≠ (g + 1 + u) % n := by
  rcases Nat.lt_or_ge (g + 1 + u) n with h | h
  · rw [Nat.mod_eq_of_lt h]
    omega
  · rw [Nat.mod_eq_sub_mod h, Nat.mod_eq_of_lt (by omega)]
    omega
/-- new cells moved behind; old ones let go -/
theorem wMovP {D : va_G} {X Y Z : va_W} {H : Heap} (h : va_P D vwCl (X ++ (Y ++ Z)) H) : va_P D vwCl (X ++ (Z ++ Y)) H := wPsub (fun q hq => by
  simp only [List.mem_append] at hq ⊢
  rcases hq with h | h | h
  · exact Or.inl h
  · exact Or.inr (Or.inr h)
  · exact Or.inr (Or.inl h)) h
theorem wMovD {A : Nat → Prop} {X Y Z : va_W} (h : va_D A (X ++ (Y ++ Z))) : va_D A (X ++ (Z ++ Y)) := wDperm (List.perm_append_comm.append_left X) h
theorem wNewP {D : va_G} {X P9 O Y : va_W} {H : Heap} (h : va_P D vwCl (X ++ (P9 ++ (O ++ Y))) H) : va_P D vwCl (P9 ++ (X ++ Y)) H := wPsub (fun q hq => by
  simp only [List.mem_append] at hq ⊢
  rcases hq with h | h | h
  · exact Or.inr (Or.inl h)
  · exact Or.inl h
  · exact Or.inr (Or.inr (Or.inr h))) h
theorem wNewD {A : Nat → Prop} {X P9 O Y : va_W} (h : va_D A (X ++ (P9 ++ (O ++ Y)))) : va_D A (P9 ++ (X ++ Y)) := by
  have h1 : List.Sublist (X ++ (P9 ++ Y)) (X ++ (P9 ++ (O ++ Y))) := (List.Sublist.refl X).append ((List.Sublist.refl P9).append (List.sublist_append_right O Y))
  have h2 : List.Perm (X ++ (P9 ++ Y)) (P9 ++ (X ++ Y)) := by
    rw [← List.append_assoc, ← List.append_assoc]
    exact List.perm_append_comm.append_right Y
  exact wDperm h2 (wDsub h1 h)
theorem upd_self (u : Nat → Int32) (x : Nat) : upd u x (u x + 0) = u := by
  funext j
  by_cases e : j = x
  · subst e
    rw [mUs, Int32.add_zero]
  · rw [mUp e]
theorem row_self (r : Nat → Nat → Int32) (k : Nat) : va_up r k (r k) = r := by
  funext j
  by_cases e : j = k
  · subst e
    rw [vaUs]
  · rw [vaUp e]
theorem dInt_neg {n : Nat} {f : Nat → Int32} (hn : n ≤ 10) (h : f 3 = -1 ∨ ∃ q, q < n ∧ f 3 = nI q) {x : Nat} (e : ¬ 0 ≤ dInt f x) : dInt f x = -1 := by
  unfold dInt at e ⊢
  by_cases h1 : f 3 = nI x
  · rw [if_pos h1]
  · rw [if_neg h1] at e ⊢
    rcases h with a | ⟨q, a1, a4⟩
    · exact a
    · rw [a4] at e
      exact absurd (nI_pos' (by omega)) e
theorem dInt_pos {f : Nat → Int32} {x : Nat} (e : 0 ≤ dInt f x) : ¬ dInt f x = -1 := fun h => by
  rw [h] at e
  exact neg1 e
end AS
