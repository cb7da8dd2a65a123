/-! The class's state and the reference's: what ties them. -/
section RelA
def RC (f : Nat → Int32) (r : Nat → Nat → Int32) (nw : Nat → Int32) : Prop := f 1 = nw 0 ∧ f 3 = nw 1 ∧ f 4 = nw 2 ∧ f 5 = nw 3 ∧ f 6 = nw 4 ∧ f 7 = nw 5 ∧ f 8 = nw 6 ∧ (∀ j, j < 10 → r 0 j = nw (8 + j)) ∧ (∀ j, j < 10 → r 1 j = nw (18 + j)) ∧ (∀ j, j < 10 → r 2 j = nw (28 + j)) ∧ (∀ j, j < 10 → r 3 j = nw (38 + j)) ∧ (∀ p, p < 100 → r 5 p = nw (248 + p))
/-- who speaks, and how long yet -/
def RT (gg : Nat) (f : Nat → Int32) : Prop := (f 3 = -1 ∧ f 4 = 0) ∨ ∃ q w : Nat, q < gg ∧ 1 ≤ w ∧ w ≤ 60 ∧ f 3 = nI q ∧ f 4 = nI w
def RE (gg : Nat) (L : List Nat) : Prop := ∀ p ∈ L, p / 10 < gg ∧ p % 10 < gg ∧ p / 10 ≠ p % 10
/-- glances on their way; those that have ended count as none -/
def JP (t : Nat → Int32) (L : List Nat) (nw : Nat → Int32) : Prop := ∀ p, p < 100 → ((p ∈ L ∧ ¬ t p = -1 → ∃ c : Nat, c ≤ 10 ∧ t p = nI c ∧ nw (48 + p) = nI c ∧ 0 < nw (148 + p)) ∧ (¬ (p ∈ L ∧ ¬ t p = -1) → t p = -1 ∧ nw (48 + p) = 0 ∧ nw (148 + p) = 0))
def RP (t : Nat → Int32) (L : List Nat) (nw : Nat → Int32) : Prop := ∀ p, p < 100 → ((p ∈ L → ∃ c : Nat, 1 ≤ c ∧ c ≤ 10 ∧ t p = nI c ∧ nw (48 + p) = nI c ∧ 0 < nw (148 + p)) ∧ (p ∉ L → t p = -1 ∧ nw (48 + p) = 0 ∧ nw (148 + p) = 0))
/-- the stamps grow along the list -/
def RS (L : List Nat) (nw : Nat → Int32) (k : Nat) : Prop := L.Pairwise (fun p q => nw (148 + p) < nw (148 + q)) ∧ nw 7 = nI k ∧ k ≤ 2000 ∧ ∀ p ∈ L, nw (148 + p) ≤ nw 7
/-- a dinner of the class and the reference's row agree -/
def RelS (gg li : Nat) (f : Nat → Int32) (r : Nat → Nat → Int32) (L : List Nat) (nw : Nat → Int32) (k : Nat) : Prop := (2 ≤ gg ∧ gg ≤ 10 ∧ 1 ≤ li ∧ li ≤ 30 ∧ f 0 = nI gg ∧ f 2 = nI li) ∧ f 9 = nI L.length ∧ oR (r 6) L ∧ RC f r nw ∧ RT gg f ∧ RE gg L ∧ RP (r 4) L nw ∧ RS L nw k
theorem RE.lt {gg : Nat} {L : List Nat} (h : RE gg L) (hg : gg ≤ 10) {p : Nat} (hp : p ∈ L) : p < 100 := by
  have := h p hp
  omega
theorem nodup_len : ∀ (n : Nat) (L : List Nat), L.Nodup → (∀ p ∈ L, p < n) → L.length ≤ n
  | 0, L, _, h => by
    cases L with
    | nil => exact Nat.le_refl 0
    | cons a t => exact absurd (h a List.mem_cons_self) (Nat.not_lt_zero a)
  | n + 1, L, hn, h => by
    by_cases hm : n ∈ L
    · have e := List.length_erase_of_mem hm
      have ih := nodup_len n (L.erase n) (hn.erase n) (fun p hp => by
        have h1 := h p (List.mem_of_mem_erase hp)
        have h2 : p ≠ n := fun e => by
          subst e
          exact hn.not_mem_erase hp
        omega)
      have := List.length_pos_of_mem hm
      omega
    · have := nodup_len n L hn (fun p hp => by
        have h1 := h p hp
        have h2 : p ≠ n := fun e => hm (e ▸ hp)
        omega)
      omega
theorem RS.nodup {L : List Nat} {nw : Nat → Int32} {k : Nat} (h : RS L nw k) : L.Nodup := h.1.imp (fun {a b} hab e => by
  subst e
  exact Int32.lt_irrefl hab)
theorem RelS.len {gg li : Nat} {f : Nat → Int32} {r : Nat → Nat → Int32} {L : List Nat} {nw : Nat → Int32} {k : Nat} (h : RelS gg li f r L nw k) : L.length ≤ 100 := by
  obtain ⟨h1, -, -, -, -, hE, -, hS⟩ := h
  exact nodup_len 100 L hS.nodup (fun p hp => hE.lt h1.2.1 hp)
theorem RelS.dok {gg li : Nat} {f : Nat → Int32} {r : Nat → Nat → Int32} {L : List Nat} {nw : Nat → Int32} {k : Nat} (h : RelS gg li f r L nw k) : dOk f r L := by
  have hl := h.len
  obtain ⟨h1, h9, ho, -, hT, hE, -, -⟩ := h
  refine ⟨?_, h9, ho, fun p hp => hE.lt h1.2.1 hp, hl⟩
  rcases hT with ⟨a, -⟩ | ⟨q, w, a1, -, -, a4, -⟩
  · exact Or.inl a
  · exact Or.inr ⟨q, by omega, a4⟩
theorem RelS.mok {gg li : Nat} {f : Nat → Int32} {r : Nat → Nat → Int32} {L : List Nat} {nw : Nat → Int32} {k : Nat} (h : RelS gg li f r L nw k) : mOk nw := by
  obtain ⟨h1, -, -, hC, hT, -, -, -⟩ := h
  show nw 1 = -1 ∨ ∃ q, q < 10 ∧ nw 1 = nI q
  rw [← hC.2.1]
  rcases hT with ⟨a, -⟩ | ⟨q, w, a1, -, -, a4, -⟩
  · exact Or.inl a
  · exact Or.inr ⟨q, by omega, a4⟩
/-! sums -/
theorem mSum_eq {f : Nat → Int32} {r : Nat → Nat → Int32} {nw : Nat → Int32} (h : RC f r nw) : ∀ n, n ≤ 10 → mSum nw n = dSum (r 3) n + f 6
  | 0, _ => by
    show nw 4 = 0 + f 6
    rw [h.2.2.2.2.1, Int32.zero_add]
  | n + 1, hn => by
    show mSum nw n + nw (38 + n) = dSum (r 3) n + r 3 n + f 6
    rw [mSum_eq h n (by omega), h.2.2.2.2.2.2.2.2.2.2.1 n (by omega), Int32.add_assoc, Int32.add_assoc, Int32.add_comm (f 6)]
theorem mRate_eq {gu : Int32} {f : Nat → Int32} {r : Nat → Nat → Int32} {nw : Nat → Int32} (h : RC f r nw) {n : Nat} (hn : n ≤ 10) : mRate gu nw n = dRate gu (f 6) (r 3) n := by
  unfold mRate dRate
  rw [mSum_eq h n hn]
theorem mUntil_eq {li : Nat} {f : Nat → Int32} {r : Nat → Nat → Int32} {nw : Nat → Int32} (h : RC f r nw) (h2 : f 2 = nI li) (h1 : 1 ≤ li) (h3 : li ≤ 30) : mUntil (nI li) nw = dUntil f := by
  unfold mUntil dUntil dBm
  rw [← h.2.1, ← h.2.2.1, ← h.2.2.2.1, h2, if_pos (show (0 : Int32) < nI li from nI_0 ▸ nI_lt (by omega) (by omega)), Int32.add_comm (f 4)]
theorem mLeft_eq {gg : Nat} {f : Nat → Int32} {r : Nat → Nat → Int32} {nw : Nat → Int32} (h : RC f r nw) (hT : RT gg f) (hg : gg ≤ 10) : mLeft nw = f 4 := by
  unfold mLeft
  rw [← h.2.1, ← h.2.2.1]
  rcases hT with ⟨a, b⟩ | ⟨q, w, a1, a2, a3, a4, a5⟩
  · rw [if_pos a, b]
  · split
    · rename_i e
      rw [a4] at e
      exact absurd e (nI_m1 (by omega))
    · rfl
end RelA
