/-! What would become of a glance: the reference tries it, the class tells it at once. -/
section RelH
theorem loop_inv {mk : Int32} (I : mS → Prop) (hI : ∀ (s : mS) (q : Nat), I s → q < 100 → 0 < s.1 (148 + q) → s.1 (48 + q) = 0 → I (mArr s.1 (q / 10) (q % 10), mEnd s.1 mk s.2 (q / 10) (q % 10))) : ∀ (N : Nat) (s : mS), I s → I (mLoop mk N s)
  | 0, s, h => h
  | N + 1, s, h => by
    show I (if mScan s.1 100 = -1 then s else mLoop mk N (mStep mk s))
    by_cases e : mScan s.1 100 = -1
    · rw [if_pos e]
      exact h
    · rw [if_neg e]
      refine loop_inv I hI N _ ?_
      obtain ⟨q, q1, q2, q3, q4⟩ := mScan_in e
      have := hI s q h q1 q3 q4
      unfold mStep
      rw [q2, dN_nI (by omega)]
      exact this
theorem mLoop_end {mk : Int32} (N : Nat) : ∀ (s : mS), mCnt s.1 100 < N → mScan (mLoop mk N s).1 100 = -1 := by
  induction N with
  | zero => intro s h; exact (Nat.not_lt_zero _ h).elim
  | succ N ih =>
    intro s h
    show mScan (if mScan s.1 100 = -1 then s else mLoop mk N (mStep mk s)).1 100 = -1
    by_cases e : mScan s.1 100 = -1
    · rw [if_pos e]
      exact e
    · rw [if_neg e]
      refine ih _ ?_
      obtain ⟨q, q1, q2, q3, q4⟩ := mScan_in e
      have := mArr_cnt q1 q3
      unfold mStep
      rw [q2, dN_nI (by omega)]
      dsimp only
      omega
theorem mLoop_none {mk : Int32} {s : mS} {q : Nat} (hq : q < 100) : ¬ (0 < (mLoop mk 101 s).1 (148 + q) ∧ (mLoop mk 101 s).1 (48 + q) = 0) := by
  have h := mLoop_end (mk := mk) 101 s (Nat.lt_succ_of_le (mCnt_100 s.1 100))
  rcases mScan_sp (mLoop mk 101 s).1 100 (by decide) with ⟨-, b⟩ | ⟨q2, q1, e2, -, -⟩
  · exact b q hq
  · rw [h] at e2
    exact absurd e2.symm (nI_m1 (by omega))
theorem mArr_go (nw : Nat → Int32) {a b q : Nat} (ha : a < 10) (hb : b < 10) (hq : q < 100) (h : q ≠ 10 * b + a) : mArr nw a b (48 + q) = nw (48 + q) := by
  unfold mArr
  split
  · rw [mAp (by omega), mAp (by omega), mAp (by omega), mUp (by omega), mUp (by omega), mUp (by omega)]
  · split
    · rw [mAp (by omega), mUp (by omega)]
    · rw [mAp (by omega), mAp (by omega), mUp (by omega)]
theorem mArr_lo (nw : Nat → Int32) (a b j : Nat) (hj : j < 5) : mArr nw a b j = nw j := by
  unfold mArr
  split
  · rw [mAp (by omega), mAp (by omega), mAp (by omega), mUp (by omega), mUp (by omega), mUp (by omega)]
  · split
    · rw [mAp (by omega), mUp (by omega)]
    · rw [mAp (by omega), mAp (by omega), mUp (by omega)]
theorem nI_ne {a b : Nat} (ha : a < 100) (hb : b < 100) (h : a ≠ b) : ¬ nI a = nI b := fun e => h ((nI_eq (by omega) (by omega)).mp e)
theorem mEnd_oth (nw : Nat → Int32) (en : Int32) {p a b : Nat} (hp : p < 100) (ha : a < 10) (hb : b < 10) (h : p ≠ 10 * a + b) (h2 : ¬ (p = 10 * b + a ∧ 0 < nw (148 + p))) : mEnd nw (nI p) en a b = en := by
  unfold mEnd
  rw [if_neg (nI_ne hp (by omega) h)]
  by_cases hm : 0 < nw (148 + (10 * b + a))
  · rw [if_pos hm]
    by_cases e : p = 10 * b + a
    · subst e
      exact absurd ⟨rfl, hm⟩ h2
    · rw [if_neg (nI_ne hp (by omega) e)]
  · rw [if_neg hm]
variable {x y : Nat}
/-- neither arrives -/
theorem fly_A (hx : x < 10) (hy : y < 10) (hxy : x ≠ y) {n : Nat → Int32} {en : Int32} (h0 : ¬ n (48 + (10 * x + y)) = 0) (h1 : ¬ (0 < n (148 + (10 * y + x)) ∧ n (48 + (10 * y + x)) = 0)) (N : Nat) :
    (mLoop (nI (10 * x + y)) N (n, en)).1 (148 + (10 * x + y)) = n (148 + (10 * x + y)) ∧ (mLoop (nI (10 * x + y)) N (n, en)).1 (48 + (10 * x + y)) = n (48 + (10 * x + y)) ∧ (mLoop (nI (10 * x + y)) N (n, en)).1 (148 + (10 * y + x)) = n (148 + (10 * y + x)) ∧ (mLoop (nI (10 * x + y)) N (n, en)).1 (48 + (10 * y + x)) = n (48 + (10 * y + x)) ∧ (mLoop (nI (10 * x + y)) N (n, en)).2 = en := by
  refine loop_inv (fun s => s.1 (148 + (10 * x + y)) = n (148 + (10 * x + y)) ∧ s.1 (48 + (10 * x + y)) = n (48 + (10 * x + y)) ∧ s.1 (148 + (10 * y + x)) = n (148 + (10 * y + x)) ∧ s.1 (48 + (10 * y + x)) = n (48 + (10 * y + x)) ∧ s.2 = en) ?_ N (n, en) ⟨rfl, rfl, rfl, rfl, rfl⟩
  intro s q ⟨i1, i2, i3, i4, i5⟩ q1 q2 q3
  have n1 : q ≠ 10 * x + y := fun e => by
    subst e
    rw [i2] at q3
    exact h0 q3
  have n2 : q ≠ 10 * y + x := fun e => by
    subst e
    rw [i3] at q2
    rw [i4] at q3
    exact h1 ⟨q2, q3⟩
  dsimp only
  have k : ∀ p, p < 100 → p ≠ q → p ≠ 10 * (q % 10) + q / 10 → mArr s.1 (q / 10) (q % 10) (148 + p) = s.1 (148 + p) := fun p hp e1 e2 => by
    rw [mArr_st s.1 (by omega) (by omega) p hp, if_neg (by omega), if_neg (fun h => e2 h.1)]
  refine ⟨?_, ?_, ?_, ?_, ?_⟩
  · rw [k _ (by omega) (by omega) (by omega), i1]
  · rw [mArr_go s.1 (by omega) (by omega) (by omega) (by omega), i2]
  · rw [k _ (by omega) (by omega) (by omega), i3]
  · rw [mArr_go s.1 (by omega) (by omega) (by omega) (by omega), i4]
  · rw [mEnd_oth s.1 s.2 (by omega) (by omega) (by omega) (by omega) (fun h => by omega), i5]
/-- the one that comes back arrives: they meet -/
theorem fly_B (hx : x < 10) (hy : y < 10) (hxy : x ≠ y) {n : Nat → Int32} {en : Int32} (h0 : 0 < n (148 + (10 * x + y))) (h1 : 0 < n (148 + (10 * y + x))) (h2 : n (48 + (10 * y + x)) = 0 ∨ n (48 + (10 * x + y)) = 0) :
    ¬ 0 < (mLoop (nI (10 * x + y)) 101 (n, en)).1 (148 + (10 * x + y)) ∧ (mLoop (nI (10 * x + y)) 101 (n, en)).2 = 3 := by
  have key := loop_inv (mk := nI (10 * x + y)) (fun s => (0 < s.1 (148 + (10 * y + x)) ∧ (s.1 (48 + (10 * y + x)) = 0 ∨ s.1 (48 + (10 * x + y)) = 0) ∧ 0 < s.1 (148 + (10 * x + y))) ∨ (¬ 0 < s.1 (148 + (10 * y + x)) ∧ ¬ 0 < s.1 (148 + (10 * x + y)) ∧ s.2 = 3)) (fun s q hI q1 q2 q3 => by
    dsimp only
    have k : ∀ p, p < 100 → p ≠ q → p ≠ 10 * (q % 10) + q / 10 → mArr s.1 (q / 10) (q % 10) (148 + p) = s.1 (148 + p) := fun p hp e1 e2 => by
      rw [mArr_st s.1 (by omega) (by omega) p hp, if_neg (by omega), if_neg (fun h => e2 h.1)]
    rcases hI with ⟨i1, i2, i3⟩ | ⟨i1, i2, i3⟩
    · by_cases e1 : q = 10 * y + x
      · subst e1
        rw [show (10 * y + x) / 10 = y by omega, show (10 * y + x) % 10 = x by omega]
        refine Or.inr ⟨?_, ?_, ?_⟩
        · rw [mArr_st s.1 (by omega) (by omega) _ (by omega), if_pos rfl]
          decide
        · rw [mArr_st s.1 (by omega) (by omega) _ (by omega), if_neg (by omega), if_pos ⟨rfl, i3⟩]
          decide
        · unfold mEnd
          rw [if_neg (nI_ne (by omega) (by omega) (by omega)), if_pos i3, if_pos rfl]
      · by_cases e2 : q = 10 * x + y
        · subst e2
          rw [show (10 * x + y) / 10 = x by omega, show (10 * x + y) % 10 = y by omega]
          refine Or.inr ⟨?_, ?_, ?_⟩
          · rw [mArr_st s.1 (by omega) (by omega) _ (by omega), if_neg (by omega), if_pos ⟨rfl, i1⟩]
            decide
          · rw [mArr_st s.1 (by omega) (by omega) _ (by omega), if_pos rfl]
            decide
          · unfold mEnd
            rw [if_pos rfl, if_pos i1]
        · refine Or.inl ⟨?_, ?_, ?_⟩
          · rw [k _ (by omega) (by omega) (by omega)]
            exact i1
          · rw [mArr_go s.1 (by omega) (by omega) (by omega) (by omega), mArr_go s.1 (by omega) (by omega) (by omega) (by omega)]
            exact i2
          · rw [k _ (by omega) (by omega) (by omega)]
            exact i3
    · have n1 : q ≠ 10 * y + x := fun e => by
        subst e
        exact i1 q2
      have n2 : q ≠ 10 * x + y := fun e => by
        subst e
        exact i2 q2
      refine Or.inr ⟨?_, ?_, ?_⟩
      · rw [k _ (by omega) (by omega) (by omega)]
        exact i1
      · rw [k _ (by omega) (by omega) (by omega)]
        exact i2
      · rw [mEnd_oth s.1 s.2 (by omega) (by omega) (by omega) (by omega) (fun h => i2 h.2), i3]) 101 (n, en) (Or.inl ⟨h1, h2, h0⟩)
  rcases key with ⟨i1, i2, i3⟩ | ⟨i1, i2, i3⟩
  · rcases i2 with i2 | i2
    · exact absurd ⟨i1, i2⟩ (mLoop_none (by omega))
    · exact absurd ⟨i3, i2⟩ (mLoop_none (by omega))
  · exact ⟨i2, i3⟩
/-- it arrives, and none comes back -/
theorem fly_C (hx : x < 10) (hy : y < 10) (hxy : x ≠ y) {n : Nat → Int32} {en : Int32} (h0 : 0 < n (148 + (10 * x + y))) (h1 : n (48 + (10 * x + y)) = 0) (h2 : ¬ 0 < n (148 + (10 * y + x))) :
    ¬ 0 < (mLoop (nI (10 * x + y)) 101 (n, en)).1 (148 + (10 * x + y)) ∧ (mLoop (nI (10 * x + y)) 101 (n, en)).2 = (if n 1 = nI y then 0 else 1) := by
  have key := loop_inv (mk := nI (10 * x + y)) (fun s => s.1 1 = n 1 ∧ ¬ 0 < s.1 (148 + (10 * y + x)) ∧ ((0 < s.1 (148 + (10 * x + y)) ∧ s.1 (48 + (10 * x + y)) = 0) ∨ (¬ 0 < s.1 (148 + (10 * x + y)) ∧ s.2 = (if n 1 = nI y then 0 else 1)))) (fun s q hI q1 q2 q3 => by
    dsimp only
    have k : ∀ p, p < 100 → p ≠ q → p ≠ 10 * (q % 10) + q / 10 → mArr s.1 (q / 10) (q % 10) (148 + p) = s.1 (148 + p) := fun p hp e1 e2 => by
      rw [mArr_st s.1 (by omega) (by omega) p hp, if_neg (by omega), if_neg (fun h => e2 h.1)]
    obtain ⟨i0, i1, hI⟩ := hI
    refine ⟨by rw [mArr_lo _ _ _ _ (by omega), i0], ?_⟩
    have n1 : q ≠ 10 * y + x := fun e => by
      subst e
      exact i1 q2
    by_cases e2 : q = 10 * x + y
    · subst e2
      rw [show (10 * x + y) / 10 = x by omega, show (10 * x + y) % 10 = y by omega]
      refine ⟨?_, Or.inr ⟨?_, ?_⟩⟩
      · rw [mArr_st s.1 (by omega) (by omega) _ (by omega), if_neg (by omega), if_neg (fun h => i1 h.2)]
        exact i1
      · rw [mArr_st s.1 (by omega) (by omega) _ (by omega), if_pos rfl]
        decide
      · unfold mEnd
        rw [if_pos rfl, if_neg i1, mUp (by omega), i0]
    · refine ⟨?_, ?_⟩
      · rw [k _ (by omega) (by omega) (by omega)]
        exact i1
      · rcases hI with ⟨i2, i3⟩ | ⟨i2, i3⟩
        · refine Or.inl ⟨?_, ?_⟩
          · rw [k _ (by omega) (by omega) (by omega)]
            exact i2
          · rw [mArr_go s.1 (by omega) (by omega) (by omega) (by omega)]
            exact i3
        · refine Or.inr ⟨?_, ?_⟩
          · rw [k _ (by omega) (by omega) (by omega)]
            exact i2
          · rw [mEnd_oth s.1 s.2 (by omega) (by omega) (by omega) (by omega) (fun h => i2 h.2), i3]) 101 (n, en) ⟨rfl, h2, Or.inl ⟨h0, h1⟩⟩
  obtain ⟨-, -, key⟩ := key
  rcases key with ⟨i1, i2⟩ | ⟨i1, i2⟩
  · exact absurd ⟨i1, i2⟩ (mLoop_none (by omega))
  · exact ⟨i1, i2⟩
/-- who is not on the way stays so -/
theorem fly_D {mk : Int32} {n : Nat → Int32} {en : Int32} {p : Nat} (hp : p < 100) (h0 : ¬ 0 < n (148 + p)) (N : Nat) : ¬ 0 < (mLoop mk N (n, en)).1 (148 + p) := by
  refine loop_inv (mk := mk) (fun s => ¬ 0 < s.1 (148 + p)) (fun s q hI q1 q2 q3 => ?_) N (n, en) h0
  dsimp only
  rw [mArr_st s.1 (by omega) (by omega) p hp]
  split
  · decide
  · split
    · decide
    · exact hI
theorem fly_lo {mk : Int32} {n : Nat → Int32} {en : Int32} (N j : Nat) (hj : j < 5) : (mLoop mk N (n, en)).1 j = n j := by
  refine loop_inv (mk := mk) (fun s => s.1 j = n j) (fun s q hI q1 q2 q3 => ?_) N (n, en) rfl
  dsimp only
  rw [mArr_lo _ _ _ _ hj]
  exact hI
theorem loop_ind {mk mk' : Int32} {n : Nat → Int32} {en en' : Int32} : ∀ N, (mLoop mk N (n, en)).1 = (mLoop mk' N (n, en')).1 := by
  intro N
  induction N generalizing n en en' with
  | zero => rfl
  | succ N ih =>
    show (if mScan n 100 = -1 then (n, en) else mLoop mk N (mStep mk (n, en))).1 = (if mScan n 100 = -1 then (n, en') else mLoop mk' N (mStep mk' (n, en'))).1
    by_cases e : mScan n 100 = -1
    · rw [if_pos e, if_pos e]
    · rw [if_neg e, if_neg e]
      exact ih
theorem sec_eq (mk li : Int32) (n : Nat → Int32) (en : Int32) : mSec mk li (n, en) = (mAdd (mLoop mk 101 (mDec (mTalk li n) 100, en)).1 0 1, (mLoop mk 101 (mDec (mTalk li n) 100, en)).2) := by
  unfold mSec
  rw [mFly_eq]
theorem secs_ind (mk mk' li : Int32) (n : Nat → Int32) (en en' : Int32) : ∀ i, (mSecs mk li (n, en) i).1 = (mSecs mk' li (n, en') i).1
  | 0 => rfl
  | i + 1 => by
    have ih := secs_ind mk mk' li n en en' i
    show (mSec mk li (mSecs mk li (n, en) i)).1 = (mSec mk' li (mSecs mk' li (n, en') i)).1
    generalize mSecs mk li (n, en) i = u at ih
    generalize mSecs mk' li (n, en') i = v at ih
    obtain ⟨u1, u2⟩ := u
    obtain ⟨v1, v2⟩ := v
    dsimp only at ih
    subst ih
    rw [sec_eq, sec_eq]
    dsimp only
    rw [loop_ind (mk' := mk') (en' := v2) 101]
end RelH
