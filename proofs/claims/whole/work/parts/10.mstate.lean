/-! The reference's steps, as functions of its row now (nw). -/
abbrev mS : Type := (Nat → Int32) × Int32
def mIn (v lo hi : Int32) : Int32 := if lo ≤ v then (if v ≤ hi then 1 else 0) else 0
def mSum (nw : Nat → Int32) : Nat → Int32
  | 0 => nw 4
  | i + 1 => mSum nw i + nw (38 + i)
def mRate (gu : Int32) (nw : Nat → Int32) (n : Nat) : Int32 := if 0 < 10 - (if 0 ≤ mSum nw n / gu - 4 then mSum nw n / gu - 4 else 0 - (mSum nw n / gu - 4)) then 10 - (if 0 ≤ mSum nw n / gu - 4 then mSum nw n / gu - 4 else 0 - (mSum nw n / gu - 4)) else 0
/-- a row with x more, or x less, at a place -/
def mAdd (nw : Nat → Int32) (j : Nat) (x : Int32) : Nat → Int32 := upd nw j (nw j + x)
def mSub (nw : Nat → Int32) (j : Nat) (x : Int32) : Nat → Int32 := upd nw j (nw j - x)
def mTlk (nw : Nat → Int32) (q : Nat) : Nat → Int32 := mSub (mAdd (upd nw 3 0) (8 + q) 1) 2 1
def mTalk (li : Int32) (nw : Nat → Int32) : Nat → Int32 :=
  if nw 1 = -1 then
    if mAdd nw 3 1 3 - mAdd nw 3 1 3 / li * li = 0 then mAdd (mAdd nw 3 1) 4 1 else mAdd nw 3 1
  else if mTlk nw (dN (nw 1)) 2 = 0 then upd (mTlk nw (dN (nw 1))) 1 (-1) else mTlk nw (dN (nw 1))
def mArr (nw : Nat → Int32) (x y : Nat) : Nat → Int32 :=
  if 0 < nw (148 + (10 * y + x)) then mAdd (mAdd (mAdd (upd (upd (upd nw (148 + (10 * x + y)) 0) (148 + (10 * y + x)) 0) (48 + (10 * y + x)) 0) (38 + x) 3) (38 + y) 3) 5 1
  else if upd nw (148 + (10 * x + y)) 0 1 = nI y then mAdd (upd nw (148 + (10 * x + y)) 0) 6 1
  else mAdd (mAdd (upd nw (148 + (10 * x + y)) 0) (248 + (10 * x + y)) 1) (38 + x) 1
def mEnd (nw : Nat → Int32) (mk en : Int32) (x y : Nat) : Int32 :=
  if mk = nI (10 * x + y) then (if 0 < nw (148 + (10 * y + x)) then 3 else if upd nw (148 + (10 * x + y)) 0 1 = nI y then 0 else 1)
  else if 0 < nw (148 + (10 * y + x)) then (if mk = nI (10 * y + x) then 3 else en) else en
def mDec (nw : Nat → Int32) : Nat → (Nat → Int32)
  | 0 => nw
  | i + 1 => if 0 < mDec nw i (148 + i) then mSub (mDec nw i) (48 + i) 1 else mDec nw i
def mScan (nw : Nat → Int32) : Nat → Int32
  | 0 => -1
  | i + 1 => if 0 < nw (148 + i) then (if nw (48 + i) = 0 then (if mScan nw i = -1 then nI i else if nw (148 + i) < nw (148 + dN (mScan nw i)) then nI i else mScan nw i) else mScan nw i) else mScan nw i
def mCnt (nw : Nat → Int32) : Nat → Nat
  | 0 => 0
  | i + 1 => mCnt nw i + if 0 < nw (148 + i) then 1 else 0
def mStep (mk : Int32) (s : mS) : mS := (mArr s.1 (dN (mScan s.1 100) / 10) (dN (mScan s.1 100) % 10), mEnd s.1 mk s.2 (dN (mScan s.1 100) / 10) (dN (mScan s.1 100) % 10))
def mLoop (mk : Int32) : Nat → mS → mS
  | 0, s => s
  | j + 1, s => if mScan s.1 100 = -1 then s else mLoop mk j (mStep mk s)
/-- locked: nothing unfolds it but its theorem -/
theorem mFly_ex (mk : Int32) (s : mS) : ∃ u : mS, u = mLoop mk 101 (mDec s.1 100, s.2) := ⟨_, rfl⟩
noncomputable def mFly (mk : Int32) (s : mS) : mS := Classical.choose (mFly_ex mk s)
theorem mFly_eq (mk : Int32) (s : mS) : mFly mk s = mLoop mk 101 (mDec s.1 100, s.2) := Classical.choose_spec (mFly_ex mk s)
noncomputable def mSec (mk li : Int32) (s : mS) : mS := (mAdd (mFly mk (mTalk li s.1, s.2)).1 0 1, (mFly mk (mTalk li s.1, s.2)).2)
noncomputable def mSecs (mk li : Int32) (s : mS) : Nat → mS
  | 0 => s
  | k + 1 => mSec mk li (mSecs mk li s k)
def mSend (gu : Int32) (nw : Nat → Int32) (x y : Nat) : Nat → Int32 := upd (upd (mAdd nw 7 1) (148 + (10 * x + y)) (mAdd nw 7 1 7)) (48 + (10 * x + y)) (2 * dSeats gu (nI x) (nI y))
theorem mScan_sp (nw : Nat → Int32) : ∀ i, i ≤ 2 ^ 20 → (mScan nw i = -1 ∧ ∀ p, p < i → ¬ (0 < nw (148 + p) ∧ nw (48 + p) = 0)) ∨ ∃ q, q < i ∧ mScan nw i = nI q ∧ (0 < nw (148 + q) ∧ nw (48 + q) = 0) ∧ ∀ p, p < i → 0 < nw (148 + p) → nw (48 + p) = 0 → nw (148 + q) ≤ nw (148 + p)
  | 0, _ => Or.inl ⟨rfl, fun p h => absurd h (Nat.not_lt_zero p)⟩
  | i + 1, hi => by
    have ih := mScan_sp nw i (by omega)
    have key : ∀ (h : ¬ (0 < nw (148 + i) ∧ nw (48 + i) = 0)), mScan nw (i + 1) = mScan nw i := by
      intro h
      by_cases h1 : 0 < nw (148 + i)
      · rw [mScan, if_pos h1, if_neg (fun h2 => h ⟨h1, h2⟩)]
      · rw [mScan, if_neg h1]
    by_cases h : 0 < nw (148 + i) ∧ nw (48 + i) = 0
    · rcases ih with ⟨a1, a2⟩ | ⟨q, q1, q2, q3, q4⟩
      · refine Or.inr ⟨i, by omega, ?_, h, fun p hp g1 g2 => ?_⟩
        · unfold mScan
          rw [if_pos h.1, if_pos h.2, if_pos a1]
        · by_cases e : p = i
          · rw [e]
            exact Int32.le_refl _
          · exact absurd ⟨g1, g2⟩ (a2 p (by omega))
      · have hne : ¬ nI q = -1 := by
          intro e
          have := congrArg Int32.toInt e
          rw [nI_toInt (by omega)] at this
          have e2 : (-1 : Int32).toInt = -1 := by decide
          omega
        have e0 : mScan nw (i + 1) = if nw (148 + i) < nw (148 + q) then nI i else nI q := by
          rw [mScan, if_pos h.1, if_pos h.2, q2, if_neg hne, dN_nI (by omega)]
        by_cases hlt : nw (148 + i) < nw (148 + q)
        · refine Or.inr ⟨i, by omega, by rw [e0, if_pos hlt], h, fun p hp g1 g2 => ?_⟩
          by_cases e : p = i
          · rw [e]
            exact Int32.le_refl _
          · exact Int32.le_trans (Int32.le_of_lt hlt) (q4 p (by omega) g1 g2)
        · refine Or.inr ⟨q, by omega, by rw [e0, if_neg hlt], q3, fun p hp g1 g2 => ?_⟩
          by_cases e : p = i
          · rw [e]
            exact Int32.not_lt.mp hlt
          · exact q4 p (by omega) g1 g2
    · rw [key h]
      rcases ih with ⟨a1, a2⟩ | ⟨q, q1, q2, q3, q4⟩
      · refine Or.inl ⟨a1, fun p hp => ?_⟩
        by_cases e : p = i
        · rw [e]
          exact h
        · exact a2 p (by omega)
      · refine Or.inr ⟨q, by omega, q2, q3, fun p hp g1 g2 => ?_⟩
        by_cases e : p = i
        · rw [e] at g1 g2
          exact absurd ⟨g1, g2⟩ h
        · exact q4 p (by omega) g1 g2
theorem nI_m1 {q : Nat} (h : q < 2 ^ 31) : ¬ nI q = -1 := by
  intro e
  have := congrArg Int32.toInt e
  rw [nI_toInt h] at this
  have e2 : (-1 : Int32).toInt = -1 := by decide
  omega
/-- at the head of the while: something arrives -/
theorem mScan_in {nw : Nat → Int32} (h : ¬ mScan nw 100 = -1) : ∃ q, q < 100 ∧ mScan nw 100 = nI q ∧ 0 < nw (148 + q) ∧ nw (48 + q) = 0 := by
  rcases mScan_sp nw 100 (by decide) with ⟨a, -⟩ | ⟨q, q1, q2, q3, -⟩
  · exact absurd a h
  · exact ⟨q, q1, q2, q3⟩
theorem mScan_lt (nw : Nat → Int32) {i : Nat} (hi : i ≤ 100) (h : ¬ mScan nw i = -1) : ∃ q, q < 100 ∧ mScan nw i = nI q := by
  rcases mScan_sp nw i (by omega) with ⟨a, -⟩ | ⟨q, q1, q2, -⟩
  · exact absurd a h
  · exact ⟨q, by omega, q2⟩
theorem mCnt_le {u v : Nat → Int32} (h : ∀ p, 0 < u (148 + p) → 0 < v (148 + p)) : ∀ i, mCnt u i ≤ mCnt v i
  | 0 => Nat.le_refl 0
  | i + 1 => by
    have ih := mCnt_le h i
    unfold mCnt
    by_cases h1 : 0 < u (148 + i)
    · rw [if_pos h1, if_pos (h i h1)]
      omega
    · rw [if_neg h1]
      omega
theorem mCnt_lt {u v : Nat → Int32} (h : ∀ p, 0 < u (148 + p) → 0 < v (148 + p)) {q : Nat} (h1 : ¬ 0 < u (148 + q)) (h2 : 0 < v (148 + q)) : ∀ i, q < i → mCnt u i < mCnt v i
  | 0, hq => absurd hq (Nat.not_lt_zero q)
  | i + 1, hq => by
    unfold mCnt
    by_cases e : q = i
    · subst e
      have := mCnt_le h q
      rw [if_neg h1, if_pos h2]
      omega
    · have ih := mCnt_lt h h1 h2 i (by omega)
      by_cases h3 : 0 < u (148 + i)
      · rw [if_pos h3, if_pos (h i h3)]
        omega
      · rw [if_neg h3]
        omega
theorem mCnt_100 (u : Nat → Int32) : ∀ i, mCnt u i ≤ i
  | 0 => Nat.le_refl 0
  | i + 1 => by
    have := mCnt_100 u i
    unfold mCnt
    split <;> omega
theorem mUp {f : Nat → Int32} {k j : Nat} {x : Int32} (h : j ≠ k) : upd f k x j = f j := pk_un h
theorem mUs {f : Nat → Int32} {k : Nat} {x : Int32} : upd f k x k = x := pk_us
theorem mAp {f : Nat → Int32} {k j : Nat} {x : Int32} (h : j ≠ k) : mAdd f k x j = f j := pk_un h
theorem mSp {f : Nat → Int32} {k j : Nat} {x : Int32} (h : j ≠ k) : mSub f k x j = f j := pk_un h
theorem mSs {f : Nat → Int32} {k : Nat} {x : Int32} : mSub f k x k = f k - x := pk_us
theorem mAs {f : Nat → Int32} {k : Nat} {x : Int32} : mAdd f k x k = f k + x := pk_us
/-- the stamps behind an arrival -/
theorem mArr_st (nw : Nat → Int32) {x y : Nat} (hx : x < 10) (hy : y < 10) (p : Nat) (hp : p < 100) : mArr nw x y (148 + p) = if p = 10 * x + y then 0 else if p = 10 * y + x ∧ 0 < nw (148 + (10 * y + x)) then 0 else nw (148 + p) := by
  unfold mArr
  by_cases hm : 0 < nw (148 + (10 * y + x))
  · rw [if_pos hm, mAp (by omega), mAp (by omega), mAp (by omega), mUp (by omega)]
    by_cases e : p = 10 * y + x
    · subst e
      rw [mUs]
      split
      · rfl
      · rw [if_pos ⟨rfl, hm⟩]
    · rw [mUp (by omega)]
      by_cases e2 : p = 10 * x + y
      · subst e2
        rw [mUs, if_pos rfl]
      · rw [mUp (by omega), if_neg e2, if_neg (fun h => e h.1)]
  · rw [if_neg hm]
    have k : upd nw (148 + (10 * x + y)) 0 (148 + p) = if p = 10 * x + y then 0 else if p = 10 * y + x ∧ 0 < nw (148 + (10 * y + x)) then 0 else nw (148 + p) := by
      by_cases e2 : p = 10 * x + y
      · subst e2
        rw [mUs, if_pos rfl]
      · rw [mUp (by omega), if_neg e2, if_neg (fun h => hm h.2)]
    split
    · rw [mAp (by omega)]
      exact k
    · rw [mAp (by omega), mAp (by omega)]
      exact k
theorem mCnt_cg {u v : Nat → Int32} : ∀ i, (∀ p, p < i → (0 < u (148 + p) → 0 < v (148 + p))) → mCnt u i ≤ mCnt v i
  | 0, _ => Nat.le_refl 0
  | i + 1, h => by
    have ih := mCnt_cg (u := u) (v := v) i (fun p hp => h p (by omega))
    unfold mCnt
    by_cases h1 : 0 < u (148 + i)
    · rw [if_pos h1, if_pos (h i (by omega) h1)]
      omega
    · rw [if_neg h1]
      omega
theorem mCnt_cs {u v : Nat → Int32} {q : Nat} (h1 : ¬ 0 < u (148 + q)) (h2 : 0 < v (148 + q)) : ∀ i, q < i → (∀ p, p < i → (0 < u (148 + p) → 0 < v (148 + p))) → mCnt u i < mCnt v i
  | 0, hq, _ => absurd hq (Nat.not_lt_zero q)
  | i + 1, hq, h => by
    unfold mCnt
    by_cases e : q = i
    · subst e
      have := mCnt_cg (u := u) (v := v) q (fun p hp => h p (by omega))
      rw [if_neg h1, if_pos h2]
      omega
    · have ih := mCnt_cs h1 h2 i (by omega) (fun p hp => h p (by omega))
      by_cases h3 : 0 < u (148 + i)
      · rw [if_pos h3, if_pos (h i (by omega) h3)]
        omega
      · rw [if_neg h3]
        omega
/-- an arrival ends one glance at least -/
theorem mArr_cnt {nw : Nat → Int32} {q : Nat} (hq : q < 100) (h : 0 < nw (148 + q)) : mCnt (mArr nw (q / 10) (q % 10)) 100 < mCnt nw 100 := by
  have e : 10 * (q / 10) + q % 10 = q := by omega
  refine mCnt_cs (q := q) ?_ h 100 hq (fun p hp hu => ?_)
  · rw [mArr_st nw (by omega) (by omega) q hq, if_pos e.symm]
    decide
  · rw [mArr_st nw (by omega) (by omega) p hp] at hu
    split at hu
    · exact absurd hu (by decide)
    · split at hu
      · exact absurd hu (by decide)
      · exact hu
theorem mInT {k lo hi : Nat} (h1 : lo ≤ k) (h2 : k ≤ hi) (h3 : hi < 2 ^ 31) : ¬ mIn (nI k) (nI lo) (nI hi) = 0 := by
  unfold mIn
  rw [if_pos (nI_le h1 (by omega)), if_pos (nI_le h2 h3)]
  decide
theorem mInF {x lo hi : Int32} (h : ¬ (lo ≤ x ∧ x ≤ hi)) : mIn x lo hi = 0 := by
  unfold mIn
  by_cases h1 : lo ≤ x
  · rw [if_pos h1, if_neg (fun h2 => h ⟨h1, h2⟩)]
  · rw [if_neg h1]
theorem mIn_z (x lo hi : Int32) : narrow .boolean (.int (mIn x lo hi)) = .int (mIn x lo hi) := by
  unfold mIn
  split
  · split <;> rfl
  · rfl
theorem nI_m1' {g : Nat} (h : 0 < g) : nI g - 1 = nI (g - 1) := by
  have e := nI_pred (g - 1)
  rw [show g - 1 + 1 = g by omega] at e
  exact e
theorem mGT {gu : Int32} {gg k : Nat} (hg : gu = nI gg) (h : k < gg) (hgg : gg ≤ 10) : ¬ mIn (nI k) 0 (gu - 1) = 0 := by
  rw [hg, nI_m1' (by omega)]
  exact mInT (lo := 0) (Nat.zero_le k) (by omega) (by omega)
theorem mGF {gu x : Int32} {gg : Nat} (hg : gu = nI gg) (h0 : 0 < gg) (hgg : gg ≤ 10) (h : ¬ (0 ≤ x ∧ x < nI gg)) : mIn x 0 (gu - 1) = 0 := by
  refine mInF (fun hh => h ⟨hh.1, ?_⟩)
  have h2 := hh.2
  rw [hg, nI_m1' h0] at h2
  exact Int32.lt_of_le_of_lt h2 (nI_lt (by omega) (by omega))
/-- under way: how many -/
def mWay (nw : Nat → Int32) : Nat → Int32
  | 0 => 0
  | i + 1 => mWay nw i + if 0 < nw (148 + i) then 1 else 0
def mQuiet (nw : Nat → Int32) : Nat → Nat
  | 0 => 0
  | i + 1 => if nw (38 + mQuiet nw i) < nw (38 + (i + 1)) then i + 1 else mQuiet nw i
theorem mQuiet_le (nw : Nat → Int32) : ∀ i, mQuiet nw i ≤ i
  | 0 => Nat.le_refl 0
  | i + 1 => by
    have := mQuiet_le nw i
    unfold mQuiet
    split <;> omega
def mCode (nw : Nat → Int32) (x y : Nat) : Int32 := if nI x = nI y then 2 else if 0 < nw (148 + (10 * x + y)) then 3 else 0
/-- a second leaves nobody at a wrong place -/
def mOk (nw : Nat → Int32) : Prop := nw 1 = -1 ∨ ∃ q, q < 10 ∧ nw 1 = nI q
def mInt (nw : Nat → Int32) (x : Nat) : Int32 := if nw 1 = -1 then -1 else if nw 1 = nI x then -1 else nw 1
def mSpk (nw : Nat → Int32) (x : Nat) (w : Int32) : Nat → Int32 := upd (upd nw 1 (nI x)) 2 w
def mSpeak (nw : Nat → Int32) (x : Nat) (w : Int32) : Nat → Int32 := if nw 1 = -1 then upd (upd nw 1 (nI x)) 2 w else if nw 1 = nI x then upd (upd nw 1 (nI x)) 2 w else mAdd (upd (upd nw 1 (nI x)) 2 w) (18 + x) 1
def mCgh (nw : Nat → Int32) (x wt : Int32) : Int32 := if nw 1 = -1 then wt else if nw 1 = x then 0 else wt / 2
def mCough (nw : Nat → Int32) (x : Nat) (wt : Int32) : Nat → Int32 := mAdd (mAdd nw (28 + x) 1) (38 + x) (mCgh nw (nI x) wt)
def mLeft (nw : Nat → Int32) : Int32 := if nw 1 = -1 then 0 else nw 2
def mUntil (li : Int32) (nw : Nat → Int32) : Int32 := if nw 1 = -1 then li - (nw 3 - nw 3 / li * li) else nw 2 + li
/-- the first k, of j many, whose B is more than 0 -/
def mBest (B : Nat → Int32) : Nat → Nat → Int32
  | 0, _ => -1
  | j + 1, k => if 0 < B k then nI k else mBest B j (k + 1)
/-- the checksum, as the reference adds it -/
def mHead (gu li : Int32) (nw : Nat → Int32) (gg : Nat) : Nat → Int32 := upd (upd (upd (upd (upd (upd (upd (upd (upd (upd (upd (fun _ => 0) 0 gu) 1 (nw 0)) 2 li) 3 (nw 1)) 4 (mLeft nw)) 5 (nw 3)) 6 (nw 4)) 7 (mWay nw 100)) 8 (nw 5)) 9 (nw 6)) 10 (mRate gu nw gg)
def lAcc (a : Nat → Int32) : Nat → Int64
  | 0 => 1973
  | i + 1 => lAcc a i * 31 + (a i).toInt64
def mTo (nw : Nat → Int32) (i : Nat) (d : Int64) : Nat → Int64
  | 0 => d
  | t + 1 => (mTo nw i d t * 31 + (nw (48 + (10 * i + t))).toInt64) * 31 + (nw (248 + (10 * i + t))).toInt64
def mFour (nw : Nat → Int32) (i : Nat) (d : Int64) : Int64 := (((d * 31 + (nw (8 + i)).toInt64) * 31 + (nw (18 + i)).toInt64) * 31 + (nw (28 + i)).toInt64) * 31 + (nw (38 + i)).toInt64
def mGs (nw : Nat → Int32) (gg : Nat) (d : Int64) : Nat → Int64
  | 0 => d
  | i + 1 => mTo nw i (mFour nw i (mGs nw gg d i)) gg
