section RelC
theorem dDec_get {t : Nat → Int32} {L : List Nat} (hn : L.Nodup) : ∀ i, i ≤ L.length → ∀ p, dDec t L i p = if p ∈ L.take i then t p - 1 else t p
  | 0, _, p => by simp [dDec]
  | i + 1, hi, p => by
    have ih := dDec_get (t := t) hn i (by omega)
    have hg : L.getD i 0 = L[i] := by simp [show i < L.length by omega]
    have ht : L.take (i + 1) = L.take i ++ [L[i]] := by rw [List.take_succ, List.getElem?_eq_getElem (by omega)]; rfl
    have hnot : L[i] ∉ L.take i := fun hm => by
      obtain ⟨j, hj, e⟩ := List.mem_iff_getElem.mp hm
      rw [List.length_take] at hj
      rw [List.getElem_take] at e
      have := (List.getElem_inj hn).mp e
      omega
    show upd (dDec t L i) (L.getD i 0) (dDec t L i (L.getD i 0) - 1) p = _
    rw [hg, ht]
    by_cases e : p = L[i]
    · subst e
      rw [mUs, ih, if_neg hnot, if_pos (List.mem_append_right _ List.mem_cons_self)]
    · rw [mUp e, ih]
      by_cases hm : p ∈ L.take i
      · rw [if_pos hm, if_pos (List.mem_append_left _ hm)]
      · rw [if_neg hm, if_neg (fun h => by
          rcases List.mem_append.mp h with h | h
          · exact hm h
          · exact e (List.mem_singleton.mp h))]
theorem mDec_go (nw : Nat → Int32) : ∀ i, i ≤ 100 → ∀ j, mDec nw i j = if (48 ≤ j ∧ j < 48 + i ∧ 0 < nw (148 + (j - 48))) then nw j - 1 else nw j
  | 0, _, j => by rw [if_neg (by omega)]; rfl
  | i + 1, hi, j => by
    have ih := mDec_go nw i (by omega)
    have e1 : mDec nw i (148 + i) = nw (148 + i) := by rw [ih, if_neg (by omega)]
    have e2 : mDec nw i (48 + i) = nw (48 + i) := by rw [ih, if_neg (by omega)]
    unfold mDec
    rw [e1]
    by_cases h : 0 < nw (148 + i)
    · rw [if_pos h]
      by_cases e : j = 48 + i
      · subst e
        rw [mSs, e2, if_pos ⟨by omega, by omega, by rw [show 48 + i - 48 = i by omega]; exact h⟩]
      · rw [mSp e, ih]
        by_cases hh : 48 ≤ j ∧ j < 48 + i ∧ 0 < nw (148 + (j - 48))
        · rw [if_pos hh, if_pos ⟨hh.1, by omega, hh.2.2⟩]
        · rw [if_neg hh, if_neg (fun h3 => hh ⟨h3.1, by omega, h3.2.2⟩)]
    · rw [if_neg h, ih]
      by_cases hh : 48 ≤ j ∧ j < 48 + i ∧ 0 < nw (148 + (j - 48))
      · rw [if_pos hh, if_pos ⟨hh.1, by omega, hh.2.2⟩]
      · rw [if_neg hh, if_neg (fun h3 => by
          by_cases e : j = 48 + i
          · subst e
            rw [show 48 + i - 48 = i by omega] at h3
            exact h h3.2.2
          · exact hh ⟨h3.1, by omega, h3.2.2⟩)]
theorem mDec_far {nw : Nat → Int32} {j : Nat} (h : j < 48 ∨ 148 ≤ j) : mDec nw 100 j = nw j := by rw [mDec_go nw 100 (by omega), if_neg (by omega)]
/-- everything on its way comes nearer -/
theorem dec_rel {f : Nat → Int32} {r : Nat → Nat → Int32} {L : List Nat} {nw : Nat → Int32} (hn : L.Nodup) (hC : RC f r nw) (hP : RP (r 4) L nw) : RC f (va_up r 4 (dDec (r 4) L L.length)) (mDec nw 100) ∧ JP (dDec (r 4) L L.length) L (mDec nw 100) := by
  obtain ⟨c0, c1, c2, c3, c4, c5, c6, k0, k1, k2, k3, k5⟩ := hC
  refine ⟨⟨?_, ?_, ?_, ?_, ?_, ?_, ?_, fun j hj => ?_, fun j hj => ?_, fun j hj => ?_, fun j hj => ?_, fun j hj => ?_⟩, fun p hp => ?_⟩
  · rw [mDec_far (by omega), c0]
  · rw [mDec_far (by omega), c1]
  · rw [mDec_far (by omega), c2]
  · rw [mDec_far (by omega), c3]
  · rw [mDec_far (by omega), c4]
  · rw [mDec_far (by omega), c5]
  · rw [mDec_far (by omega), c6]
  · rw [mDec_far (by omega), vaUp (by omega), k0 j hj]
  · rw [mDec_far (by omega), vaUp (by omega), k1 j hj]
  · rw [mDec_far (by omega), vaUp (by omega), k2 j hj]
  · rw [mDec_far (by omega), vaUp (by omega), k3 j hj]
  · rw [mDec_far (by omega), vaUp (by omega), k5 j hj]
  · rw [dDec_get hn L.length (Nat.le_refl _), List.take_length, mDec_far (j := 148 + p) (by omega), mDec_go nw 100 (by omega)]
    obtain ⟨h1, h2⟩ := hP p hp
    by_cases hm : p ∈ L
    · obtain ⟨c, a1, a2, a3, a4, a5⟩ := h1 hm
      have ec : nI c - 1 = nI (c - 1) := nI_m1' (by omega)
      rw [if_pos hm, if_pos ⟨by omega, by omega, by rw [show 48 + p - 48 = p by omega]; exact a5⟩, a3, a4, ec]
      exact ⟨fun _ => ⟨c - 1, by omega, rfl, rfl, a5⟩, fun hh => absurd ⟨hm, nI_m1 (by omega)⟩ hh⟩
    · obtain ⟨b1, b2, b3⟩ := h2 hm
      rw [if_neg hm, if_neg (fun hh => by rw [show 48 + p - 48 = p by omega, b3] at hh; exact absurd hh.2.2 (by decide))]
      exact ⟨fun hh => absurd hh.1 hm, fun _ => ⟨b1, b2, b3⟩⟩
theorem JP.ends {t t' : Nat → Int32} {L : List Nat} {nw N : Nat → Int32} (hJ : JP t L nw) (h : ∀ q, q < 100 → (t' q = -1 ∧ N (48 + q) = 0 ∧ N (148 + q) = 0) ∨ (t' q = t q ∧ N (48 + q) = nw (48 + q) ∧ N (148 + q) = nw (148 + q))) : JP t' L N := by
  intro q hq
  rcases h q hq with ⟨a1, a2, a3⟩ | ⟨a1, a2, a3⟩
  · exact ⟨fun hh => absurd a1 hh.2, fun _ => ⟨a1, a2, a3⟩⟩
  · rw [a1, a2, a3]
    exact hJ q hq
theorem JP.way {t : Nat → Int32} {L : List Nat} {nw : Nat → Int32} (hJ : JP t L nw) {q : Nat} (hq : q < 100) : 0 < nw (148 + q) ↔ ¬ t q = -1 := by
  obtain ⟨h1, h2⟩ := hJ q hq
  by_cases h : q ∈ L ∧ ¬ t q = -1
  · obtain ⟨c, a1, a2, a3, a4⟩ := h1 h
    exact ⟨fun _ => h.2, fun _ => a4⟩
  · obtain ⟨b1, b2, b3⟩ := h2 h
    rw [b3]
    exact ⟨fun hh => absurd hh (by decide), fun hh => absurd b1 hh⟩
/-- one glance arrives -/
theorem arr_rel {f : Nat → Int32} {r : Nat → Nat → Int32} {L : List Nat} {nw : Nat → Int32} {x y : Nat} (hx : x < 10) (hy : y < 10) (hxy : x ≠ y) (hC : RC f r nw) (hJ : JP (r 4) L nw) (hp : 10 * x + y ∈ L) (ht : r 4 (10 * x + y) = 0) :
    RC (dArr f r x y).1 (dArr f r x y).2 (mArr nw x y) ∧ JP ((dArr f r x y).2 4) L (mArr nw x y) ∧ ((dArr f r x y).1 0 = f 0 ∧ (dArr f r x y).1 2 = f 2 ∧ (dArr f r x y).1 3 = f 3 ∧ (dArr f r x y).1 4 = f 4) ∧ mArr nw x y 7 = nw 7 := by
  have hw := hJ.way (q := 10 * y + x) (by omega)
  have h48 : nw (48 + (10 * x + y)) = 0 := by
    obtain ⟨c, a1, a2, a3, a4⟩ := (hJ (10 * x + y) (by omega)).1 ⟨hp, by rw [ht]; decide⟩
    rw [a3, ← a2, ht]
  obtain ⟨c0, c1, c2, c3, c4, c5, c6, k0, k1, k2, k3, k5⟩ := hC
  have hst := mArr_st nw hx hy
  unfold dArr
  rw [show y * 10 + x = 10 * y + x by omega, show x * 10 + y = 10 * x + y by omega]
  unfold mArr at hst ⊢
  by_cases hr : r 4 (10 * y + x) = -1
  · have hm : ¬ 0 < nw (148 + (10 * y + x)) := fun h => (hw.mp h) hr
    have es : upd nw (148 + (10 * x + y)) 0 1 = nw 1 := mUp (by omega)
    rw [if_neg hm, es] at hst ⊢
    rw [if_pos hr, ← c1]
    rw [← c1] at hst
    by_cases hs : f 3 = nI y
    · rw [if_pos hs] at hst ⊢
      rw [if_pos hs]
      dsimp only
      refine ⟨⟨?_, ?_, ?_, ?_, ?_, ?_, ?_, fun j hj => ?_, fun j hj => ?_, fun j hj => ?_, fun j hj => ?_, fun j hj => ?_⟩, hJ.ends (fun q hq => ?_), ⟨?_, ?_, ?_, ?_⟩, ?_⟩
      case refine_13 =>
        rw [hst q hq, mAp (by omega), mUp (by omega), vaUs]
        by_cases e : q = 10 * x + y
        · subst e
          rw [mUs, if_pos rfl]
          exact Or.inl ⟨rfl, h48, rfl⟩
        · rw [mUp e, if_neg e, if_neg (fun h => hm h.2)]
          exact Or.inr ⟨rfl, rfl, rfl⟩
      all_goals (try simp (disch := omega) only [mAp, mUp, mUs, mAs, vaUp, vaUs])
      all_goals first | assumption | (rw [c6]) | exact k0 j hj | exact k1 j hj | exact k2 j hj | exact k3 j hj | exact k5 j hj
    · rw [if_neg hs] at hst ⊢
      rw [if_neg hs]
      dsimp only
      refine ⟨⟨?_, ?_, ?_, ?_, ?_, ?_, ?_, fun j hj => ?_, fun j hj => ?_, fun j hj => ?_, fun j hj => ?_, fun j hj => ?_⟩, hJ.ends (fun q hq => ?_), ⟨?_, ?_, ?_, ?_⟩, ?_⟩
      case refine_11 =>
        rw [vaUp (by omega), vaUp (by omega), vaUs]
        by_cases e : j = x
        · subst e
          rw [mUs, mAs, mAp (by omega), mUp (by omega), k3 j hj]
        · rw [mUp e, mAp (by omega), mAp (by omega), mUp (by omega), k3 j hj]
      case refine_12 =>
        rw [vaUs]
        by_cases e : j = 10 * x + y
        · subst e
          rw [mUs, mAp (by omega), mAs, mUp (by omega), k5 _ hj]
        · rw [mUp e, mAp (by omega), mAp (by omega), mUp (by omega), k5 j hj]
      case refine_13 =>
        rw [hst q hq, mAp (by omega), mAp (by omega), mUp (by omega), vaUp (by omega), vaUs]
        by_cases e : q = 10 * x + y
        · subst e
          rw [mUs, if_pos rfl]
          exact Or.inl ⟨rfl, h48, rfl⟩
        · rw [mUp e, if_neg e, if_neg (fun h => hm h.2)]
          exact Or.inr ⟨rfl, rfl, rfl⟩
      all_goals (try simp (disch := omega) only [mAp, mUp, mUs, mAs, vaUp, vaUs])
      all_goals first | assumption | exact k0 j hj | exact k1 j hj | exact k2 j hj
  · have hm : 0 < nw (148 + (10 * y + x)) := hw.mpr hr
    rw [if_pos hm] at hst ⊢
    rw [if_neg hr]
    dsimp only
    refine ⟨⟨?_, ?_, ?_, ?_, ?_, ?_, ?_, fun j hj => ?_, fun j hj => ?_, fun j hj => ?_, fun j hj => ?_, fun j hj => ?_⟩, hJ.ends (fun q hq => ?_), ⟨?_, ?_, ?_, ?_⟩, ?_⟩
    case refine_11 =>
      rw [vaUp (by omega), vaUs]
      by_cases e : j = y
      · subst e
        rw [mUs, mUp (by omega), mAp (by omega), mAs, mAp (by omega), mUp (by omega), mUp (by omega), mUp (by omega), k3 j hj]
      · rw [mUp e, mAp (by omega), mAp (by omega)]
        by_cases e2 : j = x
        · subst e2
          rw [mUs, mAs, mUp (by omega), mUp (by omega), mUp (by omega), k3 j hj]
        · rw [mUp e2, mAp (by omega), mUp (by omega), mUp (by omega), mUp (by omega), k3 j hj]
    case refine_13 =>
      rw [hst q hq, mAp (by omega), mAp (by omega), mAp (by omega), vaUs]
      by_cases e : q = 10 * x + y
      · subst e
        rw [mUs, if_pos rfl, mUp (by omega), mUp (by omega), mUp (by omega)]
        exact Or.inl ⟨rfl, h48, rfl⟩
      · rw [mUp e, if_neg e]
        by_cases e2 : q = 10 * y + x
        · subst e2
          rw [mUs, mUs, if_pos ⟨rfl, hm⟩]
          exact Or.inl ⟨rfl, rfl, rfl⟩
        · rw [mUp e2, if_neg (fun h => e2 h.1), mUp (by omega), mUp (by omega), mUp (by omega)]
          exact Or.inr ⟨rfl, rfl, rfl⟩
    all_goals (try simp (disch := omega) only [mAp, mUp, mUs, mAs, vaUp, vaUs])
    all_goals first | assumption | (rw [c5]) | exact k0 j hj | exact k1 j hj | exact k2 j hj | exact k5 j hj
end RelC
