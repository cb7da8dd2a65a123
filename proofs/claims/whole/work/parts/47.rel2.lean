/-! A second: talk, an arrival, the flight, what is forgotten. -/
section RelB
theorem vaUp {α : Type} {r : Nat → α} {k j : Nat} {x : α} (h : j ≠ k) : va_up r k x j = r j := if_neg h
theorem vaUs {α : Type} {r : Nat → α} {k : Nat} {x : α} : va_up r k x k = x := if_pos rfl
theorem talk_rel {gg li : Nat} {f : Nat → Int32} {r : Nat → Nat → Int32} {nw : Nat → Int32} (hg : gg ≤ 10) (h1 : 1 ≤ li) (h3 : li ≤ 30) (h2 : f 2 = nI li) (hC : RC f r nw) (hT : RT gg f) :
    RC (dTalk f r).1 (dTalk f r).2 (mTalk (nI li) nw) ∧ RT gg (dTalk f r).1 ∧ ((dTalk f r).1 0 = f 0 ∧ (dTalk f r).1 2 = f 2) ∧ (dTalk f r).2 4 = r 4 ∧ (∀ j, 48 ≤ j → mTalk (nI li) nw j = nw j) ∧ mTalk (nI li) nw 7 = nw 7 := by
  obtain ⟨c0, c1, c2, c3, c4, c5, c6, k0, k1, k2, k3, k5⟩ := hC
  have hli : (0 : Int32) < nI li := nI_0 ▸ nI_lt (by omega) (by omega)
  rcases hT with ⟨a, b⟩ | ⟨q, w, a1, a2, a3, a4, a5⟩
  · have e1 : nw 1 = -1 := by rw [← c1]; exact a
    have eb : dBm (f 2) (f 5 + 1) = mAdd nw 3 1 3 - mAdd nw 3 1 3 / nI li * nI li := by
      rw [mAs, ← c3]
      unfold dBm
      rw [h2, if_pos hli]
    unfold dTalk mTalk
    rw [if_pos a, if_pos e1, ← eb]
    by_cases hb : dBm (f 2) (f 5 + 1) = 0
    · rw [if_pos hb, if_pos hb]
      dsimp only
      refine ⟨⟨?_, ?_, ?_, ?_, ?_, ?_, ?_, fun j hj => ?_, fun j hj => ?_, fun j hj => ?_, fun j hj => ?_, fun j hj => ?_⟩, Or.inl ⟨?_, ?_⟩, ⟨?_, ?_⟩, rfl, fun j hj => ?_, ?_⟩
      all_goals (try simp (disch := omega) only [mAp, mUp, mUs, mAs])
      all_goals first | assumption | (rw [c3]) | (rw [c4]) | exact k0 j hj | exact k1 j hj | exact k2 j hj | exact k3 j hj | exact k5 j hj
    · rw [if_neg hb, if_neg hb]
      dsimp only
      refine ⟨⟨?_, ?_, ?_, ?_, ?_, ?_, ?_, fun j hj => ?_, fun j hj => ?_, fun j hj => ?_, fun j hj => ?_, fun j hj => ?_⟩, Or.inl ⟨?_, ?_⟩, ⟨?_, ?_⟩, rfl, fun j hj => ?_, ?_⟩
      all_goals (try simp (disch := omega) only [mAp, mUp, mUs, mAs])
      all_goals first | assumption | (rw [c3]) | (rw [c4]) | exact k0 j hj | exact k1 j hj | exact k2 j hj | exact k3 j hj | exact k5 j hj
  · have en : ¬ f 3 = -1 := by rw [a4]; exact nI_m1 (by omega)
    have en1 : ¬ nw 1 = -1 := by rw [← c1]; exact en
    have hq : dN (nw 1) = q := by rw [← c1, a4]; exact dN_nI (by omega)
    have hq' : dN (f 3) = q := by rw [a4]; exact dN_nI (by omega)
    have ew : f 4 - 1 = nI (w - 1) := by rw [a5]; exact nI_m1' (by omega)
    have e2 : mTlk nw q 2 = f 4 - 1 := by
      unfold mTlk
      rw [mSs, mAp (by omega), mUp (by omega), c2]
    unfold dTalk mTalk
    rw [if_neg en, if_neg en1, hq, hq', e2]
    have krow : ∀ j, j < 10 → upd (r 0) q (r 0 q + 1) j = mTlk nw q (8 + j) := by
      intro j hj
      unfold mTlk
      by_cases e : j = q
      · subst e
        rw [mUs, mSp (by omega), mAs, mUp (by omega), k0 j hj]
      · rw [mUp e, mSp (by omega), mAp (by omega), mUp (by omega), k0 j hj]
    have kfar : ∀ j, 18 ≤ j → mTlk nw q j = nw j := fun j hj => by
      unfold mTlk
      rw [mSp (by omega), mAp (by omega), mUp (by omega)]
    have klow : ∀ j, j < 8 → j ≠ 2 → j ≠ 3 → mTlk nw q j = nw j := fun j h0 h2 h3 => by
      unfold mTlk
      rw [mSp h2, mAp (by omega), mUp h3]
    have k3' : mTlk nw q 3 = 0 := by
      unfold mTlk
      rw [mSp (by omega), mAp (by omega), mUs]
    by_cases hw : w = 1
    · subst hw
      have e0 : f 4 - 1 = 0 := by rw [ew]; exact nI_0
      rw [if_pos e0, if_pos e0, e0]
      dsimp only
      refine ⟨⟨?_, ?_, ?_, ?_, ?_, ?_, ?_, fun j hj => ?_, fun j hj => ?_, fun j hj => ?_, fun j hj => ?_, fun j hj => ?_⟩, Or.inl ⟨?_, ?_⟩, ⟨?_, ?_⟩, ?_, fun j hj => ?_, ?_⟩
      · rw [mUp (by omega), mUp (by omega), mUp (by omega), mUp (by omega), klow 0 (by omega) (by omega) (by omega), c0]
      · rw [mUp (by omega), mUp (by omega), mUs, mUs]
      · rw [mUp (by omega), mUs, mUp (by omega), e2, e0]
      · rw [mUs, mUp (by omega), k3']
      · rw [mUp (by omega), mUp (by omega), mUp (by omega), mUp (by omega), klow 4 (by omega) (by omega) (by omega), c4]
      · rw [mUp (by omega), mUp (by omega), mUp (by omega), mUp (by omega), klow 5 (by omega) (by omega) (by omega), c5]
      · rw [mUp (by omega), mUp (by omega), mUp (by omega), mUp (by omega), klow 6 (by omega) (by omega) (by omega), c6]
      · show va_up r 0 _ 0 j = _
        rw [vaUs, krow j hj, mUp (by omega)]
      · show va_up r 0 _ 1 j = _
        rw [vaUp (by omega), mUp (by omega), kfar _ (by omega), k1 j hj]
      · show va_up r 0 _ 2 j = _
        rw [vaUp (by omega), mUp (by omega), kfar _ (by omega), k2 j hj]
      · show va_up r 0 _ 3 j = _
        rw [vaUp (by omega), mUp (by omega), kfar _ (by omega), k3 j hj]
      · show va_up r 0 _ 5 j = _
        rw [vaUp (by omega), mUp (by omega), kfar _ (by omega), k5 j hj]
      · rw [mUp (by omega), mUp (by omega), mUs]
      · rw [mUp (by omega), mUs]
      · rw [mUp (by omega), mUp (by omega), mUp (by omega)]
      · rw [mUp (by omega), mUp (by omega), mUp (by omega)]
      · show va_up r 0 _ 4 = _
        rw [vaUp (by omega)]
      · rw [mUp (by omega), kfar _ (by omega)]
      · rw [mUp (by omega), klow 7 (by omega) (by omega) (by omega)]
    · have e0 : ¬ f 4 - 1 = 0 := by
        rw [ew, ← nI_0]
        intro e
        have := (nI_eq (by omega) (by omega)).mp e
        omega
      rw [if_neg e0, if_neg e0]
      dsimp only
      refine ⟨⟨?_, ?_, ?_, ?_, ?_, ?_, ?_, fun j hj => ?_, fun j hj => ?_, fun j hj => ?_, fun j hj => ?_, fun j hj => ?_⟩, Or.inr ⟨q, w - 1, a1, by omega, by omega, ?_, ?_⟩, ⟨?_, ?_⟩, ?_, fun j hj => ?_, ?_⟩
      · rw [mUp (by omega), mUp (by omega), klow 0 (by omega) (by omega) (by omega), c0]
      · rw [mUp (by omega), mUp (by omega), klow 1 (by omega) (by omega) (by omega), c1]
      · rw [mUp (by omega), mUs, e2]
      · rw [mUs, k3']
      · rw [mUp (by omega), mUp (by omega), klow 4 (by omega) (by omega) (by omega), c4]
      · rw [mUp (by omega), mUp (by omega), klow 5 (by omega) (by omega) (by omega), c5]
      · rw [mUp (by omega), mUp (by omega), klow 6 (by omega) (by omega) (by omega), c6]
      · show va_up r 0 _ 0 j = _
        rw [vaUs]
        exact krow j hj
      · show va_up r 0 _ 1 j = _
        rw [vaUp (by omega), kfar _ (by omega), k1 j hj]
      · show va_up r 0 _ 2 j = _
        rw [vaUp (by omega), kfar _ (by omega), k2 j hj]
      · show va_up r 0 _ 3 j = _
        rw [vaUp (by omega), kfar _ (by omega), k3 j hj]
      · show va_up r 0 _ 5 j = _
        rw [vaUp (by omega), kfar _ (by omega), k5 j hj]
      · rw [mUp (by omega), mUp (by omega), a4]
      · rw [mUp (by omega), mUs, ew]
      · rw [mUp (by omega), mUp (by omega)]
      · rw [mUp (by omega), mUp (by omega)]
      · show va_up r 0 _ 4 = _
        rw [vaUp (by omega)]
      · rw [kfar _ (by omega)]
      · rw [klow 7 (by omega) (by omega) (by omega)]
end RelB
