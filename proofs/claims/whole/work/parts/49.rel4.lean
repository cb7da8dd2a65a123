section RelD
theorem dArr_own (f : Nat → Int32) (r : Nat → Nat → Int32) (x y : Nat) : (dArr f r x y).2 4 (x * 10 + y) = -1 := by
  unfold dArr
  split
  · split
    · dsimp only
      rw [vaUs, mUs]
    · dsimp only
      rw [vaUp (by omega), vaUs, mUs]
  · dsimp only
    rw [vaUs, mUs]
theorem dArr_oth (f : Nat → Int32) (r : Nat → Nat → Int32) (x y q : Nat) : (dArr f r x y).2 4 q = -1 ∨ (dArr f r x y).2 4 q = r 4 q := by
  by_cases e : q = x * 10 + y
  · subst e
    exact Or.inl (dArr_own f r x y)
  unfold dArr
  split
  · split
    · dsimp only
      rw [vaUs, mUp e]
      exact Or.inr rfl
    · dsimp only
      rw [vaUp (by omega), vaUs, mUp e]
      exact Or.inr rfl
  · dsimp only
    rw [vaUs, mUp e]
    by_cases e2 : q = y * 10 + x
    · subst e2
      rw [mUs]
      exact Or.inl rfl
    · rw [mUp e2]
      exact Or.inr rfl
theorem JP.arr {t : Nat → Int32} {L : List Nat} {nw : Nat → Int32} (hJ : JP t L nw) {q : Nat} (hq : q < 100) (h1 : 0 < nw (148 + q)) (h2 : nw (48 + q) = 0) : q ∈ L ∧ t q = 0 := by
  by_cases h : q ∈ L ∧ ¬ t q = -1
  · obtain ⟨c, a1, a2, a3, a4⟩ := (hJ q hq).1 h
    exact ⟨h.1, by rw [a2, ← a3, h2]⟩
  · have := ((hJ q hq).2 h).2.2
    rw [this] at h1
    exact absurd h1 (by decide)
theorem loop_rel {gg : Nat} {mk : Int32} {L : List Nat} {s0 : dS} {n0 : Nat → Int32} {e0 : Int32} (hg : gg ≤ 10) (hE : RE gg L) (hst : L.Pairwise (fun p q => n0 (148 + p) < n0 (148 + q))) (hC : RC s0.1 s0.2 n0) (hJ : JP (s0.2 4) L n0) : ∀ i, i ≤ L.length → ∃ (c : Nat) (s : mS), c ≤ i ∧ (∀ N, mLoop mk (N + c) (n0, e0) = mLoop mk N s) ∧ RC (dArrs L s0 i).1 (dArrs L s0 i).2 s.1 ∧ JP ((dArrs L s0 i).2 4) L s.1 ∧ ((dArrs L s0 i).1 0 = s0.1 0 ∧ (dArrs L s0 i).1 2 = s0.1 2 ∧ (dArrs L s0 i).1 3 = s0.1 3 ∧ (dArrs L s0 i).1 4 = s0.1 4) ∧ s.1 7 = n0 7 ∧ (∀ j, j < i → ¬ (dArrs L s0 i).2 4 (L.getD j 0) = 0) ∧ (∀ p, p < 100 → 0 < s.1 (148 + p) → s.1 (148 + p) = n0 (148 + p))
  | 0, _ => ⟨0, (n0, e0), Nat.le_refl 0, fun _ => rfl, hC, hJ, ⟨rfl, rfl, rfl, rfl⟩, rfl, fun j hj => absurd hj (Nat.not_lt_zero j), fun _ _ _ => rfl⟩
  | i + 1, hi => by
    obtain ⟨c, s, hc, hN, iC, iJ, iF, i7, iz, iS⟩ := loop_rel (mk := mk) (e0 := e0) hg hE hst hC hJ i (by omega)
    have hgi : L.getD i 0 = L[i] := by simp [show i < L.length by omega]
    have hmem : L[i] ∈ L := List.getElem_mem (by omega)
    have hp100 : L[i] < 100 := hE.lt hg hmem
    by_cases h0 : (dArrs L s0 i).2 4 (L.getD i 0) = 0
    · have ed : dArrs L s0 (i + 1) = dArr (dArrs L s0 i).1 (dArrs L s0 i).2 (L.getD i 0 / 10) (L.getD i 0 % 10) := by
        show (if _ then _ else _) = _
        rw [if_pos h0]
      rw [hgi] at ed h0
      obtain ⟨cc, a1, a2, a3, a4⟩ := (iJ L[i] hp100).1 ⟨hmem, by rw [h0]; decide⟩
      have hgo : s.1 (48 + L[i]) = 0 := by rw [a3, ← a2, h0]
      rcases mScan_sp s.1 100 (by decide) with ⟨-, b⟩ | ⟨q, q1, q2, q3, q4⟩
      · exact absurd ⟨a4, hgo⟩ (b L[i] hp100)
      · obtain ⟨m1, m2⟩ := iJ.arr q1 q3.1 q3.2
        obtain ⟨j, hj, ej⟩ := List.mem_iff_getElem.mp m1
        have hij : i ≤ j := by
          apply Nat.le_of_not_lt
          intro hlt
          refine iz j hlt ?_
          rw [show L.getD j 0 = q by simp [hj, ej]]
          exact m2
        have hji : j ≤ i := by
          apply Nat.le_of_not_lt
          intro hlt
          have h1 := List.pairwise_iff_getElem.mp hst i j (by omega) hj hlt
          rw [ej, ← iS _ hp100 a4, ← iS q q1 q3.1] at h1
          exact Int32.not_le.mpr h1 (q4 L[i] hp100 a4 hgo)
        have eq : q = L[i] := by
          rw [← ej]
          congr 1
          omega
        subst eq
        obtain ⟨e1, e2, e3⟩ := hE _ hmem
        have epq : 10 * (L[i] / 10) + L[i] % 10 = L[i] := by omega
        have edn : dN (mScan s.1 100) = L[i] := by rw [q2]; exact dN_nI (by omega)
        have ha := arr_rel (x := L[i] / 10) (y := L[i] % 10) (by omega) (by omega) e3 iC iJ (by rw [epq]; exact hmem) (by rw [epq]; exact h0)
        obtain ⟨g1, g2, g3, g4⟩ := ha
        refine ⟨c + 1, mStep mk s, by omega, fun N => ?_, ?_, ?_, ?_, ?_, fun j hj => ?_, fun p hp hh => ?_⟩
        · rw [show N + (c + 1) = (N + 1) + c by omega, hN (N + 1)]
          show (if mScan s.1 100 = -1 then s else mLoop mk N (mStep mk s)) = _
          rw [if_neg (by rw [q2]; exact nI_m1 (by omega))]
        · rw [ed]
          show RC _ _ (mArr s.1 (dN (mScan s.1 100) / 10) (dN (mScan s.1 100) % 10))
          rw [edn]
          exact g1
        · rw [ed]
          show JP _ _ (mArr s.1 (dN (mScan s.1 100) / 10) (dN (mScan s.1 100) % 10))
          rw [edn]
          exact g2
        · rw [ed]
          exact ⟨g3.1.trans iF.1, g3.2.1.trans iF.2.1, g3.2.2.1.trans iF.2.2.1, g3.2.2.2.trans iF.2.2.2⟩
        · show mArr s.1 (dN (mScan s.1 100) / 10) (dN (mScan s.1 100) % 10) 7 = _
          rw [edn, g4, i7]
        · rw [ed]
          by_cases e : j = i
          · subst e
            rw [hgi]
            have := dArr_own (dArrs L s0 j).1 (dArrs L s0 j).2 (L[j] / 10) (L[j] % 10)
            rw [show L[j] / 10 * 10 + L[j] % 10 = L[j] by omega] at this
            rw [this]
            decide
          · rcases dArr_oth (dArrs L s0 i).1 (dArrs L s0 i).2 (L[i] / 10) (L[i] % 10) (L.getD j 0) with h | h
            · rw [h]
              decide
            · rw [h]
              exact iz j (by omega)
        · have hh : 0 < mArr s.1 (dN (mScan s.1 100) / 10) (dN (mScan s.1 100) % 10) (148 + p) := hh
          show mArr s.1 (dN (mScan s.1 100) / 10) (dN (mScan s.1 100) % 10) (148 + p) = _
          rw [edn, mArr_st s.1 (by omega) (by omega) p hp] at hh ⊢
          split at hh
          · exact absurd hh (by decide)
          · split at hh
            · exact absurd hh (by decide)
            · rename_i h1 h2
              rw [if_neg h1, if_neg h2]
              exact iS p hp hh
    · have ed : dArrs L s0 (i + 1) = dArrs L s0 i := by
        show (if _ then _ else _) = _
        rw [if_neg h0]
      rw [ed]
      refine ⟨c, s, by omega, hN, iC, iJ, iF, i7, fun j hj => ?_, iS⟩
      by_cases e : j = i
      · subst e
        exact h0
      · exact iz j (by omega)
theorem mLoop_stop {mk : Int32} {s : mS} (h : mScan s.1 100 = -1) : ∀ N, mLoop mk N s = s
  | 0 => rfl
  | N + 1 => by
    show (if _ then _ else _) = _
    rw [if_pos h]
/-- what is forgotten -/
theorem dKeep_app (t : Nat → Int32) (A : List Nat) (a : Nat) : dKeep t (A ++ [a]) = dKeep t A ++ (if t a = -1 then [] else [a]) := by
  unfold dKeep
  rw [List.filter_append]
  congr 1
  by_cases h : t a = -1
  · simp [h]
  · simp [h]
theorem fgt_get (t o : Nat → Int32) (L : List Nat) : ∀ i, i ≤ L.length → (dFgt t o L i).1 = (dKeep t (L.take i)).length ∧ ∀ j, j < (dKeep t (L.take i)).length → (dFgt t o L i).2 j = nI ((dKeep t (L.take i)).getD j 0)
  | 0, _ => by simp [dFgt, dKeep]
  | i + 1, hi => by
    obtain ⟨h1, h2⟩ := fgt_get t o L i (by omega)
    have hg : L.getD i 0 = L[i] := by simp [show i < L.length by omega]
    have ht : L.take (i + 1) = L.take i ++ [L[i]] := by rw [List.take_succ, List.getElem?_eq_getElem (by omega)]; rfl
    rw [ht, dKeep_app]
    unfold dFgt
    rw [hg]
    by_cases h : t L[i] = -1
    · rw [if_pos h, if_pos h, List.append_nil]
      exact ⟨h1, h2⟩
    · rw [if_neg h, if_neg h]
      refine ⟨by simp [h1], fun j hj => ?_⟩
      show upd (dFgt t o L i).2 (dFgt t o L i).1 (nI L[i]) j = _
      rw [h1]
      by_cases e : j = (dKeep t (L.take i)).length
      · subst e
        rw [mUs]
        simp
      · have hj2 : j < (dKeep t (L.take i)).length := by
          rw [List.length_append] at hj
          simp at hj
          omega
        rw [mUp e, h2 j hj2]
        congr 1
        rw [List.getD_eq_getElem?_getD, List.getD_eq_getElem?_getD, List.getElem?_append_left hj2]
end RelD
