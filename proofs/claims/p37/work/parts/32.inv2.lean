/-! A second of the class's dinner: what becomes of every pair. -/
section IV2
theorem dDec_get {t : Nat → Int32} {L : List Nat} (hn : L.Nodup) : ∀ i, i ≤ L.length → ∀ p, dDec t L i p = if p ∈ L.take i then t p - 1 else t p
  | 0, _, p => by simp [dDec]
  | i + 1, hi, p => by
    have ih := dDec_get (t := t) hn i (by omega)
    have hg : L.getD i 0 = L[i] := by simp [show i < L.length by omega]
    have ht : L.take (i + 1) = L.take i ++ [L[i]] := by rw [List.take_succ, List.getElem?_eq_getElem (by omega)]; rfl
    have hnot : L[i] ∉ L.take i := fun hm => by
      obtain ⟨j, hj, e⟩ := List.mem_iff_getElem.mp hm
      rw [List.length_take] at hj
      rw [List.getElem_take] at e
      have := (List.getElem_inj hn).mp e
      omega
    show upd (dDec t L i) (L.getD i 0) (dDec t L i (L.getD i 0) - 1) p = _
    rw [hg, ht]
    by_cases e : p = L[i]
    · subst e
      rw [mUs, ih, if_neg hnot, if_pos (List.mem_append_right _ List.mem_cons_self)]
    · rw [mUp e, ih]
      by_cases hm : p ∈ L.take i
      · rw [if_pos hm, if_pos (List.mem_append_left _ hm)]
      · rw [if_neg hm, if_neg (fun h => by
          rcases List.mem_append.mp h with h | h
          · exact hm h
          · exact e (List.mem_singleton.mp h))]
theorem dKeep_app (t : Nat → Int32) (A : List Nat) (a : Nat) : dKeep t (A ++ [a]) = dKeep t A ++ (if t a = -1 then [] else [a]) := by
  unfold dKeep
  rw [List.filter_append]
  congr 1
  by_cases h : t a = -1
  · simp [h]
  · simp [h]
theorem fgt_get (t o : Nat → Int32) (L : List Nat) : ∀ i, i ≤ L.length → (dFgt t o L i).1 = (dKeep t (L.take i)).length ∧ ∀ j, j < (dKeep t (L.take i)).length → (dFgt t o L i).2 j = nI ((dKeep t (L.take i)).getD j 0)
  | 0, _ => by simp [dFgt, dKeep]
  | i + 1, hi => by
    obtain ⟨h1, h2⟩ := fgt_get t o L i (by omega)
    have hg : L.getD i 0 = L[i] := by simp [show i < L.length by omega]
    have ht : L.take (i + 1) = L.take i ++ [L[i]] := by rw [List.take_succ, List.getElem?_eq_getElem (by omega)]; rfl
    rw [ht, dKeep_app]
    unfold dFgt
    rw [hg]
    by_cases h : t L[i] = -1
    · rw [if_pos h, if_pos h, List.append_nil]
      exact ⟨h1, h2⟩
    · rw [if_neg h, if_neg h]
      refine ⟨by simp [h1], fun j hj => ?_⟩
      show upd (dFgt t o L i).2 (dFgt t o L i).1 (nI L[i]) j = _
      rw [h1]
      by_cases e : j = (dKeep t (L.take i)).length
      · subst e
        rw [mUs]
        simp
      · have hj2 : j < (dKeep t (L.take i)).length := by
          rw [List.length_append] at hj
          simp at hj
          omega
        rw [mUp e, h2 j hj2]
        congr 1
        rw [List.getD_eq_getElem?_getD, List.getD_eq_getElem?_getD, List.getElem?_append_left hj2]
theorem mem_keep {t : Nat → Int32} {L : List Nat} {p : Nat} : p ∈ dKeep t L ↔ p ∈ L ∧ ¬ t p = -1 := by
  unfold dKeep
  rw [List.mem_filter]
  simp
theorem oR_fgt (t o : Nat → Int32) (L : List Nat) : oR (dFgt t o L L.length).2 (dKeep t L) := by
  intro j hj
  have h := (fgt_get t o L L.length (Nat.le_refl _)).2 j
  rw [List.take_length] at h
  exact h hj
theorem nodup_len : ∀ (n : Nat) (L : List Nat), L.Nodup → (∀ p ∈ L, p < n) → L.length ≤ n
  | 0, L, _, h => by
    cases L with
    | nil => exact Nat.le_refl 0
    | cons a t => exact absurd (h a List.mem_cons_self) (Nat.not_lt_zero a)
  | n + 1, L, hn, h => by
    by_cases hm : n ∈ L
    · have e := List.length_erase_of_mem hm
      have ih := nodup_len n (L.erase n) (hn.erase n) (fun p hp => by
        have h1 := h p (List.mem_of_mem_erase hp)
        have h2 : p ≠ n := fun e => by
          subst e
          exact hn.not_mem_erase hp
        omega)
      have := List.length_pos_of_mem hm
      omega
    · have := nodup_len n L hn (fun p hp => by
        have h1 := h p hp
        have h2 : p ≠ n := fun e => hm (e ▸ hp)
        omega)
      omega
theorem sw_sw {p : Nat} (h : p < 100) : sw (sw p) = p := by
  unfold sw
  omega
theorem sw_lt {p : Nat} (h : p < 100) : sw p < 100 := by
  unfold sw
  omega
theorem arr_t (f : Nat → Int32) (r : Nat → Nat → Int32) (x y q : Nat) : (dArr f r x y).2 4 q = if q = x * 10 + y ∨ q = y * 10 + x then -1 else r 4 q := by
  unfold dArr
  by_cases hb : r 4 (y * 10 + x) = -1
  · rw [if_pos hb]
    have one : upd (r 4) (x * 10 + y) (-1) q = if q = x * 10 + y ∨ q = y * 10 + x then -1 else r 4 q := by
      by_cases e : q = x * 10 + y
      · rw [if_pos (Or.inl e), e, mUs]
      · rw [mUp e]
        by_cases e2 : q = y * 10 + x
        · rw [if_pos (Or.inr e2), e2, hb]
        · rw [if_neg (fun h => h.elim e e2)]
    split
    · dsimp only
      rw [vaUs]
      exact one
    · dsimp only
      rw [vaUp (by decide), vaUs]
      exact one
  · rw [if_neg hb]
    dsimp only
    rw [vaUs]
    by_cases e : q = x * 10 + y
    · rw [if_pos (Or.inl e), e, mUs]
    · rw [mUp e]
      by_cases e2 : q = y * 10 + x
      · rw [if_pos (Or.inr e2), e2, mUs]
      · rw [mUp e2, if_neg (fun h => h.elim e e2)]
theorem arr_c (f : Nat → Int32) (r : Nat → Nat → Int32) (x y q : Nat) : (dArr f r x y).2 5 q = if q = x * 10 + y ∧ r 4 (y * 10 + x) = -1 ∧ ¬ f 3 = nI y then r 5 q + 1 else r 5 q := by
  unfold dArr
  by_cases hb : r 4 (y * 10 + x) = -1
  · rw [if_pos hb]
    by_cases hs : f 3 = nI y
    · rw [if_pos hs, if_neg (fun h => h.2.2 hs)]
      dsimp only
      rw [vaUp (by decide)]
    · rw [if_neg hs]
      dsimp only
      rw [vaUs]
      by_cases e : q = x * 10 + y
      · rw [if_pos ⟨e, hb, hs⟩, e, mUs]
      · rw [mUp e, if_neg (fun h => e h.1)]
  · rw [if_neg hb, if_neg (fun h => hb h.2.1)]
    dsimp only
    rw [vaUp (by decide), vaUp (by decide)]
theorem arr_f (f : Nat → Int32) (r : Nat → Nat → Int32) (x y : Nat) {j : Nat} (h7 : j ≠ 7) (h8 : j ≠ 8) : (dArr f r x y).1 j = f j := by
  unfold dArr
  split
  · split
    · exact mUp h8
    · rfl
  · exact mUp h7
theorem arrs_f (L : List Nat) (s : dS) {j : Nat} (h7 : j ≠ 7) (h8 : j ≠ 8) : ∀ i, (dArrs L s i).1 j = s.1 j
  | 0 => rfl
  | i + 1 => by
    have ih := arrs_f L s h7 h8 i
    unfold dArrs
    split
    · rw [arr_f _ _ _ _ h7 h8]
      exact ih
    · exact ih
theorem take_s {L : List Nat} {i : Nat} (h : i < L.length) : L.take (i + 1) = L.take i ++ [L.getD i 0] := by
  have hg : L.getD i 0 = L[i] := by simp [h]
  rw [hg, List.take_succ, List.getElem?_eq_getElem h]
  rfl
/-- q's arrival ends p -/
def Hits (t : Nat → Int32) (A : List Nat) (p : Nat) : Prop := ∃ q, q ∈ A ∧ (q = p ∨ sw q = p) ∧ t q = 0
theorem arrs_t {L : List Nat} {s : dS} (hL : ∀ p ∈ L, p < 100) : ∀ i, i ≤ L.length → ∀ p, p < 100 → (Hits (s.2 4) (L.take i) p → (dArrs L s i).2 4 p = -1) ∧ (¬ Hits (s.2 4) (L.take i) p → (dArrs L s i).2 4 p = s.2 4 p)
  | 0, _, p, _ => ⟨fun ⟨q, h, _⟩ => absurd h (by simp), fun _ => rfl⟩
  | i + 1, hi, p, hp => by
    have hlt : i < L.length := by omega
    have hq0 : L.getD i 0 < 100 := dgt hL i
    have ih := fun p hp => arrs_t (s := s) hL i (by omega) p hp
    have htk := take_s hlt
    generalize L.getD i 0 = q0 at hq0 htk
    have hg : L.getD i 0 = q0 := by
      have h9 := take_s hlt
      rw [htk] at h9
      have h8 := List.append_cancel_left h9
      exact (List.cons.inj h8).1.symm
    have exy : q0 / 10 * 10 + q0 % 10 = q0 := by omega
    rw [htk]
    unfold dArrs
    rw [hg]
    by_cases hz : (dArrs L s i).2 4 q0 = 0
    · rw [if_pos hz]
      have hno : ¬ Hits (s.2 4) (L.take i) q0 := fun h => by
        rw [(ih q0 hq0).1 h] at hz
        exact absurd hz (by decide)
      have ht0 : s.2 4 q0 = 0 := by rw [← (ih q0 hq0).2 hno]; exact hz
      rw [arr_t, exy]
      refine ⟨fun ⟨q, hq, hqp, hq9⟩ => ?_, fun hn => ?_⟩
      · by_cases e : p = q0 ∨ p = q0 % 10 * 10 + q0 / 10
        · rw [if_pos e]
        · rw [if_neg e]
          rcases List.mem_append.mp hq with h | h
          · exact (ih p hp).1 ⟨q, h, hqp, hq9⟩
          · have e9 : q = q0 := List.mem_singleton.mp h
            subst e9
            refine absurd (hqp.elim (fun h => Or.inl h.symm) (fun h => Or.inr h.symm)) e
      · have e : ¬ (p = q0 ∨ p = q0 % 10 * 10 + q0 / 10) := fun e => hn ⟨q0, List.mem_append_right _ List.mem_cons_self, e.elim (fun h => Or.inl h.symm) (fun h => Or.inr h.symm), ht0⟩
        rw [if_neg e]
        exact (ih p hp).2 (fun ⟨q, hq, h⟩ => hn ⟨q, List.mem_append_left _ hq, h⟩)
    · rw [if_neg hz]
      refine ⟨fun ⟨q, hq, hqp, hq9⟩ => ?_, fun hn => (ih p hp).2 (fun ⟨q, hq, h⟩ => hn ⟨q, List.mem_append_left _ hq, h⟩)⟩
      rcases List.mem_append.mp hq with h | h
      · exact (ih p hp).1 ⟨q, h, hqp, hq9⟩
      · have e9 : q = q0 := List.mem_singleton.mp h
        subst e9
        have hh : Hits (s.2 4) (L.take i) q := Classical.byContradiction (fun hn => hz (by rw [(ih q hq0).2 hn]; exact hq9))
        obtain ⟨q', hq', hx, h0⟩ := hh
        have hq'100 : q' < 100 := hL q' (List.mem_of_mem_take hq')
        refine (ih p hp).1 ⟨q', hq', ?_, h0⟩
        rcases hqp with e1 | e1
        · rw [← e1]
          exact hx
        · rcases hx with e2 | e2
          · exact Or.inr (by rw [e2]; exact e1)
          · exact Or.inl (by rw [← e1, ← e2, sw_sw hq'100])
/-- who is caught in a second, and why -/
theorem arrs_c {L : List Nat} {s : dS} (hL : ∀ p ∈ L, p < 100) (hnd : L.Nodup) : ∀ i, i ≤ L.length → ∀ p, p < 100 → (dArrs L s i).2 5 p = s.2 5 p ∨ ((dArrs L s i).2 5 p = s.2 5 p + 1 ∧ p ∈ L.take i ∧ s.2 4 p = 0 ∧ s.2 4 (sw p) = -1 ∧ ¬ s.1 3 = nI (p % 10))
  | 0, _, p, _ => Or.inl rfl
  | i + 1, hi, p, hp => by
    have hlt : i < L.length := by omega
    have ih := arrs_c (s := s) hL hnd i (by omega) p hp
    have htk := take_s hlt
    have hq0 : L.getD i 0 < 100 := dgt hL i
    have hnot : L.getD i 0 ∉ L.take i := fun hm => by
      have hg : L.getD i 0 = L[i] := by simp [hlt]
      rw [hg] at hm
      obtain ⟨j, hj, e⟩ := List.mem_iff_getElem.mp hm
      rw [List.length_take] at hj
      rw [List.getElem_take] at e
      have := (List.getElem_inj hnd).mp e
      omega
    generalize hg : L.getD i 0 = q0 at hq0 htk hnot
    have exy : q0 / 10 * 10 + q0 % 10 = q0 := by omega
    have keep : (dArrs L s i).2 5 p = s.2 5 p ∨ ((dArrs L s i).2 5 p = s.2 5 p + 1 ∧ p ∈ L.take (i + 1) ∧ s.2 4 p = 0 ∧ s.2 4 (sw p) = -1 ∧ ¬ s.1 3 = nI (p % 10)) := by
      rcases ih with h | ⟨h1, h2, h3⟩
      · exact Or.inl h
      · exact Or.inr ⟨h1, by rw [htk]; exact List.mem_append_left _ h2, h3⟩
    have e1 : dArrs L s (i + 1) = if (dArrs L s i).2 4 q0 = 0 then dArr (dArrs L s i).1 (dArrs L s i).2 (q0 / 10) (q0 % 10) else dArrs L s i := by
      rw [dArrs, hg]
    rw [e1]
    by_cases hz : (dArrs L s i).2 4 q0 = 0
    · rw [if_pos hz, arr_c, exy]
      by_cases hc : p = q0 ∧ (dArrs L s i).2 4 (q0 % 10 * 10 + q0 / 10) = -1 ∧ ¬ (dArrs L s i).1 3 = nI (q0 % 10)
      · rw [if_pos hc]
        obtain ⟨e, hb, hs⟩ := hc
        subst e
        have hno : ¬ Hits (s.2 4) (L.take i) p := fun h => by
          rw [(arrs_t hL i (by omega) p hp).1 h] at hz
          exact absurd hz (by decide)
        have hno2 : ¬ Hits (s.2 4) (L.take i) (sw p) := fun ⟨q, hq, hx, h0⟩ => hno ⟨q, hq, by
          have hq100 : q < 100 := hL q (List.mem_of_mem_take hq)
          rcases hx with e2 | e2
          · exact Or.inr (by rw [e2, sw_sw hp])
          · exact Or.inl (by rw [← sw_sw hq100, e2, sw_sw hp]), h0⟩
        have h0 : s.2 4 p = 0 := by rw [← (arrs_t hL i (by omega) p hp).2 hno]; exact hz
        have h1 : s.2 4 (sw p) = -1 := by rw [← (arrs_t hL i (by omega) (sw p) (sw_lt hp)).2 hno2]; exact hb
        rw [arrs_f L s (by decide) (by decide)] at hs
        rcases ih with h | ⟨-, h2, -⟩
        · exact Or.inr ⟨by rw [h], by rw [htk]; exact List.mem_append_right _ List.mem_cons_self, h0, h1, hs⟩
        · exact absurd h2 hnot
      · rw [if_neg hc]
        exact keep
    · rw [if_neg hz]
      exact keep
/-- what is left unsaid stays small -/
theorem arrs_u {L : List Nat} {s : dS} (hE : ∀ p ∈ L, p < 100 ∧ p / 10 ≠ p % 10) {K : Nat} (h0 : ∀ x, x < 10 → ∃ c, c ≤ K ∧ s.2 3 x = nI c) : ∀ i, i ≤ L.length → ∀ x, x < 10 → ∃ c, c ≤ K + 3 * i ∧ (dArrs L s i).2 3 x = nI c
  | 0, _, x, hx => h0 x hx
  | i + 1, hi, z, hz => by
    have ih := fun x hx => arrs_u (s := s) hE h0 i (by omega) x hx
    have hg : L.getD i 0 = L[i] := by simp [show i < L.length by omega]
    have hp := hE _ (List.getElem_mem (show i < L.length by omega))
    have e1 : dArrs L s (i + 1) = if (dArrs L s i).2 4 L[i] = 0 then dArr (dArrs L s i).1 (dArrs L s i).2 (L[i] / 10) (L[i] % 10) else dArrs L s i := by
      rw [dArrs, hg]
    rw [e1]
    generalize L[i] = q0 at hp
    split
    · unfold dArr
      obtain ⟨cz, hcz, ez⟩ := ih z hz
      split
      · split
        · dsimp only
          rw [vaUp (by decide)]
          exact ⟨cz, by omega, ez⟩
        · dsimp only
          rw [vaUp (by decide), vaUp (by decide), vaUs]
          by_cases e : z = q0 / 10
          · rw [← e, mUs, ez]
            exact ⟨cz + 1, by omega, nI_add cz 1⟩
          · rw [mUp e]
            exact ⟨cz, by omega, ez⟩
      · dsimp only
        rw [vaUp (by decide), vaUs]
        by_cases e : z = q0 % 10
        · rw [← e, mUs, mUp (by rw [e]; exact fun h => hp.2 h.symm), ez]
          exact ⟨cz + 3, by omega, nI_add cz 3⟩
        · rw [mUp e]
          by_cases e2 : z = q0 / 10
          · rw [← e2, mUs, ez]
            exact ⟨cz + 3, by omega, nI_add cz 3⟩
          · rw [mUp e2]
            exact ⟨cz, by omega, ez⟩
    · obtain ⟨cz, hcz, ez⟩ := ih z hz
      exact ⟨cz, by omega, ez⟩
end IV2
