/-! The class's dinner and the law's, side by side: talk, arrivals. -/
section IV1
/-- a glance's pair, and the pair of the one back -/
def pr (G : Nat → Nat → Int32) (i : Nat) : Nat := dN (G i 0) * 10 + dN (G i 1)
def sw (p : Nat) : Nat := p % 10 * 10 + p / 10
/-- the same, as far as the law's dinner goes -/
def Same (f' : Nat → Int32) (r' : Nat → Nat → Int32) (f : Nat → Int32) (r : Nat → Nat → Int32) : Prop := (∀ j, j < 9 → f' j = f j) ∧ ∀ j, j ≠ 4 → j ≠ 6 → r' j = r j
variable {f f' : Nat → Int32} {r r' : Nat → Nat → Int32}
theorem Same.rf : Same f r f r := ⟨fun _ _ => rfl, fun _ _ _ => rfl⟩
theorem Same.up {k : Nat} {x : Int32} (h : Same f' r' f r) : Same (upd f' k x) r' (upd f k x) r := ⟨fun j hj => by
  by_cases e : j = k
  · subst e
    rw [mUs, mUs]
  · rw [mUp e, mUp e]
    exact h.1 j hj, h.2⟩
theorem Same.row {k : Nat} {X : Nat → Int32} (h : Same f' r' f r) : Same f' (va_up r' k X) f (va_up r k X) := ⟨h.1, fun j h4 h6 => by
  by_cases e : j = k
  · subst e
    rw [vaUs, vaUs]
  · rw [vaUp e, vaUp e]
    exact h.2 j h4 h6⟩
theorem Same.off4 {X : Nat → Int32} (h : Same f' r' f r) : Same f' r' f (va_up r 4 X) := ⟨h.1, fun j h4 h6 => by
  rw [vaUp h4]
  exact h.2 j h4 h6⟩
theorem Same.off6 {X : Nat → Int32} (h : Same f' r' f r) : Same f' r' f (va_up r 6 X) := ⟨h.1, fun j h4 h6 => by
  rw [vaUp h6]
  exact h.2 j h4 h6⟩
theorem Same.off9 {x : Int32} (h : Same f' r' f r) : Same f' r' (upd f 9 x) r := ⟨fun j hj => by
  rw [mUp (by omega)]
  exact h.1 j hj, h.2⟩
theorem talk_same (h : Same f' r' f r) : Same (dTalk f' r').1 (dTalk f' r').2 (dTalk f r).1 (dTalk f r).2 := by
  have e2 := h.1 2 (by omega)
  have e3 := h.1 3 (by omega)
  have e4 := h.1 4 (by omega)
  have e5 := h.1 5 (by omega)
  have e6 := h.1 6 (by omega)
  have e0 : r' 0 = r 0 := h.2 0 (by omega) (by omega)
  unfold dTalk
  rw [e3, e2, e4, e5, e6, e0]
  by_cases a : f 3 = -1
  · simp only [if_pos a]
    by_cases b : dBm (f 2) (f 5 + 1) = 0
    · simp only [if_pos b]
      exact h.up.up
    · simp only [if_neg b]
      exact h.up
  · simp only [if_neg a]
    by_cases b : f 4 - 1 = 0
    · simp only [if_pos b]
      exact h.up.up.up.row
    · simp only [if_neg b]
      exact h.up.up.row
theorem mem_ids {G : Nat → Nat → Int32} {k q : Nat} : q ∈ sIds G k ↔ q < k ∧ 0 ≤ G q 2 := by
  unfold sIds
  rw [List.mem_filter, List.mem_range]
  simp [sLive]
theorem ids_inj {G : Nat → Nat → Int32} {k : Nat} (h : ((sIds G k).map (pr G)).Nodup) {a b : Nat} (ha : a ∈ sIds G k) (hb : b ∈ sIds G k) (e : pr G a = pr G b) : a = b := by
  obtain ⟨i, hi, rfl⟩ := List.mem_iff_getElem.mp ha
  obtain ⟨j, hj, rfl⟩ := List.mem_iff_getElem.mp hb
  rw [List.Nodup, List.pairwise_iff_getElem] at h
  rcases Nat.lt_trichotomy i j with g | g | g
  · exact absurd (by rw [List.getElem_map, List.getElem_map]; exact e) (h i j (by rw [List.length_map]; exact hi) (by rw [List.length_map]; exact hj) g)
  · subst g
    rfl
  · exact absurd (by rw [List.getElem_map, List.getElem_map]; exact e.symm) (h j i (by rw [List.length_map]; exact hj) (by rw [List.length_map]; exact hi) g)
/-- what is fixed about the glances through a second -/
def Cols (n k : Nat) (G : Nat → Nat → Int32) (L : List Nat) : Prop := n ≤ 10 ∧ k ≤ 100 ∧ (∀ i, i < k → ∃ x y : Nat, x < n ∧ y < n ∧ x ≠ y ∧ G i 0 = nI x ∧ G i 1 = nI y) ∧ L = (sIds G k).map (pr G) ∧ L.Nodup
/-- what is alike in the midst of a second: S the glances now, t the class's seconds to go -/
def Lock (k : Nat) (G : Nat → Nat → Int32) (L : List Nat) (S : Nat → Nat → Int32) (t : Nat → Int32) : Prop := (∀ j c, c ≠ 2 → S j c = G j c) ∧ (∀ j, j < k → 0 ≤ G j 2 → S j 2 = t (pr G j)) ∧ (∀ j, j < k → ¬ 0 ≤ G j 2 → S j 2 = -1) ∧ (∀ p, p < 100 → p ∉ L → t p = -1) ∧ ∀ p, p < 100 → t p = -1 ∨ 0 ≤ t p
theorem pr_xy {G : Nat → Nat → Int32} {i x y : Nat} (ux : x < 10) (uy : y < 10) (ex : G i 0 = nI x) (ey : G i 1 = nI y) : pr G i = x * 10 + y := by
  unfold pr
  rw [ex, ey, dN_nI (by omega), dN_nI (by omega)]
theorem neg1 : ¬ (0 : Int32) ≤ -1 := by decide
theorem arr_lock {n k : Nat} {G : Nat → Nat → Int32} {L : List Nat} (hC : Cols n k G L) {s : sS} {d : dS} (h : Same s.1 s.2.1 d.1 d.2) (hK : Lock k G L s.2.2 (d.2 4)) {i x y : Nat} (hi : i < k) (hG : 0 ≤ G i 2) (ux : x < n) (uy : y < n) (hxy : x ≠ y) (ex : G i 0 = nI x) (ey : G i 1 = nI y) :
    Same (sArr k s i).1 (sArr k s i).2.1 (dArr d.1 d.2 x y).1 (dArr d.1 d.2 x y).2 ∧ Lock k G L (sArr k s i).2.2 ((dArr d.1 d.2 x y).2 4) := by
  obtain ⟨hn, hk, hc, hL, hnd⟩ := hC
  obtain ⟨hcol, hl, hd, hp, hv⟩ := hK
  have e0 : s.2.2 i 0 = nI x := (hcol i 0 (by decide)).trans ex
  have e1 : s.2.2 i 1 = nI y := (hcol i 1 (by decide)).trans ey
  have d0 : dN (s.2.2 i 0) = x := by rw [e0]; exact dN_nI (by omega)
  have d1 : dN (s.2.2 i 1) = y := by rw [e1]; exact dN_nI (by omega)
  have epr : pr G i = x * 10 + y := pr_xy (by omega) (by omega) ex ey
  have hii : i ∈ sIds G k := mem_ids.mpr ⟨hi, hG⟩
  have hnd' : ((sIds G k).map (pr G)).Nodup := hL ▸ hnd
  have hcolN : ∀ (q : Nat), ∀ j c, c ≠ 2 → gUp s.2.2 i 2 (-1) j c = G j c := fun q j c hc2 => (gUp_j hc2).trans (hcol j c hc2)
  -- behind the first: no glance back
  have one : ∀ t' : Nat → Int32, t' = upd (d.2 4) (x * 10 + y) (-1) → Lock k G L (gUp s.2.2 i 2 (-1)) t' := by
    intro t' et
    subst et
    refine ⟨hcolN 0, fun j hj hjG => ?_, fun j hj hjG => ?_, fun p hp1 hp2 => ?_, fun p hp1 => ?_⟩
    · by_cases e : j = i
      · subst e
        rw [gUp_s, epr, mUs]
      · have hne : pr G j ≠ x * 10 + y := fun e9 => e (ids_inj hnd' (mem_ids.mpr ⟨hj, hjG⟩) hii (by rw [epr]; exact e9))
        rw [gUp_i e, mUp hne]
        exact hl j hj hjG
    · have e : j ≠ i := fun e => hjG (e ▸ hG)
      rw [gUp_i e]
      exact hd j hj hjG
    · by_cases e : p = x * 10 + y
      · rw [e, mUs]
      · rw [mUp e]
        exact hp p hp1 hp2
    · by_cases e : p = x * 10 + y
      · rw [e, mUs]
        exact Or.inl rfl
      · rw [mUp e]
        exact hv p hp1
  rcases sFind_lt s.2.2 (s.2.2 i 1) (s.2.2 i 0) k 0 with ⟨hb, hnone⟩ | ⟨q, -, hq, hb, q0, q1, q2⟩
  · have hneg : ¬ 0 ≤ sBack k s i := by
      show ¬ 0 ≤ sFind s.2.2 (s.2.2 i 1) (s.2.2 i 0) k 0
      rw [hb]
      exact neg1
    have hback : d.2 4 (y * 10 + x) = -1 := by
      by_cases hm : y * 10 + x ∈ L
      · rw [hL] at hm
        obtain ⟨q, hqm, eq⟩ := List.mem_map.mp hm
        obtain ⟨hqk, hqG⟩ := mem_ids.mp hqm
        obtain ⟨x', y', ux', uy', -, ex', ey'⟩ := hc q hqk
        rw [pr_xy (by omega) (by omega) ex' ey'] at eq
        have hx' : x' = y := by omega
        have hy' : y' = x := by omega
        subst hx' hy'
        have hS := hl q hqk hqG
        rw [pr_xy (by omega) (by omega) ex' ey'] at hS
        rcases hv (x' * 10 + y') (by omega) with h9 | h9
        · exact h9
        · refine absurd ⟨?_, ?_, ?_⟩ (hnone q (Nat.zero_le q) (by omega))
          · rw [e1, hcol q 0 (by decide)]
            exact ex'
          · rw [e0, hcol q 1 (by decide)]
            exact ey'
          · rw [hS]
            exact h9
      · exact hp _ (by omega) hm
    unfold sArr dArr
    rw [if_neg hneg, if_pos hback]
    by_cases hs : d.1 3 = nI y
    · rw [if_pos (show s.1 3 = s.2.2 i 1 by rw [h.1 3 (by omega), e1]; exact hs), if_pos hs]
      dsimp only
      rw [h.1 8 (by omega)]
      exact ⟨h.up.off4, one _ vaUs⟩
    · rw [if_neg (show ¬ s.1 3 = s.2.2 i 1 by rw [h.1 3 (by omega), e1]; exact hs), if_neg hs]
      dsimp only
      rw [d0, d1, h.2 3 (by decide) (by decide), h.2 5 (by decide) (by decide)]
      refine ⟨⟨h.1, fun j h4 h6 => ?_⟩, one _ (by rw [vaUp (by decide), vaUs])⟩
      by_cases j5 : j = 5
      · subst j5
        rw [vaUs, vaUs]
      · rw [vaUp j5, vaUp j5, vaUp h4]
        by_cases j3 : j = 3
        · subst j3
          rw [vaUs, vaUs]
        · rw [vaUp j3, vaUp j3]
          exact h.2 j h4 h6
  · have hq : q < k := by omega
    have hpos : 0 ≤ sBack k s i := by
      show 0 ≤ sFind s.2.2 (s.2.2 i 1) (s.2.2 i 0) k 0
      rw [hb]
      exact nI_pos' (by omega)
    have hbq : dN (sBack k s i) = q := by
      show dN (sFind s.2.2 (s.2.2 i 1) (s.2.2 i 0) k 0) = q
      rw [hb]
      exact dN_nI (by omega)
    have hqG : 0 ≤ G q 2 := by
      by_cases h9 : 0 ≤ G q 2
      · exact h9
      · rw [hd q hq h9] at q2
        exact absurd q2 neg1
    rw [e1, hcol q 0 (by decide)] at q0
    rw [e0, hcol q 1 (by decide)] at q1
    have eprq : pr G q = y * 10 + x := pr_xy (by omega) (by omega) q0 q1
    have hback : ¬ d.2 4 (y * 10 + x) = -1 := by
      have hS := hl q hq hqG
      rw [eprq] at hS
      intro h9
      rw [hS, h9] at q2
      exact neg1 q2
    have hqi : q ≠ i := fun e => by
      rw [e, epr] at eprq
      omega
    have hqq : q ∈ sIds G k := mem_ids.mpr ⟨hq, hqG⟩
    unfold sArr dArr
    rw [if_pos hpos, if_neg hback]
    dsimp only
    rw [d0, d1, hbq, h.1 7 (by omega), h.2 3 (by decide) (by decide)]
    refine ⟨h.up.row.off4, fun j c hc2 => (gUp_j hc2).trans (hcolN 0 j c hc2), fun j hj hjG => ?_, fun j hj hjG => ?_, fun p hp1 hp2 => ?_, fun p hp1 => ?_⟩
    · rw [vaUs]
      by_cases ei : j = i
      · subst ei
        rw [gUp_i (Ne.symm hqi), gUp_s, epr, mUs]
      · have hne : pr G j ≠ x * 10 + y := fun e9 => ei (ids_inj hnd' (mem_ids.mpr ⟨hj, hjG⟩) hii (by rw [epr]; exact e9))
        rw [mUp hne]
        by_cases eq : j = q
        · subst eq
          rw [gUp_s, eprq, mUs]
        · have hne2 : pr G j ≠ y * 10 + x := fun e9 => eq (ids_inj hnd' (mem_ids.mpr ⟨hj, hjG⟩) hqq (by rw [eprq]; exact e9))
          rw [gUp_i eq, gUp_i ei, mUp hne2]
          exact hl j hj hjG
    · have ei : j ≠ i := fun e => hjG (e ▸ hG)
      have eq : j ≠ q := fun e => hjG (e ▸ hqG)
      rw [gUp_i eq, gUp_i ei]
      exact hd j hj hjG
    · rw [vaUs]
      by_cases e : p = x * 10 + y
      · rw [e, mUs]
      · rw [mUp e]
        by_cases e2 : p = y * 10 + x
        · rw [e2, mUs]
        · rw [mUp e2]
          exact hp p hp1 hp2
    · rw [vaUs]
      by_cases e : p = x * 10 + y
      · rw [e, mUs]
        exact Or.inl rfl
      · rw [mUp e]
        by_cases e2 : p = y * 10 + x
        · rw [e2, mUs]
          exact Or.inl rfl
        · rw [mUp e2]
          exact hv p hp1
theorem L_at {G : Nat → Nat → Int32} {k i : Nat} (hi : i < k) (hG : 0 ≤ G i 2) : ((sIds G k).map (pr G)).getD (sCnt G i) 0 = pr G i := by
  obtain ⟨T, e⟩ := sIds_pre G (i + 1) (k - (i + 1))
  have ek : i + 1 + (k - (i + 1)) = k := by omega
  rw [ek] at e
  rw [e, sIds_s, if_pos hG, List.append_assoc, List.map_append, List.getD_eq_getElem?_getD, List.getElem?_append_right (by rw [List.length_map]; exact Nat.le_refl _), List.length_map]
  show (((([i] : List Nat) ++ T).map (pr G))[sCnt G i - sCnt G i]?).getD 0 = pr G i
  rw [Nat.sub_self]
  rfl
/-- the arrivals of a second, on both sides -/
theorem lock {n k : Nat} {G : Nat → Nat → Int32} {L : List Nat} (hC : Cols n k G L) {s0 : sS} {d0 : dS} (h0 : Same s0.1 s0.2.1 d0.1 d0.2) (hK : Lock k G L s0.2.2 (d0.2 4)) : ∀ i, i ≤ k → Same (sArrs k s0 i).1 (sArrs k s0 i).2.1 (dArrs L d0 (sCnt G i)).1 (dArrs L d0 (sCnt G i)).2 ∧ Lock k G L (sArrs k s0 i).2.2 ((dArrs L d0 (sCnt G i)).2 4)
  | 0, _ => ⟨h0, hK⟩
  | i + 1, hi => by
    obtain ⟨a1, a2⟩ := lock hC h0 hK i (by omega)
    by_cases hG : 0 ≤ G i 2
    · obtain ⟨x, y, ux, uy, hxy, ex, ey⟩ := hC.2.2.1 i (by omega)
      have hL : L.getD (sCnt G i) 0 = x * 10 + y := by
        rw [hC.2.2.2.1, L_at (by omega) hG]
        exact pr_xy (Nat.lt_of_lt_of_le ux hC.1) (Nat.lt_of_lt_of_le uy hC.1) ex ey
      have hS : (sArrs k s0 i).2.2 i 2 = (dArrs L d0 (sCnt G i)).2 4 (x * 10 + y) := by
        rw [a2.2.1 i (by omega) hG, pr_xy (Nat.lt_of_lt_of_le ux hC.1) (Nat.lt_of_lt_of_le uy hC.1) ex ey]
      rw [sCnt_t hG, sArrs, dArrs, hL]
      by_cases hz : (dArrs L d0 (sCnt G i)).2 4 (x * 10 + y) = 0
      · have hy := hC.1
        rw [if_pos (hS.trans hz), if_pos hz, show (x * 10 + y) / 10 = x by omega, show (x * 10 + y) % 10 = y by omega]
        exact arr_lock hC a1 a2 (by omega) hG ux uy hxy ex ey
      · rw [if_neg (fun e => hz (hS.symm.trans e)), if_neg hz]
        exact ⟨a1, a2⟩
    · have hz : ¬ (sArrs k s0 i).2.2 i 2 = 0 := by
        rw [a2.2.2.1 i (by omega) hG]
        decide
      rw [sCnt_f hG, sArrs, if_neg hz]
      exact ⟨a1, a2⟩
theorem sDec_get {G : Nat → Nat → Int32} : ∀ i j, sDec G i j 2 = if j < i ∧ 0 < G j 2 then G j 2 - 1 else G j 2
  | 0, j => by
    rw [if_neg (by omega)]
    rfl
  | i + 1, j => by
    have ih := sDec_get (G := G) i
    have hii : sDec G i i 2 = G i 2 := by
      rw [ih i, if_neg (by omega)]
    unfold sDec
    rw [hii]
    by_cases h : 0 < G i 2
    · rw [if_pos h]
      by_cases e : j = i
      · subst e
        rw [gUp_s, if_pos ⟨by omega, h⟩]
      · rw [gUp_i e, ih j]
        by_cases h2 : j < i ∧ 0 < G j 2
        · rw [if_pos h2, if_pos ⟨by omega, h2.2⟩]
        · rw [if_neg h2, if_neg (fun h3 => h2 ⟨by omega, h3.2⟩)]
    · rw [if_neg h, ih j]
      by_cases h2 : j < i ∧ 0 < G j 2
      · rw [if_pos h2, if_pos ⟨by omega, h2.2⟩]
      · rw [if_neg h2, if_neg (fun h3 => by
          by_cases e : j = i
          · exact h (e ▸ h3.2)
          · exact h2 ⟨by omega, h3.2⟩)]
end IV1
