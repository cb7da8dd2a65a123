/-! Sums over all pairs of guests, as the law makes them. -/
section SM
def acc1 (F : Nat → Int32) (a : Nat) (z : Int32) : Nat → Int32
  | 0 => z
  | b + 1 => acc1 F a z b + F (a * 10 + b)
def acc2 (F : Nat → Int32) (n : Nat) (z : Int32) : Nat → Int32
  | 0 => z
  | a + 1 => acc1 F a (acc2 F n z a) n
def S2 (F : Nat → Int32) (n : Nat) : Int32 := acc2 F n 0 n
theorem acc1_upd {F : Nat → Int32} {x y : Nat} {v z w : Int32} (uy : y < 10) {a : Nat} : ∀ b, b ≤ 10 → acc1 (upd F (x * 10 + y) v) a (z + w) b = acc1 F a z b + w + (if a = x ∧ y < b then v - F (x * 10 + y) else 0)
  | 0, _ => by
    rw [if_neg (by omega)]
    show z + w = z + w + 0
    rw [Int32.add_zero]
  | b + 1, hb => by
    have ih := acc1_upd (F := F) (x := x) (y := y) (v := v) (z := z) (w := w) uy (a := a) b (by omega)
    show acc1 (upd F (x * 10 + y) v) a (z + w) b + upd F (x * 10 + y) v (a * 10 + b) = acc1 F a z b + F (a * 10 + b) + w + _
    rw [ih]
    by_cases e : a = x ∧ b = y
    · obtain ⟨rfl, rfl⟩ := e
      rw [mUs, if_neg (by omega), if_pos (by omega)]
      generalize acc1 F a z b = A
      generalize F (a * 10 + b) = B
      grind
    · rw [mUp (by omega)]
      by_cases h : a = x ∧ y < b
      · rw [if_pos h, if_pos (by omega)]
        generalize acc1 F a z b = A
        generalize F (a * 10 + b) = B
        generalize v - F (x * 10 + y) = C
        grind
      · rw [if_neg h, if_neg (by omega)]
        generalize acc1 F a z b = A
        generalize F (a * 10 + b) = B
        grind
theorem acc2_upd {F : Nat → Int32} {n x y : Nat} {v : Int32} (hn : n ≤ 10) (uy : y < n) : ∀ m, acc2 (upd F (x * 10 + y) v) n 0 m = acc2 F n 0 m + (if x < m then v - F (x * 10 + y) else 0)
  | 0 => by
    rw [if_neg (by omega)]
    show (0 : Int32) = 0 + 0
    rfl
  | m + 1 => by
    have ih := acc2_upd (F := F) (x := x) (v := v) hn uy m
    show acc1 (upd F (x * 10 + y) v) m (acc2 (upd F (x * 10 + y) v) n 0 m) n = acc1 F m (acc2 F n 0 m) n + _
    rw [ih, acc1_upd (by omega) n hn]
    generalize acc1 F m (acc2 F n 0 m) n = A
    by_cases h : x < m
    · rw [if_pos h, if_neg (by omega), if_pos (by omega)]
      grind
    · rw [if_neg h]
      by_cases e : m = x
      · rw [if_pos ⟨e, uy⟩, if_pos (by omega)]
        grind
      · rw [if_neg (fun h => e h.1), if_neg (by omega)]
        grind
theorem S2_upd {F : Nat → Int32} {n x y : Nat} {v : Int32} (hn : n ≤ 10) (ux : x < n) (uy : y < n) : S2 (upd F (x * 10 + y) v) n = S2 F n + (v - F (x * 10 + y)) := by
  unfold S2
  rw [acc2_upd hn uy, if_pos ux]
theorem acc1_cg {F F' : Nat → Int32} {a : Nat} {z : Int32} : ∀ b, (∀ c, c < b → F (a * 10 + c) = F' (a * 10 + c)) → acc1 F a z b = acc1 F' a z b
  | 0, _ => rfl
  | b + 1, h => by
    show acc1 F a z b + F (a * 10 + b) = acc1 F' a z b + F' (a * 10 + b)
    rw [acc1_cg b (fun c hc => h c (by omega)), h b (by omega)]
theorem acc2_cg {F F' : Nat → Int32} {n : Nat} : ∀ m, (∀ a b, a < m → b < n → F (a * 10 + b) = F' (a * 10 + b)) → acc2 F n 0 m = acc2 F' n 0 m
  | 0, _ => rfl
  | m + 1, h => by
    show acc1 F m (acc2 F n 0 m) n = acc1 F' m (acc2 F' n 0 m) n
    rw [acc2_cg m (fun a b ha hb => h a b (by omega) hb)]
    exact acc1_cg n (fun c hc => h m c (by omega) hc)
theorem S2_cg {F F' : Nat → Int32} {n : Nat} (h : ∀ a b, a < n → b < n → F (a * 10 + b) = F' (a * 10 + b)) : S2 F n = S2 F' n := acc2_cg n h
theorem acc1_sub {F F' : Nat → Int32} {a : Nat} {z z' : Int32} : ∀ b, acc1 (fun p => F p - F' p) a (z - z') b = acc1 F a z b - acc1 F' a z' b
  | 0 => rfl
  | b + 1 => by
    show acc1 (fun p => F p - F' p) a (z - z') b + (F (a * 10 + b) - F' (a * 10 + b)) = acc1 F a z b + F (a * 10 + b) - (acc1 F' a z' b + F' (a * 10 + b))
    rw [acc1_sub b]
    generalize acc1 F a z b = A
    generalize acc1 F' a z' b = B
    generalize F (a * 10 + b) = C
    generalize F' (a * 10 + b) = D
    grind
theorem acc2_sub {F F' : Nat → Int32} {n : Nat} : ∀ m, acc2 (fun p => F p - F' p) n 0 m = acc2 F n 0 m - acc2 F' n 0 m
  | 0 => by
    show (0 : Int32) = 0 - 0
    rfl
  | m + 1 => by
    show acc1 (fun p => F p - F' p) m (acc2 (fun p => F p - F' p) n 0 m) n = acc1 F m (acc2 F n 0 m) n - acc1 F' m (acc2 F' n 0 m) n
    rw [acc2_sub m, acc1_sub]
theorem S2_sub {F F' : Nat → Int32} {n : Nat} : S2 (fun p => F p - F' p) n = S2 F n - S2 F' n := acc2_sub n
theorem acc1_0 {a : Nat} : ∀ b, acc1 (fun _ => 0) a 0 b = 0
  | 0 => rfl
  | b + 1 => by
    show acc1 (fun _ => 0) a 0 b + 0 = 0
    rw [acc1_0 b]
    rfl
theorem S2_0 (n : Nat) : S2 (fun _ => 0) n = 0 := by
  have h : ∀ m, acc2 (fun _ => 0) n 0 m = 0 := by
    intro m
    induction m with
    | zero => rfl
    | succ m ih =>
      show acc1 (fun _ => 0) m (acc2 (fun _ => 0) n 0 m) n = 0
      rw [ih, acc1_0]
  exact h n
theorem dSum_upd {u : Nat → Int32} {x : Nat} {v : Int32} : ∀ m, dSum (upd u x v) m = dSum u m + (if x < m then v - u x else 0)
  | 0 => by
    rw [if_neg (by omega)]
    show (0 : Int32) = 0 + 0
    rfl
  | m + 1 => by
    show dSum (upd u x v) m + upd u x v m = dSum u m + u m + _
    rw [dSum_upd m]
    generalize dSum u m = A
    by_cases h : x < m
    · rw [if_pos h, if_pos (by omega), mUp (by omega)]
      grind
    · rw [if_neg h]
      by_cases e : m = x
      · subst e
        rw [mUs, if_pos (by omega)]
        grind
      · rw [mUp e, if_neg (by omega)]
        grind
/-- 1 for each pair under way -/
def lv1 (t : Nat → Int32) : Nat → Int32 := fun p => if t p = -1 then 0 else 1
theorem lv1_upd (t : Nat → Int32) (p : Nat) : lv1 (upd t p (-1)) = upd (lv1 t) p 0 := by
  funext q
  unfold lv1
  by_cases e : q = p
  · rw [e, mUs, mUs, if_pos rfl]
  · rw [mUp e, mUp e]
/-- an arrival keeps what is under way, met, lost and caught in step, and what is unsaid -/
theorem arr_sum {n : Nat} {f : Nat → Int32} {r : Nat → Nat → Int32} {x y : Nat} (hn : n ≤ 10) (ux : x < n) (uy : y < n) (hxy : x ≠ y) (h0 : ¬ r 4 (x * 10 + y) = -1) :
    S2 (lv1 ((dArr f r x y).2 4)) n + 2 * (dArr f r x y).1 7 + (dArr f r x y).1 8 + S2 ((dArr f r x y).2 5) n = S2 (lv1 (r 4)) n + 2 * f 7 + f 8 + S2 (r 5) n ∧
    dSum ((dArr f r x y).2 3) n - 6 * (dArr f r x y).1 7 - S2 ((dArr f r x y).2 5) n = dSum (r 3) n - 6 * f 7 - S2 (r 5) n := by
  have l0 : lv1 (r 4) (x * 10 + y) = 1 := if_neg h0
  unfold dArr
  by_cases hb : r 4 (y * 10 + x) = -1
  · rw [if_pos hb]
    by_cases hs : f 3 = nI y
    · rw [if_pos hs]
      dsimp only
      rw [vaUs, vaUp (by decide), vaUp (by decide), lv1_upd, S2_upd hn ux uy, l0, mUs, mUp (by decide)]
      generalize S2 (lv1 (r 4)) n = A
      generalize S2 (r 5) n = B
      refine ⟨?_, rfl⟩
      grind
    · rw [if_neg hs]
      dsimp only
      rw [vaUs, vaUp (by decide), vaUs, vaUp (by decide), vaUp (by decide), vaUs, lv1_upd, S2_upd hn ux uy, l0, S2_upd hn ux uy, dSum_upd, if_pos ux]
      generalize S2 (lv1 (r 4)) n = A
      generalize S2 (r 5) n = B
      generalize dSum (r 3) n = C
      constructor <;> grind
  · rw [if_neg hb]
    have l1 : lv1 (r 4) (y * 10 + x) = 1 := if_neg hb
    dsimp only
    rw [vaUs, vaUp (by decide), vaUp (by decide), vaUp (by decide), vaUs, lv1_upd, lv1_upd, S2_upd hn ux uy, mUp (show x * 10 + y ≠ y * 10 + x by omega), l0, S2_upd hn uy ux, l1, dSum_upd, if_pos uy, dSum_upd, if_pos ux, mUs, mUp (show 8 ≠ 7 by decide)]
    generalize S2 (lv1 (r 4)) n = A
    generalize S2 (r 5) n = B
    generalize dSum (r 3) n = C
    rw [mUp (show y ≠ x from Ne.symm hxy)]
    constructor <;> grind
theorem arrs_sum {n : Nat} {L : List Nat} {s : dS} (hn : n ≤ 10) (hE : ∀ p, p ∈ L → p / 10 < n ∧ p % 10 < n ∧ p / 10 ≠ p % 10) : ∀ i, i ≤ L.length →
    S2 (lv1 ((dArrs L s i).2 4)) n + 2 * (dArrs L s i).1 7 + (dArrs L s i).1 8 + S2 ((dArrs L s i).2 5) n = S2 (lv1 (s.2 4)) n + 2 * s.1 7 + s.1 8 + S2 (s.2 5) n ∧
    dSum ((dArrs L s i).2 3) n - 6 * (dArrs L s i).1 7 - S2 ((dArrs L s i).2 5) n = dSum (s.2 3) n - 6 * s.1 7 - S2 (s.2 5) n
  | 0, _ => ⟨rfl, rfl⟩
  | i + 1, hi => by
    have ih := arrs_sum (s := s) hn hE i (by omega)
    have hg : L.getD i 0 = L[i] := by simp [show i < L.length by omega]
    have hp := hE _ (List.getElem_mem (show i < L.length by omega))
    have e1 : dArrs L s (i + 1) = if (dArrs L s i).2 4 L[i] = 0 then dArr (dArrs L s i).1 (dArrs L s i).2 (L[i] / 10) (L[i] % 10) else dArrs L s i := by
      rw [dArrs, hg]
    rw [e1]
    generalize L[i] = q0 at hp
    by_cases hz : (dArrs L s i).2 4 q0 = 0
    · rw [if_pos hz]
      have h9 := arr_sum (f := (dArrs L s i).1) (r := (dArrs L s i).2) hn hp.1 hp.2.1 hp.2.2 (by
        rw [show q0 / 10 * 10 + q0 % 10 = q0 by omega, hz]
        decide)
      exact ⟨h9.1.trans ih.1, h9.2.trans ih.2⟩
    · rw [if_neg hz]
      exact ih
/-- as many are under way as the list is long -/
theorem ind_sum {n : Nat} (hn : n ≤ 10) : ∀ L : List Nat, L.Nodup → (∀ p, p ∈ L → p / 10 < n ∧ p % 10 < n) → S2 (fun p => if p ∈ L then 1 else 0) n = nI L.length
  | [], _, _ => by
    have e : (fun p : Nat => if p ∈ ([] : List Nat) then (1 : Int32) else 0) = fun _ => 0 := by
      funext p
      rw [if_neg List.not_mem_nil]
    rw [e, S2_0]
    rfl
  | q :: L, hnd, h => by
    have ih := ind_sum hn L (List.nodup_cons.mp hnd).2 (fun p hp => h p (List.mem_cons_of_mem _ hp))
    have hq := h q List.mem_cons_self
    have hqL := (List.nodup_cons.mp hnd).1
    have e : (fun p : Nat => if p ∈ q :: L then (1 : Int32) else 0) = upd (fun p : Nat => if p ∈ L then (1 : Int32) else 0) (q / 10 * 10 + q % 10) 1 := by
      funext p
      rw [show q / 10 * 10 + q % 10 = q by omega]
      by_cases e : p = q
      · subst e
        rw [mUs, if_pos List.mem_cons_self]
      · rw [mUp e]
        by_cases hm : p ∈ L
        · rw [if_pos hm, if_pos (List.mem_cons_of_mem _ hm)]
        · rw [if_neg hm, if_neg (fun h9 => (List.mem_cons.mp h9).elim e hm)]
    rw [e, S2_upd hn hq.1 hq.2, ih, show q / 10 * 10 + q % 10 = q by omega, if_neg hqL, List.length_cons, ← nI_add]
    rfl
end SM
