section RelG
theorem rel_begin {gg li w k : Nat} {f : Nat → Int32} {r : Nat → Nat → Int32} (hl1 : 1 ≤ li) (hl2 : li ≤ 30) (hf2 : f 2 = nI li) (w1 : 2 ≤ w) (w2 : w ≤ 10) : RelS w li (dBeginF f (nI w)) (dBeginR r) [] (upd (fun _ => 0) 1 (-1)) 0 := by
  unfold dBeginF dBeginR
  refine ⟨⟨w1, w2, hl1, hl2, ?_, ?_⟩, ?_, ?_, ⟨?_, ?_, ?_, ?_, ?_, ?_, ?_, fun j hj => ?_, fun j hj => ?_, fun j hj => ?_, fun j hj => ?_, fun j hj => ?_⟩, Or.inl ⟨?_, ?_⟩, ?_, fun p hp => ⟨?_, fun _ => ⟨?_, ?_, ?_⟩⟩, List.Pairwise.nil, ?_, ?_, ?_⟩
  all_goals (try simp (disch := omega) only [mUp, mUs, vaUp, vaUs])
  all_goals first | exact hf2 | rfl | (intro j hj; exact absurd hj (Nat.not_lt_zero j)) | (intro p hp; cases hp) | (intro hp; cases hp) | omega
theorem rel_first : RelS 4 5 dF0 dR0 [] mN0 0 := rel_begin (gg := 0) (k := 0) (f := upd (fun _ => 0) 2 5) (by omega) (by omega) rfl (by omega) (by omega)
theorem rel_limit {gg li w k : Nat} {f : Nat → Int32} {r : Nat → Nat → Int32} {L : List Nat} {nw : Nat → Int32} (h : RelS gg li f r L nw k) (w1 : 1 ≤ w) (w2 : w ≤ 30) : RelS gg w (upd f 2 (nI w)) r L nw k := by
  obtain ⟨⟨hg2, hg, hl1, hl2, hf0, hf2⟩, h9, ho, ⟨c0, c1, c2, c3, c4, c5, c6, k0⟩, hT, hE, hP, hS⟩ := h
  refine ⟨⟨hg2, hg, w1, w2, ?_, mUs⟩, ?_, ho, ⟨?_, ?_, ?_, ?_, ?_, ?_, ?_, k0⟩, ?_, hE, hP, hS⟩
  case refine_10 =>
    unfold RT
    rw [mUp (by omega), mUp (by omega)]
    exact hT
  all_goals (rw [mUp (by omega)]; assumption)
theorem int_eq {gg li k : Nat} {f : Nat → Int32} {r : Nat → Nat → Int32} {L : List Nat} {nw : Nat → Int32} (h : RelS gg li f r L nw k) {x : Nat} : mInt nw x = dInt f x := by
  obtain ⟨-, -, -, hC, -⟩ := h
  unfold mInt dInt
  rw [← hC.2.1]
  by_cases e : f 3 = -1
  · rw [if_pos e, e]
    split <;> rfl
  · rw [if_neg e]
theorem rel_speak {gg li k x w : Nat} {f : Nat → Int32} {r : Nat → Nat → Int32} {L : List Nat} {nw : Nat → Int32} (h : RelS gg li f r L nw k) (ux : x < gg) (w1 : 1 ≤ w) (w2 : w ≤ 60) : RelS gg li (dSpeak f r x (nI w)).1 (dSpeak f r x (nI w)).2 L (mSpeak nw x (nI w)) k := by
  have hi := int_eq h (x := x)
  obtain ⟨⟨hg2, hg, hl1, hl2, hf0, hf2⟩, h9, ho, ⟨c0, c1, c2, c3, c4, c5, c6, k0, k1, k2, k3, k5⟩, hT, hE, hP, hS⟩ := h
  have core : ∀ (R1 : Nat → Nat → Int32) (N : Nat → Int32), (∀ j, j ≠ 1 → R1 j = r j) → (∀ j, j < 10 → R1 1 j = N (18 + j)) → N 1 = nI x → N 2 = nI w → (∀ j, j ≠ 1 → j ≠ 2 → ¬ (18 ≤ j ∧ j < 28) → N j = nw j) → RelS gg li (upd (upd f 3 (nI x)) 4 (nI w)) R1 L N k := by
    intro R1 N hR hR1 hN1 hN2 hN
    refine ⟨⟨hg2, hg, hl1, hl2, ?_, ?_⟩, ?_, ?_, ⟨?_, ?_, ?_, ?_, ?_, ?_, ?_, fun j hj => ?_, hR1, fun j hj => ?_, fun j hj => ?_, fun j hj => ?_⟩, Or.inr ⟨x, w, ux, w1, w2, ?_, ?_⟩, hE, fun p hp => ?_, ?_, ?_, hS.2.2.1, fun p hp => ?_⟩
    · rw [mUp (by omega), mUp (by omega), hf0]
    · rw [mUp (by omega), mUp (by omega), hf2]
    · rw [mUp (by omega), mUp (by omega), h9]
    · rw [hR 6 (by omega)]
      exact ho
    · rw [mUp (by omega), mUp (by omega), hN _ (by omega) (by omega) (by omega), c0]
    · rw [mUp (by omega), mUs, hN1]
    · rw [mUs, hN2]
    · rw [mUp (by omega), mUp (by omega), hN _ (by omega) (by omega) (by omega), c3]
    · rw [mUp (by omega), mUp (by omega), hN _ (by omega) (by omega) (by omega), c4]
    · rw [mUp (by omega), mUp (by omega), hN _ (by omega) (by omega) (by omega), c5]
    · rw [mUp (by omega), mUp (by omega), hN _ (by omega) (by omega) (by omega), c6]
    · rw [hR 0 (by omega), hN _ (by omega) (by omega) (by omega), k0 j hj]
    · rw [hR 2 (by omega), hN _ (by omega) (by omega) (by omega), k2 j hj]
    · rw [hR 3 (by omega), hN _ (by omega) (by omega) (by omega), k3 j hj]
    · rw [hR 5 (by omega), hN _ (by omega) (by omega) (by omega), k5 j hj]
    · rw [mUp (by omega), mUs]
    · rw [mUs]
    · rw [hR 4 (by omega), hN _ (by omega) (by omega) (by omega), hN _ (by omega) (by omega) (by omega)]
      exact hP p hp
    · refine hS.1.imp (fun {a b} hab => ?_)
      rw [hN _ (by omega) (by omega) (by omega), hN _ (by omega) (by omega) (by omega)]
      exact hab
    · rw [hN _ (by omega) (by omega) (by omega)]
      exact hS.2.1
    · rw [hN _ (by omega) (by omega) (by omega), hN _ (by omega) (by omega) (by omega)]
      exact hS.2.2.2 p hp
  have plain : RelS gg li (upd (upd f 3 (nI x)) 4 (nI w)) r L (upd (upd nw 1 (nI x)) 2 (nI w)) k := by
    refine core _ _ (fun _ _ => rfl) (fun j hj => ?_) ?_ mUs (fun j h1 h2 _ => ?_)
    · rw [mUp (by omega), mUp (by omega), k1 j hj]
    · rw [mUp (by omega), mUs]
    · rw [mUp h2, mUp h1]
  unfold dSpeak mSpeak
  dsimp only
  by_cases e1 : nw 1 = -1
  · rw [if_pos e1, if_pos (by rw [← hi]; unfold mInt; rw [if_pos e1])]
    exact plain
  · rw [if_neg e1]
    by_cases e2 : nw 1 = nI x
    · rw [if_pos e2, if_pos (by rw [← hi]; unfold mInt; rw [if_neg e1, if_pos e2])]
      exact plain
    · rw [if_neg e2, if_neg (by rw [← hi]; unfold mInt; rw [if_neg e1, if_neg e2]; exact e1)]
      refine core _ _ (fun j hj => vaUp hj) (fun j hj => ?_) ?_ ?_ (fun j h1 h2 h3 => ?_)
      · rw [vaUs]
        by_cases e : j = x
        · subst e
          rw [mUs, mAs, mUp (by omega), mUp (by omega), k1 j hj]
        · rw [mUp e, mAp (by omega), mUp (by omega), mUp (by omega), k1 j hj]
      · rw [mAp (by omega), mUp (by omega), mUs]
      · rw [mAp (by omega), mUs]
      · rw [mAp (by omega), mUp h2, mUp h1]
theorem cgh_eq {gg li k : Nat} {f : Nat → Int32} {r : Nat → Nat → Int32} {L : List Nat} {nw : Nat → Int32} (h : RelS gg li f r L nw k) (x w : Int32) : mCgh nw x w = dCough f x w := by
  obtain ⟨-, -, -, hC, -⟩ := h
  unfold mCgh dCough
  rw [← hC.2.1]
theorem rel_cough {gg li k x : Nat} {f : Nat → Int32} {r : Nat → Nat → Int32} {L : List Nat} {nw : Nat → Int32} (h : RelS gg li f r L nw k) (ux : x < gg) (w : Int32) : RelS gg li (dLetCough f r x w).1 (dLetCough f r x w).2 L (mCough nw x w) k := by
  have hi := cgh_eq h (nI x) w
  obtain ⟨⟨hg2, hg, hl1, hl2, hf0, hf2⟩, h9, ho, ⟨c0, c1, c2, c3, c4, c5, c6, k0, k1, k2, k3, k5⟩, hT, hE, hP, hS⟩ := h
  have hN : ∀ j, ¬ (28 ≤ j ∧ j < 48) → mCough nw x w j = nw j := fun j hj => by
    unfold mCough
    rw [mAp (by omega), mAp (by omega)]
  unfold dLetCough
  refine ⟨⟨hg2, hg, hl1, hl2, hf0, hf2⟩, h9, ?_, ⟨?_, ?_, ?_, ?_, ?_, ?_, ?_, fun j hj => ?_, fun j hj => ?_, fun j hj => ?_, fun j hj => ?_, fun j hj => ?_⟩, hT, hE, fun p hp => ?_, ?_, ?_, hS.2.2.1, fun p hp => ?_⟩
  · dsimp only
    rw [vaUp (by omega), vaUp (by omega)]
    exact ho
  · rw [hN _ (by omega)]; exact c0
  · rw [hN _ (by omega)]; exact c1
  · rw [hN _ (by omega)]; exact c2
  · rw [hN _ (by omega)]; exact c3
  · rw [hN _ (by omega)]; exact c4
  · rw [hN _ (by omega)]; exact c5
  · rw [hN _ (by omega)]; exact c6
  · dsimp only
    rw [vaUp (by omega), vaUp (by omega), hN _ (by omega), k0 j hj]
  · dsimp only
    rw [vaUp (by omega), vaUp (by omega), hN _ (by omega), k1 j hj]
  · dsimp only
    rw [vaUp (by omega), vaUs]
    unfold mCough
    rw [mAp (by omega)]
    by_cases e : j = x
    · subst e
      rw [mUs, mAs, k2 j hj]
    · rw [mUp e, mAp (by omega), k2 j hj]
  · dsimp only
    rw [vaUs]
    unfold mCough
    rw [hi]
    by_cases e : j = x
    · subst e
      rw [mUs, mAs, mAp (by omega), k3 j hj]
    · rw [mUp e, mAp (by omega), mAp (by omega), k3 j hj]
  · dsimp only
    rw [vaUp (by omega), vaUp (by omega), hN _ (by omega), k5 j hj]
  · dsimp only
    rw [vaUp (by omega), vaUp (by omega), hN _ (by omega), hN _ (by omega)]
    exact hP p hp
  · refine hS.1.imp (fun {a b} hab => ?_)
    rw [hN _ (by omega), hN _ (by omega)]
    exact hab
  · rw [hN _ (by omega)]
    exact hS.2.1
  · rw [hN _ (by omega), hN _ (by omega)]
    exact hS.2.2.2 p hp
theorem RelS.room {gg li k p : Nat} {f : Nat → Int32} {r : Nat → Nat → Int32} {L : List Nat} {nw : Nat → Int32} (h : RelS gg li f r L nw k) (hp : p < 100) (hn : p ∉ L) : L.length < 100 := by
  obtain ⟨⟨hg2, hg, -⟩, -, -, -, -, hE, hP, hS⟩ := h
  have := nodup_len 100 (p :: L) (List.nodup_cons.mpr ⟨hn, hS.nodup⟩) (fun q hq => by
    rcases List.mem_cons.mp hq with e | hq
    · omega
    · exact hE.lt hg hq)
  rw [List.length_cons] at this
  omega
theorem RS.pos {L : List Nat} {nw : Nat → Int32} {k : Nat} {t : Nat → Int32} (h : RS L nw k) (hP : RP t L nw) {p : Nat} (hp : p ∈ L) (h100 : p < 100) : nw (148 + p) < nI (k + 1) := by
  refine Int32.lt_of_le_of_lt (h.2.2.2 p hp) ?_
  rw [h.2.1]
  have := h.2.2.1
  exact nI_lt (by omega) (by omega)
theorem rel_send {gg li k x y : Nat} {f : Nat → Int32} {r : Nat → Nat → Int32} {L : List Nat} {nw : Nat → Int32} (h : RelS gg li f r L nw k) (hk : k < 2000) (ux : x < gg) (uy : y < gg) (hne : x ≠ y) (hn : 10 * x + y ∉ L) : RelS gg li (dSend f r x y L.length).1 (dSend f r x y L.length).2 (L ++ [10 * x + y]) (mSend (nI gg) nw x y) (k + 1) := by
  obtain ⟨⟨hg2, hg, hl1, hl2, hf0, hf2⟩, h9, ho, ⟨c0, c1, c2, c3, c4, c5, c6, k0, k1, k2, k3, k5⟩, hT, hE, hP, hS⟩ := h
  obtain ⟨cc, d1, d2, d3⟩ := go_nat hg ux uy hne
  have e7 : mAdd nw 7 1 7 = nI (k + 1) := by rw [mAs, hS.2.1, nI_1]
  have n7 : mSend (nI gg) nw x y 7 = nI (k + 1) := by
    unfold mSend
    rw [mUp (by omega), mUp (by omega), e7]
  have hN : ∀ j, j ≠ 7 → j ≠ 48 + (10 * x + y) → j ≠ 148 + (10 * x + y) → mSend (nI gg) nw x y j = nw j := fun j h1 h2 h3 => by
    unfold mSend
    rw [mUp h2, mUp h3, mAp h1]
  have ns : mSend (nI gg) nw x y (148 + (10 * x + y)) = nI (k + 1) := by
    unfold mSend
    rw [mUp (by omega), mUs, e7]
  have ng : mSend (nI gg) nw x y (48 + (10 * x + y)) = nI cc := by
    unfold mSend
    rw [mUs, d3]
  have hlt : ∀ p ∈ L, p ≠ 10 * x + y := fun p hp e => hn (e ▸ hp)
  unfold dSend
  refine ⟨⟨hg2, hg, hl1, hl2, ?_, ?_⟩, ?_, fun j hj => ?_, ⟨?_, ?_, ?_, ?_, ?_, ?_, ?_, fun j hj => ?_, fun j hj => ?_, fun j hj => ?_, fun j hj => ?_, fun j hj => ?_⟩, ?_, fun p hp => ?_, fun p hp => ?_, ?_, ?_, by omega, fun p hp => ?_⟩
  all_goals (try dsimp only)
  · rw [mUp (by omega), hf0]
  · rw [mUp (by omega), hf2]
  · rw [mUs, h9, List.length_append, nI_1]
    rfl
  · rw [vaUs, show x * 10 + y = 10 * x + y by omega]
    by_cases e : j = L.length
    · subst e
      rw [mUs]
      simp
    · have hj2 : j < L.length := by
        rw [List.length_append] at hj
        simp at hj
        omega
      rw [mUp e, ho j hj2, List.getD_eq_getElem?_getD, List.getD_eq_getElem?_getD, List.getElem?_append_left hj2]
  · rw [mUp (by omega), hN _ (by omega) (by omega) (by omega), c0]
  · rw [mUp (by omega), hN _ (by omega) (by omega) (by omega), c1]
  · rw [mUp (by omega), hN _ (by omega) (by omega) (by omega), c2]
  · rw [mUp (by omega), hN _ (by omega) (by omega) (by omega), c3]
  · rw [mUp (by omega), hN _ (by omega) (by omega) (by omega), c4]
  · rw [mUp (by omega), hN _ (by omega) (by omega) (by omega), c5]
  · rw [mUp (by omega), hN _ (by omega) (by omega) (by omega), c6]
  · rw [vaUp (by omega), vaUp (by omega), hN _ (by omega) (by omega) (by omega), k0 j hj]
  · rw [vaUp (by omega), vaUp (by omega), hN _ (by omega) (by omega) (by omega), k1 j hj]
  · rw [vaUp (by omega), vaUp (by omega), hN _ (by omega) (by omega) (by omega), k2 j hj]
  · rw [vaUp (by omega), vaUp (by omega), hN _ (by omega) (by omega) (by omega), k3 j hj]
  · rw [vaUp (by omega), vaUp (by omega), hN _ (by omega) (by omega) (by omega), k5 j hj]
  · unfold RT
    rw [mUp (by omega), mUp (by omega)]
    exact hT
  · rcases List.mem_append.mp hp with hp | hp
    · exact hE p hp
    · rw [List.mem_singleton.mp hp]
      exact ⟨by omega, by omega, by omega⟩
  · rw [vaUp (by omega), vaUs, show x * 10 + y = 10 * x + y by omega, hf0, d3]
    by_cases e : p = 10 * x + y
    · subst e
      rw [mUs, ng, ns]
      refine ⟨fun _ => ⟨cc, d1, d2, rfl, rfl, nI_0 ▸ nI_lt (by omega) (by omega)⟩, fun hh => absurd (List.mem_append_right _ List.mem_cons_self) hh⟩
    · rw [mUp e, hN _ (by omega) (by omega) (by omega), hN _ (by omega) (by omega) (by omega)]
      have em : p ∈ L ++ [10 * x + y] ↔ p ∈ L := by
        rw [List.mem_append, List.mem_singleton]
        exact ⟨fun h => h.elim id (fun h => absurd h e), Or.inl⟩
      rw [em]
      exact hP p hp
  · rw [List.pairwise_append]
    refine ⟨hS.1.imp_of_mem (fun {a b} ha hb hab => ?_), List.pairwise_singleton _ _, fun a ha b hb => ?_⟩
    · have h1 := hlt a ha
      have h2 := hlt b hb
      have h3 := hE.lt hg ha
      have h4 := hE.lt hg hb
      rw [hN _ (by omega) (by omega) (by omega), hN _ (by omega) (by omega) (by omega)]
      exact hab
    · rw [List.mem_singleton.mp hb, ns]
      have h1 := hlt a ha
      have h3 := hE.lt hg ha
      rw [hN _ (by omega) (by omega) (by omega)]
      exact hS.pos hP ha h3
  · exact n7
  · rw [n7]
    rcases List.mem_append.mp hp with hp | hp
    · have h1 := hlt p hp
      have h3 := hE.lt hg hp
      rw [hN _ (by omega) (by omega) (by omega)]
      exact Int32.le_of_lt (hS.pos hP hp h3)
    · rw [List.mem_singleton.mp hp, ns]
      exact Int32.le_refl _
end RelG
