/-! What else is done at a dinner keeps what holds; what the law compares. -/
section IV4
variable {n li k K : Nat} {f f' : Nat → Int32} {r r' : Nat → Nat → Int32} {L : List Nat} {G : Nat → Nat → Int32}
theorem InvC.mono {K' : Nat} (hk : K ≤ K') (h : InvC n li f r L K) : InvC n li f r L K' := by
  obtain ⟨hb, h9, ho, hT, hE, hnd, hP, hd, hu, c, hc, ec⟩ := h
  exact ⟨hb, h9, ho, hT, hE, hnd, hP, hd, fun x hx => by
    obtain ⟨c, hc, ec⟩ := hu x hx
    exact ⟨c, by omega, ec⟩, c, by omega, ec⟩
theorem inv_begin {w : Nat} (l1 : 1 ≤ li) (l2 : li ≤ 30) (hf : f 2 = nI li) (w1 : 2 ≤ w) (w2 : w ≤ 10) : InvC w li (dBeginF f (nI w)) (dBeginR r) [] 0 :=
  ⟨⟨w1, w2, l1, l2, rfl, hf⟩, rfl, fun j hj => absurd hj (Nat.not_lt_zero j), Or.inl ⟨rfl, rfl⟩, fun p hp => absurd hp List.not_mem_nil, List.nodup_nil, fun p _ => ⟨fun hp => absurd hp List.not_mem_nil, fun _ => rfl⟩, fun a _ => rfl, fun x _ => ⟨0, Nat.le_refl 0, rfl⟩, 0, Nat.le_refl 0, rfl⟩
theorem invT_begin {w : Nat} {t : Nat → Int32} : InvT w 0 t [] G := ⟨by omega, fun i hi => absurd hi (Nat.not_lt_zero i), rfl, fun i hi => absurd hi (Nat.not_lt_zero i), fun i hi => absurd hi (Nat.not_lt_zero i)⟩
theorem inv_limit {w : Nat} (h : InvC n li f r L K) (w1 : 1 ≤ w) (w2 : w ≤ 30) : InvC n w (upd f 2 (nI w)) r L K := by
  obtain ⟨⟨b1, b2, b3, b4, b5, b6⟩, h9, ho, hT, hE, hnd, hP, hd, hu, hq⟩ := h
  exact ⟨⟨b1, b2, w1, w2, b5, rfl⟩, h9, ho, hT, hE, hnd, hP, hd, hu, hq⟩
theorem speak_r {x : Nat} {s : Int32} {j : Nat} (h : j ≠ 1) : (dSpeak f r x s).2 j = r j := by
  show (if dInt f x = -1 then r else va_up r 1 _) j = r j
  split
  · rfl
  · exact vaUp h
theorem inv_speak {x w : Nat} (h : InvC n li f r L K) (ux : x < n) (w1 : 1 ≤ w) (w2 : w ≤ 60) : InvC n li (dSpeak f r x (nI w)).1 (dSpeak f r x (nI w)).2 L K := by
  obtain ⟨⟨b1, b2, b3, b4, b5, b6⟩, h9, ho, hT, hE, hnd, hP, hd, hu, hq⟩ := h
  refine ⟨⟨b1, b2, b3, b4, b5, b6⟩, h9, ?_, Or.inr ⟨x, w, ux, w1, w2, rfl, rfl⟩, hE, hnd, ?_, ?_, ?_, hq⟩
  · rw [speak_r (by decide)]
    exact ho
  · rw [speak_r (by decide)]
    exact hP
  · rw [speak_r (by decide)]
    exact hd
  · rw [speak_r (by decide)]
    exact hu
theorem cough_nat (hn : n ≤ 10) (h : f 3 = -1 ∨ ∃ q, q < n ∧ f 3 = nI q) {x w : Nat} (w2 : w ≤ 9) : ∃ c, c ≤ 9 ∧ dCough f (nI x) (nI w) = nI c := by
  unfold dCough
  split
  · exact ⟨w, w2, rfl⟩
  · split
    · exact ⟨0, by omega, rfl⟩
    · exact ⟨w / 2, by omega, pk_div (a := w) (d := 2) (by omega) (by omega) (by omega)⟩
theorem inv_cough {x w : Nat} (h : InvC n li f r L K) (ux : x < n) (w2 : w ≤ 9) : InvC n li (dLetCough f r x (nI w)).1 (dLetCough f r x (nI w)).2 L (K + 400) := by
  obtain ⟨cc, hcc, ecc⟩ := cough_nat (x := x) h.1.2.1 h.spk w2
  obtain ⟨⟨b1, b2, b3, b4, b5, b6⟩, h9, ho, hT, hE, hnd, hP, hd, hu, c, hc, ec⟩ := h
  refine ⟨⟨b1, b2, b3, b4, b5, b6⟩, h9, ho, hT, hE, hnd, hP, hd, fun z hz => ?_, c, by omega, ec⟩
  obtain ⟨cz, hcz, ez⟩ := hu z hz
  show ∃ c, c ≤ K + 400 ∧ va_up (va_up r 2 (upd (r 2) x (r 2 x + 1))) 3 (upd (r 3) x (r 3 x + dCough f (nI x) (nI w))) 3 z = nI c
  rw [vaUs]
  by_cases e : z = x
  · subst e
    rw [mUs, ez, ecc]
    exact ⟨cz + cc, by omega, nI_add cz cc⟩
  · rw [mUp e]
    exact ⟨cz, by omega, ez⟩
theorem sN_pos {x y : Nat} (ux : x < n) (uy : y < n) (h : x ≠ y) : 1 ≤ sN n x y := by
  unfold sN
  split <;> omega
theorem send_4 {x y m : Nat} : (dSend f r x y m).2 4 = upd (r 4) (x * 10 + y) (2 * dSeats (f 0) (nI x) (nI y)) := by
  show va_up (va_up r 4 (upd (r 4) (x * 10 + y) (2 * dSeats (f 0) (nI x) (nI y)))) 6 (upd (r 6) m (nI (x * 10 + y))) 4 = _
  rw [vaUp (by decide), vaUs]
theorem inv_send {x y : Nat} (h : InvC n li f r L K) (ux : x < n) (uy : y < n) (hxy : x ≠ y) (hn : x * 10 + y ∉ L) : InvC n li (dSend f r x y L.length).1 (dSend f r x y L.length).2 (L ++ [x * 10 + y]) K ∧ L.length < 100 := by
  have hp := h.p100
  obtain ⟨⟨b1, b2, b3, b4, b5, b6⟩, h9, ho, hT, hE, hnd, hP, hd, hu, hq⟩ := h
  have hlen : L.length < 100 := by
    have h8 := nodup_len 100 ((x * 10 + y) :: L) (List.nodup_cons.mpr ⟨hn, hnd⟩) (fun p hp9 => by
      rcases List.mem_cons.mp hp9 with e | e
      · omega
      · exact hp p e)
    rw [List.length_cons] at h8
    omega
  refine ⟨⟨⟨b1, b2, b3, b4, b5, b6⟩, ?_, fun j hj => ?_, hT, fun p hm => ?_, ?_, fun p hp100 => ⟨fun hm => ?_, fun hm => ?_⟩, hd, hu, hq⟩, hlen⟩
  · show upd f 9 (f 9 + 1) 9 = _
    rw [mUs, h9, List.length_append]
    exact nI_add L.length 1
  · show va_up (va_up r 4 (upd (r 4) (x * 10 + y) (2 * dSeats (f 0) (nI x) (nI y)))) 6 (upd (r 6) L.length (nI (x * 10 + y))) 6 j = _
    rw [vaUs]
    by_cases e : j = L.length
    · subst e
      rw [mUs]
      simp
    · have hj2 : j < L.length := by
        rw [List.length_append] at hj
        simp at hj
        omega
      rw [mUp e, ho j hj2, List.getD_eq_getElem?_getD, List.getD_eq_getElem?_getD, List.getElem?_append_left hj2]
  · rcases List.mem_append.mp hm with h8 | h8
    · exact hE p h8
    · rw [List.mem_singleton.mp h8]
      omega
  · rw [List.nodup_append]
    refine ⟨hnd, by simp, fun a ha b hb e => ?_⟩
    rw [List.mem_singleton.mp hb] at e
    exact hn (e ▸ ha)
  · rw [send_4]
    by_cases e : p = x * 10 + y
    · rw [e, mUs, b5, sN_eq b2 ux uy, show (x * 10 + y) / 10 = x by omega, show (x * 10 + y) % 10 = y by omega]
      have := sN_pos ux uy hxy
      exact ⟨2 * sN n x y, by omega, Nat.le_refl _, pk_mul 2 (sN n x y)⟩
    · rw [mUp e]
      rcases List.mem_append.mp hm with h8 | h8
      · exact (hP p hp100).1 h8
      · exact absurd (List.mem_singleton.mp h8) e
  · rw [send_4, mUp (fun e => hm (List.mem_append_right _ (by rw [e]; exact List.mem_cons_self)))]
    exact (hP p hp100).2 (fun h8 => hm (List.mem_append_left _ h8))
theorem sSel_mem {j : Nat} (h : j < sCnt G k) : sSel G k j ∈ sIds G k := by
  unfold sSel
  rw [List.getD_eq_getElem?_getD, List.getElem?_eq_getElem h]
  exact List.getElem_mem h
theorem sRow_0 (x y w : Int32) : sRow x y w 0 = x := by
  unfold sRow
  rw [mUp (by decide), mUp (by decide), mUs]
theorem sRow_1 (x y w : Int32) : sRow x y w 1 = y := by
  unfold sRow
  rw [mUp (by decide), mUs]
theorem sRow_2 (x y w : Int32) : sRow x y w 2 = w := by
  unfold sRow
  rw [mUs]
theorem invT_send {x y : Nat} (h : InvC n li f r L K) (hT : InvT n k (r 4) L G) (ux : x < n) (uy : y < n) (hxy : x ≠ y) (hn : x * 10 + y ∉ L) : InvT n (sCnt G k + 1) ((dSend f r x y L.length).2 4) (L ++ [x * 10 + y]) (sGn G k (nI x) (nI y) (nI (2 * sN n x y))) := by
  have hlen := (inv_send h ux uy hxy hn).2
  have hn10 := h.1.2.1
  have h5 := sN_le hn10 ux uy
  obtain ⟨hk, hc, hL, hl, hd⟩ := hT
  have hcnt : sCnt G k = L.length := by rw [hL, List.length_map]; rfl
  have lo : ∀ {j}, j < sCnt G k → sGn G k (nI x) (nI y) (nI (2 * sN n x y)) j = G (sSel G k j) := fun hj => if_pos hj
  have hi9 : sGn G k (nI x) (nI y) (nI (2 * sN n x y)) (sCnt G k) = sRow (nI x) (nI y) (nI (2 * sN n x y)) := if_neg (Nat.lt_irrefl _)
  have e4 : (dSend f r x y L.length).2 4 = upd (r 4) (x * 10 + y) (nI (2 * sN n x y)) := by
    rw [send_4, h.1.2.2.2.2.1, sN_eq hn10 ux uy]
    exact congrArg (upd (r 4) (x * 10 + y)) (pk_mul 2 (sN n x y))
  have live : ∀ j, j < sCnt G k + 1 → 0 ≤ sGn G k (nI x) (nI y) (nI (2 * sN n x y)) j 2 := fun j hj => by
    by_cases e : j < sCnt G k
    · rw [lo e]
      exact (mem_ids.mp (sSel_mem e)).2
    · rw [show j = sCnt G k by omega, hi9, sRow_2]
      exact nI_pos' (by omega)
  have prlo : ∀ {j}, j < sCnt G k → pr (sGn G k (nI x) (nI y) (nI (2 * sN n x y))) j = pr G (sSel G k j) := fun hj => by
    unfold pr
    rw [lo hj]
  have prhi : pr (sGn G k (nI x) (nI y) (nI (2 * sN n x y))) (sCnt G k) = x * 10 + y := by
    refine pr_xy (by omega) (by omega) ?_ ?_
    · rw [hi9, sRow_0]
    · rw [hi9, sRow_1]
  refine ⟨by omega, fun i hi => ?_, ?_, fun i hi hG => ?_, fun i hi hG => absurd (live i hi) hG⟩
  · by_cases e : i < sCnt G k
    · rw [lo e]
      exact hc _ (mem_ids.mp (sSel_mem e)).1
    · rw [show i = sCnt G k by omega, hi9]
      exact ⟨x, y, ux, uy, hxy, sRow_0 _ _ _, sRow_1 _ _ _⟩
  · have e1 : sIds (sGn G k (nI x) (nI y) (nI (2 * sN n x y))) (sCnt G k + 1) = List.range (sCnt G k + 1) := by
      unfold sIds
      refine List.filter_eq_self.mpr (fun j hj => ?_)
      have := live j (List.mem_range.mp hj)
      simp [sLive, this]
    have hA : L = (List.range (sCnt G k)).map (pr (sGn G k (nI x) (nI y) (nI (2 * sN n x y)))) := by
      apply List.ext_getElem?
      intro j
      rw [hL, List.getElem?_map, List.getElem?_map]
      by_cases hj : j < sCnt G k
      · have e : (sIds G k)[j]? = some (sSel G k j) := by
          unfold sSel
          rw [List.getD_eq_getElem?_getD, List.getElem?_eq_getElem hj]
          rfl
        rw [List.getElem?_range hj, e, Option.map_some, Option.map_some, prlo hj]
      · have e : (sIds G k)[j]? = none := List.getElem?_eq_none (by show sCnt G k ≤ j; omega)
        have e2 : (List.range (sCnt G k))[j]? = none := List.getElem?_eq_none (by rw [List.length_range]; omega)
        rw [e, e2, Option.map_none, Option.map_none]
    have hB : [x * 10 + y] = [sCnt G k].map (pr (sGn G k (nI x) (nI y) (nI (2 * sN n x y)))) := by
      rw [List.map_singleton, prhi]
    rw [e1, List.range_succ, List.map_append, ← hA, ← hB]
  · rw [e4]
    by_cases e : i < sCnt G k
    · have hm := mem_ids.mp (sSel_mem e)
      have hne : pr G (sSel G k i) ≠ x * 10 + y := fun e9 => hn (by
        rw [hL, ← e9]
        exact List.mem_map_of_mem (sSel_mem e))
      rw [lo e, prlo e, mUp hne]
      exact hl _ hm.1 hm.2
    · rw [show i = sCnt G k by omega, prhi, hi9, mUs, sRow_2]
/-! what is compared -/
theorem InvT.cnt (hT : InvT n k (r 4) L G) : sCnt G k = L.length := by
  rw [hT.2.2.1, List.length_map]
  rfl
theorem InvC.h34 (h : InvC n li f r L K) : ¬ 0 ≤ f 3 → f 4 = 0 := fun h9 => by
  rcases h.2.2.2.1 with ⟨-, a⟩ | ⟨q, w, a1, -, -, a4, -⟩
  · exact a
  · have := h.1.2.1
    rw [a4] at h9
    exact absurd (nI_pos' (by omega)) h9
theorem find_A (h : InvC n li f r L K) (hT : InvT n k (r 4) L G) : ∀ x y, x < n → y < n → sFind G (nI x) (nI y) k 0 < 0 → r 4 (x * 10 + y) = -1 := fun x y ux uy hb => by
  have hn := h.1.2.1
  have hk := hT.1
  rcases sFind_lt G (nI x) (nI y) k 0 with ⟨-, hnone⟩ | ⟨q, -, hq, e, -⟩
  · refine (h.free (by omega)).mpr (fun hm => ?_)
    rw [hT.2.2.1] at hm
    obtain ⟨q, hqm, eq⟩ := List.mem_map.mp hm
    obtain ⟨hqk, hqG⟩ := mem_ids.mp hqm
    obtain ⟨x', y', ux', uy', -, ex', ey'⟩ := hT.2.1 q hqk
    rw [pr_xy (by omega) (by omega) ex' ey'] at eq
    have hx' : x' = x := by omega
    have hy' : y' = y := by omega
    subst hx' hy'
    exact hnone q (Nat.zero_le q) (by omega) ⟨ex', ey', hqG⟩
  · rw [e] at hb
    exact absurd hb (nI_pos (by omega))
theorem find_B (h : InvC n li f r L K) (hT : InvT n k (r 4) L G) : ∀ x y, x < n → y < n → ¬ sFind G (nI x) (nI y) k 0 < 0 → ∃ q, q < k ∧ sFind G (nI x) (nI y) k 0 = nI q ∧ G q 2 = r 4 (x * 10 + y) ∧ ¬ r 4 (x * 10 + y) = -1 := fun x y ux uy hb => by
  have hn := h.1.2.1
  rcases sFind_lt G (nI x) (nI y) k 0 with ⟨e, -⟩ | ⟨q, -, hq, e, q0, q1, q2⟩
  · rw [e] at hb
    exact absurd (by decide) hb
  · have hqk : q < k := by omega
    have hG := hT.2.2.2.1 q hqk q2
    rw [pr_xy (by omega) (by omega) q0 q1] at hG
    refine ⟨q, hqk, e, hG, fun h9 => ?_⟩
    rw [hG, h9] at q2
    exact neg1 q2
theorem sum_nat (h : InvC n li f r L K) : ∀ m, m ≤ 10 → ∃ c, c ≤ m * K ∧ dSum (r 3) m = nI c
  | 0, _ => ⟨0, by omega, rfl⟩
  | m + 1, hm => by
    obtain ⟨c, hc, ec⟩ := sum_nat h m (by omega)
    obtain ⟨d, hd, ed⟩ := h.2.2.2.2.2.2.2.2.1 m (by omega)
    refine ⟨c + d, by rw [Nat.succ_mul]; omega, ?_⟩
    show dSum (r 3) m + r 3 m = _
    rw [ec, ed]
    exact nI_add c d
theorem rt_eq {E : Nat} (hE : E < 2 ^ 30) : (if 0 < 10 - (if 0 ≤ nI E - 4 then nI E - 4 else 0 - (nI E - 4)) then 10 - (if 0 ≤ nI E - 4 then nI E - 4 else 0 - (nI E - 4)) else 0) = sRated (nI E) := by
  rcases (show E = 0 ∨ E = 1 ∨ E = 2 ∨ E = 3 ∨ 4 ≤ E by omega) with e | e | e | e | e
  · subst e; decide
  · subst e; decide
  · subst e; decide
  · subst e; decide
  · have e1 : nI E = nI 4 + nI (E - 4) := by
      rw [nI_add]
      congr 1
      omega
    have e2 : nI E - 4 = nI (E - 4) := by
      rw [e1, Int32.add_comm]
      exact Int32.add_sub_cancel _ _
    have e3 : 14 - nI E = 10 - nI (E - 4) := by
      rw [e1, ← Int32.sub_sub]
      congr 1
    have hlt : ¬ nI E < 4 := nI_nlt (b := 4) e (by omega)
    rw [e2, if_pos (nI_pos' (by omega))]
    unfold sRated sMade
    rw [if_neg hlt, e3]
    generalize 10 - nI (E - 4) = m
    by_cases h1 : 0 < m
    · rw [if_pos h1, if_neg (Int32.not_lt.mpr (Int32.le_of_lt h1))]
    · rw [if_neg h1]
      by_cases h2 : m < 0
      · rw [if_pos h2]
      · rw [if_neg h2]
        exact Int32.le_antisymm (Int32.not_lt.mp h2) (Int32.not_lt.mp h1)
theorem rate_eq (h : InvC n li f r L K) (hK : K ≤ 10000000) : dRate (f 0) (f 6) (r 3) n = sRated ((dSum (r 3) n + f 6) / f 0) := by
  have h2 := h.1.1
  have h10 := h.1.2.1
  obtain ⟨c, hc, ec⟩ := sum_nat h n h10
  obtain ⟨d, hd, ed⟩ := h.2.2.2.2.2.2.2.2.2
  have hcK : c ≤ 10 * K := Nat.le_trans hc (Nat.mul_le_mul_right K h10)
  have hdiv : (dSum (r 3) n + f 6) / f 0 = nI ((c + d) / n) := by
    rw [ec, ed, nI_add, h.1.2.2.2.2.1]
    exact pk_div (by omega) (by omega) (by omega)
  have hle : (c + d) / n ≤ c + d := Nat.div_le_self _ _
  unfold dRate
  rw [hdiv]
  exact rt_eq (by omega)
end IV4
