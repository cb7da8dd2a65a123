section RelF
theorem seats_ok : ∀ gg : Fin 11, ∀ x y : Fin 10, x.val < gg.val → y.val < gg.val → x.val ≠ y.val → ∃ c : Fin 6, 1 ≤ c.val ∧ dSeats (nI gg.val) (nI x.val) (nI y.val) = nI c.val := by decide +kernel
theorem seats_nat {gg x y : Nat} (hg : gg ≤ 10) (ux : x < gg) (uy : y < gg) (hne : x ≠ y) : ∃ c : Nat, 1 ≤ c ∧ c ≤ 5 ∧ dSeats (nI gg) (nI x) (nI y) = nI c := by
  obtain ⟨c, h1, h2⟩ := seats_ok ⟨gg, by omega⟩ ⟨x, by omega⟩ ⟨y, by omega⟩ ux uy hne
  exact ⟨c.val, h1, by omega, h2⟩
theorem go_nat {gg x y : Nat} (hg : gg ≤ 10) (ux : x < gg) (uy : y < gg) (hne : x ≠ y) : ∃ c : Nat, 1 ≤ c ∧ c ≤ 10 ∧ 2 * dSeats (nI gg) (nI x) (nI y) = nI c := by
  obtain ⟨c, h1, h2, h3⟩ := seats_nat hg ux uy hne
  exact ⟨2 * c, by omega, by omega, by rw [h3]; exact pk_mul 2 c⟩
theorem togo_eq {t : Nat → Int32} {L : List Nat} {nw : Nat → Int32} (h : RP t L nw) {p : Nat} (hp : p < 100) : dToGo t p = nw (48 + p) := by
  unfold dToGo
  by_cases hm : p ∈ L
  · obtain ⟨c, a1, a2, a3, a4, a5⟩ := (h p hp).1 hm
    rw [a3, if_neg (nI_m1 (by omega)), a4]
  · obtain ⟨b1, b2, b3⟩ := (h p hp).2 hm
    rw [if_pos b1, b2]
theorem way_eq {t : Nat → Int32} {L : List Nat} {nw : Nat → Int32} (h : RP t L nw) {p : Nat} (hp : p < 100) : 0 < nw (148 + p) ↔ p ∈ L := by
  by_cases hm : p ∈ L
  · obtain ⟨c, a1, a2, a3, a4, a5⟩ := (h p hp).1 hm
    exact ⟨fun _ => hm, fun _ => a5⟩
  · obtain ⟨b1, b2, b3⟩ := (h p hp).2 hm
    rw [b3]
    exact ⟨fun hh => absurd hh (by decide), fun hh => absurd hh hm⟩
theorem free_eq {t : Nat → Int32} {L : List Nat} {nw : Nat → Int32} (h : RP t L nw) {p : Nat} (hp : p < 100) : t p = -1 ↔ p ∉ L := by
  by_cases hm : p ∈ L
  · obtain ⟨c, a1, a2, a3, a4, a5⟩ := (h p hp).1 hm
    rw [a3]
    exact ⟨fun hh => absurd hh (nI_m1 (by omega)), fun hh => absurd hm hh⟩
  · exact ⟨fun _ => hm, fun _ => ((h p hp).2 hm).1⟩
theorem fill_len (n : Nat) : ∀ L : List Nat, L.Nodup → (L.filter (fun p => decide (p < n + 1))).length = (L.filter (fun p => decide (p < n))).length + if n ∈ L then 1 else 0
  | [], _ => rfl
  | a :: t, hn => by
    have ih := fill_len n t (List.nodup_cons.mp hn).2
    have h1 := (List.nodup_cons.mp hn).1
    rw [List.filter_cons, List.filter_cons]
    by_cases e : a = n
    · subst e
      rw [if_neg h1] at ih
      rw [if_pos (by simp), if_neg (by simp), if_pos List.mem_cons_self, List.length_cons, ih]
    · have em : (n ∈ a :: t) ↔ n ∈ t := by
        rw [List.mem_cons]
        exact ⟨fun h => h.elim (fun h => absurd h.symm e) id, Or.inr⟩
      have e9 : (if n ∈ a :: t then 1 else 0) = (if n ∈ t then 1 else 0 : Nat) := by
        by_cases h : n ∈ t
        · rw [if_pos h, if_pos (em.mpr h)]
        · rw [if_neg h, if_neg (fun h2 => h (em.mp h2))]
      rw [e9]
      by_cases ha : a < n
      · rw [if_pos (by simp; omega), if_pos (by simpa using ha), List.length_cons, List.length_cons, ih]
        omega
      · rw [if_neg (by simp; omega), if_neg (by simpa using ha), ih]
theorem mWay_eq {t : Nat → Int32} {L : List Nat} {nw : Nat → Int32} (h : RP t L nw) (hn : L.Nodup) : ∀ n, n ≤ 100 → mWay nw n = nI (L.filter (fun p => decide (p < n))).length
  | 0, _ => by
    have : L.filter (fun p => decide (p < 0)) = [] := by simp
    rw [this]
    rfl
  | n + 1, hh => by
    show mWay nw n + _ = _
    rw [mWay_eq h hn n (by omega), fill_len n L hn]
    by_cases hm : n ∈ L
    · rw [if_pos hm, if_pos ((way_eq h (by omega)).mpr hm), nI_1]
    · rw [if_neg hm, if_neg (fun hx => hm ((way_eq h (by omega)).mp hx))]
      exact Int32.add_zero _
theorem RelS.sent {gg li : Nat} {f : Nat → Int32} {r : Nat → Nat → Int32} {L : List Nat} {nw : Nat → Int32} {k : Nat} (h : RelS gg li f r L nw k) : mWay nw 100 = f 9 := by
  obtain ⟨h1, h9, -, -, -, hE, hP, hS⟩ := h
  rw [mWay_eq hP hS.nodup 100 (Nat.le_refl _), h9]
  have : L.filter (fun p => decide (p < 100)) = L := List.filter_eq_self.mpr (fun p hp => by simpa using hE.lt h1.2.1 hp)
  rw [this]
theorem quiet_eq {r3 nw : Nat → Int32} (h : ∀ j, j < 10 → r3 j = nw (38 + j)) : ∀ n, n < 10 → mQuiet nw n = dQuiet r3 n
  | 0, _ => rfl
  | n + 1, hn => by
    have ih := quiet_eq h n (by omega)
    have hq := dQuiet_le r3 n
    unfold mQuiet dQuiet
    rw [ih, h _ (by omega : dQuiet r3 n < 10), h (n + 1) hn]
/-! the checksum -/
theorem to_eq {r : Nat → Nat → Int32} {L : List Nat} {nw : Nat → Int32} (hP : RP (r 4) L nw) (h5 : ∀ p, p < 100 → r 5 p = nw (248 + p)) {i : Nat} (hi : i < 10) (d : Int64) : ∀ t, t ≤ 10 → mTo nw i d t = dTo r i d t
  | 0, _ => rfl
  | t + 1, ht => by
    show (mTo nw i d t * 31 + (nw (48 + (10 * i + t))).toInt64) * 31 + (nw (248 + (10 * i + t))).toInt64 = (dTo r i d t * 31 + (dToGo (r 4) (i * 10 + t)).toInt64) * 31 + (r 5 (i * 10 + t)).toInt64
    rw [to_eq hP h5 hi d t (by omega), show i * 10 + t = 10 * i + t by omega, togo_eq hP (by omega), h5 _ (by omega)]
theorem gs_eq {f : Nat → Int32} {r : Nat → Nat → Int32} {L : List Nat} {nw : Nat → Int32} (hC : RC f r nw) (hP : RP (r 4) L nw) {gg : Nat} (hg : gg ≤ 10) (d : Int64) : ∀ n, n ≤ 10 → mGs nw gg d n = dGs r gg d n
  | 0, _ => rfl
  | n + 1, hn => by
    obtain ⟨c0, c1, c2, c3, c4, c5, c6, k0, k1, k2, k3, k5⟩ := hC
    show mTo nw n (mFour nw n (mGs nw gg d n)) gg = dTo r n (dFour r n (dGs r gg d n)) gg
    rw [gs_eq ⟨c0, c1, c2, c3, c4, c5, c6, k0, k1, k2, k3, k5⟩ hP hg d n (by omega), to_eq hP k5 (by omega) _ gg hg]
    unfold mFour dFour
    rw [k0 n (by omega), k1 n (by omega), k2 n (by omega), k3 n (by omega)]
theorem RelS.digest {gg li : Nat} {f : Nat → Int32} {r : Nat → Nat → Int32} {L : List Nat} {nw : Nat → Int32} {k : Nat} (h : RelS gg li f r L nw k) : mGs nw gg (lAcc (mHead (nI gg) (nI li) nw gg) 11) gg = dGs r gg (dHead f (dRate (f 0) (f 6) (r 3) gg)) gg := by
  have hs := h.sent
  obtain ⟨⟨hg2, hg, hl1, hl2, hf0, hf2⟩, h9, ho, hC, hT, hE, hP, hS⟩ := h
  have key : lAcc (mHead (nI gg) (nI li) nw gg) 11 = dHead f (dRate (f 0) (f 6) (r 3) gg) := by
    have r1 : mRate (nI gg) nw gg = dRate (f 0) (f 6) (r 3) gg := by rw [hf0]; exact mRate_eq hC hg
    have r2 : mLeft nw = f 4 := mLeft_eq hC hT hg
    obtain ⟨c0, c1, c2, c3, c4, c5, c6, k0, k1, k2, k3, k5⟩ := hC
    have v0 : mHead (nI gg) (nI li) nw gg 0 = f 0 := by unfold mHead; simp (disch := omega) only [mUp, mUs]; exact hf0.symm
    have v1 : mHead (nI gg) (nI li) nw gg 1 = f 1 := by unfold mHead; simp (disch := omega) only [mUp, mUs]; exact c0.symm
    have v2 : mHead (nI gg) (nI li) nw gg 2 = f 2 := by unfold mHead; simp (disch := omega) only [mUp, mUs]; exact hf2.symm
    have v3 : mHead (nI gg) (nI li) nw gg 3 = f 3 := by unfold mHead; simp (disch := omega) only [mUp, mUs]; exact c1.symm
    have v4 : mHead (nI gg) (nI li) nw gg 4 = f 4 := by unfold mHead; simp (disch := omega) only [mUp, mUs]; exact r2
    have v5 : mHead (nI gg) (nI li) nw gg 5 = f 5 := by unfold mHead; simp (disch := omega) only [mUp, mUs]; exact c3.symm
    have v6 : mHead (nI gg) (nI li) nw gg 6 = f 6 := by unfold mHead; simp (disch := omega) only [mUp, mUs]; exact c4.symm
    have v7 : mHead (nI gg) (nI li) nw gg 7 = f 9 := by unfold mHead; simp (disch := omega) only [mUp, mUs]; exact hs
    have v8 : mHead (nI gg) (nI li) nw gg 8 = f 7 := by unfold mHead; simp (disch := omega) only [mUp, mUs]; exact c5.symm
    have v9 : mHead (nI gg) (nI li) nw gg 9 = f 8 := by unfold mHead; simp (disch := omega) only [mUp, mUs]; exact c6.symm
    have v10 : mHead (nI gg) (nI li) nw gg 10 = dRate (f 0) (f 6) (r 3) gg := by unfold mHead; rw [mUs]; exact r1
    generalize mHead (nI gg) (nI li) nw gg = z at v0 v1 v2 v3 v4 v5 v6 v7 v8 v9 v10 ⊢
    simp only [lAcc, v0, v1, v2, v3, v4, v5, v6, v7, v8, v9, v10]
    rfl
  rw [key, gs_eq hC hP hg _ gg hg]
end RelF
