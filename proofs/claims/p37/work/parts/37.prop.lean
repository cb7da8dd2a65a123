/-! What the law asks of a dinner, and of a second. -/
section PP
variable {n li K : Nat} {f : Nat → Int32} {r : Nat → Nat → Int32} {L : List Nat}
theorem sN_sym (n x y : Nat) : sN n x y = sN n y x := by
  unfold sN
  rw [Nat.add_comm (x - y)]
theorem sN_half {x y : Nat} (ux : x < n) (uy : y < n) : sN n x y ≤ n / 2 := by
  unfold sN
  split <;> omega
theorem sN_zero {x y : Nat} (hn : n ≤ 10) (ux : x < n) (uy : y < n) : nI (sN n x y) = 0 ↔ nI x = nI y := by
  have h5 := sN_le hn ux uy
  rw [nI_eq (by omega) (by omega)]
  have e : nI (sN n x y) = 0 ↔ sN n x y = 0 := nI_eq (b := 0) (by omega) (by omega)
  rw [e]
  unfold sN
  split <;> omega
theorem tg_in (h : InvC n li f r L K) {p : Nat} (hm : p ∈ L) : dToGo (r 4) p = r 4 p := by
  unfold dToGo
  rw [if_neg (fun e => ((h.free (h.p100 p hm)).mp e) hm)]
theorem tg_out (h : InvC n li f r L K) {p : Nat} (hp : p < 100) (hm : p ∉ L) : dToGo (r 4) p = 0 := by
  unfold dToGo
  rw [if_pos ((h.free hp).mpr hm)]
theorem tg_pos (h : InvC n li f r L K) {p : Nat} (hm : p ∈ L) : ∃ c, 1 ≤ c ∧ c ≤ 10 ∧ c ≤ 2 * sN n (p / 10) (p % 10) ∧ dToGo (r 4) p = nI c := by
  obtain ⟨c, h1, h2, h3, h4⟩ := h.c10 hm
  exact ⟨c, h1, h2, h3, (tg_in h hm).trans h4⟩
theorem q_under0 (h : InvC n li f r L K) {p : Nat} (hp : p < 100) (e : dToGo (r 4) p ≤ 0) : r 4 p = -1 := by
  refine (h.free hp).mpr (fun hm => ?_)
  obtain ⟨c, h1, h2, -, h4⟩ := tg_pos h hm
  rw [h4] at e
  exact nI_ge (a := 0) (by omega) (by omega) e
theorem q_under1 (h : InvC n li f r L K) {p : Nat} (hp : p < 100) (e : ¬ dToGo (r 4) p ≤ 0) : ¬ r 4 p = -1 := fun e1 => e (by
  rw [tg_out h hp ((h.free hp).mp e1)]
  exact Int32.le_refl 0)
theorem q_far (h : InvC n li f r L K) {x y : Nat} (ux : x < n) (uy : y < n) : ¬ nI (2 * sN n x y) < dToGo (r 4) (x * 10 + y) := by
  have hn := h.1.2.1
  have h5 := sN_le hn ux uy
  by_cases hm : x * 10 + y ∈ L
  · obtain ⟨c, h1, h2, h3, h4⟩ := tg_pos h hm
    rw [show (x * 10 + y) / 10 = x by omega, show (x * 10 + y) % 10 = y by omega] at h3
    rw [h4]
    exact nI_nlt h3 (by omega)
  · rw [tg_out h (by omega) hm]
    exact nI_pos (by omega)
theorem q_left0 (h : InvC n li f r L K) (e : f 4 ≤ 0) : f 3 < 0 := by
  rcases h.2.2.2.1 with ⟨a, -⟩ | ⟨q, w, -, a2, a3, -, a5⟩
  · rw [a]
    decide
  · rw [a5] at e
    exact absurd e (nI_ge (a := 0) (by omega) (by omega))
theorem q_left1 (h : InvC n li f r L K) (e : ¬ f 4 ≤ 0) : ¬ f 3 < 0 := by
  have hn := h.1.2.1
  rcases h.2.2.2.1 with ⟨-, a⟩ | ⟨q, w, a1, -, -, a4, -⟩
  · rw [a] at e
    exact absurd (Int32.le_refl 0) e
  · rw [a4]
    exact nI_pos (by omega)
theorem q_60 (h : InvC n li f r L K) : ¬ (60 : Int32) < f 4 := by
  rcases h.2.2.2.1 with ⟨-, a⟩ | ⟨q, w, -, -, a3, -, a5⟩
  · rw [a]
    decide
  · rw [a5]
    exact nI_nlt (a := 60) a3 (by omega)
theorem q_spk (h : InvC n li f r L K) : ¬ nI n ≤ f 3 := by
  have hn := h.1.2.1
  have h2 := h.1.1
  rcases h.spk with a | ⟨q, a1, a4⟩
  · rw [a]
    intro e
    exact absurd (Int32.le_trans (nI_pos' (show n < 2 ^ 31 by omega)) e) (by decide)
  · rw [a4]
    exact nI_ge a1 (by omega)
theorem q_max (h : InvC n li f r L K) : ∀ i, i < 10 → ∀ x, x ≤ i → r 3 x ≤ r 3 (dQuiet (r 3) i)
  | 0, _, x, hx => by
    rw [show x = 0 by omega]
    exact Int32.le_refl _
  | i + 1, hi, x, hx => by
    have ih := q_max h i (by omega)
    unfold dQuiet
    by_cases hc : r 3 (dQuiet (r 3) i) < r 3 (i + 1)
    · rw [if_pos hc]
      by_cases e : x = i + 1
      · rw [e]
        exact Int32.le_refl _
      · exact Int32.le_trans (ih x (by omega)) (Int32.le_of_lt hc)
    · rw [if_neg hc]
      by_cases e : x = i + 1
      · rw [e]
        exact Int32.not_lt.mp hc
      · exact ih x (by omega)
theorem q_quiet (h : InvC n li f r L K) (hK : K ≤ 10000000) : dSum (r 3) n ≤ r 3 (dQuiet (r 3) (n - 1)) * nI n := by
  have hn := h.1.2.1
  have h2 := h.1.1
  have hq := dQuiet_le (r 3) (n - 1)
  obtain ⟨M, hM, eM⟩ := h.2.2.2.2.2.2.2.2.1 (dQuiet (r 3) (n - 1)) (by omega)
  have key : ∀ m, m ≤ n → ∃ c, c ≤ m * M ∧ dSum (r 3) m = nI c := by
    intro m
    induction m with
    | zero => exact fun _ => ⟨0, by omega, rfl⟩
    | succ m ih =>
      intro hm
      obtain ⟨c, hc, ec⟩ := ih (by omega)
      obtain ⟨d, hd, ed⟩ := h.2.2.2.2.2.2.2.2.1 m (by omega)
      have hle := q_max h (n - 1) (by omega) m (by omega)
      rw [ed, eM] at hle
      have hdM : d ≤ M := (nI_leI (by omega) (by omega)).mp hle
      refine ⟨c + d, by rw [Nat.succ_mul]; omega, ?_⟩
      show dSum (r 3) m + r 3 m = _
      rw [ec, ed]
      exact nI_add c d
  obtain ⟨c, hc, ec⟩ := key n (Nat.le_refl n)
  have hnM : n * M ≤ 10 * 10000000 := Nat.mul_le_mul hn (by omega)
  rw [ec, eM, pk_mul, Nat.mul_comm M n]
  exact nI_le hc (by omega)
/-! pairs under way, counted -/
def qW (t : Nat → Int32) : Nat → Int32 := fun p => if 0 < dToGo t p then 1 else 0
theorem lv_mem (h : InvC n li f r L K) {p : Nat} (hp : p < 100) : lv1 (r 4) p = if p ∈ L then 1 else 0 := by
  unfold lv1
  by_cases hm : p ∈ L
  · rw [if_pos hm, if_neg (fun e => (h.free hp).mp e hm)]
  · rw [if_neg hm, if_pos ((h.free hp).mpr hm)]
theorem q_lv (h : InvC n li f r L K) : S2 (lv1 (r 4)) n = nI L.length := by
  have hn := h.1.2.1
  rw [← ind_sum hn L h.2.2.2.2.2.1 (fun p hp => ⟨(h.2.2.2.2.1 p hp).1, (h.2.2.2.2.1 p hp).2.1⟩)]
  exact S2_cg (fun a b ha hb => lv_mem h (by omega))
theorem q_way (h : InvC n li f r L K) : S2 (qW (r 4)) n = f 9 := by
  have hn := h.1.2.1
  rw [h.2.1, ← q_lv h]
  refine S2_cg (fun a b ha hb => ?_)
  rw [lv_mem h (by omega)]
  unfold qW
  by_cases hm : a * 10 + b ∈ L
  · obtain ⟨c, h1, h2, -, h4⟩ := tg_pos h hm
    rw [if_pos hm, h4, if_pos (show (0 : Int32) < nI c from nI_lt (a := 0) (by omega) (by omega))]
  · rw [if_neg hm, tg_out h (by omega) hm, if_neg (by decide)]
/-! the second -/
theorem sc3 : (dSec f r L).1 3 = (dTalk f r).1 3 := (sec_f (by decide) (by decide)).trans (secA_f (by decide) (by decide))
theorem sc4 : (dSec f r L).1 4 = (dTalk f r).1 4 := (sec_f (by decide) (by decide)).trans (secA_f (by decide) (by decide))
theorem sc5 : (dSec f r L).1 5 = (dTalk f r).1 5 := (sec_f (by decide) (by decide)).trans (secA_f (by decide) (by decide))
theorem sc6 : (dSec f r L).1 6 = (dTalk f r).1 6 := (sec_f (by decide) (by decide)).trans (secA_f (by decide) (by decide))
theorem sc2 : (dSec f r L).1 2 = f 2 := (sec_f (by decide) (by decide)).trans ((secA_f (by decide) (by decide)).trans (dTalk_f (by decide) (by decide) (by decide) (by decide) f r))
theorem q_none (h : InvC n li f r L K) (e : ¬ 0 ≤ f 3) : f 3 = -1 := by
  have hn := h.1.2.1
  rcases h.spk with a | ⟨q, a1, a4⟩
  · exact a
  · rw [a4] at e
    exact absurd (nI_pos' (by omega)) e
theorem q_some (e : 0 ≤ f 3) : ¬ f 3 = -1 := fun h => by
  rw [h] at e
  exact neg1 e
theorem q_lim (h : InvC n li f r L K) : 0 < f 2 := by
  rw [h.1.2.2.2.2.2]
  have h1 := h.1.2.2.1
  have h2 := h.1.2.2.2.1
  exact nI_lt (a := 0) (by omega) (by omega)
theorem q_pause0 (e : 0 ≤ f 3) : (dSec f r L).1 5 = 0 := by
  rw [sc5]
  unfold dTalk
  rw [if_neg (q_some e)]
  dsimp only
  split <;> exact mUs
theorem q_pause1 (h : InvC n li f r L K) (e : ¬ 0 ≤ f 3) : (dSec f r L).1 5 = f 5 + 1 := by
  rw [sc5]
  unfold dTalk
  rw [if_pos (q_none h e)]
  dsimp only
  split
  · rw [mUp (by decide), mUs]
  · rw [mUs]
theorem q_quiet0 (e : 0 ≤ f 3) : (dSec f r L).1 6 - f 6 = 0 := by
  rw [sc6]
  unfold dTalk
  rw [if_neg (q_some e)]
  dsimp only
  split
  · rw [mUp (by decide), mUp (by decide), mUp (by decide), Int32.sub_self]
  · rw [mUp (by decide), mUp (by decide), Int32.sub_self]
theorem q_quiet1 (h : InvC n li f r L K) (e : ¬ 0 ≤ f 3) (hz : f 5 + 1 - (f 5 + 1) / f 2 * f 2 = 0) : (dSec f r L).1 6 - f 6 = 1 := by
  have hb : dBm (f 2) (f 5 + 1) = 0 := by
    unfold dBm
    rw [if_pos (q_lim h)]
    exact hz
  rw [sc6]
  unfold dTalk
  rw [if_pos (q_none h e), if_pos hb]
  dsimp only
  rw [mUs, Int32.add_comm]
  exact Int32.add_sub_cancel _ _
theorem q_quiet2 (h : InvC n li f r L K) (e : ¬ 0 ≤ f 3) (hz : ¬ f 5 + 1 - (f 5 + 1) / f 2 * f 2 = 0) : (dSec f r L).1 6 - f 6 = 0 := by
  have hb : ¬ dBm (f 2) (f 5 + 1) = 0 := by
    unfold dBm
    rw [if_pos (q_lim h)]
    exact hz
  rw [sc6]
  unfold dTalk
  rw [if_pos (q_none h e), if_neg hb]
  dsimp only
  rw [mUp (by decide), Int32.sub_self]
theorem q_still (h : InvC n li f r L K) : (¬ f 4 ≤ 1 → (dSec f r L).1 3 = f 3) ∧ (f 4 ≤ 1 → (dSec f r L).1 3 = -1) ∧ (dSec f r L).1 4 = if 0 < f 4 - 1 then f 4 - 1 else 0 := by
  rw [sc3, sc4]
  rcases h.2.2.2.1 with ⟨a, b⟩ | ⟨q, w, a1, a2, a3, a4, a5⟩
  · have e3 : (dTalk f r).1 3 = -1 := by
      unfold dTalk
      rw [if_pos a]
      dsimp only
      split
      · rw [mUp (by decide), mUp (by decide), a]
      · rw [mUp (by decide), a]
    have e4 : (dTalk f r).1 4 = 0 := by
      unfold dTalk
      rw [if_pos a]
      dsimp only
      split
      · rw [mUp (by decide), mUp (by decide), b]
      · rw [mUp (by decide), b]
    rw [e3, e4, a, b]
    exact ⟨fun _ => rfl, fun _ => rfl, by decide⟩
  · have hn := h.1.2.1
    have en : ¬ f 3 = -1 := by rw [a4]; exact nI_m1 (by omega)
    have ew : f 4 - 1 = nI (w - 1) := by rw [a5]; exact nI_m1' (by omega)
    by_cases hw : w = 1
    · subst hw
      have e0 : f 4 - 1 = 0 := by rw [ew]; rfl
      have e3 : (dTalk f r).1 3 = -1 := by
        unfold dTalk
        rw [if_neg en, if_pos e0]
        dsimp only
        rw [mUp (by decide), mUp (by decide), mUs]
      have e4 : (dTalk f r).1 4 = 0 := by
        unfold dTalk
        rw [if_neg en, if_pos e0]
        dsimp only
        rw [mUp (by decide), mUs, e0]
      rw [e3, e4, e0, a5]
      exact ⟨fun h9 => absurd (nI_le (Nat.le_refl 1) (by omega)) h9, fun _ => rfl, by decide⟩
    · have e0 : ¬ f 4 - 1 = 0 := by
        rw [ew]
        exact nI_ne0 (by omega) (by omega)
      have e3 : (dTalk f r).1 3 = f 3 := by
        unfold dTalk
        rw [if_neg en, if_neg e0]
        dsimp only
        rw [mUp (by decide), mUp (by decide)]
      have e4 : (dTalk f r).1 4 = f 4 - 1 := by
        unfold dTalk
        rw [if_neg en, if_neg e0]
        dsimp only
        rw [mUp (by decide), mUs]
      rw [e3, e4]
      refine ⟨fun _ => rfl, fun h9 => ?_, ?_⟩
      · rw [a5] at h9
        exact absurd h9 (nI_ge (a := 1) (by omega) (by omega))
      · rw [ew, if_pos (show (0 : Int32) < nI (w - 1) from nI_lt (a := 0) (by omega) (by omega))]
/-- seconds to go behind the second -/
theorem tg_sec (h : InvC n li f r L K) {p : Nat} (hp : p < 100) : (p ∉ L → dToGo ((dSec f r L).2 4) p = 0) ∧ (p ∈ L → (r 4 p = 1 ∨ r 4 (sw p) = 1 → dToGo ((dSec f r L).2 4) p = 0) ∧ (¬ (r 4 p = 1 ∨ r 4 (sw p) = 1) → dToGo ((dSec f r L).2 4) p = r 4 p - 1 ∧ ¬ (dSec f r L).2 4 p = -1)) := by
  have e4 : (dSec f r L).2 4 = (secA f r L).2 4 := sec_r (by decide)
  obtain ⟨s1, s2, -⟩ := sec_pair h hp
  rw [e4]
  unfold dToGo
  refine ⟨fun hm => if_pos (s1 hm), fun hm => ⟨fun e => if_pos ((s2 hm).1 e), fun e => ?_⟩⟩
  rw [(s2 hm).2 e]
  obtain ⟨c, c1, c2, -, c4⟩ := h.c10 hm
  rw [c4, nI_m1' (by omega), if_neg (nI_m1 (by omega))]
  exact ⟨rfl, nI_m1 (by omega)⟩
theorem sw_xy {x y : Nat} (ux : x < 10) (uy : y < 10) : sw (x * 10 + y) = y * 10 + x := by
  unfold sw
  omega
theorem tg_one (h : InvC n li f r L K) {p : Nat} (hp : p < 100) : dToGo (r 4) p = 1 ↔ r 4 p = 1 := by
  by_cases hm : p ∈ L
  · rw [tg_in h hm]
  · rw [tg_out h hp hm, (h.free hp).mpr hm]
    exact ⟨fun e => absurd e (by decide), fun e => absurd e (by decide)⟩
theorem tg_nil (h : InvC n li f r L K) {p : Nat} (hp : p < 100) : dToGo (r 4) p = 0 ↔ p ∉ L := by
  refine ⟨fun e hm => ?_, tg_out h hp⟩
  obtain ⟨c, h1, h2, -, h4⟩ := tg_pos h hm
  rw [h4] at e
  exact nI_ne0 (by omega) (by omega) e
theorem q_its0 (h : InvC n li f r L K) {p : Nat} (hp : p < 100) (e : dToGo (r 4) p = 0) : dToGo ((dSec f r L).2 4) p = 0 := (tg_sec h hp).1 ((tg_nil h hp).mp e)
theorem q_its1 (h : InvC n li f r L K) {x y : Nat} (ux : x < n) (uy : y < n) (e : dToGo (r 4) (x * 10 + y) = 1 ∨ dToGo (r 4) (y * 10 + x) = 1) : dToGo ((dSec f r L).2 4) (x * 10 + y) = 0 := by
  have hn := h.1.2.1
  rw [tg_one h (by omega), tg_one h (by omega)] at e
  by_cases hm : x * 10 + y ∈ L
  · exact ((tg_sec h (by omega)).2 hm).1 (by rw [sw_xy (by omega) (by omega)]; exact e)
  · exact (tg_sec h (by omega)).1 hm
theorem q_its2 (h : InvC n li f r L K) {x y : Nat} (ux : x < n) (uy : y < n) (e0 : ¬ dToGo (r 4) (x * 10 + y) = 0) (e1 : ¬ dToGo (r 4) (x * 10 + y) = 1) (e2 : ¬ dToGo (r 4) (y * 10 + x) = 1) : dToGo ((dSec f r L).2 4) (x * 10 + y) = dToGo (r 4) (x * 10 + y) - 1 := by
  have hn := h.1.2.1
  have hm : x * 10 + y ∈ L := Classical.byContradiction (fun h9 => e0 ((tg_nil h (by omega)).mpr h9))
  rw [tg_one h (by omega)] at e1 e2
  rw [(((tg_sec h (by omega)).2 hm).2 (by rw [sw_xy (by omega) (by omega)]; exact fun h9 => h9.elim e1 e2)).1, tg_in h hm]
/-- what one gets caught in a second -/
theorem q_gets (h : InvC n li f r L K) {x y : Nat} (ux : x < n) (uy : y < n) : (dSec f r L).2 5 (x * 10 + y) - r 5 (x * 10 + y) = 0 ∨ ((dSec f r L).2 5 (x * 10 + y) - r 5 (x * 10 + y) = 1 ∧ dToGo (r 4) (x * 10 + y) = 1 ∧ dToGo (r 4) (y * 10 + x) = 0 ∧ ¬ (dSec f r L).1 3 = nI y) := by
  have hn := h.1.2.1
  obtain ⟨-, -, s3⟩ := sec_pair h (p := x * 10 + y) (by omega)
  have e5 : (dSec f r L).2 5 = (secA f r L).2 5 := sec_r (by decide)
  rw [e5, sc3]
  rw [sw_xy (by omega) (by omega), show (x * 10 + y) % 10 = y by omega] at s3
  rcases s3 with e | ⟨e, -, e1, e2, e3⟩
  · rw [e]
    exact Or.inl (Int32.sub_self _)
  · refine Or.inr ⟨?_, (tg_one h (by omega)).mpr e1, tg_out h (by omega) ((h.free (by omega)).mp e2), e3⟩
    rw [e, Int32.add_comm]
    exact Int32.add_sub_cancel _ _
theorem q_gets0 (h : InvC n li f r L K) {x y : Nat} (ux : x < n) (uy : y < n) : ¬ (dSec f r L).2 5 (x * 10 + y) - r 5 (x * 10 + y) < 0 := by
  rcases q_gets h ux uy with e | ⟨e, -⟩ <;> rw [e] <;> decide
theorem q_gets1 (h : InvC n li f r L K) {x y : Nat} (ux : x < n) (uy : y < n) : ¬ 1 < (dSec f r L).2 5 (x * 10 + y) - r 5 (x * 10 + y) := by
  rcases q_gets h ux uy with e | ⟨e, -⟩ <;> rw [e] <;> decide
theorem q_gets2 (h : InvC n li f r L K) {x y : Nat} (ux : x < n) (uy : y < n) (e1 : (dSec f r L).2 5 (x * 10 + y) - r 5 (x * 10 + y) = 1) : dToGo (r 4) (x * 10 + y) = 1 ∧ ¬ 0 < dToGo (r 4) (y * 10 + x) ∧ ¬ (dSec f r L).1 3 = nI y := by
  rcases q_gets h ux uy with e | ⟨-, e2, e3, e4⟩
  · rw [e] at e1
    exact absurd e1 (by decide)
  · refine ⟨e2, ?_, e4⟩
    rw [e3]
    decide
/-- those that are over -/
def qO (t t' : Nat → Int32) : Nat → Int32 := fun p => if dToGo t p = 0 then 0 else if dToGo t' p = 0 then 1 else 0
theorem q_over (h : InvC n li f r L K) : S2 (qO (r 4) ((dSec f r L).2 4)) n = S2 (lv1 (r 4)) n - S2 (lv1 ((dSec f r L).2 4)) n := by
  have hn := h.1.2.1
  rw [← S2_sub]
  refine S2_cg (fun a b ha hb => ?_)
  have hp : a * 10 + b < 100 := by omega
  have e4 : (dSec f r L).2 4 = (secA f r L).2 4 := sec_r (by decide)
  show (if dToGo (r 4) (a * 10 + b) = 0 then (0 : Int32) else if dToGo ((dSec f r L).2 4) (a * 10 + b) = 0 then 1 else 0) = lv1 (r 4) (a * 10 + b) - lv1 ((dSec f r L).2 4) (a * 10 + b)
  rw [lv_mem h hp]
  obtain ⟨s1, s2, -⟩ := sec_pair h hp
  by_cases hm : a * 10 + b ∈ L
  · rw [if_neg (fun e => (tg_nil h hp).mp e hm), if_pos hm]
    by_cases e : r 4 (a * 10 + b) = 1 ∨ r 4 (sw (a * 10 + b)) = 1
    · rw [if_pos (((tg_sec h hp).2 hm).1 e)]
      unfold lv1
      rw [if_pos (by rw [e4]; exact (s2 hm).1 e)]
      decide
    · have h9 := ((tg_sec h hp).2 hm).2 e
      have hne : ¬ dToGo ((dSec f r L).2 4) (a * 10 + b) = 0 := by
        rw [h9.1]
        obtain ⟨c, c1, c2, -, c4⟩ := h.c10 hm
        rw [c4, nI_m1' (by omega)]
        have hc : c ≠ 1 := fun e1 => e (Or.inl (by rw [c4, e1]; rfl))
        exact nI_ne0 (by omega) (by omega)
      rw [if_neg hne]
      unfold lv1
      rw [if_neg h9.2]
      decide
  · rw [if_pos (tg_out h hp hm), if_neg hm]
    unfold lv1
    rw [if_pos (by rw [e4]; exact s1 hm)]
    decide
/-- the books of a second -/
theorem q_books (h : InvC n li f r L K) :
    S2 (qO (r 4) ((dSec f r L).2 4)) n = 2 * ((dSec f r L).1 7 - f 7) + ((dSec f r L).1 8 - f 8) + S2 ((dSec f r L).2 5) n - S2 (r 5) n ∧
    dSum ((dSec f r L).2 3) n + (dSec f r L).1 6 - (dSum (r 3) n + f 6) = 6 * ((dSec f r L).1 7 - f 7) + S2 ((dSec f r L).2 5) n - S2 (r 5) n + (dSec f r L).1 6 - f 6 := by
  have hn := h.1.2.1
  have hs := arrs_sum (s := dM1 (dTalk f r).1 (dTalk f r).2 L) hn h.2.2.2.2.1 L.length (Nat.le_refl _)
  have e7 : (dM1 (dTalk f r).1 (dTalk f r).2 L).1 7 = f 7 := dTalk_f (by decide) (by decide) (by decide) (by decide) f r
  have e8 : (dM1 (dTalk f r).1 (dTalk f r).2 L).1 8 = f 8 := dTalk_f (by decide) (by decide) (by decide) (by decide) f r
  have e5 : (dM1 (dTalk f r).1 (dTalk f r).2 L).2 5 = r 5 := m1_o (by decide) (by decide)
  have e3 : (dM1 (dTalk f r).1 (dTalk f r).2 L).2 3 = r 3 := m1_o (by decide) (by decide)
  have el : S2 (lv1 ((dM1 (dTalk f r).1 (dTalk f r).2 L).2 4)) n = S2 (lv1 (r 4)) n := S2_cg (fun a b ha hb => by
    have hp : a * 10 + b < 100 := by omega
    rw [lv_mem h hp]
    unfold lv1
    rw [m1_t h.2.2.2.2.2.1]
    by_cases hm : a * 10 + b ∈ L
    · obtain ⟨c, c1, c2, -, c4⟩ := h.c10 hm
      rw [if_pos hm, if_pos hm, c4, nI_m1' (by omega), if_neg (nI_m1 (by omega))]
    · rw [if_neg hm, if_neg hm, if_pos ((h.free hp).mpr hm)])
  rw [e7, e8, e5, e3, el] at hs
  have d7 : (dSec f r L).1 7 = (dArrs L (dM1 (dTalk f r).1 (dTalk f r).2 L) L.length).1 7 := sec_f (by decide) (by decide)
  have d8 : (dSec f r L).1 8 = (dArrs L (dM1 (dTalk f r).1 (dTalk f r).2 L) L.length).1 8 := sec_f (by decide) (by decide)
  have d5 : (dSec f r L).2 5 = (dArrs L (dM1 (dTalk f r).1 (dTalk f r).2 L) L.length).2 5 := sec_r (by decide)
  have d3 : (dSec f r L).2 3 = (dArrs L (dM1 (dTalk f r).1 (dTalk f r).2 L) L.length).2 3 := sec_r (by decide)
  have d4 : (dSec f r L).2 4 = (dArrs L (dM1 (dTalk f r).1 (dTalk f r).2 L) L.length).2 4 := sec_r (by decide)
  rw [q_over h, d7, d8, d5, d3, d4]
  obtain ⟨h1, h2⟩ := hs
  generalize S2 (lv1 ((dArrs L (dM1 (dTalk f r).1 (dTalk f r).2 L) L.length).2 4)) n = a1 at h1 ⊢
  generalize (dArrs L (dM1 (dTalk f r).1 (dTalk f r).2 L) L.length).1 7 = a7 at h1 h2 ⊢
  generalize (dArrs L (dM1 (dTalk f r).1 (dTalk f r).2 L) L.length).1 8 = a8 at h1 ⊢
  generalize S2 ((dArrs L (dM1 (dTalk f r).1 (dTalk f r).2 L) L.length).2 5) n = a5 at h1 h2 ⊢
  generalize dSum ((dArrs L (dM1 (dTalk f r).1 (dTalk f r).2 L) L.length).2 3) n = a3 at h2 ⊢
  generalize S2 (lv1 (r 4)) n = b1 at h1 ⊢
  generalize S2 (r 5) n = b5 at h1 h2 ⊢
  generalize dSum (r 3) n = b3 at h2 ⊢
  generalize (dSec f r L).1 6 = a6
  constructor
  · grind
  · grind
end PP
