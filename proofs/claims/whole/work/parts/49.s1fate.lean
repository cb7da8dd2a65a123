section RelJ
variable {x y : Nat}
def fT (f t4 : Nat → Int32) (x y : Nat) : Nat := if 0 < dToGo t4 (y * 10 + x) then min (dN (dToGo t4 (y * 10 + x))) (dN (2 * dSeats (f 0) (nI x) (nI y))) else dN (2 * dSeats (f 0) (nI x) (nI y))
theorem secs_s (mk li : Int32) (s : mS) (i : Nat) : mSecs mk li s (i + 1) = mSec mk li ((mSecs mk li s i).1, (mSecs mk li s i).2) := rfl
theorem send_at (gu : Int32) (nw : Nat → Int32) (x y : Nat) : (∀ j, j ≠ 7 → j ≠ 48 + (10 * x + y) → j ≠ 148 + (10 * x + y) → mSend gu nw x y j = nw j) ∧ mSend gu nw x y (48 + (10 * x + y)) = 2 * dSeats gu (nI x) (nI y) ∧ mSend gu nw x y (148 + (10 * x + y)) = nw 7 + 1 := by
  unfold mSend
  refine ⟨fun j h1 h2 h3 => ?_, mUs, ?_⟩
  · rw [mUp h2, mUp h3, mAp h1]
  · rw [mUp (by omega), mUs, mAs]
theorem fate0 {gg li k : Nat} {f : Nat → Int32} {r : Nat → Nat → Int32} {L : List Nat} {nw : Nat → Int32} (H : RelS gg li f r L nw k) (hk : k < 2000) (ux : x < gg) (uy : y < gg) (hne : x ≠ y) (hn : 10 * x + y ∉ L) (en : Int32) :
    (∀ i, i < fT f (r 4) x y → 0 < (mSecs (nI (10 * x + y)) (nI li) (mSend (nI gg) nw x y, en) i).1 (148 + (10 * x + y)) ∧ mOk (mSecs (nI (10 * x + y)) (nI li) (mSend (nI gg) nw x y, en) i).1) ∧ ¬ 0 < (mSecs (nI (10 * x + y)) (nI li) (mSend (nI gg) nw x y, en) (fT f (r 4) x y)).1 (148 + (10 * x + y)) ∧ (mSecs (nI (10 * x + y)) (nI li) (mSend (nI gg) nw x y, en) (fT f (r 4) x y)).2 = dFate f (r 4) x y 0 := by
  have H1 := rel_send H hk ux uy hne hn
  obtain ⟨⟨hg2, hg, hl1, hl2, hf0, hf2⟩, h9, ho, hC, hT, hE, hP, hS⟩ := H
  obtain ⟨T, t1, t2, t3⟩ := go_nat hg ux uy hne
  obtain ⟨s1, s2, s3⟩ := send_at (nI gg) nw x y
  have hok := fun i => (go_rel (nI (10 * x + y)) en H1 i).mok
  have htk := fun i => (go_rel (nI (10 * x + y)) en H1 i).tk
  have b0 : 0 < mSend (nI gg) nw x y (148 + (10 * x + y)) := by
    rw [s3, hS.2.1, nI_1]
    have := hS.2.2.1
    exact nI_0 ▸ nI_lt (by omega) (by omega)
  have b1 : mSend (nI gg) nw x y (48 + (10 * x + y)) = nI T := s2.trans t3
  have b2 : mSend (nI gg) nw x y (148 + (10 * y + x)) = nw (148 + (10 * y + x)) := s1 _ (by omega) (by omega) (by omega)
  have b3 : mSend (nI gg) nw x y (48 + (10 * y + x)) = nw (48 + (10 * y + x)) := s1 _ (by omega) (by omega) (by omega)
  have b4 : mSend (nI gg) nw x y 1 = f 3 := by rw [s1 1 (by omega) (by omega) (by omega), hC.2.1]
  have b5 : mSend (nI gg) nw x y 2 = f 4 := by rw [s1 2 (by omega) (by omega) (by omega), hC.2.2.1]
  have eg : dToGo (r 4) (y * 10 + x) = nw (48 + (10 * y + x)) := by
    rw [show y * 10 + x = 10 * y + x by omega]
    exact togo_eq hP (by omega)
  unfold fT dFate
  rw [eg, hf0, t3, dN_nI (by omega)]
  generalize hNe : mSend (nI gg) nw x y = N at *
  by_cases hm : 10 * y + x ∈ L
  · obtain ⟨c, a1, a2, a3, a4, a5⟩ := (hP _ (by omega)).1 hm
    have hpos : (0 : Int32) < nI c := nI_0 ▸ nI_lt (by omega) (by omega)
    rw [a4, if_pos hpos, if_pos hpos, dN_nI (by omega)]
    have run := run_A (c := T) (c' := c) H1 (by omega) (by omega) hne en (by omega) b0 b1 (fun _ => ⟨b3.trans a4, by omega⟩)
    have hmin : min c T ≤ c ∧ min c T ≤ T ∧ (min c T = c ∨ min c T = T) := by omega
    refine ⟨fun i hi => ⟨?_, hok i⟩, ?_⟩
    · rw [(run i (by omega) (fun _ => by omega)).1]
      exact b0
    · obtain ⟨u, hu⟩ : ∃ u, min c T = u + 1 := ⟨min c T - 1, by omega⟩
      rw [hu, secs_s]
      obtain ⟨r1, r2, r3, r4', r5⟩ := run u (by omega) (fun _ => by omega)
      refine sec_B (by omega) (by omega) hne (htk u) (by rw [r1]; exact b0) (by rw [r3, b2]; exact a5) ?_
      rcases hmin.2.2 with e | e
      · left
        rw [r4' (by rw [b2]; exact a5)]
        congr 1
        omega
      · right
        rw [r2]
        congr 1
        omega
  · obtain ⟨a1, a2, a3⟩ := (hP _ (by omega)).2 hm
    have hno : ¬ 0 < N (148 + (10 * y + x)) := by rw [b2, a3]; decide
    rw [a2, if_neg (by decide), if_neg (by decide)]
    have run := run_A (c := T) (c' := 0) H1 (by omega) (by omega) hne en (by omega) b0 b1 (fun h => absurd h hno)
    refine ⟨fun i hi => ⟨?_, hok i⟩, ?_⟩
    · rw [(run i hi (fun h => absurd h hno)).1]
      exact b0
    · obtain ⟨u, hu⟩ : ∃ u, T = u + 1 := ⟨T - 1, by omega⟩
      obtain ⟨r1, r2, r3, r4', r5⟩ := run u (by omega) (fun h => absurd h hno)
      have sc := sec_C (en := (mSecs (nI (10 * x + y)) (nI li) (N, en) u).2) (by omega) (by omega) hne (htk u) (by rw [r1]; exact b0) (by rw [r2]; congr 1; omega) (by rw [r3]; exact hno)
      have el : mTalk (nI li) (mSecs (nI (10 * x + y)) (nI li) (N, en) u).1 1 = (mSecs (nI (10 * x + y)) (nI li) (N, en) T).1 1 := by
        rw [hu, secs_s, sec_lo _ _ _ _ (by omega) (by omega)]
      rw [el] at sc
      rw [show (mSecs (nI (10 * x + y)) (nI li) (N, en) T) = mSec (nI (10 * x + y)) (nI li) ((mSecs (nI (10 * x + y)) (nI li) (N, en) u).1, (mSecs (nI (10 * x + y)) (nI li) (N, en) u).2) by rw [hu, secs_s]]
      rw [show (mSecs (nI (10 * x + y)) (nI li) (N, en) T) = mSec (nI (10 * x + y)) (nI li) ((mSecs (nI (10 * x + y)) (nI li) (N, en) u).1, (mSecs (nI (10 * x + y)) (nI li) (N, en) u).2) by rw [hu, secs_s]] at sc
      refine ⟨sc.1, sc.2.trans ?_⟩
      rw [← secs_s, ← hu]
      rcases hT with ⟨d1, d2⟩ | ⟨q, w, d1, d2, d3, d4, d5⟩
      · rw [spk_none _ _ _ (b4.trans d1), if_neg (fun e => nI_m1 (by omega) e.symm), if_neg (fun e => by rw [d1] at e; exact nI_m1 (by omega) e.1.symm)]
      · obtain ⟨p1, p2⟩ := spk_some (nI (10 * x + y)) (nI li) en (by omega) (b4.trans d4) (b5.trans d5) d2 d3 T
        have ez : (0 : Int32) + nI T = nI T := Int32.zero_add _
        rw [d4, d5, ez]
        by_cases hw : T < w
        · rw [(p1 hw).1]
          by_cases e : nI q = nI y
          · rw [if_pos e, if_pos ⟨e, nI_lt hw (by omega)⟩]
          · rw [if_neg e, if_neg (fun h => e h.1)]
        · rw [p2 (by omega), if_neg (fun e => nI_m1 (by omega) e.symm), if_neg (fun h => hw ((nI_ltI (by omega) (by omega)).mp h.2))]
/-- who isn't on the way stays so -/
theorem run_D {gg li k : Nat} {f : Nat → Int32} {r : Nat → Nat → Int32} {L : List Nat} {nw : Nat → Int32} (H : RelS gg li f r L nw k) (mk en : Int32) {p : Nat} (hp : p < 100) : ∀ i j, ¬ 0 < (mSecs mk (nI li) (nw, en) i).1 (148 + p) → ¬ 0 < (mSecs mk (nI li) (nw, en) (i + j)).1 (148 + p)
  | i, 0, h => h
  | i, j + 1, h => by
    have ih := run_D H mk en hp i j h
    have tk := (go_rel mk en H (i + j)).tk
    rw [show i + (j + 1) = (i + j) + 1 by omega, secs_s]
    exact sec_D mk _ tk hp ih
theorem fate_mo {gg li k : Nat} {f : Nat → Int32} {r : Nat → Nat → Int32} {L : List Nat} {nw : Nat → Int32} (H : RelS gg li f r L nw k) (ux : x < gg) (uy : y < gg) (hne : x ≠ y) (hn : 10 * x + y ∉ L) (mo : Nat) (hmo : mo ≤ 60) : 10 * x + y ∉ (dGo (f, r) L mo).2 ∧ dFate (dGo (f, r) L mo).1.1 ((dGo (f, r) L mo).1.2 4) x y 0 = dFate f (r 4) x y (nI mo) := by
  have G := go_rel (nI (10 * y + x)) 0 H mo
  have H0 := H
  obtain ⟨⟨hg2, hg, hl1, hl2, hf0, hf2⟩, h9, ho, hC, hT, hE, hP, hS⟩ := H
  have hno : ¬ 0 < nw (148 + (10 * x + y)) := fun h => hn ((way_eq hP (by omega)).mp h)
  have hno2 := run_D H0 (nI (10 * y + x)) 0 (p := 10 * x + y) (by omega) 0 mo hno
  rw [Nat.zero_add] at hno2
  obtain ⟨T, t1, t2, t3⟩ := go_nat hg ux uy hne
  have G0 := G
  obtain ⟨⟨-, -, -, -, gf0, -⟩, -, -, gC, gT, gE, gP, gS⟩ := G
  refine ⟨fun hm => hno2 ((way_eq gP (by omega)).mpr hm), ?_⟩
  have eg : dToGo (r 4) (y * 10 + x) = nw (48 + (10 * y + x)) := by
    rw [show y * 10 + x = 10 * y + x by omega]
    exact togo_eq hP (by omega)
  have eg2 : dToGo ((dGo (f, r) L mo).1.2 4) (y * 10 + x) = (mSecs (nI (10 * y + x)) (nI li) (nw, 0) mo).1 (48 + (10 * y + x)) := by
    rw [show y * 10 + x = 10 * y + x by omega]
    exact togo_eq gP (by omega)
  unfold dFate
  rw [eg, eg2, gf0, hf0, gC.2.1, gC.2.2.1, t3]
  -- the one that comes back
  have back : (0 < (mSecs (nI (10 * y + x)) (nI li) (nw, 0) mo).1 (48 + (10 * y + x))) ↔ (nI mo < nw (48 + (10 * y + x))) := by
    by_cases hm : 10 * y + x ∈ L
    · obtain ⟨c, a1, a2, a3, a4, a5⟩ := (hP _ (by omega)).1 hm
      have run := run_A (x := y) (y := x) (c := c) (c' := 0) H0 (by omega) (by omega) (fun e => hne e.symm) 0 (by omega) a5 a4 (fun h => absurd h hno)
      rw [a4]
      by_cases hlt : mo < c
      · rw [(run mo hlt (fun h => absurd h hno)).2.1]
        exact ⟨fun _ => nI_lt hlt (by omega), fun _ => nI_0 ▸ nI_lt (by omega) (by omega)⟩
      · obtain ⟨u, hu⟩ : ∃ u, c = u + 1 := ⟨c - 1, by omega⟩
        obtain ⟨r1, r2, r3, r4', r5⟩ := run u (by omega) (fun h => absurd h hno)
        have tk := (go_rel (nI (10 * y + x)) 0 H0 u).tk
        have sc := sec_C (x := y) (y := x) (en := (mSecs (nI (10 * y + x)) (nI li) (nw, 0) u).2) (by omega) (by omega) (fun e => hne e.symm) tk (by rw [r1]; exact a5) (by rw [r2]; congr 1; omega) (by rw [r3]; exact hno)
        rw [← secs_s, ← hu] at sc
        have hend := run_D H0 (nI (10 * y + x)) 0 (p := 10 * y + x) (by omega) c (mo - c) sc.1
        rw [show c + (mo - c) = mo by omega] at hend
        have hz := ((gP (10 * y + x) (by omega)).2 (fun hm => hend ((way_eq gP (by omega)).mpr hm))).2.1
        rw [hz]
        exact ⟨fun h => absurd h (by decide), fun h => absurd ((nI_ltI (by omega) (by omega)).mp h) (by omega)⟩
    · obtain ⟨a1, a2, a3⟩ := (hP _ (by omega)).2 hm
      have hend := run_D H0 (nI (10 * y + x)) 0 (p := 10 * y + x) (by omega) 0 mo (by show ¬ 0 < nw _; rw [a3]; decide)
      rw [Nat.zero_add] at hend
      have hz := ((gP (10 * y + x) (by omega)).2 (fun hm => hend ((way_eq gP (by omega)).mpr hm))).2.1
      rw [hz, a2]
      exact ⟨fun h => absurd h (by decide), fun h => absurd h (by rw [← nI_0]; exact nI_nlt (by omega) (by omega))⟩
  have spk : ((mSecs (nI (10 * y + x)) (nI li) (nw, 0) mo).1 1 = nI y ∧ 0 + nI T < (mSecs (nI (10 * y + x)) (nI li) (nw, 0) mo).1 2) ↔ (f 3 = nI y ∧ nI mo + nI T < f 4) := by
    rw [Int32.zero_add, nI_add]
    rcases hT with ⟨d1, d2⟩ | ⟨q, w, d1, d2, d3, d4, d5⟩
    · rw [spk_none _ _ _ (hC.2.1.symm.trans d1), d1]
      exact ⟨fun h => absurd h.1.symm (nI_m1 (by omega)), fun h => absurd h.1.symm (nI_m1 (by omega))⟩
    · obtain ⟨p1, p2⟩ := spk_some (nI (10 * y + x)) (nI li) 0 (by omega) (hC.2.1.symm.trans d4) (hC.2.2.1.symm.trans d5) d2 d3 mo
      rw [d4, d5]
      by_cases hw : mo < w
      · rw [(p1 hw).1, (p1 hw).2]
        exact ⟨fun h => ⟨h.1, nI_lt (by have := (nI_ltI (by omega) (by omega)).mp h.2; omega) (by omega)⟩, fun h => ⟨h.1, nI_lt (by have := (nI_ltI (by omega) (by omega)).mp h.2; omega) (by omega)⟩⟩
      · rw [p2 (by omega)]
        exact ⟨fun h => absurd h.1.symm (nI_m1 (by omega)), fun h => absurd ((nI_ltI (by omega) (by omega)).mp h.2) (by omega)⟩
  by_cases hb : 0 < (mSecs (nI (10 * y + x)) (nI li) (nw, 0) mo).1 (48 + (10 * y + x))
  · rw [if_pos hb, if_pos (back.mp hb)]
  · rw [if_neg hb, if_neg (fun h => hb (back.mpr h))]
    by_cases hs : ((mSecs (nI (10 * y + x)) (nI li) (nw, 0) mo).1 1 = nI y ∧ 0 + nI T < (mSecs (nI (10 * y + x)) (nI li) (nw, 0) mo).1 2)
    · rw [if_pos hs, if_pos (spk.mp hs)]
    · rw [if_neg hs, if_neg (fun h => hs (spk.mpr h))]
theorem best_eq {f : Nat → Int32} {t : Nat → Int32} : ∀ j k, mBest (fun k => dFate f t x y (nI k)) j k = dBest (fun k => dFate f t x y (nI k)) j k
  | 0, _ => rfl
  | j + 1, k => by
    unfold mBest dBest
    rw [best_eq j (k + 1)]
    have h : (0 < dFate f t x y (nI k)) ↔ ¬ dFate f t x y (nI k) = 0 := by
      unfold dFate
      split
      · decide
      · split <;> decide
    by_cases e : dFate f t x y (nI k) = 0
    · rw [if_pos e, if_neg (fun hh => (h.mp hh) e)]
    · rw [if_neg e, if_pos (h.mpr e)]
end RelJ
