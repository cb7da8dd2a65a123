section RelI
variable {x y : Nat}
theorem m0_st {li : Int32} {n : Nat → Int32} (ht : ∀ j, 48 ≤ j → mTalk li n j = n j) (q : Nat) : mDec (mTalk li n) 100 (148 + q) = n (148 + q) := by rw [mDec_far (by omega), ht _ (by omega)]
theorem m0_go {li : Int32} {n : Nat → Int32} (ht : ∀ j, 48 ≤ j → mTalk li n j = n j) {q : Nat} (hq : q < 100) : mDec (mTalk li n) 100 (48 + q) = if 0 < n (148 + q) then n (48 + q) - 1 else n (48 + q) := by
  rw [mDec_go _ 100 (by omega), show 48 + q - 48 = q by omega, ht _ (by omega), ht _ (by omega)]
  by_cases h : 0 < n (148 + q)
  · rw [if_pos ⟨by omega, by omega, h⟩, if_pos h]
  · rw [if_neg (fun hh => h hh.2.2), if_neg h]
theorem sec_A (hx : x < 10) (hy : y < 10) (hxy : x ≠ y) {li : Int32} {n : Nat → Int32} {en : Int32} (ht : ∀ j, 48 ≤ j → mTalk li n j = n j) {c c' : Nat} (hc : 2 ≤ c) (hc2 : c ≤ 20) (h0 : 0 < n (148 + (10 * x + y))) (h1 : n (48 + (10 * x + y)) = nI c) (h2 : 0 < n (148 + (10 * y + x)) → n (48 + (10 * y + x)) = nI c' ∧ 2 ≤ c' ∧ c' ≤ 20) :
    (mSec (nI (10 * x + y)) li (n, en)).1 (148 + (10 * x + y)) = n (148 + (10 * x + y)) ∧ (mSec (nI (10 * x + y)) li (n, en)).1 (48 + (10 * x + y)) = nI (c - 1) ∧ (mSec (nI (10 * x + y)) li (n, en)).1 (148 + (10 * y + x)) = n (148 + (10 * y + x)) ∧ (0 < n (148 + (10 * y + x)) → (mSec (nI (10 * x + y)) li (n, en)).1 (48 + (10 * y + x)) = nI (c' - 1)) ∧ (mSec (nI (10 * x + y)) li (n, en)).2 = en := by
  have g1 : mDec (mTalk li n) 100 (48 + (10 * x + y)) = nI (c - 1) := by rw [m0_go ht (by omega), if_pos h0, h1]; exact nI_m1' (by omega)
  have g2 : 0 < n (148 + (10 * y + x)) → mDec (mTalk li n) 100 (48 + (10 * y + x)) = nI (c' - 1) := fun h => by rw [m0_go ht (by omega), if_pos h, (h2 h).1]; exact nI_m1' (by have := (h2 h).2; omega)
  obtain ⟨a1, a2, a3, a4, a5⟩ := fly_A (en := en) hx hy hxy (n := mDec (mTalk li n) 100) (by
    rw [g1, ← nI_0]
    exact nI_ne (by omega) (by omega) (by omega)) (by
    intro h
    rw [m0_st ht] at h
    rw [g2 h.1, ← nI_0] at h
    have := (h2 h.1).2
    exact nI_ne (by omega) (by omega) (by omega) h.2) 101
  rw [sec_eq]
  dsimp only
  refine ⟨?_, ?_, ?_, fun h => ?_, a5⟩
  · rw [mAp (by omega), a1, m0_st ht]
  · rw [mAp (by omega), a2, g1]
  · rw [mAp (by omega), a3, m0_st ht]
  · rw [mAp (by omega), a4, g2 h]
theorem sec_B (hx : x < 10) (hy : y < 10) (hxy : x ≠ y) {li : Int32} {n : Nat → Int32} {en : Int32} (ht : ∀ j, 48 ≤ j → mTalk li n j = n j) (h0 : 0 < n (148 + (10 * x + y))) (h1 : 0 < n (148 + (10 * y + x))) (h2 : n (48 + (10 * y + x)) = nI 1 ∨ n (48 + (10 * x + y)) = nI 1) :
    ¬ 0 < (mSec (nI (10 * x + y)) li (n, en)).1 (148 + (10 * x + y)) ∧ (mSec (nI (10 * x + y)) li (n, en)).2 = 3 := by
  obtain ⟨a1, a2⟩ := fly_B (en := en) hx hy hxy (n := mDec (mTalk li n) 100) (by rw [m0_st ht]; exact h0) (by rw [m0_st ht]; exact h1) (by
    rw [m0_go ht (by omega), m0_go ht (by omega), if_pos h0, if_pos h1]
    rcases h2 with h2 | h2
    · exact Or.inl (by rw [h2]; decide)
    · exact Or.inr (by rw [h2]; decide))
  rw [sec_eq]
  dsimp only
  rw [mAp (by omega)]
  exact ⟨a1, a2⟩
theorem sec_C (hx : x < 10) (hy : y < 10) (hxy : x ≠ y) {li : Int32} {n : Nat → Int32} {en : Int32} (ht : ∀ j, 48 ≤ j → mTalk li n j = n j) (h0 : 0 < n (148 + (10 * x + y))) (h1 : n (48 + (10 * x + y)) = nI 1) (h2 : ¬ 0 < n (148 + (10 * y + x))) :
    ¬ 0 < (mSec (nI (10 * x + y)) li (n, en)).1 (148 + (10 * x + y)) ∧ (mSec (nI (10 * x + y)) li (n, en)).2 = (if mTalk li n 1 = nI y then 0 else 1) := by
  obtain ⟨a1, a2⟩ := fly_C (en := en) hx hy hxy (n := mDec (mTalk li n) 100) (by rw [m0_st ht]; exact h0) (by
    rw [m0_go ht (by omega), if_pos h0, h1]
    decide) (by rw [m0_st ht]; exact h2)
  rw [mDec_far (by omega)] at a2
  rw [sec_eq]
  dsimp only
  rw [mAp (by omega)]
  exact ⟨a1, a2⟩
theorem sec_lo (mk li : Int32) (n : Nat → Int32) (en : Int32) {j : Nat} (h1 : 1 ≤ j) (h5 : j < 5) : (mSec mk li (n, en)).1 j = mTalk li n j := by
  rw [sec_eq]
  dsimp only
  rw [mAp (by omega), fly_lo 101 j h5, mDec_far (by omega)]
theorem sec_D (mk : Int32) {li : Int32} {n : Nat → Int32} (en : Int32) (ht : ∀ j, 48 ≤ j → mTalk li n j = n j) {p : Nat} (hp : p < 100) (h : ¬ 0 < n (148 + p)) : ¬ 0 < (mSec mk li (n, en)).1 (148 + p) := by
  rw [sec_eq]
  dsimp only
  rw [mAp (by omega)]
  exact fly_D hp (by rw [m0_st ht]; exact h) 101
theorem RelS.tk {gg li k : Nat} {f : Nat → Int32} {r : Nat → Nat → Int32} {L : List Nat} {nw : Nat → Int32} (h : RelS gg li f r L nw k) : ∀ j, 48 ≤ j → mTalk (nI li) nw j = nw j := by
  obtain ⟨⟨hg2, hg, hl1, hl2, hf0, hf2⟩, h9, ho, hC, hT, -⟩ := h
  exact (talk_rel hg hl1 hl2 hf2 hC hT).2.2.2.2.1
theorem tk_none {li : Int32} {n : Nat → Int32} (h : n 1 = -1) : mTalk li n 1 = -1 := by
  unfold mTalk
  rw [if_pos h]
  split
  · rw [mAp (by omega), mAp (by omega), h]
  · rw [mAp (by omega), h]
theorem tk_some {li : Int32} {n : Nat → Int32} {q w : Nat} (hq : q < 10) (h : n 1 = nI q) (hw : n 2 = nI w) (w1 : 1 ≤ w) (w2 : w ≤ 60) : (w = 1 → mTalk li n 1 = -1) ∧ (2 ≤ w → mTalk li n 1 = nI q ∧ mTalk li n 2 = nI (w - 1)) := by
  have e2 : mTlk n q 2 = nI (w - 1) := by
    unfold mTlk
    rw [mSs, mAp (by omega), mUp (by omega), hw]
    exact nI_m1' (by omega)
  have e1 : mTlk n q 1 = nI q := by
    unfold mTlk
    rw [mSp (by omega), mAp (by omega), mUp (by omega), h]
  have en : ¬ n 1 = -1 := by rw [h]; exact nI_m1 (by omega)
  unfold mTalk
  rw [if_neg en, h, dN_nI (by omega), e2]
  refine ⟨fun e => ?_, fun e => ?_⟩
  · subst e
    rw [if_pos (by decide), mUs]
  · have hne : ¬ nI (w - 1) = 0 := by
      rw [← nI_0]
      exact nI_ne (by omega) (by omega) (by omega)
    rw [if_neg hne]
    exact ⟨e1, e2⟩
/-- who speaks behind i seconds -/
theorem spk_none (mk li : Int32) {n : Nat → Int32} (en : Int32) (h : n 1 = -1) : ∀ i, (mSecs mk li (n, en) i).1 1 = -1
  | 0 => h
  | i + 1 => by
    have ih := spk_none mk li en h i
    show (mSec mk li ((mSecs mk li (n, en) i).1, (mSecs mk li (n, en) i).2)).1 1 = -1
    rw [sec_lo _ _ _ _ (by omega) (by omega)]
    exact tk_none ih
theorem spk_some (mk li : Int32) {n : Nat → Int32} (en : Int32) {q w : Nat} (hq : q < 10) (h : n 1 = nI q) (hw : n 2 = nI w) (w1 : 1 ≤ w) (w2 : w ≤ 60) : ∀ i, (i < w → (mSecs mk li (n, en) i).1 1 = nI q ∧ (mSecs mk li (n, en) i).1 2 = nI (w - i)) ∧ (w ≤ i → (mSecs mk li (n, en) i).1 1 = -1)
  | 0 => ⟨fun _ => ⟨h, hw⟩, fun hh => by omega⟩
  | i + 1 => by
    obtain ⟨ih1, ih2⟩ := spk_some mk li en hq h hw w1 w2 i
    show (i + 1 < w → (mSec mk li ((mSecs mk li (n, en) i).1, (mSecs mk li (n, en) i).2)).1 1 = nI q ∧ (mSec mk li ((mSecs mk li (n, en) i).1, (mSecs mk li (n, en) i).2)).1 2 = nI (w - (i + 1))) ∧ (w ≤ i + 1 → (mSec mk li ((mSecs mk li (n, en) i).1, (mSecs mk li (n, en) i).2)).1 1 = -1)
    rw [sec_lo _ _ _ _ (by omega) (by omega), sec_lo _ _ _ _ (by omega) (by omega)]
    by_cases hi : i < w
    · obtain ⟨a1, a2⟩ := ih1 hi
      obtain ⟨b1, b2⟩ := tk_some (li := li) hq a1 a2 (by omega) (by omega)
      refine ⟨fun hh => ?_, fun hh => b1 (by omega)⟩
      have := b2 (by omega)
      rw [show w - (i + 1) = w - i - 1 by omega]
      exact this
    · exact ⟨fun hh => by omega, fun _ => tk_none (ih2 (by omega))⟩
/-- the glance and the one that comes back, while neither arrives -/
theorem run_A {gg li k : Nat} {f : Nat → Int32} {r : Nat → Nat → Int32} {L : List Nat} {n : Nat → Int32} (H : RelS gg li f r L n k) (hx : x < 10) (hy : y < 10) (hxy : x ≠ y) (en : Int32) {c c' : Nat} (hc2 : c ≤ 20) (h0 : 0 < n (148 + (10 * x + y))) (h1 : n (48 + (10 * x + y)) = nI c) (h2 : 0 < n (148 + (10 * y + x)) → n (48 + (10 * y + x)) = nI c' ∧ c' ≤ 20) : ∀ i, i < c → (0 < n (148 + (10 * y + x)) → i < c') →
    (mSecs (nI (10 * x + y)) (nI li) (n, en) i).1 (148 + (10 * x + y)) = n (148 + (10 * x + y)) ∧ (mSecs (nI (10 * x + y)) (nI li) (n, en) i).1 (48 + (10 * x + y)) = nI (c - i) ∧ (mSecs (nI (10 * x + y)) (nI li) (n, en) i).1 (148 + (10 * y + x)) = n (148 + (10 * y + x)) ∧ (0 < n (148 + (10 * y + x)) → (mSecs (nI (10 * x + y)) (nI li) (n, en) i).1 (48 + (10 * y + x)) = nI (c' - i)) ∧ (mSecs (nI (10 * x + y)) (nI li) (n, en) i).2 = en
  | 0, _, _ => ⟨rfl, h1, rfl, fun h => (h2 h).1, rfl⟩
  | i + 1, hi, hi' => by
    obtain ⟨a1, a2, a3, a4, a5⟩ := run_A H hx hy hxy en hc2 h0 h1 h2 i (by omega) (fun h => by have := hi' h; omega)
    have tk := (go_rel (nI (10 * x + y)) en H i).tk
    have s := sec_A (en := (mSecs (nI (10 * x + y)) (nI li) (n, en) i).2) (c := c - i) (c' := c' - i) hx hy hxy tk (by omega) (by omega) (by rw [a1]; exact h0) a2 (fun h => by
      rw [a3] at h
      have e1 := hi' h
      have e2 := (h2 h).2
      exact ⟨a4 h, by omega, by omega⟩)
    show (mSec (nI (10 * x + y)) (nI li) ((mSecs (nI (10 * x + y)) (nI li) (n, en) i).1, (mSecs (nI (10 * x + y)) (nI li) (n, en) i).2)).1 (148 + (10 * x + y)) = n (148 + (10 * x + y)) ∧ (mSec (nI (10 * x + y)) (nI li) ((mSecs (nI (10 * x + y)) (nI li) (n, en) i).1, (mSecs (nI (10 * x + y)) (nI li) (n, en) i).2)).1 (48 + (10 * x + y)) = nI (c - (i + 1)) ∧ (mSec (nI (10 * x + y)) (nI li) ((mSecs (nI (10 * x + y)) (nI li) (n, en) i).1, (mSecs (nI (10 * x + y)) (nI li) (n, en) i).2)).1 (148 + (10 * y + x)) = n (148 + (10 * y + x)) ∧ (0 < n (148 + (10 * y + x)) → (mSec (nI (10 * x + y)) (nI li) ((mSecs (nI (10 * x + y)) (nI li) (n, en) i).1, (mSecs (nI (10 * x + y)) (nI li) (n, en) i).2)).1 (48 + (10 * y + x)) = nI (c' - (i + 1))) ∧ (mSec (nI (10 * x + y)) (nI li) ((mSecs (nI (10 * x + y)) (nI li) (n, en) i).1, (mSecs (nI (10 * x + y)) (nI li) (n, en) i).2)).2 = en
    obtain ⟨b1, b2, b3, b4, b5⟩ := s
    refine ⟨b1.trans a1, ?_, b3.trans a3, fun h => ?_, b5.trans a5⟩
    · rw [b2, show c - i - 1 = c - (i + 1) by omega]
    · rw [b4 (by rw [a3]; exact h), show c' - i - 1 = c' - (i + 1) by omega]
end RelI
