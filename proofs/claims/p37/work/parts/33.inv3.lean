/-! What holds of the class's dinner, and of both; a second keeps it. -/
section IV3
def RT (n : Nat) (f : Nat → Int32) : Prop := (f 3 = -1 ∧ f 4 = 0) ∨ ∃ q w : Nat, q < n ∧ 1 ≤ w ∧ w ≤ 60 ∧ f 3 = nI q ∧ f 4 = nI w
/-- the class's dinner: n guests, limit li, the pairs L under way; nothing unsaid is above K -/
def InvC (n li : Nat) (f : Nat → Int32) (r : Nat → Nat → Int32) (L : List Nat) (K : Nat) : Prop :=
  (2 ≤ n ∧ n ≤ 10 ∧ 1 ≤ li ∧ li ≤ 30 ∧ f 0 = nI n ∧ f 2 = nI li) ∧ f 9 = nI L.length ∧ oR (r 6) L ∧ RT n f ∧ (∀ p, p ∈ L → p / 10 < n ∧ p % 10 < n ∧ p / 10 ≠ p % 10) ∧ L.Nodup ∧
  (∀ p, p < 100 → (p ∈ L → ∃ c, 1 ≤ c ∧ c ≤ 2 * sN n (p / 10) (p % 10) ∧ r 4 p = nI c) ∧ (p ∉ L → r 4 p = -1)) ∧ (∀ a, a < n → r 5 (a * 10 + a) = 0) ∧ (∀ x, x < 10 → ∃ c, c ≤ K ∧ r 3 x = nI c) ∧ ∃ c, c ≤ K ∧ f 6 = nI c
/-- the law's glances: the same pairs, in their order -/
def InvT (n k : Nat) (t : Nat → Int32) (L : List Nat) (G : Nat → Nat → Int32) : Prop :=
  k ≤ 100 ∧ (∀ i, i < k → ∃ x y : Nat, x < n ∧ y < n ∧ x ≠ y ∧ G i 0 = nI x ∧ G i 1 = nI y) ∧ L = (sIds G k).map (pr G) ∧ (∀ i, i < k → 0 ≤ G i 2 → G i 2 = t (pr G i)) ∧ ∀ i, i < k → ¬ 0 ≤ G i 2 → G i 2 = -1
variable {n li k K : Nat} {f f' : Nat → Int32} {r r' : Nat → Nat → Int32} {L : List Nat} {G : Nat → Nat → Int32}
theorem InvC.p100 (h : InvC n li f r L K) : ∀ p, p ∈ L → p < 100 := fun p hp => by
  have h1 := h.2.2.2.2.1 p hp
  have h2 := h.1.2.1
  omega
theorem InvC.len (h : InvC n li f r L K) : L.length ≤ 100 := nodup_len 100 L h.2.2.2.2.2.1 h.p100
theorem InvC.spk (h : InvC n li f r L K) : f 3 = -1 ∨ ∃ q, q < n ∧ f 3 = nI q := by
  rcases h.2.2.2.1 with ⟨a, -⟩ | ⟨q, w, a1, -, -, a4, -⟩
  · exact Or.inl a
  · exact Or.inr ⟨q, a1, a4⟩
theorem InvC.dok (h : InvC n li f r L K) : dOk f r L := by
  have hn := h.1.2.1
  refine ⟨?_, h.2.1, h.2.2.1, h.p100, h.len⟩
  rcases h.spk with a | ⟨q, a1, a4⟩
  · exact Or.inl a
  · exact Or.inr ⟨q, by omega, a4⟩
theorem InvC.c10 (h : InvC n li f r L K) {p : Nat} (hp : p ∈ L) : ∃ c, 1 ≤ c ∧ c ≤ 10 ∧ c ≤ 2 * sN n (p / 10) (p % 10) ∧ r 4 p = nI c := by
  obtain ⟨c, h1, h2, h3⟩ := (h.2.2.2.2.2.2.1 p (h.p100 p hp)).1 hp
  obtain ⟨e1, e2, -⟩ := h.2.2.2.2.1 p hp
  have := sN_le h.1.2.1 e1 e2
  exact ⟨c, h1, by omega, h2, h3⟩
theorem InvC.free (h : InvC n li f r L K) {p : Nat} (hp : p < 100) : r 4 p = -1 ↔ p ∉ L := by
  refine ⟨fun e hm => ?_, (h.2.2.2.2.2.2.1 p hp).2⟩
  obtain ⟨c, h1, h2, -, h4⟩ := h.c10 hm
  rw [h4] at e
  exact nI_m1 (by omega) e
theorem dTalk_r {j : Nat} (h : j ≠ 0) (f : Nat → Int32) (r : Nat → Nat → Int32) : (dTalk f r).2 j = r j := by
  unfold dTalk
  split
  · rfl
  · exact vaUp h
theorem talk_RT (hn : n ≤ 10) (h : RT n f) : RT n (dTalk f r).1 := by
  rcases h with ⟨a, b⟩ | ⟨q, w, a1, a2, a3, a4, a5⟩
  · refine Or.inl ?_
    unfold dTalk
    rw [if_pos a]
    dsimp only
    split
    · rw [mUp (by decide), mUp (by decide), mUp (by decide), mUp (by decide)]
      exact ⟨a, b⟩
    · rw [mUp (by decide), mUp (by decide)]
      exact ⟨a, b⟩
  · have en : ¬ f 3 = -1 := by rw [a4]; exact nI_m1 (by omega)
    have ew : f 4 - 1 = nI (w - 1) := by rw [a5]; exact nI_m1' (by omega)
    unfold dTalk
    rw [if_neg en]
    dsimp only
    by_cases hw : w = 1
    · subst hw
      have e0 : f 4 - 1 = 0 := by rw [ew]; rfl
      rw [if_pos e0]
      refine Or.inl ⟨?_, ?_⟩
      · rw [mUp (by decide), mUp (by decide), mUs]
      · rw [mUp (by decide), mUs, e0]
    · have e0 : ¬ f 4 - 1 = 0 := by
        rw [ew]
        exact nI_ne0 (by omega) (by omega)
      rw [if_neg e0]
      refine Or.inr ⟨q, w - 1, a1, by omega, by omega, ?_, ?_⟩
      · rw [mUp (by decide), mUp (by decide)]
        exact a4
      · rw [mUp (by decide), mUs]
        exact ew
def secA (f : Nat → Int32) (r : Nat → Nat → Int32) (L : List Nat) : dS := dArrs L (dM1 (dTalk f r).1 (dTalk f r).2 L) L.length
theorem sec_1 : (dSec f r L).1 = upd (upd (secA f r L).1 9 (nI (dFgt ((secA f r L).2 4) ((secA f r L).2 6) L L.length).1)) 1 (upd (secA f r L).1 9 (nI (dFgt ((secA f r L).2 4) ((secA f r L).2 6) L L.length).1) 1 + 1) := rfl
theorem sec_f {j : Nat} (h1 : j ≠ 1) (h9 : j ≠ 9) : (dSec f r L).1 j = (secA f r L).1 j := by
  rw [sec_1, mUp h1, mUp h9]
theorem sec_r {j : Nat} (h6 : j ≠ 6) : (dSec f r L).2 j = (secA f r L).2 j := by
  show va_up (secA f r L).2 6 _ j = _
  rw [vaUp h6]
theorem secA_f {j : Nat} (h7 : j ≠ 7) (h8 : j ≠ 8) : (secA f r L).1 j = (dTalk f r).1 j := arrs_f L _ h7 h8 L.length
theorem m1_t (hnd : L.Nodup) (p : Nat) : (dM1 (dTalk f r).1 (dTalk f r).2 L).2 4 p = if p ∈ L then r 4 p - 1 else r 4 p := by
  show va_up (dTalk f r).2 4 (dDec ((dTalk f r).2 4) L L.length) 4 p = _
  rw [vaUs, dDec_get hnd L.length (Nat.le_refl _), List.take_length, dTalk_r (by decide)]
theorem m1_o {j : Nat} (h4 : j ≠ 4) (h0 : j ≠ 0) : (dM1 (dTalk f r).1 (dTalk f r).2 L).2 j = r j := by
  show va_up (dTalk f r).2 4 _ j = _
  rw [vaUp h4, dTalk_r h0]
theorem hits_iff (h : InvC n li f r L K) {p : Nat} (hp : p < 100) : Hits ((dM1 (dTalk f r).1 (dTalk f r).2 L).2 4) L p ↔ (r 4 p = 1 ∨ r 4 (sw p) = 1) := by
  have hnd := h.2.2.2.2.2.1
  have key : ∀ q, q < 100 → r 4 q = 1 → q ∈ L ∧ (dM1 (dTalk f r).1 (dTalk f r).2 L).2 4 q = 0 := by
    intro q hq e
    have hm : q ∈ L := Classical.byContradiction (fun hm => by
      rw [(h.free hq).mpr hm] at e
      exact absurd e (by decide))
    refine ⟨hm, ?_⟩
    rw [m1_t hnd, if_pos hm, e]
    rfl
  constructor
  · rintro ⟨q, hq, hx, h0⟩
    rw [m1_t hnd, if_pos hq] at h0
    obtain ⟨c, c1, c2, -, c4⟩ := h.c10 hq
    rw [c4, nI_m1' (by omega)] at h0
    have hc : c = 1 := by
      rcases Nat.lt_or_ge 1 c with h9 | h9
      · exact absurd h0 (nI_ne0 (by omega) (by omega))
      · omega
    subst hc
    have hq100 := h.p100 q hq
    rcases hx with e | e
    · exact Or.inl (e ▸ c4)
    · exact Or.inr (by rw [← e, sw_sw hq100]; exact c4)
  · rintro (e | e)
    · obtain ⟨a, b⟩ := key p hp e
      exact ⟨p, a, Or.inl rfl, b⟩
    · obtain ⟨a, b⟩ := key (sw p) (sw_lt hp) e
      exact ⟨sw p, a, Or.inr (sw_sw hp), b⟩
/-- what a second does to a pair -/
theorem sec_pair (h : InvC n li f r L K) {p : Nat} (hp : p < 100) :
    (p ∉ L → (secA f r L).2 4 p = -1) ∧ (p ∈ L → (r 4 p = 1 ∨ r 4 (sw p) = 1 → (secA f r L).2 4 p = -1) ∧ (¬ (r 4 p = 1 ∨ r 4 (sw p) = 1) → (secA f r L).2 4 p = r 4 p - 1)) ∧
    ((secA f r L).2 5 p = r 5 p ∨ ((secA f r L).2 5 p = r 5 p + 1 ∧ p ∈ L ∧ r 4 p = 1 ∧ r 4 (sw p) = -1 ∧ ¬ (dTalk f r).1 3 = nI (p % 10))) := by
  have hnd := h.2.2.2.2.2.1
  have hA := arrs_t (s := dM1 (dTalk f r).1 (dTalk f r).2 L) h.p100 L.length (Nat.le_refl _) p hp
  rw [List.take_length, hits_iff h hp] at hA
  have hA : (r 4 p = 1 ∨ r 4 (sw p) = 1 → (secA f r L).2 4 p = -1) ∧ (¬ (r 4 p = 1 ∨ r 4 (sw p) = 1) → (secA f r L).2 4 p = if p ∈ L then r 4 p - 1 else r 4 p) := ⟨hA.1, fun e => (hA.2 e).trans (m1_t hnd p)⟩
  refine ⟨fun hm => ?_, fun hm => ⟨hA.1, fun e => by rw [hA.2 e, if_pos hm]⟩, ?_⟩
  · by_cases e : r 4 p = 1 ∨ r 4 (sw p) = 1
    · exact hA.1 e
    · rw [hA.2 e, if_neg hm]
      exact (h.free hp).mpr hm
  · have hC := arrs_c (s := dM1 (dTalk f r).1 (dTalk f r).2 L) h.p100 hnd L.length (Nat.le_refl _) p hp
    rw [List.take_length, m1_o (by decide) (by decide)] at hC
    rcases hC with e | ⟨e, hm, h0, h1, hs⟩
    · exact Or.inl e
    · refine Or.inr ⟨e, hm, ?_, ?_, hs⟩
      · rw [m1_t hnd, if_pos hm] at h0
        obtain ⟨c, c1, c2, -, c4⟩ := h.c10 hm
        rw [c4, nI_m1' (by omega)] at h0
        have hc : c = 1 := by
          rcases Nat.lt_or_ge 1 c with h9 | h9
          · exact absurd h0 (nI_ne0 (by omega) (by omega))
          · omega
        rw [c4, hc]
        rfl
      · rw [m1_t hnd] at h1
        by_cases hm2 : sw p ∈ L
        · rw [if_pos hm2] at h1
          obtain ⟨c, c1, c2, -, c4⟩ := h.c10 hm2
          rw [c4, nI_m1' (by omega)] at h1
          exact absurd h1 (nI_m1 (by omega))
        · exact (h.free (sw_lt hp)).mpr hm2
theorem keep_t (h : InvC n li f r L K) {p : Nat} (hp : p < 100) : (secA f r L).2 4 p = -1 ∨ 0 ≤ (secA f r L).2 4 p := by
  obtain ⟨h1, h2, -⟩ := sec_pair h hp
  by_cases hm : p ∈ L
  · by_cases e : r 4 p = 1 ∨ r 4 (sw p) = 1
    · exact Or.inl ((h2 hm).1 e)
    · rw [(h2 hm).2 e]
      obtain ⟨c, c1, c2, -, c4⟩ := h.c10 hm
      rw [c4, nI_m1' (by omega)]
      exact Or.inr (nI_pos' (by omega))
  · exact Or.inl (h1 hm)
/-- a second keeps what holds of the class's dinner -/
theorem inv_sec (h : InvC n li f r L K) : InvC n li (dSec f r L).1 (dSec f r L).2 (dKeep ((dSec f r L).2 4) L) (K + 400) := by
  have h0 := h
  have hlen := h.len
  obtain ⟨⟨b1, b2, b3, b4, b5, b6⟩, h9, ho, hT, hE, hnd, hP, hd, hu, cq, hcq, ecq⟩ := h
  have e4 : (dSec f r L).2 4 = (secA f r L).2 4 := sec_r (by decide)
  refine ⟨⟨b1, b2, b3, b4, ?_, ?_⟩, ?_, ?_, ?_, fun p hp => hE p (mem_keep.mp hp).1, hnd.filter _, fun p hp => ⟨fun hm => ?_, fun hm => ?_⟩, fun a ha => ?_, fun x hx => ?_, ?_⟩
  · rw [sec_f (by decide) (by decide), secA_f (by decide) (by decide), dTalk_f (by decide) (by decide) (by decide) (by decide)]
    exact b5
  · rw [sec_f (by decide) (by decide), secA_f (by decide) (by decide), dTalk_f (by decide) (by decide) (by decide) (by decide)]
    exact b6
  · rw [e4]
    have hg := (fgt_get ((secA f r L).2 4) ((secA f r L).2 6) L L.length (Nat.le_refl _)).1
    rw [List.take_length] at hg
    rw [sec_1, mUp (by decide), mUs, hg]
  · rw [e4]
    show oR (va_up (secA f r L).2 6 (dFgt ((secA f r L).2 4) ((secA f r L).2 6) L L.length).2 6) _
    rw [vaUs]
    exact oR_fgt _ _ _
  · have hT' := talk_RT (r := r) b2 hT
    unfold RT
    rw [sec_f (by decide) (by decide), sec_f (by decide) (by decide), secA_f (by decide) (by decide), secA_f (by decide) (by decide)]
    exact hT'
  · rw [e4] at hm ⊢
    obtain ⟨hm1, hm2⟩ := mem_keep.mp hm
    obtain ⟨-, s2, -⟩ := sec_pair h0 hp
    by_cases e : r 4 p = 1 ∨ r 4 (sw p) = 1
    · exact absurd ((s2 hm1).1 e) hm2
    · obtain ⟨c, c1, c2, c3, c4⟩ := h0.c10 hm1
      refine ⟨c - 1, ?_, by omega, ?_⟩
      · rcases Nat.lt_or_ge 1 c with h9 | h9
        · omega
        · exact absurd (Or.inl (by rw [c4, show c = 1 by omega]; rfl)) e
      · rw [(s2 hm1).2 e, c4]
        exact nI_m1' (by omega)
  · rw [e4] at hm ⊢
    obtain ⟨s1, -, -⟩ := sec_pair h0 hp
    by_cases hm1 : p ∈ L
    · exact Classical.byContradiction (fun h9 => hm (mem_keep.mpr ⟨hm1, h9⟩))
    · exact s1 hm1
  · rw [sec_r (by decide)]
    obtain ⟨-, -, s3⟩ := sec_pair h0 (p := a * 10 + a) (by omega)
    rcases s3 with e | ⟨-, hm, -⟩
    · rw [e]
      exact hd a ha
    · have := hE _ hm
      omega
  · rw [sec_r (by decide)]
    have hu1 := arrs_u (s := dM1 (dTalk f r).1 (dTalk f r).2 L) (L := L) (K := K) (fun p hp => ⟨h0.p100 p hp, (hE p hp).2.2⟩) (fun x hx => by
      rw [m1_o (by decide) (by decide)]
      exact hu x hx) L.length (Nat.le_refl _) x hx
    obtain ⟨c, hc, ec⟩ := hu1
    exact ⟨c, by omega, ec⟩
  · rw [sec_f (by decide) (by decide), secA_f (by decide) (by decide)]
    unfold dTalk
    split
    · dsimp only
      split
      · rw [mUs, ecq]
        exact ⟨cq + 1, by omega, nI_add cq 1⟩
      · rw [mUp (by decide)]
        exact ⟨cq, by omega, ecq⟩
    · dsimp only
      split
      · rw [mUp (by decide), mUp (by decide), mUp (by decide)]
        exact ⟨cq, by omega, ecq⟩
      · rw [mUp (by decide), mUp (by decide)]
        exact ⟨cq, by omega, ecq⟩
theorem inv_go (h : InvC n li f r L K) : ∀ c, InvC n li (dGo (f, r) L c).1.1 (dGo (f, r) L c).1.2 (dGo (f, r) L c).2 (K + 400 * c)
  | 0 => h
  | c + 1 => by
    have h9 := inv_sec (inv_go h c)
    rw [show K + 400 * (c + 1) = K + 400 * c + 400 by omega]
    exact h9
/-- a second on both sides -/
theorem both_sec (h : InvC n li f r L K) (hT : InvT n k (r 4) L G) (hS : Same f' r' f r) :
    Same (sPass k (f', r', G)).1 (sPass k (f', r', G)).2.1 (dSec f r L).1 (dSec f r L).2 ∧ InvT n k ((dSec f r L).2 4) (dKeep ((dSec f r L).2 4) L) (sPass k (f', r', G)).2.2 := by
  have hnd := h.2.2.2.2.2.1
  obtain ⟨hk, hc, hL, hl, hd⟩ := hT
  have hC : Cols n k G L := ⟨h.1.2.1, hk, hc, hL, hnd⟩
  have hmem : ∀ j, j < k → 0 ≤ G j 2 → pr G j ∈ L := fun j hj hG => by
    rw [hL]
    exact List.mem_map_of_mem (mem_ids.mpr ⟨hj, hG⟩)
  have h0 : Same (dTalk f' r').1 (dTalk f' r').2 (dM1 (dTalk f r).1 (dTalk f r).2 L).1 (dM1 (dTalk f r).1 (dTalk f r).2 L).2 := (talk_same hS).off4
  have hK : Lock k G L (sDec G k) ((dM1 (dTalk f r).1 (dTalk f r).2 L).2 4) := by
    refine ⟨fun j c hc2 => sDec_c hc2 k, fun j hj hG => ?_, fun j hj hG => ?_, fun p hp hm => ?_, fun p hp => ?_⟩
    · have hm := hmem j hj hG
      obtain ⟨c, c1, c2, -, c4⟩ := h.c10 hm
      rw [m1_t hnd, if_pos hm, sDec_get, hl j hj hG, if_pos ⟨hj, by rw [c4]; exact nI_lt (a := 0) (by omega) (by omega)⟩]
    · have e := hd j hj hG
      rw [sDec_get, if_neg (fun h9 => by rw [e] at h9; exact absurd h9.2 (by decide)), e]
    · rw [m1_t hnd, if_neg hm]
      exact (h.free hp).mpr hm
    · rw [m1_t hnd]
      by_cases hm : p ∈ L
      · rw [if_pos hm]
        obtain ⟨c, c1, c2, -, c4⟩ := h.c10 hm
        rw [c4, nI_m1' (by omega)]
        exact Or.inr (nI_pos' (by omega))
      · rw [if_neg hm]
        exact Or.inl ((h.free hp).mpr hm)
  have hcnt : sCnt G k = L.length := by rw [hL, List.length_map]; rfl
  have hlk := lock hC (s0 := ((dTalk f' r').1, (dTalk f' r').2, sDec G k)) h0 hK k (Nat.le_refl k)
  rw [hcnt] at hlk
  obtain ⟨a1, b1, b2, b3, b4, b5⟩ := hlk
  have e4 : (dSec f r L).2 4 = (secA f r L).2 4 := sec_r (by decide)
  have hpr : ∀ j, pr (sPass k (f', r', G)).2.2 j = pr G j := fun j => by
    show dN ((sArrs k ((dTalk f' r').1, (dTalk f' r').2, sDec G k) k).2.2 j 0) * 10 + dN ((sArrs k ((dTalk f' r').1, (dTalk f' r').2, sDec G k) k).2.2 j 1) = _
    rw [b1 j 0 (by decide), b1 j 1 (by decide)]
    rfl
  have hlive : ∀ j, j < k → (0 ≤ (sArrs k ((dTalk f' r').1, (dTalk f' r').2, sDec G k) k).2.2 j 2 ↔ 0 ≤ G j 2 ∧ ¬ (secA f r L).2 4 (pr G j) = -1) := fun j hj => by
    by_cases hG : 0 ≤ G j 2
    · rw [b2 j hj hG]
      refine ⟨fun h9 => ⟨hG, fun e => ?_⟩, fun h9 => ?_⟩
      · have e' : (dArrs L (dM1 (dTalk f r).1 (dTalk f r).2 L) L.length).2 4 (pr G j) = -1 := e
        rw [e'] at h9
        exact neg1 h9
      · exact (b5 _ (h.p100 _ (hmem j hj hG))).resolve_left h9.2
    · rw [b3 j hj hG]
      exact ⟨fun h9 => absurd h9 neg1, fun h9 => absurd h9.1 hG⟩
  refine ⟨⟨fun j hj => ?_, fun j j4 j6 => ?_⟩, hk, fun i hi => ?_, ?_, fun i hi hG => ?_, fun i hi hG => ?_⟩
  · show upd (sArrs k ((dTalk f' r').1, (dTalk f' r').2, sDec G k) k).1 1 _ j = _
    by_cases e : j = 1
    · subst e
      rw [mUs, sec_1, mUs, mUp (by decide)]
      exact congrArg (fun z => z + 1) (a1.1 1 (by decide))
    · rw [mUp e, sec_f e (by omega)]
      exact a1.1 j hj
  · rw [sec_r j6]
    exact a1.2 j j4 j6
  · obtain ⟨x, y, ux, uy, hxy, ex, ey⟩ := hc i hi
    exact ⟨x, y, ux, uy, hxy, (b1 i 0 (by decide)).trans ex, (b1 i 1 (by decide)).trans ey⟩
  · rw [e4]
    have e1 : sIds (sPass k (f', r', G)).2.2 k = (sIds G k).filter (fun j => !decide ((secA f r L).2 4 (pr G j) = -1)) := by
      unfold sIds
      rw [List.filter_filter]
      refine List.filter_congr (fun j hj => ?_)
      have hj := List.mem_range.mp hj
      have h9 := hlive j hj
      show decide (0 ≤ (sArrs k ((dTalk f' r').1, (dTalk f' r').2, sDec G k) k).2.2 j 2) = _
      by_cases g1 : 0 ≤ G j 2 <;> by_cases g2 : (secA f r L).2 4 (pr G j) = -1 <;> simp [sLive, h9, g1, g2]
    rw [e1]
    have e2 : List.map (pr (sPass k (f', r', G)).2.2) ((sIds G k).filter (fun j => !decide ((secA f r L).2 4 (pr G j) = -1))) = List.map (pr G) ((sIds G k).filter (fun j => !decide ((secA f r L).2 4 (pr G j) = -1))) := List.map_congr_left (fun j _ => hpr j)
    rw [e2, hL]
    unfold dKeep
    rw [← hL, hL, List.filter_map]
    rfl
  · rw [e4, hpr]
    exact b2 i hi ((hlive i hi).mp hG).1
  · have hG' : ¬ 0 ≤ (sArrs k ((dTalk f' r').1, (dTalk f' r').2, sDec G k) k).2.2 i 2 := hG
    show (sArrs k ((dTalk f' r').1, (dTalk f' r').2, sDec G k) k).2.2 i 2 = -1
    by_cases hg : 0 ≤ G i 2
    · rw [b2 i hi hg] at hG' ⊢
      exact (b5 _ (h.p100 _ (hmem i hi hg))).resolve_right hG'
    · exact b3 i hi hg
theorem both_go (h : InvC n li f r L K) (hT : InvT n k (r 4) L G) (hS : Same f' r' f r) : ∀ c, Same (sGo k (f', r', G) c).1 (sGo k (f', r', G) c).2.1 (dGo (f, r) L c).1.1 (dGo (f, r) L c).1.2 ∧ InvT n k ((dGo (f, r) L c).1.2 4) (dGo (f, r) L c).2 (sGo k (f', r', G) c).2.2
  | 0 => ⟨hS, hT⟩
  | c + 1 => by
    obtain ⟨a1, a2⟩ := both_go h hT hS c
    exact both_sec (inv_go h c) a2 a1
theorem pok_go (h : InvC n li f r L K) (hT : InvT n k (r 4) L G) (hS : Same f' r' f r) (c : Nat) : pOk n k (sGo k (f', r', G) c) := by
  obtain ⟨a1, a2⟩ := both_go h hT hS c
  have hI := inv_go h c
  refine ⟨?_, ?_, ?_, fun i hi => ?_⟩
  · rw [a1.1 0 (by decide)]
    exact hI.1.2.2.2.2.1
  · rw [a1.1 3 (by decide)]
    exact hI.spk
  · rw [a1.1 2 (by decide), hI.1.2.2.2.2.2]
    have h1 := hI.1.2.2.1
    have h2 := hI.1.2.2.2.1
    exact nI_lt (a := 0) (by omega) (by omega)
  · obtain ⟨x, y, ux, uy, -, ex, ey⟩ := a2.2.1 i hi
    exact ⟨x, y, ux, uy, ex, ey⟩
end IV3
