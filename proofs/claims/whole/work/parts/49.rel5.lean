section RelE
theorem mem_keep {t : Nat → Int32} {L : List Nat} {p : Nat} : p ∈ dKeep t L ↔ p ∈ L ∧ ¬ t p = -1 := by
  unfold dKeep
  rw [List.mem_filter]
  simp
theorem oR_fgt (t o : Nat → Int32) (L : List Nat) : oR (dFgt t o L L.length).2 (dKeep t L) := by
  intro j hj
  have h := (fgt_get t o L L.length (Nat.le_refl _)).2 j
  rw [List.take_length] at h
  exact h hj
/-- a second leaves the two agreeing -/
theorem sec_rel {gg li k : Nat} {f : Nat → Int32} {r : Nat → Nat → Int32} {L : List Nat} {nw : Nat → Int32} (mk en : Int32) (h : RelS gg li f r L nw k) : RelS gg li (dSec f r L).1 (dSec f r L).2 (dKeep ((dSec f r L).2 4) L) (mSec mk (nI li) (nw, en)).1 k := by
  have hlen := h.len
  have h0 := h
  obtain ⟨⟨hg2, hg, hl1, hl2, hf0, hf2⟩, h9, ho, hC, hT, hE, hP, hS⟩ := h
  obtain ⟨tC, tT, ⟨t0, t2⟩, t4, t48, t7⟩ := talk_rel hg hl1 hl2 hf2 hC hT
  have hP1 : RP ((dTalk f r).2 4) L (mTalk (nI li) nw) := fun p hp => by
    rw [t4, t48 _ (by omega), t48 _ (by omega)]
    exact hP p hp
  obtain ⟨dC, dJ⟩ := dec_rel hS.nodup tC hP1
  have dst : ∀ p, mDec (mTalk (nI li) nw) 100 (148 + p) = nw (148 + p) := fun p => by rw [mDec_far (by omega), t48 _ (by omega)]
  have hst : L.Pairwise (fun p q => mDec (mTalk (nI li) nw) 100 (148 + p) < mDec (mTalk (nI li) nw) 100 (148 + q)) := hS.1.imp (fun {a b} hab => by
    rw [dst, dst]
    exact hab)
  obtain ⟨c, s, hc, hN, iC, iJ, iF, i7, iz, iS⟩ := loop_rel (mk := mk) (e0 := en) (s0 := dM1 (dTalk f r).1 (dTalk f r).2 L) hg hE hst dC dJ L.length (Nat.le_refl _)
  have hscan : mScan s.1 100 = -1 := by
    rcases mScan_sp s.1 100 (by decide) with ⟨a, -⟩ | ⟨q, q1, -, q3, -⟩
    · exact a
    · obtain ⟨m1, m2⟩ := iJ.arr q1 q3.1 q3.2
      obtain ⟨j, hj, ej⟩ := List.mem_iff_getElem.mp m1
      exact absurd (by rw [show L.getD j 0 = q by simp [hj, ej]]; exact m2) (iz j hj)
  have hfly : mFly mk (mTalk (nI li) nw, en) = s := by
    rw [mFly_eq, show (101 : Nat) = (101 - c) + c by omega, hN, mLoop_stop hscan]
  have e1 : (mSec mk (nI li) (nw, en)).1 = mAdd s.1 0 1 := by
    show mAdd (mFly mk (mTalk (nI li) nw, en)).1 0 1 = _
    rw [hfly]
  rw [e1]
  generalize hU : dArrs L (dM1 (dTalk f r).1 (dTalk f r).2 L) L.length = u at iC iJ iF iz
  have es : dSec f r L = (upd (upd u.1 9 (nI (dFgt (u.2 4) (u.2 6) L L.length).1)) 1 (u.1 1 + 1), va_up u.2 6 (dFgt (u.2 4) (u.2 6) L L.length).2) := by
    show (upd (dMove (dTalk f r).1 (dTalk f r).2 L).1 1 ((dMove (dTalk f r).1 (dTalk f r).2 L).1 1 + 1), (dMove (dTalk f r).1 (dTalk f r).2 L).2) = _
    unfold dMove
    rw [hU]
    unfold dForget
    dsimp only
    rw [mUp (j := 1) (k := 9) (by omega)]
  rw [es]
  dsimp only
  have e24 : va_up u.2 6 (dFgt (u.2 4) (u.2 6) L L.length).2 4 = u.2 4 := vaUp (by omega)
  rw [e24]
  have hm : ∀ p, p ∈ dKeep (u.2 4) L → p ∈ L := fun p hp => (mem_keep.mp hp).1
  have hstp : ∀ p, p ∈ dKeep (u.2 4) L → s.1 (148 + p) = nw (148 + p) := fun p hp => by
    have hp2 := mem_keep.mp hp
    have h100 := hE.lt hg hp2.1
    rw [iS p h100 ((iJ.way h100).mpr hp2.2), dst]
  obtain ⟨c0, c1, c2, c3, c4, c5, c6, k0, k1, k2, k3, k5⟩ := iC
  refine ⟨⟨hg2, hg, hl1, hl2, ?_, ?_⟩, ?_, ?_, ⟨?_, ?_, ?_, ?_, ?_, ?_, ?_, fun j hj => ?_, fun j hj => ?_, fun j hj => ?_, fun j hj => ?_, fun j hj => ?_⟩, ?_, fun p hp => hE p (hm p hp), fun p hp => ?_, ?_, ?_, hS.2.2.1, fun p hp => ?_⟩
  · rw [mUp (by omega), mUp (by omega), iF.1]
    exact t0.trans hf0
  · rw [mUp (by omega), mUp (by omega), iF.2.1]
    exact t2.trans hf2
  · rw [mUp (by omega), mUs, (fgt_get (u.2 4) (u.2 6) L L.length (Nat.le_refl _)).1, List.take_length]
  · rw [vaUs]
    exact oR_fgt _ _ _
  · rw [mUs, mAs, c0]
  · rw [mUp (by omega), mUp (by omega), mAp (by omega), c1]
  · rw [mUp (by omega), mUp (by omega), mAp (by omega), c2]
  · rw [mUp (by omega), mUp (by omega), mAp (by omega), c3]
  · rw [mUp (by omega), mUp (by omega), mAp (by omega), c4]
  · rw [mUp (by omega), mUp (by omega), mAp (by omega), c5]
  · rw [mUp (by omega), mUp (by omega), mAp (by omega), c6]
  · rw [vaUp (by omega), mAp (by omega), k0 j hj]
  · rw [vaUp (by omega), mAp (by omega), k1 j hj]
  · rw [vaUp (by omega), mAp (by omega), k2 j hj]
  · rw [vaUp (by omega), mAp (by omega), k3 j hj]
  · rw [vaUp (by omega), mAp (by omega), k5 j hj]
  · show (upd (upd u.1 9 _) 1 _ 3 = -1 ∧ upd (upd u.1 9 _) 1 _ 4 = 0) ∨ ∃ q w : Nat, q < gg ∧ 1 ≤ w ∧ w ≤ 60 ∧ upd (upd u.1 9 _) 1 _ 3 = nI q ∧ upd (upd u.1 9 _) 1 _ 4 = nI w
    rw [mUp (by omega), mUp (by omega), mUp (by omega), mUp (by omega), iF.2.2.1, iF.2.2.2]
    exact tT
  · rw [mAp (by omega), mAp (by omega)]
    refine ⟨fun hh => ?_, fun hh => (iJ p hp).2 (fun h => hh (mem_keep.mpr h))⟩
    have hp2 := mem_keep.mp hh
    obtain ⟨cc, a1, a2, a3, a4⟩ := (iJ p hp).1 hp2
    refine ⟨cc, ?_, a1, a2, a3, a4⟩
    apply Nat.pos_of_ne_zero
    intro e
    subst e
    obtain ⟨j, hj, ej⟩ := List.mem_iff_getElem.mp hp2.1
    exact iz j hj (by rw [show L.getD j 0 = p by simp [hj, ej], a2]; exact nI_0)
  · refine (List.Pairwise.filter _ hS.1).imp_of_mem (fun {a b} ha hb hab => ?_)
    rw [mAp (by omega), mAp (by omega), hstp a ha, hstp b hb]
    exact hab
  · rw [mAp (by omega), i7, mDec_far (by omega), t7]
    exact hS.2.1
  · rw [mAp (by omega), mAp (by omega), hstp p hp, i7, mDec_far (by omega), t7]
    exact hS.2.2.2 p (hm p hp)
/-- n seconds -/
theorem go_rel {gg li k : Nat} {f : Nat → Int32} {r : Nat → Nat → Int32} {L : List Nat} {nw : Nat → Int32} (mk en : Int32) (h : RelS gg li f r L nw k) : ∀ n, RelS gg li (dGo (f, r) L n).1.1 (dGo (f, r) L n).1.2 (dGo (f, r) L n).2 (mSecs mk (nI li) (nw, en) n).1 k
  | 0 => h
  | n + 1 => sec_rel mk (mSecs mk (nI li) (nw, en) n).2 (go_rel mk en h n)
end RelE
