/-! New cells put ahead of the world; rows that agree. -/
section SQ
theorem wEq.rowq {D : va_G} {ws ws' : va_W} {cR : ClassId} {q N : Nat} {h h' : Nat → Option Nat} (hg : ∀ j, j < N → h j = h' j) (hw : wEq D ws ws') : wEq D (QA cR q N h :: ws) (QA cR q N h' :: ws') := wEq.cons (fun H h1 => by
  have h2 : H[q]? = some (vp_cell cR (N, .inr (.inr (.inr (.inr h))))) := h1
  have e : (Array.ofFn (n := N) fun j => va_rf (h j.val)) = Array.ofFn (n := N) fun j => va_rf (h' j.val) := congrArg Array.ofFn (funext fun j => by rw [hg j.val j.isLt])
  have e2 : vp_cell cR (N, .inr (.inr (.inr (.inr h)))) = vp_cell cR (N, .inr (.inr (.inr (.inr h')))) := by
    show arrV cR N (fun j => va_rf (h j)) = arrV cR N (fun j => va_rf (h' j))
    unfold arrV
    rw [e]
  rw [e2] at h2
  exact h2) hw
theorem wRotP {D : va_G} {X Y : va_W} {H : Heap} (h : va_P D vwCl (X ++ Y) H) : va_P D vwCl (Y ++ X) H := wPsub (fun q hq => List.mem_append.mpr ((List.mem_append.mp hq).symm)) h
theorem wRotD {A : Nat → Prop} {X Y : va_W} (h : va_D A (X ++ Y)) : va_D A (Y ++ X) := wDperm List.perm_append_comm h
variable {p : Program} {l : Launch} {e : Env} {R : Room} {s : State} {m : MethodId} {args : Array Value} {below : List Frame} {meth : Method} {c : Code} {H : Heap} {locs : List Loc} {cells slots : Nat} {Q : State → Prop}
variable {cc : ByteArray} {index : Nat} {own : String} {rest : List Value} {pc : Nat} {ls : Array Slot} {D : va_G} {tys : List (ClassId × FieldType)} {A0 : Nat → Prop} {H0 : Heap}
theorem wAnewF {W0 : va_W} (hx : p.tables.exec = Jvm.exec) (hb : c.code = cc) (hown : s.vm.findClass own = some m.cls) (hlink : (Cond.classLink own index "[I").before args s = true) (hN : wNest s) (hK : va_K D vwCl tys s) (hP : va_P D vwCl W0 H) (hD : va_D A0 W0) (hS : va_S A0 H0 H locs) (hA : ∀ q, H0.size ≤ q → A0 q) (t0 : Nat) {cR : ClassId} (ht : tys[t0]? = some (cR, .array .int)) {i : Int32} (k : Nat) (hi : i = nI k) (hk : k < 2 ^ 20) (hf : cells + 1 ≤ R.cells ∧ slots + k ≤ R.slots) (hdg : decode cc pc = .ok (.anewarray index, 3))
    (kk : ∀ (q : Nat) (H1 : Heap), va_P D vwCl ([QA cR q k (fun _ => none)] ++ W0) H1 → va_D A0 ([QA cR q k (fun _ => none)] ++ W0) → va_S A0 H0 H1 locs → W p l e R s m args below meth c H1 locs (cells + 1) (slots + k) Q (F0 m (pc + 3) ls (.ref q :: rest))) : W p l e R s m args below meth c H locs cells slots Q (F0 m pc ls (.int i :: rest)) :=
  wAnew hx hb hown hlink hN hK hP hD hS hA t0 ht k hi hk hf hdg (fun q H1 a1 a2 a3 => kk q H1 (wRotP a1) (wRotD a2) a3)
theorem wNewiF {W0 : va_W} (hx : p.tables.exec = Jvm.exec) (hb : c.code = cc) (harr : (Cond.arrayClass .int).before args s = true) (hK : va_K D vwCl tys s) (hP : va_P D vwCl W0 H) (hD : va_D A0 W0) (hS : va_S A0 H0 H locs) (hA : ∀ q, H0.size ≤ q → A0 q) (t1 : Nat) {cI : ClassId} (ht1 : tys[t1]? = some (cI, .int)) {i : Int32} (k : Nat) (hi : i = nI k) (hk : k < 2 ^ 20) (hf : cells + 1 ≤ R.cells ∧ slots + k ≤ R.slots) (hdg : decode cc pc = .ok (.newarray .int, 2))
    (kk : ∀ (q : Nat) (H1 : Heap), va_P D vwCl ([(q, .inl (cI, k, .inl (fun _ => 0)))] ++ W0) H1 → va_D A0 ([(q, .inl (cI, k, .inl (fun _ => 0)))] ++ W0) → va_S A0 H0 H1 locs → W p l e R s m args below meth c H1 locs (cells + 1) (slots + k) Q (F0 m (pc + 2) ls (.ref q :: rest))) : W p l e R s m args below meth c H locs cells slots Q (F0 m pc ls (.int i :: rest)) :=
  wNewi hx hb harr hK hP hD hS hA t1 ht1 k hi hk hf hdg (fun q H1 a1 a2 a3 => kk q H1 (wRotP a1) (wRotD a2) a3)
/-- the row of rows ahead, the rows behind -/
theorem wMnaF {W0 : va_W} (hx : p.tables.exec = Jvm.exec) (hb : c.code = cc) (hown : s.vm.findClass own = some m.cls) (hlink : (Cond.classLink own index "[[I").before args s = true) (harr : (Cond.arrayClass .int).before args s = true) (hN : wNest s) (hK : va_K D vwCl tys s) (hP : va_P D vwCl W0 H) (hD : va_D A0 W0) (hS : va_S A0 H0 H locs) (hA : ∀ q, H0.size ≤ q → A0 q) (t0 t1 : Nat) {cI cR : ClassId} (ht : tys[t0]? = some (cR, .array .int)) (ht1 : tys[t1]? = some (cI, .int)) {i j : Int32} (N K : Nat) (hi : i = nI N) (hj : j = nI K) (hN1 : N ≤ 1000) (hK1 : K ≤ 1000) (hf : cells + (1 + N) ≤ R.cells ∧ slots + (N + N * K) ≤ R.slots) (hdg : decode cc pc = .ok (.multianewarray index 2, 4))
    (kk : ∀ (q : Nat) (rr : Nat → Nat) (H1 : Heap), va_P D vwCl ([QA cR q N (RF N rr)] ++ (W0 ++ RW cI rr N K (fun _ _ => 0))) H1 → va_D A0 ([QA cR q N (RF N rr)] ++ (W0 ++ RW cI rr N K (fun _ _ => 0))) → va_S A0 H0 H1 locs → W p l e R s m args below meth c H1 locs (cells + 1 + N) (slots + N + N * K) Q (F0 m (pc + 4) ls (.ref q :: rest))) : W p l e R s m args below meth c H locs cells slots Q (F0 m pc ls (.int j :: .int i :: rest)) :=
  wMna hx hb hown hlink harr hN hK hP hD hS hA t0 t1 ht ht1 N K hi hj hN1 hK1 hf hdg (fun q rr H1 a1 a2 a3 => kk q rr H1
    (wPsub (fun z hz => by
      simp only [List.mem_append] at hz ⊢
      rcases hz with h | h | h
      · exact Or.inr (Or.inl h)
      · exact Or.inl h
      · exact Or.inr (Or.inr h)) a1)
    (wDperm (by
      rw [← List.append_assoc, ← List.append_assoc]
      exact List.perm_append_comm.append_right _) a2) a3)
/-- one of many rows put into a row of rows -/
theorem wAastR {W0 pre suf : va_W} (hx : p.tables.exec = Jvm.exec) (hb : c.code = cc) (hN : wNest s) (hK : va_K D vwCl tys s) (hP : va_P D vwCl W0 H) (hD : va_D A0 W0) (hS : va_S A0 H0 H locs) (q0 t0 t1 : Nat) {a : Nat} {cR cI : ClassId} {N : Nat} {h : Nat → Option Nat} {bb : Nat → Nat} {N2 len : Nat} {v2 : Nat → Nat → Int32} (ha : W0[q0]? = some (a, .inl (cR, N, .inr (.inr (.inr (.inr h)))))) (ht : tys[t0]? = some (cR, .array .int)) (hW : W0 = pre ++ (RW cI bb N2 len v2 ++ suf)) (i2 : Nat) (hi2 : i2 < N2) (ht1 : tys[t1]? = some (cI, .int)) {i : Int32} (k : Nat) (hi : i = nI k) (hk : k < N) (hN2 : N < 2 ^ 31) (hdg : decode cc pc = .ok (.aastore, 1))
    (kk : ∀ (H1 : Heap) (locs1 : List Loc), va_P D vwCl (W0.set q0 (a, .inl (cR, N, .inr (.inr (.inr (.inr (va_up h k (some (bb i2))))))))) H1 → va_D A0 (W0.set q0 (a, .inl (cR, N, .inr (.inr (.inr (.inr (va_up h k (some (bb i2))))))))) → va_S A0 H0 H1 locs1 → W p l e R s m args below meth c H1 locs1 cells slots Q (F0 m (pc + 1) ls rest)) : W p l e R s m args below meth c H locs cells slots Q (F0 m pc ls (.ref (bb i2) :: .int i :: .ref a :: rest)) :=
  wAast hx hb hN hK hP hD hS q0 (pre.length + i2) t0 t1 ha ht (by rw [hW]; exact RW_get hi2) ht1 k hi hk hN2 hdg kk
theorem sendPm {α : Type} (Z Y O B9 : α) (T C M M0 : List α) (hM : List.Sublist M M0) : ∃ mid, List.Sublist mid ([Z] ++ ([Y] ++ ((O :: B9 :: T) ++ (C ++ M0)))) ∧ List.Perm mid (O :: Y :: (T ++ (C ++ (M ++ [Z])))) := by
  refine ⟨[Z] ++ ([Y] ++ ((O :: T) ++ (C ++ M))), ?_, ?_⟩
  · exact (List.Sublist.refl _).append ((List.Sublist.refl _).append (((List.sublist_cons_self B9 T).cons₂ O).append ((List.Sublist.refl _).append hM)))
  · have h1 : List.Perm (Z :: (Y :: O :: (T ++ (C ++ M)))) ((Y :: O :: (T ++ (C ++ M))) ++ [Z]) := (List.perm_append_singleton _ _).symm
    have h2 : (Y :: O :: (T ++ (C ++ M))) ++ [Z] = Y :: O :: (T ++ (C ++ (M ++ [Z]))) := by simp only [List.cons_append, List.append_assoc]
    rw [h2] at h1
    exact h1.trans (List.Perm.swap _ _ _)
theorem sendRW {cI : ClassId} {ga : Nat → Nat} {k q2 : Nat} {G : Nat → Nat → Int32} {x y w : Int32} : RW cI (sGa ga G k q2) (sCnt G k + 1) 3 (sGn G k x y w) = ((sIds G k).map (fun i => ((ga i, .inl (cI, 3, .inl (G i))) : Nat × va_E))) ++ [((q2, .inl (cI, 3, .inl (sRow x y w))) : Nat × va_E)] := by
  unfold RW
  rw [List.range_succ, List.map_append]
  congr 1
  · apply List.ext_getElem?
    intro j
    rw [List.getElem?_map, List.getElem?_map]
    by_cases hj : j < sCnt G k
    · have e : (sIds G k)[j]? = some (sSel G k j) := by
        unfold sSel
        rw [List.getD_eq_getElem?_getD, List.getElem?_eq_getElem hj]
        rfl
      rw [List.getElem?_range hj, e]
      simp only [Option.map_some]
      rw [show sGa ga G k q2 j = ga (sSel G k j) from if_pos hj, show sGn G k x y w j = G (sSel G k j) from if_pos hj]
    · have e : (sIds G k)[j]? = none := List.getElem?_eq_none (by show sCnt G k ≤ j; omega)
      have e2 : (List.range (sCnt G k))[j]? = none := List.getElem?_eq_none (by rw [List.length_range]; omega)
      rw [e, e2]
      rfl
  · show [(sGa ga G k q2 (sCnt G k), _)] = _
    rw [show sGa ga G k q2 (sCnt G k) = q2 from if_neg (Nat.lt_irrefl _), show sGn G k x y w (sCnt G k) = sRow x y w from if_neg (Nat.lt_irrefl _)]
theorem sendE {D : va_G} {cI cR : ClassId} {a ca ga : Nat → Nat} {n k q q2 : Nat} {f : Nat → Int32} {r G : Nat → Nat → Int32} {x y w : Int32} : wEq D ((a 0, (.inr (2, [.int (f 0), .int (f 2), .int (f 1), .int (f 3), .int (f 4), .int (f 5), .int (f 6), .int (f 7), .int (f 8), .ref (a 1), .ref (a 2), .ref (a 3), .ref (a 4), .ref (a 5), .ref q]) : va_E)) :: QA cR q (sCnt G k + 1) (va_up (sMk ga G k k) (sCnt G k) (some q2)) :: (((a 1, .inl (cI, n, .inl (r 0))) :: (a 2, .inl (cI, n, .inl (r 1))) :: (a 3, .inl (cI, n, .inl (r 2))) :: (a 4, .inl (cI, n, .inl (r 3))) :: QA cR (a 5) n (RF n ca) :: ([] : va_W)) ++ (CW cI ca n (r 5) ++ (((sIds G k).map (fun i => ((ga i, .inl (cI, 3, .inl (G i))) : Nat × va_E))) ++ [((q2, .inl (cI, 3, .inl (sRow x y w))) : Nat × va_E)])))) (SC cI cR (va_up a 6 q) ca (sGa ga G k q2) n (sCnt G k + 1) f r ++ (CW cI ca n (r 5) ++ RW cI (sGa ga G k q2) (sCnt G k + 1) 3 (sGn G k x y w))) := by
  rw [sendRW]
  refine wEq.cons (fun _ h => h) (wEq.rowq (fun j hj => ?_) wEq.rf)
  show va_up (sMk ga G k k) (sCnt G k) (some q2) j = RF (sCnt G k + 1) (sGa ga G k q2) j
  rw [RF_in hj]
  by_cases e : j = sCnt G k
  · subst e
    rw [vaUs, show sGa ga G k q2 (sCnt G k) = q2 from if_neg (Nat.lt_irrefl _)]
  · rw [vaUp e, show sMk ga G k k j = some (ga (sSel G k j)) from if_pos (by omega), show sGa ga G k q2 j = ga (sSel G k j) from if_pos (by omega)]
/-- behind a sending, the old row of rows and the glances that are over are let go -/
theorem sendP {D : va_G} {cI cR : ClassId} {a ca ga : Nat → Nat} {n k q q2 : Nat} {f : Nat → Int32} {r G : Nat → Nat → Int32} {x y w : Int32} {H : Heap} (h : va_P D vwCl ([((q2, .inl (cI, 3, .inl (sRow x y w))) : Nat × va_E)] ++ ([QA cR q (sCnt G k + 1) (va_up (sMk ga G k k) (sCnt G k) (some q2))] ++ (((a 0, (.inr (2, [.int (f 0), .int (f 2), .int (f 1), .int (f 3), .int (f 4), .int (f 5), .int (f 6), .int (f 7), .int (f 8), .ref (a 1), .ref (a 2), .ref (a 3), .ref (a 4), .ref (a 5), .ref q]) : va_E)) :: QA cR (a 6) k (RF k ga) :: ((a 1, .inl (cI, n, .inl (r 0))) :: (a 2, .inl (cI, n, .inl (r 1))) :: (a 3, .inl (cI, n, .inl (r 2))) :: (a 4, .inl (cI, n, .inl (r 3))) :: QA cR (a 5) n (RF n ca) :: ([] : va_W))) ++ (CW cI ca n (r 5) ++ RW cI ga k 3 G)))) H) :
    va_P D vwCl (SC cI cR (va_up a 6 q) ca (sGa ga G k q2) n (sCnt G k + 1) f r ++ (CW cI ca n (r 5) ++ RW cI (sGa ga G k q2) (sCnt G k + 1) 3 (sGn G k x y w))) H := by
  obtain ⟨mid, h1, h2⟩ := sendPm ((q2, .inl (cI, 3, .inl (sRow x y w))) : Nat × va_E) (QA cR q (sCnt G k + 1) (va_up (sMk ga G k k) (sCnt G k) (some q2))) (a 0, (.inr (2, [.int (f 0), .int (f 2), .int (f 1), .int (f 3), .int (f 4), .int (f 5), .int (f 6), .int (f 7), .int (f 8), .ref (a 1), .ref (a 2), .ref (a 3), .ref (a 4), .ref (a 5), .ref q]) : va_E)) (QA cR (a 6) k (RF k ga)) ((a 1, .inl (cI, n, .inl (r 0))) :: (a 2, .inl (cI, n, .inl (r 1))) :: (a 3, .inl (cI, n, .inl (r 2))) :: (a 4, .inl (cI, n, .inl (r 3))) :: QA cR (a 5) n (RF n ca) :: ([] : va_W)) (CW cI ca n (r 5)) ((sIds G k).map (fun i => ((ga i, .inl (cI, 3, .inl (G i))) : Nat × va_E))) (RW cI ga k 3 G) (List.filter_sublist.map _)
  exact sendE.P (wPsub (fun z hz => h1.subset (h2.mem_iff.mpr hz)) h)
theorem sendD {A : Nat → Prop} {cI cR : ClassId} {a ca ga : Nat → Nat} {n k q q2 : Nat} {f : Nat → Int32} {r G : Nat → Nat → Int32} {x y w : Int32} (h : va_D A ([((q2, .inl (cI, 3, .inl (sRow x y w))) : Nat × va_E)] ++ ([QA cR q (sCnt G k + 1) (va_up (sMk ga G k k) (sCnt G k) (some q2))] ++ (((a 0, (.inr (2, [.int (f 0), .int (f 2), .int (f 1), .int (f 3), .int (f 4), .int (f 5), .int (f 6), .int (f 7), .int (f 8), .ref (a 1), .ref (a 2), .ref (a 3), .ref (a 4), .ref (a 5), .ref q]) : va_E)) :: QA cR (a 6) k (RF k ga) :: ((a 1, .inl (cI, n, .inl (r 0))) :: (a 2, .inl (cI, n, .inl (r 1))) :: (a 3, .inl (cI, n, .inl (r 2))) :: (a 4, .inl (cI, n, .inl (r 3))) :: QA cR (a 5) n (RF n ca) :: ([] : va_W))) ++ (CW cI ca n (r 5) ++ RW cI ga k 3 G))))) :
    va_D A (SC cI cR (va_up a 6 q) ca (sGa ga G k q2) n (sCnt G k + 1) f r ++ (CW cI ca n (r 5) ++ RW cI (sGa ga G k q2) (sCnt G k + 1) 3 (sGn G k x y w))) := by
  obtain ⟨mid, h1, h2⟩ := sendPm ((q2, .inl (cI, 3, .inl (sRow x y w))) : Nat × va_E) (QA cR q (sCnt G k + 1) (va_up (sMk ga G k k) (sCnt G k) (some q2))) (a 0, (.inr (2, [.int (f 0), .int (f 2), .int (f 1), .int (f 3), .int (f 4), .int (f 5), .int (f 6), .int (f 7), .int (f 8), .ref (a 1), .ref (a 2), .ref (a 3), .ref (a 4), .ref (a 5), .ref q]) : va_E)) (QA cR (a 6) k (RF k ga)) ((a 1, .inl (cI, n, .inl (r 0))) :: (a 2, .inl (cI, n, .inl (r 1))) :: (a 3, .inl (cI, n, .inl (r 2))) :: (a 4, .inl (cI, n, .inl (r 3))) :: QA cR (a 5) n (RF n ca) :: ([] : va_W)) (CW cI ca n (r 5)) ((sIds G k).map (fun i => ((ga i, .inl (cI, 3, .inl (G i))) : Nat × va_E))) (RW cI ga k 3 G) (List.filter_sublist.map _)
  exact (sendE (D := ⟨fun _ => 0, fun _ _ => 0⟩)).D (wDperm h2 (wDsub h1 h))
end SQ
