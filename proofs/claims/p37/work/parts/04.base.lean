/-! Own base: contracts over a world that is a list of cells, calls with the frame rule in one row, ends in one row. -/
section BA
/-- the one link across the nest: Dinner's call of pairOf; and rows of rows -/
def wNest (U : State) : Prop := va_Nw (.methodLinkNest RX0 84 yX1_pairOf RX1) U ∧ va_AOA .int U
theorem wNest.same {u U : State} (h : u.vm = U.vm) (hN : wNest u) : wNest U := ⟨va_Nw.same rfl h hN.1, va_AOA.moved (by rw [h]; exact Vm.Alike.refl U.vm) hN.2⟩
theorem wNest.warm {s U : State} (hW : s.WarmedH U.vm) (hN : wNest s) : wNest U := ⟨va_Nw.warmM hW hN.1, va_AOA.moved hW.alike hN.2⟩
/-- a method's world at its start -/
def wPre (D : va_G) (tys : List (ClassId × FieldType)) (W0 : va_W) (sz : Nat) (U : State) : Prop := U.heap.size = sz ∧ va_P D vwCl W0 U.heap ∧ va_K D vwCl tys U ∧ va_D (fun _ => True) W0 ∧ wNest U
/-- a method's world behind it -/
def wPost {S : Type} (D : va_G) (Wf : S → va_W) (A : Nat → Prop) (u : S) (t : State) : Prop := va_P D vwCl (Wf u) t.heap ∧ va_D A (Wf u)
abbrev wCt (l : Launch) (y : MethodName) (ws : List Cond) (rm : Room) (D : va_G) (tys : List (ClassId × FieldType)) (av : List Value) (W0 : va_W) (sz mc ms : Nat) (Qf : (Nat → Prop) → Array Value → State → Outcome → State → Prop) : Prop :=
  Met l y ws rm (va_Pc av (wPre D tys W0 sz)) (Qf (va_A W0 sz)) mc ms (va_A W0 sz)
abbrev wQi {S : Type} (D : va_G) (post : Int32 → S → Prop) (Wf : S → va_W) : (Nat → Prop) → Array Value → State → Outcome → State → Prop := fun A => va_Qi post (wPost D Wf A) A
abbrev wQl {S : Type} (D : va_G) (post : Int64 → S → Prop) (Wf : S → va_W) : (Nat → Prop) → Array Value → State → Outcome → State → Prop := fun A => va_Ql post (wPost D Wf A) A
abbrev wQd {S : Type} (D : va_G) (post : UInt64 → S → Prop) (Wf : S → va_W) : (Nat → Prop) → Array Value → State → Outcome → State → Prop := fun A => va_Qd post (wPost D Wf A) A
abbrev wQv {S : Type} (D : va_G) (post : S → Prop) (Wf : S → va_W) : (Nat → Prop) → Array Value → State → Outcome → State → Prop := fun A => va_Qv post (wPost D Wf A) A
theorem wBlind {D : va_G} {tys : List (ClassId × FieldType)} {av : List Value} {W0 : va_W} {sz : Nat} : FrameBlind (va_Pc av (wPre D tys W0 sz)) := fun a U g mk q => by
  obtain ⟨e, hz, hP, hK, hD, hN⟩ := q
  exact ⟨e, hz, hP, va_K.moved (u := U) (U := U.calling g mk a) (Vm.Alike.refl U.vm) hK, hD, wNest.same rfl hN⟩
/-- a contract by a walk -/
theorem wMet {l : Launch} {y : MethodName} {ws ws' : List Cond} {rm : Room} {D : va_G} {tys : List (ClassId × FieldType)} {av : List Value} {W0 : va_W} {sz mc ms : Nat} {Qf : (Nat → Prop) → Array Value → State → Outcome → State → Prop} (cc : ByteArray) (maxL : Nat) (ret : Option FieldType)
    (hy : plainName y.cls = true) (hw : ws = Cond.code y cc maxL ret :: ws') (hle : (lg_sl av).length ≤ maxL)
    (body : ∀ (p : Program) (e : Env) (s : State) (m : MethodId) (args : Array Value) (below : List Frame) (meth : Method) (c : Code) (A : Nat → Prop) (Q : State → Prop) (ls : Array Slot), MQ below (Qf A) args s mc ms A = Q → p.tables.exec = Jvm.exec → c.code = cc → meth.sig.returnType = ret → c.maxLocals = maxL → s.vm.findClass y.cls = some m.cls → meth.locks = false → meth.name = y.name → (∀ w ∈ ws, w.before args s = true) → wNest s → va_P D vwCl W0 s.heap → va_K D vwCl tys s → va_D A W0 → (∀ q : Nat, s.heap.size ≤ q → A q) → va_S A s.heap s.heap [] → lv_has ls maxL (lv_args 0 av) → W p l e rm s m args below meth c s.heap [] 0 0 Q (F0 m 0 ls [])) :
    wCt l y ws rm D tys av W0 sz mc ms Qf := by
  refine Met.ofW (cc := cc) (maxL := maxL) (ret := ret) hy hw ?_
  intro p e s m args below meth c s₁ B hml hv
  obtain ⟨rfl, hsz, hP, hK, hD0, hN⟩ := hv
  have hts := atoms_spec (ws := ws) B.pre
  have hin := (name_of_methodNamed B.named B.method).1
  subst hsz
  have hD := hD0.self (sz := s.heap.size)
  have hl := lv_entry av (n := maxL) hle
  rw [lg_entry_eq]
  exact body p e s m av.toArray below meth c (va_A W0 s.heap.size) _ _ rfl B.exec B.bytes B.returns hml (findClass_of_methodNamed B.named) B.notSynchronized hin hts hN hP hK hD (fun q h => Or.inr h) va_S.rf hl
/-- the cells of a callee's world, in the middle of the caller's -/
theorem wFrame {A0 : Nat → Prop} {D : va_G} {pre Wc suf Wn : va_W} {H H1 : Heap} (hP : va_P D vwCl (pre ++ (Wc ++ suf)) H) (hD : va_D A0 (pre ++ (Wc ++ suf))) (hk : ∀ q : Nat, q < H.size → ¬ va_A Wc H.size q → H1[q]? = H[q]?) (hF : ∀ q, va_A Wc H.size q → A0 q) (hP1 : va_P D vwCl Wn H1) (hD1 : va_D (va_A Wc H.size) Wn) :
    va_P D vwCl (pre ++ (Wn ++ suf)) H1 ∧ va_D A0 (pre ++ (Wn ++ suf)) := by
  have key : ∀ (i : Nat) (q : Nat × va_E), (pre ++ (Wn ++ suf))[i]? = some q → (∃ j, (pre ++ (Wc ++ suf))[j]? = some q ∧ ((j < pre.length ∧ i = j) ∨ (pre.length + Wc.length ≤ j ∧ i + Wc.length = j + Wn.length))) ∨ (∃ j, Wn[j]? = some q ∧ i = pre.length + j) := by
    intro i q hq
    rcases Nat.lt_or_ge i pre.length with h | h
    · rw [List.getElem?_append_left h] at hq
      exact Or.inl ⟨i, by rw [List.getElem?_append_left h]; exact hq, Or.inl ⟨h, rfl⟩⟩
    · rw [List.getElem?_append_right h] at hq
      rcases Nat.lt_or_ge (i - pre.length) Wn.length with h2 | h2
      · rw [List.getElem?_append_left h2] at hq
        exact Or.inr ⟨i - pre.length, hq, by omega⟩
      · rw [List.getElem?_append_right h2] at hq
        refine Or.inl ⟨pre.length + (Wc.length + (i - pre.length - Wn.length)), ?_, Or.inr ⟨by omega, by omega⟩⟩
        rw [List.getElem?_append_right (by omega), List.getElem?_append_right (by omega)]
        rw [show pre.length + (Wc.length + (i - pre.length - Wn.length)) - pre.length - Wc.length = i - pre.length - Wn.length by omega]
        exact hq
  have apart : ∀ (j : Nat) (q : Nat × va_E), (pre ++ (Wc ++ suf))[j]? = some q → (j < pre.length ∨ pre.length + Wc.length ≤ j) → q.1 < H.size ∧ ¬ va_A Wc H.size q.1 := by
    intro j q hq hj
    have hl := (hP j q hq).lt
    refine ⟨hl, fun h => ?_⟩
    rcases h with ⟨k2, e, h⟩ | h
    · have hk2 : k2 < Wc.length := (List.getElem?_eq_some_iff.mp h).1
      have h4 : (pre ++ (Wc ++ suf))[pre.length + k2]? = some (q.1, e) := by
        rw [List.getElem?_append_right (by omega), List.getElem?_append_left (by omega)]
        rw [show pre.length + k2 - pre.length = k2 by omega]
        exact h
      have hij := hD.1 j (pre.length + k2) q (q.1, e) hq h4 rfl
      omega
    · omega
  refine ⟨fun i q hq => ?_, ⟨fun i i' q q' hq hq' he => ?_, fun i q hq => ?_⟩⟩
  · rcases key i q hq with ⟨j, hj, hx⟩ | ⟨j, hj, -⟩
    · obtain ⟨g1, g2⟩ := apart j q hj (by omega)
      exact (hP j q hj).kept (hk q.1 g1 g2)
    · exact hP1 j q hj
  · rcases key i q hq with ⟨j, hj, hx⟩ | ⟨j, hj, hx⟩ <;> rcases key i' q' hq' with ⟨j', hj', hx'⟩ | ⟨j', hj', hx'⟩
    · have := hD.1 j j' q q' hj hj' he
      omega
    · exact absurd (by rw [he]; exact hD1.2 j' q' hj') (apart j q hj (by omega)).2
    · exact absurd (by rw [← he]; exact hD1.2 j q hj) (apart j' q' hj' (by omega)).2
    · have := hD1.1 j j' q q' hj hj' he
      omega
  · rcases key i q hq with ⟨j, hj, -⟩ | ⟨j, hj, -⟩
    · exact hD.2 j q hj
    · exact hF q.1 (hD1.2 j q hj)
theorem wFree {A0 : Nat → Prop} {D : va_G} {pre Wc suf : va_W} {H0 H : Heap} {locs : List Loc} (hD : va_D A0 (pre ++ (Wc ++ suf))) (hS : va_S A0 H0 H locs) (hA : ∀ q : Nat, H0.size ≤ q → A0 q) : ∀ q, va_A Wc H.size q → A0 q := by
  intro q h
  rcases h with ⟨k, e, h⟩ | h
  · have hk2 : k < Wc.length := (List.getElem?_eq_some_iff.mp h).1
    exact hD.2 (pre.length + k) (q, e) (by
      rw [List.getElem?_append_right (by omega), List.getElem?_append_left (by omega)]
      rw [show pre.length + k - pre.length = k by omega]
      exact h)
  · exact hA q (Nat.le_trans hS.1 h)
theorem wDc {A0 : Nat → Prop} {pre Wc suf : va_W} (hD : va_D A0 (pre ++ (Wc ++ suf))) : va_D (fun _ => True) Wc := by
  have key : ∀ (k : Nat) (q : Nat × va_E), Wc[k]? = some q → (pre ++ (Wc ++ suf))[pre.length + k]? = some q := by
    intro k q h
    have hk2 : k < Wc.length := (List.getElem?_eq_some_iff.mp h).1
    rw [List.getElem?_append_right (by omega), List.getElem?_append_left (by omega)]
    rw [show pre.length + k - pre.length = k by omega]
    exact h
  refine ⟨fun i j p q hp hq he => ?_, fun _ _ _ => trivial⟩
  have := hD.1 _ _ p q (key i p hp) (key j q hq) he
  omega
theorem wPc {D : va_G} {pre Wc suf : va_W} {H : Heap} (hP : va_P D vwCl (pre ++ (Wc ++ suf)) H) : va_P D vwCl Wc H := by
  intro k q h
  have hk2 : k < Wc.length := (List.getElem?_eq_some_iff.mp h).1
  refine hP (pre.length + k) q ?_
  rw [List.getElem?_append_right (by omega), List.getElem?_append_left (by omega)]
  rw [show pre.length + k - pre.length = k by omega]
  exact h
/-- two rows that agree below their length are the same cell -/
theorem wCell {cA : ClassId} {N : Nat} {g g' : Nat → Int32} (h : ∀ j, j < N → g j = g' j) : vp_cell cA (N, .inl g) = vp_cell cA (N, .inl g') := by
  have e : (Array.ofFn (n := N) fun j => Value.int (g j.val)) = Array.ofFn (n := N) fun j => Value.int (g' j.val) := congrArg Array.ofFn (funext fun j => by rw [h j.val j.isLt])
  show arrV cA N (fun j => Value.int (g j)) = arrV cA N (fun j => Value.int (g' j))
  unfold arrV
  rw [e]
/-- worlds whose cells are the same, one by one -/
def wEq (D : va_G) (ws ws' : va_W) : Prop := (∀ (k : Nat) (q' : Nat × va_E), ws'[k]? = some q' → ∃ q, ws[k]? = some q ∧ q.1 = q'.1 ∧ ∀ H, va_at D vwCl q H → va_at D vwCl q' H)
theorem wEq.P {D : va_G} {ws ws' : va_W} {H : Heap} (h : wEq D ws ws') (hP : va_P D vwCl ws H) : va_P D vwCl ws' H := fun k q' hk => by
  obtain ⟨q, h1, -, h3⟩ := h k q' hk
  exact h3 H (hP k q h1)
theorem wEq.D {D : va_G} {ws ws' : va_W} {A : Nat → Prop} (h : wEq D ws ws') (hD : va_D A ws) : va_D A ws' := by
  refine ⟨fun i j p q hp hq he => ?_, fun k q hk => ?_⟩
  · obtain ⟨p0, a1, a2, -⟩ := h i p hp
    obtain ⟨q0, b1, b2, -⟩ := h j q hq
    exact hD.1 i j p0 q0 a1 b1 (by rw [a2, b2, he])
  · obtain ⟨q0, b1, b2, -⟩ := h k q hk
    rw [← b2]
    exact hD.2 k q0 b1
theorem wEq.nil {D : va_G} : wEq D [] [] := fun k q h => by simp at h
theorem wEq.cons {D : va_G} {ws ws' : va_W} {a : Nat} {e e' : va_E} (he : ∀ H, va_at D vwCl (a, e) H → va_at D vwCl (a, e') H) (h : wEq D ws ws') : wEq D ((a, e) :: ws) ((a, e') :: ws') := by
  intro k q' hk
  match k with
  | 0 => cases hk; exact ⟨(a, e), rfl, rfl, he⟩
  | k + 1 => exact h k q' hk
theorem wEq.row {D : va_G} {ws ws' : va_W} {a : Nat} {cA : ClassId} {N : Nat} {g g' : Nat → Int32} (hg : ∀ j, j < N → g j = g' j) (h : wEq D ws ws') : wEq D ((a, .inl (cA, N, .inl g)) :: ws) ((a, .inl (cA, N, .inl g')) :: ws') := wEq.cons (fun H h1 => by
  have h2 : H[a]? = some (vp_cell cA (N, .inl g)) := h1
  rw [wCell hg] at h2
  exact h2) h
theorem wEq.rf {D : va_G} {ws : va_W} : wEq D ws ws := fun k q h => ⟨q, h, rfl, fun _ h => h⟩
theorem wTys {D : va_G} {cl : List vw_C} {tys : List (ClassId × FieldType)} {U : State} (h : va_K D cl tys U) {i j : Nat} {c1 c2 : ClassId} (h1 : tys[i]? = some (c1, .int)) (h2 : tys[j]? = some (c2, .int)) : c1 = c2 := by
  have a := (h.2 i _ h1).2
  have b := (h.2 j _ h2).2
  have a' : U.vm.findClass ("[" ++ (FieldType.int).toString) = some c1 := a
  have b' : U.vm.findClass ("[" ++ (FieldType.int).toString) = some c2 := b
  exact Option.some.inj (a'.symm.trans b')
end BA
section BC
variable {p : Program} {l : Launch} {e : Env} {R : Room} {s : State} {m : MethodId} {args : Array Value} {below : List Frame} {meth : Method} {c : Code} {H : Heap} {locs : List Loc} {cells slots : Nat} {Q : State → Prop}
variable {y : MethodName} {bytes cc : ByteArray} {maxL nL mc ms n index : Nat} {ret : Option FieldType} {ws : List Cond} {rm : Room} {Ts : List Cond} {own C host : String} {b : Addr} {As rest st0 : List Value} {pc : Nat} {ls : Array Slot}
variable {D : va_G} {tys tysc : List (ClassId × FieldType)} {A0 : Nat → Prop} {H0 : Heap} {S : Type} {Wf : S → va_W}
/-- what a caller has at hand of its world -/
def wAt (D : va_G) (W0 : va_W) (A0 : Nat → Prop) (H0 H : Heap) (locs : List Loc) : Prop := va_P D vwCl W0 H ∧ va_D A0 W0 ∧ va_S A0 H0 H locs
theorem wPreS {tys : List (ClassId × FieldType)} {pre Wc suf : va_W} (hN : wNest s) (hK : va_K D vwCl tys s) (hP : va_P D vwCl (pre ++ (Wc ++ suf)) H) (hD : va_D A0 (pre ++ (Wc ++ suf))) {av : List Value} : PreS s H (va_Pc av (wPre D tys Wc H.size)) av :=
  ⟨wBlind, fun U hU hW => ⟨rfl, by rw [hU], by rw [hU]; exact wPc hP, va_K.moved hW.alike hK, wDc hD, wNest.warm hW hN⟩⟩
theorem wPreV {tys : List (ClassId × FieldType)} {pre Wc suf : va_W} (hN : wNest s) (hK : va_K D vwCl tys s) (hP : va_P D vwCl (pre ++ (Wc ++ suf)) H) (hD : va_D A0 (pre ++ (Wc ++ suf))) (q0 : Nat) {ci : Nat} {fs : List Value} {r : vw_C} (hc : vwCl[ci]? = some r) (he : Wc[q0]? = some (b, .inr (ci, fs))) : PreV s H r.1 b (va_Pc (.ref b :: As) (wPre D tys Wc H.size)) As :=
  ⟨wBlind, va_recv hK (wPc hP) hc he, fun U hU hW => ⟨rfl, by rw [hU], by rw [hU]; exact wPc hP, va_K.moved hW.alike hK, wDc hD, wNest.warm hW hN⟩⟩
/-- behind a call, an int: the world, with the callee's cells new -/
theorem wKi {post : Int32 → S → Prop} {pre Wc suf : va_W} {a : Array Value} (hr : va_Run p l e R s m args below meth c H locs cells slots 0 0 (F0 m pc ls st0) rest (wQi D post Wf (va_A Wc H.size) a) (va_A Wc H.size)) (hP : va_P D vwCl (pre ++ (Wc ++ suf)) H) (hD : va_D A0 (pre ++ (Wc ++ suf))) (hS : va_S A0 H0 H locs) (hA : ∀ q : Nat, H0.size ≤ q → A0 q)
    (kk : ∀ (r : Int32) (u : S) (H1 : Heap) (locs1 : List Loc), post r u → va_P D vwCl (pre ++ (Wf u ++ suf)) H1 → va_D A0 (pre ++ (Wf u ++ suf)) → va_S A0 H0 H1 locs1 → W p l e R s m args below meth c H1 locs1 cells slots Q (F0 m (pc + 3) ls (.int r :: rest))) : W p l e R s m args below meth c H locs cells slots Q (F0 m pc ls st0) := by
  have hF := wFree (D := D) hD hS hA
  refine va_calli hr hS (fun q _ h => hF q h) hF (fun r u t H1 locs1 ht hvm hw hB hz1 hk1 hS1 => ?_)
  obtain ⟨hP1, hD1⟩ := hB
  rw [ht] at hP1
  obtain ⟨a1, a2⟩ := wFrame hP hD hk1 hF hP1 hD1
  exact kk r u H1 locs1 hw a1 a2 hS1
theorem wKl {post : Int64 → S → Prop} {pre Wc suf : va_W} {a : Array Value} (hr : va_Run p l e R s m args below meth c H locs cells slots 0 0 (F0 m pc ls st0) rest (wQl D post Wf (va_A Wc H.size) a) (va_A Wc H.size)) (hP : va_P D vwCl (pre ++ (Wc ++ suf)) H) (hD : va_D A0 (pre ++ (Wc ++ suf))) (hS : va_S A0 H0 H locs) (hA : ∀ q : Nat, H0.size ≤ q → A0 q)
    (kk : ∀ (r : Int64) (u : S) (H1 : Heap) (locs1 : List Loc), post r u → va_P D vwCl (pre ++ (Wf u ++ suf)) H1 → va_D A0 (pre ++ (Wf u ++ suf)) → va_S A0 H0 H1 locs1 → W p l e R s m args below meth c H1 locs1 cells slots Q (F0 m (pc + 3) ls (.long r :: rest))) : W p l e R s m args below meth c H locs cells slots Q (F0 m pc ls st0) := by
  have hF := wFree (D := D) hD hS hA
  refine va_calll hr hS (fun q _ h => hF q h) hF (fun r u t H1 locs1 ht hvm hw hB hz1 hk1 hS1 => ?_)
  obtain ⟨hP1, hD1⟩ := hB
  rw [ht] at hP1
  obtain ⟨a1, a2⟩ := wFrame hP hD hk1 hF hP1 hD1
  exact kk r u H1 locs1 hw a1 a2 hS1
theorem wKv {post : S → Prop} {pre Wc suf : va_W} {a : Array Value} (hr : va_Run p l e R s m args below meth c H locs cells slots 0 0 (F0 m pc ls st0) rest (wQv D post Wf (va_A Wc H.size) a) (va_A Wc H.size)) (hP : va_P D vwCl (pre ++ (Wc ++ suf)) H) (hD : va_D A0 (pre ++ (Wc ++ suf))) (hS : va_S A0 H0 H locs) (hA : ∀ q : Nat, H0.size ≤ q → A0 q)
    (kk : ∀ (u : S) (H1 : Heap) (locs1 : List Loc), post u → va_P D vwCl (pre ++ (Wf u ++ suf)) H1 → va_D A0 (pre ++ (Wf u ++ suf)) → va_S A0 H0 H1 locs1 → W p l e R s m args below meth c H1 locs1 cells slots Q (F0 m (pc + 3) ls rest)) : W p l e R s m args below meth c H locs cells slots Q (F0 m pc ls st0) := by
  have hF := wFree (D := D) hD hS hA
  refine va_callv hr hS (fun q _ h => hF q h) hF (fun u t H1 locs1 ht hvm hw hB hz1 hk1 hS1 => ?_)
  obtain ⟨hP1, hD1⟩ := hB
  rw [ht] at hP1
  obtain ⟨a1, a2⟩ := wFrame hP hD hk1 hF hP1 hD1
  exact kk u H1 locs1 hw a1 a2 hS1
/-- calls: V an instance method, S a static one, N a static one of a nest mate; i, l, v: what it answers -/
theorem wCVi {post : Int32 → S → Prop} {W0 pre Wc suf : va_W} (F : CallFix p m c cc nL s args Ts own) (hM : wCt l y ws rm D tysc (.ref b :: As) Wc H.size 0 0 (wQi D post Wf)) (hN : wNest s) (hA : ∀ q : Nat, H0.size ≤ q → A0 q) (hK : va_K D vwCl tysc s) (hS : va_S A0 H0 H locs) (hP : va_P D vwCl W0 H) (hD : va_D A0 W0) (hW0 : W0 = pre ++ (Wc ++ suf)) (q0 : Nat) {ci : Nat} {fs : List Value} {r : vw_C} (hc : vwCl[ci]? = some r) (he : Wc[q0]? = some (b, .inr (ci, fs)))
    (cw : CallW R s args own r.1 index y bytes maxL ret ws rm 0 0 n) (hn : As.length = n) (hz : ls.size = nL) (hst : st0 = As.reverse ++ .ref b :: rest) (hr : (rest.map fun v => v.category).sum ≤ 8) (hdg : decode cc pc = .ok (.invokevirtual index, 3)) (hf : cells ≤ R.cells ∧ slots ≤ R.slots)
    (kk : ∀ (r : Int32) (u : S) (H1 : Heap) (locs1 : List Loc), post r u → va_P D vwCl (pre ++ (Wf u ++ suf)) H1 → va_D A0 (pre ++ (Wf u ++ suf)) → va_S A0 H0 H1 locs1 → W p l e R s m args below meth c H1 locs1 cells slots Q (F0 m (pc + 3) ls (.int r :: rest))) : W p l e R s m args below meth c H locs cells slots Q (F0 m pc ls st0) := by
  subst hW0
  exact wKi (va_runV (As := As) (rest := rest) F hM cw (wPreV hN hK hP hD q0 hc he) rfl hn hz hst (lv_room hr) hdg hf) hP hD hS hA kk
theorem wCVl {post : Int64 → S → Prop} {W0 pre Wc suf : va_W} (F : CallFix p m c cc nL s args Ts own) (hM : wCt l y ws rm D tysc (.ref b :: As) Wc H.size 0 0 (wQl D post Wf)) (hN : wNest s) (hA : ∀ q : Nat, H0.size ≤ q → A0 q) (hK : va_K D vwCl tysc s) (hS : va_S A0 H0 H locs) (hP : va_P D vwCl W0 H) (hD : va_D A0 W0) (hW0 : W0 = pre ++ (Wc ++ suf)) (q0 : Nat) {ci : Nat} {fs : List Value} {r : vw_C} (hc : vwCl[ci]? = some r) (he : Wc[q0]? = some (b, .inr (ci, fs)))
    (cw : CallW R s args own r.1 index y bytes maxL ret ws rm 0 0 n) (hn : As.length = n) (hz : ls.size = nL) (hst : st0 = As.reverse ++ .ref b :: rest) (hr : (rest.map fun v => v.category).sum ≤ 8) (hdg : decode cc pc = .ok (.invokevirtual index, 3)) (hf : cells ≤ R.cells ∧ slots ≤ R.slots)
    (kk : ∀ (r : Int64) (u : S) (H1 : Heap) (locs1 : List Loc), post r u → va_P D vwCl (pre ++ (Wf u ++ suf)) H1 → va_D A0 (pre ++ (Wf u ++ suf)) → va_S A0 H0 H1 locs1 → W p l e R s m args below meth c H1 locs1 cells slots Q (F0 m (pc + 3) ls (.long r :: rest))) : W p l e R s m args below meth c H locs cells slots Q (F0 m pc ls st0) := by
  subst hW0
  exact wKl (va_runV (As := As) (rest := rest) F hM cw (wPreV hN hK hP hD q0 hc he) rfl hn hz hst (lv_room hr) hdg hf) hP hD hS hA kk
theorem wCVv {post : S → Prop} {W0 pre Wc suf : va_W} (F : CallFix p m c cc nL s args Ts own) (hM : wCt l y ws rm D tysc (.ref b :: As) Wc H.size 0 0 (wQv D post Wf)) (hN : wNest s) (hA : ∀ q : Nat, H0.size ≤ q → A0 q) (hK : va_K D vwCl tysc s) (hS : va_S A0 H0 H locs) (hP : va_P D vwCl W0 H) (hD : va_D A0 W0) (hW0 : W0 = pre ++ (Wc ++ suf)) (q0 : Nat) {ci : Nat} {fs : List Value} {r : vw_C} (hc : vwCl[ci]? = some r) (he : Wc[q0]? = some (b, .inr (ci, fs)))
    (cw : CallW R s args own r.1 index y bytes maxL ret ws rm 0 0 n) (hn : As.length = n) (hz : ls.size = nL) (hst : st0 = As.reverse ++ .ref b :: rest) (hr : (rest.map fun v => v.category).sum ≤ 8) (hdg : decode cc pc = .ok (.invokevirtual index, 3)) (hf : cells ≤ R.cells ∧ slots ≤ R.slots)
    (kk : ∀ (u : S) (H1 : Heap) (locs1 : List Loc), post u → va_P D vwCl (pre ++ (Wf u ++ suf)) H1 → va_D A0 (pre ++ (Wf u ++ suf)) → va_S A0 H0 H1 locs1 → W p l e R s m args below meth c H1 locs1 cells slots Q (F0 m (pc + 3) ls rest)) : W p l e R s m args below meth c H locs cells slots Q (F0 m pc ls st0) := by
  subst hW0
  exact wKv (va_runV (As := As) (rest := rest) F hM cw (wPreV hN hK hP hD q0 hc he) rfl hn hz hst (lv_room hr) hdg hf) hP hD hS hA kk
theorem wCSi {post : Int32 → S → Prop} {W0 pre Wc suf : va_W} (F : CallFix p m c cc nL s args Ts own) (hM : wCt l y ws rm D tysc As Wc H.size 0 0 (wQi D post Wf)) (hN : wNest s) (hA : ∀ q : Nat, H0.size ≤ q → A0 q) (hK : va_K D vwCl tysc s) (hS : va_S A0 H0 H locs) (hP : va_P D vwCl W0 H) (hD : va_D A0 W0) (hW0 : W0 = pre ++ (Wc ++ suf))
    (cw : CallB R s args own index y bytes maxL ret ws rm 0 0 n ∧ (Cond.static y).before args s = true) (hn : As.length = n) (hz : ls.size = nL) (hst : st0 = As.reverse ++ rest) (hr : (rest.map fun v => v.category).sum ≤ 8) (hdg : decode cc pc = .ok (.invokestatic index, 3)) (hf : cells ≤ R.cells ∧ slots ≤ R.slots)
    (kk : ∀ (r : Int32) (u : S) (H1 : Heap) (locs1 : List Loc), post r u → va_P D vwCl (pre ++ (Wf u ++ suf)) H1 → va_D A0 (pre ++ (Wf u ++ suf)) → va_S A0 H0 H1 locs1 → W p l e R s m args below meth c H1 locs1 cells slots Q (F0 m (pc + 3) ls (.int r :: rest))) : W p l e R s m args below meth c H locs cells slots Q (F0 m pc ls st0) := by
  subst hW0
  exact wKi (va_runS (As := As) (rest := rest) F hM cw (wPreS hN hK hP hD) rfl hn hz hst (lv_room hr) hdg hf) hP hD hS hA kk
theorem wCSl {post : Int64 → S → Prop} {W0 pre Wc suf : va_W} (F : CallFix p m c cc nL s args Ts own) (hM : wCt l y ws rm D tysc As Wc H.size 0 0 (wQl D post Wf)) (hN : wNest s) (hA : ∀ q : Nat, H0.size ≤ q → A0 q) (hK : va_K D vwCl tysc s) (hS : va_S A0 H0 H locs) (hP : va_P D vwCl W0 H) (hD : va_D A0 W0) (hW0 : W0 = pre ++ (Wc ++ suf))
    (cw : CallB R s args own index y bytes maxL ret ws rm 0 0 n ∧ (Cond.static y).before args s = true) (hn : As.length = n) (hz : ls.size = nL) (hst : st0 = As.reverse ++ rest) (hr : (rest.map fun v => v.category).sum ≤ 8) (hdg : decode cc pc = .ok (.invokestatic index, 3)) (hf : cells ≤ R.cells ∧ slots ≤ R.slots)
    (kk : ∀ (r : Int64) (u : S) (H1 : Heap) (locs1 : List Loc), post r u → va_P D vwCl (pre ++ (Wf u ++ suf)) H1 → va_D A0 (pre ++ (Wf u ++ suf)) → va_S A0 H0 H1 locs1 → W p l e R s m args below meth c H1 locs1 cells slots Q (F0 m (pc + 3) ls (.long r :: rest))) : W p l e R s m args below meth c H locs cells slots Q (F0 m pc ls st0) := by
  subst hW0
  exact wKl (va_runS (As := As) (rest := rest) F hM cw (wPreS hN hK hP hD) rfl hn hz hst (lv_room hr) hdg hf) hP hD hS hA kk
theorem wCSv {post : S → Prop} {W0 pre Wc suf : va_W} (F : CallFix p m c cc nL s args Ts own) (hM : wCt l y ws rm D tysc As Wc H.size 0 0 (wQv D post Wf)) (hN : wNest s) (hA : ∀ q : Nat, H0.size ≤ q → A0 q) (hK : va_K D vwCl tysc s) (hS : va_S A0 H0 H locs) (hP : va_P D vwCl W0 H) (hD : va_D A0 W0) (hW0 : W0 = pre ++ (Wc ++ suf))
    (cw : CallB R s args own index y bytes maxL ret ws rm 0 0 n ∧ (Cond.static y).before args s = true) (hn : As.length = n) (hz : ls.size = nL) (hst : st0 = As.reverse ++ rest) (hr : (rest.map fun v => v.category).sum ≤ 8) (hdg : decode cc pc = .ok (.invokestatic index, 3)) (hf : cells ≤ R.cells ∧ slots ≤ R.slots)
    (kk : ∀ (u : S) (H1 : Heap) (locs1 : List Loc), post u → va_P D vwCl (pre ++ (Wf u ++ suf)) H1 → va_D A0 (pre ++ (Wf u ++ suf)) → va_S A0 H0 H1 locs1 → W p l e R s m args below meth c H1 locs1 cells slots Q (F0 m (pc + 3) ls rest)) : W p l e R s m args below meth c H locs cells slots Q (F0 m pc ls st0) := by
  subst hW0
  exact wKv (va_runS (As := As) (rest := rest) F hM cw (wPreS hN hK hP hD) rfl hn hz hst (lv_room hr) hdg hf) hP hD hS hA kk
theorem wCNi {post : Int32 → S → Prop} {W0 pre Wc suf : va_W} (F : CallFix p m c cc nL s args Ts own) (hM : wCt l y ws rm D tysc As Wc H.size 0 0 (wQi D post Wf)) (hN : wNest s) (hA : ∀ q : Nat, H0.size ≤ q → A0 q) (hK : va_K D vwCl tysc s) (hS : va_S A0 H0 H locs) (hP : va_P D vwCl W0 H) (hD : va_D A0 W0) (hW0 : W0 = pre ++ (Wc ++ suf))
    (cw : va_CN R s args own index y host bytes maxL ret ws rm 0 0 n ∧ (Cond.static y).before args s = true ∧ True) (hn : As.length = n) (hz : ls.size = nL) (hst : st0 = As.reverse ++ rest) (hr : (rest.map fun v => v.category).sum ≤ 8) (hdg : decode cc pc = .ok (.invokestatic index, 3)) (hf : cells ≤ R.cells ∧ slots ≤ R.slots)
    (kk : ∀ (r : Int32) (u : S) (H1 : Heap) (locs1 : List Loc), post r u → va_P D vwCl (pre ++ (Wf u ++ suf)) H1 → va_D A0 (pre ++ (Wf u ++ suf)) → va_S A0 H0 H1 locs1 → W p l e R s m args below meth c H1 locs1 cells slots Q (F0 m (pc + 3) ls (.int r :: rest))) : W p l e R s m args below meth c H locs cells slots Q (F0 m pc ls st0) := by
  subst hW0
  exact wKi (va_runSN (As := As) (rest := rest) F hM cw (wPreS hN hK hP hD) rfl hn hz hst (lv_room hr) hdg hf) hP hD hS hA kk
/-- ends -/
theorem wRi {post : Int32 → S → Prop} {W1 : va_W} (hQ : MQ below (wQi D post Wf A0) args s cells slots A0 = Q) (hx : p.tables.exec = Jvm.exec) (hb : c.code = cc) (hr : meth.sig.returnType = some .int) (hlocks : meth.locks = false) (hP : va_P D vwCl W1 H) (hD : va_D A0 W1) (hS : va_S A0 s.heap H locs) (hdg : decode cc pc = .ok (.ireturn, 1)) {v : Int32} (u : S) (hu : post v u) (hW : W1 = Wf u) : W p l e R s m args below meth c H locs cells slots Q (F0 m pc ls [.int v]) := by
  subst hW
  rw [← hQ]
  exact W.iret hx hb hr (fun t ht hW => ⟨⟨v, u, rfl, hu, by rw [ht]; exact hP, hD⟩, hS.F ht⟩) hS.2.2 hdg hlocks
theorem wRz {post : Int32 → S → Prop} {W1 : va_W} (hQ : MQ below (wQi D post Wf A0) args s cells slots A0 = Q) (hx : p.tables.exec = Jvm.exec) (hb : c.code = cc) (hr : meth.sig.returnType = some .boolean) (hlocks : meth.locks = false) (hP : va_P D vwCl W1 H) (hD : va_D A0 W1) (hS : va_S A0 s.heap H locs) (hdg : decode cc pc = .ok (.ireturn, 1)) {v : Int32} (hn : narrow .boolean (.int v) = .int v) (u : S) (hu : post v u) (hW : W1 = Wf u) : W p l e R s m args below meth c H locs cells slots Q (F0 m pc ls [.int v]) := by
  subst hW
  rw [← hQ]
  exact W.zret hx hb hr hn (fun t ht hW => ⟨⟨v, u, rfl, hu, by rw [ht]; exact hP, hD⟩, hS.F ht⟩) hS.2.2 hdg hlocks
theorem wRl {post : Int64 → S → Prop} {W1 : va_W} (hQ : MQ below (wQl D post Wf A0) args s cells slots A0 = Q) (hx : p.tables.exec = Jvm.exec) (hb : c.code = cc) (hr : meth.sig.returnType = some .long) (hlocks : meth.locks = false) (hP : va_P D vwCl W1 H) (hD : va_D A0 W1) (hS : va_S A0 s.heap H locs) (hdg : decode cc pc = .ok (.lreturn, 1)) {v : Int64} (u : S) (hu : post v u) (hW : W1 = Wf u) : W p l e R s m args below meth c H locs cells slots Q (F0 m pc ls [.long v]) := by
  subst hW
  rw [← hQ]
  exact W.lret hx hb hr (fun t ht hW => ⟨⟨v, u, rfl, hu, by rw [ht]; exact hP, hD⟩, hS.F ht⟩) hS.2.2 hdg hlocks
theorem wRv {post : S → Prop} {W1 : va_W} (hQ : MQ below (wQv D post Wf A0) args s cells slots A0 = Q) (hx : p.tables.exec = Jvm.exec) (hb : c.code = cc) (hr : meth.sig.returnType = none) (hlocks : meth.locks = false) (hP : va_P D vwCl W1 H) (hD : va_D A0 W1) (hS : va_S A0 s.heap H locs) (hdg : decode cc pc = .ok (.return_, 1)) (u : S) (hu : post u) (hW : W1 = Wf u) : W p l e R s m args below meth c H locs cells slots Q (F0 m pc ls []) := by
  subst hW
  rw [← hQ]
  exact W.vret hx hb hr (fun t ht hW => ⟨⟨u, rfl, hu, by rw [ht]; exact hP, hD⟩, hS.F ht⟩) hS.2.2 hdg hlocks
/-- arrays of ints at a small natural -/
theorem wIald {W0 : va_W} (hx : p.tables.exec = Jvm.exec) (hb : c.code = cc) (hK : va_K D vwCl tys s) (hP : va_P D vwCl W0 H) (q0 t0 : Nat) {a : Nat} {cA : ClassId} {N : Nat} {f : Nat → Int32} (ha : W0[q0]? = some (a, .inl (cA, N, .inl f))) (ht : tys[t0]? = some (cA, .int)) {i : Int32} (k : Nat) (hi : i = nI k) (hk : k < N) (hN : N < 2 ^ 31) (hdg : decode cc pc = .ok (.iaload, 1))
    (kk : W p l e R s m args below meth c H locs cells slots Q (F0 m (pc + 1) ls (.int (f k) :: rest))) : W p l e R s m args below meth c H locs cells slots Q (F0 m pc ls (.int i :: .ref a :: rest)) := by
  subst hi
  refine va_iald hx hb hK hP q0 t0 ha ht (vp_in_nI hk hN) hdg ?_
  rw [nI_clamp (Nat.lt_trans hk hN)]
  exact kk
theorem wIast {A : Nat → Prop} {W0 : va_W} (hx : p.tables.exec = Jvm.exec) (hb : c.code = cc) (hK : va_K D vwCl tys s) (hP : va_P D vwCl W0 H) (hD : va_D A W0) (hS : va_S A H0 H locs) (q0 t0 : Nat) {a : Nat} {cA : ClassId} {N : Nat} {f : Nat → Int32} (ha : W0[q0]? = some (a, .inl (cA, N, .inl f))) (ht : tys[t0]? = some (cA, .int)) {i x : Int32} (k : Nat) (hi : i = nI k) (hk : k < N) (hN : N < 2 ^ 31) (hdg : decode cc pc = .ok (.iastore, 1))
    (kk : ∀ (H1 : Heap) (locs1 : List Loc), va_P D vwCl (W0.set q0 (a, .inl (cA, N, .inl (upd f k x)))) H1 → va_D A (W0.set q0 (a, .inl (cA, N, .inl (upd f k x)))) → va_S A H0 H1 locs1 → W p l e R s m args below meth c H1 locs1 cells slots Q (F0 m (pc + 1) ls rest)) : W p l e R s m args below meth c H locs cells slots Q (F0 m pc ls (.int x :: .int i :: .ref a :: rest)) := by
  subst hi
  refine va_iast hx hb hK hP hD hS q0 t0 ha ht (vp_in_nI hk hN) hdg ?_
  rw [nI_clamp (Nat.lt_trans hk hN)]
  exact kk
/-- a computed int gets the name that one wants -/
theorem wTop {x z : Int32} (h : x = z) (k : W p l e R s m args below meth c H locs cells slots Q (F0 m pc ls (.int z :: rest))) : W p l e R s m args below meth c H locs cells slots Q (F0 m pc ls (.int x :: rest)) := h ▸ k
theorem wTop2 {x z : Int32} {v : Value} (h : x = z) (k : W p l e R s m args below meth c H locs cells slots Q (F0 m pc ls (v :: .int z :: rest))) : W p l e R s m args below meth c H locs cells slots Q (F0 m pc ls (v :: .int x :: rest)) := h ▸ k
end BC
