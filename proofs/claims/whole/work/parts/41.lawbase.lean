/-! The law's helpers: entry of a body with handlers, and a call whose throw is caught here. -/
section LB1
/-- a contract of a method that may stand at a throw: its start holds what throws need -/
abbrev wCw (l : Launch) (y : MethodName) (ws : List Cond) (rm : Room) (D : va_G) (tys : List (ClassId × FieldType)) (av : List Value) (W0 : va_W) (sz mc ms : Nat) (Qf : (Nat → Prop) → Array Value → State → Outcome → State → Prop) : Prop :=
  Met l y ws rm (va_Pc av (wPreX D tys W0 sz)) (Qf (va_A W0 sz)) mc ms (va_A W0 sz)
theorem wMetW {l : Launch} {y : MethodName} {ws ws' : List Cond} {rm : Room} {D : va_G} {tys : List (ClassId × FieldType)} {av : List Value} {W0 : va_W} {sz mc ms : Nat} {Qf : (Nat → Prop) → Array Value → State → Outcome → State → Prop} (cc : ByteArray) (maxL : Nat) (ret : Option FieldType) (hh : List (Nat × Nat × Nat × Nat))
    (hy : plainName y.cls = true) (hw : ws = Cond.codeWith y cc maxL ret hh :: ws') (hle : (lg_sl av).length ≤ maxL)
    (body : ∀ (p : Program) (e : Env) (s : State) (m : MethodId) (args : Array Value) (below : List Frame) (meth : Method) (c : Code) (A : Nat → Prop) (Q : State → Prop) (ls : Array Slot), MQ below (Qf A) args s mc ms A = Q → p.tables.exec = Jvm.exec → c.code = cc → meth.sig.returnType = ret → c.maxLocals = maxL → s.vm.findClass y.cls = some m.cls → meth.locks = false → meth.name = y.name → (∀ w ∈ ws, w.before args s = true) → wNest s → xEnv s → xHp A s s.heap → c.exceptionTable.toList = tableOf hh → va_P D vwCl W0 s.heap → va_K D vwCl tys s → va_D A W0 → (∀ q : Nat, s.heap.size ≤ q → A q) → va_S A s.heap s.heap [] → lv_has ls maxL (lv_args 0 av) → W p l e rm s m args below meth c s.heap [] 0 0 Q (F0 m 0 ls [])) :
    wCw l y ws rm D tys av W0 sz mc ms Qf := by
  refine va_MetW (cc := cc) (maxL := maxL) (ret := ret) (hh := hh) hy hw ?_
  intro p e s m args below meth c s₁ B hml hv
  obtain ⟨rfl, ⟨hsz, hP, hK, hD0, hN⟩, hE, hZ⟩ := hv
  have hts := atoms_spec (ws := ws) B.pre
  have hin := (name_of_methodNamed B.named B.method).1
  have hT := vx_table (x := y) B (hts _ (by rw [hw]; exact List.mem_cons_self))
  subst hsz
  have hD := hD0.self (sz := s.heap.size)
  have hl := lv_entry av (n := maxL) hle
  rw [lg_entry_eq]
  exact body p e s m av.toArray below meth c (va_A W0 s.heap.size) _ _ rfl B.exec B.bytes B.returns hml (findClass_of_methodNamed B.named) B.notSynchronized hin hts hN hE hZ hT hP hK hD (fun q h => Or.inr h) va_S.rf hl
end LB1
section LB2
variable {p : Program} {l : Launch} {e : Env} {R : Room} {s : State} {m : MethodId} {args : Array Value} {below : List Frame} {meth : Method} {c : Code} {H : Heap} {locs : List Loc} {cells slots : Nat} {Q : State → Prop}
variable {y : MethodName} {bytes cc : ByteArray} {maxL nL n index : Nat} {ret : Option FieldType} {ws : List Cond} {rm : Room} {Ts : List Cond} {own C : String} {b : Addr} {As rest st0 : List Value} {pc : Nat} {ls : Array Slot}
variable {D : va_G} {tys tysc : List (ClassId × FieldType)} {A0 : Nat → Prop}
/-- an instance method throws, and a row of this table takes it -/
theorem wVcatch {W0 pre Wc suf : va_W} {E : String} (F : CallFix p m c cc nL s args Ts own) (hM : wCx l y ws rm D tysc (.ref b :: As) Wc H.size E) (hN : wNest s) (hE : xEnv s) (hZ : xHp A0 s s.heap) (hA : ∀ q : Nat, s.heap.size ≤ q → A0 q) (hK : va_K D vwCl tysc s) (hS : va_S A0 s.heap H locs) (hP : va_P D vwCl W0 H) (hD : va_D A0 W0) (hW0 : W0 = pre ++ (Wc ++ suf)) (q0 : Nat) {ci : Nat} {fs : List Value} {r : vw_C} (hc : vwCl[ci]? = some r) (he : Wc[q0]? = some (b, .inr (ci, fs)))
    (cw : CallW R s args own r.1 index y bytes maxL ret ws rm 1 6 n) (hn : As.length = n) (hz : ls.size = nL) (hst : st0 = As.reverse ++ .ref b :: rest) (hr : (rest.map fun v => v.category).sum ≤ 8) (hdg : decode cc pc = .ok (.invokevirtual index, 3)) (hf : cells + 1 ≤ R.cells ∧ slots + 6 ≤ R.slots)
    {hh : List (Nat × Nat × Nat × Nat)} (hT : c.exceptionTable.toList = tableOf hh) (tp : List ExceptionTableEntry) (x : ExceptionTableEntry) (ts : List ExceptionTableEntry) (hsp : tableOf hh = tp ++ x :: ts) (hpass : ∀ z ∈ tp, covers z pc = false ∨ (z.catchType ≠ 0 ∧ ∃ nm : String, (Cond.classLink own z.catchType nm).before args s = true ∧ va_Nc E nm s)) (hxc : covers x pc = true) (h0 : x.catchType ≠ 0) (hlink : (Cond.classLink own x.catchType E).before args s = true) (hcast : va_Nw (.castable E E) s)
    (kk : ∀ (q9 : Addr) (H1 : Heap) (locs1 : List Loc), va_P D vwCl W0 H1 → va_D A0 W0 → va_S A0 s.heap H1 locs1 → W p l e R s m args below meth c H1 locs1 (cells + 1) (slots + 6) Q (F0 m x.handlerPc ls [.ref q9])) : W p l e R s m args below meth c H locs cells slots Q (F0 m pc ls st0) := by
  subst hW0
  have hF := wFree (D := D) hD hS hA
  refine wXall (vx_runV (As := As) (rest := rest) F hM cw (wPreVX hN hE hZ hA hS hK hP hD q0 hc he) rfl hn hz hst (lv_room hr) hdg hf) hS hF (fun q _ h => hF q h) (fun E' ce q9 u t H1 locs1 ht ha hp hB hz hk hS1 hce hv hcl => ?_)
  obtain ⟨rfl, hP1, hD1⟩ := hB
  rw [ht] at hP1
  obtain ⟨a1, a2⟩ := wFrame hP hD hk hF hP1 hD1
  exact vx_catch F.2.2.2.1 tp x ts (hT.trans hsp) hpass hxc h0 hlink (va_Nw.use rfl hcast) hce hv hcl (kk q9 H1 locs1 a1 a2 hS1)
theorem wTp0 {P : ExceptionTableEntry → Prop} : ∀ z ∈ tableOf [], P z := fun z h => absurd h (by simp [tableOf])
theorem wTp1 {P : ExceptionTableEntry → Prop} {a b c d : Nat} (h1 : P ⟨a, b, c, d⟩) : ∀ z ∈ tableOf [(a, b, c, d)], P z := fun z h => by
  simp [tableOf] at h
  subst h
  exact h1
theorem wTp2 {P : ExceptionTableEntry → Prop} {a b c d a' b' c' d' : Nat} (h1 : P ⟨a, b, c, d⟩) (h2 : P ⟨a', b', c', d'⟩) : ∀ z ∈ tableOf [(a, b, c, d), (a', b', c', d')], P z := fun z h => by
  simp [tableOf] at h
  rcases h with h | h <;> subst h
  · exact h1
  · exact h2
end LB2
