/-! Throws: what they need of the start, contracts of calls that throw, and how a caller passes them on or catches them. -/
section XB1
abbrev xI : String := "java/lang/IndexOutOfBoundsException"
abbrev xA : String := "java/lang/IllegalArgumentException"
abbrev xS : String := "java/lang/IllegalStateException"
abbrev xN : List String := ["java/lang/RuntimeException", "java/lang/Exception"]
theorem va_Nw_warmD {x : MethodName} {s U : State} (hW : s.WarmedH U.vm) (hZ : va_Nw (.declares x) s) : va_Nw (.declares x) U := va_tabs rfl (rfl : (s.setVm U.vm).vm = U.vm) (by rw [Cond.declares_setVm hW.alike]; exact hZ)
/-- the constructors above ours -/
def xDe (U : State) : Prop := va_Nw (.declares (Bundle.initS "java/lang/RuntimeException")) U ∧ va_Nw (.declares (Bundle.initS "java/lang/Exception")) U ∧ va_Nw (.declares (Bundle.initS Bundle.tN)) U
abbrev xB (E : String) : List Cond := [Cond.castable E E, .declares (Bundle.initS "java/lang/RuntimeException"), .declares (Bundle.initS "java/lang/Exception"), .declares (Bundle.initS Bundle.tN)]
/-- the texts, and what may be cast to what -/
def xEnv (U : State) : Prop := (∃ sa, vk_R RX1 149 "there is no such guest" sa U) ∧ (∃ sa, vk_R RX1 156 "the number is too small or too great" sa U) ∧ (∃ sa, vk_R RX1 159 "both guests are the same" sa U) ∧ (∃ sa, vk_R RX1 163 "such a glance is under way" sa U) ∧ va_Nw (.castable xI xI) U ∧ va_Nw (.castable xA xA) U ∧ va_Nw (.castable xS xS) U ∧ va_Nc xA xI U ∧ va_Nc xS xI U ∧ va_Nc xS xA U ∧ xDe U
theorem xEnv.warm {s U : State} (hW : s.WarmedH U.vm) (h : xEnv s) : xEnv U := by
  obtain ⟨⟨a1, h1⟩, ⟨a2, h2⟩, ⟨a3, h3⟩, ⟨a4, h4⟩, h5, h6, h7, h8, h9, h10, h11, h12, h13⟩ := h
  exact ⟨⟨a1, h1.warm hW⟩, ⟨a2, h2.warm hW⟩, ⟨a3, h3.warm hW⟩, ⟨a4, h4.warm hW⟩, h5.warmC hW, h6.warmC hW, h7.warmC hW, h8.moved hW.alike, h9.moved hW.alike, h10.moved hW.alike, va_Nw_warmD hW h11, va_Nw_warmD hW h12, va_Nw_warmD hW h13⟩
theorem xEnv.call {U : State} {g : JFrame} {mk : MethodId} {a : Array Value} (h : xEnv U) : xEnv (U.calling g mk a) := by
  obtain ⟨⟨a1, h1⟩, ⟨a2, h2⟩, ⟨a3, h3⟩, ⟨a4, h4⟩, h5, h6, h7, h8, h9, h10, h11, h12, h13⟩ := h
  exact ⟨⟨a1, vk_R.same (u := U) rfl h1⟩, ⟨a2, vk_R.same (u := U) rfl h2⟩, ⟨a3, vk_R.same (u := U) rfl h3⟩, ⟨a4, vk_R.same (u := U) rfl h4⟩, va_Nw.same (u := U) rfl rfl h5, va_Nw.same (u := U) rfl rfl h6, va_Nw.same (u := U) rfl rfl h7, va_Nc.moved (u := U) (Vm.Alike.refl U.vm) h8, va_Nc.moved (u := U) (Vm.Alike.refl U.vm) h9, va_Nc.moved (u := U) (Vm.Alike.refl U.vm) h10, va_Nw.same (u := U) rfl rfl h11, va_Nw.same (u := U) rfl rfl h12, va_Nw.same (u := U) rfl rfl h13⟩
/-- the two statics of Throwable, outside what the method may change -/
def xHp (A : Nat → Prop) (U : State) (H : Heap) : Prop := vx_Zq Bundle.tN "UNASSIGNED_STACK" Bundle.steD A U H ∧ vx_Zq Bundle.tN "SUPPRESSED_SENTINEL" Bundle.listD A U H
theorem xHp.moved {A : Nat → Prop} {u U : State} {H : Heap} (hvm : u.vm.Alike U.vm) (h : xHp A u H) : xHp A U H := ⟨h.1.moved hvm, h.2.moved hvm⟩
theorem xHp.kept {A : Nat → Prop} {U : State} {H H1 : Heap} (h : xHp A U H) (hq : ∀ a : Nat, a < H.size → ¬ A a → H1[a]? = H[a]?) : xHp A U H1 := ⟨h.1.kept hq, h.2.kept hq⟩
theorem xHp.narrow {A B : Nat → Prop} {U : State} {H : Heap} (h : xHp A U H) (hAB : ∀ q, B q → A q) : xHp B U H := ⟨h.1.narrow hAB, h.2.narrow hAB⟩
def wPreX (D : va_G) (tys : List (ClassId × FieldType)) (W0 : va_W) (sz : Nat) (U : State) : Prop := wPre D tys W0 sz U ∧ xEnv U ∧ xHp (va_A W0 sz) U U.heap
theorem wBlindX {D : va_G} {tys : List (ClassId × FieldType)} {av : List Value} {W0 : va_W} {sz : Nat} : FrameBlind (va_Pc av (wPreX D tys W0 sz)) := fun a U g mk q => by
  obtain ⟨e, h1, h2, h3⟩ := q
  have b := wBlind (D := D) (tys := tys) (av := av) (W0 := W0) (sz := sz) a U g mk ⟨e, h1⟩
  exact ⟨b.1, b.2, h2.call, xHp.moved (u := U) (U := U.calling g mk a) (Vm.Alike.refl U.vm) h3⟩
/-- what has been thrown: of class E, the world as it was -/
abbrev wXP (D : va_G) (W0 : va_W) (E : String) (A : Nat → Prop) : String → State → State → Prop := vx_X (fun _ : Unit => True) (fun E' _ t => E' = E ∧ va_P D vwCl W0 t.heap ∧ va_D A W0) A
/-- a call that throws, always -/
abbrev wCx (l : Launch) (y : MethodName) (ws : List Cond) (rm : Room) (D : va_G) (tys : List (ClassId × FieldType)) (av : List Value) (W0 : va_W) (sz : Nat) (E : String) : Prop :=
  vx_Met l y ws rm (va_Pc av (wPreX D tys W0 sz)) (fun _ _ _ _ => False) (wXP D W0 E (va_A W0 sz)) 1 6 (va_A W0 sz)
theorem wMetX {l : Launch} {y : MethodName} {ws ws' : List Cond} {rm : Room} {D : va_G} {tys : List (ClassId × FieldType)} {av : List Value} {W0 : va_W} {sz : Nat} {E : String} (cc : ByteArray) (maxL : Nat) (ret : Option FieldType)
    (hy : plainName y.cls = true) (hw : ws = Cond.code y cc maxL ret :: ws') (hle : (lg_sl av).length ≤ maxL)
    (body : ∀ (p : Program) (e : Env) (s : State) (m : MethodId) (args : Array Value) (below : List Frame) (meth : Method) (c : Code) (A : Nat → Prop) (Q : State → Prop) (ls : Array Slot), vx_MQ below (fun _ _ _ _ => False) (wXP D W0 E A) args s 1 6 A = Q → p.tables.exec = Jvm.exec → c.code = cc → meth.sig.returnType = ret → c.maxLocals = maxL → s.vm.findClass y.cls = some m.cls → meth.locks = false → meth.name = y.name → (∀ w ∈ ws, w.before args s = true) → wNest s → xEnv s → xHp A s s.heap → (∀ x ∈ c.exceptionTable.toList, False) → va_P D vwCl W0 s.heap → va_K D vwCl tys s → va_D A W0 → (∀ q : Nat, s.heap.size ≤ q → A q) → va_S A s.heap s.heap [] → lv_has ls maxL (lv_args 0 av) → W p l e rm s m args below meth c s.heap [] 0 0 Q (F0 m 0 ls [])) :
    wCx l y ws rm D tys av W0 sz E := by
  refine vx_ofW (cc := cc) (maxL := maxL) (ret := ret) hy hw ?_
  intro p e s m args below meth c s₁ B hml hno hv
  obtain ⟨rfl, ⟨hsz, hP, hK, hD0, hN⟩, hE, hZ⟩ := hv
  have hts := atoms_spec (ws := ws) B.pre
  have hin := (name_of_methodNamed B.named B.method).1
  subst hsz
  have hD := hD0.self (sz := s.heap.size)
  have hl := lv_entry av (n := maxL) hle
  rw [lg_entry_eq]
  exact body p e s m av.toArray below meth c (va_A W0 s.heap.size) _ _ rfl B.exec B.bytes B.returns hml (findClass_of_methodNamed B.named) B.notSynchronized hin hts hN hE hZ hno hP hK hD (fun q h => Or.inr h) va_S.rf hl
end XB1
section XB2
variable {p : Program} {l : Launch} {e : Env} {R : Room} {s : State} {m : MethodId} {args : Array Value} {below : List Frame} {meth : Method} {c : Code} {H : Heap} {locs : List Loc} {cells slots : Nat} {Q : State → Prop}
variable {y : MethodName} {bytes cc : ByteArray} {maxL nL n index : Nat} {ret : Option FieldType} {ws : List Cond} {rm : Room} {Ts : List Cond} {own C : String} {b : Addr} {As rest st0 : List Value} {pc : Nat} {ls : Array Slot}
variable {D : va_G} {tys tysc : List (ClassId × FieldType)} {A0 : Nat → Prop} {H0 : Heap}
theorem xI_n : ∀ w ∈ (vx_atS RX1 151 xI xN).filter (fun w => !goodWord w), w ∈ xB xI := by decide +kernel
theorem xA_n : ∀ w ∈ (vx_atS RX1 158 xA xN).filter (fun w => !goodWord w), w ∈ xB xA := by decide +kernel
theorem xS_n : ∀ w ∈ (vx_atS RX1 165 xS xN).filter (fun w => !goodWord w), w ∈ xB xS := by decide +kernel
theorem xI_g : ∀ w ∈ Cond.classLink RX1 147 xI :: Cond.initialized xI :: vx_atS RX1 151 xI xN, vx_ot w = true := by decide +kernel
theorem xA_g : ∀ w ∈ Cond.classLink RX1 154 xA :: Cond.initialized xA :: vx_atS RX1 158 xA xN, vx_ot w = true := by decide +kernel
theorem xS_g : ∀ w ∈ Cond.classLink RX1 161 xS :: Cond.initialized xS :: vx_atS RX1 165 xS xN, vx_ot w = true := by decide +kernel
theorem xN_fit : ∀ n ∈ xN, Bundle.fit n = true := by decide +kernel
/-- throw new E("text") -/
theorem wThrow {W0 : va_W} {E text : String} {ik is ic : Nat} (hQ : vx_MQ below (fun _ _ _ _ => False) (wXP D W0 E A0) args s 1 6 A0 = Q) (hx : p.tables.exec = Jvm.exec) (hb : c.code = cc) (hlt : l.stackTraces = false) (hown : s.vm.findClass RX1 = some m.cls) (hml : c.maxLocals = nL) (hlocks : meth.locks = false) (hfit : Bundle.fit E = true) (hk : (Cond.classLink RX1 ik E).before args s = true) (hini : (Cond.initialized E).before args s = true) (hstr : ∃ sa, vk_R RX1 is text sa s)
    (h1 : ∀ w ∈ (vx_atS RX1 ic E xN).filter goodWord, w.before args s = true) (hn : ∀ w ∈ (vx_atS RX1 ic E xN).filter (fun w => !goodWord w), w ∈ xB E) (hc : va_Nw (.castable E E) s) (hde : xDe s) (hg : ∀ w ∈ Cond.classLink RX1 ik E :: Cond.initialized E :: vx_atS RX1 ic E xN, vx_ot w = true)
    (hZ : xHp A0 s s.heap) (hno : ∀ x ∈ c.exceptionTable.toList, False) (hP : va_P D vwCl W0 H) (hD : va_D A0 W0) (hS : va_S A0 s.heap H locs) (hz : ls.size = nL) (d0 : decode cc pc = .ok (.new ik, 3)) (d3 : decode cc (pc + 3) = .ok (.dup, 1)) (d4 : decode cc (pc + 4) = .ok (.ldc is, 2)) (d6 : decode cc (pc + 6) = .ok (.invokespecial ic, 3)) (d9 : decode cc (pc + 9) = .ok (.athrow, 1))
    (hF : 5 < R.frames) (hL : 82 ≤ R.locals) (hC : 1 ≤ R.cells) (hSl : 6 ≤ R.slots) : W p l e R s m args below meth c H locs 0 0 Q (F0 m pc ls []) := by
  rw [← hQ]
  obtain ⟨sa, hstr⟩ := hstr
  refine vx_throwS (names := xN) (rest := []) hx hb hlt hown hfit xN_fit hk hini hstr (vx_hat h1 hn (vx_c (va_Nw.use rfl hc) (vx_c (va_Nw.use rfl hde.1) (vx_c (va_Nw.use rfl hde.2.1) (vx_c (va_Nw.use rfl hde.2.2) vx_n))))) hg hZ.1 hZ.2 hS (hz.trans hml.symm) d0 d3 d4 d6 d9 (fun x hx => (hno x hx).elim) hF hL (by omega) (by omega) hlocks ?_ hS.2.2 (by decide) (by decide)
  intro t ha hsz hk
  refine ⟨(), trivial, ⟨rfl, hP.kept (fun k q hq => hk q.1 (hP k q hq).lt), hD⟩, ⟨Nat.le_trans hS.1 hsz, fun q h2 h3 => ?_⟩⟩
  rw [hk q (Nat.lt_of_lt_of_le h2 hS.1)]
  exact hS.2.1 q h2 h3
/-- behind a call that throws -/
theorem wXall {AX : Nat → Prop} {free : Addr → Prop} {mc ms : Nat} {SX : Type} {px : SX → Prop} {BX : String → SX → State → Prop} (hr : vx_Run p l e R s m args below meth c H locs cells slots mc ms (F0 m pc ls st0) rest (fun _ _ _ => False) (vx_X px BX AX) free) (hS : va_S A0 H0 H locs) (hf : ∀ q, free q → A0 q) (hAX : ∀ q, q < H.size → AX q → A0 q)
    (kx : ∀ (E : String) (ce : Cell) (q9 : Addr) (u : SX) (t : State) (H1 : Heap) (locs1 : List Loc), t.heap = H1 → s.vm.Alike t.vm → px u → BX E u t → H.size ≤ H1.size → (∀ q : Nat, q < H.size → ¬ AX q → H1[q]? = H[q]?) → va_S A0 H0 H1 locs1 → H1[q9]? = some ce → ce.vm = .none → s.vm.findClass E = some ce.cls → vx_W p l e R s m args below meth c H1 locs1 (cells + mc) (slots + ms) Q (F0 m pc ls rest) q9) : W p l e R s m args below meth c H locs cells slots Q (F0 m pc ls st0) := by
  intro T hT X
  rcases hr T hT X with ⟨v, st₀, t, T', L, h0, X', hL, e1, e2, hq, st⟩ | ⟨q, st₀, t, T', L, E, ce, h0, X', hL, e1, e2, ⟨u, hp, hb, hF⟩, hce, hcv, hcl, st⟩
  · exact hq.elim
  · obtain ⟨k1, k2, k3⟩ := vx_keep h0 e1 hS hAX hf hL hF
    obtain ⟨t2, a1, b1⟩ := kx E ce q u t T'.heap (locs ++ L) e1.symm (by rw [← e2]; exact X'.warmed.alike) hp hb k1 k2 k3 (by rw [e1]; exact hce) hcv hcl T' rfl X'
    exact ⟨t2, st.trans a1, b1⟩
theorem wPreSX {pre Wc suf : va_W} (hN : wNest s) (hE : xEnv s) (hZ : xHp A0 s s.heap) (hA : ∀ q : Nat, s.heap.size ≤ q → A0 q) (hS : va_S A0 s.heap H locs) (hK : va_K D vwCl tys s) (hP : va_P D vwCl (pre ++ (Wc ++ suf)) H) (hD : va_D A0 (pre ++ (Wc ++ suf))) {av : List Value} : PreS s H (va_Pc av (wPreX D tys Wc H.size)) av :=
  ⟨wBlindX, fun U hU hW => ⟨rfl, ⟨by rw [hU], by rw [hU]; exact wPc hP, va_K.moved hW.alike hK, wDc hD, va_Nw.warmM hW hN⟩, hE.warm hW, by rw [hU]; exact ((hZ.kept (fun a h1 h2 => hS.2.1 a h1 h2)).narrow (wFree (D := D) hD hS hA)).moved hW.alike⟩⟩
theorem wPreVX {pre Wc suf : va_W} (hN : wNest s) (hE : xEnv s) (hZ : xHp A0 s s.heap) (hA : ∀ q : Nat, s.heap.size ≤ q → A0 q) (hS : va_S A0 s.heap H locs) (hK : va_K D vwCl tys s) (hP : va_P D vwCl (pre ++ (Wc ++ suf)) H) (hD : va_D A0 (pre ++ (Wc ++ suf))) (q0 : Nat) {ci : Nat} {fs : List Value} {r : vw_C} (hc : vwCl[ci]? = some r) (he : Wc[q0]? = some (b, .inr (ci, fs))) : PreV s H r.1 b (va_Pc (.ref b :: As) (wPreX D tys Wc H.size)) As :=
  ⟨wBlindX, va_recv hK (wPc hP) hc he, (wPreSX hN hE hZ hA hS hK hP hD).2⟩
/-- a callee throws, and nothing here catches it -/
theorem wPass {W0 pre Wc suf : va_W} {E : String} {mc ms : Nat} (hQ : vx_MQ below (fun _ _ _ _ => False) (wXP D W0 E A0) args s 1 6 A0 = Q) (hno : ∀ x ∈ c.exceptionTable.toList, False) (hlocks : meth.locks = false) (hmc : mc = 1) (hms : ms = 6) (hr : vx_Run p l e R s m args below meth c H locs 0 0 mc ms (F0 m pc ls st0) rest (fun _ _ _ => False) (wXP D Wc E (va_A Wc H.size)) (va_A Wc H.size)) (hA : ∀ q : Nat, s.heap.size ≤ q → A0 q) (hS : va_S A0 s.heap H locs) (hP : va_P D vwCl W0 H) (hD : va_D A0 W0) (hW0 : W0 = pre ++ (Wc ++ suf)) : W p l e R s m args below meth c H locs 0 0 Q (F0 m pc ls st0) := by
  subst hW0 hmc hms
  have hF := wFree (D := D) hD hS hA
  refine wXall hr hS hF (fun q _ h => hF q h) (fun E' ce q9 u t H1 locs1 ht ha hp hB hz hk hS1 hce hv hcl => ?_)
  obtain ⟨rfl, hP1, hD1⟩ := hB
  rw [ht] at hP1
  obtain ⟨a1, a2⟩ := wFrame hP hD hk hF hP1 hD1
  rw [← hQ]
  refine vx_out (fun x hx => (hno x hx).elim) hlocks hce hv hcl (fun t2 ht2 ha2 => ⟨(), trivial, ⟨rfl, by rw [ht2]; exact a1, a2⟩, ⟨by rw [ht2]; exact hS1.1, fun q h1 h2 => by rw [ht2]; exact hS1.2.1 q h1 h2⟩⟩) hS1.2.2 (by decide) (by decide)
theorem wPV {W0 pre Wc suf : va_W} {E : String} (hQ : vx_MQ below (fun _ _ _ _ => False) (wXP D W0 E A0) args s 1 6 A0 = Q) (hno : ∀ x ∈ c.exceptionTable.toList, False) (hlocks : meth.locks = false) (F : CallFix p m c cc nL s args Ts own) (hM : wCx l y ws rm D tysc (.ref b :: As) Wc H.size E) (hN : wNest s) (hE : xEnv s) (hZ : xHp A0 s s.heap) (hA : ∀ q : Nat, s.heap.size ≤ q → A0 q) (hK : va_K D vwCl tysc s) (hS : va_S A0 s.heap H locs) (hP : va_P D vwCl W0 H) (hD : va_D A0 W0) (hW0 : W0 = pre ++ (Wc ++ suf)) (q0 : Nat) {ci : Nat} {fs : List Value} {r : vw_C} (hc : vwCl[ci]? = some r) (he : Wc[q0]? = some (b, .inr (ci, fs)))
    (cw : CallW R s args own r.1 index y bytes maxL ret ws rm 1 6 n) (hn : As.length = n) (hz : ls.size = nL) (hst : st0 = As.reverse ++ .ref b :: rest) (hr : (rest.map fun v => v.category).sum ≤ 8) (hdg : decode cc pc = .ok (.invokevirtual index, 3)) (hf : 1 ≤ R.cells ∧ 6 ≤ R.slots) : W p l e R s m args below meth c H locs 0 0 Q (F0 m pc ls st0) := by
  have hW1 := hW0
  subst hW0
  exact wPass (mc := 1) (ms := 6) hQ hno hlocks rfl rfl (vx_runV (As := As) (rest := rest) F hM cw (wPreVX hN hE hZ hA hS hK hP hD q0 hc he) rfl hn hz hst (lv_room hr) hdg (by omega)) hA hS hP hD rfl
theorem wPS {W0 pre Wc suf : va_W} {E : String} (hQ : vx_MQ below (fun _ _ _ _ => False) (wXP D W0 E A0) args s 1 6 A0 = Q) (hno : ∀ x ∈ c.exceptionTable.toList, False) (hlocks : meth.locks = false) (F : CallFix p m c cc nL s args Ts own) (hM : wCx l y ws rm D tysc As Wc H.size E) (hN : wNest s) (hE : xEnv s) (hZ : xHp A0 s s.heap) (hA : ∀ q : Nat, s.heap.size ≤ q → A0 q) (hK : va_K D vwCl tysc s) (hS : va_S A0 s.heap H locs) (hP : va_P D vwCl W0 H) (hD : va_D A0 W0) (hW0 : W0 = pre ++ (Wc ++ suf))
    (cw : CallB R s args own index y bytes maxL ret ws rm 1 6 n ∧ (Cond.static y).before args s = true) (hn : As.length = n) (hz : ls.size = nL) (hst : st0 = As.reverse ++ rest) (hr : (rest.map fun v => v.category).sum ≤ 8) (hdg : decode cc pc = .ok (.invokestatic index, 3)) (hf : 1 ≤ R.cells ∧ 6 ≤ R.slots) : W p l e R s m args below meth c H locs 0 0 Q (F0 m pc ls st0) := by
  subst hW0
  exact wPass (mc := 1) (ms := 6) hQ hno hlocks rfl rfl (vx_runS (As := As) (rest := rest) F hM cw (wPreSX hN hE hZ hA hS hK hP hD) rfl hn hz hst (lv_room hr) hdg (by omega)) hA hS hP hD rfl
end XB2
