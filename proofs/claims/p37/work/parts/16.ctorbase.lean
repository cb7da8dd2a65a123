/-! Constructors: new cells and the row type's class come with the world. -/
section CB1
def wA8 (p0 p1 p2 p3 p4 p5 p6 p7 : Nat) : Nat → Nat := fun k => match k with
  | 0 => p0 | 1 => p1 | 2 => p2 | 3 => p3 | 4 => p4 | 5 => p5 | 6 => p6 | _ => p7
def dF0 : Nat → Int32 := dBeginF (upd (fun _ => 0) 2 5) 4
def dR0 : Nat → Nat → Int32 := dBeginR (fun _ _ => 0)
def wPostK {S : Type} (D : va_G) (Wf : S → va_W) (tf : S → List (ClassId × FieldType)) (A : Nat → Prop) (u : S) (t : State) : Prop := va_P D vwCl (Wf u) t.heap ∧ va_D A (Wf u) ∧ va_K D vwCl (tf u) t
abbrev wQk {S : Type} (D : va_G) (post : S → Prop) (Wf : S → va_W) (tf : S → List (ClassId × FieldType)) : (Nat → Prop) → Array Value → State → Outcome → State → Prop := fun A => va_Qv post (wPostK D Wf tf A) A
theorem wTy2 {D : va_G} {cl : List vw_C} {c1 c2 : ClassId} {U : State} (h : va_K D cl [(c1, .int)] U) (h2 : va_K D cl [(c2, .int)] U) : c1 = c2 := by
  have a' : U.vm.findClass ("[" ++ (FieldType.int).toString) = some c1 := (h.2 0 _ rfl).2
  have b' : U.vm.findClass ("[" ++ (FieldType.int).toString) = some c2 := (h2.2 0 _ rfl).2
  exact Option.some.inj (a'.symm.trans b')
end CB1
section CB2
variable {p : Program} {l : Launch} {e : Env} {R : Room} {s : State} {m : MethodId} {args : Array Value} {below : List Frame} {meth : Method} {c : Code} {H : Heap} {locs : List Loc} {cells slots : Nat} {Q : State → Prop}
variable {y : MethodName} {bytes cc : ByteArray} {maxL nL mc ms n index : Nat} {ret : Option FieldType} {ws : List Cond} {rm : Room} {Ts : List Cond} {own C : String} {b : Addr} {As rest st0 : List Value} {pc : Nat} {ls : Array Slot}
variable {D : va_G} {tys tysc : List (ClassId × FieldType)} {A0 : Nat → Prop} {H0 : Heap} {S : Type} {Wf : S → va_W} {tf : S → List (ClassId × FieldType)}
theorem wCIk {post : S → Prop} {W0 pre Wc suf : va_W} (F : CallFix p m c cc nL s args Ts own) (hM : wCt l y ws rm D tysc (.ref b :: As) Wc H.size mc ms (wQk D post Wf tf)) (hN : wNest s) (hA : ∀ q : Nat, H0.size ≤ q → A0 q) (hK : va_K D vwCl tysc s) (hS : va_S A0 H0 H locs) (hP : va_P D vwCl W0 H) (hD : va_D A0 W0) (hW0 : W0 = pre ++ (Wc ++ suf))
    (cw : CallB R s args own index y bytes maxL none ws rm mc ms n ∧ y.name = "<init>" ∧ (Cond.instanceMethod y).before args s = true) (hn : As.length = n) (hz : ls.size = nL) (hst : st0 = As.reverse ++ .ref b :: rest) (hr : (rest.map fun v => v.category).sum ≤ 8) (hdg : decode cc pc = .ok (.invokespecial index, 3)) (hf : cells + mc ≤ R.cells ∧ slots + ms ≤ R.slots)
    (kk : ∀ (u : S) (H1 : Heap) (locs1 : List Loc), post u → va_K D vwCl (tf u) s → va_P D vwCl (pre ++ (Wf u ++ suf)) H1 → va_D A0 (pre ++ (Wf u ++ suf)) → va_S A0 H0 H1 locs1 → W p l e R s m args below meth c H1 locs1 (cells + mc) (slots + ms) Q (F0 m (pc + 3) ls rest)) : W p l e R s m args below meth c H locs cells slots Q (F0 m pc ls st0) := by
  subst hW0
  have hF := wFree (D := D) hD hS hA
  refine va_callv (va_runI (As := As) (rest := rest) F hM cw (wPreS hN hK hP hD) rfl hn hz hst (lv_room hr) hdg hf) hS (fun q _ h => hF q h) hF (fun u t H1 locs1 ht hvm hw hB hz1 hk1 hS1 => ?_)
  obtain ⟨hP1, hD1, hK1⟩ := hB
  rw [ht] at hP1
  obtain ⟨a1, a2⟩ := wFrame hP hD hk1 hF hP1 hD1
  exact kk u H1 locs1 hw (va_K.moved hvm.symm hK1) a1 a2 hS1
theorem wRk {post : S → Prop} {W1 : va_W} {ty1 : List (ClassId × FieldType)} (hQ : MQ below (wQk D post Wf tf A0) args s cells slots A0 = Q) (hx : p.tables.exec = Jvm.exec) (hb : c.code = cc) (hr : meth.sig.returnType = none) (hlocks : meth.locks = false) (hK : va_K D vwCl ty1 s) (hP : va_P D vwCl W1 H) (hD : va_D A0 W1) (hS : va_S A0 s.heap H locs) (hdg : decode cc pc = .ok (.return_, 1)) (u : S) (hu : post u) (hW : W1 = Wf u) (hT : ty1 = tf u) : W p l e R s m args below meth c H locs cells slots Q (F0 m pc ls []) := by
  subst hW hT
  rw [← hQ]
  exact W.vret hx hb hr (fun t ht hW => ⟨⟨u, rfl, hu, by rw [ht]; exact hP, hD, va_K.moved hW.alike hK⟩, hS.F ht⟩) hS.2.2 hdg hlocks
end CB2
