/-! The law's own rows: its script, its calls, its ends. -/
section LL1
abbrev lwA (s : State) : Nat → Prop := fun q => s.heap.size ≤ q
/-- what stands through the whole of the law -/
def lawE (p : Program) (l : Launch) (s : State) (m : MethodId) (args : Array Value) (c : Code) (D : va_G) (cI cJ : ClassId) (sb LN : Nat) (xs : Nat → Int32) : Prop :=
  (p.tables.exec = Jvm.exec ∧ c.code = cL_law ∧ c.maxLocals = 9 ∧ s.vm.findClass RL = some m.cls ∧ (∀ w ∈ wsL_law, w.before args s = true)) ∧ wNest s ∧ xEnv s ∧ xHp (lwA s) s s.heap ∧ va_K D vwCl [(cI, .int), (cJ, .long)] s ∧ va_X sb LN xs s s.heap ∧ sb < s.heap.size ∧ l.stackTraces = false ∧ LN < 2 ^ 31
theorem lcmp_self (x : Int64) : lg_cmp x x = 0 := by
  simp [lg_cmp]
theorem dcmp_self' {a : UInt64} (h : vf_n64 a) : Op.cmpValue (FP.dcmp a a) CmpOp.l = 0 := by
  have hm : FP.Core.val64 a ≠ .nan := by
    refine (FP.Core.ne_nan a).mpr ?_
    have h2 : a &&& 0x7fffffffffffffff ≤ 0x7ff0000000000000 := h
    rw [UInt64.le_iff_toNat_le, UInt64.toNat_and] at h2
    have k : (0x7fffffffffffffff : UInt64).toNat = 2 ^ 63 - 1 := by decide
    rw [k, Nat.and_two_pow_sub_one_eq_mod] at h2
    exact h2
  have e : FP.dcmp a a = some .eq := FP.Core.dcmp_self hm
  rw [e]
  rfl
end LL1
section LL2
variable {p : Program} {l : Launch} {e : Env} {R : Room} {s : State} {m : MethodId} {args : Array Value} {below : List Frame} {meth : Method} {c : Code} {H : Heap} {locs : List Loc} {cells slots : Nat} {Q : State → Prop}
variable {y : MethodName} {bytes cc : ByteArray} {maxL nL mc ms n index : Nat} {ret : Option FieldType} {ws : List Cond} {rm : Room} {Ts : List Cond} {own C : String} {b : Addr} {As rest st0 : List Value} {pc : Nat} {ls : Array Slot} {hh : List (Nat × Nat × Nat × Nat)}
variable {D : va_G} {tys tysc : List (ClassId × FieldType)} {A0 : Nat → Prop} {H0 : Heap} {S : Type} {Wf : S → va_W}
theorem wTopl {x z : Int64} (h : x = z) (k : W p l e R s m args below meth c H locs cells slots Q (F0 m pc ls (.long z :: rest))) : W p l e R s m args below meth c H locs cells slots Q (F0 m pc ls (.long x :: rest)) := h ▸ k
theorem wTopd {x z : UInt64} (h : x = z) (k : W p l e R s m args below meth c H locs cells slots Q (F0 m pc ls (.double z :: rest))) : W p l e R s m args below meth c H locs cells slots Q (F0 m pc ls (.double x :: rest)) := h ▸ k
theorem wSld {LN : Nat} {xs : Nat → Int32} (hx : p.tables.exec = Jvm.exec) (hb : c.code = cc) (hX : va_X b LN xs s s.heap) (hbl : b < s.heap.size) (hS : va_S (lwA s) s.heap H locs) (k : Nat) (hk : k < LN) (hLN : LN < 2 ^ 31) {z : Int32} (hz : xs k = z) (hdg : decode cc pc = .ok (.iaload, 1))
    (kk : W p l e R s m args below meth c H locs cells slots Q (F0 m (pc + 1) ls (.int z :: rest))) : W p l e R s m args below meth c H locs cells slots Q (F0 m pc ls (.int (nI k) :: .ref b :: rest)) := by
  refine va_sld hx hb hX hbl (Nat.not_le.mpr hbl) hS (vp_in_nI hk hLN) hdg ?_
  rw [nI_clamp (Nat.lt_trans hk hLN), hz]
  exact kk
theorem wLald {W0 : va_W} {cJ : ClassId} {v : Nat → Int64} {z : Int64} {a : Nat} (hx : p.tables.exec = Jvm.exec) (hb : c.code = cc) (hK : va_K D vwCl tys s) (hP : va_P D vwCl W0 H) (q0 t0 : Nat) (ha : W0[q0]? = some (a, .inl (cJ, 1, .inr (.inl v)))) (ht : tys[t0]? = some (cJ, .long)) (hz : v 0 = z) (hdg : decode cc pc = .ok (.laload, 1))
    (kk : W p l e R s m args below meth c H locs cells slots Q (F0 m (pc + 1) ls (.long z :: rest))) : W p l e R s m args below meth c H locs cells slots Q (F0 m pc ls (.int 0 :: .ref a :: rest)) := by
  subst hz
  exact va_lald hx hb hK hP q0 t0 ha ht (vp_in_nI (n := 0) (N := 1) (by decide) (by decide)) hdg kk
theorem wKim {post : Int32 → S → Prop} {pre Wc suf : va_W} {a : Array Value} (hr : va_Run p l e R s m args below meth c H locs cells slots mc ms (F0 m pc ls st0) rest (wQi D post Wf (va_A Wc H.size) a) (va_A Wc H.size)) (hP : va_P D vwCl (pre ++ (Wc ++ suf)) H) (hD : va_D A0 (pre ++ (Wc ++ suf))) (hS : va_S A0 H0 H locs) (hA : ∀ q : Nat, H0.size ≤ q → A0 q)
    (kk : ∀ (r : Int32) (u : S) (H1 : Heap) (locs1 : List Loc), post r u → va_P D vwCl (pre ++ (Wf u ++ suf)) H1 → va_D A0 (pre ++ (Wf u ++ suf)) → va_S A0 H0 H1 locs1 → W p l e R s m args below meth c H1 locs1 (cells + mc) (slots + ms) Q (F0 m (pc + 3) ls (.int r :: rest))) : W p l e R s m args below meth c H locs cells slots Q (F0 m pc ls st0) := by
  have hF := wFree (D := D) hD hS hA
  refine va_calli hr hS (fun q _ h => hF q h) hF (fun r u t H1 locs1 ht hvm hw hB hz1 hk1 hS1 => ?_)
  obtain ⟨hP1, hD1⟩ := hB
  rw [ht] at hP1
  obtain ⟨a1, a2⟩ := wFrame hP hD hk1 hF hP1 hD1
  exact kk r u H1 locs1 hw a1 a2 hS1
/-- a helper of the law: static, with handlers -/
theorem wLW {post : Int32 → S → Prop} {W0 pre Wc suf : va_W} (F : CallFix p m c cc nL s args Ts own) (hM : wCw l y ws rm D tysc As Wc H.size mc ms (wQi D post Wf)) (hN : wNest s) (hE : xEnv s) (hZ : xHp A0 s s.heap) (hA : ∀ q : Nat, s.heap.size ≤ q → A0 q) (hK : va_K D vwCl tysc s) (hS : va_S A0 s.heap H locs) (hP : va_P D vwCl W0 H) (hD : va_D A0 W0) (hW0 : W0 = pre ++ (Wc ++ suf))
    (cw : vx_CSW R s args own index y bytes maxL ret hh ws rm mc ms n) (hn : As.length = n) (hz : ls.size = nL) (hst : st0 = As.reverse ++ rest) (hr : (rest.map fun v => v.category).sum ≤ 8) (hdg : decode cc pc = .ok (.invokestatic index, 3)) (hf : cells + mc ≤ R.cells ∧ slots + ms ≤ R.slots)
    (kk : ∀ (r : Int32) (u : S) (H1 : Heap) (locs1 : List Loc), post r u → va_P D vwCl (pre ++ (Wf u ++ suf)) H1 → va_D A0 (pre ++ (Wf u ++ suf)) → va_S A0 s.heap H1 locs1 → W p l e R s m args below meth c H1 locs1 (cells + mc) (slots + ms) Q (F0 m (pc + 3) ls (.int r :: rest))) : W p l e R s m args below meth c H locs cells slots Q (F0 m pc ls st0) := by
  subst hW0
  exact wKim (vx_runSW (As := As) (rest := rest) F hM cw (wPreSX hN hE hZ hA hS hK hP hD) rfl hn hz hst (lv_room hr) hdg hf) hP hD hS hA kk
end LL2
