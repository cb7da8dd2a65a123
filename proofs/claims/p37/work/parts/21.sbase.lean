/-! The law's own dinner: its cells; rows of rows; calls that make cells, or answer a reference. -/
section SB
/-- what a row of N addresses holds -/
def RF (N : Nat) (b : Nat → Nat) : Nat → Option Nat := fun i => if i < N then some (b i) else none
theorem RF_in {N i : Nat} {b : Nat → Nat} (h : i < N) : RF N b i = some (b i) := if_pos h
/-- a cell that holds a row of rows -/
def QA (cR : ClassId) (q N : Nat) (h : Nat → Option Nat) : Nat × va_E := (q, .inl (cR, N, .inr (.inr (.inr (.inr h)))))
/-- N rows, of len ints each, at b -/
def RW (cI : ClassId) (b : Nat → Nat) (N len : Nat) (v : Nat → Nat → Int32) : va_W := (List.range N).map (fun i => ((b i, .inl (cI, len, .inl (v i))) : Nat × va_E))
/-- what was caught, by pairs, as rows -/
def CW (cI : ClassId) (b : Nat → Nat) (n : Nat) (r5 : Nat → Int32) : va_W := RW cI b n n (fun i j => r5 (i * 10 + j))
/-- the law's dinner: the ints f and the rows r of a Dinner of the class, its rows of n cells; k glances at ga -/
def SC (cI cR : ClassId) (a ca ga : Nat → Nat) (n k : Nat) (f : Nat → Int32) (r : Nat → Nat → Int32) : va_W := [(a 0, .inr (2, [.int (f 0), .int (f 2), .int (f 1), .int (f 3), .int (f 4), .int (f 5), .int (f 6), .int (f 7), .int (f 8), .ref (a 1), .ref (a 2), .ref (a 3), .ref (a 4), .ref (a 5), .ref (a 6)])), QA cR (a 6) k (RF k ga), (a 1, .inl (cI, n, .inl (r 0))), (a 2, .inl (cI, n, .inl (r 1))), (a 3, .inl (cI, n, .inl (r 2))), (a 4, .inl (cI, n, .inl (r 3))), QA cR (a 5) n (RF n ca)]
/-- G with the cell j of its row i new -/
def gUp (G : Nat → Nat → Int32) (i j : Nat) (x : Int32) : Nat → Nat → Int32 := va_up G i (upd (G i) j x)
theorem gUp_s {G : Nat → Nat → Int32} {i j : Nat} {x : Int32} : gUp G i j x i j = x := by simp [gUp, va_up, upd]
theorem gUp_i {G : Nat → Nat → Int32} {i j p : Nat} {x : Int32} (h : p ≠ i) : gUp G i j x p = G p := by simp [gUp, va_up, h]
theorem gUp_j {G : Nat → Nat → Int32} {i j p q : Nat} {x : Int32} (h : q ≠ j) : gUp G i j x p q = G p q := by
  by_cases e : p = i
  · subst e
    simp [gUp, va_up, upd, h]
  · rw [gUp_i e]
theorem RW_len {cI : ClassId} {b : Nat → Nat} {N len : Nat} {v : Nat → Nat → Int32} : (RW cI b N len v).length = N := by simp [RW]
theorem RW_at {cI : ClassId} {b : Nat → Nat} {N len : Nat} {v : Nat → Nat → Int32} {i : Nat} (h : i < N) : (RW cI b N len v)[i]? = some (b i, .inl (cI, len, .inl (v i))) := by
  unfold RW
  rw [List.getElem?_map, List.getElem?_range h]
  rfl
theorem RW_get {cI : ClassId} {b : Nat → Nat} {N len : Nat} {v : Nat → Nat → Int32} {pre suf : va_W} {i : Nat} (h : i < N) : (pre ++ (RW cI b N len v ++ suf))[pre.length + i]? = some (b i, .inl (cI, len, .inl (v i))) := by
  rw [List.getElem?_append_right (by omega), Nat.add_sub_cancel_left, List.getElem?_append_left (by rw [RW_len]; exact h)]
  exact RW_at h
theorem RW_put {cI : ClassId} {b : Nat → Nat} {N len : Nat} {v : Nat → Nat → Int32} {i : Nat} (z : Nat → Int32) : (RW cI b N len v).set i (b i, .inl (cI, len, .inl z)) = RW cI b N len (va_up v i z) := by
  apply List.ext_getElem?
  intro j
  rw [List.getElem?_set, RW_len]
  by_cases hj : j < N
  · rw [RW_at hj, RW_at hj]
    by_cases e : i = j
    · subst e
      rw [if_pos rfl, if_pos hj]
      simp [va_up]
    · rw [if_neg e]
      simp [va_up, Ne.symm e]
  · have h1 : (RW cI b N len v)[j]? = none := List.getElem?_eq_none (by rw [RW_len]; omega)
    have h2 : (RW cI b N len (va_up v i z))[j]? = none := List.getElem?_eq_none (by rw [RW_len]; omega)
    rw [h1, h2]
    by_cases e : i = j
    · rw [if_pos e, if_neg (by omega)]
    · rw [if_neg e]
theorem RW_set {cI : ClassId} {b : Nat → Nat} {N len : Nat} {v : Nat → Nat → Int32} {pre suf : va_W} {i : Nat} (h : i < N) (z : Nat → Int32) : (pre ++ (RW cI b N len v ++ suf)).set (pre.length + i) (b i, .inl (cI, len, .inl z)) = pre ++ (RW cI b N len (va_up v i z) ++ suf) := by
  rw [List.set_append_right _ _ (by omega), Nat.add_sub_cancel_left, List.set_append_left _ _ (by rw [RW_len]; exact h), RW_put]
/-- a world by what is in it -/
theorem wPmem {D : va_G} {ws : va_W} {H : Heap} : va_P D vwCl ws H ↔ ∀ q, q ∈ ws → va_at D vwCl q H := by
  refine ⟨fun h q hq => ?_, fun h k q hk => h q (List.mem_of_getElem? hk)⟩
  obtain ⟨k, hk⟩ := List.mem_iff_getElem?.mp hq
  exact h k q hk
theorem wDmem {A : Nat → Prop} {ws : va_W} : va_D A ws ↔ (ws.map (fun q => q.1)).Nodup ∧ ∀ q, q ∈ ws → A q.1 := by
  constructor
  · intro h
    refine ⟨?_, fun q hq => ?_⟩
    · rw [List.Nodup, List.pairwise_iff_getElem]
      intro i j hi hj hij e
      rw [List.length_map] at hi hj
      rw [List.getElem_map, List.getElem_map] at e
      have := h.1 i j ws[i] ws[j] (List.getElem?_eq_getElem hi) (List.getElem?_eq_getElem hj) e
      omega
    · obtain ⟨k, hk⟩ := List.mem_iff_getElem?.mp hq
      exact h.2 k q hk
  · rintro ⟨h1, h2⟩
    rw [List.Nodup, List.pairwise_iff_getElem] at h1
    refine ⟨fun i j p q hp hq e => ?_, fun k q hk => h2 q (List.mem_of_getElem? hk)⟩
    obtain ⟨hi, rfl⟩ := List.getElem?_eq_some_iff.mp hp
    obtain ⟨hj, rfl⟩ := List.getElem?_eq_some_iff.mp hq
    rcases Nat.lt_trichotomy i j with g | g | g
    · exact absurd (by rw [List.getElem_map, List.getElem_map]; exact e) (h1 i j (by rw [List.length_map]; exact hi) (by rw [List.length_map]; exact hj) g)
    · exact g
    · exact absurd (by rw [List.getElem_map, List.getElem_map]; exact e.symm) (h1 j i (by rw [List.length_map]; exact hj) (by rw [List.length_map]; exact hi) g)
theorem wPsub {D : va_G} {ws ws' : va_W} {H : Heap} (h : ∀ q, q ∈ ws' → q ∈ ws) (hP : va_P D vwCl ws H) : va_P D vwCl ws' H := wPmem.mpr (fun q hq => wPmem.mp hP q (h q hq))
theorem wDsub {A : Nat → Prop} {ws ws' : va_W} (h : List.Sublist ws' ws) (hD : va_D A ws) : va_D A ws' := wDmem.mpr ⟨(h.map (fun q => q.1)).nodup (wDmem.mp hD).1, fun q hq => (wDmem.mp hD).2 q (h.subset hq)⟩
theorem wDperm {A : Nat → Prop} {ws ws' : va_W} (h : List.Perm ws ws') (hD : va_D A ws) : va_D A ws' := wDmem.mpr ⟨((h.map (fun q => q.1)).nodup_iff).mp (wDmem.mp hD).1, fun q hq => (wDmem.mp hD).2 q (h.mem_iff.mpr hq)⟩
/-- worlds that agree, side by side -/
theorem wEq.app {D : va_G} {a a' b b' : va_W} (hl : a.length = a'.length) (h1 : wEq D a a') (h2 : wEq D b b') : wEq D (a ++ b) (a' ++ b') := by
  intro k q' hk
  by_cases h : k < a'.length
  · rw [List.getElem?_append_left h] at hk
    rw [List.getElem?_append_left (by omega)]
    exact h1 k q' hk
  · rw [List.getElem?_append_right (by omega)] at hk
    rw [List.getElem?_append_right (by omega), hl]
    exact h2 _ q' hk
theorem RW_cg {D : va_G} {cI : ClassId} {b : Nat → Nat} {N len : Nat} {v v' : Nat → Nat → Int32} (h : ∀ i, i < N → ∀ j, j < len → v i j = v' i j) : wEq D (RW cI b N len v) (RW cI b N len v') := by
  intro k q' hk
  have hkN : k < N := by
    have := (List.getElem?_eq_some_iff.mp hk).1
    rwa [RW_len] at this
  rw [RW_at hkN] at hk
  cases hk
  refine ⟨_, RW_at hkN, rfl, fun H h1 => ?_⟩
  have h2 : H[b k]? = some (vp_cell cI (len, .inl (v k))) := h1
  rw [wCell (h k hkN)] at h2
  exact h2
theorem RW_cgm {D : va_G} {cI : ClassId} {b : Nat → Nat} {N len : Nat} {v v' : Nat → Nat → Int32} {pre suf : va_W} (h : ∀ i, i < N → ∀ j, j < len → v i j = v' i j) : wEq D (pre ++ (RW cI b N len v ++ suf)) (pre ++ (RW cI b N len v' ++ suf)) := wEq.app rfl wEq.rf (wEq.app (by rw [RW_len, RW_len]) (RW_cg h) wEq.rf)
end SB
section SR
variable {p : Program} {l : Launch} {e : Env} {R : Room} {s : State} {m : MethodId} {args : Array Value} {below : List Frame} {meth : Method} {c : Code} {H : Heap} {locs : List Loc} {cells slots : Nat} {Q : State → Prop}
variable {y : MethodName} {bytes cc : ByteArray} {maxL nL mc ms n index : Nat} {ret : Option FieldType} {ws : List Cond} {rm : Room} {Ts : List Cond} {own C host : String} {b : Addr} {As rest st0 : List Value} {pc : Nat} {ls : Array Slot}
variable {D : va_G} {tys tysc : List (ClassId × FieldType)} {A0 : Nat → Prop} {H0 : Heap} {S : Type} {Wf : S → va_W} {af : S → Nat}
/-- a row out of a row of rows -/
theorem wAald {W0 : va_W} (hx : p.tables.exec = Jvm.exec) (hb : c.code = cc) (hK : va_K D vwCl tys s) (hP : va_P D vwCl W0 H) (q0 t0 : Nat) {a : Nat} {cR : ClassId} {N : Nat} {h : Nat → Option Nat} (ha : W0[q0]? = some (a, .inl (cR, N, .inr (.inr (.inr (.inr h)))))) (ht : tys[t0]? = some (cR, .array .int)) {i : Int32} (k : Nat) (hi : i = nI k) (hk : k < N) (hN : N < 2 ^ 31) {z : Nat} (hz : h k = some z) (hdg : decode cc pc = .ok (.aaload, 1))
    (kk : W p l e R s m args below meth c H locs cells slots Q (F0 m (pc + 1) ls (.ref z :: rest))) : W p l e R s m args below meth c H locs cells slots Q (F0 m pc ls (.int i :: .ref a :: rest)) := by
  subst hi
  have hin : vp_in (nI k) N := vp_in_nI hk hN
  have hc : (nI k).toNatClampNeg = k := nI_clamp (Nat.lt_trans hk hN)
  refine W.aald (v := .ref z) (ty := .array .int) hx hb (hP q0 _ ha) ((hK.2 t0 _ ht).1 N (fun j => va_rf (h j))) rfl (fun q => by cases q) (by show ¬ (nI k < 0 ∨ (arrV _ _ _).slots.size ≤ _); rw [arrV_size]; exact hin) ?_ rfl rfl hdg kk
  show (arrV cR N (fun j => va_rf (h j))).slots[(nI k).toNatClampNeg]? = _
  rw [hc, arrV_read _ _ hk, hz]
  rfl
/-- an int out of a row among many -/
theorem wIaldR {W0 pre suf : va_W} {cI : ClassId} {bb : Nat → Nat} {N len : Nat} {v : Nat → Nat → Int32} (hx : p.tables.exec = Jvm.exec) (hb : c.code = cc) (hK : va_K D vwCl tys s) (hP : va_P D vwCl W0 H) (t0 : Nat) (hW : W0 = pre ++ (RW cI bb N len v ++ suf)) (ht : tys[t0]? = some (cI, .int)) (i : Nat) (hi : i < N) {ix : Int32} (k : Nat) (hix : ix = nI k) (hk : k < len) (hL : len < 2 ^ 31) (hdg : decode cc pc = .ok (.iaload, 1))
    (kk : W p l e R s m args below meth c H locs cells slots Q (F0 m (pc + 1) ls (.int (v i k) :: rest))) : W p l e R s m args below meth c H locs cells slots Q (F0 m pc ls (.int ix :: .ref (bb i) :: rest)) := by
  subst hW
  exact wIald hx hb hK hP (pre.length + i) t0 (RW_get hi) ht k hix hk hL hdg kk
theorem wIastR {W0 W1 pre suf : va_W} {cI : ClassId} {bb : Nat → Nat} {N len : Nat} {v : Nat → Nat → Int32} (hx : p.tables.exec = Jvm.exec) (hb : c.code = cc) (hK : va_K D vwCl tys s) (hP : va_P D vwCl W0 H) (hD : va_D A0 W0) (hS : va_S A0 H0 H locs) (t0 : Nat) (hW : W0 = pre ++ (RW cI bb N len v ++ suf)) (ht : tys[t0]? = some (cI, .int)) (i : Nat) (hi : i < N) {ix x : Int32} (k : Nat) (hix : ix = nI k) (hk : k < len) (hL : len < 2 ^ 31) (hW1 : pre ++ (RW cI bb N len (gUp v i k x) ++ suf) = W1) (hdg : decode cc pc = .ok (.iastore, 1))
    (kk : ∀ (H1 : Heap) (locs1 : List Loc), va_P D vwCl W1 H1 → va_D A0 W1 → va_S A0 H0 H1 locs1 → W p l e R s m args below meth c H1 locs1 cells slots Q (F0 m (pc + 1) ls rest)) : W p l e R s m args below meth c H locs cells slots Q (F0 m pc ls (.int x :: .int ix :: .ref (bb i) :: rest)) := by
  subst hW
  refine wIast hx hb hK hP hD hS (pre.length + i) t0 (RW_get hi) ht k hix hk hL hdg (fun H1 locs1 a1 a2 a3 => ?_)
  rw [RW_set hi] at a1 a2
  refine kk H1 locs1 ?_ ?_ a3
  · rw [← hW1]; exact a1
  · rw [← hW1]; exact a2
/-- what is caught: a cell of a row, by its pair -/
theorem wIastC {W0 W1 pre suf : va_W} {cI : ClassId} {bb : Nat → Nat} {N : Nat} {r5 : Nat → Int32} (hx : p.tables.exec = Jvm.exec) (hb : c.code = cc) (hK : va_K D vwCl tys s) (hP : va_P D vwCl W0 H) (hD : va_D A0 W0) (hS : va_S A0 H0 H locs) (t0 : Nat) (hW : W0 = pre ++ (CW cI bb N r5 ++ suf)) (ht : tys[t0]? = some (cI, .int)) (i : Nat) (hi : i < N) {ix x : Int32} (k : Nat) (hix : ix = nI k) (hk : k < N) (hL : N ≤ 10) (hW1 : pre ++ (CW cI bb N (upd r5 (i * 10 + k) x) ++ suf) = W1) (hdg : decode cc pc = .ok (.iastore, 1))
    (kk : ∀ (H1 : Heap) (locs1 : List Loc), va_P D vwCl W1 H1 → va_D A0 W1 → va_S A0 H0 H1 locs1 → W p l e R s m args below meth c H1 locs1 cells slots Q (F0 m (pc + 1) ls rest)) : W p l e R s m args below meth c H locs cells slots Q (F0 m pc ls (.int x :: .int ix :: .ref (bb i) :: rest)) := by
  refine wIastR (pre := pre) (suf := suf) (v := fun i j => r5 (i * 10 + j)) hx hb hK hP hD hS t0 hW ht i hi k hix hk (by omega) rfl hdg (fun H1 locs1 a1 a2 a3 => ?_)
  have h9 : wEq D (pre ++ (RW cI bb N N (gUp (fun i j => r5 (i * 10 + j)) i k x) ++ suf)) W1 := by
    rw [← hW1]
    refine RW_cgm (fun p9 hp9 q9 hq9 => ?_)
    by_cases e1 : p9 = i
    · subst e1
      by_cases e2 : q9 = k
      · subst e2
        rw [gUp_s, pk_us]
      · rw [gUp_j e2, pk_un (by omega)]
    · rw [gUp_i e1, pk_un (by omega)]
  exact kk H1 locs1 (h9.P a1) (h9.D a2) a3
/-- a row put into a row of rows -/
theorem wAast {W0 : va_W} (hx : p.tables.exec = Jvm.exec) (hb : c.code = cc) (hN : wNest s) (hK : va_K D vwCl tys s) (hP : va_P D vwCl W0 H) (hD : va_D A0 W0) (hS : va_S A0 H0 H locs) (q0 qv t0 t1 : Nat) {a v : Nat} {cR cI : ClassId} {N : Nat} {h : Nat → Option Nat} {x9 : vp_A} (ha : W0[q0]? = some (a, .inl (cR, N, .inr (.inr (.inr (.inr h)))))) (ht : tys[t0]? = some (cR, .array .int)) (hv : W0[qv]? = some (v, .inl (cI, x9))) (ht1 : tys[t1]? = some (cI, .int)) {i : Int32} (k : Nat) (hi : i = nI k) (hk : k < N) (hN2 : N < 2 ^ 31) (hdg : decode cc pc = .ok (.aastore, 1))
    (kk : ∀ (H1 : Heap) (locs1 : List Loc), va_P D vwCl (W0.set q0 (a, .inl (cR, N, .inr (.inr (.inr (.inr (va_up h k (some v)))))))) H1 → va_D A0 (W0.set q0 (a, .inl (cR, N, .inr (.inr (.inr (.inr (va_up h k (some v)))))))) → va_S A0 H0 H1 locs1 → W p l e R s m args below meth c H1 locs1 cells slots Q (F0 m (pc + 1) ls rest)) : W p l e R s m args below meth c H locs cells slots Q (F0 m pc ls (.ref v :: .int i :: .ref a :: rest)) := by
  subst hi
  have hc : (nI k).toNatClampNeg = k := nI_clamp (Nat.lt_trans hk hN2)
  obtain ⟨comp, c9, k9, h1, -, h3, h4, h5⟩ := arrayOverA_spec (hN.2.use (A := #[]))
  have hR : s.vm.findClass ("[" ++ (FieldType.array .int).toString) = some cR := (hK.2 t0 _ ht).2
  have hI : s.vm.findClass ("[" ++ (FieldType.int).toString) = some cI := (hK.2 t1 _ ht1).2
  have e9 : c9 = cR := Option.some.inj (h5.symm.trans hR)
  subst e9
  have e8 : comp = cI := Option.some.inj (h1.symm.trans hI)
  subst e8
  obtain ⟨-, kI, hkI, -⟩ := (hK.2 t1 _ ht1).1 0 (fun _ => .null)
  have hkI : s.vm.classes[comp]? = some kI := hkI
  have hcv : H[v]? = some (vp_cell comp x9) := hP qv _ hv
  have hcls : (vp_cell comp x9).cls = comp := by unfold vp_cell; split <;> rfl
  have hvm : (vp_cell comp x9).vm = .none := by unfold vp_cell; split <;> rfl
  refine W.aast (t := .array .int) hx hb (hP q0 _ ha) (fun q h => by cases h) (fun h => by cases h) h3 h4 rfl hkI ⟨nI_pos (Nat.lt_trans hk hN2), by show _ < (arrV _ _ _).slots.size; rw [arrV_size, hc]; exact hk⟩ hcv (fun q h => by rw [hvm] at h; cases h) (by rw [hcls]; exact hkI) (by rw [hcls, Vm.assignable, Vm.assignableAux]; simp only [beq_self_eq_true, Bool.true_or]) rfl rfl hdg fun H1 e1 z oq => ?_
  refine kk H1 _ (hP.set hD ha ?_ oq) (hD.set ha) (hS.put z oq (hD.2 q0 _ ha))
  show H1[a]? = some (vp_cell _ _)
  rw [e1, hc]
  rw [vp_cell_q, vp_cell_q, arrV_store]
  congr 2
  funext q
  by_cases hq : q = k
  · subst hq
    simp [updV, va_up, va_rf]
  · simp [updV, va_up, hq]
/-- a new row of rows, empty -/
theorem wAnew {W0 : va_W} (hx : p.tables.exec = Jvm.exec) (hb : c.code = cc) (hown : s.vm.findClass own = some m.cls) (hlink : (Cond.classLink own index "[I").before args s = true) (hN : wNest s) (hK : va_K D vwCl tys s) (hP : va_P D vwCl W0 H) (hD : va_D A0 W0) (hS : va_S A0 H0 H locs) (hA : ∀ q, H0.size ≤ q → A0 q) (t0 : Nat) {cR : ClassId} (ht : tys[t0]? = some (cR, .array .int)) {i : Int32} (k : Nat) (hi : i = nI k) (hk : k < 2 ^ 20) (hf : cells + 1 ≤ R.cells ∧ slots + k ≤ R.slots) (hdg : decode cc pc = .ok (.anewarray index, 3))
    (kk : ∀ (q : Nat) (H1 : Heap), va_P D vwCl (W0 ++ [QA cR q k (fun _ => none)]) H1 → va_D A0 (W0 ++ [QA cR q k (fun _ => none)]) → va_S A0 H0 H1 locs → W p l e R s m args below meth c H1 locs (cells + 1) (slots + k) Q (F0 m (pc + 3) ls (.ref q :: rest))) : W p l e R s m args below meth c H locs cells slots Q (F0 m pc ls (.int i :: rest)) := by
  subst hi
  have hc : (nI k).toNatClampNeg = k := nI_clamp (by omega)
  have hR : s.vm.findClass ("[" ++ (FieldType.array .int).toString) = some cR := (hK.2 t0 _ ht).2
  refine W.anewA (t := .int) hx hb hown hlink (hN.2.use) rfl hdg rfl (nI_pos (by omega)) (by rw [hc]; omega) hf.1 (by rw [hc]; exact hf.2) fun cA kA comp f1 f2 f3 f4 => ?_
  have eA : cA = cR := Option.some.inj (f1.symm.trans hR)
  subst eA
  rw [hc]
  generalize hH1 : H.push ({ cls := cA, slots := Array.replicate k .null, vm := .none } : Cell) = H1
  have z1 : H1.size = H.size + 1 := by rw [← hH1, Array.size_push]
  have e1 : H1[H.size]? = some (arrV cA k (fun _ => .null)) := by rw [← hH1, Array.getElem?_push_size, ← arrV_new]
  have o1 : ∀ q : Nat, q < H.size → H1[q]? = H[q]? := fun q hq => by rw [← hH1, Array.getElem?_push, if_neg (Nat.ne_of_lt hq)]
  have hk1 : ∀ (k : Nat) (x : Nat × va_E), W0[k]? = some x → H1[x.1]? = H[x.1]? := fun k x hx => o1 x.1 ((hP k x hx).lt)
  refine kk H.size H1 ((hP.kept hk1).app (fun k9 x hx => ?_)) (hD.push hP rfl (hA _ hS.1)) ⟨Nat.le_trans hS.1 (by omega), fun x h1 h2 => (o1 x (Nat.lt_of_lt_of_le h1 hS.1)).trans (hS.2.1 x h1 h2), hS.2.2⟩
  have hz : k9 < 1 := (List.getElem?_eq_some_iff.mp hx).1
  rw [show k9 = 0 by omega] at hx
  cases hx
  exact e1
/-- new rows in a new row of rows -/
theorem wMna {W0 : va_W} (hx : p.tables.exec = Jvm.exec) (hb : c.code = cc) (hown : s.vm.findClass own = some m.cls) (hlink : (Cond.classLink own index "[[I").before args s = true) (harr : (Cond.arrayClass .int).before args s = true) (hN : wNest s) (hK : va_K D vwCl tys s) (hP : va_P D vwCl W0 H) (hD : va_D A0 W0) (hS : va_S A0 H0 H locs) (hA : ∀ q, H0.size ≤ q → A0 q) (t0 t1 : Nat) {cI cR : ClassId} (ht : tys[t0]? = some (cR, .array .int)) (ht1 : tys[t1]? = some (cI, .int)) {i j : Int32} (N K : Nat) (hi : i = nI N) (hj : j = nI K) (hN1 : N ≤ 1000) (hK1 : K ≤ 1000) (hf : cells + (1 + N) ≤ R.cells ∧ slots + (N + N * K) ≤ R.slots) (hdg : decode cc pc = .ok (.multianewarray index 2, 4))
    (kk : ∀ (q : Nat) (rr : Nat → Nat) (H1 : Heap), va_P D vwCl (W0 ++ ([QA cR q N (RF N rr)] ++ RW cI rr N K (fun _ _ => 0))) H1 → va_D A0 (W0 ++ ([QA cR q N (RF N rr)] ++ RW cI rr N K (fun _ _ => 0))) → va_S A0 H0 H1 locs → W p l e R s m args below meth c H1 locs (cells + 1 + N) (slots + N + N * K) Q (F0 m (pc + 4) ls (.ref q :: rest))) : W p l e R s m args below meth c H locs cells slots Q (F0 m pc ls (.int j :: .int i :: rest)) := by
  subst hi hj
  have hR : s.vm.findClass ("[" ++ (FieldType.array .int).toString) = some cR := (hK.2 t0 _ ht).2
  have hI : s.vm.findClass (FieldType.array .int).toString = some cI := (hK.2 t1 _ ht1).2
  have e0 : va_pl ([] : List Nat) (fun _ => (.inr (0, []) : va_E)) = [] := rfl
  refine va_mna (X := W0) (L := []) (f := fun _ => .inr (0, [])) (ty := .int) (z := (K, .inl (fun _ => 0))) hx hb hown hlink hN.2 harr hI hK (by rw [e0, List.append_nil]; exact hP) (by rw [e0, List.append_nil]; exact hD) hS hA (N' := N) (K' := K) (nI_pos (by omega)) (nI_pos (by omega)) (nI_clamp (by omega)) (nI_clamp (by omega)) (by omega) (by show K * 4 ≤ _; omega) (by omega) rfl rfl hf.1 hf.2 (fun c9 => arrV_new c9 K (.int 0)) hdg (fun q rr cA H1 hinj _ hK2 hP1 hD1 hS1 => ?_)
  have hA2 : s.vm.findClass ("[" ++ (FieldType.array .int).toString) = some cA := by
    have := (hK2.2 tys.length (cA, .array .int) (by rw [List.getElem?_append_right (Nat.le_refl _), Nat.sub_self]; rfl)).2
    exact this
  have eA : cA = cR := Option.some.inj (hA2.symm.trans hR)
  subst eA
  have hpl : va_pl ([] ++ (List.range N).map rr) (vr_up (fun _ => (.inr (0, []) : va_E)) ((List.range N).map rr) (.inl (cI, (K, .inl (fun _ => 0))))) = RW cI rr N K (fun _ _ => 0) := by
    unfold va_pl RW
    rw [List.nil_append, List.map_map]
    apply List.map_congr_left
    intro i9 hi9
    show (rr i9, vr_up _ _ _ (rr i9)) = _
    rw [vr_up_in (List.mem_map_of_mem hi9)]
  rw [hpl, List.append_assoc] at hP1 hD1
  exact kk q rr H1 hP1 hD1 hS1
/-- a new row of ints -/
theorem wNewi {W0 : va_W} (hx : p.tables.exec = Jvm.exec) (hb : c.code = cc) (harr : (Cond.arrayClass .int).before args s = true) (hK : va_K D vwCl tys s) (hP : va_P D vwCl W0 H) (hD : va_D A0 W0) (hS : va_S A0 H0 H locs) (hA : ∀ q, H0.size ≤ q → A0 q) (t1 : Nat) {cI : ClassId} (ht1 : tys[t1]? = some (cI, .int)) {i : Int32} (k : Nat) (hi : i = nI k) (hk : k < 2 ^ 20) (hf : cells + 1 ≤ R.cells ∧ slots + k ≤ R.slots) (hdg : decode cc pc = .ok (.newarray .int, 2))
    (kk : ∀ (q : Nat) (H1 : Heap), va_P D vwCl (W0 ++ [(q, .inl (cI, k, .inl (fun _ => 0)))]) H1 → va_D A0 (W0 ++ [(q, .inl (cI, k, .inl (fun _ => 0)))]) → va_S A0 H0 H1 locs → W p l e R s m args below meth c H1 locs (cells + 1) (slots + k) Q (F0 m (pc + 2) ls (.ref q :: rest))) : W p l e R s m args below meth c H locs cells slots Q (F0 m pc ls (.int i :: rest)) := by
  subst hi
  refine va_newa (atype := .int) (ty := .int) (N' := k) (a0 := (k, .inl (fun _ => 0))) hx hb harr rfl hK hP hD hS hA (fun _ => rfl) (nI_pos (by omega)) (nI_clamp (by omega)) (by show k * 4 ≤ _; omega) hf.1 hf.2 hdg (fun q cA H1 hK2 hP1 hD1 hS1 => ?_)
  have hI : s.vm.findClass ("[" ++ (FieldType.int).toString) = some cI := (hK.2 t1 _ ht1).2
  have hA2 : s.vm.findClass ("[" ++ (FieldType.int).toString) = some cA := by
    have := (hK2.2 tys.length (cA, .int) (by rw [List.getElem?_append_right (Nat.le_refl _), Nat.sub_self]; rfl)).2
    exact this
  have eA : cA = cI := Option.some.inj (hA2.symm.trans hI)
  subst eA
  exact kk q H1 hP1 hD1 hS1
/-- what a method owes that answers a reference -/
abbrev wQr {S : Type} (D : va_G) (post : S → Prop) (Wf : S → va_W) (af : S → Nat) : (Nat → Prop) → Array Value → State → Outcome → State → Prop := fun A => va_Qr post (fun u a t => wPost D Wf A u t ∧ a = af u) A
theorem wRr {post : S → Prop} {W1 : va_W} {rt : FieldType} {q : Nat} (hQ : MQ below (wQr D post Wf af A0) args s cells slots A0 = Q) (hx : p.tables.exec = Jvm.exec) (hb : c.code = cc) (hr : meth.sig.returnType = some rt) (hrt : (∃ n, rt = .object n) ∨ ∃ t, rt = .array t) (hlocks : meth.locks = false) (hP : va_P D vwCl W1 H) (hD : va_D A0 W1) (hS : va_S A0 s.heap H locs) (hdg : decode cc pc = .ok (.areturn, 1)) (u : S) (hu : post u) (hW : W1 = Wf u) (hq : q = af u) : W p l e R s m args below meth c H locs cells slots Q (F0 m pc ls [.ref q]) := by
  subst hW
  rw [← hQ]
  exact W.aret hx hb hr hrt (Or.inr ⟨q, rfl⟩) (fun t ht hW => ⟨⟨u, q, rfl, hu, ⟨by rw [ht]; exact hP, hD⟩, hq⟩, hS.F ht⟩) hS.2.2 hdg hlocks
/-- behind a call that may make cells -/
theorem wKim {post : Int32 → S → Prop} {pre Wc suf : va_W} {a : Array Value} (hr : va_Run p l e R s m args below meth c H locs cells slots mc ms (F0 m pc ls st0) rest (wQi D post Wf (va_A Wc H.size) a) (va_A Wc H.size)) (hP : va_P D vwCl (pre ++ (Wc ++ suf)) H) (hD : va_D A0 (pre ++ (Wc ++ suf))) (hS : va_S A0 H0 H locs) (hA : ∀ q : Nat, H0.size ≤ q → A0 q)
    (kk : ∀ (r : Int32) (u : S) (H1 : Heap) (locs1 : List Loc), post r u → va_P D vwCl (pre ++ (Wf u ++ suf)) H1 → va_D A0 (pre ++ (Wf u ++ suf)) → va_S A0 H0 H1 locs1 → W p l e R s m args below meth c H1 locs1 (cells + mc) (slots + ms) Q (F0 m (pc + 3) ls (.int r :: rest))) : W p l e R s m args below meth c H locs cells slots Q (F0 m pc ls st0) := by
  have hF := wFree (D := D) hD hS hA
  refine va_calli hr hS (fun q _ h => hF q h) hF (fun r u t H1 locs1 ht hvm hw hB hz1 hk1 hS1 => ?_)
  obtain ⟨hP1, hD1⟩ := hB
  rw [ht] at hP1
  obtain ⟨a1, a2⟩ := wFrame hP hD hk1 hF hP1 hD1
  exact kk r u H1 locs1 hw a1 a2 hS1
theorem wKrm {post : S → Prop} {pre Wc suf : va_W} {a : Array Value} (hr : va_Run p l e R s m args below meth c H locs cells slots mc ms (F0 m pc ls st0) rest (wQr D post Wf af (va_A Wc H.size) a) (va_A Wc H.size)) (hP : va_P D vwCl (pre ++ (Wc ++ suf)) H) (hD : va_D A0 (pre ++ (Wc ++ suf))) (hS : va_S A0 H0 H locs) (hA : ∀ q : Nat, H0.size ≤ q → A0 q)
    (kk : ∀ (u : S) (H1 : Heap) (locs1 : List Loc), post u → va_P D vwCl (pre ++ (Wf u ++ suf)) H1 → va_D A0 (pre ++ (Wf u ++ suf)) → va_S A0 H0 H1 locs1 → W p l e R s m args below meth c H1 locs1 (cells + mc) (slots + ms) Q (F0 m (pc + 3) ls (.ref (af u) :: rest))) : W p l e R s m args below meth c H locs cells slots Q (F0 m pc ls st0) := by
  have hF := wFree (D := D) hD hS hA
  refine va_callr hr hS (fun q _ h => hF q h) hF (fun u ra t H1 locs1 ht hvm hw hB hz1 hk1 hS1 => ?_)
  obtain ⟨⟨hP1, hD1⟩, rfl⟩ := hB
  rw [ht] at hP1
  obtain ⟨a1, a2⟩ := wFrame hP hD hk1 hF hP1 hD1
  exact kk u H1 locs1 hw a1 a2 hS1
theorem wCVim {post : Int32 → S → Prop} {W0 pre Wc suf : va_W} (F : CallFix p m c cc nL s args Ts own) (hM : wCt l y ws rm D tysc (.ref b :: As) Wc H.size mc ms (wQi D post Wf)) (hN : wNest s) (hA : ∀ q : Nat, H0.size ≤ q → A0 q) (hK : va_K D vwCl tysc s) (hS : va_S A0 H0 H locs) (hP : va_P D vwCl W0 H) (hD : va_D A0 W0) (hW0 : W0 = pre ++ (Wc ++ suf)) (q0 : Nat) {ci : Nat} {fs : List Value} {r : vw_C} (hc : vwCl[ci]? = some r) (he : Wc[q0]? = some (b, .inr (ci, fs)))
    (cw : CallW R s args own r.1 index y bytes maxL ret ws rm mc ms n) (hn : As.length = n) (hz : ls.size = nL) (hst : st0 = As.reverse ++ .ref b :: rest) (hr : (rest.map fun v => v.category).sum ≤ 8) (hdg : decode cc pc = .ok (.invokevirtual index, 3)) (hf : cells + mc ≤ R.cells ∧ slots + ms ≤ R.slots)
    (kk : ∀ (r : Int32) (u : S) (H1 : Heap) (locs1 : List Loc), post r u → va_P D vwCl (pre ++ (Wf u ++ suf)) H1 → va_D A0 (pre ++ (Wf u ++ suf)) → va_S A0 H0 H1 locs1 → W p l e R s m args below meth c H1 locs1 (cells + mc) (slots + ms) Q (F0 m (pc + 3) ls (.int r :: rest))) : W p l e R s m args below meth c H locs cells slots Q (F0 m pc ls st0) := by
  subst hW0
  exact wKim (va_runV (As := As) (rest := rest) F hM cw (wPreV hN hK hP hD q0 hc he) rfl hn hz hst (lv_room hr) hdg hf) hP hD hS hA kk
theorem wCVrm {post : S → Prop} {W0 pre Wc suf : va_W} (F : CallFix p m c cc nL s args Ts own) (hM : wCt l y ws rm D tysc (.ref b :: As) Wc H.size mc ms (wQr D post Wf af)) (hN : wNest s) (hA : ∀ q : Nat, H0.size ≤ q → A0 q) (hK : va_K D vwCl tysc s) (hS : va_S A0 H0 H locs) (hP : va_P D vwCl W0 H) (hD : va_D A0 W0) (hW0 : W0 = pre ++ (Wc ++ suf)) (q0 : Nat) {ci : Nat} {fs : List Value} {r : vw_C} (hc : vwCl[ci]? = some r) (he : Wc[q0]? = some (b, .inr (ci, fs)))
    (cw : CallW R s args own r.1 index y bytes maxL ret ws rm mc ms n) (hn : As.length = n) (hz : ls.size = nL) (hst : st0 = As.reverse ++ .ref b :: rest) (hr : (rest.map fun v => v.category).sum ≤ 8) (hdg : decode cc pc = .ok (.invokevirtual index, 3)) (hf : cells + mc ≤ R.cells ∧ slots + ms ≤ R.slots)
    (kk : ∀ (u : S) (H1 : Heap) (locs1 : List Loc), post u → va_P D vwCl (pre ++ (Wf u ++ suf)) H1 → va_D A0 (pre ++ (Wf u ++ suf)) → va_S A0 H0 H1 locs1 → W p l e R s m args below meth c H1 locs1 (cells + mc) (slots + ms) Q (F0 m (pc + 3) ls (.ref (af u) :: rest))) : W p l e R s m args below meth c H locs cells slots Q (F0 m pc ls st0) := by
  subst hW0
  exact wKrm (va_runV (As := As) (rest := rest) F hM cw (wPreV hN hK hP hD q0 hc he) rfl hn hz hst (lv_room hr) hdg hf) hP hD hS hA kk
theorem wCSrm {post : S → Prop} {W0 pre Wc suf : va_W} (F : CallFix p m c cc nL s args Ts own) (hM : wCt l y ws rm D tysc As Wc H.size mc ms (wQr D post Wf af)) (hN : wNest s) (hA : ∀ q : Nat, H0.size ≤ q → A0 q) (hK : va_K D vwCl tysc s) (hS : va_S A0 H0 H locs) (hP : va_P D vwCl W0 H) (hD : va_D A0 W0) (hW0 : W0 = pre ++ (Wc ++ suf))
    (cw : CallB R s args own index y bytes maxL ret ws rm mc ms n ∧ (Cond.static y).before args s = true) (hn : As.length = n) (hz : ls.size = nL) (hst : st0 = As.reverse ++ rest) (hr : (rest.map fun v => v.category).sum ≤ 8) (hdg : decode cc pc = .ok (.invokestatic index, 3)) (hf : cells + mc ≤ R.cells ∧ slots + ms ≤ R.slots)
    (kk : ∀ (u : S) (H1 : Heap) (locs1 : List Loc), post u → va_P D vwCl (pre ++ (Wf u ++ suf)) H1 → va_D A0 (pre ++ (Wf u ++ suf)) → va_S A0 H0 H1 locs1 → W p l e R s m args below meth c H1 locs1 (cells + mc) (slots + ms) Q (F0 m (pc + 3) ls (.ref (af u) :: rest))) : W p l e R s m args below meth c H locs cells slots Q (F0 m pc ls st0) := by
  subst hW0
  exact wKrm (va_runS (As := As) (rest := rest) F hM cw (wPreS hN hK hP hD) rfl hn hz hst (lv_room hr) hdg hf) hP hD hS hA kk
/-- a constructor, its row types known before -/
theorem wCIv {post : S → Prop} {W0 pre Wc suf : va_W} (F : CallFix p m c cc nL s args Ts own) (hM : wCt l y ws rm D tysc (.ref b :: As) Wc H.size mc ms (wQv D post Wf)) (hN : wNest s) (hA : ∀ q : Nat, H0.size ≤ q → A0 q) (hK : va_K D vwCl tysc s) (hS : va_S A0 H0 H locs) (hP : va_P D vwCl W0 H) (hD : va_D A0 W0) (hW0 : W0 = pre ++ (Wc ++ suf))
    (cw : CallB R s args own index y bytes maxL none ws rm mc ms n ∧ y.name = "<init>" ∧ (Cond.instanceMethod y).before args s = true) (hn : As.length = n) (hz : ls.size = nL) (hst : st0 = As.reverse ++ .ref b :: rest) (hr : (rest.map fun v => v.category).sum ≤ 8) (hdg : decode cc pc = .ok (.invokespecial index, 3)) (hf : cells + mc ≤ R.cells ∧ slots + ms ≤ R.slots)
    (kk : ∀ (u : S) (H1 : Heap) (locs1 : List Loc), post u → va_P D vwCl (pre ++ (Wf u ++ suf)) H1 → va_D A0 (pre ++ (Wf u ++ suf)) → va_S A0 H0 H1 locs1 → W p l e R s m args below meth c H1 locs1 (cells + mc) (slots + ms) Q (F0 m (pc + 3) ls rest)) : W p l e R s m args below meth c H locs cells slots Q (F0 m pc ls st0) := by
  subst hW0
  have hF := wFree (D := D) hD hS hA
  refine va_callv (va_runI (As := As) (rest := rest) F hM cw (wPreS hN hK hP hD) rfl hn hz hst (lv_room hr) hdg hf) hS (fun q _ h => hF q h) hF (fun u t H1 locs1 ht hvm hw hB hz1 hk1 hS1 => ?_)
  obtain ⟨hP1, hD1⟩ := hB
  rw [ht] at hP1
  obtain ⟨a1, a2⟩ := wFrame hP hD hk1 hF hP1 hD1
  exact kk u H1 locs1 hw a1 a2 hS1
/-- a method that reads the script: its row lies outside the world -/
def wPreC (D : va_G) (tys : List (ClassId × FieldType)) (W0 : va_W) (sz sb L : Nat) (xs : Nat → Int32) (U : State) : Prop := wPre D tys W0 sz U ∧ va_X sb L xs U U.heap ∧ sb < sz ∧ ¬ va_A W0 sz sb
abbrev wCc (l : Launch) (y : MethodName) (ws : List Cond) (rm : Room) (D : va_G) (tys : List (ClassId × FieldType)) (av : List Value) (W0 : va_W) (sz mc ms sb L : Nat) (xs : Nat → Int32) (Qf : (Nat → Prop) → Array Value → State → Outcome → State → Prop) : Prop :=
  Met l y ws rm (va_Pc av (wPreC D tys W0 sz sb L xs)) (Qf (va_A W0 sz)) mc ms (va_A W0 sz)
theorem wBlindC {av : List Value} {W0 : va_W} {sz sb L : Nat} {xs : Nat → Int32} : FrameBlind (va_Pc av (wPreC D tys W0 sz sb L xs)) := fun a U g mk q => by
  obtain ⟨e, ⟨hz, hP, hK, hD, hN⟩, hX, h2, h3⟩ := q
  exact ⟨e, ⟨hz, hP, va_K.moved (u := U) (U := U.calling g mk a) (Vm.Alike.refl U.vm) hK, hD, wNest.same rfl hN⟩, va_X.moved (u := U) (U := U.calling g mk a) (Vm.Alike.refl U.vm) hX, h2, h3⟩
theorem wMetC {av : List Value} {W0 : va_W} {sz sb L : Nat} {xs : Nat → Int32} {ws' : List Cond} {Qf : (Nat → Prop) → Array Value → State → Outcome → State → Prop} (cc : ByteArray) (maxL : Nat) (ret : Option FieldType)
    (hy : plainName y.cls = true) (hw : ws = Cond.code y cc maxL ret :: ws') (hle : (lg_sl av).length ≤ maxL)
    (body : ∀ (p : Program) (e : Env) (s : State) (m : MethodId) (args : Array Value) (below : List Frame) (meth : Method) (c : Code) (A : Nat → Prop) (Q : State → Prop) (ls : Array Slot), MQ below (Qf A) args s mc ms A = Q → p.tables.exec = Jvm.exec → c.code = cc → meth.sig.returnType = ret → c.maxLocals = maxL → s.vm.findClass y.cls = some m.cls → meth.locks = false → meth.name = y.name → (∀ w ∈ ws, w.before args s = true) → wNest s → va_P D vwCl W0 s.heap → va_K D vwCl tys s → va_D A W0 → (∀ q : Nat, s.heap.size ≤ q → A q) → va_S A s.heap s.heap [] → lv_has ls maxL (lv_args 0 av) → va_X sb L xs s s.heap → sb < s.heap.size → ¬ A sb → W p l e rm s m args below meth c s.heap [] 0 0 Q (F0 m 0 ls [])) :
    wCc l y ws rm D tys av W0 sz mc ms sb L xs Qf := by
  refine Met.ofW (cc := cc) (maxL := maxL) (ret := ret) hy hw ?_
  intro p e s m args below meth c s₁ B hml hv
  obtain ⟨rfl, ⟨hsz, hP, hK, hD0, hN⟩, hX, h2, h3⟩ := hv
  have hts := atoms_spec (ws := ws) B.pre
  have hin := (name_of_methodNamed B.named B.method).1
  subst hsz
  have hD := hD0.self (sz := s.heap.size)
  have hl := lv_entry av (n := maxL) hle
  rw [lg_entry_eq]
  exact body p e s m av.toArray below meth c (va_A W0 s.heap.size) _ _ rfl B.exec B.bytes B.returns hml (findClass_of_methodNamed B.named) B.notSynchronized hin hts hN hP hK hD (fun q h => Or.inr h) va_S.rf hl hX h2 h3
theorem wPreSc {pre Wc suf : va_W} {sb L : Nat} {xs : Nat → Int32} (hN : wNest s) (hK : va_K D vwCl tys s) (hP : va_P D vwCl (pre ++ (Wc ++ suf)) H) (hD : va_D A0 (pre ++ (Wc ++ suf))) (hS : va_S A0 s.heap H locs) (hA : ∀ q : Nat, s.heap.size ≤ q → A0 q) (hX : va_X sb L xs s s.heap) (hbl : sb < s.heap.size) (hbA : ¬ A0 sb) {av : List Value} : PreS s H (va_Pc av (wPreC D tys Wc H.size sb L xs)) av :=
  ⟨wBlindC, fun U hU hW => ⟨rfl, ⟨by rw [hU], by rw [hU]; exact wPc hP, va_K.moved hW.alike hK, wDc hD, wNest.warm hW hN⟩, by rw [hU]; exact va_X.moved hW.alike (hX.kept (hS.2.1 sb hbl hbA)), Nat.lt_of_lt_of_le hbl hS.1, fun h => hbA (wFree (D := D) hD hS hA sb h)⟩⟩
theorem wCSic {post : Int32 → S → Prop} {W0 pre Wc suf : va_W} {sb L : Nat} {xs : Nat → Int32} (F : CallFix p m c cc nL s args Ts own) (hM : wCc l y ws rm D tysc As Wc H.size mc ms sb L xs (wQi D post Wf)) (hN : wNest s) (hA : ∀ q : Nat, s.heap.size ≤ q → A0 q) (hX : va_X sb L xs s s.heap) (hbl : sb < s.heap.size) (hbA : ¬ A0 sb) (hK : va_K D vwCl tysc s) (hS : va_S A0 s.heap H locs) (hP : va_P D vwCl W0 H) (hD : va_D A0 W0) (hW0 : W0 = pre ++ (Wc ++ suf))
    (cw : CallB R s args own index y bytes maxL ret ws rm mc ms n ∧ (Cond.static y).before args s = true) (hn : As.length = n) (hz : ls.size = nL) (hst : st0 = As.reverse ++ rest) (hr : (rest.map fun v => v.category).sum ≤ 8) (hdg : decode cc pc = .ok (.invokestatic index, 3)) (hf : cells + mc ≤ R.cells ∧ slots + ms ≤ R.slots)
    (kk : ∀ (r : Int32) (u : S) (H1 : Heap) (locs1 : List Loc), post r u → va_P D vwCl (pre ++ (Wf u ++ suf)) H1 → va_D A0 (pre ++ (Wf u ++ suf)) → va_S A0 s.heap H1 locs1 → W p l e R s m args below meth c H1 locs1 (cells + mc) (slots + ms) Q (F0 m (pc + 3) ls (.int r :: rest))) : W p l e R s m args below meth c H locs cells slots Q (F0 m pc ls st0) := by
  subst hW0
  exact wKim (va_runS (As := As) (rest := rest) F hM cw (wPreSc hN hK hP hD hS hA hX hbl hbA) rfl hn hz hst (lv_room hr) hdg hf) hP hD hS hA kk
theorem wCSrc {post : S → Prop} {W0 pre Wc suf : va_W} {sb L : Nat} {xs : Nat → Int32} (F : CallFix p m c cc nL s args Ts own) (hM : wCc l y ws rm D tysc As Wc H.size mc ms sb L xs (wQr D post Wf af)) (hN : wNest s) (hA : ∀ q : Nat, s.heap.size ≤ q → A0 q) (hX : va_X sb L xs s s.heap) (hbl : sb < s.heap.size) (hbA : ¬ A0 sb) (hK : va_K D vwCl tysc s) (hS : va_S A0 s.heap H locs) (hP : va_P D vwCl W0 H) (hD : va_D A0 W0) (hW0 : W0 = pre ++ (Wc ++ suf))
    (cw : CallB R s args own index y bytes maxL ret ws rm mc ms n ∧ (Cond.static y).before args s = true) (hn : As.length = n) (hz : ls.size = nL) (hst : st0 = As.reverse ++ rest) (hr : (rest.map fun v => v.category).sum ≤ 8) (hdg : decode cc pc = .ok (.invokestatic index, 3)) (hf : cells + mc ≤ R.cells ∧ slots + ms ≤ R.slots)
    (kk : ∀ (u : S) (H1 : Heap) (locs1 : List Loc), post u → va_P D vwCl (pre ++ (Wf u ++ suf)) H1 → va_D A0 (pre ++ (Wf u ++ suf)) → va_S A0 s.heap H1 locs1 → W p l e R s m args below meth c H1 locs1 (cells + mc) (slots + ms) Q (F0 m (pc + 3) ls (.ref (af u) :: rest))) : W p l e R s m args below meth c H locs cells slots Q (F0 m pc ls st0) := by
  subst hW0
  exact wKrm (va_runS (As := As) (rest := rest) F hM cw (wPreSc hN hK hP hD hS hA hX hbl hbA) rfl hn hz hst (lv_room hr) hdg hf) hP hD hS hA kk
end SR
