section
/-! What the tables say of the class of rows of rows: carried along with a world. -/
def va_AOA (ty : FieldType) (U : State) : Prop := (Cond.arrayOver (.array ty)).before #[] U = true
theorem va_AOA.of {ty : FieldType} {A : Array Value} {U : State} (h : (Cond.arrayOver (.array ty)).before A U = true) : va_AOA ty U := h
theorem va_AOA.use {ty : FieldType} {A : Array Value} {U : State} (h : va_AOA ty U) : (Cond.arrayOver (.array ty)).before A U = true := h
theorem va_AOA.moved {ty : FieldType} {u U : State} (hvm : u.vm.Alike U.vm) (h : va_AOA ty u) : va_AOA ty U := over_moved hvm h
end
section
-- ===== PART A: goes FIRST, ahead of the names: the tables' words, and 'selects' of the private methods out of them =====
/-- a private method of a class that the tables say can be made, by its rows of tables_1 -/
def lw_okq (q : MethodName × Nat) : Prop := (q.1.cls ≠ "java/lang/invoke/MethodHandle" ∧ q.1.cls ≠ "java/lang/invoke/VarHandle") ∧ Cond.instantiable q.1.cls q.2 ∈ tables_1 ∧ Cond.privateMethod q.1 ∈ tables_1 ∧ Cond.instanceMethod q.1 ∈ tables_1
theorem lw_p0 : lw_okq (⟨"java/lang/Throwable", "fillInStackTrace", "(I)Ljava/lang/Throwable;"⟩, 6) := ⟨⟨by decide +kernel, by decide +kernel⟩, List.mem_of_getElem? (i := 154) (by decide +kernel), List.mem_of_getElem? (i := 152) (by decide +kernel), List.mem_of_getElem? (i := 153) (by decide +kernel)⟩
theorem lw_p1 : lw_okq (⟨"PauseLedger$Dinner", "goOneSecond", "()V"⟩, 17) := ⟨⟨by decide +kernel, by decide +kernel⟩, List.mem_of_getElem? (i := 21) (by decide +kernel), List.mem_of_getElem? (i := 196) (by decide +kernel), List.mem_of_getElem? (i := 197) (by decide +kernel)⟩
theorem lw_p2 : lw_okq (⟨"PauseLedger$Dinner", "speakOrPause", "()V"⟩, 17) := ⟨⟨by decide +kernel, by decide +kernel⟩, List.mem_of_getElem? (i := 21) (by decide +kernel), List.mem_of_getElem? (i := 200) (by decide +kernel), List.mem_of_getElem? (i := 201) (by decide +kernel)⟩
theorem lw_p3 : lw_okq (⟨"PauseLedger$Dinner", "beyondMultipleOfLimit", "(I)I"⟩, 17) := ⟨⟨by decide +kernel, by decide +kernel⟩, List.mem_of_getElem? (i := 21) (by decide +kernel), List.mem_of_getElem? (i := 204) (by decide +kernel), List.mem_of_getElem? (i := 205) (by decide +kernel)⟩
theorem lw_p4 : lw_okq (⟨"PauseLedger$Dinner", "moveGlances", "()V"⟩, 17) := ⟨⟨by decide +kernel, by decide +kernel⟩, List.mem_of_getElem? (i := 21) (by decide +kernel), List.mem_of_getElem? (i := 208) (by decide +kernel), List.mem_of_getElem? (i := 209) (by decide +kernel)⟩
theorem lw_p5 : lw_okq (⟨"PauseLedger$Dinner", "arrive", "(II)V"⟩, 17) := ⟨⟨by decide +kernel, by decide +kernel⟩, List.mem_of_getElem? (i := 21) (by decide +kernel), List.mem_of_getElem? (i := 212) (by decide +kernel), List.mem_of_getElem? (i := 213) (by decide +kernel)⟩
theorem lw_p6 : lw_okq (⟨"PauseLedger$Dinner", "forgetThoseOver", "()V"⟩, 17) := ⟨⟨by decide +kernel, by decide +kernel⟩, List.mem_of_getElem? (i := 21) (by decide +kernel), List.mem_of_getElem? (i := 223) (by decide +kernel), List.mem_of_getElem? (i := 224) (by decide +kernel)⟩
theorem lw_p7 : lw_okq (⟨"PauseLedger", "requireGuest", "(I)V"⟩, 2) := ⟨⟨by decide +kernel, by decide +kernel⟩, List.mem_of_getElem? (i := 13) (by decide +kernel), List.mem_of_getElem? (i := 239) (by decide +kernel), List.mem_of_getElem? (i := 240) (by decide +kernel)⟩
theorem lw_p8 : lw_okq (⟨"PauseLedger$Dinner", "unsaidByCough", "(II)I"⟩, 17) := ⟨⟨by decide +kernel, by decide +kernel⟩, List.mem_of_getElem? (i := 21) (by decide +kernel), List.mem_of_getElem? (i := 496) (by decide +kernel), List.mem_of_getElem? (i := 497) (by decide +kernel)⟩
theorem lw_p9 : lw_okq (⟨"PauseLedger", "requireFreeWay", "(II)V"⟩, 2) := ⟨⟨by decide +kernel, by decide +kernel⟩, List.mem_of_getElem? (i := 13) (by decide +kernel), List.mem_of_getElem? (i := 505) (by decide +kernel), List.mem_of_getElem? (i := 506) (by decide +kernel)⟩
theorem lw_p10 : lw_okq (⟨"PauseLedger$Dinner", "wayOf", "(II)I"⟩, 17) := ⟨⟨by decide +kernel, by decide +kernel⟩, List.mem_of_getElem? (i := 21) (by decide +kernel), List.mem_of_getElem? (i := 530) (by decide +kernel), List.mem_of_getElem? (i := 531) (by decide +kernel)⟩
def lw_privs_1 : List (MethodName × Nat) := [(⟨"java/lang/Throwable", "fillInStackTrace", "(I)Ljava/lang/Throwable;"⟩, 6), (⟨"PauseLedger$Dinner", "goOneSecond", "()V"⟩, 17), (⟨"PauseLedger$Dinner", "speakOrPause", "()V"⟩, 17), (⟨"PauseLedger$Dinner", "beyondMultipleOfLimit", "(I)I"⟩, 17), (⟨"PauseLedger$Dinner", "moveGlances", "()V"⟩, 17), (⟨"PauseLedger$Dinner", "arrive", "(II)V"⟩, 17), (⟨"PauseLedger$Dinner", "forgetThoseOver", "()V"⟩, 17), (⟨"PauseLedger", "requireGuest", "(I)V"⟩, 2), (⟨"PauseLedger$Dinner", "unsaidByCough", "(II)I"⟩, 17), (⟨"PauseLedger", "requireFreeWay", "(II)V"⟩, 2), (⟨"PauseLedger$Dinner", "wayOf", "(II)I"⟩, 17)]
theorem lw_r1 : ∀ q ∈ lw_privs_1, lw_okq q := List.forall_mem_cons.mpr ⟨lw_p0, List.forall_mem_cons.mpr ⟨lw_p1, List.forall_mem_cons.mpr ⟨lw_p2, List.forall_mem_cons.mpr ⟨lw_p3, List.forall_mem_cons.mpr ⟨lw_p4, List.forall_mem_cons.mpr ⟨lw_p5, List.forall_mem_cons.mpr ⟨lw_p6, List.forall_mem_cons.mpr ⟨lw_p7, List.forall_mem_cons.mpr ⟨lw_p8, List.forall_mem_cons.mpr ⟨lw_p9, List.forall_mem_cons.mpr ⟨lw_p10, fun _ h => absurd h List.not_mem_nil⟩⟩⟩⟩⟩⟩⟩⟩⟩⟩⟩
def lw_privs : List (MethodName × Nat) := lw_privs_1
def lw_tbl : List Cond := k2_sels lw_privs ++ tables_1
theorem lw_privs_ok : ∀ q ∈ lw_privs, lw_okq q := lw_r1
/-- the streams that the claim lets the run draw from -/
abbrev lw_cs : List Choice := [Jvm.Choice.named "NaN.bits"]
theorem lw_bits : nanBits ∈ lw_cs := by first | decide | exact List.mem_cons_self | simp [lw_cs, nanBits]
-- ===== end of PART A; then your names; then what follows =====
/-! ===== BEGIN words of one list among another's, by their places ===== -/
theorem goodIn_r {big : List Cond} (ws : List Cond) (ps : List Nat) (hp : ws = ps.filterMap (fun i => big[i]?)) (h : ws.all goodWord = true) : GoodIn big ws := by
  intro w hw
  have h1 := List.all_eq_true.mp h w hw
  rw [hp] at hw
  obtain ⟨i, -, hi⟩ := List.mem_filterMap.mp hw
  have hm : w ∈ big := by first | exact List.mem_of_getElem? hi | exact List.getElem?_mem hi
  exact ⟨hm, good_of_word h1⟩
theorem goodIn_app {big a b : List Cond} (ha : GoodIn big a) (hb : GoodIn big b) : GoodIn big (a ++ b) := fun w h => (List.mem_append.mp h).elim (ha w) (hb w)
theorem goodIn_ca {big a b : List Cond} {c : Cond} (ha : GoodIn big (c :: a)) (hb : GoodIn big b) : GoodIn big (c :: (a ++ b)) := fun w h => (List.mem_cons.mp h).elim (fun e => ha w (List.mem_cons.mpr (Or.inl e))) (fun h => (List.mem_append.mp h).elim (fun h => ha w (List.mem_cons.mpr (Or.inr h))) (hb w))
theorem goodIn_sub {big ws : List Cond} (hm : ∀ w ∈ ws, w ∈ big) (h : ws.all goodWord = true) : GoodIn big ws := fun w hw => ⟨hm w hw, good_of_word (List.all_eq_true.mp h w hw)⟩
/-! ===== END ===== -/

/-! ===== BEGIN new T[n][m]: the outer array a place, the inner ones among the pooled ===== -/
/-- f, but v at every address of l -/
def vr_up {α : Type} (f : Nat → α) (l : List Nat) (v : α) : Nat → α := fun a => if a ∈ l then v else f a
theorem vr_up_in {α : Type} {f : Nat → α} {l : List Nat} {v : α} {a : Nat} (h : a ∈ l) : vr_up f l v a = v := if_pos h
theorem vr_up_ne {α : Type} {f : Nat → α} {l : List Nat} {v : α} {a : Nat} (h : a ∉ l) : vr_up f l v a = f a := if_neg h
theorem vr_rows {L l : List Nat} {f : Nat → va_E} {e : va_E} (h : ∀ a, a ∈ l → a ∉ L) : va_pl L f ++ l.map (fun a => (a, e)) = va_pl (L ++ l) (vr_up f l e) := by
  unfold va_pl
  rw [List.map_append]
  congr 1
  · apply List.map_congr_left
    intro a ha
    rw [vr_up_ne (fun q => h a q ha)]
  · apply List.map_congr_left
    intro a ha
    rw [vr_up_in ha]
theorem vr_lay {X rows : va_W} {x : Nat × va_E} {pl : va_W} {D : va_G} {cl : List vw_C} {H : Heap} (hP : va_P D cl (((X ++ pl) ++ [x]) ++ rows) H) : va_P D cl ((X ++ [x]) ++ (pl ++ rows)) H := by
  rw [List.append_assoc (X ++ pl)] at hP
  have h := va_P.swap hP
  rw [← List.append_assoc X] at h
  have h2 := va_P.swap h
  rw [List.append_assoc (X ++ [x])] at h2
  exact h2
theorem vr_layD {X rows : va_W} {x : Nat × va_E} {pl : va_W} {A : Nat → Prop} (hD : va_D A (((X ++ pl) ++ [x]) ++ rows)) : va_D A ((X ++ [x]) ++ (pl ++ rows)) := by
  rw [List.append_assoc (X ++ pl)] at hD
  have h := va_D.swap hD
  rw [← List.append_assoc X] at h
  have h2 := va_D.swap h
  rw [List.append_assoc (X ++ [x])] at h2
  exact h2
theorem vr_outer (c : ClassId) (N h0 : Nat) : ∀ i : Nat, Jvm.Free.Multi.outerC c N h0 i = arrV c N (fun j => va_rf (if j < i then some (h0 + 1 + j) else none))
  | 0 => by
    show ({ cls := c, slots := Array.replicate N .null, vm := .none } : Cell) = _
    rw [arrV_new]
    refine congrArg (arrV c N) (funext fun j => ?_)
    simp [va_rf]
  | i + 1 => by
    show (Jvm.Free.Multi.outerC c N h0 i).setSlot i (.ref (h0 + 1 + i)) = _
    rw [vr_outer c N h0 i, arrV_store]
    refine congrArg (arrV c N) (funext fun j => ?_)
    by_cases e : j = i
    · subst e
      simp [updV, va_rf]
    · by_cases h : j < i
      · simp [updV, e, h, Nat.lt_succ_of_lt h]
      · simp [updV, e, h, show ¬ j < i + 1 by omega]
section VGM
variable {p : Program} {l : Launch} {e : Env} {R : Room} {s : State} {m : MethodId} {args : Array Value} {below : List Frame} {meth : Method} {c : Code} {H : Heap} {locs : List Loc} {cells slots : Nat} {Q : State → Prop}
variable {cc : ByteArray} {pc : Nat} {ls : Array Slot} {rest : List Value} {D : va_G} {cl : List vw_C} {A : Nat → Prop} {a : Nat} {tys : List (ClassId × FieldType)} {ws : va_W} {H0 : Heap}
theorem va_mna {X : va_W} {L : List Nat} {f : Nat → va_E} {cc : ByteArray} (hexec : p.tables.exec = Jvm.exec) (hb : c.code = cc) {own : String} {index : Nat} {ty : FieldType} {cy : ClassId} (hown : s.vm.findClass own = some m.cls) (hclink : (Cond.classLink own index ("[" ++ (FieldType.array ty).toString)).before args s = true) (hover : va_AOA ty s) (harr : (Cond.arrayClass ty).before args s = true) (hcy : s.vm.findClass (FieldType.array ty).toString = some cy)
    (hK : va_K D cl tys s) (hP : va_P D cl (X ++ va_pl L f) H) (hD : va_D A (X ++ va_pl L f)) (hS : va_S A H0 H locs) (hA : ∀ q, H0.size ≤ q → A q) {n k : Int32} {N' K' : Nat} {z : vp_A} (hn : ¬ n < 0) (hk : ¬ k < 0) (hN : n.toNatClampNeg = N') (hM : k.toNatClampNeg = K')
    (hb1 : N' * 4 ≤ 536870912) (hb2 : K' * componentBytes ty ≤ 536870912) (hb3 : K' ≤ 536870912) (hdf : fits ty (defaultValue ty) = true) (hdd : (defaultValue ty).isDefault = true) (hcells : cells + (1 + N') ≤ R.cells) (hslots : slots + (N' + N' * K') ≤ R.slots) (hz : ∀ c : ClassId, Jvm.Free.Multi.innerC c K' (defaultValue ty) = vp_cell c z) (hdg : decode cc pc = .ok (.multianewarray index 2, 4))
    (kk : ∀ (q : Nat) (r : Nat → Nat) (cA : ClassId) (H1 : Heap), (∀ i j : Nat, i < N' → j < N' → r i = r j → i = j) → (∀ i : Nat, i < N' → r i ∉ L) → va_K D cl (tys ++ [(cA, .array ty)]) s →
      va_P D cl ((X ++ [(q, .inl (cA, N', .inr (.inr (.inr (.inr (fun i => if i < N' then some (r i) else none))))))]) ++ va_pl (L ++ (List.range N').map r) (vr_up f ((List.range N').map r) (.inl (cy, z)))) H1 → va_D A ((X ++ [(q, .inl (cA, N', .inr (.inr (.inr (.inr (fun i => if i < N' then some (r i) else none))))))]) ++ va_pl (L ++ (List.range N').map r) (vr_up f ((List.range N').map r) (.inl (cy, z)))) → va_S A H0 H1 locs →
      W p l e R s m args below meth c H1 locs (cells + 1 + N') (slots + N' + N' * K') Q (F0 m (pc + 4) ls (.ref q :: rest))) : W p l e R s m args below meth c H locs cells slots Q (F0 m pc ls (.int k :: .int n :: rest)) := by
  subst hN
  subst hM
  intro T hT Xs
  obtain ⟨vm₁, cA, comp, -, fA, fC, hO, -, X', step⟩ := Xs.multianewarray2F hexec hown hclink (va_AOA.use hover) harr (g := F0 m pc ls (.int k :: .int n :: rest)) rfl (by rw [hb]; exact hdg) rfl hn hk hb1 hb2 hb3 hdf hdd hcells hslots
  have ec : some cy = some comp := hcy.symm.trans fC
  cases ec
  generalize hF : Jvm.Free.Multi.fill (T.setVm vm₁) cA cy n.toNatClampNeg k.toNatClampNeg (defaultValue ty) n.toNatClampNeg = F at X' step
  have hTh : (T.setVm vm₁).heap = H := hT
  obtain ⟨f1, f2, -, -⟩ := Jvm.Free.Multi.fill_facts (T.setVm vm₁) cA cy n.toNatClampNeg k.toNatClampNeg (defaultValue ty) n.toNatClampNeg
  rw [hF, hTh] at f1 f2
  have hold : ∀ x : Nat, x < H.size → F.heap[x]? = H[x]? := fun x hx => by
    have := Jvm.Free.Multi.fill_old (T.setVm vm₁) cA cy n.toNatClampNeg k.toNatClampNeg (defaultValue ty) (a := x) (by rw [hTh]; exact hx) n.toNatClampNeg
    rw [hF, hTh] at this
    exact this
  have hrow : ∀ j : Nat, j < n.toNatClampNeg → F.heap[H.size + 1 + j]? = some (vp_cell cy z) := fun j hj => by
    have := Jvm.Free.Multi.fill_inner (T.setVm vm₁) cA cy n.toNatClampNeg k.toNatClampNeg (defaultValue ty) n.toNatClampNeg j hj
    rw [hF, hTh, hz] at this
    exact this
  have hout : Jvm.Free.Multi.outerC cA n.toNatClampNeg H.size n.toNatClampNeg = vp_cell cA (n.toNatClampNeg, .inr (.inr (.inr (.inr (fun i => if i < n.toNatClampNeg then some (H.size + 1 + i) else none))))) := by
    rw [vp_cell_q]
    exact vr_outer cA n.toNatClampNeg H.size n.toNatClampNeg
  rw [hout] at f2
  have hlt : ∀ a, a ∈ L → a < H.size := fun a ha => by
    obtain ⟨k9, hk9⟩ := va_pl_get (X := X) (f := f) ha
    exact (hP k9 _ hk9).lt
  have hnl : ∀ i : Nat, i < n.toNatClampNeg → H.size + 1 + i ∉ L := fun i _ h => by
    have := hlt _ h
    omega
  have hnm : ∀ a, a ∈ (List.range n.toNatClampNeg).map (fun i => H.size + 1 + i) → a ∉ L := fun a ha h => by
    obtain ⟨i, -, rfl⟩ := List.mem_map.mp ha
    have := hlt _ h
    omega
  have hP0 : va_P D cl (X ++ va_pl L f) F.heap := hP.kept (fun k9 x hx => hold x.1 ((hP k9 x hx).lt))
  have hP1 : va_P D cl ((X ++ va_pl L f) ++ [(H.size, .inl (cA, n.toNatClampNeg, .inr (.inr (.inr (.inr (fun i => if i < n.toNatClampNeg then some (H.size + 1 + i) else none))))))]) F.heap := hP0.app (fun k9 x hx => by
    have h0 : k9 < 1 := (List.getElem?_eq_some_iff.mp hx).1
    rw [show k9 = 0 by omega] at hx
    cases hx
    exact f2)
  have hP2 : va_P D cl (((X ++ va_pl L f) ++ [(H.size, .inl (cA, n.toNatClampNeg, .inr (.inr (.inr (.inr (fun i => if i < n.toNatClampNeg then some (H.size + 1 + i) else none))))))]) ++ ((List.range n.toNatClampNeg).map (fun i => H.size + 1 + i)).map (fun a => (a, .inl (cy, z)))) F.heap := hP1.app (fun k9 x hx => by
    obtain ⟨a, ha, rfl⟩ := List.mem_map.mp (List.mem_of_getElem? hx)
    obtain ⟨i, hi, rfl⟩ := List.mem_map.mp ha
    exact hrow i (List.mem_range.mp hi))
  have hD2 : va_D A (((X ++ va_pl L f) ++ [(H.size, .inl (cA, n.toNatClampNeg, .inr (.inr (.inr (.inr (fun i => if i < n.toNatClampNeg then some (H.size + 1 + i) else none))))))]) ++ ((List.range n.toNatClampNeg).map (fun i => H.size + 1 + i)).map (fun a => (a, .inl (cy, z)))) := by
    have hD1 := hD.push (e := .inl (cA, n.toNatClampNeg, .inr (.inr (.inr (.inr (fun i => if i < n.toNatClampNeg then some (H.size + 1 + i) else none)))))) hP rfl (hA _ hS.1)
    generalize hW1 : (X ++ va_pl L f) ++ [(H.size, .inl (cA, n.toNatClampNeg, .inr (.inr (.inr (.inr (fun i => if i < n.toNatClampNeg then some (H.size + 1 + i) else none))))))] = W1 at hD1 hP1 ⊢
    have hle : ∀ (k9 : Nat) (x : Nat × va_E), W1[k9]? = some x → x.1 ≤ H.size := fun k9 x hx => by
      rw [← hW1] at hx
      by_cases hl : k9 < (X ++ va_pl L f).length
      · rw [List.getElem?_append_left hl] at hx
        exact Nat.le_of_lt ((hP k9 x hx).lt)
      · rw [List.getElem?_append_right (by omega)] at hx
        have h0 : k9 - (X ++ va_pl L f).length < 1 := (List.getElem?_eq_some_iff.mp hx).1
        rw [show k9 - (X ++ va_pl L f).length = 0 by omega] at hx
        cases hx
        exact Nat.le_refl _
    have hr : ∀ (k9 : Nat) (x : Nat × va_E), (((List.range n.toNatClampNeg).map (fun i => H.size + 1 + i)).map (fun a => ((a, .inl (cy, z)) : Nat × va_E)))[k9]? = some x → x.1 = H.size + 1 + k9 := fun k9 x hx => by
      rw [List.getElem?_map, List.getElem?_map] at hx
      by_cases h9 : k9 < n.toNatClampNeg
      · rw [List.getElem?_range h9] at hx
        cases hx
        rfl
      · have hn0 : (List.range n.toNatClampNeg)[k9]? = none := List.getElem?_eq_none (by rw [List.length_range]; omega)
        rw [hn0] at hx
        cases hx
    refine ⟨fun i j x y hi hj hxy => ?_, fun k9 x hx => ?_⟩
    · by_cases h1 : i < W1.length <;> by_cases h2 : j < W1.length
      · rw [List.getElem?_append_left h1] at hi
        rw [List.getElem?_append_left h2] at hj
        exact hD1.1 i j x y hi hj hxy
      · rw [List.getElem?_append_left h1] at hi
        rw [List.getElem?_append_right (by omega)] at hj
        have := hle _ _ hi
        have := hr _ _ hj
        omega
      · rw [List.getElem?_append_right (by omega)] at hi
        rw [List.getElem?_append_left h2] at hj
        have := hle _ _ hj
        have := hr _ _ hi
        omega
      · rw [List.getElem?_append_right (by omega)] at hi hj
        have := hr _ _ hi
        have := hr _ _ hj
        omega
    · by_cases h1 : k9 < W1.length
      · rw [List.getElem?_append_left h1] at hx
        exact hD1.2 k9 x hx
      · rw [List.getElem?_append_right (by omega)] at hx
        have := hr _ _ hx
        exact hA _ (by have := hS.1; omega)
  have hAr : ArrOfT s cA (.array ty) := fun N9 z9 => by
    obtain ⟨-, k9, hk9, cm9, hkk9⟩ := (hO 0 0 0).1
    exact ⟨(fun q hq => by cases hq), k9, hk9, cm9, hkk9⟩
  have hK2 : va_K D cl (tys ++ [(cA, .array ty)]) s := ⟨hK.1, fun k9 x hx => by
    by_cases hl : k9 < tys.length
    · rw [List.getElem?_append_left hl] at hx
      exact hK.2 k9 x hx
    · rw [List.getElem?_append_right (by omega)] at hx
      have h0 : k9 - tys.length < 1 := (List.getElem?_eq_some_iff.mp hx).1
      rw [show k9 - tys.length = 0 by omega] at hx
      cases hx
      exact ⟨hAr, fA⟩⟩
  obtain ⟨t, a1, b1⟩ := kk H.size (fun i => H.size + 1 + i) cA F.heap (fun i j _ _ h => by have h9 : H.size + 1 + i = H.size + 1 + j := h; omega) hnl hK2 (by rw [← vr_rows hnm]; exact vr_lay hP2) (by rw [← vr_rows hnm]; exact vr_layD hD2) ⟨by rw [f1]; have := hS.1; omega, fun x h1 h2 => (hold x (Nat.lt_of_lt_of_le h1 hS.1)).trans (hS.2.1 x h1 h2), hS.2.2⟩ F rfl X'
  refine ⟨t, step t ?_, b1⟩
  have e : T.heap.size = H.size := by rw [hT]
  rw [e]
  exact a1
end VGM
/-! ===== END ===== -/

/-! ===== BEGIN exceptions that leave a method, and their catching by the caller (launches without stack traces) ===== -/
section VXA
/-! The laws vx_back, vx_callV, vx_callS, vx_callSW, vx_throw0, vx_throwS follow proofs of the library, with one case more: JvmDerived/Free/Laws.lean (Back.of_free), Shelf42/LK1.lean (callV, callS), Shelf/KitTraced.lean (throwNew0V, throwNewS). -/
/-- where a method has thrown q: the class by its name, the cell, what was written, the world -/
def vx_T (XC : String → State → State → Prop) (st : State) (q : Addr) (t : State) (mc ms : Nat) (free : Addr → Prop) : Prop :=
  ∃ (E : String) (ce : Cell) (L : List Loc), XC E st t ∧ t.heap[q]? = some ce ∧ ce.vm = .none ∧ st.vm.findClass E = some ce.cls ∧ st.WarmedH t.vm ∧ st.sameButNew ({ t with vm := st.vm } : State) L mc ms ∧ ∀ z ∈ L, free z.base
def vx_Q (Qc : Array Value → State → Outcome → State → Prop) (XC : String → State → State → Prop) (mc ms : Nat) (free : Addr → Prop) : Array Value → State → Outcome → State → Prop := fun a st o t =>
  (Qc a st o t ∧ ∃ L, FrameEnd st o t L mc ms ∧ ∀ q ∈ L, free q.base) ∨ ∃ q, o = .threw q ∧ vx_T XC st q t mc ms free
/-- a callee that returns or throws -/
def vx_Met (l : Launch) (y : MethodName) (ws : List Cond) (rm : Room) (Pc : Array Value → State → Prop) (Qc : Array Value → State → Outcome → State → Prop) (XC : String → State → State → Prop) (mc ms : Nat) (free : Addr → Prop) : Prop :=
  MetFree l y (headSpec ws rm) Pc (fun _ _ _ _ _ => True) (vx_Q Qc XC mc ms free)
def vx_Post (XC : String → State → State → Prop) (mc ms : Nat) (free : Addr → Prop) : Pt → Array Value → Addr → Pt → Prop := fun A a q B =>
  ∃ (g : JFrame) (mk : MethodId) (t : State) (L : List Loc) (E : String) (ce : Cell), B.U.heap = t.heap ∧ B.U.vm = t.vm ∧ XC E (A.U.calling g mk a) t ∧ t.heap[q]? = some ce ∧ ce.vm = .none ∧ A.U.vm.findClass E = some ce.cls ∧ B.locs = A.locs ++ L ∧ (∀ z ∈ L, free z.base) ∧ B.cells = A.cells + mc ∧ B.slots = A.slots + ms
def vx_Back (l : Launch) (R : Room) (p : Program) (e : Env) (below : List Frame) (s : State) (sargs : Array Value) (y : MethodName) (len W9 : Nat)
    (Pre : Pt → Array Value → Prop) (Post : Pt → Array Value → Option Value → Pt → Prop) (PostX : Pt → Array Value → Addr → Pt → Prop) : Prop :=
  ∀ (m : MethodId) (meth : Method) (c : Code) (A : Pt) (g : JFrame) (ig : Instr) (mk : MethodId) (a : Array Value),
    Stand p l e R s m sargs below meth c A.U A.locs A.cells A.slots → g.method = m → g.locals.size = c.maxLocals → decode c.code g.pc = .ok (ig, len) →
    2 * g.monitorRoom + (g.stack.map fun v => v.category).sum ≤ W9 → A.U.methodNamed? y = some mk → Pre A a →
    (∃ (v : Option Value) (B : Pt), Stand p l e R s m sargs below meth c B.U B.locs B.cells B.slots ∧ Post A a v B ∧
      Steps p.tables e below (doInvoke e (A.U.setTop g) [] mk a).1 (B.U.setTop { g with pc := g.pc + len, stack := v.toList ++ g.stack })) ∨
    (∃ (q : Addr) (B : Pt), Stand p l e R s m sargs below meth c B.U B.locs B.cells B.slots ∧ PostX A a q B ∧
      Steps p.tables e below (doInvoke e (A.U.setTop g) [] mk a).1 ((B.U.setTop g).pushFrame (.throwing q)))
section Payer
variable {l : Launch} {R : Room} {p : Program} {e : Env} {below : List Frame} {s : State} {sargs : Array Value} {y : MethodName} {len W9 : Nat}
theorem vx_back {ws : List Cond} {rm : Room} {Pc : Array Value → State → Prop} {Qc : Array Value → State → Outcome → State → Prop} {XC : String → State → State → Prop} {mc ms : Nat} {free : Addr → Prop} {bytes : ByteArray} {maxL : Nat} {ret : Option FieldType}
    (hM : vx_Met l y ws rm Pc Qc XC mc ms free) (hblind : FrameBlind Pc) (hrc : rm.cells = mc) (hrs : rm.slots = ms)
    (hframes : rm.frames + 1 ≤ R.frames) (hlocals : W9 + (maxL + 11) + rm.locals ≤ R.locals)
    (hws : ∀ w ∈ ws, ∀ a' U, s.WarmedH U.vm → w.before a' U = true) (hcode : Cond.code y bytes maxL ret ∈ ws) (hinit : ∀ a' U, s.WarmedH U.vm → (Cond.initialized y.cls).before a' U = true) :
    vx_Back l R p e below s sargs y len W9 (PreOf R mc ms Pc) (PostOf Qc mc ms free) (vx_Post XC mc ms free) := by
  intro m meth c A g ig mk a X hg hsize hdg hW hn hp
  have h1 : (headSpec ws rm).pre.before a A.U = true := atoms_intro fun w hw => hws w hw _ _ X.warmed
  have h2 : (Cond.code y bytes maxL ret).before a A.U = true := hws _ hcode _ _ X.warmed
  have h3 : (Cond.initialized y.cls).before a A.U = true := hinit _ _ X.warmed
  have h4 : A.cells + (headSpec ws rm).room.cells ≤ R.cells := by rw [show (headSpec ws rm).room.cells = mc from hrc]; exact hp.1
  have h5 : A.slots + (headSpec ws rm).room.slots ≤ R.slots := by rw [show (headSpec ws rm).room.slots = ms from hrs]; exact hp.2.1
  have hPc : Pc a (A.U.calling g mk a) := hblind _ _ _ _ hp.2.2
  obtain ⟨U, Ls, c0, s0⟩ := A
  dsimp only [Pt.U, Pt.locs, Pt.cells, Pt.slots] at h1 h2 h3 h4 h5 X hn hPc ⊢
  obtain ⟨methY, cY, hmY, hcY, -, hlY, -, -, -, -⟩ := Cond.code_spec hn h2
  obtain ⟨kY, hkY, -⟩ := className_of_methodNamed hn
  have hinitY : kY.init = .initialized := Cond.initialized_spec (findClass_of_methodNamed hn) hkY h3
  have h : At U g.method c below := by rw [hg]; exact X.here
  have hlocals9 : W9 + (maxL + 11) + (headSpec ws rm).room.locals ≤ R.locals := hlocals
  have happ : (headSpec ws rm).appliesLoose y e.platform (U.calling g mk a) = true :=
    Spec.appliesLoose_calling (g := g) h hdg hn hkY hinitY
      (X.room_calling (g := g) (R' := (headSpec ws rm).room) hsize hmY hcY hframes (by rw [hlY]; omega) h4 h5) h1
  obtain ⟨mid, hmid⟩ := h.above
  have hfr : (U.setTop g).frames = (.java g :: mid) ++ below := by rw [State.frames_setTop' g h.top, hmid]; rfl
  obtain ⟨o, s₂, hsteps, -, hend, hq⟩ := Steps.callFree hM p X.admits X.cas X.clock (acts := []) hfr happ hPc trivial
  have hq' : vx_Q Qc XC mc ms free a (U.calling g mk a) o s₂ := hq
  rw [State.frames_setTop' g h.top] at hend
  obtain ⟨g₀, hg0⟩ := Option.isSome_iff_exists.mp h.top
  obtain ⟨r, hr⟩ := State.topJava?_eq_some.mp hg0
  have hr' : (({ U with heap := s₂.heap, slotsUsed := s₂.slotsUsed } : State).setVm s₂.vm).frames = .java g₀ :: r := hr
  rcases hq' with ⟨hqc, L, hfe, hL⟩ | ⟨q, rfl, E, ce, L, hx, hce, hcv, hcl, hW₂, hsm, hL⟩
  · obtain ⟨⟨v, rfl⟩, hW₂, e2, q2, q3, q4, q5, q6⟩ := id hfe
    have e3 : s₂ = ({ (U.calling g mk a).setFrames s₂.frames with heap := s₂.heap, slotsUsed := s₂.slotsUsed } : State).setVm s₂.vm := by
      have : s₂ = ({ s₂ with vm := (U.calling g mk a).vm } : State).setVm s₂.vm := rfl
      rw [e2] at this
      exact this
    obtain ⟨c₂, i₂, len₂, hc₂, hd₂, hf₂⟩ := hend
    have hW' : U.WarmedH s₂.vm := hW₂
    have hcc : c₂ = c := by
      have h1 : s₂.code? g.method = U.code? g.method := by
        rw [State.code?_eq, State.code?_eq, hW'.alike.method?]
      exact Option.some.inj (hc₂.symm.trans (h1.trans h.code))
    subst hcc
    have hlen : len₂ = len := by rw [hdg] at hd₂; cases hd₂; rfl
    subst hlen
    have hs₂ : s₂ = (({ U with heap := s₂.heap, slotsUsed := s₂.slotsUsed } : State).setVm s₂.vm).setTop { g with pc := g.pc + len₂, stack := v.toList ++ g.stack } := by
      refine e3.trans ?_
      rw [hf₂, State.calling_eq h.top, State.setFrames_setFrames, State.setTop_of_frames _ hr', hr]
      rfl
    have hsame : U.sameButNew ({ U with heap := s₂.heap, slotsUsed := s₂.slotsUsed } : State) L mc ms := by
      refine ⟨?_, q2, q3, q4, q5, q6⟩
      obtain ⟨t, ht, -⟩ := State.frames_cons hr
      show ({ U with heap := s₂.heap, slotsUsed := s₂.slotsUsed } : State) = { U.setFrames U.frames with heap := s₂.heap, slotsUsed := s₂.slotsUsed }
      rw [State.setFrames_self ht]
    subst hg
    refine Or.inl ⟨v, ⟨(({ U with heap := s₂.heap, slotsUsed := s₂.slotsUsed } : State).setVm s₂.vm), Ls ++ L, c0 + mc, s0 + ms⟩,
      ⟨X.admits, X.cas, X.clock, X.frames, X.room, X.hears, X.method, X.code, (X.here.setHeapUsed s₂.heap s₂.slotsUsed).setVm hW'.alike, X.tail, State.WarmedH.trans X.warmed hW', X.limits, X.bytes, X.same.trans (hsame.setVm s.vm)⟩,
      ⟨g, mk, s₂, L, rfl, rfl, hqc, rfl, hL, rfl, rfl⟩, ?_⟩
    show Steps p.tables e below _ ((({ U with heap := s₂.heap, slotsUsed := s₂.slotsUsed } : State).setVm s₂.vm).setTop { g with pc := g.pc + len₂, stack := v.toList ++ g.stack })
    rw [← hs₂]
    exact hsteps
  · obtain ⟨e2, q2, q3, q4, q5, q6⟩ := id hsm
    have e3 : s₂ = ({ (U.calling g mk a).setFrames s₂.frames with heap := s₂.heap, slotsUsed := s₂.slotsUsed } : State).setVm s₂.vm := by
      have : s₂ = ({ s₂ with vm := (U.calling g mk a).vm } : State).setVm s₂.vm := rfl
      rw [e2] at this
      exact this
    have hf₂ : s₂.frames = .throwing q :: .java g :: U.frames.tail := hend
    have hW' : U.WarmedH s₂.vm := hW₂
    have hs₂ : s₂ = ((({ U with heap := s₂.heap, slotsUsed := s₂.slotsUsed } : State).setVm s₂.vm).setTop g).pushFrame (.throwing q) := by
      refine e3.trans ?_
      rw [hf₂, State.calling_eq h.top, State.setFrames_setFrames, State.pushFrame, State.frames_setTop _ hr', State.setTop_of_frames _ hr', State.setFrames_setFrames, hr]
      rfl
    have hsame : U.sameButNew ({ U with heap := s₂.heap, slotsUsed := s₂.slotsUsed } : State) L mc ms := by
      refine ⟨?_, q2, q3, q4, q5, q6⟩
      obtain ⟨t, ht, -⟩ := State.frames_cons hr
      show ({ U with heap := s₂.heap, slotsUsed := s₂.slotsUsed } : State) = { U.setFrames U.frames with heap := s₂.heap, slotsUsed := s₂.slotsUsed }
      rw [State.setFrames_self ht]
    subst hg
    refine Or.inr ⟨q, ⟨(({ U with heap := s₂.heap, slotsUsed := s₂.slotsUsed } : State).setVm s₂.vm), Ls ++ L, c0 + mc, s0 + ms⟩,
      ⟨X.admits, X.cas, X.clock, X.frames, X.room, X.hears, X.method, X.code, (X.here.setHeapUsed s₂.heap s₂.slotsUsed).setVm hW'.alike, X.tail, State.WarmedH.trans X.warmed hW', X.limits, X.bytes, X.same.trans (hsame.setVm s.vm)⟩,
      ⟨g, mk, s₂, L, E, ce, rfl, rfl, hx, hce, hcv, hcl, rfl, hL, rfl, rfl⟩, ?_⟩
    show Steps p.tables e below _ (((({ U with heap := s₂.heap, slotsUsed := s₂.slotsUsed } : State).setVm s₂.vm).setTop g).pushFrame (.throwing q))
    rw [← hs₂]
    exact hsteps
end Payer
section Calls
variable {p : Program} {l : Launch} {e : Env} {R : Room} {s : State} {m : MethodId} {args : Array Value} {below : List Frame} {meth : Method} {c : Code} {T : State} {locs : List Loc} {cells slots : Nat}
theorem vx_callV (X : Stand p l e R s m args below meth c T locs cells slots) (hexec : p.tables.exec = Jvm.exec) {own C : String} {index : Nat} {y : MethodName} {bytes : ByteArray} {maxL : Nat} {ret : Option FieldType}
    (hown : s.vm.findClass own = some m.cls) (hlink : (Cond.methodLink own index y).before args s = true) (hinst : (Cond.instanceMethod y).before args s = true) (hsel : (Cond.selects C y y).before args s = true)
    (hcode : (Cond.code y bytes maxL ret).before args s = true) (hy : y.cls ≠ "java/lang/invoke/MethodHandle" ∧ y.cls ≠ "java/lang/invoke/VarHandle")
    {W9 : Nat} {Pre : Pt → Array Value → Prop} {Post : Pt → Array Value → Option Value → Pt → Prop} {PostX : Pt → Array Value → Addr → Pt → Prop} (hK : vx_Back l R p e below s args y 3 W9 Pre Post PostX)
    {b : Addr} {cellB : Cell} (hcell : T.heap[b]? = some cellB) (hobj : cellB.vm.isStatics = false) (hcls : s.vm.findClass C = some cellB.cls)
    {g : JFrame} (hg : g.method = m) (hsize : g.locals.size = c.maxLocals) {argsL rest : List Value} (hlen : ∀ sig, parseMethodDescriptor y.desc = some sig → argsL.length = sig.parameters.length)
    (hstack : g.stack = argsL.reverse ++ .ref b :: rest) (hW : 2 * g.monitorRoom + (rest.map fun v => v.category).sum ≤ W9) (hdg : decode c.code g.pc = .ok (.invokevirtual index, 3))
    (hpre : ∀ vm₁, s.WarmedH vm₁ → Pre ⟨T.setVm vm₁, locs, cells, slots⟩ (Value.ref b :: argsL).toArray) :
    (∃ (v : Option Value) (vm₁ : Vm) (B : Pt), s.WarmedH vm₁ ∧ Stand p l e R s m args below meth c B.U B.locs B.cells B.slots ∧ Post ⟨T.setVm vm₁, locs, cells, slots⟩ (Value.ref b :: argsL).toArray v B ∧
      ∀ target, Steps p.tables e below (B.U.setTop { g with pc := g.pc + 3, stack := v.toList ++ rest }) target → Steps p.tables e below (T.setTop g) target) ∨
    (∃ (q : Addr) (vm₁ : Vm) (B : Pt), s.WarmedH vm₁ ∧ Stand p l e R s m args below meth c B.U B.locs B.cells B.slots ∧ PostX ⟨T.setVm vm₁, locs, cells, slots⟩ (Value.ref b :: argsL).toArray q B ∧
      Steps p.tables e below (T.setTop g) ((B.U.setTop { g with stack := rest }).pushFrame (.throwing q))) := by
  obtain ⟨mk, methM, hnamed, hmethM, hstM, habM⟩ := Cond.instanceMethod_spec hinst
  obtain ⟨methM', cM, hmethM', -, -, -, -, -, -, hsigM⟩ := Cond.code_spec hnamed hcode
  cases hmethM.symm.trans hmethM'
  obtain ⟨c2, r2, m2, q1, q2, q3, q4, kP, hkP, hkPi⟩ := Cond.selects_spec hsel
  cases hcls.symm.trans q1
  cases (State.methodFound?_of_named hnamed hy).symm.trans q2
  cases hnamed.symm.trans q3
  have hselP : selectMethod e.platform s.vm cellB.cls mk = .method mk := by rw [Launch.admits_selectMethod X.admits]; exact q4
  obtain ⟨vm₁, X₁, hstep₁⟩ := X.invokevirtual hexec hown hlink hnamed hmethM hstM hkP hkPi hy (a := b) (cell := cellB) hcell
    (fun z h => by rw [h] at hobj; cases hobj) hselP hmethM habM hkP hkPi (g := g) hg (argsL := argsL) (rest := rest) (hlen _ hsigM) hstack hdg
  rcases hK m meth c ⟨T.setVm vm₁, locs, cells, slots⟩ { g with stack := rest } (.invokevirtual index) mk (Value.ref b :: argsL).toArray X₁ hg hsize hdg hW (X₁.named hnamed) (hpre vm₁ X₁.warmed) with ⟨v, B, X', hpost, hsteps⟩ | ⟨q, B, X', hpost, hsteps⟩
  · exact Or.inl ⟨v, vm₁, B, X₁.warmed, X', hpost, fun target h => hstep₁ _ fun acts => by rw [doInvoke_state]; exact hsteps.trans h⟩
  · exact Or.inr ⟨q, vm₁, B, X₁.warmed, X', hpost, hstep₁ _ fun acts => by rw [doInvoke_state]; exact hsteps⟩
theorem vx_callS (X : Stand p l e R s m args below meth c T locs cells slots) (hexec : p.tables.exec = Jvm.exec) {own : String} {index : Nat} {y : MethodName} {bytes : ByteArray} {maxL : Nat} {ret : Option FieldType}
    (hown : s.vm.findClass own = some m.cls) (hlink : (Cond.methodLink own index y).before args s = true) (hstat : (Cond.static y).before args s = true) (hinit : (Cond.initialized y.cls).before args s = true)
    (hcode : (Cond.code y bytes maxL ret).before args s = true) (hy : y.cls ≠ "java/lang/invoke/MethodHandle" ∧ y.cls ≠ "java/lang/invoke/VarHandle")
    {W9 : Nat} {Pre : Pt → Array Value → Prop} {Post : Pt → Array Value → Option Value → Pt → Prop} {PostX : Pt → Array Value → Addr → Pt → Prop} (hK : vx_Back l R p e below s args y 3 W9 Pre Post PostX)
    {g : JFrame} (hg : g.method = m) (hsize : g.locals.size = c.maxLocals) {argsL rest : List Value} (hlen : ∀ sig, parseMethodDescriptor y.desc = some sig → argsL.length = sig.parameters.length)
    (hstack : g.stack = argsL.reverse ++ rest) (hW : 2 * g.monitorRoom + (rest.map fun v => v.category).sum ≤ W9) (hdg : decode c.code g.pc = .ok (.invokestatic index, 3))
    (hpre : ∀ vm₁, s.WarmedH vm₁ → Pre ⟨T.setVm vm₁, locs, cells, slots⟩ argsL.toArray) :
    (∃ (v : Option Value) (vm₁ : Vm) (B : Pt), s.WarmedH vm₁ ∧ Stand p l e R s m args below meth c B.U B.locs B.cells B.slots ∧ Post ⟨T.setVm vm₁, locs, cells, slots⟩ argsL.toArray v B ∧
      ∀ target, Steps p.tables e below (B.U.setTop { g with pc := g.pc + 3, stack := v.toList ++ rest }) target → Steps p.tables e below (T.setTop g) target) ∨
    (∃ (q : Addr) (vm₁ : Vm) (B : Pt), s.WarmedH vm₁ ∧ Stand p l e R s m args below meth c B.U B.locs B.cells B.slots ∧ PostX ⟨T.setVm vm₁, locs, cells, slots⟩ argsL.toArray q B ∧
      Steps p.tables e below (T.setTop g) ((B.U.setTop { g with stack := rest }).pushFrame (.throwing q))) := by
  obtain ⟨mk, hnamed⟩ := Cond.code_named hcode
  obtain ⟨methM, cM, hmethM, -, -, -, -, -, -, hsigM⟩ := Cond.code_spec hnamed hcode
  have hstatic : methM.isStatic = true := Cond.static_spec hnamed hmethM hstat
  obtain ⟨kP, hkP, -⟩ := className_of_methodNamed hnamed
  have hinitP : kP.init = .initialized := Cond.initialized_spec (findClass_of_methodNamed hnamed) hkP hinit
  obtain ⟨vm₁, X₁, hstep₁⟩ := X.invokestatic hexec hown hlink hnamed hmethM hstatic hkP hinitP hy (g := g) hg (argsL := argsL) (rest := rest) (hlen _ hsigM) hstack hdg
  rcases hK m meth c ⟨T.setVm vm₁, locs, cells, slots⟩ { g with stack := rest } (.invokestatic index) mk argsL.toArray X₁ hg hsize hdg hW (X₁.named hnamed) (hpre vm₁ X₁.warmed) with ⟨v, B, X', hpost, hsteps⟩ | ⟨q, B, X', hpost, hsteps⟩
  · exact Or.inl ⟨v, vm₁, B, X₁.warmed, X', hpost, fun target h => hstep₁ _ fun acts => by rw [doInvoke_state]; exact hsteps.trans h⟩
  · exact Or.inr ⟨q, vm₁, B, X₁.warmed, X', hpost, hstep₁ _ fun acts => by rw [doInvoke_state]; exact hsteps⟩
end Calls
theorem vx_cls {s : State} {T : State} {vm₁ : Vm} {E : String} {k : ClassId} (hW : s.WarmedH vm₁) (h : (T.setVm vm₁).vm.findClass E = some k) : s.vm.findClass E = some k := by
  have h1 : vm₁.findClass E = some k := h
  rw [hW.alike.findClass] at h1
  exact h1
/-- the method's frame g, with q thrown over it -/
def vx_W (p : Program) (l : Launch) (e : Env) (R : Room) (s : State) (m : MethodId) (args : Array Value) (below : List Frame) (meth : Method) (c : Code) (H : Heap) (locs : List Loc) (cells slots : Nat) (Q : State → Prop) (g : JFrame) (q : Addr) : Prop :=
  ∀ T : State, T.heap = H → Stand p l e R s m args below meth c T locs cells slots → ∃ t, Steps p.tables e below ((T.setTop g).pushFrame (.throwing q)) t ∧ Q t
def vx_Run (p : Program) (l : Launch) (e : Env) (R : Room) (s : State) (m : MethodId) (args : Array Value) (below : List Frame) (meth : Method) (c : Code) (H : Heap) (locs : List Loc) (cells slots mc ms : Nat) (g : JFrame) (rest : List Value) (Qa : State → Outcome → State → Prop) (XC : String → State → State → Prop) (free : Addr → Prop) : Prop :=
  ∀ T : State, T.heap = H → Stand p l e R s m args below meth c T locs cells slots →
    (∃ (v : Option Value) (st₀ t T' : State) (L : List Loc), st₀.heap = H ∧ Stand p l e R s m args below meth c T' (locs ++ L) (cells + mc) (slots + ms) ∧ (∀ q ∈ L, free q.base) ∧ T'.heap = t.heap ∧ T'.vm = t.vm ∧ Qa st₀ (.returned v) t ∧
      Goes p e below T g T' { g with pc := g.pc + 3, stack := v.toList ++ rest }) ∨
    (∃ (q : Addr) (st₀ t T' : State) (L : List Loc) (E : String) (ce : Cell), st₀.heap = H ∧ Stand p l e R s m args below meth c T' (locs ++ L) (cells + mc) (slots + ms) ∧ (∀ z ∈ L, free z.base) ∧ T'.heap = t.heap ∧ T'.vm = t.vm ∧ XC E st₀ t ∧ t.heap[q]? = some ce ∧ ce.vm = .none ∧ s.vm.findClass E = some ce.cls ∧
      Steps p.tables e below (T.setTop g) ((T'.setTop { g with stack := rest }).pushFrame (.throwing q)))
def vx_X {S : Type} (px : S → Prop) (B : String → S → State → Prop) (A : Nat → Prop) : String → State → State → Prop := fun E st t => ∃ u : S, px u ∧ B E u t ∧ va_F A st t
section Runs
variable {p : Program} {l : Launch} {e : Env} {R : Room} {s : State} {m : MethodId} {args : Array Value} {below : List Frame} {meth : Method} {c : Code} {H : Heap} {locs : List Loc} {cells slots : Nat}
variable {y : MethodName} {bytes cc : ByteArray} {maxL nL mc ms n index : Nat} {ret : Option FieldType} {ws : List Cond} {rm : Room} {Pc : Array Value → State → Prop} {Qc : Array Value → State → Outcome → State → Prop} {XC : String → State → State → Prop} {free : Addr → Prop} {Ts : List Cond} {own C : String} {b : Addr} {As rest : List Value} {g : JFrame}
theorem vx_callBack (cb : CallB R s args own index y bytes maxL ret ws rm mc ms n) (hM : vx_Met l y ws rm Pc Qc XC mc ms free) (hbl : FrameBlind Pc) : vx_Back l R p e below s args y 3 8 (PreOf R mc ms Pc) (PostOf Qc mc ms free) (vx_Post XC mc ms free) := by
  obtain ⟨hrc, hrs, hfr, hlo, hws, hcw, -, hini, -⟩ := cb
  exact vx_back (bytes := bytes) (maxL := maxL) (ret := ret) hM hbl hrc hrs hfr hlo hws hcw (fun a' U hW => word_at hW (Or.inl (by first | rfl | simp [Cond.onTables, Cond.keeps, Cond.steady])) hini)
theorem vx_runV (S : CallFix p m c cc nL s args Ts own) (hM : vx_Met l y ws rm Pc Qc XC mc ms free) (cw : CallW R s args own C index y bytes maxL ret ws rm mc ms n) (hp : PreV s H C b Pc As)
    (hg : g.method = m) (hn : As.length = n) (hsize : g.locals.size = nL) (hstack : g.stack = As.reverse ++ .ref b :: rest) (hW : 2 * g.monitorRoom + (rest.map fun v => v.category).sum ≤ 8) (hdg : decode cc g.pc = .ok (.invokevirtual index, 3)) (hf : cells + mc ≤ R.cells ∧ slots + ms ≤ R.slots) :
    vx_Run p l e R s m args below meth c H locs cells slots mc ms g rest (Qc (Value.ref b :: As).toArray) XC free := by
  have hK : vx_Back l R p e below s args y 3 8 (PreOf R mc ms Pc) (PostOf Qc mc ms free) (vx_Post XC mc ms free) := vx_callBack cw.1 hM hp.1
  obtain ⟨⟨-, -, -, -, -, -, hcode, -, hy, hlen, hl⟩, hin, hse⟩ := cw
  obtain ⟨hx, hb, hml, ho, -⟩ := S
  obtain ⟨-, ⟨cellB, hcB, hoB, hclB⟩, hPc⟩ := hp
  intro T hT X
  rcases vx_callV X hx (C := C) (bytes := bytes) (maxL := maxL) (ret := ret) ho hl hin hse hcode hy hK (by rw [hT]; exact hcB) hoB hclB hg (hsize.trans hml.symm) (argsL := As) (rest := rest) (fun sig h => hn.trans (hlen sig h)) hstack hW (by rw [hb]; exact hdg)
    (fun vm₁ hW₁ => ⟨hf.1, hf.2, hPc (T.setVm vm₁) hT hW₁⟩) with ⟨v, vm₁, ⟨U', l2, c2, s2⟩, hW₁, X', ⟨g', mk, t, L, e1, e2, hq, h1, hL, h2, h3⟩, st⟩ | ⟨q, vm₁, ⟨U', l2, c2, s2⟩, hW₁, X', ⟨g', mk, t, L, E, ce, e1, e2, hq, hce, hcv, hcl, h1, hL, h2, h3⟩, st⟩
  · dsimp only [Pt.U, Pt.locs, Pt.cells, Pt.slots] at X' e1 e2 h1 h2 h3 st
    subst h1; subst h2; subst h3
    exact Or.inl ⟨v, (T.setVm vm₁).calling g' mk (Value.ref b :: As).toArray, t, U', L, hT, X', hL, e1, e2, hq, st⟩
  · dsimp only [Pt.U, Pt.locs, Pt.cells, Pt.slots] at X' e1 e2 h1 h2 h3 st hcl
    subst h1; subst h2; subst h3
    exact Or.inr ⟨q, (T.setVm vm₁).calling g' mk (Value.ref b :: As).toArray, t, U', L, E, ce, hT, X', hL, e1, e2, hq, hce, hcv, vx_cls hW₁ hcl, st⟩
theorem vx_runS (S : CallFix p m c cc nL s args Ts own) (hM : vx_Met l y ws rm Pc Qc XC mc ms free) (cw : CallB R s args own index y bytes maxL ret ws rm mc ms n ∧ (Cond.static y).before args s = true) (hp : PreS s H Pc As)
    (hg : g.method = m) (hn : As.length = n) (hsize : g.locals.size = nL) (hstack : g.stack = As.reverse ++ rest) (hW : 2 * g.monitorRoom + (rest.map fun v => v.category).sum ≤ 8) (hdg : decode cc g.pc = .ok (.invokestatic index, 3)) (hf : cells + mc ≤ R.cells ∧ slots + ms ≤ R.slots) :
    vx_Run p l e R s m args below meth c H locs cells slots mc ms g rest (Qc As.toArray) XC free := by
  have hK : vx_Back l R p e below s args y 3 8 (PreOf R mc ms Pc) (PostOf Qc mc ms free) (vx_Post XC mc ms free) := vx_callBack cw.1 hM hp.1
  obtain ⟨⟨-, -, -, -, -, -, hcode, hini, hy, hlen, hl⟩, hstt⟩ := cw
  obtain ⟨hx, hb, hml, ho, -⟩ := S
  intro T hT X
  rcases vx_callS X hx (bytes := bytes) (maxL := maxL) (ret := ret) ho hl hstt hini hcode hy hK hg (hsize.trans hml.symm) (argsL := As) (rest := rest) (fun sig h => hn.trans (hlen sig h)) hstack hW (by rw [hb]; exact hdg)
    (fun vm₁ hW₁ => ⟨hf.1, hf.2, hp.2 (T.setVm vm₁) hT hW₁⟩) with ⟨v, vm₁, ⟨U', l2, c2, s2⟩, hW₁, X', ⟨g', mk, t, L, e1, e2, hq, h1, hL, h2, h3⟩, st⟩ | ⟨q, vm₁, ⟨U', l2, c2, s2⟩, hW₁, X', ⟨g', mk, t, L, E, ce, e1, e2, hq, hce, hcv, hcl, h1, hL, h2, h3⟩, st⟩
  · dsimp only [Pt.U, Pt.locs, Pt.cells, Pt.slots] at X' e1 e2 h1 h2 h3 st
    subst h1; subst h2; subst h3
    exact Or.inl ⟨v, (T.setVm vm₁).calling g' mk As.toArray, t, U', L, hT, X', hL, e1, e2, hq, st⟩
  · dsimp only [Pt.U, Pt.locs, Pt.cells, Pt.slots] at X' e1 e2 h1 h2 h3 st hcl
    subst h1; subst h2; subst h3
    exact Or.inr ⟨q, (T.setVm vm₁).calling g' mk As.toArray, t, U', L, E, ce, hT, X', hL, e1, e2, hq, hce, hcv, vx_cls hW₁ hcl, st⟩
end Runs
section Rows
variable {p : Program} {l : Launch} {e : Env} {R : Room} {s : State} {m : MethodId} {args : Array Value} {below : List Frame} {meth : Method} {c : Code} {H : Heap} {locs : List Loc} {cells slots : Nat} {Q : State → Prop}
variable {mc ms : Nat} {free : Addr → Prop} {A0 A1 : Nat → Prop} {H0 : Heap} {a : Array Value} {pc : Nat} {ls : Array Slot} {st0 rest : List Value}
theorem vx_keep {st₀ t T' : State} {L : List Loc} (h0 : st₀.heap = H) (e1 : T'.heap = t.heap) (hS : va_S A0 H0 H locs) (hA : ∀ q, q < H.size → A1 q → A0 q) (hf : ∀ q, free q → A0 q) (hL : ∀ q ∈ L, free q.base) (hF : va_F A1 st₀ t) :
    H.size ≤ T'.heap.size ∧ (∀ q : Nat, q < H.size → ¬ A1 q → T'.heap[q]? = H[q]?) ∧ va_S A0 H0 T'.heap (locs ++ L) := by
  obtain ⟨hz, hk⟩ := hF
  rw [h0] at hz hk
  exact ⟨by rw [e1]; exact hz, fun q h1 h2 => by rw [e1]; exact hk q h1 h2,
    ⟨Nat.le_trans hS.1 (by rw [e1]; exact hz), fun q h1 h2 => by rw [e1, hk q (Nat.lt_of_lt_of_le h1 hS.1) (fun z => h2 (hA q (Nat.lt_of_lt_of_le h1 hS.1) z))]; exact hS.2.1 q h1 h2, fun q hq => by
      rcases List.mem_append.mp hq with h | h
      · exact hS.2.2 q h
      · exact hf _ (hL q h)⟩⟩
theorem vx_calli {S SX : Type} {post : Int32 → S → Prop} {px : SX → Prop} {B : S → State → Prop} {BX : String → SX → State → Prop} {AX : Nat → Prop} (hr : vx_Run p l e R s m args below meth c H locs cells slots mc ms (F0 m pc ls st0) rest (va_Qi post B A1 a) (vx_X px BX AX) free) (hS : va_S A0 H0 H locs) (hA : ∀ q, q < H.size → A1 q → A0 q) (hf : ∀ q, free q → A0 q) (hAX : ∀ q, q < H.size → AX q → A0 q)
    (kx : ∀ (E : String) (ce : Cell) (q9 : Addr) (u : SX) (t : State) (H1 : Heap) (locs1 : List Loc), t.heap = H1 → s.vm.Alike t.vm → px u → BX E u t → H.size ≤ H1.size → (∀ q : Nat, q < H.size → ¬ AX q → H1[q]? = H[q]?) → va_S A0 H0 H1 locs1 → H1[q9]? = some ce → ce.vm = .none → s.vm.findClass E = some ce.cls → vx_W p l e R s m args below meth c H1 locs1 (cells + mc) (slots + ms) Q (F0 m pc ls rest) q9)
    (kk : ∀ (r : Int32) (u : S) (t : State) (H1 : Heap) (locs1 : List Loc), t.heap = H1 → s.vm.Alike t.vm → post r u → B u t → H.size ≤ H1.size → (∀ q : Nat, q < H.size → ¬ A1 q → H1[q]? = H[q]?) → va_S A0 H0 H1 locs1 → W p l e R s m args below meth c H1 locs1 (cells + mc) (slots + ms) Q (F0 m (pc + 3) ls (.int r :: rest))) : W p l e R s m args below meth c H locs cells slots Q (F0 m pc ls st0) := by
  intro T hT X
  rcases hr T hT X with ⟨v, st₀, t, T', L, h0, X', hL, e1, e2, ⟨⟨r, u, hv, hp, hb⟩, hF⟩, st⟩ | ⟨q, st₀, t, T', L, E, ce, h0, X', hL, e1, e2, ⟨u, hp, hb, hF⟩, hce, hcv, hcl, st⟩
  · cases hv
    obtain ⟨k1, k2, k3⟩ := vx_keep h0 e1 hS hA hf hL hF
    obtain ⟨t2, a1, b1⟩ := kk r u t T'.heap (locs ++ L) e1.symm (by rw [← e2]; exact X'.warmed.alike) hp hb k1 k2 k3 T' rfl X'
    exact ⟨t2, st t2 a1, b1⟩
  · obtain ⟨k1, k2, k3⟩ := vx_keep h0 e1 hS hAX hf hL hF
    obtain ⟨t2, a1, b1⟩ := kx E ce q u t T'.heap (locs ++ L) e1.symm (by rw [← e2]; exact X'.warmed.alike) hp hb k1 k2 k3 (by rw [e1]; exact hce) hcv hcl T' rfl X'
    exact ⟨t2, st.trans a1, b1⟩
theorem vx_calll {S SX : Type} {post : Int64 → S → Prop} {px : SX → Prop} {B : S → State → Prop} {BX : String → SX → State → Prop} {AX : Nat → Prop} (hr : vx_Run p l e R s m args below meth c H locs cells slots mc ms (F0 m pc ls st0) rest (va_Ql post B A1 a) (vx_X px BX AX) free) (hS : va_S A0 H0 H locs) (hA : ∀ q, q < H.size → A1 q → A0 q) (hf : ∀ q, free q → A0 q) (hAX : ∀ q, q < H.size → AX q → A0 q)
    (kx : ∀ (E : String) (ce : Cell) (q9 : Addr) (u : SX) (t : State) (H1 : Heap) (locs1 : List Loc), t.heap = H1 → s.vm.Alike t.vm → px u → BX E u t → H.size ≤ H1.size → (∀ q : Nat, q < H.size → ¬ AX q → H1[q]? = H[q]?) → va_S A0 H0 H1 locs1 → H1[q9]? = some ce → ce.vm = .none → s.vm.findClass E = some ce.cls → vx_W p l e R s m args below meth c H1 locs1 (cells + mc) (slots + ms) Q (F0 m pc ls rest) q9)
    (kk : ∀ (r : Int64) (u : S) (t : State) (H1 : Heap) (locs1 : List Loc), t.heap = H1 → s.vm.Alike t.vm → post r u → B u t → H.size ≤ H1.size → (∀ q : Nat, q < H.size → ¬ A1 q → H1[q]? = H[q]?) → va_S A0 H0 H1 locs1 → W p l e R s m args below meth c H1 locs1 (cells + mc) (slots + ms) Q (F0 m (pc + 3) ls (.long r :: rest))) : W p l e R s m args below meth c H locs cells slots Q (F0 m pc ls st0) := by
  intro T hT X
  rcases hr T hT X with ⟨v, st₀, t, T', L, h0, X', hL, e1, e2, ⟨⟨r, u, hv, hp, hb⟩, hF⟩, st⟩ | ⟨q, st₀, t, T', L, E, ce, h0, X', hL, e1, e2, ⟨u, hp, hb, hF⟩, hce, hcv, hcl, st⟩
  · cases hv
    obtain ⟨k1, k2, k3⟩ := vx_keep h0 e1 hS hA hf hL hF
    obtain ⟨t2, a1, b1⟩ := kk r u t T'.heap (locs ++ L) e1.symm (by rw [← e2]; exact X'.warmed.alike) hp hb k1 k2 k3 T' rfl X'
    exact ⟨t2, st t2 a1, b1⟩
  · obtain ⟨k1, k2, k3⟩ := vx_keep h0 e1 hS hAX hf hL hF
    obtain ⟨t2, a1, b1⟩ := kx E ce q u t T'.heap (locs ++ L) e1.symm (by rw [← e2]; exact X'.warmed.alike) hp hb k1 k2 k3 (by rw [e1]; exact hce) hcv hcl T' rfl X'
    exact ⟨t2, st.trans a1, b1⟩
theorem vx_callf {S SX : Type} {post : UInt32 → S → Prop} {px : SX → Prop} {B : S → State → Prop} {BX : String → SX → State → Prop} {AX : Nat → Prop} (hr : vx_Run p l e R s m args below meth c H locs cells slots mc ms (F0 m pc ls st0) rest (va_Qf post B A1 a) (vx_X px BX AX) free) (hS : va_S A0 H0 H locs) (hA : ∀ q, q < H.size → A1 q → A0 q) (hf : ∀ q, free q → A0 q) (hAX : ∀ q, q < H.size → AX q → A0 q)
    (kx : ∀ (E : String) (ce : Cell) (q9 : Addr) (u : SX) (t : State) (H1 : Heap) (locs1 : List Loc), t.heap = H1 → s.vm.Alike t.vm → px u → BX E u t → H.size ≤ H1.size → (∀ q : Nat, q < H.size → ¬ AX q → H1[q]? = H[q]?) → va_S A0 H0 H1 locs1 → H1[q9]? = some ce → ce.vm = .none → s.vm.findClass E = some ce.cls → vx_W p l e R s m args below meth c H1 locs1 (cells + mc) (slots + ms) Q (F0 m pc ls rest) q9)
    (kk : ∀ (r : UInt32) (u : S) (t : State) (H1 : Heap) (locs1 : List Loc), t.heap = H1 → s.vm.Alike t.vm → post r u → B u t → H.size ≤ H1.size → (∀ q : Nat, q < H.size → ¬ A1 q → H1[q]? = H[q]?) → va_S A0 H0 H1 locs1 → W p l e R s m args below meth c H1 locs1 (cells + mc) (slots + ms) Q (F0 m (pc + 3) ls (.float r :: rest))) : W p l e R s m args below meth c H locs cells slots Q (F0 m pc ls st0) := by
  intro T hT X
  rcases hr T hT X with ⟨v, st₀, t, T', L, h0, X', hL, e1, e2, ⟨⟨r, u, hv, hp, hb⟩, hF⟩, st⟩ | ⟨q, st₀, t, T', L, E, ce, h0, X', hL, e1, e2, ⟨u, hp, hb, hF⟩, hce, hcv, hcl, st⟩
  · cases hv
    obtain ⟨k1, k2, k3⟩ := vx_keep h0 e1 hS hA hf hL hF
    obtain ⟨t2, a1, b1⟩ := kk r u t T'.heap (locs ++ L) e1.symm (by rw [← e2]; exact X'.warmed.alike) hp hb k1 k2 k3 T' rfl X'
    exact ⟨t2, st t2 a1, b1⟩
  · obtain ⟨k1, k2, k3⟩ := vx_keep h0 e1 hS hAX hf hL hF
    obtain ⟨t2, a1, b1⟩ := kx E ce q u t T'.heap (locs ++ L) e1.symm (by rw [← e2]; exact X'.warmed.alike) hp hb k1 k2 k3 (by rw [e1]; exact hce) hcv hcl T' rfl X'
    exact ⟨t2, st.trans a1, b1⟩
theorem vx_calld {S SX : Type} {post : UInt64 → S → Prop} {px : SX → Prop} {B : S → State → Prop} {BX : String → SX → State → Prop} {AX : Nat → Prop} (hr : vx_Run p l e R s m args below meth c H locs cells slots mc ms (F0 m pc ls st0) rest (va_Qd post B A1 a) (vx_X px BX AX) free) (hS : va_S A0 H0 H locs) (hA : ∀ q, q < H.size → A1 q → A0 q) (hf : ∀ q, free q → A0 q) (hAX : ∀ q, q < H.size → AX q → A0 q)
    (kx : ∀ (E : String) (ce : Cell) (q9 : Addr) (u : SX) (t : State) (H1 : Heap) (locs1 : List Loc), t.heap = H1 → s.vm.Alike t.vm → px u → BX E u t → H.size ≤ H1.size → (∀ q : Nat, q < H.size → ¬ AX q → H1[q]? = H[q]?) → va_S A0 H0 H1 locs1 → H1[q9]? = some ce → ce.vm = .none → s.vm.findClass E = some ce.cls → vx_W p l e R s m args below meth c H1 locs1 (cells + mc) (slots + ms) Q (F0 m pc ls rest) q9)
    (kk : ∀ (r : UInt64) (u : S) (t : State) (H1 : Heap) (locs1 : List Loc), t.heap = H1 → s.vm.Alike t.vm → post r u → B u t → H.size ≤ H1.size → (∀ q : Nat, q < H.size → ¬ A1 q → H1[q]? = H[q]?) → va_S A0 H0 H1 locs1 → W p l e R s m args below meth c H1 locs1 (cells + mc) (slots + ms) Q (F0 m (pc + 3) ls (.double r :: rest))) : W p l e R s m args below meth c H locs cells slots Q (F0 m pc ls st0) := by
  intro T hT X
  rcases hr T hT X with ⟨v, st₀, t, T', L, h0, X', hL, e1, e2, ⟨⟨r, u, hv, hp, hb⟩, hF⟩, st⟩ | ⟨q, st₀, t, T', L, E, ce, h0, X', hL, e1, e2, ⟨u, hp, hb, hF⟩, hce, hcv, hcl, st⟩
  · cases hv
    obtain ⟨k1, k2, k3⟩ := vx_keep h0 e1 hS hA hf hL hF
    obtain ⟨t2, a1, b1⟩ := kk r u t T'.heap (locs ++ L) e1.symm (by rw [← e2]; exact X'.warmed.alike) hp hb k1 k2 k3 T' rfl X'
    exact ⟨t2, st t2 a1, b1⟩
  · obtain ⟨k1, k2, k3⟩ := vx_keep h0 e1 hS hAX hf hL hF
    obtain ⟨t2, a1, b1⟩ := kx E ce q u t T'.heap (locs ++ L) e1.symm (by rw [← e2]; exact X'.warmed.alike) hp hb k1 k2 k3 (by rw [e1]; exact hce) hcv hcl T' rfl X'
    exact ⟨t2, st.trans a1, b1⟩
theorem vx_callv {S SX : Type} {post : S → Prop} {px : SX → Prop} {B : S → State → Prop} {BX : String → SX → State → Prop} {AX : Nat → Prop} (hr : vx_Run p l e R s m args below meth c H locs cells slots mc ms (F0 m pc ls st0) rest (va_Qv post B A1 a) (vx_X px BX AX) free) (hS : va_S A0 H0 H locs) (hA : ∀ q, q < H.size → A1 q → A0 q) (hf : ∀ q, free q → A0 q) (hAX : ∀ q, q < H.size → AX q → A0 q)
    (kx : ∀ (E : String) (ce : Cell) (q9 : Addr) (u : SX) (t : State) (H1 : Heap) (locs1 : List Loc), t.heap = H1 → s.vm.Alike t.vm → px u → BX E u t → H.size ≤ H1.size → (∀ q : Nat, q < H.size → ¬ AX q → H1[q]? = H[q]?) → va_S A0 H0 H1 locs1 → H1[q9]? = some ce → ce.vm = .none → s.vm.findClass E = some ce.cls → vx_W p l e R s m args below meth c H1 locs1 (cells + mc) (slots + ms) Q (F0 m pc ls rest) q9)
    (kk : ∀ (u : S) (t : State) (H1 : Heap) (locs1 : List Loc), t.heap = H1 → s.vm.Alike t.vm → post u → B u t → H.size ≤ H1.size → (∀ q : Nat, q < H.size → ¬ A1 q → H1[q]? = H[q]?) → va_S A0 H0 H1 locs1 → W p l e R s m args below meth c H1 locs1 (cells + mc) (slots + ms) Q (F0 m (pc + 3) ls (rest))) : W p l e R s m args below meth c H locs cells slots Q (F0 m pc ls st0) := by
  intro T hT X
  rcases hr T hT X with ⟨v, st₀, t, T', L, h0, X', hL, e1, e2, ⟨⟨u, hv, hp, hb⟩, hF⟩, st⟩ | ⟨q, st₀, t, T', L, E, ce, h0, X', hL, e1, e2, ⟨u, hp, hb, hF⟩, hce, hcv, hcl, st⟩
  · cases hv
    obtain ⟨k1, k2, k3⟩ := vx_keep h0 e1 hS hA hf hL hF
    obtain ⟨t2, a1, b1⟩ := kk u t T'.heap (locs ++ L) e1.symm (by rw [← e2]; exact X'.warmed.alike) hp hb k1 k2 k3 T' rfl X'
    exact ⟨t2, st t2 a1, b1⟩
  · obtain ⟨k1, k2, k3⟩ := vx_keep h0 e1 hS hAX hf hL hF
    obtain ⟨t2, a1, b1⟩ := kx E ce q u t T'.heap (locs ++ L) e1.symm (by rw [← e2]; exact X'.warmed.alike) hp hb k1 k2 k3 (by rw [e1]; exact hce) hcv hcl T' rfl X'
    exact ⟨t2, st.trans a1, b1⟩
/-- caught by the row x of this method's table; the rows ahead don't take it -/
theorem vx_catch {own name : String} {E : String} {ce : Cell} {q : Addr} (hown : s.vm.findClass own = some m.cls) (pre : List ExceptionTableEntry) (x : ExceptionTableEntry) (suf : List ExceptionTableEntry) (hsplit : c.exceptionTable.toList = pre ++ x :: suf)
    (hpass : ∀ z ∈ pre, covers z pc = false ∨ (z.catchType ≠ 0 ∧ ∃ nm : String, (Cond.classLink own z.catchType nm).before args s = true ∧ va_Nc E nm s)) (hx : covers x pc = true) (h0 : x.catchType ≠ 0)
    (hlink : (Cond.classLink own x.catchType name).before args s = true) (hcast : (Cond.castable E name).before args s = true) (hcell : H[q]? = some ce) (hv : ce.vm = .none) (hcl : s.vm.findClass E = some ce.cls)
    (kk : W p l e R s m args below meth c H locs cells slots Q (F0 m x.handlerPc ls [.ref q])) : vx_W p l e R s m args below meth c H locs cells slots Q (F0 m pc ls rest) q := by
  intro T hT X
  have hpl : e.platform.magicAccessors = ({} : Platform).magicAccessors := by rw [X.admits.platform]
  obtain ⟨c3, c4, hc3, hc4, hasg⟩ := Cond.castable_spec hcast
  cases Option.some.inj (hc3.symm.trans hcl)
  obtain ⟨c5, hc5, hcl5⟩ := Cond.classLink_spec hown hlink e.platform hpl
  cases Option.some.inj (hc4.symm.trans hc5)
  obtain ⟨vm', X', st⟩ := X.thenCaughtThrough q (g := F0 m pc ls rest) rfl (Steps.refl _) (by rw [hT]; exact hcell) (by rw [hv]; rfl) (by obtain ⟨k9, h9, -⟩ := Vm.findClass_spec hcl; exact ⟨k9, h9⟩) pre x suf hsplit
    (fun z hz => by
      rcases hpass z hz with h | ⟨hz0, nm, hl1, hn1⟩
      · exact Or.inl h
      · obtain ⟨c6, hc6, hcl6⟩ := Cond.classLink_spec hown hl1 e.platform hpl
        obtain ⟨a8, b8, h1, h2, h3⟩ := hn1
        cases Option.some.inj (h1.symm.trans hcl)
        cases Option.some.inj (h2.symm.trans hc6)
        exact Or.inr ⟨hz0, _, hcl6, h3⟩) hx (Or.inr ⟨h0, c4, hcl5, hasg⟩)
  obtain ⟨t, a1, b1⟩ := kk (T.setVm vm') hT X'
  exact ⟨t, st.trans a1, b1⟩
end Rows
section Ends
variable {p : Program} {l : Launch} {e : Env} {R : Room} {s : State} {m : MethodId} {args : Array Value} {below : List Frame} {meth : Method} {c : Code} {H : Heap} {locs : List Loc} {cells slots : Nat} {Q : State → Prop}
variable {mc ms : Nat} {free : Addr → Prop} {A0 A1 : Nat → Prop} {H0 : Heap} {a : Array Value} {ls : Array Slot} {st0 rest : List Value}
variable {Qc : Array Value → State → Outcome → State → Prop} {XC : String → State → State → Prop}
/-- what a body that may throw owes at its end -/
def vx_MQ (below : List Frame) (Qc : Array Value → State → Outcome → State → Prop) (XC : String → State → State → Prop) (a : Array Value) (s : State) (mc ms : Nat) (free : Addr → Prop) : State → Prop := fun t =>
  ∃ o, t.status = .running ∧ Ended t below o ∧ vx_Q Qc XC mc ms free a s o t
theorem vx_ret {g : JFrame} {mc ms : Nat} (k : W p l e R s m args below meth c H locs cells slots (MQ below Qc args s mc ms free) g) : W p l e R s m args below meth c H locs cells slots (vx_MQ below Qc XC args s mc ms free) g := by
  intro T hT X
  obtain ⟨t, a1, o, b1, b2, b3, b4⟩ := k T hT X
  exact ⟨t, a1, o, b1, b2, Or.inl ⟨b3, b4⟩⟩
/-- not caught here: it goes on to the caller -/
theorem vx_widen {g : JFrame} {q : Addr} {k n : Nat} (h1 : cells ≤ k) (h2 : slots ≤ n) (kk : vx_W p l e R s m args below meth c H locs k n Q g q) : vx_W p l e R s m args below meth c H locs cells slots Q g q := fun T hT X => kk T hT (stand_widen X h1 h2)
theorem vx_out {pc : Nat} {E : String} {ce : Cell} {q : Addr} {mc ms : Nat} (hout : ∀ x ∈ c.exceptionTable.toList, covers x pc = false) (hlocks : meth.locks = false) (hcell : H[q]? = some ce) (hv : ce.vm = .none) (hcl : s.vm.findClass E = some ce.cls)
    (hx : ∀ t : State, t.heap = H → s.vm.Alike t.vm → XC E s t) (hf : ∀ z ∈ locs, free z.base) (hc : cells ≤ mc) (hs : slots ≤ ms) :
    vx_W p l e R s m args below meth c H locs cells slots (vx_MQ below Qc XC args s mc ms free) (F0 m pc ls rest) q := by
  intro T hT X
  obtain ⟨st1, hrun, hend, hW, hsm⟩ := X.leaveThrown q (g := F0 m pc ls rest) rfl rfl rfl hout hlocks
  have hcell9 : (T.setFrames (.throwing q :: below)).heap[q]? = some ce := by
    show T.heap[q]? = some ce
    rw [hT]; exact hcell
  exact ⟨_, st1, .threw q, hrun, hend, Or.inr ⟨q, rfl, E, ce, locs, hx _ hT hW.alike, hcell9, hv, hcl, hW, hsm.mono hc hs, hf⟩⟩
theorem vx_frame {U : State} {k n : Nat} (h : s.sameButNew ({ U with vm := s.vm } : State) locs k n) : s.heap.size ≤ U.heap.size ∧ ∀ q : Nat, q < s.heap.size → (∀ z ∈ locs, z.base ≠ q) → U.heap[q]? = s.heap[q]? := by
  obtain ⟨-, h2, -, -, -, h6⟩ := h
  refine ⟨h2, fun q hq hz => ?_⟩
  obtain ⟨c9, e1, e2, e3, e4⟩ := h6 q _ (Array.getElem?_eq_getElem hq)
  have hs : c9.slots = (s.heap[q]).slots := Array.ext_getElem? fun i => e4 i fun hm => hz _ hm rfl
  have h9 : c9 = s.heap[q] := by
    rw [hs] at e2
    exact e2
  have e5 : U.heap[q]? = some c9 := e1
  rw [e5, h9, Array.getElem?_eq_getElem hq]
/-- the words of a throw but the four that speak of the heap -/
def vx_no (w : Cond) : Bool := decide (w ≠ .isRef (.static Bundle.tN "UNASSIGNED_STACK" Bundle.steD)) && decide (w ≠ .isRef (.static Bundle.tN "SUPPRESSED_SENTINEL" Bundle.listD)) && decide (w ≠ .laysStatic Bundle.tN "UNASSIGNED_STACK" Bundle.steD) && decide (w ≠ .laysStatic Bundle.tN "SUPPRESSED_SENTINEL" Bundle.listD)
def vx_at0 (own : String) (ic : Nat) (X : String) (names : List String) : List Cond := (Bundle.ownAtoms0 own ic X names).filter vx_no
def vx_atS (own : String) (ic : Nat) (X : String) (names : List String) : List Cond := (Bundle.ownAtoms own ic X names).filter vx_no
/-- a word that the tables alone decide, or a good one -/
def vx_ot (w : Cond) : Bool := w.onTables || goodWord w
theorem vx_ot_at {args a' : Array Value} {s U : State} {w : Cond} (hW : s.WarmedH U.vm) (hvm : s.vm = U.vm) (hg : vx_ot w = true) (h : w.before args s = true) : w.before a' U = true := by
  simp only [vx_ot, Bool.or_eq_true] at hg
  rcases hg with hg | hg
  · exact va_tabs hg hvm h
  · exact word_at hW (good_of_word hg) h
/-- a list's words: the good ones out of the method's own list, the others by premises of their own -/
theorem vx_hat {args : Array Value} {s : State} {L B : List Cond} (h1 : ∀ w ∈ L.filter goodWord, w.before args s = true) (h2 : ∀ w ∈ L.filter (fun w => !goodWord w), w ∈ B) (h3 : ∀ w ∈ B, w.before args s = true) : ∀ w ∈ L, w.before args s = true := by
  intro w hw
  by_cases g : goodWord w = true
  · exact h1 w (List.mem_filter.mpr ⟨hw, g⟩)
  · refine h3 w (h2 w (List.mem_filter.mpr ⟨hw, ?_⟩))
    show (!goodWord w) = true
    cases hgw : goodWord w
    · rfl
    · exact absurd hgw g
theorem vx_c {args : Array Value} {s : State} {w : Cond} {B : List Cond} (h : w.before args s = true) (t : ∀ w ∈ B, w.before args s = true) : ∀ w' ∈ w :: B, w'.before args s = true := fun w' h' => (List.mem_cons.mp h').elim (fun e => by rw [e]; exact h) (t w')
theorem vx_n {args : Array Value} {s : State} : ∀ w ∈ ([] : List Cond), w.before args s = true := fun _ h => nomatch h
theorem vx_own {args : Array Value} {s : State} {L : List Cond} (h1 : ∀ w ∈ L.filter vx_no, w.before args s = true)
    (hU : (Cond.isRef (.static Bundle.tN "UNASSIGNED_STACK" Bundle.steD)).before args s = true) (hN : (Cond.isRef (.static Bundle.tN "SUPPRESSED_SENTINEL" Bundle.listD)).before args s = true)
    (lU : (Cond.laysStatic Bundle.tN "UNASSIGNED_STACK" Bundle.steD).before args s = true) (lN : (Cond.laysStatic Bundle.tN "SUPPRESSED_SENTINEL" Bundle.listD).before args s = true) : ∀ w ∈ L, w.before args s = true := by
  intro w hw
  by_cases e1 : w = .isRef (.static Bundle.tN "UNASSIGNED_STACK" Bundle.steD)
  · rw [e1]; exact hU
  · by_cases e2 : w = .isRef (.static Bundle.tN "SUPPRESSED_SENTINEL" Bundle.listD)
    · rw [e2]; exact hN
    · by_cases e3 : w = .laysStatic Bundle.tN "UNASSIGNED_STACK" Bundle.steD
      · rw [e3]; exact lU
      · by_cases e4 : w = .laysStatic Bundle.tN "SUPPRESSED_SENTINEL" Bundle.listD
        · rw [e4]; exact lN
        · exact h1 w (List.mem_filter.mpr ⟨hw, by unfold vx_no; rw [decide_eq_true e1, decide_eq_true e2, decide_eq_true e3, decide_eq_true e4]; rfl⟩)
/-- where a static field lies, its class's statics cell in H -/
def vx_L (C n d : String) (A : Nat → Prop) (U : State) (H : Heap) : Prop := ∃ (c : ClassId) (k : Class) (i : Nat) (f : Field) (a : Nat) (cell : Cell), U.vm.findClass C = some c ∧ U.fieldFound? C n d = some (c, k, i, f) ∧ f.isStatic = true ∧ k.statics = some a ∧ H[a]? = some cell ∧ cell.vm.isStatics = true ∧ cell.cls = c ∧ f.slot < cell.slots.size ∧ k.staticTypes[f.slot]? = some f.type ∧ ¬ A a
theorem vx_L.moved {C n d : String} {A : Nat → Prop} {u U : State} {H : Heap} (hvm : u.vm.Alike U.vm) (h : vx_L C n d A u H) : vx_L C n d A U H := by
  obtain ⟨c, k, i, f, a, cell, h1, h2, h3, h4, h5, h6, h7, h8, h9, h10⟩ := h
  obtain ⟨k', hi', he⟩ := State.fieldFound?_setVm hvm h2
  exact ⟨c, k', i, f, a, cell, by rw [hvm.findClass]; exact h1, hi', h3, by rw [he]; exact h4, h5, h6, h7, h8, by rw [he]; exact h9, h10⟩
theorem vx_L.kept {C n d : String} {A : Nat → Prop} {U : State} {H H1 : Heap} (h : vx_L C n d A U H) (hq : ∀ a : Nat, a < H.size → ¬ A a → H1[a]? = H[a]?) : vx_L C n d A U H1 := by
  obtain ⟨c, k, i, f, a, cell, h1, h2, h3, h4, h5, h6, h7, h8, h9, h10⟩ := h
  exact ⟨c, k, i, f, a, cell, h1, h2, h3, h4, by rw [hq a (Array.getElem?_eq_some_iff.mp h5).1 h10]; exact h5, h6, h7, h8, h9, h10⟩
theorem vx_L.narrow {C n d : String} {A B : Nat → Prop} {U : State} {H : Heap} (h : vx_L C n d A U H) (hAB : ∀ q, B q → A q) : vx_L C n d B U H := by
  obtain ⟨c, k, i, f, a, cell, h1, h2, h3, h4, h5, h6, h7, h8, h9, h10⟩ := h
  exact ⟨c, k, i, f, a, cell, h1, h2, h3, h4, h5, h6, h7, h8, h9, fun z => h10 (hAB _ z)⟩
theorem vx_L.word {C n d : String} {A : Nat → Prop} {s : State} {args : Array Value} (h : vx_L C n d A s s.heap) : (Cond.laysStatic C n d).before args s = true := by
  obtain ⟨c, k, i, f, a, cell, h1, h2, h3, h4, h5, h6, h7, h8, h9, -⟩ := h
  show (Cond.laysStatic C n d).holds args s none s [] = true
  exact Cond.laysStatic_of h1 h2 h3 h4 h5 h6 h7 h8 h9
/-- .. and what it holds: null or some reference -/
def vx_Zq (C n d : String) (A : Nat → Prop) (U : State) (H : Heap) : Prop := va_Zq C n d A U H ∧ vx_L C n d A U H
theorem vx_Zq.moved {C n d : String} {A : Nat → Prop} {u U : State} {H : Heap} (hvm : u.vm.Alike U.vm) (h : vx_Zq C n d A u H) : vx_Zq C n d A U H := ⟨va_Zq.moved hvm h.1, vx_L.moved hvm h.2⟩
theorem vx_Zq.kept {C n d : String} {A : Nat → Prop} {U : State} {H H1 : Heap} (h : vx_Zq C n d A U H) (hq : ∀ a : Nat, a < H.size → ¬ A a → H1[a]? = H[a]?) : vx_Zq C n d A U H1 := ⟨va_Zq.kept h.1 hq, vx_L.kept h.2 hq⟩
theorem vx_Zq.narrow {C n d : String} {A B : Nat → Prop} {U : State} {H : Heap} (h : vx_Zq C n d A U H) (hAB : ∀ q, B q → A q) : vx_Zq C n d B U H := ⟨va_Zq.narrow h.1 hAB, vx_L.narrow h.2 hAB⟩
theorem vx_Zqof {args : Array Value} {s : State} {C n d : String} {A : Nat → Prop} (hl : (Cond.laysStatic C n d).before args s = true) (hini : (Cond.initialized C).before args s = true) (h : (Cond.isRef (.static C n d)).before args s = true) (hA : ∀ a : Nat, a < s.heap.size → ¬ A a) : vx_Zq C n d A s s.heap := by
  refine ⟨va_Zqof hl hini h hA, ?_⟩
  obtain ⟨c, k, i, f, a, cell, h1, h2, h3, h4, h5, h6, h7, h8, h9⟩ := Cond.laysStatic_spec hl
  exact ⟨c, k, i, f, a, cell, h1, h2, h3, h4, h5, h6, h7, h8, h9, hA a (Array.getElem?_eq_some_iff.mp h5).1⟩
theorem vx_isRef {C n d : String} {v : Value} {A : Nat → Prop} {s : State} {args : Array Value} (h : va_Z C n d v A s s.heap) (hv : v.isRef = true) : (Cond.isRef (.static C n d)).before args s = true := by
  obtain ⟨cf, kf, fi, f, a, cell, h1, h2, h3, h4, h5, h6, h7, -⟩ := h
  have he : (Term.static C n d).eval args s none [] s = some v := by
    simp [Term.eval, State.fieldNamed?, h1, h2, h4, h5, h6, h7]
  simp only [Cond.before, Cond.holds, Cond.value, he]
  cases v <;> simp_all [Value.isRef]
theorem vx_isRefq {C n d : String} {A : Nat → Prop} {s : State} {args : Array Value} (h : va_Zq C n d A s s.heap) : (Cond.isRef (.static C n d)).before args s = true := by
  rcases h with h | ⟨t, h⟩
  · exact vx_isRef h rfl
  · exact vx_isRef h rfl
/-- the same frame, seen from here: as if the method were called anew in this heap -/
theorem vx_rebase {T : State} (X : Stand p l e R s m args below meth c T locs cells slots) {R' : Room} (hf : R'.frames ≤ R.frames) (hl : R'.locals ≤ R.locals) (hc : cells + R'.cells ≤ R.cells) (hs : slots + R'.slots ≤ R.slots) :
    Stand p l e R' ((T.setVm s.vm).setFrames (.invoking m args :: below)) m args below meth c T [] 0 0 := by
  have htop : (T.setVm s.vm).topJava?.isSome := X.here.top
  have hF : ((T.setVm s.vm).setFrames (.invoking m args :: below)).frames = .invoking m args :: below := State.frames_setFrames _ (State.cur_lt_of_top htop)
  obtain ⟨g₀, hg0⟩ := Option.isSome_iff_exists.mp htop
  obtain ⟨r, hr⟩ := State.topJava?_eq_some.mp hg0
  have hl9 : e.platform.stackLimits (T.setVm s.vm).me = e.platform.stackLimits s.me := X.limits
  have hb9 : (T.setVm s.vm).me.stackBytes = s.me.stackBytes := X.bytes
  refine ⟨X.admits, X.cas, X.clock, hF, ?_, X.hears, X.method, X.code, X.here, X.tail, X.warmed, ?_, ?_, ?_⟩
  · have h := X.room
    have hU : ((T.setVm s.vm).setFrames (.invoking m args :: below)).localsInUse = s.localsInUse := by
      rw [State.localsInUse_invoking hF (meth := meth) (c := c) X.method X.code, State.localsInUse_invoking X.frames X.method X.code]
    simp only [State.hasRoom, Bool.and_eq_true, decide_eq_true_eq] at h ⊢
    obtain ⟨⟨⟨⟨h1, h2, h3, h4, h5, h6⟩, h7⟩, h8⟩, h9⟩ := h
    rw [X.frames, List.length_cons] at h2 h3
    have q1 := X.heapSize
    have q2 := X.used
    simp only [hF, hU, List.length_cons, State.stackLimits_setFrames, State.stackBytes_setFrames, hl9, hb9]
    refine ⟨⟨⟨⟨by omega, by omega, by omega, by omega, by omega, h6⟩, ?_⟩, ?_⟩, X.book⟩
    · show T.heap.size + R'.cells ≤ e.platform.maxCells
      omega
    · show T.slotsUsed + R'.slots ≤ e.platform.maxSlots
      omega
  · rw [State.stackLimits_setFrames]; rfl
  · rw [State.stackBytes_setFrames]; rfl
  · refine ⟨?_, Nat.le_refl _, Nat.le_refl _, ?_, ?_, fun a c9 h9 => ⟨c9, h9, rfl, rfl, fun _ _ => rfl⟩⟩
    · obtain ⟨t, ht, -⟩ := State.frames_cons hr
      show T.setVm s.vm = { ((T.setVm s.vm).setFrames (.invoking m args :: below)).setFrames (T.setVm s.vm).frames with heap := T.heap, slotsUsed := T.slotsUsed }
      rw [State.setFrames_setFrames, State.setFrames_self ht]
      rfl
    · show T.slotsUsed = T.slotsUsed + ((T.heap.toList.drop T.heap.size).map (·.slots.size)).sum
      rw [List.drop_eq_nil_of_le (Nat.le_of_eq Array.length_toList)]
      rfl
    · show ((T.heap.toList.drop T.heap.size).map (·.slots.size)).sum ≤ 0
      rw [List.drop_eq_nil_of_le (Nat.le_of_eq Array.length_toList)]
      exact Nat.le_refl _
/-- 'throw new E()': new; dup; invokespecial; athrow -/
theorem vx_throw0 {cc : ByteArray} {pc : Nat} (hexec : p.tables.exec = Jvm.exec) (hb : c.code = cc) (hl : l.stackTraces = false) {own cls : String} {names : List String} {ik ic mc ms : Nat} {A : Nat → Prop}
    (hown : s.vm.findClass own = some m.cls) (hcls : Bundle.fit cls = true) (hnames : ∀ n ∈ names, Bundle.fit n = true)
    (hk : (Cond.classLink own ik cls).before args s = true) (hini : (Cond.initialized cls).before args s = true) (hat : ∀ w ∈ vx_at0 own ic cls names, w.before args s = true)
    (hgood : ∀ w ∈ Cond.classLink own ik cls :: Cond.initialized cls :: vx_at0 own ic cls names, vx_ot w = true)
    (hU : vx_Zq Bundle.tN "UNASSIGNED_STACK" Bundle.steD A s s.heap) (hN : vx_Zq Bundle.tN "SUPPRESSED_SENTINEL" Bundle.listD A s s.heap) (hS : va_S A s.heap H locs) (hsize : ls.size = c.maxLocals)
    (d0 : decode cc pc = .ok (.new ik, 3)) (d3 : decode cc (pc + 3) = .ok (.dup, 1)) (d4 : decode cc (pc + 4) = .ok (.invokespecial ic, 3)) (d7 : decode cc (pc + 7) = .ok (.athrow, 1))
    (hout : ∀ x ∈ c.exceptionTable.toList, covers x (pc + 7) = false)
    (hRframes : names.length + 3 < R.frames) (hRlocals : (rest.map fun v => v.category).sum + (13 * (names.length + 1) + 42) ≤ R.locals) (hRcells : cells + 1 ≤ R.cells) (hRslots : slots + 6 ≤ R.slots) (hlocks : meth.locks = false)
    (hx : ∀ t : State, s.vm.Alike t.vm → H.size ≤ t.heap.size → (∀ q : Nat, q < H.size → t.heap[q]? = H[q]?) → XC cls s t)
    (hf : ∀ z ∈ locs, free z.base) (hc : cells + 1 ≤ mc) (hs : slots + 6 ≤ ms) :
    W p l e R s m args below meth c H locs cells slots (vx_MQ below Qc XC args s mc ms free) (F0 m pc ls rest) := by
  intro T hT X
  have htr : e.platform.stackTraces = false := (show e.platform.stackTraces = l.stackTraces by rw [X.admits.platform]).trans hl
  have Y := vx_rebase X (R' := { frames := R.frames, locals := R.locals, cells := 1, slots := 6 }) (Nat.le_refl _) (Nat.le_refl _) hRcells hRslots
  obtain ⟨s', hA⟩ : ∃ z, z = (T.setVm s.vm).setFrames (.invoking m args :: below) := ⟨_, rfl⟩
  rw [← hA] at Y
  have hvm : s'.vm = s.vm := by rw [hA]; rfl
  have hhp : s'.heap = H := by rw [hA]; exact hT
  have hW0 : s.WarmedH s'.vm := by rw [hvm]; exact State.WarmedH.refl s
  have hat' : ∀ w ∈ vx_at0 own ic cls names, w.before args s' = true := fun w hw => vx_ot_at hW0 hvm.symm (hgood w (List.mem_cons_of_mem _ (List.mem_cons_of_mem _ hw))) (hat w hw)
  have hk' : (Cond.classLink own ik cls).before args s' = true := vx_ot_at hW0 hvm.symm (hgood _ List.mem_cons_self) hk
  have hini' : (Cond.initialized cls).before args s' = true := vx_ot_at hW0 hvm.symm (hgood _ (List.mem_cons_of_mem _ List.mem_cons_self)) hini
  have hU' : vx_Zq Bundle.tN "UNASSIGNED_STACK" Bundle.steD A s' s'.heap := by rw [hhp]; exact vx_Zq.moved hW0.alike (hU.kept hS.2.1)
  have hN' : vx_Zq Bundle.tN "SUPPRESSED_SENTINEL" Bundle.listD A s' s'.heap := by rw [hhp]; exact vx_Zq.moved hW0.alike (hN.kept hS.2.1)
  have h : ∀ w ∈ Bundle.ownAtoms0 own ic cls names, w.before args s' = true := vx_own hat' (vx_isRefq hU'.1) (vx_isRefq hN'.1) hU'.2.word hN'.2.word
  have hown' : s'.vm.findClass own = some m.cls := by rw [hvm]; exact hown
  have hins : (Cond.instantiable cls 6).before args s' = true := h _ (by simp [Bundle.ownAtoms0])
  obtain ⟨vm₁, cX, kX, hfX, hkX, -, -, X₁, st1⟩ := Y.newCold hexec (own := own) (C := cls) (index := ik) (n := 6) hown' hk' hins hini'
    (g := F0 m pc ls rest) rfl (by rw [hb]; exact d0) (Nat.le_refl _) (Nat.le_refl _)
  generalize hT1 : (T.setVm vm₁).pushCell { cls := cX, slots := kX.instanceTypes.map defaultValue, vm := .none } = T1 at X₁ st1
  have hcat : (Value.ref T.heap.size).category = 1 := rfl
  have hcellA : T1.heap[T.heap.size]? = some (freshCell cX kX) := by rw [← hT1]; exact State.heap_pushCell_size _ _
  have d3' : decode c.code (pc + 3) = .ok (.dup, 1) := by rw [hb]; exact d3
  obtain ⟨U, hsteps, hrun, hend, hW, hsame, ce, hce, hO⟩ := X₁.ctorThrow0 hexec htr (own := own) (cls := cls) (names := names) (ic := ic) hown' hcls hnames h (fun x hx => nomatch hx) hfX hkX hcellA (by rw [hhp, hT]; exact Nat.le_refl _)
    (g := { method := m, pc := pc + 4, locals := ls, stack := .ref T.heap.size :: .ref T.heap.size :: rest, locked := none }) rfl hsize rfl rfl (rest := rest) rfl
    (by rw [hb]; exact d4) (by rw [hb]; exact d7) hout hRframes (by simp only [List.map_cons, List.sum_cons, hcat]; omega) hlocks
  obtain ⟨f1, f2⟩ := vx_frame hsame
  rw [hhp] at f1 f2
  have hWs : s.WarmedH U.vm := State.WarmedH.trans hW0 hW
  have hcl : s.vm.findClass cls = some ce.cls := by
    have h9 := hO.cls
    rw [hvm] at h9
    exact h9
  have hall : s.sameButNew ({ U with vm := s.vm } : State) locs mc ms := by
    subst hA
    obtain ⟨e1, e2⟩ := hsame
    rw [State.setFrames_setFrames] at e1
    have h2 : (T.setVm s.vm).sameButNew ({ U with vm := s.vm } : State) [] (0 + 1) (0 + 6) := ⟨e1, e2⟩
    have h3 := X.same.trans h2
    rw [List.append_nil] at h3
    exact h3.mono hc hs
  refine ⟨U, ?_, .threw T.heap.size, hrun, hend, Or.inr ⟨T.heap.size, rfl, cls, ce, locs, hx U hWs.alike f1 (fun q hq => f2 q hq (fun z hz => nomatch hz)), hce, hO.vm, hcl, hWs, hall, hf⟩⟩
  refine st1 _ ?_
  show Steps p.tables e below (T1.setTop { method := m, pc := pc + 3, locals := ls, stack := .ref T.heap.size :: rest, locked := none }) _
  jvm_step X₁.here [X₁.here.top, hexec, d3', Value.category]
  exact hsteps
/-- 'throw new E("text")': new; dup; ldc; invokespecial; athrow -/
theorem vx_throwS {cc : ByteArray} {pc : Nat} (hexec : p.tables.exec = Jvm.exec) (hb : c.code = cc) (hl : l.stackTraces = false) {own cls text : String} {names : List String} {ik is ic mc ms sa : Nat} {A : Nat → Prop}
    (hown : s.vm.findClass own = some m.cls) (hcls : Bundle.fit cls = true) (hnames : ∀ n ∈ names, Bundle.fit n = true)
    (hk : (Cond.classLink own ik cls).before args s = true) (hini : (Cond.initialized cls).before args s = true) (hstr : vk_R own is text sa s) (hat : ∀ w ∈ vx_atS own ic cls names, w.before args s = true)
    (hgood : ∀ w ∈ Cond.classLink own ik cls :: Cond.initialized cls :: vx_atS own ic cls names, vx_ot w = true)
    (hU : vx_Zq Bundle.tN "UNASSIGNED_STACK" Bundle.steD A s s.heap) (hN : vx_Zq Bundle.tN "SUPPRESSED_SENTINEL" Bundle.listD A s s.heap) (hS : va_S A s.heap H locs) (hsize : ls.size = c.maxLocals)
    (d0 : decode cc pc = .ok (.new ik, 3)) (d3 : decode cc (pc + 3) = .ok (.dup, 1)) (d4 : decode cc (pc + 4) = .ok (.ldc is, 2)) (d6 : decode cc (pc + 6) = .ok (.invokespecial ic, 3)) (d9 : decode cc (pc + 9) = .ok (.athrow, 1))
    (hout : ∀ x ∈ c.exceptionTable.toList, covers x (pc + 9) = false)
    (hRframes : names.length + 3 < R.frames) (hRlocals : (rest.map fun v => v.category).sum + (13 * (names.length + 1) + 43) ≤ R.locals) (hRcells : cells + 1 ≤ R.cells) (hRslots : slots + 6 ≤ R.slots) (hlocks : meth.locks = false)
    (hx : ∀ t : State, s.vm.Alike t.vm → H.size ≤ t.heap.size → (∀ q : Nat, q < H.size → t.heap[q]? = H[q]?) → XC cls s t)
    (hf : ∀ z ∈ locs, free z.base) (hc : cells + 1 ≤ mc) (hs : slots + 6 ≤ ms) :
    W p l e R s m args below meth c H locs cells slots (vx_MQ below Qc XC args s mc ms free) (F0 m pc ls rest) := by
  intro T hT X
  have htr : e.platform.stackTraces = false := (show e.platform.stackTraces = l.stackTraces by rw [X.admits.platform]).trans hl
  have Y := vx_rebase X (R' := { frames := R.frames, locals := R.locals, cells := 1, slots := 6 }) (Nat.le_refl _) (Nat.le_refl _) hRcells hRslots
  obtain ⟨s', hA⟩ : ∃ z, z = (T.setVm s.vm).setFrames (.invoking m args :: below) := ⟨_, rfl⟩
  rw [← hA] at Y
  have hvm : s'.vm = s.vm := by rw [hA]; rfl
  have hhp : s'.heap = H := by rw [hA]; exact hT
  have hW0 : s.WarmedH s'.vm := by rw [hvm]; exact State.WarmedH.refl s
  have hat' : ∀ w ∈ vx_atS own ic cls names, w.before args s' = true := fun w hw => vx_ot_at hW0 hvm.symm (hgood w (List.mem_cons_of_mem _ (List.mem_cons_of_mem _ hw))) (hat w hw)
  have hk' : (Cond.classLink own ik cls).before args s' = true := vx_ot_at hW0 hvm.symm (hgood _ List.mem_cons_self) hk
  have hini' : (Cond.initialized cls).before args s' = true := vx_ot_at hW0 hvm.symm (hgood _ (List.mem_cons_of_mem _ List.mem_cons_self)) hini
  have hU' : vx_Zq Bundle.tN "UNASSIGNED_STACK" Bundle.steD A s' s'.heap := by rw [hhp]; exact vx_Zq.moved hW0.alike (hU.kept hS.2.1)
  have hN' : vx_Zq Bundle.tN "SUPPRESSED_SENTINEL" Bundle.listD A s' s'.heap := by rw [hhp]; exact vx_Zq.moved hW0.alike (hN.kept hS.2.1)
  have h : ∀ w ∈ Bundle.ownAtoms own ic cls names, w.before args s' = true := vx_own hat' (vx_isRefq hU'.1) (vx_isRefq hN'.1) hU'.2.word hN'.2.word
  have hown' : s'.vm.findClass own = some m.cls := by rw [hvm]; exact hown
  have hins : (Cond.instantiable cls 6).before args s' = true := h _ (by simp [Bundle.ownAtoms])
  obtain ⟨vm₁, cX, kX, hfX, hkX, -, -, X₁, st1⟩ := Y.newCold hexec (own := own) (C := cls) (index := ik) (n := 6) hown' hk' hins hini'
    (g := F0 m pc ls rest) rfl (by rw [hb]; exact d0) (Nat.le_refl _) (Nat.le_refl _)
  generalize hT1 : (T.setVm vm₁).pushCell { cls := cX, slots := kX.instanceTypes.map defaultValue, vm := .none } = T1 at X₁ st1
  have hcat : (Value.ref T.heap.size).category = 1 := rfl
  have hcellA : T1.heap[T.heap.size]? = some (freshCell cX kX) := by rw [← hT1]; exact State.heap_pushCell_size _ _
  have d3' : decode c.code (pc + 3) = .ok (.dup, 1) := by rw [hb]; exact d3
  have d4' : decode c.code (pc + 4) = .ok (.ldc is, 2) := by rw [hb]; exact d4
  have hstr' : vk_R own is text sa s' := vk_R.warm hW0 hstr
  obtain ⟨U, hsteps, hrun, hend, hW, hsame, ce, hce, hO⟩ := X₁.ctorThrowS hexec htr (own := own) (cls := cls) (names := names) (ic := ic) hown' hcls hnames h (fun x hx => nomatch hx) hfX hkX hcellA (by rw [hhp, hT]; exact Nat.le_refl _) (msg := .ref sa) rfl
    (g := { method := m, pc := pc + 6, locals := ls, stack := .ref sa :: .ref T.heap.size :: .ref T.heap.size :: rest, locked := none }) rfl hsize rfl rfl (rest := rest) rfl
    (by rw [hb]; exact d6) (by rw [hb]; exact d9) hout hRframes (by simp only [List.map_cons, List.sum_cons, hcat]; omega) hlocks
  obtain ⟨f1, f2⟩ := vx_frame hsame
  rw [hhp] at f1 f2
  have hWs : s.WarmedH U.vm := State.WarmedH.trans hW0 hW
  have hcl : s.vm.findClass cls = some ce.cls := by
    have h9 := hO.cls
    rw [hvm] at h9
    exact h9
  have hall : s.sameButNew ({ U with vm := s.vm } : State) locs mc ms := by
    subst hA
    obtain ⟨e1, e2⟩ := hsame
    rw [State.setFrames_setFrames] at e1
    have h2 : (T.setVm s.vm).sameButNew ({ U with vm := s.vm } : State) [] (0 + 1) (0 + 6) := ⟨e1, e2⟩
    have h3 := X.same.trans h2
    rw [List.append_nil] at h3
    exact h3.mono hc hs
  refine ⟨U, ?_, .threw T.heap.size, hrun, hend, Or.inr ⟨T.heap.size, rfl, cls, ce, locs, hx U hWs.alike f1 (fun q hq => f2 q hq (fun z hz => nomatch hz)), hce, hO.vm, hcl, hWs, hall, hf⟩⟩
  refine st1 _ ?_
  show Steps p.tables e below (T1.setTop { method := m, pc := pc + 3, locals := ls, stack := .ref T.heap.size :: rest, locked := none }) _
  jvm_step X₁.here [X₁.here.top, hexec, d3', Value.category]
  exact X₁.ldcString hexec (own := own) (text := text) (index := is) (a := sa) hown' hstr'.1 hstr'.2
    (g := { method := m, pc := pc + 4, locals := ls, stack := .ref T.heap.size :: .ref T.heap.size :: rest, locked := none }) rfl d4' _ hsteps
/-- 'throw new E("text")', the text by a wide index -/
theorem vx_throwSW {cc : ByteArray} {pc : Nat} (hexec : p.tables.exec = Jvm.exec) (hb : c.code = cc) (hl : l.stackTraces = false) {own cls text : String} {names : List String} {ik is ic mc ms sa : Nat} {A : Nat → Prop}
    (hown : s.vm.findClass own = some m.cls) (hcls : Bundle.fit cls = true) (hnames : ∀ n ∈ names, Bundle.fit n = true)
    (hk : (Cond.classLink own ik cls).before args s = true) (hini : (Cond.initialized cls).before args s = true) (hstr : vk_R own is text sa s) (hat : ∀ w ∈ vx_atS own ic cls names, w.before args s = true)
    (hgood : ∀ w ∈ Cond.classLink own ik cls :: Cond.initialized cls :: vx_atS own ic cls names, vx_ot w = true)
    (hU : vx_Zq Bundle.tN "UNASSIGNED_STACK" Bundle.steD A s s.heap) (hN : vx_Zq Bundle.tN "SUPPRESSED_SENTINEL" Bundle.listD A s s.heap) (hS : va_S A s.heap H locs) (hsize : ls.size = c.maxLocals)
    (d0 : decode cc pc = .ok (.new ik, 3)) (d3 : decode cc (pc + 3) = .ok (.dup, 1)) (d4 : decode cc (pc + 4) = .ok (.ldc_w is, 3)) (d7 : decode cc (pc + 7) = .ok (.invokespecial ic, 3)) (d10 : decode cc (pc + 10) = .ok (.athrow, 1))
    (hout : ∀ x ∈ c.exceptionTable.toList, covers x (pc + 10) = false)
    (hRframes : names.length + 3 < R.frames) (hRlocals : (rest.map fun v => v.category).sum + (13 * (names.length + 1) + 43) ≤ R.locals) (hRcells : cells + 1 ≤ R.cells) (hRslots : slots + 6 ≤ R.slots) (hlocks : meth.locks = false)
    (hx : ∀ t : State, s.vm.Alike t.vm → H.size ≤ t.heap.size → (∀ q : Nat, q < H.size → t.heap[q]? = H[q]?) → XC cls s t)
    (hf : ∀ z ∈ locs, free z.base) (hc : cells + 1 ≤ mc) (hs : slots + 6 ≤ ms) :
    W p l e R s m args below meth c H locs cells slots (vx_MQ below Qc XC args s mc ms free) (F0 m pc ls rest) := by
  intro T hT X
  have htr : e.platform.stackTraces = false := (show e.platform.stackTraces = l.stackTraces by rw [X.admits.platform]).trans hl
  have Y := vx_rebase X (R' := { frames := R.frames, locals := R.locals, cells := 1, slots := 6 }) (Nat.le_refl _) (Nat.le_refl _) hRcells hRslots
  obtain ⟨s', hA⟩ : ∃ z, z = (T.setVm s.vm).setFrames (.invoking m args :: below) := ⟨_, rfl⟩
  rw [← hA] at Y
  have hvm : s'.vm = s.vm := by rw [hA]; rfl
  have hhp : s'.heap = H := by rw [hA]; exact hT
  have hW0 : s.WarmedH s'.vm := by rw [hvm]; exact State.WarmedH.refl s
  have hat' : ∀ w ∈ vx_atS own ic cls names, w.before args s' = true := fun w hw => vx_ot_at hW0 hvm.symm (hgood w (List.mem_cons_of_mem _ (List.mem_cons_of_mem _ hw))) (hat w hw)
  have hk' : (Cond.classLink own ik cls).before args s' = true := vx_ot_at hW0 hvm.symm (hgood _ List.mem_cons_self) hk
  have hini' : (Cond.initialized cls).before args s' = true := vx_ot_at hW0 hvm.symm (hgood _ (List.mem_cons_of_mem _ List.mem_cons_self)) hini
  have hU' : vx_Zq Bundle.tN "UNASSIGNED_STACK" Bundle.steD A s' s'.heap := by rw [hhp]; exact vx_Zq.moved hW0.alike (hU.kept hS.2.1)
  have hN' : vx_Zq Bundle.tN "SUPPRESSED_SENTINEL" Bundle.listD A s' s'.heap := by rw [hhp]; exact vx_Zq.moved hW0.alike (hN.kept hS.2.1)
  have h : ∀ w ∈ Bundle.ownAtoms own ic cls names, w.before args s' = true := vx_own hat' (vx_isRefq hU'.1) (vx_isRefq hN'.1) hU'.2.word hN'.2.word
  have hown' : s'.vm.findClass own = some m.cls := by rw [hvm]; exact hown
  have hins : (Cond.instantiable cls 6).before args s' = true := h _ (by simp [Bundle.ownAtoms])
  obtain ⟨vm₁, cX, kX, hfX, hkX, -, -, X₁, st1⟩ := Y.newCold hexec (own := own) (C := cls) (index := ik) (n := 6) hown' hk' hins hini'
    (g := F0 m pc ls rest) rfl (by rw [hb]; exact d0) (Nat.le_refl _) (Nat.le_refl _)
  generalize hT1 : (T.setVm vm₁).pushCell { cls := cX, slots := kX.instanceTypes.map defaultValue, vm := .none } = T1 at X₁ st1
  have hcat : (Value.ref T.heap.size).category = 1 := rfl
  have hcellA : T1.heap[T.heap.size]? = some (freshCell cX kX) := by rw [← hT1]; exact State.heap_pushCell_size _ _
  have d3' : decode c.code (pc + 3) = .ok (.dup, 1) := by rw [hb]; exact d3
  have d4' : decode c.code (pc + 4) = .ok (.ldc_w is, 3) := by rw [hb]; exact d4
  have hstr' : vk_R own is text sa s' := vk_R.warm hW0 hstr
  obtain ⟨U, hsteps, hrun, hend, hW, hsame, ce, hce, hO⟩ := X₁.ctorThrowS hexec htr (own := own) (cls := cls) (names := names) (ic := ic) hown' hcls hnames h (fun x hx => nomatch hx) hfX hkX hcellA (by rw [hhp, hT]; exact Nat.le_refl _) (msg := .ref sa) rfl
    (g := { method := m, pc := pc + 7, locals := ls, stack := .ref sa :: .ref T.heap.size :: .ref T.heap.size :: rest, locked := none }) rfl hsize rfl rfl (rest := rest) rfl
    (by rw [hb]; exact d7) (by rw [hb]; exact d10) hout hRframes (by simp only [List.map_cons, List.sum_cons, hcat]; omega) hlocks
  obtain ⟨f1, f2⟩ := vx_frame hsame
  rw [hhp] at f1 f2
  have hWs : s.WarmedH U.vm := State.WarmedH.trans hW0 hW
  have hcl : s.vm.findClass cls = some ce.cls := by
    have h9 := hO.cls
    rw [hvm] at h9
    exact h9
  have hall : s.sameButNew ({ U with vm := s.vm } : State) locs mc ms := by
    subst hA
    obtain ⟨e1, e2⟩ := hsame
    rw [State.setFrames_setFrames] at e1
    have h2 : (T.setVm s.vm).sameButNew ({ U with vm := s.vm } : State) [] (0 + 1) (0 + 6) := ⟨e1, e2⟩
    have h3 := X.same.trans h2
    rw [List.append_nil] at h3
    exact h3.mono hc hs
  refine ⟨U, ?_, .threw T.heap.size, hrun, hend, Or.inr ⟨T.heap.size, rfl, cls, ce, locs, hx U hWs.alike f1 (fun q hq => f2 q hq (fun z hz => nomatch hz)), hce, hO.vm, hcl, hWs, hall, hf⟩⟩
  refine st1 _ ?_
  show Steps p.tables e below (T1.setTop { method := m, pc := pc + 3, locals := ls, stack := .ref T.heap.size :: rest, locked := none }) _
  jvm_step X₁.here [X₁.here.top, hexec, d3', Value.category]
  exact X₁.ldcStringW hexec (own := own) (text := text) (index := is) (a := sa) hown' hstr'.1 hstr'.2
    (g := { method := m, pc := pc + 4, locals := ls, stack := .ref T.heap.size :: .ref T.heap.size :: rest, locked := none }) rfl d4' _ hsteps
end Ends
section Bodies
variable {l : Launch}
theorem vx_ofW {y : MethodName} {ws ws' : List Cond} {rm : Room} {Pc : Array Value → State → Prop} {Qc : Array Value → State → Outcome → State → Prop} {XC : String → State → State → Prop} {mc ms : Nat} {free : Addr → Prop} {cc : ByteArray} {maxL : Nat} {ret : Option FieldType}
    (hy : plainName y.cls = true) (hw : ws = Cond.code y cc maxL ret :: ws')
    (body : ∀ p e s m args below meth c s₁, BodyLoose p l y (headSpec ws rm) cc maxL ret e s m args below meth c s₁ → c.maxLocals = maxL → (∀ x ∈ c.exceptionTable.toList, False) → Pc args s →
      W p l e (headSpec ws rm).room s m args below meth c s.heap [] 0 0 (vx_MQ below Qc XC args s mc ms free) (entryFrame m args maxL)) : vx_Met l y ws rm Pc Qc XC mc ms free := by
  refine MetFree.of_bodyS (code := cc) (maxLocals := maxL) (ret := ret) hy ?_ ?_
  · intro args s m h hn
    obtain ⟨meth, c, h1, h2, h3, h4, h5, h6, -, -⟩ := Cond.code_spec hn (atoms_spec (ws := ws) h _ (by rw [hw]; exact List.mem_cons_self))
    exact ⟨meth, c, h1, h2, h3, h4, h5, h6⟩
  · intro p e s m args below meth c s₁ B hml hP _
    have hh0 : s₁.heap = s.heap := by rw [B.state]; rfl
    have ht : ∀ x ∈ c.exceptionTable.toList, False := by
      obtain ⟨meth9, c9, h1, h2, -, -, -, -, h7, -⟩ := Cond.code_spec B.named (atoms_spec (ws := ws) B.pre _ (by rw [hw]; exact List.mem_cons_self))
      cases Option.some.inj (h1.symm.trans B.method)
      cases Option.some.inj (h2.symm.trans (Stand.of_body B).code)
      intro x hx
      rw [Array.isEmpty_iff.mp h7] at hx
      cases hx
    obtain ⟨t, a1, o, b1, b2, b3⟩ := body p e s m args below meth c s₁ B hml ht hP s₁ hh0 (Stand.of_body B)
    exact ⟨t, o, a1, b1, b2, b3⟩
/-- the table of a body with handlers -/
theorem vx_table {p : Program} {x y : MethodName} {S : Spec} {cc bytes : ByteArray} {maxL maxL' : Nat} {ret ret' : Option FieldType} {e : Env} {s s₁ : State} {m : MethodId} {args : Array Value} {below : List Frame} {meth : Method} {c : Code} {hh : List (Nat × Nat × Nat × Nat)}
    (B : BodyLoose p l y S cc maxL ret e s m args below meth c s₁) (h : (Cond.codeWith y bytes maxL' ret' hh).before args s = true) : c.exceptionTable.toList = tableOf hh := by
  obtain ⟨m9, meth9, c9, hn9, h1, h2, -, -, h6, -⟩ := Cond.codeWith_spec h
  cases Option.some.inj (hn9.symm.trans B.named)
  cases Option.some.inj (h1.symm.trans B.method)
  cases Option.some.inj (h2.symm.trans (Stand.of_body B).code)
  rw [← h6, table_eq]
end Bodies
end VXA
/-! ===== END ===== -/
/-! ===== BEGIN a static call of a method with an exception table ===== -/
section VXS
variable {p : Program} {l : Launch} {e : Env} {R : Room} {s : State} {m : MethodId} {args : Array Value} {below : List Frame} {meth : Method} {c : Code} {T : State} {H : Heap} {locs : List Loc} {cells slots : Nat}
abbrev vx_CSW (R : Room) (s : State) (args : Array Value) (own : String) (index : Nat) (y : MethodName) (bytes : ByteArray) (maxL : Nat) (ret : Option FieldType) (hh : List (Nat × Nat × Nat × Nat)) (ws : List Cond) (rm : Room) (mc ms n : Nat) : Prop :=
  (rm.cells = mc ∧ rm.slots = ms ∧ rm.frames + 1 ≤ R.frames ∧ 8 + (maxL + 11) + rm.locals ≤ R.locals ∧ (∀ w ∈ ws, ∀ (a' : Array Value) (U : State), s.WarmedH U.vm → w.before a' U = true) ∧ Cond.codeWith y bytes maxL ret hh ∈ ws) ∧
  (Cond.codeWith y bytes maxL ret hh).before args s = true ∧ (Cond.initialized y.cls).before args s = true ∧ (y.cls ≠ "java/lang/invoke/MethodHandle" ∧ y.cls ≠ "java/lang/invoke/VarHandle") ∧
  (∀ sig, parseMethodDescriptor y.desc = some sig → n = sig.parameters.length) ∧ (Cond.methodLink own index y).before args s = true ∧ (Cond.static y).before args s = true
theorem vx_cwSW {own : String} {index maxL mc ms : Nat} {y : MethodName} {bytes : ByteArray} {ret : Option FieldType} {hh : List (Nat × Nat × Nat × Nat)} {Ts ws ws' : List Cond} {rm : Room} (n : Nat) (ht : ∀ w ∈ Ts, w.before args s = true) (hT : GoodIn Ts (va_wsS own index y ws)) (hw : ws = Cond.codeWith y bytes maxL ret hh :: ws') (hrc : rm.cells = mc) (hrs : rm.slots = ms)
    (hd : y.cls ≠ "java/lang/invoke/MethodHandle" ∧ y.cls ≠ "java/lang/invoke/VarHandle" ∧ (parseMethodDescriptor y.desc).map (fun d => d.parameters.length) = some n) (hR : rm.frames + 1 ≤ R.frames ∧ 8 + (maxL + 11) + rm.locals ≤ R.locals) :
    vx_CSW R s args own index y bytes maxL ret hh ws rm mc ms n := by
  have ok : ∀ w ∈ va_wsS own index y ws, w.before args s = true := fun w h => ht w (hT w h).1
  have hG : GoodIn Ts ws := fun w h => hT w (by unfold va_wsS; exact List.mem_append_right _ h)
  have hc : Cond.codeWith y bytes maxL ret hh ∈ ws := by rw [hw]; exact List.mem_cons_self
  refine ⟨⟨hrc, hrs, hR.1, hR.2, pay_in ht hG, hc⟩, ht _ (hG _ hc).1, ok _ (by simp [va_wsS]), ⟨hd.1, hd.2.1⟩, fun sig h => ?_, ok _ (by simp [va_wsS]), ok _ (by simp [va_wsS])⟩
  have h2 := hd.2.2
  rw [h] at h2
  exact (Option.some.inj h2).symm
theorem vx_callSW (X : Stand p l e R s m args below meth c T locs cells slots) (hexec : p.tables.exec = Jvm.exec) {own : String} {index : Nat} {y : MethodName} {bytes : ByteArray} {maxL : Nat} {ret : Option FieldType} {hh : List (Nat × Nat × Nat × Nat)}
    (hown : s.vm.findClass own = some m.cls) (hlink : (Cond.methodLink own index y).before args s = true) (hstat : (Cond.static y).before args s = true) (hinit : (Cond.initialized y.cls).before args s = true)
    (hcode : (Cond.codeWith y bytes maxL ret hh).before args s = true) (hy : y.cls ≠ "java/lang/invoke/MethodHandle" ∧ y.cls ≠ "java/lang/invoke/VarHandle")
    {W9 : Nat} {Pre : Pt → Array Value → Prop} {Post : Pt → Array Value → Option Value → Pt → Prop} (hK : Back l R p e below s args y 3 W9 Pre Post)
    {g : JFrame} (hg : g.method = m) (hsize : g.locals.size = c.maxLocals) {argsL rest : List Value} (hlen : ∀ sig, parseMethodDescriptor y.desc = some sig → argsL.length = sig.parameters.length)
    (hstack : g.stack = argsL.reverse ++ rest) (hW : 2 * g.monitorRoom + (rest.map fun v => v.category).sum ≤ W9) (hdg : decode c.code g.pc = .ok (.invokestatic index, 3))
    (hpre : ∀ vm₁, s.WarmedH vm₁ → Pre ⟨T.setVm vm₁, locs, cells, slots⟩ argsL.toArray) :
    ∃ (v : Option Value) (vm₁ : Vm) (B : Pt), s.WarmedH vm₁ ∧ Stand p l e R s m args below meth c B.U B.locs B.cells B.slots ∧ Post ⟨T.setVm vm₁, locs, cells, slots⟩ argsL.toArray v B ∧
      ∀ target, Steps p.tables e below (B.U.setTop { g with pc := g.pc + 3, stack := v.toList ++ rest }) target → Steps p.tables e below (T.setTop g) target := by
  obtain ⟨mk, methM, cM, hnamed, hmethM, -, -, -, -, -, -, hsigM⟩ := Cond.codeWith_spec hcode
  have hstatic : methM.isStatic = true := Cond.static_spec hnamed hmethM hstat
  obtain ⟨kP, hkP, -⟩ := className_of_methodNamed hnamed
  have hinitP : kP.init = .initialized := Cond.initialized_spec (findClass_of_methodNamed hnamed) hkP hinit
  obtain ⟨vm₁, X₁, hstep₁⟩ := X.invokestatic hexec hown hlink hnamed hmethM hstatic hkP hinitP hy (g := g) hg (argsL := argsL) (rest := rest) (hlen _ hsigM) hstack hdg
  obtain ⟨v, B, X', hpost, hsteps⟩ := hK m meth c ⟨T.setVm vm₁, locs, cells, slots⟩ { g with stack := rest } (.invokestatic index) mk argsL.toArray X₁ hg hsize hdg hW (X₁.named hnamed) (hpre vm₁ X₁.warmed)
  exact ⟨v, vm₁, B, X₁.warmed, X', hpost, fun target h => hstep₁ _ fun acts => by rw [doInvoke_state]; exact hsteps.trans h⟩
theorem vx_runSW {y : MethodName} {bytes cc : ByteArray} {maxL nL mc ms n index : Nat} {ret : Option FieldType} {hh : List (Nat × Nat × Nat × Nat)} {ws : List Cond} {rm : Room} {Pc : Array Value → State → Prop} {Qc : Array Value → State → Outcome → State → Prop} {free : Addr → Prop} {Ts : List Cond} {own : String} {As rest : List Value} {g : JFrame}
    (S : CallFix p m c cc nL s args Ts own) (hM : Met l y ws rm Pc Qc mc ms free) (cw : vx_CSW R s args own index y bytes maxL ret hh ws rm mc ms n) (hp : PreS s H Pc As)
    (hg : g.method = m) (hn : As.length = n) (hsize : g.locals.size = nL) (hstack : g.stack = As.reverse ++ rest) (hW : 2 * g.monitorRoom + (rest.map fun v => v.category).sum ≤ 8) (hdg : decode cc g.pc = .ok (.invokestatic index, 3)) (hf : cells + mc ≤ R.cells ∧ slots + ms ≤ R.slots) :
    va_Run p l e R s m args below meth c H locs cells slots mc ms g rest (Qc As.toArray) (free) := by
  obtain ⟨⟨hrc, hrs, hfr, hlo, hws, hcw⟩, hcode, hini, hy, hlen, hl, hstt⟩ := cw
  have hK : Back l R p e below s args y 3 8 (PreOf R mc ms Pc) (PostOf Qc mc ms free) := va_backW (hh := hh) (bytes := bytes) (maxL := maxL) (ret := ret) hM hp.1 hrc hrs hfr hlo hws hcw (fun a' U hW => word_at hW (Or.inl (by first | rfl | simp [Cond.onTables, Cond.keeps, Cond.steady])) hini)
  obtain ⟨hx, hb, hml, ho, -⟩ := S
  intro T hT X
  obtain ⟨v, vm₁, ⟨U', l2, c2, s2⟩, hW₁, X', ⟨g', mk, t, L, e1, e2, hq, h1, hL, h2, h3⟩, st⟩ := vx_callSW X hx (hh := hh) (bytes := bytes) (maxL := maxL) (ret := ret) ho hl hstt hini hcode hy hK hg (hsize.trans hml.symm) (argsL := As) (rest := rest) (fun sig h => hn.trans (hlen sig h)) hstack hW (by rw [hb]; exact hdg)
    (fun vm₁ hW₁ => ⟨hf.1, hf.2, hp.2 (T.setVm vm₁) hT hW₁⟩)
  dsimp only [Pt.U, Pt.locs, Pt.cells, Pt.slots] at X' e1 e2 h1 h2 h3 st
  subst h1; subst h2; subst h3
  exact ⟨v, (T.setVm vm₁).calling g' mk As.toArray, t, U', L, hT, X', hL, e1, e2, hq, st⟩
/-- not caught here, past rows that name other classes: it goes on to the caller -/
theorem vx_outP {p : Program} {l : Launch} {e : Env} {R : Room} {s : State} {m : MethodId} {args : Array Value} {below : List Frame} {meth : Method} {c : Code} {H : Heap} {locs : List Loc} {cells slots : Nat} {free : Addr → Prop} {ls : Array Slot} {rest : List Value} {Qc : Array Value → State → Outcome → State → Prop} {XC : String → State → State → Prop}
    {pc : Nat} {own E : String} {ce : Cell} {q : Addr} {mc ms : Nat} (hown : s.vm.findClass own = some m.cls) (hlocks : meth.locks = false)
    (hpass : ∀ z ∈ c.exceptionTable.toList, covers z pc = false ∨ (z.catchType ≠ 0 ∧ ∃ nm : String, (Cond.classLink own z.catchType nm).before args s = true ∧ va_Nc E nm s)) (hcell : H[q]? = some ce) (hv : ce.vm = .none) (hcl : s.vm.findClass E = some ce.cls)
    (hx : ∀ t : State, t.heap = H → s.vm.Alike t.vm → XC E s t) (hf : ∀ z ∈ locs, free z.base) (hc : cells ≤ mc) (hs : slots ≤ ms) :
    vx_W p l e R s m args below meth c H locs cells slots (vx_MQ below Qc XC args s mc ms free) (F0 m pc ls rest) q := by
  intro T hT X
  have hpl : e.platform.magicAccessors = ({} : Platform).magicAccessors := by rw [X.admits.platform]
  obtain ⟨vm', hW', X', st⟩ := X.outThrough hlocks q (g := F0 m pc ls rest) rfl rfl rfl (cell := ce) (by rw [hT]; exact hcell) (by rw [hv]; rfl)
    (by obtain ⟨k9, h9, -⟩ := Vm.findClass_spec hcl; exact ⟨k9, h9⟩) (fun z hz => by
      rcases hpass z hz with h | ⟨hz0, nm, hl1, hn1⟩
      · exact Or.inl h
      · obtain ⟨c6, hc6, hcl6⟩ := Cond.classLink_spec hown hl1 e.platform hpl
        obtain ⟨a8, b8, h1, h2, h3⟩ := hn1
        cases Option.some.inj (h1.symm.trans hcl)
        cases Option.some.inj (h2.symm.trans hc6)
        exact Or.inr ⟨hz0, _, hcl6, h3⟩)
  obtain ⟨g₀, hfr⟩ := X'.frames_eq
  have hcell9 : ((T.setVm vm').setFrames (.throwing q :: below)).heap[q]? = some ce := by
    show T.heap[q]? = some ce
    rw [hT]; exact hcell
  have hend : Ended ((T.setVm vm').setFrames (.throwing q :: below)) below (.threw q) := State.frames_setFrames _ (State.cur_lt_of_frames hfr)
  refine ⟨(T.setVm vm').setFrames (.throwing q :: below), ?_, .threw q, X'.here.running, hend, Or.inr ⟨q, rfl, E, ce, locs, hx _ hT (X'.ends _).1.alike, hcell9, hv, hcl, (X'.ends _).1, (X'.ends _).2.mono hc hs, hf⟩⟩
  rw [X.pushThrowing_eq]
  exact st
/-- a thing of a world lies in the heap -/
theorem vx_lt {D : va_G} {cl : List vw_C} {ws : va_W} {H1 : Heap} (h : va_P D cl ws H1) {k : Nat} {q : Nat × va_E} (hk : ws[k]? = some q) : q.1 < H1.size := (h k q hk).lt
end VXS
/-! ===== END ===== -/
/-! ===== BEGIN methods with a table of their own: called by a name, returning or throwing ===== -/
section VXH
/-! vx_backW, vx_callVX, vx_callSX, vx_callVW, vx_runVW, vx_runVX, vx_runSX, vx_ofWH follow the same proofs as their sisters above (Free/Laws.lean, Shelf42/LK1.lean); vx_outP calls Shelf42/NT130.lean (outThrough). -/
section
variable {l : Launch} {R : Room} {p : Program} {e : Env} {below : List Frame} {s : State} {sargs : Array Value} {y : MethodName} {len W9 : Nat}
theorem vx_backW {ws : List Cond} {rm : Room} {Pc : Array Value → State → Prop} {Qc : Array Value → State → Outcome → State → Prop} {XC : String → State → State → Prop} {mc ms : Nat} {free : Addr → Prop} {bytes : ByteArray} {maxL : Nat} {ret : Option FieldType} {hh : List (Nat × Nat × Nat × Nat)}
    (hM : vx_Met l y ws rm Pc Qc XC mc ms free) (hblind : FrameBlind Pc) (hrc : rm.cells = mc) (hrs : rm.slots = ms)
    (hframes : rm.frames + 1 ≤ R.frames) (hlocals : W9 + (maxL + 11) + rm.locals ≤ R.locals)
    (hws : ∀ w ∈ ws, ∀ a' U, s.WarmedH U.vm → w.before a' U = true) (hcode : Cond.codeWith y bytes maxL ret hh ∈ ws) (hinit : ∀ a' U, s.WarmedH U.vm → (Cond.initialized y.cls).before a' U = true) :
    vx_Back l R p e below s sargs y len W9 (PreOf R mc ms Pc) (PostOf Qc mc ms free) (vx_Post XC mc ms free) := by
  intro m meth c A g ig mk a X hg hsize hdg hW hn hp
  have h1 : (headSpec ws rm).pre.before a A.U = true := atoms_intro fun w hw => hws w hw _ _ X.warmed
  have h2 : (Cond.codeWith y bytes maxL ret hh).before a A.U = true := hws _ hcode _ _ X.warmed
  have h3 : (Cond.initialized y.cls).before a A.U = true := hinit _ _ X.warmed
  have h4 : A.cells + (headSpec ws rm).room.cells ≤ R.cells := by rw [show (headSpec ws rm).room.cells = mc from hrc]; exact hp.1
  have h5 : A.slots + (headSpec ws rm).room.slots ≤ R.slots := by rw [show (headSpec ws rm).room.slots = ms from hrs]; exact hp.2.1
  have hPc : Pc a (A.U.calling g mk a) := hblind _ _ _ _ hp.2.2
  obtain ⟨U, Ls, c0, s0⟩ := A
  dsimp only [Pt.U, Pt.locs, Pt.cells, Pt.slots] at h1 h2 h3 h4 h5 X hn hPc ⊢
  obtain ⟨m9, methY, cY, hn9, hmY, hcY, -, hlY, -⟩ := Cond.codeWith_spec h2
  cases Option.some.inj (hn9.symm.trans hn)
  obtain ⟨kY, hkY, -⟩ := className_of_methodNamed hn
  have hinitY : kY.init = .initialized := Cond.initialized_spec (findClass_of_methodNamed hn) hkY h3
  have h : At U g.method c below := by rw [hg]; exact X.here
  have hlocals9 : W9 + (maxL + 11) + (headSpec ws rm).room.locals ≤ R.locals := hlocals
  have happ : (headSpec ws rm).appliesLoose y e.platform (U.calling g mk a) = true :=
    Spec.appliesLoose_calling (g := g) h hdg hn hkY hinitY
      (X.room_calling (g := g) (R' := (headSpec ws rm).room) hsize hmY hcY hframes (by rw [hlY]; omega) h4 h5) h1
  obtain ⟨mid, hmid⟩ := h.above
  have hfr : (U.setTop g).frames = (.java g :: mid) ++ below := by rw [State.frames_setTop' g h.top, hmid]; rfl
  obtain ⟨o, s₂, hsteps, -, hend, hq⟩ := Steps.callFree hM p X.admits X.cas X.clock (acts := []) hfr happ hPc trivial
  have hq' : vx_Q Qc XC mc ms free a (U.calling g mk a) o s₂ := hq
  rw [State.frames_setTop' g h.top] at hend
  obtain ⟨g₀, hg0⟩ := Option.isSome_iff_exists.mp h.top
  obtain ⟨r, hr⟩ := State.topJava?_eq_some.mp hg0
  have hr' : (({ U with heap := s₂.heap, slotsUsed := s₂.slotsUsed } : State).setVm s₂.vm).frames = .java g₀ :: r := hr
  rcases hq' with ⟨hqc, L, hfe, hL⟩ | ⟨q, rfl, E, ce, L, hx, hce, hcv, hcl, hW₂, hsm, hL⟩
  · obtain ⟨⟨v, rfl⟩, hW₂, e2, q2, q3, q4, q5, q6⟩ := id hfe
    have e3 : s₂ = ({ (U.calling g mk a).setFrames s₂.frames with heap := s₂.heap, slotsUsed := s₂.slotsUsed } : State).setVm s₂.vm := by
      have : s₂ = ({ s₂ with vm := (U.calling g mk a).vm } : State).setVm s₂.vm := rfl
      rw [e2] at this
      exact this
    obtain ⟨c₂, i₂, len₂, hc₂, hd₂, hf₂⟩ := hend
    have hW' : U.WarmedH s₂.vm := hW₂
    have hcc : c₂ = c := by
      have h1 : s₂.code? g.method = U.code? g.method := by
        rw [State.code?_eq, State.code?_eq, hW'.alike.method?]
      exact Option.some.inj (hc₂.symm.trans (h1.trans h.code))
    subst hcc
    have hlen : len₂ = len := by rw [hdg] at hd₂; cases hd₂; rfl
    subst hlen
    have hs₂ : s₂ = (({ U with heap := s₂.heap, slotsUsed := s₂.slotsUsed } : State).setVm s₂.vm).setTop { g with pc := g.pc + len₂, stack := v.toList ++ g.stack } := by
      refine e3.trans ?_
      rw [hf₂, State.calling_eq h.top, State.setFrames_setFrames, State.setTop_of_frames _ hr', hr]
      rfl
    have hsame : U.sameButNew ({ U with heap := s₂.heap, slotsUsed := s₂.slotsUsed } : State) L mc ms := by
      refine ⟨?_, q2, q3, q4, q5, q6⟩
      obtain ⟨t, ht, -⟩ := State.frames_cons hr
      show ({ U with heap := s₂.heap, slotsUsed := s₂.slotsUsed } : State) = { U.setFrames U.frames with heap := s₂.heap, slotsUsed := s₂.slotsUsed }
      rw [State.setFrames_self ht]
    subst hg
    refine Or.inl ⟨v, ⟨(({ U with heap := s₂.heap, slotsUsed := s₂.slotsUsed } : State).setVm s₂.vm), Ls ++ L, c0 + mc, s0 + ms⟩,
      ⟨X.admits, X.cas, X.clock, X.frames, X.room, X.hears, X.method, X.code, (X.here.setHeapUsed s₂.heap s₂.slotsUsed).setVm hW'.alike, X.tail, State.WarmedH.trans X.warmed hW', X.limits, X.bytes, X.same.trans (hsame.setVm s.vm)⟩,
      ⟨g, mk, s₂, L, rfl, rfl, hqc, rfl, hL, rfl, rfl⟩, ?_⟩
    show Steps p.tables e below _ ((({ U with heap := s₂.heap, slotsUsed := s₂.slotsUsed } : State).setVm s₂.vm).setTop { g with pc := g.pc + len₂, stack := v.toList ++ g.stack })
    rw [← hs₂]
    exact hsteps
  · obtain ⟨e2, q2, q3, q4, q5, q6⟩ := id hsm
    have e3 : s₂ = ({ (U.calling g mk a).setFrames s₂.frames with heap := s₂.heap, slotsUsed := s₂.slotsUsed } : State).setVm s₂.vm := by
      have : s₂ = ({ s₂ with vm := (U.calling g mk a).vm } : State).setVm s₂.vm := rfl
      rw [e2] at this
      exact this
    have hf₂ : s₂.frames = .throwing q :: .java g :: U.frames.tail := hend
    have hW' : U.WarmedH s₂.vm := hW₂
    have hs₂ : s₂ = ((({ U with heap := s₂.heap, slotsUsed := s₂.slotsUsed } : State).setVm s₂.vm).setTop g).pushFrame (.throwing q) := by
      refine e3.trans ?_
      rw [hf₂, State.calling_eq h.top, State.setFrames_setFrames, State.pushFrame, State.frames_setTop _ hr', State.setTop_of_frames _ hr', State.setFrames_setFrames, hr]
      rfl
    have hsame : U.sameButNew ({ U with heap := s₂.heap, slotsUsed := s₂.slotsUsed } : State) L mc ms := by
      refine ⟨?_, q2, q3, q4, q5, q6⟩
      obtain ⟨t, ht, -⟩ := State.frames_cons hr
      show ({ U with heap := s₂.heap, slotsUsed := s₂.slotsUsed } : State) = { U.setFrames U.frames with heap := s₂.heap, slotsUsed := s₂.slotsUsed }
      rw [State.setFrames_self ht]
    subst hg
    refine Or.inr ⟨q, ⟨(({ U with heap := s₂.heap, slotsUsed := s₂.slotsUsed } : State).setVm s₂.vm), Ls ++ L, c0 + mc, s0 + ms⟩,
      ⟨X.admits, X.cas, X.clock, X.frames, X.room, X.hears, X.method, X.code, (X.here.setHeapUsed s₂.heap s₂.slotsUsed).setVm hW'.alike, X.tail, State.WarmedH.trans X.warmed hW', X.limits, X.bytes, X.same.trans (hsame.setVm s.vm)⟩,
      ⟨g, mk, s₂, L, E, ce, rfl, rfl, hx, hce, hcv, hcl, rfl, hL, rfl, rfl⟩, ?_⟩
    show Steps p.tables e below _ (((({ U with heap := s₂.heap, slotsUsed := s₂.slotsUsed } : State).setVm s₂.vm).setTop g).pushFrame (.throwing q))
    rw [← hs₂]
    exact hsteps
end
variable {p : Program} {l : Launch} {e : Env} {R : Room} {s : State} {m : MethodId} {args : Array Value} {below : List Frame} {meth : Method} {c : Code} {T : State} {H : Heap} {locs : List Loc} {cells slots : Nat}
theorem vx_callVX (X : Stand p l e R s m args below meth c T locs cells slots) (hexec : p.tables.exec = Jvm.exec) {own C : String} {index : Nat} {y : MethodName} {bytes : ByteArray} {maxL : Nat} {ret : Option FieldType} {hh : List (Nat × Nat × Nat × Nat)}
    (hown : s.vm.findClass own = some m.cls) (hlink : (Cond.methodLink own index y).before args s = true) (hinst : (Cond.instanceMethod y).before args s = true) (hsel : (Cond.selects C y y).before args s = true)
    (hcode : (Cond.codeWith y bytes maxL ret hh).before args s = true) (hy : y.cls ≠ "java/lang/invoke/MethodHandle" ∧ y.cls ≠ "java/lang/invoke/VarHandle")
    {W9 : Nat} {Pre : Pt → Array Value → Prop} {Post : Pt → Array Value → Option Value → Pt → Prop} {PostX : Pt → Array Value → Addr → Pt → Prop} (hK : vx_Back l R p e below s args y 3 W9 Pre Post PostX)
    {b : Addr} {cellB : Cell} (hcell : T.heap[b]? = some cellB) (hobj : cellB.vm.isStatics = false) (hcls : s.vm.findClass C = some cellB.cls)
    {g : JFrame} (hg : g.method = m) (hsize : g.locals.size = c.maxLocals) {argsL rest : List Value} (hlen : ∀ sig, parseMethodDescriptor y.desc = some sig → argsL.length = sig.parameters.length)
    (hstack : g.stack = argsL.reverse ++ .ref b :: rest) (hW : 2 * g.monitorRoom + (rest.map fun v => v.category).sum ≤ W9) (hdg : decode c.code g.pc = .ok (.invokevirtual index, 3))
    (hpre : ∀ vm₁, s.WarmedH vm₁ → Pre ⟨T.setVm vm₁, locs, cells, slots⟩ (Value.ref b :: argsL).toArray) :
    (∃ (v : Option Value) (vm₁ : Vm) (B : Pt), s.WarmedH vm₁ ∧ Stand p l e R s m args below meth c B.U B.locs B.cells B.slots ∧ Post ⟨T.setVm vm₁, locs, cells, slots⟩ (Value.ref b :: argsL).toArray v B ∧
      ∀ target, Steps p.tables e below (B.U.setTop { g with pc := g.pc + 3, stack := v.toList ++ rest }) target → Steps p.tables e below (T.setTop g) target) ∨
    (∃ (q : Addr) (vm₁ : Vm) (B : Pt), s.WarmedH vm₁ ∧ Stand p l e R s m args below meth c B.U B.locs B.cells B.slots ∧ PostX ⟨T.setVm vm₁, locs, cells, slots⟩ (Value.ref b :: argsL).toArray q B ∧
      Steps p.tables e below (T.setTop g) ((B.U.setTop { g with stack := rest }).pushFrame (.throwing q))) := by
  obtain ⟨mk, methM, hnamed, hmethM, hstM, habM⟩ := Cond.instanceMethod_spec hinst
  obtain ⟨m8, methM', cM, hn8, hmethM', -, -, -, -, -, -, hsigM⟩ := Cond.codeWith_spec hcode
  cases Option.some.inj (hn8.symm.trans hnamed)
  cases hmethM.symm.trans hmethM'
  obtain ⟨c2, r2, m2, q1, q2, q3, q4, kP, hkP, hkPi⟩ := Cond.selects_spec hsel
  cases hcls.symm.trans q1
  cases (State.methodFound?_of_named hnamed hy).symm.trans q2
  cases hnamed.symm.trans q3
  have hselP : selectMethod e.platform s.vm cellB.cls mk = .method mk := by rw [Launch.admits_selectMethod X.admits]; exact q4
  obtain ⟨vm₁, X₁, hstep₁⟩ := X.invokevirtual hexec hown hlink hnamed hmethM hstM hkP hkPi hy (a := b) (cell := cellB) hcell
    (fun z h => by rw [h] at hobj; cases hobj) hselP hmethM habM hkP hkPi (g := g) hg (argsL := argsL) (rest := rest) (hlen _ hsigM) hstack hdg
  rcases hK m meth c ⟨T.setVm vm₁, locs, cells, slots⟩ { g with stack := rest } (.invokevirtual index) mk (Value.ref b :: argsL).toArray X₁ hg hsize hdg hW (X₁.named hnamed) (hpre vm₁ X₁.warmed) with ⟨v, B, X', hpost, hsteps⟩ | ⟨q, B, X', hpost, hsteps⟩
  · exact Or.inl ⟨v, vm₁, B, X₁.warmed, X', hpost, fun target h => hstep₁ _ fun acts => by rw [doInvoke_state]; exact hsteps.trans h⟩
  · exact Or.inr ⟨q, vm₁, B, X₁.warmed, X', hpost, hstep₁ _ fun acts => by rw [doInvoke_state]; exact hsteps⟩
theorem vx_callSX (X : Stand p l e R s m args below meth c T locs cells slots) (hexec : p.tables.exec = Jvm.exec) {own : String} {index : Nat} {y : MethodName} {bytes : ByteArray} {maxL : Nat} {ret : Option FieldType} {hh : List (Nat × Nat × Nat × Nat)}
    (hown : s.vm.findClass own = some m.cls) (hlink : (Cond.methodLink own index y).before args s = true) (hstat : (Cond.static y).before args s = true) (hinit : (Cond.initialized y.cls).before args s = true)
    (hcode : (Cond.codeWith y bytes maxL ret hh).before args s = true) (hy : y.cls ≠ "java/lang/invoke/MethodHandle" ∧ y.cls ≠ "java/lang/invoke/VarHandle")
    {W9 : Nat} {Pre : Pt → Array Value → Prop} {Post : Pt → Array Value → Option Value → Pt → Prop} {PostX : Pt → Array Value → Addr → Pt → Prop} (hK : vx_Back l R p e below s args y 3 W9 Pre Post PostX)
    {g : JFrame} (hg : g.method = m) (hsize : g.locals.size = c.maxLocals) {argsL rest : List Value} (hlen : ∀ sig, parseMethodDescriptor y.desc = some sig → argsL.length = sig.parameters.length)
    (hstack : g.stack = argsL.reverse ++ rest) (hW : 2 * g.monitorRoom + (rest.map fun v => v.category).sum ≤ W9) (hdg : decode c.code g.pc = .ok (.invokestatic index, 3))
    (hpre : ∀ vm₁, s.WarmedH vm₁ → Pre ⟨T.setVm vm₁, locs, cells, slots⟩ argsL.toArray) :
    (∃ (v : Option Value) (vm₁ : Vm) (B : Pt), s.WarmedH vm₁ ∧ Stand p l e R s m args below meth c B.U B.locs B.cells B.slots ∧ Post ⟨T.setVm vm₁, locs, cells, slots⟩ argsL.toArray v B ∧
      ∀ target, Steps p.tables e below (B.U.setTop { g with pc := g.pc + 3, stack := v.toList ++ rest }) target → Steps p.tables e below (T.setTop g) target) ∨
    (∃ (q : Addr) (vm₁ : Vm) (B : Pt), s.WarmedH vm₁ ∧ Stand p l e R s m args below meth c B.U B.locs B.cells B.slots ∧ PostX ⟨T.setVm vm₁, locs, cells, slots⟩ argsL.toArray q B ∧
      Steps p.tables e below (T.setTop g) ((B.U.setTop { g with stack := rest }).pushFrame (.throwing q))) := by
  obtain ⟨mk, methM, cM, hnamed, hmethM, -, -, -, -, -, -, hsigM⟩ := Cond.codeWith_spec hcode
  have hstatic : methM.isStatic = true := Cond.static_spec hnamed hmethM hstat
  obtain ⟨kP, hkP, -⟩ := className_of_methodNamed hnamed
  have hinitP : kP.init = .initialized := Cond.initialized_spec (findClass_of_methodNamed hnamed) hkP hinit
  obtain ⟨vm₁, X₁, hstep₁⟩ := X.invokestatic hexec hown hlink hnamed hmethM hstatic hkP hinitP hy (g := g) hg (argsL := argsL) (rest := rest) (hlen _ hsigM) hstack hdg
  rcases hK m meth c ⟨T.setVm vm₁, locs, cells, slots⟩ { g with stack := rest } (.invokestatic index) mk argsL.toArray X₁ hg hsize hdg hW (X₁.named hnamed) (hpre vm₁ X₁.warmed) with ⟨v, B, X', hpost, hsteps⟩ | ⟨q, B, X', hpost, hsteps⟩
  · exact Or.inl ⟨v, vm₁, B, X₁.warmed, X', hpost, fun target h => hstep₁ _ fun acts => by rw [doInvoke_state]; exact hsteps.trans h⟩
  · exact Or.inr ⟨q, vm₁, B, X₁.warmed, X', hpost, hstep₁ _ fun acts => by rw [doInvoke_state]; exact hsteps⟩
theorem vx_callVW (X : Stand p l e R s m args below meth c T locs cells slots) (hexec : p.tables.exec = Jvm.exec) {own C : String} {index : Nat} {y : MethodName} {bytes : ByteArray} {maxL : Nat} {ret : Option FieldType} {hh : List (Nat × Nat × Nat × Nat)}
    (hown : s.vm.findClass own = some m.cls) (hlink : (Cond.methodLink own index y).before args s = true) (hinst : (Cond.instanceMethod y).before args s = true) (hsel : (Cond.selects C y y).before args s = true)
    (hcode : (Cond.codeWith y bytes maxL ret hh).before args s = true) (hy : y.cls ≠ "java/lang/invoke/MethodHandle" ∧ y.cls ≠ "java/lang/invoke/VarHandle")
    {W9 : Nat} {Pre : Pt → Array Value → Prop} {Post : Pt → Array Value → Option Value → Pt → Prop} (hK : Back l R p e below s args y 3 W9 Pre Post)
    {b : Addr} {cellB : Cell} (hcell : T.heap[b]? = some cellB) (hobj : cellB.vm.isStatics = false) (hcls : s.vm.findClass C = some cellB.cls)
    {g : JFrame} (hg : g.method = m) (hsize : g.locals.size = c.maxLocals) {argsL rest : List Value} (hlen : ∀ sig, parseMethodDescriptor y.desc = some sig → argsL.length = sig.parameters.length)
    (hstack : g.stack = argsL.reverse ++ .ref b :: rest) (hW : 2 * g.monitorRoom + (rest.map fun v => v.category).sum ≤ W9) (hdg : decode c.code g.pc = .ok (.invokevirtual index, 3))
    (hpre : ∀ vm₁, s.WarmedH vm₁ → Pre ⟨T.setVm vm₁, locs, cells, slots⟩ (Value.ref b :: argsL).toArray) :
    ∃ (v : Option Value) (vm₁ : Vm) (B : Pt), s.WarmedH vm₁ ∧ Stand p l e R s m args below meth c B.U B.locs B.cells B.slots ∧ Post ⟨T.setVm vm₁, locs, cells, slots⟩ (Value.ref b :: argsL).toArray v B ∧
      ∀ target, Steps p.tables e below (B.U.setTop { g with pc := g.pc + 3, stack := v.toList ++ rest }) target → Steps p.tables e below (T.setTop g) target := by
  obtain ⟨mk, methM, hnamed, hmethM, hstM, habM⟩ := Cond.instanceMethod_spec hinst
  obtain ⟨m8, methM', cM, hn8, hmethM', -, -, -, -, -, -, hsigM⟩ := Cond.codeWith_spec hcode
  cases Option.some.inj (hn8.symm.trans hnamed)
  cases hmethM.symm.trans hmethM'
  obtain ⟨c2, r2, m2, q1, q2, q3, q4, kP, hkP, hkPi⟩ := Cond.selects_spec hsel
  cases hcls.symm.trans q1
  cases (State.methodFound?_of_named hnamed hy).symm.trans q2
  cases hnamed.symm.trans q3
  have hselP : selectMethod e.platform s.vm cellB.cls mk = .method mk := by rw [Launch.admits_selectMethod X.admits]; exact q4
  obtain ⟨vm₁, X₁, hstep₁⟩ := X.invokevirtual hexec hown hlink hnamed hmethM hstM hkP hkPi hy (a := b) (cell := cellB) hcell
    (fun z h => by rw [h] at hobj; cases hobj) hselP hmethM habM hkP hkPi (g := g) hg (argsL := argsL) (rest := rest) (hlen _ hsigM) hstack hdg
  obtain ⟨v, B, X', hpost, hsteps⟩ := hK m meth c ⟨T.setVm vm₁, locs, cells, slots⟩ { g with stack := rest } (.invokevirtual index) mk (Value.ref b :: argsL).toArray X₁ hg hsize hdg hW (X₁.named hnamed) (hpre vm₁ X₁.warmed)
  exact ⟨v, vm₁, B, X₁.warmed, X', hpost, fun target h => hstep₁ _ fun acts => by rw [doInvoke_state]; exact hsteps.trans h⟩
abbrev vx_CVW (R : Room) (s : State) (args : Array Value) (own C : String) (index : Nat) (y : MethodName) (bytes : ByteArray) (maxL : Nat) (ret : Option FieldType) (hh : List (Nat × Nat × Nat × Nat)) (ws : List Cond) (rm : Room) (mc ms n : Nat) : Prop :=
  (rm.cells = mc ∧ rm.slots = ms ∧ rm.frames + 1 ≤ R.frames ∧ 8 + (maxL + 11) + rm.locals ≤ R.locals ∧ (∀ w ∈ ws, ∀ (a' : Array Value) (U : State), s.WarmedH U.vm → w.before a' U = true) ∧ Cond.codeWith y bytes maxL ret hh ∈ ws) ∧
  (Cond.codeWith y bytes maxL ret hh).before args s = true ∧ (Cond.initialized y.cls).before args s = true ∧ (y.cls ≠ "java/lang/invoke/MethodHandle" ∧ y.cls ≠ "java/lang/invoke/VarHandle") ∧
  (∀ sig, parseMethodDescriptor y.desc = some sig → n = sig.parameters.length) ∧ (Cond.methodLink own index y).before args s = true ∧ (Cond.instanceMethod y).before args s = true ∧ (Cond.selects C y y).before args s = true
theorem vx_cwVW {own C : String} {index maxL mc ms : Nat} {y : MethodName} {bytes : ByteArray} {ret : Option FieldType} {hh : List (Nat × Nat × Nat × Nat)} {Ts ws ws' : List Cond} {rm : Room} (n : Nat) (ht : ∀ w ∈ Ts, w.before args s = true) (hT : GoodIn Ts (wsV own index C y ws)) (hw : ws = Cond.codeWith y bytes maxL ret hh :: ws') (hrc : rm.cells = mc) (hrs : rm.slots = ms)
    (hd : y.cls = C ∧ y.cls ≠ "java/lang/invoke/MethodHandle" ∧ y.cls ≠ "java/lang/invoke/VarHandle" ∧ (parseMethodDescriptor y.desc).map (fun d => d.parameters.length) = some n) (hR : rm.frames + 1 ≤ R.frames ∧ 8 + (maxL + 11) + rm.locals ≤ R.locals) :
    vx_CVW R s args own C index y bytes maxL ret hh ws rm mc ms n := by
  obtain ⟨hC, hd⟩ := hd
  subst hC
  have ok : ∀ w ∈ wsV own index y.cls y ws, w.before args s = true := fun w h => ht w (hT w h).1
  have hG : GoodIn Ts ws := fun w h => hT w (by unfold wsV; exact List.mem_append_right _ h)
  have hc : Cond.codeWith y bytes maxL ret hh ∈ ws := by rw [hw]; exact List.mem_cons_self
  refine ⟨⟨hrc, hrs, hR.1, hR.2, pay_in ht hG, hc⟩, ht _ (hG _ hc).1, ok _ (by simp [wsV]), ⟨hd.1, hd.2.1⟩, fun sig h => ?_, ok _ (by simp [wsV]), ok _ (by simp [wsV]), ok _ (by simp [wsV])⟩
  have h2 := hd.2.2
  rw [h] at h2
  exact (Option.some.inj h2).symm
theorem vx_runVW {y : MethodName} {bytes cc : ByteArray} {maxL nL mc ms n index : Nat} {ret : Option FieldType} {hh : List (Nat × Nat × Nat × Nat)} {ws : List Cond} {rm : Room} {Pc : Array Value → State → Prop} {Qc : Array Value → State → Outcome → State → Prop} {free : Addr → Prop} {Ts : List Cond} {own C : String} {b : Addr} {As rest : List Value} {g : JFrame}
    (S : CallFix p m c cc nL s args Ts own) (hM : Met l y ws rm Pc Qc mc ms free) (cw : vx_CVW R s args own C index y bytes maxL ret hh ws rm mc ms n) (hp : PreV s H C b Pc As)
    (hg : g.method = m) (hn : As.length = n) (hsize : g.locals.size = nL) (hstack : g.stack = As.reverse ++ .ref b :: rest) (hW : 2 * g.monitorRoom + (rest.map fun v => v.category).sum ≤ 8) (hdg : decode cc g.pc = .ok (.invokevirtual index, 3)) (hf : cells + mc ≤ R.cells ∧ slots + ms ≤ R.slots) :
    va_Run p l e R s m args below meth c H locs cells slots mc ms g rest (Qc (Value.ref b :: As).toArray) free := by
  obtain ⟨⟨hrc, hrs, hfr, hlo, hws, hcw⟩, hcode, hini, hy, hlen, hl, hin, hse⟩ := cw
  have hK : Back l R p e below s args y 3 8 (PreOf R mc ms Pc) (PostOf Qc mc ms free) := va_backW (hh := hh) (bytes := bytes) (maxL := maxL) (ret := ret) hM hp.1 hrc hrs hfr hlo hws hcw (fun a' U hW => word_at hW (Or.inl (by first | rfl | simp [Cond.onTables, Cond.keeps, Cond.steady])) hini)
  obtain ⟨hx, hb, hml, ho, -⟩ := S
  obtain ⟨-, ⟨cellB, hcB, hoB, hclB⟩, hPc⟩ := hp
  intro T hT X
  obtain ⟨v, vm₁, ⟨U', l2, c2, s2⟩, hW₁, X', ⟨g', mk, t, L, e1, e2, hq, h1, hL, h2, h3⟩, st⟩ := vx_callVW X hx (C := C) (hh := hh) (bytes := bytes) (maxL := maxL) (ret := ret) ho hl hin hse hcode hy hK (by rw [hT]; exact hcB) hoB hclB hg (hsize.trans hml.symm) (argsL := As) (rest := rest) (fun sig h => hn.trans (hlen sig h)) hstack hW (by rw [hb]; exact hdg)
    (fun vm₁ hW₁ => ⟨hf.1, hf.2, hPc (T.setVm vm₁) hT hW₁⟩)
  dsimp only [Pt.U, Pt.locs, Pt.cells, Pt.slots] at X' e1 e2 h1 h2 h3 st
  subst h1; subst h2; subst h3
  exact ⟨v, (T.setVm vm₁).calling g' mk (Value.ref b :: As).toArray, t, U', L, hT, X', hL, e1, e2, hq, st⟩
section
variable {y : MethodName} {bytes cc : ByteArray} {maxL nL mc ms n index : Nat} {ret : Option FieldType} {ws : List Cond} {rm : Room} {Pc : Array Value → State → Prop} {Qc : Array Value → State → Outcome → State → Prop} {XC : String → State → State → Prop} {free : Addr → Prop} {Ts : List Cond} {own C : String} {b : Addr} {As rest : List Value} {g : JFrame}
theorem vx_runVX {hh : List (Nat × Nat × Nat × Nat)} (S : CallFix p m c cc nL s args Ts own) (hM : vx_Met l y ws rm Pc Qc XC mc ms free) (cw : vx_CVW R s args own C index y bytes maxL ret hh ws rm mc ms n) (hp : PreV s H C b Pc As)
    (hg : g.method = m) (hn : As.length = n) (hsize : g.locals.size = nL) (hstack : g.stack = As.reverse ++ .ref b :: rest) (hW : 2 * g.monitorRoom + (rest.map fun v => v.category).sum ≤ 8) (hdg : decode cc g.pc = .ok (.invokevirtual index, 3)) (hf : cells + mc ≤ R.cells ∧ slots + ms ≤ R.slots) :
    vx_Run p l e R s m args below meth c H locs cells slots mc ms g rest (Qc (Value.ref b :: As).toArray) XC free := by
  obtain ⟨⟨hrc, hrs, hfr, hlo, hws, hcw⟩, hcode, hini, hy, hlen, hl, hin, hse⟩ := cw
  have hK : vx_Back l R p e below s args y 3 8 (PreOf R mc ms Pc) (PostOf Qc mc ms free) (vx_Post XC mc ms free) := vx_backW (hh := hh) (bytes := bytes) (maxL := maxL) (ret := ret) hM hp.1 hrc hrs hfr hlo hws hcw (fun a' U hW => word_at hW (Or.inl (by first | rfl | simp [Cond.onTables, Cond.keeps, Cond.steady])) hini)
  obtain ⟨hx, hb, hml, ho, -⟩ := S
  obtain ⟨-, ⟨cellB, hcB, hoB, hclB⟩, hPc⟩ := hp
  intro T hT X
  rcases vx_callVX X hx (C := C) (hh := hh) (bytes := bytes) (maxL := maxL) (ret := ret) ho hl hin hse hcode hy hK (by rw [hT]; exact hcB) hoB hclB hg (hsize.trans hml.symm) (argsL := As) (rest := rest) (fun sig h => hn.trans (hlen sig h)) hstack hW (by rw [hb]; exact hdg)
    (fun vm₁ hW₁ => ⟨hf.1, hf.2, hPc (T.setVm vm₁) hT hW₁⟩) with ⟨v, vm₁, ⟨U', l2, c2, s2⟩, hW₁, X', ⟨g', mk, t, L, e1, e2, hq, h1, hL, h2, h3⟩, st⟩ | ⟨q, vm₁, ⟨U', l2, c2, s2⟩, hW₁, X', ⟨g', mk, t, L, E, ce, e1, e2, hq, hce, hcv, hcl, h1, hL, h2, h3⟩, st⟩
  · dsimp only [Pt.U, Pt.locs, Pt.cells, Pt.slots] at X' e1 e2 h1 h2 h3 st
    subst h1; subst h2; subst h3
    exact Or.inl ⟨v, (T.setVm vm₁).calling g' mk (Value.ref b :: As).toArray, t, U', L, hT, X', hL, e1, e2, hq, st⟩
  · dsimp only [Pt.U, Pt.locs, Pt.cells, Pt.slots] at X' e1 e2 h1 h2 h3 st hcl
    subst h1; subst h2; subst h3
    exact Or.inr ⟨q, (T.setVm vm₁).calling g' mk (Value.ref b :: As).toArray, t, U', L, E, ce, hT, X', hL, e1, e2, hq, hce, hcv, vx_cls hW₁ hcl, st⟩
theorem vx_runSX {hh : List (Nat × Nat × Nat × Nat)} (S : CallFix p m c cc nL s args Ts own) (hM : vx_Met l y ws rm Pc Qc XC mc ms free) (cw : vx_CSW R s args own index y bytes maxL ret hh ws rm mc ms n) (hp : PreS s H Pc As)
    (hg : g.method = m) (hn : As.length = n) (hsize : g.locals.size = nL) (hstack : g.stack = As.reverse ++ rest) (hW : 2 * g.monitorRoom + (rest.map fun v => v.category).sum ≤ 8) (hdg : decode cc g.pc = .ok (.invokestatic index, 3)) (hf : cells + mc ≤ R.cells ∧ slots + ms ≤ R.slots) :
    vx_Run p l e R s m args below meth c H locs cells slots mc ms g rest (Qc As.toArray) XC free := by
  obtain ⟨⟨hrc, hrs, hfr, hlo, hws, hcw⟩, hcode, hini, hy, hlen, hl, hstt⟩ := cw
  have hK : vx_Back l R p e below s args y 3 8 (PreOf R mc ms Pc) (PostOf Qc mc ms free) (vx_Post XC mc ms free) := vx_backW (hh := hh) (bytes := bytes) (maxL := maxL) (ret := ret) hM hp.1 hrc hrs hfr hlo hws hcw (fun a' U hW => word_at hW (Or.inl (by first | rfl | simp [Cond.onTables, Cond.keeps, Cond.steady])) hini)
  obtain ⟨hx, hb, hml, ho, -⟩ := S
  intro T hT X
  rcases vx_callSX X hx (hh := hh) (bytes := bytes) (maxL := maxL) (ret := ret) ho hl hstt hini hcode hy hK hg (hsize.trans hml.symm) (argsL := As) (rest := rest) (fun sig h => hn.trans (hlen sig h)) hstack hW (by rw [hb]; exact hdg)
    (fun vm₁ hW₁ => ⟨hf.1, hf.2, hp.2 (T.setVm vm₁) hT hW₁⟩) with ⟨v, vm₁, ⟨U', l2, c2, s2⟩, hW₁, X', ⟨g', mk, t, L, e1, e2, hq, h1, hL, h2, h3⟩, st⟩ | ⟨q, vm₁, ⟨U', l2, c2, s2⟩, hW₁, X', ⟨g', mk, t, L, E, ce, e1, e2, hq, hce, hcv, hcl, h1, hL, h2, h3⟩, st⟩
  · dsimp only [Pt.U, Pt.locs, Pt.cells, Pt.slots] at X' e1 e2 h1 h2 h3 st
    subst h1; subst h2; subst h3
    exact Or.inl ⟨v, (T.setVm vm₁).calling g' mk As.toArray, t, U', L, hT, X', hL, e1, e2, hq, st⟩
  · dsimp only [Pt.U, Pt.locs, Pt.cells, Pt.slots] at X' e1 e2 h1 h2 h3 st hcl
    subst h1; subst h2; subst h3
    exact Or.inr ⟨q, (T.setVm vm₁).calling g' mk As.toArray, t, U', L, E, ce, hT, X', hL, e1, e2, hq, hce, hcv, vx_cls hW₁ hcl, st⟩
end
end VXH
theorem vx_ofWH {l : Launch} {y : MethodName} {ws ws' : List Cond} {rm : Room} {Pc : Array Value → State → Prop} {Qc : Array Value → State → Outcome → State → Prop} {XC : String → State → State → Prop} {mc ms : Nat} {free : Addr → Prop} {cc : ByteArray} {maxL : Nat} {ret : Option FieldType} {hh : List (Nat × Nat × Nat × Nat)}
    (hy : plainName y.cls = true) (hw : ws = Cond.codeWith y cc maxL ret hh :: ws')
    (body : ∀ p e s m args below meth c s₁, BodyLoose p l y (headSpec ws rm) cc maxL ret e s m args below meth c s₁ → c.maxLocals = maxL → Pc args s →
      W p l e (headSpec ws rm).room s m args below meth c s.heap [] 0 0 (vx_MQ below Qc XC args s mc ms free) (entryFrame m args maxL)) : vx_Met l y ws rm Pc Qc XC mc ms free := by
  refine MetFree.of_bodyS (code := cc) (maxLocals := maxL) (ret := ret) hy ?_ ?_
  · intro args s m h hn
    obtain ⟨m9, meth, c, hn9, h1, h2, h3, h4, -, h5, h6, -⟩ := Cond.codeWith_spec (atoms_spec (ws := ws) h _ (by rw [hw]; exact List.mem_cons_self))
    cases hn.symm.trans hn9
    exact ⟨meth, c, h1, h2, h3, h4, h5, h6⟩
  · intro p e s m args below meth c s₁ B hml hP _
    have hh0 : s₁.heap = s.heap := by rw [B.state]; rfl
    obtain ⟨t, a1, o, b1, b2, b3⟩ := body p e s m args below meth c s₁ B hml hP s₁ hh0 (Stand.of_body B)
    exact ⟨t, o, a1, b1, b2, b3⟩
/-! ===== END ===== -/
end
section
/-! ===== BEGIN printed: names, fields, word lists, decode rows ===== -/
def RX0 : String := "PauseLedger$Dinner"
def TX0 : u_T := fun k => match k with
  | 0 => ("PauseLedger$Dinner", "guests", "I", false)
  | 1 => ("PauseLedger$Dinner", "seconds", "I", false)
  | 2 => ("PauseLedger$Dinner", "limit", "I", false)
  | 3 => ("PauseLedger$Dinner", "speaker", "I", false)
  | 4 => ("PauseLedger$Dinner", "toSpeak", "I", false)
  | 5 => ("PauseLedger$Dinner", "pause", "I", false)
  | 6 => ("PauseLedger$Dinner", "unsaidInPauses", "I", false)
  | 7 => ("PauseLedger$Dinner", "meetings", "I", false)
  | 8 => ("PauseLedger$Dinner", "lost", "I", false)
  | 9 => ("PauseLedger$Dinner", "sent", "I", false)
  | 10 => ("PauseLedger$Dinner", "spoken", "[I", true)
  | 11 => ("PauseLedger$Dinner", "interruptions", "[I", true)
  | 12 => ("PauseLedger$Dinner", "coughs", "[I", true)
  | 13 => ("PauseLedger$Dinner", "unsaid", "[I", true)
  | 14 => ("PauseLedger$Dinner", "toGo", "[I", true)
  | 15 => ("PauseLedger$Dinner", "caught", "[I", true)
  | _ => ("PauseLedger$Dinner", "order", "[I", true)
def tyX0 : Nat → FieldType := fun k => match k with
  | 0 => .int
  | 1 => .int
  | 2 => .int
  | 3 => .int
  | 4 => .int
  | 5 => .int
  | 6 => .int
  | 7 => .int
  | 8 => .int
  | 9 => .int
  | 10 => .array .int
  | 11 => .array .int
  | 12 => .array .int
  | 13 => .array .int
  | 14 => .array .int
  | 15 => .array .int
  | _ => .array .int
abbrev wsX00 : List Cond := u_ws RX0 TX0 17
theorem nmX0 : ∀ a, a < 17 → ∀ b, b < 17 → a ≠ b → (TX0 a).2.1 ≠ (TX0 b).2.1 := by decide +kernel
theorem tyX0_ok : ∀ k, k < 17 → parseFieldDescriptor (TX0 k).2.2.1 = some (tyX0 k) := by decide +kernel
abbrev cX0_init : ByteArray := prog_2_method_1_code
def yX0_init : MethodName := ⟨RX0, "<init>", "()V"⟩
abbrev cX0_begin : ByteArray := prog_2_method_2_code
def yX0_begin : MethodName := ⟨RX0, "begin", "(I)V"⟩
abbrev cX0_letSpeak : ByteArray := prog_2_method_4_code
def yX0_letSpeak : MethodName := ⟨RX0, "letSpeak", "(II)I"⟩
abbrev cX0_letCough : ByteArray := prog_2_method_5_code
def yX0_letCough : MethodName := ⟨RX0, "letCough", "(II)I"⟩
abbrev cX0_unsaidByCough : ByteArray := prog_2_method_6_code
def yX0_unsaidByCough : MethodName := ⟨RX0, "unsaidByCough", "(II)I"⟩
abbrev cX0_send : ByteArray := prog_2_method_7_code
def yX0_send : MethodName := ⟨RX0, "send", "(II)I"⟩
abbrev cX0_goBy : ByteArray := prog_2_method_8_code
def yX0_goBy : MethodName := ⟨RX0, "goBy", "(I)V"⟩
abbrev cX0_goOneSecond : ByteArray := prog_2_method_9_code
def yX0_goOneSecond : MethodName := ⟨RX0, "goOneSecond", "()V"⟩
abbrev cX0_speakOrPause : ByteArray := prog_2_method_10_code
def yX0_speakOrPause : MethodName := ⟨RX0, "speakOrPause", "()V"⟩
abbrev cX0_moveGlances : ByteArray := prog_2_method_11_code
def yX0_moveGlances : MethodName := ⟨RX0, "moveGlances", "()V"⟩
abbrev cX0_arrive : ByteArray := prog_2_method_12_code
def yX0_arrive : MethodName := ⟨RX0, "arrive", "(II)V"⟩
abbrev cX0_forgetThoseOver : ByteArray := prog_2_method_13_code
def yX0_forgetThoseOver : MethodName := ⟨RX0, "forgetThoseOver", "()V"⟩
abbrev cX0_isOnItsWay : ByteArray := prog_2_method_14_code
def yX0_isOnItsWay : MethodName := ⟨RX0, "isOnItsWay", "(I)Z"⟩
abbrev cX0_timeToGo : ByteArray := prog_2_method_15_code
def yX0_timeToGo : MethodName := ⟨RX0, "timeToGo", "(I)I"⟩
abbrev cX0_seatsBetween : ByteArray := prog_2_method_16_code
def yX0_seatsBetween : MethodName := ⟨RX0, "seatsBetween", "(II)I"⟩
abbrev cX0_wayOf : ByteArray := prog_2_method_17_code
def yX0_wayOf : MethodName := ⟨RX0, "wayOf", "(II)I"⟩
abbrev cX0_beyondMultipleOfLimit : ByteArray := prog_2_method_20_code
def yX0_beyondMultipleOfLimit : MethodName := ⟨RX0, "beyondMultipleOfLimit", "(I)I"⟩
abbrev cX0_sumUnsaidByGuests : ByteArray := prog_2_method_21_code
def yX0_sumUnsaidByGuests : MethodName := ⟨RX0, "sumUnsaidByGuests", "()I"⟩
abbrev cX0_sumUnsaid : ByteArray := prog_2_method_22_code
def yX0_sumUnsaid : MethodName := ⟨RX0, "sumUnsaid", "()I"⟩
abbrev cX0_rate : ByteArray := prog_2_method_23_code
def yX0_rate : MethodName := ⟨RX0, "rate", "()I"⟩
def RX1 : String := "PauseLedger"
def TX1 : u_T := fun k => match k with
  | 0 => ("PauseLedger", "dinner", "LPauseLedger$Dinner;", true)
  | _ => ("PauseLedger", "trial", "LPauseLedger$Dinner;", true)
def tyX1 : Nat → FieldType := fun k => match k with
  | 0 => .object "PauseLedger$Dinner"
  | _ => .object "PauseLedger$Dinner"
abbrev wsX10 : List Cond := u_ws RX1 TX1 2
theorem nmX1 : ∀ a, a < 2 → ∀ b, b < 2 → a ≠ b → (TX1 a).2.1 ≠ (TX1 b).2.1 := by decide +kernel
theorem tyX1_ok : ∀ k, k < 2 → parseFieldDescriptor (TX1 k).2.2.1 = some (tyX1 k) := by decide +kernel
abbrev cX1_init : ByteArray := prog_1_method_1_code
def yX1_init : MethodName := ⟨RX1, "<init>", "()V"⟩
abbrev cX1_newDinner : ByteArray := prog_1_method_2_code
def yX1_newDinner : MethodName := ⟨RX1, "newDinner", "(I)I"⟩
abbrev cX1_setLimit : ByteArray := prog_1_method_3_code
def yX1_setLimit : MethodName := ⟨RX1, "setLimit", "(I)I"⟩
abbrev cX1_speak : ByteArray := prog_1_method_4_code
def yX1_speak : MethodName := ⟨RX1, "speak", "(II)I"⟩
abbrev cX1_cough : ByteArray := prog_1_method_5_code
def yX1_cough : MethodName := ⟨RX1, "cough", "(II)I"⟩
abbrev cX1_glance : ByteArray := prog_1_method_6_code
def yX1_glance : MethodName := ⟨RX1, "glance", "(II)I"⟩
abbrev cX1_pass : ByteArray := prog_1_method_7_code
def yX1_pass : MethodName := ⟨RX1, "pass", "(I)I"⟩
abbrev cX1_guests : ByteArray := prog_1_method_8_code
def yX1_guests : MethodName := ⟨RX1, "guests", "()I"⟩
abbrev cX1_seconds : ByteArray := prog_1_method_9_code
def yX1_seconds : MethodName := ⟨RX1, "seconds", "()I"⟩
abbrev cX1_limit : ByteArray := prog_1_method_10_code
def yX1_limit : MethodName := ⟨RX1, "limit", "()I"⟩
abbrev cX1_seatsApart : ByteArray := prog_1_method_11_code
def yX1_seatsApart : MethodName := ⟨RX1, "seatsApart", "(II)I"⟩
abbrev cX1_speaker : ByteArray := prog_1_method_12_code
def yX1_speaker : MethodName := ⟨RX1, "speaker", "()I"⟩
abbrev cX1_secondsToSpeak : ByteArray := prog_1_method_13_code
def yX1_secondsToSpeak : MethodName := ⟨RX1, "secondsToSpeak", "()I"⟩
abbrev cX1_pause : ByteArray := prog_1_method_14_code
def yX1_pause : MethodName := ⟨RX1, "pause", "()I"⟩
abbrev cX1_spokenBy : ByteArray := prog_1_method_15_code
def yX1_spokenBy : MethodName := ⟨RX1, "spokenBy", "(I)I"⟩
abbrev cX1_interruptionsBy : ByteArray := prog_1_method_16_code
def yX1_interruptionsBy : MethodName := ⟨RX1, "interruptionsBy", "(I)I"⟩
abbrev cX1_coughsOf : ByteArray := prog_1_method_17_code
def yX1_coughsOf : MethodName := ⟨RX1, "coughsOf", "(I)I"⟩
abbrev cX1_unsaidBy : ByteArray := prog_1_method_18_code
def yX1_unsaidBy : MethodName := ⟨RX1, "unsaidBy", "(I)I"⟩
abbrev cX1_isUnderWay : ByteArray := prog_1_method_19_code
def yX1_isUnderWay : MethodName := ⟨RX1, "isUnderWay", "(II)Z"⟩
abbrev cX1_secondsToGo : ByteArray := prog_1_method_20_code
def yX1_secondsToGo : MethodName := ⟨RX1, "secondsToGo", "(II)I"⟩
abbrev cX1_caughtBy : ByteArray := prog_1_method_21_code
def yX1_caughtBy : MethodName := ⟨RX1, "caughtBy", "(II)I"⟩
abbrev cX1_unsaidInPauses : ByteArray := prog_1_method_22_code
def yX1_unsaidInPauses : MethodName := ⟨RX1, "unsaidInPauses", "()I"⟩
abbrev cX1_allUnsaid : ByteArray := prog_1_method_23_code
def yX1_allUnsaid : MethodName := ⟨RX1, "allUnsaid", "()I"⟩
abbrev cX1_glancesUnderWay : ByteArray := prog_1_method_24_code
def yX1_glancesUnderWay : MethodName := ⟨RX1, "glancesUnderWay", "()I"⟩
abbrev cX1_meetings : ByteArray := prog_1_method_25_code
def yX1_meetings : MethodName := ⟨RX1, "meetings", "()I"⟩
abbrev cX1_lostGlances : ByteArray := prog_1_method_26_code
def yX1_lostGlances : MethodName := ⟨RX1, "lostGlances", "()I"⟩
abbrev cX1_quietest : ByteArray := prog_1_method_27_code
def yX1_quietest : MethodName := ⟨RX1, "quietest", "()I"⟩
abbrev cX1_rating : ByteArray := prog_1_method_28_code
def yX1_rating : MethodName := ⟨RX1, "rating", "()I"⟩
abbrev cX1_meanUnsaid : ByteArray := prog_1_method_34_code
def yX1_meanUnsaid : MethodName := ⟨RX1, "meanUnsaid", "()D"⟩
abbrev cX1_requireGuest : ByteArray := prog_1_method_40_code
def yX1_requireGuest : MethodName := ⟨RX1, "requireGuest", "(I)V"⟩
abbrev cX1_requireWithin : ByteArray := prog_1_method_41_code
def yX1_requireWithin : MethodName := ⟨RX1, "requireWithin", "(III)V"⟩
abbrev cX1_requireFreeWay : ByteArray := prog_1_method_42_code
def yX1_requireFreeWay : MethodName := ⟨RX1, "requireFreeWay", "(II)V"⟩
abbrev cX1_pairOf : ByteArray := prog_1_method_43_code
def yX1_pairOf : MethodName := ⟨RX1, "pairOf", "(II)I"⟩
def RX2 : String := "PauseLedgerLaw$Sim"
def TX2 : u_T := fun k => match k with
  | 0 => ("PauseLedgerLaw$Sim", "guests", "I", false)
  | 1 => ("PauseLedgerLaw$Sim", "limit", "I", false)
  | 2 => ("PauseLedgerLaw$Sim", "second", "I", false)
  | 3 => ("PauseLedgerLaw$Sim", "speaker", "I", false)
  | 4 => ("PauseLedgerLaw$Sim", "left", "I", false)
  | 5 => ("PauseLedgerLaw$Sim", "pause", "I", false)
  | 6 => ("PauseLedgerLaw$Sim", "quiet", "I", false)
  | 7 => ("PauseLedgerLaw$Sim", "met", "I", false)
  | 8 => ("PauseLedgerLaw$Sim", "lost", "I", false)
  | 9 => ("PauseLedgerLaw$Sim", "spoken", "[I", true)
  | 10 => ("PauseLedgerLaw$Sim", "cut", "[I", true)
  | 11 => ("PauseLedgerLaw$Sim", "coughs", "[I", true)
  | 12 => ("PauseLedgerLaw$Sim", "unsaid", "[I", true)
  | 13 => ("PauseLedgerLaw$Sim", "caught", "[[I", true)
  | _ => ("PauseLedgerLaw$Sim", "glances", "[[I", false)
def tyX2 : Nat → FieldType := fun k => match k with
  | 0 => .int
  | 1 => .int
  | 2 => .int
  | 3 => .int
  | 4 => .int
  | 5 => .int
  | 6 => .int
  | 7 => .int
  | 8 => .int
  | 9 => .array .int
  | 10 => .array .int
  | 11 => .array .int
  | 12 => .array .int
  | 13 => .array (.array .int)
  | _ => .array (.array .int)
abbrev wsX20 : List Cond := u_ws RX2 TX2 15
theorem nmX2 : ∀ a, a < 15 → ∀ b, b < 15 → a ≠ b → (TX2 a).2.1 ≠ (TX2 b).2.1 := by decide +kernel
theorem tyX2_ok : ∀ k, k < 15 → parseFieldDescriptor (TX2 k).2.2.1 = some (tyX2 k) := by decide +kernel
abbrev cX2_init : ByteArray := prog_4_method_1_code
def yX2_init : MethodName := ⟨RX2, "<init>", "(I)V"⟩
abbrev cX2_apart : ByteArray := prog_4_method_3_code
def yX2_apart : MethodName := ⟨RX2, "apart", "(II)I"⟩
abbrev cX2_all : ByteArray := prog_4_method_4_code
def yX2_all : MethodName := ⟨RX2, "all", "()I"⟩
abbrev cX2_rated : ByteArray := prog_4_method_5_code
def yX2_rated : MethodName := ⟨RX2, "rated", "()I"⟩
abbrev cX2_find : ByteArray := prog_4_method_6_code
def yX2_find : MethodName := ⟨RX2, "find", "(II)I"⟩
abbrev cX2_send : ByteArray := prog_4_method_7_code
def yX2_send : MethodName := ⟨RX2, "send", "(II)I"⟩
abbrev cX2_pass : ByteArray := prog_4_method_8_code
def yX2_pass : MethodName := ⟨RX2, "pass", "()I"⟩
abbrev cX2_behind : ByteArray := prog_4_method_9_code
def yX2_behind : MethodName := ⟨RX2, "behind", "(I)LPauseLedgerLaw$Sim;"⟩
abbrev cX2_isSame : ByteArray := prog_4_method_11_code
def yX2_isSame : MethodName := ⟨RX2, "isSame", "(LPauseLedger;)Z"⟩
def RX3 : String := "PauseLedgerModel"
def TX3 : u_T := fun k => match k with
  | _ => ("", "", "", false)
def tyX3 : Nat → FieldType := fun k => match k with
  | _ => .int
abbrev wsX30 : List Cond := u_ws RX3 TX3 0
theorem nmX3 : ∀ a, a < 0 → ∀ b, b < 0 → a ≠ b → (TX3 a).2.1 ≠ (TX3 b).2.1 := by decide +kernel
theorem tyX3_ok : ∀ k, k < 0 → parseFieldDescriptor (TX3 k).2.2.1 = some (tyX3 k) := by decide +kernel
def RJx145de : String := "java/io/Serializable"
def TJx145de : u_T := fun k => match k with
  | _ => ("", "", "", false)
def tyJx145de : Nat → FieldType := fun k => match k with
  | _ => .int
abbrev wsJx145de0 : List Cond := u_ws RJx145de TJx145de 0
theorem nmJx145de : ∀ a, a < 0 → ∀ b, b < 0 → a ≠ b → (TJx145de a).2.1 ≠ (TJx145de b).2.1 := by decide +kernel
theorem tyJx145de_ok : ∀ k, k < 0 → parseFieldDescriptor (TJx145de k).2.2.1 = some (tyJx145de k) := by decide +kernel
def RJ9 : String := "java/lang/Math"
def TJ9 : u_T := fun k => match k with
  | _ => ("", "", "", false)
def tyJ9 : Nat → FieldType := fun k => match k with
  | _ => .int
abbrev wsJ90 : List Cond := u_ws RJ9 TJ9 0
theorem nmJ9 : ∀ a, a < 0 → ∀ b, b < 0 → a ≠ b → (TJ9 a).2.1 ≠ (TJ9 b).2.1 := by decide +kernel
theorem tyJ9_ok : ∀ k, k < 0 → parseFieldDescriptor (TJ9 k).2.2.1 = some (tyJ9 k) := by decide +kernel
abbrev cJ9_abs_0f7a4 : ByteArray := prog_10_method_59_code
def yJ9_abs_0f7a4 : MethodName := ⟨RJ9, "abs", "(I)I"⟩
abbrev cJ9_max_7cf53 : ByteArray := prog_10_method_65_code
def yJ9_max_7cf53 : MethodName := ⟨RJ9, "max", "(II)I"⟩
abbrev cJ9_min_7cf53 : ByteArray := prog_10_method_69_code
def yJ9_min_7cf53 : MethodName := ⟨RJ9, "min", "(II)I"⟩
def RJ0 : String := "java/lang/String"
def TJ0 : u_T := fun k => match k with
  | _ => ("", "", "", false)
def tyJ0 : Nat → FieldType := fun k => match k with
  | _ => .int
abbrev wsJ00 : List Cond := u_ws RJ0 TJ0 0
theorem nmJ0 : ∀ a, a < 0 → ∀ b, b < 0 → a ≠ b → (TJ0 a).2.1 ≠ (TJ0 b).2.1 := by decide +kernel
theorem tyJ0_ok : ∀ k, k < 0 → parseFieldDescriptor (TJ0 k).2.2.1 = some (tyJ0 k) := by decide +kernel
def RJ7 : String := "java/util/Arrays"
def TJ7 : u_T := fun k => match k with
  | _ => ("", "", "", false)
def tyJ7 : Nat → FieldType := fun k => match k with
  | _ => .int
abbrev wsJ70 : List Cond := u_ws RJ7 TJ7 0
theorem nmJ7 : ∀ a, a < 0 → ∀ b, b < 0 → a ≠ b → (TJ7 a).2.1 ≠ (TJ7 b).2.1 := by decide +kernel
theorem tyJ7_ok : ∀ k, k < 0 → parseFieldDescriptor (TJ7 k).2.2.1 = some (tyJ7 k) := by decide +kernel
abbrev cJ7_fill_53178 : ByteArray := prog_14_method_103_code
def yJ7_fill_53178 : MethodName := ⟨RJ7, "fill", "([II)V"⟩
def RL : String := "PauseLedgerLaw"
abbrev cL_below : ByteArray := method_2_code
def yL_below : MethodName := ⟨RL, "below", "(II)I"⟩
abbrev cL_cell : ByteArray := method_3_code
def yL_cell : MethodName := ⟨RL, "cell", "([II)I"⟩
abbrev cL_act : ByteArray := method_4_code
def yL_act : MethodName := ⟨RL, "act", "(LPauseLedger;LPauseLedgerLaw$Sim;I)LPauseLedgerLaw$Sim;"⟩
abbrev cL_build : ByteArray := method_5_code
def yL_build : MethodName := ⟨RL, "build", "(LPauseLedger;[I)LPauseLedgerLaw$Sim;"⟩
abbrev cL_law : ByteArray := code
def yL_law : MethodName := ⟨RL, "law", "([I)Z"⟩
def wsJ7_fill_53178 : List Cond := .code yJ7_fill_53178 cJ7_fill_53178 4 none :: ([])
def wsX0_begin : List Cond := .code yX0_begin cX0_begin 2 none :: ([.fieldLink RX0 41 "PauseLedger$Dinner" "guests" "I", .fieldLink RX0 44 "PauseLedger$Dinner" "seconds" "I", .fieldLink RX0 47 "PauseLedger$Dinner" "speaker" "I", .fieldLink RX0 50 "PauseLedger$Dinner" "toSpeak" "I", .fieldLink RX0 53 "PauseLedger$Dinner" "pause" "I", .fieldLink RX0 56 "PauseLedger$Dinner" "unsaidInPauses" "I", .fieldLink RX0 59 "PauseLedger$Dinner" "meetings" "I", .fieldLink RX0 62 "PauseLedger$Dinner" "lost" "I", .fieldLink RX0 65 "PauseLedger$Dinner" "sent" "I", .fieldLink RX0 9 "PauseLedger$Dinner" "spoken" "[I", .fieldLink RX0 15 "PauseLedger$Dinner" "interruptions" "[I", .fieldLink RX0 18 "PauseLedger$Dinner" "coughs" "[I", .fieldLink RX0 21 "PauseLedger$Dinner" "unsaid" "[I", .fieldLink RX0 24 "PauseLedger$Dinner" "toGo" "[I", .fieldLink RX0 27 "PauseLedger$Dinner" "caught" "[I", .methodLink RX0 68 yJ7_fill_53178, .static yJ7_fill_53178, .initialized RJ7, .code yJ7_fill_53178 cJ7_fill_53178 4 none] ++ wsX00)
def wsX0_init_r1 : List Cond := [Cond.methodLink RX0 3 objectInit, Cond.instanceMethod objectInit, Cond.code objectInit ⟨#[0xb1]⟩ 1 none, Cond.arrayClass .int, Cond.fieldLink RX0 9 "PauseLedger$Dinner" "spoken" "[I", Cond.fieldLink RX0 15 "PauseLedger$Dinner" "interruptions" "[I", Cond.fieldLink RX0 18 "PauseLedger$Dinner" "coughs" "[I", Cond.fieldLink RX0 21 "PauseLedger$Dinner" "unsaid" "[I", Cond.fieldLink RX0 24 "PauseLedger$Dinner" "toGo" "[I", Cond.fieldLink RX0 27 "PauseLedger$Dinner" "caught" "[I", Cond.fieldLink RX0 30 "PauseLedger$Dinner" "order" "[I", Cond.fieldLink RX0 33 "PauseLedger$Dinner" "limit" "I", Cond.methodLink RX0 37 yX0_begin, Cond.instanceMethod yX0_begin, Cond.selects RX0 yX0_begin yX0_begin, Cond.initialized RX0, Cond.code yX0_begin cX0_begin 2 none, Cond.fieldLink RX0 41 "PauseLedger$Dinner" "guests" "I", Cond.fieldLink RX0 44 "PauseLedger$Dinner" "seconds" "I", Cond.fieldLink RX0 47 "PauseLedger$Dinner" "speaker" "I", Cond.fieldLink RX0 50 "PauseLedger$Dinner" "toSpeak" "I", Cond.fieldLink RX0 53 "PauseLedger$Dinner" "pause" "I", Cond.fieldLink RX0 56 "PauseLedger$Dinner" "unsaidInPauses" "I", Cond.fieldLink RX0 59 "PauseLedger$Dinner" "meetings" "I"]
def wsX0_init_r2 : List Cond := [Cond.fieldLink RX0 62 "PauseLedger$Dinner" "lost" "I", Cond.fieldLink RX0 65 "PauseLedger$Dinner" "sent" "I", Cond.methodLink RX0 68 yJ7_fill_53178, Cond.static yJ7_fill_53178, Cond.initialized RJ7, Cond.code yJ7_fill_53178 cJ7_fill_53178 4 none]
def wsX0_init : List Cond := .code yX0_init cX0_init 1 none :: ((wsX0_init_r1 ++ wsX0_init_r2) ++ wsX00)
def wsX0_letSpeak : List Cond := .code yX0_letSpeak cX0_letSpeak 4 (some .int) :: ([.fieldLink RX0 47 "PauseLedger$Dinner" "speaker" "I", .fieldLink RX0 15 "PauseLedger$Dinner" "interruptions" "[I", .fieldLink RX0 50 "PauseLedger$Dinner" "toSpeak" "I"] ++ wsX00)
def wsX0_unsaidByCough : List Cond := .code yX0_unsaidByCough cX0_unsaidByCough 3 (some .int) :: ([.fieldLink RX0 47 "PauseLedger$Dinner" "speaker" "I"] ++ wsX00)
def wsX0_letCough : List Cond := .code yX0_letCough cX0_letCough 4 (some .int) :: ([.fieldLink RX0 18 "PauseLedger$Dinner" "coughs" "[I", .fieldLink RX0 21 "PauseLedger$Dinner" "unsaid" "[I", .methodLink RX0 80 yX0_unsaidByCough, .instanceMethod yX0_unsaidByCough, .selects RX0 yX0_unsaidByCough yX0_unsaidByCough, .initialized RX0, .code yX0_unsaidByCough cX0_unsaidByCough 3 (some .int), .fieldLink RX0 47 "PauseLedger$Dinner" "speaker" "I"] ++ wsX00)
def wsX1_pairOf : List Cond := .code yX1_pairOf cX1_pairOf 2 (some .int) :: ([])
def wsX0_seatsBetween : List Cond := .code yX0_seatsBetween cX0_seatsBetween 4 (some .int) :: ([.methodLink RX0 114 Lib.Math.abs.name, .static Lib.Math.abs.name, .initialized "java/lang/Math", .code Lib.Math.abs.name Lib.Math.abs.code 1 (some .int), .fieldLink RX0 41 "PauseLedger$Dinner" "guests" "I", .methodLink RX0 119 Lib.Math.min.name, .static Lib.Math.min.name, .code Lib.Math.min.name Lib.Math.min.code 2 (some .int)] ++ wsX00)
def wsX0_wayOf : List Cond := .code yX0_wayOf cX0_wayOf 3 (some .int) :: ([.methodLink RX0 122 yX0_seatsBetween, .instanceMethod yX0_seatsBetween, .selects RX0 yX0_seatsBetween yX0_seatsBetween, .initialized RX0, .code yX0_seatsBetween cX0_seatsBetween 4 (some .int), .methodLink RX0 114 Lib.Math.abs.name, .static Lib.Math.abs.name, .initialized "java/lang/Math", .code Lib.Math.abs.name Lib.Math.abs.code 1 (some .int), .fieldLink RX0 41 "PauseLedger$Dinner" "guests" "I", .methodLink RX0 119 Lib.Math.min.name, .static Lib.Math.min.name, .code Lib.Math.min.name Lib.Math.min.code 2 (some .int)] ++ wsX00)
def wsX0_send : List Cond := .code yX0_send cX0_send 4 (some .int) :: ([.fieldLink RX0 65 "PauseLedger$Dinner" "sent" "I", .fieldLink RX0 30 "PauseLedger$Dinner" "order" "[I", .fieldLink RX0 24 "PauseLedger$Dinner" "toGo" "[I", .static yX1_pairOf, .initialized RX1, .code yX1_pairOf cX1_pairOf 2 (some .int), .methodLink RX0 87 yX0_wayOf, .instanceMethod yX0_wayOf, .selects RX0 yX0_wayOf yX0_wayOf, .initialized RX0, .code yX0_wayOf cX0_wayOf 3 (some .int), .methodLink RX0 122 yX0_seatsBetween, .instanceMethod yX0_seatsBetween, .selects RX0 yX0_seatsBetween yX0_seatsBetween, .code yX0_seatsBetween cX0_seatsBetween 4 (some .int), .methodLink RX0 114 Lib.Math.abs.name, .static Lib.Math.abs.name, .initialized "java/lang/Math", .code Lib.Math.abs.name Lib.Math.abs.code 1 (some .int), .fieldLink RX0 41 "PauseLedger$Dinner" "guests" "I", .methodLink RX0 119 Lib.Math.min.name, .static Lib.Math.min.name, .code Lib.Math.min.name Lib.Math.min.code 2 (some .int)] ++ wsX00)
def wsX0_beyondMultipleOfLimit : List Cond := .code yX0_beyondMultipleOfLimit cX0_beyondMultipleOfLimit 2 (some .int) :: ([.fieldLink RX0 33 "PauseLedger$Dinner" "limit" "I"] ++ wsX00)
def wsX0_speakOrPause : List Cond := .code yX0_speakOrPause cX0_speakOrPause 1 none :: ([.fieldLink RX0 47 "PauseLedger$Dinner" "speaker" "I", .fieldLink RX0 53 "PauseLedger$Dinner" "pause" "I", .fieldLink RX0 56 "PauseLedger$Dinner" "unsaidInPauses" "I", .fieldLink RX0 9 "PauseLedger$Dinner" "spoken" "[I", .fieldLink RX0 50 "PauseLedger$Dinner" "toSpeak" "I", .methodLink RX0 99 yX0_beyondMultipleOfLimit, .instanceMethod yX0_beyondMultipleOfLimit, .selects RX0 yX0_beyondMultipleOfLimit yX0_beyondMultipleOfLimit, .initialized RX0, .code yX0_beyondMultipleOfLimit cX0_beyondMultipleOfLimit 2 (some .int), .fieldLink RX0 33 "PauseLedger$Dinner" "limit" "I"] ++ wsX00)
def wsX0_isOnItsWay : List Cond := .code yX0_isOnItsWay cX0_isOnItsWay 2 (some .boolean) :: ([.fieldLink RX0 24 "PauseLedger$Dinner" "toGo" "[I"] ++ wsX00)
def wsX0_arrive : List Cond := .code yX0_arrive cX0_arrive 5 none :: ([.fieldLink RX0 59 "PauseLedger$Dinner" "meetings" "I", .fieldLink RX0 21 "PauseLedger$Dinner" "unsaid" "[I", .fieldLink RX0 24 "PauseLedger$Dinner" "toGo" "[I", .fieldLink RX0 47 "PauseLedger$Dinner" "speaker" "I", .fieldLink RX0 62 "PauseLedger$Dinner" "lost" "I", .fieldLink RX0 27 "PauseLedger$Dinner" "caught" "[I", .static yX1_pairOf, .initialized RX1, .code yX1_pairOf cX1_pairOf 2 (some .int), .methodLink RX0 110 yX0_isOnItsWay, .instanceMethod yX0_isOnItsWay, .selects RX0 yX0_isOnItsWay yX0_isOnItsWay, .initialized RX0, .code yX0_isOnItsWay cX0_isOnItsWay 2 (some .boolean)] ++ wsX00)
def wsX0_forgetThoseOver : List Cond := .code yX0_forgetThoseOver cX0_forgetThoseOver 4 none :: ([.fieldLink RX0 65 "PauseLedger$Dinner" "sent" "I", .fieldLink RX0 30 "PauseLedger$Dinner" "order" "[I", .methodLink RX0 110 yX0_isOnItsWay, .instanceMethod yX0_isOnItsWay, .selects RX0 yX0_isOnItsWay yX0_isOnItsWay, .initialized RX0, .code yX0_isOnItsWay cX0_isOnItsWay 2 (some .boolean), .fieldLink RX0 24 "PauseLedger$Dinner" "toGo" "[I"] ++ wsX00)
def wsX0_moveGlances : List Cond := .code yX0_moveGlances cX0_moveGlances 3 none :: ([.fieldLink RX0 65 "PauseLedger$Dinner" "sent" "I", .fieldLink RX0 24 "PauseLedger$Dinner" "toGo" "[I", .fieldLink RX0 30 "PauseLedger$Dinner" "order" "[I", .methodLink RX0 103 yX0_arrive, .instanceMethod yX0_arrive, .selects RX0 yX0_arrive yX0_arrive, .initialized RX0, .code yX0_arrive cX0_arrive 5 none, .fieldLink RX0 59 "PauseLedger$Dinner" "meetings" "I", .fieldLink RX0 21 "PauseLedger$Dinner" "unsaid" "[I", .fieldLink RX0 47 "PauseLedger$Dinner" "speaker" "I", .fieldLink RX0 62 "PauseLedger$Dinner" "lost" "I", .fieldLink RX0 27 "PauseLedger$Dinner" "caught" "[I", .static yX1_pairOf, .initialized RX1, .code yX1_pairOf cX1_pairOf 2 (some .int), .methodLink RX0 110 yX0_isOnItsWay, .instanceMethod yX0_isOnItsWay, .selects RX0 yX0_isOnItsWay yX0_isOnItsWay, .code yX0_isOnItsWay cX0_isOnItsWay 2 (some .boolean), .methodLink RX0 107 yX0_forgetThoseOver, .instanceMethod yX0_forgetThoseOver, .selects RX0 yX0_forgetThoseOver yX0_forgetThoseOver, .code yX0_forgetThoseOver cX0_forgetThoseOver 4 none] ++ wsX00)
def wsX0_goOneSecond_r1 : List Cond := [Cond.fieldLink RX0 44 "PauseLedger$Dinner" "seconds" "I", Cond.methodLink RX0 93 yX0_speakOrPause, Cond.instanceMethod yX0_speakOrPause, Cond.selects RX0 yX0_speakOrPause yX0_speakOrPause, Cond.initialized RX0, Cond.code yX0_speakOrPause cX0_speakOrPause 1 none, Cond.fieldLink RX0 47 "PauseLedger$Dinner" "speaker" "I", Cond.fieldLink RX0 53 "PauseLedger$Dinner" "pause" "I", Cond.fieldLink RX0 56 "PauseLedger$Dinner" "unsaidInPauses" "I", Cond.fieldLink RX0 9 "PauseLedger$Dinner" "spoken" "[I", Cond.fieldLink RX0 50 "PauseLedger$Dinner" "toSpeak" "I", Cond.methodLink RX0 99 yX0_beyondMultipleOfLimit, Cond.instanceMethod yX0_beyondMultipleOfLimit, Cond.selects RX0 yX0_beyondMultipleOfLimit yX0_beyondMultipleOfLimit, Cond.code yX0_beyondMultipleOfLimit cX0_beyondMultipleOfLimit 2 (some .int), Cond.fieldLink RX0 33 "PauseLedger$Dinner" "limit" "I", Cond.methodLink RX0 96 yX0_moveGlances, Cond.instanceMethod yX0_moveGlances, Cond.selects RX0 yX0_moveGlances yX0_moveGlances, Cond.code yX0_moveGlances cX0_moveGlances 3 none, Cond.fieldLink RX0 65 "PauseLedger$Dinner" "sent" "I", Cond.fieldLink RX0 24 "PauseLedger$Dinner" "toGo" "[I", Cond.fieldLink RX0 30 "PauseLedger$Dinner" "order" "[I", Cond.methodLink RX0 103 yX0_arrive]
def wsX0_goOneSecond_r2 : List Cond := [Cond.instanceMethod yX0_arrive, Cond.selects RX0 yX0_arrive yX0_arrive, Cond.code yX0_arrive cX0_arrive 5 none, Cond.fieldLink RX0 59 "PauseLedger$Dinner" "meetings" "I", Cond.fieldLink RX0 21 "PauseLedger$Dinner" "unsaid" "[I", Cond.fieldLink RX0 62 "PauseLedger$Dinner" "lost" "I", Cond.fieldLink RX0 27 "PauseLedger$Dinner" "caught" "[I", Cond.static yX1_pairOf, Cond.initialized RX1, Cond.code yX1_pairOf cX1_pairOf 2 (some .int), Cond.methodLink RX0 110 yX0_isOnItsWay, Cond.instanceMethod yX0_isOnItsWay, Cond.selects RX0 yX0_isOnItsWay yX0_isOnItsWay, Cond.code yX0_isOnItsWay cX0_isOnItsWay 2 (some .boolean), Cond.methodLink RX0 107 yX0_forgetThoseOver, Cond.instanceMethod yX0_forgetThoseOver, Cond.selects RX0 yX0_forgetThoseOver yX0_forgetThoseOver, Cond.code yX0_forgetThoseOver cX0_forgetThoseOver 4 none]
def wsX0_goOneSecond : List Cond := .code yX0_goOneSecond cX0_goOneSecond 1 none :: ((wsX0_goOneSecond_r1 ++ wsX0_goOneSecond_r2) ++ wsX00)
def wsX0_goBy_r1 : List Cond := [Cond.methodLink RX0 90 yX0_goOneSecond, Cond.instanceMethod yX0_goOneSecond, Cond.selects RX0 yX0_goOneSecond yX0_goOneSecond, Cond.initialized RX0, Cond.code yX0_goOneSecond cX0_goOneSecond 1 none, Cond.fieldLink RX0 44 "PauseLedger$Dinner" "seconds" "I", Cond.methodLink RX0 93 yX0_speakOrPause, Cond.instanceMethod yX0_speakOrPause, Cond.selects RX0 yX0_speakOrPause yX0_speakOrPause, Cond.code yX0_speakOrPause cX0_speakOrPause 1 none, Cond.fieldLink RX0 47 "PauseLedger$Dinner" "speaker" "I", Cond.fieldLink RX0 53 "PauseLedger$Dinner" "pause" "I", Cond.fieldLink RX0 56 "PauseLedger$Dinner" "unsaidInPauses" "I", Cond.fieldLink RX0 9 "PauseLedger$Dinner" "spoken" "[I", Cond.fieldLink RX0 50 "PauseLedger$Dinner" "toSpeak" "I", Cond.methodLink RX0 99 yX0_beyondMultipleOfLimit, Cond.instanceMethod yX0_beyondMultipleOfLimit, Cond.selects RX0 yX0_beyondMultipleOfLimit yX0_beyondMultipleOfLimit, Cond.code yX0_beyondMultipleOfLimit cX0_beyondMultipleOfLimit 2 (some .int), Cond.fieldLink RX0 33 "PauseLedger$Dinner" "limit" "I", Cond.methodLink RX0 96 yX0_moveGlances, Cond.instanceMethod yX0_moveGlances, Cond.selects RX0 yX0_moveGlances yX0_moveGlances, Cond.code yX0_moveGlances cX0_moveGlances 3 none]
def wsX0_goBy_r2 : List Cond := [Cond.fieldLink RX0 65 "PauseLedger$Dinner" "sent" "I", Cond.fieldLink RX0 24 "PauseLedger$Dinner" "toGo" "[I", Cond.fieldLink RX0 30 "PauseLedger$Dinner" "order" "[I", Cond.methodLink RX0 103 yX0_arrive, Cond.instanceMethod yX0_arrive, Cond.selects RX0 yX0_arrive yX0_arrive, Cond.code yX0_arrive cX0_arrive 5 none, Cond.fieldLink RX0 59 "PauseLedger$Dinner" "meetings" "I", Cond.fieldLink RX0 21 "PauseLedger$Dinner" "unsaid" "[I", Cond.fieldLink RX0 62 "PauseLedger$Dinner" "lost" "I", Cond.fieldLink RX0 27 "PauseLedger$Dinner" "caught" "[I", Cond.static yX1_pairOf, Cond.initialized RX1, Cond.code yX1_pairOf cX1_pairOf 2 (some .int), Cond.methodLink RX0 110 yX0_isOnItsWay, Cond.instanceMethod yX0_isOnItsWay, Cond.selects RX0 yX0_isOnItsWay yX0_isOnItsWay, Cond.code yX0_isOnItsWay cX0_isOnItsWay 2 (some .boolean), Cond.methodLink RX0 107 yX0_forgetThoseOver, Cond.instanceMethod yX0_forgetThoseOver, Cond.selects RX0 yX0_forgetThoseOver yX0_forgetThoseOver, Cond.code yX0_forgetThoseOver cX0_forgetThoseOver 4 none]
def wsX0_goBy : List Cond := .code yX0_goBy cX0_goBy 3 none :: ((wsX0_goBy_r1 ++ wsX0_goBy_r2) ++ wsX00)
def wsX0_timeToGo : List Cond := .code yX0_timeToGo cX0_timeToGo 2 (some .int) :: ([.fieldLink RX0 24 "PauseLedger$Dinner" "toGo" "[I", .methodLink RX0 110 yX0_isOnItsWay, .instanceMethod yX0_isOnItsWay, .selects RX0 yX0_isOnItsWay yX0_isOnItsWay, .initialized RX0, .code yX0_isOnItsWay cX0_isOnItsWay 2 (some .boolean)] ++ wsX00)
def wsX0_sumUnsaidByGuests : List Cond := .code yX0_sumUnsaidByGuests cX0_sumUnsaidByGuests 3 (some .int) :: ([.fieldLink RX0 41 "PauseLedger$Dinner" "guests" "I", .fieldLink RX0 21 "PauseLedger$Dinner" "unsaid" "[I"] ++ wsX00)
def wsX0_sumUnsaid : List Cond := .code yX0_sumUnsaid cX0_sumUnsaid 1 (some .int) :: ([.fieldLink RX0 56 "PauseLedger$Dinner" "unsaidInPauses" "I", .methodLink RX0 128 yX0_sumUnsaidByGuests, .instanceMethod yX0_sumUnsaidByGuests, .selects RX0 yX0_sumUnsaidByGuests yX0_sumUnsaidByGuests, .initialized RX0, .code yX0_sumUnsaidByGuests cX0_sumUnsaidByGuests 3 (some .int), .fieldLink RX0 41 "PauseLedger$Dinner" "guests" "I", .fieldLink RX0 21 "PauseLedger$Dinner" "unsaid" "[I"] ++ wsX00)
def wsX0_rate : List Cond := .code yX0_rate cX0_rate 2 (some .int) :: ([.fieldLink RX0 41 "PauseLedger$Dinner" "guests" "I", .methodLink RX0 114 Lib.Math.abs.name, .static Lib.Math.abs.name, .initialized "java/lang/Math", .code Lib.Math.abs.name Lib.Math.abs.code 1 (some .int), .methodLink RX0 135 Lib.Math.max.name, .static Lib.Math.max.name, .code Lib.Math.max.name Lib.Math.max.code 2 (some .int), .methodLink RX0 132 yX0_sumUnsaid, .instanceMethod yX0_sumUnsaid, .selects RX0 yX0_sumUnsaid yX0_sumUnsaid, .initialized RX0, .code yX0_sumUnsaid cX0_sumUnsaid 1 (some .int), .fieldLink RX0 56 "PauseLedger$Dinner" "unsaidInPauses" "I", .methodLink RX0 128 yX0_sumUnsaidByGuests, .instanceMethod yX0_sumUnsaidByGuests, .selects RX0 yX0_sumUnsaidByGuests yX0_sumUnsaidByGuests, .code yX0_sumUnsaidByGuests cX0_sumUnsaidByGuests 3 (some .int), .fieldLink RX0 21 "PauseLedger$Dinner" "unsaid" "[I"] ++ wsX00)
def wsX1_init_r1 : List Cond := [Cond.methodLink RX1 3 objectInit, Cond.instanceMethod objectInit, Cond.code objectInit ⟨#[0xb1]⟩ 1 none, Cond.classLink RX1 9 RX0, Cond.instantiable RX0 17, Cond.initialized RX0, Cond.fieldLink RX1 12 "PauseLedger" "dinner" "LPauseLedger$Dinner;", Cond.fieldLink RX1 16 "PauseLedger" "trial" "LPauseLedger$Dinner;", Cond.methodLink RX1 11 yX0_init, Cond.instanceMethod yX0_init, Cond.code yX0_init cX0_init 1 none, Cond.methodLink RX0 3 objectInit, Cond.arrayClass .int, Cond.fieldLink RX0 9 "PauseLedger$Dinner" "spoken" "[I", Cond.fieldLink RX0 15 "PauseLedger$Dinner" "interruptions" "[I", Cond.fieldLink RX0 18 "PauseLedger$Dinner" "coughs" "[I", Cond.fieldLink RX0 21 "PauseLedger$Dinner" "unsaid" "[I", Cond.fieldLink RX0 24 "PauseLedger$Dinner" "toGo" "[I", Cond.fieldLink RX0 27 "PauseLedger$Dinner" "caught" "[I", Cond.fieldLink RX0 30 "PauseLedger$Dinner" "order" "[I", Cond.fieldLink RX0 33 "PauseLedger$Dinner" "limit" "I", Cond.methodLink RX0 37 yX0_begin, Cond.instanceMethod yX0_begin, Cond.selects RX0 yX0_begin yX0_begin]
def wsX1_init_r2 : List Cond := [Cond.code yX0_begin cX0_begin 2 none, Cond.fieldLink RX0 41 "PauseLedger$Dinner" "guests" "I", Cond.fieldLink RX0 44 "PauseLedger$Dinner" "seconds" "I", Cond.fieldLink RX0 47 "PauseLedger$Dinner" "speaker" "I", Cond.fieldLink RX0 50 "PauseLedger$Dinner" "toSpeak" "I", Cond.fieldLink RX0 53 "PauseLedger$Dinner" "pause" "I", Cond.fieldLink RX0 56 "PauseLedger$Dinner" "unsaidInPauses" "I", Cond.fieldLink RX0 59 "PauseLedger$Dinner" "meetings" "I", Cond.fieldLink RX0 62 "PauseLedger$Dinner" "lost" "I", Cond.fieldLink RX0 65 "PauseLedger$Dinner" "sent" "I", Cond.methodLink RX0 68 yJ7_fill_53178, Cond.static yJ7_fill_53178, Cond.initialized RJ7, Cond.code yJ7_fill_53178 cJ7_fill_53178 4 none]
def wsX1_init : List Cond := .code yX1_init cX1_init 1 none :: ((wsX1_init_r1 ++ wsX1_init_r2) ++ wsX00 ++ wsX10)
def wsX1_requireWithin : List Cond := .code yX1_requireWithin cX1_requireWithin 3 none :: ([.classLink RX1 154 "java/lang/IllegalArgumentException", .initialized "java/lang/IllegalArgumentException"] ++ (vx_atS RX1 158 "java/lang/IllegalArgumentException" ["java/lang/RuntimeException", "java/lang/Exception"]).filter goodWord)
def wsX1_newDinner_r1 : List Cond := [Cond.fieldLink RX1 12 "PauseLedger" "dinner" "LPauseLedger$Dinner;", Cond.methodLink RX1 19 yX1_requireWithin, Cond.static yX1_requireWithin, Cond.initialized RX1, Cond.code yX1_requireWithin cX1_requireWithin 3 none, Cond.classLink RX1 154 "java/lang/IllegalArgumentException", Cond.initialized "java/lang/IllegalArgumentException", Cond.methodLink RX1 23 yX0_rate, Cond.instanceMethod yX0_rate, Cond.selects RX0 yX0_rate yX0_rate, Cond.initialized RX0, Cond.code yX0_rate cX0_rate 2 (some .int), Cond.fieldLink RX0 41 "PauseLedger$Dinner" "guests" "I", Cond.methodLink RX0 114 Lib.Math.abs.name, Cond.static Lib.Math.abs.name, Cond.initialized "java/lang/Math", Cond.code Lib.Math.abs.name Lib.Math.abs.code 1 (some .int), Cond.methodLink RX0 135 Lib.Math.max.name, Cond.static Lib.Math.max.name, Cond.code Lib.Math.max.name Lib.Math.max.code 2 (some .int), Cond.methodLink RX0 132 yX0_sumUnsaid, Cond.instanceMethod yX0_sumUnsaid, Cond.selects RX0 yX0_sumUnsaid yX0_sumUnsaid, Cond.code yX0_sumUnsaid cX0_sumUnsaid 1 (some .int)]
def wsX1_newDinner_r2 : List Cond := [Cond.fieldLink RX0 56 "PauseLedger$Dinner" "unsaidInPauses" "I", Cond.methodLink RX0 128 yX0_sumUnsaidByGuests, Cond.instanceMethod yX0_sumUnsaidByGuests, Cond.selects RX0 yX0_sumUnsaidByGuests yX0_sumUnsaidByGuests, Cond.code yX0_sumUnsaidByGuests cX0_sumUnsaidByGuests 3 (some .int), Cond.fieldLink RX0 21 "PauseLedger$Dinner" "unsaid" "[I", Cond.methodLink RX1 27 yX0_begin, Cond.instanceMethod yX0_begin, Cond.selects RX0 yX0_begin yX0_begin, Cond.code yX0_begin cX0_begin 2 none, Cond.fieldLink RX0 44 "PauseLedger$Dinner" "seconds" "I", Cond.fieldLink RX0 47 "PauseLedger$Dinner" "speaker" "I", Cond.fieldLink RX0 50 "PauseLedger$Dinner" "toSpeak" "I", Cond.fieldLink RX0 53 "PauseLedger$Dinner" "pause" "I", Cond.fieldLink RX0 59 "PauseLedger$Dinner" "meetings" "I", Cond.fieldLink RX0 62 "PauseLedger$Dinner" "lost" "I", Cond.fieldLink RX0 65 "PauseLedger$Dinner" "sent" "I", Cond.fieldLink RX0 9 "PauseLedger$Dinner" "spoken" "[I", Cond.fieldLink RX0 15 "PauseLedger$Dinner" "interruptions" "[I", Cond.fieldLink RX0 18 "PauseLedger$Dinner" "coughs" "[I", Cond.fieldLink RX0 24 "PauseLedger$Dinner" "toGo" "[I", Cond.fieldLink RX0 27 "PauseLedger$Dinner" "caught" "[I", Cond.methodLink RX0 68 yJ7_fill_53178, Cond.static yJ7_fill_53178]
def wsX1_newDinner_r3 : List Cond := [Cond.initialized RJ7, Cond.code yJ7_fill_53178 cJ7_fill_53178 4 none]
def wsX1_newDinner : List Cond := .code yX1_newDinner cX1_newDinner 3 (some .int) :: ((wsX1_newDinner_r1 ++ (wsX1_newDinner_r2 ++ wsX1_newDinner_r3)) ++ wsX10 ++ wsX00 ++ (vx_atS RX1 158 "java/lang/IllegalArgumentException" ["java/lang/RuntimeException", "java/lang/Exception"]).filter goodWord)
def wsX1_setLimit : List Cond := .code yX1_setLimit cX1_setLimit 3 (some .int) :: ([.fieldLink RX1 12 "PauseLedger" "dinner" "LPauseLedger$Dinner;", .fieldLink RX1 31 "PauseLedger$Dinner" "limit" "I", .methodLink RX1 19 yX1_requireWithin, .static yX1_requireWithin, .initialized RX1, .code yX1_requireWithin cX1_requireWithin 3 none, .classLink RX1 154 "java/lang/IllegalArgumentException", .initialized "java/lang/IllegalArgumentException"] ++ wsX10 ++ wsX00 ++ (vx_atS RX1 158 "java/lang/IllegalArgumentException" ["java/lang/RuntimeException", "java/lang/Exception"]).filter goodWord)
def wsX1_requireGuest : List Cond := .code yX1_requireGuest cX1_requireGuest 2 none :: ([.classLink RX1 147 "java/lang/IndexOutOfBoundsException", .initialized "java/lang/IndexOutOfBoundsException", .fieldLink RX1 12 "PauseLedger" "dinner" "LPauseLedger$Dinner;", .fieldLink RX1 58 "PauseLedger$Dinner" "guests" "I"] ++ wsX10 ++ wsX00 ++ (vx_atS RX1 151 "java/lang/IndexOutOfBoundsException" ["java/lang/RuntimeException", "java/lang/Exception"]).filter goodWord)
def wsX1_speak : List Cond := .code yX1_speak cX1_speak 3 (some .int) :: ([.fieldLink RX1 12 "PauseLedger" "dinner" "LPauseLedger$Dinner;", .methodLink RX1 35 yX1_requireGuest, .instanceMethod yX1_requireGuest, .selects RX1 yX1_requireGuest yX1_requireGuest, .initialized RX1, .code yX1_requireGuest cX1_requireGuest 2 none, .classLink RX1 147 "java/lang/IndexOutOfBoundsException", .initialized "java/lang/IndexOutOfBoundsException", .fieldLink RX1 58 "PauseLedger$Dinner" "guests" "I", .methodLink RX1 19 yX1_requireWithin, .static yX1_requireWithin, .code yX1_requireWithin cX1_requireWithin 3 none, .classLink RX1 154 "java/lang/IllegalArgumentException", .initialized "java/lang/IllegalArgumentException", .methodLink RX1 38 yX0_letSpeak, .instanceMethod yX0_letSpeak, .selects RX0 yX0_letSpeak yX0_letSpeak, .initialized RX0, .code yX0_letSpeak cX0_letSpeak 4 (some .int), .fieldLink RX0 47 "PauseLedger$Dinner" "speaker" "I", .fieldLink RX0 15 "PauseLedger$Dinner" "interruptions" "[I", .fieldLink RX0 50 "PauseLedger$Dinner" "toSpeak" "I"] ++ wsX10 ++ wsX00 ++ (vx_atS RX1 151 "java/lang/IndexOutOfBoundsException" ["java/lang/RuntimeException", "java/lang/Exception"]).filter goodWord ++ (vx_atS RX1 158 "java/lang/IllegalArgumentException" ["java/lang/RuntimeException", "java/lang/Exception"]).filter goodWord)
def wsX1_cough_r1 : List Cond := [Cond.fieldLink RX1 12 "PauseLedger" "dinner" "LPauseLedger$Dinner;", Cond.methodLink RX1 35 yX1_requireGuest, Cond.instanceMethod yX1_requireGuest, Cond.selects RX1 yX1_requireGuest yX1_requireGuest, Cond.initialized RX1, Cond.code yX1_requireGuest cX1_requireGuest 2 none, Cond.classLink RX1 147 "java/lang/IndexOutOfBoundsException", Cond.initialized "java/lang/IndexOutOfBoundsException", Cond.fieldLink RX1 58 "PauseLedger$Dinner" "guests" "I", Cond.methodLink RX1 19 yX1_requireWithin, Cond.static yX1_requireWithin, Cond.code yX1_requireWithin cX1_requireWithin 3 none, Cond.classLink RX1 154 "java/lang/IllegalArgumentException", Cond.initialized "java/lang/IllegalArgumentException", Cond.methodLink RX1 42 yX0_letCough, Cond.instanceMethod yX0_letCough, Cond.selects RX0 yX0_letCough yX0_letCough, Cond.initialized RX0, Cond.code yX0_letCough cX0_letCough 4 (some .int), Cond.fieldLink RX0 18 "PauseLedger$Dinner" "coughs" "[I", Cond.fieldLink RX0 21 "PauseLedger$Dinner" "unsaid" "[I", Cond.methodLink RX0 80 yX0_unsaidByCough, Cond.instanceMethod yX0_unsaidByCough, Cond.selects RX0 yX0_unsaidByCough yX0_unsaidByCough]
def wsX1_cough_r2 : List Cond := [Cond.code yX0_unsaidByCough cX0_unsaidByCough 3 (some .int), Cond.fieldLink RX0 47 "PauseLedger$Dinner" "speaker" "I"]
def wsX1_cough : List Cond := .code yX1_cough cX1_cough 3 (some .int) :: ((wsX1_cough_r1 ++ wsX1_cough_r2) ++ wsX10 ++ wsX00 ++ (vx_atS RX1 151 "java/lang/IndexOutOfBoundsException" ["java/lang/RuntimeException", "java/lang/Exception"]).filter goodWord ++ (vx_atS RX1 158 "java/lang/IllegalArgumentException" ["java/lang/RuntimeException", "java/lang/Exception"]).filter goodWord)
def wsX1_requireFreeWay : List Cond := .code yX1_requireFreeWay cX1_requireFreeWay 3 none :: ([.classLink RX1 154 "java/lang/IllegalArgumentException", .initialized "java/lang/IllegalArgumentException", .classLink RX1 161 "java/lang/IllegalStateException", .initialized "java/lang/IllegalStateException", .fieldLink RX1 12 "PauseLedger" "dinner" "LPauseLedger$Dinner;", .methodLink RX1 35 yX1_requireGuest, .instanceMethod yX1_requireGuest, .selects RX1 yX1_requireGuest yX1_requireGuest, .initialized RX1, .code yX1_requireGuest cX1_requireGuest 2 none, .classLink RX1 147 "java/lang/IndexOutOfBoundsException", .initialized "java/lang/IndexOutOfBoundsException", .fieldLink RX1 58 "PauseLedger$Dinner" "guests" "I", .methodLink RX1 89 yX1_pairOf, .static yX1_pairOf, .code yX1_pairOf cX1_pairOf 2 (some .int), .methodLink RX1 92 yX0_isOnItsWay, .instanceMethod yX0_isOnItsWay, .selects RX0 yX0_isOnItsWay yX0_isOnItsWay, .initialized RX0, .code yX0_isOnItsWay cX0_isOnItsWay 2 (some .boolean), .fieldLink RX0 24 "PauseLedger$Dinner" "toGo" "[I"] ++ wsX10 ++ wsX00 ++ (vx_atS RX1 158 "java/lang/IllegalArgumentException" ["java/lang/RuntimeException", "java/lang/Exception"]).filter goodWord ++ (vx_atS RX1 165 "java/lang/IllegalStateException" ["java/lang/RuntimeException", "java/lang/Exception"]).filter goodWord ++ (vx_atS RX1 151 "java/lang/IndexOutOfBoundsException" ["java/lang/RuntimeException", "java/lang/Exception"]).filter goodWord)
def wsX1_glance_r1 : List Cond := [Cond.fieldLink RX1 12 "PauseLedger" "dinner" "LPauseLedger$Dinner;", Cond.methodLink RX1 45 yX1_requireFreeWay, Cond.instanceMethod yX1_requireFreeWay, Cond.selects RX1 yX1_requireFreeWay yX1_requireFreeWay, Cond.initialized RX1, Cond.code yX1_requireFreeWay cX1_requireFreeWay 3 none, Cond.classLink RX1 154 "java/lang/IllegalArgumentException", Cond.initialized "java/lang/IllegalArgumentException", Cond.classLink RX1 161 "java/lang/IllegalStateException", Cond.initialized "java/lang/IllegalStateException", Cond.methodLink RX1 35 yX1_requireGuest, Cond.instanceMethod yX1_requireGuest, Cond.selects RX1 yX1_requireGuest yX1_requireGuest, Cond.code yX1_requireGuest cX1_requireGuest 2 none, Cond.classLink RX1 147 "java/lang/IndexOutOfBoundsException", Cond.initialized "java/lang/IndexOutOfBoundsException", Cond.fieldLink RX1 58 "PauseLedger$Dinner" "guests" "I", Cond.methodLink RX1 89 yX1_pairOf, Cond.static yX1_pairOf, Cond.code yX1_pairOf cX1_pairOf 2 (some .int), Cond.methodLink RX1 92 yX0_isOnItsWay, Cond.instanceMethod yX0_isOnItsWay, Cond.selects RX0 yX0_isOnItsWay yX0_isOnItsWay, Cond.initialized RX0]
def wsX1_glance_r2 : List Cond := [Cond.code yX0_isOnItsWay cX0_isOnItsWay 2 (some .boolean), Cond.fieldLink RX0 24 "PauseLedger$Dinner" "toGo" "[I", Cond.methodLink RX1 49 yX0_send, Cond.instanceMethod yX0_send, Cond.selects RX0 yX0_send yX0_send, Cond.code yX0_send cX0_send 4 (some .int), Cond.fieldLink RX0 65 "PauseLedger$Dinner" "sent" "I", Cond.fieldLink RX0 30 "PauseLedger$Dinner" "order" "[I", Cond.methodLink RX0 87 yX0_wayOf, Cond.instanceMethod yX0_wayOf, Cond.selects RX0 yX0_wayOf yX0_wayOf, Cond.code yX0_wayOf cX0_wayOf 3 (some .int), Cond.methodLink RX0 122 yX0_seatsBetween, Cond.instanceMethod yX0_seatsBetween, Cond.selects RX0 yX0_seatsBetween yX0_seatsBetween, Cond.code yX0_seatsBetween cX0_seatsBetween 4 (some .int), Cond.methodLink RX0 114 Lib.Math.abs.name, Cond.static Lib.Math.abs.name, Cond.initialized "java/lang/Math", Cond.code Lib.Math.abs.name Lib.Math.abs.code 1 (some .int), Cond.fieldLink RX0 41 "PauseLedger$Dinner" "guests" "I", Cond.methodLink RX0 119 Lib.Math.min.name, Cond.static Lib.Math.min.name, Cond.code Lib.Math.min.name Lib.Math.min.code 2 (some .int)]
def wsX1_glance : List Cond := .code yX1_glance cX1_glance 3 (some .int) :: ((wsX1_glance_r1 ++ wsX1_glance_r2) ++ wsX10 ++ wsX00 ++ (vx_atS RX1 158 "java/lang/IllegalArgumentException" ["java/lang/RuntimeException", "java/lang/Exception"]).filter goodWord ++ (vx_atS RX1 165 "java/lang/IllegalStateException" ["java/lang/RuntimeException", "java/lang/Exception"]).filter goodWord ++ (vx_atS RX1 151 "java/lang/IndexOutOfBoundsException" ["java/lang/RuntimeException", "java/lang/Exception"]).filter goodWord)
def wsX1_pass_r1 : List Cond := [Cond.fieldLink RX1 12 "PauseLedger" "dinner" "LPauseLedger$Dinner;", Cond.methodLink RX1 19 yX1_requireWithin, Cond.static yX1_requireWithin, Cond.initialized RX1, Cond.code yX1_requireWithin cX1_requireWithin 3 none, Cond.classLink RX1 154 "java/lang/IllegalArgumentException", Cond.initialized "java/lang/IllegalArgumentException", Cond.methodLink RX1 52 yX0_sumUnsaid, Cond.instanceMethod yX0_sumUnsaid, Cond.selects RX0 yX0_sumUnsaid yX0_sumUnsaid, Cond.initialized RX0, Cond.code yX0_sumUnsaid cX0_sumUnsaid 1 (some .int), Cond.fieldLink RX0 56 "PauseLedger$Dinner" "unsaidInPauses" "I", Cond.methodLink RX0 128 yX0_sumUnsaidByGuests, Cond.instanceMethod yX0_sumUnsaidByGuests, Cond.selects RX0 yX0_sumUnsaidByGuests yX0_sumUnsaidByGuests, Cond.code yX0_sumUnsaidByGuests cX0_sumUnsaidByGuests 3 (some .int), Cond.fieldLink RX0 41 "PauseLedger$Dinner" "guests" "I", Cond.fieldLink RX0 21 "PauseLedger$Dinner" "unsaid" "[I", Cond.methodLink RX1 55 yX0_goBy, Cond.instanceMethod yX0_goBy, Cond.selects RX0 yX0_goBy yX0_goBy, Cond.code yX0_goBy cX0_goBy 3 none, Cond.methodLink RX0 90 yX0_goOneSecond]
def wsX1_pass_r2 : List Cond := [Cond.instanceMethod yX0_goOneSecond, Cond.selects RX0 yX0_goOneSecond yX0_goOneSecond, Cond.code yX0_goOneSecond cX0_goOneSecond 1 none, Cond.fieldLink RX0 44 "PauseLedger$Dinner" "seconds" "I", Cond.methodLink RX0 93 yX0_speakOrPause, Cond.instanceMethod yX0_speakOrPause, Cond.selects RX0 yX0_speakOrPause yX0_speakOrPause, Cond.code yX0_speakOrPause cX0_speakOrPause 1 none, Cond.fieldLink RX0 47 "PauseLedger$Dinner" "speaker" "I", Cond.fieldLink RX0 53 "PauseLedger$Dinner" "pause" "I", Cond.fieldLink RX0 9 "PauseLedger$Dinner" "spoken" "[I", Cond.fieldLink RX0 50 "PauseLedger$Dinner" "toSpeak" "I", Cond.methodLink RX0 99 yX0_beyondMultipleOfLimit, Cond.instanceMethod yX0_beyondMultipleOfLimit, Cond.selects RX0 yX0_beyondMultipleOfLimit yX0_beyondMultipleOfLimit, Cond.code yX0_beyondMultipleOfLimit cX0_beyondMultipleOfLimit 2 (some .int), Cond.fieldLink RX0 33 "PauseLedger$Dinner" "limit" "I", Cond.methodLink RX0 96 yX0_moveGlances, Cond.instanceMethod yX0_moveGlances, Cond.selects RX0 yX0_moveGlances yX0_moveGlances, Cond.code yX0_moveGlances cX0_moveGlances 3 none, Cond.fieldLink RX0 65 "PauseLedger$Dinner" "sent" "I", Cond.fieldLink RX0 24 "PauseLedger$Dinner" "toGo" "[I", Cond.fieldLink RX0 30 "PauseLedger$Dinner" "order" "[I"]
def wsX1_pass_r3 : List Cond := [Cond.methodLink RX0 103 yX0_arrive, Cond.instanceMethod yX0_arrive, Cond.selects RX0 yX0_arrive yX0_arrive, Cond.code yX0_arrive cX0_arrive 5 none, Cond.fieldLink RX0 59 "PauseLedger$Dinner" "meetings" "I", Cond.fieldLink RX0 62 "PauseLedger$Dinner" "lost" "I", Cond.fieldLink RX0 27 "PauseLedger$Dinner" "caught" "[I", Cond.static yX1_pairOf, Cond.code yX1_pairOf cX1_pairOf 2 (some .int), Cond.methodLink RX0 110 yX0_isOnItsWay, Cond.instanceMethod yX0_isOnItsWay, Cond.selects RX0 yX0_isOnItsWay yX0_isOnItsWay, Cond.code yX0_isOnItsWay cX0_isOnItsWay 2 (some .boolean), Cond.methodLink RX0 107 yX0_forgetThoseOver, Cond.instanceMethod yX0_forgetThoseOver, Cond.selects RX0 yX0_forgetThoseOver yX0_forgetThoseOver, Cond.code yX0_forgetThoseOver cX0_forgetThoseOver 4 none]
def wsX1_pass : List Cond := .code yX1_pass cX1_pass 3 (some .int) :: ((wsX1_pass_r1 ++ (wsX1_pass_r2 ++ wsX1_pass_r3)) ++ wsX10 ++ wsX00 ++ (vx_atS RX1 158 "java/lang/IllegalArgumentException" ["java/lang/RuntimeException", "java/lang/Exception"]).filter goodWord)
def wsX1_guests : List Cond := .code yX1_guests cX1_guests 1 (some .int) :: ([.fieldLink RX1 12 "PauseLedger" "dinner" "LPauseLedger$Dinner;", .fieldLink RX1 58 "PauseLedger$Dinner" "guests" "I"] ++ wsX10 ++ wsX00)
def wsX1_seconds : List Cond := .code yX1_seconds cX1_seconds 1 (some .int) :: ([.fieldLink RX1 12 "PauseLedger" "dinner" "LPauseLedger$Dinner;", .fieldLink RX1 61 "PauseLedger$Dinner" "seconds" "I"] ++ wsX10 ++ wsX00)
def wsX1_limit : List Cond := .code yX1_limit cX1_limit 1 (some .int) :: ([.fieldLink RX1 12 "PauseLedger" "dinner" "LPauseLedger$Dinner;", .fieldLink RX1 31 "PauseLedger$Dinner" "limit" "I"] ++ wsX10 ++ wsX00)
def wsX1_seatsApart : List Cond := .code yX1_seatsApart cX1_seatsApart 3 (some .int) :: ([.fieldLink RX1 12 "PauseLedger" "dinner" "LPauseLedger$Dinner;", .methodLink RX1 35 yX1_requireGuest, .instanceMethod yX1_requireGuest, .selects RX1 yX1_requireGuest yX1_requireGuest, .initialized RX1, .code yX1_requireGuest cX1_requireGuest 2 none, .classLink RX1 147 "java/lang/IndexOutOfBoundsException", .initialized "java/lang/IndexOutOfBoundsException", .fieldLink RX1 58 "PauseLedger$Dinner" "guests" "I", .methodLink RX1 64 yX0_seatsBetween, .instanceMethod yX0_seatsBetween, .selects RX0 yX0_seatsBetween yX0_seatsBetween, .initialized RX0, .code yX0_seatsBetween cX0_seatsBetween 4 (some .int), .methodLink RX0 114 Lib.Math.abs.name, .static Lib.Math.abs.name, .initialized "java/lang/Math", .code Lib.Math.abs.name Lib.Math.abs.code 1 (some .int), .fieldLink RX0 41 "PauseLedger$Dinner" "guests" "I", .methodLink RX0 119 Lib.Math.min.name, .static Lib.Math.min.name, .code Lib.Math.min.name Lib.Math.min.code 2 (some .int)] ++ wsX10 ++ wsX00 ++ (vx_atS RX1 151 "java/lang/IndexOutOfBoundsException" ["java/lang/RuntimeException", "java/lang/Exception"]).filter goodWord)
def wsX1_speaker : List Cond := .code yX1_speaker cX1_speaker 1 (some .int) :: ([.fieldLink RX1 12 "PauseLedger" "dinner" "LPauseLedger$Dinner;", .fieldLink RX1 67 "PauseLedger$Dinner" "speaker" "I"] ++ wsX10 ++ wsX00)
def wsX1_secondsToSpeak : List Cond := .code yX1_secondsToSpeak cX1_secondsToSpeak 1 (some .int) :: ([.fieldLink RX1 12 "PauseLedger" "dinner" "LPauseLedger$Dinner;", .fieldLink RX1 70 "PauseLedger$Dinner" "toSpeak" "I"] ++ wsX10 ++ wsX00)
def wsX1_pause : List Cond := .code yX1_pause cX1_pause 1 (some .int) :: ([.fieldLink RX1 12 "PauseLedger" "dinner" "LPauseLedger$Dinner;", .fieldLink RX1 73 "PauseLedger$Dinner" "pause" "I"] ++ wsX10 ++ wsX00)
def wsX1_spokenBy : List Cond := .code yX1_spokenBy cX1_spokenBy 2 (some .int) :: ([.fieldLink RX1 12 "PauseLedger" "dinner" "LPauseLedger$Dinner;", .fieldLink RX1 76 "PauseLedger$Dinner" "spoken" "[I", .methodLink RX1 35 yX1_requireGuest, .instanceMethod yX1_requireGuest, .selects RX1 yX1_requireGuest yX1_requireGuest, .initialized RX1, .code yX1_requireGuest cX1_requireGuest 2 none, .classLink RX1 147 "java/lang/IndexOutOfBoundsException", .initialized "java/lang/IndexOutOfBoundsException", .fieldLink RX1 58 "PauseLedger$Dinner" "guests" "I"] ++ wsX10 ++ wsX00 ++ (vx_atS RX1 151 "java/lang/IndexOutOfBoundsException" ["java/lang/RuntimeException", "java/lang/Exception"]).filter goodWord)
def wsX1_interruptionsBy : List Cond := .code yX1_interruptionsBy cX1_interruptionsBy 2 (some .int) :: ([.fieldLink RX1 12 "PauseLedger" "dinner" "LPauseLedger$Dinner;", .fieldLink RX1 80 "PauseLedger$Dinner" "interruptions" "[I", .methodLink RX1 35 yX1_requireGuest, .instanceMethod yX1_requireGuest, .selects RX1 yX1_requireGuest yX1_requireGuest, .initialized RX1, .code yX1_requireGuest cX1_requireGuest 2 none, .classLink RX1 147 "java/lang/IndexOutOfBoundsException", .initialized "java/lang/IndexOutOfBoundsException", .fieldLink RX1 58 "PauseLedger$Dinner" "guests" "I"] ++ wsX10 ++ wsX00 ++ (vx_atS RX1 151 "java/lang/IndexOutOfBoundsException" ["java/lang/RuntimeException", "java/lang/Exception"]).filter goodWord)
def wsX1_coughsOf : List Cond := .code yX1_coughsOf cX1_coughsOf 2 (some .int) :: ([.fieldLink RX1 12 "PauseLedger" "dinner" "LPauseLedger$Dinner;", .fieldLink RX1 83 "PauseLedger$Dinner" "coughs" "[I", .methodLink RX1 35 yX1_requireGuest, .instanceMethod yX1_requireGuest, .selects RX1 yX1_requireGuest yX1_requireGuest, .initialized RX1, .code yX1_requireGuest cX1_requireGuest 2 none, .classLink RX1 147 "java/lang/IndexOutOfBoundsException", .initialized "java/lang/IndexOutOfBoundsException", .fieldLink RX1 58 "PauseLedger$Dinner" "guests" "I"] ++ wsX10 ++ wsX00 ++ (vx_atS RX1 151 "java/lang/IndexOutOfBoundsException" ["java/lang/RuntimeException", "java/lang/Exception"]).filter goodWord)
def wsX1_unsaidBy : List Cond := .code yX1_unsaidBy cX1_unsaidBy 2 (some .int) :: ([.fieldLink RX1 12 "PauseLedger" "dinner" "LPauseLedger$Dinner;", .fieldLink RX1 86 "PauseLedger$Dinner" "unsaid" "[I", .methodLink RX1 35 yX1_requireGuest, .instanceMethod yX1_requireGuest, .selects RX1 yX1_requireGuest yX1_requireGuest, .initialized RX1, .code yX1_requireGuest cX1_requireGuest 2 none, .classLink RX1 147 "java/lang/IndexOutOfBoundsException", .initialized "java/lang/IndexOutOfBoundsException", .fieldLink RX1 58 "PauseLedger$Dinner" "guests" "I"] ++ wsX10 ++ wsX00 ++ (vx_atS RX1 151 "java/lang/IndexOutOfBoundsException" ["java/lang/RuntimeException", "java/lang/Exception"]).filter goodWord)
def wsX1_isUnderWay : List Cond := .code yX1_isUnderWay cX1_isUnderWay 3 (some .boolean) :: ([.fieldLink RX1 12 "PauseLedger" "dinner" "LPauseLedger$Dinner;", .methodLink RX1 35 yX1_requireGuest, .instanceMethod yX1_requireGuest, .selects RX1 yX1_requireGuest yX1_requireGuest, .initialized RX1, .code yX1_requireGuest cX1_requireGuest 2 none, .classLink RX1 147 "java/lang/IndexOutOfBoundsException", .initialized "java/lang/IndexOutOfBoundsException", .fieldLink RX1 58 "PauseLedger$Dinner" "guests" "I", .methodLink RX1 89 yX1_pairOf, .static yX1_pairOf, .code yX1_pairOf cX1_pairOf 2 (some .int), .methodLink RX1 92 yX0_isOnItsWay, .instanceMethod yX0_isOnItsWay, .selects RX0 yX0_isOnItsWay yX0_isOnItsWay, .initialized RX0, .code yX0_isOnItsWay cX0_isOnItsWay 2 (some .boolean), .fieldLink RX0 24 "PauseLedger$Dinner" "toGo" "[I"] ++ wsX10 ++ wsX00 ++ (vx_atS RX1 151 "java/lang/IndexOutOfBoundsException" ["java/lang/RuntimeException", "java/lang/Exception"]).filter goodWord)
def wsX1_secondsToGo : List Cond := .code yX1_secondsToGo cX1_secondsToGo 3 (some .int) :: ([.fieldLink RX1 12 "PauseLedger" "dinner" "LPauseLedger$Dinner;", .methodLink RX1 35 yX1_requireGuest, .instanceMethod yX1_requireGuest, .selects RX1 yX1_requireGuest yX1_requireGuest, .initialized RX1, .code yX1_requireGuest cX1_requireGuest 2 none, .classLink RX1 147 "java/lang/IndexOutOfBoundsException", .initialized "java/lang/IndexOutOfBoundsException", .fieldLink RX1 58 "PauseLedger$Dinner" "guests" "I", .methodLink RX1 89 yX1_pairOf, .static yX1_pairOf, .code yX1_pairOf cX1_pairOf 2 (some .int), .methodLink RX1 96 yX0_timeToGo, .instanceMethod yX0_timeToGo, .selects RX0 yX0_timeToGo yX0_timeToGo, .initialized RX0, .code yX0_timeToGo cX0_timeToGo 2 (some .int), .fieldLink RX0 24 "PauseLedger$Dinner" "toGo" "[I", .methodLink RX0 110 yX0_isOnItsWay, .instanceMethod yX0_isOnItsWay, .selects RX0 yX0_isOnItsWay yX0_isOnItsWay, .code yX0_isOnItsWay cX0_isOnItsWay 2 (some .boolean)] ++ wsX10 ++ wsX00 ++ (vx_atS RX1 151 "java/lang/IndexOutOfBoundsException" ["java/lang/RuntimeException", "java/lang/Exception"]).filter goodWord)
def wsX1_caughtBy : List Cond := .code yX1_caughtBy cX1_caughtBy 3 (some .int) :: ([.fieldLink RX1 12 "PauseLedger" "dinner" "LPauseLedger$Dinner;", .fieldLink RX1 100 "PauseLedger$Dinner" "caught" "[I", .methodLink RX1 35 yX1_requireGuest, .instanceMethod yX1_requireGuest, .selects RX1 yX1_requireGuest yX1_requireGuest, .initialized RX1, .code yX1_requireGuest cX1_requireGuest 2 none, .classLink RX1 147 "java/lang/IndexOutOfBoundsException", .initialized "java/lang/IndexOutOfBoundsException", .fieldLink RX1 58 "PauseLedger$Dinner" "guests" "I", .methodLink RX1 89 yX1_pairOf, .static yX1_pairOf, .code yX1_pairOf cX1_pairOf 2 (some .int)] ++ wsX10 ++ wsX00 ++ (vx_atS RX1 151 "java/lang/IndexOutOfBoundsException" ["java/lang/RuntimeException", "java/lang/Exception"]).filter goodWord)
def wsX1_unsaidInPauses : List Cond := .code yX1_unsaidInPauses cX1_unsaidInPauses 1 (some .int) :: ([.fieldLink RX1 12 "PauseLedger" "dinner" "LPauseLedger$Dinner;", .fieldLink RX1 103 "PauseLedger$Dinner" "unsaidInPauses" "I"] ++ wsX10 ++ wsX00)
def wsX1_allUnsaid : List Cond := .code yX1_allUnsaid cX1_allUnsaid 1 (some .int) :: ([.fieldLink RX1 12 "PauseLedger" "dinner" "LPauseLedger$Dinner;", .methodLink RX1 52 yX0_sumUnsaid, .instanceMethod yX0_sumUnsaid, .selects RX0 yX0_sumUnsaid yX0_sumUnsaid, .initialized RX0, .code yX0_sumUnsaid cX0_sumUnsaid 1 (some .int), .fieldLink RX0 56 "PauseLedger$Dinner" "unsaidInPauses" "I", .methodLink RX0 128 yX0_sumUnsaidByGuests, .instanceMethod yX0_sumUnsaidByGuests, .selects RX0 yX0_sumUnsaidByGuests yX0_sumUnsaidByGuests, .code yX0_sumUnsaidByGuests cX0_sumUnsaidByGuests 3 (some .int), .fieldLink RX0 41 "PauseLedger$Dinner" "guests" "I", .fieldLink RX0 21 "PauseLedger$Dinner" "unsaid" "[I"] ++ wsX10 ++ wsX00)
def wsX1_glancesUnderWay : List Cond := .code yX1_glancesUnderWay cX1_glancesUnderWay 1 (some .int) :: ([.fieldLink RX1 12 "PauseLedger" "dinner" "LPauseLedger$Dinner;", .fieldLink RX1 106 "PauseLedger$Dinner" "sent" "I"] ++ wsX10 ++ wsX00)
def wsX1_meetings : List Cond := .code yX1_meetings cX1_meetings 1 (some .int) :: ([.fieldLink RX1 12 "PauseLedger" "dinner" "LPauseLedger$Dinner;", .fieldLink RX1 109 "PauseLedger$Dinner" "meetings" "I"] ++ wsX10 ++ wsX00)
def wsX1_lostGlances : List Cond := .code yX1_lostGlances cX1_lostGlances 1 (some .int) :: ([.fieldLink RX1 12 "PauseLedger" "dinner" "LPauseLedger$Dinner;", .fieldLink RX1 112 "PauseLedger$Dinner" "lost" "I"] ++ wsX10 ++ wsX00)
def wsX1_quietest : List Cond := .code yX1_quietest cX1_quietest 3 (some .int) :: ([.fieldLink RX1 12 "PauseLedger" "dinner" "LPauseLedger$Dinner;", .fieldLink RX1 58 "PauseLedger$Dinner" "guests" "I", .fieldLink RX1 86 "PauseLedger$Dinner" "unsaid" "[I"] ++ wsX10 ++ wsX00)
def wsX1_rating : List Cond := .code yX1_rating cX1_rating 1 (some .int) :: ([.fieldLink RX1 12 "PauseLedger" "dinner" "LPauseLedger$Dinner;", .methodLink RX1 23 yX0_rate, .instanceMethod yX0_rate, .selects RX0 yX0_rate yX0_rate, .initialized RX0, .code yX0_rate cX0_rate 2 (some .int), .fieldLink RX0 41 "PauseLedger$Dinner" "guests" "I", .methodLink RX0 114 Lib.Math.abs.name, .static Lib.Math.abs.name, .initialized "java/lang/Math", .code Lib.Math.abs.name Lib.Math.abs.code 1 (some .int), .methodLink RX0 135 Lib.Math.max.name, .static Lib.Math.max.name, .code Lib.Math.max.name Lib.Math.max.code 2 (some .int), .methodLink RX0 132 yX0_sumUnsaid, .instanceMethod yX0_sumUnsaid, .selects RX0 yX0_sumUnsaid yX0_sumUnsaid, .code yX0_sumUnsaid cX0_sumUnsaid 1 (some .int), .fieldLink RX0 56 "PauseLedger$Dinner" "unsaidInPauses" "I", .methodLink RX0 128 yX0_sumUnsaidByGuests, .instanceMethod yX0_sumUnsaidByGuests, .selects RX0 yX0_sumUnsaidByGuests yX0_sumUnsaidByGuests, .code yX0_sumUnsaidByGuests cX0_sumUnsaidByGuests 3 (some .int), .fieldLink RX0 21 "PauseLedger$Dinner" "unsaid" "[I"] ++ wsX10 ++ wsX00)
def wsX1_meanUnsaid : List Cond := .code yX1_meanUnsaid cX1_meanUnsaid 1 (some .double) :: ([.fieldLink RX1 12 "PauseLedger" "dinner" "LPauseLedger$Dinner;", .fieldLink RX1 58 "PauseLedger$Dinner" "guests" "I", .methodLink RX1 125 yX0_sumUnsaidByGuests, .instanceMethod yX0_sumUnsaidByGuests, .selects RX0 yX0_sumUnsaidByGuests yX0_sumUnsaidByGuests, .initialized RX0, .code yX0_sumUnsaidByGuests cX0_sumUnsaidByGuests 3 (some .int), .fieldLink RX0 41 "PauseLedger$Dinner" "guests" "I", .fieldLink RX0 21 "PauseLedger$Dinner" "unsaid" "[I"] ++ wsX10 ++ wsX00)
def wsX2_init : List Cond := .code yX2_init cX2_init 2 none :: ([.methodLink RX2 1 objectInit, .instanceMethod objectInit, .code objectInit ⟨#[0xb1]⟩ 1 none, .fieldLink RX2 7 "PauseLedgerLaw$Sim" "limit" "I", .fieldLink RX2 13 "PauseLedgerLaw$Sim" "speaker" "I", .classLink RX2 16 "[I", .fieldLink RX2 18 "PauseLedgerLaw$Sim" "glances" "[[I", .fieldLink RX2 22 "PauseLedgerLaw$Sim" "guests" "I", .arrayClass .int, .fieldLink RX2 25 "PauseLedgerLaw$Sim" "spoken" "[I", .fieldLink RX2 28 "PauseLedgerLaw$Sim" "cut" "[I", .fieldLink RX2 31 "PauseLedgerLaw$Sim" "coughs" "[I", .fieldLink RX2 34 "PauseLedgerLaw$Sim" "unsaid" "[I", .classLink RX2 37 "[[I", .fieldLink RX2 38 "PauseLedgerLaw$Sim" "caught" "[[I"] ++ wsX20)
def wsX2_apart : List Cond := .code yX2_apart cX2_apart 4 (some .int) :: ([.fieldLink RX2 22 "PauseLedgerLaw$Sim" "guests" "I"] ++ wsX20)
def wsX2_all : List Cond := .code yX2_all cX2_all 6 (some .int) :: ([.fieldLink RX2 53 "PauseLedgerLaw$Sim" "quiet" "I", .fieldLink RX2 34 "PauseLedgerLaw$Sim" "unsaid" "[I"] ++ wsX20)
def wsX2_rated : List Cond := .code yX2_rated cX2_rated 3 (some .int) :: ([.fieldLink RX2 22 "PauseLedgerLaw$Sim" "guests" "I", .methodLink RX2 66 yX2_all, .instanceMethod yX2_all, .selects RX2 yX2_all yX2_all, .initialized RX2, .code yX2_all cX2_all 6 (some .int), .fieldLink RX2 53 "PauseLedgerLaw$Sim" "quiet" "I", .fieldLink RX2 34 "PauseLedgerLaw$Sim" "unsaid" "[I"] ++ wsX20)
def wsX2_find : List Cond := .code yX2_find cX2_find 4 (some .int) :: ([.fieldLink RX2 18 "PauseLedgerLaw$Sim" "glances" "[[I"] ++ wsX20)
def wsX2_send : List Cond := .code yX2_send cX2_send 10 (some .int) :: ([.fieldLink RX2 18 "PauseLedgerLaw$Sim" "glances" "[[I", .classLink RX2 16 "[I", .arrayClass .int, .methodLink RX2 70 yX2_apart, .instanceMethod yX2_apart, .selects RX2 yX2_apart yX2_apart, .initialized RX2, .code yX2_apart cX2_apart 4 (some .int), .fieldLink RX2 22 "PauseLedgerLaw$Sim" "guests" "I"] ++ wsX20)
def wsX2_pass : List Cond := .code yX2_pass cX2_pass 9 (some .int) :: ([.fieldLink RX2 13 "PauseLedgerLaw$Sim" "speaker" "I", .fieldLink RX2 50 "PauseLedgerLaw$Sim" "pause" "I", .fieldLink RX2 7 "PauseLedgerLaw$Sim" "limit" "I", .fieldLink RX2 53 "PauseLedgerLaw$Sim" "quiet" "I", .fieldLink RX2 25 "PauseLedgerLaw$Sim" "spoken" "[I", .fieldLink RX2 47 "PauseLedgerLaw$Sim" "left" "I", .fieldLink RX2 18 "PauseLedgerLaw$Sim" "glances" "[[I", .fieldLink RX2 34 "PauseLedgerLaw$Sim" "unsaid" "[I", .fieldLink RX2 56 "PauseLedgerLaw$Sim" "met" "I", .fieldLink RX2 59 "PauseLedgerLaw$Sim" "lost" "I", .fieldLink RX2 38 "PauseLedgerLaw$Sim" "caught" "[[I", .fieldLink RX2 44 "PauseLedgerLaw$Sim" "second" "I", .methodLink RX2 74 yX2_find, .instanceMethod yX2_find, .selects RX2 yX2_find yX2_find, .initialized RX2, .code yX2_find cX2_find 4 (some .int)] ++ wsX20)
def wsX2_behind : List Cond := .code yX2_behind cX2_behind 3 (some (.object "PauseLedgerLaw$Sim")) :: ([.methodLink RX2 77 yX2_pass, .instanceMethod yX2_pass, .selects RX2 yX2_pass yX2_pass, .initialized RX2, .code yX2_pass cX2_pass 9 (some .int), .fieldLink RX2 13 "PauseLedgerLaw$Sim" "speaker" "I", .fieldLink RX2 50 "PauseLedgerLaw$Sim" "pause" "I", .fieldLink RX2 7 "PauseLedgerLaw$Sim" "limit" "I", .fieldLink RX2 53 "PauseLedgerLaw$Sim" "quiet" "I", .fieldLink RX2 25 "PauseLedgerLaw$Sim" "spoken" "[I", .fieldLink RX2 47 "PauseLedgerLaw$Sim" "left" "I", .fieldLink RX2 18 "PauseLedgerLaw$Sim" "glances" "[[I", .fieldLink RX2 34 "PauseLedgerLaw$Sim" "unsaid" "[I", .fieldLink RX2 56 "PauseLedgerLaw$Sim" "met" "I", .fieldLink RX2 59 "PauseLedgerLaw$Sim" "lost" "I", .fieldLink RX2 38 "PauseLedgerLaw$Sim" "caught" "[[I", .fieldLink RX2 44 "PauseLedgerLaw$Sim" "second" "I", .methodLink RX2 74 yX2_find, .instanceMethod yX2_find, .selects RX2 yX2_find yX2_find, .code yX2_find cX2_find 4 (some .int)] ++ wsX20)
def wsX2_isSame_r1 : List Cond := [Cond.fieldLink RX2 18 "PauseLedgerLaw$Sim" "glances" "[[I", Cond.fieldLink RX2 22 "PauseLedgerLaw$Sim" "guests" "I", Cond.fieldLink RX2 44 "PauseLedgerLaw$Sim" "second" "I", Cond.fieldLink RX2 7 "PauseLedgerLaw$Sim" "limit" "I", Cond.fieldLink RX2 13 "PauseLedgerLaw$Sim" "speaker" "I", Cond.fieldLink RX2 47 "PauseLedgerLaw$Sim" "left" "I", Cond.fieldLink RX2 50 "PauseLedgerLaw$Sim" "pause" "I", Cond.fieldLink RX2 53 "PauseLedgerLaw$Sim" "quiet" "I", Cond.fieldLink RX2 56 "PauseLedgerLaw$Sim" "met" "I", Cond.fieldLink RX2 59 "PauseLedgerLaw$Sim" "lost" "I", Cond.fieldLink RX2 25 "PauseLedgerLaw$Sim" "spoken" "[I", Cond.fieldLink RX2 28 "PauseLedgerLaw$Sim" "cut" "[I", Cond.fieldLink RX2 31 "PauseLedgerLaw$Sim" "coughs" "[I", Cond.fieldLink RX2 34 "PauseLedgerLaw$Sim" "unsaid" "[I", Cond.fieldLink RX2 38 "PauseLedgerLaw$Sim" "caught" "[[I", Cond.methodLink RX2 83 yX1_guests, Cond.instanceMethod yX1_guests, Cond.selects RX1 yX1_guests yX1_guests, Cond.initialized RX1, Cond.code yX1_guests cX1_guests 1 (some .int), Cond.fieldLink RX1 12 "PauseLedger" "dinner" "LPauseLedger$Dinner;", Cond.fieldLink RX1 58 "PauseLedger$Dinner" "guests" "I", Cond.methodLink RX2 87 yX1_seconds, Cond.instanceMethod yX1_seconds]
def wsX2_isSame_r2 : List Cond := [Cond.selects RX1 yX1_seconds yX1_seconds, Cond.code yX1_seconds cX1_seconds 1 (some .int), Cond.fieldLink RX1 61 "PauseLedger$Dinner" "seconds" "I", Cond.methodLink RX2 90 yX1_limit, Cond.instanceMethod yX1_limit, Cond.selects RX1 yX1_limit yX1_limit, Cond.code yX1_limit cX1_limit 1 (some .int), Cond.fieldLink RX1 31 "PauseLedger$Dinner" "limit" "I", Cond.methodLink RX2 92 yX1_speaker, Cond.instanceMethod yX1_speaker, Cond.selects RX1 yX1_speaker yX1_speaker, Cond.code yX1_speaker cX1_speaker 1 (some .int), Cond.fieldLink RX1 67 "PauseLedger$Dinner" "speaker" "I", Cond.methodLink RX2 94 yX1_secondsToSpeak, Cond.instanceMethod yX1_secondsToSpeak, Cond.selects RX1 yX1_secondsToSpeak yX1_secondsToSpeak, Cond.code yX1_secondsToSpeak cX1_secondsToSpeak 1 (some .int), Cond.fieldLink RX1 70 "PauseLedger$Dinner" "toSpeak" "I", Cond.methodLink RX2 97 yX1_pause, Cond.instanceMethod yX1_pause, Cond.selects RX1 yX1_pause yX1_pause, Cond.code yX1_pause cX1_pause 1 (some .int), Cond.fieldLink RX1 73 "PauseLedger$Dinner" "pause" "I", Cond.methodLink RX2 99 yX1_unsaidInPauses]
def wsX2_isSame_r3 : List Cond := [Cond.instanceMethod yX1_unsaidInPauses, Cond.selects RX1 yX1_unsaidInPauses yX1_unsaidInPauses, Cond.code yX1_unsaidInPauses cX1_unsaidInPauses 1 (some .int), Cond.fieldLink RX1 103 "PauseLedger$Dinner" "unsaidInPauses" "I", Cond.methodLink RX2 102 yX1_allUnsaid, Cond.instanceMethod yX1_allUnsaid, Cond.selects RX1 yX1_allUnsaid yX1_allUnsaid, Cond.code yX1_allUnsaid cX1_allUnsaid 1 (some .int), Cond.methodLink RX1 52 yX0_sumUnsaid, Cond.instanceMethod yX0_sumUnsaid, Cond.selects RX0 yX0_sumUnsaid yX0_sumUnsaid, Cond.initialized RX0, Cond.code yX0_sumUnsaid cX0_sumUnsaid 1 (some .int), Cond.fieldLink RX0 56 "PauseLedger$Dinner" "unsaidInPauses" "I", Cond.methodLink RX0 128 yX0_sumUnsaidByGuests, Cond.instanceMethod yX0_sumUnsaidByGuests, Cond.selects RX0 yX0_sumUnsaidByGuests yX0_sumUnsaidByGuests, Cond.code yX0_sumUnsaidByGuests cX0_sumUnsaidByGuests 3 (some .int), Cond.fieldLink RX0 41 "PauseLedger$Dinner" "guests" "I", Cond.fieldLink RX0 21 "PauseLedger$Dinner" "unsaid" "[I", Cond.methodLink RX2 66 yX2_all, Cond.instanceMethod yX2_all, Cond.selects RX2 yX2_all yX2_all, Cond.initialized RX2]
def wsX2_isSame_r4 : List Cond := [Cond.code yX2_all cX2_all 6 (some .int), Cond.methodLink RX2 105 yX1_glancesUnderWay, Cond.instanceMethod yX1_glancesUnderWay, Cond.selects RX1 yX1_glancesUnderWay yX1_glancesUnderWay, Cond.code yX1_glancesUnderWay cX1_glancesUnderWay 1 (some .int), Cond.fieldLink RX1 106 "PauseLedger$Dinner" "sent" "I", Cond.methodLink RX2 108 yX1_meetings, Cond.instanceMethod yX1_meetings, Cond.selects RX1 yX1_meetings yX1_meetings, Cond.code yX1_meetings cX1_meetings 1 (some .int), Cond.fieldLink RX1 109 "PauseLedger$Dinner" "meetings" "I", Cond.methodLink RX2 111 yX1_lostGlances, Cond.instanceMethod yX1_lostGlances, Cond.selects RX1 yX1_lostGlances yX1_lostGlances, Cond.code yX1_lostGlances cX1_lostGlances 1 (some .int), Cond.fieldLink RX1 112 "PauseLedger$Dinner" "lost" "I", Cond.methodLink RX2 114 yX1_rating, Cond.instanceMethod yX1_rating, Cond.selects RX1 yX1_rating yX1_rating, Cond.code yX1_rating cX1_rating 1 (some .int), Cond.methodLink RX1 23 yX0_rate, Cond.instanceMethod yX0_rate, Cond.selects RX0 yX0_rate yX0_rate, Cond.code yX0_rate cX0_rate 2 (some .int)]
def wsX2_isSame_r5 : List Cond := [Cond.methodLink RX0 114 Lib.Math.abs.name, Cond.static Lib.Math.abs.name, Cond.initialized "java/lang/Math", Cond.code Lib.Math.abs.name Lib.Math.abs.code 1 (some .int), Cond.methodLink RX0 135 Lib.Math.max.name, Cond.static Lib.Math.max.name, Cond.code Lib.Math.max.name Lib.Math.max.code 2 (some .int), Cond.methodLink RX0 132 yX0_sumUnsaid, Cond.methodLink RX2 117 yX2_rated, Cond.instanceMethod yX2_rated, Cond.selects RX2 yX2_rated yX2_rated, Cond.code yX2_rated cX2_rated 3 (some .int), Cond.methodLink RX2 120 yX1_spokenBy, Cond.instanceMethod yX1_spokenBy, Cond.selects RX1 yX1_spokenBy yX1_spokenBy, Cond.code yX1_spokenBy cX1_spokenBy 2 (some .int), Cond.fieldLink RX1 76 "PauseLedger$Dinner" "spoken" "[I", Cond.methodLink RX1 35 yX1_requireGuest, Cond.instanceMethod yX1_requireGuest, Cond.selects RX1 yX1_requireGuest yX1_requireGuest, Cond.code yX1_requireGuest cX1_requireGuest 2 none, Cond.classLink RX1 147 "java/lang/IndexOutOfBoundsException", Cond.initialized "java/lang/IndexOutOfBoundsException", Cond.methodLink RX2 124 yX1_interruptionsBy]
def wsX2_isSame_r6 : List Cond := [Cond.instanceMethod yX1_interruptionsBy, Cond.selects RX1 yX1_interruptionsBy yX1_interruptionsBy, Cond.code yX1_interruptionsBy cX1_interruptionsBy 2 (some .int), Cond.fieldLink RX1 80 "PauseLedger$Dinner" "interruptions" "[I", Cond.methodLink RX2 127 yX1_coughsOf, Cond.instanceMethod yX1_coughsOf, Cond.selects RX1 yX1_coughsOf yX1_coughsOf, Cond.code yX1_coughsOf cX1_coughsOf 2 (some .int), Cond.fieldLink RX1 83 "PauseLedger$Dinner" "coughs" "[I", Cond.methodLink RX2 130 yX1_unsaidBy, Cond.instanceMethod yX1_unsaidBy, Cond.selects RX1 yX1_unsaidBy yX1_unsaidBy, Cond.code yX1_unsaidBy cX1_unsaidBy 2 (some .int), Cond.fieldLink RX1 86 "PauseLedger$Dinner" "unsaid" "[I", Cond.methodLink RX2 74 yX2_find, Cond.instanceMethod yX2_find, Cond.selects RX2 yX2_find yX2_find, Cond.code yX2_find cX2_find 4 (some .int), Cond.methodLink RX2 133 yX1_isUnderWay, Cond.instanceMethod yX1_isUnderWay, Cond.selects RX1 yX1_isUnderWay yX1_isUnderWay, Cond.code yX1_isUnderWay cX1_isUnderWay 3 (some .boolean), Cond.methodLink RX1 89 yX1_pairOf, Cond.static yX1_pairOf]
def wsX2_isSame_r7 : List Cond := [Cond.code yX1_pairOf cX1_pairOf 2 (some .int), Cond.methodLink RX1 92 yX0_isOnItsWay, Cond.instanceMethod yX0_isOnItsWay, Cond.selects RX0 yX0_isOnItsWay yX0_isOnItsWay, Cond.code yX0_isOnItsWay cX0_isOnItsWay 2 (some .boolean), Cond.fieldLink RX0 24 "PauseLedger$Dinner" "toGo" "[I", Cond.methodLink RX2 137 yX1_secondsToGo, Cond.instanceMethod yX1_secondsToGo, Cond.selects RX1 yX1_secondsToGo yX1_secondsToGo, Cond.code yX1_secondsToGo cX1_secondsToGo 3 (some .int), Cond.methodLink RX1 96 yX0_timeToGo, Cond.instanceMethod yX0_timeToGo, Cond.selects RX0 yX0_timeToGo yX0_timeToGo, Cond.code yX0_timeToGo cX0_timeToGo 2 (some .int), Cond.methodLink RX0 110 yX0_isOnItsWay, Cond.methodLink RX2 140 yX1_caughtBy, Cond.instanceMethod yX1_caughtBy, Cond.selects RX1 yX1_caughtBy yX1_caughtBy, Cond.code yX1_caughtBy cX1_caughtBy 3 (some .int), Cond.fieldLink RX1 100 "PauseLedger$Dinner" "caught" "[I", Cond.methodLink RX2 143 yX1_quietest, Cond.instanceMethod yX1_quietest, Cond.selects RX1 yX1_quietest yX1_quietest, Cond.code yX1_quietest cX1_quietest 3 (some .int)]
def wsX2_isSame_r8 : List Cond := [Cond.methodLink RX2 146 yX1_meanUnsaid, Cond.instanceMethod yX1_meanUnsaid, Cond.selects RX1 yX1_meanUnsaid yX1_meanUnsaid, Cond.code yX1_meanUnsaid cX1_meanUnsaid 1 (some .double), Cond.methodLink RX1 125 yX0_sumUnsaidByGuests]
def wsX2_isSame : List Cond := .code yX2_isSame cX2_isSame 7 (some .boolean) :: ((wsX2_isSame_r1 ++ (wsX2_isSame_r2 ++ (wsX2_isSame_r3 ++ (wsX2_isSame_r4 ++ (wsX2_isSame_r5 ++ (wsX2_isSame_r6 ++ (wsX2_isSame_r7 ++ wsX2_isSame_r8))))))) ++ wsX20 ++ wsX10 ++ wsX00 ++ (vx_atS RX1 151 "java/lang/IndexOutOfBoundsException" ["java/lang/RuntimeException", "java/lang/Exception"]).filter goodWord)
def wsJ9_abs_0f7a4 : List Cond := .code yJ9_abs_0f7a4 cJ9_abs_0f7a4 1 (some .int) :: ([])
def wsJ9_max_7cf53 : List Cond := .code yJ9_max_7cf53 cJ9_max_7cf53 2 (some .int) :: ([])
def wsJ9_min_7cf53 : List Cond := .code yJ9_min_7cf53 cJ9_min_7cf53 2 (some .int) :: ([])
def wsL_below : List Cond := .code yL_below cL_below 2 (some .int) :: ([.constant RL 7 (2147483647)])
def wsL_cell : List Cond := .code yL_cell cL_cell 2 (some .int) :: ([.constant RL 8 (790386105)])
def wsL_act_r1 : List Cond := [Cond.fieldLink RL 9 "PauseLedgerLaw$Sim" "guests" "I", Cond.classLink RL 10 RX2, Cond.instantiable RX2 15, Cond.initialized RX2, Cond.fieldLink RL 24 "PauseLedgerLaw$Sim" "limit" "I", Cond.fieldLink RL 40 "PauseLedgerLaw$Sim" "speaker" "I", Cond.fieldLink RL 43 "PauseLedgerLaw$Sim" "cut" "[I", Cond.fieldLink RL 47 "PauseLedgerLaw$Sim" "left" "I", Cond.fieldLink RL 53 "PauseLedgerLaw$Sim" "coughs" "[I", Cond.fieldLink RL 56 "PauseLedgerLaw$Sim" "unsaid" "[I", Cond.methodLink RL 15 yL_below, Cond.static yL_below, Cond.initialized RL, Cond.code yL_below cL_below 2 (some .int), Cond.constant RL 7 (2147483647), Cond.methodLink RL 21 yX2_init, Cond.instanceMethod yX2_init, Cond.code yX2_init cX2_init 2 none, Cond.methodLink RX2 1 objectInit, Cond.instanceMethod objectInit, Cond.code objectInit ⟨#[0xb1]⟩ 1 none, Cond.fieldLink RX2 7 "PauseLedgerLaw$Sim" "limit" "I", Cond.fieldLink RX2 13 "PauseLedgerLaw$Sim" "speaker" "I", Cond.classLink RX2 16 "[I"]
def wsL_act_r2 : List Cond := [Cond.fieldLink RX2 18 "PauseLedgerLaw$Sim" "glances" "[[I", Cond.fieldLink RX2 22 "PauseLedgerLaw$Sim" "guests" "I", Cond.arrayClass .int, Cond.fieldLink RX2 25 "PauseLedgerLaw$Sim" "spoken" "[I", Cond.fieldLink RX2 28 "PauseLedgerLaw$Sim" "cut" "[I", Cond.fieldLink RX2 31 "PauseLedgerLaw$Sim" "coughs" "[I", Cond.fieldLink RX2 34 "PauseLedgerLaw$Sim" "unsaid" "[I", Cond.classLink RX2 37 "[[I", Cond.fieldLink RX2 38 "PauseLedgerLaw$Sim" "caught" "[[I", Cond.methodLink RL 27 yX1_newDinner, Cond.instanceMethod yX1_newDinner, Cond.selects RX1 yX1_newDinner yX1_newDinner, Cond.initialized RX1, Cond.code yX1_newDinner cX1_newDinner 3 (some .int), Cond.fieldLink RX1 12 "PauseLedger" "dinner" "LPauseLedger$Dinner;", Cond.methodLink RX1 19 yX1_requireWithin, Cond.static yX1_requireWithin, Cond.code yX1_requireWithin cX1_requireWithin 3 none, Cond.classLink RX1 154 "java/lang/IllegalArgumentException", Cond.initialized "java/lang/IllegalArgumentException", Cond.methodLink RX1 23 yX0_rate, Cond.instanceMethod yX0_rate, Cond.selects RX0 yX0_rate yX0_rate, Cond.initialized RX0]
def wsL_act_r3 : List Cond := [Cond.code yX0_rate cX0_rate 2 (some .int), Cond.fieldLink RX0 41 "PauseLedger$Dinner" "guests" "I", Cond.methodLink RX0 114 Lib.Math.abs.name, Cond.static Lib.Math.abs.name, Cond.initialized "java/lang/Math", Cond.code Lib.Math.abs.name Lib.Math.abs.code 1 (some .int), Cond.methodLink RX0 135 Lib.Math.max.name, Cond.static Lib.Math.max.name, Cond.code Lib.Math.max.name Lib.Math.max.code 2 (some .int), Cond.methodLink RX0 132 yX0_sumUnsaid, Cond.instanceMethod yX0_sumUnsaid, Cond.selects RX0 yX0_sumUnsaid yX0_sumUnsaid, Cond.code yX0_sumUnsaid cX0_sumUnsaid 1 (some .int), Cond.fieldLink RX0 56 "PauseLedger$Dinner" "unsaidInPauses" "I", Cond.methodLink RX0 128 yX0_sumUnsaidByGuests, Cond.instanceMethod yX0_sumUnsaidByGuests, Cond.selects RX0 yX0_sumUnsaidByGuests yX0_sumUnsaidByGuests, Cond.code yX0_sumUnsaidByGuests cX0_sumUnsaidByGuests 3 (some .int), Cond.fieldLink RX0 21 "PauseLedger$Dinner" "unsaid" "[I", Cond.methodLink RX1 27 yX0_begin, Cond.instanceMethod yX0_begin, Cond.selects RX0 yX0_begin yX0_begin, Cond.code yX0_begin cX0_begin 2 none, Cond.fieldLink RX0 44 "PauseLedger$Dinner" "seconds" "I"]
def wsL_act_r4 : List Cond := [Cond.fieldLink RX0 47 "PauseLedger$Dinner" "speaker" "I", Cond.fieldLink RX0 50 "PauseLedger$Dinner" "toSpeak" "I", Cond.fieldLink RX0 53 "PauseLedger$Dinner" "pause" "I", Cond.fieldLink RX0 59 "PauseLedger$Dinner" "meetings" "I", Cond.fieldLink RX0 62 "PauseLedger$Dinner" "lost" "I", Cond.fieldLink RX0 65 "PauseLedger$Dinner" "sent" "I", Cond.fieldLink RX0 9 "PauseLedger$Dinner" "spoken" "[I", Cond.fieldLink RX0 15 "PauseLedger$Dinner" "interruptions" "[I", Cond.fieldLink RX0 18 "PauseLedger$Dinner" "coughs" "[I", Cond.fieldLink RX0 24 "PauseLedger$Dinner" "toGo" "[I", Cond.fieldLink RX0 27 "PauseLedger$Dinner" "caught" "[I", Cond.methodLink RX0 68 yJ7_fill_53178, Cond.static yJ7_fill_53178, Cond.initialized RJ7, Cond.code yJ7_fill_53178 cJ7_fill_53178 4 none, Cond.methodLink RL 33 yX2_rated, Cond.instanceMethod yX2_rated, Cond.selects RX2 yX2_rated yX2_rated, Cond.code yX2_rated cX2_rated 3 (some .int), Cond.methodLink RX2 66 yX2_all, Cond.instanceMethod yX2_all, Cond.selects RX2 yX2_all yX2_all, Cond.code yX2_all cX2_all 6 (some .int), Cond.fieldLink RX2 53 "PauseLedgerLaw$Sim" "quiet" "I"]
def wsL_act_r5 : List Cond := [Cond.methodLink RL 37 yX1_setLimit, Cond.instanceMethod yX1_setLimit, Cond.selects RX1 yX1_setLimit yX1_setLimit, Cond.code yX1_setLimit cX1_setLimit 3 (some .int), Cond.fieldLink RX1 31 "PauseLedger$Dinner" "limit" "I", Cond.methodLink RL 50 yX1_speak, Cond.instanceMethod yX1_speak, Cond.selects RX1 yX1_speak yX1_speak, Cond.code yX1_speak cX1_speak 3 (some .int), Cond.methodLink RX1 35 yX1_requireGuest, Cond.instanceMethod yX1_requireGuest, Cond.selects RX1 yX1_requireGuest yX1_requireGuest, Cond.code yX1_requireGuest cX1_requireGuest 2 none, Cond.classLink RX1 147 "java/lang/IndexOutOfBoundsException", Cond.initialized "java/lang/IndexOutOfBoundsException", Cond.fieldLink RX1 58 "PauseLedger$Dinner" "guests" "I", Cond.methodLink RX1 38 yX0_letSpeak, Cond.instanceMethod yX0_letSpeak, Cond.selects RX0 yX0_letSpeak yX0_letSpeak, Cond.code yX0_letSpeak cX0_letSpeak 4 (some .int), Cond.methodLink RL 59 yX1_cough, Cond.instanceMethod yX1_cough, Cond.selects RX1 yX1_cough yX1_cough, Cond.code yX1_cough cX1_cough 3 (some .int)]
def wsL_act_r6 : List Cond := [Cond.methodLink RX1 42 yX0_letCough, Cond.instanceMethod yX0_letCough, Cond.selects RX0 yX0_letCough yX0_letCough, Cond.code yX0_letCough cX0_letCough 4 (some .int), Cond.methodLink RX0 80 yX0_unsaidByCough, Cond.instanceMethod yX0_unsaidByCough, Cond.selects RX0 yX0_unsaidByCough yX0_unsaidByCough, Cond.code yX0_unsaidByCough cX0_unsaidByCough 3 (some .int), Cond.methodLink RL 62 yX2_find, Cond.instanceMethod yX2_find, Cond.selects RX2 yX2_find yX2_find, Cond.code yX2_find cX2_find 4 (some .int), Cond.methodLink RL 65 yX1_glance, Cond.instanceMethod yX1_glance, Cond.selects RX1 yX1_glance yX1_glance, Cond.code yX1_glance cX1_glance 3 (some .int), Cond.methodLink RX1 45 yX1_requireFreeWay, Cond.instanceMethod yX1_requireFreeWay, Cond.selects RX1 yX1_requireFreeWay yX1_requireFreeWay, Cond.code yX1_requireFreeWay cX1_requireFreeWay 3 none, Cond.classLink RX1 161 "java/lang/IllegalStateException", Cond.initialized "java/lang/IllegalStateException", Cond.methodLink RX1 89 yX1_pairOf, Cond.static yX1_pairOf]
def wsL_act_r7 : List Cond := [Cond.code yX1_pairOf cX1_pairOf 2 (some .int), Cond.methodLink RX1 92 yX0_isOnItsWay, Cond.instanceMethod yX0_isOnItsWay, Cond.selects RX0 yX0_isOnItsWay yX0_isOnItsWay, Cond.code yX0_isOnItsWay cX0_isOnItsWay 2 (some .boolean), Cond.methodLink RX1 49 yX0_send, Cond.instanceMethod yX0_send, Cond.selects RX0 yX0_send yX0_send, Cond.code yX0_send cX0_send 4 (some .int), Cond.fieldLink RX0 30 "PauseLedger$Dinner" "order" "[I", Cond.methodLink RX0 87 yX0_wayOf, Cond.instanceMethod yX0_wayOf, Cond.selects RX0 yX0_wayOf yX0_wayOf, Cond.code yX0_wayOf cX0_wayOf 3 (some .int), Cond.methodLink RX0 122 yX0_seatsBetween, Cond.instanceMethod yX0_seatsBetween, Cond.selects RX0 yX0_seatsBetween yX0_seatsBetween, Cond.code yX0_seatsBetween cX0_seatsBetween 4 (some .int), Cond.methodLink RX0 119 Lib.Math.min.name, Cond.static Lib.Math.min.name, Cond.code Lib.Math.min.name Lib.Math.min.code 2 (some .int), Cond.methodLink RL 68 yX2_send, Cond.instanceMethod yX2_send, Cond.selects RX2 yX2_send yX2_send]
def wsL_act_r8 : List Cond := [Cond.code yX2_send cX2_send 10 (some .int), Cond.methodLink RX2 70 yX2_apart, Cond.instanceMethod yX2_apart, Cond.selects RX2 yX2_apart yX2_apart, Cond.code yX2_apart cX2_apart 4 (some .int), Cond.methodLink RL 71 yX2_all, Cond.methodLink RL 74 yX1_pass, Cond.instanceMethod yX1_pass, Cond.selects RX1 yX1_pass yX1_pass, Cond.code yX1_pass cX1_pass 3 (some .int), Cond.methodLink RX1 52 yX0_sumUnsaid, Cond.methodLink RX1 55 yX0_goBy, Cond.instanceMethod yX0_goBy, Cond.selects RX0 yX0_goBy yX0_goBy, Cond.code yX0_goBy cX0_goBy 3 none, Cond.methodLink RX0 90 yX0_goOneSecond, Cond.instanceMethod yX0_goOneSecond, Cond.selects RX0 yX0_goOneSecond yX0_goOneSecond, Cond.code yX0_goOneSecond cX0_goOneSecond 1 none, Cond.methodLink RX0 93 yX0_speakOrPause, Cond.instanceMethod yX0_speakOrPause, Cond.selects RX0 yX0_speakOrPause yX0_speakOrPause, Cond.code yX0_speakOrPause cX0_speakOrPause 1 none, Cond.methodLink RX0 99 yX0_beyondMultipleOfLimit]
def wsL_act_r9 : List Cond := [Cond.instanceMethod yX0_beyondMultipleOfLimit, Cond.selects RX0 yX0_beyondMultipleOfLimit yX0_beyondMultipleOfLimit, Cond.code yX0_beyondMultipleOfLimit cX0_beyondMultipleOfLimit 2 (some .int), Cond.fieldLink RX0 33 "PauseLedger$Dinner" "limit" "I", Cond.methodLink RX0 96 yX0_moveGlances, Cond.instanceMethod yX0_moveGlances, Cond.selects RX0 yX0_moveGlances yX0_moveGlances, Cond.code yX0_moveGlances cX0_moveGlances 3 none, Cond.methodLink RX0 103 yX0_arrive, Cond.instanceMethod yX0_arrive, Cond.selects RX0 yX0_arrive yX0_arrive, Cond.code yX0_arrive cX0_arrive 5 none, Cond.methodLink RX0 110 yX0_isOnItsWay, Cond.methodLink RX0 107 yX0_forgetThoseOver, Cond.instanceMethod yX0_forgetThoseOver, Cond.selects RX0 yX0_forgetThoseOver yX0_forgetThoseOver, Cond.code yX0_forgetThoseOver cX0_forgetThoseOver 4 none, Cond.methodLink RL 77 yX2_behind, Cond.instanceMethod yX2_behind, Cond.selects RX2 yX2_behind yX2_behind, Cond.code yX2_behind cX2_behind 3 (some (.object "PauseLedgerLaw$Sim")), Cond.methodLink RX2 77 yX2_pass, Cond.instanceMethod yX2_pass, Cond.selects RX2 yX2_pass yX2_pass]
def wsL_act_r10 : List Cond := [Cond.code yX2_pass cX2_pass 9 (some .int), Cond.fieldLink RX2 50 "PauseLedgerLaw$Sim" "pause" "I", Cond.fieldLink RX2 47 "PauseLedgerLaw$Sim" "left" "I", Cond.fieldLink RX2 56 "PauseLedgerLaw$Sim" "met" "I", Cond.fieldLink RX2 59 "PauseLedgerLaw$Sim" "lost" "I", Cond.fieldLink RX2 44 "PauseLedgerLaw$Sim" "second" "I", Cond.methodLink RX2 74 yX2_find]
def wsL_act : List Cond := .code yL_act cL_act 13 (some (.object "PauseLedgerLaw$Sim")) :: ((wsL_act_r1 ++ (wsL_act_r2 ++ (wsL_act_r3 ++ (wsL_act_r4 ++ (wsL_act_r5 ++ (wsL_act_r6 ++ (wsL_act_r7 ++ (wsL_act_r8 ++ (wsL_act_r9 ++ wsL_act_r10))))))))) ++ wsX20 ++ wsX10 ++ wsX00 ++ (vx_atS RX1 158 "java/lang/IllegalArgumentException" ["java/lang/RuntimeException", "java/lang/Exception"]).filter goodWord ++ (vx_atS RX1 151 "java/lang/IndexOutOfBoundsException" ["java/lang/RuntimeException", "java/lang/Exception"]).filter goodWord ++ (vx_atS RX1 165 "java/lang/IllegalStateException" ["java/lang/RuntimeException", "java/lang/Exception"]).filter goodWord)
def wsL_build_r1 : List Cond := [Cond.classLink RL 10 RX2, Cond.instantiable RX2 15, Cond.initialized RX2, Cond.fieldLink RL 9 "PauseLedgerLaw$Sim" "guests" "I", Cond.methodLink RL 81 yL_cell, Cond.static yL_cell, Cond.initialized RL, Cond.code yL_cell cL_cell 2 (some .int), Cond.constant RL 8 (790386105), Cond.methodLink RL 15 yL_below, Cond.static yL_below, Cond.code yL_below cL_below 2 (some .int), Cond.constant RL 7 (2147483647), Cond.methodLink RL 21 yX2_init, Cond.instanceMethod yX2_init, Cond.code yX2_init cX2_init 2 none, Cond.methodLink RX2 1 objectInit, Cond.instanceMethod objectInit, Cond.code objectInit ⟨#[0xb1]⟩ 1 none, Cond.fieldLink RX2 7 "PauseLedgerLaw$Sim" "limit" "I", Cond.fieldLink RX2 13 "PauseLedgerLaw$Sim" "speaker" "I", Cond.classLink RX2 16 "[I", Cond.fieldLink RX2 18 "PauseLedgerLaw$Sim" "glances" "[[I", Cond.fieldLink RX2 22 "PauseLedgerLaw$Sim" "guests" "I"]
def wsL_build_r2 : List Cond := [Cond.arrayClass .int, Cond.fieldLink RX2 25 "PauseLedgerLaw$Sim" "spoken" "[I", Cond.fieldLink RX2 28 "PauseLedgerLaw$Sim" "cut" "[I", Cond.fieldLink RX2 31 "PauseLedgerLaw$Sim" "coughs" "[I", Cond.fieldLink RX2 34 "PauseLedgerLaw$Sim" "unsaid" "[I", Cond.classLink RX2 37 "[[I", Cond.fieldLink RX2 38 "PauseLedgerLaw$Sim" "caught" "[[I", Cond.methodLink RL 27 yX1_newDinner, Cond.instanceMethod yX1_newDinner, Cond.selects RX1 yX1_newDinner yX1_newDinner, Cond.initialized RX1, Cond.code yX1_newDinner cX1_newDinner 3 (some .int), Cond.fieldLink RX1 12 "PauseLedger" "dinner" "LPauseLedger$Dinner;", Cond.methodLink RX1 19 yX1_requireWithin, Cond.static yX1_requireWithin, Cond.code yX1_requireWithin cX1_requireWithin 3 none, Cond.classLink RX1 154 "java/lang/IllegalArgumentException", Cond.initialized "java/lang/IllegalArgumentException", Cond.methodLink RX1 23 yX0_rate, Cond.instanceMethod yX0_rate, Cond.selects RX0 yX0_rate yX0_rate, Cond.initialized RX0, Cond.code yX0_rate cX0_rate 2 (some .int), Cond.fieldLink RX0 41 "PauseLedger$Dinner" "guests" "I"]
def wsL_build_r3 : List Cond := [Cond.methodLink RX0 114 Lib.Math.abs.name, Cond.static Lib.Math.abs.name, Cond.initialized "java/lang/Math", Cond.code Lib.Math.abs.name Lib.Math.abs.code 1 (some .int), Cond.methodLink RX0 135 Lib.Math.max.name, Cond.static Lib.Math.max.name, Cond.code Lib.Math.max.name Lib.Math.max.code 2 (some .int), Cond.methodLink RX0 132 yX0_sumUnsaid, Cond.instanceMethod yX0_sumUnsaid, Cond.selects RX0 yX0_sumUnsaid yX0_sumUnsaid, Cond.code yX0_sumUnsaid cX0_sumUnsaid 1 (some .int), Cond.fieldLink RX0 56 "PauseLedger$Dinner" "unsaidInPauses" "I", Cond.methodLink RX0 128 yX0_sumUnsaidByGuests, Cond.instanceMethod yX0_sumUnsaidByGuests, Cond.selects RX0 yX0_sumUnsaidByGuests yX0_sumUnsaidByGuests, Cond.code yX0_sumUnsaidByGuests cX0_sumUnsaidByGuests 3 (some .int), Cond.fieldLink RX0 21 "PauseLedger$Dinner" "unsaid" "[I", Cond.methodLink RX1 27 yX0_begin, Cond.instanceMethod yX0_begin, Cond.selects RX0 yX0_begin yX0_begin, Cond.code yX0_begin cX0_begin 2 none, Cond.fieldLink RX0 44 "PauseLedger$Dinner" "seconds" "I", Cond.fieldLink RX0 47 "PauseLedger$Dinner" "speaker" "I", Cond.fieldLink RX0 50 "PauseLedger$Dinner" "toSpeak" "I"]
def wsL_build_r4 : List Cond := [Cond.fieldLink RX0 53 "PauseLedger$Dinner" "pause" "I", Cond.fieldLink RX0 59 "PauseLedger$Dinner" "meetings" "I", Cond.fieldLink RX0 62 "PauseLedger$Dinner" "lost" "I", Cond.fieldLink RX0 65 "PauseLedger$Dinner" "sent" "I", Cond.fieldLink RX0 9 "PauseLedger$Dinner" "spoken" "[I", Cond.fieldLink RX0 15 "PauseLedger$Dinner" "interruptions" "[I", Cond.fieldLink RX0 18 "PauseLedger$Dinner" "coughs" "[I", Cond.fieldLink RX0 24 "PauseLedger$Dinner" "toGo" "[I", Cond.fieldLink RX0 27 "PauseLedger$Dinner" "caught" "[I", Cond.methodLink RX0 68 yJ7_fill_53178, Cond.static yJ7_fill_53178, Cond.initialized RJ7, Cond.code yJ7_fill_53178 cJ7_fill_53178 4 none, Cond.methodLink RL 85 yL_act, Cond.static yL_act, Cond.code yL_act cL_act 13 (some (.object "PauseLedgerLaw$Sim")), Cond.fieldLink RL 24 "PauseLedgerLaw$Sim" "limit" "I", Cond.fieldLink RL 40 "PauseLedgerLaw$Sim" "speaker" "I", Cond.fieldLink RL 43 "PauseLedgerLaw$Sim" "cut" "[I", Cond.fieldLink RL 47 "PauseLedgerLaw$Sim" "left" "I", Cond.fieldLink RL 53 "PauseLedgerLaw$Sim" "coughs" "[I", Cond.fieldLink RL 56 "PauseLedgerLaw$Sim" "unsaid" "[I", Cond.methodLink RL 33 yX2_rated, Cond.instanceMethod yX2_rated]
def wsL_build_r5 : List Cond := [Cond.selects RX2 yX2_rated yX2_rated, Cond.code yX2_rated cX2_rated 3 (some .int), Cond.methodLink RX2 66 yX2_all, Cond.instanceMethod yX2_all, Cond.selects RX2 yX2_all yX2_all, Cond.code yX2_all cX2_all 6 (some .int), Cond.fieldLink RX2 53 "PauseLedgerLaw$Sim" "quiet" "I", Cond.methodLink RL 37 yX1_setLimit, Cond.instanceMethod yX1_setLimit, Cond.selects RX1 yX1_setLimit yX1_setLimit, Cond.code yX1_setLimit cX1_setLimit 3 (some .int), Cond.fieldLink RX1 31 "PauseLedger$Dinner" "limit" "I", Cond.methodLink RL 50 yX1_speak, Cond.instanceMethod yX1_speak, Cond.selects RX1 yX1_speak yX1_speak, Cond.code yX1_speak cX1_speak 3 (some .int), Cond.methodLink RX1 35 yX1_requireGuest, Cond.instanceMethod yX1_requireGuest, Cond.selects RX1 yX1_requireGuest yX1_requireGuest, Cond.code yX1_requireGuest cX1_requireGuest 2 none, Cond.classLink RX1 147 "java/lang/IndexOutOfBoundsException", Cond.initialized "java/lang/IndexOutOfBoundsException", Cond.fieldLink RX1 58 "PauseLedger$Dinner" "guests" "I", Cond.methodLink RX1 38 yX0_letSpeak]
def wsL_build_r6 : List Cond := [Cond.instanceMethod yX0_letSpeak, Cond.selects RX0 yX0_letSpeak yX0_letSpeak, Cond.code yX0_letSpeak cX0_letSpeak 4 (some .int), Cond.methodLink RL 59 yX1_cough, Cond.instanceMethod yX1_cough, Cond.selects RX1 yX1_cough yX1_cough, Cond.code yX1_cough cX1_cough 3 (some .int), Cond.methodLink RX1 42 yX0_letCough, Cond.instanceMethod yX0_letCough, Cond.selects RX0 yX0_letCough yX0_letCough, Cond.code yX0_letCough cX0_letCough 4 (some .int), Cond.methodLink RX0 80 yX0_unsaidByCough, Cond.instanceMethod yX0_unsaidByCough, Cond.selects RX0 yX0_unsaidByCough yX0_unsaidByCough, Cond.code yX0_unsaidByCough cX0_unsaidByCough 3 (some .int), Cond.methodLink RL 62 yX2_find, Cond.instanceMethod yX2_find, Cond.selects RX2 yX2_find yX2_find, Cond.code yX2_find cX2_find 4 (some .int), Cond.methodLink RL 65 yX1_glance, Cond.instanceMethod yX1_glance, Cond.selects RX1 yX1_glance yX1_glance, Cond.code yX1_glance cX1_glance 3 (some .int), Cond.methodLink RX1 45 yX1_requireFreeWay]
def wsL_build_r7 : List Cond := [Cond.instanceMethod yX1_requireFreeWay, Cond.selects RX1 yX1_requireFreeWay yX1_requireFreeWay, Cond.code yX1_requireFreeWay cX1_requireFreeWay 3 none, Cond.classLink RX1 161 "java/lang/IllegalStateException", Cond.initialized "java/lang/IllegalStateException", Cond.methodLink RX1 89 yX1_pairOf, Cond.static yX1_pairOf, Cond.code yX1_pairOf cX1_pairOf 2 (some .int), Cond.methodLink RX1 92 yX0_isOnItsWay, Cond.instanceMethod yX0_isOnItsWay, Cond.selects RX0 yX0_isOnItsWay yX0_isOnItsWay, Cond.code yX0_isOnItsWay cX0_isOnItsWay 2 (some .boolean), Cond.methodLink RX1 49 yX0_send, Cond.instanceMethod yX0_send, Cond.selects RX0 yX0_send yX0_send, Cond.code yX0_send cX0_send 4 (some .int), Cond.fieldLink RX0 30 "PauseLedger$Dinner" "order" "[I", Cond.methodLink RX0 87 yX0_wayOf, Cond.instanceMethod yX0_wayOf, Cond.selects RX0 yX0_wayOf yX0_wayOf, Cond.code yX0_wayOf cX0_wayOf 3 (some .int), Cond.methodLink RX0 122 yX0_seatsBetween, Cond.instanceMethod yX0_seatsBetween, Cond.selects RX0 yX0_seatsBetween yX0_seatsBetween]
def wsL_build_r8 : List Cond := [Cond.code yX0_seatsBetween cX0_seatsBetween 4 (some .int), Cond.methodLink RX0 119 Lib.Math.min.name, Cond.static Lib.Math.min.name, Cond.code Lib.Math.min.name Lib.Math.min.code 2 (some .int), Cond.methodLink RL 68 yX2_send, Cond.instanceMethod yX2_send, Cond.selects RX2 yX2_send yX2_send, Cond.code yX2_send cX2_send 10 (some .int), Cond.methodLink RX2 70 yX2_apart, Cond.instanceMethod yX2_apart, Cond.selects RX2 yX2_apart yX2_apart, Cond.code yX2_apart cX2_apart 4 (some .int), Cond.methodLink RL 71 yX2_all, Cond.methodLink RL 74 yX1_pass, Cond.instanceMethod yX1_pass, Cond.selects RX1 yX1_pass yX1_pass, Cond.code yX1_pass cX1_pass 3 (some .int), Cond.methodLink RX1 52 yX0_sumUnsaid, Cond.methodLink RX1 55 yX0_goBy, Cond.instanceMethod yX0_goBy, Cond.selects RX0 yX0_goBy yX0_goBy, Cond.code yX0_goBy cX0_goBy 3 none, Cond.methodLink RX0 90 yX0_goOneSecond, Cond.instanceMethod yX0_goOneSecond]
def wsL_build_r9 : List Cond := [Cond.selects RX0 yX0_goOneSecond yX0_goOneSecond, Cond.code yX0_goOneSecond cX0_goOneSecond 1 none, Cond.methodLink RX0 93 yX0_speakOrPause, Cond.instanceMethod yX0_speakOrPause, Cond.selects RX0 yX0_speakOrPause yX0_speakOrPause, Cond.code yX0_speakOrPause cX0_speakOrPause 1 none, Cond.methodLink RX0 99 yX0_beyondMultipleOfLimit, Cond.instanceMethod yX0_beyondMultipleOfLimit, Cond.selects RX0 yX0_beyondMultipleOfLimit yX0_beyondMultipleOfLimit, Cond.code yX0_beyondMultipleOfLimit cX0_beyondMultipleOfLimit 2 (some .int), Cond.fieldLink RX0 33 "PauseLedger$Dinner" "limit" "I", Cond.methodLink RX0 96 yX0_moveGlances, Cond.instanceMethod yX0_moveGlances, Cond.selects RX0 yX0_moveGlances yX0_moveGlances, Cond.code yX0_moveGlances cX0_moveGlances 3 none, Cond.methodLink RX0 103 yX0_arrive, Cond.instanceMethod yX0_arrive, Cond.selects RX0 yX0_arrive yX0_arrive, Cond.code yX0_arrive cX0_arrive 5 none, Cond.methodLink RX0 110 yX0_isOnItsWay, Cond.methodLink RX0 107 yX0_forgetThoseOver, Cond.instanceMethod yX0_forgetThoseOver, Cond.selects RX0 yX0_forgetThoseOver yX0_forgetThoseOver, Cond.code yX0_forgetThoseOver cX0_forgetThoseOver 4 none]
def wsL_build_r10 : List Cond := [Cond.methodLink RL 77 yX2_behind, Cond.instanceMethod yX2_behind, Cond.selects RX2 yX2_behind yX2_behind, Cond.code yX2_behind cX2_behind 3 (some (.object "PauseLedgerLaw$Sim")), Cond.methodLink RX2 77 yX2_pass, Cond.instanceMethod yX2_pass, Cond.selects RX2 yX2_pass yX2_pass, Cond.code yX2_pass cX2_pass 9 (some .int), Cond.fieldLink RX2 50 "PauseLedgerLaw$Sim" "pause" "I", Cond.fieldLink RX2 47 "PauseLedgerLaw$Sim" "left" "I", Cond.fieldLink RX2 56 "PauseLedgerLaw$Sim" "met" "I", Cond.fieldLink RX2 59 "PauseLedgerLaw$Sim" "lost" "I", Cond.fieldLink RX2 44 "PauseLedgerLaw$Sim" "second" "I", Cond.methodLink RX2 74 yX2_find]
def wsL_build : List Cond := .code yL_build cL_build 5 (some (.object "PauseLedgerLaw$Sim")) :: ((wsL_build_r1 ++ (wsL_build_r2 ++ (wsL_build_r3 ++ (wsL_build_r4 ++ (wsL_build_r5 ++ (wsL_build_r6 ++ (wsL_build_r7 ++ (wsL_build_r8 ++ (wsL_build_r9 ++ wsL_build_r10))))))))) ++ wsX20 ++ wsX10 ++ wsX00 ++ (vx_atS RX1 158 "java/lang/IllegalArgumentException" ["java/lang/RuntimeException", "java/lang/Exception"]).filter goodWord ++ (vx_atS RX1 151 "java/lang/IndexOutOfBoundsException" ["java/lang/RuntimeException", "java/lang/Exception"]).filter goodWord ++ (vx_atS RX1 165 "java/lang/IllegalStateException" ["java/lang/RuntimeException", "java/lang/Exception"]).filter goodWord)
def wsL_law0_r1 : List Cond := [Cond.classLink RL 28 RX1, Cond.instantiable RX1 2, Cond.initialized RX1, Cond.classLink RL 96 "[[I", Cond.arrayClass .int, Cond.methodLink RL 140 Lib.Math.abs.name, Cond.static Lib.Math.abs.name, Cond.initialized "java/lang/Math", Cond.code Lib.Math.abs.name Lib.Math.abs.code 1 (some .int), Cond.methodLink RL 145 Lib.Math.max.name, Cond.static Lib.Math.max.name, Cond.code Lib.Math.max.name Lib.Math.max.code 2 (some .int), Cond.methodLink RL 89 yX1_init, Cond.instanceMethod yX1_init, Cond.code yX1_init cX1_init 1 none, Cond.methodLink RX1 3 objectInit, Cond.instanceMethod objectInit, Cond.code objectInit ⟨#[0xb1]⟩ 1 none, Cond.classLink RX1 9 RX0, Cond.instantiable RX0 17, Cond.initialized RX0, Cond.fieldLink RX1 12 "PauseLedger" "dinner" "LPauseLedger$Dinner;", Cond.fieldLink RX1 16 "PauseLedger" "trial" "LPauseLedger$Dinner;", Cond.methodLink RX1 11 yX0_init]
def wsL_law0_r2 : List Cond := [Cond.instanceMethod yX0_init, Cond.code yX0_init cX0_init 1 none, Cond.methodLink RX0 3 objectInit, Cond.fieldLink RX0 9 "PauseLedger$Dinner" "spoken" "[I", Cond.fieldLink RX0 15 "PauseLedger$Dinner" "interruptions" "[I", Cond.fieldLink RX0 18 "PauseLedger$Dinner" "coughs" "[I", Cond.fieldLink RX0 21 "PauseLedger$Dinner" "unsaid" "[I", Cond.fieldLink RX0 24 "PauseLedger$Dinner" "toGo" "[I", Cond.fieldLink RX0 27 "PauseLedger$Dinner" "caught" "[I", Cond.fieldLink RX0 30 "PauseLedger$Dinner" "order" "[I", Cond.fieldLink RX0 33 "PauseLedger$Dinner" "limit" "I", Cond.methodLink RX0 37 yX0_begin, Cond.instanceMethod yX0_begin, Cond.selects RX0 yX0_begin yX0_begin, Cond.code yX0_begin cX0_begin 2 none, Cond.fieldLink RX0 41 "PauseLedger$Dinner" "guests" "I", Cond.fieldLink RX0 44 "PauseLedger$Dinner" "seconds" "I", Cond.fieldLink RX0 47 "PauseLedger$Dinner" "speaker" "I", Cond.fieldLink RX0 50 "PauseLedger$Dinner" "toSpeak" "I", Cond.fieldLink RX0 53 "PauseLedger$Dinner" "pause" "I", Cond.fieldLink RX0 56 "PauseLedger$Dinner" "unsaidInPauses" "I", Cond.fieldLink RX0 59 "PauseLedger$Dinner" "meetings" "I", Cond.fieldLink RX0 62 "PauseLedger$Dinner" "lost" "I", Cond.fieldLink RX0 65 "PauseLedger$Dinner" "sent" "I"]
def wsL_law0_r3 : List Cond := [Cond.methodLink RX0 68 yJ7_fill_53178, Cond.static yJ7_fill_53178, Cond.initialized RJ7, Cond.code yJ7_fill_53178 cJ7_fill_53178 4 none, Cond.methodLink RL 90 yL_build, Cond.static yL_build, Cond.initialized RL, Cond.code yL_build cL_build 5 (some (.object "PauseLedgerLaw$Sim")), Cond.classLink RL 10 RX2, Cond.instantiable RX2 15, Cond.initialized RX2, Cond.fieldLink RL 9 "PauseLedgerLaw$Sim" "guests" "I", Cond.methodLink RL 81 yL_cell, Cond.static yL_cell, Cond.code yL_cell cL_cell 2 (some .int), Cond.constant RL 8 (790386105), Cond.methodLink RL 15 yL_below, Cond.static yL_below, Cond.code yL_below cL_below 2 (some .int), Cond.constant RL 7 (2147483647), Cond.methodLink RL 21 yX2_init, Cond.instanceMethod yX2_init, Cond.code yX2_init cX2_init 2 none, Cond.methodLink RX2 1 objectInit]
def wsL_law0_r4 : List Cond := [Cond.fieldLink RX2 7 "PauseLedgerLaw$Sim" "limit" "I", Cond.fieldLink RX2 13 "PauseLedgerLaw$Sim" "speaker" "I", Cond.classLink RX2 16 "[I", Cond.fieldLink RX2 18 "PauseLedgerLaw$Sim" "glances" "[[I", Cond.fieldLink RX2 22 "PauseLedgerLaw$Sim" "guests" "I", Cond.fieldLink RX2 25 "PauseLedgerLaw$Sim" "spoken" "[I", Cond.fieldLink RX2 28 "PauseLedgerLaw$Sim" "cut" "[I", Cond.fieldLink RX2 31 "PauseLedgerLaw$Sim" "coughs" "[I", Cond.fieldLink RX2 34 "PauseLedgerLaw$Sim" "unsaid" "[I", Cond.classLink RX2 37 "[[I", Cond.fieldLink RX2 38 "PauseLedgerLaw$Sim" "caught" "[[I", Cond.methodLink RL 27 yX1_newDinner, Cond.instanceMethod yX1_newDinner, Cond.selects RX1 yX1_newDinner yX1_newDinner, Cond.code yX1_newDinner cX1_newDinner 3 (some .int), Cond.methodLink RX1 19 yX1_requireWithin, Cond.static yX1_requireWithin, Cond.code yX1_requireWithin cX1_requireWithin 3 none, Cond.classLink RX1 154 "java/lang/IllegalArgumentException", Cond.initialized "java/lang/IllegalArgumentException", Cond.methodLink RX1 23 yX0_rate, Cond.instanceMethod yX0_rate, Cond.selects RX0 yX0_rate yX0_rate, Cond.code yX0_rate cX0_rate 2 (some .int)]
def wsL_law0_r5 : List Cond := [Cond.methodLink RX0 114 Lib.Math.abs.name, Cond.methodLink RX0 135 Lib.Math.max.name, Cond.methodLink RX0 132 yX0_sumUnsaid, Cond.instanceMethod yX0_sumUnsaid, Cond.selects RX0 yX0_sumUnsaid yX0_sumUnsaid, Cond.code yX0_sumUnsaid cX0_sumUnsaid 1 (some .int), Cond.methodLink RX0 128 yX0_sumUnsaidByGuests, Cond.instanceMethod yX0_sumUnsaidByGuests, Cond.selects RX0 yX0_sumUnsaidByGuests yX0_sumUnsaidByGuests, Cond.code yX0_sumUnsaidByGuests cX0_sumUnsaidByGuests 3 (some .int), Cond.methodLink RX1 27 yX0_begin, Cond.methodLink RL 85 yL_act, Cond.static yL_act, Cond.code yL_act cL_act 13 (some (.object "PauseLedgerLaw$Sim")), Cond.fieldLink RL 24 "PauseLedgerLaw$Sim" "limit" "I", Cond.fieldLink RL 40 "PauseLedgerLaw$Sim" "speaker" "I", Cond.fieldLink RL 43 "PauseLedgerLaw$Sim" "cut" "[I", Cond.fieldLink RL 47 "PauseLedgerLaw$Sim" "left" "I", Cond.fieldLink RL 53 "PauseLedgerLaw$Sim" "coughs" "[I", Cond.fieldLink RL 56 "PauseLedgerLaw$Sim" "unsaid" "[I", Cond.methodLink RL 33 yX2_rated, Cond.instanceMethod yX2_rated, Cond.selects RX2 yX2_rated yX2_rated, Cond.code yX2_rated cX2_rated 3 (some .int)]
def wsL_law0_r6 : List Cond := [Cond.methodLink RX2 66 yX2_all, Cond.instanceMethod yX2_all, Cond.selects RX2 yX2_all yX2_all, Cond.code yX2_all cX2_all 6 (some .int), Cond.fieldLink RX2 53 "PauseLedgerLaw$Sim" "quiet" "I", Cond.methodLink RL 37 yX1_setLimit, Cond.instanceMethod yX1_setLimit, Cond.selects RX1 yX1_setLimit yX1_setLimit, Cond.code yX1_setLimit cX1_setLimit 3 (some .int), Cond.fieldLink RX1 31 "PauseLedger$Dinner" "limit" "I", Cond.methodLink RL 50 yX1_speak, Cond.instanceMethod yX1_speak, Cond.selects RX1 yX1_speak yX1_speak, Cond.code yX1_speak cX1_speak 3 (some .int), Cond.methodLink RX1 35 yX1_requireGuest, Cond.instanceMethod yX1_requireGuest, Cond.selects RX1 yX1_requireGuest yX1_requireGuest, Cond.code yX1_requireGuest cX1_requireGuest 2 none, Cond.classLink RX1 147 "java/lang/IndexOutOfBoundsException", Cond.initialized "java/lang/IndexOutOfBoundsException", Cond.fieldLink RX1 58 "PauseLedger$Dinner" "guests" "I", Cond.methodLink RX1 38 yX0_letSpeak, Cond.instanceMethod yX0_letSpeak, Cond.selects RX0 yX0_letSpeak yX0_letSpeak]
def wsL_law0_r7 : List Cond := [Cond.code yX0_letSpeak cX0_letSpeak 4 (some .int), Cond.methodLink RL 59 yX1_cough, Cond.instanceMethod yX1_cough, Cond.selects RX1 yX1_cough yX1_cough, Cond.code yX1_cough cX1_cough 3 (some .int), Cond.methodLink RX1 42 yX0_letCough, Cond.instanceMethod yX0_letCough, Cond.selects RX0 yX0_letCough yX0_letCough, Cond.code yX0_letCough cX0_letCough 4 (some .int), Cond.methodLink RX0 80 yX0_unsaidByCough, Cond.instanceMethod yX0_unsaidByCough, Cond.selects RX0 yX0_unsaidByCough yX0_unsaidByCough, Cond.code yX0_unsaidByCough cX0_unsaidByCough 3 (some .int), Cond.methodLink RL 62 yX2_find, Cond.instanceMethod yX2_find, Cond.selects RX2 yX2_find yX2_find, Cond.code yX2_find cX2_find 4 (some .int), Cond.methodLink RL 65 yX1_glance, Cond.instanceMethod yX1_glance, Cond.selects RX1 yX1_glance yX1_glance, Cond.code yX1_glance cX1_glance 3 (some .int), Cond.methodLink RX1 45 yX1_requireFreeWay, Cond.instanceMethod yX1_requireFreeWay, Cond.selects RX1 yX1_requireFreeWay yX1_requireFreeWay]
def wsL_law0_r8 : List Cond := [Cond.code yX1_requireFreeWay cX1_requireFreeWay 3 none, Cond.classLink RX1 161 "java/lang/IllegalStateException", Cond.initialized "java/lang/IllegalStateException", Cond.methodLink RX1 89 yX1_pairOf, Cond.static yX1_pairOf, Cond.code yX1_pairOf cX1_pairOf 2 (some .int), Cond.methodLink RX1 92 yX0_isOnItsWay, Cond.instanceMethod yX0_isOnItsWay, Cond.selects RX0 yX0_isOnItsWay yX0_isOnItsWay, Cond.code yX0_isOnItsWay cX0_isOnItsWay 2 (some .boolean), Cond.methodLink RX1 49 yX0_send, Cond.instanceMethod yX0_send, Cond.selects RX0 yX0_send yX0_send, Cond.code yX0_send cX0_send 4 (some .int), Cond.methodLink RX0 87 yX0_wayOf, Cond.instanceMethod yX0_wayOf, Cond.selects RX0 yX0_wayOf yX0_wayOf, Cond.code yX0_wayOf cX0_wayOf 3 (some .int), Cond.methodLink RX0 122 yX0_seatsBetween, Cond.instanceMethod yX0_seatsBetween, Cond.selects RX0 yX0_seatsBetween yX0_seatsBetween, Cond.code yX0_seatsBetween cX0_seatsBetween 4 (some .int), Cond.methodLink RX0 119 Lib.Math.min.name, Cond.static Lib.Math.min.name]
def wsL_law0_r9 : List Cond := [Cond.code Lib.Math.min.name Lib.Math.min.code 2 (some .int), Cond.methodLink RL 68 yX2_send, Cond.instanceMethod yX2_send, Cond.selects RX2 yX2_send yX2_send, Cond.code yX2_send cX2_send 10 (some .int), Cond.methodLink RX2 70 yX2_apart, Cond.instanceMethod yX2_apart, Cond.selects RX2 yX2_apart yX2_apart, Cond.code yX2_apart cX2_apart 4 (some .int), Cond.methodLink RL 71 yX2_all, Cond.methodLink RL 74 yX1_pass, Cond.instanceMethod yX1_pass, Cond.selects RX1 yX1_pass yX1_pass, Cond.code yX1_pass cX1_pass 3 (some .int), Cond.methodLink RX1 52 yX0_sumUnsaid, Cond.methodLink RX1 55 yX0_goBy, Cond.instanceMethod yX0_goBy, Cond.selects RX0 yX0_goBy yX0_goBy, Cond.code yX0_goBy cX0_goBy 3 none, Cond.methodLink RX0 90 yX0_goOneSecond, Cond.instanceMethod yX0_goOneSecond, Cond.selects RX0 yX0_goOneSecond yX0_goOneSecond, Cond.code yX0_goOneSecond cX0_goOneSecond 1 none, Cond.methodLink RX0 93 yX0_speakOrPause]
def wsL_law0_r10 : List Cond := [Cond.instanceMethod yX0_speakOrPause, Cond.selects RX0 yX0_speakOrPause yX0_speakOrPause, Cond.code yX0_speakOrPause cX0_speakOrPause 1 none, Cond.methodLink RX0 99 yX0_beyondMultipleOfLimit, Cond.instanceMethod yX0_beyondMultipleOfLimit, Cond.selects RX0 yX0_beyondMultipleOfLimit yX0_beyondMultipleOfLimit, Cond.code yX0_beyondMultipleOfLimit cX0_beyondMultipleOfLimit 2 (some .int), Cond.methodLink RX0 96 yX0_moveGlances, Cond.instanceMethod yX0_moveGlances, Cond.selects RX0 yX0_moveGlances yX0_moveGlances, Cond.code yX0_moveGlances cX0_moveGlances 3 none, Cond.methodLink RX0 103 yX0_arrive, Cond.instanceMethod yX0_arrive, Cond.selects RX0 yX0_arrive yX0_arrive, Cond.code yX0_arrive cX0_arrive 5 none, Cond.methodLink RX0 110 yX0_isOnItsWay, Cond.methodLink RX0 107 yX0_forgetThoseOver, Cond.instanceMethod yX0_forgetThoseOver, Cond.selects RX0 yX0_forgetThoseOver yX0_forgetThoseOver, Cond.code yX0_forgetThoseOver cX0_forgetThoseOver 4 none, Cond.methodLink RL 77 yX2_behind, Cond.instanceMethod yX2_behind, Cond.selects RX2 yX2_behind yX2_behind, Cond.code yX2_behind cX2_behind 3 (some (.object "PauseLedgerLaw$Sim"))]
def wsL_law0_r11 : List Cond := [Cond.methodLink RX2 77 yX2_pass, Cond.instanceMethod yX2_pass, Cond.selects RX2 yX2_pass yX2_pass, Cond.code yX2_pass cX2_pass 9 (some .int), Cond.fieldLink RX2 50 "PauseLedgerLaw$Sim" "pause" "I", Cond.fieldLink RX2 47 "PauseLedgerLaw$Sim" "left" "I", Cond.fieldLink RX2 56 "PauseLedgerLaw$Sim" "met" "I", Cond.fieldLink RX2 59 "PauseLedgerLaw$Sim" "lost" "I", Cond.fieldLink RX2 44 "PauseLedgerLaw$Sim" "second" "I", Cond.methodLink RX2 74 yX2_find, Cond.methodLink RL 94 yX1_guests, Cond.instanceMethod yX1_guests, Cond.selects RX1 yX1_guests yX1_guests, Cond.code yX1_guests cX1_guests 1 (some .int), Cond.methodLink RL 98 yX1_unsaidBy, Cond.instanceMethod yX1_unsaidBy, Cond.selects RX1 yX1_unsaidBy yX1_unsaidBy, Cond.code yX1_unsaidBy cX1_unsaidBy 2 (some .int), Cond.fieldLink RX1 86 "PauseLedger$Dinner" "unsaid" "[I", Cond.methodLink RL 101 yX1_seatsApart, Cond.instanceMethod yX1_seatsApart, Cond.selects RX1 yX1_seatsApart yX1_seatsApart, Cond.code yX1_seatsApart cX1_seatsApart 3 (some .int), Cond.methodLink RX1 64 yX0_seatsBetween]
def wsL_law0_r12 : List Cond := [Cond.methodLink RL 104 yX1_secondsToGo, Cond.instanceMethod yX1_secondsToGo, Cond.selects RX1 yX1_secondsToGo yX1_secondsToGo, Cond.code yX1_secondsToGo cX1_secondsToGo 3 (some .int), Cond.methodLink RX1 96 yX0_timeToGo, Cond.instanceMethod yX0_timeToGo, Cond.selects RX0 yX0_timeToGo yX0_timeToGo, Cond.code yX0_timeToGo cX0_timeToGo 2 (some .int), Cond.methodLink RL 107 yX1_caughtBy, Cond.instanceMethod yX1_caughtBy, Cond.selects RX1 yX1_caughtBy yX1_caughtBy, Cond.code yX1_caughtBy cX1_caughtBy 3 (some .int), Cond.fieldLink RX1 100 "PauseLedger$Dinner" "caught" "[I", Cond.methodLink RL 110 yX1_isUnderWay, Cond.instanceMethod yX1_isUnderWay, Cond.selects RX1 yX1_isUnderWay yX1_isUnderWay, Cond.code yX1_isUnderWay cX1_isUnderWay 3 (some .boolean), Cond.methodLink RL 114 yX1_unsaidInPauses, Cond.instanceMethod yX1_unsaidInPauses, Cond.selects RX1 yX1_unsaidInPauses yX1_unsaidInPauses, Cond.code yX1_unsaidInPauses cX1_unsaidInPauses 1 (some .int), Cond.fieldLink RX1 103 "PauseLedger$Dinner" "unsaidInPauses" "I", Cond.methodLink RL 117 yX1_pause, Cond.instanceMethod yX1_pause]
def wsL_law0_r13 : List Cond := [Cond.selects RX1 yX1_pause yX1_pause, Cond.code yX1_pause cX1_pause 1 (some .int), Cond.fieldLink RX1 73 "PauseLedger$Dinner" "pause" "I", Cond.methodLink RL 120 yX1_speaker, Cond.instanceMethod yX1_speaker, Cond.selects RX1 yX1_speaker yX1_speaker, Cond.code yX1_speaker cX1_speaker 1 (some .int), Cond.fieldLink RX1 67 "PauseLedger$Dinner" "speaker" "I", Cond.methodLink RL 122 yX1_secondsToSpeak, Cond.instanceMethod yX1_secondsToSpeak, Cond.selects RX1 yX1_secondsToSpeak yX1_secondsToSpeak, Cond.code yX1_secondsToSpeak cX1_secondsToSpeak 1 (some .int), Cond.fieldLink RX1 70 "PauseLedger$Dinner" "toSpeak" "I", Cond.methodLink RL 125 yX1_meetings, Cond.instanceMethod yX1_meetings, Cond.selects RX1 yX1_meetings yX1_meetings, Cond.code yX1_meetings cX1_meetings 1 (some .int), Cond.fieldLink RX1 109 "PauseLedger$Dinner" "meetings" "I", Cond.methodLink RL 128 yX1_lostGlances, Cond.instanceMethod yX1_lostGlances, Cond.selects RX1 yX1_lostGlances yX1_lostGlances, Cond.code yX1_lostGlances cX1_lostGlances 1 (some .int), Cond.fieldLink RX1 112 "PauseLedger$Dinner" "lost" "I", Cond.methodLink RL 131 yX1_glancesUnderWay]
def wsL_law0_r14 : List Cond := [Cond.instanceMethod yX1_glancesUnderWay, Cond.selects RX1 yX1_glancesUnderWay yX1_glancesUnderWay, Cond.code yX1_glancesUnderWay cX1_glancesUnderWay 1 (some .int), Cond.fieldLink RX1 106 "PauseLedger$Dinner" "sent" "I", Cond.methodLink RL 134 yX1_allUnsaid, Cond.instanceMethod yX1_allUnsaid, Cond.selects RX1 yX1_allUnsaid yX1_allUnsaid, Cond.code yX1_allUnsaid cX1_allUnsaid 1 (some .int), Cond.methodLink RL 137 yX1_rating, Cond.instanceMethod yX1_rating, Cond.selects RX1 yX1_rating yX1_rating, Cond.code yX1_rating cX1_rating 1 (some .int), Cond.methodLink RL 148 yX1_meanUnsaid, Cond.instanceMethod yX1_meanUnsaid, Cond.selects RX1 yX1_meanUnsaid yX1_meanUnsaid, Cond.code yX1_meanUnsaid cX1_meanUnsaid 1 (some .double), Cond.methodLink RX1 125 yX0_sumUnsaidByGuests, Cond.methodLink RL 152 yX1_quietest, Cond.instanceMethod yX1_quietest, Cond.selects RX1 yX1_quietest yX1_quietest, Cond.code yX1_quietest cX1_quietest 3 (some .int), Cond.methodLink RL 155 yX2_pass, Cond.methodLink RL 157 yX1_limit, Cond.instanceMethod yX1_limit]
def wsL_law0_r15 : List Cond := [Cond.selects RX1 yX1_limit yX1_limit, Cond.code yX1_limit cX1_limit 1 (some .int), Cond.methodLink RL 159 yX2_isSame, Cond.instanceMethod yX2_isSame, Cond.selects RX2 yX2_isSame yX2_isSame, Cond.code yX2_isSame cX2_isSame 7 (some .boolean), Cond.methodLink RX2 83 yX1_guests, Cond.methodLink RX2 87 yX1_seconds, Cond.instanceMethod yX1_seconds, Cond.selects RX1 yX1_seconds yX1_seconds, Cond.code yX1_seconds cX1_seconds 1 (some .int), Cond.fieldLink RX1 61 "PauseLedger$Dinner" "seconds" "I", Cond.methodLink RX2 90 yX1_limit, Cond.methodLink RX2 92 yX1_speaker, Cond.methodLink RX2 94 yX1_secondsToSpeak, Cond.methodLink RX2 97 yX1_pause, Cond.methodLink RX2 99 yX1_unsaidInPauses, Cond.methodLink RX2 102 yX1_allUnsaid, Cond.methodLink RX2 105 yX1_glancesUnderWay, Cond.methodLink RX2 108 yX1_meetings, Cond.methodLink RX2 111 yX1_lostGlances, Cond.methodLink RX2 114 yX1_rating, Cond.methodLink RX2 117 yX2_rated, Cond.methodLink RX2 120 yX1_spokenBy]
def wsL_law0_r16 : List Cond := [Cond.instanceMethod yX1_spokenBy, Cond.selects RX1 yX1_spokenBy yX1_spokenBy, Cond.code yX1_spokenBy cX1_spokenBy 2 (some .int), Cond.fieldLink RX1 76 "PauseLedger$Dinner" "spoken" "[I", Cond.methodLink RX2 124 yX1_interruptionsBy, Cond.instanceMethod yX1_interruptionsBy, Cond.selects RX1 yX1_interruptionsBy yX1_interruptionsBy, Cond.code yX1_interruptionsBy cX1_interruptionsBy 2 (some .int), Cond.fieldLink RX1 80 "PauseLedger$Dinner" "interruptions" "[I", Cond.methodLink RX2 127 yX1_coughsOf, Cond.instanceMethod yX1_coughsOf, Cond.selects RX1 yX1_coughsOf yX1_coughsOf, Cond.code yX1_coughsOf cX1_coughsOf 2 (some .int), Cond.fieldLink RX1 83 "PauseLedger$Dinner" "coughs" "[I", Cond.methodLink RX2 130 yX1_unsaidBy, Cond.methodLink RX2 133 yX1_isUnderWay, Cond.methodLink RX2 137 yX1_secondsToGo, Cond.methodLink RX2 140 yX1_caughtBy, Cond.methodLink RX2 143 yX1_quietest, Cond.methodLink RX2 146 yX1_meanUnsaid]
def wsL_law0 : List Cond := (wsL_law0_r1 ++ (wsL_law0_r2 ++ (wsL_law0_r3 ++ (wsL_law0_r4 ++ (wsL_law0_r5 ++ (wsL_law0_r6 ++ (wsL_law0_r7 ++ (wsL_law0_r8 ++ (wsL_law0_r9 ++ (wsL_law0_r10 ++ (wsL_law0_r11 ++ (wsL_law0_r12 ++ (wsL_law0_r13 ++ (wsL_law0_r14 ++ (wsL_law0_r15 ++ wsL_law0_r16))))))))))))))) ++ wsX10 ++ wsX00 ++ wsX20 ++ ([] : List Cond)
def wsL_law : List Cond := wsL_law0 ++ (vx_atS RX1 158 "java/lang/IllegalArgumentException" ["java/lang/RuntimeException", "java/lang/Exception"]).filter goodWord ++ (vx_atS RX1 151 "java/lang/IndexOutOfBoundsException" ["java/lang/RuntimeException", "java/lang/Exception"]).filter goodWord ++ (vx_atS RX1 165 "java/lang/IllegalStateException" ["java/lang/RuntimeException", "java/lang/Exception"]).filter goodWord
abbrev vwCl : List vw_C := [(RX0, TX0, 17), (RX1, TX1, 2), (RX2, TX2, 15)]
end
section
set_option maxRecDepth 20000 in
theorem ggX0_init_X0_begin : GoodIn wsX0_init wsX0_begin := goodIn_r _ [17, 18, 19, 20, 21, 22, 23, 24, 25, 26, 5, 6, 7, 8, 9, 10, 27, 28, 29, 30, 31, 32, 33, 34, 35, 36, 37, 38, 39, 40, 41, 42, 43, 44, 45, 46, 47] (by decide +kernel) (by decide +kernel)
set_option maxRecDepth 20000 in
theorem gX0_init_X0_begin : GoodIn wsX0_init (wsV RX0 37 RX0 yX0_begin wsX0_begin) := goodIn_app (goodIn_of _ (by decide +kernel)) ggX0_init_X0_begin
theorem dX0_init_0 : decode cX0_init 0 = .ok (.aload_n 0, 1) := by decide +kernel
theorem dX0_init_1 : decode cX0_init 1 = .ok (.invokespecial 3, 3) := by decide +kernel
theorem dX0_init_4 : decode cX0_init 4 = .ok (.aload_n 0, 1) := by decide +kernel
theorem dX0_init_5 : decode cX0_init 5 = .ok (.bipush 10, 2) := by decide +kernel
theorem dX0_init_7 : decode cX0_init 7 = .ok (.newarray .int, 2) := by decide +kernel
theorem dX0_init_9 : decode cX0_init 9 = .ok (.putfield 9, 3) := by decide +kernel
theorem dX0_init_12 : decode cX0_init 12 = .ok (.aload_n 0, 1) := by decide +kernel
theorem dX0_init_13 : decode cX0_init 13 = .ok (.bipush 10, 2) := by decide +kernel
theorem dX0_init_15 : decode cX0_init 15 = .ok (.newarray .int, 2) := by decide +kernel
theorem dX0_init_17 : decode cX0_init 17 = .ok (.putfield 15, 3) := by decide +kernel
theorem dX0_init_20 : decode cX0_init 20 = .ok (.aload_n 0, 1) := by decide +kernel
theorem dX0_init_21 : decode cX0_init 21 = .ok (.bipush 10, 2) := by decide +kernel
theorem dX0_init_23 : decode cX0_init 23 = .ok (.newarray .int, 2) := by decide +kernel
theorem dX0_init_25 : decode cX0_init 25 = .ok (.putfield 18, 3) := by decide +kernel
theorem dX0_init_28 : decode cX0_init 28 = .ok (.aload_n 0, 1) := by decide +kernel
theorem dX0_init_29 : decode cX0_init 29 = .ok (.bipush 10, 2) := by decide +kernel
theorem dX0_init_31 : decode cX0_init 31 = .ok (.newarray .int, 2) := by decide +kernel
theorem dX0_init_33 : decode cX0_init 33 = .ok (.putfield 21, 3) := by decide +kernel
theorem dX0_init_36 : decode cX0_init 36 = .ok (.aload_n 0, 1) := by decide +kernel
theorem dX0_init_37 : decode cX0_init 37 = .ok (.bipush 100, 2) := by decide +kernel
theorem dX0_init_39 : decode cX0_init 39 = .ok (.newarray .int, 2) := by decide +kernel
theorem dX0_init_41 : decode cX0_init 41 = .ok (.putfield 24, 3) := by decide +kernel
theorem dX0_init_44 : decode cX0_init 44 = .ok (.aload_n 0, 1) := by decide +kernel
theorem dX0_init_45 : decode cX0_init 45 = .ok (.bipush 100, 2) := by decide +kernel
theorem dX0_init_47 : decode cX0_init 47 = .ok (.newarray .int, 2) := by decide +kernel
theorem dX0_init_49 : decode cX0_init 49 = .ok (.putfield 27, 3) := by decide +kernel
theorem dX0_init_52 : decode cX0_init 52 = .ok (.aload_n 0, 1) := by decide +kernel
theorem dX0_init_53 : decode cX0_init 53 = .ok (.bipush 100, 2) := by decide +kernel
theorem dX0_init_55 : decode cX0_init 55 = .ok (.newarray .int, 2) := by decide +kernel
theorem dX0_init_57 : decode cX0_init 57 = .ok (.putfield 30, 3) := by decide +kernel
theorem dX0_init_60 : decode cX0_init 60 = .ok (.aload_n 0, 1) := by decide +kernel
theorem dX0_init_61 : decode cX0_init 61 = .ok (.iconst 5, 1) := by decide +kernel
theorem dX0_init_62 : decode cX0_init 62 = .ok (.putfield 33, 3) := by decide +kernel
theorem dX0_init_65 : decode cX0_init 65 = .ok (.aload_n 0, 1) := by decide +kernel
theorem dX0_init_66 : decode cX0_init 66 = .ok (.iconst 4, 1) := by decide +kernel
theorem dX0_init_67 : decode cX0_init 67 = .ok (.invokevirtual 37, 3) := by decide +kernel
theorem dX0_init_70 : decode cX0_init 70 = .ok (.return_, 1) := by decide +kernel
set_option maxRecDepth 20000 in
theorem ggX0_begin_J7_fill_53178 : GoodIn wsX0_begin wsJ7_fill_53178 := goodIn_r _ [19] (by decide +kernel) (by decide +kernel)
set_option maxRecDepth 20000 in
theorem gX0_begin_J7_fill_53178 : GoodIn wsX0_begin (va_wsS RX0 68 yJ7_fill_53178 wsJ7_fill_53178) := goodIn_app (goodIn_of _ (by decide +kernel)) ggX0_begin_J7_fill_53178
theorem dX0_begin_0 : decode cX0_begin 0 = .ok (.aload_n 0, 1) := by decide +kernel
theorem dX0_begin_1 : decode cX0_begin 1 = .ok (.iload_n 1, 1) := by decide +kernel
theorem dX0_begin_2 : decode cX0_begin 2 = .ok (.putfield 41, 3) := by decide +kernel
theorem dX0_begin_5 : decode cX0_begin 5 = .ok (.aload_n 0, 1) := by decide +kernel
theorem dX0_begin_6 : decode cX0_begin 6 = .ok (.iconst 0, 1) := by decide +kernel
theorem dX0_begin_7 : decode cX0_begin 7 = .ok (.putfield 44, 3) := by decide +kernel
theorem dX0_begin_10 : decode cX0_begin 10 = .ok (.aload_n 0, 1) := by decide +kernel
theorem dX0_begin_11 : decode cX0_begin 11 = .ok (.iconst (-1), 1) := by decide +kernel
theorem dX0_begin_12 : decode cX0_begin 12 = .ok (.putfield 47, 3) := by decide +kernel
theorem dX0_begin_15 : decode cX0_begin 15 = .ok (.aload_n 0, 1) := by decide +kernel
theorem dX0_begin_16 : decode cX0_begin 16 = .ok (.iconst 0, 1) := by decide +kernel
theorem dX0_begin_17 : decode cX0_begin 17 = .ok (.putfield 50, 3) := by decide +kernel
theorem dX0_begin_20 : decode cX0_begin 20 = .ok (.aload_n 0, 1) := by decide +kernel
theorem dX0_begin_21 : decode cX0_begin 21 = .ok (.iconst 0, 1) := by decide +kernel
theorem dX0_begin_22 : decode cX0_begin 22 = .ok (.putfield 53, 3) := by decide +kernel
theorem dX0_begin_25 : decode cX0_begin 25 = .ok (.aload_n 0, 1) := by decide +kernel
theorem dX0_begin_26 : decode cX0_begin 26 = .ok (.iconst 0, 1) := by decide +kernel
theorem dX0_begin_27 : decode cX0_begin 27 = .ok (.putfield 56, 3) := by decide +kernel
theorem dX0_begin_30 : decode cX0_begin 30 = .ok (.aload_n 0, 1) := by decide +kernel
theorem dX0_begin_31 : decode cX0_begin 31 = .ok (.iconst 0, 1) := by decide +kernel
theorem dX0_begin_32 : decode cX0_begin 32 = .ok (.putfield 59, 3) := by decide +kernel
theorem dX0_begin_35 : decode cX0_begin 35 = .ok (.aload_n 0, 1) := by decide +kernel
theorem dX0_begin_36 : decode cX0_begin 36 = .ok (.iconst 0, 1) := by decide +kernel
theorem dX0_begin_37 : decode cX0_begin 37 = .ok (.putfield 62, 3) := by decide +kernel
theorem dX0_begin_40 : decode cX0_begin 40 = .ok (.aload_n 0, 1) := by decide +kernel
theorem dX0_begin_41 : decode cX0_begin 41 = .ok (.iconst 0, 1) := by decide +kernel
theorem dX0_begin_42 : decode cX0_begin 42 = .ok (.putfield 65, 3) := by decide +kernel
theorem dX0_begin_45 : decode cX0_begin 45 = .ok (.aload_n 0, 1) := by decide +kernel
theorem dX0_begin_46 : decode cX0_begin 46 = .ok (.getfield 9, 3) := by decide +kernel
theorem dX0_begin_49 : decode cX0_begin 49 = .ok (.iconst 0, 1) := by decide +kernel
theorem dX0_begin_50 : decode cX0_begin 50 = .ok (.invokestatic 68, 3) := by decide +kernel
theorem dX0_begin_53 : decode cX0_begin 53 = .ok (.aload_n 0, 1) := by decide +kernel
theorem dX0_begin_54 : decode cX0_begin 54 = .ok (.getfield 15, 3) := by decide +kernel
theorem dX0_begin_57 : decode cX0_begin 57 = .ok (.iconst 0, 1) := by decide +kernel
theorem dX0_begin_58 : decode cX0_begin 58 = .ok (.invokestatic 68, 3) := by decide +kernel
theorem dX0_begin_61 : decode cX0_begin 61 = .ok (.aload_n 0, 1) := by decide +kernel
theorem dX0_begin_62 : decode cX0_begin 62 = .ok (.getfield 18, 3) := by decide +kernel
theorem dX0_begin_65 : decode cX0_begin 65 = .ok (.iconst 0, 1) := by decide +kernel
theorem dX0_begin_66 : decode cX0_begin 66 = .ok (.invokestatic 68, 3) := by decide +kernel
theorem dX0_begin_69 : decode cX0_begin 69 = .ok (.aload_n 0, 1) := by decide +kernel
theorem dX0_begin_70 : decode cX0_begin 70 = .ok (.getfield 21, 3) := by decide +kernel
theorem dX0_begin_73 : decode cX0_begin 73 = .ok (.iconst 0, 1) := by decide +kernel
theorem dX0_begin_74 : decode cX0_begin 74 = .ok (.invokestatic 68, 3) := by decide +kernel
theorem dX0_begin_77 : decode cX0_begin 77 = .ok (.aload_n 0, 1) := by decide +kernel
theorem dX0_begin_78 : decode cX0_begin 78 = .ok (.getfield 24, 3) := by decide +kernel
theorem dX0_begin_81 : decode cX0_begin 81 = .ok (.iconst (-1), 1) := by decide +kernel
theorem dX0_begin_82 : decode cX0_begin 82 = .ok (.invokestatic 68, 3) := by decide +kernel
theorem dX0_begin_85 : decode cX0_begin 85 = .ok (.aload_n 0, 1) := by decide +kernel
theorem dX0_begin_86 : decode cX0_begin 86 = .ok (.getfield 27, 3) := by decide +kernel
theorem dX0_begin_89 : decode cX0_begin 89 = .ok (.iconst 0, 1) := by decide +kernel
theorem dX0_begin_90 : decode cX0_begin 90 = .ok (.invokestatic 68, 3) := by decide +kernel
theorem dX0_begin_93 : decode cX0_begin 93 = .ok (.return_, 1) := by decide +kernel
theorem dX0_letSpeak_0 : decode cX0_letSpeak 0 = .ok (.aload_n 0, 1) := by decide +kernel
theorem dX0_letSpeak_1 : decode cX0_letSpeak 1 = .ok (.getfield 47, 3) := by decide +kernel
theorem dX0_letSpeak_4 : decode cX0_letSpeak 4 = .ok (.iload_n 1, 1) := by decide +kernel
theorem dX0_letSpeak_5 : decode cX0_letSpeak 5 = .ok (.if_icmp .ne 7, 3) := by decide +kernel
theorem dX0_letSpeak_8 : decode cX0_letSpeak 8 = .ok (.iconst (-1), 1) := by decide +kernel
theorem dX0_letSpeak_9 : decode cX0_letSpeak 9 = .ok (.goto 7, 3) := by decide +kernel
theorem dX0_letSpeak_12 : decode cX0_letSpeak 12 = .ok (.aload_n 0, 1) := by decide +kernel
theorem dX0_letSpeak_13 : decode cX0_letSpeak 13 = .ok (.getfield 47, 3) := by decide +kernel
theorem dX0_letSpeak_16 : decode cX0_letSpeak 16 = .ok (.istore_n 3, 1) := by decide +kernel
theorem dX0_letSpeak_17 : decode cX0_letSpeak 17 = .ok (.iload_n 3, 1) := by decide +kernel
theorem dX0_letSpeak_18 : decode cX0_letSpeak 18 = .ok (.iconst (-1), 1) := by decide +kernel
theorem dX0_letSpeak_19 : decode cX0_letSpeak 19 = .ok (.if_icmp .eq 13, 3) := by decide +kernel
theorem dX0_letSpeak_22 : decode cX0_letSpeak 22 = .ok (.aload_n 0, 1) := by decide +kernel
theorem dX0_letSpeak_23 : decode cX0_letSpeak 23 = .ok (.getfield 15, 3) := by decide +kernel
theorem dX0_letSpeak_26 : decode cX0_letSpeak 26 = .ok (.iload_n 1, 1) := by decide +kernel
theorem dX0_letSpeak_27 : decode cX0_letSpeak 27 = .ok (.dup2, 1) := by decide +kernel
theorem dX0_letSpeak_28 : decode cX0_letSpeak 28 = .ok (.iaload, 1) := by decide +kernel
theorem dX0_letSpeak_29 : decode cX0_letSpeak 29 = .ok (.iconst 1, 1) := by decide +kernel
theorem dX0_letSpeak_30 : decode cX0_letSpeak 30 = .ok (.iadd, 1) := by decide +kernel
theorem dX0_letSpeak_31 : decode cX0_letSpeak 31 = .ok (.iastore, 1) := by decide +kernel
theorem dX0_letSpeak_32 : decode cX0_letSpeak 32 = .ok (.aload_n 0, 1) := by decide +kernel
theorem dX0_letSpeak_33 : decode cX0_letSpeak 33 = .ok (.iload_n 1, 1) := by decide +kernel
theorem dX0_letSpeak_34 : decode cX0_letSpeak 34 = .ok (.putfield 47, 3) := by decide +kernel
theorem dX0_letSpeak_37 : decode cX0_letSpeak 37 = .ok (.aload_n 0, 1) := by decide +kernel
theorem dX0_letSpeak_38 : decode cX0_letSpeak 38 = .ok (.iload_n 2, 1) := by decide +kernel
theorem dX0_letSpeak_39 : decode cX0_letSpeak 39 = .ok (.putfield 50, 3) := by decide +kernel
theorem dX0_letSpeak_42 : decode cX0_letSpeak 42 = .ok (.iload_n 3, 1) := by decide +kernel
theorem dX0_letSpeak_43 : decode cX0_letSpeak 43 = .ok (.ireturn, 1) := by decide +kernel
set_option maxRecDepth 20000 in
theorem ggX0_letCough_X0_unsaidByCough : GoodIn wsX0_letCough wsX0_unsaidByCough := goodIn_r _ [7, 8, 9, 10, 11, 12, 13, 14, 15, 16, 17, 18, 19, 20, 21, 22, 23, 24, 25] (by decide +kernel) (by decide +kernel)
set_option maxRecDepth 20000 in
theorem gX0_letCough_X0_unsaidByCough : GoodIn wsX0_letCough (wsV RX0 80 RX0 yX0_unsaidByCough wsX0_unsaidByCough) := goodIn_app (goodIn_of _ (by decide +kernel)) ggX0_letCough_X0_unsaidByCough
theorem dX0_letCough_0 : decode cX0_letCough 0 = .ok (.aload_n 0, 1) := by decide +kernel
theorem dX0_letCough_1 : decode cX0_letCough 1 = .ok (.iload_n 1, 1) := by decide +kernel
theorem dX0_letCough_2 : decode cX0_letCough 2 = .ok (.iload_n 2, 1) := by decide +kernel
theorem dX0_letCough_3 : decode cX0_letCough 3 = .ok (.invokevirtual 80, 3) := by decide +kernel
theorem dX0_letCough_6 : decode cX0_letCough 6 = .ok (.istore_n 3, 1) := by decide +kernel
theorem dX0_letCough_7 : decode cX0_letCough 7 = .ok (.aload_n 0, 1) := by decide +kernel
theorem dX0_letCough_8 : decode cX0_letCough 8 = .ok (.getfield 18, 3) := by decide +kernel
theorem dX0_letCough_11 : decode cX0_letCough 11 = .ok (.iload_n 1, 1) := by decide +kernel
theorem dX0_letCough_12 : decode cX0_letCough 12 = .ok (.dup2, 1) := by decide +kernel
theorem dX0_letCough_13 : decode cX0_letCough 13 = .ok (.iaload, 1) := by decide +kernel
theorem dX0_letCough_14 : decode cX0_letCough 14 = .ok (.iconst 1, 1) := by decide +kernel
theorem dX0_letCough_15 : decode cX0_letCough 15 = .ok (.iadd, 1) := by decide +kernel
theorem dX0_letCough_16 : decode cX0_letCough 16 = .ok (.iastore, 1) := by decide +kernel
theorem dX0_letCough_17 : decode cX0_letCough 17 = .ok (.aload_n 0, 1) := by decide +kernel
theorem dX0_letCough_18 : decode cX0_letCough 18 = .ok (.getfield 21, 3) := by decide +kernel
theorem dX0_letCough_21 : decode cX0_letCough 21 = .ok (.iload_n 1, 1) := by decide +kernel
theorem dX0_letCough_22 : decode cX0_letCough 22 = .ok (.dup2, 1) := by decide +kernel
theorem dX0_letCough_23 : decode cX0_letCough 23 = .ok (.iaload, 1) := by decide +kernel
theorem dX0_letCough_24 : decode cX0_letCough 24 = .ok (.iload_n 3, 1) := by decide +kernel
theorem dX0_letCough_25 : decode cX0_letCough 25 = .ok (.iadd, 1) := by decide +kernel
theorem dX0_letCough_26 : decode cX0_letCough 26 = .ok (.iastore, 1) := by decide +kernel
theorem dX0_letCough_27 : decode cX0_letCough 27 = .ok (.iload_n 3, 1) := by decide +kernel
theorem dX0_letCough_28 : decode cX0_letCough 28 = .ok (.ireturn, 1) := by decide +kernel
theorem dX0_unsaidByCough_0 : decode cX0_unsaidByCough 0 = .ok (.aload_n 0, 1) := by decide +kernel
theorem dX0_unsaidByCough_1 : decode cX0_unsaidByCough 1 = .ok (.getfield 47, 3) := by decide +kernel
theorem dX0_unsaidByCough_4 : decode cX0_unsaidByCough 4 = .ok (.iconst (-1), 1) := by decide +kernel
theorem dX0_unsaidByCough_5 : decode cX0_unsaidByCough 5 = .ok (.if_icmp .ne 5, 3) := by decide +kernel
theorem dX0_unsaidByCough_8 : decode cX0_unsaidByCough 8 = .ok (.iload_n 2, 1) := by decide +kernel
theorem dX0_unsaidByCough_9 : decode cX0_unsaidByCough 9 = .ok (.ireturn, 1) := by decide +kernel
theorem dX0_unsaidByCough_10 : decode cX0_unsaidByCough 10 = .ok (.aload_n 0, 1) := by decide +kernel
theorem dX0_unsaidByCough_11 : decode cX0_unsaidByCough 11 = .ok (.getfield 47, 3) := by decide +kernel
theorem dX0_unsaidByCough_14 : decode cX0_unsaidByCough 14 = .ok (.iload_n 1, 1) := by decide +kernel
theorem dX0_unsaidByCough_15 : decode cX0_unsaidByCough 15 = .ok (.if_icmp .ne 7, 3) := by decide +kernel
theorem dX0_unsaidByCough_18 : decode cX0_unsaidByCough 18 = .ok (.iconst 0, 1) := by decide +kernel
theorem dX0_unsaidByCough_19 : decode cX0_unsaidByCough 19 = .ok (.goto 6, 3) := by decide +kernel
theorem dX0_unsaidByCough_22 : decode cX0_unsaidByCough 22 = .ok (.iload_n 2, 1) := by decide +kernel
theorem dX0_unsaidByCough_23 : decode cX0_unsaidByCough 23 = .ok (.iconst 2, 1) := by decide +kernel
theorem dX0_unsaidByCough_24 : decode cX0_unsaidByCough 24 = .ok (.idiv, 1) := by decide +kernel
theorem dX0_unsaidByCough_25 : decode cX0_unsaidByCough 25 = .ok (.ireturn, 1) := by decide +kernel
set_option maxRecDepth 20000 in
theorem ggX0_send_X1_pairOf : GoodIn wsX0_send wsX1_pairOf := goodIn_r _ [6] (by decide +kernel) (by decide +kernel)
set_option maxRecDepth 20000 in
theorem gX0_send_X1_pairOf_n84 : GoodIn wsX0_send (wsX1_pairOf) := ggX0_send_X1_pairOf
set_option maxRecDepth 20000 in
theorem ggX0_send_X0_wayOf : GoodIn wsX0_send wsX0_wayOf := goodIn_r _ [11, 12, 13, 14, 10, 15, 16, 17, 18, 19, 20, 21, 22, 23, 24, 25, 26, 27, 28, 29, 30, 31, 32, 33, 34, 35, 36, 37, 38, 39, 40] (by decide +kernel) (by decide +kernel)
set_option maxRecDepth 20000 in
theorem gX0_send_X0_wayOf : GoodIn wsX0_send (wsV RX0 87 RX0 yX0_wayOf wsX0_wayOf) := goodIn_app (goodIn_of _ (by decide +kernel)) ggX0_send_X0_wayOf
theorem dX0_send_0 : decode cX0_send 0 = .ok (.iload_n 1, 1) := by decide +kernel
theorem dX0_send_1 : decode cX0_send 1 = .ok (.iload_n 2, 1) := by decide +kernel
theorem dX0_send_2 : decode cX0_send 2 = .ok (.invokestatic 84, 3) := by decide +kernel
theorem dX0_send_5 : decode cX0_send 5 = .ok (.istore_n 3, 1) := by decide +kernel
theorem dX0_send_6 : decode cX0_send 6 = .ok (.aload_n 0, 1) := by decide +kernel
theorem dX0_send_7 : decode cX0_send 7 = .ok (.getfield 65, 3) := by decide +kernel
theorem dX0_send_10 : decode cX0_send 10 = .ok (.aload_n 0, 1) := by decide +kernel
theorem dX0_send_11 : decode cX0_send 11 = .ok (.getfield 30, 3) := by decide +kernel
theorem dX0_send_14 : decode cX0_send 14 = .ok (.arraylength, 1) := by decide +kernel
theorem dX0_send_15 : decode cX0_send 15 = .ok (.if_icmp .ge 35, 3) := by decide +kernel
theorem dX0_send_18 : decode cX0_send 18 = .ok (.aload_n 0, 1) := by decide +kernel
theorem dX0_send_19 : decode cX0_send 19 = .ok (.getfield 30, 3) := by decide +kernel
theorem dX0_send_22 : decode cX0_send 22 = .ok (.aload_n 0, 1) := by decide +kernel
theorem dX0_send_23 : decode cX0_send 23 = .ok (.getfield 65, 3) := by decide +kernel
theorem dX0_send_26 : decode cX0_send 26 = .ok (.iload_n 3, 1) := by decide +kernel
theorem dX0_send_27 : decode cX0_send 27 = .ok (.iastore, 1) := by decide +kernel
theorem dX0_send_28 : decode cX0_send 28 = .ok (.aload_n 0, 1) := by decide +kernel
theorem dX0_send_29 : decode cX0_send 29 = .ok (.dup, 1) := by decide +kernel
theorem dX0_send_30 : decode cX0_send 30 = .ok (.getfield 65, 3) := by decide +kernel
theorem dX0_send_33 : decode cX0_send 33 = .ok (.iconst 1, 1) := by decide +kernel
theorem dX0_send_34 : decode cX0_send 34 = .ok (.iadd, 1) := by decide +kernel
theorem dX0_send_35 : decode cX0_send 35 = .ok (.putfield 65, 3) := by decide +kernel
theorem dX0_send_38 : decode cX0_send 38 = .ok (.aload_n 0, 1) := by decide +kernel
theorem dX0_send_39 : decode cX0_send 39 = .ok (.getfield 24, 3) := by decide +kernel
theorem dX0_send_42 : decode cX0_send 42 = .ok (.iload_n 3, 1) := by decide +kernel
theorem dX0_send_43 : decode cX0_send 43 = .ok (.aload_n 0, 1) := by decide +kernel
theorem dX0_send_44 : decode cX0_send 44 = .ok (.iload_n 1, 1) := by decide +kernel
theorem dX0_send_45 : decode cX0_send 45 = .ok (.iload_n 2, 1) := by decide +kernel
theorem dX0_send_46 : decode cX0_send 46 = .ok (.invokevirtual 87, 3) := by decide +kernel
theorem dX0_send_49 : decode cX0_send 49 = .ok (.iastore, 1) := by decide +kernel
theorem dX0_send_50 : decode cX0_send 50 = .ok (.aload_n 0, 1) := by decide +kernel
theorem dX0_send_51 : decode cX0_send 51 = .ok (.iload_n 1, 1) := by decide +kernel
theorem dX0_send_52 : decode cX0_send 52 = .ok (.iload_n 2, 1) := by decide +kernel
theorem dX0_send_53 : decode cX0_send 53 = .ok (.invokevirtual 87, 3) := by decide +kernel
theorem dX0_send_56 : decode cX0_send 56 = .ok (.ireturn, 1) := by decide +kernel
set_option maxRecDepth 20000 in
theorem ggX0_goBy_X0_goOneSecond : GoodIn wsX0_goBy wsX0_goOneSecond := goodIn_r _ [5, 6, 7, 8, 9, 4, 10, 11, 12, 13, 14, 15, 16, 17, 18, 19, 20, 21, 22, 23, 24, 25, 26, 27, 28, 29, 30, 31, 32, 33, 34, 35, 36, 37, 38, 39, 40, 41, 42, 43, 44, 45, 46, 47, 48, 49, 50, 51, 52, 53, 54, 55, 56, 57, 58, 59, 60, 61, 62, 63] (by decide +kernel) (by decide +kernel)
set_option maxRecDepth 20000 in
theorem gX0_goBy_X0_goOneSecond : GoodIn wsX0_goBy (wsV RX0 90 RX0 yX0_goOneSecond wsX0_goOneSecond) := goodIn_app (goodIn_of _ (by decide +kernel)) ggX0_goBy_X0_goOneSecond
theorem dX0_goBy_0 : decode cX0_goBy 0 = .ok (.iconst 0, 1) := by decide +kernel
theorem dX0_goBy_1 : decode cX0_goBy 1 = .ok (.istore_n 2, 1) := by decide +kernel
theorem dX0_goBy_2 : decode cX0_goBy 2 = .ok (.iload_n 2, 1) := by decide +kernel
theorem dX0_goBy_3 : decode cX0_goBy 3 = .ok (.iload_n 1, 1) := by decide +kernel
theorem dX0_goBy_4 : decode cX0_goBy 4 = .ok (.if_icmp .ge 13, 3) := by decide +kernel
theorem dX0_goBy_7 : decode cX0_goBy 7 = .ok (.aload_n 0, 1) := by decide +kernel
theorem dX0_goBy_8 : decode cX0_goBy 8 = .ok (.invokevirtual 90, 3) := by decide +kernel
theorem dX0_goBy_11 : decode cX0_goBy 11 = .ok (.iinc 2 1, 3) := by decide +kernel
theorem dX0_goBy_14 : decode cX0_goBy 14 = .ok (.goto (-12), 3) := by decide +kernel
theorem dX0_goBy_17 : decode cX0_goBy 17 = .ok (.return_, 1) := by decide +kernel
set_option maxRecDepth 20000 in
theorem ggX0_goOneSecond_X0_speakOrPause : GoodIn wsX0_goOneSecond wsX0_speakOrPause := goodIn_r _ [6, 7, 8, 9, 10, 11, 12, 13, 14, 5, 15, 16, 43, 44, 45, 46, 47, 48, 49, 50, 51, 52, 53, 54, 55, 56, 57, 58, 59] (by decide +kernel) (by decide +kernel)
set_option maxRecDepth 20000 in
theorem gX0_goOneSecond_X0_speakOrPause : GoodIn wsX0_goOneSecond (wsV RX0 93 RX0 yX0_speakOrPause wsX0_speakOrPause) := goodIn_app (goodIn_of _ (by decide +kernel)) ggX0_goOneSecond_X0_speakOrPause
set_option maxRecDepth 20000 in
theorem ggX0_goOneSecond_X0_moveGlances : GoodIn wsX0_goOneSecond wsX0_moveGlances := goodIn_r _ [20, 21, 22, 23, 24, 25, 26, 5, 27, 28, 29, 7, 30, 31, 32, 33, 34, 35, 36, 37, 38, 39, 40, 41, 42, 43, 44, 45, 46, 47, 48, 49, 50, 51, 52, 53, 54, 55, 56, 57, 58, 59] (by decide +kernel) (by decide +kernel)
set_option maxRecDepth 20000 in
theorem gX0_goOneSecond_X0_moveGlances : GoodIn wsX0_goOneSecond (wsV RX0 96 RX0 yX0_moveGlances wsX0_moveGlances) := goodIn_app (goodIn_of _ (by decide +kernel)) ggX0_goOneSecond_X0_moveGlances
theorem dX0_goOneSecond_0 : decode cX0_goOneSecond 0 = .ok (.aload_n 0, 1) := by decide +kernel
theorem dX0_goOneSecond_1 : decode cX0_goOneSecond 1 = .ok (.invokevirtual 93, 3) := by decide +kernel
theorem dX0_goOneSecond_4 : decode cX0_goOneSecond 4 = .ok (.aload_n 0, 1) := by decide +kernel
theorem dX0_goOneSecond_5 : decode cX0_goOneSecond 5 = .ok (.invokevirtual 96, 3) := by decide +kernel
theorem dX0_goOneSecond_8 : decode cX0_goOneSecond 8 = .ok (.aload_n 0, 1) := by decide +kernel
theorem dX0_goOneSecond_9 : decode cX0_goOneSecond 9 = .ok (.dup, 1) := by decide +kernel
theorem dX0_goOneSecond_10 : decode cX0_goOneSecond 10 = .ok (.getfield 44, 3) := by decide +kernel
theorem dX0_goOneSecond_13 : decode cX0_goOneSecond 13 = .ok (.iconst 1, 1) := by decide +kernel
theorem dX0_goOneSecond_14 : decode cX0_goOneSecond 14 = .ok (.iadd, 1) := by decide +kernel
theorem dX0_goOneSecond_15 : decode cX0_goOneSecond 15 = .ok (.putfield 44, 3) := by decide +kernel
theorem dX0_goOneSecond_18 : decode cX0_goOneSecond 18 = .ok (.return_, 1) := by decide +kernel
set_option maxRecDepth 20000 in
theorem ggX0_speakOrPause_X0_beyondMultipleOfLimit : GoodIn wsX0_speakOrPause wsX0_beyondMultipleOfLimit := goodIn_r _ [10, 11, 12, 13, 14, 15, 16, 17, 18, 19, 20, 21, 22, 23, 24, 25, 26, 27, 28] (by decide +kernel) (by decide +kernel)
set_option maxRecDepth 20000 in
theorem gX0_speakOrPause_X0_beyondMultipleOfLimit : GoodIn wsX0_speakOrPause (wsV RX0 99 RX0 yX0_beyondMultipleOfLimit wsX0_beyondMultipleOfLimit) := goodIn_app (goodIn_of _ (by decide +kernel)) ggX0_speakOrPause_X0_beyondMultipleOfLimit
theorem dX0_speakOrPause_0 : decode cX0_speakOrPause 0 = .ok (.aload_n 0, 1) := by decide +kernel
theorem dX0_speakOrPause_1 : decode cX0_speakOrPause 1 = .ok (.getfield 47, 3) := by decide +kernel
theorem dX0_speakOrPause_4 : decode cX0_speakOrPause 4 = .ok (.iconst (-1), 1) := by decide +kernel
theorem dX0_speakOrPause_5 : decode cX0_speakOrPause 5 = .ok (.if_icmp .ne 35, 3) := by decide +kernel
theorem dX0_speakOrPause_8 : decode cX0_speakOrPause 8 = .ok (.aload_n 0, 1) := by decide +kernel
theorem dX0_speakOrPause_9 : decode cX0_speakOrPause 9 = .ok (.dup, 1) := by decide +kernel
theorem dX0_speakOrPause_10 : decode cX0_speakOrPause 10 = .ok (.getfield 53, 3) := by decide +kernel
theorem dX0_speakOrPause_13 : decode cX0_speakOrPause 13 = .ok (.iconst 1, 1) := by decide +kernel
theorem dX0_speakOrPause_14 : decode cX0_speakOrPause 14 = .ok (.iadd, 1) := by decide +kernel
theorem dX0_speakOrPause_15 : decode cX0_speakOrPause 15 = .ok (.putfield 53, 3) := by decide +kernel
theorem dX0_speakOrPause_18 : decode cX0_speakOrPause 18 = .ok (.aload_n 0, 1) := by decide +kernel
theorem dX0_speakOrPause_19 : decode cX0_speakOrPause 19 = .ok (.aload_n 0, 1) := by decide +kernel
theorem dX0_speakOrPause_20 : decode cX0_speakOrPause 20 = .ok (.getfield 53, 3) := by decide +kernel
theorem dX0_speakOrPause_23 : decode cX0_speakOrPause 23 = .ok (.invokevirtual 99, 3) := by decide +kernel
theorem dX0_speakOrPause_26 : decode cX0_speakOrPause 26 = .ok (.ifCond .ne 13, 3) := by decide +kernel
theorem dX0_speakOrPause_29 : decode cX0_speakOrPause 29 = .ok (.aload_n 0, 1) := by decide +kernel
theorem dX0_speakOrPause_30 : decode cX0_speakOrPause 30 = .ok (.dup, 1) := by decide +kernel
theorem dX0_speakOrPause_31 : decode cX0_speakOrPause 31 = .ok (.getfield 56, 3) := by decide +kernel
theorem dX0_speakOrPause_34 : decode cX0_speakOrPause 34 = .ok (.iconst 1, 1) := by decide +kernel
theorem dX0_speakOrPause_35 : decode cX0_speakOrPause 35 = .ok (.iadd, 1) := by decide +kernel
theorem dX0_speakOrPause_36 : decode cX0_speakOrPause 36 = .ok (.putfield 56, 3) := by decide +kernel
theorem dX0_speakOrPause_39 : decode cX0_speakOrPause 39 = .ok (.return_, 1) := by decide +kernel
theorem dX0_speakOrPause_40 : decode cX0_speakOrPause 40 = .ok (.aload_n 0, 1) := by decide +kernel
theorem dX0_speakOrPause_41 : decode cX0_speakOrPause 41 = .ok (.iconst 0, 1) := by decide +kernel
theorem dX0_speakOrPause_42 : decode cX0_speakOrPause 42 = .ok (.putfield 53, 3) := by decide +kernel
theorem dX0_speakOrPause_45 : decode cX0_speakOrPause 45 = .ok (.aload_n 0, 1) := by decide +kernel
theorem dX0_speakOrPause_46 : decode cX0_speakOrPause 46 = .ok (.getfield 9, 3) := by decide +kernel
theorem dX0_speakOrPause_49 : decode cX0_speakOrPause 49 = .ok (.aload_n 0, 1) := by decide +kernel
theorem dX0_speakOrPause_50 : decode cX0_speakOrPause 50 = .ok (.getfield 47, 3) := by decide +kernel
theorem dX0_speakOrPause_53 : decode cX0_speakOrPause 53 = .ok (.dup2, 1) := by decide +kernel
theorem dX0_speakOrPause_54 : decode cX0_speakOrPause 54 = .ok (.iaload, 1) := by decide +kernel
theorem dX0_speakOrPause_55 : decode cX0_speakOrPause 55 = .ok (.iconst 1, 1) := by decide +kernel
theorem dX0_speakOrPause_56 : decode cX0_speakOrPause 56 = .ok (.iadd, 1) := by decide +kernel
theorem dX0_speakOrPause_57 : decode cX0_speakOrPause 57 = .ok (.iastore, 1) := by decide +kernel
theorem dX0_speakOrPause_58 : decode cX0_speakOrPause 58 = .ok (.aload_n 0, 1) := by decide +kernel
theorem dX0_speakOrPause_59 : decode cX0_speakOrPause 59 = .ok (.dup, 1) := by decide +kernel
theorem dX0_speakOrPause_60 : decode cX0_speakOrPause 60 = .ok (.getfield 50, 3) := by decide +kernel
theorem dX0_speakOrPause_63 : decode cX0_speakOrPause 63 = .ok (.iconst 1, 1) := by decide +kernel
theorem dX0_speakOrPause_64 : decode cX0_speakOrPause 64 = .ok (.isub, 1) := by decide +kernel
theorem dX0_speakOrPause_65 : decode cX0_speakOrPause 65 = .ok (.putfield 50, 3) := by decide +kernel
theorem dX0_speakOrPause_68 : decode cX0_speakOrPause 68 = .ok (.aload_n 0, 1) := by decide +kernel
theorem dX0_speakOrPause_69 : decode cX0_speakOrPause 69 = .ok (.getfield 50, 3) := by decide +kernel
theorem dX0_speakOrPause_72 : decode cX0_speakOrPause 72 = .ok (.ifCond .ne 8, 3) := by decide +kernel
theorem dX0_speakOrPause_75 : decode cX0_speakOrPause 75 = .ok (.aload_n 0, 1) := by decide +kernel
theorem dX0_speakOrPause_76 : decode cX0_speakOrPause 76 = .ok (.iconst (-1), 1) := by decide +kernel
theorem dX0_speakOrPause_77 : decode cX0_speakOrPause 77 = .ok (.putfield 47, 3) := by decide +kernel
theorem dX0_speakOrPause_80 : decode cX0_speakOrPause 80 = .ok (.return_, 1) := by decide +kernel
set_option maxRecDepth 20000 in
theorem ggX0_moveGlances_X0_arrive : GoodIn wsX0_moveGlances wsX0_arrive := goodIn_r _ [8, 9, 10, 2, 11, 12, 13, 14, 15, 16, 17, 18, 19, 7, 20, 25, 26, 27, 28, 29, 30, 31, 32, 33, 34, 35, 36, 37, 38, 39, 40, 41] (by decide +kernel) (by decide +kernel)
set_option maxRecDepth 20000 in
theorem gX0_moveGlances_X0_arrive : GoodIn wsX0_moveGlances (wsV RX0 103 RX0 yX0_arrive wsX0_arrive) := goodIn_app (goodIn_of _ (by decide +kernel)) ggX0_moveGlances_X0_arrive
set_option maxRecDepth 20000 in
theorem ggX0_moveGlances_X0_forgetThoseOver : GoodIn wsX0_moveGlances wsX0_forgetThoseOver := goodIn_r _ [24, 1, 3, 17, 18, 19, 7, 20, 2, 25, 26, 27, 28, 29, 30, 31, 32, 33, 34, 35, 36, 37, 38, 39, 40, 41] (by decide +kernel) (by decide +kernel)
set_option maxRecDepth 20000 in
theorem gX0_moveGlances_X0_forgetThoseOver : GoodIn wsX0_moveGlances (wsV RX0 107 RX0 yX0_forgetThoseOver wsX0_forgetThoseOver) := goodIn_app (goodIn_of _ (by decide +kernel)) ggX0_moveGlances_X0_forgetThoseOver
theorem dX0_moveGlances_0 : decode cX0_moveGlances 0 = .ok (.iconst 0, 1) := by decide +kernel
theorem dX0_moveGlances_1 : decode cX0_moveGlances 1 = .ok (.istore_n 1, 1) := by decide +kernel
theorem dX0_moveGlances_2 : decode cX0_moveGlances 2 = .ok (.iload_n 1, 1) := by decide +kernel
theorem dX0_moveGlances_3 : decode cX0_moveGlances 3 = .ok (.aload_n 0, 1) := by decide +kernel
theorem dX0_moveGlances_4 : decode cX0_moveGlances 4 = .ok (.getfield 65, 3) := by decide +kernel
theorem dX0_moveGlances_7 : decode cX0_moveGlances 7 = .ok (.if_icmp .ge 24, 3) := by decide +kernel
theorem dX0_moveGlances_10 : decode cX0_moveGlances 10 = .ok (.aload_n 0, 1) := by decide +kernel
theorem dX0_moveGlances_11 : decode cX0_moveGlances 11 = .ok (.getfield 24, 3) := by decide +kernel
theorem dX0_moveGlances_14 : decode cX0_moveGlances 14 = .ok (.aload_n 0, 1) := by decide +kernel
theorem dX0_moveGlances_15 : decode cX0_moveGlances 15 = .ok (.getfield 30, 3) := by decide +kernel
theorem dX0_moveGlances_18 : decode cX0_moveGlances 18 = .ok (.iload_n 1, 1) := by decide +kernel
theorem dX0_moveGlances_19 : decode cX0_moveGlances 19 = .ok (.iaload, 1) := by decide +kernel
theorem dX0_moveGlances_20 : decode cX0_moveGlances 20 = .ok (.dup2, 1) := by decide +kernel
theorem dX0_moveGlances_21 : decode cX0_moveGlances 21 = .ok (.iaload, 1) := by decide +kernel
theorem dX0_moveGlances_22 : decode cX0_moveGlances 22 = .ok (.iconst 1, 1) := by decide +kernel
theorem dX0_moveGlances_23 : decode cX0_moveGlances 23 = .ok (.isub, 1) := by decide +kernel
theorem dX0_moveGlances_24 : decode cX0_moveGlances 24 = .ok (.iastore, 1) := by decide +kernel
theorem dX0_moveGlances_25 : decode cX0_moveGlances 25 = .ok (.iinc 1 1, 3) := by decide +kernel
theorem dX0_moveGlances_28 : decode cX0_moveGlances 28 = .ok (.goto (-26), 3) := by decide +kernel
theorem dX0_moveGlances_31 : decode cX0_moveGlances 31 = .ok (.iconst 0, 1) := by decide +kernel
theorem dX0_moveGlances_32 : decode cX0_moveGlances 32 = .ok (.istore_n 1, 1) := by decide +kernel
theorem dX0_moveGlances_33 : decode cX0_moveGlances 33 = .ok (.iload_n 1, 1) := by decide +kernel
theorem dX0_moveGlances_34 : decode cX0_moveGlances 34 = .ok (.aload_n 0, 1) := by decide +kernel
theorem dX0_moveGlances_35 : decode cX0_moveGlances 35 = .ok (.getfield 65, 3) := by decide +kernel
theorem dX0_moveGlances_38 : decode cX0_moveGlances 38 = .ok (.if_icmp .ge 37, 3) := by decide +kernel
theorem dX0_moveGlances_41 : decode cX0_moveGlances 41 = .ok (.aload_n 0, 1) := by decide +kernel
theorem dX0_moveGlances_42 : decode cX0_moveGlances 42 = .ok (.getfield 30, 3) := by decide +kernel
theorem dX0_moveGlances_45 : decode cX0_moveGlances 45 = .ok (.iload_n 1, 1) := by decide +kernel
theorem dX0_moveGlances_46 : decode cX0_moveGlances 46 = .ok (.iaload, 1) := by decide +kernel
theorem dX0_moveGlances_47 : decode cX0_moveGlances 47 = .ok (.istore_n 2, 1) := by decide +kernel
theorem dX0_moveGlances_48 : decode cX0_moveGlances 48 = .ok (.aload_n 0, 1) := by decide +kernel
theorem dX0_moveGlances_49 : decode cX0_moveGlances 49 = .ok (.getfield 24, 3) := by decide +kernel
theorem dX0_moveGlances_52 : decode cX0_moveGlances 52 = .ok (.iload_n 2, 1) := by decide +kernel
theorem dX0_moveGlances_53 : decode cX0_moveGlances 53 = .ok (.iaload, 1) := by decide +kernel
theorem dX0_moveGlances_54 : decode cX0_moveGlances 54 = .ok (.ifCond .ne 15, 3) := by decide +kernel
theorem dX0_moveGlances_57 : decode cX0_moveGlances 57 = .ok (.aload_n 0, 1) := by decide +kernel
theorem dX0_moveGlances_58 : decode cX0_moveGlances 58 = .ok (.iload_n 2, 1) := by decide +kernel
theorem dX0_moveGlances_59 : decode cX0_moveGlances 59 = .ok (.bipush 10, 2) := by decide +kernel
theorem dX0_moveGlances_61 : decode cX0_moveGlances 61 = .ok (.idiv, 1) := by decide +kernel
theorem dX0_moveGlances_62 : decode cX0_moveGlances 62 = .ok (.iload_n 2, 1) := by decide +kernel
theorem dX0_moveGlances_63 : decode cX0_moveGlances 63 = .ok (.bipush 10, 2) := by decide +kernel
theorem dX0_moveGlances_65 : decode cX0_moveGlances 65 = .ok (.irem, 1) := by decide +kernel
theorem dX0_moveGlances_66 : decode cX0_moveGlances 66 = .ok (.invokevirtual 103, 3) := by decide +kernel
theorem dX0_moveGlances_69 : decode cX0_moveGlances 69 = .ok (.iinc 1 1, 3) := by decide +kernel
theorem dX0_moveGlances_72 : decode cX0_moveGlances 72 = .ok (.goto (-39), 3) := by decide +kernel
theorem dX0_moveGlances_75 : decode cX0_moveGlances 75 = .ok (.aload_n 0, 1) := by decide +kernel
theorem dX0_moveGlances_76 : decode cX0_moveGlances 76 = .ok (.invokevirtual 107, 3) := by decide +kernel
theorem dX0_moveGlances_79 : decode cX0_moveGlances 79 = .ok (.return_, 1) := by decide +kernel
set_option maxRecDepth 20000 in
theorem ggX0_arrive_X1_pairOf : GoodIn wsX0_arrive wsX1_pairOf := goodIn_r _ [9] (by decide +kernel) (by decide +kernel)
set_option maxRecDepth 20000 in
theorem gX0_arrive_X1_pairOf_n84 : GoodIn wsX0_arrive (wsX1_pairOf) := ggX0_arrive_X1_pairOf
set_option maxRecDepth 20000 in
theorem ggX0_arrive_X0_isOnItsWay : GoodIn wsX0_arrive wsX0_isOnItsWay := goodIn_r _ [14, 3, 15, 16, 17, 18, 19, 20, 21, 22, 23, 24, 25, 26, 27, 28, 29, 30, 31] (by decide +kernel) (by decide +kernel)
set_option maxRecDepth 20000 in
theorem gX0_arrive_X0_isOnItsWay : GoodIn wsX0_arrive (wsV RX0 110 RX0 yX0_isOnItsWay wsX0_isOnItsWay) := goodIn_app (goodIn_of _ (by decide +kernel)) ggX0_arrive_X0_isOnItsWay
theorem dX0_arrive_0 : decode cX0_arrive 0 = .ok (.iload_n 1, 1) := by decide +kernel
theorem dX0_arrive_1 : decode cX0_arrive 1 = .ok (.iload_n 2, 1) := by decide +kernel
theorem dX0_arrive_2 : decode cX0_arrive 2 = .ok (.invokestatic 84, 3) := by decide +kernel
theorem dX0_arrive_5 : decode cX0_arrive 5 = .ok (.istore_n 3, 1) := by decide +kernel
theorem dX0_arrive_6 : decode cX0_arrive 6 = .ok (.iload_n 2, 1) := by decide +kernel
theorem dX0_arrive_7 : decode cX0_arrive 7 = .ok (.iload_n 1, 1) := by decide +kernel
theorem dX0_arrive_8 : decode cX0_arrive 8 = .ok (.invokestatic 84, 3) := by decide +kernel
theorem dX0_arrive_11 : decode cX0_arrive 11 = .ok (.istore 4, 2) := by decide +kernel
theorem dX0_arrive_13 : decode cX0_arrive 13 = .ok (.aload_n 0, 1) := by decide +kernel
theorem dX0_arrive_14 : decode cX0_arrive 14 = .ok (.iload 4, 2) := by decide +kernel
theorem dX0_arrive_16 : decode cX0_arrive 16 = .ok (.invokevirtual 110, 3) := by decide +kernel
theorem dX0_arrive_19 : decode cX0_arrive 19 = .ok (.ifCond .eq 44, 3) := by decide +kernel
theorem dX0_arrive_22 : decode cX0_arrive 22 = .ok (.aload_n 0, 1) := by decide +kernel
theorem dX0_arrive_23 : decode cX0_arrive 23 = .ok (.dup, 1) := by decide +kernel
theorem dX0_arrive_24 : decode cX0_arrive 24 = .ok (.getfield 59, 3) := by decide +kernel
theorem dX0_arrive_27 : decode cX0_arrive 27 = .ok (.iconst 1, 1) := by decide +kernel
theorem dX0_arrive_28 : decode cX0_arrive 28 = .ok (.iadd, 1) := by decide +kernel
theorem dX0_arrive_29 : decode cX0_arrive 29 = .ok (.putfield 59, 3) := by decide +kernel
theorem dX0_arrive_32 : decode cX0_arrive 32 = .ok (.aload_n 0, 1) := by decide +kernel
theorem dX0_arrive_33 : decode cX0_arrive 33 = .ok (.getfield 21, 3) := by decide +kernel
theorem dX0_arrive_36 : decode cX0_arrive 36 = .ok (.iload_n 1, 1) := by decide +kernel
theorem dX0_arrive_37 : decode cX0_arrive 37 = .ok (.dup2, 1) := by decide +kernel
theorem dX0_arrive_38 : decode cX0_arrive 38 = .ok (.iaload, 1) := by decide +kernel
theorem dX0_arrive_39 : decode cX0_arrive 39 = .ok (.iconst 3, 1) := by decide +kernel
theorem dX0_arrive_40 : decode cX0_arrive 40 = .ok (.iadd, 1) := by decide +kernel
theorem dX0_arrive_41 : decode cX0_arrive 41 = .ok (.iastore, 1) := by decide +kernel
theorem dX0_arrive_42 : decode cX0_arrive 42 = .ok (.aload_n 0, 1) := by decide +kernel
theorem dX0_arrive_43 : decode cX0_arrive 43 = .ok (.getfield 21, 3) := by decide +kernel
theorem dX0_arrive_46 : decode cX0_arrive 46 = .ok (.iload_n 2, 1) := by decide +kernel
theorem dX0_arrive_47 : decode cX0_arrive 47 = .ok (.dup2, 1) := by decide +kernel
theorem dX0_arrive_48 : decode cX0_arrive 48 = .ok (.iaload, 1) := by decide +kernel
theorem dX0_arrive_49 : decode cX0_arrive 49 = .ok (.iconst 3, 1) := by decide +kernel
theorem dX0_arrive_50 : decode cX0_arrive 50 = .ok (.iadd, 1) := by decide +kernel
theorem dX0_arrive_51 : decode cX0_arrive 51 = .ok (.iastore, 1) := by decide +kernel
theorem dX0_arrive_52 : decode cX0_arrive 52 = .ok (.aload_n 0, 1) := by decide +kernel
theorem dX0_arrive_53 : decode cX0_arrive 53 = .ok (.getfield 24, 3) := by decide +kernel
theorem dX0_arrive_56 : decode cX0_arrive 56 = .ok (.iload 4, 2) := by decide +kernel
theorem dX0_arrive_58 : decode cX0_arrive 58 = .ok (.iconst (-1), 1) := by decide +kernel
theorem dX0_arrive_59 : decode cX0_arrive 59 = .ok (.iastore, 1) := by decide +kernel
theorem dX0_arrive_60 : decode cX0_arrive 60 = .ok (.goto 44, 3) := by decide +kernel
theorem dX0_arrive_63 : decode cX0_arrive 63 = .ok (.aload_n 0, 1) := by decide +kernel
theorem dX0_arrive_64 : decode cX0_arrive 64 = .ok (.getfield 47, 3) := by decide +kernel
theorem dX0_arrive_67 : decode cX0_arrive 67 = .ok (.iload_n 2, 1) := by decide +kernel
theorem dX0_arrive_68 : decode cX0_arrive 68 = .ok (.if_icmp .ne 16, 3) := by decide +kernel
theorem dX0_arrive_71 : decode cX0_arrive 71 = .ok (.aload_n 0, 1) := by decide +kernel
theorem dX0_arrive_72 : decode cX0_arrive 72 = .ok (.dup, 1) := by decide +kernel
theorem dX0_arrive_73 : decode cX0_arrive 73 = .ok (.getfield 62, 3) := by decide +kernel
theorem dX0_arrive_76 : decode cX0_arrive 76 = .ok (.iconst 1, 1) := by decide +kernel
theorem dX0_arrive_77 : decode cX0_arrive 77 = .ok (.iadd, 1) := by decide +kernel
theorem dX0_arrive_78 : decode cX0_arrive 78 = .ok (.putfield 62, 3) := by decide +kernel
theorem dX0_arrive_81 : decode cX0_arrive 81 = .ok (.goto 23, 3) := by decide +kernel
theorem dX0_arrive_84 : decode cX0_arrive 84 = .ok (.aload_n 0, 1) := by decide +kernel
theorem dX0_arrive_85 : decode cX0_arrive 85 = .ok (.getfield 27, 3) := by decide +kernel
theorem dX0_arrive_88 : decode cX0_arrive 88 = .ok (.iload_n 3, 1) := by decide +kernel
theorem dX0_arrive_89 : decode cX0_arrive 89 = .ok (.dup2, 1) := by decide +kernel
theorem dX0_arrive_90 : decode cX0_arrive 90 = .ok (.iaload, 1) := by decide +kernel
theorem dX0_arrive_91 : decode cX0_arrive 91 = .ok (.iconst 1, 1) := by decide +kernel
theorem dX0_arrive_92 : decode cX0_arrive 92 = .ok (.iadd, 1) := by decide +kernel
theorem dX0_arrive_93 : decode cX0_arrive 93 = .ok (.iastore, 1) := by decide +kernel
theorem dX0_arrive_94 : decode cX0_arrive 94 = .ok (.aload_n 0, 1) := by decide +kernel
theorem dX0_arrive_95 : decode cX0_arrive 95 = .ok (.getfield 21, 3) := by decide +kernel
theorem dX0_arrive_98 : decode cX0_arrive 98 = .ok (.iload_n 1, 1) := by decide +kernel
theorem dX0_arrive_99 : decode cX0_arrive 99 = .ok (.dup2, 1) := by decide +kernel
theorem dX0_arrive_100 : decode cX0_arrive 100 = .ok (.iaload, 1) := by decide +kernel
theorem dX0_arrive_101 : decode cX0_arrive 101 = .ok (.iconst 1, 1) := by decide +kernel
theorem dX0_arrive_102 : decode cX0_arrive 102 = .ok (.iadd, 1) := by decide +kernel
theorem dX0_arrive_103 : decode cX0_arrive 103 = .ok (.iastore, 1) := by decide +kernel
theorem dX0_arrive_104 : decode cX0_arrive 104 = .ok (.aload_n 0, 1) := by decide +kernel
theorem dX0_arrive_105 : decode cX0_arrive 105 = .ok (.getfield 24, 3) := by decide +kernel
theorem dX0_arrive_108 : decode cX0_arrive 108 = .ok (.iload_n 3, 1) := by decide +kernel
theorem dX0_arrive_109 : decode cX0_arrive 109 = .ok (.iconst (-1), 1) := by decide +kernel
theorem dX0_arrive_110 : decode cX0_arrive 110 = .ok (.iastore, 1) := by decide +kernel
theorem dX0_arrive_111 : decode cX0_arrive 111 = .ok (.return_, 1) := by decide +kernel
set_option maxRecDepth 20000 in
theorem ggX0_forgetThoseOver_X0_isOnItsWay : GoodIn wsX0_forgetThoseOver wsX0_isOnItsWay := goodIn_r _ [7, 8, 9, 10, 11, 12, 13, 14, 15, 16, 17, 18, 19, 20, 21, 22, 23, 24, 25] (by decide +kernel) (by decide +kernel)
set_option maxRecDepth 20000 in
theorem gX0_forgetThoseOver_X0_isOnItsWay : GoodIn wsX0_forgetThoseOver (wsV RX0 110 RX0 yX0_isOnItsWay wsX0_isOnItsWay) := goodIn_app (goodIn_of _ (by decide +kernel)) ggX0_forgetThoseOver_X0_isOnItsWay
theorem dX0_forgetThoseOver_0 : decode cX0_forgetThoseOver 0 = .ok (.iconst 0, 1) := by decide +kernel
theorem dX0_forgetThoseOver_1 : decode cX0_forgetThoseOver 1 = .ok (.istore_n 1, 1) := by decide +kernel
theorem dX0_forgetThoseOver_2 : decode cX0_forgetThoseOver 2 = .ok (.iconst 0, 1) := by decide +kernel
theorem dX0_forgetThoseOver_3 : decode cX0_forgetThoseOver 3 = .ok (.istore_n 2, 1) := by decide +kernel
theorem dX0_forgetThoseOver_4 : decode cX0_forgetThoseOver 4 = .ok (.iload_n 2, 1) := by decide +kernel
theorem dX0_forgetThoseOver_5 : decode cX0_forgetThoseOver 5 = .ok (.aload_n 0, 1) := by decide +kernel
theorem dX0_forgetThoseOver_6 : decode cX0_forgetThoseOver 6 = .ok (.getfield 65, 3) := by decide +kernel
theorem dX0_forgetThoseOver_9 : decode cX0_forgetThoseOver 9 = .ok (.if_icmp .ge 34, 3) := by decide +kernel
theorem dX0_forgetThoseOver_12 : decode cX0_forgetThoseOver 12 = .ok (.aload_n 0, 1) := by decide +kernel
theorem dX0_forgetThoseOver_13 : decode cX0_forgetThoseOver 13 = .ok (.getfield 30, 3) := by decide +kernel
theorem dX0_forgetThoseOver_16 : decode cX0_forgetThoseOver 16 = .ok (.iload_n 2, 1) := by decide +kernel
theorem dX0_forgetThoseOver_17 : decode cX0_forgetThoseOver 17 = .ok (.iaload, 1) := by decide +kernel
theorem dX0_forgetThoseOver_18 : decode cX0_forgetThoseOver 18 = .ok (.istore_n 3, 1) := by decide +kernel
theorem dX0_forgetThoseOver_19 : decode cX0_forgetThoseOver 19 = .ok (.aload_n 0, 1) := by decide +kernel
theorem dX0_forgetThoseOver_20 : decode cX0_forgetThoseOver 20 = .ok (.iload_n 3, 1) := by decide +kernel
theorem dX0_forgetThoseOver_21 : decode cX0_forgetThoseOver 21 = .ok (.invokevirtual 110, 3) := by decide +kernel
theorem dX0_forgetThoseOver_24 : decode cX0_forgetThoseOver 24 = .ok (.ifCond .eq 13, 3) := by decide +kernel
theorem dX0_forgetThoseOver_27 : decode cX0_forgetThoseOver 27 = .ok (.aload_n 0, 1) := by decide +kernel
theorem dX0_forgetThoseOver_28 : decode cX0_forgetThoseOver 28 = .ok (.getfield 30, 3) := by decide +kernel
theorem dX0_forgetThoseOver_31 : decode cX0_forgetThoseOver 31 = .ok (.iload_n 1, 1) := by decide +kernel
theorem dX0_forgetThoseOver_32 : decode cX0_forgetThoseOver 32 = .ok (.iload_n 3, 1) := by decide +kernel
theorem dX0_forgetThoseOver_33 : decode cX0_forgetThoseOver 33 = .ok (.iastore, 1) := by decide +kernel
theorem dX0_forgetThoseOver_34 : decode cX0_forgetThoseOver 34 = .ok (.iinc 1 1, 3) := by decide +kernel
theorem dX0_forgetThoseOver_37 : decode cX0_forgetThoseOver 37 = .ok (.iinc 2 1, 3) := by decide +kernel
theorem dX0_forgetThoseOver_40 : decode cX0_forgetThoseOver 40 = .ok (.goto (-36), 3) := by decide +kernel
theorem dX0_forgetThoseOver_43 : decode cX0_forgetThoseOver 43 = .ok (.aload_n 0, 1) := by decide +kernel
theorem dX0_forgetThoseOver_44 : decode cX0_forgetThoseOver 44 = .ok (.iload_n 1, 1) := by decide +kernel
theorem dX0_forgetThoseOver_45 : decode cX0_forgetThoseOver 45 = .ok (.putfield 65, 3) := by decide +kernel
theorem dX0_forgetThoseOver_48 : decode cX0_forgetThoseOver 48 = .ok (.return_, 1) := by decide +kernel
theorem dX0_isOnItsWay_0 : decode cX0_isOnItsWay 0 = .ok (.aload_n 0, 1) := by decide +kernel
theorem dX0_isOnItsWay_1 : decode cX0_isOnItsWay 1 = .ok (.getfield 24, 3) := by decide +kernel
theorem dX0_isOnItsWay_4 : decode cX0_isOnItsWay 4 = .ok (.iload_n 1, 1) := by decide +kernel
theorem dX0_isOnItsWay_5 : decode cX0_isOnItsWay 5 = .ok (.iaload, 1) := by decide +kernel
theorem dX0_isOnItsWay_6 : decode cX0_isOnItsWay 6 = .ok (.iconst (-1), 1) := by decide +kernel
theorem dX0_isOnItsWay_7 : decode cX0_isOnItsWay 7 = .ok (.if_icmp .eq 7, 3) := by decide +kernel
theorem dX0_isOnItsWay_10 : decode cX0_isOnItsWay 10 = .ok (.iconst 1, 1) := by decide +kernel
theorem dX0_isOnItsWay_11 : decode cX0_isOnItsWay 11 = .ok (.goto 4, 3) := by decide +kernel
theorem dX0_isOnItsWay_14 : decode cX0_isOnItsWay 14 = .ok (.iconst 0, 1) := by decide +kernel
theorem dX0_isOnItsWay_15 : decode cX0_isOnItsWay 15 = .ok (.ireturn, 1) := by decide +kernel
set_option maxRecDepth 20000 in
theorem ggX0_timeToGo_X0_isOnItsWay : GoodIn wsX0_timeToGo wsX0_isOnItsWay := goodIn_r _ [6, 1, 7, 8, 9, 10, 11, 12, 13, 14, 15, 16, 17, 18, 19, 20, 21, 22, 23] (by decide +kernel) (by decide +kernel)
set_option maxRecDepth 20000 in
theorem gX0_timeToGo_X0_isOnItsWay : GoodIn wsX0_timeToGo (wsV RX0 110 RX0 yX0_isOnItsWay wsX0_isOnItsWay) := goodIn_app (goodIn_of _ (by decide +kernel)) ggX0_timeToGo_X0_isOnItsWay
theorem dX0_timeToGo_0 : decode cX0_timeToGo 0 = .ok (.aload_n 0, 1) := by decide +kernel
theorem dX0_timeToGo_1 : decode cX0_timeToGo 1 = .ok (.iload_n 1, 1) := by decide +kernel
theorem dX0_timeToGo_2 : decode cX0_timeToGo 2 = .ok (.invokevirtual 110, 3) := by decide +kernel
theorem dX0_timeToGo_5 : decode cX0_timeToGo 5 = .ok (.ifCond .eq 12, 3) := by decide +kernel
theorem dX0_timeToGo_8 : decode cX0_timeToGo 8 = .ok (.aload_n 0, 1) := by decide +kernel
theorem dX0_timeToGo_9 : decode cX0_timeToGo 9 = .ok (.getfield 24, 3) := by decide +kernel
theorem dX0_timeToGo_12 : decode cX0_timeToGo 12 = .ok (.iload_n 1, 1) := by decide +kernel
theorem dX0_timeToGo_13 : decode cX0_timeToGo 13 = .ok (.iaload, 1) := by decide +kernel
theorem dX0_timeToGo_14 : decode cX0_timeToGo 14 = .ok (.goto 4, 3) := by decide +kernel
theorem dX0_timeToGo_17 : decode cX0_timeToGo 17 = .ok (.iconst 0, 1) := by decide +kernel
theorem dX0_timeToGo_18 : decode cX0_timeToGo 18 = .ok (.ireturn, 1) := by decide +kernel
theorem dX0_seatsBetween_0 : decode cX0_seatsBetween 0 = .ok (.iload_n 1, 1) := by decide +kernel
theorem dX0_seatsBetween_1 : decode cX0_seatsBetween 1 = .ok (.iload_n 2, 1) := by decide +kernel
theorem dX0_seatsBetween_2 : decode cX0_seatsBetween 2 = .ok (.isub, 1) := by decide +kernel
theorem dX0_seatsBetween_3 : decode cX0_seatsBetween 3 = .ok (.invokestatic 114, 3) := by decide +kernel
theorem dX0_seatsBetween_6 : decode cX0_seatsBetween 6 = .ok (.istore_n 3, 1) := by decide +kernel
theorem dX0_seatsBetween_7 : decode cX0_seatsBetween 7 = .ok (.iload_n 3, 1) := by decide +kernel
theorem dX0_seatsBetween_8 : decode cX0_seatsBetween 8 = .ok (.aload_n 0, 1) := by decide +kernel
theorem dX0_seatsBetween_9 : decode cX0_seatsBetween 9 = .ok (.getfield 41, 3) := by decide +kernel
theorem dX0_seatsBetween_12 : decode cX0_seatsBetween 12 = .ok (.iload_n 3, 1) := by decide +kernel
theorem dX0_seatsBetween_13 : decode cX0_seatsBetween 13 = .ok (.isub, 1) := by decide +kernel
theorem dX0_seatsBetween_14 : decode cX0_seatsBetween 14 = .ok (.invokestatic 119, 3) := by decide +kernel
theorem dX0_seatsBetween_17 : decode cX0_seatsBetween 17 = .ok (.ireturn, 1) := by decide +kernel
set_option maxRecDepth 20000 in
theorem ggX0_wayOf_X0_seatsBetween : GoodIn wsX0_wayOf wsX0_seatsBetween := goodIn_r _ [5, 6, 7, 8, 9, 10, 11, 12, 13, 14, 15, 16, 17, 18, 19, 20, 21, 22, 23, 24, 25, 26, 27, 28, 29, 30] (by decide +kernel) (by decide +kernel)
set_option maxRecDepth 20000 in
theorem gX0_wayOf_X0_seatsBetween : GoodIn wsX0_wayOf (wsV RX0 122 RX0 yX0_seatsBetween wsX0_seatsBetween) := goodIn_app (goodIn_of _ (by decide +kernel)) ggX0_wayOf_X0_seatsBetween
theorem dX0_wayOf_0 : decode cX0_wayOf 0 = .ok (.iconst 2, 1) := by decide +kernel
theorem dX0_wayOf_1 : decode cX0_wayOf 1 = .ok (.aload_n 0, 1) := by decide +kernel
theorem dX0_wayOf_2 : decode cX0_wayOf 2 = .ok (.iload_n 1, 1) := by decide +kernel
theorem dX0_wayOf_3 : decode cX0_wayOf 3 = .ok (.iload_n 2, 1) := by decide +kernel
theorem dX0_wayOf_4 : decode cX0_wayOf 4 = .ok (.invokevirtual 122, 3) := by decide +kernel
theorem dX0_wayOf_7 : decode cX0_wayOf 7 = .ok (.imul, 1) := by decide +kernel
theorem dX0_wayOf_8 : decode cX0_wayOf 8 = .ok (.ireturn, 1) := by decide +kernel
theorem dX0_beyondMultipleOfLimit_0 : decode cX0_beyondMultipleOfLimit 0 = .ok (.aload_n 0, 1) := by decide +kernel
theorem dX0_beyondMultipleOfLimit_1 : decode cX0_beyondMultipleOfLimit 1 = .ok (.getfield 33, 3) := by decide +kernel
theorem dX0_beyondMultipleOfLimit_4 : decode cX0_beyondMultipleOfLimit 4 = .ok (.ifCond .le 12, 3) := by decide +kernel
theorem dX0_beyondMultipleOfLimit_7 : decode cX0_beyondMultipleOfLimit 7 = .ok (.iload_n 1, 1) := by decide +kernel
theorem dX0_beyondMultipleOfLimit_8 : decode cX0_beyondMultipleOfLimit 8 = .ok (.aload_n 0, 1) := by decide +kernel
theorem dX0_beyondMultipleOfLimit_9 : decode cX0_beyondMultipleOfLimit 9 = .ok (.getfield 33, 3) := by decide +kernel
theorem dX0_beyondMultipleOfLimit_12 : decode cX0_beyondMultipleOfLimit 12 = .ok (.irem, 1) := by decide +kernel
theorem dX0_beyondMultipleOfLimit_13 : decode cX0_beyondMultipleOfLimit 13 = .ok (.goto 4, 3) := by decide +kernel
theorem dX0_beyondMultipleOfLimit_16 : decode cX0_beyondMultipleOfLimit 16 = .ok (.iconst 0, 1) := by decide +kernel
theorem dX0_beyondMultipleOfLimit_17 : decode cX0_beyondMultipleOfLimit 17 = .ok (.ireturn, 1) := by decide +kernel
theorem dX0_sumUnsaidByGuests_0 : decode cX0_sumUnsaidByGuests 0 = .ok (.iconst 0, 1) := by decide +kernel
theorem dX0_sumUnsaidByGuests_1 : decode cX0_sumUnsaidByGuests 1 = .ok (.istore_n 1, 1) := by decide +kernel
theorem dX0_sumUnsaidByGuests_2 : decode cX0_sumUnsaidByGuests 2 = .ok (.iconst 0, 1) := by decide +kernel
theorem dX0_sumUnsaidByGuests_3 : decode cX0_sumUnsaidByGuests 3 = .ok (.istore_n 2, 1) := by decide +kernel
theorem dX0_sumUnsaidByGuests_4 : decode cX0_sumUnsaidByGuests 4 = .ok (.iload_n 2, 1) := by decide +kernel
theorem dX0_sumUnsaidByGuests_5 : decode cX0_sumUnsaidByGuests 5 = .ok (.aload_n 0, 1) := by decide +kernel
theorem dX0_sumUnsaidByGuests_6 : decode cX0_sumUnsaidByGuests 6 = .ok (.getfield 41, 3) := by decide +kernel
theorem dX0_sumUnsaidByGuests_9 : decode cX0_sumUnsaidByGuests 9 = .ok (.if_icmp .ge 18, 3) := by decide +kernel
theorem dX0_sumUnsaidByGuests_12 : decode cX0_sumUnsaidByGuests 12 = .ok (.iload_n 1, 1) := by decide +kernel
theorem dX0_sumUnsaidByGuests_13 : decode cX0_sumUnsaidByGuests 13 = .ok (.aload_n 0, 1) := by decide +kernel
theorem dX0_sumUnsaidByGuests_14 : decode cX0_sumUnsaidByGuests 14 = .ok (.getfield 21, 3) := by decide +kernel
theorem dX0_sumUnsaidByGuests_17 : decode cX0_sumUnsaidByGuests 17 = .ok (.iload_n 2, 1) := by decide +kernel
theorem dX0_sumUnsaidByGuests_18 : decode cX0_sumUnsaidByGuests 18 = .ok (.iaload, 1) := by decide +kernel
theorem dX0_sumUnsaidByGuests_19 : decode cX0_sumUnsaidByGuests 19 = .ok (.iadd, 1) := by decide +kernel
theorem dX0_sumUnsaidByGuests_20 : decode cX0_sumUnsaidByGuests 20 = .ok (.istore_n 1, 1) := by decide +kernel
theorem dX0_sumUnsaidByGuests_21 : decode cX0_sumUnsaidByGuests 21 = .ok (.iinc 2 1, 3) := by decide +kernel
theorem dX0_sumUnsaidByGuests_24 : decode cX0_sumUnsaidByGuests 24 = .ok (.goto (-20), 3) := by decide +kernel
theorem dX0_sumUnsaidByGuests_27 : decode cX0_sumUnsaidByGuests 27 = .ok (.iload_n 1, 1) := by decide +kernel
theorem dX0_sumUnsaidByGuests_28 : decode cX0_sumUnsaidByGuests 28 = .ok (.ireturn, 1) := by decide +kernel
set_option maxRecDepth 20000 in
theorem ggX0_sumUnsaid_X0_sumUnsaidByGuests : GoodIn wsX0_sumUnsaid wsX0_sumUnsaidByGuests := goodIn_r _ [6, 7, 8, 9, 10, 11, 12, 13, 14, 15, 16, 17, 18, 19, 20, 21, 22, 23, 24, 25] (by decide +kernel) (by decide +kernel)
set_option maxRecDepth 20000 in
theorem gX0_sumUnsaid_X0_sumUnsaidByGuests : GoodIn wsX0_sumUnsaid (wsV RX0 128 RX0 yX0_sumUnsaidByGuests wsX0_sumUnsaidByGuests) := goodIn_app (goodIn_of _ (by decide +kernel)) ggX0_sumUnsaid_X0_sumUnsaidByGuests
theorem dX0_sumUnsaid_0 : decode cX0_sumUnsaid 0 = .ok (.aload_n 0, 1) := by decide +kernel
theorem dX0_sumUnsaid_1 : decode cX0_sumUnsaid 1 = .ok (.invokevirtual 128, 3) := by decide +kernel
theorem dX0_sumUnsaid_4 : decode cX0_sumUnsaid 4 = .ok (.aload_n 0, 1) := by decide +kernel
theorem dX0_sumUnsaid_5 : decode cX0_sumUnsaid 5 = .ok (.getfield 56, 3) := by decide +kernel
theorem dX0_sumUnsaid_8 : decode cX0_sumUnsaid 8 = .ok (.iadd, 1) := by decide +kernel
theorem dX0_sumUnsaid_9 : decode cX0_sumUnsaid 9 = .ok (.ireturn, 1) := by decide +kernel
set_option maxRecDepth 20000 in
theorem ggX0_rate_X0_sumUnsaid : GoodIn wsX0_rate wsX0_sumUnsaid := goodIn_r _ [13, 14, 15, 16, 17, 12, 18, 1, 19, 20, 21, 22, 23, 24, 25, 26, 27, 28, 29, 30, 31, 32, 33, 34, 35, 36] (by decide +kernel) (by decide +kernel)
set_option maxRecDepth 20000 in
theorem gX0_rate_X0_sumUnsaid : GoodIn wsX0_rate (wsV RX0 132 RX0 yX0_sumUnsaid wsX0_sumUnsaid) := goodIn_app (goodIn_of _ (by decide +kernel)) ggX0_rate_X0_sumUnsaid
theorem dX0_rate_0 : decode cX0_rate 0 = .ok (.aload_n 0, 1) := by decide +kernel
theorem dX0_rate_1 : decode cX0_rate 1 = .ok (.getfield 41, 3) := by decide +kernel
theorem dX0_rate_4 : decode cX0_rate 4 = .ok (.ifCond .le 15, 3) := by decide +kernel
theorem dX0_rate_7 : decode cX0_rate 7 = .ok (.aload_n 0, 1) := by decide +kernel
theorem dX0_rate_8 : decode cX0_rate 8 = .ok (.invokevirtual 132, 3) := by decide +kernel
theorem dX0_rate_11 : decode cX0_rate 11 = .ok (.aload_n 0, 1) := by decide +kernel
theorem dX0_rate_12 : decode cX0_rate 12 = .ok (.getfield 41, 3) := by decide +kernel
theorem dX0_rate_15 : decode cX0_rate 15 = .ok (.idiv, 1) := by decide +kernel
theorem dX0_rate_16 : decode cX0_rate 16 = .ok (.goto 4, 3) := by decide +kernel
theorem dX0_rate_19 : decode cX0_rate 19 = .ok (.iconst 0, 1) := by decide +kernel
theorem dX0_rate_20 : decode cX0_rate 20 = .ok (.istore_n 1, 1) := by decide +kernel
theorem dX0_rate_21 : decode cX0_rate 21 = .ok (.iconst 0, 1) := by decide +kernel
theorem dX0_rate_22 : decode cX0_rate 22 = .ok (.bipush 10, 2) := by decide +kernel
theorem dX0_rate_24 : decode cX0_rate 24 = .ok (.iload_n 1, 1) := by decide +kernel
theorem dX0_rate_25 : decode cX0_rate 25 = .ok (.iconst 4, 1) := by decide +kernel
theorem dX0_rate_26 : decode cX0_rate 26 = .ok (.isub, 1) := by decide +kernel
theorem dX0_rate_27 : decode cX0_rate 27 = .ok (.invokestatic 114, 3) := by decide +kernel
theorem dX0_rate_30 : decode cX0_rate 30 = .ok (.isub, 1) := by decide +kernel
theorem dX0_rate_31 : decode cX0_rate 31 = .ok (.invokestatic 135, 3) := by decide +kernel
theorem dX0_rate_34 : decode cX0_rate 34 = .ok (.ireturn, 1) := by decide +kernel
theorem dJ9_abs_0f7a4_0 : decode cJ9_abs_0f7a4 0 = .ok (.iload_n 0, 1) := by decide +kernel
theorem dJ9_abs_0f7a4_1 : decode cJ9_abs_0f7a4 1 = .ok (.ifCond .ge 8, 3) := by decide +kernel
theorem dJ9_abs_0f7a4_4 : decode cJ9_abs_0f7a4 4 = .ok (.iload_n 0, 1) := by decide +kernel
theorem dJ9_abs_0f7a4_5 : decode cJ9_abs_0f7a4 5 = .ok (.ineg, 1) := by decide +kernel
theorem dJ9_abs_0f7a4_6 : decode cJ9_abs_0f7a4 6 = .ok (.goto 4, 3) := by decide +kernel
theorem dJ9_abs_0f7a4_9 : decode cJ9_abs_0f7a4 9 = .ok (.iload_n 0, 1) := by decide +kernel
theorem dJ9_abs_0f7a4_10 : decode cJ9_abs_0f7a4 10 = .ok (.ireturn, 1) := by decide +kernel
theorem dJ9_max_7cf53_0 : decode cJ9_max_7cf53 0 = .ok (.iload_n 0, 1) := by decide +kernel
theorem dJ9_max_7cf53_1 : decode cJ9_max_7cf53 1 = .ok (.iload_n 1, 1) := by decide +kernel
theorem dJ9_max_7cf53_2 : decode cJ9_max_7cf53 2 = .ok (.if_icmp .lt 7, 3) := by decide +kernel
theorem dJ9_max_7cf53_5 : decode cJ9_max_7cf53 5 = .ok (.iload_n 0, 1) := by decide +kernel
theorem dJ9_max_7cf53_6 : decode cJ9_max_7cf53 6 = .ok (.goto 4, 3) := by decide +kernel
theorem dJ9_max_7cf53_9 : decode cJ9_max_7cf53 9 = .ok (.iload_n 1, 1) := by decide +kernel
theorem dJ9_max_7cf53_10 : decode cJ9_max_7cf53 10 = .ok (.ireturn, 1) := by decide +kernel
theorem dJ9_min_7cf53_0 : decode cJ9_min_7cf53 0 = .ok (.iload_n 0, 1) := by decide +kernel
theorem dJ9_min_7cf53_1 : decode cJ9_min_7cf53 1 = .ok (.iload_n 1, 1) := by decide +kernel
theorem dJ9_min_7cf53_2 : decode cJ9_min_7cf53 2 = .ok (.if_icmp .gt 7, 3) := by decide +kernel
theorem dJ9_min_7cf53_5 : decode cJ9_min_7cf53 5 = .ok (.iload_n 0, 1) := by decide +kernel
theorem dJ9_min_7cf53_6 : decode cJ9_min_7cf53 6 = .ok (.goto 4, 3) := by decide +kernel
theorem dJ9_min_7cf53_9 : decode cJ9_min_7cf53 9 = .ok (.iload_n 1, 1) := by decide +kernel
theorem dJ9_min_7cf53_10 : decode cJ9_min_7cf53 10 = .ok (.ireturn, 1) := by decide +kernel
theorem dJ7_fill_53178_0 : decode cJ7_fill_53178 0 = .ok (.iconst 0, 1) := by decide +kernel
theorem dJ7_fill_53178_1 : decode cJ7_fill_53178 1 = .ok (.istore_n 2, 1) := by decide +kernel
theorem dJ7_fill_53178_2 : decode cJ7_fill_53178 2 = .ok (.aload_n 0, 1) := by decide +kernel
theorem dJ7_fill_53178_3 : decode cJ7_fill_53178 3 = .ok (.arraylength, 1) := by decide +kernel
theorem dJ7_fill_53178_4 : decode cJ7_fill_53178 4 = .ok (.istore_n 3, 1) := by decide +kernel
theorem dJ7_fill_53178_5 : decode cJ7_fill_53178 5 = .ok (.iload_n 2, 1) := by decide +kernel
theorem dJ7_fill_53178_6 : decode cJ7_fill_53178 6 = .ok (.iload_n 3, 1) := by decide +kernel
theorem dJ7_fill_53178_7 : decode cJ7_fill_53178 7 = .ok (.if_icmp .ge 13, 3) := by decide +kernel
theorem dJ7_fill_53178_10 : decode cJ7_fill_53178 10 = .ok (.aload_n 0, 1) := by decide +kernel
theorem dJ7_fill_53178_11 : decode cJ7_fill_53178 11 = .ok (.iload_n 2, 1) := by decide +kernel
theorem dJ7_fill_53178_12 : decode cJ7_fill_53178 12 = .ok (.iload_n 1, 1) := by decide +kernel
theorem dJ7_fill_53178_13 : decode cJ7_fill_53178 13 = .ok (.iastore, 1) := by decide +kernel
theorem dJ7_fill_53178_14 : decode cJ7_fill_53178 14 = .ok (.iinc 2 1, 3) := by decide +kernel
theorem dJ7_fill_53178_17 : decode cJ7_fill_53178 17 = .ok (.goto (-12), 3) := by decide +kernel
theorem dJ7_fill_53178_20 : decode cJ7_fill_53178 20 = .ok (.return_, 1) := by decide +kernel
end
section
set_option maxRecDepth 20000 in
theorem ggX1_init_X0_init : GoodIn wsX1_init wsX0_init := goodIn_r _ [11, 12, 2, 3, 13, 14, 15, 16, 17, 18, 19, 20, 21, 22, 23, 24, 6, 25, 26, 27, 28, 29, 30, 31, 32, 33, 34, 35, 36, 37, 38, 39, 40, 41, 42, 43, 44, 45, 46, 47, 48, 49, 50, 51, 52, 53, 54, 55] (by decide +kernel) (by decide +kernel)
set_option maxRecDepth 20000 in
theorem gX1_init_X0_init : GoodIn wsX1_init (wsX0_init) := ggX1_init_X0_init
theorem dX1_init_0 : decode cX1_init 0 = .ok (.aload_n 0, 1) := by decide +kernel
theorem dX1_init_1 : decode cX1_init 1 = .ok (.invokespecial 3, 3) := by decide +kernel
theorem dX1_init_4 : decode cX1_init 4 = .ok (.aload_n 0, 1) := by decide +kernel
theorem dX1_init_5 : decode cX1_init 5 = .ok (.new 9, 3) := by decide +kernel
theorem dX1_init_8 : decode cX1_init 8 = .ok (.dup, 1) := by decide +kernel
theorem dX1_init_9 : decode cX1_init 9 = .ok (.invokespecial 11, 3) := by decide +kernel
theorem dX1_init_12 : decode cX1_init 12 = .ok (.putfield 12, 3) := by decide +kernel
theorem dX1_init_15 : decode cX1_init 15 = .ok (.aload_n 0, 1) := by decide +kernel
theorem dX1_init_16 : decode cX1_init 16 = .ok (.new 9, 3) := by decide +kernel
theorem dX1_init_19 : decode cX1_init 19 = .ok (.dup, 1) := by decide +kernel
theorem dX1_init_20 : decode cX1_init 20 = .ok (.invokespecial 11, 3) := by decide +kernel
theorem dX1_init_23 : decode cX1_init 23 = .ok (.putfield 16, 3) := by decide +kernel
theorem dX1_init_26 : decode cX1_init 26 = .ok (.return_, 1) := by decide +kernel
set_option maxRecDepth 20000 in
theorem ggX1_newDinner_X1_requireWithin : GoodIn wsX1_newDinner wsX1_requireWithin := goodIn_ca (goodIn_r _ [5, 6, 7] (by decide +kernel) (by decide +kernel)) (goodIn_sub (fun _ h => List.mem_cons_of_mem _ (List.mem_append_right _ h)) (by decide +kernel))
set_option maxRecDepth 20000 in
theorem gX1_newDinner_X1_requireWithin : GoodIn wsX1_newDinner (va_wsS RX1 19 yX1_requireWithin wsX1_requireWithin) := goodIn_app (goodIn_of _ (by decide +kernel)) ggX1_newDinner_X1_requireWithin
set_option maxRecDepth 20000 in
theorem ggX1_newDinner_X0_rate : GoodIn wsX1_newDinner wsX0_rate := goodIn_r _ [12, 13, 14, 15, 16, 17, 18, 19, 20, 21, 22, 23, 11, 24, 25, 26, 27, 28, 29, 30, 53, 54, 55, 56, 57, 58, 59, 60, 61, 62, 63, 64, 65, 66, 67, 68, 69] (by decide +kernel) (by decide +kernel)
set_option maxRecDepth 20000 in
theorem gX1_newDinner_X0_rate : GoodIn wsX1_newDinner (wsV RX1 23 RX0 yX0_rate wsX0_rate) := goodIn_app (goodIn_of _ (by decide +kernel)) ggX1_newDinner_X0_rate
set_option maxRecDepth 20000 in
theorem ggX1_newDinner_X0_begin : GoodIn wsX1_newDinner wsX0_begin := goodIn_r _ [34, 13, 35, 36, 37, 38, 25, 39, 40, 41, 42, 43, 44, 30, 45, 46, 47, 48, 49, 50, 53, 54, 55, 56, 57, 58, 59, 60, 61, 62, 63, 64, 65, 66, 67, 68, 69] (by decide +kernel) (by decide +kernel)
set_option maxRecDepth 20000 in
theorem gX1_newDinner_X0_begin : GoodIn wsX1_newDinner (wsV RX1 27 RX0 yX0_begin wsX0_begin) := goodIn_app (goodIn_of _ (by decide +kernel)) ggX1_newDinner_X0_begin
theorem dX1_newDinner_0 : decode cX1_newDinner 0 = .ok (.iload_n 1, 1) := by decide +kernel
theorem dX1_newDinner_1 : decode cX1_newDinner 1 = .ok (.iconst 2, 1) := by decide +kernel
theorem dX1_newDinner_2 : decode cX1_newDinner 2 = .ok (.bipush 10, 2) := by decide +kernel
theorem dX1_newDinner_4 : decode cX1_newDinner 4 = .ok (.invokestatic 19, 3) := by decide +kernel
theorem dX1_newDinner_7 : decode cX1_newDinner 7 = .ok (.aload_n 0, 1) := by decide +kernel
theorem dX1_newDinner_8 : decode cX1_newDinner 8 = .ok (.getfield 12, 3) := by decide +kernel
theorem dX1_newDinner_11 : decode cX1_newDinner 11 = .ok (.invokevirtual 23, 3) := by decide +kernel
theorem dX1_newDinner_14 : decode cX1_newDinner 14 = .ok (.istore_n 2, 1) := by decide +kernel
theorem dX1_newDinner_15 : decode cX1_newDinner 15 = .ok (.aload_n 0, 1) := by decide +kernel
theorem dX1_newDinner_16 : decode cX1_newDinner 16 = .ok (.getfield 12, 3) := by decide +kernel
theorem dX1_newDinner_19 : decode cX1_newDinner 19 = .ok (.iload_n 1, 1) := by decide +kernel
theorem dX1_newDinner_20 : decode cX1_newDinner 20 = .ok (.invokevirtual 27, 3) := by decide +kernel
theorem dX1_newDinner_23 : decode cX1_newDinner 23 = .ok (.iload_n 2, 1) := by decide +kernel
theorem dX1_newDinner_24 : decode cX1_newDinner 24 = .ok (.ireturn, 1) := by decide +kernel
set_option maxRecDepth 20000 in
theorem ggX1_setLimit_X1_requireWithin : GoodIn wsX1_setLimit wsX1_requireWithin := goodIn_ca (goodIn_r _ [6, 7, 8] (by decide +kernel) (by decide +kernel)) (goodIn_sub (fun _ h => List.mem_cons_of_mem _ (List.mem_append_right _ h)) (by decide +kernel))
set_option maxRecDepth 20000 in
theorem gX1_setLimit_X1_requireWithin : GoodIn wsX1_setLimit (va_wsS RX1 19 yX1_requireWithin wsX1_requireWithin) := goodIn_app (goodIn_of _ (by decide +kernel)) ggX1_setLimit_X1_requireWithin
theorem dX1_setLimit_0 : decode cX1_setLimit 0 = .ok (.iload_n 1, 1) := by decide +kernel
theorem dX1_setLimit_1 : decode cX1_setLimit 1 = .ok (.iconst 1, 1) := by decide +kernel
theorem dX1_setLimit_2 : decode cX1_setLimit 2 = .ok (.bipush 30, 2) := by decide +kernel
theorem dX1_setLimit_4 : decode cX1_setLimit 4 = .ok (.invokestatic 19, 3) := by decide +kernel
theorem dX1_setLimit_7 : decode cX1_setLimit 7 = .ok (.aload_n 0, 1) := by decide +kernel
theorem dX1_setLimit_8 : decode cX1_setLimit 8 = .ok (.getfield 12, 3) := by decide +kernel
theorem dX1_setLimit_11 : decode cX1_setLimit 11 = .ok (.getfield 31, 3) := by decide +kernel
theorem dX1_setLimit_14 : decode cX1_setLimit 14 = .ok (.istore_n 2, 1) := by decide +kernel
theorem dX1_setLimit_15 : decode cX1_setLimit 15 = .ok (.aload_n 0, 1) := by decide +kernel
theorem dX1_setLimit_16 : decode cX1_setLimit 16 = .ok (.getfield 12, 3) := by decide +kernel
theorem dX1_setLimit_19 : decode cX1_setLimit 19 = .ok (.iload_n 1, 1) := by decide +kernel
theorem dX1_setLimit_20 : decode cX1_setLimit 20 = .ok (.putfield 31, 3) := by decide +kernel
theorem dX1_setLimit_23 : decode cX1_setLimit 23 = .ok (.iload_n 2, 1) := by decide +kernel
theorem dX1_setLimit_24 : decode cX1_setLimit 24 = .ok (.ireturn, 1) := by decide +kernel
set_option maxRecDepth 20000 in
theorem ggX1_speak_X1_requireGuest : GoodIn wsX1_speak wsX1_requireGuest := goodIn_ca (goodIn_r _ [6, 7, 8, 1, 9, 23, 24, 25, 26, 27, 28, 29, 30, 31, 32, 33, 34, 35, 36, 37, 38, 39, 40, 41] (by decide +kernel) (by decide +kernel)) (goodIn_sub (fun _ h => List.mem_cons_of_mem _ (List.mem_append_left _ (List.mem_append_right _ h))) (by decide +kernel))
set_option maxRecDepth 20000 in
theorem gX1_speak_X1_requireGuest : GoodIn wsX1_speak (wsV RX1 35 RX1 yX1_requireGuest wsX1_requireGuest) := goodIn_app (goodIn_of _ (by decide +kernel)) ggX1_speak_X1_requireGuest
set_option maxRecDepth 20000 in
theorem ggX1_speak_X1_requireWithin : GoodIn wsX1_speak wsX1_requireWithin := goodIn_ca (goodIn_r _ [12, 13, 14] (by decide +kernel) (by decide +kernel)) (goodIn_sub (fun _ h => List.mem_cons_of_mem _ (List.mem_append_right _ h)) (by decide +kernel))
set_option maxRecDepth 20000 in
theorem gX1_speak_X1_requireWithin : GoodIn wsX1_speak (va_wsS RX1 19 yX1_requireWithin wsX1_requireWithin) := goodIn_app (goodIn_of _ (by decide +kernel)) ggX1_speak_X1_requireWithin
set_option maxRecDepth 20000 in
theorem ggX1_speak_X0_letSpeak : GoodIn wsX1_speak wsX0_letSpeak := goodIn_r _ [19, 20, 21, 22, 25, 26, 27, 28, 29, 30, 31, 32, 33, 34, 35, 36, 37, 38, 39, 40, 41] (by decide +kernel) (by decide +kernel)
set_option maxRecDepth 20000 in
theorem gX1_speak_X0_letSpeak : GoodIn wsX1_speak (wsV RX1 38 RX0 yX0_letSpeak wsX0_letSpeak) := goodIn_app (goodIn_of _ (by decide +kernel)) ggX1_speak_X0_letSpeak
theorem dX1_speak_0 : decode cX1_speak 0 = .ok (.aload_n 0, 1) := by decide +kernel
theorem dX1_speak_1 : decode cX1_speak 1 = .ok (.iload_n 1, 1) := by decide +kernel
theorem dX1_speak_2 : decode cX1_speak 2 = .ok (.invokevirtual 35, 3) := by decide +kernel
theorem dX1_speak_5 : decode cX1_speak 5 = .ok (.iload_n 2, 1) := by decide +kernel
theorem dX1_speak_6 : decode cX1_speak 6 = .ok (.iconst 1, 1) := by decide +kernel
theorem dX1_speak_7 : decode cX1_speak 7 = .ok (.bipush 60, 2) := by decide +kernel
theorem dX1_speak_9 : decode cX1_speak 9 = .ok (.invokestatic 19, 3) := by decide +kernel
theorem dX1_speak_12 : decode cX1_speak 12 = .ok (.aload_n 0, 1) := by decide +kernel
theorem dX1_speak_13 : decode cX1_speak 13 = .ok (.getfield 12, 3) := by decide +kernel
theorem dX1_speak_16 : decode cX1_speak 16 = .ok (.iload_n 1, 1) := by decide +kernel
theorem dX1_speak_17 : decode cX1_speak 17 = .ok (.iload_n 2, 1) := by decide +kernel
theorem dX1_speak_18 : decode cX1_speak 18 = .ok (.invokevirtual 38, 3) := by decide +kernel
theorem dX1_speak_21 : decode cX1_speak 21 = .ok (.ireturn, 1) := by decide +kernel
set_option maxRecDepth 20000 in
theorem ggX1_cough_X1_requireGuest : GoodIn wsX1_cough wsX1_requireGuest := goodIn_ca (goodIn_r _ [6, 7, 8, 1, 9, 27, 28, 29, 30, 31, 32, 33, 34, 35, 36, 37, 38, 39, 40, 41, 42, 43, 44, 45] (by decide +kernel) (by decide +kernel)) (goodIn_sub (fun _ h => List.mem_cons_of_mem _ (List.mem_append_left _ (List.mem_append_right _ h))) (by decide +kernel))
set_option maxRecDepth 20000 in
theorem gX1_cough_X1_requireGuest : GoodIn wsX1_cough (wsV RX1 35 RX1 yX1_requireGuest wsX1_requireGuest) := goodIn_app (goodIn_of _ (by decide +kernel)) ggX1_cough_X1_requireGuest
set_option maxRecDepth 20000 in
theorem ggX1_cough_X1_requireWithin : GoodIn wsX1_cough wsX1_requireWithin := goodIn_ca (goodIn_r _ [12, 13, 14] (by decide +kernel) (by decide +kernel)) (goodIn_sub (fun _ h => List.mem_cons_of_mem _ (List.mem_append_right _ h)) (by decide +kernel))
set_option maxRecDepth 20000 in
theorem gX1_cough_X1_requireWithin : GoodIn wsX1_cough (va_wsS RX1 19 yX1_requireWithin wsX1_requireWithin) := goodIn_app (goodIn_of _ (by decide +kernel)) ggX1_cough_X1_requireWithin
set_option maxRecDepth 20000 in
theorem ggX1_cough_X0_letCough : GoodIn wsX1_cough wsX0_letCough := goodIn_r _ [19, 20, 21, 22, 23, 24, 18, 25, 26, 29, 30, 31, 32, 33, 34, 35, 36, 37, 38, 39, 40, 41, 42, 43, 44, 45] (by decide +kernel) (by decide +kernel)
set_option maxRecDepth 20000 in
theorem gX1_cough_X0_letCough : GoodIn wsX1_cough (wsV RX1 42 RX0 yX0_letCough wsX0_letCough) := goodIn_app (goodIn_of _ (by decide +kernel)) ggX1_cough_X0_letCough
theorem dX1_cough_0 : decode cX1_cough 0 = .ok (.aload_n 0, 1) := by decide +kernel
theorem dX1_cough_1 : decode cX1_cough 1 = .ok (.iload_n 1, 1) := by decide +kernel
theorem dX1_cough_2 : decode cX1_cough 2 = .ok (.invokevirtual 35, 3) := by decide +kernel
theorem dX1_cough_5 : decode cX1_cough 5 = .ok (.iload_n 2, 1) := by decide +kernel
theorem dX1_cough_6 : decode cX1_cough 6 = .ok (.iconst 1, 1) := by decide +kernel
theorem dX1_cough_7 : decode cX1_cough 7 = .ok (.bipush 9, 2) := by decide +kernel
theorem dX1_cough_9 : decode cX1_cough 9 = .ok (.invokestatic 19, 3) := by decide +kernel
theorem dX1_cough_12 : decode cX1_cough 12 = .ok (.aload_n 0, 1) := by decide +kernel
theorem dX1_cough_13 : decode cX1_cough 13 = .ok (.getfield 12, 3) := by decide +kernel
theorem dX1_cough_16 : decode cX1_cough 16 = .ok (.iload_n 1, 1) := by decide +kernel
theorem dX1_cough_17 : decode cX1_cough 17 = .ok (.iload_n 2, 1) := by decide +kernel
theorem dX1_cough_18 : decode cX1_cough 18 = .ok (.invokevirtual 42, 3) := by decide +kernel
theorem dX1_cough_21 : decode cX1_cough 21 = .ok (.ireturn, 1) := by decide +kernel
set_option maxRecDepth 20000 in
theorem ggX1_glance_X1_requireFreeWay : GoodIn wsX1_glance wsX1_requireFreeWay := goodIn_ca (goodIn_ca (goodIn_ca (goodIn_r _ [6, 7, 8, 9, 10, 1, 11, 12, 13, 5, 14, 15, 16, 17, 18, 19, 20, 21, 22, 23, 24, 25, 26, 49, 50, 51, 52, 53, 54, 55, 56, 57, 58, 59, 60, 61, 62, 63, 64, 65, 66, 67] (by decide +kernel) (by decide +kernel)) (goodIn_sub (fun _ h => List.mem_cons_of_mem _ (List.mem_append_left _ (List.mem_append_left _ (List.mem_append_right _ h)))) (by decide +kernel))) (goodIn_sub (fun _ h => List.mem_cons_of_mem _ (List.mem_append_left _ (List.mem_append_right _ h))) (by decide +kernel))) (goodIn_sub (fun _ h => List.mem_cons_of_mem _ (List.mem_append_right _ h)) (by decide +kernel))
set_option maxRecDepth 20000 in
theorem gX1_glance_X1_requireFreeWay : GoodIn wsX1_glance (wsV RX1 45 RX1 yX1_requireFreeWay wsX1_requireFreeWay) := goodIn_app (goodIn_of _ (by decide +kernel)) ggX1_glance_X1_requireFreeWay
set_option maxRecDepth 20000 in
theorem ggX1_glance_X0_send : GoodIn wsX1_glance wsX0_send := goodIn_r _ [30, 31, 32, 26, 19, 5, 20, 33, 34, 35, 24, 36, 37, 38, 39, 40, 41, 42, 43, 44, 45, 46, 47, 48, 51, 52, 53, 54, 55, 56, 57, 58, 59, 60, 61, 62, 63, 64, 65, 66, 67] (by decide +kernel) (by decide +kernel)
set_option maxRecDepth 20000 in
theorem gX1_glance_X0_send : GoodIn wsX1_glance (wsV RX1 49 RX0 yX0_send wsX0_send) := goodIn_app (goodIn_of _ (by decide +kernel)) ggX1_glance_X0_send
theorem dX1_glance_0 : decode cX1_glance 0 = .ok (.aload_n 0, 1) := by decide +kernel
theorem dX1_glance_1 : decode cX1_glance 1 = .ok (.iload_n 1, 1) := by decide +kernel
theorem dX1_glance_2 : decode cX1_glance 2 = .ok (.iload_n 2, 1) := by decide +kernel
theorem dX1_glance_3 : decode cX1_glance 3 = .ok (.invokevirtual 45, 3) := by decide +kernel
theorem dX1_glance_6 : decode cX1_glance 6 = .ok (.aload_n 0, 1) := by decide +kernel
theorem dX1_glance_7 : decode cX1_glance 7 = .ok (.getfield 12, 3) := by decide +kernel
theorem dX1_glance_10 : decode cX1_glance 10 = .ok (.iload_n 1, 1) := by decide +kernel
theorem dX1_glance_11 : decode cX1_glance 11 = .ok (.iload_n 2, 1) := by decide +kernel
theorem dX1_glance_12 : decode cX1_glance 12 = .ok (.invokevirtual 49, 3) := by decide +kernel
theorem dX1_glance_15 : decode cX1_glance 15 = .ok (.ireturn, 1) := by decide +kernel
set_option maxRecDepth 20000 in
theorem ggX1_pass_X1_requireWithin : GoodIn wsX1_pass wsX1_requireWithin := goodIn_ca (goodIn_r _ [5, 6, 7] (by decide +kernel) (by decide +kernel)) (goodIn_sub (fun _ h => List.mem_cons_of_mem _ (List.mem_append_right _ h)) (by decide +kernel))
set_option maxRecDepth 20000 in
theorem gX1_pass_X1_requireWithin : GoodIn wsX1_pass (va_wsS RX1 19 yX1_requireWithin wsX1_requireWithin) := goodIn_app (goodIn_of _ (by decide +kernel)) ggX1_pass_X1_requireWithin
set_option maxRecDepth 20000 in
theorem ggX1_pass_X0_sumUnsaid : GoodIn wsX1_pass wsX0_sumUnsaid := goodIn_r _ [12, 13, 14, 15, 16, 11, 17, 18, 19, 68, 69, 70, 71, 72, 73, 74, 75, 76, 77, 78, 79, 80, 81, 82, 83, 84] (by decide +kernel) (by decide +kernel)
set_option maxRecDepth 20000 in
theorem gX1_pass_X0_sumUnsaid : GoodIn wsX1_pass (wsV RX1 52 RX0 yX0_sumUnsaid wsX0_sumUnsaid) := goodIn_app (goodIn_of _ (by decide +kernel)) ggX1_pass_X0_sumUnsaid
set_option maxRecDepth 20000 in
theorem ggX1_pass_X0_goBy : GoodIn wsX1_pass wsX0_goBy := goodIn_r _ [23, 24, 25, 26, 11, 27, 28, 29, 30, 31, 32, 33, 34, 13, 35, 36, 37, 38, 39, 40, 41, 42, 43, 44, 45, 46, 47, 48, 49, 50, 51, 52, 53, 19, 54, 55, 56, 4, 57, 58, 59, 60, 61, 62, 63, 64, 65, 68, 69, 70, 71, 72, 73, 74, 75, 76, 77, 78, 79, 80, 81, 82, 83, 84] (by decide +kernel) (by decide +kernel)
set_option maxRecDepth 20000 in
theorem gX1_pass_X0_goBy : GoodIn wsX1_pass (wsV RX1 55 RX0 yX0_goBy wsX0_goBy) := goodIn_app (goodIn_of _ (by decide +kernel)) ggX1_pass_X0_goBy
theorem dX1_pass_0 : decode cX1_pass 0 = .ok (.iload_n 1, 1) := by decide +kernel
theorem dX1_pass_1 : decode cX1_pass 1 = .ok (.iconst 1, 1) := by decide +kernel
theorem dX1_pass_2 : decode cX1_pass 2 = .ok (.bipush 120, 2) := by decide +kernel
theorem dX1_pass_4 : decode cX1_pass 4 = .ok (.invokestatic 19, 3) := by decide +kernel
theorem dX1_pass_7 : decode cX1_pass 7 = .ok (.aload_n 0, 1) := by decide +kernel
theorem dX1_pass_8 : decode cX1_pass 8 = .ok (.getfield 12, 3) := by decide +kernel
theorem dX1_pass_11 : decode cX1_pass 11 = .ok (.invokevirtual 52, 3) := by decide +kernel
theorem dX1_pass_14 : decode cX1_pass 14 = .ok (.istore_n 2, 1) := by decide +kernel
theorem dX1_pass_15 : decode cX1_pass 15 = .ok (.aload_n 0, 1) := by decide +kernel
theorem dX1_pass_16 : decode cX1_pass 16 = .ok (.getfield 12, 3) := by decide +kernel
theorem dX1_pass_19 : decode cX1_pass 19 = .ok (.iload_n 1, 1) := by decide +kernel
theorem dX1_pass_20 : decode cX1_pass 20 = .ok (.invokevirtual 55, 3) := by decide +kernel
theorem dX1_pass_23 : decode cX1_pass 23 = .ok (.aload_n 0, 1) := by decide +kernel
theorem dX1_pass_24 : decode cX1_pass 24 = .ok (.getfield 12, 3) := by decide +kernel
theorem dX1_pass_27 : decode cX1_pass 27 = .ok (.invokevirtual 52, 3) := by decide +kernel
theorem dX1_pass_30 : decode cX1_pass 30 = .ok (.iload_n 2, 1) := by decide +kernel
theorem dX1_pass_31 : decode cX1_pass 31 = .ok (.isub, 1) := by decide +kernel
theorem dX1_pass_32 : decode cX1_pass 32 = .ok (.ireturn, 1) := by decide +kernel
theorem dX1_guests_0 : decode cX1_guests 0 = .ok (.aload_n 0, 1) := by decide +kernel
theorem dX1_guests_1 : decode cX1_guests 1 = .ok (.getfield 12, 3) := by decide +kernel
theorem dX1_guests_4 : decode cX1_guests 4 = .ok (.getfield 58, 3) := by decide +kernel
theorem dX1_guests_7 : decode cX1_guests 7 = .ok (.ireturn, 1) := by decide +kernel
theorem dX1_seconds_0 : decode cX1_seconds 0 = .ok (.aload_n 0, 1) := by decide +kernel
theorem dX1_seconds_1 : decode cX1_seconds 1 = .ok (.getfield 12, 3) := by decide +kernel
theorem dX1_seconds_4 : decode cX1_seconds 4 = .ok (.getfield 61, 3) := by decide +kernel
theorem dX1_seconds_7 : decode cX1_seconds 7 = .ok (.ireturn, 1) := by decide +kernel
theorem dX1_limit_0 : decode cX1_limit 0 = .ok (.aload_n 0, 1) := by decide +kernel
theorem dX1_limit_1 : decode cX1_limit 1 = .ok (.getfield 12, 3) := by decide +kernel
theorem dX1_limit_4 : decode cX1_limit 4 = .ok (.getfield 31, 3) := by decide +kernel
theorem dX1_limit_7 : decode cX1_limit 7 = .ok (.ireturn, 1) := by decide +kernel
set_option maxRecDepth 20000 in
theorem ggX1_seatsApart_X1_requireGuest : GoodIn wsX1_seatsApart wsX1_requireGuest := goodIn_ca (goodIn_r _ [6, 7, 8, 1, 9, 23, 24, 25, 26, 27, 28, 29, 30, 31, 32, 33, 34, 35, 36, 37, 38, 39, 40, 41] (by decide +kernel) (by decide +kernel)) (goodIn_sub (fun _ h => List.mem_cons_of_mem _ (List.mem_append_right _ h)) (by decide +kernel))
set_option maxRecDepth 20000 in
theorem gX1_seatsApart_X1_requireGuest : GoodIn wsX1_seatsApart (wsV RX1 35 RX1 yX1_requireGuest wsX1_requireGuest) := goodIn_app (goodIn_of _ (by decide +kernel)) ggX1_seatsApart_X1_requireGuest
set_option maxRecDepth 20000 in
theorem ggX1_seatsApart_X0_seatsBetween : GoodIn wsX1_seatsApart wsX0_seatsBetween := goodIn_r _ [14, 15, 16, 17, 18, 19, 20, 21, 22, 25, 26, 27, 28, 29, 30, 31, 32, 33, 34, 35, 36, 37, 38, 39, 40, 41] (by decide +kernel) (by decide +kernel)
set_option maxRecDepth 20000 in
theorem gX1_seatsApart_X0_seatsBetween : GoodIn wsX1_seatsApart (wsV RX1 64 RX0 yX0_seatsBetween wsX0_seatsBetween) := goodIn_app (goodIn_of _ (by decide +kernel)) ggX1_seatsApart_X0_seatsBetween
theorem dX1_seatsApart_0 : decode cX1_seatsApart 0 = .ok (.aload_n 0, 1) := by decide +kernel
theorem dX1_seatsApart_1 : decode cX1_seatsApart 1 = .ok (.iload_n 1, 1) := by decide +kernel
theorem dX1_seatsApart_2 : decode cX1_seatsApart 2 = .ok (.invokevirtual 35, 3) := by decide +kernel
theorem dX1_seatsApart_5 : decode cX1_seatsApart 5 = .ok (.aload_n 0, 1) := by decide +kernel
theorem dX1_seatsApart_6 : decode cX1_seatsApart 6 = .ok (.iload_n 2, 1) := by decide +kernel
theorem dX1_seatsApart_7 : decode cX1_seatsApart 7 = .ok (.invokevirtual 35, 3) := by decide +kernel
theorem dX1_seatsApart_10 : decode cX1_seatsApart 10 = .ok (.aload_n 0, 1) := by decide +kernel
theorem dX1_seatsApart_11 : decode cX1_seatsApart 11 = .ok (.getfield 12, 3) := by decide +kernel
theorem dX1_seatsApart_14 : decode cX1_seatsApart 14 = .ok (.iload_n 1, 1) := by decide +kernel
theorem dX1_seatsApart_15 : decode cX1_seatsApart 15 = .ok (.iload_n 2, 1) := by decide +kernel
theorem dX1_seatsApart_16 : decode cX1_seatsApart 16 = .ok (.invokevirtual 64, 3) := by decide +kernel
theorem dX1_seatsApart_19 : decode cX1_seatsApart 19 = .ok (.ireturn, 1) := by decide +kernel
theorem dX1_speaker_0 : decode cX1_speaker 0 = .ok (.aload_n 0, 1) := by decide +kernel
theorem dX1_speaker_1 : decode cX1_speaker 1 = .ok (.getfield 12, 3) := by decide +kernel
theorem dX1_speaker_4 : decode cX1_speaker 4 = .ok (.getfield 67, 3) := by decide +kernel
theorem dX1_speaker_7 : decode cX1_speaker 7 = .ok (.ireturn, 1) := by decide +kernel
theorem dX1_secondsToSpeak_0 : decode cX1_secondsToSpeak 0 = .ok (.aload_n 0, 1) := by decide +kernel
theorem dX1_secondsToSpeak_1 : decode cX1_secondsToSpeak 1 = .ok (.getfield 12, 3) := by decide +kernel
theorem dX1_secondsToSpeak_4 : decode cX1_secondsToSpeak 4 = .ok (.getfield 70, 3) := by decide +kernel
theorem dX1_secondsToSpeak_7 : decode cX1_secondsToSpeak 7 = .ok (.ireturn, 1) := by decide +kernel
theorem dX1_pause_0 : decode cX1_pause 0 = .ok (.aload_n 0, 1) := by decide +kernel
theorem dX1_pause_1 : decode cX1_pause 1 = .ok (.getfield 12, 3) := by decide +kernel
theorem dX1_pause_4 : decode cX1_pause 4 = .ok (.getfield 73, 3) := by decide +kernel
theorem dX1_pause_7 : decode cX1_pause 7 = .ok (.ireturn, 1) := by decide +kernel
set_option maxRecDepth 20000 in
theorem ggX1_spokenBy_X1_requireGuest : GoodIn wsX1_spokenBy wsX1_requireGuest := goodIn_ca (goodIn_r _ [7, 8, 9, 1, 10, 11, 12, 13, 14, 15, 16, 17, 18, 19, 20, 21, 22, 23, 24, 25, 26, 27, 28, 29] (by decide +kernel) (by decide +kernel)) (goodIn_sub (fun _ h => List.mem_cons_of_mem _ (List.mem_append_right _ h)) (by decide +kernel))
set_option maxRecDepth 20000 in
theorem gX1_spokenBy_X1_requireGuest : GoodIn wsX1_spokenBy (wsV RX1 35 RX1 yX1_requireGuest wsX1_requireGuest) := goodIn_app (goodIn_of _ (by decide +kernel)) ggX1_spokenBy_X1_requireGuest
theorem dX1_spokenBy_0 : decode cX1_spokenBy 0 = .ok (.aload_n 0, 1) := by decide +kernel
theorem dX1_spokenBy_1 : decode cX1_spokenBy 1 = .ok (.iload_n 1, 1) := by decide +kernel
theorem dX1_spokenBy_2 : decode cX1_spokenBy 2 = .ok (.invokevirtual 35, 3) := by decide +kernel
theorem dX1_spokenBy_5 : decode cX1_spokenBy 5 = .ok (.aload_n 0, 1) := by decide +kernel
theorem dX1_spokenBy_6 : decode cX1_spokenBy 6 = .ok (.getfield 12, 3) := by decide +kernel
theorem dX1_spokenBy_9 : decode cX1_spokenBy 9 = .ok (.getfield 76, 3) := by decide +kernel
theorem dX1_spokenBy_12 : decode cX1_spokenBy 12 = .ok (.iload_n 1, 1) := by decide +kernel
theorem dX1_spokenBy_13 : decode cX1_spokenBy 13 = .ok (.iaload, 1) := by decide +kernel
theorem dX1_spokenBy_14 : decode cX1_spokenBy 14 = .ok (.ireturn, 1) := by decide +kernel
set_option maxRecDepth 20000 in
theorem ggX1_interruptionsBy_X1_requireGuest : GoodIn wsX1_interruptionsBy wsX1_requireGuest := goodIn_ca (goodIn_r _ [7, 8, 9, 1, 10, 11, 12, 13, 14, 15, 16, 17, 18, 19, 20, 21, 22, 23, 24, 25, 26, 27, 28, 29] (by decide +kernel) (by decide +kernel)) (goodIn_sub (fun _ h => List.mem_cons_of_mem _ (List.mem_append_right _ h)) (by decide +kernel))
set_option maxRecDepth 20000 in
theorem gX1_interruptionsBy_X1_requireGuest : GoodIn wsX1_interruptionsBy (wsV RX1 35 RX1 yX1_requireGuest wsX1_requireGuest) := goodIn_app (goodIn_of _ (by decide +kernel)) ggX1_interruptionsBy_X1_requireGuest
theorem dX1_interruptionsBy_0 : decode cX1_interruptionsBy 0 = .ok (.aload_n 0, 1) := by decide +kernel
theorem dX1_interruptionsBy_1 : decode cX1_interruptionsBy 1 = .ok (.iload_n 1, 1) := by decide +kernel
theorem dX1_interruptionsBy_2 : decode cX1_interruptionsBy 2 = .ok (.invokevirtual 35, 3) := by decide +kernel
theorem dX1_interruptionsBy_5 : decode cX1_interruptionsBy 5 = .ok (.aload_n 0, 1) := by decide +kernel
theorem dX1_interruptionsBy_6 : decode cX1_interruptionsBy 6 = .ok (.getfield 12, 3) := by decide +kernel
theorem dX1_interruptionsBy_9 : decode cX1_interruptionsBy 9 = .ok (.getfield 80, 3) := by decide +kernel
theorem dX1_interruptionsBy_12 : decode cX1_interruptionsBy 12 = .ok (.iload_n 1, 1) := by decide +kernel
theorem dX1_interruptionsBy_13 : decode cX1_interruptionsBy 13 = .ok (.iaload, 1) := by decide +kernel
theorem dX1_interruptionsBy_14 : decode cX1_interruptionsBy 14 = .ok (.ireturn, 1) := by decide +kernel
set_option maxRecDepth 20000 in
theorem ggX1_coughsOf_X1_requireGuest : GoodIn wsX1_coughsOf wsX1_requireGuest := goodIn_ca (goodIn_r _ [7, 8, 9, 1, 10, 11, 12, 13, 14, 15, 16, 17, 18, 19, 20, 21, 22, 23, 24, 25, 26, 27, 28, 29] (by decide +kernel) (by decide +kernel)) (goodIn_sub (fun _ h => List.mem_cons_of_mem _ (List.mem_append_right _ h)) (by decide +kernel))
set_option maxRecDepth 20000 in
theorem gX1_coughsOf_X1_requireGuest : GoodIn wsX1_coughsOf (wsV RX1 35 RX1 yX1_requireGuest wsX1_requireGuest) := goodIn_app (goodIn_of _ (by decide +kernel)) ggX1_coughsOf_X1_requireGuest
theorem dX1_coughsOf_0 : decode cX1_coughsOf 0 = .ok (.aload_n 0, 1) := by decide +kernel
theorem dX1_coughsOf_1 : decode cX1_coughsOf 1 = .ok (.iload_n 1, 1) := by decide +kernel
theorem dX1_coughsOf_2 : decode cX1_coughsOf 2 = .ok (.invokevirtual 35, 3) := by decide +kernel
theorem dX1_coughsOf_5 : decode cX1_coughsOf 5 = .ok (.aload_n 0, 1) := by decide +kernel
theorem dX1_coughsOf_6 : decode cX1_coughsOf 6 = .ok (.getfield 12, 3) := by decide +kernel
theorem dX1_coughsOf_9 : decode cX1_coughsOf 9 = .ok (.getfield 83, 3) := by decide +kernel
theorem dX1_coughsOf_12 : decode cX1_coughsOf 12 = .ok (.iload_n 1, 1) := by decide +kernel
theorem dX1_coughsOf_13 : decode cX1_coughsOf 13 = .ok (.iaload, 1) := by decide +kernel
theorem dX1_coughsOf_14 : decode cX1_coughsOf 14 = .ok (.ireturn, 1) := by decide +kernel
set_option maxRecDepth 20000 in
theorem ggX1_unsaidBy_X1_requireGuest : GoodIn wsX1_unsaidBy wsX1_requireGuest := goodIn_ca (goodIn_r _ [7, 8, 9, 1, 10, 11, 12, 13, 14, 15, 16, 17, 18, 19, 20, 21, 22, 23, 24, 25, 26, 27, 28, 29] (by decide +kernel) (by decide +kernel)) (goodIn_sub (fun _ h => List.mem_cons_of_mem _ (List.mem_append_right _ h)) (by decide +kernel))
set_option maxRecDepth 20000 in
theorem gX1_unsaidBy_X1_requireGuest : GoodIn wsX1_unsaidBy (wsV RX1 35 RX1 yX1_requireGuest wsX1_requireGuest) := goodIn_app (goodIn_of _ (by decide +kernel)) ggX1_unsaidBy_X1_requireGuest
theorem dX1_unsaidBy_0 : decode cX1_unsaidBy 0 = .ok (.aload_n 0, 1) := by decide +kernel
theorem dX1_unsaidBy_1 : decode cX1_unsaidBy 1 = .ok (.iload_n 1, 1) := by decide +kernel
theorem dX1_unsaidBy_2 : decode cX1_unsaidBy 2 = .ok (.invokevirtual 35, 3) := by decide +kernel
theorem dX1_unsaidBy_5 : decode cX1_unsaidBy 5 = .ok (.aload_n 0, 1) := by decide +kernel
theorem dX1_unsaidBy_6 : decode cX1_unsaidBy 6 = .ok (.getfield 12, 3) := by decide +kernel
theorem dX1_unsaidBy_9 : decode cX1_unsaidBy 9 = .ok (.getfield 86, 3) := by decide +kernel
theorem dX1_unsaidBy_12 : decode cX1_unsaidBy 12 = .ok (.iload_n 1, 1) := by decide +kernel
theorem dX1_unsaidBy_13 : decode cX1_unsaidBy 13 = .ok (.iaload, 1) := by decide +kernel
theorem dX1_unsaidBy_14 : decode cX1_unsaidBy 14 = .ok (.ireturn, 1) := by decide +kernel
set_option maxRecDepth 20000 in
theorem ggX1_isUnderWay_X1_requireGuest : GoodIn wsX1_isUnderWay wsX1_requireGuest := goodIn_ca (goodIn_r _ [6, 7, 8, 1, 9, 19, 20, 21, 22, 23, 24, 25, 26, 27, 28, 29, 30, 31, 32, 33, 34, 35, 36, 37] (by decide +kernel) (by decide +kernel)) (goodIn_sub (fun _ h => List.mem_cons_of_mem _ (List.mem_append_right _ h)) (by decide +kernel))
set_option maxRecDepth 20000 in
theorem gX1_isUnderWay_X1_requireGuest : GoodIn wsX1_isUnderWay (wsV RX1 35 RX1 yX1_requireGuest wsX1_requireGuest) := goodIn_app (goodIn_of _ (by decide +kernel)) ggX1_isUnderWay_X1_requireGuest
set_option maxRecDepth 20000 in
theorem ggX1_isUnderWay_X1_pairOf : GoodIn wsX1_isUnderWay wsX1_pairOf := goodIn_r _ [12] (by decide +kernel) (by decide +kernel)
set_option maxRecDepth 20000 in
theorem gX1_isUnderWay_X1_pairOf : GoodIn wsX1_isUnderWay (va_wsS RX1 89 yX1_pairOf wsX1_pairOf) := goodIn_app (goodIn_of _ (by decide +kernel)) ggX1_isUnderWay_X1_pairOf
set_option maxRecDepth 20000 in
theorem ggX1_isUnderWay_X0_isOnItsWay : GoodIn wsX1_isUnderWay wsX0_isOnItsWay := goodIn_r _ [17, 18, 21, 22, 23, 24, 25, 26, 27, 28, 29, 30, 31, 32, 33, 34, 35, 36, 37] (by decide +kernel) (by decide +kernel)
set_option maxRecDepth 20000 in
theorem gX1_isUnderWay_X0_isOnItsWay : GoodIn wsX1_isUnderWay (wsV RX1 92 RX0 yX0_isOnItsWay wsX0_isOnItsWay) := goodIn_app (goodIn_of _ (by decide +kernel)) ggX1_isUnderWay_X0_isOnItsWay
theorem dX1_isUnderWay_0 : decode cX1_isUnderWay 0 = .ok (.aload_n 0, 1) := by decide +kernel
theorem dX1_isUnderWay_1 : decode cX1_isUnderWay 1 = .ok (.iload_n 1, 1) := by decide +kernel
theorem dX1_isUnderWay_2 : decode cX1_isUnderWay 2 = .ok (.invokevirtual 35, 3) := by decide +kernel
theorem dX1_isUnderWay_5 : decode cX1_isUnderWay 5 = .ok (.aload_n 0, 1) := by decide +kernel
theorem dX1_isUnderWay_6 : decode cX1_isUnderWay 6 = .ok (.iload_n 2, 1) := by decide +kernel
theorem dX1_isUnderWay_7 : decode cX1_isUnderWay 7 = .ok (.invokevirtual 35, 3) := by decide +kernel
theorem dX1_isUnderWay_10 : decode cX1_isUnderWay 10 = .ok (.aload_n 0, 1) := by decide +kernel
theorem dX1_isUnderWay_11 : decode cX1_isUnderWay 11 = .ok (.getfield 12, 3) := by decide +kernel
theorem dX1_isUnderWay_14 : decode cX1_isUnderWay 14 = .ok (.iload_n 1, 1) := by decide +kernel
theorem dX1_isUnderWay_15 : decode cX1_isUnderWay 15 = .ok (.iload_n 2, 1) := by decide +kernel
theorem dX1_isUnderWay_16 : decode cX1_isUnderWay 16 = .ok (.invokestatic 89, 3) := by decide +kernel
theorem dX1_isUnderWay_19 : decode cX1_isUnderWay 19 = .ok (.invokevirtual 92, 3) := by decide +kernel
theorem dX1_isUnderWay_22 : decode cX1_isUnderWay 22 = .ok (.ireturn, 1) := by decide +kernel
set_option maxRecDepth 20000 in
theorem ggX1_secondsToGo_X1_requireGuest : GoodIn wsX1_secondsToGo wsX1_requireGuest := goodIn_ca (goodIn_r _ [6, 7, 8, 1, 9, 23, 24, 25, 26, 27, 28, 29, 30, 31, 32, 33, 34, 35, 36, 37, 38, 39, 40, 41] (by decide +kernel) (by decide +kernel)) (goodIn_sub (fun _ h => List.mem_cons_of_mem _ (List.mem_append_right _ h)) (by decide +kernel))
set_option maxRecDepth 20000 in
theorem gX1_secondsToGo_X1_requireGuest : GoodIn wsX1_secondsToGo (wsV RX1 35 RX1 yX1_requireGuest wsX1_requireGuest) := goodIn_app (goodIn_of _ (by decide +kernel)) ggX1_secondsToGo_X1_requireGuest
set_option maxRecDepth 20000 in
theorem ggX1_secondsToGo_X1_pairOf : GoodIn wsX1_secondsToGo wsX1_pairOf := goodIn_r _ [12] (by decide +kernel) (by decide +kernel)
set_option maxRecDepth 20000 in
theorem gX1_secondsToGo_X1_pairOf : GoodIn wsX1_secondsToGo (va_wsS RX1 89 yX1_pairOf wsX1_pairOf) := goodIn_app (goodIn_of _ (by decide +kernel)) ggX1_secondsToGo_X1_pairOf
set_option maxRecDepth 20000 in
theorem ggX1_secondsToGo_X0_timeToGo : GoodIn wsX1_secondsToGo wsX0_timeToGo := goodIn_r _ [17, 18, 19, 20, 21, 16, 22, 25, 26, 27, 28, 29, 30, 31, 32, 33, 34, 35, 36, 37, 38, 39, 40, 41] (by decide +kernel) (by decide +kernel)
set_option maxRecDepth 20000 in
theorem gX1_secondsToGo_X0_timeToGo : GoodIn wsX1_secondsToGo (wsV RX1 96 RX0 yX0_timeToGo wsX0_timeToGo) := goodIn_app (goodIn_of _ (by decide +kernel)) ggX1_secondsToGo_X0_timeToGo
theorem dX1_secondsToGo_0 : decode cX1_secondsToGo 0 = .ok (.aload_n 0, 1) := by decide +kernel
theorem dX1_secondsToGo_1 : decode cX1_secondsToGo 1 = .ok (.iload_n 1, 1) := by decide +kernel
theorem dX1_secondsToGo_2 : decode cX1_secondsToGo 2 = .ok (.invokevirtual 35, 3) := by decide +kernel
theorem dX1_secondsToGo_5 : decode cX1_secondsToGo 5 = .ok (.aload_n 0, 1) := by decide +kernel
theorem dX1_secondsToGo_6 : decode cX1_secondsToGo 6 = .ok (.iload_n 2, 1) := by decide +kernel
theorem dX1_secondsToGo_7 : decode cX1_secondsToGo 7 = .ok (.invokevirtual 35, 3) := by decide +kernel
theorem dX1_secondsToGo_10 : decode cX1_secondsToGo 10 = .ok (.aload_n 0, 1) := by decide +kernel
theorem dX1_secondsToGo_11 : decode cX1_secondsToGo 11 = .ok (.getfield 12, 3) := by decide +kernel
theorem dX1_secondsToGo_14 : decode cX1_secondsToGo 14 = .ok (.iload_n 1, 1) := by decide +kernel
theorem dX1_secondsToGo_15 : decode cX1_secondsToGo 15 = .ok (.iload_n 2, 1) := by decide +kernel
theorem dX1_secondsToGo_16 : decode cX1_secondsToGo 16 = .ok (.invokestatic 89, 3) := by decide +kernel
theorem dX1_secondsToGo_19 : decode cX1_secondsToGo 19 = .ok (.invokevirtual 96, 3) := by decide +kernel
theorem dX1_secondsToGo_22 : decode cX1_secondsToGo 22 = .ok (.ireturn, 1) := by decide +kernel
set_option maxRecDepth 20000 in
theorem ggX1_caughtBy_X1_requireGuest : GoodIn wsX1_caughtBy wsX1_requireGuest := goodIn_ca (goodIn_r _ [7, 8, 9, 1, 10, 14, 15, 16, 17, 18, 19, 20, 21, 22, 23, 24, 25, 26, 27, 28, 29, 30, 31, 32] (by decide +kernel) (by decide +kernel)) (goodIn_sub (fun _ h => List.mem_cons_of_mem _ (List.mem_append_right _ h)) (by decide +kernel))
set_option maxRecDepth 20000 in
theorem gX1_caughtBy_X1_requireGuest : GoodIn wsX1_caughtBy (wsV RX1 35 RX1 yX1_requireGuest wsX1_requireGuest) := goodIn_app (goodIn_of _ (by decide +kernel)) ggX1_caughtBy_X1_requireGuest
set_option maxRecDepth 20000 in
theorem ggX1_caughtBy_X1_pairOf : GoodIn wsX1_caughtBy wsX1_pairOf := goodIn_r _ [13] (by decide +kernel) (by decide +kernel)
set_option maxRecDepth 20000 in
theorem gX1_caughtBy_X1_pairOf : GoodIn wsX1_caughtBy (va_wsS RX1 89 yX1_pairOf wsX1_pairOf) := goodIn_app (goodIn_of _ (by decide +kernel)) ggX1_caughtBy_X1_pairOf
theorem dX1_caughtBy_0 : decode cX1_caughtBy 0 = .ok (.aload_n 0, 1) := by decide +kernel
theorem dX1_caughtBy_1 : decode cX1_caughtBy 1 = .ok (.iload_n 1, 1) := by decide +kernel
theorem dX1_caughtBy_2 : decode cX1_caughtBy 2 = .ok (.invokevirtual 35, 3) := by decide +kernel
theorem dX1_caughtBy_5 : decode cX1_caughtBy 5 = .ok (.aload_n 0, 1) := by decide +kernel
theorem dX1_caughtBy_6 : decode cX1_caughtBy 6 = .ok (.iload_n 2, 1) := by decide +kernel
theorem dX1_caughtBy_7 : decode cX1_caughtBy 7 = .ok (.invokevirtual 35, 3) := by decide +kernel
theorem dX1_caughtBy_10 : decode cX1_caughtBy 10 = .ok (.aload_n 0, 1) := by decide +kernel
theorem dX1_caughtBy_11 : decode cX1_caughtBy 11 = .ok (.getfield 12, 3) := by decide +kernel
theorem dX1_caughtBy_14 : decode cX1_caughtBy 14 = .ok (.getfield 100, 3) := by decide +kernel
theorem dX1_caughtBy_17 : decode cX1_caughtBy 17 = .ok (.iload_n 1, 1) := by decide +kernel
theorem dX1_caughtBy_18 : decode cX1_caughtBy 18 = .ok (.iload_n 2, 1) := by decide +kernel
theorem dX1_caughtBy_19 : decode cX1_caughtBy 19 = .ok (.invokestatic 89, 3) := by decide +kernel
theorem dX1_caughtBy_22 : decode cX1_caughtBy 22 = .ok (.iaload, 1) := by decide +kernel
theorem dX1_caughtBy_23 : decode cX1_caughtBy 23 = .ok (.ireturn, 1) := by decide +kernel
theorem dX1_unsaidInPauses_0 : decode cX1_unsaidInPauses 0 = .ok (.aload_n 0, 1) := by decide +kernel
theorem dX1_unsaidInPauses_1 : decode cX1_unsaidInPauses 1 = .ok (.getfield 12, 3) := by decide +kernel
theorem dX1_unsaidInPauses_4 : decode cX1_unsaidInPauses 4 = .ok (.getfield 103, 3) := by decide +kernel
theorem dX1_unsaidInPauses_7 : decode cX1_unsaidInPauses 7 = .ok (.ireturn, 1) := by decide +kernel
set_option maxRecDepth 20000 in
theorem ggX1_allUnsaid_X0_sumUnsaid : GoodIn wsX1_allUnsaid wsX0_sumUnsaid := goodIn_r _ [6, 7, 8, 9, 10, 5, 11, 12, 13, 16, 17, 18, 19, 20, 21, 22, 23, 24, 25, 26, 27, 28, 29, 30, 31, 32] (by decide +kernel) (by decide +kernel)
set_option maxRecDepth 20000 in
theorem gX1_allUnsaid_X0_sumUnsaid : GoodIn wsX1_allUnsaid (wsV RX1 52 RX0 yX0_sumUnsaid wsX0_sumUnsaid) := goodIn_app (goodIn_of _ (by decide +kernel)) ggX1_allUnsaid_X0_sumUnsaid
theorem dX1_allUnsaid_0 : decode cX1_allUnsaid 0 = .ok (.aload_n 0, 1) := by decide +kernel
theorem dX1_allUnsaid_1 : decode cX1_allUnsaid 1 = .ok (.getfield 12, 3) := by decide +kernel
theorem dX1_allUnsaid_4 : decode cX1_allUnsaid 4 = .ok (.invokevirtual 52, 3) := by decide +kernel
theorem dX1_allUnsaid_7 : decode cX1_allUnsaid 7 = .ok (.ireturn, 1) := by decide +kernel
theorem dX1_glancesUnderWay_0 : decode cX1_glancesUnderWay 0 = .ok (.aload_n 0, 1) := by decide +kernel
theorem dX1_glancesUnderWay_1 : decode cX1_glancesUnderWay 1 = .ok (.getfield 12, 3) := by decide +kernel
theorem dX1_glancesUnderWay_4 : decode cX1_glancesUnderWay 4 = .ok (.getfield 106, 3) := by decide +kernel
theorem dX1_glancesUnderWay_7 : decode cX1_glancesUnderWay 7 = .ok (.ireturn, 1) := by decide +kernel
theorem dX1_meetings_0 : decode cX1_meetings 0 = .ok (.aload_n 0, 1) := by decide +kernel
theorem dX1_meetings_1 : decode cX1_meetings 1 = .ok (.getfield 12, 3) := by decide +kernel
theorem dX1_meetings_4 : decode cX1_meetings 4 = .ok (.getfield 109, 3) := by decide +kernel
theorem dX1_meetings_7 : decode cX1_meetings 7 = .ok (.ireturn, 1) := by decide +kernel
theorem dX1_lostGlances_0 : decode cX1_lostGlances 0 = .ok (.aload_n 0, 1) := by decide +kernel
theorem dX1_lostGlances_1 : decode cX1_lostGlances 1 = .ok (.getfield 12, 3) := by decide +kernel
theorem dX1_lostGlances_4 : decode cX1_lostGlances 4 = .ok (.getfield 112, 3) := by decide +kernel
theorem dX1_lostGlances_7 : decode cX1_lostGlances 7 = .ok (.ireturn, 1) := by decide +kernel
theorem dX1_quietest_0 : decode cX1_quietest 0 = .ok (.iconst 0, 1) := by decide +kernel
theorem dX1_quietest_1 : decode cX1_quietest 1 = .ok (.istore_n 1, 1) := by decide +kernel
theorem dX1_quietest_2 : decode cX1_quietest 2 = .ok (.iconst 1, 1) := by decide +kernel
theorem dX1_quietest_3 : decode cX1_quietest 3 = .ok (.istore_n 2, 1) := by decide +kernel
theorem dX1_quietest_4 : decode cX1_quietest 4 = .ok (.iload_n 2, 1) := by decide +kernel
theorem dX1_quietest_5 : decode cX1_quietest 5 = .ok (.aload_n 0, 1) := by decide +kernel
theorem dX1_quietest_6 : decode cX1_quietest 6 = .ok (.getfield 12, 3) := by decide +kernel
theorem dX1_quietest_9 : decode cX1_quietest 9 = .ok (.getfield 58, 3) := by decide +kernel
theorem dX1_quietest_12 : decode cX1_quietest 12 = .ok (.if_icmp .ge 32, 3) := by decide +kernel
theorem dX1_quietest_15 : decode cX1_quietest 15 = .ok (.aload_n 0, 1) := by decide +kernel
theorem dX1_quietest_16 : decode cX1_quietest 16 = .ok (.getfield 12, 3) := by decide +kernel
theorem dX1_quietest_19 : decode cX1_quietest 19 = .ok (.getfield 86, 3) := by decide +kernel
theorem dX1_quietest_22 : decode cX1_quietest 22 = .ok (.iload_n 2, 1) := by decide +kernel
theorem dX1_quietest_23 : decode cX1_quietest 23 = .ok (.iaload, 1) := by decide +kernel
theorem dX1_quietest_24 : decode cX1_quietest 24 = .ok (.aload_n 0, 1) := by decide +kernel
theorem dX1_quietest_25 : decode cX1_quietest 25 = .ok (.getfield 12, 3) := by decide +kernel
theorem dX1_quietest_28 : decode cX1_quietest 28 = .ok (.getfield 86, 3) := by decide +kernel
theorem dX1_quietest_31 : decode cX1_quietest 31 = .ok (.iload_n 1, 1) := by decide +kernel
theorem dX1_quietest_32 : decode cX1_quietest 32 = .ok (.iaload, 1) := by decide +kernel
theorem dX1_quietest_33 : decode cX1_quietest 33 = .ok (.if_icmp .le 5, 3) := by decide +kernel
theorem dX1_quietest_36 : decode cX1_quietest 36 = .ok (.iload_n 2, 1) := by decide +kernel
theorem dX1_quietest_37 : decode cX1_quietest 37 = .ok (.istore_n 1, 1) := by decide +kernel
theorem dX1_quietest_38 : decode cX1_quietest 38 = .ok (.iinc 2 1, 3) := by decide +kernel
theorem dX1_quietest_41 : decode cX1_quietest 41 = .ok (.goto (-37), 3) := by decide +kernel
theorem dX1_quietest_44 : decode cX1_quietest 44 = .ok (.iload_n 1, 1) := by decide +kernel
theorem dX1_quietest_45 : decode cX1_quietest 45 = .ok (.ireturn, 1) := by decide +kernel
set_option maxRecDepth 20000 in
theorem ggX1_rating_X0_rate : GoodIn wsX1_rating wsX0_rate := goodIn_r _ [6, 7, 8, 9, 10, 11, 12, 13, 14, 15, 16, 17, 5, 18, 19, 20, 21, 22, 23, 24, 27, 28, 29, 30, 31, 32, 33, 34, 35, 36, 37, 38, 39, 40, 41, 42, 43] (by decide +kernel) (by decide +kernel)
set_option maxRecDepth 20000 in
theorem gX1_rating_X0_rate : GoodIn wsX1_rating (wsV RX1 23 RX0 yX0_rate wsX0_rate) := goodIn_app (goodIn_of _ (by decide +kernel)) ggX1_rating_X0_rate
theorem dX1_rating_0 : decode cX1_rating 0 = .ok (.aload_n 0, 1) := by decide +kernel
theorem dX1_rating_1 : decode cX1_rating 1 = .ok (.getfield 12, 3) := by decide +kernel
theorem dX1_rating_4 : decode cX1_rating 4 = .ok (.invokevirtual 23, 3) := by decide +kernel
theorem dX1_rating_7 : decode cX1_rating 7 = .ok (.ireturn, 1) := by decide +kernel
set_option maxRecDepth 20000 in
theorem ggX1_meanUnsaid_X0_sumUnsaidByGuests : GoodIn wsX1_meanUnsaid wsX0_sumUnsaidByGuests := goodIn_r _ [7, 8, 9, 12, 13, 14, 15, 16, 17, 18, 19, 20, 21, 22, 23, 24, 25, 26, 27, 28] (by decide +kernel) (by decide +kernel)
set_option maxRecDepth 20000 in
theorem gX1_meanUnsaid_X0_sumUnsaidByGuests : GoodIn wsX1_meanUnsaid (wsV RX1 125 RX0 yX0_sumUnsaidByGuests wsX0_sumUnsaidByGuests) := goodIn_app (goodIn_of _ (by decide +kernel)) ggX1_meanUnsaid_X0_sumUnsaidByGuests
theorem dX1_meanUnsaid_0 : decode cX1_meanUnsaid 0 = .ok (.aload_n 0, 1) := by decide +kernel
theorem dX1_meanUnsaid_1 : decode cX1_meanUnsaid 1 = .ok (.getfield 12, 3) := by decide +kernel
theorem dX1_meanUnsaid_4 : decode cX1_meanUnsaid 4 = .ok (.getfield 58, 3) := by decide +kernel
theorem dX1_meanUnsaid_7 : decode cX1_meanUnsaid 7 = .ok (.ifCond .le 23, 3) := by decide +kernel
theorem dX1_meanUnsaid_10 : decode cX1_meanUnsaid 10 = .ok (.aload_n 0, 1) := by decide +kernel
theorem dX1_meanUnsaid_11 : decode cX1_meanUnsaid 11 = .ok (.getfield 12, 3) := by decide +kernel
theorem dX1_meanUnsaid_14 : decode cX1_meanUnsaid 14 = .ok (.invokevirtual 125, 3) := by decide +kernel
theorem dX1_meanUnsaid_17 : decode cX1_meanUnsaid 17 = .ok (.i2d, 1) := by decide +kernel
theorem dX1_meanUnsaid_18 : decode cX1_meanUnsaid 18 = .ok (.aload_n 0, 1) := by decide +kernel
theorem dX1_meanUnsaid_19 : decode cX1_meanUnsaid 19 = .ok (.getfield 12, 3) := by decide +kernel
theorem dX1_meanUnsaid_22 : decode cX1_meanUnsaid 22 = .ok (.getfield 58, 3) := by decide +kernel
theorem dX1_meanUnsaid_25 : decode cX1_meanUnsaid 25 = .ok (.i2d, 1) := by decide +kernel
theorem dX1_meanUnsaid_26 : decode cX1_meanUnsaid 26 = .ok (.ddiv, 1) := by decide +kernel
theorem dX1_meanUnsaid_27 : decode cX1_meanUnsaid 27 = .ok (.goto 4, 3) := by decide +kernel
theorem dX1_meanUnsaid_30 : decode cX1_meanUnsaid 30 = .ok (.dconst 0, 1) := by decide +kernel
theorem dX1_meanUnsaid_31 : decode cX1_meanUnsaid 31 = .ok (.dreturn, 1) := by decide +kernel
theorem dX1_requireGuest_0 : decode cX1_requireGuest 0 = .ok (.iload_n 1, 1) := by decide +kernel
theorem dX1_requireGuest_1 : decode cX1_requireGuest 1 = .ok (.ifCond .lt 14, 3) := by decide +kernel
theorem dX1_requireGuest_4 : decode cX1_requireGuest 4 = .ok (.iload_n 1, 1) := by decide +kernel
theorem dX1_requireGuest_5 : decode cX1_requireGuest 5 = .ok (.aload_n 0, 1) := by decide +kernel
theorem dX1_requireGuest_6 : decode cX1_requireGuest 6 = .ok (.getfield 12, 3) := by decide +kernel
theorem dX1_requireGuest_9 : decode cX1_requireGuest 9 = .ok (.getfield 58, 3) := by decide +kernel
theorem dX1_requireGuest_12 : decode cX1_requireGuest 12 = .ok (.if_icmp .lt 13, 3) := by decide +kernel
theorem dX1_requireGuest_15 : decode cX1_requireGuest 15 = .ok (.new 147, 3) := by decide +kernel
theorem dX1_requireGuest_18 : decode cX1_requireGuest 18 = .ok (.dup, 1) := by decide +kernel
theorem dX1_requireGuest_19 : decode cX1_requireGuest 19 = .ok (.ldc 149, 2) := by decide +kernel
theorem dX1_requireGuest_21 : decode cX1_requireGuest 21 = .ok (.invokespecial 151, 3) := by decide +kernel
theorem dX1_requireGuest_24 : decode cX1_requireGuest 24 = .ok (.athrow, 1) := by decide +kernel
theorem dX1_requireGuest_25 : decode cX1_requireGuest 25 = .ok (.return_, 1) := by decide +kernel
theorem dX1_requireWithin_0 : decode cX1_requireWithin 0 = .ok (.iload_n 0, 1) := by decide +kernel
theorem dX1_requireWithin_1 : decode cX1_requireWithin 1 = .ok (.iload_n 1, 1) := by decide +kernel
theorem dX1_requireWithin_2 : decode cX1_requireWithin 2 = .ok (.if_icmp .lt 8, 3) := by decide +kernel
theorem dX1_requireWithin_5 : decode cX1_requireWithin 5 = .ok (.iload_n 0, 1) := by decide +kernel
theorem dX1_requireWithin_6 : decode cX1_requireWithin 6 = .ok (.iload_n 2, 1) := by decide +kernel
theorem dX1_requireWithin_7 : decode cX1_requireWithin 7 = .ok (.if_icmp .le 13, 3) := by decide +kernel
theorem dX1_requireWithin_10 : decode cX1_requireWithin 10 = .ok (.new 154, 3) := by decide +kernel
theorem dX1_requireWithin_13 : decode cX1_requireWithin 13 = .ok (.dup, 1) := by decide +kernel
theorem dX1_requireWithin_14 : decode cX1_requireWithin 14 = .ok (.ldc 156, 2) := by decide +kernel
theorem dX1_requireWithin_16 : decode cX1_requireWithin 16 = .ok (.invokespecial 158, 3) := by decide +kernel
theorem dX1_requireWithin_19 : decode cX1_requireWithin 19 = .ok (.athrow, 1) := by decide +kernel
theorem dX1_requireWithin_20 : decode cX1_requireWithin 20 = .ok (.return_, 1) := by decide +kernel
set_option maxRecDepth 20000 in
theorem ggX1_requireFreeWay_X1_requireGuest : GoodIn wsX1_requireFreeWay wsX1_requireGuest := goodIn_ca (goodIn_r _ [10, 11, 12, 5, 13, 23, 24, 25, 26, 27, 28, 29, 30, 31, 32, 33, 34, 35, 36, 37, 38, 39, 40, 41] (by decide +kernel) (by decide +kernel)) (goodIn_sub (fun _ h => List.mem_cons_of_mem _ (List.mem_append_right _ h)) (by decide +kernel))
set_option maxRecDepth 20000 in
theorem gX1_requireFreeWay_X1_requireGuest : GoodIn wsX1_requireFreeWay (wsV RX1 35 RX1 yX1_requireGuest wsX1_requireGuest) := goodIn_app (goodIn_of _ (by decide +kernel)) ggX1_requireFreeWay_X1_requireGuest
set_option maxRecDepth 20000 in
theorem ggX1_requireFreeWay_X1_pairOf : GoodIn wsX1_requireFreeWay wsX1_pairOf := goodIn_r _ [16] (by decide +kernel) (by decide +kernel)
set_option maxRecDepth 20000 in
theorem gX1_requireFreeWay_X1_pairOf : GoodIn wsX1_requireFreeWay (va_wsS RX1 89 yX1_pairOf wsX1_pairOf) := goodIn_app (goodIn_of _ (by decide +kernel)) ggX1_requireFreeWay_X1_pairOf
set_option maxRecDepth 20000 in
theorem ggX1_requireFreeWay_X0_isOnItsWay : GoodIn wsX1_requireFreeWay wsX0_isOnItsWay := goodIn_r _ [21, 22, 25, 26, 27, 28, 29, 30, 31, 32, 33, 34, 35, 36, 37, 38, 39, 40, 41] (by decide +kernel) (by decide +kernel)
set_option maxRecDepth 20000 in
theorem gX1_requireFreeWay_X0_isOnItsWay : GoodIn wsX1_requireFreeWay (wsV RX1 92 RX0 yX0_isOnItsWay wsX0_isOnItsWay) := goodIn_app (goodIn_of _ (by decide +kernel)) ggX1_requireFreeWay_X0_isOnItsWay
theorem dX1_requireFreeWay_0 : decode cX1_requireFreeWay 0 = .ok (.aload_n 0, 1) := by decide +kernel
theorem dX1_requireFreeWay_1 : decode cX1_requireFreeWay 1 = .ok (.iload_n 1, 1) := by decide +kernel
theorem dX1_requireFreeWay_2 : decode cX1_requireFreeWay 2 = .ok (.invokevirtual 35, 3) := by decide +kernel
theorem dX1_requireFreeWay_5 : decode cX1_requireFreeWay 5 = .ok (.aload_n 0, 1) := by decide +kernel
theorem dX1_requireFreeWay_6 : decode cX1_requireFreeWay 6 = .ok (.iload_n 2, 1) := by decide +kernel
theorem dX1_requireFreeWay_7 : decode cX1_requireFreeWay 7 = .ok (.invokevirtual 35, 3) := by decide +kernel
theorem dX1_requireFreeWay_10 : decode cX1_requireFreeWay 10 = .ok (.iload_n 1, 1) := by decide +kernel
theorem dX1_requireFreeWay_11 : decode cX1_requireFreeWay 11 = .ok (.iload_n 2, 1) := by decide +kernel
theorem dX1_requireFreeWay_12 : decode cX1_requireFreeWay 12 = .ok (.if_icmp .ne 13, 3) := by decide +kernel
theorem dX1_requireFreeWay_15 : decode cX1_requireFreeWay 15 = .ok (.new 154, 3) := by decide +kernel
theorem dX1_requireFreeWay_18 : decode cX1_requireFreeWay 18 = .ok (.dup, 1) := by decide +kernel
theorem dX1_requireFreeWay_19 : decode cX1_requireFreeWay 19 = .ok (.ldc 159, 2) := by decide +kernel
theorem dX1_requireFreeWay_21 : decode cX1_requireFreeWay 21 = .ok (.invokespecial 158, 3) := by decide +kernel
theorem dX1_requireFreeWay_24 : decode cX1_requireFreeWay 24 = .ok (.athrow, 1) := by decide +kernel
theorem dX1_requireFreeWay_25 : decode cX1_requireFreeWay 25 = .ok (.aload_n 0, 1) := by decide +kernel
theorem dX1_requireFreeWay_26 : decode cX1_requireFreeWay 26 = .ok (.getfield 12, 3) := by decide +kernel
theorem dX1_requireFreeWay_29 : decode cX1_requireFreeWay 29 = .ok (.iload_n 1, 1) := by decide +kernel
theorem dX1_requireFreeWay_30 : decode cX1_requireFreeWay 30 = .ok (.iload_n 2, 1) := by decide +kernel
theorem dX1_requireFreeWay_31 : decode cX1_requireFreeWay 31 = .ok (.invokestatic 89, 3) := by decide +kernel
theorem dX1_requireFreeWay_34 : decode cX1_requireFreeWay 34 = .ok (.invokevirtual 92, 3) := by decide +kernel
theorem dX1_requireFreeWay_37 : decode cX1_requireFreeWay 37 = .ok (.ifCond .eq 13, 3) := by decide +kernel
theorem dX1_requireFreeWay_40 : decode cX1_requireFreeWay 40 = .ok (.new 161, 3) := by decide +kernel
theorem dX1_requireFreeWay_43 : decode cX1_requireFreeWay 43 = .ok (.dup, 1) := by decide +kernel
theorem dX1_requireFreeWay_44 : decode cX1_requireFreeWay 44 = .ok (.ldc 163, 2) := by decide +kernel
theorem dX1_requireFreeWay_46 : decode cX1_requireFreeWay 46 = .ok (.invokespecial 165, 3) := by decide +kernel
theorem dX1_requireFreeWay_49 : decode cX1_requireFreeWay 49 = .ok (.athrow, 1) := by decide +kernel
theorem dX1_requireFreeWay_50 : decode cX1_requireFreeWay 50 = .ok (.return_, 1) := by decide +kernel
theorem dX1_pairOf_0 : decode cX1_pairOf 0 = .ok (.iload_n 0, 1) := by decide +kernel
theorem dX1_pairOf_1 : decode cX1_pairOf 1 = .ok (.bipush 10, 2) := by decide +kernel
theorem dX1_pairOf_3 : decode cX1_pairOf 3 = .ok (.imul, 1) := by decide +kernel
theorem dX1_pairOf_4 : decode cX1_pairOf 4 = .ok (.iload_n 1, 1) := by decide +kernel
theorem dX1_pairOf_5 : decode cX1_pairOf 5 = .ok (.iadd, 1) := by decide +kernel
theorem dX1_pairOf_6 : decode cX1_pairOf 6 = .ok (.ireturn, 1) := by decide +kernel
end
section
/-! Own base: contracts over a world that is a list of cells, calls with the frame rule in one row, ends in one row. -/
section BA
/-- the one link across the nest: Dinner's call of pairOf; and rows of rows -/
def wNest (U : State) : Prop := va_Nw (.methodLinkNest RX0 84 yX1_pairOf RX1) U ∧ va_AOA .int U
theorem wNest.same {u U : State} (h : u.vm = U.vm) (hN : wNest u) : wNest U := ⟨va_Nw.same rfl h hN.1, va_AOA.moved (by rw [h]; exact Vm.Alike.refl U.vm) hN.2⟩
theorem wNest.warm {s U : State} (hW : s.WarmedH U.vm) (hN : wNest s) : wNest U := ⟨va_Nw.warmM hW hN.1, va_AOA.moved hW.alike hN.2⟩
/-- a method's world at its start -/
def wPre (D : va_G) (tys : List (ClassId × FieldType)) (W0 : va_W) (sz : Nat) (U : State) : Prop := U.heap.size = sz ∧ va_P D vwCl W0 U.heap ∧ va_K D vwCl tys U ∧ va_D (fun _ => True) W0 ∧ wNest U
/-- a method's world behind it -/
def wPost {S : Type} (D : va_G) (Wf : S → va_W) (A : Nat → Prop) (u : S) (t : State) : Prop := va_P D vwCl (Wf u) t.heap ∧ va_D A (Wf u)
abbrev wCt (l : Launch) (y : MethodName) (ws : List Cond) (rm : Room) (D : va_G) (tys : List (ClassId × FieldType)) (av : List Value) (W0 : va_W) (sz mc ms : Nat) (Qf : (Nat → Prop) → Array Value → State → Outcome → State → Prop) : Prop :=
  Met l y ws rm (va_Pc av (wPre D tys W0 sz)) (Qf (va_A W0 sz)) mc ms (va_A W0 sz)
abbrev wQi {S : Type} (D : va_G) (post : Int32 → S → Prop) (Wf : S → va_W) : (Nat → Prop) → Array Value → State → Outcome → State → Prop := fun A => va_Qi post (wPost D Wf A) A
abbrev wQl {S : Type} (D : va_G) (post : Int64 → S → Prop) (Wf : S → va_W) : (Nat → Prop) → Array Value → State → Outcome → State → Prop := fun A => va_Ql post (wPost D Wf A) A
abbrev wQd {S : Type} (D : va_G) (post : UInt64 → S → Prop) (Wf : S → va_W) : (Nat → Prop) → Array Value → State → Outcome → State → Prop := fun A => va_Qd post (wPost D Wf A) A
abbrev wQv {S : Type} (D : va_G) (post : S → Prop) (Wf : S → va_W) : (Nat → Prop) → Array Value → State → Outcome → State → Prop := fun A => va_Qv post (wPost D Wf A) A
theorem wBlind {D : va_G} {tys : List (ClassId × FieldType)} {av : List Value} {W0 : va_W} {sz : Nat} : FrameBlind (va_Pc av (wPre D tys W0 sz)) := fun a U g mk q => by
  obtain ⟨e, hz, hP, hK, hD, hN⟩ := q
  exact ⟨e, hz, hP, va_K.moved (u := U) (U := U.calling g mk a) (Vm.Alike.refl U.vm) hK, hD, wNest.same rfl hN⟩
/-- a contract by a walk -/
theorem wMet {l : Launch} {y : MethodName} {ws ws' : List Cond} {rm : Room} {D : va_G} {tys : List (ClassId × FieldType)} {av : List Value} {W0 : va_W} {sz mc ms : Nat} {Qf : (Nat → Prop) → Array Value → State → Outcome → State → Prop} (cc : ByteArray) (maxL : Nat) (ret : Option FieldType)
    (hy : plainName y.cls = true) (hw : ws = Cond.code y cc maxL ret :: ws') (hle : (lg_sl av).length ≤ maxL)
    (body : ∀ (p : Program) (e : Env) (s : State) (m : MethodId) (args : Array Value) (below : List Frame) (meth : Method) (c : Code) (A : Nat → Prop) (Q : State → Prop) (ls : Array Slot), MQ below (Qf A) args s mc ms A = Q → p.tables.exec = Jvm.exec → c.code = cc → meth.sig.returnType = ret → c.maxLocals = maxL → s.vm.findClass y.cls = some m.cls → meth.locks = false → meth.name = y.name → (∀ w ∈ ws, w.before args s = true) → wNest s → va_P D vwCl W0 s.heap → va_K D vwCl tys s → va_D A W0 → (∀ q : Nat, s.heap.size ≤ q → A q) → va_S A s.heap s.heap [] → lv_has ls maxL (lv_args 0 av) → W p l e rm s m args below meth c s.heap [] 0 0 Q (F0 m 0 ls [])) :
    wCt l y ws rm D tys av W0 sz mc ms Qf := by
  refine Met.ofW (cc := cc) (maxL := maxL) (ret := ret) hy hw ?_
  intro p e s m args below meth c s₁ B hml hv
  obtain ⟨rfl, hsz, hP, hK, hD0, hN⟩ := hv
  have hts := atoms_spec (ws := ws) B.pre
  have hin := (name_of_methodNamed B.named B.method).1
  subst hsz
  have hD := hD0.self (sz := s.heap.size)
  have hl := lv_entry av (n := maxL) hle
  rw [lg_entry_eq]
  exact body p e s m av.toArray below meth c (va_A W0 s.heap.size) _ _ rfl B.exec B.bytes B.returns hml (findClass_of_methodNamed B.named) B.notSynchronized hin hts hN hP hK hD (fun q h => Or.inr h) va_S.rf hl
/-- the cells of a callee's world, in the middle of the caller's -/
theorem wFrame {A0 : Nat → Prop} {D : va_G} {pre Wc suf Wn : va_W} {H H1 : Heap} (hP : va_P D vwCl (pre ++ (Wc ++ suf)) H) (hD : va_D A0 (pre ++ (Wc ++ suf))) (hk : ∀ q : Nat, q < H.size → ¬ va_A Wc H.size q → H1[q]? = H[q]?) (hF : ∀ q, va_A Wc H.size q → A0 q) (hP1 : va_P D vwCl Wn H1) (hD1 : va_D (va_A Wc H.size) Wn) :
    va_P D vwCl (pre ++ (Wn ++ suf)) H1 ∧ va_D A0 (pre ++ (Wn ++ suf)) := by
  have key : ∀ (i : Nat) (q : Nat × va_E), (pre ++ (Wn ++ suf))[i]? = some q → (∃ j, (pre ++ (Wc ++ suf))[j]? = some q ∧ ((j < pre.length ∧ i = j) ∨ (pre.length + Wc.length ≤ j ∧ i + Wc.length = j + Wn.length))) ∨ (∃ j, Wn[j]? = some q ∧ i = pre.length + j) := by
    intro i q hq
    rcases Nat.lt_or_ge i pre.length with h | h
    · rw [List.getElem?_append_left h] at hq
      exact Or.inl ⟨i, by rw [List.getElem?_append_left h]; exact hq, Or.inl ⟨h, rfl⟩⟩
    · rw [List.getElem?_append_right h] at hq
      rcases Nat.lt_or_ge (i - pre.length) Wn.length with h2 | h2
      · rw [List.getElem?_append_left h2] at hq
        exact Or.inr ⟨i - pre.length, hq, by omega⟩
      · rw [List.getElem?_append_right h2] at hq
        refine Or.inl ⟨pre.length + (Wc.length + (i - pre.length - Wn.length)), ?_, Or.inr ⟨by omega, by omega⟩⟩
        rw [List.getElem?_append_right (by omega), List.getElem?_append_right (by omega)]
        rw [show pre.length + (Wc.length + (i - pre.length - Wn.length)) - pre.length - Wc.length = i - pre.length - Wn.length by omega]
        exact hq
  have apart : ∀ (j : Nat) (q : Nat × va_E), (pre ++ (Wc ++ suf))[j]? = some q → (j < pre.length ∨ pre.length + Wc.length ≤ j) → q.1 < H.size ∧ ¬ va_A Wc H.size q.1 := by
    intro j q hq hj
    have hl := (hP j q hq).lt
    refine ⟨hl, fun h => ?_⟩
    rcases h with ⟨k2, e, h⟩ | h
    · have hk2 : k2 < Wc.length := (List.getElem?_eq_some_iff.mp h).1
      have h4 : (pre ++ (Wc ++ suf))[pre.length + k2]? = some (q.1, e) := by
        rw [List.getElem?_append_right (by omega), List.getElem?_append_left (by omega)]
        rw [show pre.length + k2 - pre.length = k2 by omega]
        exact h
      have hij := hD.1 j (pre.length + k2) q (q.1, e) hq h4 rfl
      omega
    · omega
  refine ⟨fun i q hq => ?_, ⟨fun i i' q q' hq hq' he => ?_, fun i q hq => ?_⟩⟩
  · rcases key i q hq with ⟨j, hj, hx⟩ | ⟨j, hj, -⟩
    · obtain ⟨g1, g2⟩ := apart j q hj (by omega)
      exact (hP j q hj).kept (hk q.1 g1 g2)
    · exact hP1 j q hj
  · rcases key i q hq with ⟨j, hj, hx⟩ | ⟨j, hj, hx⟩ <;> rcases key i' q' hq' with ⟨j', hj', hx'⟩ | ⟨j', hj', hx'⟩
    · have := hD.1 j j' q q' hj hj' he
      omega
    · exact absurd (by rw [he]; exact hD1.2 j' q' hj') (apart j q hj (by omega)).2
    · exact absurd (by rw [← he]; exact hD1.2 j q hj) (apart j' q' hj' (by omega)).2
    · have := hD1.1 j j' q q' hj hj' he
      omega
  · rcases key i q hq with ⟨j, hj, -⟩ | ⟨j, hj, -⟩
    · exact hD.2 j q hj
    · exact hF q.1 (hD1.2 j q hj)
theorem wFree {A0 : Nat → Prop} {D : va_G} {pre Wc suf : va_W} {H0 H : Heap} {locs : List Loc} (hD : va_D A0 (pre ++ (Wc ++ suf))) (hS : va_S A0 H0 H locs) (hA : ∀ q : Nat, H0.size ≤ q → A0 q) : ∀ q, va_A Wc H.size q → A0 q := by
  intro q h
  rcases h with ⟨k, e, h⟩ | h
  · have hk2 : k < Wc.length := (List.getElem?_eq_some_iff.mp h).1
    exact hD.2 (pre.length + k) (q, e) (by
      rw [List.getElem?_append_right (by omega), List.getElem?_append_left (by omega)]
      rw [show pre.length + k - pre.length = k by omega]
      exact h)
  · exact hA q (Nat.le_trans hS.1 h)
theorem wDc {A0 : Nat → Prop} {pre Wc suf : va_W} (hD : va_D A0 (pre ++ (Wc ++ suf))) : va_D (fun _ => True) Wc := by
  have key : ∀ (k : Nat) (q : Nat × va_E), Wc[k]? = some q → (pre ++ (Wc ++ suf))[pre.length + k]? = some q := by
    intro k q h
    have hk2 : k < Wc.length := (List.getElem?_eq_some_iff.mp h).1
    rw [List.getElem?_append_right (by omega), List.getElem?_append_left (by omega)]
    rw [show pre.length + k - pre.length = k by omega]
    exact h
  refine ⟨fun i j p q hp hq he => ?_, fun _ _ _ => trivial⟩
  have := hD.1 _ _ p q (key i p hp) (key j q hq) he
  omega
theorem wPc {D : va_G} {pre Wc suf : va_W} {H : Heap} (hP : va_P D vwCl (pre ++ (Wc ++ suf)) H) : va_P D vwCl Wc H := by
  intro k q h
  have hk2 : k < Wc.length := (List.getElem?_eq_some_iff.mp h).1
  refine hP (pre.length + k) q ?_
  rw [List.getElem?_append_right (by omega), List.getElem?_append_left (by omega)]
  rw [show pre.length + k - pre.length = k by omega]
  exact h
/-- two rows that agree below their length are the same cell -/
theorem wCell {cA : ClassId} {N : Nat} {g g' : Nat → Int32} (h : ∀ j, j < N → g j = g' j) : vp_cell cA (N, .inl g) = vp_cell cA (N, .inl g') := by
  have e : (Array.ofFn (n := N) fun j => Value.int (g j.val)) = Array.ofFn (n := N) fun j => Value.int (g' j.val) := congrArg Array.ofFn (funext fun j => by rw [h j.val j.isLt])
  show arrV cA N (fun j => Value.int (g j)) = arrV cA N (fun j => Value.int (g' j))
  unfold arrV
  rw [e]
/-- worlds whose cells are the same, one by one -/
def wEq (D : va_G) (ws ws' : va_W) : Prop := (∀ (k : Nat) (q' : Nat × va_E), ws'[k]? = some q' → ∃ q, ws[k]? = some q ∧ q.1 = q'.1 ∧ ∀ H, va_at D vwCl q H → va_at D vwCl q' H)
theorem wEq.P {D : va_G} {ws ws' : va_W} {H : Heap} (h : wEq D ws ws') (hP : va_P D vwCl ws H) : va_P D vwCl ws' H := fun k q' hk => by
  obtain ⟨q, h1, -, h3⟩ := h k q' hk
  exact h3 H (hP k q h1)
theorem wEq.D {D : va_G} {ws ws' : va_W} {A : Nat → Prop} (h : wEq D ws ws') (hD : va_D A ws) : va_D A ws' := by
  refine ⟨fun i j p q hp hq he => ?_, fun k q hk => ?_⟩
  · obtain ⟨p0, a1, a2, -⟩ := h i p hp
    obtain ⟨q0, b1, b2, -⟩ := h j q hq
    exact hD.1 i j p0 q0 a1 b1 (by rw [a2, b2, he])
  · obtain ⟨q0, b1, b2, -⟩ := h k q hk
    rw [← b2]
    exact hD.2 k q0 b1
theorem wEq.nil {D : va_G} : wEq D [] [] := fun k q h => by simp at h
theorem wEq.cons {D : va_G} {ws ws' : va_W} {a : Nat} {e e' : va_E} (he : ∀ H, va_at D vwCl (a, e) H → va_at D vwCl (a, e') H) (h : wEq D ws ws') : wEq D ((a, e) :: ws) ((a, e') :: ws') := by
  intro k q' hk
  match k with
  | 0 => cases hk; exact ⟨(a, e), rfl, rfl, he⟩
  | k + 1 => exact h k q' hk
theorem wEq.row {D : va_G} {ws ws' : va_W} {a : Nat} {cA : ClassId} {N : Nat} {g g' : Nat → Int32} (hg : ∀ j, j < N → g j = g' j) (h : wEq D ws ws') : wEq D ((a, .inl (cA, N, .inl g)) :: ws) ((a, .inl (cA, N, .inl g')) :: ws') := wEq.cons (fun H h1 => by
  have h2 : H[a]? = some (vp_cell cA (N, .inl g)) := h1
  rw [wCell hg] at h2
  exact h2) h
theorem wEq.rf {D : va_G} {ws : va_W} : wEq D ws ws := fun k q h => ⟨q, h, rfl, fun _ h => h⟩
theorem wTys {D : va_G} {cl : List vw_C} {tys : List (ClassId × FieldType)} {U : State} (h : va_K D cl tys U) {i j : Nat} {c1 c2 : ClassId} (h1 : tys[i]? = some (c1, .int)) (h2 : tys[j]? = some (c2, .int)) : c1 = c2 := by
  have a := (h.2 i _ h1).2
  have b := (h.2 j _ h2).2
  have a' : U.vm.findClass ("[" ++ (FieldType.int).toString) = some c1 := a
  have b' : U.vm.findClass ("[" ++ (FieldType.int).toString) = some c2 := b
  exact Option.some.inj (a'.symm.trans b')
end BA
section BC
variable {p : Program} {l : Launch} {e : Env} {R : Room} {s : State} {m : MethodId} {args : Array Value} {below : List Frame} {meth : Method} {c : Code} {H : Heap} {locs : List Loc} {cells slots : Nat} {Q : State → Prop}
variable {y : MethodName} {bytes cc : ByteArray} {maxL nL mc ms n index : Nat} {ret : Option FieldType} {ws : List Cond} {rm : Room} {Ts : List Cond} {own C host : String} {b : Addr} {As rest st0 : List Value} {pc : Nat} {ls : Array Slot}
variable {D : va_G} {tys tysc : List (ClassId × FieldType)} {A0 : Nat → Prop} {H0 : Heap} {S : Type} {Wf : S → va_W}
/-- what a caller has at hand of its world -/
def wAt (D : va_G) (W0 : va_W) (A0 : Nat → Prop) (H0 H : Heap) (locs : List Loc) : Prop := va_P D vwCl W0 H ∧ va_D A0 W0 ∧ va_S A0 H0 H locs
theorem wPreS {tys : List (ClassId × FieldType)} {pre Wc suf : va_W} (hN : wNest s) (hK : va_K D vwCl tys s) (hP : va_P D vwCl (pre ++ (Wc ++ suf)) H) (hD : va_D A0 (pre ++ (Wc ++ suf))) {av : List Value} : PreS s H (va_Pc av (wPre D tys Wc H.size)) av :=
  ⟨wBlind, fun U hU hW => ⟨rfl, by rw [hU], by rw [hU]; exact wPc hP, va_K.moved hW.alike hK, wDc hD, wNest.warm hW hN⟩⟩
theorem wPreV {tys : List (ClassId × FieldType)} {pre Wc suf : va_W} (hN : wNest s) (hK : va_K D vwCl tys s) (hP : va_P D vwCl (pre ++ (Wc ++ suf)) H) (hD : va_D A0 (pre ++ (Wc ++ suf))) (q0 : Nat) {ci : Nat} {fs : List Value} {r : vw_C} (hc : vwCl[ci]? = some r) (he : Wc[q0]? = some (b, .inr (ci, fs))) : PreV s H r.1 b (va_Pc (.ref b :: As) (wPre D tys Wc H.size)) As :=
  ⟨wBlind, va_recv hK (wPc hP) hc he, fun U hU hW => ⟨rfl, by rw [hU], by rw [hU]; exact wPc hP, va_K.moved hW.alike hK, wDc hD, wNest.warm hW hN⟩⟩
/-- behind a call, an int: the world, with the callee's cells new -/
theorem wKi {post : Int32 → S → Prop} {pre Wc suf : va_W} {a : Array Value} (hr : va_Run p l e R s m args below meth c H locs cells slots 0 0 (F0 m pc ls st0) rest (wQi D post Wf (va_A Wc H.size) a) (va_A Wc H.size)) (hP : va_P D vwCl (pre ++ (Wc ++ suf)) H) (hD : va_D A0 (pre ++ (Wc ++ suf))) (hS : va_S A0 H0 H locs) (hA : ∀ q : Nat, H0.size ≤ q → A0 q)
    (kk : ∀ (r : Int32) (u : S) (H1 : Heap) (locs1 : List Loc), post r u → va_P D vwCl (pre ++ (Wf u ++ suf)) H1 → va_D A0 (pre ++ (Wf u ++ suf)) → va_S A0 H0 H1 locs1 → W p l e R s m args below meth c H1 locs1 cells slots Q (F0 m (pc + 3) ls (.int r :: rest))) : W p l e R s m args below meth c H locs cells slots Q (F0 m pc ls st0) := by
  have hF := wFree (D := D) hD hS hA
  refine va_calli hr hS (fun q _ h => hF q h) hF (fun r u t H1 locs1 ht hvm hw hB hz1 hk1 hS1 => ?_)
  obtain ⟨hP1, hD1⟩ := hB
  rw [ht] at hP1
  obtain ⟨a1, a2⟩ := wFrame hP hD hk1 hF hP1 hD1
  exact kk r u H1 locs1 hw a1 a2 hS1
theorem wKl {post : Int64 → S → Prop} {pre Wc suf : va_W} {a : Array Value} (hr : va_Run p l e R s m args below meth c H locs cells slots 0 0 (F0 m pc ls st0) rest (wQl D post Wf (va_A Wc H.size) a) (va_A Wc H.size)) (hP : va_P D vwCl (pre ++ (Wc ++ suf)) H) (hD : va_D A0 (pre ++ (Wc ++ suf))) (hS : va_S A0 H0 H locs) (hA : ∀ q : Nat, H0.size ≤ q → A0 q)
    (kk : ∀ (r : Int64) (u : S) (H1 : Heap) (locs1 : List Loc), post r u → va_P D vwCl (pre ++ (Wf u ++ suf)) H1 → va_D A0 (pre ++ (Wf u ++ suf)) → va_S A0 H0 H1 locs1 → W p l e R s m args below meth c H1 locs1 cells slots Q (F0 m (pc + 3) ls (.long r :: rest))) : W p l e R s m args below meth c H locs cells slots Q (F0 m pc ls st0) := by
  have hF := wFree (D := D) hD hS hA
  refine va_calll hr hS (fun q _ h => hF q h) hF (fun r u t H1 locs1 ht hvm hw hB hz1 hk1 hS1 => ?_)
  obtain ⟨hP1, hD1⟩ := hB
  rw [ht] at hP1
  obtain ⟨a1, a2⟩ := wFrame hP hD hk1 hF hP1 hD1
  exact kk r u H1 locs1 hw a1 a2 hS1
theorem wKv {post : S → Prop} {pre Wc suf : va_W} {a : Array Value} (hr : va_Run p l e R s m args below meth c H locs cells slots 0 0 (F0 m pc ls st0) rest (wQv D post Wf (va_A Wc H.size) a) (va_A Wc H.size)) (hP : va_P D vwCl (pre ++ (Wc ++ suf)) H) (hD : va_D A0 (pre ++ (Wc ++ suf))) (hS : va_S A0 H0 H locs) (hA : ∀ q : Nat, H0.size ≤ q → A0 q)
    (kk : ∀ (u : S) (H1 : Heap) (locs1 : List Loc), post u → va_P D vwCl (pre ++ (Wf u ++ suf)) H1 → va_D A0 (pre ++ (Wf u ++ suf)) → va_S A0 H0 H1 locs1 → W p l e R s m args below meth c H1 locs1 cells slots Q (F0 m (pc + 3) ls rest)) : W p l e R s m args below meth c H locs cells slots Q (F0 m pc ls st0) := by
  have hF := wFree (D := D) hD hS hA
  refine va_callv hr hS (fun q _ h => hF q h) hF (fun u t H1 locs1 ht hvm hw hB hz1 hk1 hS1 => ?_)
  obtain ⟨hP1, hD1⟩ := hB
  rw [ht] at hP1
  obtain ⟨a1, a2⟩ := wFrame hP hD hk1 hF hP1 hD1
  exact kk u H1 locs1 hw a1 a2 hS1
/-- calls: V an instance method, S a static one, N a static one of a nest mate; i, l, v: what it answers -/
theorem wCVi {post : Int32 → S → Prop} {W0 pre Wc suf : va_W} (F : CallFix p m c cc nL s args Ts own) (hM : wCt l y ws rm D tysc (.ref b :: As) Wc H.size 0 0 (wQi D post Wf)) (hN : wNest s) (hA : ∀ q : Nat, H0.size ≤ q → A0 q) (hK : va_K D vwCl tysc s) (hS : va_S A0 H0 H locs) (hP : va_P D vwCl W0 H) (hD : va_D A0 W0) (hW0 : W0 = pre ++ (Wc ++ suf)) (q0 : Nat) {ci : Nat} {fs : List Value} {r : vw_C} (hc : vwCl[ci]? = some r) (he : Wc[q0]? = some (b, .inr (ci, fs)))
    (cw : CallW R s args own r.1 index y bytes maxL ret ws rm 0 0 n) (hn : As.length = n) (hz : ls.size = nL) (hst : st0 = As.reverse ++ .ref b :: rest) (hr : (rest.map fun v => v.category).sum ≤ 8) (hdg : decode cc pc = .ok (.invokevirtual index, 3)) (hf : cells ≤ R.cells ∧ slots ≤ R.slots)
    (kk : ∀ (r : Int32) (u : S) (H1 : Heap) (locs1 : List Loc), post r u → va_P D vwCl (pre ++ (Wf u ++ suf)) H1 → va_D A0 (pre ++ (Wf u ++ suf)) → va_S A0 H0 H1 locs1 → W p l e R s m args below meth c H1 locs1 cells slots Q (F0 m (pc + 3) ls (.int r :: rest))) : W p l e R s m args below meth c H locs cells slots Q (F0 m pc ls st0) := by
  subst hW0
  exact wKi (va_runV (As := As) (rest := rest) F hM cw (wPreV hN hK hP hD q0 hc he) rfl hn hz hst (lv_room hr) hdg hf) hP hD hS hA kk
theorem wCVl {post : Int64 → S → Prop} {W0 pre Wc suf : va_W} (F : CallFix p m c cc nL s args Ts own) (hM : wCt l y ws rm D tysc (.ref b :: As) Wc H.size 0 0 (wQl D post Wf)) (hN : wNest s) (hA : ∀ q : Nat, H0.size ≤ q → A0 q) (hK : va_K D vwCl tysc s) (hS : va_S A0 H0 H locs) (hP : va_P D vwCl W0 H) (hD : va_D A0 W0) (hW0 : W0 = pre ++ (Wc ++ suf)) (q0 : Nat) {ci : Nat} {fs : List Value} {r : vw_C} (hc : vwCl[ci]? = some r) (he : Wc[q0]? = some (b, .inr (ci, fs)))
    (cw : CallW R s args own r.1 index y bytes maxL ret ws rm 0 0 n) (hn : As.length = n) (hz : ls.size = nL) (hst : st0 = As.reverse ++ .ref b :: rest) (hr : (rest.map fun v => v.category).sum ≤ 8) (hdg : decode cc pc = .ok (.invokevirtual index, 3)) (hf : cells ≤ R.cells ∧ slots ≤ R.slots)
    (kk : ∀ (r : Int64) (u : S) (H1 : Heap) (locs1 : List Loc), post r u → va_P D vwCl (pre ++ (Wf u ++ suf)) H1 → va_D A0 (pre ++ (Wf u ++ suf)) → va_S A0 H0 H1 locs1 → W p l e R s m args below meth c H1 locs1 cells slots Q (F0 m (pc + 3) ls (.long r :: rest))) : W p l e R s m args below meth c H locs cells slots Q (F0 m pc ls st0) := by
  subst hW0
  exact wKl (va_runV (As := As) (rest := rest) F hM cw (wPreV hN hK hP hD q0 hc he) rfl hn hz hst (lv_room hr) hdg hf) hP hD hS hA kk
theorem wCVv {post : S → Prop} {W0 pre Wc suf : va_W} (F : CallFix p m c cc nL s args Ts own) (hM : wCt l y ws rm D tysc (.ref b :: As) Wc H.size 0 0 (wQv D post Wf)) (hN : wNest s) (hA : ∀ q : Nat, H0.size ≤ q → A0 q) (hK : va_K D vwCl tysc s) (hS : va_S A0 H0 H locs) (hP : va_P D vwCl W0 H) (hD : va_D A0 W0) (hW0 : W0 = pre ++ (Wc ++ suf)) (q0 : Nat) {ci : Nat} {fs : List Value} {r : vw_C} (hc : vwCl[ci]? = some r) (he : Wc[q0]? = some (b, .inr (ci, fs)))
    (cw : CallW R s args own r.1 index y bytes maxL ret ws rm 0 0 n) (hn : As.length = n) (hz : ls.size = nL) (hst : st0 = As.reverse ++ .ref b :: rest) (hr : (rest.map fun v => v.category).sum ≤ 8) (hdg : decode cc pc = .ok (.invokevirtual index, 3)) (hf : cells ≤ R.cells ∧ slots ≤ R.slots)
    (kk : ∀ (u : S) (H1 : Heap) (locs1 : List Loc), post u → va_P D vwCl (pre ++ (Wf u ++ suf)) H1 → va_D A0 (pre ++ (Wf u ++ suf)) → va_S A0 H0 H1 locs1 → W p l e R s m args below meth c H1 locs1 cells slots Q (F0 m (pc + 3) ls rest)) : W p l e R s m args below meth c H locs cells slots Q (F0 m pc ls st0) := by
  subst hW0
  exact wKv (va_runV (As := As) (rest := rest) F hM cw (wPreV hN hK hP hD q0 hc he) rfl hn hz hst (lv_room hr) hdg hf) hP hD hS hA kk
theorem wCSi {post : Int32 → S → Prop} {W0 pre Wc suf : va_W} (F : CallFix p m c cc nL s args Ts own) (hM : wCt l y ws rm D tysc As Wc H.size 0 0 (wQi D post Wf)) (hN : wNest s) (hA : ∀ q : Nat, H0.size ≤ q → A0 q) (hK : va_K D vwCl tysc s) (hS : va_S A0 H0 H locs) (hP : va_P D vwCl W0 H) (hD : va_D A0 W0) (hW0 : W0 = pre ++ (Wc ++ suf))
    (cw : CallB R s args own index y bytes maxL ret ws rm 0 0 n ∧ (Cond.static y).before args s = true) (hn : As.length = n) (hz : ls.size = nL) (hst : st0 = As.reverse ++ rest) (hr : (rest.map fun v => v.category).sum ≤ 8) (hdg : decode cc pc = .ok (.invokestatic index, 3)) (hf : cells ≤ R.cells ∧ slots ≤ R.slots)
    (kk : ∀ (r : Int32) (u : S) (H1 : Heap) (locs1 : List Loc), post r u → va_P D vwCl (pre ++ (Wf u ++ suf)) H1 → va_D A0 (pre ++ (Wf u ++ suf)) → va_S A0 H0 H1 locs1 → W p l e R s m args below meth c H1 locs1 cells slots Q (F0 m (pc + 3) ls (.int r :: rest))) : W p l e R s m args below meth c H locs cells slots Q (F0 m pc ls st0) := by
  subst hW0
  exact wKi (va_runS (As := As) (rest := rest) F hM cw (wPreS hN hK hP hD) rfl hn hz hst (lv_room hr) hdg hf) hP hD hS hA kk
theorem wCSl {post : Int64 → S → Prop} {W0 pre Wc suf : va_W} (F : CallFix p m c cc nL s args Ts own) (hM : wCt l y ws rm D tysc As Wc H.size 0 0 (wQl D post Wf)) (hN : wNest s) (hA : ∀ q : Nat, H0.size ≤ q → A0 q) (hK : va_K D vwCl tysc s) (hS : va_S A0 H0 H locs) (hP : va_P D vwCl W0 H) (hD : va_D A0 W0) (hW0 : W0 = pre ++ (Wc ++ suf))
    (cw : CallB R s args own index y bytes maxL ret ws rm 0 0 n ∧ (Cond.static y).before args s = true) (hn : As.length = n) (hz : ls.size = nL) (hst : st0 = As.reverse ++ rest) (hr : (rest.map fun v => v.category).sum ≤ 8) (hdg : decode cc pc = .ok (.invokestatic index, 3)) (hf : cells ≤ R.cells ∧ slots ≤ R.slots)
    (kk : ∀ (r : Int64) (u : S) (H1 : Heap) (locs1 : List Loc), post r u → va_P D vwCl (pre ++ (Wf u ++ suf)) H1 → va_D A0 (pre ++ (Wf u ++ suf)) → va_S A0 H0 H1 locs1 → W p l e R s m args below meth c H1 locs1 cells slots Q (F0 m (pc + 3) ls (.long r :: rest))) : W p l e R s m args below meth c H locs cells slots Q (F0 m pc ls st0) := by
  subst hW0
  exact wKl (va_runS (As := As) (rest := rest) F hM cw (wPreS hN hK hP hD) rfl hn hz hst (lv_room hr) hdg hf) hP hD hS hA kk
theorem wCSv {post : S → Prop} {W0 pre Wc suf : va_W} (F : CallFix p m c cc nL s args Ts own) (hM : wCt l y ws rm D tysc As Wc H.size 0 0 (wQv D post Wf)) (hN : wNest s) (hA : ∀ q : Nat, H0.size ≤ q → A0 q) (hK : va_K D vwCl tysc s) (hS : va_S A0 H0 H locs) (hP : va_P D vwCl W0 H) (hD : va_D A0 W0) (hW0 : W0 = pre ++ (Wc ++ suf))
    (cw : CallB R s args own index y bytes maxL ret ws rm 0 0 n ∧ (Cond.static y).before args s = true) (hn : As.length = n) (hz : ls.size = nL) (hst : st0 = As.reverse ++ rest) (hr : (rest.map fun v => v.category).sum ≤ 8) (hdg : decode cc pc = .ok (.invokestatic index, 3)) (hf : cells ≤ R.cells ∧ slots ≤ R.slots)
    (kk : ∀ (u : S) (H1 : Heap) (locs1 : List Loc), post u → va_P D vwCl (pre ++ (Wf u ++ suf)) H1 → va_D A0 (pre ++ (Wf u ++ suf)) → va_S A0 H0 H1 locs1 → W p l e R s m args below meth c H1 locs1 cells slots Q (F0 m (pc + 3) ls rest)) : W p l e R s m args below meth c H locs cells slots Q (F0 m pc ls st0) := by
  subst hW0
  exact wKv (va_runS (As := As) (rest := rest) F hM cw (wPreS hN hK hP hD) rfl hn hz hst (lv_room hr) hdg hf) hP hD hS hA kk
theorem wCNi {post : Int32 → S → Prop} {W0 pre Wc suf : va_W} (F : CallFix p m c cc nL s args Ts own) (hM : wCt l y ws rm D tysc As Wc H.size 0 0 (wQi D post Wf)) (hN : wNest s) (hA : ∀ q : Nat, H0.size ≤ q → A0 q) (hK : va_K D vwCl tysc s) (hS : va_S A0 H0 H locs) (hP : va_P D vwCl W0 H) (hD : va_D A0 W0) (hW0 : W0 = pre ++ (Wc ++ suf))
    (cw : va_CN R s args own index y host bytes maxL ret ws rm 0 0 n ∧ (Cond.static y).before args s = true ∧ True) (hn : As.length = n) (hz : ls.size = nL) (hst : st0 = As.reverse ++ rest) (hr : (rest.map fun v => v.category).sum ≤ 8) (hdg : decode cc pc = .ok (.invokestatic index, 3)) (hf : cells ≤ R.cells ∧ slots ≤ R.slots)
    (kk : ∀ (r : Int32) (u : S) (H1 : Heap) (locs1 : List Loc), post r u → va_P D vwCl (pre ++ (Wf u ++ suf)) H1 → va_D A0 (pre ++ (Wf u ++ suf)) → va_S A0 H0 H1 locs1 → W p l e R s m args below meth c H1 locs1 cells slots Q (F0 m (pc + 3) ls (.int r :: rest))) : W p l e R s m args below meth c H locs cells slots Q (F0 m pc ls st0) := by
  subst hW0
  exact wKi (va_runSN (As := As) (rest := rest) F hM cw (wPreS hN hK hP hD) rfl hn hz hst (lv_room hr) hdg hf) hP hD hS hA kk
/-- ends -/
theorem wRi {post : Int32 → S → Prop} {W1 : va_W} (hQ : MQ below (wQi D post Wf A0) args s cells slots A0 = Q) (hx : p.tables.exec = Jvm.exec) (hb : c.code = cc) (hr : meth.sig.returnType = some .int) (hlocks : meth.locks = false) (hP : va_P D vwCl W1 H) (hD : va_D A0 W1) (hS : va_S A0 s.heap H locs) (hdg : decode cc pc = .ok (.ireturn, 1)) {v : Int32} (u : S) (hu : post v u) (hW : W1 = Wf u) : W p l e R s m args below meth c H locs cells slots Q (F0 m pc ls [.int v]) := by
  subst hW
  rw [← hQ]
  exact W.iret hx hb hr (fun t ht hW => ⟨⟨v, u, rfl, hu, by rw [ht]; exact hP, hD⟩, hS.F ht⟩) hS.2.2 hdg hlocks
theorem wRz {post : Int32 → S → Prop} {W1 : va_W} (hQ : MQ below (wQi D post Wf A0) args s cells slots A0 = Q) (hx : p.tables.exec = Jvm.exec) (hb : c.code = cc) (hr : meth.sig.returnType = some .boolean) (hlocks : meth.locks = false) (hP : va_P D vwCl W1 H) (hD : va_D A0 W1) (hS : va_S A0 s.heap H locs) (hdg : decode cc pc = .ok (.ireturn, 1)) {v : Int32} (hn : narrow .boolean (.int v) = .int v) (u : S) (hu : post v u) (hW : W1 = Wf u) : W p l e R s m args below meth c H locs cells slots Q (F0 m pc ls [.int v]) := by
  subst hW
  rw [← hQ]
  exact W.zret hx hb hr hn (fun t ht hW => ⟨⟨v, u, rfl, hu, by rw [ht]; exact hP, hD⟩, hS.F ht⟩) hS.2.2 hdg hlocks
theorem wRl {post : Int64 → S → Prop} {W1 : va_W} (hQ : MQ below (wQl D post Wf A0) args s cells slots A0 = Q) (hx : p.tables.exec = Jvm.exec) (hb : c.code = cc) (hr : meth.sig.returnType = some .long) (hlocks : meth.locks = false) (hP : va_P D vwCl W1 H) (hD : va_D A0 W1) (hS : va_S A0 s.heap H locs) (hdg : decode cc pc = .ok (.lreturn, 1)) {v : Int64} (u : S) (hu : post v u) (hW : W1 = Wf u) : W p l e R s m args below meth c H locs cells slots Q (F0 m pc ls [.long v]) := by
  subst hW
  rw [← hQ]
  exact W.lret hx hb hr (fun t ht hW => ⟨⟨v, u, rfl, hu, by rw [ht]; exact hP, hD⟩, hS.F ht⟩) hS.2.2 hdg hlocks
theorem wRv {post : S → Prop} {W1 : va_W} (hQ : MQ below (wQv D post Wf A0) args s cells slots A0 = Q) (hx : p.tables.exec = Jvm.exec) (hb : c.code = cc) (hr : meth.sig.returnType = none) (hlocks : meth.locks = false) (hP : va_P D vwCl W1 H) (hD : va_D A0 W1) (hS : va_S A0 s.heap H locs) (hdg : decode cc pc = .ok (.return_, 1)) (u : S) (hu : post u) (hW : W1 = Wf u) : W p l e R s m args below meth c H locs cells slots Q (F0 m pc ls []) := by
  subst hW
  rw [← hQ]
  exact W.vret hx hb hr (fun t ht hW => ⟨⟨u, rfl, hu, by rw [ht]; exact hP, hD⟩, hS.F ht⟩) hS.2.2 hdg hlocks
/-- arrays of ints at a small natural -/
theorem wIald {W0 : va_W} (hx : p.tables.exec = Jvm.exec) (hb : c.code = cc) (hK : va_K D vwCl tys s) (hP : va_P D vwCl W0 H) (q0 t0 : Nat) {a : Nat} {cA : ClassId} {N : Nat} {f : Nat → Int32} (ha : W0[q0]? = some (a, .inl (cA, N, .inl f))) (ht : tys[t0]? = some (cA, .int)) {i : Int32} (k : Nat) (hi : i = nI k) (hk : k < N) (hN : N < 2 ^ 31) (hdg : decode cc pc = .ok (.iaload, 1))
    (kk : W p l e R s m args below meth c H locs cells slots Q (F0 m (pc + 1) ls (.int (f k) :: rest))) : W p l e R s m args below meth c H locs cells slots Q (F0 m pc ls (.int i :: .ref a :: rest)) := by
  subst hi
  refine va_iald hx hb hK hP q0 t0 ha ht (vp_in_nI hk hN) hdg ?_
  rw [nI_clamp (Nat.lt_trans hk hN)]
  exact kk
theorem wIast {A : Nat → Prop} {W0 : va_W} (hx : p.tables.exec = Jvm.exec) (hb : c.code = cc) (hK : va_K D vwCl tys s) (hP : va_P D vwCl W0 H) (hD : va_D A W0) (hS : va_S A H0 H locs) (q0 t0 : Nat) {a : Nat} {cA : ClassId} {N : Nat} {f : Nat → Int32} (ha : W0[q0]? = some (a, .inl (cA, N, .inl f))) (ht : tys[t0]? = some (cA, .int)) {i x : Int32} (k : Nat) (hi : i = nI k) (hk : k < N) (hN : N < 2 ^ 31) (hdg : decode cc pc = .ok (.iastore, 1))
    (kk : ∀ (H1 : Heap) (locs1 : List Loc), va_P D vwCl (W0.set q0 (a, .inl (cA, N, .inl (upd f k x)))) H1 → va_D A (W0.set q0 (a, .inl (cA, N, .inl (upd f k x)))) → va_S A H0 H1 locs1 → W p l e R s m args below meth c H1 locs1 cells slots Q (F0 m (pc + 1) ls rest)) : W p l e R s m args below meth c H locs cells slots Q (F0 m pc ls (.int x :: .int i :: .ref a :: rest)) := by
  subst hi
  refine va_iast hx hb hK hP hD hS q0 t0 ha ht (vp_in_nI hk hN) hdg ?_
  rw [nI_clamp (Nat.lt_trans hk hN)]
  exact kk
/-- a computed int gets the name that one wants -/
theorem wTop {x z : Int32} (h : x = z) (k : W p l e R s m args below meth c H locs cells slots Q (F0 m pc ls (.int z :: rest))) : W p l e R s m args below meth c H locs cells slots Q (F0 m pc ls (.int x :: rest)) := h ▸ k
theorem wTop2 {x z : Int32} {v : Value} (h : x = z) (k : W p l e R s m args below meth c H locs cells slots Q (F0 m pc ls (v :: .int z :: rest))) : W p l e R s m args below meth c H locs cells slots Q (F0 m pc ls (v :: .int x :: rest)) := h ▸ k
end BC
end
section
/-! What a state is: the cells of a Dinner, of the class, of the reference, of the law's row; the pure functions that the methods are. -/
/-- a Dinner: f its ten ints (guests, seconds, limit, speaker, toSpeak, pause, unsaidInPauses, meetings, lost, sent), r its seven rows (spoken, interruptions, coughs, unsaid, toGo, caught, order), a the addresses -/
def DC (cI : ClassId) (a : Nat → Nat) (f : Nat → Int32) (r : Nat → Nat → Int32) : va_W := [(a 0, .inr (0, [.int (f 0), .int (f 1), .int (f 2), .int (f 3), .int (f 4), .int (f 5), .int (f 6), .int (f 7), .int (f 8), .int (f 9), .ref (a 1), .ref (a 2), .ref (a 3), .ref (a 4), .ref (a 5), .ref (a 6), .ref (a 7)])), (a 1, .inl (cI, 10, .inl (r 0))), (a 2, .inl (cI, 10, .inl (r 1))), (a 3, .inl (cI, 10, .inl (r 2))), (a 4, .inl (cI, 10, .inl (r 3))), (a 5, .inl (cI, 100, .inl (r 4))), (a 6, .inl (cI, 100, .inl (r 5))), (a 7, .inl (cI, 100, .inl (r 6)))]
/-- the class's own object -/
def XO (x : Nat) (a b : Nat → Nat) : va_W := [(x, .inr (1, [.ref (a 0), .ref (b 0)]))]
abbrev dS : Type := (Nat → Int32) × (Nat → Nat → Int32)
/-- the class's state put into cells -/
abbrev DCs (cI : ClassId) (a : Nat → Nat) (u : dS) : va_W := DC cI a u.1 u.2
theorem ite01 {P : Prop} [Decidable P] : (if P then (0 : Int32) else 1) = 0 ↔ P := by
  by_cases h : P <;> simp [h]
theorem ite01n {P : Prop} [Decidable P] : ¬ (if P then (0 : Int32) else 1) = 0 ↔ ¬ P := by
  by_cases h : P <;> simp [h]
theorem ite10 {P : Prop} [Decidable P] : (if P then (1 : Int32) else 0) = 0 ↔ ¬ P := by
  by_cases h : P <;> simp [h]
theorem ite10n {P : Prop} [Decidable P] : ¬ (if P then (1 : Int32) else 0) = 0 ↔ P := by
  by_cases h : P <;> simp [h]
/-- seconds beyond a multiple of the limit -/
def dBm (lim x : Int32) : Int32 := if 0 < lim then x - x / lim * lim else 0
/-- how far apart two guests sit -/
def dSeats (g x y : Int32) : Int32 := if g - (if 0 ≤ x - y then x - y else 0 - (x - y)) < (if 0 ≤ x - y then x - y else 0 - (x - y)) then g - (if 0 ≤ x - y then x - y else 0 - (x - y)) else (if 0 ≤ x - y then x - y else 0 - (x - y))
def dToGo (t : Nat → Int32) (k : Nat) : Int32 := if t k = -1 then 0 else t k
def dUntil (f : Nat → Int32) : Int32 := if f 3 = -1 then f 2 - dBm (f 2) (f 5) else f 4 + f 2
/-- the first n cells of a row, added -/
def dSum (u : Nat → Int32) : Nat → Int32
  | 0 => 0
  | n + 1 => dSum u n + u n
def dRate (g q : Int32) (u : Nat → Int32) (n : Nat) : Int32 := if 0 < 10 - (if 0 ≤ (dSum u n + q) / g - 4 then (dSum u n + q) / g - 4 else 0 - ((dSum u n + q) / g - 4)) then 10 - (if 0 ≤ (dSum u n + q) / g - 4 then (dSum u n + q) / g - 4 else 0 - ((dSum u n + q) / g - 4)) else 0
def dCough (f : Nat → Int32) (x wt : Int32) : Int32 := if f 3 = -1 then wt else if f 3 = x then 0 else wt / 2
def dFate (f : Nat → Int32) (t : Nat → Int32) (x y : Nat) (mo : Int32) : Int32 := if mo < dToGo t (y * 10 + x) then 3 else if f 3 = nI y ∧ mo + 2 * dSeats (f 0) (nI x) (nI y) < f 4 then 0 else 1
/-! the class's steps, as functions of its ints f and its rows r; L: the pairs under way, in the order of their sending -/
def dN (x : Int32) : Nat := x.toNatClampNeg
theorem dN_nI {k : Nat} (h : k < 2 ^ 31) : dN (nI k) = k := nI_clamp h
def dInt (f : Nat → Int32) (x : Nat) : Int32 := if f 3 = nI x then -1 else f 3
def dSpeak (f : Nat → Int32) (r : Nat → Nat → Int32) (x : Nat) (secs : Int32) : dS := (upd (upd f 3 (nI x)) 4 secs, if dInt f x = -1 then r else va_up r 1 (upd (r 1) x (r 1 x + 1)))
def dLetCough (f : Nat → Int32) (r : Nat → Nat → Int32) (x : Nat) (wt : Int32) : dS := (f, va_up (va_up r 2 (upd (r 2) x (r 2 x + 1))) 3 (upd (r 3) x (r 3 x + dCough f (nI x) wt)))
def dSend (f : Nat → Int32) (r : Nat → Nat → Int32) (x y n : Nat) : dS := (upd f 9 (f 9 + 1), va_up (va_up r 4 (upd (r 4) (x * 10 + y) (2 * dSeats (f 0) (nI x) (nI y)))) 6 (upd (r 6) n (nI (x * 10 + y))))
def dTalk (f : Nat → Int32) (r : Nat → Nat → Int32) : dS := if f 3 = -1 then (if dBm (f 2) (f 5 + 1) = 0 then upd (upd f 5 (f 5 + 1)) 6 (f 6 + 1) else upd f 5 (f 5 + 1), r) else (if f 4 - 1 = 0 then upd (upd (upd f 3 (-1)) 4 (f 4 - 1)) 5 0 else upd (upd f 4 (f 4 - 1)) 5 0, va_up r 0 (upd (r 0) (dN (f 3)) (r 0 (dN (f 3)) + 1)))
def dArr (f : Nat → Int32) (r : Nat → Nat → Int32) (x y : Nat) : dS :=
  if r 4 (y * 10 + x) = -1 then
    if f 3 = nI y then (upd f 8 (f 8 + 1), va_up r 4 (upd (r 4) (x * 10 + y) (-1)))
    else (f, va_up (va_up (va_up r 3 (upd (r 3) x (r 3 x + 1))) 4 (upd (r 4) (x * 10 + y) (-1))) 5 (upd (r 5) (x * 10 + y) (r 5 (x * 10 + y) + 1)))
  else (upd f 7 (f 7 + 1), va_up (va_up r 3 (upd (upd (r 3) x (r 3 x + 3)) y (upd (r 3) x (r 3 x + 3) y + 3))) 4 (upd (upd (r 4) (y * 10 + x) (-1)) (x * 10 + y) (-1)))
/-- the row o says the pairs of L, in their order -/
def oR (o : Nat → Int32) (L : List Nat) : Prop := ∀ j, j < L.length → o j = nI (L.getD j 0)
def dDec (t : Nat → Int32) (L : List Nat) : Nat → (Nat → Int32)
  | 0 => t
  | i + 1 => upd (dDec t L i) (L.getD i 0) (dDec t L i (L.getD i 0) - 1)
def dM1 (f : Nat → Int32) (r : Nat → Nat → Int32) (L : List Nat) : dS := (f, va_up r 4 (dDec (r 4) L L.length))
def dArrs (L : List Nat) (s : dS) : Nat → dS
  | 0 => s
  | i + 1 => if (dArrs L s i).2 4 (L.getD i 0) = 0 then dArr (dArrs L s i).1 (dArrs L s i).2 (L.getD i 0 / 10) (L.getD i 0 % 10) else dArrs L s i
def dFgt (t o : Nat → Int32) (L : List Nat) : Nat → Nat × (Nat → Int32)
  | 0 => (0, o)
  | i + 1 => if t (L.getD i 0) = -1 then dFgt t o L i else ((dFgt t o L i).1 + 1, upd (dFgt t o L i).2 (dFgt t o L i).1 (nI (L.getD i 0)))
def dForget (f : Nat → Int32) (r : Nat → Nat → Int32) (L : List Nat) : dS := (upd f 9 (nI (dFgt (r 4) (r 6) L L.length).1), va_up r 6 (dFgt (r 4) (r 6) L L.length).2)
def dMove (f : Nat → Int32) (r : Nat → Nat → Int32) (L : List Nat) : dS := dForget (dArrs L (dM1 f r L) L.length).1 (dArrs L (dM1 f r L) L.length).2 L
def dSec (f : Nat → Int32) (r : Nat → Nat → Int32) (L : List Nat) : dS := (upd (dMove (dTalk f r).1 (dTalk f r).2 L).1 1 ((dMove (dTalk f r).1 (dTalk f r).2 L).1 1 + 1), (dMove (dTalk f r).1 (dTalk f r).2 L).2)
def dKeep (t : Nat → Int32) (L : List Nat) : List Nat := L.filter (fun p => !decide (t p = -1))
def dGo (s : dS) (L : List Nat) : Nat → dS × List Nat
  | 0 => (s, L)
  | k + 1 => (dSec (dGo s L k).1.1 (dGo s L k).1.2 (dGo s L k).2, dKeep ((dSec (dGo s L k).1.1 (dGo s L k).1.2 (dGo s L k).2).2 4) (dGo s L k).2)
/-- what a second needs, so that no index is wrong -/
def dOk (f : Nat → Int32) (r : Nat → Nat → Int32) (L : List Nat) : Prop := (f 3 = -1 ∨ ∃ q, q < 10 ∧ f 3 = nI q) ∧ f 9 = nI L.length ∧ oR (r 6) L ∧ (∀ p ∈ L, p < 100) ∧ L.length ≤ 100
theorem dgt {L : List Nat} (h : ∀ p ∈ L, p < 100) (i : Nat) : L.getD i 0 < 100 := by
  by_cases hi : i < L.length
  · have e : L.getD i 0 = L[i] := by simp [hi]
    rw [e]
    exact h _ (List.getElem_mem hi)
  · have e : L.getD i 0 = 0 := by simp [Nat.not_lt.mp hi]
    rw [e]
    decide
theorem dTalk9 (f : Nat → Int32) (r : Nat → Nat → Int32) : (dTalk f r).1 9 = f 9 := by
  unfold dTalk
  split <;> split <;> simp [upd]
theorem dTalk6 (f : Nat → Int32) (r : Nat → Nat → Int32) : (dTalk f r).2 6 = r 6 := by
  unfold dTalk
  split <;> simp [va_up]
theorem dArr9 (f : Nat → Int32) (r : Nat → Nat → Int32) (x y : Nat) : (dArr f r x y).1 9 = f 9 := by
  unfold dArr
  split
  · split <;> simp [upd]
  · simp [upd]
theorem dArr6 (f : Nat → Int32) (r : Nat → Nat → Int32) (x y : Nat) : (dArr f r x y).2 6 = r 6 := by
  unfold dArr
  split
  · split <;> simp [va_up]
  · simp [va_up]
theorem dArrs9 (L : List Nat) (s : dS) : ∀ i, (dArrs L s i).1 9 = s.1 9
  | 0 => rfl
  | i + 1 => by
    unfold dArrs
    split
    · rw [dArr9, dArrs9 L s i]
    · exact dArrs9 L s i
theorem dArrs6 (L : List Nat) (s : dS) : ∀ i, (dArrs L s i).2 6 = s.2 6
  | 0 => rfl
  | i + 1 => by
    unfold dArrs
    split
    · rw [dArr6, dArrs6 L s i]
    · exact dArrs6 L s i
theorem dFgt_le (t o : Nat → Int32) (L : List Nat) : ∀ i, (dFgt t o L i).1 ≤ i
  | 0 => Nat.le_refl 0
  | i + 1 => by
    have h := dFgt_le t o L i
    unfold dFgt
    split
    · omega
    · show (dFgt t o L i).1 + 1 ≤ i + 1
      omega
theorem dFgt_far (t o : Nat → Int32) (L : List Nat) : ∀ i j, i ≤ j → (dFgt t o L i).2 j = o j
  | 0, j, _ => rfl
  | i + 1, j, h => by
    have h1 := dFgt_far t o L i j (by omega)
    have h2 := dFgt_le t o L i
    unfold dFgt
    split
    · exact h1
    · show upd _ _ _ j = o j
      rw [pk_un (by omega)]
      exact h1
theorem dFgt_get {t o : Nat → Int32} {L : List Nat} (ho : oR o L) {i : Nat} (hi : i < L.length) : (dFgt t o L i).2 i = nI (L.getD i 0) := by
  rw [dFgt_far t o L i i (Nat.le_refl i)]
  exact ho i hi
def dFill (g : Nat → Int32) (v : Int32) (i : Nat) : Nat → Int32 := fun j => if j < i then v else g j
theorem dFill_0 (g : Nat → Int32) (v : Int32) : dFill g v 0 = g := by
  funext j
  simp [dFill]
theorem dFill_s (g : Nat → Int32) (v : Int32) (i : Nat) : upd (dFill g v i) i v = dFill g v (i + 1) := by
  funext j
  simp only [upd, dFill]
  by_cases h : j = i
  · rw [if_pos h, if_pos (by omega)]
  · rw [if_neg h]
    by_cases h2 : j < i
    · rw [if_pos h2, if_pos (by omega)]
    · rw [if_neg h2, if_neg (by omega)]
def dBeginF (f : Nat → Int32) (x : Int32) : Nat → Int32 := upd (upd (upd (upd (upd (upd (upd (upd (upd f 0 x) 1 0) 3 (-1)) 4 0) 5 0) 6 0) 7 0) 8 0) 9 0
def dBeginR (r : Nat → Nat → Int32) : Nat → Nat → Int32 := va_up (va_up (va_up (va_up (va_up (va_up r 0 (fun _ => 0)) 1 (fun _ => 0)) 2 (fun _ => 0)) 3 (fun _ => 0)) 4 (fun _ => -1)) 5 (fun _ => 0)
end
section
abbrev rmX1_pairOf : Room := { frames := 0, cells := 0, slots := 0, locals := 0 }
set_option maxRecDepth 100000 in
set_option maxHeartbeats 4000000 in
/-- pairOf -/
theorem mX1_pairOf (l : Launch) (D : va_G) (cI : ClassId) (x y : Nat) (sz : Nat) : wCt l yX1_pairOf wsX1_pairOf rmX1_pairOf D [(cI, .int)] [.int (nI x), .int (nI y)] (([] : va_W)) sz 0 0 (wQi D (fun v (_ : Unit) => v = nI (x * 10 + y)) (fun _ : Unit => ([] : va_W))) := by
  refine wMet cX1_pairOf 2 (some .int) (by decide) rfl (Nat.le_of_ble_eq_true rfl) ?_
  intro p e s m args below meth c A Q ls hQ hx hb hr hml hown hlocks hin hts hN hP hK hD hA hS hl
  have hl : lv_has ls 2 [(0, .int (nI x)), (1, .int (nI y))] := hl
  have hown : s.vm.findClass RX1 = some m.cls := hown
  refine lv_iload_n hx hb dX1_pairOf_0 rfl (lv_at hl 0 rfl) ?_
  refine lv_bipush (v := 10) hx hb dX1_pairOf_1 (by decide) ?_
  refine lv_imul hx hb dX1_pairOf_3 ?_
  refine wTop (z := nI (x * 10)) (pk_mul x 10) ?_
  refine lv_iload_n hx hb dX1_pairOf_4 rfl (lv_at hl 1 rfl) ?_
  refine lv_iadd hx hb dX1_pairOf_5 ?_
  refine wTop (z := nI ((x * 10) + y)) (nI_add (x * 10) y) ?_
  exact wRi hQ hx hb hr hlocks hP hD hS dX1_pairOf_6 () (rfl) rfl
abbrev rmX0_isOnItsWay : Room := { frames := 0, cells := 0, slots := 0, locals := 0 }
set_option maxRecDepth 100000 in
set_option maxHeartbeats 4000000 in
/-- isOnItsWay -/
theorem mX0_isOnItsWay (l : Launch) (D : va_G) (cI : ClassId) (a : Nat → Nat) (f : Nat → Int32) (r : Nat → Nat → Int32) (k : Nat) (sz : Nat) (hk : k < 100) : wCt l yX0_isOnItsWay wsX0_isOnItsWay rmX0_isOnItsWay D [(cI, .int)] [.ref (a 0), .int (nI k)] (DC cI a f r) sz 0 0 (wQi D (fun v (_ : Unit) => v = if r 4 k = -1 then 0 else 1) (fun _ : Unit => DC cI a f r)) := by
  refine wMet cX0_isOnItsWay 2 (some .boolean) (by decide) rfl (Nat.le_of_ble_eq_true rfl) ?_
  intro p e s m args below meth c A Q ls hQ hx hb hr hml hown hlocks hin hts hN hP hK hD hA hS hl
  have hl : lv_has ls 2 [(0, .ref (a 0)), (1, .int (nI k))] := hl
  have hown : s.vm.findClass RX0 = some m.cls := hown
  have hw0 : ∀ w ∈ wsX00, w.before args s = true := fun w h => hts w (List.mem_cons_of_mem _ (List.mem_append_right _ h))
  have k24 := hts (.fieldLink RX0 24 "PauseLedger$Dinner" "toGo" "[I") (by decide +kernel)
  refine lv_aload_n hx hb dX0_isOnItsWay_0 rfl (lv_at hl 0 rfl) ?_
  refine va_get (D := D) (ci := 0) (v := .ref (a 5)) (C := RX0) (T := TX0) (N := 17) hx hb hw0 (fun _ h => h) hown hK hP 0 rfl rfl 14 (by decide) k24 (fun _ h9 => h9) rfl dX0_isOnItsWay_1 ?_
  refine lv_iload_n hx hb dX0_isOnItsWay_4 rfl (lv_at hl 1 rfl) ?_
  refine wIald hx hb hK hP 5 0 rfl rfl k rfl (by omega) (by decide) dX0_isOnItsWay_5 ?_
  refine lv_iconst (v := (-1)) hx hb dX0_isOnItsWay_6 (by decide) ?_
  refine lv_icmp_eq (tgt := 14) hx hb dX0_isOnItsWay_7 (by decide) (fun c_7 => ?_) (fun c_7 => ?_)
  · refine lv_iconst (v := 0) hx hb dX0_isOnItsWay_14 (by decide) ?_
    exact wRz hQ hx hb hr hlocks hP hD hS dX0_isOnItsWay_15 (rfl) () (by rw [if_pos c_7]) rfl
  · refine lv_iconst (v := 1) hx hb dX0_isOnItsWay_10 (by decide) ?_
    refine lv_goto (tgt := 15) hx hb dX0_isOnItsWay_11 (by decide) ?_
    exact wRz hQ hx hb hr hlocks hP hD hS dX0_isOnItsWay_15 (rfl) () (by rw [if_neg c_7]) rfl
abbrev rmX0_timeToGo : Room := { frames := 1, cells := 0, slots := 0, locals := 21 }
set_option maxRecDepth 100000 in
set_option maxHeartbeats 4000000 in
/-- timeToGo -/
theorem mX0_timeToGo (l : Launch) (D : va_G) (cI : ClassId) (a : Nat → Nat) (f : Nat → Int32) (r : Nat → Nat → Int32) (k : Nat) (sz : Nat) (hk : k < 100) : wCt l yX0_timeToGo wsX0_timeToGo rmX0_timeToGo D [(cI, .int)] [.ref (a 0), .int (nI k)] (DC cI a f r) sz 0 0 (wQi D (fun v (_ : Unit) => v = dToGo (r 4) k) (fun _ : Unit => DC cI a f r)) := by
  refine wMet cX0_timeToGo 2 (some .int) (by decide) rfl (Nat.le_of_ble_eq_true rfl) ?_
  intro p e s m args below meth c A Q ls hQ hx hb hr hml hown hlocks hin hts hN hP hK hD hA hS hl
  have hl : lv_has ls 2 [(0, .ref (a 0)), (1, .int (nI k))] := hl
  have hown : s.vm.findClass RX0 = some m.cls := hown
  have hw0 : ∀ w ∈ wsX00, w.before args s = true := fun w h => hts w (List.mem_cons_of_mem _ (List.mem_append_right _ h))
  have k24 := hts (.fieldLink RX0 24 "PauseLedger$Dinner" "toGo" "[I") (by decide +kernel)
  refine lv_aload_n hx hb dX0_timeToGo_0 rfl (lv_at hl 0 rfl) ?_
  refine lv_iload_n hx hb dX0_timeToGo_1 rfl (lv_at hl 1 rfl) ?_
  refine wCVi (pre := ([] : va_W)) (Wc := DC cI a f r) (suf := ([] : va_W)) (As := [.int (nI k)]) (rest := []) ⟨hx, hb, hml, hown, hts⟩ (mX0_isOnItsWay l D cI a f r k _ hk) hN hA hK hS hP hD rfl 0 (r := (RX0, TX0, 17)) rfl rfl (cwV 1 hts gX0_timeToGo_X0_isOnItsWay rfl rfl rfl (by decide +kernel) ⟨Nat.le_of_ble_eq_true rfl, Nat.le_of_ble_eq_true rfl⟩) rfl hl.1 rfl (Nat.le_of_ble_eq_true rfl) dX0_timeToGo_2 ⟨Nat.zero_le _, Nat.zero_le _⟩ (fun r_2 u_2 H locs hw hP hD hS => ?_)
  have hw : r_2 = if (r 4) k = -1 then 0 else 1 := hw
  subst hw
  have hP : va_P D vwCl (DC cI a f r) H := hP
  have hD : va_D A (DC cI a f r) := hD
  refine lv_if_eq (tgt := 17) hx hb dX0_timeToGo_5 (by decide) (fun c_5 => ?_) (fun c_5 => ?_)
  · refine lv_iconst (v := 0) hx hb dX0_timeToGo_17 (by decide) ?_
    exact wRi hQ hx hb hr hlocks hP hD hS dX0_timeToGo_18 () (by simp only [dToGo]; first | exact (if_pos (ite01.mp c_5)).symm | exact (if_neg (ite01n.mp c_5)).symm) rfl
  · refine lv_aload_n hx hb dX0_timeToGo_8 rfl (lv_at hl 0 rfl) ?_
    refine va_get (D := D) (ci := 0) (v := .ref (a 5)) (C := RX0) (T := TX0) (N := 17) hx hb hw0 (fun _ h => h) hown hK hP 0 rfl rfl 14 (by decide) k24 (fun _ h9 => h9) rfl dX0_timeToGo_9 ?_
    refine lv_iload_n hx hb dX0_timeToGo_12 rfl (lv_at hl 1 rfl) ?_
    refine wIald hx hb hK hP 5 0 rfl rfl k rfl (by omega) (by decide) dX0_timeToGo_13 ?_
    refine lv_goto (tgt := 18) hx hb dX0_timeToGo_14 (by decide) ?_
    exact wRi hQ hx hb hr hlocks hP hD hS dX0_timeToGo_18 () (by simp only [dToGo]; first | exact (if_pos (ite01.mp c_5)).symm | exact (if_neg (ite01n.mp c_5)).symm) rfl
abbrev rmX0_seatsBetween : Room := { frames := 1, cells := 0, slots := 0, locals := 21 }
set_option maxRecDepth 100000 in
set_option maxHeartbeats 4000000 in
/-- seatsBetween -/
theorem mX0_seatsBetween (l : Launch) (D : va_G) (cI : ClassId) (a : Nat → Nat) (f : Nat → Int32) (r : Nat → Nat → Int32) (x y : Int32) (sz : Nat) : wCt l yX0_seatsBetween wsX0_seatsBetween rmX0_seatsBetween D [(cI, .int)] [.ref (a 0), .int x, .int y] (DC cI a f r) sz 0 0 (wQi D (fun v (_ : Unit) => v = dSeats (f 0) x y) (fun _ : Unit => DC cI a f r)) := by
  refine wMet cX0_seatsBetween 4 (some .int) (by decide) rfl (Nat.le_of_ble_eq_true rfl) ?_
  intro p e s m args below meth c A Q ls hQ hx hb hr hml hown hlocks hin hts hN hP hK hD hA hS hl
  have hl : lv_has ls 4 [(0, .ref (a 0)), (1, .int x), (2, .int y)] := hl
  have hown : s.vm.findClass RX0 = some m.cls := hown
  have hw0 : ∀ w ∈ wsX00, w.before args s = true := fun w h => hts w (List.mem_cons_of_mem _ (List.mem_append_right _ h))
  have k41 := hts (.fieldLink RX0 41 "PauseLedger$Dinner" "guests" "I") (by decide +kernel)
  refine lv_iload_n hx hb dX0_seatsBetween_0 rfl (lv_at hl 1 rfl) ?_
  refine lv_iload_n hx hb dX0_seatsBetween_1 rfl (lv_at hl 2 rfl) ?_
  refine lv_isub hx hb dX0_seatsBetween_2 ?_
  refine va_mabs hx hb (hml.trans hl.1.symm) hown (hts (.methodLink RX0 114 Lib.Math.abs.name) (by decide +kernel)) (hts (.static Lib.Math.abs.name) (by decide +kernel)) (hts (.initialized "java/lang/Math") (by decide +kernel)) (hts (.code Lib.Math.abs.name Lib.Math.abs.code 1 (some .int)) (by decide +kernel)) (Nat.le_of_ble_eq_true rfl) (Nat.le_of_ble_eq_true rfl) (Nat.zero_le _) (Nat.zero_le _) dX0_seatsBetween_3 ?_
  refine lv_istore_n (lv' := [(3, .int (if 0 ≤ (x - y) then (x - y) else 0 - (x - y))), (0, .ref (a 0)), (1, .int x), (2, .int y)]) hx hb dX0_seatsBetween_6 rfl hl (by decide) rfl (fun ls hl => ?_)
  refine lv_iload_n hx hb dX0_seatsBetween_7 rfl (lv_at hl 0 rfl) ?_
  refine lv_aload_n hx hb dX0_seatsBetween_8 rfl (lv_at hl 1 rfl) ?_
  refine va_get (D := D) (ci := 0) (v := .int (f 0)) (C := RX0) (T := TX0) (N := 17) hx hb hw0 (fun _ h => h) hown hK hP 0 rfl rfl 0 (by decide) k41 (fun _ h9 => h9) rfl dX0_seatsBetween_9 ?_
  refine lv_iload_n hx hb dX0_seatsBetween_12 rfl (lv_at hl 0 rfl) ?_
  refine lv_isub hx hb dX0_seatsBetween_13 ?_
  refine va_mmin hx hb (hml.trans hl.1.symm) hown (hts (.methodLink RX0 119 Lib.Math.min.name) (by decide +kernel)) (hts (.static Lib.Math.min.name) (by decide +kernel)) (hts (.initialized "java/lang/Math") (by decide +kernel)) (hts (.code Lib.Math.min.name Lib.Math.min.code 2 (some .int)) (by decide +kernel)) (Nat.le_of_ble_eq_true rfl) (Nat.le_of_ble_eq_true rfl) (Nat.zero_le _) (Nat.zero_le _) dX0_seatsBetween_14 ?_
  exact wRi hQ hx hb hr hlocks hP hD hS dX0_seatsBetween_17 () (rfl) rfl
abbrev rmX0_wayOf : Room := { frames := 2, cells := 0, slots := 0, locals := 44 }
set_option maxRecDepth 100000 in
set_option maxHeartbeats 4000000 in
/-- wayOf -/
theorem mX0_wayOf (l : Launch) (D : va_G) (cI : ClassId) (a : Nat → Nat) (f : Nat → Int32) (r : Nat → Nat → Int32) (x y : Int32) (sz : Nat) : wCt l yX0_wayOf wsX0_wayOf rmX0_wayOf D [(cI, .int)] [.ref (a 0), .int x, .int y] (DC cI a f r) sz 0 0 (wQi D (fun v (_ : Unit) => v = 2 * dSeats (f 0) x y) (fun _ : Unit => DC cI a f r)) := by
  refine wMet cX0_wayOf 3 (some .int) (by decide) rfl (Nat.le_of_ble_eq_true rfl) ?_
  intro p e s m args below meth c A Q ls hQ hx hb hr hml hown hlocks hin hts hN hP hK hD hA hS hl
  have hl : lv_has ls 3 [(0, .ref (a 0)), (1, .int x), (2, .int y)] := hl
  have hown : s.vm.findClass RX0 = some m.cls := hown
  refine lv_iconst (v := 2) hx hb dX0_wayOf_0 (by decide) ?_
  refine lv_aload_n hx hb dX0_wayOf_1 rfl (lv_at hl 0 rfl) ?_
  refine lv_iload_n hx hb dX0_wayOf_2 rfl (lv_at hl 1 rfl) ?_
  refine lv_iload_n hx hb dX0_wayOf_3 rfl (lv_at hl 2 rfl) ?_
  refine wCVi (pre := ([] : va_W)) (Wc := DC cI a f r) (suf := ([] : va_W)) (As := [.int x, .int y]) (rest := [.int 2]) ⟨hx, hb, hml, hown, hts⟩ (mX0_seatsBetween l D cI a f r x y _) hN hA hK hS hP hD rfl 0 (r := (RX0, TX0, 17)) rfl rfl (cwV 2 hts gX0_wayOf_X0_seatsBetween rfl rfl rfl (by decide +kernel) ⟨Nat.le_of_ble_eq_true rfl, Nat.le_of_ble_eq_true rfl⟩) rfl hl.1 rfl (Nat.le_of_ble_eq_true rfl) dX0_wayOf_4 ⟨Nat.zero_le _, Nat.zero_le _⟩ (fun r_4 u_4 H locs hw hP hD hS => ?_)
  have hw : r_4 = dSeats (f 0) x y := hw
  subst hw
  have hP : va_P D vwCl (DC cI a f r) H := hP
  have hD : va_D A (DC cI a f r) := hD
  refine lv_imul hx hb dX0_wayOf_7 ?_
  exact wRi hQ hx hb hr hlocks hP hD hS dX0_wayOf_8 () (rfl) rfl
abbrev rmX0_beyondMultipleOfLimit : Room := { frames := 0, cells := 0, slots := 0, locals := 0 }
set_option maxRecDepth 100000 in
set_option maxHeartbeats 4000000 in
/-- beyondMultipleOfLimit -/
theorem mX0_beyondMultipleOfLimit (l : Launch) (D : va_G) (cI : ClassId) (a : Nat → Nat) (f : Nat → Int32) (r : Nat → Nat → Int32) (x : Int32) (sz : Nat) : wCt l yX0_beyondMultipleOfLimit wsX0_beyondMultipleOfLimit rmX0_beyondMultipleOfLimit D [(cI, .int)] [.ref (a 0), .int x] (DC cI a f r) sz 0 0 (wQi D (fun v (_ : Unit) => v = dBm (f 2) x) (fun _ : Unit => DC cI a f r)) := by
  refine wMet cX0_beyondMultipleOfLimit 2 (some .int) (by decide) rfl (Nat.le_of_ble_eq_true rfl) ?_
  intro p e s m args below meth c A Q ls hQ hx hb hr hml hown hlocks hin hts hN hP hK hD hA hS hl
  have hl : lv_has ls 2 [(0, .ref (a 0)), (1, .int x)] := hl
  have hown : s.vm.findClass RX0 = some m.cls := hown
  have hw0 : ∀ w ∈ wsX00, w.before args s = true := fun w h => hts w (List.mem_cons_of_mem _ (List.mem_append_right _ h))
  have k33 := hts (.fieldLink RX0 33 "PauseLedger$Dinner" "limit" "I") (by decide +kernel)
  refine lv_aload_n hx hb dX0_beyondMultipleOfLimit_0 rfl (lv_at hl 0 rfl) ?_
  refine va_get (D := D) (ci := 0) (v := .int (f 2)) (C := RX0) (T := TX0) (N := 17) hx hb hw0 (fun _ h => h) hown hK hP 0 rfl rfl 2 (by decide) k33 (fun _ h9 => h9) rfl dX0_beyondMultipleOfLimit_1 ?_
  refine lv_if_le (tgt := 16) hx hb dX0_beyondMultipleOfLimit_4 (by decide) (fun c_4 => ?_) (fun c_4 => ?_)
  · refine lv_iconst (v := 0) hx hb dX0_beyondMultipleOfLimit_16 (by decide) ?_
    exact wRi hQ hx hb hr hlocks hP hD hS dX0_beyondMultipleOfLimit_17 () (by simp only [dBm]; first | exact (if_neg (Int32.not_lt.mpr c_4)).symm | exact (if_pos (Int32.not_le.mp c_4)).symm) rfl
  · refine lv_iload_n hx hb dX0_beyondMultipleOfLimit_7 rfl (lv_at hl 1 rfl) ?_
    refine lv_aload_n hx hb dX0_beyondMultipleOfLimit_8 rfl (lv_at hl 0 rfl) ?_
    refine va_get (D := D) (ci := 0) (v := .int (f 2)) (C := RX0) (T := TX0) (N := 17) hx hb hw0 (fun _ h => h) hown hK hP 0 rfl rfl 2 (by decide) k33 (fun _ h9 => h9) rfl dX0_beyondMultipleOfLimit_9 ?_
    refine lv_irem hx hb dX0_beyondMultipleOfLimit_12 (fun e => c_4 (by rw [e]; decide)) ?_
    refine lv_goto (tgt := 17) hx hb dX0_beyondMultipleOfLimit_13 (by decide) ?_
    exact wRi hQ hx hb hr hlocks hP hD hS dX0_beyondMultipleOfLimit_17 () (by simp only [dBm]; first | exact (if_neg (Int32.not_lt.mpr c_4)).symm | exact (if_pos (Int32.not_le.mp c_4)).symm) rfl
abbrev rmX0_unsaidByCough : Room := { frames := 0, cells := 0, slots := 0, locals := 0 }
set_option maxRecDepth 100000 in
set_option maxHeartbeats 4000000 in
/-- unsaidByCough -/
theorem mX0_unsaidByCough (l : Launch) (D : va_G) (cI : ClassId) (a : Nat → Nat) (f : Nat → Int32) (r : Nat → Nat → Int32) (x wt : Int32) (sz : Nat) : wCt l yX0_unsaidByCough wsX0_unsaidByCough rmX0_unsaidByCough D [(cI, .int)] [.ref (a 0), .int x, .int wt] (DC cI a f r) sz 0 0 (wQi D (fun v (_ : Unit) => v = dCough f x wt) (fun _ : Unit => DC cI a f r)) := by
  refine wMet cX0_unsaidByCough 3 (some .int) (by decide) rfl (Nat.le_of_ble_eq_true rfl) ?_
  intro p e s m args below meth c A Q ls hQ hx hb hr hml hown hlocks hin hts hN hP hK hD hA hS hl
  have hl : lv_has ls 3 [(0, .ref (a 0)), (1, .int x), (2, .int wt)] := hl
  have hown : s.vm.findClass RX0 = some m.cls := hown
  have hw0 : ∀ w ∈ wsX00, w.before args s = true := fun w h => hts w (List.mem_cons_of_mem _ (List.mem_append_right _ h))
  have k47 := hts (.fieldLink RX0 47 "PauseLedger$Dinner" "speaker" "I") (by decide +kernel)
  refine lv_aload_n hx hb dX0_unsaidByCough_0 rfl (lv_at hl 0 rfl) ?_
  refine va_get (D := D) (ci := 0) (v := .int (f 3)) (C := RX0) (T := TX0) (N := 17) hx hb hw0 (fun _ h => h) hown hK hP 0 rfl rfl 3 (by decide) k47 (fun _ h9 => h9) rfl dX0_unsaidByCough_1 ?_
  refine lv_iconst (v := (-1)) hx hb dX0_unsaidByCough_4 (by decide) ?_
  refine lv_icmp_ne (tgt := 10) hx hb dX0_unsaidByCough_5 (by decide) (fun c_5 => ?_) (fun c_5 => ?_)
  · refine lv_aload_n hx hb dX0_unsaidByCough_10 rfl (lv_at hl 0 rfl) ?_
    refine va_get (D := D) (ci := 0) (v := .int (f 3)) (C := RX0) (T := TX0) (N := 17) hx hb hw0 (fun _ h => h) hown hK hP 0 rfl rfl 3 (by decide) k47 (fun _ h9 => h9) rfl dX0_unsaidByCough_11 ?_
    refine lv_iload_n hx hb dX0_unsaidByCough_14 rfl (lv_at hl 1 rfl) ?_
    refine lv_icmp_ne (tgt := 22) hx hb dX0_unsaidByCough_15 (by decide) (fun c_15 => ?_) (fun c_15 => ?_)
    · refine lv_iload_n hx hb dX0_unsaidByCough_22 rfl (lv_at hl 2 rfl) ?_
      refine lv_iconst (v := 2) hx hb dX0_unsaidByCough_23 (by decide) ?_
      refine lv_idiv hx hb dX0_unsaidByCough_24 (by decide) ?_
      exact wRi hQ hx hb hr hlocks hP hD hS dX0_unsaidByCough_25 () (by simp only [dCough, if_neg c_5, if_neg c_15]) rfl
    · refine lv_iconst (v := 0) hx hb dX0_unsaidByCough_18 (by decide) ?_
      refine lv_goto (tgt := 25) hx hb dX0_unsaidByCough_19 (by decide) ?_
      exact wRi hQ hx hb hr hlocks hP hD hS dX0_unsaidByCough_25 () (by simp only [dCough, if_neg c_5, if_pos c_15]) rfl
  · refine lv_iload_n hx hb dX0_unsaidByCough_8 rfl (lv_at hl 2 rfl) ?_
    exact wRi hQ hx hb hr hlocks hP hD hS dX0_unsaidByCough_9 () (by simp only [dCough, if_pos c_5]) rfl
abbrev rmX0_sumUnsaidByGuests : Room := { frames := 0, cells := 0, slots := 0, locals := 0 }
set_option maxRecDepth 100000 in
set_option maxHeartbeats 4000000 in
/-- sumUnsaidByGuests -/
theorem mX0_sumUnsaidByGuests (l : Launch) (D : va_G) (cI : ClassId) (a : Nat → Nat) (f : Nat → Int32) (r : Nat → Nat → Int32) (g : Nat) (sz : Nat) (hg : f 0 = nI g) (hg2 : g ≤ 10) : wCt l yX0_sumUnsaidByGuests wsX0_sumUnsaidByGuests rmX0_sumUnsaidByGuests D [(cI, .int)] [.ref (a 0)] (DC cI a f r) sz 0 0 (wQi D (fun v (_ : Unit) => v = dSum (r 3) g) (fun _ : Unit => DC cI a f r)) := by
  refine wMet cX0_sumUnsaidByGuests 3 (some .int) (by decide) rfl (Nat.le_of_ble_eq_true rfl) ?_
  intro p e s m args below meth c A Q ls hQ hx hb hr hml hown hlocks hin hts hN hP hK hD hA hS hl
  have hl : lv_has ls 3 [(0, .ref (a 0))] := hl
  have hown : s.vm.findClass RX0 = some m.cls := hown
  have hw0 : ∀ w ∈ wsX00, w.before args s = true := fun w h => hts w (List.mem_cons_of_mem _ (List.mem_append_right _ h))
  have k21 := hts (.fieldLink RX0 21 "PauseLedger$Dinner" "unsaid" "[I") (by decide +kernel)
  have k41 := hts (.fieldLink RX0 41 "PauseLedger$Dinner" "guests" "I") (by decide +kernel)
  refine lv_iconst (v := 0) hx hb dX0_sumUnsaidByGuests_0 (by decide) ?_
  refine lv_istore_n (lv' := [(1, .int 0), (0, .ref (a 0))]) hx hb dX0_sumUnsaidByGuests_1 rfl hl (by decide) rfl (fun ls hl => ?_)
  refine lv_iconst (v := 0) hx hb dX0_sumUnsaidByGuests_2 (by decide) ?_
  refine lv_istore_n (lv' := [(2, .int 0), (1, .int 0), (0, .ref (a 0))]) hx hb dX0_sumUnsaidByGuests_3 rfl hl (by decide) rfl (fun ls hl => ?_)
  have loop4 : ∀ (j i4 : Nat), i4 + j = g → ∀ (H : Heap) (locs : List Loc) (ls : Array Slot), va_P D vwCl (DC cI a f r) H → va_D A (DC cI a f r) → va_S A s.heap H locs → lv_has ls 3 [(2, .int (nI i4)), (1, .int (dSum (r 3) i4)), (0, .ref (a 0))] → W p l e rmX0_sumUnsaidByGuests s m args below meth c H locs 0 0 Q (F0 m 4 ls []) := by
    intro j
    induction j with
    | zero =>
      intro i4 hi4 H locs ls hP hD hS hl
      have ez : g = i4 := by omega
      subst ez
      refine lv_iload_n hx hb dX0_sumUnsaidByGuests_4 rfl (lv_at hl 0 rfl) ?_
      refine lv_aload_n hx hb dX0_sumUnsaidByGuests_5 rfl (lv_at hl 2 rfl) ?_
      refine va_get (D := D) (ci := 0) (v := .int (f 0)) (C := RX0) (T := TX0) (N := 17) hx hb hw0 (fun _ h => h) hown hK hP 0 rfl rfl 0 (by decide) k41 (fun _ h9 => h9) rfl dX0_sumUnsaidByGuests_6 ?_
      refine lv_icmp_ge (tgt := 27) hx hb dX0_sumUnsaidByGuests_9 (by decide) (fun c_9 => ?_) (fun h9 => absurd (by rw [hg]; exact nI_le (by omega) (by omega)) h9)
      refine lv_iload_n hx hb dX0_sumUnsaidByGuests_27 rfl (lv_at hl 1 rfl) ?_
      exact wRi hQ hx hb hr hlocks hP hD hS dX0_sumUnsaidByGuests_28 () (rfl) rfl
    | succ j ih4 =>
      intro i4 hi4 H locs ls hP hD hS hl
      refine lv_iload_n hx hb dX0_sumUnsaidByGuests_4 rfl (lv_at hl 0 rfl) ?_
      refine lv_aload_n hx hb dX0_sumUnsaidByGuests_5 rfl (lv_at hl 2 rfl) ?_
      refine va_get (D := D) (ci := 0) (v := .int (f 0)) (C := RX0) (T := TX0) (N := 17) hx hb hw0 (fun _ h => h) hown hK hP 0 rfl rfl 0 (by decide) k41 (fun _ h9 => h9) rfl dX0_sumUnsaidByGuests_6 ?_
      refine lv_icmp_ge (tgt := 27) hx hb dX0_sumUnsaidByGuests_9 (by decide) (fun h9 => absurd h9 (by rw [hg]; exact nI_ge (by omega) (by omega))) (fun c_9 => ?_)
      refine lv_iload_n hx hb dX0_sumUnsaidByGuests_12 rfl (lv_at hl 1 rfl) ?_
      refine lv_aload_n hx hb dX0_sumUnsaidByGuests_13 rfl (lv_at hl 2 rfl) ?_
      refine va_get (D := D) (ci := 0) (v := .ref (a 4)) (C := RX0) (T := TX0) (N := 17) hx hb hw0 (fun _ h => h) hown hK hP 0 rfl rfl 13 (by decide) k21 (fun _ h9 => h9) rfl dX0_sumUnsaidByGuests_14 ?_
      refine lv_iload_n hx hb dX0_sumUnsaidByGuests_17 rfl (lv_at hl 0 rfl) ?_
      refine wIald hx hb hK hP 4 0 rfl rfl i4 rfl (by omega) (by decide) dX0_sumUnsaidByGuests_18 ?_
      refine lv_iadd hx hb dX0_sumUnsaidByGuests_19 ?_
      refine lv_istore_n (lv' := [(1, .int ((dSum (r 3) i4) + ((r 3) i4))), (2, .int (nI i4)), (0, .ref (a 0))]) hx hb dX0_sumUnsaidByGuests_20 rfl hl (by decide) rfl (fun ls hl => ?_)
      refine lv_iinc (v := nI (i4 + 1)) (lv' := [(2, .int (nI (i4 + 1))), (1, .int ((dSum (r 3) i4) + ((r 3) i4))), (0, .ref (a 0))]) hx hb dX0_sumUnsaidByGuests_21 hl (k := 1) rfl (nI_1 i4) (by decide) rfl (fun ls hl => ?_)
      refine lv_goto (tgt := 4) hx hb dX0_sumUnsaidByGuests_24 (by decide) ?_
      exact ih4 (i4 + 1) (by omega) _ _ _ hP hD hS (lv_sub hl [0, 1, 2] rfl)
  exact loop4 g 0 (by omega) _ _ _ hP hD hS (lv_sub hl [0, 1, 2] rfl)
abbrev rmX0_sumUnsaid : Room := { frames := 1, cells := 0, slots := 0, locals := 22 }
set_option maxRecDepth 100000 in
set_option maxHeartbeats 4000000 in
/-- sumUnsaid -/
theorem mX0_sumUnsaid (l : Launch) (D : va_G) (cI : ClassId) (a : Nat → Nat) (f : Nat → Int32) (r : Nat → Nat → Int32) (g : Nat) (sz : Nat) (hg : f 0 = nI g) (hg2 : g ≤ 10) : wCt l yX0_sumUnsaid wsX0_sumUnsaid rmX0_sumUnsaid D [(cI, .int)] [.ref (a 0)] (DC cI a f r) sz 0 0 (wQi D (fun v (_ : Unit) => v = dSum (r 3) g + f 6) (fun _ : Unit => DC cI a f r)) := by
  refine wMet cX0_sumUnsaid 1 (some .int) (by decide) rfl (Nat.le_of_ble_eq_true rfl) ?_
  intro p e s m args below meth c A Q ls hQ hx hb hr hml hown hlocks hin hts hN hP hK hD hA hS hl
  have hl : lv_has ls 1 [(0, .ref (a 0))] := hl
  have hown : s.vm.findClass RX0 = some m.cls := hown
  have hw0 : ∀ w ∈ wsX00, w.before args s = true := fun w h => hts w (List.mem_cons_of_mem _ (List.mem_append_right _ h))
  have k56 := hts (.fieldLink RX0 56 "PauseLedger$Dinner" "unsaidInPauses" "I") (by decide +kernel)
  refine lv_aload_n hx hb dX0_sumUnsaid_0 rfl (lv_at hl 0 rfl) ?_
  refine wCVi (pre := ([] : va_W)) (Wc := DC cI a f r) (suf := ([] : va_W)) (As := []) (rest := []) ⟨hx, hb, hml, hown, hts⟩ (mX0_sumUnsaidByGuests l D cI a f r g _ hg hg2) hN hA hK hS hP hD rfl 0 (r := (RX0, TX0, 17)) rfl rfl (cwV 0 hts gX0_sumUnsaid_X0_sumUnsaidByGuests rfl rfl rfl (by decide +kernel) ⟨Nat.le_of_ble_eq_true rfl, Nat.le_of_ble_eq_true rfl⟩) rfl hl.1 rfl (Nat.le_of_ble_eq_true rfl) dX0_sumUnsaid_1 ⟨Nat.zero_le _, Nat.zero_le _⟩ (fun r_1 u_1 H locs hw hP hD hS => ?_)
  have hw : r_1 = dSum (r 3) g := hw
  subst hw
  have hP : va_P D vwCl (DC cI a f r) H := hP
  have hD : va_D A (DC cI a f r) := hD
  refine lv_aload_n hx hb dX0_sumUnsaid_4 rfl (lv_at hl 0 rfl) ?_
  refine va_get (D := D) (ci := 0) (v := .int (f 6)) (C := RX0) (T := TX0) (N := 17) hx hb hw0 (fun _ h => h) hown hK hP 0 rfl rfl 6 (by decide) k56 (fun _ h9 => h9) rfl dX0_sumUnsaid_5 ?_
  refine lv_iadd hx hb dX0_sumUnsaid_8 ?_
  exact wRi hQ hx hb hr hlocks hP hD hS dX0_sumUnsaid_9 () (rfl) rfl
abbrev rmX0_rate : Room := { frames := 2, cells := 0, slots := 0, locals := 42 }
set_option maxRecDepth 100000 in
set_option maxHeartbeats 4000000 in
/-- rate -/
theorem mX0_rate (l : Launch) (D : va_G) (cI : ClassId) (a : Nat → Nat) (f : Nat → Int32) (r : Nat → Nat → Int32) (g : Nat) (sz : Nat) (hg : f 0 = nI g) (hg2 : g ≤ 10) (hg0 : 0 < g) : wCt l yX0_rate wsX0_rate rmX0_rate D [(cI, .int)] [.ref (a 0)] (DC cI a f r) sz 0 0 (wQi D (fun v (_ : Unit) => v = dRate (f 0) (f 6) (r 3) g) (fun _ : Unit => DC cI a f r)) := by
  refine wMet cX0_rate 2 (some .int) (by decide) rfl (Nat.le_of_ble_eq_true rfl) ?_
  intro p e s m args below meth c A Q ls hQ hx hb hr hml hown hlocks hin hts hN hP hK hD hA hS hl
  have hl : lv_has ls 2 [(0, .ref (a 0))] := hl
  have hown : s.vm.findClass RX0 = some m.cls := hown
  have hw0 : ∀ w ∈ wsX00, w.before args s = true := fun w h => hts w (List.mem_cons_of_mem _ (List.mem_append_right _ h))
  have k41 := hts (.fieldLink RX0 41 "PauseLedger$Dinner" "guests" "I") (by decide +kernel)
  refine lv_aload_n hx hb dX0_rate_0 rfl (lv_at hl 0 rfl) ?_
  refine va_get (D := D) (ci := 0) (v := .int (f 0)) (C := RX0) (T := TX0) (N := 17) hx hb hw0 (fun _ h => h) hown hK hP 0 rfl rfl 0 (by decide) k41 (fun _ h9 => h9) rfl dX0_rate_1 ?_
  refine lv_if_le (tgt := 19) hx hb dX0_rate_4 (by decide) (fun h9 => absurd h9 (by rw [hg]; exact nI_nle hg0 (by omega))) (fun c_4 => ?_)
  refine lv_aload_n hx hb dX0_rate_7 rfl (lv_at hl 0 rfl) ?_
  refine wCVi (pre := ([] : va_W)) (Wc := DC cI a f r) (suf := ([] : va_W)) (As := []) (rest := []) ⟨hx, hb, hml, hown, hts⟩ (mX0_sumUnsaid l D cI a f r g _ hg hg2) hN hA hK hS hP hD rfl 0 (r := (RX0, TX0, 17)) rfl rfl (cwV 0 hts gX0_rate_X0_sumUnsaid rfl rfl rfl (by decide +kernel) ⟨Nat.le_of_ble_eq_true rfl, Nat.le_of_ble_eq_true rfl⟩) rfl hl.1 rfl (Nat.le_of_ble_eq_true rfl) dX0_rate_8 ⟨Nat.zero_le _, Nat.zero_le _⟩ (fun r_8 u_8 H locs hw hP hD hS => ?_)
  have hw : r_8 = dSum (r 3) g + f 6 := hw
  subst hw
  have hP : va_P D vwCl (DC cI a f r) H := hP
  have hD : va_D A (DC cI a f r) := hD
  refine lv_aload_n hx hb dX0_rate_11 rfl (lv_at hl 0 rfl) ?_
  refine va_get (D := D) (ci := 0) (v := .int (f 0)) (C := RX0) (T := TX0) (N := 17) hx hb hw0 (fun _ h => h) hown hK hP 0 rfl rfl 0 (by decide) k41 (fun _ h9 => h9) rfl dX0_rate_12 ?_
  refine lv_idiv hx hb dX0_rate_15 (by rw [hg]; exact nI_ne0 hg0 (by omega)) ?_
  refine lv_goto (tgt := 20) hx hb dX0_rate_16 (by decide) ?_
  refine lv_istore_n (lv' := [(1, .int ((dSum (r 3) g + f 6) / (f 0))), (0, .ref (a 0))]) hx hb dX0_rate_20 rfl hl (by decide) rfl (fun ls hl => ?_)
  refine lv_iconst (v := 0) hx hb dX0_rate_21 (by decide) ?_
  refine lv_bipush (v := 10) hx hb dX0_rate_22 (by decide) ?_
  refine lv_iload_n hx hb dX0_rate_24 rfl (lv_at hl 0 rfl) ?_
  refine lv_iconst (v := 4) hx hb dX0_rate_25 (by decide) ?_
  refine lv_isub hx hb dX0_rate_26 ?_
  refine va_mabs hx hb (hml.trans hl.1.symm) hown (hts (.methodLink RX0 114 Lib.Math.abs.name) (by decide +kernel)) (hts (.static Lib.Math.abs.name) (by decide +kernel)) (hts (.initialized "java/lang/Math") (by decide +kernel)) (hts (.code Lib.Math.abs.name Lib.Math.abs.code 1 (some .int)) (by decide +kernel)) (Nat.le_of_ble_eq_true rfl) (Nat.le_of_ble_eq_true rfl) (Nat.zero_le _) (Nat.zero_le _) dX0_rate_27 ?_
  refine lv_isub hx hb dX0_rate_30 ?_
  refine va_mmax hx hb (hml.trans hl.1.symm) hown (hts (.methodLink RX0 135 Lib.Math.max.name) (by decide +kernel)) (hts (.static Lib.Math.max.name) (by decide +kernel)) (hts (.initialized "java/lang/Math") (by decide +kernel)) (hts (.code Lib.Math.max.name Lib.Math.max.code 2 (some .int)) (by decide +kernel)) (Nat.le_of_ble_eq_true rfl) (Nat.le_of_ble_eq_true rfl) (Nat.zero_le _) (Nat.zero_le _) dX0_rate_31 ?_
  exact wRi hQ hx hb hr hlocks hP hD hS dX0_rate_34 () (rfl) rfl
end
section
abbrev rmX0_letSpeak : Room := { frames := 0, cells := 0, slots := 0, locals := 0 }
set_option maxRecDepth 100000 in
set_option maxHeartbeats 4000000 in
/-- letSpeak -/
theorem mX0_letSpeak (l : Launch) (D : va_G) (cI : ClassId) (a : Nat → Nat) (f : Nat → Int32) (r : Nat → Nat → Int32) (x : Nat) (secs : Int32) (sz : Nat) (ux : x < 10) : wCt l yX0_letSpeak wsX0_letSpeak rmX0_letSpeak D [(cI, .int)] [.ref (a 0), .int (nI x), .int secs] (DC cI a f r) sz 0 0 (wQi D (fun v (u : dS) => v = dInt f x ∧ u = dSpeak f r x secs) (fun u : dS => DCs cI a u)) := by
  refine wMet cX0_letSpeak 4 (some .int) (by decide) rfl (Nat.le_of_ble_eq_true rfl) ?_
  intro p e s m args below meth c A Q ls hQ hx hb hr hml hown hlocks hin hts hN hP hK hD hA hS hl
  have hl : lv_has ls 4 [(0, .ref (a 0)), (1, .int (nI x)), (2, .int secs)] := hl
  have hown : s.vm.findClass RX0 = some m.cls := hown
  have hw0 : ∀ w ∈ wsX00, w.before args s = true := fun w h => hts w (List.mem_cons_of_mem _ (List.mem_append_right _ h))
  have k15 := hts (.fieldLink RX0 15 "PauseLedger$Dinner" "interruptions" "[I") (by decide +kernel)
  have k47 := hts (.fieldLink RX0 47 "PauseLedger$Dinner" "speaker" "I") (by decide +kernel)
  have k50 := hts (.fieldLink RX0 50 "PauseLedger$Dinner" "toSpeak" "I") (by decide +kernel)
  refine lv_aload_n hx hb dX0_letSpeak_0 rfl (lv_at hl 0 rfl) ?_
  refine va_get (D := D) (ci := 0) (v := .int (f 3)) (C := RX0) (T := TX0) (N := 17) hx hb hw0 (fun _ h => h) hown hK hP 0 rfl rfl 3 (by decide) k47 (fun _ h9 => h9) rfl dX0_letSpeak_1 ?_
  refine lv_iload_n hx hb dX0_letSpeak_4 rfl (lv_at hl 1 rfl) ?_
  refine lv_icmp_ne (tgt := 12) hx hb dX0_letSpeak_5 (by decide) (fun c_5 => ?_) (fun c_5 => ?_)
  · refine lv_aload_n hx hb dX0_letSpeak_12 rfl (lv_at hl 0 rfl) ?_
    refine va_get (D := D) (ci := 0) (v := .int (f 3)) (C := RX0) (T := TX0) (N := 17) hx hb hw0 (fun _ h => h) hown hK hP 0 rfl rfl 3 (by decide) k47 (fun _ h9 => h9) rfl dX0_letSpeak_13 ?_
    refine lv_istore_n (lv' := [(3, .int (f 3)), (0, .ref (a 0)), (1, .int (nI x)), (2, .int secs)]) hx hb dX0_letSpeak_16 rfl hl (by decide) rfl (fun ls hl => ?_)
    refine lv_iload_n hx hb dX0_letSpeak_17 rfl (lv_at hl 0 rfl) ?_
    refine lv_iconst (v := (-1)) hx hb dX0_letSpeak_18 (by decide) ?_
    refine lv_icmp_eq (tgt := 32) hx hb dX0_letSpeak_19 (by decide) (fun c_19 => ?_) (fun c_19 => ?_)
    · refine lv_aload_n hx hb dX0_letSpeak_32 rfl (lv_at hl 1 rfl) ?_
      refine lv_iload_n hx hb dX0_letSpeak_33 rfl (lv_at hl 2 rfl) ?_
      refine va_put (D := D) (ci := 0) (v := .int (nI x)) (ty := .int) (C := RX0) (T := TX0) (N := 17) hx hb hw0 (fun _ h => h) tyX0 tyX0_ok nmX0 hown hK hP hD hS 0 rfl rfl 3 (by decide) k47 (fun _ h9 => h9) rfl (by decide +kernel) rfl rfl (Nat.le_of_ble_eq_true rfl) dX0_letSpeak_34 (fun H locs hP hD hS => ?_)
      have hP : va_P D vwCl (DC cI a (upd f 3 (nI x)) r) H := hP
      have hD : va_D A (DC cI a (upd f 3 (nI x)) r) := hD
      refine lv_aload_n hx hb dX0_letSpeak_37 rfl (lv_at hl 1 rfl) ?_
      refine lv_iload_n hx hb dX0_letSpeak_38 rfl (lv_at hl 3 rfl) ?_
      refine va_put (D := D) (ci := 0) (v := .int secs) (ty := .int) (C := RX0) (T := TX0) (N := 17) hx hb hw0 (fun _ h => h) tyX0 tyX0_ok nmX0 hown hK hP hD hS 0 rfl rfl 4 (by decide) k50 (fun _ h9 => h9) rfl (by decide +kernel) rfl rfl (Nat.le_of_ble_eq_true rfl) dX0_letSpeak_39 (fun H locs hP hD hS => ?_)
      have hP : va_P D vwCl (DC cI a (upd (upd f 3 (nI x)) 4 secs) r) H := hP
      have hD : va_D A (DC cI a (upd (upd f 3 (nI x)) 4 secs) r) := hD
      refine lv_iload_n hx hb dX0_letSpeak_42 rfl (lv_at hl 0 rfl) ?_
      exact wRi hQ hx hb hr hlocks hP hD hS dX0_letSpeak_43 ((upd (upd f 3 (nI x)) 4 secs), r) (by simp only [dInt, dSpeak, ↓reduceIte, if_neg c_5, if_pos c_19, and_self]) rfl
    · refine lv_aload_n hx hb dX0_letSpeak_22 rfl (lv_at hl 1 rfl) ?_
      refine va_get (D := D) (ci := 0) (v := .ref (a 2)) (C := RX0) (T := TX0) (N := 17) hx hb hw0 (fun _ h => h) hown hK hP 0 rfl rfl 11 (by decide) k15 (fun _ h9 => h9) rfl dX0_letSpeak_23 ?_
      refine lv_iload_n hx hb dX0_letSpeak_26 rfl (lv_at hl 2 rfl) ?_
      refine lv_dup2_11 hx hb dX0_letSpeak_27 rfl rfl ?_
      refine wIald hx hb hK hP 2 0 rfl rfl x rfl (by omega) (by decide) dX0_letSpeak_28 ?_
      refine lv_iconst (v := 1) hx hb dX0_letSpeak_29 (by decide) ?_
      refine lv_iadd hx hb dX0_letSpeak_30 ?_
      refine wIast hx hb hK hP hD hS 2 0 rfl rfl x rfl (by omega) (by decide) dX0_letSpeak_31 (fun H locs hP hD hS => ?_)
      have hP : va_P D vwCl (DC cI a f (va_up r 1 (upd (r 1) x (((r 1) x) + 1)))) H := hP
      have hD : va_D A (DC cI a f (va_up r 1 (upd (r 1) x (((r 1) x) + 1)))) := hD
      refine lv_aload_n hx hb dX0_letSpeak_32 rfl (lv_at hl 1 rfl) ?_
      refine lv_iload_n hx hb dX0_letSpeak_33 rfl (lv_at hl 2 rfl) ?_
      refine va_put (D := D) (ci := 0) (v := .int (nI x)) (ty := .int) (C := RX0) (T := TX0) (N := 17) hx hb hw0 (fun _ h => h) tyX0 tyX0_ok nmX0 hown hK hP hD hS 0 rfl rfl 3 (by decide) k47 (fun _ h9 => h9) rfl (by decide +kernel) rfl rfl (Nat.le_of_ble_eq_true rfl) dX0_letSpeak_34 (fun H locs hP hD hS => ?_)
      have hP : va_P D vwCl (DC cI a (upd f 3 (nI x)) (va_up r 1 (upd (r 1) x (((r 1) x) + 1)))) H := hP
      have hD : va_D A (DC cI a (upd f 3 (nI x)) (va_up r 1 (upd (r 1) x (((r 1) x) + 1)))) := hD
      refine lv_aload_n hx hb dX0_letSpeak_37 rfl (lv_at hl 1 rfl) ?_
      refine lv_iload_n hx hb dX0_letSpeak_38 rfl (lv_at hl 3 rfl) ?_
      refine va_put (D := D) (ci := 0) (v := .int secs) (ty := .int) (C := RX0) (T := TX0) (N := 17) hx hb hw0 (fun _ h => h) tyX0 tyX0_ok nmX0 hown hK hP hD hS 0 rfl rfl 4 (by decide) k50 (fun _ h9 => h9) rfl (by decide +kernel) rfl rfl (Nat.le_of_ble_eq_true rfl) dX0_letSpeak_39 (fun H locs hP hD hS => ?_)
      have hP : va_P D vwCl (DC cI a (upd (upd f 3 (nI x)) 4 secs) (va_up r 1 (upd (r 1) x (((r 1) x) + 1)))) H := hP
      have hD : va_D A (DC cI a (upd (upd f 3 (nI x)) 4 secs) (va_up r 1 (upd (r 1) x (((r 1) x) + 1)))) := hD
      refine lv_iload_n hx hb dX0_letSpeak_42 rfl (lv_at hl 0 rfl) ?_
      exact wRi hQ hx hb hr hlocks hP hD hS dX0_letSpeak_43 ((upd (upd f 3 (nI x)) 4 secs), (va_up r 1 (upd (r 1) x (((r 1) x) + 1)))) (by simp only [dInt, dSpeak, ↓reduceIte, if_neg c_5, if_neg c_19, and_self]) rfl
  · refine lv_iconst (v := (-1)) hx hb dX0_letSpeak_8 (by decide) ?_
    refine lv_goto (tgt := 16) hx hb dX0_letSpeak_9 (by decide) ?_
    refine lv_istore_n (lv' := [(3, .int (-1)), (0, .ref (a 0)), (1, .int (nI x)), (2, .int secs)]) hx hb dX0_letSpeak_16 rfl hl (by decide) rfl (fun ls hl => ?_)
    refine lv_iload_n hx hb dX0_letSpeak_17 rfl (lv_at hl 0 rfl) ?_
    refine lv_iconst (v := (-1)) hx hb dX0_letSpeak_18 (by decide) ?_
    refine lv_icmp_eq (tgt := 32) hx hb dX0_letSpeak_19 (by decide) (fun c_19 => ?_) (fun h9 => absurd (by decide) h9)
    refine lv_aload_n hx hb dX0_letSpeak_32 rfl (lv_at hl 1 rfl) ?_
    refine lv_iload_n hx hb dX0_letSpeak_33 rfl (lv_at hl 2 rfl) ?_
    refine va_put (D := D) (ci := 0) (v := .int (nI x)) (ty := .int) (C := RX0) (T := TX0) (N := 17) hx hb hw0 (fun _ h => h) tyX0 tyX0_ok nmX0 hown hK hP hD hS 0 rfl rfl 3 (by decide) k47 (fun _ h9 => h9) rfl (by decide +kernel) rfl rfl (Nat.le_of_ble_eq_true rfl) dX0_letSpeak_34 (fun H locs hP hD hS => ?_)
    have hP : va_P D vwCl (DC cI a (upd f 3 (nI x)) r) H := hP
    have hD : va_D A (DC cI a (upd f 3 (nI x)) r) := hD
    refine lv_aload_n hx hb dX0_letSpeak_37 rfl (lv_at hl 1 rfl) ?_
    refine lv_iload_n hx hb dX0_letSpeak_38 rfl (lv_at hl 3 rfl) ?_
    refine va_put (D := D) (ci := 0) (v := .int secs) (ty := .int) (C := RX0) (T := TX0) (N := 17) hx hb hw0 (fun _ h => h) tyX0 tyX0_ok nmX0 hown hK hP hD hS 0 rfl rfl 4 (by decide) k50 (fun _ h9 => h9) rfl (by decide +kernel) rfl rfl (Nat.le_of_ble_eq_true rfl) dX0_letSpeak_39 (fun H locs hP hD hS => ?_)
    have hP : va_P D vwCl (DC cI a (upd (upd f 3 (nI x)) 4 secs) r) H := hP
    have hD : va_D A (DC cI a (upd (upd f 3 (nI x)) 4 secs) r) := hD
    refine lv_iload_n hx hb dX0_letSpeak_42 rfl (lv_at hl 0 rfl) ?_
    exact wRi hQ hx hb hr hlocks hP hD hS dX0_letSpeak_43 ((upd (upd f 3 (nI x)) 4 secs), r) (by simp only [dInt, dSpeak, ↓reduceIte, if_pos c_5, if_pos c_19, and_self]) rfl
abbrev rmX0_letCough : Room := { frames := 1, cells := 0, slots := 0, locals := 22 }
set_option maxRecDepth 100000 in
set_option maxHeartbeats 4000000 in
/-- letCough -/
theorem mX0_letCough (l : Launch) (D : va_G) (cI : ClassId) (a : Nat → Nat) (f : Nat → Int32) (r : Nat → Nat → Int32) (x : Nat) (wt : Int32) (sz : Nat) (ux : x < 10) : wCt l yX0_letCough wsX0_letCough rmX0_letCough D [(cI, .int)] [.ref (a 0), .int (nI x), .int wt] (DC cI a f r) sz 0 0 (wQi D (fun v (u : dS) => v = dCough f (nI x) wt ∧ u = dLetCough f r x wt) (fun u : dS => DCs cI a u)) := by
  refine wMet cX0_letCough 4 (some .int) (by decide) rfl (Nat.le_of_ble_eq_true rfl) ?_
  intro p e s m args below meth c A Q ls hQ hx hb hr hml hown hlocks hin hts hN hP hK hD hA hS hl
  have hl : lv_has ls 4 [(0, .ref (a 0)), (1, .int (nI x)), (2, .int wt)] := hl
  have hown : s.vm.findClass RX0 = some m.cls := hown
  have hw0 : ∀ w ∈ wsX00, w.before args s = true := fun w h => hts w (List.mem_cons_of_mem _ (List.mem_append_right _ h))
  have k18 := hts (.fieldLink RX0 18 "PauseLedger$Dinner" "coughs" "[I") (by decide +kernel)
  have k21 := hts (.fieldLink RX0 21 "PauseLedger$Dinner" "unsaid" "[I") (by decide +kernel)
  refine lv_aload_n hx hb dX0_letCough_0 rfl (lv_at hl 0 rfl) ?_
  refine lv_iload_n hx hb dX0_letCough_1 rfl (lv_at hl 1 rfl) ?_
  refine lv_iload_n hx hb dX0_letCough_2 rfl (lv_at hl 2 rfl) ?_
  refine wCVi (pre := ([] : va_W)) (Wc := DC cI a f r) (suf := ([] : va_W)) (As := [.int (nI x), .int wt]) (rest := []) ⟨hx, hb, hml, hown, hts⟩ (mX0_unsaidByCough l D cI a f r (nI x) wt _) hN hA hK hS hP hD rfl 0 (r := (RX0, TX0, 17)) rfl rfl (cwV 2 hts gX0_letCough_X0_unsaidByCough rfl rfl rfl (by decide +kernel) ⟨Nat.le_of_ble_eq_true rfl, Nat.le_of_ble_eq_true rfl⟩) rfl hl.1 rfl (Nat.le_of_ble_eq_true rfl) dX0_letCough_3 ⟨Nat.zero_le _, Nat.zero_le _⟩ (fun r_3 u_3 H locs hw hP hD hS => ?_)
  have hw : r_3 = dCough f (nI x) wt := hw
  subst hw
  have hP : va_P D vwCl (DC cI a f r) H := hP
  have hD : va_D A (DC cI a f r) := hD
  refine lv_istore_n (lv' := [(3, .int (dCough f (nI x) wt)), (0, .ref (a 0)), (1, .int (nI x)), (2, .int wt)]) hx hb dX0_letCough_6 rfl hl (by decide) rfl (fun ls hl => ?_)
  refine lv_aload_n hx hb dX0_letCough_7 rfl (lv_at hl 1 rfl) ?_
  refine va_get (D := D) (ci := 0) (v := .ref (a 3)) (C := RX0) (T := TX0) (N := 17) hx hb hw0 (fun _ h => h) hown hK hP 0 rfl rfl 12 (by decide) k18 (fun _ h9 => h9) rfl dX0_letCough_8 ?_
  refine lv_iload_n hx hb dX0_letCough_11 rfl (lv_at hl 2 rfl) ?_
  refine lv_dup2_11 hx hb dX0_letCough_12 rfl rfl ?_
  refine wIald hx hb hK hP 3 0 rfl rfl x rfl (by omega) (by decide) dX0_letCough_13 ?_
  refine lv_iconst (v := 1) hx hb dX0_letCough_14 (by decide) ?_
  refine lv_iadd hx hb dX0_letCough_15 ?_
  refine wIast hx hb hK hP hD hS 3 0 rfl rfl x rfl (by omega) (by decide) dX0_letCough_16 (fun H locs hP hD hS => ?_)
  have hP : va_P D vwCl (DC cI a f (va_up r 2 (upd (r 2) x (((r 2) x) + 1)))) H := hP
  have hD : va_D A (DC cI a f (va_up r 2 (upd (r 2) x (((r 2) x) + 1)))) := hD
  refine lv_aload_n hx hb dX0_letCough_17 rfl (lv_at hl 1 rfl) ?_
  refine va_get (D := D) (ci := 0) (v := .ref (a 4)) (C := RX0) (T := TX0) (N := 17) hx hb hw0 (fun _ h => h) hown hK hP 0 rfl rfl 13 (by decide) k21 (fun _ h9 => h9) rfl dX0_letCough_18 ?_
  refine lv_iload_n hx hb dX0_letCough_21 rfl (lv_at hl 2 rfl) ?_
  refine lv_dup2_11 hx hb dX0_letCough_22 rfl rfl ?_
  refine wIald hx hb hK hP 4 0 rfl rfl x rfl (by omega) (by decide) dX0_letCough_23 ?_
  refine lv_iload_n hx hb dX0_letCough_24 rfl (lv_at hl 0 rfl) ?_
  refine lv_iadd hx hb dX0_letCough_25 ?_
  refine wIast hx hb hK hP hD hS 4 0 rfl rfl x rfl (by omega) (by decide) dX0_letCough_26 (fun H locs hP hD hS => ?_)
  have hP : va_P D vwCl (DC cI a f (va_up (va_up r 2 (upd (r 2) x (((r 2) x) + 1))) 3 (upd (r 3) x (((r 3) x) + (dCough f (nI x) wt))))) H := hP
  have hD : va_D A (DC cI a f (va_up (va_up r 2 (upd (r 2) x (((r 2) x) + 1))) 3 (upd (r 3) x (((r 3) x) + (dCough f (nI x) wt))))) := hD
  refine lv_iload_n hx hb dX0_letCough_27 rfl (lv_at hl 0 rfl) ?_
  exact wRi hQ hx hb hr hlocks hP hD hS dX0_letCough_28 (f, (va_up (va_up r 2 (upd (r 2) x (((r 2) x) + 1))) 3 (upd (r 3) x (((r 3) x) + (dCough f (nI x) wt))))) (⟨rfl, rfl⟩) rfl
abbrev rmX0_send : Room := { frames := 3, cells := 0, slots := 0, locals := 66 }
set_option maxRecDepth 100000 in
set_option maxHeartbeats 4000000 in
/-- send -/
theorem mX0_send (l : Launch) (D : va_G) (cI : ClassId) (a : Nat → Nat) (f : Nat → Int32) (r : Nat → Nat → Int32) (x y n : Nat) (sz : Nat) (ux : x < 10) (uy : y < 10) (hn : f 9 = nI n) (hn1 : n < 100) : wCt l yX0_send wsX0_send rmX0_send D [(cI, .int)] [.ref (a 0), .int (nI x), .int (nI y)] (DC cI a f r) sz 0 0 (wQi D (fun v (u : dS) => v = 2 * dSeats (f 0) (nI x) (nI y) ∧ u = dSend f r x y n) (fun u : dS => DCs cI a u)) := by
  refine wMet cX0_send 4 (some .int) (by decide) rfl (Nat.le_of_ble_eq_true rfl) ?_
  intro p e s m args below meth c A Q ls hQ hx hb hr hml hown hlocks hin hts hN hP hK hD hA hS hl
  have hl : lv_has ls 4 [(0, .ref (a 0)), (1, .int (nI x)), (2, .int (nI y))] := hl
  have hown : s.vm.findClass RX0 = some m.cls := hown
  have hw0 : ∀ w ∈ wsX00, w.before args s = true := fun w h => hts w (List.mem_cons_of_mem _ (List.mem_append_right _ h))
  have k24 := hts (.fieldLink RX0 24 "PauseLedger$Dinner" "toGo" "[I") (by decide +kernel)
  have k30 := hts (.fieldLink RX0 30 "PauseLedger$Dinner" "order" "[I") (by decide +kernel)
  have k65 := hts (.fieldLink RX0 65 "PauseLedger$Dinner" "sent" "I") (by decide +kernel)
  refine lv_iload_n hx hb dX0_send_0 rfl (lv_at hl 1 rfl) ?_
  refine lv_iload_n hx hb dX0_send_1 rfl (lv_at hl 2 rfl) ?_
  refine wCNi (pre := ([] : va_W)) (Wc := ([] : va_W)) (suf := DC cI a f r) (As := [.int (nI x), .int (nI y)]) (rest := []) ⟨hx, hb, hml, hown, hts⟩ (mX1_pairOf l D cI x y _) hN hA hK hS hP hD rfl (⟨va_cnB 2 hts gX0_send_X1_pairOf_n84 rfl rfl rfl hN.1 (hts (.initialized RX1) (by decide +kernel)) (by decide +kernel) ⟨Nat.le_of_ble_eq_true rfl, Nat.le_of_ble_eq_true rfl⟩, hts (.static yX1_pairOf) (by decide +kernel), trivial⟩) rfl hl.1 rfl (Nat.le_of_ble_eq_true rfl) dX0_send_2 ⟨Nat.zero_le _, Nat.zero_le _⟩ (fun r_2 u_2 H locs hw hP hD hS => ?_)
  have hw : r_2 = nI (x * 10 + y) := hw
  subst hw
  have hP : va_P D vwCl (DC cI a f r) H := hP
  have hD : va_D A (DC cI a f r) := hD
  refine lv_istore_n (lv' := [(3, .int (nI (x * 10 + y))), (0, .ref (a 0)), (1, .int (nI x)), (2, .int (nI y))]) hx hb dX0_send_5 rfl hl (by decide) rfl (fun ls hl => ?_)
  refine lv_aload_n hx hb dX0_send_6 rfl (lv_at hl 1 rfl) ?_
  refine va_get (D := D) (ci := 0) (v := .int (f 9)) (C := RX0) (T := TX0) (N := 17) hx hb hw0 (fun _ h => h) hown hK hP 0 rfl rfl 9 (by decide) k65 (fun _ h9 => h9) rfl dX0_send_7 ?_
  refine lv_aload_n hx hb dX0_send_10 rfl (lv_at hl 1 rfl) ?_
  refine va_get (D := D) (ci := 0) (v := .ref (a 7)) (C := RX0) (T := TX0) (N := 17) hx hb hw0 (fun _ h => h) hown hK hP 0 rfl rfl 16 (by decide) k30 (fun _ h9 => h9) rfl dX0_send_11 ?_
  refine va_alen (v := 100) hx hb hK hP 7 0 rfl rfl rfl dX0_send_14 ?_
  refine lv_icmp_ge (tgt := 50) hx hb dX0_send_15 (by decide) (fun h9 => absurd h9 (by rw [hn]; exact nI_ge (b := 100) hn1 (by decide))) (fun c_15 => ?_)
  refine lv_aload_n hx hb dX0_send_18 rfl (lv_at hl 1 rfl) ?_
  refine va_get (D := D) (ci := 0) (v := .ref (a 7)) (C := RX0) (T := TX0) (N := 17) hx hb hw0 (fun _ h => h) hown hK hP 0 rfl rfl 16 (by decide) k30 (fun _ h9 => h9) rfl dX0_send_19 ?_
  refine lv_aload_n hx hb dX0_send_22 rfl (lv_at hl 1 rfl) ?_
  refine va_get (D := D) (ci := 0) (v := .int (f 9)) (C := RX0) (T := TX0) (N := 17) hx hb hw0 (fun _ h => h) hown hK hP 0 rfl rfl 9 (by decide) k65 (fun _ h9 => h9) rfl dX0_send_23 ?_
  refine lv_iload_n hx hb dX0_send_26 rfl (lv_at hl 0 rfl) ?_
  refine wIast hx hb hK hP hD hS 7 0 rfl rfl n hn hn1 (by decide) dX0_send_27 (fun H locs hP hD hS => ?_)
  have hP : va_P D vwCl (DC cI a f (va_up r 6 (upd (r 6) n (nI (x * 10 + y))))) H := hP
  have hD : va_D A (DC cI a f (va_up r 6 (upd (r 6) n (nI (x * 10 + y))))) := hD
  refine lv_aload_n hx hb dX0_send_28 rfl (lv_at hl 1 rfl) ?_
  refine lv_dup hx hb dX0_send_29 rfl ?_
  refine va_get (D := D) (ci := 0) (v := .int (f 9)) (C := RX0) (T := TX0) (N := 17) hx hb hw0 (fun _ h => h) hown hK hP 0 rfl rfl 9 (by decide) k65 (fun _ h9 => h9) rfl dX0_send_30 ?_
  refine lv_iconst (v := 1) hx hb dX0_send_33 (by decide) ?_
  refine lv_iadd hx hb dX0_send_34 ?_
  refine va_put (D := D) (ci := 0) (v := .int ((f 9) + 1)) (ty := .int) (C := RX0) (T := TX0) (N := 17) hx hb hw0 (fun _ h => h) tyX0 tyX0_ok nmX0 hown hK hP hD hS 0 rfl rfl 9 (by decide) k65 (fun _ h9 => h9) rfl (by decide +kernel) rfl rfl (Nat.le_of_ble_eq_true rfl) dX0_send_35 (fun H locs hP hD hS => ?_)
  have hP : va_P D vwCl (DC cI a (upd f 9 ((f 9) + 1)) (va_up r 6 (upd (r 6) n (nI (x * 10 + y))))) H := hP
  have hD : va_D A (DC cI a (upd f 9 ((f 9) + 1)) (va_up r 6 (upd (r 6) n (nI (x * 10 + y))))) := hD
  refine lv_aload_n hx hb dX0_send_38 rfl (lv_at hl 1 rfl) ?_
  refine va_get (D := D) (ci := 0) (v := .ref (a 5)) (C := RX0) (T := TX0) (N := 17) hx hb hw0 (fun _ h => h) hown hK hP 0 rfl rfl 14 (by decide) k24 (fun _ h9 => h9) rfl dX0_send_39 ?_
  refine lv_iload_n hx hb dX0_send_42 rfl (lv_at hl 0 rfl) ?_
  refine lv_aload_n hx hb dX0_send_43 rfl (lv_at hl 1 rfl) ?_
  refine lv_iload_n hx hb dX0_send_44 rfl (lv_at hl 2 rfl) ?_
  refine lv_iload_n hx hb dX0_send_45 rfl (lv_at hl 3 rfl) ?_
  refine wCVi (pre := ([] : va_W)) (Wc := DC cI a (upd f 9 ((f 9) + 1)) (va_up r 6 (upd (r 6) n (nI (x * 10 + y))))) (suf := ([] : va_W)) (As := [.int (nI x), .int (nI y)]) (rest := [.int (nI (x * 10 + y)), .ref (a 5)]) ⟨hx, hb, hml, hown, hts⟩ (mX0_wayOf l D cI a (upd f 9 ((f 9) + 1)) (va_up r 6 (upd (r 6) n (nI (x * 10 + y)))) (nI x) (nI y) _) hN hA hK hS hP hD rfl 0 (r := (RX0, TX0, 17)) rfl rfl (cwV 2 hts gX0_send_X0_wayOf rfl rfl rfl (by decide +kernel) ⟨Nat.le_of_ble_eq_true rfl, Nat.le_of_ble_eq_true rfl⟩) rfl hl.1 rfl (Nat.le_of_ble_eq_true rfl) dX0_send_46 ⟨Nat.zero_le _, Nat.zero_le _⟩ (fun r_46 u_46 H locs hw hP hD hS => ?_)
  have hw : r_46 = 2 * dSeats (f 0) (nI x) (nI y) := hw
  subst hw
  have hP : va_P D vwCl (DC cI a (upd f 9 ((f 9) + 1)) (va_up r 6 (upd (r 6) n (nI (x * 10 + y))))) H := hP
  have hD : va_D A (DC cI a (upd f 9 ((f 9) + 1)) (va_up r 6 (upd (r 6) n (nI (x * 10 + y))))) := hD
  refine wIast hx hb hK hP hD hS 5 0 rfl rfl (x * 10 + y) rfl (by omega) (by decide) dX0_send_49 (fun H locs hP hD hS => ?_)
  have hP : va_P D vwCl (DC cI a (upd f 9 ((f 9) + 1)) (va_up (va_up r 4 (upd (r 4) (x * 10 + y) (2 * dSeats (f 0) (nI x) (nI y)))) 6 (upd (r 6) n (nI (x * 10 + y))))) H := hP
  have hD : va_D A (DC cI a (upd f 9 ((f 9) + 1)) (va_up (va_up r 4 (upd (r 4) (x * 10 + y) (2 * dSeats (f 0) (nI x) (nI y)))) 6 (upd (r 6) n (nI (x * 10 + y))))) := hD
  refine lv_aload_n hx hb dX0_send_50 rfl (lv_at hl 1 rfl) ?_
  refine lv_iload_n hx hb dX0_send_51 rfl (lv_at hl 2 rfl) ?_
  refine lv_iload_n hx hb dX0_send_52 rfl (lv_at hl 3 rfl) ?_
  refine wCVi (pre := ([] : va_W)) (Wc := DC cI a (upd f 9 ((f 9) + 1)) (va_up (va_up r 4 (upd (r 4) (x * 10 + y) (2 * dSeats (f 0) (nI x) (nI y)))) 6 (upd (r 6) n (nI (x * 10 + y))))) (suf := ([] : va_W)) (As := [.int (nI x), .int (nI y)]) (rest := []) ⟨hx, hb, hml, hown, hts⟩ (mX0_wayOf l D cI a (upd f 9 ((f 9) + 1)) (va_up (va_up r 4 (upd (r 4) (x * 10 + y) (2 * dSeats (f 0) (nI x) (nI y)))) 6 (upd (r 6) n (nI (x * 10 + y)))) (nI x) (nI y) _) hN hA hK hS hP hD rfl 0 (r := (RX0, TX0, 17)) rfl rfl (cwV 2 hts gX0_send_X0_wayOf rfl rfl rfl (by decide +kernel) ⟨Nat.le_of_ble_eq_true rfl, Nat.le_of_ble_eq_true rfl⟩) rfl hl.1 rfl (Nat.le_of_ble_eq_true rfl) dX0_send_53 ⟨Nat.zero_le _, Nat.zero_le _⟩ (fun r_53 u_53 H locs hw hP hD hS => ?_)
  have hw : r_53 = 2 * dSeats (f 0) (nI x) (nI y) := hw
  subst hw
  have hP : va_P D vwCl (DC cI a (upd f 9 ((f 9) + 1)) (va_up (va_up r 4 (upd (r 4) (x * 10 + y) (2 * dSeats (f 0) (nI x) (nI y)))) 6 (upd (r 6) n (nI (x * 10 + y))))) H := hP
  have hD : va_D A (DC cI a (upd f 9 ((f 9) + 1)) (va_up (va_up r 4 (upd (r 4) (x * 10 + y) (2 * dSeats (f 0) (nI x) (nI y)))) 6 (upd (r 6) n (nI (x * 10 + y))))) := hD
  exact wRi hQ hx hb hr hlocks hP hD hS dX0_send_56 ((upd f 9 ((f 9) + 1)), (va_up (va_up r 4 (upd (r 4) (x * 10 + y) (2 * dSeats (f 0) (nI x) (nI y)))) 6 (upd (r 6) n (nI (x * 10 + y))))) (⟨rfl, rfl⟩) rfl
abbrev rmX0_speakOrPause : Room := { frames := 1, cells := 0, slots := 0, locals := 21 }
set_option maxRecDepth 100000 in
set_option maxHeartbeats 4000000 in
/-- speakOrPause -/
theorem mX0_speakOrPause (l : Launch) (D : va_G) (cI : ClassId) (a : Nat → Nat) (f : Nat → Int32) (r : Nat → Nat → Int32) (sz : Nat) (hs : f 3 = -1 ∨ ∃ q, q < 10 ∧ f 3 = nI q) : wCt l yX0_speakOrPause wsX0_speakOrPause rmX0_speakOrPause D [(cI, .int)] [.ref (a 0)] (DC cI a f r) sz 0 0 (wQv D (fun u : dS => u = dTalk f r) (fun u : dS => DCs cI a u)) := by
  refine wMet cX0_speakOrPause 1 none (by decide) rfl (Nat.le_of_ble_eq_true rfl) ?_
  intro p e s m args below meth c A Q ls hQ hx hb hr hml hown hlocks hin hts hN hP hK hD hA hS hl
  have hl : lv_has ls 1 [(0, .ref (a 0))] := hl
  have hown : s.vm.findClass RX0 = some m.cls := hown
  have hw0 : ∀ w ∈ wsX00, w.before args s = true := fun w h => hts w (List.mem_cons_of_mem _ (List.mem_append_right _ h))
  have k9 := hts (.fieldLink RX0 9 "PauseLedger$Dinner" "spoken" "[I") (by decide +kernel)
  have k47 := hts (.fieldLink RX0 47 "PauseLedger$Dinner" "speaker" "I") (by decide +kernel)
  have k50 := hts (.fieldLink RX0 50 "PauseLedger$Dinner" "toSpeak" "I") (by decide +kernel)
  have k53 := hts (.fieldLink RX0 53 "PauseLedger$Dinner" "pause" "I") (by decide +kernel)
  have k56 := hts (.fieldLink RX0 56 "PauseLedger$Dinner" "unsaidInPauses" "I") (by decide +kernel)
  refine lv_aload_n hx hb dX0_speakOrPause_0 rfl (lv_at hl 0 rfl) ?_
  refine va_get (D := D) (ci := 0) (v := .int (f 3)) (C := RX0) (T := TX0) (N := 17) hx hb hw0 (fun _ h => h) hown hK hP 0 rfl rfl 3 (by decide) k47 (fun _ h9 => h9) rfl dX0_speakOrPause_1 ?_
  refine lv_iconst (v := (-1)) hx hb dX0_speakOrPause_4 (by decide) ?_
  refine lv_icmp_ne (tgt := 40) hx hb dX0_speakOrPause_5 (by decide) (fun c_5 => ?_) (fun c_5 => ?_)
  · obtain ⟨q, hq, eq⟩ := hs.resolve_left c_5
    have en : dN (f 3) = q := by rw [eq]; exact dN_nI (by omega)
    refine lv_aload_n hx hb dX0_speakOrPause_40 rfl (lv_at hl 0 rfl) ?_
    refine lv_iconst (v := 0) hx hb dX0_speakOrPause_41 (by decide) ?_
    refine va_put (D := D) (ci := 0) (v := .int 0) (ty := .int) (C := RX0) (T := TX0) (N := 17) hx hb hw0 (fun _ h => h) tyX0 tyX0_ok nmX0 hown hK hP hD hS 0 rfl rfl 5 (by decide) k53 (fun _ h9 => h9) rfl (by decide +kernel) rfl rfl (Nat.le_of_ble_eq_true rfl) dX0_speakOrPause_42 (fun H locs hP hD hS => ?_)
    have hP : va_P D vwCl (DC cI a (upd f 5 0) r) H := hP
    have hD : va_D A (DC cI a (upd f 5 0) r) := hD
    refine lv_aload_n hx hb dX0_speakOrPause_45 rfl (lv_at hl 0 rfl) ?_
    refine va_get (D := D) (ci := 0) (v := .ref (a 1)) (C := RX0) (T := TX0) (N := 17) hx hb hw0 (fun _ h => h) hown hK hP 0 rfl rfl 10 (by decide) k9 (fun _ h9 => h9) rfl dX0_speakOrPause_46 ?_
    refine lv_aload_n hx hb dX0_speakOrPause_49 rfl (lv_at hl 0 rfl) ?_
    refine va_get (D := D) (ci := 0) (v := .int (f 3)) (C := RX0) (T := TX0) (N := 17) hx hb hw0 (fun _ h => h) hown hK hP 0 rfl rfl 3 (by decide) k47 (fun _ h9 => h9) rfl dX0_speakOrPause_50 ?_
    refine lv_dup2_11 hx hb dX0_speakOrPause_53 rfl rfl ?_
    refine wIald hx hb hK hP 1 0 rfl rfl q eq hq (by decide) dX0_speakOrPause_54 ?_
    refine lv_iconst (v := 1) hx hb dX0_speakOrPause_55 (by decide) ?_
    refine lv_iadd hx hb dX0_speakOrPause_56 ?_
    refine wIast hx hb hK hP hD hS 1 0 rfl rfl q eq hq (by decide) dX0_speakOrPause_57 (fun H locs hP hD hS => ?_)
    have hP : va_P D vwCl (DC cI a (upd f 5 0) (va_up r 0 (upd (r 0) q (((r 0) q) + 1)))) H := hP
    have hD : va_D A (DC cI a (upd f 5 0) (va_up r 0 (upd (r 0) q (((r 0) q) + 1)))) := hD
    refine lv_aload_n hx hb dX0_speakOrPause_58 rfl (lv_at hl 0 rfl) ?_
    refine lv_dup hx hb dX0_speakOrPause_59 rfl ?_
    refine va_get (D := D) (ci := 0) (v := .int (f 4)) (C := RX0) (T := TX0) (N := 17) hx hb hw0 (fun _ h => h) hown hK hP 0 rfl rfl 4 (by decide) k50 (fun _ h9 => h9) rfl dX0_speakOrPause_60 ?_
    refine lv_iconst (v := 1) hx hb dX0_speakOrPause_63 (by decide) ?_
    refine lv_isub hx hb dX0_speakOrPause_64 ?_
    refine va_put (D := D) (ci := 0) (v := .int ((f 4) - 1)) (ty := .int) (C := RX0) (T := TX0) (N := 17) hx hb hw0 (fun _ h => h) tyX0 tyX0_ok nmX0 hown hK hP hD hS 0 rfl rfl 4 (by decide) k50 (fun _ h9 => h9) rfl (by decide +kernel) rfl rfl (Nat.le_of_ble_eq_true rfl) dX0_speakOrPause_65 (fun H locs hP hD hS => ?_)
    have hP : va_P D vwCl (DC cI a (upd (upd f 4 ((f 4) - 1)) 5 0) (va_up r 0 (upd (r 0) q (((r 0) q) + 1)))) H := hP
    have hD : va_D A (DC cI a (upd (upd f 4 ((f 4) - 1)) 5 0) (va_up r 0 (upd (r 0) q (((r 0) q) + 1)))) := hD
    refine lv_aload_n hx hb dX0_speakOrPause_68 rfl (lv_at hl 0 rfl) ?_
    refine va_get (D := D) (ci := 0) (v := .int ((f 4) - 1)) (C := RX0) (T := TX0) (N := 17) hx hb hw0 (fun _ h => h) hown hK hP 0 rfl rfl 4 (by decide) k50 (fun _ h9 => h9) rfl dX0_speakOrPause_69 ?_
    refine lv_if_ne (tgt := 80) hx hb dX0_speakOrPause_72 (by decide) (fun c_72 => ?_) (fun c_72 => ?_)
    · exact wRv hQ hx hb hr hlocks hP hD hS dX0_speakOrPause_80 ((upd (upd f 4 ((f 4) - 1)) 5 0), (va_up r 0 (upd (r 0) q (((r 0) q) + 1)))) (by simp only [dTalk, if_neg c_5, if_neg c_72, en]) rfl
    · refine lv_aload_n hx hb dX0_speakOrPause_75 rfl (lv_at hl 0 rfl) ?_
      refine lv_iconst (v := (-1)) hx hb dX0_speakOrPause_76 (by decide) ?_
      refine va_put (D := D) (ci := 0) (v := .int (-1)) (ty := .int) (C := RX0) (T := TX0) (N := 17) hx hb hw0 (fun _ h => h) tyX0 tyX0_ok nmX0 hown hK hP hD hS 0 rfl rfl 3 (by decide) k47 (fun _ h9 => h9) rfl (by decide +kernel) rfl rfl (Nat.le_of_ble_eq_true rfl) dX0_speakOrPause_77 (fun H locs hP hD hS => ?_)
      have hP : va_P D vwCl (DC cI a (upd (upd (upd f 3 (-1)) 4 ((f 4) - 1)) 5 0) (va_up r 0 (upd (r 0) q (((r 0) q) + 1)))) H := hP
      have hD : va_D A (DC cI a (upd (upd (upd f 3 (-1)) 4 ((f 4) - 1)) 5 0) (va_up r 0 (upd (r 0) q (((r 0) q) + 1)))) := hD
      exact wRv hQ hx hb hr hlocks hP hD hS dX0_speakOrPause_80 ((upd (upd (upd f 3 (-1)) 4 ((f 4) - 1)) 5 0), (va_up r 0 (upd (r 0) q (((r 0) q) + 1)))) (by simp only [dTalk, if_neg c_5, if_pos c_72, en]) rfl
  · refine lv_aload_n hx hb dX0_speakOrPause_8 rfl (lv_at hl 0 rfl) ?_
    refine lv_dup hx hb dX0_speakOrPause_9 rfl ?_
    refine va_get (D := D) (ci := 0) (v := .int (f 5)) (C := RX0) (T := TX0) (N := 17) hx hb hw0 (fun _ h => h) hown hK hP 0 rfl rfl 5 (by decide) k53 (fun _ h9 => h9) rfl dX0_speakOrPause_10 ?_
    refine lv_iconst (v := 1) hx hb dX0_speakOrPause_13 (by decide) ?_
    refine lv_iadd hx hb dX0_speakOrPause_14 ?_
    refine va_put (D := D) (ci := 0) (v := .int ((f 5) + 1)) (ty := .int) (C := RX0) (T := TX0) (N := 17) hx hb hw0 (fun _ h => h) tyX0 tyX0_ok nmX0 hown hK hP hD hS 0 rfl rfl 5 (by decide) k53 (fun _ h9 => h9) rfl (by decide +kernel) rfl rfl (Nat.le_of_ble_eq_true rfl) dX0_speakOrPause_15 (fun H locs hP hD hS => ?_)
    have hP : va_P D vwCl (DC cI a (upd f 5 ((f 5) + 1)) r) H := hP
    have hD : va_D A (DC cI a (upd f 5 ((f 5) + 1)) r) := hD
    refine lv_aload_n hx hb dX0_speakOrPause_18 rfl (lv_at hl 0 rfl) ?_
    refine lv_aload_n hx hb dX0_speakOrPause_19 rfl (lv_at hl 0 rfl) ?_
    refine va_get (D := D) (ci := 0) (v := .int ((f 5) + 1)) (C := RX0) (T := TX0) (N := 17) hx hb hw0 (fun _ h => h) hown hK hP 0 rfl rfl 5 (by decide) k53 (fun _ h9 => h9) rfl dX0_speakOrPause_20 ?_
    refine wCVi (pre := ([] : va_W)) (Wc := DC cI a (upd f 5 ((f 5) + 1)) r) (suf := ([] : va_W)) (As := [.int ((f 5) + 1)]) (rest := []) ⟨hx, hb, hml, hown, hts⟩ (mX0_beyondMultipleOfLimit l D cI a (upd f 5 ((f 5) + 1)) r ((f 5) + 1) _) hN hA hK hS hP hD rfl 0 (r := (RX0, TX0, 17)) rfl rfl (cwV 1 hts gX0_speakOrPause_X0_beyondMultipleOfLimit rfl rfl rfl (by decide +kernel) ⟨Nat.le_of_ble_eq_true rfl, Nat.le_of_ble_eq_true rfl⟩) rfl hl.1 rfl (Nat.le_of_ble_eq_true rfl) dX0_speakOrPause_23 ⟨Nat.zero_le _, Nat.zero_le _⟩ (fun r_23 u_23 H locs hw hP hD hS => ?_)
    have hw : r_23 = dBm (f 2) ((f 5) + 1) := hw
    subst hw
    have hP : va_P D vwCl (DC cI a (upd f 5 ((f 5) + 1)) r) H := hP
    have hD : va_D A (DC cI a (upd f 5 ((f 5) + 1)) r) := hD
    refine lv_if_ne (tgt := 39) hx hb dX0_speakOrPause_26 (by decide) (fun c_26 => ?_) (fun c_26 => ?_)
    · exact wRv hQ hx hb hr hlocks hP hD hS dX0_speakOrPause_39 ((upd f 5 ((f 5) + 1)), r) (by simp only [dTalk, if_pos c_5, if_neg c_26]) rfl
    · refine lv_aload_n hx hb dX0_speakOrPause_29 rfl (lv_at hl 0 rfl) ?_
      refine lv_dup hx hb dX0_speakOrPause_30 rfl ?_
      refine va_get (D := D) (ci := 0) (v := .int (f 6)) (C := RX0) (T := TX0) (N := 17) hx hb hw0 (fun _ h => h) hown hK hP 0 rfl rfl 6 (by decide) k56 (fun _ h9 => h9) rfl dX0_speakOrPause_31 ?_
      refine lv_iconst (v := 1) hx hb dX0_speakOrPause_34 (by decide) ?_
      refine lv_iadd hx hb dX0_speakOrPause_35 ?_
      refine va_put (D := D) (ci := 0) (v := .int ((f 6) + 1)) (ty := .int) (C := RX0) (T := TX0) (N := 17) hx hb hw0 (fun _ h => h) tyX0 tyX0_ok nmX0 hown hK hP hD hS 0 rfl rfl 6 (by decide) k56 (fun _ h9 => h9) rfl (by decide +kernel) rfl rfl (Nat.le_of_ble_eq_true rfl) dX0_speakOrPause_36 (fun H locs hP hD hS => ?_)
      have hP : va_P D vwCl (DC cI a (upd (upd f 5 ((f 5) + 1)) 6 ((f 6) + 1)) r) H := hP
      have hD : va_D A (DC cI a (upd (upd f 5 ((f 5) + 1)) 6 ((f 6) + 1)) r) := hD
      exact wRv hQ hx hb hr hlocks hP hD hS dX0_speakOrPause_39 ((upd (upd f 5 ((f 5) + 1)) 6 ((f 6) + 1)), r) (by simp only [dTalk, if_pos c_5, if_pos c_26]) rfl
abbrev rmX0_arrive : Room := { frames := 1, cells := 0, slots := 0, locals := 21 }
set_option maxRecDepth 100000 in
set_option maxHeartbeats 4000000 in
/-- arrive -/
theorem mX0_arrive (l : Launch) (D : va_G) (cI : ClassId) (a : Nat → Nat) (f : Nat → Int32) (r : Nat → Nat → Int32) (x y : Nat) (sz : Nat) (ux : x < 10) (uy : y < 10) : wCt l yX0_arrive wsX0_arrive rmX0_arrive D [(cI, .int)] [.ref (a 0), .int (nI x), .int (nI y)] (DC cI a f r) sz 0 0 (wQv D (fun u : dS => u = dArr f r x y) (fun u : dS => DCs cI a u)) := by
  refine wMet cX0_arrive 5 none (by decide) rfl (Nat.le_of_ble_eq_true rfl) ?_
  intro p e s m args below meth c A Q ls hQ hx hb hr hml hown hlocks hin hts hN hP hK hD hA hS hl
  have hl : lv_has ls 5 [(0, .ref (a 0)), (1, .int (nI x)), (2, .int (nI y))] := hl
  have hown : s.vm.findClass RX0 = some m.cls := hown
  have hw0 : ∀ w ∈ wsX00, w.before args s = true := fun w h => hts w (List.mem_cons_of_mem _ (List.mem_append_right _ h))
  have k21 := hts (.fieldLink RX0 21 "PauseLedger$Dinner" "unsaid" "[I") (by decide +kernel)
  have k24 := hts (.fieldLink RX0 24 "PauseLedger$Dinner" "toGo" "[I") (by decide +kernel)
  have k27 := hts (.fieldLink RX0 27 "PauseLedger$Dinner" "caught" "[I") (by decide +kernel)
  have k47 := hts (.fieldLink RX0 47 "PauseLedger$Dinner" "speaker" "I") (by decide +kernel)
  have k59 := hts (.fieldLink RX0 59 "PauseLedger$Dinner" "meetings" "I") (by decide +kernel)
  have k62 := hts (.fieldLink RX0 62 "PauseLedger$Dinner" "lost" "I") (by decide +kernel)
  refine lv_iload_n hx hb dX0_arrive_0 rfl (lv_at hl 1 rfl) ?_
  refine lv_iload_n hx hb dX0_arrive_1 rfl (lv_at hl 2 rfl) ?_
  refine wCNi (pre := ([] : va_W)) (Wc := ([] : va_W)) (suf := DC cI a f r) (As := [.int (nI x), .int (nI y)]) (rest := []) ⟨hx, hb, hml, hown, hts⟩ (mX1_pairOf l D cI x y _) hN hA hK hS hP hD rfl (⟨va_cnB 2 hts gX0_arrive_X1_pairOf_n84 rfl rfl rfl hN.1 (hts (.initialized RX1) (by decide +kernel)) (by decide +kernel) ⟨Nat.le_of_ble_eq_true rfl, Nat.le_of_ble_eq_true rfl⟩, hts (.static yX1_pairOf) (by decide +kernel), trivial⟩) rfl hl.1 rfl (Nat.le_of_ble_eq_true rfl) dX0_arrive_2 ⟨Nat.zero_le _, Nat.zero_le _⟩ (fun r_2 u_2 H locs hw hP hD hS => ?_)
  have hw : r_2 = nI (x * 10 + y) := hw
  subst hw
  have hP : va_P D vwCl (DC cI a f r) H := hP
  have hD : va_D A (DC cI a f r) := hD
  refine lv_istore_n (lv' := [(3, .int (nI (x * 10 + y))), (0, .ref (a 0)), (1, .int (nI x)), (2, .int (nI y))]) hx hb dX0_arrive_5 rfl hl (by decide) rfl (fun ls hl => ?_)
  refine lv_iload_n hx hb dX0_arrive_6 rfl (lv_at hl 3 rfl) ?_
  refine lv_iload_n hx hb dX0_arrive_7 rfl (lv_at hl 2 rfl) ?_
  refine wCNi (pre := ([] : va_W)) (Wc := ([] : va_W)) (suf := DC cI a f r) (As := [.int (nI y), .int (nI x)]) (rest := []) ⟨hx, hb, hml, hown, hts⟩ (mX1_pairOf l D cI y x _) hN hA hK hS hP hD rfl (⟨va_cnB 2 hts gX0_arrive_X1_pairOf_n84 rfl rfl rfl hN.1 (hts (.initialized RX1) (by decide +kernel)) (by decide +kernel) ⟨Nat.le_of_ble_eq_true rfl, Nat.le_of_ble_eq_true rfl⟩, hts (.static yX1_pairOf) (by decide +kernel), trivial⟩) rfl hl.1 rfl (Nat.le_of_ble_eq_true rfl) dX0_arrive_8 ⟨Nat.zero_le _, Nat.zero_le _⟩ (fun r_8 u_8 H locs hw hP hD hS => ?_)
  have hw : r_8 = nI (y * 10 + x) := hw
  subst hw
  have hP : va_P D vwCl (DC cI a f r) H := hP
  have hD : va_D A (DC cI a f r) := hD
  refine lv_istore (lv' := [(4, .int (nI (y * 10 + x))), (3, .int (nI (x * 10 + y))), (0, .ref (a 0)), (1, .int (nI x)), (2, .int (nI y))]) hx hb dX0_arrive_11 hl (by decide) rfl (fun ls hl => ?_)
  refine lv_aload_n hx hb dX0_arrive_13 rfl (lv_at hl 2 rfl) ?_
  refine lv_iload hx hb dX0_arrive_14 (lv_at hl 0 rfl) ?_
  refine wCVi (pre := ([] : va_W)) (Wc := DC cI a f r) (suf := ([] : va_W)) (As := [.int (nI (y * 10 + x))]) (rest := []) ⟨hx, hb, hml, hown, hts⟩ (mX0_isOnItsWay l D cI a f r (y * 10 + x) _ (by omega)) hN hA hK hS hP hD rfl 0 (r := (RX0, TX0, 17)) rfl rfl (cwV 1 hts gX0_arrive_X0_isOnItsWay rfl rfl rfl (by decide +kernel) ⟨Nat.le_of_ble_eq_true rfl, Nat.le_of_ble_eq_true rfl⟩) rfl hl.1 rfl (Nat.le_of_ble_eq_true rfl) dX0_arrive_16 ⟨Nat.zero_le _, Nat.zero_le _⟩ (fun r_16 u_16 H locs hw hP hD hS => ?_)
  have hw : r_16 = if (r 4) (y * 10 + x) = -1 then 0 else 1 := hw
  subst hw
  have hP : va_P D vwCl (DC cI a f r) H := hP
  have hD : va_D A (DC cI a f r) := hD
  refine lv_if_eq (tgt := 63) hx hb dX0_arrive_19 (by decide) (fun c_19 => ?_) (fun c_19 => ?_)
  · have c_19 := ite01.mp c_19
    refine lv_aload_n hx hb dX0_arrive_63 rfl (lv_at hl 2 rfl) ?_
    refine va_get (D := D) (ci := 0) (v := .int (f 3)) (C := RX0) (T := TX0) (N := 17) hx hb hw0 (fun _ h => h) hown hK hP 0 rfl rfl 3 (by decide) k47 (fun _ h9 => h9) rfl dX0_arrive_64 ?_
    refine lv_iload_n hx hb dX0_arrive_67 rfl (lv_at hl 4 rfl) ?_
    refine lv_icmp_ne (tgt := 84) hx hb dX0_arrive_68 (by decide) (fun c_68 => ?_) (fun c_68 => ?_)
    · refine lv_aload_n hx hb dX0_arrive_84 rfl (lv_at hl 2 rfl) ?_
      refine va_get (D := D) (ci := 0) (v := .ref (a 6)) (C := RX0) (T := TX0) (N := 17) hx hb hw0 (fun _ h => h) hown hK hP 0 rfl rfl 15 (by decide) k27 (fun _ h9 => h9) rfl dX0_arrive_85 ?_
      refine lv_iload_n hx hb dX0_arrive_88 rfl (lv_at hl 1 rfl) ?_
      refine lv_dup2_11 hx hb dX0_arrive_89 rfl rfl ?_
      refine wIald hx hb hK hP 6 0 rfl rfl (x * 10 + y) rfl (by omega) (by decide) dX0_arrive_90 ?_
      refine lv_iconst (v := 1) hx hb dX0_arrive_91 (by decide) ?_
      refine lv_iadd hx hb dX0_arrive_92 ?_
      refine wIast hx hb hK hP hD hS 6 0 rfl rfl (x * 10 + y) rfl (by omega) (by decide) dX0_arrive_93 (fun H locs hP hD hS => ?_)
      have hP : va_P D vwCl (DC cI a f (va_up r 5 (upd (r 5) (x * 10 + y) (((r 5) (x * 10 + y)) + 1)))) H := hP
      have hD : va_D A (DC cI a f (va_up r 5 (upd (r 5) (x * 10 + y) (((r 5) (x * 10 + y)) + 1)))) := hD
      refine lv_aload_n hx hb dX0_arrive_94 rfl (lv_at hl 2 rfl) ?_
      refine va_get (D := D) (ci := 0) (v := .ref (a 4)) (C := RX0) (T := TX0) (N := 17) hx hb hw0 (fun _ h => h) hown hK hP 0 rfl rfl 13 (by decide) k21 (fun _ h9 => h9) rfl dX0_arrive_95 ?_
      refine lv_iload_n hx hb dX0_arrive_98 rfl (lv_at hl 3 rfl) ?_
      refine lv_dup2_11 hx hb dX0_arrive_99 rfl rfl ?_
      refine wIald hx hb hK hP 4 0 rfl rfl x rfl (by omega) (by decide) dX0_arrive_100 ?_
      refine lv_iconst (v := 1) hx hb dX0_arrive_101 (by decide) ?_
      refine lv_iadd hx hb dX0_arrive_102 ?_
      refine wIast hx hb hK hP hD hS 4 0 rfl rfl x rfl (by omega) (by decide) dX0_arrive_103 (fun H locs hP hD hS => ?_)
      have hP : va_P D vwCl (DC cI a f (va_up (va_up r 3 (upd (r 3) x (((r 3) x) + 1))) 5 (upd (r 5) (x * 10 + y) (((r 5) (x * 10 + y)) + 1)))) H := hP
      have hD : va_D A (DC cI a f (va_up (va_up r 3 (upd (r 3) x (((r 3) x) + 1))) 5 (upd (r 5) (x * 10 + y) (((r 5) (x * 10 + y)) + 1)))) := hD
      refine lv_aload_n hx hb dX0_arrive_104 rfl (lv_at hl 2 rfl) ?_
      refine va_get (D := D) (ci := 0) (v := .ref (a 5)) (C := RX0) (T := TX0) (N := 17) hx hb hw0 (fun _ h => h) hown hK hP 0 rfl rfl 14 (by decide) k24 (fun _ h9 => h9) rfl dX0_arrive_105 ?_
      refine lv_iload_n hx hb dX0_arrive_108 rfl (lv_at hl 1 rfl) ?_
      refine lv_iconst (v := (-1)) hx hb dX0_arrive_109 (by decide) ?_
      refine wIast hx hb hK hP hD hS 5 0 rfl rfl (x * 10 + y) rfl (by omega) (by decide) dX0_arrive_110 (fun H locs hP hD hS => ?_)
      have hP : va_P D vwCl (DC cI a f (va_up (va_up (va_up r 3 (upd (r 3) x (((r 3) x) + 1))) 4 (upd (r 4) (x * 10 + y) (-1))) 5 (upd (r 5) (x * 10 + y) (((r 5) (x * 10 + y)) + 1)))) H := hP
      have hD : va_D A (DC cI a f (va_up (va_up (va_up r 3 (upd (r 3) x (((r 3) x) + 1))) 4 (upd (r 4) (x * 10 + y) (-1))) 5 (upd (r 5) (x * 10 + y) (((r 5) (x * 10 + y)) + 1)))) := hD
      exact wRv hQ hx hb hr hlocks hP hD hS dX0_arrive_111 (f, (va_up (va_up (va_up r 3 (upd (r 3) x (((r 3) x) + 1))) 4 (upd (r 4) (x * 10 + y) (-1))) 5 (upd (r 5) (x * 10 + y) (((r 5) (x * 10 + y)) + 1)))) (by simp only [dArr, if_pos c_19, if_neg c_68]) rfl
    · refine lv_aload_n hx hb dX0_arrive_71 rfl (lv_at hl 2 rfl) ?_
      refine lv_dup hx hb dX0_arrive_72 rfl ?_
      refine va_get (D := D) (ci := 0) (v := .int (f 8)) (C := RX0) (T := TX0) (N := 17) hx hb hw0 (fun _ h => h) hown hK hP 0 rfl rfl 8 (by decide) k62 (fun _ h9 => h9) rfl dX0_arrive_73 ?_
      refine lv_iconst (v := 1) hx hb dX0_arrive_76 (by decide) ?_
      refine lv_iadd hx hb dX0_arrive_77 ?_
      refine va_put (D := D) (ci := 0) (v := .int ((f 8) + 1)) (ty := .int) (C := RX0) (T := TX0) (N := 17) hx hb hw0 (fun _ h => h) tyX0 tyX0_ok nmX0 hown hK hP hD hS 0 rfl rfl 8 (by decide) k62 (fun _ h9 => h9) rfl (by decide +kernel) rfl rfl (Nat.le_of_ble_eq_true rfl) dX0_arrive_78 (fun H locs hP hD hS => ?_)
      have hP : va_P D vwCl (DC cI a (upd f 8 ((f 8) + 1)) r) H := hP
      have hD : va_D A (DC cI a (upd f 8 ((f 8) + 1)) r) := hD
      refine lv_goto (tgt := 104) hx hb dX0_arrive_81 (by decide) ?_
      refine lv_aload_n hx hb dX0_arrive_104 rfl (lv_at hl 2 rfl) ?_
      refine va_get (D := D) (ci := 0) (v := .ref (a 5)) (C := RX0) (T := TX0) (N := 17) hx hb hw0 (fun _ h => h) hown hK hP 0 rfl rfl 14 (by decide) k24 (fun _ h9 => h9) rfl dX0_arrive_105 ?_
      refine lv_iload_n hx hb dX0_arrive_108 rfl (lv_at hl 1 rfl) ?_
      refine lv_iconst (v := (-1)) hx hb dX0_arrive_109 (by decide) ?_
      refine wIast hx hb hK hP hD hS 5 0 rfl rfl (x * 10 + y) rfl (by omega) (by decide) dX0_arrive_110 (fun H locs hP hD hS => ?_)
      have hP : va_P D vwCl (DC cI a (upd f 8 ((f 8) + 1)) (va_up r 4 (upd (r 4) (x * 10 + y) (-1)))) H := hP
      have hD : va_D A (DC cI a (upd f 8 ((f 8) + 1)) (va_up r 4 (upd (r 4) (x * 10 + y) (-1)))) := hD
      exact wRv hQ hx hb hr hlocks hP hD hS dX0_arrive_111 ((upd f 8 ((f 8) + 1)), (va_up r 4 (upd (r 4) (x * 10 + y) (-1)))) (by simp only [dArr, if_pos c_19, if_pos c_68]) rfl
  · have c_19 := ite01n.mp c_19
    refine lv_aload_n hx hb dX0_arrive_22 rfl (lv_at hl 2 rfl) ?_
    refine lv_dup hx hb dX0_arrive_23 rfl ?_
    refine va_get (D := D) (ci := 0) (v := .int (f 7)) (C := RX0) (T := TX0) (N := 17) hx hb hw0 (fun _ h => h) hown hK hP 0 rfl rfl 7 (by decide) k59 (fun _ h9 => h9) rfl dX0_arrive_24 ?_
    refine lv_iconst (v := 1) hx hb dX0_arrive_27 (by decide) ?_
    refine lv_iadd hx hb dX0_arrive_28 ?_
    refine va_put (D := D) (ci := 0) (v := .int ((f 7) + 1)) (ty := .int) (C := RX0) (T := TX0) (N := 17) hx hb hw0 (fun _ h => h) tyX0 tyX0_ok nmX0 hown hK hP hD hS 0 rfl rfl 7 (by decide) k59 (fun _ h9 => h9) rfl (by decide +kernel) rfl rfl (Nat.le_of_ble_eq_true rfl) dX0_arrive_29 (fun H locs hP hD hS => ?_)
    have hP : va_P D vwCl (DC cI a (upd f 7 ((f 7) + 1)) r) H := hP
    have hD : va_D A (DC cI a (upd f 7 ((f 7) + 1)) r) := hD
    refine lv_aload_n hx hb dX0_arrive_32 rfl (lv_at hl 2 rfl) ?_
    refine va_get (D := D) (ci := 0) (v := .ref (a 4)) (C := RX0) (T := TX0) (N := 17) hx hb hw0 (fun _ h => h) hown hK hP 0 rfl rfl 13 (by decide) k21 (fun _ h9 => h9) rfl dX0_arrive_33 ?_
    refine lv_iload_n hx hb dX0_arrive_36 rfl (lv_at hl 3 rfl) ?_
    refine lv_dup2_11 hx hb dX0_arrive_37 rfl rfl ?_
    refine wIald hx hb hK hP 4 0 rfl rfl x rfl (by omega) (by decide) dX0_arrive_38 ?_
    refine lv_iconst (v := 3) hx hb dX0_arrive_39 (by decide) ?_
    refine lv_iadd hx hb dX0_arrive_40 ?_
    refine wIast hx hb hK hP hD hS 4 0 rfl rfl x rfl (by omega) (by decide) dX0_arrive_41 (fun H locs hP hD hS => ?_)
    have hP : va_P D vwCl (DC cI a (upd f 7 ((f 7) + 1)) (va_up r 3 (upd (r 3) x (((r 3) x) + 3)))) H := hP
    have hD : va_D A (DC cI a (upd f 7 ((f 7) + 1)) (va_up r 3 (upd (r 3) x (((r 3) x) + 3)))) := hD
    refine lv_aload_n hx hb dX0_arrive_42 rfl (lv_at hl 2 rfl) ?_
    refine va_get (D := D) (ci := 0) (v := .ref (a 4)) (C := RX0) (T := TX0) (N := 17) hx hb hw0 (fun _ h => h) hown hK hP 0 rfl rfl 13 (by decide) k21 (fun _ h9 => h9) rfl dX0_arrive_43 ?_
    refine lv_iload_n hx hb dX0_arrive_46 rfl (lv_at hl 4 rfl) ?_
    refine lv_dup2_11 hx hb dX0_arrive_47 rfl rfl ?_
    refine wIald hx hb hK hP 4 0 rfl rfl y rfl (by omega) (by decide) dX0_arrive_48 ?_
    refine lv_iconst (v := 3) hx hb dX0_arrive_49 (by decide) ?_
    refine lv_iadd hx hb dX0_arrive_50 ?_
    refine wIast hx hb hK hP hD hS 4 0 rfl rfl y rfl (by omega) (by decide) dX0_arrive_51 (fun H locs hP hD hS => ?_)
    have hP : va_P D vwCl (DC cI a (upd f 7 ((f 7) + 1)) (va_up r 3 (upd (upd (r 3) x (((r 3) x) + 3)) y (((upd (r 3) x (((r 3) x) + 3)) y) + 3)))) H := hP
    have hD : va_D A (DC cI a (upd f 7 ((f 7) + 1)) (va_up r 3 (upd (upd (r 3) x (((r 3) x) + 3)) y (((upd (r 3) x (((r 3) x) + 3)) y) + 3)))) := hD
    refine lv_aload_n hx hb dX0_arrive_52 rfl (lv_at hl 2 rfl) ?_
    refine va_get (D := D) (ci := 0) (v := .ref (a 5)) (C := RX0) (T := TX0) (N := 17) hx hb hw0 (fun _ h => h) hown hK hP 0 rfl rfl 14 (by decide) k24 (fun _ h9 => h9) rfl dX0_arrive_53 ?_
    refine lv_iload hx hb dX0_arrive_56 (lv_at hl 0 rfl) ?_
    refine lv_iconst (v := (-1)) hx hb dX0_arrive_58 (by decide) ?_
    refine wIast hx hb hK hP hD hS 5 0 rfl rfl (y * 10 + x) rfl (by omega) (by decide) dX0_arrive_59 (fun H locs hP hD hS => ?_)
    have hP : va_P D vwCl (DC cI a (upd f 7 ((f 7) + 1)) (va_up (va_up r 3 (upd (upd (r 3) x (((r 3) x) + 3)) y (((upd (r 3) x (((r 3) x) + 3)) y) + 3))) 4 (upd (r 4) (y * 10 + x) (-1)))) H := hP
    have hD : va_D A (DC cI a (upd f 7 ((f 7) + 1)) (va_up (va_up r 3 (upd (upd (r 3) x (((r 3) x) + 3)) y (((upd (r 3) x (((r 3) x) + 3)) y) + 3))) 4 (upd (r 4) (y * 10 + x) (-1)))) := hD
    refine lv_goto (tgt := 104) hx hb dX0_arrive_60 (by decide) ?_
    refine lv_aload_n hx hb dX0_arrive_104 rfl (lv_at hl 2 rfl) ?_
    refine va_get (D := D) (ci := 0) (v := .ref (a 5)) (C := RX0) (T := TX0) (N := 17) hx hb hw0 (fun _ h => h) hown hK hP 0 rfl rfl 14 (by decide) k24 (fun _ h9 => h9) rfl dX0_arrive_105 ?_
    refine lv_iload_n hx hb dX0_arrive_108 rfl (lv_at hl 1 rfl) ?_
    refine lv_iconst (v := (-1)) hx hb dX0_arrive_109 (by decide) ?_
    refine wIast hx hb hK hP hD hS 5 0 rfl rfl (x * 10 + y) rfl (by omega) (by decide) dX0_arrive_110 (fun H locs hP hD hS => ?_)
    have hP : va_P D vwCl (DC cI a (upd f 7 ((f 7) + 1)) (va_up (va_up r 3 (upd (upd (r 3) x (((r 3) x) + 3)) y (((upd (r 3) x (((r 3) x) + 3)) y) + 3))) 4 (upd (upd (r 4) (y * 10 + x) (-1)) (x * 10 + y) (-1)))) H := hP
    have hD : va_D A (DC cI a (upd f 7 ((f 7) + 1)) (va_up (va_up r 3 (upd (upd (r 3) x (((r 3) x) + 3)) y (((upd (r 3) x (((r 3) x) + 3)) y) + 3))) 4 (upd (upd (r 4) (y * 10 + x) (-1)) (x * 10 + y) (-1)))) := hD
    exact wRv hQ hx hb hr hlocks hP hD hS dX0_arrive_111 ((upd f 7 ((f 7) + 1)), (va_up (va_up r 3 (upd (upd (r 3) x (((r 3) x) + 3)) y (((upd (r 3) x (((r 3) x) + 3)) y) + 3))) 4 (upd (upd (r 4) (y * 10 + x) (-1)) (x * 10 + y) (-1)))) (by simp only [dArr, if_neg c_19]) rfl
abbrev rmX0_forgetThoseOver : Room := { frames := 1, cells := 0, slots := 0, locals := 21 }
set_option maxRecDepth 100000 in
set_option maxHeartbeats 4000000 in
/-- forgetThoseOver -/
theorem mX0_forgetThoseOver (l : Launch) (D : va_G) (cI : ClassId) (a : Nat → Nat) (f : Nat → Int32) (r : Nat → Nat → Int32) (L : List Nat) (sz : Nat) (hn : f 9 = nI L.length) (ho : oR (r 6) L) (ht : ∀ p ∈ L, p < 100) (hc : L.length ≤ 100) : wCt l yX0_forgetThoseOver wsX0_forgetThoseOver rmX0_forgetThoseOver D [(cI, .int)] [.ref (a 0)] (DC cI a f r) sz 0 0 (wQv D (fun u : dS => u = dForget f r L) (fun u : dS => DCs cI a u)) := by
  refine wMet cX0_forgetThoseOver 4 none (by decide) rfl (Nat.le_of_ble_eq_true rfl) ?_
  intro p e s m args below meth c A Q ls hQ hx hb hr hml hown hlocks hin hts hN hP hK hD hA hS hl
  have hl : lv_has ls 4 [(0, .ref (a 0))] := hl
  have hown : s.vm.findClass RX0 = some m.cls := hown
  have hw0 : ∀ w ∈ wsX00, w.before args s = true := fun w h => hts w (List.mem_cons_of_mem _ (List.mem_append_right _ h))
  have k30 := hts (.fieldLink RX0 30 "PauseLedger$Dinner" "order" "[I") (by decide +kernel)
  have k65 := hts (.fieldLink RX0 65 "PauseLedger$Dinner" "sent" "I") (by decide +kernel)
  refine lv_iconst (v := 0) hx hb dX0_forgetThoseOver_0 (by decide) ?_
  refine lv_istore_n (lv' := [(1, .int 0), (0, .ref (a 0))]) hx hb dX0_forgetThoseOver_1 rfl hl (by decide) rfl (fun ls hl => ?_)
  refine lv_iconst (v := 0) hx hb dX0_forgetThoseOver_2 (by decide) ?_
  refine lv_istore_n (lv' := [(2, .int 0), (1, .int 0), (0, .ref (a 0))]) hx hb dX0_forgetThoseOver_3 rfl hl (by decide) rfl (fun ls hl => ?_)
  have loop4 : ∀ (j i4 : Nat), i4 + j = L.length → ∀ (H : Heap) (locs : List Loc) (ls : Array Slot), va_P D vwCl (DC cI a f (va_up r 6 (dFgt (r 4) (r 6) L i4).2)) H → va_D A (DC cI a f (va_up r 6 (dFgt (r 4) (r 6) L i4).2)) → va_S A s.heap H locs → lv_has ls 4 [(2, .int (nI i4)), (1, .int (nI (dFgt (r 4) (r 6) L i4).1)), (0, .ref (a 0))] → W p l e rmX0_forgetThoseOver s m args below meth c H locs 0 0 Q (F0 m 4 ls []) := by
    intro j
    induction j with
    | zero =>
      intro i4 hi4 H locs ls hP hD hS hl
      have ez : L.length = i4 := by omega
      subst ez
      refine lv_iload_n hx hb dX0_forgetThoseOver_4 rfl (lv_at hl 0 rfl) ?_
      refine lv_aload_n hx hb dX0_forgetThoseOver_5 rfl (lv_at hl 2 rfl) ?_
      refine va_get (D := D) (ci := 0) (v := .int (f 9)) (C := RX0) (T := TX0) (N := 17) hx hb hw0 (fun _ h => h) hown hK hP 0 rfl rfl 9 (by decide) k65 (fun _ h9 => h9) rfl dX0_forgetThoseOver_6 ?_
      refine lv_icmp_ge (tgt := 43) hx hb dX0_forgetThoseOver_9 (by decide) (fun c_9 => ?_) (fun h9 => absurd (by rw [hn]; exact nI_le (Nat.le_refl _) (by omega)) h9)
      refine lv_aload_n hx hb dX0_forgetThoseOver_43 rfl (lv_at hl 2 rfl) ?_
      refine lv_iload_n hx hb dX0_forgetThoseOver_44 rfl (lv_at hl 1 rfl) ?_
      refine va_put (D := D) (ci := 0) (v := .int (nI (dFgt (r 4) (r 6) L L.length).1)) (ty := .int) (C := RX0) (T := TX0) (N := 17) hx hb hw0 (fun _ h => h) tyX0 tyX0_ok nmX0 hown hK hP hD hS 0 rfl rfl 9 (by decide) k65 (fun _ h9 => h9) rfl (by decide +kernel) rfl rfl (Nat.le_of_ble_eq_true rfl) dX0_forgetThoseOver_45 (fun H locs hP hD hS => ?_)
      have hP : va_P D vwCl (DC cI a (upd f 9 (nI (dFgt (r 4) (r 6) L L.length).1)) (va_up r 6 (dFgt (r 4) (r 6) L L.length).2)) H := hP
      have hD : va_D A (DC cI a (upd f 9 (nI (dFgt (r 4) (r 6) L L.length).1)) (va_up r 6 (dFgt (r 4) (r 6) L L.length).2)) := hD
      exact wRv hQ hx hb hr hlocks hP hD hS dX0_forgetThoseOver_48 ((upd f 9 (nI (dFgt (r 4) (r 6) L L.length).1)), (va_up r 6 (dFgt (r 4) (r 6) L L.length).2)) (rfl) rfl
    | succ j ih4 =>
      intro i4 hi4 H locs ls hP hD hS hl
      have hk4 := dFgt_le (r 4) (r 6) L i4
      have hp4 := dgt ht i4
      refine lv_iload_n hx hb dX0_forgetThoseOver_4 rfl (lv_at hl 0 rfl) ?_
      refine lv_aload_n hx hb dX0_forgetThoseOver_5 rfl (lv_at hl 2 rfl) ?_
      refine va_get (D := D) (ci := 0) (v := .int (f 9)) (C := RX0) (T := TX0) (N := 17) hx hb hw0 (fun _ h => h) hown hK hP 0 rfl rfl 9 (by decide) k65 (fun _ h9 => h9) rfl dX0_forgetThoseOver_6 ?_
      refine lv_icmp_ge (tgt := 43) hx hb dX0_forgetThoseOver_9 (by decide) (fun h9 => absurd h9 (by rw [hn]; exact nI_ge (by omega) (by omega))) (fun c_9 => ?_)
      refine lv_aload_n hx hb dX0_forgetThoseOver_12 rfl (lv_at hl 2 rfl) ?_
      refine va_get (D := D) (ci := 0) (v := .ref (a 7)) (C := RX0) (T := TX0) (N := 17) hx hb hw0 (fun _ h => h) hown hK hP 0 rfl rfl 16 (by decide) k30 (fun _ h9 => h9) rfl dX0_forgetThoseOver_13 ?_
      refine lv_iload_n hx hb dX0_forgetThoseOver_16 rfl (lv_at hl 0 rfl) ?_
      refine wIald hx hb hK hP 7 0 rfl rfl i4 rfl (by omega) (by decide) dX0_forgetThoseOver_17 ?_
      refine wTop (z := nI (L.getD i4 0)) (dFgt_get ho (by omega)) ?_
      refine lv_istore_n (lv' := [(3, .int (nI (L.getD i4 0))), (2, .int (nI i4)), (1, .int (nI (dFgt (r 4) (r 6) L i4).1)), (0, .ref (a 0))]) hx hb dX0_forgetThoseOver_18 rfl hl (by decide) rfl (fun ls hl => ?_)
      refine lv_aload_n hx hb dX0_forgetThoseOver_19 rfl (lv_at hl 3 rfl) ?_
      refine lv_iload_n hx hb dX0_forgetThoseOver_20 rfl (lv_at hl 0 rfl) ?_
      refine wCVi (pre := ([] : va_W)) (Wc := DC cI a f (va_up r 6 (dFgt (r 4) (r 6) L i4).2)) (suf := ([] : va_W)) (As := [.int (nI (L.getD i4 0))]) (rest := []) ⟨hx, hb, hml, hown, hts⟩ (mX0_isOnItsWay l D cI a f (va_up r 6 (dFgt (r 4) (r 6) L i4).2) (L.getD i4 0) _ hp4) hN hA hK hS hP hD rfl 0 (r := (RX0, TX0, 17)) rfl rfl (cwV 1 hts gX0_forgetThoseOver_X0_isOnItsWay rfl rfl rfl (by decide +kernel) ⟨Nat.le_of_ble_eq_true rfl, Nat.le_of_ble_eq_true rfl⟩) rfl hl.1 rfl (Nat.le_of_ble_eq_true rfl) dX0_forgetThoseOver_21 ⟨Nat.zero_le _, Nat.zero_le _⟩ (fun r_21 u_21 H locs hw hP hD hS => ?_)
      have hw : r_21 = if (r 4) (L.getD i4 0) = -1 then 0 else 1 := hw
      subst hw
      have hP : va_P D vwCl (DC cI a f (va_up r 6 (dFgt (r 4) (r 6) L i4).2)) H := hP
      have hD : va_D A (DC cI a f (va_up r 6 (dFgt (r 4) (r 6) L i4).2)) := hD
      refine lv_if_eq (tgt := 37) hx hb dX0_forgetThoseOver_24 (by decide) (fun c_24 => ?_) (fun c_24 => ?_)
      · have c_24 := ite01.mp c_24
        refine lv_iinc (v := nI (i4 + 1)) (lv' := [(2, .int (nI (i4 + 1))), (3, .int (nI (L.getD i4 0))), (1, .int (nI (dFgt (r 4) (r 6) L i4).1)), (0, .ref (a 0))]) hx hb dX0_forgetThoseOver_37 hl (k := 1) rfl (nI_1 i4) (by decide) rfl (fun ls hl => ?_)
        refine lv_goto (tgt := 4) hx hb dX0_forgetThoseOver_40 (by decide) ?_
        have e4 : dFgt (r 4) (r 6) L (i4 + 1) = dFgt (r 4) (r 6) L i4 := by simp only [dFgt, if_pos c_24]
        have hP : va_P D vwCl (DC cI a f (va_up r 6 (dFgt (r 4) (r 6) L (i4 + 1)).2)) H := by rw [e4]; exact hP
        have hD : va_D A (DC cI a f (va_up r 6 (dFgt (r 4) (r 6) L (i4 + 1)).2)) := by rw [e4]; exact hD
        have hl : lv_has ls 4 [(2, .int (nI (i4 + 1))), (3, .int (nI (L.getD i4 0))), (1, .int (nI (dFgt (r 4) (r 6) L (i4 + 1)).1)), (0, .ref (a 0))] := by rw [e4]; exact hl
        exact ih4 (i4 + 1) (by omega) _ _ _ hP hD hS (lv_sub hl [0, 2, 3] rfl)
      · have c_24 := ite01n.mp c_24
        refine lv_aload_n hx hb dX0_forgetThoseOver_27 rfl (lv_at hl 3 rfl) ?_
        refine va_get (D := D) (ci := 0) (v := .ref (a 7)) (C := RX0) (T := TX0) (N := 17) hx hb hw0 (fun _ h => h) hown hK hP 0 rfl rfl 16 (by decide) k30 (fun _ h9 => h9) rfl dX0_forgetThoseOver_28 ?_
        refine lv_iload_n hx hb dX0_forgetThoseOver_31 rfl (lv_at hl 2 rfl) ?_
        refine lv_iload_n hx hb dX0_forgetThoseOver_32 rfl (lv_at hl 0 rfl) ?_
        refine wIast hx hb hK hP hD hS 7 0 rfl rfl (dFgt (r 4) (r 6) L i4).1 rfl (by omega) (by decide) dX0_forgetThoseOver_33 (fun H locs hP hD hS => ?_)
        have hP : va_P D vwCl (DC cI a f (va_up r 6 (upd (dFgt (r 4) (r 6) L i4).2 (dFgt (r 4) (r 6) L i4).1 (nI (L.getD i4 0))))) H := hP
        have hD : va_D A (DC cI a f (va_up r 6 (upd (dFgt (r 4) (r 6) L i4).2 (dFgt (r 4) (r 6) L i4).1 (nI (L.getD i4 0))))) := hD
        refine lv_iinc (v := nI ((dFgt (r 4) (r 6) L i4).1 + 1)) (lv' := [(1, .int (nI ((dFgt (r 4) (r 6) L i4).1 + 1))), (3, .int (nI (L.getD i4 0))), (2, .int (nI i4)), (0, .ref (a 0))]) hx hb dX0_forgetThoseOver_34 hl (k := 2) rfl (nI_1 (dFgt (r 4) (r 6) L i4).1) (by decide) rfl (fun ls hl => ?_)
        refine lv_iinc (v := nI (i4 + 1)) (lv' := [(2, .int (nI (i4 + 1))), (1, .int (nI ((dFgt (r 4) (r 6) L i4).1 + 1))), (3, .int (nI (L.getD i4 0))), (0, .ref (a 0))]) hx hb dX0_forgetThoseOver_37 hl (k := 2) rfl (nI_1 i4) (by decide) rfl (fun ls hl => ?_)
        refine lv_goto (tgt := 4) hx hb dX0_forgetThoseOver_40 (by decide) ?_
        have e4 : dFgt (r 4) (r 6) L (i4 + 1) = ((dFgt (r 4) (r 6) L i4).1 + 1, upd (dFgt (r 4) (r 6) L i4).2 (dFgt (r 4) (r 6) L i4).1 (nI (L.getD i4 0))) := by simp only [dFgt, if_neg c_24]
        have hP : va_P D vwCl (DC cI a f (va_up r 6 (dFgt (r 4) (r 6) L (i4 + 1)).2)) H := by rw [e4]; exact hP
        have hD : va_D A (DC cI a f (va_up r 6 (dFgt (r 4) (r 6) L (i4 + 1)).2)) := by rw [e4]; exact hD
        have hl : lv_has ls 4 [(2, .int (nI (i4 + 1))), (1, .int (nI (dFgt (r 4) (r 6) L (i4 + 1)).1)), (3, .int (nI (L.getD i4 0))), (0, .ref (a 0))] := by rw [e4]; exact hl
        exact ih4 (i4 + 1) (by omega) _ _ _ hP hD hS (lv_sub hl [0, 1, 3] rfl)
  exact loop4 L.length 0 (by omega) _ _ _ hP hD hS (lv_sub hl [0, 1, 2] rfl)
abbrev rmX0_moveGlances : Room := { frames := 2, cells := 0, slots := 0, locals := 45 }
set_option maxRecDepth 100000 in
set_option maxHeartbeats 4000000 in
/-- moveGlances -/
theorem mX0_moveGlances (l : Launch) (D : va_G) (cI : ClassId) (a : Nat → Nat) (f : Nat → Int32) (r : Nat → Nat → Int32) (L : List Nat) (sz : Nat) (hn : f 9 = nI L.length) (ho : oR (r 6) L) (ht : ∀ p ∈ L, p < 100) (hc : L.length ≤ 100) : wCt l yX0_moveGlances wsX0_moveGlances rmX0_moveGlances D [(cI, .int)] [.ref (a 0)] (DC cI a f r) sz 0 0 (wQv D (fun u : dS => u = dMove f r L) (fun u : dS => DCs cI a u)) := by
  refine wMet cX0_moveGlances 3 none (by decide) rfl (Nat.le_of_ble_eq_true rfl) ?_
  intro p e s m args below meth c A Q ls hQ hx hb hr hml hown hlocks hin hts hN hP hK hD hA hS hl
  have hl : lv_has ls 3 [(0, .ref (a 0))] := hl
  have hown : s.vm.findClass RX0 = some m.cls := hown
  have hw0 : ∀ w ∈ wsX00, w.before args s = true := fun w h => hts w (List.mem_cons_of_mem _ (List.mem_append_right _ h))
  have k24 := hts (.fieldLink RX0 24 "PauseLedger$Dinner" "toGo" "[I") (by decide +kernel)
  have k30 := hts (.fieldLink RX0 30 "PauseLedger$Dinner" "order" "[I") (by decide +kernel)
  have k65 := hts (.fieldLink RX0 65 "PauseLedger$Dinner" "sent" "I") (by decide +kernel)
  refine lv_iconst (v := 0) hx hb dX0_moveGlances_0 (by decide) ?_
  refine lv_istore_n (lv' := [(1, .int 0), (0, .ref (a 0))]) hx hb dX0_moveGlances_1 rfl hl (by decide) rfl (fun ls hl => ?_)
  have loop2 : ∀ (j i2 : Nat), i2 + j = L.length → ∀ (H : Heap) (locs : List Loc) (ls : Array Slot), va_P D vwCl (DC cI a f (va_up r 4 (dDec (r 4) L i2))) H → va_D A (DC cI a f (va_up r 4 (dDec (r 4) L i2))) → va_S A s.heap H locs → lv_has ls 3 [(1, .int (nI i2)), (0, .ref (a 0))] → W p l e rmX0_moveGlances s m args below meth c H locs 0 0 Q (F0 m 2 ls []) := by
    intro j
    induction j with
    | zero =>
      intro i2 hi2 H locs ls hP hD hS hl
      have ez : L.length = i2 := by omega
      subst ez
      refine lv_iload_n hx hb dX0_moveGlances_2 rfl (lv_at hl 0 rfl) ?_
      refine lv_aload_n hx hb dX0_moveGlances_3 rfl (lv_at hl 1 rfl) ?_
      refine va_get (D := D) (ci := 0) (v := .int (f 9)) (C := RX0) (T := TX0) (N := 17) hx hb hw0 (fun _ h => h) hown hK hP 0 rfl rfl 9 (by decide) k65 (fun _ h9 => h9) rfl dX0_moveGlances_4 ?_
      refine lv_icmp_ge (tgt := 31) hx hb dX0_moveGlances_7 (by decide) (fun c_7 => ?_) (fun h9 => absurd (by rw [hn]; exact nI_le (Nat.le_refl _) (by omega)) h9)
      refine lv_iconst (v := 0) hx hb dX0_moveGlances_31 (by decide) ?_
      refine lv_istore_n (lv' := [(1, .int 0), (0, .ref (a 0))]) hx hb dX0_moveGlances_32 rfl hl (by decide) rfl (fun ls hl => ?_)
      have loop33 : ∀ (j i33 : Nat), i33 + j = L.length → ∀ (H : Heap) (locs : List Loc) (ls : Array Slot), va_P D vwCl (DC cI a (dArrs L (dM1 f r L) i33).1 (dArrs L (dM1 f r L) i33).2) H → va_D A (DC cI a (dArrs L (dM1 f r L) i33).1 (dArrs L (dM1 f r L) i33).2) → va_S A s.heap H locs → lv_has ls 3 [(1, .int (nI i33)), (0, .ref (a 0))] → W p l e rmX0_moveGlances s m args below meth c H locs 0 0 Q (F0 m 33 ls []) := by
        intro j
        induction j with
        | zero =>
          intro i33 hi33 H locs ls hP hD hS hl
          have ez : L.length = i33 := by omega
          subst ez
          refine lv_iload_n hx hb dX0_moveGlances_33 rfl (lv_at hl 0 rfl) ?_
          refine lv_aload_n hx hb dX0_moveGlances_34 rfl (lv_at hl 1 rfl) ?_
          refine va_get (D := D) (ci := 0) (v := .int ((dArrs L (dM1 f r L) L.length).1 9)) (C := RX0) (T := TX0) (N := 17) hx hb hw0 (fun _ h => h) hown hK hP 0 rfl rfl 9 (by decide) k65 (fun _ h9 => h9) rfl dX0_moveGlances_35 ?_
          refine lv_icmp_ge (tgt := 75) hx hb dX0_moveGlances_38 (by decide) (fun c_38 => ?_) (fun h9 => absurd (by rw [dArrs9, show (dM1 f r L).1 9 = nI L.length from hn]; exact nI_le (Nat.le_refl _) (by omega)) h9)
          refine lv_aload_n hx hb dX0_moveGlances_75 rfl (lv_at hl 1 rfl) ?_
          refine wCVv (pre := ([] : va_W)) (Wc := DC cI a (dArrs L (dM1 f r L) L.length).1 (dArrs L (dM1 f r L) L.length).2) (suf := ([] : va_W)) (As := []) (rest := []) ⟨hx, hb, hml, hown, hts⟩ (mX0_forgetThoseOver l D cI a (dArrs L (dM1 f r L) L.length).1 (dArrs L (dM1 f r L) L.length).2 L _ (by rw [dArrs9]; exact hn) (by rw [dArrs6]; exact ho) ht hc) hN hA hK hS hP hD rfl 0 (r := (RX0, TX0, 17)) rfl rfl (cwV 0 hts gX0_moveGlances_X0_forgetThoseOver rfl rfl rfl (by decide +kernel) ⟨Nat.le_of_ble_eq_true rfl, Nat.le_of_ble_eq_true rfl⟩) rfl hl.1 rfl (Nat.le_of_ble_eq_true rfl) dX0_moveGlances_76 ⟨Nat.zero_le _, Nat.zero_le _⟩ (fun u_76 H locs hw hP hD hS => ?_)
          subst hw
          have hP : va_P D vwCl (DC cI a (dForget (dArrs L (dM1 f r L) L.length).1 (dArrs L (dM1 f r L) L.length).2 L).1 (dForget (dArrs L (dM1 f r L) L.length).1 (dArrs L (dM1 f r L) L.length).2 L).2) H := hP
          have hD : va_D A (DC cI a (dForget (dArrs L (dM1 f r L) L.length).1 (dArrs L (dM1 f r L) L.length).2 L).1 (dForget (dArrs L (dM1 f r L) L.length).1 (dArrs L (dM1 f r L) L.length).2 L).2) := hD
          exact wRv hQ hx hb hr hlocks hP hD hS dX0_moveGlances_79 ((dForget (dArrs L (dM1 f r L) L.length).1 (dArrs L (dM1 f r L) L.length).2 L).1, (dForget (dArrs L (dM1 f r L) L.length).1 (dArrs L (dM1 f r L) L.length).2 L).2) (rfl) rfl
        | succ j ih33 =>
          intro i33 hi33 H locs ls hP hD hS hl
          have hp33 := dgt ht i33
          refine lv_iload_n hx hb dX0_moveGlances_33 rfl (lv_at hl 0 rfl) ?_
          refine lv_aload_n hx hb dX0_moveGlances_34 rfl (lv_at hl 1 rfl) ?_
          refine va_get (D := D) (ci := 0) (v := .int ((dArrs L (dM1 f r L) i33).1 9)) (C := RX0) (T := TX0) (N := 17) hx hb hw0 (fun _ h => h) hown hK hP 0 rfl rfl 9 (by decide) k65 (fun _ h9 => h9) rfl dX0_moveGlances_35 ?_
          refine lv_icmp_ge (tgt := 75) hx hb dX0_moveGlances_38 (by decide) (fun h9 => absurd h9 (by rw [dArrs9, show (dM1 f r L).1 9 = nI L.length from hn]; exact nI_ge (by omega) (by omega))) (fun c_38 => ?_)
          refine lv_aload_n hx hb dX0_moveGlances_41 rfl (lv_at hl 1 rfl) ?_
          refine va_get (D := D) (ci := 0) (v := .ref (a 7)) (C := RX0) (T := TX0) (N := 17) hx hb hw0 (fun _ h => h) hown hK hP 0 rfl rfl 16 (by decide) k30 (fun _ h9 => h9) rfl dX0_moveGlances_42 ?_
          refine lv_iload_n hx hb dX0_moveGlances_45 rfl (lv_at hl 0 rfl) ?_
          refine wIald hx hb hK hP 7 0 rfl rfl i33 rfl (by omega) (by decide) dX0_moveGlances_46 ?_
          refine wTop (z := nI (L.getD i33 0)) (by rw [dArrs6]; exact ho i33 (by omega)) ?_
          refine lv_istore_n (lv' := [(2, .int (nI (L.getD i33 0))), (1, .int (nI i33)), (0, .ref (a 0))]) hx hb dX0_moveGlances_47 rfl hl (by decide) rfl (fun ls hl => ?_)
          refine lv_aload_n hx hb dX0_moveGlances_48 rfl (lv_at hl 2 rfl) ?_
          refine va_get (D := D) (ci := 0) (v := .ref (a 5)) (C := RX0) (T := TX0) (N := 17) hx hb hw0 (fun _ h => h) hown hK hP 0 rfl rfl 14 (by decide) k24 (fun _ h9 => h9) rfl dX0_moveGlances_49 ?_
          refine lv_iload_n hx hb dX0_moveGlances_52 rfl (lv_at hl 0 rfl) ?_
          refine wIald hx hb hK hP 5 0 rfl rfl (L.getD i33 0) rfl (by omega) (by decide) dX0_moveGlances_53 ?_
          refine lv_if_ne (tgt := 69) hx hb dX0_moveGlances_54 (by decide) (fun c_54 => ?_) (fun c_54 => ?_)
          · refine lv_iinc (v := nI (i33 + 1)) (lv' := [(1, .int (nI (i33 + 1))), (2, .int (nI (L.getD i33 0))), (0, .ref (a 0))]) hx hb dX0_moveGlances_69 hl (k := 1) rfl (nI_1 i33) (by decide) rfl (fun ls hl => ?_)
            refine lv_goto (tgt := 33) hx hb dX0_moveGlances_72 (by decide) ?_
            have e33 : dArrs L (dM1 f r L) (i33 + 1) = dArrs L (dM1 f r L) i33 := by simp only [dArrs, if_neg c_54]
            have hP : va_P D vwCl (DC cI a (dArrs L (dM1 f r L) (i33 + 1)).1 (dArrs L (dM1 f r L) (i33 + 1)).2) H := by rw [e33]; exact hP
            have hD : va_D A (DC cI a (dArrs L (dM1 f r L) (i33 + 1)).1 (dArrs L (dM1 f r L) (i33 + 1)).2) := by rw [e33]; exact hD
            exact ih33 (i33 + 1) (by omega) _ _ _ hP hD hS (lv_sub hl [0, 2] rfl)
          · refine lv_aload_n hx hb dX0_moveGlances_57 rfl (lv_at hl 2 rfl) ?_
            refine lv_iload_n hx hb dX0_moveGlances_58 rfl (lv_at hl 0 rfl) ?_
            refine lv_bipush (v := 10) hx hb dX0_moveGlances_59 (by decide) ?_
            refine lv_idiv hx hb dX0_moveGlances_61 (by decide) ?_
            refine wTop (z := nI ((L.getD i33 0) / 10)) (pk_div (a := (L.getD i33 0)) (d := 10) (by omega) (by decide) (by decide)) ?_
            refine lv_iload_n hx hb dX0_moveGlances_62 rfl (lv_at hl 0 rfl) ?_
            refine lv_bipush (v := 10) hx hb dX0_moveGlances_63 (by decide) ?_
            refine lv_irem hx hb dX0_moveGlances_65 (by decide) ?_
            refine wTop (z := nI ((L.getD i33 0) % 10)) (pk_rem (a := (L.getD i33 0)) (d := 10) (by omega) (by decide) (by decide)) ?_
            refine wCVv (pre := ([] : va_W)) (Wc := DC cI a (dArrs L (dM1 f r L) i33).1 (dArrs L (dM1 f r L) i33).2) (suf := ([] : va_W)) (As := [.int (nI ((L.getD i33 0) / 10)), .int (nI ((L.getD i33 0) % 10))]) (rest := []) ⟨hx, hb, hml, hown, hts⟩ (mX0_arrive l D cI a (dArrs L (dM1 f r L) i33).1 (dArrs L (dM1 f r L) i33).2 ((L.getD i33 0) / 10) ((L.getD i33 0) % 10) _ (by omega) (by omega)) hN hA hK hS hP hD rfl 0 (r := (RX0, TX0, 17)) rfl rfl (cwV 2 hts gX0_moveGlances_X0_arrive rfl rfl rfl (by decide +kernel) ⟨Nat.le_of_ble_eq_true rfl, Nat.le_of_ble_eq_true rfl⟩) rfl hl.1 rfl (Nat.le_of_ble_eq_true rfl) dX0_moveGlances_66 ⟨Nat.zero_le _, Nat.zero_le _⟩ (fun u_66 H locs hw hP hD hS => ?_)
            subst hw
            have hP : va_P D vwCl (DC cI a (dArr (dArrs L (dM1 f r L) i33).1 (dArrs L (dM1 f r L) i33).2 ((L.getD i33 0) / 10) ((L.getD i33 0) % 10)).1 (dArr (dArrs L (dM1 f r L) i33).1 (dArrs L (dM1 f r L) i33).2 ((L.getD i33 0) / 10) ((L.getD i33 0) % 10)).2) H := hP
            have hD : va_D A (DC cI a (dArr (dArrs L (dM1 f r L) i33).1 (dArrs L (dM1 f r L) i33).2 ((L.getD i33 0) / 10) ((L.getD i33 0) % 10)).1 (dArr (dArrs L (dM1 f r L) i33).1 (dArrs L (dM1 f r L) i33).2 ((L.getD i33 0) / 10) ((L.getD i33 0) % 10)).2) := hD
            refine lv_iinc (v := nI (i33 + 1)) (lv' := [(1, .int (nI (i33 + 1))), (2, .int (nI (L.getD i33 0))), (0, .ref (a 0))]) hx hb dX0_moveGlances_69 hl (k := 1) rfl (nI_1 i33) (by decide) rfl (fun ls hl => ?_)
            refine lv_goto (tgt := 33) hx hb dX0_moveGlances_72 (by decide) ?_
            have e33 : dArrs L (dM1 f r L) (i33 + 1) = dArr (dArrs L (dM1 f r L) i33).1 (dArrs L (dM1 f r L) i33).2 (L.getD i33 0 / 10) (L.getD i33 0 % 10) := by simp only [dArrs, if_pos c_54]
            have hP : va_P D vwCl (DC cI a (dArrs L (dM1 f r L) (i33 + 1)).1 (dArrs L (dM1 f r L) (i33 + 1)).2) H := by rw [e33]; exact hP
            have hD : va_D A (DC cI a (dArrs L (dM1 f r L) (i33 + 1)).1 (dArrs L (dM1 f r L) (i33 + 1)).2) := by rw [e33]; exact hD
            exact ih33 (i33 + 1) (by omega) _ _ _ hP hD hS (lv_sub hl [0, 2] rfl)
      exact loop33 L.length 0 (by omega) _ _ _ hP hD hS (lv_sub hl [0, 1] rfl)
    | succ j ih2 =>
      intro i2 hi2 H locs ls hP hD hS hl
      have hp2 := dgt ht i2
      refine lv_iload_n hx hb dX0_moveGlances_2 rfl (lv_at hl 0 rfl) ?_
      refine lv_aload_n hx hb dX0_moveGlances_3 rfl (lv_at hl 1 rfl) ?_
      refine va_get (D := D) (ci := 0) (v := .int (f 9)) (C := RX0) (T := TX0) (N := 17) hx hb hw0 (fun _ h => h) hown hK hP 0 rfl rfl 9 (by decide) k65 (fun _ h9 => h9) rfl dX0_moveGlances_4 ?_
      refine lv_icmp_ge (tgt := 31) hx hb dX0_moveGlances_7 (by decide) (fun h9 => absurd h9 (by rw [hn]; exact nI_ge (by omega) (by omega))) (fun c_7 => ?_)
      refine lv_aload_n hx hb dX0_moveGlances_10 rfl (lv_at hl 1 rfl) ?_
      refine va_get (D := D) (ci := 0) (v := .ref (a 5)) (C := RX0) (T := TX0) (N := 17) hx hb hw0 (fun _ h => h) hown hK hP 0 rfl rfl 14 (by decide) k24 (fun _ h9 => h9) rfl dX0_moveGlances_11 ?_
      refine lv_aload_n hx hb dX0_moveGlances_14 rfl (lv_at hl 1 rfl) ?_
      refine va_get (D := D) (ci := 0) (v := .ref (a 7)) (C := RX0) (T := TX0) (N := 17) hx hb hw0 (fun _ h => h) hown hK hP 0 rfl rfl 16 (by decide) k30 (fun _ h9 => h9) rfl dX0_moveGlances_15 ?_
      refine lv_iload_n hx hb dX0_moveGlances_18 rfl (lv_at hl 0 rfl) ?_
      refine wIald hx hb hK hP 7 0 rfl rfl i2 rfl (by omega) (by decide) dX0_moveGlances_19 ?_
      refine wTop (z := nI (L.getD i2 0)) (ho i2 (by omega)) ?_
      refine lv_dup2_11 hx hb dX0_moveGlances_20 rfl rfl ?_
      refine wIald hx hb hK hP 5 0 rfl rfl (L.getD i2 0) rfl (by omega) (by decide) dX0_moveGlances_21 ?_
      refine lv_iconst (v := 1) hx hb dX0_moveGlances_22 (by decide) ?_
      refine lv_isub hx hb dX0_moveGlances_23 ?_
      refine wIast hx hb hK hP hD hS 5 0 rfl rfl (L.getD i2 0) rfl (by omega) (by decide) dX0_moveGlances_24 (fun H locs hP hD hS => ?_)
      have hP : va_P D vwCl (DC cI a f (va_up r 4 (upd (dDec (r 4) L i2) (L.getD i2 0) (((dDec (r 4) L i2) (L.getD i2 0)) - 1)))) H := hP
      have hD : va_D A (DC cI a f (va_up r 4 (upd (dDec (r 4) L i2) (L.getD i2 0) (((dDec (r 4) L i2) (L.getD i2 0)) - 1)))) := hD
      refine lv_iinc (v := nI (i2 + 1)) (lv' := [(1, .int (nI (i2 + 1))), (0, .ref (a 0))]) hx hb dX0_moveGlances_25 hl (k := 0) rfl (nI_1 i2) (by decide) rfl (fun ls hl => ?_)
      refine lv_goto (tgt := 2) hx hb dX0_moveGlances_28 (by decide) ?_
      exact ih2 (i2 + 1) (by omega) _ _ _ hP hD hS (lv_sub hl [0, 1] rfl)
  exact loop2 L.length 0 (by omega) _ _ _ hP hD hS (lv_sub hl [0, 1] rfl)
abbrev rmX0_goOneSecond : Room := { frames := 3, cells := 0, slots := 0, locals := 67 }
set_option maxRecDepth 100000 in
set_option maxHeartbeats 4000000 in
/-- goOneSecond -/
theorem mX0_goOneSecond (l : Launch) (D : va_G) (cI : ClassId) (a : Nat → Nat) (f : Nat → Int32) (r : Nat → Nat → Int32) (L : List Nat) (sz : Nat) (hk : dOk f r L) : wCt l yX0_goOneSecond wsX0_goOneSecond rmX0_goOneSecond D [(cI, .int)] [.ref (a 0)] (DC cI a f r) sz 0 0 (wQv D (fun u : dS => u = dSec f r L) (fun u : dS => DCs cI a u)) := by
  refine wMet cX0_goOneSecond 1 none (by decide) rfl (Nat.le_of_ble_eq_true rfl) ?_
  intro p e s m args below meth c A Q ls hQ hx hb hr hml hown hlocks hin hts hN hP hK hD hA hS hl
  have hl : lv_has ls 1 [(0, .ref (a 0))] := hl
  have hown : s.vm.findClass RX0 = some m.cls := hown
  have hw0 : ∀ w ∈ wsX00, w.before args s = true := fun w h => hts w (List.mem_cons_of_mem _ (List.mem_append_right _ h))
  have k44 := hts (.fieldLink RX0 44 "PauseLedger$Dinner" "seconds" "I") (by decide +kernel)
  refine lv_aload_n hx hb dX0_goOneSecond_0 rfl (lv_at hl 0 rfl) ?_
  refine wCVv (pre := ([] : va_W)) (Wc := DC cI a f r) (suf := ([] : va_W)) (As := []) (rest := []) ⟨hx, hb, hml, hown, hts⟩ (mX0_speakOrPause l D cI a f r _ hk.1) hN hA hK hS hP hD rfl 0 (r := (RX0, TX0, 17)) rfl rfl (cwV 0 hts gX0_goOneSecond_X0_speakOrPause rfl rfl rfl (by decide +kernel) ⟨Nat.le_of_ble_eq_true rfl, Nat.le_of_ble_eq_true rfl⟩) rfl hl.1 rfl (Nat.le_of_ble_eq_true rfl) dX0_goOneSecond_1 ⟨Nat.zero_le _, Nat.zero_le _⟩ (fun u_1 H locs hw hP hD hS => ?_)
  subst hw
  have hP : va_P D vwCl (DC cI a (dTalk f r).1 (dTalk f r).2) H := hP
  have hD : va_D A (DC cI a (dTalk f r).1 (dTalk f r).2) := hD
  refine lv_aload_n hx hb dX0_goOneSecond_4 rfl (lv_at hl 0 rfl) ?_
  refine wCVv (pre := ([] : va_W)) (Wc := DC cI a (dTalk f r).1 (dTalk f r).2) (suf := ([] : va_W)) (As := []) (rest := []) ⟨hx, hb, hml, hown, hts⟩ (mX0_moveGlances l D cI a (dTalk f r).1 (dTalk f r).2 L _ (by rw [dTalk9]; exact hk.2.1) (by rw [dTalk6]; exact hk.2.2.1) hk.2.2.2.1 hk.2.2.2.2) hN hA hK hS hP hD rfl 0 (r := (RX0, TX0, 17)) rfl rfl (cwV 0 hts gX0_goOneSecond_X0_moveGlances rfl rfl rfl (by decide +kernel) ⟨Nat.le_of_ble_eq_true rfl, Nat.le_of_ble_eq_true rfl⟩) rfl hl.1 rfl (Nat.le_of_ble_eq_true rfl) dX0_goOneSecond_5 ⟨Nat.zero_le _, Nat.zero_le _⟩ (fun u_5 H locs hw hP hD hS => ?_)
  subst hw
  have hP : va_P D vwCl (DC cI a (dMove (dTalk f r).1 (dTalk f r).2 L).1 (dMove (dTalk f r).1 (dTalk f r).2 L).2) H := hP
  have hD : va_D A (DC cI a (dMove (dTalk f r).1 (dTalk f r).2 L).1 (dMove (dTalk f r).1 (dTalk f r).2 L).2) := hD
  refine lv_aload_n hx hb dX0_goOneSecond_8 rfl (lv_at hl 0 rfl) ?_
  refine lv_dup hx hb dX0_goOneSecond_9 rfl ?_
  refine va_get (D := D) (ci := 0) (v := .int ((dMove (dTalk f r).1 (dTalk f r).2 L).1 1)) (C := RX0) (T := TX0) (N := 17) hx hb hw0 (fun _ h => h) hown hK hP 0 rfl rfl 1 (by decide) k44 (fun _ h9 => h9) rfl dX0_goOneSecond_10 ?_
  refine lv_iconst (v := 1) hx hb dX0_goOneSecond_13 (by decide) ?_
  refine lv_iadd hx hb dX0_goOneSecond_14 ?_
  refine va_put (D := D) (ci := 0) (v := .int (((dMove (dTalk f r).1 (dTalk f r).2 L).1 1) + 1)) (ty := .int) (C := RX0) (T := TX0) (N := 17) hx hb hw0 (fun _ h => h) tyX0 tyX0_ok nmX0 hown hK hP hD hS 0 rfl rfl 1 (by decide) k44 (fun _ h9 => h9) rfl (by decide +kernel) rfl rfl (Nat.le_of_ble_eq_true rfl) dX0_goOneSecond_15 (fun H locs hP hD hS => ?_)
  have hP : va_P D vwCl (DC cI a (upd (dMove (dTalk f r).1 (dTalk f r).2 L).1 1 (((dMove (dTalk f r).1 (dTalk f r).2 L).1 1) + 1)) (dMove (dTalk f r).1 (dTalk f r).2 L).2) H := hP
  have hD : va_D A (DC cI a (upd (dMove (dTalk f r).1 (dTalk f r).2 L).1 1 (((dMove (dTalk f r).1 (dTalk f r).2 L).1 1) + 1)) (dMove (dTalk f r).1 (dTalk f r).2 L).2) := hD
  exact wRv hQ hx hb hr hlocks hP hD hS dX0_goOneSecond_18 ((upd (dMove (dTalk f r).1 (dTalk f r).2 L).1 1 (((dMove (dTalk f r).1 (dTalk f r).2 L).1 1) + 1)), (dMove (dTalk f r).1 (dTalk f r).2 L).2) (rfl) rfl
abbrev rmX0_goBy : Room := { frames := 4, cells := 0, slots := 0, locals := 87 }
set_option maxRecDepth 100000 in
set_option maxHeartbeats 4000000 in
/-- goBy -/
theorem mX0_goBy (l : Launch) (D : va_G) (cI : ClassId) (a : Nat → Nat) (f : Nat → Int32) (r : Nat → Nat → Int32) (L : List Nat) (n : Nat) (sz : Nat) (hn : n < 2 ^ 31) (hk : ∀ i, i < n → dOk (dGo (f, r) L i).1.1 (dGo (f, r) L i).1.2 (dGo (f, r) L i).2) : wCt l yX0_goBy wsX0_goBy rmX0_goBy D [(cI, .int)] [.ref (a 0), .int (nI n)] (DC cI a f r) sz 0 0 (wQv D (fun u : dS => u = (dGo (f, r) L n).1) (fun u : dS => DCs cI a u)) := by
  refine wMet cX0_goBy 3 none (by decide) rfl (Nat.le_of_ble_eq_true rfl) ?_
  intro p e s m args below meth c A Q ls hQ hx hb hr hml hown hlocks hin hts hN hP hK hD hA hS hl
  have hl : lv_has ls 3 [(0, .ref (a 0)), (1, .int (nI n))] := hl
  have hown : s.vm.findClass RX0 = some m.cls := hown
  refine lv_iconst (v := 0) hx hb dX0_goBy_0 (by decide) ?_
  refine lv_istore_n (lv' := [(2, .int 0), (0, .ref (a 0)), (1, .int (nI n))]) hx hb dX0_goBy_1 rfl hl (by decide) rfl (fun ls hl => ?_)
  have loop2 : ∀ (j i2 : Nat), i2 + j = n → ∀ (H : Heap) (locs : List Loc) (ls : Array Slot), va_P D vwCl (DC cI a (dGo (f, r) L i2).1.1 (dGo (f, r) L i2).1.2) H → va_D A (DC cI a (dGo (f, r) L i2).1.1 (dGo (f, r) L i2).1.2) → va_S A s.heap H locs → lv_has ls 3 [(2, .int (nI i2)), (0, .ref (a 0)), (1, .int (nI n))] → W p l e rmX0_goBy s m args below meth c H locs 0 0 Q (F0 m 2 ls []) := by
    intro j
    induction j with
    | zero =>
      intro i2 hi2 H locs ls hP hD hS hl
      have ez : n = i2 := by omega
      subst ez
      refine lv_iload_n hx hb dX0_goBy_2 rfl (lv_at hl 0 rfl) ?_
      refine lv_iload_n hx hb dX0_goBy_3 rfl (lv_at hl 2 rfl) ?_
      refine lv_icmp_ge (tgt := 17) hx hb dX0_goBy_4 (by decide) (fun c_4 => ?_) (fun h9 => absurd (nI_le (by omega) (by omega)) h9)
      have c_4n := (nI_leI (a := n) (b := n) (by omega) (by omega)).mp c_4
      exact wRv hQ hx hb hr hlocks hP hD hS dX0_goBy_17 ((dGo (f, r) L n).1.1, (dGo (f, r) L n).1.2) (rfl) rfl
    | succ j ih2 =>
      intro i2 hi2 H locs ls hP hD hS hl
      refine lv_iload_n hx hb dX0_goBy_2 rfl (lv_at hl 0 rfl) ?_
      refine lv_iload_n hx hb dX0_goBy_3 rfl (lv_at hl 2 rfl) ?_
      refine lv_icmp_ge (tgt := 17) hx hb dX0_goBy_4 (by decide) (fun h9 => absurd h9 (nI_ge (by omega) (by omega))) (fun c_4 => ?_)
      have c_4n := mt (nI_leI (a := n) (b := i2) (by omega) (by omega)).mpr c_4
      refine lv_aload_n hx hb dX0_goBy_7 rfl (lv_at hl 1 rfl) ?_
      refine wCVv (pre := ([] : va_W)) (Wc := DC cI a (dGo (f, r) L i2).1.1 (dGo (f, r) L i2).1.2) (suf := ([] : va_W)) (As := []) (rest := []) ⟨hx, hb, hml, hown, hts⟩ (mX0_goOneSecond l D cI a (dGo (f, r) L i2).1.1 (dGo (f, r) L i2).1.2 (dGo (f, r) L i2).2 _ (hk i2 (by omega))) hN hA hK hS hP hD rfl 0 (r := (RX0, TX0, 17)) rfl rfl (cwV 0 hts gX0_goBy_X0_goOneSecond rfl rfl rfl (by decide +kernel) ⟨Nat.le_of_ble_eq_true rfl, Nat.le_of_ble_eq_true rfl⟩) rfl hl.1 rfl (Nat.le_of_ble_eq_true rfl) dX0_goBy_8 ⟨Nat.zero_le _, Nat.zero_le _⟩ (fun u_8 H locs hw hP hD hS => ?_)
      subst hw
      have hP : va_P D vwCl (DC cI a (dSec (dGo (f, r) L i2).1.1 (dGo (f, r) L i2).1.2 (dGo (f, r) L i2).2).1 (dSec (dGo (f, r) L i2).1.1 (dGo (f, r) L i2).1.2 (dGo (f, r) L i2).2).2) H := hP
      have hD : va_D A (DC cI a (dSec (dGo (f, r) L i2).1.1 (dGo (f, r) L i2).1.2 (dGo (f, r) L i2).2).1 (dSec (dGo (f, r) L i2).1.1 (dGo (f, r) L i2).1.2 (dGo (f, r) L i2).2).2) := hD
      refine lv_iinc (v := nI (i2 + 1)) (lv' := [(2, .int (nI (i2 + 1))), (0, .ref (a 0)), (1, .int (nI n))]) hx hb dX0_goBy_11 hl (k := 0) rfl (nI_1 i2) (by decide) rfl (fun ls hl => ?_)
      refine lv_goto (tgt := 2) hx hb dX0_goBy_14 (by decide) ?_
      exact ih2 (i2 + 1) (by omega) _ _ _ hP hD hS (lv_sub hl [0, 1, 2] rfl)
  exact loop2 n 0 (by omega) _ _ _ hP hD hS (lv_sub hl [0, 1, 2] rfl)
end
section
theorem wCpy {g h : Nat → Int32} {n j : Nat} (hj : j < n) : va_cpy g h 0 0 n j = g j := by
  rw [pk_cpy_in (Nat.zero_le _) (by omega)]
  simp
end
section
abbrev rmJ7_fill_53178 : Room := { frames := 0, cells := 0, slots := 0, locals := 0 }
set_option maxRecDepth 100000 in
set_option maxHeartbeats 4000000 in
/-- Arrays.fill -/
theorem mJ7_fill_53178 (l : Launch) (D : va_G) (cI : ClassId) (q N : Nat) (h : Nat → Int32) (v : Int32) (sz : Nat) (hN1 : N < 2 ^ 31) : wCt l yJ7_fill_53178 wsJ7_fill_53178 rmJ7_fill_53178 D [(cI, .int)] [.ref q, .int v] ([(q, .inl (cI, N, .inl h))]) sz 0 0 (wQv D (fun _ : Unit => True) (fun _ : Unit => [(q, .inl (cI, N, .inl (fun _ => v)))])) := by
  refine wMet cJ7_fill_53178 4 none (by decide) rfl (Nat.le_of_ble_eq_true rfl) ?_
  intro p e s m args below meth c A Q ls hQ hx hb hr hml hown hlocks hin hts hN hP hK hD hA hS hl
  have hl : lv_has ls 4 [(0, .ref q), (1, .int v)] := hl
  have hown : s.vm.findClass RJ7 = some m.cls := hown
  refine lv_iconst (v := 0) hx hb dJ7_fill_53178_0 (by decide) ?_
  refine lv_istore_n (lv' := [(2, .int 0), (0, .ref q), (1, .int v)]) hx hb dJ7_fill_53178_1 rfl hl (by decide) rfl (fun ls hl => ?_)
  refine lv_aload_n hx hb dJ7_fill_53178_2 rfl (lv_at hl 1 rfl) ?_
  refine va_alen (v := nI N) hx hb hK hP 0 0 rfl rfl rfl dJ7_fill_53178_3 ?_
  refine lv_istore_n (lv' := [(3, .int (nI N)), (2, .int 0), (0, .ref q), (1, .int v)]) hx hb dJ7_fill_53178_4 rfl hl (by decide) rfl (fun ls hl => ?_)
  have loop5 : ∀ (j i5 : Nat), i5 + j = N → ∀ (H : Heap) (locs : List Loc) (ls : Array Slot), va_P D vwCl ([(q, .inl (cI, N, .inl (dFill h v i5)))]) H → va_D A ([(q, .inl (cI, N, .inl (dFill h v i5)))]) → va_S A s.heap H locs → lv_has ls 4 [(2, .int (nI i5)), (3, .int (nI N)), (0, .ref q), (1, .int v)] → W p l e rmJ7_fill_53178 s m args below meth c H locs 0 0 Q (F0 m 5 ls []) := by
    intro j
    induction j with
    | zero =>
      intro i5 hi5 H locs ls hP hD hS hl
      have ez : N = i5 := by omega
      subst ez
      refine lv_iload_n hx hb dJ7_fill_53178_5 rfl (lv_at hl 0 rfl) ?_
      refine lv_iload_n hx hb dJ7_fill_53178_6 rfl (lv_at hl 1 rfl) ?_
      refine lv_icmp_ge (tgt := 20) hx hb dJ7_fill_53178_7 (by decide) (fun c_7 => ?_) (fun h9 => absurd (nI_le (Nat.le_refl _) hN1) h9)
      have c_7n := (nI_leI (a := N) (b := N) (by omega) (by omega)).mp c_7
      have eq9 : wEq D [(q, .inl (cI, N, .inl (dFill h v N)))] [(q, .inl (cI, N, .inl (fun _ => v)))] := wEq.row (fun j hj => if_pos hj) wEq.nil
      have hP := eq9.P hP
      have hD := eq9.D hD
      exact wRv hQ hx hb hr hlocks hP hD hS dJ7_fill_53178_20 () (trivial) rfl
    | succ j ih5 =>
      intro i5 hi5 H locs ls hP hD hS hl
      refine lv_iload_n hx hb dJ7_fill_53178_5 rfl (lv_at hl 0 rfl) ?_
      refine lv_iload_n hx hb dJ7_fill_53178_6 rfl (lv_at hl 1 rfl) ?_
      refine lv_icmp_ge (tgt := 20) hx hb dJ7_fill_53178_7 (by decide) (fun h9 => absurd h9 (nI_ge (by omega) (by omega))) (fun c_7 => ?_)
      have c_7n := mt (nI_leI (a := N) (b := i5) (by omega) (by omega)).mpr c_7
      refine lv_aload_n hx hb dJ7_fill_53178_10 rfl (lv_at hl 2 rfl) ?_
      refine lv_iload_n hx hb dJ7_fill_53178_11 rfl (lv_at hl 0 rfl) ?_
      refine lv_iload_n hx hb dJ7_fill_53178_12 rfl (lv_at hl 3 rfl) ?_
      refine wIast hx hb hK hP hD hS 0 0 rfl rfl i5 rfl (by omega) (by omega) dJ7_fill_53178_13 (fun H locs hP hD hS => ?_)
      have hP : va_P D vwCl ([(q, .inl (cI, N, .inl (upd (dFill h v i5) i5 v)))]) H := hP
      have hD : va_D A ([(q, .inl (cI, N, .inl (upd (dFill h v i5) i5 v)))]) := hD
      refine lv_iinc (v := nI (i5 + 1)) (lv' := [(2, .int (nI (i5 + 1))), (3, .int (nI N)), (0, .ref q), (1, .int v)]) hx hb dJ7_fill_53178_14 hl (k := 0) rfl (nI_1 i5) (by decide) rfl (fun ls hl => ?_)
      refine lv_goto (tgt := 5) hx hb dJ7_fill_53178_17 (by decide) ?_
      have hP : va_P D vwCl ([(q, .inl (cI, N, .inl (dFill h v (i5 + 1))))]) H := by rw [← dFill_s]; exact hP
      have hD : va_D A ([(q, .inl (cI, N, .inl (dFill h v (i5 + 1))))]) := by rw [← dFill_s]; exact hD
      exact ih5 (i5 + 1) (by omega) _ _ _ hP hD hS (lv_sub hl [0, 1, 2, 3] rfl)
  have hP : va_P D vwCl ([(q, .inl (cI, N, .inl (dFill h v 0)))]) s.heap := by rw [dFill_0]; exact hP
  have hD : va_D A ([(q, .inl (cI, N, .inl (dFill h v 0)))]) := by rw [dFill_0]; exact hD
  exact loop5 N 0 (by omega) _ _ _ hP hD hS (lv_sub hl [1, 0, 2, 3] rfl)
abbrev rmX0_begin : Room := { frames := 1, cells := 0, slots := 0, locals := 23 }
set_option maxRecDepth 100000 in
set_option maxHeartbeats 4000000 in
/-- begin -/
theorem mX0_begin (l : Launch) (D : va_G) (cI : ClassId) (a : Nat → Nat) (f : Nat → Int32) (r : Nat → Nat → Int32) (x : Int32) (sz : Nat) : wCt l yX0_begin wsX0_begin rmX0_begin D [(cI, .int)] [.ref (a 0), .int x] (DC cI a f r) sz 0 0 (wQv D (fun u : dS => u = (dBeginF f x, dBeginR r)) (fun u : dS => DCs cI a u)) := by
  refine wMet cX0_begin 2 none (by decide) rfl (Nat.le_of_ble_eq_true rfl) ?_
  intro p e s m args below meth c A Q ls hQ hx hb hr hml hown hlocks hin hts hN hP hK hD hA hS hl
  have hl : lv_has ls 2 [(0, .ref (a 0)), (1, .int x)] := hl
  have hown : s.vm.findClass RX0 = some m.cls := hown
  have hw0 : ∀ w ∈ wsX00, w.before args s = true := fun w h => hts w (List.mem_cons_of_mem _ (List.mem_append_right _ h))
  have k9 := hts (.fieldLink RX0 9 "PauseLedger$Dinner" "spoken" "[I") (by decide +kernel)
  have k15 := hts (.fieldLink RX0 15 "PauseLedger$Dinner" "interruptions" "[I") (by decide +kernel)
  have k18 := hts (.fieldLink RX0 18 "PauseLedger$Dinner" "coughs" "[I") (by decide +kernel)
  have k21 := hts (.fieldLink RX0 21 "PauseLedger$Dinner" "unsaid" "[I") (by decide +kernel)
  have k24 := hts (.fieldLink RX0 24 "PauseLedger$Dinner" "toGo" "[I") (by decide +kernel)
  have k27 := hts (.fieldLink RX0 27 "PauseLedger$Dinner" "caught" "[I") (by decide +kernel)
  have k41 := hts (.fieldLink RX0 41 "PauseLedger$Dinner" "guests" "I") (by decide +kernel)
  have k44 := hts (.fieldLink RX0 44 "PauseLedger$Dinner" "seconds" "I") (by decide +kernel)
  have k47 := hts (.fieldLink RX0 47 "PauseLedger$Dinner" "speaker" "I") (by decide +kernel)
  have k50 := hts (.fieldLink RX0 50 "PauseLedger$Dinner" "toSpeak" "I") (by decide +kernel)
  have k53 := hts (.fieldLink RX0 53 "PauseLedger$Dinner" "pause" "I") (by decide +kernel)
  have k56 := hts (.fieldLink RX0 56 "PauseLedger$Dinner" "unsaidInPauses" "I") (by decide +kernel)
  have k59 := hts (.fieldLink RX0 59 "PauseLedger$Dinner" "meetings" "I") (by decide +kernel)
  have k62 := hts (.fieldLink RX0 62 "PauseLedger$Dinner" "lost" "I") (by decide +kernel)
  have k65 := hts (.fieldLink RX0 65 "PauseLedger$Dinner" "sent" "I") (by decide +kernel)
  refine lv_aload_n hx hb dX0_begin_0 rfl (lv_at hl 0 rfl) ?_
  refine lv_iload_n hx hb dX0_begin_1 rfl (lv_at hl 1 rfl) ?_
  refine va_put (D := D) (ci := 0) (v := .int x) (ty := .int) (C := RX0) (T := TX0) (N := 17) hx hb hw0 (fun _ h => h) tyX0 tyX0_ok nmX0 hown hK hP hD hS 0 rfl rfl 0 (by decide) k41 (fun _ h9 => h9) rfl (by decide +kernel) rfl rfl (Nat.le_of_ble_eq_true rfl) dX0_begin_2 (fun H locs hP hD hS => ?_)
  have hP : va_P D vwCl (DC cI a (upd f 0 x) r) H := hP
  have hD : va_D A (DC cI a (upd f 0 x) r) := hD
  refine lv_aload_n hx hb dX0_begin_5 rfl (lv_at hl 0 rfl) ?_
  refine lv_iconst (v := 0) hx hb dX0_begin_6 (by decide) ?_
  refine va_put (D := D) (ci := 0) (v := .int 0) (ty := .int) (C := RX0) (T := TX0) (N := 17) hx hb hw0 (fun _ h => h) tyX0 tyX0_ok nmX0 hown hK hP hD hS 0 rfl rfl 1 (by decide) k44 (fun _ h9 => h9) rfl (by decide +kernel) rfl rfl (Nat.le_of_ble_eq_true rfl) dX0_begin_7 (fun H locs hP hD hS => ?_)
  have hP : va_P D vwCl (DC cI a (upd (upd f 0 x) 1 0) r) H := hP
  have hD : va_D A (DC cI a (upd (upd f 0 x) 1 0) r) := hD
  refine lv_aload_n hx hb dX0_begin_10 rfl (lv_at hl 0 rfl) ?_
  refine lv_iconst (v := (-1)) hx hb dX0_begin_11 (by decide) ?_
  refine va_put (D := D) (ci := 0) (v := .int (-1)) (ty := .int) (C := RX0) (T := TX0) (N := 17) hx hb hw0 (fun _ h => h) tyX0 tyX0_ok nmX0 hown hK hP hD hS 0 rfl rfl 3 (by decide) k47 (fun _ h9 => h9) rfl (by decide +kernel) rfl rfl (Nat.le_of_ble_eq_true rfl) dX0_begin_12 (fun H locs hP hD hS => ?_)
  have hP : va_P D vwCl (DC cI a (upd (upd (upd f 0 x) 1 0) 3 (-1)) r) H := hP
  have hD : va_D A (DC cI a (upd (upd (upd f 0 x) 1 0) 3 (-1)) r) := hD
  refine lv_aload_n hx hb dX0_begin_15 rfl (lv_at hl 0 rfl) ?_
  refine lv_iconst (v := 0) hx hb dX0_begin_16 (by decide) ?_
  refine va_put (D := D) (ci := 0) (v := .int 0) (ty := .int) (C := RX0) (T := TX0) (N := 17) hx hb hw0 (fun _ h => h) tyX0 tyX0_ok nmX0 hown hK hP hD hS 0 rfl rfl 4 (by decide) k50 (fun _ h9 => h9) rfl (by decide +kernel) rfl rfl (Nat.le_of_ble_eq_true rfl) dX0_begin_17 (fun H locs hP hD hS => ?_)
  have hP : va_P D vwCl (DC cI a (upd (upd (upd (upd f 0 x) 1 0) 3 (-1)) 4 0) r) H := hP
  have hD : va_D A (DC cI a (upd (upd (upd (upd f 0 x) 1 0) 3 (-1)) 4 0) r) := hD
  refine lv_aload_n hx hb dX0_begin_20 rfl (lv_at hl 0 rfl) ?_
  refine lv_iconst (v := 0) hx hb dX0_begin_21 (by decide) ?_
  refine va_put (D := D) (ci := 0) (v := .int 0) (ty := .int) (C := RX0) (T := TX0) (N := 17) hx hb hw0 (fun _ h => h) tyX0 tyX0_ok nmX0 hown hK hP hD hS 0 rfl rfl 5 (by decide) k53 (fun _ h9 => h9) rfl (by decide +kernel) rfl rfl (Nat.le_of_ble_eq_true rfl) dX0_begin_22 (fun H locs hP hD hS => ?_)
  have hP : va_P D vwCl (DC cI a (upd (upd (upd (upd (upd f 0 x) 1 0) 3 (-1)) 4 0) 5 0) r) H := hP
  have hD : va_D A (DC cI a (upd (upd (upd (upd (upd f 0 x) 1 0) 3 (-1)) 4 0) 5 0) r) := hD
  refine lv_aload_n hx hb dX0_begin_25 rfl (lv_at hl 0 rfl) ?_
  refine lv_iconst (v := 0) hx hb dX0_begin_26 (by decide) ?_
  refine va_put (D := D) (ci := 0) (v := .int 0) (ty := .int) (C := RX0) (T := TX0) (N := 17) hx hb hw0 (fun _ h => h) tyX0 tyX0_ok nmX0 hown hK hP hD hS 0 rfl rfl 6 (by decide) k56 (fun _ h9 => h9) rfl (by decide +kernel) rfl rfl (Nat.le_of_ble_eq_true rfl) dX0_begin_27 (fun H locs hP hD hS => ?_)
  have hP : va_P D vwCl (DC cI a (upd (upd (upd (upd (upd (upd f 0 x) 1 0) 3 (-1)) 4 0) 5 0) 6 0) r) H := hP
  have hD : va_D A (DC cI a (upd (upd (upd (upd (upd (upd f 0 x) 1 0) 3 (-1)) 4 0) 5 0) 6 0) r) := hD
  refine lv_aload_n hx hb dX0_begin_30 rfl (lv_at hl 0 rfl) ?_
  refine lv_iconst (v := 0) hx hb dX0_begin_31 (by decide) ?_
  refine va_put (D := D) (ci := 0) (v := .int 0) (ty := .int) (C := RX0) (T := TX0) (N := 17) hx hb hw0 (fun _ h => h) tyX0 tyX0_ok nmX0 hown hK hP hD hS 0 rfl rfl 7 (by decide) k59 (fun _ h9 => h9) rfl (by decide +kernel) rfl rfl (Nat.le_of_ble_eq_true rfl) dX0_begin_32 (fun H locs hP hD hS => ?_)
  have hP : va_P D vwCl (DC cI a (upd (upd (upd (upd (upd (upd (upd f 0 x) 1 0) 3 (-1)) 4 0) 5 0) 6 0) 7 0) r) H := hP
  have hD : va_D A (DC cI a (upd (upd (upd (upd (upd (upd (upd f 0 x) 1 0) 3 (-1)) 4 0) 5 0) 6 0) 7 0) r) := hD
  refine lv_aload_n hx hb dX0_begin_35 rfl (lv_at hl 0 rfl) ?_
  refine lv_iconst (v := 0) hx hb dX0_begin_36 (by decide) ?_
  refine va_put (D := D) (ci := 0) (v := .int 0) (ty := .int) (C := RX0) (T := TX0) (N := 17) hx hb hw0 (fun _ h => h) tyX0 tyX0_ok nmX0 hown hK hP hD hS 0 rfl rfl 8 (by decide) k62 (fun _ h9 => h9) rfl (by decide +kernel) rfl rfl (Nat.le_of_ble_eq_true rfl) dX0_begin_37 (fun H locs hP hD hS => ?_)
  have hP : va_P D vwCl (DC cI a (upd (upd (upd (upd (upd (upd (upd (upd f 0 x) 1 0) 3 (-1)) 4 0) 5 0) 6 0) 7 0) 8 0) r) H := hP
  have hD : va_D A (DC cI a (upd (upd (upd (upd (upd (upd (upd (upd f 0 x) 1 0) 3 (-1)) 4 0) 5 0) 6 0) 7 0) 8 0) r) := hD
  refine lv_aload_n hx hb dX0_begin_40 rfl (lv_at hl 0 rfl) ?_
  refine lv_iconst (v := 0) hx hb dX0_begin_41 (by decide) ?_
  refine va_put (D := D) (ci := 0) (v := .int 0) (ty := .int) (C := RX0) (T := TX0) (N := 17) hx hb hw0 (fun _ h => h) tyX0 tyX0_ok nmX0 hown hK hP hD hS 0 rfl rfl 9 (by decide) k65 (fun _ h9 => h9) rfl (by decide +kernel) rfl rfl (Nat.le_of_ble_eq_true rfl) dX0_begin_42 (fun H locs hP hD hS => ?_)
  have hP : va_P D vwCl (DC cI a (upd (upd (upd (upd (upd (upd (upd (upd (upd f 0 x) 1 0) 3 (-1)) 4 0) 5 0) 6 0) 7 0) 8 0) 9 0) r) H := hP
  have hD : va_D A (DC cI a (upd (upd (upd (upd (upd (upd (upd (upd (upd f 0 x) 1 0) 3 (-1)) 4 0) 5 0) 6 0) 7 0) 8 0) 9 0) r) := hD
  refine lv_aload_n hx hb dX0_begin_45 rfl (lv_at hl 0 rfl) ?_
  refine va_get (D := D) (ci := 0) (v := .ref (a 1)) (C := RX0) (T := TX0) (N := 17) hx hb hw0 (fun _ h => h) hown hK hP 0 rfl rfl 10 (by decide) k9 (fun _ h9 => h9) rfl dX0_begin_46 ?_
  refine lv_iconst (v := 0) hx hb dX0_begin_49 (by decide) ?_
  refine wCSv (pre := (DC cI a (upd (upd (upd (upd (upd (upd (upd (upd (upd f 0 x) 1 0) 3 (-1)) 4 0) 5 0) 6 0) 7 0) 8 0) 9 0) r).take 1) (Wc := [(a 1, .inl (cI, 10, .inl (r 0)))]) (suf := (DC cI a (upd (upd (upd (upd (upd (upd (upd (upd (upd f 0 x) 1 0) 3 (-1)) 4 0) 5 0) 6 0) 7 0) 8 0) 9 0) r).drop 2) (As := [.ref (a 1), .int 0]) (rest := []) ⟨hx, hb, hml, hown, hts⟩ (mJ7_fill_53178 l D cI (a 1) 10 (r 0) 0 _ (by decide)) hN hA hK hS hP hD rfl (va_cwS 2 hts gX0_begin_J7_fill_53178 rfl rfl rfl (by decide +kernel) ⟨Nat.le_of_ble_eq_true rfl, Nat.le_of_ble_eq_true rfl⟩) rfl hl.1 rfl (Nat.le_of_ble_eq_true rfl) dX0_begin_50 ⟨Nat.zero_le _, Nat.zero_le _⟩ (fun u_50 H locs hw hP hD hS => ?_)
  have hP : va_P D vwCl (DC cI a (upd (upd (upd (upd (upd (upd (upd (upd (upd f 0 x) 1 0) 3 (-1)) 4 0) 5 0) 6 0) 7 0) 8 0) 9 0) (va_up r 0 (fun _ => 0))) H := hP
  have hD : va_D A (DC cI a (upd (upd (upd (upd (upd (upd (upd (upd (upd f 0 x) 1 0) 3 (-1)) 4 0) 5 0) 6 0) 7 0) 8 0) 9 0) (va_up r 0 (fun _ => 0))) := hD
  refine lv_aload_n hx hb dX0_begin_53 rfl (lv_at hl 0 rfl) ?_
  refine va_get (D := D) (ci := 0) (v := .ref (a 2)) (C := RX0) (T := TX0) (N := 17) hx hb hw0 (fun _ h => h) hown hK hP 0 rfl rfl 11 (by decide) k15 (fun _ h9 => h9) rfl dX0_begin_54 ?_
  refine lv_iconst (v := 0) hx hb dX0_begin_57 (by decide) ?_
  refine wCSv (pre := (DC cI a (upd (upd (upd (upd (upd (upd (upd (upd (upd f 0 x) 1 0) 3 (-1)) 4 0) 5 0) 6 0) 7 0) 8 0) 9 0) (va_up r 0 (fun _ => 0))).take 2) (Wc := [(a 2, .inl (cI, 10, .inl (r 1)))]) (suf := (DC cI a (upd (upd (upd (upd (upd (upd (upd (upd (upd f 0 x) 1 0) 3 (-1)) 4 0) 5 0) 6 0) 7 0) 8 0) 9 0) (va_up r 0 (fun _ => 0))).drop 3) (As := [.ref (a 2), .int 0]) (rest := []) ⟨hx, hb, hml, hown, hts⟩ (mJ7_fill_53178 l D cI (a 2) 10 (r 1) 0 _ (by decide)) hN hA hK hS hP hD rfl (va_cwS 2 hts gX0_begin_J7_fill_53178 rfl rfl rfl (by decide +kernel) ⟨Nat.le_of_ble_eq_true rfl, Nat.le_of_ble_eq_true rfl⟩) rfl hl.1 rfl (Nat.le_of_ble_eq_true rfl) dX0_begin_58 ⟨Nat.zero_le _, Nat.zero_le _⟩ (fun u_58 H locs hw hP hD hS => ?_)
  have hP : va_P D vwCl (DC cI a (upd (upd (upd (upd (upd (upd (upd (upd (upd f 0 x) 1 0) 3 (-1)) 4 0) 5 0) 6 0) 7 0) 8 0) 9 0) (va_up (va_up r 0 (fun _ => 0)) 1 (fun _ => 0))) H := hP
  have hD : va_D A (DC cI a (upd (upd (upd (upd (upd (upd (upd (upd (upd f 0 x) 1 0) 3 (-1)) 4 0) 5 0) 6 0) 7 0) 8 0) 9 0) (va_up (va_up r 0 (fun _ => 0)) 1 (fun _ => 0))) := hD
  refine lv_aload_n hx hb dX0_begin_61 rfl (lv_at hl 0 rfl) ?_
  refine va_get (D := D) (ci := 0) (v := .ref (a 3)) (C := RX0) (T := TX0) (N := 17) hx hb hw0 (fun _ h => h) hown hK hP 0 rfl rfl 12 (by decide) k18 (fun _ h9 => h9) rfl dX0_begin_62 ?_
  refine lv_iconst (v := 0) hx hb dX0_begin_65 (by decide) ?_
  refine wCSv (pre := (DC cI a (upd (upd (upd (upd (upd (upd (upd (upd (upd f 0 x) 1 0) 3 (-1)) 4 0) 5 0) 6 0) 7 0) 8 0) 9 0) (va_up (va_up r 0 (fun _ => 0)) 1 (fun _ => 0))).take 3) (Wc := [(a 3, .inl (cI, 10, .inl (r 2)))]) (suf := (DC cI a (upd (upd (upd (upd (upd (upd (upd (upd (upd f 0 x) 1 0) 3 (-1)) 4 0) 5 0) 6 0) 7 0) 8 0) 9 0) (va_up (va_up r 0 (fun _ => 0)) 1 (fun _ => 0))).drop 4) (As := [.ref (a 3), .int 0]) (rest := []) ⟨hx, hb, hml, hown, hts⟩ (mJ7_fill_53178 l D cI (a 3) 10 (r 2) 0 _ (by decide)) hN hA hK hS hP hD rfl (va_cwS 2 hts gX0_begin_J7_fill_53178 rfl rfl rfl (by decide +kernel) ⟨Nat.le_of_ble_eq_true rfl, Nat.le_of_ble_eq_true rfl⟩) rfl hl.1 rfl (Nat.le_of_ble_eq_true rfl) dX0_begin_66 ⟨Nat.zero_le _, Nat.zero_le _⟩ (fun u_66 H locs hw hP hD hS => ?_)
  have hP : va_P D vwCl (DC cI a (upd (upd (upd (upd (upd (upd (upd (upd (upd f 0 x) 1 0) 3 (-1)) 4 0) 5 0) 6 0) 7 0) 8 0) 9 0) (va_up (va_up (va_up r 0 (fun _ => 0)) 1 (fun _ => 0)) 2 (fun _ => 0))) H := hP
  have hD : va_D A (DC cI a (upd (upd (upd (upd (upd (upd (upd (upd (upd f 0 x) 1 0) 3 (-1)) 4 0) 5 0) 6 0) 7 0) 8 0) 9 0) (va_up (va_up (va_up r 0 (fun _ => 0)) 1 (fun _ => 0)) 2 (fun _ => 0))) := hD
  refine lv_aload_n hx hb dX0_begin_69 rfl (lv_at hl 0 rfl) ?_
  refine va_get (D := D) (ci := 0) (v := .ref (a 4)) (C := RX0) (T := TX0) (N := 17) hx hb hw0 (fun _ h => h) hown hK hP 0 rfl rfl 13 (by decide) k21 (fun _ h9 => h9) rfl dX0_begin_70 ?_
  refine lv_iconst (v := 0) hx hb dX0_begin_73 (by decide) ?_
  refine wCSv (pre := (DC cI a (upd (upd (upd (upd (upd (upd (upd (upd (upd f 0 x) 1 0) 3 (-1)) 4 0) 5 0) 6 0) 7 0) 8 0) 9 0) (va_up (va_up (va_up r 0 (fun _ => 0)) 1 (fun _ => 0)) 2 (fun _ => 0))).take 4) (Wc := [(a 4, .inl (cI, 10, .inl (r 3)))]) (suf := (DC cI a (upd (upd (upd (upd (upd (upd (upd (upd (upd f 0 x) 1 0) 3 (-1)) 4 0) 5 0) 6 0) 7 0) 8 0) 9 0) (va_up (va_up (va_up r 0 (fun _ => 0)) 1 (fun _ => 0)) 2 (fun _ => 0))).drop 5) (As := [.ref (a 4), .int 0]) (rest := []) ⟨hx, hb, hml, hown, hts⟩ (mJ7_fill_53178 l D cI (a 4) 10 (r 3) 0 _ (by decide)) hN hA hK hS hP hD rfl (va_cwS 2 hts gX0_begin_J7_fill_53178 rfl rfl rfl (by decide +kernel) ⟨Nat.le_of_ble_eq_true rfl, Nat.le_of_ble_eq_true rfl⟩) rfl hl.1 rfl (Nat.le_of_ble_eq_true rfl) dX0_begin_74 ⟨Nat.zero_le _, Nat.zero_le _⟩ (fun u_74 H locs hw hP hD hS => ?_)
  have hP : va_P D vwCl (DC cI a (upd (upd (upd (upd (upd (upd (upd (upd (upd f 0 x) 1 0) 3 (-1)) 4 0) 5 0) 6 0) 7 0) 8 0) 9 0) (va_up (va_up (va_up (va_up r 0 (fun _ => 0)) 1 (fun _ => 0)) 2 (fun _ => 0)) 3 (fun _ => 0))) H := hP
  have hD : va_D A (DC cI a (upd (upd (upd (upd (upd (upd (upd (upd (upd f 0 x) 1 0) 3 (-1)) 4 0) 5 0) 6 0) 7 0) 8 0) 9 0) (va_up (va_up (va_up (va_up r 0 (fun _ => 0)) 1 (fun _ => 0)) 2 (fun _ => 0)) 3 (fun _ => 0))) := hD
  refine lv_aload_n hx hb dX0_begin_77 rfl (lv_at hl 0 rfl) ?_
  refine va_get (D := D) (ci := 0) (v := .ref (a 5)) (C := RX0) (T := TX0) (N := 17) hx hb hw0 (fun _ h => h) hown hK hP 0 rfl rfl 14 (by decide) k24 (fun _ h9 => h9) rfl dX0_begin_78 ?_
  refine lv_iconst (v := (-1)) hx hb dX0_begin_81 (by decide) ?_
  refine wCSv (pre := (DC cI a (upd (upd (upd (upd (upd (upd (upd (upd (upd f 0 x) 1 0) 3 (-1)) 4 0) 5 0) 6 0) 7 0) 8 0) 9 0) (va_up (va_up (va_up (va_up r 0 (fun _ => 0)) 1 (fun _ => 0)) 2 (fun _ => 0)) 3 (fun _ => 0))).take 5) (Wc := [(a 5, .inl (cI, 100, .inl (r 4)))]) (suf := (DC cI a (upd (upd (upd (upd (upd (upd (upd (upd (upd f 0 x) 1 0) 3 (-1)) 4 0) 5 0) 6 0) 7 0) 8 0) 9 0) (va_up (va_up (va_up (va_up r 0 (fun _ => 0)) 1 (fun _ => 0)) 2 (fun _ => 0)) 3 (fun _ => 0))).drop 6) (As := [.ref (a 5), .int (-1)]) (rest := []) ⟨hx, hb, hml, hown, hts⟩ (mJ7_fill_53178 l D cI (a 5) 100 (r 4) (-1) _ (by decide)) hN hA hK hS hP hD rfl (va_cwS 2 hts gX0_begin_J7_fill_53178 rfl rfl rfl (by decide +kernel) ⟨Nat.le_of_ble_eq_true rfl, Nat.le_of_ble_eq_true rfl⟩) rfl hl.1 rfl (Nat.le_of_ble_eq_true rfl) dX0_begin_82 ⟨Nat.zero_le _, Nat.zero_le _⟩ (fun u_82 H locs hw hP hD hS => ?_)
  have hP : va_P D vwCl (DC cI a (upd (upd (upd (upd (upd (upd (upd (upd (upd f 0 x) 1 0) 3 (-1)) 4 0) 5 0) 6 0) 7 0) 8 0) 9 0) (va_up (va_up (va_up (va_up (va_up r 0 (fun _ => 0)) 1 (fun _ => 0)) 2 (fun _ => 0)) 3 (fun _ => 0)) 4 (fun _ => (-1)))) H := hP
  have hD : va_D A (DC cI a (upd (upd (upd (upd (upd (upd (upd (upd (upd f 0 x) 1 0) 3 (-1)) 4 0) 5 0) 6 0) 7 0) 8 0) 9 0) (va_up (va_up (va_up (va_up (va_up r 0 (fun _ => 0)) 1 (fun _ => 0)) 2 (fun _ => 0)) 3 (fun _ => 0)) 4 (fun _ => (-1)))) := hD
  refine lv_aload_n hx hb dX0_begin_85 rfl (lv_at hl 0 rfl) ?_
  refine va_get (D := D) (ci := 0) (v := .ref (a 6)) (C := RX0) (T := TX0) (N := 17) hx hb hw0 (fun _ h => h) hown hK hP 0 rfl rfl 15 (by decide) k27 (fun _ h9 => h9) rfl dX0_begin_86 ?_
  refine lv_iconst (v := 0) hx hb dX0_begin_89 (by decide) ?_
  refine wCSv (pre := (DC cI a (upd (upd (upd (upd (upd (upd (upd (upd (upd f 0 x) 1 0) 3 (-1)) 4 0) 5 0) 6 0) 7 0) 8 0) 9 0) (va_up (va_up (va_up (va_up (va_up r 0 (fun _ => 0)) 1 (fun _ => 0)) 2 (fun _ => 0)) 3 (fun _ => 0)) 4 (fun _ => (-1)))).take 6) (Wc := [(a 6, .inl (cI, 100, .inl (r 5)))]) (suf := (DC cI a (upd (upd (upd (upd (upd (upd (upd (upd (upd f 0 x) 1 0) 3 (-1)) 4 0) 5 0) 6 0) 7 0) 8 0) 9 0) (va_up (va_up (va_up (va_up (va_up r 0 (fun _ => 0)) 1 (fun _ => 0)) 2 (fun _ => 0)) 3 (fun _ => 0)) 4 (fun _ => (-1)))).drop 7) (As := [.ref (a 6), .int 0]) (rest := []) ⟨hx, hb, hml, hown, hts⟩ (mJ7_fill_53178 l D cI (a 6) 100 (r 5) 0 _ (by decide)) hN hA hK hS hP hD rfl (va_cwS 2 hts gX0_begin_J7_fill_53178 rfl rfl rfl (by decide +kernel) ⟨Nat.le_of_ble_eq_true rfl, Nat.le_of_ble_eq_true rfl⟩) rfl hl.1 rfl (Nat.le_of_ble_eq_true rfl) dX0_begin_90 ⟨Nat.zero_le _, Nat.zero_le _⟩ (fun u_90 H locs hw hP hD hS => ?_)
  have hP : va_P D vwCl (DC cI a (upd (upd (upd (upd (upd (upd (upd (upd (upd f 0 x) 1 0) 3 (-1)) 4 0) 5 0) 6 0) 7 0) 8 0) 9 0) (va_up (va_up (va_up (va_up (va_up (va_up r 0 (fun _ => 0)) 1 (fun _ => 0)) 2 (fun _ => 0)) 3 (fun _ => 0)) 4 (fun _ => (-1))) 5 (fun _ => 0))) H := hP
  have hD : va_D A (DC cI a (upd (upd (upd (upd (upd (upd (upd (upd (upd f 0 x) 1 0) 3 (-1)) 4 0) 5 0) 6 0) 7 0) 8 0) 9 0) (va_up (va_up (va_up (va_up (va_up (va_up r 0 (fun _ => 0)) 1 (fun _ => 0)) 2 (fun _ => 0)) 3 (fun _ => 0)) 4 (fun _ => (-1))) 5 (fun _ => 0))) := hD
  exact wRv hQ hx hb hr hlocks hP hD hS dX0_begin_93 ((upd (upd (upd (upd (upd (upd (upd (upd (upd f 0 x) 1 0) 3 (-1)) 4 0) 5 0) 6 0) 7 0) 8 0) 9 0), (va_up (va_up (va_up (va_up (va_up (va_up r 0 (fun _ => 0)) 1 (fun _ => 0)) 2 (fun _ => 0)) 3 (fun _ => 0)) 4 (fun _ => (-1))) 5 (fun _ => 0))) (rfl) rfl
end
section
section BD2
variable {p : Program} {l : Launch} {e : Env} {R : Room} {s : State} {m : MethodId} {args : Array Value} {below : List Frame} {meth : Method} {c : Code} {H : Heap} {locs : List Loc} {cells slots : Nat} {Q : State → Prop}
variable {y : MethodName} {bytes cc : ByteArray} {maxL nL mc ms n index : Nat} {ret : Option FieldType} {ws : List Cond} {rm : Room} {Ts : List Cond} {own C host : String} {b : Addr} {As rest st0 : List Value} {pc : Nat} {ls : Array Slot}
variable {D : va_G} {tys tysc : List (ClassId × FieldType)} {A0 : Nat → Prop} {H0 : Heap} {S : Type} {Wf : S → va_W}
theorem wKd {post : UInt64 → S → Prop} {pre Wc suf : va_W} {a : Array Value} (hr : va_Run p l e R s m args below meth c H locs cells slots 0 0 (F0 m pc ls st0) rest (wQd D post Wf (va_A Wc H.size) a) (va_A Wc H.size)) (hP : va_P D vwCl (pre ++ (Wc ++ suf)) H) (hD : va_D A0 (pre ++ (Wc ++ suf))) (hS : va_S A0 H0 H locs) (hA : ∀ q : Nat, H0.size ≤ q → A0 q)
    (kk : ∀ (r : UInt64) (u : S) (H1 : Heap) (locs1 : List Loc), post r u → va_P D vwCl (pre ++ (Wf u ++ suf)) H1 → va_D A0 (pre ++ (Wf u ++ suf)) → va_S A0 H0 H1 locs1 → W p l e R s m args below meth c H1 locs1 cells slots Q (F0 m (pc + 3) ls (.double r :: rest))) : W p l e R s m args below meth c H locs cells slots Q (F0 m pc ls st0) := by
  have hF := wFree (D := D) hD hS hA
  refine va_calld hr hS (fun q _ h => hF q h) hF (fun r u t H1 locs1 ht hvm hw hB hz1 hk1 hS1 => ?_)
  obtain ⟨hP1, hD1⟩ := hB
  rw [ht] at hP1
  obtain ⟨a1, a2⟩ := wFrame hP hD hk1 hF hP1 hD1
  exact kk r u H1 locs1 hw a1 a2 hS1
theorem wCVd {post : UInt64 → S → Prop} {W0 pre Wc suf : va_W} (F : CallFix p m c cc nL s args Ts own) (hM : wCt l y ws rm D tysc (.ref b :: As) Wc H.size 0 0 (wQd D post Wf)) (hN : wNest s) (hA : ∀ q : Nat, H0.size ≤ q → A0 q) (hK : va_K D vwCl tysc s) (hS : va_S A0 H0 H locs) (hP : va_P D vwCl W0 H) (hD : va_D A0 W0) (hW0 : W0 = pre ++ (Wc ++ suf)) (q0 : Nat) {ci : Nat} {fs : List Value} {r : vw_C} (hc : vwCl[ci]? = some r) (he : Wc[q0]? = some (b, .inr (ci, fs)))
    (cw : CallW R s args own r.1 index y bytes maxL ret ws rm 0 0 n) (hn : As.length = n) (hz : ls.size = nL) (hst : st0 = As.reverse ++ .ref b :: rest) (hr : (rest.map fun v => v.category).sum ≤ 8) (hdg : decode cc pc = .ok (.invokevirtual index, 3)) (hf : cells ≤ R.cells ∧ slots ≤ R.slots)
    (kk : ∀ (r : UInt64) (u : S) (H1 : Heap) (locs1 : List Loc), post r u → va_P D vwCl (pre ++ (Wf u ++ suf)) H1 → va_D A0 (pre ++ (Wf u ++ suf)) → va_S A0 H0 H1 locs1 → W p l e R s m args below meth c H1 locs1 cells slots Q (F0 m (pc + 3) ls (.double r :: rest))) : W p l e R s m args below meth c H locs cells slots Q (F0 m pc ls st0) := by
  subst hW0
  exact wKd (va_runV (As := As) (rest := rest) F hM cw (wPreV hN hK hP hD q0 hc he) rfl hn hz hst (lv_room hr) hdg hf) hP hD hS hA kk
theorem wRd {post : UInt64 → S → Prop} {W1 : va_W} (hQ : MQ below (wQd D post Wf A0) args s cells slots A0 = Q) (hx : p.tables.exec = Jvm.exec) (hb : c.code = cc) (hr : meth.sig.returnType = some .double) (hlocks : meth.locks = false) (hP : va_P D vwCl W1 H) (hD : va_D A0 W1) (hS : va_S A0 s.heap H locs) (hdg : decode cc pc = .ok (.dreturn, 1)) {v : UInt64} (u : S) (hu : post v u) (hW : W1 = Wf u) : W p l e R s m args below meth c H locs cells slots Q (F0 m pc ls [.double v]) := by
  subst hW
  rw [← hQ]
  exact W.dret hx hb hr (fun t ht hW => ⟨⟨v, u, rfl, hu, by rw [ht]; exact hP, hD⟩, hS.F ht⟩) hS.2.2 hdg hlocks
theorem wKlm {post : Int64 → S → Prop} {pre Wc suf : va_W} {a : Array Value} (hr : va_Run p l e R s m args below meth c H locs cells slots mc ms (F0 m pc ls st0) rest (wQl D post Wf (va_A Wc H.size) a) (va_A Wc H.size)) (hP : va_P D vwCl (pre ++ (Wc ++ suf)) H) (hD : va_D A0 (pre ++ (Wc ++ suf))) (hS : va_S A0 H0 H locs) (hA : ∀ q : Nat, H0.size ≤ q → A0 q)
    (kk : ∀ (r : Int64) (u : S) (H1 : Heap) (locs1 : List Loc), post r u → va_P D vwCl (pre ++ (Wf u ++ suf)) H1 → va_D A0 (pre ++ (Wf u ++ suf)) → va_S A0 H0 H1 locs1 → W p l e R s m args below meth c H1 locs1 (cells + mc) (slots + ms) Q (F0 m (pc + 3) ls (.long r :: rest))) : W p l e R s m args below meth c H locs cells slots Q (F0 m pc ls st0) := by
  have hF := wFree (D := D) hD hS hA
  refine va_calll hr hS (fun q _ h => hF q h) hF (fun r u t H1 locs1 ht hvm hw hB hz1 hk1 hS1 => ?_)
  obtain ⟨hP1, hD1⟩ := hB
  rw [ht] at hP1
  obtain ⟨a1, a2⟩ := wFrame hP hD hk1 hF hP1 hD1
  exact kk r u H1 locs1 hw a1 a2 hS1
theorem wCVlm {post : Int64 → S → Prop} {W0 pre Wc suf : va_W} (F : CallFix p m c cc nL s args Ts own) (hM : wCt l y ws rm D tysc (.ref b :: As) Wc H.size mc ms (wQl D post Wf)) (hN : wNest s) (hA : ∀ q : Nat, H0.size ≤ q → A0 q) (hK : va_K D vwCl tysc s) (hS : va_S A0 H0 H locs) (hP : va_P D vwCl W0 H) (hD : va_D A0 W0) (hW0 : W0 = pre ++ (Wc ++ suf)) (q0 : Nat) {ci : Nat} {fs : List Value} {r : vw_C} (hc : vwCl[ci]? = some r) (he : Wc[q0]? = some (b, .inr (ci, fs)))
    (cw : CallW R s args own r.1 index y bytes maxL ret ws rm mc ms n) (hn : As.length = n) (hz : ls.size = nL) (hst : st0 = As.reverse ++ .ref b :: rest) (hr : (rest.map fun v => v.category).sum ≤ 8) (hdg : decode cc pc = .ok (.invokevirtual index, 3)) (hf : cells + mc ≤ R.cells ∧ slots + ms ≤ R.slots)
    (kk : ∀ (r : Int64) (u : S) (H1 : Heap) (locs1 : List Loc), post r u → va_P D vwCl (pre ++ (Wf u ++ suf)) H1 → va_D A0 (pre ++ (Wf u ++ suf)) → va_S A0 H0 H1 locs1 → W p l e R s m args below meth c H1 locs1 (cells + mc) (slots + ms) Q (F0 m (pc + 3) ls (.long r :: rest))) : W p l e R s m args below meth c H locs cells slots Q (F0 m pc ls st0) := by
  subst hW0
  exact wKlm (va_runV (As := As) (rest := rest) F hM cw (wPreV hN hK hP hD q0 hc he) rfl hn hz hst (lv_room hr) hdg hf) hP hD hS hA kk
end BD2
end
section
theorem nI_nneg {n : Nat} (h : n < 2 ^ 31) : ¬ nI n < 0 := nI_pos h
def dQuiet (u : Nat → Int32) : Nat → Nat
  | 0 => 0
  | i + 1 => if u (dQuiet u i) < u (i + 1) then i + 1 else dQuiet u i
theorem dQuiet_le (u : Nat → Int32) : ∀ i, dQuiet u i ≤ i
  | 0 => Nat.le_refl 0
  | i + 1 => by
    have := dQuiet_le u i
    unfold dQuiet
    split <;> omega
/-- the first k, of j many, whose B isn't 0 -/
def dBest (B : Nat → Int32) : Nat → Nat → Int32
  | 0, _ => -1
  | j + 1, k => if B k = 0 then dBest B j (k + 1) else nI k
def dHead (f : Nat → Int32) (rt : Int32) : Int64 := ((((((((((1973 * 31 + (f 0).toInt64) * 31 + (f 1).toInt64) * 31 + (f 2).toInt64) * 31 + (f 3).toInt64) * 31 + (f 4).toInt64) * 31 + (f 5).toInt64) * 31 + (f 6).toInt64) * 31 + (f 9).toInt64) * 31 + (f 7).toInt64) * 31 + (f 8).toInt64) * 31 + rt.toInt64
def dFour (r : Nat → Nat → Int32) (i : Nat) (d : Int64) : Int64 := (((d * 31 + (r 0 i).toInt64) * 31 + (r 1 i).toInt64) * 31 + (r 2 i).toInt64) * 31 + (r 3 i).toInt64
def dTo (r : Nat → Nat → Int32) (i : Nat) (d : Int64) : Nat → Int64
  | 0 => d
  | k + 1 => (dTo r i d k * 31 + (dToGo (r 4) (i * 10 + k)).toInt64) * 31 + (r 5 (i * 10 + k)).toInt64
def dGs (r : Nat → Nat → Int32) (gg : Nat) (d : Int64) : Nat → Int64
  | 0 => d
  | i + 1 => dTo r i (dFour r i (dGs r gg d i)) gg
end
section
abbrev rmX1_requireGuest : Room := { frames := 0, cells := 0, slots := 0, locals := 0 }
set_option maxRecDepth 100000 in
set_option maxHeartbeats 4000000 in
theorem mX1_requireGuest (l : Launch) (D : va_G) (cI : ClassId) (x0 : Nat) (a b : Nat → Nat) (f f2 : Nat → Int32) (r r2 : Nat → Nat → Int32) (gg x : Nat) (sz : Nat) (hg : f 0 = nI gg) (hg2 : gg ≤ 10) (hg0 : 0 < gg) (ux : x < gg) : wCt l yX1_requireGuest wsX1_requireGuest rmX1_requireGuest D [(cI, .int)] [.ref x0, .int (nI x)] (XO x0 a b ++ (DC cI a f r ++ DC cI b f2 r2)) sz 0 0 (wQv D (fun _ : Unit => True) (fun _ : Unit => XO x0 a b ++ (DC cI a f r ++ DC cI b f2 r2))) := by
  refine wMet cX1_requireGuest 2 none (by decide) rfl (Nat.le_of_ble_eq_true rfl) ?_
  intro p e s m args below meth c A Q ls hQ hx hb hr hml hown hlocks hin hts hN hP hK hD hA hS hl
  have hl : lv_has ls 2 [(0, .ref x0), (1, .int (nI x))] := hl
  have hown : s.vm.findClass RX1 = some m.cls := hown
  have hw0 : ∀ w ∈ wsX00, w.before args s = true := fun w h => hts w (List.mem_cons_of_mem _ (List.mem_append_left _ (List.mem_append_right _ h)))
  have hw1 : ∀ w ∈ wsX10, w.before args s = true := fun w h => hts w (List.mem_cons_of_mem _ (List.mem_append_left _ (List.mem_append_left _ (List.mem_append_right _ h))))
  have k12 := hts (.fieldLink RX1 12 "PauseLedger" "dinner" "LPauseLedger$Dinner;") (by decide +kernel)
  have k58 := hts (.fieldLink RX1 58 "PauseLedger$Dinner" "guests" "I") (by decide +kernel)
  refine lv_iload_n hx hb dX1_requireGuest_0 rfl (lv_at hl 1 rfl) ?_
  refine lv_if_lt (tgt := 15) hx hb dX1_requireGuest_1 (by decide) (fun h9 => absurd h9 (nI_nneg (by omega))) (fun c_1 => ?_)
  refine lv_iload_n hx hb dX1_requireGuest_4 rfl (lv_at hl 1 rfl) ?_
  refine lv_aload_n hx hb dX1_requireGuest_5 rfl (lv_at hl 0 rfl) ?_
  refine va_get (D := D) (ci := 1) (v := .ref (a 0)) (C := RX1) (T := TX1) (N := 2) hx hb hw1 (fun _ h => h) hown hK hP 0 rfl rfl 0 (by decide) k12 (fun _ h9 => h9) rfl dX1_requireGuest_6 ?_
  refine va_get (D := D) (ci := 0) (v := .int (f 0)) (C := RX0) (T := TX0) (N := 17) hx hb hw0 (fun _ h => h) hown hK hP 1 rfl rfl 0 (by decide) k58 (fun _ h9 => h9) rfl dX1_requireGuest_9 ?_
  refine lv_icmp_lt (tgt := 25) hx hb dX1_requireGuest_12 (by decide) (fun c_12 => ?_) (fun h9 => absurd (by rw [hg]; exact nI_lt ux (by omega)) h9)
  exact wRv hQ hx hb hr hlocks hP hD hS dX1_requireGuest_25 () (trivial) rfl
abbrev rmX1_requireWithin : Room := { frames := 0, cells := 0, slots := 0, locals := 0 }
set_option maxRecDepth 100000 in
set_option maxHeartbeats 4000000 in
theorem mX1_requireWithin (l : Launch) (D : va_G) (cI : ClassId) (w lo hi : Nat) (sz : Nat) (w1 : lo ≤ w) (w2 : w ≤ hi) (w3 : hi < 2 ^ 31) : wCt l yX1_requireWithin wsX1_requireWithin rmX1_requireWithin D [(cI, .int)] [.int (nI w), .int (nI lo), .int (nI hi)] (([] : va_W)) sz 0 0 (wQv D (fun _ : Unit => True) (fun _ : Unit => ([] : va_W))) := by
  refine wMet cX1_requireWithin 3 none (by decide) rfl (Nat.le_of_ble_eq_true rfl) ?_
  intro p e s m args below meth c A Q ls hQ hx hb hr hml hown hlocks hin hts hN hP hK hD hA hS hl
  have hl : lv_has ls 3 [(0, .int (nI w)), (1, .int (nI lo)), (2, .int (nI hi))] := hl
  have hown : s.vm.findClass RX1 = some m.cls := hown
  refine lv_iload_n hx hb dX1_requireWithin_0 rfl (lv_at hl 0 rfl) ?_
  refine lv_iload_n hx hb dX1_requireWithin_1 rfl (lv_at hl 1 rfl) ?_
  refine lv_icmp_lt (tgt := 10) hx hb dX1_requireWithin_2 (by decide) (fun h9 => absurd h9 (nI_nlt w1 (by omega))) (fun c_2 => ?_)
  have c_2n := mt (nI_ltI (a := w) (b := lo) (by omega) (by omega)).mpr c_2
  refine lv_iload_n hx hb dX1_requireWithin_5 rfl (lv_at hl 0 rfl) ?_
  refine lv_iload_n hx hb dX1_requireWithin_6 rfl (lv_at hl 2 rfl) ?_
  refine lv_icmp_le (tgt := 20) hx hb dX1_requireWithin_7 (by decide) (fun c_7 => ?_) (fun h9 => absurd (nI_le w2 w3) h9)
  have c_7n := (nI_leI (a := w) (b := hi) (by omega) (by omega)).mp c_7
  exact wRv hQ hx hb hr hlocks hP hD hS dX1_requireWithin_20 () (trivial) rfl
abbrev rmX1_requireFreeWay : Room := { frames := 1, cells := 0, slots := 0, locals := 21 }
set_option maxRecDepth 100000 in
set_option maxHeartbeats 4000000 in
theorem mX1_requireFreeWay (l : Launch) (D : va_G) (cI : ClassId) (x0 : Nat) (a b : Nat → Nat) (f f2 : Nat → Int32) (r r2 : Nat → Nat → Int32) (gg x y : Nat) (sz : Nat) (hg : f 0 = nI gg) (hg2 : gg ≤ 10) (hg0 : 0 < gg) (ux : x < gg) (uy : y < gg) (hne : ¬ nI x = nI y) (hfree : r 4 (x * 10 + y) = -1) : wCt l yX1_requireFreeWay wsX1_requireFreeWay rmX1_requireFreeWay D [(cI, .int)] [.ref x0, .int (nI x), .int (nI y)] (XO x0 a b ++ (DC cI a f r ++ DC cI b f2 r2)) sz 0 0 (wQv D (fun _ : Unit => True) (fun _ : Unit => XO x0 a b ++ (DC cI a f r ++ DC cI b f2 r2))) := by
  refine wMet cX1_requireFreeWay 3 none (by decide) rfl (Nat.le_of_ble_eq_true rfl) ?_
  intro p e s m args below meth c A Q ls hQ hx hb hr hml hown hlocks hin hts hN hP hK hD hA hS hl
  have hl : lv_has ls 3 [(0, .ref x0), (1, .int (nI x)), (2, .int (nI y))] := hl
  have hown : s.vm.findClass RX1 = some m.cls := hown
  have hw1 : ∀ w ∈ wsX10, w.before args s = true := fun w h => hts w (List.mem_cons_of_mem _ (List.mem_append_left _ (List.mem_append_left _ (List.mem_append_left _ (List.mem_append_left _ (List.mem_append_right _ h))))))
  have k12 := hts (.fieldLink RX1 12 "PauseLedger" "dinner" "LPauseLedger$Dinner;") (by decide +kernel)
  refine lv_aload_n hx hb dX1_requireFreeWay_0 rfl (lv_at hl 0 rfl) ?_
  refine lv_iload_n hx hb dX1_requireFreeWay_1 rfl (lv_at hl 1 rfl) ?_
  refine wCVv (pre := ([] : va_W)) (Wc := XO x0 a b ++ (DC cI a f r ++ DC cI b f2 r2)) (suf := ([] : va_W)) (As := [.int (nI x)]) (rest := []) ⟨hx, hb, hml, hown, hts⟩ (mX1_requireGuest l D cI x0 a b f f2 r r2 gg x _ hg hg2 hg0 ux) hN hA hK hS hP hD rfl 0 (r := (RX1, TX1, 2)) rfl rfl (cwV 1 hts gX1_requireFreeWay_X1_requireGuest rfl rfl rfl (by decide +kernel) ⟨Nat.le_of_ble_eq_true rfl, Nat.le_of_ble_eq_true rfl⟩) rfl hl.1 rfl (Nat.le_of_ble_eq_true rfl) dX1_requireFreeWay_2 ⟨Nat.zero_le _, Nat.zero_le _⟩ (fun u_2 H locs hw hP hD hS => ?_)
  have hP : va_P D vwCl (XO x0 a b ++ (DC cI a f r ++ DC cI b f2 r2)) H := hP
  have hD : va_D A (XO x0 a b ++ (DC cI a f r ++ DC cI b f2 r2)) := hD
  refine lv_aload_n hx hb dX1_requireFreeWay_5 rfl (lv_at hl 0 rfl) ?_
  refine lv_iload_n hx hb dX1_requireFreeWay_6 rfl (lv_at hl 2 rfl) ?_
  refine wCVv (pre := ([] : va_W)) (Wc := XO x0 a b ++ (DC cI a f r ++ DC cI b f2 r2)) (suf := ([] : va_W)) (As := [.int (nI y)]) (rest := []) ⟨hx, hb, hml, hown, hts⟩ (mX1_requireGuest l D cI x0 a b f f2 r r2 gg y _ hg hg2 hg0 uy) hN hA hK hS hP hD rfl 0 (r := (RX1, TX1, 2)) rfl rfl (cwV 1 hts gX1_requireFreeWay_X1_requireGuest rfl rfl rfl (by decide +kernel) ⟨Nat.le_of_ble_eq_true rfl, Nat.le_of_ble_eq_true rfl⟩) rfl hl.1 rfl (Nat.le_of_ble_eq_true rfl) dX1_requireFreeWay_7 ⟨Nat.zero_le _, Nat.zero_le _⟩ (fun u_7 H locs hw hP hD hS => ?_)
  have hP : va_P D vwCl (XO x0 a b ++ (DC cI a f r ++ DC cI b f2 r2)) H := hP
  have hD : va_D A (XO x0 a b ++ (DC cI a f r ++ DC cI b f2 r2)) := hD
  refine lv_iload_n hx hb dX1_requireFreeWay_10 rfl (lv_at hl 1 rfl) ?_
  refine lv_iload_n hx hb dX1_requireFreeWay_11 rfl (lv_at hl 2 rfl) ?_
  refine lv_icmp_ne (tgt := 25) hx hb dX1_requireFreeWay_12 (by decide) (fun c_12 => ?_) (fun h9 => absurd h9 (hne))
  have c_12n := mt (nI_eq (a := x) (b := y) (by omega) (by omega)).mpr c_12
  refine lv_aload_n hx hb dX1_requireFreeWay_25 rfl (lv_at hl 0 rfl) ?_
  refine va_get (D := D) (ci := 1) (v := .ref (a 0)) (C := RX1) (T := TX1) (N := 2) hx hb hw1 (fun _ h => h) hown hK hP 0 rfl rfl 0 (by decide) k12 (fun _ h9 => h9) rfl dX1_requireFreeWay_26 ?_
  refine lv_iload_n hx hb dX1_requireFreeWay_29 rfl (lv_at hl 1 rfl) ?_
  refine lv_iload_n hx hb dX1_requireFreeWay_30 rfl (lv_at hl 2 rfl) ?_
  refine wCSi (pre := ([] : va_W)) (Wc := ([] : va_W)) (suf := XO x0 a b ++ (DC cI a f r ++ DC cI b f2 r2)) (As := [.int (nI x), .int (nI y)]) (rest := [.ref (a 0)]) ⟨hx, hb, hml, hown, hts⟩ (mX1_pairOf l D cI x y _) hN hA hK hS hP hD rfl (va_cwS 2 hts gX1_requireFreeWay_X1_pairOf rfl rfl rfl (by decide +kernel) ⟨Nat.le_of_ble_eq_true rfl, Nat.le_of_ble_eq_true rfl⟩) rfl hl.1 rfl (Nat.le_of_ble_eq_true rfl) dX1_requireFreeWay_31 ⟨Nat.zero_le _, Nat.zero_le _⟩ (fun r_31 u_31 H locs hw hP hD hS => ?_)
  have hw : r_31 = nI (x * 10 + y) := hw
  subst hw
  have hP : va_P D vwCl (XO x0 a b ++ (DC cI a f r ++ DC cI b f2 r2)) H := hP
  have hD : va_D A (XO x0 a b ++ (DC cI a f r ++ DC cI b f2 r2)) := hD
  refine wCVi (pre := XO x0 a b) (Wc := DC cI a f r) (suf := DC cI b f2 r2) (As := [.int (nI (x * 10 + y))]) (rest := []) ⟨hx, hb, hml, hown, hts⟩ (mX0_isOnItsWay l D cI a f r (x * 10 + y) _ (by omega)) hN hA hK hS hP hD rfl 0 (r := (RX0, TX0, 17)) rfl rfl (cwV 1 hts gX1_requireFreeWay_X0_isOnItsWay rfl rfl rfl (by decide +kernel) ⟨Nat.le_of_ble_eq_true rfl, Nat.le_of_ble_eq_true rfl⟩) rfl hl.1 rfl (Nat.le_of_ble_eq_true rfl) dX1_requireFreeWay_34 ⟨Nat.zero_le _, Nat.zero_le _⟩ (fun r_34 u_34 H locs hw hP hD hS => ?_)
  have hw : r_34 = if (r 4) (x * 10 + y) = -1 then 0 else 1 := hw
  subst hw
  have hP : va_P D vwCl (XO x0 a b ++ (DC cI a f r ++ DC cI b f2 r2)) H := hP
  have hD : va_D A (XO x0 a b ++ (DC cI a f r ++ DC cI b f2 r2)) := hD
  refine lv_if_eq (tgt := 50) hx hb dX1_requireFreeWay_37 (by decide) (fun c_37 => ?_) (fun h9 => absurd (if_pos hfree) h9)
  exact wRv hQ hx hb hr hlocks hP hD hS dX1_requireFreeWay_50 () (trivial) rfl
abbrev rmX1_newDinner : Room := { frames := 3, cells := 0, slots := 0, locals := 63 }
set_option maxRecDepth 100000 in
set_option maxHeartbeats 4000000 in
theorem mX1_newDinner (l : Launch) (D : va_G) (cI : ClassId) (x0 : Nat) (a b : Nat → Nat) (f f2 : Nat → Int32) (r r2 : Nat → Nat → Int32) (gg w : Nat) (sz : Nat) (hg : f 0 = nI gg) (hg2 : gg ≤ 10) (hg0 : 0 < gg) (w1 : 2 ≤ w) (w2 : w ≤ 10) : wCt l yX1_newDinner wsX1_newDinner rmX1_newDinner D [(cI, .int)] [.ref x0, .int (nI w)] (XO x0 a b ++ (DC cI a f r ++ DC cI b f2 r2)) sz 0 0 (wQi D (fun v (_ : Unit) => v = dRate (f 0) (f 6) (r 3) gg) (fun _ : Unit => XO x0 a b ++ (DC cI a (dBeginF f (nI w)) (dBeginR r) ++ DC cI b f2 r2))) := by
  refine wMet cX1_newDinner 3 (some .int) (by decide) rfl (Nat.le_of_ble_eq_true rfl) ?_
  intro p e s m args below meth c A Q ls hQ hx hb hr hml hown hlocks hin hts hN hP hK hD hA hS hl
  have hl : lv_has ls 3 [(0, .ref x0), (1, .int (nI w))] := hl
  have hown : s.vm.findClass RX1 = some m.cls := hown
  have hw1 : ∀ w ∈ wsX10, w.before args s = true := fun w h => hts w (List.mem_cons_of_mem _ (List.mem_append_left _ (List.mem_append_left _ (List.mem_append_right _ h))))
  have k12 := hts (.fieldLink RX1 12 "PauseLedger" "dinner" "LPauseLedger$Dinner;") (by decide +kernel)
  refine lv_iload_n hx hb dX1_newDinner_0 rfl (lv_at hl 1 rfl) ?_
  refine lv_iconst (v := 2) hx hb dX1_newDinner_1 (by decide) ?_
  refine lv_bipush (v := 10) hx hb dX1_newDinner_2 (by decide) ?_
  refine wCSv (pre := ([] : va_W)) (Wc := ([] : va_W)) (suf := XO x0 a b ++ (DC cI a f r ++ DC cI b f2 r2)) (As := [.int (nI w), .int 2, .int 10]) (rest := []) ⟨hx, hb, hml, hown, hts⟩ (mX1_requireWithin l D cI w 2 10 _ w1 w2 (by decide)) hN hA hK hS hP hD rfl (va_cwS 3 hts gX1_newDinner_X1_requireWithin rfl rfl rfl (by decide +kernel) ⟨Nat.le_of_ble_eq_true rfl, Nat.le_of_ble_eq_true rfl⟩) rfl hl.1 rfl (Nat.le_of_ble_eq_true rfl) dX1_newDinner_4 ⟨Nat.zero_le _, Nat.zero_le _⟩ (fun u_4 H locs hw hP hD hS => ?_)
  have hP : va_P D vwCl (XO x0 a b ++ (DC cI a f r ++ DC cI b f2 r2)) H := hP
  have hD : va_D A (XO x0 a b ++ (DC cI a f r ++ DC cI b f2 r2)) := hD
  refine lv_aload_n hx hb dX1_newDinner_7 rfl (lv_at hl 0 rfl) ?_
  refine va_get (D := D) (ci := 1) (v := .ref (a 0)) (C := RX1) (T := TX1) (N := 2) hx hb hw1 (fun _ h => h) hown hK hP 0 rfl rfl 0 (by decide) k12 (fun _ h9 => h9) rfl dX1_newDinner_8 ?_
  refine wCVi (pre := XO x0 a b) (Wc := DC cI a f r) (suf := DC cI b f2 r2) (As := []) (rest := []) ⟨hx, hb, hml, hown, hts⟩ (mX0_rate l D cI a f r gg _ hg hg2 hg0) hN hA hK hS hP hD rfl 0 (r := (RX0, TX0, 17)) rfl rfl (cwV 0 hts gX1_newDinner_X0_rate rfl rfl rfl (by decide +kernel) ⟨Nat.le_of_ble_eq_true rfl, Nat.le_of_ble_eq_true rfl⟩) rfl hl.1 rfl (Nat.le_of_ble_eq_true rfl) dX1_newDinner_11 ⟨Nat.zero_le _, Nat.zero_le _⟩ (fun r_11 u_11 H locs hw hP hD hS => ?_)
  have hw : r_11 = dRate (f 0) (f 6) (r 3) gg := hw
  subst hw
  have hP : va_P D vwCl (XO x0 a b ++ (DC cI a f r ++ DC cI b f2 r2)) H := hP
  have hD : va_D A (XO x0 a b ++ (DC cI a f r ++ DC cI b f2 r2)) := hD
  refine lv_istore_n (lv' := [(2, .int (dRate (f 0) (f 6) (r 3) gg)), (0, .ref x0), (1, .int (nI w))]) hx hb dX1_newDinner_14 rfl hl (by decide) rfl (fun ls hl => ?_)
  refine lv_aload_n hx hb dX1_newDinner_15 rfl (lv_at hl 1 rfl) ?_
  refine va_get (D := D) (ci := 1) (v := .ref (a 0)) (C := RX1) (T := TX1) (N := 2) hx hb hw1 (fun _ h => h) hown hK hP 0 rfl rfl 0 (by decide) k12 (fun _ h9 => h9) rfl dX1_newDinner_16 ?_
  refine lv_iload_n hx hb dX1_newDinner_19 rfl (lv_at hl 2 rfl) ?_
  refine wCVv (pre := XO x0 a b) (Wc := DC cI a f r) (suf := DC cI b f2 r2) (As := [.int (nI w)]) (rest := []) ⟨hx, hb, hml, hown, hts⟩ (mX0_begin l D cI a f r (nI w) _) hN hA hK hS hP hD rfl 0 (r := (RX0, TX0, 17)) rfl rfl (cwV 1 hts gX1_newDinner_X0_begin rfl rfl rfl (by decide +kernel) ⟨Nat.le_of_ble_eq_true rfl, Nat.le_of_ble_eq_true rfl⟩) rfl hl.1 rfl (Nat.le_of_ble_eq_true rfl) dX1_newDinner_20 ⟨Nat.zero_le _, Nat.zero_le _⟩ (fun u_20 H locs hw hP hD hS => ?_)
  subst hw
  have hP : va_P D vwCl (XO x0 a b ++ (DC cI a (dBeginF f (nI w), dBeginR r).1 (dBeginF f (nI w), dBeginR r).2 ++ DC cI b f2 r2)) H := hP
  have hD : va_D A (XO x0 a b ++ (DC cI a (dBeginF f (nI w), dBeginR r).1 (dBeginF f (nI w), dBeginR r).2 ++ DC cI b f2 r2)) := hD
  refine lv_iload_n hx hb dX1_newDinner_23 rfl (lv_at hl 0 rfl) ?_
  exact wRi hQ hx hb hr hlocks hP hD hS dX1_newDinner_24 () (rfl) rfl
abbrev rmX1_setLimit : Room := { frames := 1, cells := 0, slots := 0, locals := 22 }
set_option maxRecDepth 100000 in
set_option maxHeartbeats 4000000 in
theorem mX1_setLimit (l : Launch) (D : va_G) (cI : ClassId) (x0 : Nat) (a b : Nat → Nat) (f f2 : Nat → Int32) (r r2 : Nat → Nat → Int32) (w : Nat) (sz : Nat) (w1 : 1 ≤ w) (w2 : w ≤ 30) : wCt l yX1_setLimit wsX1_setLimit rmX1_setLimit D [(cI, .int)] [.ref x0, .int (nI w)] (XO x0 a b ++ (DC cI a f r ++ DC cI b f2 r2)) sz 0 0 (wQi D (fun v (_ : Unit) => v = f 2) (fun _ : Unit => XO x0 a b ++ (DC cI a (upd f 2 (nI w)) r ++ DC cI b f2 r2))) := by
  refine wMet cX1_setLimit 3 (some .int) (by decide) rfl (Nat.le_of_ble_eq_true rfl) ?_
  intro p e s m args below meth c A Q ls hQ hx hb hr hml hown hlocks hin hts hN hP hK hD hA hS hl
  have hl : lv_has ls 3 [(0, .ref x0), (1, .int (nI w))] := hl
  have hown : s.vm.findClass RX1 = some m.cls := hown
  have hw0 : ∀ w ∈ wsX00, w.before args s = true := fun w h => hts w (List.mem_cons_of_mem _ (List.mem_append_left _ (List.mem_append_right _ h)))
  have hw1 : ∀ w ∈ wsX10, w.before args s = true := fun w h => hts w (List.mem_cons_of_mem _ (List.mem_append_left _ (List.mem_append_left _ (List.mem_append_right _ h))))
  have k12 := hts (.fieldLink RX1 12 "PauseLedger" "dinner" "LPauseLedger$Dinner;") (by decide +kernel)
  have k31 := hts (.fieldLink RX1 31 "PauseLedger$Dinner" "limit" "I") (by decide +kernel)
  refine lv_iload_n hx hb dX1_setLimit_0 rfl (lv_at hl 1 rfl) ?_
  refine lv_iconst (v := 1) hx hb dX1_setLimit_1 (by decide) ?_
  refine lv_bipush (v := 30) hx hb dX1_setLimit_2 (by decide) ?_
  refine wCSv (pre := ([] : va_W)) (Wc := ([] : va_W)) (suf := XO x0 a b ++ (DC cI a f r ++ DC cI b f2 r2)) (As := [.int (nI w), .int 1, .int 30]) (rest := []) ⟨hx, hb, hml, hown, hts⟩ (mX1_requireWithin l D cI w 1 30 _ w1 w2 (by decide)) hN hA hK hS hP hD rfl (va_cwS 3 hts gX1_setLimit_X1_requireWithin rfl rfl rfl (by decide +kernel) ⟨Nat.le_of_ble_eq_true rfl, Nat.le_of_ble_eq_true rfl⟩) rfl hl.1 rfl (Nat.le_of_ble_eq_true rfl) dX1_setLimit_4 ⟨Nat.zero_le _, Nat.zero_le _⟩ (fun u_4 H locs hw hP hD hS => ?_)
  have hP : va_P D vwCl (XO x0 a b ++ (DC cI a f r ++ DC cI b f2 r2)) H := hP
  have hD : va_D A (XO x0 a b ++ (DC cI a f r ++ DC cI b f2 r2)) := hD
  refine lv_aload_n hx hb dX1_setLimit_7 rfl (lv_at hl 0 rfl) ?_
  refine va_get (D := D) (ci := 1) (v := .ref (a 0)) (C := RX1) (T := TX1) (N := 2) hx hb hw1 (fun _ h => h) hown hK hP 0 rfl rfl 0 (by decide) k12 (fun _ h9 => h9) rfl dX1_setLimit_8 ?_
  refine va_get (D := D) (ci := 0) (v := .int (f 2)) (C := RX0) (T := TX0) (N := 17) hx hb hw0 (fun _ h => h) hown hK hP 1 rfl rfl 2 (by decide) k31 (fun _ h9 => h9) rfl dX1_setLimit_11 ?_
  refine lv_istore_n (lv' := [(2, .int (f 2)), (0, .ref x0), (1, .int (nI w))]) hx hb dX1_setLimit_14 rfl hl (by decide) rfl (fun ls hl => ?_)
  refine lv_aload_n hx hb dX1_setLimit_15 rfl (lv_at hl 1 rfl) ?_
  refine va_get (D := D) (ci := 1) (v := .ref (a 0)) (C := RX1) (T := TX1) (N := 2) hx hb hw1 (fun _ h => h) hown hK hP 0 rfl rfl 0 (by decide) k12 (fun _ h9 => h9) rfl dX1_setLimit_16 ?_
  refine lv_iload_n hx hb dX1_setLimit_19 rfl (lv_at hl 2 rfl) ?_
  refine va_put (D := D) (ci := 0) (v := .int (nI w)) (ty := .int) (C := RX0) (T := TX0) (N := 17) hx hb hw0 (fun _ h => h) tyX0 tyX0_ok nmX0 hown hK hP hD hS 1 rfl rfl 2 (by decide) k31 (fun _ h9 => h9) rfl (by decide +kernel) rfl rfl (Nat.le_of_ble_eq_true rfl) dX1_setLimit_20 (fun H locs hP hD hS => ?_)
  have hP : va_P D vwCl (XO x0 a b ++ (DC cI a (upd f 2 (nI w)) r ++ DC cI b f2 r2)) H := hP
  have hD : va_D A (XO x0 a b ++ (DC cI a (upd f 2 (nI w)) r ++ DC cI b f2 r2)) := hD
  refine lv_iload_n hx hb dX1_setLimit_23 rfl (lv_at hl 0 rfl) ?_
  exact wRi hQ hx hb hr hlocks hP hD hS dX1_setLimit_24 () (rfl) rfl
abbrev rmX1_speak : Room := { frames := 1, cells := 0, slots := 0, locals := 23 }
set_option maxRecDepth 100000 in
set_option maxHeartbeats 4000000 in
theorem mX1_speak (l : Launch) (D : va_G) (cI : ClassId) (x0 : Nat) (a b : Nat → Nat) (f f2 : Nat → Int32) (r r2 : Nat → Nat → Int32) (gg x w : Nat) (sz : Nat) (hg : f 0 = nI gg) (hg2 : gg ≤ 10) (hg0 : 0 < gg) (ux : x < gg) (w1 : 1 ≤ w) (w2 : w ≤ 60) : wCt l yX1_speak wsX1_speak rmX1_speak D [(cI, .int)] [.ref x0, .int (nI x), .int (nI w)] (XO x0 a b ++ (DC cI a f r ++ DC cI b f2 r2)) sz 0 0 (wQi D (fun v (_ : Unit) => v = dInt f x) (fun _ : Unit => XO x0 a b ++ (DC cI a (dSpeak f r x (nI w)).1 (dSpeak f r x (nI w)).2 ++ DC cI b f2 r2))) := by
  refine wMet cX1_speak 3 (some .int) (by decide) rfl (Nat.le_of_ble_eq_true rfl) ?_
  intro p e s m args below meth c A Q ls hQ hx hb hr hml hown hlocks hin hts hN hP hK hD hA hS hl
  have hl : lv_has ls 3 [(0, .ref x0), (1, .int (nI x)), (2, .int (nI w))] := hl
  have hown : s.vm.findClass RX1 = some m.cls := hown
  have hw1 : ∀ w ∈ wsX10, w.before args s = true := fun w h => hts w (List.mem_cons_of_mem _ (List.mem_append_left _ (List.mem_append_left _ (List.mem_append_left _ (List.mem_append_right _ h)))))
  have k12 := hts (.fieldLink RX1 12 "PauseLedger" "dinner" "LPauseLedger$Dinner;") (by decide +kernel)
  refine lv_aload_n hx hb dX1_speak_0 rfl (lv_at hl 0 rfl) ?_
  refine lv_iload_n hx hb dX1_speak_1 rfl (lv_at hl 1 rfl) ?_
  refine wCVv (pre := ([] : va_W)) (Wc := XO x0 a b ++ (DC cI a f r ++ DC cI b f2 r2)) (suf := ([] : va_W)) (As := [.int (nI x)]) (rest := []) ⟨hx, hb, hml, hown, hts⟩ (mX1_requireGuest l D cI x0 a b f f2 r r2 gg x _ hg hg2 hg0 ux) hN hA hK hS hP hD rfl 0 (r := (RX1, TX1, 2)) rfl rfl (cwV 1 hts gX1_speak_X1_requireGuest rfl rfl rfl (by decide +kernel) ⟨Nat.le_of_ble_eq_true rfl, Nat.le_of_ble_eq_true rfl⟩) rfl hl.1 rfl (Nat.le_of_ble_eq_true rfl) dX1_speak_2 ⟨Nat.zero_le _, Nat.zero_le _⟩ (fun u_2 H locs hw hP hD hS => ?_)
  have hP : va_P D vwCl (XO x0 a b ++ (DC cI a f r ++ DC cI b f2 r2)) H := hP
  have hD : va_D A (XO x0 a b ++ (DC cI a f r ++ DC cI b f2 r2)) := hD
  refine lv_iload_n hx hb dX1_speak_5 rfl (lv_at hl 2 rfl) ?_
  refine lv_iconst (v := 1) hx hb dX1_speak_6 (by decide) ?_
  refine lv_bipush (v := 60) hx hb dX1_speak_7 (by decide) ?_
  refine wCSv (pre := ([] : va_W)) (Wc := ([] : va_W)) (suf := XO x0 a b ++ (DC cI a f r ++ DC cI b f2 r2)) (As := [.int (nI w), .int 1, .int 60]) (rest := []) ⟨hx, hb, hml, hown, hts⟩ (mX1_requireWithin l D cI w 1 60 _ w1 w2 (by decide)) hN hA hK hS hP hD rfl (va_cwS 3 hts gX1_speak_X1_requireWithin rfl rfl rfl (by decide +kernel) ⟨Nat.le_of_ble_eq_true rfl, Nat.le_of_ble_eq_true rfl⟩) rfl hl.1 rfl (Nat.le_of_ble_eq_true rfl) dX1_speak_9 ⟨Nat.zero_le _, Nat.zero_le _⟩ (fun u_9 H locs hw hP hD hS => ?_)
  have hP : va_P D vwCl (XO x0 a b ++ (DC cI a f r ++ DC cI b f2 r2)) H := hP
  have hD : va_D A (XO x0 a b ++ (DC cI a f r ++ DC cI b f2 r2)) := hD
  refine lv_aload_n hx hb dX1_speak_12 rfl (lv_at hl 0 rfl) ?_
  refine va_get (D := D) (ci := 1) (v := .ref (a 0)) (C := RX1) (T := TX1) (N := 2) hx hb hw1 (fun _ h => h) hown hK hP 0 rfl rfl 0 (by decide) k12 (fun _ h9 => h9) rfl dX1_speak_13 ?_
  refine lv_iload_n hx hb dX1_speak_16 rfl (lv_at hl 1 rfl) ?_
  refine lv_iload_n hx hb dX1_speak_17 rfl (lv_at hl 2 rfl) ?_
  refine wCVi (pre := XO x0 a b) (Wc := DC cI a f r) (suf := DC cI b f2 r2) (As := [.int (nI x), .int (nI w)]) (rest := []) ⟨hx, hb, hml, hown, hts⟩ (mX0_letSpeak l D cI a f r x (nI w) _ (by omega)) hN hA hK hS hP hD rfl 0 (r := (RX0, TX0, 17)) rfl rfl (cwV 2 hts gX1_speak_X0_letSpeak rfl rfl rfl (by decide +kernel) ⟨Nat.le_of_ble_eq_true rfl, Nat.le_of_ble_eq_true rfl⟩) rfl hl.1 rfl (Nat.le_of_ble_eq_true rfl) dX1_speak_18 ⟨Nat.zero_le _, Nat.zero_le _⟩ (fun r_18 u_18 H locs hw hP hD hS => ?_)
  obtain ⟨hw, rfl⟩ := hw
  have hw : r_18 = dInt f x := hw
  subst hw
  have hP : va_P D vwCl (XO x0 a b ++ (DC cI a (dSpeak f r x (nI w)).1 (dSpeak f r x (nI w)).2 ++ DC cI b f2 r2)) H := hP
  have hD : va_D A (XO x0 a b ++ (DC cI a (dSpeak f r x (nI w)).1 (dSpeak f r x (nI w)).2 ++ DC cI b f2 r2)) := hD
  exact wRi hQ hx hb hr hlocks hP hD hS dX1_speak_21 () (rfl) rfl
abbrev rmX1_cough : Room := { frames := 2, cells := 0, slots := 0, locals := 45 }
set_option maxRecDepth 100000 in
set_option maxHeartbeats 4000000 in
theorem mX1_cough (l : Launch) (D : va_G) (cI : ClassId) (x0 : Nat) (a b : Nat → Nat) (f f2 : Nat → Int32) (r r2 : Nat → Nat → Int32) (gg x w : Nat) (sz : Nat) (hg : f 0 = nI gg) (hg2 : gg ≤ 10) (hg0 : 0 < gg) (ux : x < gg) (w1 : 1 ≤ w) (w2 : w ≤ 9) : wCt l yX1_cough wsX1_cough rmX1_cough D [(cI, .int)] [.ref x0, .int (nI x), .int (nI w)] (XO x0 a b ++ (DC cI a f r ++ DC cI b f2 r2)) sz 0 0 (wQi D (fun v (_ : Unit) => v = dCough f (nI x) (nI w)) (fun _ : Unit => XO x0 a b ++ (DC cI a (dLetCough f r x (nI w)).1 (dLetCough f r x (nI w)).2 ++ DC cI b f2 r2))) := by
  refine wMet cX1_cough 3 (some .int) (by decide) rfl (Nat.le_of_ble_eq_true rfl) ?_
  intro p e s m args below meth c A Q ls hQ hx hb hr hml hown hlocks hin hts hN hP hK hD hA hS hl
  have hl : lv_has ls 3 [(0, .ref x0), (1, .int (nI x)), (2, .int (nI w))] := hl
  have hown : s.vm.findClass RX1 = some m.cls := hown
  have hw1 : ∀ w ∈ wsX10, w.before args s = true := fun w h => hts w (List.mem_cons_of_mem _ (List.mem_append_left _ (List.mem_append_left _ (List.mem_append_left _ (List.mem_append_right _ h)))))
  have k12 := hts (.fieldLink RX1 12 "PauseLedger" "dinner" "LPauseLedger$Dinner;") (by decide +kernel)
  refine lv_aload_n hx hb dX1_cough_0 rfl (lv_at hl 0 rfl) ?_
  refine lv_iload_n hx hb dX1_cough_1 rfl (lv_at hl 1 rfl) ?_
  refine wCVv (pre := ([] : va_W)) (Wc := XO x0 a b ++ (DC cI a f r ++ DC cI b f2 r2)) (suf := ([] : va_W)) (As := [.int (nI x)]) (rest := []) ⟨hx, hb, hml, hown, hts⟩ (mX1_requireGuest l D cI x0 a b f f2 r r2 gg x _ hg hg2 hg0 ux) hN hA hK hS hP hD rfl 0 (r := (RX1, TX1, 2)) rfl rfl (cwV 1 hts gX1_cough_X1_requireGuest rfl rfl rfl (by decide +kernel) ⟨Nat.le_of_ble_eq_true rfl, Nat.le_of_ble_eq_true rfl⟩) rfl hl.1 rfl (Nat.le_of_ble_eq_true rfl) dX1_cough_2 ⟨Nat.zero_le _, Nat.zero_le _⟩ (fun u_2 H locs hw hP hD hS => ?_)
  have hP : va_P D vwCl (XO x0 a b ++ (DC cI a f r ++ DC cI b f2 r2)) H := hP
  have hD : va_D A (XO x0 a b ++ (DC cI a f r ++ DC cI b f2 r2)) := hD
  refine lv_iload_n hx hb dX1_cough_5 rfl (lv_at hl 2 rfl) ?_
  refine lv_iconst (v := 1) hx hb dX1_cough_6 (by decide) ?_
  refine lv_bipush (v := 9) hx hb dX1_cough_7 (by decide) ?_
  refine wCSv (pre := ([] : va_W)) (Wc := ([] : va_W)) (suf := XO x0 a b ++ (DC cI a f r ++ DC cI b f2 r2)) (As := [.int (nI w), .int 1, .int 9]) (rest := []) ⟨hx, hb, hml, hown, hts⟩ (mX1_requireWithin l D cI w 1 9 _ w1 w2 (by decide)) hN hA hK hS hP hD rfl (va_cwS 3 hts gX1_cough_X1_requireWithin rfl rfl rfl (by decide +kernel) ⟨Nat.le_of_ble_eq_true rfl, Nat.le_of_ble_eq_true rfl⟩) rfl hl.1 rfl (Nat.le_of_ble_eq_true rfl) dX1_cough_9 ⟨Nat.zero_le _, Nat.zero_le _⟩ (fun u_9 H locs hw hP hD hS => ?_)
  have hP : va_P D vwCl (XO x0 a b ++ (DC cI a f r ++ DC cI b f2 r2)) H := hP
  have hD : va_D A (XO x0 a b ++ (DC cI a f r ++ DC cI b f2 r2)) := hD
  refine lv_aload_n hx hb dX1_cough_12 rfl (lv_at hl 0 rfl) ?_
  refine va_get (D := D) (ci := 1) (v := .ref (a 0)) (C := RX1) (T := TX1) (N := 2) hx hb hw1 (fun _ h => h) hown hK hP 0 rfl rfl 0 (by decide) k12 (fun _ h9 => h9) rfl dX1_cough_13 ?_
  refine lv_iload_n hx hb dX1_cough_16 rfl (lv_at hl 1 rfl) ?_
  refine lv_iload_n hx hb dX1_cough_17 rfl (lv_at hl 2 rfl) ?_
  refine wCVi (pre := XO x0 a b) (Wc := DC cI a f r) (suf := DC cI b f2 r2) (As := [.int (nI x), .int (nI w)]) (rest := []) ⟨hx, hb, hml, hown, hts⟩ (mX0_letCough l D cI a f r x (nI w) _ (by omega)) hN hA hK hS hP hD rfl 0 (r := (RX0, TX0, 17)) rfl rfl (cwV 2 hts gX1_cough_X0_letCough rfl rfl rfl (by decide +kernel) ⟨Nat.le_of_ble_eq_true rfl, Nat.le_of_ble_eq_true rfl⟩) rfl hl.1 rfl (Nat.le_of_ble_eq_true rfl) dX1_cough_18 ⟨Nat.zero_le _, Nat.zero_le _⟩ (fun r_18 u_18 H locs hw hP hD hS => ?_)
  obtain ⟨hw, rfl⟩ := hw
  have hw : r_18 = dCough f (nI x) (nI w) := hw
  subst hw
  have hP : va_P D vwCl (XO x0 a b ++ (DC cI a (dLetCough f r x (nI w)).1 (dLetCough f r x (nI w)).2 ++ DC cI b f2 r2)) H := hP
  have hD : va_D A (XO x0 a b ++ (DC cI a (dLetCough f r x (nI w)).1 (dLetCough f r x (nI w)).2 ++ DC cI b f2 r2)) := hD
  exact wRi hQ hx hb hr hlocks hP hD hS dX1_cough_21 () (rfl) rfl
abbrev rmX1_glance : Room := { frames := 4, cells := 0, slots := 0, locals := 89 }
set_option maxRecDepth 100000 in
set_option maxHeartbeats 4000000 in
theorem mX1_glance (l : Launch) (D : va_G) (cI : ClassId) (x0 : Nat) (a b : Nat → Nat) (f f2 : Nat → Int32) (r r2 : Nat → Nat → Int32) (gg x y n : Nat) (sz : Nat) (hg : f 0 = nI gg) (hg2 : gg ≤ 10) (hg0 : 0 < gg) (ux : x < gg) (uy : y < gg) (hne : ¬ nI x = nI y) (hfree : r 4 (x * 10 + y) = -1) (hn : f 9 = nI n) (hn1 : n < 100) : wCt l yX1_glance wsX1_glance rmX1_glance D [(cI, .int)] [.ref x0, .int (nI x), .int (nI y)] (XO x0 a b ++ (DC cI a f r ++ DC cI b f2 r2)) sz 0 0 (wQi D (fun v (_ : Unit) => v = 2 * dSeats (f 0) (nI x) (nI y)) (fun _ : Unit => XO x0 a b ++ (DC cI a (dSend f r x y n).1 (dSend f r x y n).2 ++ DC cI b f2 r2))) := by
  refine wMet cX1_glance 3 (some .int) (by decide) rfl (Nat.le_of_ble_eq_true rfl) ?_
  intro p e s m args below meth c A Q ls hQ hx hb hr hml hown hlocks hin hts hN hP hK hD hA hS hl
  have hl : lv_has ls 3 [(0, .ref x0), (1, .int (nI x)), (2, .int (nI y))] := hl
  have hown : s.vm.findClass RX1 = some m.cls := hown
  have hw1 : ∀ w ∈ wsX10, w.before args s = true := fun w h => hts w (List.mem_cons_of_mem _ (List.mem_append_left _ (List.mem_append_left _ (List.mem_append_left _ (List.mem_append_left _ (List.mem_append_right _ h))))))
  have k12 := hts (.fieldLink RX1 12 "PauseLedger" "dinner" "LPauseLedger$Dinner;") (by decide +kernel)
  refine lv_aload_n hx hb dX1_glance_0 rfl (lv_at hl 0 rfl) ?_
  refine lv_iload_n hx hb dX1_glance_1 rfl (lv_at hl 1 rfl) ?_
  refine lv_iload_n hx hb dX1_glance_2 rfl (lv_at hl 2 rfl) ?_
  refine wCVv (pre := ([] : va_W)) (Wc := XO x0 a b ++ (DC cI a f r ++ DC cI b f2 r2)) (suf := ([] : va_W)) (As := [.int (nI x), .int (nI y)]) (rest := []) ⟨hx, hb, hml, hown, hts⟩ (mX1_requireFreeWay l D cI x0 a b f f2 r r2 gg x y _ hg hg2 hg0 ux uy hne hfree) hN hA hK hS hP hD rfl 0 (r := (RX1, TX1, 2)) rfl rfl (cwV 2 hts gX1_glance_X1_requireFreeWay rfl rfl rfl (by decide +kernel) ⟨Nat.le_of_ble_eq_true rfl, Nat.le_of_ble_eq_true rfl⟩) rfl hl.1 rfl (Nat.le_of_ble_eq_true rfl) dX1_glance_3 ⟨Nat.zero_le _, Nat.zero_le _⟩ (fun u_3 H locs hw hP hD hS => ?_)
  have hP : va_P D vwCl (XO x0 a b ++ (DC cI a f r ++ DC cI b f2 r2)) H := hP
  have hD : va_D A (XO x0 a b ++ (DC cI a f r ++ DC cI b f2 r2)) := hD
  refine lv_aload_n hx hb dX1_glance_6 rfl (lv_at hl 0 rfl) ?_
  refine va_get (D := D) (ci := 1) (v := .ref (a 0)) (C := RX1) (T := TX1) (N := 2) hx hb hw1 (fun _ h => h) hown hK hP 0 rfl rfl 0 (by decide) k12 (fun _ h9 => h9) rfl dX1_glance_7 ?_
  refine lv_iload_n hx hb dX1_glance_10 rfl (lv_at hl 1 rfl) ?_
  refine lv_iload_n hx hb dX1_glance_11 rfl (lv_at hl 2 rfl) ?_
  refine wCVi (pre := XO x0 a b) (Wc := DC cI a f r) (suf := DC cI b f2 r2) (As := [.int (nI x), .int (nI y)]) (rest := []) ⟨hx, hb, hml, hown, hts⟩ (mX0_send l D cI a f r x y n _ (by omega) (by omega) hn hn1) hN hA hK hS hP hD rfl 0 (r := (RX0, TX0, 17)) rfl rfl (cwV 2 hts gX1_glance_X0_send rfl rfl rfl (by decide +kernel) ⟨Nat.le_of_ble_eq_true rfl, Nat.le_of_ble_eq_true rfl⟩) rfl hl.1 rfl (Nat.le_of_ble_eq_true rfl) dX1_glance_12 ⟨Nat.zero_le _, Nat.zero_le _⟩ (fun r_12 u_12 H locs hw hP hD hS => ?_)
  obtain ⟨hw, rfl⟩ := hw
  have hw : r_12 = 2 * dSeats (f 0) (nI x) (nI y) := hw
  subst hw
  have hP : va_P D vwCl (XO x0 a b ++ (DC cI a (dSend f r x y n).1 (dSend f r x y n).2 ++ DC cI b f2 r2)) H := hP
  have hD : va_D A (XO x0 a b ++ (DC cI a (dSend f r x y n).1 (dSend f r x y n).2 ++ DC cI b f2 r2)) := hD
  exact wRi hQ hx hb hr hlocks hP hD hS dX1_glance_15 () (rfl) rfl
abbrev rmX1_pass : Room := { frames := 5, cells := 0, slots := 0, locals := 109 }
set_option maxRecDepth 100000 in
set_option maxHeartbeats 4000000 in
theorem mX1_pass (l : Launch) (D : va_G) (cI : ClassId) (x0 : Nat) (a b : Nat → Nat) (f f2 : Nat → Int32) (r r2 : Nat → Nat → Int32) (gg n : Nat) (L : List Nat) (sz : Nat) (hg : f 0 = nI gg) (hg2 : gg ≤ 10) (hg0 : 0 < gg) (n1 : 1 ≤ n) (n2 : n ≤ 120) (hk : ∀ i, i < n → dOk (dGo (f, r) L i).1.1 (dGo (f, r) L i).1.2 (dGo (f, r) L i).2) (hg9 : (dGo (f, r) L n).1.1 0 = nI gg) : wCt l yX1_pass wsX1_pass rmX1_pass D [(cI, .int)] [.ref x0, .int (nI n)] (XO x0 a b ++ (DC cI a f r ++ DC cI b f2 r2)) sz 0 0 (wQi D (fun v (_ : Unit) => v = dSum ((dGo (f, r) L n).1.2 3) gg + (dGo (f, r) L n).1.1 6 - (dSum (r 3) gg + f 6)) (fun _ : Unit => XO x0 a b ++ (DC cI a (dGo (f, r) L n).1.1 (dGo (f, r) L n).1.2 ++ DC cI b f2 r2))) := by
  refine wMet cX1_pass 3 (some .int) (by decide) rfl (Nat.le_of_ble_eq_true rfl) ?_
  intro p e s m args below meth c A Q ls hQ hx hb hr hml hown hlocks hin hts hN hP hK hD hA hS hl
  have hl : lv_has ls 3 [(0, .ref x0), (1, .int (nI n))] := hl
  have hown : s.vm.findClass RX1 = some m.cls := hown
  have hw1 : ∀ w ∈ wsX10, w.before args s = true := fun w h => hts w (List.mem_cons_of_mem _ (List.mem_append_left _ (List.mem_append_left _ (List.mem_append_right _ h))))
  have k12 := hts (.fieldLink RX1 12 "PauseLedger" "dinner" "LPauseLedger$Dinner;") (by decide +kernel)
  refine lv_iload_n hx hb dX1_pass_0 rfl (lv_at hl 1 rfl) ?_
  refine lv_iconst (v := 1) hx hb dX1_pass_1 (by decide) ?_
  refine lv_bipush (v := 120) hx hb dX1_pass_2 (by decide) ?_
  refine wCSv (pre := ([] : va_W)) (Wc := ([] : va_W)) (suf := XO x0 a b ++ (DC cI a f r ++ DC cI b f2 r2)) (As := [.int (nI n), .int 1, .int 120]) (rest := []) ⟨hx, hb, hml, hown, hts⟩ (mX1_requireWithin l D cI n 1 120 _ n1 n2 (by decide)) hN hA hK hS hP hD rfl (va_cwS 3 hts gX1_pass_X1_requireWithin rfl rfl rfl (by decide +kernel) ⟨Nat.le_of_ble_eq_true rfl, Nat.le_of_ble_eq_true rfl⟩) rfl hl.1 rfl (Nat.le_of_ble_eq_true rfl) dX1_pass_4 ⟨Nat.zero_le _, Nat.zero_le _⟩ (fun u_4 H locs hw hP hD hS => ?_)
  have hP : va_P D vwCl (XO x0 a b ++ (DC cI a f r ++ DC cI b f2 r2)) H := hP
  have hD : va_D A (XO x0 a b ++ (DC cI a f r ++ DC cI b f2 r2)) := hD
  refine lv_aload_n hx hb dX1_pass_7 rfl (lv_at hl 0 rfl) ?_
  refine va_get (D := D) (ci := 1) (v := .ref (a 0)) (C := RX1) (T := TX1) (N := 2) hx hb hw1 (fun _ h => h) hown hK hP 0 rfl rfl 0 (by decide) k12 (fun _ h9 => h9) rfl dX1_pass_8 ?_
  refine wCVi (pre := XO x0 a b) (Wc := DC cI a f r) (suf := DC cI b f2 r2) (As := []) (rest := []) ⟨hx, hb, hml, hown, hts⟩ (mX0_sumUnsaid l D cI a f r gg _ hg hg2) hN hA hK hS hP hD rfl 0 (r := (RX0, TX0, 17)) rfl rfl (cwV 0 hts gX1_pass_X0_sumUnsaid rfl rfl rfl (by decide +kernel) ⟨Nat.le_of_ble_eq_true rfl, Nat.le_of_ble_eq_true rfl⟩) rfl hl.1 rfl (Nat.le_of_ble_eq_true rfl) dX1_pass_11 ⟨Nat.zero_le _, Nat.zero_le _⟩ (fun r_11 u_11 H locs hw hP hD hS => ?_)
  have hw : r_11 = dSum (r 3) gg + f 6 := hw
  subst hw
  have hP : va_P D vwCl (XO x0 a b ++ (DC cI a f r ++ DC cI b f2 r2)) H := hP
  have hD : va_D A (XO x0 a b ++ (DC cI a f r ++ DC cI b f2 r2)) := hD
  refine lv_istore_n (lv' := [(2, .int (dSum (r 3) gg + f 6)), (0, .ref x0), (1, .int (nI n))]) hx hb dX1_pass_14 rfl hl (by decide) rfl (fun ls hl => ?_)
  refine lv_aload_n hx hb dX1_pass_15 rfl (lv_at hl 1 rfl) ?_
  refine va_get (D := D) (ci := 1) (v := .ref (a 0)) (C := RX1) (T := TX1) (N := 2) hx hb hw1 (fun _ h => h) hown hK hP 0 rfl rfl 0 (by decide) k12 (fun _ h9 => h9) rfl dX1_pass_16 ?_
  refine lv_iload_n hx hb dX1_pass_19 rfl (lv_at hl 2 rfl) ?_
  refine wCVv (pre := XO x0 a b) (Wc := DC cI a f r) (suf := DC cI b f2 r2) (As := [.int (nI n)]) (rest := []) ⟨hx, hb, hml, hown, hts⟩ (mX0_goBy l D cI a f r L n _ (by omega) hk) hN hA hK hS hP hD rfl 0 (r := (RX0, TX0, 17)) rfl rfl (cwV 1 hts gX1_pass_X0_goBy rfl rfl rfl (by decide +kernel) ⟨Nat.le_of_ble_eq_true rfl, Nat.le_of_ble_eq_true rfl⟩) rfl hl.1 rfl (Nat.le_of_ble_eq_true rfl) dX1_pass_20 ⟨Nat.zero_le _, Nat.zero_le _⟩ (fun u_20 H locs hw hP hD hS => ?_)
  subst hw
  have hP : va_P D vwCl (XO x0 a b ++ (DC cI a (dGo (f, r) L n).1.1 (dGo (f, r) L n).1.2 ++ DC cI b f2 r2)) H := hP
  have hD : va_D A (XO x0 a b ++ (DC cI a (dGo (f, r) L n).1.1 (dGo (f, r) L n).1.2 ++ DC cI b f2 r2)) := hD
  refine lv_aload_n hx hb dX1_pass_23 rfl (lv_at hl 1 rfl) ?_
  refine va_get (D := D) (ci := 1) (v := .ref (a 0)) (C := RX1) (T := TX1) (N := 2) hx hb hw1 (fun _ h => h) hown hK hP 0 rfl rfl 0 (by decide) k12 (fun _ h9 => h9) rfl dX1_pass_24 ?_
  refine wCVi (pre := XO x0 a b) (Wc := DC cI a (dGo (f, r) L n).1.1 (dGo (f, r) L n).1.2) (suf := DC cI b f2 r2) (As := []) (rest := []) ⟨hx, hb, hml, hown, hts⟩ (mX0_sumUnsaid l D cI a (dGo (f, r) L n).1.1 (dGo (f, r) L n).1.2 gg _ hg9 hg2) hN hA hK hS hP hD rfl 0 (r := (RX0, TX0, 17)) rfl rfl (cwV 0 hts gX1_pass_X0_sumUnsaid rfl rfl rfl (by decide +kernel) ⟨Nat.le_of_ble_eq_true rfl, Nat.le_of_ble_eq_true rfl⟩) rfl hl.1 rfl (Nat.le_of_ble_eq_true rfl) dX1_pass_27 ⟨Nat.zero_le _, Nat.zero_le _⟩ (fun r_27 u_27 H locs hw hP hD hS => ?_)
  have hw : r_27 = dSum ((dGo (f, r) L n).1.2 3) gg + (dGo (f, r) L n).1.1 6 := hw
  subst hw
  have hP : va_P D vwCl (XO x0 a b ++ (DC cI a (dGo (f, r) L n).1.1 (dGo (f, r) L n).1.2 ++ DC cI b f2 r2)) H := hP
  have hD : va_D A (XO x0 a b ++ (DC cI a (dGo (f, r) L n).1.1 (dGo (f, r) L n).1.2 ++ DC cI b f2 r2)) := hD
  refine lv_iload_n hx hb dX1_pass_30 rfl (lv_at hl 0 rfl) ?_
  refine lv_isub hx hb dX1_pass_31 ?_
  exact wRi hQ hx hb hr hlocks hP hD hS dX1_pass_32 () (rfl) rfl
abbrev rmX1_guests : Room := { frames := 0, cells := 0, slots := 0, locals := 0 }
set_option maxRecDepth 100000 in
set_option maxHeartbeats 4000000 in
theorem mX1_guests (l : Launch) (D : va_G) (cI : ClassId) (x0 : Nat) (a b : Nat → Nat) (f f2 : Nat → Int32) (r r2 : Nat → Nat → Int32) (sz : Nat) : wCt l yX1_guests wsX1_guests rmX1_guests D [(cI, .int)] [.ref x0] (XO x0 a b ++ (DC cI a f r ++ DC cI b f2 r2)) sz 0 0 (wQi D (fun v (_ : Unit) => v = f 0) (fun _ : Unit => XO x0 a b ++ (DC cI a f r ++ DC cI b f2 r2))) := by
  refine wMet cX1_guests 1 (some .int) (by decide) rfl (Nat.le_of_ble_eq_true rfl) ?_
  intro p e s m args below meth c A Q ls hQ hx hb hr hml hown hlocks hin hts hN hP hK hD hA hS hl
  have hl : lv_has ls 1 [(0, .ref x0)] := hl
  have hown : s.vm.findClass RX1 = some m.cls := hown
  have hw0 : ∀ w ∈ wsX00, w.before args s = true := fun w h => hts w (List.mem_cons_of_mem _ (List.mem_append_right _ h))
  have hw1 : ∀ w ∈ wsX10, w.before args s = true := fun w h => hts w (List.mem_cons_of_mem _ (List.mem_append_left _ (List.mem_append_right _ h)))
  have k12 := hts (.fieldLink RX1 12 "PauseLedger" "dinner" "LPauseLedger$Dinner;") (by decide +kernel)
  have k58 := hts (.fieldLink RX1 58 "PauseLedger$Dinner" "guests" "I") (by decide +kernel)
  refine lv_aload_n hx hb dX1_guests_0 rfl (lv_at hl 0 rfl) ?_
  refine va_get (D := D) (ci := 1) (v := .ref (a 0)) (C := RX1) (T := TX1) (N := 2) hx hb hw1 (fun _ h => h) hown hK hP 0 rfl rfl 0 (by decide) k12 (fun _ h9 => h9) rfl dX1_guests_1 ?_
  refine va_get (D := D) (ci := 0) (v := .int (f 0)) (C := RX0) (T := TX0) (N := 17) hx hb hw0 (fun _ h => h) hown hK hP 1 rfl rfl 0 (by decide) k58 (fun _ h9 => h9) rfl dX1_guests_4 ?_
  exact wRi hQ hx hb hr hlocks hP hD hS dX1_guests_7 () (rfl) rfl
abbrev rmX1_seconds : Room := { frames := 0, cells := 0, slots := 0, locals := 0 }
set_option maxRecDepth 100000 in
set_option maxHeartbeats 4000000 in
theorem mX1_seconds (l : Launch) (D : va_G) (cI : ClassId) (x0 : Nat) (a b : Nat → Nat) (f f2 : Nat → Int32) (r r2 : Nat → Nat → Int32) (sz : Nat) : wCt l yX1_seconds wsX1_seconds rmX1_seconds D [(cI, .int)] [.ref x0] (XO x0 a b ++ (DC cI a f r ++ DC cI b f2 r2)) sz 0 0 (wQi D (fun v (_ : Unit) => v = f 1) (fun _ : Unit => XO x0 a b ++ (DC cI a f r ++ DC cI b f2 r2))) := by
  refine wMet cX1_seconds 1 (some .int) (by decide) rfl (Nat.le_of_ble_eq_true rfl) ?_
  intro p e s m args below meth c A Q ls hQ hx hb hr hml hown hlocks hin hts hN hP hK hD hA hS hl
  have hl : lv_has ls 1 [(0, .ref x0)] := hl
  have hown : s.vm.findClass RX1 = some m.cls := hown
  have hw0 : ∀ w ∈ wsX00, w.before args s = true := fun w h => hts w (List.mem_cons_of_mem _ (List.mem_append_right _ h))
  have hw1 : ∀ w ∈ wsX10, w.before args s = true := fun w h => hts w (List.mem_cons_of_mem _ (List.mem_append_left _ (List.mem_append_right _ h)))
  have k12 := hts (.fieldLink RX1 12 "PauseLedger" "dinner" "LPauseLedger$Dinner;") (by decide +kernel)
  have k61 := hts (.fieldLink RX1 61 "PauseLedger$Dinner" "seconds" "I") (by decide +kernel)
  refine lv_aload_n hx hb dX1_seconds_0 rfl (lv_at hl 0 rfl) ?_
  refine va_get (D := D) (ci := 1) (v := .ref (a 0)) (C := RX1) (T := TX1) (N := 2) hx hb hw1 (fun _ h => h) hown hK hP 0 rfl rfl 0 (by decide) k12 (fun _ h9 => h9) rfl dX1_seconds_1 ?_
  refine va_get (D := D) (ci := 0) (v := .int (f 1)) (C := RX0) (T := TX0) (N := 17) hx hb hw0 (fun _ h => h) hown hK hP 1 rfl rfl 1 (by decide) k61 (fun _ h9 => h9) rfl dX1_seconds_4 ?_
  exact wRi hQ hx hb hr hlocks hP hD hS dX1_seconds_7 () (rfl) rfl
abbrev rmX1_limit : Room := { frames := 0, cells := 0, slots := 0, locals := 0 }
set_option maxRecDepth 100000 in
set_option maxHeartbeats 4000000 in
theorem mX1_limit (l : Launch) (D : va_G) (cI : ClassId) (x0 : Nat) (a b : Nat → Nat) (f f2 : Nat → Int32) (r r2 : Nat → Nat → Int32) (sz : Nat) : wCt l yX1_limit wsX1_limit rmX1_limit D [(cI, .int)] [.ref x0] (XO x0 a b ++ (DC cI a f r ++ DC cI b f2 r2)) sz 0 0 (wQi D (fun v (_ : Unit) => v = f 2) (fun _ : Unit => XO x0 a b ++ (DC cI a f r ++ DC cI b f2 r2))) := by
  refine wMet cX1_limit 1 (some .int) (by decide) rfl (Nat.le_of_ble_eq_true rfl) ?_
  intro p e s m args below meth c A Q ls hQ hx hb hr hml hown hlocks hin hts hN hP hK hD hA hS hl
  have hl : lv_has ls 1 [(0, .ref x0)] := hl
  have hown : s.vm.findClass RX1 = some m.cls := hown
  have hw0 : ∀ w ∈ wsX00, w.before args s = true := fun w h => hts w (List.mem_cons_of_mem _ (List.mem_append_right _ h))
  have hw1 : ∀ w ∈ wsX10, w.before args s = true := fun w h => hts w (List.mem_cons_of_mem _ (List.mem_append_left _ (List.mem_append_right _ h)))
  have k12 := hts (.fieldLink RX1 12 "PauseLedger" "dinner" "LPauseLedger$Dinner;") (by decide +kernel)
  have k31 := hts (.fieldLink RX1 31 "PauseLedger$Dinner" "limit" "I") (by decide +kernel)
  refine lv_aload_n hx hb dX1_limit_0 rfl (lv_at hl 0 rfl) ?_
  refine va_get (D := D) (ci := 1) (v := .ref (a 0)) (C := RX1) (T := TX1) (N := 2) hx hb hw1 (fun _ h => h) hown hK hP 0 rfl rfl 0 (by decide) k12 (fun _ h9 => h9) rfl dX1_limit_1 ?_
  refine va_get (D := D) (ci := 0) (v := .int (f 2)) (C := RX0) (T := TX0) (N := 17) hx hb hw0 (fun _ h => h) hown hK hP 1 rfl rfl 2 (by decide) k31 (fun _ h9 => h9) rfl dX1_limit_4 ?_
  exact wRi hQ hx hb hr hlocks hP hD hS dX1_limit_7 () (rfl) rfl
abbrev rmX1_speaker : Room := { frames := 0, cells := 0, slots := 0, locals := 0 }
set_option maxRecDepth 100000 in
set_option maxHeartbeats 4000000 in
theorem mX1_speaker (l : Launch) (D : va_G) (cI : ClassId) (x0 : Nat) (a b : Nat → Nat) (f f2 : Nat → Int32) (r r2 : Nat → Nat → Int32) (sz : Nat) : wCt l yX1_speaker wsX1_speaker rmX1_speaker D [(cI, .int)] [.ref x0] (XO x0 a b ++ (DC cI a f r ++ DC cI b f2 r2)) sz 0 0 (wQi D (fun v (_ : Unit) => v = f 3) (fun _ : Unit => XO x0 a b ++ (DC cI a f r ++ DC cI b f2 r2))) := by
  refine wMet cX1_speaker 1 (some .int) (by decide) rfl (Nat.le_of_ble_eq_true rfl) ?_
  intro p e s m args below meth c A Q ls hQ hx hb hr hml hown hlocks hin hts hN hP hK hD hA hS hl
  have hl : lv_has ls 1 [(0, .ref x0)] := hl
  have hown : s.vm.findClass RX1 = some m.cls := hown
  have hw0 : ∀ w ∈ wsX00, w.before args s = true := fun w h => hts w (List.mem_cons_of_mem _ (List.mem_append_right _ h))
  have hw1 : ∀ w ∈ wsX10, w.before args s = true := fun w h => hts w (List.mem_cons_of_mem _ (List.mem_append_left _ (List.mem_append_right _ h)))
  have k12 := hts (.fieldLink RX1 12 "PauseLedger" "dinner" "LPauseLedger$Dinner;") (by decide +kernel)
  have k67 := hts (.fieldLink RX1 67 "PauseLedger$Dinner" "speaker" "I") (by decide +kernel)
  refine lv_aload_n hx hb dX1_speaker_0 rfl (lv_at hl 0 rfl) ?_
  refine va_get (D := D) (ci := 1) (v := .ref (a 0)) (C := RX1) (T := TX1) (N := 2) hx hb hw1 (fun _ h => h) hown hK hP 0 rfl rfl 0 (by decide) k12 (fun _ h9 => h9) rfl dX1_speaker_1 ?_
  refine va_get (D := D) (ci := 0) (v := .int (f 3)) (C := RX0) (T := TX0) (N := 17) hx hb hw0 (fun _ h => h) hown hK hP 1 rfl rfl 3 (by decide) k67 (fun _ h9 => h9) rfl dX1_speaker_4 ?_
  exact wRi hQ hx hb hr hlocks hP hD hS dX1_speaker_7 () (rfl) rfl
abbrev rmX1_secondsToSpeak : Room := { frames := 0, cells := 0, slots := 0, locals := 0 }
set_option maxRecDepth 100000 in
set_option maxHeartbeats 4000000 in
theorem mX1_secondsToSpeak (l : Launch) (D : va_G) (cI : ClassId) (x0 : Nat) (a b : Nat → Nat) (f f2 : Nat → Int32) (r r2 : Nat → Nat → Int32) (sz : Nat) : wCt l yX1_secondsToSpeak wsX1_secondsToSpeak rmX1_secondsToSpeak D [(cI, .int)] [.ref x0] (XO x0 a b ++ (DC cI a f r ++ DC cI b f2 r2)) sz 0 0 (wQi D (fun v (_ : Unit) => v = f 4) (fun _ : Unit => XO x0 a b ++ (DC cI a f r ++ DC cI b f2 r2))) := by
  refine wMet cX1_secondsToSpeak 1 (some .int) (by decide) rfl (Nat.le_of_ble_eq_true rfl) ?_
  intro p e s m args below meth c A Q ls hQ hx hb hr hml hown hlocks hin hts hN hP hK hD hA hS hl
  have hl : lv_has ls 1 [(0, .ref x0)] := hl
  have hown : s.vm.findClass RX1 = some m.cls := hown
  have hw0 : ∀ w ∈ wsX00, w.before args s = true := fun w h => hts w (List.mem_cons_of_mem _ (List.mem_append_right _ h))
  have hw1 : ∀ w ∈ wsX10, w.before args s = true := fun w h => hts w (List.mem_cons_of_mem _ (List.mem_append_left _ (List.mem_append_right _ h)))
  have k12 := hts (.fieldLink RX1 12 "PauseLedger" "dinner" "LPauseLedger$Dinner;") (by decide +kernel)
  have k70 := hts (.fieldLink RX1 70 "PauseLedger$Dinner" "toSpeak" "I") (by decide +kernel)
  refine lv_aload_n hx hb dX1_secondsToSpeak_0 rfl (lv_at hl 0 rfl) ?_
  refine va_get (D := D) (ci := 1) (v := .ref (a 0)) (C := RX1) (T := TX1) (N := 2) hx hb hw1 (fun _ h => h) hown hK hP 0 rfl rfl 0 (by decide) k12 (fun _ h9 => h9) rfl dX1_secondsToSpeak_1 ?_
  refine va_get (D := D) (ci := 0) (v := .int (f 4)) (C := RX0) (T := TX0) (N := 17) hx hb hw0 (fun _ h => h) hown hK hP 1 rfl rfl 4 (by decide) k70 (fun _ h9 => h9) rfl dX1_secondsToSpeak_4 ?_
  exact wRi hQ hx hb hr hlocks hP hD hS dX1_secondsToSpeak_7 () (rfl) rfl
abbrev rmX1_pause : Room := { frames := 0, cells := 0, slots := 0, locals := 0 }
set_option maxRecDepth 100000 in
set_option maxHeartbeats 4000000 in
theorem mX1_pause (l : Launch) (D : va_G) (cI : ClassId) (x0 : Nat) (a b : Nat → Nat) (f f2 : Nat → Int32) (r r2 : Nat → Nat → Int32) (sz : Nat) : wCt l yX1_pause wsX1_pause rmX1_pause D [(cI, .int)] [.ref x0] (XO x0 a b ++ (DC cI a f r ++ DC cI b f2 r2)) sz 0 0 (wQi D (fun v (_ : Unit) => v = f 5) (fun _ : Unit => XO x0 a b ++ (DC cI a f r ++ DC cI b f2 r2))) := by
  refine wMet cX1_pause 1 (some .int) (by decide) rfl (Nat.le_of_ble_eq_true rfl) ?_
  intro p e s m args below meth c A Q ls hQ hx hb hr hml hown hlocks hin hts hN hP hK hD hA hS hl
  have hl : lv_has ls 1 [(0, .ref x0)] := hl
  have hown : s.vm.findClass RX1 = some m.cls := hown
  have hw0 : ∀ w ∈ wsX00, w.before args s = true := fun w h => hts w (List.mem_cons_of_mem _ (List.mem_append_right _ h))
  have hw1 : ∀ w ∈ wsX10, w.before args s = true := fun w h => hts w (List.mem_cons_of_mem _ (List.mem_append_left _ (List.mem_append_right _ h)))
  have k12 := hts (.fieldLink RX1 12 "PauseLedger" "dinner" "LPauseLedger$Dinner;") (by decide +kernel)
  have k73 := hts (.fieldLink RX1 73 "PauseLedger$Dinner" "pause" "I") (by decide +kernel)
  refine lv_aload_n hx hb dX1_pause_0 rfl (lv_at hl 0 rfl) ?_
  refine va_get (D := D) (ci := 1) (v := .ref (a 0)) (C := RX1) (T := TX1) (N := 2) hx hb hw1 (fun _ h => h) hown hK hP 0 rfl rfl 0 (by decide) k12 (fun _ h9 => h9) rfl dX1_pause_1 ?_
  refine va_get (D := D) (ci := 0) (v := .int (f 5)) (C := RX0) (T := TX0) (N := 17) hx hb hw0 (fun _ h => h) hown hK hP 1 rfl rfl 5 (by decide) k73 (fun _ h9 => h9) rfl dX1_pause_4 ?_
  exact wRi hQ hx hb hr hlocks hP hD hS dX1_pause_7 () (rfl) rfl
abbrev rmX1_unsaidInPauses : Room := { frames := 0, cells := 0, slots := 0, locals := 0 }
set_option maxRecDepth 100000 in
set_option maxHeartbeats 4000000 in
theorem mX1_unsaidInPauses (l : Launch) (D : va_G) (cI : ClassId) (x0 : Nat) (a b : Nat → Nat) (f f2 : Nat → Int32) (r r2 : Nat → Nat → Int32) (sz : Nat) : wCt l yX1_unsaidInPauses wsX1_unsaidInPauses rmX1_unsaidInPauses D [(cI, .int)] [.ref x0] (XO x0 a b ++ (DC cI a f r ++ DC cI b f2 r2)) sz 0 0 (wQi D (fun v (_ : Unit) => v = f 6) (fun _ : Unit => XO x0 a b ++ (DC cI a f r ++ DC cI b f2 r2))) := by
  refine wMet cX1_unsaidInPauses 1 (some .int) (by decide) rfl (Nat.le_of_ble_eq_true rfl) ?_
  intro p e s m args below meth c A Q ls hQ hx hb hr hml hown hlocks hin hts hN hP hK hD hA hS hl
  have hl : lv_has ls 1 [(0, .ref x0)] := hl
  have hown : s.vm.findClass RX1 = some m.cls := hown
  have hw0 : ∀ w ∈ wsX00, w.before args s = true := fun w h => hts w (List.mem_cons_of_mem _ (List.mem_append_right _ h))
  have hw1 : ∀ w ∈ wsX10, w.before args s = true := fun w h => hts w (List.mem_cons_of_mem _ (List.mem_append_left _ (List.mem_append_right _ h)))
  have k12 := hts (.fieldLink RX1 12 "PauseLedger" "dinner" "LPauseLedger$Dinner;") (by decide +kernel)
  have k103 := hts (.fieldLink RX1 103 "PauseLedger$Dinner" "unsaidInPauses" "I") (by decide +kernel)
  refine lv_aload_n hx hb dX1_unsaidInPauses_0 rfl (lv_at hl 0 rfl) ?_
  refine va_get (D := D) (ci := 1) (v := .ref (a 0)) (C := RX1) (T := TX1) (N := 2) hx hb hw1 (fun _ h => h) hown hK hP 0 rfl rfl 0 (by decide) k12 (fun _ h9 => h9) rfl dX1_unsaidInPauses_1 ?_
  refine va_get (D := D) (ci := 0) (v := .int (f 6)) (C := RX0) (T := TX0) (N := 17) hx hb hw0 (fun _ h => h) hown hK hP 1 rfl rfl 6 (by decide) k103 (fun _ h9 => h9) rfl dX1_unsaidInPauses_4 ?_
  exact wRi hQ hx hb hr hlocks hP hD hS dX1_unsaidInPauses_7 () (rfl) rfl
abbrev rmX1_meetings : Room := { frames := 0, cells := 0, slots := 0, locals := 0 }
set_option maxRecDepth 100000 in
set_option maxHeartbeats 4000000 in
theorem mX1_meetings (l : Launch) (D : va_G) (cI : ClassId) (x0 : Nat) (a b : Nat → Nat) (f f2 : Nat → Int32) (r r2 : Nat → Nat → Int32) (sz : Nat) : wCt l yX1_meetings wsX1_meetings rmX1_meetings D [(cI, .int)] [.ref x0] (XO x0 a b ++ (DC cI a f r ++ DC cI b f2 r2)) sz 0 0 (wQi D (fun v (_ : Unit) => v = f 7) (fun _ : Unit => XO x0 a b ++ (DC cI a f r ++ DC cI b f2 r2))) := by
  refine wMet cX1_meetings 1 (some .int) (by decide) rfl (Nat.le_of_ble_eq_true rfl) ?_
  intro p e s m args below meth c A Q ls hQ hx hb hr hml hown hlocks hin hts hN hP hK hD hA hS hl
  have hl : lv_has ls 1 [(0, .ref x0)] := hl
  have hown : s.vm.findClass RX1 = some m.cls := hown
  have hw0 : ∀ w ∈ wsX00, w.before args s = true := fun w h => hts w (List.mem_cons_of_mem _ (List.mem_append_right _ h))
  have hw1 : ∀ w ∈ wsX10, w.before args s = true := fun w h => hts w (List.mem_cons_of_mem _ (List.mem_append_left _ (List.mem_append_right _ h)))
  have k12 := hts (.fieldLink RX1 12 "PauseLedger" "dinner" "LPauseLedger$Dinner;") (by decide +kernel)
  have k109 := hts (.fieldLink RX1 109 "PauseLedger$Dinner" "meetings" "I") (by decide +kernel)
  refine lv_aload_n hx hb dX1_meetings_0 rfl (lv_at hl 0 rfl) ?_
  refine va_get (D := D) (ci := 1) (v := .ref (a 0)) (C := RX1) (T := TX1) (N := 2) hx hb hw1 (fun _ h => h) hown hK hP 0 rfl rfl 0 (by decide) k12 (fun _ h9 => h9) rfl dX1_meetings_1 ?_
  refine va_get (D := D) (ci := 0) (v := .int (f 7)) (C := RX0) (T := TX0) (N := 17) hx hb hw0 (fun _ h => h) hown hK hP 1 rfl rfl 7 (by decide) k109 (fun _ h9 => h9) rfl dX1_meetings_4 ?_
  exact wRi hQ hx hb hr hlocks hP hD hS dX1_meetings_7 () (rfl) rfl
abbrev rmX1_lostGlances : Room := { frames := 0, cells := 0, slots := 0, locals := 0 }
set_option maxRecDepth 100000 in
set_option maxHeartbeats 4000000 in
theorem mX1_lostGlances (l : Launch) (D : va_G) (cI : ClassId) (x0 : Nat) (a b : Nat → Nat) (f f2 : Nat → Int32) (r r2 : Nat → Nat → Int32) (sz : Nat) : wCt l yX1_lostGlances wsX1_lostGlances rmX1_lostGlances D [(cI, .int)] [.ref x0] (XO x0 a b ++ (DC cI a f r ++ DC cI b f2 r2)) sz 0 0 (wQi D (fun v (_ : Unit) => v = f 8) (fun _ : Unit => XO x0 a b ++ (DC cI a f r ++ DC cI b f2 r2))) := by
  refine wMet cX1_lostGlances 1 (some .int) (by decide) rfl (Nat.le_of_ble_eq_true rfl) ?_
  intro p e s m args below meth c A Q ls hQ hx hb hr hml hown hlocks hin hts hN hP hK hD hA hS hl
  have hl : lv_has ls 1 [(0, .ref x0)] := hl
  have hown : s.vm.findClass RX1 = some m.cls := hown
  have hw0 : ∀ w ∈ wsX00, w.before args s = true := fun w h => hts w (List.mem_cons_of_mem _ (List.mem_append_right _ h))
  have hw1 : ∀ w ∈ wsX10, w.before args s = true := fun w h => hts w (List.mem_cons_of_mem _ (List.mem_append_left _ (List.mem_append_right _ h)))
  have k12 := hts (.fieldLink RX1 12 "PauseLedger" "dinner" "LPauseLedger$Dinner;") (by decide +kernel)
  have k112 := hts (.fieldLink RX1 112 "PauseLedger$Dinner" "lost" "I") (by decide +kernel)
  refine lv_aload_n hx hb dX1_lostGlances_0 rfl (lv_at hl 0 rfl) ?_
  refine va_get (D := D) (ci := 1) (v := .ref (a 0)) (C := RX1) (T := TX1) (N := 2) hx hb hw1 (fun _ h => h) hown hK hP 0 rfl rfl 0 (by decide) k12 (fun _ h9 => h9) rfl dX1_lostGlances_1 ?_
  refine va_get (D := D) (ci := 0) (v := .int (f 8)) (C := RX0) (T := TX0) (N := 17) hx hb hw0 (fun _ h => h) hown hK hP 1 rfl rfl 8 (by decide) k112 (fun _ h9 => h9) rfl dX1_lostGlances_4 ?_
  exact wRi hQ hx hb hr hlocks hP hD hS dX1_lostGlances_7 () (rfl) rfl
abbrev rmX1_glancesUnderWay : Room := { frames := 0, cells := 0, slots := 0, locals := 0 }
set_option maxRecDepth 100000 in
set_option maxHeartbeats 4000000 in
theorem mX1_glancesUnderWay (l : Launch) (D : va_G) (cI : ClassId) (x0 : Nat) (a b : Nat → Nat) (f f2 : Nat → Int32) (r r2 : Nat → Nat → Int32) (sz : Nat) : wCt l yX1_glancesUnderWay wsX1_glancesUnderWay rmX1_glancesUnderWay D [(cI, .int)] [.ref x0] (XO x0 a b ++ (DC cI a f r ++ DC cI b f2 r2)) sz 0 0 (wQi D (fun v (_ : Unit) => v = f 9) (fun _ : Unit => XO x0 a b ++ (DC cI a f r ++ DC cI b f2 r2))) := by
  refine wMet cX1_glancesUnderWay 1 (some .int) (by decide) rfl (Nat.le_of_ble_eq_true rfl) ?_
  intro p e s m args below meth c A Q ls hQ hx hb hr hml hown hlocks hin hts hN hP hK hD hA hS hl
  have hl : lv_has ls 1 [(0, .ref x0)] := hl
  have hown : s.vm.findClass RX1 = some m.cls := hown
  have hw0 : ∀ w ∈ wsX00, w.before args s = true := fun w h => hts w (List.mem_cons_of_mem _ (List.mem_append_right _ h))
  have hw1 : ∀ w ∈ wsX10, w.before args s = true := fun w h => hts w (List.mem_cons_of_mem _ (List.mem_append_left _ (List.mem_append_right _ h)))
  have k12 := hts (.fieldLink RX1 12 "PauseLedger" "dinner" "LPauseLedger$Dinner;") (by decide +kernel)
  have k106 := hts (.fieldLink RX1 106 "PauseLedger$Dinner" "sent" "I") (by decide +kernel)
  refine lv_aload_n hx hb dX1_glancesUnderWay_0 rfl (lv_at hl 0 rfl) ?_
  refine va_get (D := D) (ci := 1) (v := .ref (a 0)) (C := RX1) (T := TX1) (N := 2) hx hb hw1 (fun _ h => h) hown hK hP 0 rfl rfl 0 (by decide) k12 (fun _ h9 => h9) rfl dX1_glancesUnderWay_1 ?_
  refine va_get (D := D) (ci := 0) (v := .int (f 9)) (C := RX0) (T := TX0) (N := 17) hx hb hw0 (fun _ h => h) hown hK hP 1 rfl rfl 9 (by decide) k106 (fun _ h9 => h9) rfl dX1_glancesUnderWay_4 ?_
  exact wRi hQ hx hb hr hlocks hP hD hS dX1_glancesUnderWay_7 () (rfl) rfl
abbrev rmX1_allUnsaid : Room := { frames := 2, cells := 0, slots := 0, locals := 42 }
set_option maxRecDepth 100000 in
set_option maxHeartbeats 4000000 in
theorem mX1_allUnsaid (l : Launch) (D : va_G) (cI : ClassId) (x0 : Nat) (a b : Nat → Nat) (f f2 : Nat → Int32) (r r2 : Nat → Nat → Int32) (gg : Nat) (sz : Nat) (hg : f 0 = nI gg) (hg2 : gg ≤ 10) (hg0 : 0 < gg) : wCt l yX1_allUnsaid wsX1_allUnsaid rmX1_allUnsaid D [(cI, .int)] [.ref x0] (XO x0 a b ++ (DC cI a f r ++ DC cI b f2 r2)) sz 0 0 (wQi D (fun v (_ : Unit) => v = dSum (r 3) gg + f 6) (fun _ : Unit => XO x0 a b ++ (DC cI a f r ++ DC cI b f2 r2))) := by
  refine wMet cX1_allUnsaid 1 (some .int) (by decide) rfl (Nat.le_of_ble_eq_true rfl) ?_
  intro p e s m args below meth c A Q ls hQ hx hb hr hml hown hlocks hin hts hN hP hK hD hA hS hl
  have hl : lv_has ls 1 [(0, .ref x0)] := hl
  have hown : s.vm.findClass RX1 = some m.cls := hown
  have hw1 : ∀ w ∈ wsX10, w.before args s = true := fun w h => hts w (List.mem_cons_of_mem _ (List.mem_append_left _ (List.mem_append_right _ h)))
  have k12 := hts (.fieldLink RX1 12 "PauseLedger" "dinner" "LPauseLedger$Dinner;") (by decide +kernel)
  refine lv_aload_n hx hb dX1_allUnsaid_0 rfl (lv_at hl 0 rfl) ?_
  refine va_get (D := D) (ci := 1) (v := .ref (a 0)) (C := RX1) (T := TX1) (N := 2) hx hb hw1 (fun _ h => h) hown hK hP 0 rfl rfl 0 (by decide) k12 (fun _ h9 => h9) rfl dX1_allUnsaid_1 ?_
  refine wCVi (pre := XO x0 a b) (Wc := DC cI a f r) (suf := DC cI b f2 r2) (As := []) (rest := []) ⟨hx, hb, hml, hown, hts⟩ (mX0_sumUnsaid l D cI a f r gg _ hg hg2) hN hA hK hS hP hD rfl 0 (r := (RX0, TX0, 17)) rfl rfl (cwV 0 hts gX1_allUnsaid_X0_sumUnsaid rfl rfl rfl (by decide +kernel) ⟨Nat.le_of_ble_eq_true rfl, Nat.le_of_ble_eq_true rfl⟩) rfl hl.1 rfl (Nat.le_of_ble_eq_true rfl) dX1_allUnsaid_4 ⟨Nat.zero_le _, Nat.zero_le _⟩ (fun r_4 u_4 H locs hw hP hD hS => ?_)
  have hw : r_4 = dSum (r 3) gg + f 6 := hw
  subst hw
  have hP : va_P D vwCl (XO x0 a b ++ (DC cI a f r ++ DC cI b f2 r2)) H := hP
  have hD : va_D A (XO x0 a b ++ (DC cI a f r ++ DC cI b f2 r2)) := hD
  exact wRi hQ hx hb hr hlocks hP hD hS dX1_allUnsaid_7 () (rfl) rfl
abbrev rmX1_rating : Room := { frames := 3, cells := 0, slots := 0, locals := 63 }
set_option maxRecDepth 100000 in
set_option maxHeartbeats 4000000 in
theorem mX1_rating (l : Launch) (D : va_G) (cI : ClassId) (x0 : Nat) (a b : Nat → Nat) (f f2 : Nat → Int32) (r r2 : Nat → Nat → Int32) (gg : Nat) (sz : Nat) (hg : f 0 = nI gg) (hg2 : gg ≤ 10) (hg0 : 0 < gg) : wCt l yX1_rating wsX1_rating rmX1_rating D [(cI, .int)] [.ref x0] (XO x0 a b ++ (DC cI a f r ++ DC cI b f2 r2)) sz 0 0 (wQi D (fun v (_ : Unit) => v = dRate (f 0) (f 6) (r 3) gg) (fun _ : Unit => XO x0 a b ++ (DC cI a f r ++ DC cI b f2 r2))) := by
  refine wMet cX1_rating 1 (some .int) (by decide) rfl (Nat.le_of_ble_eq_true rfl) ?_
  intro p e s m args below meth c A Q ls hQ hx hb hr hml hown hlocks hin hts hN hP hK hD hA hS hl
  have hl : lv_has ls 1 [(0, .ref x0)] := hl
  have hown : s.vm.findClass RX1 = some m.cls := hown
  have hw1 : ∀ w ∈ wsX10, w.before args s = true := fun w h => hts w (List.mem_cons_of_mem _ (List.mem_append_left _ (List.mem_append_right _ h)))
  have k12 := hts (.fieldLink RX1 12 "PauseLedger" "dinner" "LPauseLedger$Dinner;") (by decide +kernel)
  refine lv_aload_n hx hb dX1_rating_0 rfl (lv_at hl 0 rfl) ?_
  refine va_get (D := D) (ci := 1) (v := .ref (a 0)) (C := RX1) (T := TX1) (N := 2) hx hb hw1 (fun _ h => h) hown hK hP 0 rfl rfl 0 (by decide) k12 (fun _ h9 => h9) rfl dX1_rating_1 ?_
  refine wCVi (pre := XO x0 a b) (Wc := DC cI a f r) (suf := DC cI b f2 r2) (As := []) (rest := []) ⟨hx, hb, hml, hown, hts⟩ (mX0_rate l D cI a f r gg _ hg hg2 hg0) hN hA hK hS hP hD rfl 0 (r := (RX0, TX0, 17)) rfl rfl (cwV 0 hts gX1_rating_X0_rate rfl rfl rfl (by decide +kernel) ⟨Nat.le_of_ble_eq_true rfl, Nat.le_of_ble_eq_true rfl⟩) rfl hl.1 rfl (Nat.le_of_ble_eq_true rfl) dX1_rating_4 ⟨Nat.zero_le _, Nat.zero_le _⟩ (fun r_4 u_4 H locs hw hP hD hS => ?_)
  have hw : r_4 = dRate (f 0) (f 6) (r 3) gg := hw
  subst hw
  have hP : va_P D vwCl (XO x0 a b ++ (DC cI a f r ++ DC cI b f2 r2)) H := hP
  have hD : va_D A (XO x0 a b ++ (DC cI a f r ++ DC cI b f2 r2)) := hD
  exact wRi hQ hx hb hr hlocks hP hD hS dX1_rating_7 () (rfl) rfl
abbrev rmX1_spokenBy : Room := { frames := 1, cells := 0, slots := 0, locals := 21 }
set_option maxRecDepth 100000 in
set_option maxHeartbeats 4000000 in
theorem mX1_spokenBy (l : Launch) (D : va_G) (cI : ClassId) (x0 : Nat) (a b : Nat → Nat) (f f2 : Nat → Int32) (r r2 : Nat → Nat → Int32) (gg x : Nat) (sz : Nat) (hg : f 0 = nI gg) (hg2 : gg ≤ 10) (hg0 : 0 < gg) (ux : x < gg) : wCt l yX1_spokenBy wsX1_spokenBy rmX1_spokenBy D [(cI, .int)] [.ref x0, .int (nI x)] (XO x0 a b ++ (DC cI a f r ++ DC cI b f2 r2)) sz 0 0 (wQi D (fun v (_ : Unit) => v = r 0 x) (fun _ : Unit => XO x0 a b ++ (DC cI a f r ++ DC cI b f2 r2))) := by
  refine wMet cX1_spokenBy 2 (some .int) (by decide) rfl (Nat.le_of_ble_eq_true rfl) ?_
  intro p e s m args below meth c A Q ls hQ hx hb hr hml hown hlocks hin hts hN hP hK hD hA hS hl
  have hl : lv_has ls 2 [(0, .ref x0), (1, .int (nI x))] := hl
  have hown : s.vm.findClass RX1 = some m.cls := hown
  have hw0 : ∀ w ∈ wsX00, w.before args s = true := fun w h => hts w (List.mem_cons_of_mem _ (List.mem_append_left _ (List.mem_append_right _ h)))
  have hw1 : ∀ w ∈ wsX10, w.before args s = true := fun w h => hts w (List.mem_cons_of_mem _ (List.mem_append_left _ (List.mem_append_left _ (List.mem_append_right _ h))))
  have k12 := hts (.fieldLink RX1 12 "PauseLedger" "dinner" "LPauseLedger$Dinner;") (by decide +kernel)
  have k76 := hts (.fieldLink RX1 76 "PauseLedger$Dinner" "spoken" "[I") (by decide +kernel)
  refine lv_aload_n hx hb dX1_spokenBy_0 rfl (lv_at hl 0 rfl) ?_
  refine lv_iload_n hx hb dX1_spokenBy_1 rfl (lv_at hl 1 rfl) ?_
  refine wCVv (pre := ([] : va_W)) (Wc := XO x0 a b ++ (DC cI a f r ++ DC cI b f2 r2)) (suf := ([] : va_W)) (As := [.int (nI x)]) (rest := []) ⟨hx, hb, hml, hown, hts⟩ (mX1_requireGuest l D cI x0 a b f f2 r r2 gg x _ hg hg2 hg0 ux) hN hA hK hS hP hD rfl 0 (r := (RX1, TX1, 2)) rfl rfl (cwV 1 hts gX1_spokenBy_X1_requireGuest rfl rfl rfl (by decide +kernel) ⟨Nat.le_of_ble_eq_true rfl, Nat.le_of_ble_eq_true rfl⟩) rfl hl.1 rfl (Nat.le_of_ble_eq_true rfl) dX1_spokenBy_2 ⟨Nat.zero_le _, Nat.zero_le _⟩ (fun u_2 H locs hw hP hD hS => ?_)
  have hP : va_P D vwCl (XO x0 a b ++ (DC cI a f r ++ DC cI b f2 r2)) H := hP
  have hD : va_D A (XO x0 a b ++ (DC cI a f r ++ DC cI b f2 r2)) := hD
  refine lv_aload_n hx hb dX1_spokenBy_5 rfl (lv_at hl 0 rfl) ?_
  refine va_get (D := D) (ci := 1) (v := .ref (a 0)) (C := RX1) (T := TX1) (N := 2) hx hb hw1 (fun _ h => h) hown hK hP 0 rfl rfl 0 (by decide) k12 (fun _ h9 => h9) rfl dX1_spokenBy_6 ?_
  refine va_get (D := D) (ci := 0) (v := .ref (a 1)) (C := RX0) (T := TX0) (N := 17) hx hb hw0 (fun _ h => h) hown hK hP 1 rfl rfl 10 (by decide) k76 (fun _ h9 => h9) rfl dX1_spokenBy_9 ?_
  refine lv_iload_n hx hb dX1_spokenBy_12 rfl (lv_at hl 1 rfl) ?_
  refine wIald hx hb hK hP 2 0 rfl rfl x rfl (by omega) (by decide) dX1_spokenBy_13 ?_
  exact wRi hQ hx hb hr hlocks hP hD hS dX1_spokenBy_14 () (rfl) rfl
abbrev rmX1_interruptionsBy : Room := { frames := 1, cells := 0, slots := 0, locals := 21 }
set_option maxRecDepth 100000 in
set_option maxHeartbeats 4000000 in
theorem mX1_interruptionsBy (l : Launch) (D : va_G) (cI : ClassId) (x0 : Nat) (a b : Nat → Nat) (f f2 : Nat → Int32) (r r2 : Nat → Nat → Int32) (gg x : Nat) (sz : Nat) (hg : f 0 = nI gg) (hg2 : gg ≤ 10) (hg0 : 0 < gg) (ux : x < gg) : wCt l yX1_interruptionsBy wsX1_interruptionsBy rmX1_interruptionsBy D [(cI, .int)] [.ref x0, .int (nI x)] (XO x0 a b ++ (DC cI a f r ++ DC cI b f2 r2)) sz 0 0 (wQi D (fun v (_ : Unit) => v = r 1 x) (fun _ : Unit => XO x0 a b ++ (DC cI a f r ++ DC cI b f2 r2))) := by
  refine wMet cX1_interruptionsBy 2 (some .int) (by decide) rfl (Nat.le_of_ble_eq_true rfl) ?_
  intro p e s m args below meth c A Q ls hQ hx hb hr hml hown hlocks hin hts hN hP hK hD hA hS hl
  have hl : lv_has ls 2 [(0, .ref x0), (1, .int (nI x))] := hl
  have hown : s.vm.findClass RX1 = some m.cls := hown
  have hw0 : ∀ w ∈ wsX00, w.before args s = true := fun w h => hts w (List.mem_cons_of_mem _ (List.mem_append_left _ (List.mem_append_right _ h)))
  have hw1 : ∀ w ∈ wsX10, w.before args s = true := fun w h => hts w (List.mem_cons_of_mem _ (List.mem_append_left _ (List.mem_append_left _ (List.mem_append_right _ h))))
  have k12 := hts (.fieldLink RX1 12 "PauseLedger" "dinner" "LPauseLedger$Dinner;") (by decide +kernel)
  have k80 := hts (.fieldLink RX1 80 "PauseLedger$Dinner" "interruptions" "[I") (by decide +kernel)
  refine lv_aload_n hx hb dX1_interruptionsBy_0 rfl (lv_at hl 0 rfl) ?_
  refine lv_iload_n hx hb dX1_interruptionsBy_1 rfl (lv_at hl 1 rfl) ?_
  refine wCVv (pre := ([] : va_W)) (Wc := XO x0 a b ++ (DC cI a f r ++ DC cI b f2 r2)) (suf := ([] : va_W)) (As := [.int (nI x)]) (rest := []) ⟨hx, hb, hml, hown, hts⟩ (mX1_requireGuest l D cI x0 a b f f2 r r2 gg x _ hg hg2 hg0 ux) hN hA hK hS hP hD rfl 0 (r := (RX1, TX1, 2)) rfl rfl (cwV 1 hts gX1_interruptionsBy_X1_requireGuest rfl rfl rfl (by decide +kernel) ⟨Nat.le_of_ble_eq_true rfl, Nat.le_of_ble_eq_true rfl⟩) rfl hl.1 rfl (Nat.le_of_ble_eq_true rfl) dX1_interruptionsBy_2 ⟨Nat.zero_le _, Nat.zero_le _⟩ (fun u_2 H locs hw hP hD hS => ?_)
  have hP : va_P D vwCl (XO x0 a b ++ (DC cI a f r ++ DC cI b f2 r2)) H := hP
  have hD : va_D A (XO x0 a b ++ (DC cI a f r ++ DC cI b f2 r2)) := hD
  refine lv_aload_n hx hb dX1_interruptionsBy_5 rfl (lv_at hl 0 rfl) ?_
  refine va_get (D := D) (ci := 1) (v := .ref (a 0)) (C := RX1) (T := TX1) (N := 2) hx hb hw1 (fun _ h => h) hown hK hP 0 rfl rfl 0 (by decide) k12 (fun _ h9 => h9) rfl dX1_interruptionsBy_6 ?_
  refine va_get (D := D) (ci := 0) (v := .ref (a 2)) (C := RX0) (T := TX0) (N := 17) hx hb hw0 (fun _ h => h) hown hK hP 1 rfl rfl 11 (by decide) k80 (fun _ h9 => h9) rfl dX1_interruptionsBy_9 ?_
  refine lv_iload_n hx hb dX1_interruptionsBy_12 rfl (lv_at hl 1 rfl) ?_
  refine wIald hx hb hK hP 3 0 rfl rfl x rfl (by omega) (by decide) dX1_interruptionsBy_13 ?_
  exact wRi hQ hx hb hr hlocks hP hD hS dX1_interruptionsBy_14 () (rfl) rfl
abbrev rmX1_coughsOf : Room := { frames := 1, cells := 0, slots := 0, locals := 21 }
set_option maxRecDepth 100000 in
set_option maxHeartbeats 4000000 in
theorem mX1_coughsOf (l : Launch) (D : va_G) (cI : ClassId) (x0 : Nat) (a b : Nat → Nat) (f f2 : Nat → Int32) (r r2 : Nat → Nat → Int32) (gg x : Nat) (sz : Nat) (hg : f 0 = nI gg) (hg2 : gg ≤ 10) (hg0 : 0 < gg) (ux : x < gg) : wCt l yX1_coughsOf wsX1_coughsOf rmX1_coughsOf D [(cI, .int)] [.ref x0, .int (nI x)] (XO x0 a b ++ (DC cI a f r ++ DC cI b f2 r2)) sz 0 0 (wQi D (fun v (_ : Unit) => v = r 2 x) (fun _ : Unit => XO x0 a b ++ (DC cI a f r ++ DC cI b f2 r2))) := by
  refine wMet cX1_coughsOf 2 (some .int) (by decide) rfl (Nat.le_of_ble_eq_true rfl) ?_
  intro p e s m args below meth c A Q ls hQ hx hb hr hml hown hlocks hin hts hN hP hK hD hA hS hl
  have hl : lv_has ls 2 [(0, .ref x0), (1, .int (nI x))] := hl
  have hown : s.vm.findClass RX1 = some m.cls := hown
  have hw0 : ∀ w ∈ wsX00, w.before args s = true := fun w h => hts w (List.mem_cons_of_mem _ (List.mem_append_left _ (List.mem_append_right _ h)))
  have hw1 : ∀ w ∈ wsX10, w.before args s = true := fun w h => hts w (List.mem_cons_of_mem _ (List.mem_append_left _ (List.mem_append_left _ (List.mem_append_right _ h))))
  have k12 := hts (.fieldLink RX1 12 "PauseLedger" "dinner" "LPauseLedger$Dinner;") (by decide +kernel)
  have k83 := hts (.fieldLink RX1 83 "PauseLedger$Dinner" "coughs" "[I") (by decide +kernel)
  refine lv_aload_n hx hb dX1_coughsOf_0 rfl (lv_at hl 0 rfl) ?_
  refine lv_iload_n hx hb dX1_coughsOf_1 rfl (lv_at hl 1 rfl) ?_
  refine wCVv (pre := ([] : va_W)) (Wc := XO x0 a b ++ (DC cI a f r ++ DC cI b f2 r2)) (suf := ([] : va_W)) (As := [.int (nI x)]) (rest := []) ⟨hx, hb, hml, hown, hts⟩ (mX1_requireGuest l D cI x0 a b f f2 r r2 gg x _ hg hg2 hg0 ux) hN hA hK hS hP hD rfl 0 (r := (RX1, TX1, 2)) rfl rfl (cwV 1 hts gX1_coughsOf_X1_requireGuest rfl rfl rfl (by decide +kernel) ⟨Nat.le_of_ble_eq_true rfl, Nat.le_of_ble_eq_true rfl⟩) rfl hl.1 rfl (Nat.le_of_ble_eq_true rfl) dX1_coughsOf_2 ⟨Nat.zero_le _, Nat.zero_le _⟩ (fun u_2 H locs hw hP hD hS => ?_)
  have hP : va_P D vwCl (XO x0 a b ++ (DC cI a f r ++ DC cI b f2 r2)) H := hP
  have hD : va_D A (XO x0 a b ++ (DC cI a f r ++ DC cI b f2 r2)) := hD
  refine lv_aload_n hx hb dX1_coughsOf_5 rfl (lv_at hl 0 rfl) ?_
  refine va_get (D := D) (ci := 1) (v := .ref (a 0)) (C := RX1) (T := TX1) (N := 2) hx hb hw1 (fun _ h => h) hown hK hP 0 rfl rfl 0 (by decide) k12 (fun _ h9 => h9) rfl dX1_coughsOf_6 ?_
  refine va_get (D := D) (ci := 0) (v := .ref (a 3)) (C := RX0) (T := TX0) (N := 17) hx hb hw0 (fun _ h => h) hown hK hP 1 rfl rfl 12 (by decide) k83 (fun _ h9 => h9) rfl dX1_coughsOf_9 ?_
  refine lv_iload_n hx hb dX1_coughsOf_12 rfl (lv_at hl 1 rfl) ?_
  refine wIald hx hb hK hP 4 0 rfl rfl x rfl (by omega) (by decide) dX1_coughsOf_13 ?_
  exact wRi hQ hx hb hr hlocks hP hD hS dX1_coughsOf_14 () (rfl) rfl
abbrev rmX1_unsaidBy : Room := { frames := 1, cells := 0, slots := 0, locals := 21 }
set_option maxRecDepth 100000 in
set_option maxHeartbeats 4000000 in
theorem mX1_unsaidBy (l : Launch) (D : va_G) (cI : ClassId) (x0 : Nat) (a b : Nat → Nat) (f f2 : Nat → Int32) (r r2 : Nat → Nat → Int32) (gg x : Nat) (sz : Nat) (hg : f 0 = nI gg) (hg2 : gg ≤ 10) (hg0 : 0 < gg) (ux : x < gg) : wCt l yX1_unsaidBy wsX1_unsaidBy rmX1_unsaidBy D [(cI, .int)] [.ref x0, .int (nI x)] (XO x0 a b ++ (DC cI a f r ++ DC cI b f2 r2)) sz 0 0 (wQi D (fun v (_ : Unit) => v = r 3 x) (fun _ : Unit => XO x0 a b ++ (DC cI a f r ++ DC cI b f2 r2))) := by
  refine wMet cX1_unsaidBy 2 (some .int) (by decide) rfl (Nat.le_of_ble_eq_true rfl) ?_
  intro p e s m args below meth c A Q ls hQ hx hb hr hml hown hlocks hin hts hN hP hK hD hA hS hl
  have hl : lv_has ls 2 [(0, .ref x0), (1, .int (nI x))] := hl
  have hown : s.vm.findClass RX1 = some m.cls := hown
  have hw0 : ∀ w ∈ wsX00, w.before args s = true := fun w h => hts w (List.mem_cons_of_mem _ (List.mem_append_left _ (List.mem_append_right _ h)))
  have hw1 : ∀ w ∈ wsX10, w.before args s = true := fun w h => hts w (List.mem_cons_of_mem _ (List.mem_append_left _ (List.mem_append_left _ (List.mem_append_right _ h))))
  have k12 := hts (.fieldLink RX1 12 "PauseLedger" "dinner" "LPauseLedger$Dinner;") (by decide +kernel)
  have k86 := hts (.fieldLink RX1 86 "PauseLedger$Dinner" "unsaid" "[I") (by decide +kernel)
  refine lv_aload_n hx hb dX1_unsaidBy_0 rfl (lv_at hl 0 rfl) ?_
  refine lv_iload_n hx hb dX1_unsaidBy_1 rfl (lv_at hl 1 rfl) ?_
  refine wCVv (pre := ([] : va_W)) (Wc := XO x0 a b ++ (DC cI a f r ++ DC cI b f2 r2)) (suf := ([] : va_W)) (As := [.int (nI x)]) (rest := []) ⟨hx, hb, hml, hown, hts⟩ (mX1_requireGuest l D cI x0 a b f f2 r r2 gg x _ hg hg2 hg0 ux) hN hA hK hS hP hD rfl 0 (r := (RX1, TX1, 2)) rfl rfl (cwV 1 hts gX1_unsaidBy_X1_requireGuest rfl rfl rfl (by decide +kernel) ⟨Nat.le_of_ble_eq_true rfl, Nat.le_of_ble_eq_true rfl⟩) rfl hl.1 rfl (Nat.le_of_ble_eq_true rfl) dX1_unsaidBy_2 ⟨Nat.zero_le _, Nat.zero_le _⟩ (fun u_2 H locs hw hP hD hS => ?_)
  have hP : va_P D vwCl (XO x0 a b ++ (DC cI a f r ++ DC cI b f2 r2)) H := hP
  have hD : va_D A (XO x0 a b ++ (DC cI a f r ++ DC cI b f2 r2)) := hD
  refine lv_aload_n hx hb dX1_unsaidBy_5 rfl (lv_at hl 0 rfl) ?_
  refine va_get (D := D) (ci := 1) (v := .ref (a 0)) (C := RX1) (T := TX1) (N := 2) hx hb hw1 (fun _ h => h) hown hK hP 0 rfl rfl 0 (by decide) k12 (fun _ h9 => h9) rfl dX1_unsaidBy_6 ?_
  refine va_get (D := D) (ci := 0) (v := .ref (a 4)) (C := RX0) (T := TX0) (N := 17) hx hb hw0 (fun _ h => h) hown hK hP 1 rfl rfl 13 (by decide) k86 (fun _ h9 => h9) rfl dX1_unsaidBy_9 ?_
  refine lv_iload_n hx hb dX1_unsaidBy_12 rfl (lv_at hl 1 rfl) ?_
  refine wIald hx hb hK hP 5 0 rfl rfl x rfl (by omega) (by decide) dX1_unsaidBy_13 ?_
  exact wRi hQ hx hb hr hlocks hP hD hS dX1_unsaidBy_14 () (rfl) rfl
abbrev rmX1_seatsApart : Room := { frames := 2, cells := 0, slots := 0, locals := 44 }
set_option maxRecDepth 100000 in
set_option maxHeartbeats 4000000 in
theorem mX1_seatsApart (l : Launch) (D : va_G) (cI : ClassId) (x0 : Nat) (a b : Nat → Nat) (f f2 : Nat → Int32) (r r2 : Nat → Nat → Int32) (gg x y : Nat) (sz : Nat) (hg : f 0 = nI gg) (hg2 : gg ≤ 10) (hg0 : 0 < gg) (ux : x < gg) (uy : y < gg) : wCt l yX1_seatsApart wsX1_seatsApart rmX1_seatsApart D [(cI, .int)] [.ref x0, .int (nI x), .int (nI y)] (XO x0 a b ++ (DC cI a f r ++ DC cI b f2 r2)) sz 0 0 (wQi D (fun v (_ : Unit) => v = dSeats (f 0) (nI x) (nI y)) (fun _ : Unit => XO x0 a b ++ (DC cI a f r ++ DC cI b f2 r2))) := by
  refine wMet cX1_seatsApart 3 (some .int) (by decide) rfl (Nat.le_of_ble_eq_true rfl) ?_
  intro p e s m args below meth c A Q ls hQ hx hb hr hml hown hlocks hin hts hN hP hK hD hA hS hl
  have hl : lv_has ls 3 [(0, .ref x0), (1, .int (nI x)), (2, .int (nI y))] := hl
  have hown : s.vm.findClass RX1 = some m.cls := hown
  have hw1 : ∀ w ∈ wsX10, w.before args s = true := fun w h => hts w (List.mem_cons_of_mem _ (List.mem_append_left _ (List.mem_append_left _ (List.mem_append_right _ h))))
  have k12 := hts (.fieldLink RX1 12 "PauseLedger" "dinner" "LPauseLedger$Dinner;") (by decide +kernel)
  refine lv_aload_n hx hb dX1_seatsApart_0 rfl (lv_at hl 0 rfl) ?_
  refine lv_iload_n hx hb dX1_seatsApart_1 rfl (lv_at hl 1 rfl) ?_
  refine wCVv (pre := ([] : va_W)) (Wc := XO x0 a b ++ (DC cI a f r ++ DC cI b f2 r2)) (suf := ([] : va_W)) (As := [.int (nI x)]) (rest := []) ⟨hx, hb, hml, hown, hts⟩ (mX1_requireGuest l D cI x0 a b f f2 r r2 gg x _ hg hg2 hg0 ux) hN hA hK hS hP hD rfl 0 (r := (RX1, TX1, 2)) rfl rfl (cwV 1 hts gX1_seatsApart_X1_requireGuest rfl rfl rfl (by decide +kernel) ⟨Nat.le_of_ble_eq_true rfl, Nat.le_of_ble_eq_true rfl⟩) rfl hl.1 rfl (Nat.le_of_ble_eq_true rfl) dX1_seatsApart_2 ⟨Nat.zero_le _, Nat.zero_le _⟩ (fun u_2 H locs hw hP hD hS => ?_)
  have hP : va_P D vwCl (XO x0 a b ++ (DC cI a f r ++ DC cI b f2 r2)) H := hP
  have hD : va_D A (XO x0 a b ++ (DC cI a f r ++ DC cI b f2 r2)) := hD
  refine lv_aload_n hx hb dX1_seatsApart_5 rfl (lv_at hl 0 rfl) ?_
  refine lv_iload_n hx hb dX1_seatsApart_6 rfl (lv_at hl 2 rfl) ?_
  refine wCVv (pre := ([] : va_W)) (Wc := XO x0 a b ++ (DC cI a f r ++ DC cI b f2 r2)) (suf := ([] : va_W)) (As := [.int (nI y)]) (rest := []) ⟨hx, hb, hml, hown, hts⟩ (mX1_requireGuest l D cI x0 a b f f2 r r2 gg y _ hg hg2 hg0 uy) hN hA hK hS hP hD rfl 0 (r := (RX1, TX1, 2)) rfl rfl (cwV 1 hts gX1_seatsApart_X1_requireGuest rfl rfl rfl (by decide +kernel) ⟨Nat.le_of_ble_eq_true rfl, Nat.le_of_ble_eq_true rfl⟩) rfl hl.1 rfl (Nat.le_of_ble_eq_true rfl) dX1_seatsApart_7 ⟨Nat.zero_le _, Nat.zero_le _⟩ (fun u_7 H locs hw hP hD hS => ?_)
  have hP : va_P D vwCl (XO x0 a b ++ (DC cI a f r ++ DC cI b f2 r2)) H := hP
  have hD : va_D A (XO x0 a b ++ (DC cI a f r ++ DC cI b f2 r2)) := hD
  refine lv_aload_n hx hb dX1_seatsApart_10 rfl (lv_at hl 0 rfl) ?_
  refine va_get (D := D) (ci := 1) (v := .ref (a 0)) (C := RX1) (T := TX1) (N := 2) hx hb hw1 (fun _ h => h) hown hK hP 0 rfl rfl 0 (by decide) k12 (fun _ h9 => h9) rfl dX1_seatsApart_11 ?_
  refine lv_iload_n hx hb dX1_seatsApart_14 rfl (lv_at hl 1 rfl) ?_
  refine lv_iload_n hx hb dX1_seatsApart_15 rfl (lv_at hl 2 rfl) ?_
  refine wCVi (pre := XO x0 a b) (Wc := DC cI a f r) (suf := DC cI b f2 r2) (As := [.int (nI x), .int (nI y)]) (rest := []) ⟨hx, hb, hml, hown, hts⟩ (mX0_seatsBetween l D cI a f r (nI x) (nI y) _) hN hA hK hS hP hD rfl 0 (r := (RX0, TX0, 17)) rfl rfl (cwV 2 hts gX1_seatsApart_X0_seatsBetween rfl rfl rfl (by decide +kernel) ⟨Nat.le_of_ble_eq_true rfl, Nat.le_of_ble_eq_true rfl⟩) rfl hl.1 rfl (Nat.le_of_ble_eq_true rfl) dX1_seatsApart_16 ⟨Nat.zero_le _, Nat.zero_le _⟩ (fun r_16 u_16 H locs hw hP hD hS => ?_)
  have hw : r_16 = dSeats (f 0) (nI x) (nI y) := hw
  subst hw
  have hP : va_P D vwCl (XO x0 a b ++ (DC cI a f r ++ DC cI b f2 r2)) H := hP
  have hD : va_D A (XO x0 a b ++ (DC cI a f r ++ DC cI b f2 r2)) := hD
  exact wRi hQ hx hb hr hlocks hP hD hS dX1_seatsApart_19 () (rfl) rfl
abbrev rmX1_isUnderWay : Room := { frames := 1, cells := 0, slots := 0, locals := 21 }
set_option maxRecDepth 100000 in
set_option maxHeartbeats 4000000 in
theorem mX1_isUnderWay (l : Launch) (D : va_G) (cI : ClassId) (x0 : Nat) (a b : Nat → Nat) (f f2 : Nat → Int32) (r r2 : Nat → Nat → Int32) (gg x y : Nat) (sz : Nat) (hg : f 0 = nI gg) (hg2 : gg ≤ 10) (hg0 : 0 < gg) (ux : x < gg) (uy : y < gg) : wCt l yX1_isUnderWay wsX1_isUnderWay rmX1_isUnderWay D [(cI, .int)] [.ref x0, .int (nI x), .int (nI y)] (XO x0 a b ++ (DC cI a f r ++ DC cI b f2 r2)) sz 0 0 (wQi D (fun v (_ : Unit) => v = if r 4 (x * 10 + y) = -1 then 0 else 1) (fun _ : Unit => XO x0 a b ++ (DC cI a f r ++ DC cI b f2 r2))) := by
  refine wMet cX1_isUnderWay 3 (some .boolean) (by decide) rfl (Nat.le_of_ble_eq_true rfl) ?_
  intro p e s m args below meth c A Q ls hQ hx hb hr hml hown hlocks hin hts hN hP hK hD hA hS hl
  have hl : lv_has ls 3 [(0, .ref x0), (1, .int (nI x)), (2, .int (nI y))] := hl
  have hown : s.vm.findClass RX1 = some m.cls := hown
  have hw1 : ∀ w ∈ wsX10, w.before args s = true := fun w h => hts w (List.mem_cons_of_mem _ (List.mem_append_left _ (List.mem_append_left _ (List.mem_append_right _ h))))
  have k12 := hts (.fieldLink RX1 12 "PauseLedger" "dinner" "LPauseLedger$Dinner;") (by decide +kernel)
  refine lv_aload_n hx hb dX1_isUnderWay_0 rfl (lv_at hl 0 rfl) ?_
  refine lv_iload_n hx hb dX1_isUnderWay_1 rfl (lv_at hl 1 rfl) ?_
  refine wCVv (pre := ([] : va_W)) (Wc := XO x0 a b ++ (DC cI a f r ++ DC cI b f2 r2)) (suf := ([] : va_W)) (As := [.int (nI x)]) (rest := []) ⟨hx, hb, hml, hown, hts⟩ (mX1_requireGuest l D cI x0 a b f f2 r r2 gg x _ hg hg2 hg0 ux) hN hA hK hS hP hD rfl 0 (r := (RX1, TX1, 2)) rfl rfl (cwV 1 hts gX1_isUnderWay_X1_requireGuest rfl rfl rfl (by decide +kernel) ⟨Nat.le_of_ble_eq_true rfl, Nat.le_of_ble_eq_true rfl⟩) rfl hl.1 rfl (Nat.le_of_ble_eq_true rfl) dX1_isUnderWay_2 ⟨Nat.zero_le _, Nat.zero_le _⟩ (fun u_2 H locs hw hP hD hS => ?_)
  have hP : va_P D vwCl (XO x0 a b ++ (DC cI a f r ++ DC cI b f2 r2)) H := hP
  have hD : va_D A (XO x0 a b ++ (DC cI a f r ++ DC cI b f2 r2)) := hD
  refine lv_aload_n hx hb dX1_isUnderWay_5 rfl (lv_at hl 0 rfl) ?_
  refine lv_iload_n hx hb dX1_isUnderWay_6 rfl (lv_at hl 2 rfl) ?_
  refine wCVv (pre := ([] : va_W)) (Wc := XO x0 a b ++ (DC cI a f r ++ DC cI b f2 r2)) (suf := ([] : va_W)) (As := [.int (nI y)]) (rest := []) ⟨hx, hb, hml, hown, hts⟩ (mX1_requireGuest l D cI x0 a b f f2 r r2 gg y _ hg hg2 hg0 uy) hN hA hK hS hP hD rfl 0 (r := (RX1, TX1, 2)) rfl rfl (cwV 1 hts gX1_isUnderWay_X1_requireGuest rfl rfl rfl (by decide +kernel) ⟨Nat.le_of_ble_eq_true rfl, Nat.le_of_ble_eq_true rfl⟩) rfl hl.1 rfl (Nat.le_of_ble_eq_true rfl) dX1_isUnderWay_7 ⟨Nat.zero_le _, Nat.zero_le _⟩ (fun u_7 H locs hw hP hD hS => ?_)
  have hP : va_P D vwCl (XO x0 a b ++ (DC cI a f r ++ DC cI b f2 r2)) H := hP
  have hD : va_D A (XO x0 a b ++ (DC cI a f r ++ DC cI b f2 r2)) := hD
  refine lv_aload_n hx hb dX1_isUnderWay_10 rfl (lv_at hl 0 rfl) ?_
  refine va_get (D := D) (ci := 1) (v := .ref (a 0)) (C := RX1) (T := TX1) (N := 2) hx hb hw1 (fun _ h => h) hown hK hP 0 rfl rfl 0 (by decide) k12 (fun _ h9 => h9) rfl dX1_isUnderWay_11 ?_
  refine lv_iload_n hx hb dX1_isUnderWay_14 rfl (lv_at hl 1 rfl) ?_
  refine lv_iload_n hx hb dX1_isUnderWay_15 rfl (lv_at hl 2 rfl) ?_
  refine wCSi (pre := ([] : va_W)) (Wc := ([] : va_W)) (suf := XO x0 a b ++ (DC cI a f r ++ DC cI b f2 r2)) (As := [.int (nI x), .int (nI y)]) (rest := [.ref (a 0)]) ⟨hx, hb, hml, hown, hts⟩ (mX1_pairOf l D cI x y _) hN hA hK hS hP hD rfl (va_cwS 2 hts gX1_isUnderWay_X1_pairOf rfl rfl rfl (by decide +kernel) ⟨Nat.le_of_ble_eq_true rfl, Nat.le_of_ble_eq_true rfl⟩) rfl hl.1 rfl (Nat.le_of_ble_eq_true rfl) dX1_isUnderWay_16 ⟨Nat.zero_le _, Nat.zero_le _⟩ (fun r_16 u_16 H locs hw hP hD hS => ?_)
  have hw : r_16 = nI (x * 10 + y) := hw
  subst hw
  have hP : va_P D vwCl (XO x0 a b ++ (DC cI a f r ++ DC cI b f2 r2)) H := hP
  have hD : va_D A (XO x0 a b ++ (DC cI a f r ++ DC cI b f2 r2)) := hD
  refine wCVi (pre := XO x0 a b) (Wc := DC cI a f r) (suf := DC cI b f2 r2) (As := [.int (nI (x * 10 + y))]) (rest := []) ⟨hx, hb, hml, hown, hts⟩ (mX0_isOnItsWay l D cI a f r (x * 10 + y) _ (by omega)) hN hA hK hS hP hD rfl 0 (r := (RX0, TX0, 17)) rfl rfl (cwV 1 hts gX1_isUnderWay_X0_isOnItsWay rfl rfl rfl (by decide +kernel) ⟨Nat.le_of_ble_eq_true rfl, Nat.le_of_ble_eq_true rfl⟩) rfl hl.1 rfl (Nat.le_of_ble_eq_true rfl) dX1_isUnderWay_19 ⟨Nat.zero_le _, Nat.zero_le _⟩ (fun r_19 u_19 H locs hw hP hD hS => ?_)
  have hw : r_19 = if (r 4) (x * 10 + y) = -1 then 0 else 1 := hw
  subst hw
  have hP : va_P D vwCl (XO x0 a b ++ (DC cI a f r ++ DC cI b f2 r2)) H := hP
  have hD : va_D A (XO x0 a b ++ (DC cI a f r ++ DC cI b f2 r2)) := hD
  exact wRz hQ hx hb hr hlocks hP hD hS dX1_isUnderWay_22 (by split <;> rfl) () (rfl) rfl
abbrev rmX1_secondsToGo : Room := { frames := 2, cells := 0, slots := 0, locals := 42 }
set_option maxRecDepth 100000 in
set_option maxHeartbeats 4000000 in
theorem mX1_secondsToGo (l : Launch) (D : va_G) (cI : ClassId) (x0 : Nat) (a b : Nat → Nat) (f f2 : Nat → Int32) (r r2 : Nat → Nat → Int32) (gg x y : Nat) (sz : Nat) (hg : f 0 = nI gg) (hg2 : gg ≤ 10) (hg0 : 0 < gg) (ux : x < gg) (uy : y < gg) : wCt l yX1_secondsToGo wsX1_secondsToGo rmX1_secondsToGo D [(cI, .int)] [.ref x0, .int (nI x), .int (nI y)] (XO x0 a b ++ (DC cI a f r ++ DC cI b f2 r2)) sz 0 0 (wQi D (fun v (_ : Unit) => v = dToGo (r 4) (x * 10 + y)) (fun _ : Unit => XO x0 a b ++ (DC cI a f r ++ DC cI b f2 r2))) := by
  refine wMet cX1_secondsToGo 3 (some .int) (by decide) rfl (Nat.le_of_ble_eq_true rfl) ?_
  intro p e s m args below meth c A Q ls hQ hx hb hr hml hown hlocks hin hts hN hP hK hD hA hS hl
  have hl : lv_has ls 3 [(0, .ref x0), (1, .int (nI x)), (2, .int (nI y))] := hl
  have hown : s.vm.findClass RX1 = some m.cls := hown
  have hw1 : ∀ w ∈ wsX10, w.before args s = true := fun w h => hts w (List.mem_cons_of_mem _ (List.mem_append_left _ (List.mem_append_left _ (List.mem_append_right _ h))))
  have k12 := hts (.fieldLink RX1 12 "PauseLedger" "dinner" "LPauseLedger$Dinner;") (by decide +kernel)
  refine lv_aload_n hx hb dX1_secondsToGo_0 rfl (lv_at hl 0 rfl) ?_
  refine lv_iload_n hx hb dX1_secondsToGo_1 rfl (lv_at hl 1 rfl) ?_
  refine wCVv (pre := ([] : va_W)) (Wc := XO x0 a b ++ (DC cI a f r ++ DC cI b f2 r2)) (suf := ([] : va_W)) (As := [.int (nI x)]) (rest := []) ⟨hx, hb, hml, hown, hts⟩ (mX1_requireGuest l D cI x0 a b f f2 r r2 gg x _ hg hg2 hg0 ux) hN hA hK hS hP hD rfl 0 (r := (RX1, TX1, 2)) rfl rfl (cwV 1 hts gX1_secondsToGo_X1_requireGuest rfl rfl rfl (by decide +kernel) ⟨Nat.le_of_ble_eq_true rfl, Nat.le_of_ble_eq_true rfl⟩) rfl hl.1 rfl (Nat.le_of_ble_eq_true rfl) dX1_secondsToGo_2 ⟨Nat.zero_le _, Nat.zero_le _⟩ (fun u_2 H locs hw hP hD hS => ?_)
  have hP : va_P D vwCl (XO x0 a b ++ (DC cI a f r ++ DC cI b f2 r2)) H := hP
  have hD : va_D A (XO x0 a b ++ (DC cI a f r ++ DC cI b f2 r2)) := hD
  refine lv_aload_n hx hb dX1_secondsToGo_5 rfl (lv_at hl 0 rfl) ?_
  refine lv_iload_n hx hb dX1_secondsToGo_6 rfl (lv_at hl 2 rfl) ?_
  refine wCVv (pre := ([] : va_W)) (Wc := XO x0 a b ++ (DC cI a f r ++ DC cI b f2 r2)) (suf := ([] : va_W)) (As := [.int (nI y)]) (rest := []) ⟨hx, hb, hml, hown, hts⟩ (mX1_requireGuest l D cI x0 a b f f2 r r2 gg y _ hg hg2 hg0 uy) hN hA hK hS hP hD rfl 0 (r := (RX1, TX1, 2)) rfl rfl (cwV 1 hts gX1_secondsToGo_X1_requireGuest rfl rfl rfl (by decide +kernel) ⟨Nat.le_of_ble_eq_true rfl, Nat.le_of_ble_eq_true rfl⟩) rfl hl.1 rfl (Nat.le_of_ble_eq_true rfl) dX1_secondsToGo_7 ⟨Nat.zero_le _, Nat.zero_le _⟩ (fun u_7 H locs hw hP hD hS => ?_)
  have hP : va_P D vwCl (XO x0 a b ++ (DC cI a f r ++ DC cI b f2 r2)) H := hP
  have hD : va_D A (XO x0 a b ++ (DC cI a f r ++ DC cI b f2 r2)) := hD
  refine lv_aload_n hx hb dX1_secondsToGo_10 rfl (lv_at hl 0 rfl) ?_
  refine va_get (D := D) (ci := 1) (v := .ref (a 0)) (C := RX1) (T := TX1) (N := 2) hx hb hw1 (fun _ h => h) hown hK hP 0 rfl rfl 0 (by decide) k12 (fun _ h9 => h9) rfl dX1_secondsToGo_11 ?_
  refine lv_iload_n hx hb dX1_secondsToGo_14 rfl (lv_at hl 1 rfl) ?_
  refine lv_iload_n hx hb dX1_secondsToGo_15 rfl (lv_at hl 2 rfl) ?_
  refine wCSi (pre := ([] : va_W)) (Wc := ([] : va_W)) (suf := XO x0 a b ++ (DC cI a f r ++ DC cI b f2 r2)) (As := [.int (nI x), .int (nI y)]) (rest := [.ref (a 0)]) ⟨hx, hb, hml, hown, hts⟩ (mX1_pairOf l D cI x y _) hN hA hK hS hP hD rfl (va_cwS 2 hts gX1_secondsToGo_X1_pairOf rfl rfl rfl (by decide +kernel) ⟨Nat.le_of_ble_eq_true rfl, Nat.le_of_ble_eq_true rfl⟩) rfl hl.1 rfl (Nat.le_of_ble_eq_true rfl) dX1_secondsToGo_16 ⟨Nat.zero_le _, Nat.zero_le _⟩ (fun r_16 u_16 H locs hw hP hD hS => ?_)
  have hw : r_16 = nI (x * 10 + y) := hw
  subst hw
  have hP : va_P D vwCl (XO x0 a b ++ (DC cI a f r ++ DC cI b f2 r2)) H := hP
  have hD : va_D A (XO x0 a b ++ (DC cI a f r ++ DC cI b f2 r2)) := hD
  refine wCVi (pre := XO x0 a b) (Wc := DC cI a f r) (suf := DC cI b f2 r2) (As := [.int (nI (x * 10 + y))]) (rest := []) ⟨hx, hb, hml, hown, hts⟩ (mX0_timeToGo l D cI a f r (x * 10 + y) _ (by omega)) hN hA hK hS hP hD rfl 0 (r := (RX0, TX0, 17)) rfl rfl (cwV 1 hts gX1_secondsToGo_X0_timeToGo rfl rfl rfl (by decide +kernel) ⟨Nat.le_of_ble_eq_true rfl, Nat.le_of_ble_eq_true rfl⟩) rfl hl.1 rfl (Nat.le_of_ble_eq_true rfl) dX1_secondsToGo_19 ⟨Nat.zero_le _, Nat.zero_le _⟩ (fun r_19 u_19 H locs hw hP hD hS => ?_)
  have hw : r_19 = dToGo (r 4) (x * 10 + y) := hw
  subst hw
  have hP : va_P D vwCl (XO x0 a b ++ (DC cI a f r ++ DC cI b f2 r2)) H := hP
  have hD : va_D A (XO x0 a b ++ (DC cI a f r ++ DC cI b f2 r2)) := hD
  exact wRi hQ hx hb hr hlocks hP hD hS dX1_secondsToGo_22 () (rfl) rfl
abbrev rmX1_caughtBy : Room := { frames := 1, cells := 0, slots := 0, locals := 21 }
set_option maxRecDepth 100000 in
set_option maxHeartbeats 4000000 in
theorem mX1_caughtBy (l : Launch) (D : va_G) (cI : ClassId) (x0 : Nat) (a b : Nat → Nat) (f f2 : Nat → Int32) (r r2 : Nat → Nat → Int32) (gg x y : Nat) (sz : Nat) (hg : f 0 = nI gg) (hg2 : gg ≤ 10) (hg0 : 0 < gg) (ux : x < gg) (uy : y < gg) : wCt l yX1_caughtBy wsX1_caughtBy rmX1_caughtBy D [(cI, .int)] [.ref x0, .int (nI x), .int (nI y)] (XO x0 a b ++ (DC cI a f r ++ DC cI b f2 r2)) sz 0 0 (wQi D (fun v (_ : Unit) => v = r 5 (x * 10 + y)) (fun _ : Unit => XO x0 a b ++ (DC cI a f r ++ DC cI b f2 r2))) := by
  refine wMet cX1_caughtBy 3 (some .int) (by decide) rfl (Nat.le_of_ble_eq_true rfl) ?_
  intro p e s m args below meth c A Q ls hQ hx hb hr hml hown hlocks hin hts hN hP hK hD hA hS hl
  have hl : lv_has ls 3 [(0, .ref x0), (1, .int (nI x)), (2, .int (nI y))] := hl
  have hown : s.vm.findClass RX1 = some m.cls := hown
  have hw0 : ∀ w ∈ wsX00, w.before args s = true := fun w h => hts w (List.mem_cons_of_mem _ (List.mem_append_left _ (List.mem_append_right _ h)))
  have hw1 : ∀ w ∈ wsX10, w.before args s = true := fun w h => hts w (List.mem_cons_of_mem _ (List.mem_append_left _ (List.mem_append_left _ (List.mem_append_right _ h))))
  have k12 := hts (.fieldLink RX1 12 "PauseLedger" "dinner" "LPauseLedger$Dinner;") (by decide +kernel)
  have k100 := hts (.fieldLink RX1 100 "PauseLedger$Dinner" "caught" "[I") (by decide +kernel)
  refine lv_aload_n hx hb dX1_caughtBy_0 rfl (lv_at hl 0 rfl) ?_
  refine lv_iload_n hx hb dX1_caughtBy_1 rfl (lv_at hl 1 rfl) ?_
  refine wCVv (pre := ([] : va_W)) (Wc := XO x0 a b ++ (DC cI a f r ++ DC cI b f2 r2)) (suf := ([] : va_W)) (As := [.int (nI x)]) (rest := []) ⟨hx, hb, hml, hown, hts⟩ (mX1_requireGuest l D cI x0 a b f f2 r r2 gg x _ hg hg2 hg0 ux) hN hA hK hS hP hD rfl 0 (r := (RX1, TX1, 2)) rfl rfl (cwV 1 hts gX1_caughtBy_X1_requireGuest rfl rfl rfl (by decide +kernel) ⟨Nat.le_of_ble_eq_true rfl, Nat.le_of_ble_eq_true rfl⟩) rfl hl.1 rfl (Nat.le_of_ble_eq_true rfl) dX1_caughtBy_2 ⟨Nat.zero_le _, Nat.zero_le _⟩ (fun u_2 H locs hw hP hD hS => ?_)
  have hP : va_P D vwCl (XO x0 a b ++ (DC cI a f r ++ DC cI b f2 r2)) H := hP
  have hD : va_D A (XO x0 a b ++ (DC cI a f r ++ DC cI b f2 r2)) := hD
  refine lv_aload_n hx hb dX1_caughtBy_5 rfl (lv_at hl 0 rfl) ?_
  refine lv_iload_n hx hb dX1_caughtBy_6 rfl (lv_at hl 2 rfl) ?_
  refine wCVv (pre := ([] : va_W)) (Wc := XO x0 a b ++ (DC cI a f r ++ DC cI b f2 r2)) (suf := ([] : va_W)) (As := [.int (nI y)]) (rest := []) ⟨hx, hb, hml, hown, hts⟩ (mX1_requireGuest l D cI x0 a b f f2 r r2 gg y _ hg hg2 hg0 uy) hN hA hK hS hP hD rfl 0 (r := (RX1, TX1, 2)) rfl rfl (cwV 1 hts gX1_caughtBy_X1_requireGuest rfl rfl rfl (by decide +kernel) ⟨Nat.le_of_ble_eq_true rfl, Nat.le_of_ble_eq_true rfl⟩) rfl hl.1 rfl (Nat.le_of_ble_eq_true rfl) dX1_caughtBy_7 ⟨Nat.zero_le _, Nat.zero_le _⟩ (fun u_7 H locs hw hP hD hS => ?_)
  have hP : va_P D vwCl (XO x0 a b ++ (DC cI a f r ++ DC cI b f2 r2)) H := hP
  have hD : va_D A (XO x0 a b ++ (DC cI a f r ++ DC cI b f2 r2)) := hD
  refine lv_aload_n hx hb dX1_caughtBy_10 rfl (lv_at hl 0 rfl) ?_
  refine va_get (D := D) (ci := 1) (v := .ref (a 0)) (C := RX1) (T := TX1) (N := 2) hx hb hw1 (fun _ h => h) hown hK hP 0 rfl rfl 0 (by decide) k12 (fun _ h9 => h9) rfl dX1_caughtBy_11 ?_
  refine va_get (D := D) (ci := 0) (v := .ref (a 6)) (C := RX0) (T := TX0) (N := 17) hx hb hw0 (fun _ h => h) hown hK hP 1 rfl rfl 15 (by decide) k100 (fun _ h9 => h9) rfl dX1_caughtBy_14 ?_
  refine lv_iload_n hx hb dX1_caughtBy_17 rfl (lv_at hl 1 rfl) ?_
  refine lv_iload_n hx hb dX1_caughtBy_18 rfl (lv_at hl 2 rfl) ?_
  refine wCSi (pre := ([] : va_W)) (Wc := ([] : va_W)) (suf := XO x0 a b ++ (DC cI a f r ++ DC cI b f2 r2)) (As := [.int (nI x), .int (nI y)]) (rest := [.ref (a 6)]) ⟨hx, hb, hml, hown, hts⟩ (mX1_pairOf l D cI x y _) hN hA hK hS hP hD rfl (va_cwS 2 hts gX1_caughtBy_X1_pairOf rfl rfl rfl (by decide +kernel) ⟨Nat.le_of_ble_eq_true rfl, Nat.le_of_ble_eq_true rfl⟩) rfl hl.1 rfl (Nat.le_of_ble_eq_true rfl) dX1_caughtBy_19 ⟨Nat.zero_le _, Nat.zero_le _⟩ (fun r_19 u_19 H locs hw hP hD hS => ?_)
  have hw : r_19 = nI (x * 10 + y) := hw
  subst hw
  have hP : va_P D vwCl (XO x0 a b ++ (DC cI a f r ++ DC cI b f2 r2)) H := hP
  have hD : va_D A (XO x0 a b ++ (DC cI a f r ++ DC cI b f2 r2)) := hD
  refine wIald hx hb hK hP 7 0 rfl rfl (x * 10 + y) rfl (by omega) (by decide) dX1_caughtBy_22 ?_
  exact wRi hQ hx hb hr hlocks hP hD hS dX1_caughtBy_23 () (rfl) rfl
abbrev rmX1_quietest : Room := { frames := 0, cells := 0, slots := 0, locals := 0 }
set_option maxRecDepth 100000 in
set_option maxHeartbeats 4000000 in
theorem mX1_quietest (l : Launch) (D : va_G) (cI : ClassId) (x0 : Nat) (a b : Nat → Nat) (f f2 : Nat → Int32) (r r2 : Nat → Nat → Int32) (gg : Nat) (sz : Nat) (hg : f 0 = nI gg) (hg2 : gg ≤ 10) (hg0 : 0 < gg) : wCt l yX1_quietest wsX1_quietest rmX1_quietest D [(cI, .int)] [.ref x0] (XO x0 a b ++ (DC cI a f r ++ DC cI b f2 r2)) sz 0 0 (wQi D (fun v (_ : Unit) => v = nI (dQuiet (r 3) (gg - 1))) (fun _ : Unit => XO x0 a b ++ (DC cI a f r ++ DC cI b f2 r2))) := by
  refine wMet cX1_quietest 3 (some .int) (by decide) rfl (Nat.le_of_ble_eq_true rfl) ?_
  intro p e s m args below meth c A Q ls hQ hx hb hr hml hown hlocks hin hts hN hP hK hD hA hS hl
  have hl : lv_has ls 3 [(0, .ref x0)] := hl
  have hown : s.vm.findClass RX1 = some m.cls := hown
  have hw0 : ∀ w ∈ wsX00, w.before args s = true := fun w h => hts w (List.mem_cons_of_mem _ (List.mem_append_right _ h))
  have hw1 : ∀ w ∈ wsX10, w.before args s = true := fun w h => hts w (List.mem_cons_of_mem _ (List.mem_append_left _ (List.mem_append_right _ h)))
  have k12 := hts (.fieldLink RX1 12 "PauseLedger" "dinner" "LPauseLedger$Dinner;") (by decide +kernel)
  have k58 := hts (.fieldLink RX1 58 "PauseLedger$Dinner" "guests" "I") (by decide +kernel)
  have k86 := hts (.fieldLink RX1 86 "PauseLedger$Dinner" "unsaid" "[I") (by decide +kernel)
  refine lv_iconst (v := 0) hx hb dX1_quietest_0 (by decide) ?_
  refine lv_istore_n (lv' := [(1, .int 0), (0, .ref x0)]) hx hb dX1_quietest_1 rfl hl (by decide) rfl (fun ls hl => ?_)
  refine lv_iconst (v := 1) hx hb dX1_quietest_2 (by decide) ?_
  refine lv_istore_n (lv' := [(2, .int 1), (1, .int 0), (0, .ref x0)]) hx hb dX1_quietest_3 rfl hl (by decide) rfl (fun ls hl => ?_)
  have loop4 : ∀ (j i4 : Nat), i4 + j = (gg - 1) → ∀ (H : Heap) (locs : List Loc) (ls : Array Slot), va_P D vwCl (XO x0 a b ++ (DC cI a f r ++ DC cI b f2 r2)) H → va_D A (XO x0 a b ++ (DC cI a f r ++ DC cI b f2 r2)) → va_S A s.heap H locs → lv_has ls 3 [(2, .int (nI (i4 + 1))), (1, .int (nI (dQuiet (r 3) i4))), (0, .ref x0)] → W p l e rmX1_quietest s m args below meth c H locs 0 0 Q (F0 m 4 ls []) := by
    intro j
    induction j with
    | zero =>
      intro i4 hi4 H locs ls hP hD hS hl
      have ez : (gg - 1) = i4 := by omega
      subst ez
      refine lv_iload_n hx hb dX1_quietest_4 rfl (lv_at hl 0 rfl) ?_
      refine lv_aload_n hx hb dX1_quietest_5 rfl (lv_at hl 2 rfl) ?_
      refine va_get (D := D) (ci := 1) (v := .ref (a 0)) (C := RX1) (T := TX1) (N := 2) hx hb hw1 (fun _ h => h) hown hK hP 0 rfl rfl 0 (by decide) k12 (fun _ h9 => h9) rfl dX1_quietest_6 ?_
      refine va_get (D := D) (ci := 0) (v := .int (f 0)) (C := RX0) (T := TX0) (N := 17) hx hb hw0 (fun _ h => h) hown hK hP 1 rfl rfl 0 (by decide) k58 (fun _ h9 => h9) rfl dX1_quietest_9 ?_
      refine lv_icmp_ge (tgt := 44) hx hb dX1_quietest_12 (by decide) (fun c_12 => ?_) (fun h9 => absurd (by rw [hg]; exact nI_le (by omega) (by omega)) h9)
      refine lv_iload_n hx hb dX1_quietest_44 rfl (lv_at hl 1 rfl) ?_
      exact wRi hQ hx hb hr hlocks hP hD hS dX1_quietest_45 () (rfl) rfl
    | succ j ih4 =>
      intro i4 hi4 H locs ls hP hD hS hl
      have hq4 := dQuiet_le (r 3) i4
      refine lv_iload_n hx hb dX1_quietest_4 rfl (lv_at hl 0 rfl) ?_
      refine lv_aload_n hx hb dX1_quietest_5 rfl (lv_at hl 2 rfl) ?_
      refine va_get (D := D) (ci := 1) (v := .ref (a 0)) (C := RX1) (T := TX1) (N := 2) hx hb hw1 (fun _ h => h) hown hK hP 0 rfl rfl 0 (by decide) k12 (fun _ h9 => h9) rfl dX1_quietest_6 ?_
      refine va_get (D := D) (ci := 0) (v := .int (f 0)) (C := RX0) (T := TX0) (N := 17) hx hb hw0 (fun _ h => h) hown hK hP 1 rfl rfl 0 (by decide) k58 (fun _ h9 => h9) rfl dX1_quietest_9 ?_
      refine lv_icmp_ge (tgt := 44) hx hb dX1_quietest_12 (by decide) (fun h9 => absurd h9 (by rw [hg]; exact nI_ge (by omega) (by omega))) (fun c_12 => ?_)
      refine lv_aload_n hx hb dX1_quietest_15 rfl (lv_at hl 2 rfl) ?_
      refine va_get (D := D) (ci := 1) (v := .ref (a 0)) (C := RX1) (T := TX1) (N := 2) hx hb hw1 (fun _ h => h) hown hK hP 0 rfl rfl 0 (by decide) k12 (fun _ h9 => h9) rfl dX1_quietest_16 ?_
      refine va_get (D := D) (ci := 0) (v := .ref (a 4)) (C := RX0) (T := TX0) (N := 17) hx hb hw0 (fun _ h => h) hown hK hP 1 rfl rfl 13 (by decide) k86 (fun _ h9 => h9) rfl dX1_quietest_19 ?_
      refine lv_iload_n hx hb dX1_quietest_22 rfl (lv_at hl 0 rfl) ?_
      refine wIald hx hb hK hP 5 0 rfl rfl (i4 + 1) rfl (by omega) (by decide) dX1_quietest_23 ?_
      refine lv_aload_n hx hb dX1_quietest_24 rfl (lv_at hl 2 rfl) ?_
      refine va_get (D := D) (ci := 1) (v := .ref (a 0)) (C := RX1) (T := TX1) (N := 2) hx hb hw1 (fun _ h => h) hown hK hP 0 rfl rfl 0 (by decide) k12 (fun _ h9 => h9) rfl dX1_quietest_25 ?_
      refine va_get (D := D) (ci := 0) (v := .ref (a 4)) (C := RX0) (T := TX0) (N := 17) hx hb hw0 (fun _ h => h) hown hK hP 1 rfl rfl 13 (by decide) k86 (fun _ h9 => h9) rfl dX1_quietest_28 ?_
      refine lv_iload_n hx hb dX1_quietest_31 rfl (lv_at hl 1 rfl) ?_
      refine wIald hx hb hK hP 5 0 rfl rfl (dQuiet (r 3) i4) rfl (by omega) (by decide) dX1_quietest_32 ?_
      refine lv_icmp_le (tgt := 38) hx hb dX1_quietest_33 (by decide) (fun c_33 => ?_) (fun c_33 => ?_)
      · refine lv_iinc (v := nI ((i4 + 1) + 1)) (lv' := [(2, .int (nI ((i4 + 1) + 1))), (1, .int (nI (dQuiet (r 3) i4))), (0, .ref x0)]) hx hb dX1_quietest_38 hl (k := 0) rfl (nI_1 (i4 + 1)) (by decide) rfl (fun ls hl => ?_)
        refine lv_goto (tgt := 4) hx hb dX1_quietest_41 (by decide) ?_
        have e4 : dQuiet (r 3) (i4 + 1) = (dQuiet (r 3) i4) := by simp only [dQuiet, if_neg (Int32.not_lt.mpr c_33)]
        have hl : lv_has ls 3 [(2, .int (nI ((i4 + 1) + 1))), (1, .int (nI (dQuiet (r 3) (i4 + 1)))), (0, .ref x0)] := by rw [e4]; exact hl
        exact ih4 (i4 + 1) (by omega) _ _ _ hP hD hS (lv_sub hl [0, 1, 2] rfl)
      · refine lv_iload_n hx hb dX1_quietest_36 rfl (lv_at hl 0 rfl) ?_
        refine lv_istore_n (lv' := [(1, .int (nI (i4 + 1))), (2, .int (nI (i4 + 1))), (0, .ref x0)]) hx hb dX1_quietest_37 rfl hl (by decide) rfl (fun ls hl => ?_)
        refine lv_iinc (v := nI ((i4 + 1) + 1)) (lv' := [(2, .int (nI ((i4 + 1) + 1))), (1, .int (nI (i4 + 1))), (0, .ref x0)]) hx hb dX1_quietest_38 hl (k := 1) rfl (nI_1 (i4 + 1)) (by decide) rfl (fun ls hl => ?_)
        refine lv_goto (tgt := 4) hx hb dX1_quietest_41 (by decide) ?_
        have e4 : dQuiet (r 3) (i4 + 1) = (i4 + 1) := by simp only [dQuiet, if_pos (Int32.not_le.mp c_33)]
        have hl : lv_has ls 3 [(2, .int (nI ((i4 + 1) + 1))), (1, .int (nI (dQuiet (r 3) (i4 + 1)))), (0, .ref x0)] := by rw [e4]; exact hl
        exact ih4 (i4 + 1) (by omega) _ _ _ hP hD hS (lv_sub hl [0, 1, 2] rfl)
  exact loop4 (gg - 1) 0 (by omega) _ _ _ hP hD hS (lv_sub hl [0, 1, 2] rfl)
abbrev rmX1_meanUnsaid : Room := { frames := 1, cells := 0, slots := 0, locals := 22 }
set_option maxRecDepth 100000 in
set_option maxHeartbeats 4000000 in
theorem mX1_meanUnsaid (l : Launch) (D : va_G) (cI : ClassId) (x0 : Nat) (a b : Nat → Nat) (f f2 : Nat → Int32) (r r2 : Nat → Nat → Int32) (gg : Nat) (sz : Nat) (hg : f 0 = nI gg) (hg2 : gg ≤ 10) (hg0 : 0 < gg) (hnn : vf_n64 (FP.ddiv (FP.i2d (dSum (r 3) gg)) (FP.i2d (f 0)))) : wCt l yX1_meanUnsaid wsX1_meanUnsaid rmX1_meanUnsaid D [(cI, .int)] [.ref x0] (XO x0 a b ++ (DC cI a f r ++ DC cI b f2 r2)) sz 0 0 (wQd D (fun v (_ : Unit) => v = FP.ddiv (FP.i2d (dSum (r 3) gg)) (FP.i2d (f 0))) (fun _ : Unit => XO x0 a b ++ (DC cI a f r ++ DC cI b f2 r2))) := by
  refine wMet cX1_meanUnsaid 1 (some .double) (by decide) rfl (Nat.le_of_ble_eq_true rfl) ?_
  intro p e s m args below meth c A Q ls hQ hx hb hr hml hown hlocks hin hts hN hP hK hD hA hS hl
  have hl : lv_has ls 1 [(0, .ref x0)] := hl
  have hown : s.vm.findClass RX1 = some m.cls := hown
  have hw0 : ∀ w ∈ wsX00, w.before args s = true := fun w h => hts w (List.mem_cons_of_mem _ (List.mem_append_right _ h))
  have hw1 : ∀ w ∈ wsX10, w.before args s = true := fun w h => hts w (List.mem_cons_of_mem _ (List.mem_append_left _ (List.mem_append_right _ h)))
  have k12 := hts (.fieldLink RX1 12 "PauseLedger" "dinner" "LPauseLedger$Dinner;") (by decide +kernel)
  have k58 := hts (.fieldLink RX1 58 "PauseLedger$Dinner" "guests" "I") (by decide +kernel)
  refine lv_aload_n hx hb dX1_meanUnsaid_0 rfl (lv_at hl 0 rfl) ?_
  refine va_get (D := D) (ci := 1) (v := .ref (a 0)) (C := RX1) (T := TX1) (N := 2) hx hb hw1 (fun _ h => h) hown hK hP 0 rfl rfl 0 (by decide) k12 (fun _ h9 => h9) rfl dX1_meanUnsaid_1 ?_
  refine va_get (D := D) (ci := 0) (v := .int (f 0)) (C := RX0) (T := TX0) (N := 17) hx hb hw0 (fun _ h => h) hown hK hP 1 rfl rfl 0 (by decide) k58 (fun _ h9 => h9) rfl dX1_meanUnsaid_4 ?_
  refine lv_if_le (tgt := 30) hx hb dX1_meanUnsaid_7 (by decide) (fun h9 => absurd h9 (by rw [hg]; exact nI_nle hg0 (by omega))) (fun c_7 => ?_)
  refine lv_aload_n hx hb dX1_meanUnsaid_10 rfl (lv_at hl 0 rfl) ?_
  refine va_get (D := D) (ci := 1) (v := .ref (a 0)) (C := RX1) (T := TX1) (N := 2) hx hb hw1 (fun _ h => h) hown hK hP 0 rfl rfl 0 (by decide) k12 (fun _ h9 => h9) rfl dX1_meanUnsaid_11 ?_
  refine wCVi (pre := XO x0 a b) (Wc := DC cI a f r) (suf := DC cI b f2 r2) (As := []) (rest := []) ⟨hx, hb, hml, hown, hts⟩ (mX0_sumUnsaidByGuests l D cI a f r gg _ hg hg2) hN hA hK hS hP hD rfl 0 (r := (RX0, TX0, 17)) rfl rfl (cwV 0 hts gX1_meanUnsaid_X0_sumUnsaidByGuests rfl rfl rfl (by decide +kernel) ⟨Nat.le_of_ble_eq_true rfl, Nat.le_of_ble_eq_true rfl⟩) rfl hl.1 rfl (Nat.le_of_ble_eq_true rfl) dX1_meanUnsaid_14 ⟨Nat.zero_le _, Nat.zero_le _⟩ (fun r_14 u_14 H locs hw hP hD hS => ?_)
  have hw : r_14 = dSum (r 3) gg := hw
  subst hw
  have hP : va_P D vwCl (XO x0 a b ++ (DC cI a f r ++ DC cI b f2 r2)) H := hP
  have hD : va_D A (XO x0 a b ++ (DC cI a f r ++ DC cI b f2 r2)) := hD
  refine lv_i2d hx hb dX1_meanUnsaid_17 ?_
  refine lv_aload_n hx hb dX1_meanUnsaid_18 rfl (lv_at hl 0 rfl) ?_
  refine va_get (D := D) (ci := 1) (v := .ref (a 0)) (C := RX1) (T := TX1) (N := 2) hx hb hw1 (fun _ h => h) hown hK hP 0 rfl rfl 0 (by decide) k12 (fun _ h9 => h9) rfl dX1_meanUnsaid_19 ?_
  refine va_get (D := D) (ci := 0) (v := .int (f 0)) (C := RX0) (T := TX0) (N := 17) hx hb hw0 (fun _ h => h) hown hK hP 1 rfl rfl 0 (by decide) k58 (fun _ h9 => h9) rfl dX1_meanUnsaid_22 ?_
  refine lv_i2d hx hb dX1_meanUnsaid_25 ?_
  refine lv_ddiv hx hb dX1_meanUnsaid_26 (hnn) ?_
  refine lv_goto (tgt := 31) hx hb dX1_meanUnsaid_27 (by decide) ?_
  exact wRd hQ hx hb hr hlocks hP hD hS dX1_meanUnsaid_31 () (rfl) rfl
end
section
/-! Constructors: new cells and the row type's class come with the world. -/
section CB1
def wA8 (p0 p1 p2 p3 p4 p5 p6 p7 : Nat) : Nat → Nat := fun k => match k with
  | 0 => p0 | 1 => p1 | 2 => p2 | 3 => p3 | 4 => p4 | 5 => p5 | 6 => p6 | _ => p7
def dF0 : Nat → Int32 := dBeginF (upd (fun _ => 0) 2 5) 4
def dR0 : Nat → Nat → Int32 := dBeginR (fun _ _ => 0)
def wPostK {S : Type} (D : va_G) (Wf : S → va_W) (tf : S → List (ClassId × FieldType)) (A : Nat → Prop) (u : S) (t : State) : Prop := va_P D vwCl (Wf u) t.heap ∧ va_D A (Wf u) ∧ va_K D vwCl (tf u) t
abbrev wQk {S : Type} (D : va_G) (post : S → Prop) (Wf : S → va_W) (tf : S → List (ClassId × FieldType)) : (Nat → Prop) → Array Value → State → Outcome → State → Prop := fun A => va_Qv post (wPostK D Wf tf A) A
theorem wTy2 {D : va_G} {cl : List vw_C} {c1 c2 : ClassId} {U : State} (h : va_K D cl [(c1, .int)] U) (h2 : va_K D cl [(c2, .int)] U) : c1 = c2 := by
  have a' : U.vm.findClass ("[" ++ (FieldType.int).toString) = some c1 := (h.2 0 _ rfl).2
  have b' : U.vm.findClass ("[" ++ (FieldType.int).toString) = some c2 := (h2.2 0 _ rfl).2
  exact Option.some.inj (a'.symm.trans b')
end CB1
section CB2
variable {p : Program} {l : Launch} {e : Env} {R : Room} {s : State} {m : MethodId} {args : Array Value} {below : List Frame} {meth : Method} {c : Code} {H : Heap} {locs : List Loc} {cells slots : Nat} {Q : State → Prop}
variable {y : MethodName} {bytes cc : ByteArray} {maxL nL mc ms n index : Nat} {ret : Option FieldType} {ws : List Cond} {rm : Room} {Ts : List Cond} {own C : String} {b : Addr} {As rest st0 : List Value} {pc : Nat} {ls : Array Slot}
variable {D : va_G} {tys tysc : List (ClassId × FieldType)} {A0 : Nat → Prop} {H0 : Heap} {S : Type} {Wf : S → va_W} {tf : S → List (ClassId × FieldType)}
theorem wCIk {post : S → Prop} {W0 pre Wc suf : va_W} (F : CallFix p m c cc nL s args Ts own) (hM : wCt l y ws rm D tysc (.ref b :: As) Wc H.size mc ms (wQk D post Wf tf)) (hN : wNest s) (hA : ∀ q : Nat, H0.size ≤ q → A0 q) (hK : va_K D vwCl tysc s) (hS : va_S A0 H0 H locs) (hP : va_P D vwCl W0 H) (hD : va_D A0 W0) (hW0 : W0 = pre ++ (Wc ++ suf))
    (cw : CallB R s args own index y bytes maxL none ws rm mc ms n ∧ y.name = "<init>" ∧ (Cond.instanceMethod y).before args s = true) (hn : As.length = n) (hz : ls.size = nL) (hst : st0 = As.reverse ++ .ref b :: rest) (hr : (rest.map fun v => v.category).sum ≤ 8) (hdg : decode cc pc = .ok (.invokespecial index, 3)) (hf : cells + mc ≤ R.cells ∧ slots + ms ≤ R.slots)
    (kk : ∀ (u : S) (H1 : Heap) (locs1 : List Loc), post u → va_K D vwCl (tf u) s → va_P D vwCl (pre ++ (Wf u ++ suf)) H1 → va_D A0 (pre ++ (Wf u ++ suf)) → va_S A0 H0 H1 locs1 → W p l e R s m args below meth c H1 locs1 (cells + mc) (slots + ms) Q (F0 m (pc + 3) ls rest)) : W p l e R s m args below meth c H locs cells slots Q (F0 m pc ls st0) := by
  subst hW0
  have hF := wFree (D := D) hD hS hA
  refine va_callv (va_runI (As := As) (rest := rest) F hM cw (wPreS hN hK hP hD) rfl hn hz hst (lv_room hr) hdg hf) hS (fun q _ h => hF q h) hF (fun u t H1 locs1 ht hvm hw hB hz1 hk1 hS1 => ?_)
  obtain ⟨hP1, hD1, hK1⟩ := hB
  rw [ht] at hP1
  obtain ⟨a1, a2⟩ := wFrame hP hD hk1 hF hP1 hD1
  exact kk u H1 locs1 hw (va_K.moved hvm.symm hK1) a1 a2 hS1
theorem wRk {post : S → Prop} {W1 : va_W} {ty1 : List (ClassId × FieldType)} (hQ : MQ below (wQk D post Wf tf A0) args s cells slots A0 = Q) (hx : p.tables.exec = Jvm.exec) (hb : c.code = cc) (hr : meth.sig.returnType = none) (hlocks : meth.locks = false) (hK : va_K D vwCl ty1 s) (hP : va_P D vwCl W1 H) (hD : va_D A0 W1) (hS : va_S A0 s.heap H locs) (hdg : decode cc pc = .ok (.return_, 1)) (u : S) (hu : post u) (hW : W1 = Wf u) (hT : ty1 = tf u) : W p l e R s m args below meth c H locs cells slots Q (F0 m pc ls []) := by
  subst hW hT
  rw [← hQ]
  exact W.vret hx hb hr (fun t ht hW => ⟨⟨u, rfl, hu, by rw [ht]; exact hP, hD, va_K.moved hW.alike hK⟩, hS.F ht⟩) hS.2.2 hdg hlocks
end CB2
end
section
theorem newDefX0 : ∀ j, j < 17 → defaultValue (tyX0 j) = vp_V [.int 0, .int 0, .int 0, .int 0, .int 0, .int 0, .int 0, .int 0, .int 0, .int 0, .null, .null, .null, .null, .null, .null, .null] j := by decide +kernel
theorem newDefX1 : ∀ j, j < 2 → defaultValue (tyX1 j) = vp_V [.null, .null] j := by decide +kernel
theorem newDefX2 : ∀ j, j < 15 → defaultValue (tyX2 j) = vp_V [.int 0, .int 0, .int 0, .int 0, .int 0, .int 0, .int 0, .int 0, .int 0, .null, .null, .null, .null, .null, .null] j := by decide +kernel
abbrev rmX0_init : Room := { frames := 2, cells := 7, slots := 340, locals := 44 }
set_option maxRecDepth 100000 in
set_option maxHeartbeats 4000000 in
theorem mX0_init (l : Launch) (D : va_G) (h0 : Nat) (sz : Nat) : wCt l yX0_init wsX0_init rmX0_init D [] [.ref h0] ([(h0, .inr (0, [.int 0, .int 0, .int 0, .int 0, .int 0, .int 0, .int 0, .int 0, .int 0, .int 0, .null, .null, .null, .null, .null, .null, .null]))]) sz 7 340 (wQk D (fun u : ClassId × (Nat → Nat) => u.2 0 = h0) (fun u => DC u.1 u.2 dF0 dR0) (fun u => [(u.1, .int)])) := by
  refine wMet cX0_init 1 none (by decide) rfl (Nat.le_of_ble_eq_true rfl) ?_
  intro p e s m args below meth c A Q ls hQ hx hb hr hml hown hlocks hin hts hN hP hK hD hA hS hl
  have hl : lv_has ls 1 [(0, .ref h0)] := hl
  have hown : s.vm.findClass RX0 = some m.cls := hown
  have hw0 : ∀ w ∈ wsX00, w.before args s = true := fun w h => hts w (List.mem_cons_of_mem _ (List.mem_append_right _ h))
  have k9 := hts (.fieldLink RX0 9 "PauseLedger$Dinner" "spoken" "[I") (by decide +kernel)
  have k15 := hts (.fieldLink RX0 15 "PauseLedger$Dinner" "interruptions" "[I") (by decide +kernel)
  have k18 := hts (.fieldLink RX0 18 "PauseLedger$Dinner" "coughs" "[I") (by decide +kernel)
  have k21 := hts (.fieldLink RX0 21 "PauseLedger$Dinner" "unsaid" "[I") (by decide +kernel)
  have k24 := hts (.fieldLink RX0 24 "PauseLedger$Dinner" "toGo" "[I") (by decide +kernel)
  have k27 := hts (.fieldLink RX0 27 "PauseLedger$Dinner" "caught" "[I") (by decide +kernel)
  have k30 := hts (.fieldLink RX0 30 "PauseLedger$Dinner" "order" "[I") (by decide +kernel)
  have k33 := hts (.fieldLink RX0 33 "PauseLedger$Dinner" "limit" "I") (by decide +kernel)
  refine lv_aload_n hx hb dX0_init_0 rfl (lv_at hl 0 rfl) ?_
  refine W.objInit hx hb hown (hts (.methodLink RX0 3 objectInit) (by decide +kernel)) (hts (.instanceMethod objectInit) (by decide +kernel)) (hts _ (List.mem_cons_of_mem _ (List.mem_append_left _ (List.mem_append_left _ (List.mem_of_getElem? (i := 2) rfl))))) rfl (by rw [hml]; exact hl.1) rfl dX0_init_1 (Nat.le_of_ble_eq_true rfl) (Nat.le_of_ble_eq_true rfl) ?_
  refine W.eq (g2 := F0 m 4 ls []) rfl ?_
  refine lv_aload_n hx hb dX0_init_4 rfl (lv_at hl 0 rfl) ?_
  refine lv_bipush (v := 10) hx hb dX0_init_5 (by decide) ?_
  refine va_newa (atype := .int) (ty := .int) (N' := 10) (a0 := (10, .inl (fun _ => 0))) hx hb (hts (.arrayClass .int) (by decide +kernel)) rfl hK hP hD hS hA (fun _ => rfl) (by decide) (by decide) (by decide) (Nat.le_of_ble_eq_true rfl) (Nat.le_of_ble_eq_true rfl) dX0_init_7 (fun q7 cI H hK hP hD hS => ?_)
  have hK : va_K D vwCl [(cI, .int)] s := hK
  have hP : va_P D vwCl ([(h0, .inr (0, [.int 0, .int 0, .int 0, .int 0, .int 0, .int 0, .int 0, .int 0, .int 0, .int 0, .null, .null, .null, .null, .null, .null, .null]))] ++ [(q7, .inl (cI, 10, .inl (fun _ => 0)))]) H := hP
  have hD : va_D A ([(h0, .inr (0, [.int 0, .int 0, .int 0, .int 0, .int 0, .int 0, .int 0, .int 0, .int 0, .int 0, .null, .null, .null, .null, .null, .null, .null]))] ++ [(q7, .inl (cI, 10, .inl (fun _ => 0)))]) := hD
  refine va_putF (D := D) (ci := 0) (v := .ref q7) (ty := .array .int) (C := RX0) (T := TX0) (N := 17) hx hb hw0 (fun _ h => h) tyX0 tyX0_ok nmX0 hown hK hP hD hS 0 rfl rfl 10 (by decide) k9 (fun _ h9 => h9) rfl hin rfl (by decide +kernel) rfl rfl (Nat.le_of_ble_eq_true rfl) dX0_init_9 (fun H locs hP hD hS => ?_)
  have hP : va_P D vwCl ([(h0, .inr (0, [.int 0, .int 0, .int 0, .int 0, .int 0, .int 0, .int 0, .int 0, .int 0, .int 0, .ref q7, .null, .null, .null, .null, .null, .null]))] ++ [(q7, .inl (cI, 10, .inl (fun _ => 0)))]) H := hP
  have hD : va_D A ([(h0, .inr (0, [.int 0, .int 0, .int 0, .int 0, .int 0, .int 0, .int 0, .int 0, .int 0, .int 0, .ref q7, .null, .null, .null, .null, .null, .null]))] ++ [(q7, .inl (cI, 10, .inl (fun _ => 0)))]) := hD
  refine lv_aload_n hx hb dX0_init_12 rfl (lv_at hl 0 rfl) ?_
  refine lv_bipush (v := 10) hx hb dX0_init_13 (by decide) ?_
  refine va_newa (atype := .int) (ty := .int) (N' := 10) (a0 := (10, .inl (fun _ => 0))) hx hb (hts (.arrayClass .int) (by decide +kernel)) rfl hK hP hD hS hA (fun _ => rfl) (by decide) (by decide) (by decide) (Nat.le_of_ble_eq_true rfl) (Nat.le_of_ble_eq_true rfl) dX0_init_15 (fun q15 cA H hK2 hP hD hS => ?_)
  have ecA : cI = cA := wTys hK2 (i := 0) (j := 1) rfl rfl
  subst ecA
  have hP : va_P D vwCl ([(h0, .inr (0, [.int 0, .int 0, .int 0, .int 0, .int 0, .int 0, .int 0, .int 0, .int 0, .int 0, .ref q7, .null, .null, .null, .null, .null, .null]))] ++ ([(q7, .inl (cI, 10, .inl (fun _ => 0)))] ++ [(q15, .inl (cI, 10, .inl (fun _ => 0)))])) H := hP
  have hD : va_D A ([(h0, .inr (0, [.int 0, .int 0, .int 0, .int 0, .int 0, .int 0, .int 0, .int 0, .int 0, .int 0, .ref q7, .null, .null, .null, .null, .null, .null]))] ++ ([(q7, .inl (cI, 10, .inl (fun _ => 0)))] ++ [(q15, .inl (cI, 10, .inl (fun _ => 0)))])) := hD
  refine va_putF (D := D) (ci := 0) (v := .ref q15) (ty := .array .int) (C := RX0) (T := TX0) (N := 17) hx hb hw0 (fun _ h => h) tyX0 tyX0_ok nmX0 hown hK hP hD hS 0 rfl rfl 11 (by decide) k15 (fun _ h9 => h9) rfl hin rfl (by decide +kernel) rfl rfl (Nat.le_of_ble_eq_true rfl) dX0_init_17 (fun H locs hP hD hS => ?_)
  have hP : va_P D vwCl ([(h0, .inr (0, [.int 0, .int 0, .int 0, .int 0, .int 0, .int 0, .int 0, .int 0, .int 0, .int 0, .ref q7, .ref q15, .null, .null, .null, .null, .null]))] ++ ([(q7, .inl (cI, 10, .inl (fun _ => 0)))] ++ [(q15, .inl (cI, 10, .inl (fun _ => 0)))])) H := hP
  have hD : va_D A ([(h0, .inr (0, [.int 0, .int 0, .int 0, .int 0, .int 0, .int 0, .int 0, .int 0, .int 0, .int 0, .ref q7, .ref q15, .null, .null, .null, .null, .null]))] ++ ([(q7, .inl (cI, 10, .inl (fun _ => 0)))] ++ [(q15, .inl (cI, 10, .inl (fun _ => 0)))])) := hD
  refine lv_aload_n hx hb dX0_init_20 rfl (lv_at hl 0 rfl) ?_
  refine lv_bipush (v := 10) hx hb dX0_init_21 (by decide) ?_
  refine va_newa (atype := .int) (ty := .int) (N' := 10) (a0 := (10, .inl (fun _ => 0))) hx hb (hts (.arrayClass .int) (by decide +kernel)) rfl hK hP hD hS hA (fun _ => rfl) (by decide) (by decide) (by decide) (Nat.le_of_ble_eq_true rfl) (Nat.le_of_ble_eq_true rfl) dX0_init_23 (fun q23 cA H hK2 hP hD hS => ?_)
  have ecA : cI = cA := wTys hK2 (i := 0) (j := 1) rfl rfl
  subst ecA
  have hP : va_P D vwCl ([(h0, .inr (0, [.int 0, .int 0, .int 0, .int 0, .int 0, .int 0, .int 0, .int 0, .int 0, .int 0, .ref q7, .ref q15, .null, .null, .null, .null, .null]))] ++ ([(q7, .inl (cI, 10, .inl (fun _ => 0)))] ++ ([(q15, .inl (cI, 10, .inl (fun _ => 0)))] ++ [(q23, .inl (cI, 10, .inl (fun _ => 0)))]))) H := hP
  have hD : va_D A ([(h0, .inr (0, [.int 0, .int 0, .int 0, .int 0, .int 0, .int 0, .int 0, .int 0, .int 0, .int 0, .ref q7, .ref q15, .null, .null, .null, .null, .null]))] ++ ([(q7, .inl (cI, 10, .inl (fun _ => 0)))] ++ ([(q15, .inl (cI, 10, .inl (fun _ => 0)))] ++ [(q23, .inl (cI, 10, .inl (fun _ => 0)))]))) := hD
  refine va_putF (D := D) (ci := 0) (v := .ref q23) (ty := .array .int) (C := RX0) (T := TX0) (N := 17) hx hb hw0 (fun _ h => h) tyX0 tyX0_ok nmX0 hown hK hP hD hS 0 rfl rfl 12 (by decide) k18 (fun _ h9 => h9) rfl hin rfl (by decide +kernel) rfl rfl (Nat.le_of_ble_eq_true rfl) dX0_init_25 (fun H locs hP hD hS => ?_)
  have hP : va_P D vwCl ([(h0, .inr (0, [.int 0, .int 0, .int 0, .int 0, .int 0, .int 0, .int 0, .int 0, .int 0, .int 0, .ref q7, .ref q15, .ref q23, .null, .null, .null, .null]))] ++ ([(q7, .inl (cI, 10, .inl (fun _ => 0)))] ++ ([(q15, .inl (cI, 10, .inl (fun _ => 0)))] ++ [(q23, .inl (cI, 10, .inl (fun _ => 0)))]))) H := hP
  have hD : va_D A ([(h0, .inr (0, [.int 0, .int 0, .int 0, .int 0, .int 0, .int 0, .int 0, .int 0, .int 0, .int 0, .ref q7, .ref q15, .ref q23, .null, .null, .null, .null]))] ++ ([(q7, .inl (cI, 10, .inl (fun _ => 0)))] ++ ([(q15, .inl (cI, 10, .inl (fun _ => 0)))] ++ [(q23, .inl (cI, 10, .inl (fun _ => 0)))]))) := hD
  refine lv_aload_n hx hb dX0_init_28 rfl (lv_at hl 0 rfl) ?_
  refine lv_bipush (v := 10) hx hb dX0_init_29 (by decide) ?_
  refine va_newa (atype := .int) (ty := .int) (N' := 10) (a0 := (10, .inl (fun _ => 0))) hx hb (hts (.arrayClass .int) (by decide +kernel)) rfl hK hP hD hS hA (fun _ => rfl) (by decide) (by decide) (by decide) (Nat.le_of_ble_eq_true rfl) (Nat.le_of_ble_eq_true rfl) dX0_init_31 (fun q31 cA H hK2 hP hD hS => ?_)
  have ecA : cI = cA := wTys hK2 (i := 0) (j := 1) rfl rfl
  subst ecA
  have hP : va_P D vwCl ([(h0, .inr (0, [.int 0, .int 0, .int 0, .int 0, .int 0, .int 0, .int 0, .int 0, .int 0, .int 0, .ref q7, .ref q15, .ref q23, .null, .null, .null, .null]))] ++ ([(q7, .inl (cI, 10, .inl (fun _ => 0)))] ++ ([(q15, .inl (cI, 10, .inl (fun _ => 0)))] ++ ([(q23, .inl (cI, 10, .inl (fun _ => 0)))] ++ [(q31, .inl (cI, 10, .inl (fun _ => 0)))])))) H := hP
  have hD : va_D A ([(h0, .inr (0, [.int 0, .int 0, .int 0, .int 0, .int 0, .int 0, .int 0, .int 0, .int 0, .int 0, .ref q7, .ref q15, .ref q23, .null, .null, .null, .null]))] ++ ([(q7, .inl (cI, 10, .inl (fun _ => 0)))] ++ ([(q15, .inl (cI, 10, .inl (fun _ => 0)))] ++ ([(q23, .inl (cI, 10, .inl (fun _ => 0)))] ++ [(q31, .inl (cI, 10, .inl (fun _ => 0)))])))) := hD
  refine va_putF (D := D) (ci := 0) (v := .ref q31) (ty := .array .int) (C := RX0) (T := TX0) (N := 17) hx hb hw0 (fun _ h => h) tyX0 tyX0_ok nmX0 hown hK hP hD hS 0 rfl rfl 13 (by decide) k21 (fun _ h9 => h9) rfl hin rfl (by decide +kernel) rfl rfl (Nat.le_of_ble_eq_true rfl) dX0_init_33 (fun H locs hP hD hS => ?_)
  have hP : va_P D vwCl ([(h0, .inr (0, [.int 0, .int 0, .int 0, .int 0, .int 0, .int 0, .int 0, .int 0, .int 0, .int 0, .ref q7, .ref q15, .ref q23, .ref q31, .null, .null, .null]))] ++ ([(q7, .inl (cI, 10, .inl (fun _ => 0)))] ++ ([(q15, .inl (cI, 10, .inl (fun _ => 0)))] ++ ([(q23, .inl (cI, 10, .inl (fun _ => 0)))] ++ [(q31, .inl (cI, 10, .inl (fun _ => 0)))])))) H := hP
  have hD : va_D A ([(h0, .inr (0, [.int 0, .int 0, .int 0, .int 0, .int 0, .int 0, .int 0, .int 0, .int 0, .int 0, .ref q7, .ref q15, .ref q23, .ref q31, .null, .null, .null]))] ++ ([(q7, .inl (cI, 10, .inl (fun _ => 0)))] ++ ([(q15, .inl (cI, 10, .inl (fun _ => 0)))] ++ ([(q23, .inl (cI, 10, .inl (fun _ => 0)))] ++ [(q31, .inl (cI, 10, .inl (fun _ => 0)))])))) := hD
  refine lv_aload_n hx hb dX0_init_36 rfl (lv_at hl 0 rfl) ?_
  refine lv_bipush (v := 100) hx hb dX0_init_37 (by decide) ?_
  refine va_newa (atype := .int) (ty := .int) (N' := 100) (a0 := (100, .inl (fun _ => 0))) hx hb (hts (.arrayClass .int) (by decide +kernel)) rfl hK hP hD hS hA (fun _ => rfl) (by decide) (by decide) (by decide) (Nat.le_of_ble_eq_true rfl) (Nat.le_of_ble_eq_true rfl) dX0_init_39 (fun q39 cA H hK2 hP hD hS => ?_)
  have ecA : cI = cA := wTys hK2 (i := 0) (j := 1) rfl rfl
  subst ecA
  have hP : va_P D vwCl ([(h0, .inr (0, [.int 0, .int 0, .int 0, .int 0, .int 0, .int 0, .int 0, .int 0, .int 0, .int 0, .ref q7, .ref q15, .ref q23, .ref q31, .null, .null, .null]))] ++ ([(q7, .inl (cI, 10, .inl (fun _ => 0)))] ++ ([(q15, .inl (cI, 10, .inl (fun _ => 0)))] ++ ([(q23, .inl (cI, 10, .inl (fun _ => 0)))] ++ ([(q31, .inl (cI, 10, .inl (fun _ => 0)))] ++ [(q39, .inl (cI, 100, .inl (fun _ => 0)))]))))) H := hP
  have hD : va_D A ([(h0, .inr (0, [.int 0, .int 0, .int 0, .int 0, .int 0, .int 0, .int 0, .int 0, .int 0, .int 0, .ref q7, .ref q15, .ref q23, .ref q31, .null, .null, .null]))] ++ ([(q7, .inl (cI, 10, .inl (fun _ => 0)))] ++ ([(q15, .inl (cI, 10, .inl (fun _ => 0)))] ++ ([(q23, .inl (cI, 10, .inl (fun _ => 0)))] ++ ([(q31, .inl (cI, 10, .inl (fun _ => 0)))] ++ [(q39, .inl (cI, 100, .inl (fun _ => 0)))]))))) := hD
  refine va_putF (D := D) (ci := 0) (v := .ref q39) (ty := .array .int) (C := RX0) (T := TX0) (N := 17) hx hb hw0 (fun _ h => h) tyX0 tyX0_ok nmX0 hown hK hP hD hS 0 rfl rfl 14 (by decide) k24 (fun _ h9 => h9) rfl hin rfl (by decide +kernel) rfl rfl (Nat.le_of_ble_eq_true rfl) dX0_init_41 (fun H locs hP hD hS => ?_)
  have hP : va_P D vwCl ([(h0, .inr (0, [.int 0, .int 0, .int 0, .int 0, .int 0, .int 0, .int 0, .int 0, .int 0, .int 0, .ref q7, .ref q15, .ref q23, .ref q31, .ref q39, .null, .null]))] ++ ([(q7, .inl (cI, 10, .inl (fun _ => 0)))] ++ ([(q15, .inl (cI, 10, .inl (fun _ => 0)))] ++ ([(q23, .inl (cI, 10, .inl (fun _ => 0)))] ++ ([(q31, .inl (cI, 10, .inl (fun _ => 0)))] ++ [(q39, .inl (cI, 100, .inl (fun _ => 0)))]))))) H := hP
  have hD : va_D A ([(h0, .inr (0, [.int 0, .int 0, .int 0, .int 0, .int 0, .int 0, .int 0, .int 0, .int 0, .int 0, .ref q7, .ref q15, .ref q23, .ref q31, .ref q39, .null, .null]))] ++ ([(q7, .inl (cI, 10, .inl (fun _ => 0)))] ++ ([(q15, .inl (cI, 10, .inl (fun _ => 0)))] ++ ([(q23, .inl (cI, 10, .inl (fun _ => 0)))] ++ ([(q31, .inl (cI, 10, .inl (fun _ => 0)))] ++ [(q39, .inl (cI, 100, .inl (fun _ => 0)))]))))) := hD
  refine lv_aload_n hx hb dX0_init_44 rfl (lv_at hl 0 rfl) ?_
  refine lv_bipush (v := 100) hx hb dX0_init_45 (by decide) ?_
  refine va_newa (atype := .int) (ty := .int) (N' := 100) (a0 := (100, .inl (fun _ => 0))) hx hb (hts (.arrayClass .int) (by decide +kernel)) rfl hK hP hD hS hA (fun _ => rfl) (by decide) (by decide) (by decide) (Nat.le_of_ble_eq_true rfl) (Nat.le_of_ble_eq_true rfl) dX0_init_47 (fun q47 cA H hK2 hP hD hS => ?_)
  have ecA : cI = cA := wTys hK2 (i := 0) (j := 1) rfl rfl
  subst ecA
  have hP : va_P D vwCl ([(h0, .inr (0, [.int 0, .int 0, .int 0, .int 0, .int 0, .int 0, .int 0, .int 0, .int 0, .int 0, .ref q7, .ref q15, .ref q23, .ref q31, .ref q39, .null, .null]))] ++ ([(q7, .inl (cI, 10, .inl (fun _ => 0)))] ++ ([(q15, .inl (cI, 10, .inl (fun _ => 0)))] ++ ([(q23, .inl (cI, 10, .inl (fun _ => 0)))] ++ ([(q31, .inl (cI, 10, .inl (fun _ => 0)))] ++ ([(q39, .inl (cI, 100, .inl (fun _ => 0)))] ++ [(q47, .inl (cI, 100, .inl (fun _ => 0)))])))))) H := hP
  have hD : va_D A ([(h0, .inr (0, [.int 0, .int 0, .int 0, .int 0, .int 0, .int 0, .int 0, .int 0, .int 0, .int 0, .ref q7, .ref q15, .ref q23, .ref q31, .ref q39, .null, .null]))] ++ ([(q7, .inl (cI, 10, .inl (fun _ => 0)))] ++ ([(q15, .inl (cI, 10, .inl (fun _ => 0)))] ++ ([(q23, .inl (cI, 10, .inl (fun _ => 0)))] ++ ([(q31, .inl (cI, 10, .inl (fun _ => 0)))] ++ ([(q39, .inl (cI, 100, .inl (fun _ => 0)))] ++ [(q47, .inl (cI, 100, .inl (fun _ => 0)))])))))) := hD
  refine va_putF (D := D) (ci := 0) (v := .ref q47) (ty := .array .int) (C := RX0) (T := TX0) (N := 17) hx hb hw0 (fun _ h => h) tyX0 tyX0_ok nmX0 hown hK hP hD hS 0 rfl rfl 15 (by decide) k27 (fun _ h9 => h9) rfl hin rfl (by decide +kernel) rfl rfl (Nat.le_of_ble_eq_true rfl) dX0_init_49 (fun H locs hP hD hS => ?_)
  have hP : va_P D vwCl ([(h0, .inr (0, [.int 0, .int 0, .int 0, .int 0, .int 0, .int 0, .int 0, .int 0, .int 0, .int 0, .ref q7, .ref q15, .ref q23, .ref q31, .ref q39, .ref q47, .null]))] ++ ([(q7, .inl (cI, 10, .inl (fun _ => 0)))] ++ ([(q15, .inl (cI, 10, .inl (fun _ => 0)))] ++ ([(q23, .inl (cI, 10, .inl (fun _ => 0)))] ++ ([(q31, .inl (cI, 10, .inl (fun _ => 0)))] ++ ([(q39, .inl (cI, 100, .inl (fun _ => 0)))] ++ [(q47, .inl (cI, 100, .inl (fun _ => 0)))])))))) H := hP
  have hD : va_D A ([(h0, .inr (0, [.int 0, .int 0, .int 0, .int 0, .int 0, .int 0, .int 0, .int 0, .int 0, .int 0, .ref q7, .ref q15, .ref q23, .ref q31, .ref q39, .ref q47, .null]))] ++ ([(q7, .inl (cI, 10, .inl (fun _ => 0)))] ++ ([(q15, .inl (cI, 10, .inl (fun _ => 0)))] ++ ([(q23, .inl (cI, 10, .inl (fun _ => 0)))] ++ ([(q31, .inl (cI, 10, .inl (fun _ => 0)))] ++ ([(q39, .inl (cI, 100, .inl (fun _ => 0)))] ++ [(q47, .inl (cI, 100, .inl (fun _ => 0)))])))))) := hD
  refine lv_aload_n hx hb dX0_init_52 rfl (lv_at hl 0 rfl) ?_
  refine lv_bipush (v := 100) hx hb dX0_init_53 (by decide) ?_
  refine va_newa (atype := .int) (ty := .int) (N' := 100) (a0 := (100, .inl (fun _ => 0))) hx hb (hts (.arrayClass .int) (by decide +kernel)) rfl hK hP hD hS hA (fun _ => rfl) (by decide) (by decide) (by decide) (Nat.le_of_ble_eq_true rfl) (Nat.le_of_ble_eq_true rfl) dX0_init_55 (fun q55 cA H hK2 hP hD hS => ?_)
  have ecA : cI = cA := wTys hK2 (i := 0) (j := 1) rfl rfl
  subst ecA
  have hP : va_P D vwCl ([(h0, .inr (0, [.int 0, .int 0, .int 0, .int 0, .int 0, .int 0, .int 0, .int 0, .int 0, .int 0, .ref q7, .ref q15, .ref q23, .ref q31, .ref q39, .ref q47, .null]))] ++ ([(q7, .inl (cI, 10, .inl (fun _ => 0)))] ++ ([(q15, .inl (cI, 10, .inl (fun _ => 0)))] ++ ([(q23, .inl (cI, 10, .inl (fun _ => 0)))] ++ ([(q31, .inl (cI, 10, .inl (fun _ => 0)))] ++ ([(q39, .inl (cI, 100, .inl (fun _ => 0)))] ++ ([(q47, .inl (cI, 100, .inl (fun _ => 0)))] ++ [(q55, .inl (cI, 100, .inl (fun _ => 0)))]))))))) H := hP
  have hD : va_D A ([(h0, .inr (0, [.int 0, .int 0, .int 0, .int 0, .int 0, .int 0, .int 0, .int 0, .int 0, .int 0, .ref q7, .ref q15, .ref q23, .ref q31, .ref q39, .ref q47, .null]))] ++ ([(q7, .inl (cI, 10, .inl (fun _ => 0)))] ++ ([(q15, .inl (cI, 10, .inl (fun _ => 0)))] ++ ([(q23, .inl (cI, 10, .inl (fun _ => 0)))] ++ ([(q31, .inl (cI, 10, .inl (fun _ => 0)))] ++ ([(q39, .inl (cI, 100, .inl (fun _ => 0)))] ++ ([(q47, .inl (cI, 100, .inl (fun _ => 0)))] ++ [(q55, .inl (cI, 100, .inl (fun _ => 0)))]))))))) := hD
  refine va_putF (D := D) (ci := 0) (v := .ref q55) (ty := .array .int) (C := RX0) (T := TX0) (N := 17) hx hb hw0 (fun _ h => h) tyX0 tyX0_ok nmX0 hown hK hP hD hS 0 rfl rfl 16 (by decide) k30 (fun _ h9 => h9) rfl hin rfl (by decide +kernel) rfl rfl (Nat.le_of_ble_eq_true rfl) dX0_init_57 (fun H locs hP hD hS => ?_)
  have hP : va_P D vwCl ([(h0, .inr (0, [.int 0, .int 0, .int 0, .int 0, .int 0, .int 0, .int 0, .int 0, .int 0, .int 0, .ref q7, .ref q15, .ref q23, .ref q31, .ref q39, .ref q47, .ref q55]))] ++ ([(q7, .inl (cI, 10, .inl (fun _ => 0)))] ++ ([(q15, .inl (cI, 10, .inl (fun _ => 0)))] ++ ([(q23, .inl (cI, 10, .inl (fun _ => 0)))] ++ ([(q31, .inl (cI, 10, .inl (fun _ => 0)))] ++ ([(q39, .inl (cI, 100, .inl (fun _ => 0)))] ++ ([(q47, .inl (cI, 100, .inl (fun _ => 0)))] ++ [(q55, .inl (cI, 100, .inl (fun _ => 0)))]))))))) H := hP
  have hD : va_D A ([(h0, .inr (0, [.int 0, .int 0, .int 0, .int 0, .int 0, .int 0, .int 0, .int 0, .int 0, .int 0, .ref q7, .ref q15, .ref q23, .ref q31, .ref q39, .ref q47, .ref q55]))] ++ ([(q7, .inl (cI, 10, .inl (fun _ => 0)))] ++ ([(q15, .inl (cI, 10, .inl (fun _ => 0)))] ++ ([(q23, .inl (cI, 10, .inl (fun _ => 0)))] ++ ([(q31, .inl (cI, 10, .inl (fun _ => 0)))] ++ ([(q39, .inl (cI, 100, .inl (fun _ => 0)))] ++ ([(q47, .inl (cI, 100, .inl (fun _ => 0)))] ++ [(q55, .inl (cI, 100, .inl (fun _ => 0)))]))))))) := hD
  have hP : va_P D vwCl (DC cI (wA8 h0 q7 q15 q23 q31 q39 q47 q55) (fun _ => 0) (fun _ _ => 0)) H := hP
  have hD : va_D A (DC cI (wA8 h0 q7 q15 q23 q31 q39 q47 q55) (fun _ => 0) (fun _ _ => 0)) := hD
  have hl : lv_has ls 1 [(0, .ref ((wA8 h0 q7 q15 q23 q31 q39 q47 q55) 0))] := hl
  refine lv_aload_n hx hb dX0_init_60 rfl (lv_at hl 0 rfl) ?_
  refine lv_iconst (v := 5) hx hb dX0_init_61 (by decide) ?_
  refine va_put (D := D) (ci := 0) (v := .int 5) (ty := .int) (C := RX0) (T := TX0) (N := 17) hx hb hw0 (fun _ h => h) tyX0 tyX0_ok nmX0 hown hK hP hD hS 0 rfl rfl 2 (by decide) k33 (fun _ h9 => h9) rfl (by decide +kernel) rfl rfl (Nat.le_of_ble_eq_true rfl) dX0_init_62 (fun H locs hP hD hS => ?_)
  have hP : va_P D vwCl (DC cI (wA8 h0 q7 q15 q23 q31 q39 q47 q55) (upd (fun _ => 0) 2 5) (fun _ _ => 0)) H := hP
  have hD : va_D A (DC cI (wA8 h0 q7 q15 q23 q31 q39 q47 q55) (upd (fun _ => 0) 2 5) (fun _ _ => 0)) := hD
  refine lv_aload_n hx hb dX0_init_65 rfl (lv_at hl 0 rfl) ?_
  refine lv_iconst (v := 4) hx hb dX0_init_66 (by decide) ?_
  refine wCVv (pre := ([] : va_W)) (Wc := DC cI (wA8 h0 q7 q15 q23 q31 q39 q47 q55) (upd (fun _ => 0) 2 5) (fun _ _ => 0)) (suf := ([] : va_W)) (As := [.int 4]) (rest := []) ⟨hx, hb, hml, hown, hts⟩ (mX0_begin l D cI (wA8 h0 q7 q15 q23 q31 q39 q47 q55) (upd (fun _ => 0) 2 5) (fun _ _ => 0) 4 _) hN hA hK hS hP hD rfl 0 (r := (RX0, TX0, 17)) rfl rfl (cwV 1 hts gX0_init_X0_begin rfl rfl rfl (by decide +kernel) ⟨Nat.le_of_ble_eq_true rfl, Nat.le_of_ble_eq_true rfl⟩) rfl hl.1 rfl (Nat.le_of_ble_eq_true rfl) dX0_init_67 ⟨Nat.le_of_ble_eq_true rfl, Nat.le_of_ble_eq_true rfl⟩ (fun u_67 H locs hw hP hD hS => ?_)
  subst hw
  have hP : va_P D vwCl (DC cI (wA8 h0 q7 q15 q23 q31 q39 q47 q55) (dBeginF (upd (fun _ => 0) 2 5) 4, dBeginR (fun _ _ => 0)).1 (dBeginF (upd (fun _ => 0) 2 5) 4, dBeginR (fun _ _ => 0)).2) H := hP
  have hD : va_D A (DC cI (wA8 h0 q7 q15 q23 q31 q39 q47 q55) (dBeginF (upd (fun _ => 0) 2 5) 4, dBeginR (fun _ _ => 0)).1 (dBeginF (upd (fun _ => 0) 2 5) 4, dBeginR (fun _ _ => 0)).2) := hD
  exact wRk hQ hx hb hr hlocks hK hP hD hS dX0_init_70 (cI, (wA8 h0 q7 q15 q23 q31 q39 q47 q55)) (rfl) rfl rfl
abbrev rmX1_init : Room := { frames := 3, cells := 16, slots := 714, locals := 64 }
set_option maxRecDepth 100000 in
set_option maxHeartbeats 4000000 in
theorem mX1_init (l : Launch) (D : va_G) (h0 : Nat) (sz : Nat) : wCt l yX1_init wsX1_init rmX1_init D [] [.ref h0] ([(h0, .inr (1, [.null, .null]))]) sz 16 714 (wQk D (fun _ : (ClassId × (Nat → Nat)) × (Nat → Nat) => True) (fun u => XO h0 u.1.2 u.2 ++ (DC u.1.1 u.1.2 dF0 dR0 ++ DC u.1.1 u.2 dF0 dR0)) (fun u => [(u.1.1, .int)])) := by
  refine wMet cX1_init 1 none (by decide) rfl (Nat.le_of_ble_eq_true rfl) ?_
  intro p e s m args below meth c A Q ls hQ hx hb hr hml hown hlocks hin hts hN hP hK hD hA hS hl
  have hl : lv_has ls 1 [(0, .ref h0)] := hl
  have hown : s.vm.findClass RX1 = some m.cls := hown
  have hw0 : ∀ w ∈ wsX00, w.before args s = true := fun w h => hts w (List.mem_cons_of_mem _ (List.mem_append_left _ (List.mem_append_right _ h)))
  have hw1 : ∀ w ∈ wsX10, w.before args s = true := fun w h => hts w (List.mem_cons_of_mem _ (List.mem_append_right _ h))
  have k12 := hts (.fieldLink RX1 12 "PauseLedger" "dinner" "LPauseLedger$Dinner;") (by decide +kernel)
  have k16 := hts (.fieldLink RX1 16 "PauseLedger" "trial" "LPauseLedger$Dinner;") (by decide +kernel)
  refine lv_aload_n hx hb dX1_init_0 rfl (lv_at hl 0 rfl) ?_
  refine W.objInit hx hb hown (hts (.methodLink RX1 3 objectInit) (by decide +kernel)) (hts (.instanceMethod objectInit) (by decide +kernel)) (hts _ (List.mem_cons_of_mem _ (List.mem_append_left _ (List.mem_append_left _ (List.mem_append_left _ (List.mem_of_getElem? (i := 2) rfl)))))) rfl (by rw [hml]; exact hl.1) rfl dX1_init_1 (Nat.le_of_ble_eq_true rfl) (Nat.le_of_ble_eq_true rfl) ?_
  refine W.eq (g2 := F0 m 4 ls []) rfl ?_
  refine lv_aload_n hx hb dX1_init_4 rfl (lv_at hl 0 rfl) ?_
  refine va_new (ci := 0) (fs := [.int 0, .int 0, .int 0, .int 0, .int 0, .int 0, .int 0, .int 0, .int 0, .int 0, .null, .null, .null, .null, .null, .null, .null]) (C := RX0) (T := TX0) (N := 17) hx hb hw0 (fun _ h => h) tyX0 tyX0_ok hown (hts (.classLink RX1 9 RX0) (by decide +kernel)) (hts (.instantiable RX0 17) (by decide +kernel)) (hts (.initialized RX0) (by decide +kernel)) hK hP hD hS hA rfl (fun j hj => by exact newDefX0 j hj) (Nat.le_of_ble_eq_true rfl) (Nat.le_of_ble_eq_true rfl) dX1_init_5 (fun q5 H hP hD hS => ?_)
  have hP : va_P D vwCl ([(h0, .inr (1, [.null, .null]))] ++ [(q5, .inr (0, [.int 0, .int 0, .int 0, .int 0, .int 0, .int 0, .int 0, .int 0, .int 0, .int 0, .null, .null, .null, .null, .null, .null, .null]))]) H := hP
  have hD : va_D A ([(h0, .inr (1, [.null, .null]))] ++ [(q5, .inr (0, [.int 0, .int 0, .int 0, .int 0, .int 0, .int 0, .int 0, .int 0, .int 0, .int 0, .null, .null, .null, .null, .null, .null, .null]))]) := hD
  refine lv_dup hx hb dX1_init_8 rfl ?_
  refine wCIk (pre := [(h0, .inr (1, [.null, .null]))]) (Wc := [(q5, .inr (0, [.int 0, .int 0, .int 0, .int 0, .int 0, .int 0, .int 0, .int 0, .int 0, .int 0, .null, .null, .null, .null, .null, .null, .null]))]) (suf := ([] : va_W)) (As := []) (rest := [.ref q5, .ref h0]) ⟨hx, hb, hml, hown, hts⟩ (mX0_init l D q5 _) hN hA hK hS hP hD rfl (cwI 0 hts gX1_init_X0_init rfl rfl rfl (hts (.initialized RX0) (by decide +kernel)) (hts (.methodLink RX1 11 yX0_init) (by decide +kernel)) (hts (.instanceMethod yX0_init) (by decide +kernel)) rfl (by decide +kernel) ⟨Nat.le_of_ble_eq_true rfl, Nat.le_of_ble_eq_true rfl⟩) rfl hl.1 rfl (Nat.le_of_ble_eq_true rfl) dX1_init_9 ⟨Nat.le_of_ble_eq_true rfl, Nat.le_of_ble_eq_true rfl⟩ (fun ⟨c9, a9⟩ H9 locs9 hw hKn hP9 hD9 hS9 => ?_)
  have hw : a9 0 = q5 := hw
  subst hw
  have hKc : va_K D vwCl [(c9, .int)] s := hKn
  have hP := hP9
  have hD := hD9
  have hS := hS9
  revert hP hD hS
  clear hP9 hD9 hS9
  generalize H9 = H
  generalize locs9 = locs
  intro hP hD hS
  have hP : va_P D vwCl ([(h0, .inr (1, [.null, .null]))] ++ DC c9 a9 dF0 dR0) H := hP
  have hD : va_D A ([(h0, .inr (1, [.null, .null]))] ++ DC c9 a9 dF0 dR0) := hD
  refine va_putF (D := D) (ci := 1) (v := .ref (a9 0)) (ty := .object "PauseLedger$Dinner") (C := RX1) (T := TX1) (N := 2) hx hb hw1 (fun _ h => h) tyX1 tyX1_ok nmX1 hown hK hP hD hS 0 rfl rfl 0 (by decide) k12 (fun _ h9 => h9) rfl hin rfl (by decide +kernel) rfl rfl (Nat.le_of_ble_eq_true rfl) dX1_init_12 (fun H locs hP hD hS => ?_)
  have hP : va_P D vwCl ([(h0, .inr (1, [.ref (a9 0), .null]))] ++ DC c9 a9 dF0 dR0) H := hP
  have hD : va_D A ([(h0, .inr (1, [.ref (a9 0), .null]))] ++ DC c9 a9 dF0 dR0) := hD
  refine lv_aload_n hx hb dX1_init_15 rfl (lv_at hl 0 rfl) ?_
  refine va_new (ci := 0) (fs := [.int 0, .int 0, .int 0, .int 0, .int 0, .int 0, .int 0, .int 0, .int 0, .int 0, .null, .null, .null, .null, .null, .null, .null]) (C := RX0) (T := TX0) (N := 17) hx hb hw0 (fun _ h => h) tyX0 tyX0_ok hown (hts (.classLink RX1 9 RX0) (by decide +kernel)) (hts (.instantiable RX0 17) (by decide +kernel)) (hts (.initialized RX0) (by decide +kernel)) hK hP hD hS hA rfl (fun j hj => by exact newDefX0 j hj) (Nat.le_of_ble_eq_true rfl) (Nat.le_of_ble_eq_true rfl) dX1_init_16 (fun q16 H hP hD hS => ?_)
  have hP : va_P D vwCl ([(h0, .inr (1, [.ref (a9 0), .null]))] ++ (DC c9 a9 dF0 dR0 ++ [(q16, .inr (0, [.int 0, .int 0, .int 0, .int 0, .int 0, .int 0, .int 0, .int 0, .int 0, .int 0, .null, .null, .null, .null, .null, .null, .null]))])) H := hP
  have hD : va_D A ([(h0, .inr (1, [.ref (a9 0), .null]))] ++ (DC c9 a9 dF0 dR0 ++ [(q16, .inr (0, [.int 0, .int 0, .int 0, .int 0, .int 0, .int 0, .int 0, .int 0, .int 0, .int 0, .null, .null, .null, .null, .null, .null, .null]))])) := hD
  refine lv_dup hx hb dX1_init_19 rfl ?_
  refine wCIk (pre := [(h0, .inr (1, [.ref (a9 0), .null]))] ++ DC c9 a9 dF0 dR0) (Wc := [(q16, .inr (0, [.int 0, .int 0, .int 0, .int 0, .int 0, .int 0, .int 0, .int 0, .int 0, .int 0, .null, .null, .null, .null, .null, .null, .null]))]) (suf := ([] : va_W)) (As := []) (rest := [.ref q16, .ref h0]) ⟨hx, hb, hml, hown, hts⟩ (mX0_init l D q16 _) hN hA hK hS hP hD rfl (cwI 0 hts gX1_init_X0_init rfl rfl rfl (hts (.initialized RX0) (by decide +kernel)) (hts (.methodLink RX1 11 yX0_init) (by decide +kernel)) (hts (.instanceMethod yX0_init) (by decide +kernel)) rfl (by decide +kernel) ⟨Nat.le_of_ble_eq_true rfl, Nat.le_of_ble_eq_true rfl⟩) rfl hl.1 rfl (Nat.le_of_ble_eq_true rfl) dX1_init_20 ⟨Nat.le_of_ble_eq_true rfl, Nat.le_of_ble_eq_true rfl⟩ (fun ⟨c20, a20⟩ H9 locs9 hw hKn hP9 hD9 hS9 => ?_)
  have hw : a20 0 = q16 := hw
  subst hw
  have ecA : c9 = c20 := wTy2 hKc hKn
  subst ecA
  have hP := hP9
  have hD := hD9
  have hS := hS9
  revert hP hD hS
  clear hP9 hD9 hS9
  generalize H9 = H
  generalize locs9 = locs
  intro hP hD hS
  have hP : va_P D vwCl ([(h0, .inr (1, [.ref (a9 0), .null]))] ++ (DC c9 a9 dF0 dR0 ++ DC c9 a20 dF0 dR0)) H := hP
  have hD : va_D A ([(h0, .inr (1, [.ref (a9 0), .null]))] ++ (DC c9 a9 dF0 dR0 ++ DC c9 a20 dF0 dR0)) := hD
  refine va_putF (D := D) (ci := 1) (v := .ref (a20 0)) (ty := .object "PauseLedger$Dinner") (C := RX1) (T := TX1) (N := 2) hx hb hw1 (fun _ h => h) tyX1 tyX1_ok nmX1 hown hK hP hD hS 0 rfl rfl 1 (by decide) k16 (fun _ h9 => h9) rfl hin rfl (by decide +kernel) rfl rfl (Nat.le_of_ble_eq_true rfl) dX1_init_23 (fun H locs hP hD hS => ?_)
  have hP : va_P D vwCl ([(h0, .inr (1, [.ref (a9 0), .ref (a20 0)]))] ++ (DC c9 a9 dF0 dR0 ++ DC c9 a20 dF0 dR0)) H := hP
  have hD : va_D A ([(h0, .inr (1, [.ref (a9 0), .ref (a20 0)]))] ++ (DC c9 a9 dF0 dR0 ++ DC c9 a20 dF0 dR0)) := hD
  have hK := hKc
  exact wRk hQ hx hb hr hlocks hK hP hD hS dX1_init_26 ((c9, a9), a20) (trivial) rfl rfl
end
section
theorem dX2_init_0 : decode cX2_init 0 = .ok (.aload_n 0, 1) := by decide +kernel
theorem dX2_init_1 : decode cX2_init 1 = .ok (.invokespecial 1, 3) := by decide +kernel
theorem dX2_init_4 : decode cX2_init 4 = .ok (.aload_n 0, 1) := by decide +kernel
theorem dX2_init_5 : decode cX2_init 5 = .ok (.iconst 5, 1) := by decide +kernel
theorem dX2_init_6 : decode cX2_init 6 = .ok (.putfield 7, 3) := by decide +kernel
theorem dX2_init_9 : decode cX2_init 9 = .ok (.aload_n 0, 1) := by decide +kernel
theorem dX2_init_10 : decode cX2_init 10 = .ok (.iconst (-1), 1) := by decide +kernel
theorem dX2_init_11 : decode cX2_init 11 = .ok (.putfield 13, 3) := by decide +kernel
theorem dX2_init_14 : decode cX2_init 14 = .ok (.aload_n 0, 1) := by decide +kernel
theorem dX2_init_15 : decode cX2_init 15 = .ok (.iconst 0, 1) := by decide +kernel
theorem dX2_init_16 : decode cX2_init 16 = .ok (.anewarray 16, 3) := by decide +kernel
theorem dX2_init_19 : decode cX2_init 19 = .ok (.putfield 18, 3) := by decide +kernel
theorem dX2_init_22 : decode cX2_init 22 = .ok (.aload_n 0, 1) := by decide +kernel
theorem dX2_init_23 : decode cX2_init 23 = .ok (.iload_n 1, 1) := by decide +kernel
theorem dX2_init_24 : decode cX2_init 24 = .ok (.putfield 22, 3) := by decide +kernel
theorem dX2_init_27 : decode cX2_init 27 = .ok (.aload_n 0, 1) := by decide +kernel
theorem dX2_init_28 : decode cX2_init 28 = .ok (.iload_n 1, 1) := by decide +kernel
theorem dX2_init_29 : decode cX2_init 29 = .ok (.newarray .int, 2) := by decide +kernel
theorem dX2_init_31 : decode cX2_init 31 = .ok (.putfield 25, 3) := by decide +kernel
theorem dX2_init_34 : decode cX2_init 34 = .ok (.aload_n 0, 1) := by decide +kernel
theorem dX2_init_35 : decode cX2_init 35 = .ok (.iload_n 1, 1) := by decide +kernel
theorem dX2_init_36 : decode cX2_init 36 = .ok (.newarray .int, 2) := by decide +kernel
theorem dX2_init_38 : decode cX2_init 38 = .ok (.putfield 28, 3) := by decide +kernel
theorem dX2_init_41 : decode cX2_init 41 = .ok (.aload_n 0, 1) := by decide +kernel
theorem dX2_init_42 : decode cX2_init 42 = .ok (.iload_n 1, 1) := by decide +kernel
theorem dX2_init_43 : decode cX2_init 43 = .ok (.newarray .int, 2) := by decide +kernel
theorem dX2_init_45 : decode cX2_init 45 = .ok (.putfield 31, 3) := by decide +kernel
theorem dX2_init_48 : decode cX2_init 48 = .ok (.aload_n 0, 1) := by decide +kernel
theorem dX2_init_49 : decode cX2_init 49 = .ok (.iload_n 1, 1) := by decide +kernel
theorem dX2_init_50 : decode cX2_init 50 = .ok (.newarray .int, 2) := by decide +kernel
theorem dX2_init_52 : decode cX2_init 52 = .ok (.putfield 34, 3) := by decide +kernel
theorem dX2_init_55 : decode cX2_init 55 = .ok (.aload_n 0, 1) := by decide +kernel
theorem dX2_init_56 : decode cX2_init 56 = .ok (.iload_n 1, 1) := by decide +kernel
theorem dX2_init_57 : decode cX2_init 57 = .ok (.iload_n 1, 1) := by decide +kernel
theorem dX2_init_58 : decode cX2_init 58 = .ok (.multianewarray 37 2, 4) := by decide +kernel
theorem dX2_init_62 : decode cX2_init 62 = .ok (.putfield 38, 3) := by decide +kernel
theorem dX2_init_65 : decode cX2_init 65 = .ok (.return_, 1) := by decide +kernel
theorem dX2_apart_0 : decode cX2_apart 0 = .ok (.iconst 0, 1) := by decide +kernel
theorem dX2_apart_1 : decode cX2_apart 1 = .ok (.istore_n 3, 1) := by decide +kernel
theorem dX2_apart_2 : decode cX2_apart 2 = .ok (.iload_n 1, 1) := by decide +kernel
theorem dX2_apart_3 : decode cX2_apart 3 = .ok (.iload_n 3, 1) := by decide +kernel
theorem dX2_apart_4 : decode cX2_apart 4 = .ok (.iadd, 1) := by decide +kernel
theorem dX2_apart_5 : decode cX2_apart 5 = .ok (.aload_n 0, 1) := by decide +kernel
theorem dX2_apart_6 : decode cX2_apart 6 = .ok (.getfield 22, 3) := by decide +kernel
theorem dX2_apart_9 : decode cX2_apart 9 = .ok (.irem, 1) := by decide +kernel
theorem dX2_apart_10 : decode cX2_apart 10 = .ok (.iload_n 2, 1) := by decide +kernel
theorem dX2_apart_11 : decode cX2_apart 11 = .ok (.if_icmp .eq 21, 3) := by decide +kernel
theorem dX2_apart_14 : decode cX2_apart 14 = .ok (.iload_n 2, 1) := by decide +kernel
theorem dX2_apart_15 : decode cX2_apart 15 = .ok (.iload_n 3, 1) := by decide +kernel
theorem dX2_apart_16 : decode cX2_apart 16 = .ok (.iadd, 1) := by decide +kernel
theorem dX2_apart_17 : decode cX2_apart 17 = .ok (.aload_n 0, 1) := by decide +kernel
theorem dX2_apart_18 : decode cX2_apart 18 = .ok (.getfield 22, 3) := by decide +kernel
theorem dX2_apart_21 : decode cX2_apart 21 = .ok (.irem, 1) := by decide +kernel
theorem dX2_apart_22 : decode cX2_apart 22 = .ok (.iload_n 1, 1) := by decide +kernel
theorem dX2_apart_23 : decode cX2_apart 23 = .ok (.if_icmp .eq 9, 3) := by decide +kernel
theorem dX2_apart_26 : decode cX2_apart 26 = .ok (.iinc 3 1, 3) := by decide +kernel
theorem dX2_apart_29 : decode cX2_apart 29 = .ok (.goto (-27), 3) := by decide +kernel
theorem dX2_apart_32 : decode cX2_apart 32 = .ok (.iload_n 3, 1) := by decide +kernel
theorem dX2_apart_33 : decode cX2_apart 33 = .ok (.ireturn, 1) := by decide +kernel
theorem dX2_all_0 : decode cX2_all 0 = .ok (.aload_n 0, 1) := by decide +kernel
theorem dX2_all_1 : decode cX2_all 1 = .ok (.getfield 53, 3) := by decide +kernel
theorem dX2_all_4 : decode cX2_all 4 = .ok (.istore_n 1, 1) := by decide +kernel
theorem dX2_all_5 : decode cX2_all 5 = .ok (.aload_n 0, 1) := by decide +kernel
theorem dX2_all_6 : decode cX2_all 6 = .ok (.getfield 34, 3) := by decide +kernel
theorem dX2_all_9 : decode cX2_all 9 = .ok (.astore_n 2, 1) := by decide +kernel
theorem dX2_all_10 : decode cX2_all 10 = .ok (.aload_n 2, 1) := by decide +kernel
theorem dX2_all_11 : decode cX2_all 11 = .ok (.arraylength, 1) := by decide +kernel
theorem dX2_all_12 : decode cX2_all 12 = .ok (.istore_n 3, 1) := by decide +kernel
theorem dX2_all_13 : decode cX2_all 13 = .ok (.iconst 0, 1) := by decide +kernel
theorem dX2_all_14 : decode cX2_all 14 = .ok (.istore 4, 2) := by decide +kernel
theorem dX2_all_16 : decode cX2_all 16 = .ok (.iload 4, 2) := by decide +kernel
theorem dX2_all_18 : decode cX2_all 18 = .ok (.iload_n 3, 1) := by decide +kernel
theorem dX2_all_19 : decode cX2_all 19 = .ok (.if_icmp .ge 20, 3) := by decide +kernel
theorem dX2_all_22 : decode cX2_all 22 = .ok (.aload_n 2, 1) := by decide +kernel
theorem dX2_all_23 : decode cX2_all 23 = .ok (.iload 4, 2) := by decide +kernel
theorem dX2_all_25 : decode cX2_all 25 = .ok (.iaload, 1) := by decide +kernel
theorem dX2_all_26 : decode cX2_all 26 = .ok (.istore 5, 2) := by decide +kernel
theorem dX2_all_28 : decode cX2_all 28 = .ok (.iload_n 1, 1) := by decide +kernel
theorem dX2_all_29 : decode cX2_all 29 = .ok (.iload 5, 2) := by decide +kernel
theorem dX2_all_31 : decode cX2_all 31 = .ok (.iadd, 1) := by decide +kernel
theorem dX2_all_32 : decode cX2_all 32 = .ok (.istore_n 1, 1) := by decide +kernel
theorem dX2_all_33 : decode cX2_all 33 = .ok (.iinc 4 1, 3) := by decide +kernel
theorem dX2_all_36 : decode cX2_all 36 = .ok (.goto (-20), 3) := by decide +kernel
theorem dX2_all_39 : decode cX2_all 39 = .ok (.iload_n 1, 1) := by decide +kernel
theorem dX2_all_40 : decode cX2_all 40 = .ok (.ireturn, 1) := by decide +kernel
set_option maxRecDepth 20000 in
theorem ggX2_rated_X2_all : GoodIn wsX2_rated wsX2_all := goodIn_r _ [6, 7, 8, 9, 10, 11, 12, 13, 14, 15, 16, 17, 18, 19, 20, 21, 22, 23] (by decide +kernel) (by decide +kernel)
set_option maxRecDepth 20000 in
theorem gX2_rated_X2_all : GoodIn wsX2_rated (wsV RX2 66 RX2 yX2_all wsX2_all) := goodIn_app (goodIn_of _ (by decide +kernel)) ggX2_rated_X2_all
theorem dX2_rated_0 : decode cX2_rated 0 = .ok (.aload_n 0, 1) := by decide +kernel
theorem dX2_rated_1 : decode cX2_rated 1 = .ok (.invokevirtual 66, 3) := by decide +kernel
theorem dX2_rated_4 : decode cX2_rated 4 = .ok (.aload_n 0, 1) := by decide +kernel
theorem dX2_rated_5 : decode cX2_rated 5 = .ok (.getfield 22, 3) := by decide +kernel
theorem dX2_rated_8 : decode cX2_rated 8 = .ok (.idiv, 1) := by decide +kernel
theorem dX2_rated_9 : decode cX2_rated 9 = .ok (.istore_n 1, 1) := by decide +kernel
theorem dX2_rated_10 : decode cX2_rated 10 = .ok (.iload_n 1, 1) := by decide +kernel
theorem dX2_rated_11 : decode cX2_rated 11 = .ok (.iconst 4, 1) := by decide +kernel
theorem dX2_rated_12 : decode cX2_rated 12 = .ok (.if_icmp .ge 10, 3) := by decide +kernel
theorem dX2_rated_15 : decode cX2_rated 15 = .ok (.bipush 6, 2) := by decide +kernel
theorem dX2_rated_17 : decode cX2_rated 17 = .ok (.iload_n 1, 1) := by decide +kernel
theorem dX2_rated_18 : decode cX2_rated 18 = .ok (.iadd, 1) := by decide +kernel
theorem dX2_rated_19 : decode cX2_rated 19 = .ok (.goto 7, 3) := by decide +kernel
theorem dX2_rated_22 : decode cX2_rated 22 = .ok (.bipush 14, 2) := by decide +kernel
theorem dX2_rated_24 : decode cX2_rated 24 = .ok (.iload_n 1, 1) := by decide +kernel
theorem dX2_rated_25 : decode cX2_rated 25 = .ok (.isub, 1) := by decide +kernel
theorem dX2_rated_26 : decode cX2_rated 26 = .ok (.istore_n 2, 1) := by decide +kernel
theorem dX2_rated_27 : decode cX2_rated 27 = .ok (.iload_n 2, 1) := by decide +kernel
theorem dX2_rated_28 : decode cX2_rated 28 = .ok (.ifCond .ge 7, 3) := by decide +kernel
theorem dX2_rated_31 : decode cX2_rated 31 = .ok (.iconst 0, 1) := by decide +kernel
theorem dX2_rated_32 : decode cX2_rated 32 = .ok (.goto 4, 3) := by decide +kernel
theorem dX2_rated_35 : decode cX2_rated 35 = .ok (.iload_n 2, 1) := by decide +kernel
theorem dX2_rated_36 : decode cX2_rated 36 = .ok (.ireturn, 1) := by decide +kernel
theorem dX2_find_0 : decode cX2_find 0 = .ok (.iconst 0, 1) := by decide +kernel
theorem dX2_find_1 : decode cX2_find 1 = .ok (.istore_n 3, 1) := by decide +kernel
theorem dX2_find_2 : decode cX2_find 2 = .ok (.iload_n 3, 1) := by decide +kernel
theorem dX2_find_3 : decode cX2_find 3 = .ok (.aload_n 0, 1) := by decide +kernel
theorem dX2_find_4 : decode cX2_find 4 = .ok (.getfield 18, 3) := by decide +kernel
theorem dX2_find_7 : decode cX2_find 7 = .ok (.arraylength, 1) := by decide +kernel
theorem dX2_find_8 : decode cX2_find 8 = .ok (.if_icmp .ge 46, 3) := by decide +kernel
theorem dX2_find_11 : decode cX2_find 11 = .ok (.aload_n 0, 1) := by decide +kernel
theorem dX2_find_12 : decode cX2_find 12 = .ok (.getfield 18, 3) := by decide +kernel
theorem dX2_find_15 : decode cX2_find 15 = .ok (.iload_n 3, 1) := by decide +kernel
theorem dX2_find_16 : decode cX2_find 16 = .ok (.aaload, 1) := by decide +kernel
theorem dX2_find_17 : decode cX2_find 17 = .ok (.iconst 0, 1) := by decide +kernel
theorem dX2_find_18 : decode cX2_find 18 = .ok (.iaload, 1) := by decide +kernel
theorem dX2_find_19 : decode cX2_find 19 = .ok (.iload_n 1, 1) := by decide +kernel
theorem dX2_find_20 : decode cX2_find 20 = .ok (.if_icmp .ne 28, 3) := by decide +kernel
theorem dX2_find_23 : decode cX2_find 23 = .ok (.aload_n 0, 1) := by decide +kernel
theorem dX2_find_24 : decode cX2_find 24 = .ok (.getfield 18, 3) := by decide +kernel
theorem dX2_find_27 : decode cX2_find 27 = .ok (.iload_n 3, 1) := by decide +kernel
theorem dX2_find_28 : decode cX2_find 28 = .ok (.aaload, 1) := by decide +kernel
theorem dX2_find_29 : decode cX2_find 29 = .ok (.iconst 1, 1) := by decide +kernel
theorem dX2_find_30 : decode cX2_find 30 = .ok (.iaload, 1) := by decide +kernel
theorem dX2_find_31 : decode cX2_find 31 = .ok (.iload_n 2, 1) := by decide +kernel
theorem dX2_find_32 : decode cX2_find 32 = .ok (.if_icmp .ne 16, 3) := by decide +kernel
theorem dX2_find_35 : decode cX2_find 35 = .ok (.aload_n 0, 1) := by decide +kernel
theorem dX2_find_36 : decode cX2_find 36 = .ok (.getfield 18, 3) := by decide +kernel
theorem dX2_find_39 : decode cX2_find 39 = .ok (.iload_n 3, 1) := by decide +kernel
theorem dX2_find_40 : decode cX2_find 40 = .ok (.aaload, 1) := by decide +kernel
theorem dX2_find_41 : decode cX2_find 41 = .ok (.iconst 2, 1) := by decide +kernel
theorem dX2_find_42 : decode cX2_find 42 = .ok (.iaload, 1) := by decide +kernel
theorem dX2_find_43 : decode cX2_find 43 = .ok (.ifCond .lt 5, 3) := by decide +kernel
theorem dX2_find_46 : decode cX2_find 46 = .ok (.iload_n 3, 1) := by decide +kernel
theorem dX2_find_47 : decode cX2_find 47 = .ok (.ireturn, 1) := by decide +kernel
theorem dX2_find_48 : decode cX2_find 48 = .ok (.iinc 3 1, 3) := by decide +kernel
theorem dX2_find_51 : decode cX2_find 51 = .ok (.goto (-49), 3) := by decide +kernel
theorem dX2_find_54 : decode cX2_find 54 = .ok (.iconst (-1), 1) := by decide +kernel
theorem dX2_find_55 : decode cX2_find 55 = .ok (.ireturn, 1) := by decide +kernel
set_option maxRecDepth 20000 in
theorem ggX2_send_X2_apart : GoodIn wsX2_send wsX2_apart := goodIn_r _ [8, 9, 10, 11, 12, 13, 14, 15, 16, 17, 18, 19, 20, 21, 22, 23, 24] (by decide +kernel) (by decide +kernel)
set_option maxRecDepth 20000 in
theorem gX2_send_X2_apart : GoodIn wsX2_send (wsV RX2 70 RX2 yX2_apart wsX2_apart) := goodIn_app (goodIn_of _ (by decide +kernel)) ggX2_send_X2_apart
theorem dX2_send_0 : decode cX2_send 0 = .ok (.iconst 0, 1) := by decide +kernel
theorem dX2_send_1 : decode cX2_send 1 = .ok (.istore_n 3, 1) := by decide +kernel
theorem dX2_send_2 : decode cX2_send 2 = .ok (.aload_n 0, 1) := by decide +kernel
theorem dX2_send_3 : decode cX2_send 3 = .ok (.getfield 18, 3) := by decide +kernel
theorem dX2_send_6 : decode cX2_send 6 = .ok (.astore 4, 2) := by decide +kernel
theorem dX2_send_8 : decode cX2_send 8 = .ok (.aload 4, 2) := by decide +kernel
theorem dX2_send_10 : decode cX2_send 10 = .ok (.arraylength, 1) := by decide +kernel
theorem dX2_send_11 : decode cX2_send 11 = .ok (.istore 5, 2) := by decide +kernel
theorem dX2_send_13 : decode cX2_send 13 = .ok (.iconst 0, 1) := by decide +kernel
theorem dX2_send_14 : decode cX2_send 14 = .ok (.istore 6, 2) := by decide +kernel
theorem dX2_send_16 : decode cX2_send 16 = .ok (.iload 6, 2) := by decide +kernel
theorem dX2_send_18 : decode cX2_send 18 = .ok (.iload 5, 2) := by decide +kernel
theorem dX2_send_20 : decode cX2_send 20 = .ok (.if_icmp .ge 31, 3) := by decide +kernel
theorem dX2_send_23 : decode cX2_send 23 = .ok (.aload 4, 2) := by decide +kernel
theorem dX2_send_25 : decode cX2_send 25 = .ok (.iload 6, 2) := by decide +kernel
theorem dX2_send_27 : decode cX2_send 27 = .ok (.aaload, 1) := by decide +kernel
theorem dX2_send_28 : decode cX2_send 28 = .ok (.astore 7, 2) := by decide +kernel
theorem dX2_send_30 : decode cX2_send 30 = .ok (.iload_n 3, 1) := by decide +kernel
theorem dX2_send_31 : decode cX2_send 31 = .ok (.aload 7, 2) := by decide +kernel
theorem dX2_send_33 : decode cX2_send 33 = .ok (.iconst 2, 1) := by decide +kernel
theorem dX2_send_34 : decode cX2_send 34 = .ok (.iaload, 1) := by decide +kernel
theorem dX2_send_35 : decode cX2_send 35 = .ok (.ifCond .lt 7, 3) := by decide +kernel
theorem dX2_send_38 : decode cX2_send 38 = .ok (.iconst 1, 1) := by decide +kernel
theorem dX2_send_39 : decode cX2_send 39 = .ok (.goto 4, 3) := by decide +kernel
theorem dX2_send_42 : decode cX2_send 42 = .ok (.iconst 0, 1) := by decide +kernel
theorem dX2_send_43 : decode cX2_send 43 = .ok (.iadd, 1) := by decide +kernel
theorem dX2_send_44 : decode cX2_send 44 = .ok (.istore_n 3, 1) := by decide +kernel
theorem dX2_send_45 : decode cX2_send 45 = .ok (.iinc 6 1, 3) := by decide +kernel
theorem dX2_send_48 : decode cX2_send 48 = .ok (.goto (-32), 3) := by decide +kernel
theorem dX2_send_51 : decode cX2_send 51 = .ok (.iload_n 3, 1) := by decide +kernel
theorem dX2_send_52 : decode cX2_send 52 = .ok (.iconst 1, 1) := by decide +kernel
theorem dX2_send_53 : decode cX2_send 53 = .ok (.iadd, 1) := by decide +kernel
theorem dX2_send_54 : decode cX2_send 54 = .ok (.anewarray 16, 3) := by decide +kernel
theorem dX2_send_57 : decode cX2_send 57 = .ok (.astore 4, 2) := by decide +kernel
theorem dX2_send_59 : decode cX2_send 59 = .ok (.iconst 0, 1) := by decide +kernel
theorem dX2_send_60 : decode cX2_send 60 = .ok (.istore 5, 2) := by decide +kernel
theorem dX2_send_62 : decode cX2_send 62 = .ok (.aload_n 0, 1) := by decide +kernel
theorem dX2_send_63 : decode cX2_send 63 = .ok (.getfield 18, 3) := by decide +kernel
theorem dX2_send_66 : decode cX2_send 66 = .ok (.astore 6, 2) := by decide +kernel
theorem dX2_send_68 : decode cX2_send 68 = .ok (.aload 6, 2) := by decide +kernel
theorem dX2_send_70 : decode cX2_send 70 = .ok (.arraylength, 1) := by decide +kernel
theorem dX2_send_71 : decode cX2_send 71 = .ok (.istore 7, 2) := by decide +kernel
theorem dX2_send_73 : decode cX2_send 73 = .ok (.iconst 0, 1) := by decide +kernel
theorem dX2_send_74 : decode cX2_send 74 = .ok (.istore 8, 2) := by decide +kernel
theorem dX2_send_76 : decode cX2_send 76 = .ok (.iload 8, 2) := by decide +kernel
theorem dX2_send_78 : decode cX2_send 78 = .ok (.iload 7, 2) := by decide +kernel
theorem dX2_send_80 : decode cX2_send 80 = .ok (.if_icmp .ge 36, 3) := by decide +kernel
theorem dX2_send_83 : decode cX2_send 83 = .ok (.aload 6, 2) := by decide +kernel
theorem dX2_send_85 : decode cX2_send 85 = .ok (.iload 8, 2) := by decide +kernel
theorem dX2_send_87 : decode cX2_send 87 = .ok (.aaload, 1) := by decide +kernel
theorem dX2_send_88 : decode cX2_send 88 = .ok (.astore 9, 2) := by decide +kernel
theorem dX2_send_90 : decode cX2_send 90 = .ok (.aload 9, 2) := by decide +kernel
theorem dX2_send_92 : decode cX2_send 92 = .ok (.iconst 2, 1) := by decide +kernel
theorem dX2_send_93 : decode cX2_send 93 = .ok (.iaload, 1) := by decide +kernel
theorem dX2_send_94 : decode cX2_send 94 = .ok (.ifCond .ge 6, 3) := by decide +kernel
theorem dX2_send_97 : decode cX2_send 97 = .ok (.goto 13, 3) := by decide +kernel
theorem dX2_send_100 : decode cX2_send 100 = .ok (.aload 4, 2) := by decide +kernel
theorem dX2_send_102 : decode cX2_send 102 = .ok (.iload 5, 2) := by decide +kernel
theorem dX2_send_104 : decode cX2_send 104 = .ok (.aload 9, 2) := by decide +kernel
theorem dX2_send_106 : decode cX2_send 106 = .ok (.aastore, 1) := by decide +kernel
theorem dX2_send_107 : decode cX2_send 107 = .ok (.iinc 5 1, 3) := by decide +kernel
theorem dX2_send_110 : decode cX2_send 110 = .ok (.iinc 8 1, 3) := by decide +kernel
theorem dX2_send_113 : decode cX2_send 113 = .ok (.goto (-37), 3) := by decide +kernel
theorem dX2_send_116 : decode cX2_send 116 = .ok (.aload 4, 2) := by decide +kernel
theorem dX2_send_118 : decode cX2_send 118 = .ok (.iload_n 3, 1) := by decide +kernel
theorem dX2_send_119 : decode cX2_send 119 = .ok (.iconst 3, 1) := by decide +kernel
theorem dX2_send_120 : decode cX2_send 120 = .ok (.newarray .int, 2) := by decide +kernel
theorem dX2_send_122 : decode cX2_send 122 = .ok (.dup, 1) := by decide +kernel
theorem dX2_send_123 : decode cX2_send 123 = .ok (.iconst 0, 1) := by decide +kernel
theorem dX2_send_124 : decode cX2_send 124 = .ok (.iload_n 1, 1) := by decide +kernel
theorem dX2_send_125 : decode cX2_send 125 = .ok (.iastore, 1) := by decide +kernel
theorem dX2_send_126 : decode cX2_send 126 = .ok (.dup, 1) := by decide +kernel
theorem dX2_send_127 : decode cX2_send 127 = .ok (.iconst 1, 1) := by decide +kernel
theorem dX2_send_128 : decode cX2_send 128 = .ok (.iload_n 2, 1) := by decide +kernel
theorem dX2_send_129 : decode cX2_send 129 = .ok (.iastore, 1) := by decide +kernel
theorem dX2_send_130 : decode cX2_send 130 = .ok (.dup, 1) := by decide +kernel
theorem dX2_send_131 : decode cX2_send 131 = .ok (.iconst 2, 1) := by decide +kernel
theorem dX2_send_132 : decode cX2_send 132 = .ok (.iconst 2, 1) := by decide +kernel
theorem dX2_send_133 : decode cX2_send 133 = .ok (.aload_n 0, 1) := by decide +kernel
theorem dX2_send_134 : decode cX2_send 134 = .ok (.iload_n 1, 1) := by decide +kernel
theorem dX2_send_135 : decode cX2_send 135 = .ok (.iload_n 2, 1) := by decide +kernel
theorem dX2_send_136 : decode cX2_send 136 = .ok (.invokevirtual 70, 3) := by decide +kernel
theorem dX2_send_139 : decode cX2_send 139 = .ok (.imul, 1) := by decide +kernel
theorem dX2_send_140 : decode cX2_send 140 = .ok (.iastore, 1) := by decide +kernel
theorem dX2_send_141 : decode cX2_send 141 = .ok (.aastore, 1) := by decide +kernel
theorem dX2_send_142 : decode cX2_send 142 = .ok (.aload_n 0, 1) := by decide +kernel
theorem dX2_send_143 : decode cX2_send 143 = .ok (.aload 4, 2) := by decide +kernel
theorem dX2_send_145 : decode cX2_send 145 = .ok (.putfield 18, 3) := by decide +kernel
theorem dX2_send_148 : decode cX2_send 148 = .ok (.aload 4, 2) := by decide +kernel
theorem dX2_send_150 : decode cX2_send 150 = .ok (.iload_n 3, 1) := by decide +kernel
theorem dX2_send_151 : decode cX2_send 151 = .ok (.aaload, 1) := by decide +kernel
theorem dX2_send_152 : decode cX2_send 152 = .ok (.iconst 2, 1) := by decide +kernel
theorem dX2_send_153 : decode cX2_send 153 = .ok (.iaload, 1) := by decide +kernel
theorem dX2_send_154 : decode cX2_send 154 = .ok (.ireturn, 1) := by decide +kernel
set_option maxRecDepth 20000 in
theorem ggX2_pass_X2_find : GoodIn wsX2_pass wsX2_find := goodIn_r _ [17, 7, 18, 19, 20, 21, 22, 23, 24, 25, 26, 27, 28, 29, 30, 31, 32] (by decide +kernel) (by decide +kernel)
set_option maxRecDepth 20000 in
theorem gX2_pass_X2_find : GoodIn wsX2_pass (wsV RX2 74 RX2 yX2_find wsX2_find) := goodIn_app (goodIn_of _ (by decide +kernel)) ggX2_pass_X2_find
theorem dX2_pass_0 : decode cX2_pass 0 = .ok (.aload_n 0, 1) := by decide +kernel
theorem dX2_pass_1 : decode cX2_pass 1 = .ok (.getfield 13, 3) := by decide +kernel
theorem dX2_pass_4 : decode cX2_pass 4 = .ok (.ifCond .ge 38, 3) := by decide +kernel
theorem dX2_pass_7 : decode cX2_pass 7 = .ok (.aload_n 0, 1) := by decide +kernel
theorem dX2_pass_8 : decode cX2_pass 8 = .ok (.dup, 1) := by decide +kernel
theorem dX2_pass_9 : decode cX2_pass 9 = .ok (.getfield 50, 3) := by decide +kernel
theorem dX2_pass_12 : decode cX2_pass 12 = .ok (.iconst 1, 1) := by decide +kernel
theorem dX2_pass_13 : decode cX2_pass 13 = .ok (.iadd, 1) := by decide +kernel
theorem dX2_pass_14 : decode cX2_pass 14 = .ok (.putfield 50, 3) := by decide +kernel
theorem dX2_pass_17 : decode cX2_pass 17 = .ok (.aload_n 0, 1) := by decide +kernel
theorem dX2_pass_18 : decode cX2_pass 18 = .ok (.getfield 50, 3) := by decide +kernel
theorem dX2_pass_21 : decode cX2_pass 21 = .ok (.aload_n 0, 1) := by decide +kernel
theorem dX2_pass_22 : decode cX2_pass 22 = .ok (.getfield 7, 3) := by decide +kernel
theorem dX2_pass_25 : decode cX2_pass 25 = .ok (.irem, 1) := by decide +kernel
theorem dX2_pass_26 : decode cX2_pass 26 = .ok (.ifCond .ne 56, 3) := by decide +kernel
theorem dX2_pass_29 : decode cX2_pass 29 = .ok (.aload_n 0, 1) := by decide +kernel
theorem dX2_pass_30 : decode cX2_pass 30 = .ok (.dup, 1) := by decide +kernel
theorem dX2_pass_31 : decode cX2_pass 31 = .ok (.getfield 53, 3) := by decide +kernel
theorem dX2_pass_34 : decode cX2_pass 34 = .ok (.iconst 1, 1) := by decide +kernel
theorem dX2_pass_35 : decode cX2_pass 35 = .ok (.iadd, 1) := by decide +kernel
theorem dX2_pass_36 : decode cX2_pass 36 = .ok (.putfield 53, 3) := by decide +kernel
theorem dX2_pass_39 : decode cX2_pass 39 = .ok (.goto 43, 3) := by decide +kernel
theorem dX2_pass_42 : decode cX2_pass 42 = .ok (.aload_n 0, 1) := by decide +kernel
theorem dX2_pass_43 : decode cX2_pass 43 = .ok (.iconst 0, 1) := by decide +kernel
theorem dX2_pass_44 : decode cX2_pass 44 = .ok (.putfield 50, 3) := by decide +kernel
theorem dX2_pass_47 : decode cX2_pass 47 = .ok (.aload_n 0, 1) := by decide +kernel
theorem dX2_pass_48 : decode cX2_pass 48 = .ok (.getfield 25, 3) := by decide +kernel
theorem dX2_pass_51 : decode cX2_pass 51 = .ok (.aload_n 0, 1) := by decide +kernel
theorem dX2_pass_52 : decode cX2_pass 52 = .ok (.getfield 13, 3) := by decide +kernel
theorem dX2_pass_55 : decode cX2_pass 55 = .ok (.dup2, 1) := by decide +kernel
theorem dX2_pass_56 : decode cX2_pass 56 = .ok (.iaload, 1) := by decide +kernel
theorem dX2_pass_57 : decode cX2_pass 57 = .ok (.iconst 1, 1) := by decide +kernel
theorem dX2_pass_58 : decode cX2_pass 58 = .ok (.iadd, 1) := by decide +kernel
theorem dX2_pass_59 : decode cX2_pass 59 = .ok (.iastore, 1) := by decide +kernel
theorem dX2_pass_60 : decode cX2_pass 60 = .ok (.aload_n 0, 1) := by decide +kernel
theorem dX2_pass_61 : decode cX2_pass 61 = .ok (.dup, 1) := by decide +kernel
theorem dX2_pass_62 : decode cX2_pass 62 = .ok (.getfield 47, 3) := by decide +kernel
theorem dX2_pass_65 : decode cX2_pass 65 = .ok (.iconst 1, 1) := by decide +kernel
theorem dX2_pass_66 : decode cX2_pass 66 = .ok (.isub, 1) := by decide +kernel
theorem dX2_pass_67 : decode cX2_pass 67 = .ok (.putfield 47, 3) := by decide +kernel
theorem dX2_pass_70 : decode cX2_pass 70 = .ok (.aload_n 0, 1) := by decide +kernel
theorem dX2_pass_71 : decode cX2_pass 71 = .ok (.getfield 47, 3) := by decide +kernel
theorem dX2_pass_74 : decode cX2_pass 74 = .ok (.ifCond .ne 8, 3) := by decide +kernel
theorem dX2_pass_77 : decode cX2_pass 77 = .ok (.aload_n 0, 1) := by decide +kernel
theorem dX2_pass_78 : decode cX2_pass 78 = .ok (.iconst (-1), 1) := by decide +kernel
theorem dX2_pass_79 : decode cX2_pass 79 = .ok (.putfield 13, 3) := by decide +kernel
theorem dX2_pass_82 : decode cX2_pass 82 = .ok (.aload_n 0, 1) := by decide +kernel
theorem dX2_pass_83 : decode cX2_pass 83 = .ok (.getfield 18, 3) := by decide +kernel
theorem dX2_pass_86 : decode cX2_pass 86 = .ok (.arraylength, 1) := by decide +kernel
theorem dX2_pass_87 : decode cX2_pass 87 = .ok (.ifCond .ne 7, 3) := by decide +kernel
theorem dX2_pass_90 : decode cX2_pass 90 = .ok (.aconst_null, 1) := by decide +kernel
theorem dX2_pass_91 : decode cX2_pass 91 = .ok (.goto 15, 3) := by decide +kernel
theorem dX2_pass_94 : decode cX2_pass 94 = .ok (.aload_n 0, 1) := by decide +kernel
theorem dX2_pass_95 : decode cX2_pass 95 = .ok (.getfield 18, 3) := by decide +kernel
theorem dX2_pass_98 : decode cX2_pass 98 = .ok (.aload_n 0, 1) := by decide +kernel
theorem dX2_pass_99 : decode cX2_pass 99 = .ok (.getfield 18, 3) := by decide +kernel
theorem dX2_pass_102 : decode cX2_pass 102 = .ok (.arraylength, 1) := by decide +kernel
theorem dX2_pass_103 : decode cX2_pass 103 = .ok (.iconst 1, 1) := by decide +kernel
theorem dX2_pass_104 : decode cX2_pass 104 = .ok (.isub, 1) := by decide +kernel
theorem dX2_pass_105 : decode cX2_pass 105 = .ok (.aaload, 1) := by decide +kernel
theorem dX2_pass_106 : decode cX2_pass 106 = .ok (.astore_n 1, 1) := by decide +kernel
theorem dX2_pass_107 : decode cX2_pass 107 = .ok (.iconst (-1), 1) := by decide +kernel
theorem dX2_pass_108 : decode cX2_pass 108 = .ok (.istore_n 2, 1) := by decide +kernel
theorem dX2_pass_109 : decode cX2_pass 109 = .ok (.aload_n 0, 1) := by decide +kernel
theorem dX2_pass_110 : decode cX2_pass 110 = .ok (.getfield 18, 3) := by decide +kernel
theorem dX2_pass_113 : decode cX2_pass 113 = .ok (.astore_n 3, 1) := by decide +kernel
theorem dX2_pass_114 : decode cX2_pass 114 = .ok (.aload_n 3, 1) := by decide +kernel
theorem dX2_pass_115 : decode cX2_pass 115 = .ok (.arraylength, 1) := by decide +kernel
theorem dX2_pass_116 : decode cX2_pass 116 = .ok (.istore 4, 2) := by decide +kernel
theorem dX2_pass_118 : decode cX2_pass 118 = .ok (.iconst 0, 1) := by decide +kernel
theorem dX2_pass_119 : decode cX2_pass 119 = .ok (.istore 5, 2) := by decide +kernel
theorem dX2_pass_121 : decode cX2_pass 121 = .ok (.iload 5, 2) := by decide +kernel
theorem dX2_pass_123 : decode cX2_pass 123 = .ok (.iload 4, 2) := by decide +kernel
theorem dX2_pass_125 : decode cX2_pass 125 = .ok (.if_icmp .ge 30, 3) := by decide +kernel
theorem dX2_pass_128 : decode cX2_pass 128 = .ok (.aload_n 3, 1) := by decide +kernel
theorem dX2_pass_129 : decode cX2_pass 129 = .ok (.iload 5, 2) := by decide +kernel
theorem dX2_pass_131 : decode cX2_pass 131 = .ok (.aaload, 1) := by decide +kernel
theorem dX2_pass_132 : decode cX2_pass 132 = .ok (.astore 6, 2) := by decide +kernel
theorem dX2_pass_134 : decode cX2_pass 134 = .ok (.aload 6, 2) := by decide +kernel
theorem dX2_pass_136 : decode cX2_pass 136 = .ok (.iconst 2, 1) := by decide +kernel
theorem dX2_pass_137 : decode cX2_pass 137 = .ok (.iaload, 1) := by decide +kernel
theorem dX2_pass_138 : decode cX2_pass 138 = .ok (.ifCond .le 11, 3) := by decide +kernel
theorem dX2_pass_141 : decode cX2_pass 141 = .ok (.aload 6, 2) := by decide +kernel
theorem dX2_pass_143 : decode cX2_pass 143 = .ok (.iconst 2, 1) := by decide +kernel
theorem dX2_pass_144 : decode cX2_pass 144 = .ok (.dup2, 1) := by decide +kernel
theorem dX2_pass_145 : decode cX2_pass 145 = .ok (.iaload, 1) := by decide +kernel
theorem dX2_pass_146 : decode cX2_pass 146 = .ok (.iconst 1, 1) := by decide +kernel
theorem dX2_pass_147 : decode cX2_pass 147 = .ok (.isub, 1) := by decide +kernel
theorem dX2_pass_148 : decode cX2_pass 148 = .ok (.iastore, 1) := by decide +kernel
theorem dX2_pass_149 : decode cX2_pass 149 = .ok (.iinc 5 1, 3) := by decide +kernel
theorem dX2_pass_152 : decode cX2_pass 152 = .ok (.goto (-31), 3) := by decide +kernel
theorem dX2_pass_155 : decode cX2_pass 155 = .ok (.aload_n 0, 1) := by decide +kernel
theorem dX2_pass_156 : decode cX2_pass 156 = .ok (.getfield 18, 3) := by decide +kernel
theorem dX2_pass_159 : decode cX2_pass 159 = .ok (.astore_n 3, 1) := by decide +kernel
theorem dX2_pass_160 : decode cX2_pass 160 = .ok (.aload_n 3, 1) := by decide +kernel
theorem dX2_pass_161 : decode cX2_pass 161 = .ok (.arraylength, 1) := by decide +kernel
theorem dX2_pass_162 : decode cX2_pass 162 = .ok (.istore 4, 2) := by decide +kernel
theorem dX2_pass_164 : decode cX2_pass 164 = .ok (.iconst 0, 1) := by decide +kernel
theorem dX2_pass_165 : decode cX2_pass 165 = .ok (.istore 5, 2) := by decide +kernel
theorem dX2_pass_167 : decode cX2_pass 167 = .ok (.iload 5, 2) := by decide +kernel
theorem dX2_pass_169 : decode cX2_pass 169 = .ok (.iload 4, 2) := by decide +kernel
theorem dX2_pass_171 : decode cX2_pass 171 = .ok (.if_icmp .ge 187, 3) := by decide +kernel
theorem dX2_pass_174 : decode cX2_pass 174 = .ok (.aload_n 3, 1) := by decide +kernel
theorem dX2_pass_175 : decode cX2_pass 175 = .ok (.iload 5, 2) := by decide +kernel
theorem dX2_pass_177 : decode cX2_pass 177 = .ok (.aaload, 1) := by decide +kernel
theorem dX2_pass_178 : decode cX2_pass 178 = .ok (.astore 6, 2) := by decide +kernel
theorem dX2_pass_180 : decode cX2_pass 180 = .ok (.aload 6, 2) := by decide +kernel
theorem dX2_pass_182 : decode cX2_pass 182 = .ok (.iconst 2, 1) := by decide +kernel
theorem dX2_pass_183 : decode cX2_pass 183 = .ok (.iaload, 1) := by decide +kernel
theorem dX2_pass_184 : decode cX2_pass 184 = .ok (.ifCond .eq 6, 3) := by decide +kernel
theorem dX2_pass_187 : decode cX2_pass 187 = .ok (.goto 165, 3) := by decide +kernel
theorem dX2_pass_190 : decode cX2_pass 190 = .ok (.aload_n 0, 1) := by decide +kernel
theorem dX2_pass_191 : decode cX2_pass 191 = .ok (.aload 6, 2) := by decide +kernel
theorem dX2_pass_193 : decode cX2_pass 193 = .ok (.iconst 1, 1) := by decide +kernel
theorem dX2_pass_194 : decode cX2_pass 194 = .ok (.iaload, 1) := by decide +kernel
theorem dX2_pass_195 : decode cX2_pass 195 = .ok (.aload 6, 2) := by decide +kernel
theorem dX2_pass_197 : decode cX2_pass 197 = .ok (.iconst 0, 1) := by decide +kernel
theorem dX2_pass_198 : decode cX2_pass 198 = .ok (.iaload, 1) := by decide +kernel
theorem dX2_pass_199 : decode cX2_pass 199 = .ok (.invokevirtual 74, 3) := by decide +kernel
theorem dX2_pass_202 : decode cX2_pass 202 = .ok (.istore 7, 2) := by decide +kernel
theorem dX2_pass_204 : decode cX2_pass 204 = .ok (.aload 6, 2) := by decide +kernel
theorem dX2_pass_206 : decode cX2_pass 206 = .ok (.iconst 2, 1) := by decide +kernel
theorem dX2_pass_207 : decode cX2_pass 207 = .ok (.iconst (-1), 1) := by decide +kernel
theorem dX2_pass_208 : decode cX2_pass 208 = .ok (.iastore, 1) := by decide +kernel
theorem dX2_pass_209 : decode cX2_pass 209 = .ok (.iload 7, 2) := by decide +kernel
theorem dX2_pass_211 : decode cX2_pass 211 = .ok (.ifCond .lt 70, 3) := by decide +kernel
theorem dX2_pass_214 : decode cX2_pass 214 = .ok (.aload_n 0, 1) := by decide +kernel
theorem dX2_pass_215 : decode cX2_pass 215 = .ok (.getfield 18, 3) := by decide +kernel
theorem dX2_pass_218 : decode cX2_pass 218 = .ok (.iload 7, 2) := by decide +kernel
theorem dX2_pass_220 : decode cX2_pass 220 = .ok (.aaload, 1) := by decide +kernel
theorem dX2_pass_221 : decode cX2_pass 221 = .ok (.astore 8, 2) := by decide +kernel
theorem dX2_pass_223 : decode cX2_pass 223 = .ok (.aload 8, 2) := by decide +kernel
theorem dX2_pass_225 : decode cX2_pass 225 = .ok (.iconst 2, 1) := by decide +kernel
theorem dX2_pass_226 : decode cX2_pass 226 = .ok (.iconst (-1), 1) := by decide +kernel
theorem dX2_pass_227 : decode cX2_pass 227 = .ok (.iastore, 1) := by decide +kernel
theorem dX2_pass_228 : decode cX2_pass 228 = .ok (.aload_n 0, 1) := by decide +kernel
theorem dX2_pass_229 : decode cX2_pass 229 = .ok (.getfield 34, 3) := by decide +kernel
theorem dX2_pass_232 : decode cX2_pass 232 = .ok (.aload 6, 2) := by decide +kernel
theorem dX2_pass_234 : decode cX2_pass 234 = .ok (.iconst 0, 1) := by decide +kernel
theorem dX2_pass_235 : decode cX2_pass 235 = .ok (.iaload, 1) := by decide +kernel
theorem dX2_pass_236 : decode cX2_pass 236 = .ok (.dup2, 1) := by decide +kernel
theorem dX2_pass_237 : decode cX2_pass 237 = .ok (.iaload, 1) := by decide +kernel
theorem dX2_pass_238 : decode cX2_pass 238 = .ok (.iconst 3, 1) := by decide +kernel
theorem dX2_pass_239 : decode cX2_pass 239 = .ok (.iadd, 1) := by decide +kernel
theorem dX2_pass_240 : decode cX2_pass 240 = .ok (.iastore, 1) := by decide +kernel
theorem dX2_pass_241 : decode cX2_pass 241 = .ok (.aload_n 0, 1) := by decide +kernel
theorem dX2_pass_242 : decode cX2_pass 242 = .ok (.getfield 34, 3) := by decide +kernel
theorem dX2_pass_245 : decode cX2_pass 245 = .ok (.aload 6, 2) := by decide +kernel
theorem dX2_pass_247 : decode cX2_pass 247 = .ok (.iconst 1, 1) := by decide +kernel
theorem dX2_pass_248 : decode cX2_pass 248 = .ok (.iaload, 1) := by decide +kernel
theorem dX2_pass_249 : decode cX2_pass 249 = .ok (.dup2, 1) := by decide +kernel
theorem dX2_pass_250 : decode cX2_pass 250 = .ok (.iaload, 1) := by decide +kernel
theorem dX2_pass_251 : decode cX2_pass 251 = .ok (.iconst 3, 1) := by decide +kernel
theorem dX2_pass_252 : decode cX2_pass 252 = .ok (.iadd, 1) := by decide +kernel
theorem dX2_pass_253 : decode cX2_pass 253 = .ok (.iastore, 1) := by decide +kernel
theorem dX2_pass_254 : decode cX2_pass 254 = .ok (.aload_n 0, 1) := by decide +kernel
theorem dX2_pass_255 : decode cX2_pass 255 = .ok (.dup, 1) := by decide +kernel
theorem dX2_pass_256 : decode cX2_pass 256 = .ok (.getfield 56, 3) := by decide +kernel
theorem dX2_pass_259 : decode cX2_pass 259 = .ok (.iconst 1, 1) := by decide +kernel
theorem dX2_pass_260 : decode cX2_pass 260 = .ok (.iadd, 1) := by decide +kernel
theorem dX2_pass_261 : decode cX2_pass 261 = .ok (.putfield 56, 3) := by decide +kernel
theorem dX2_pass_264 : decode cX2_pass 264 = .ok (.aload 6, 2) := by decide +kernel
theorem dX2_pass_266 : decode cX2_pass 266 = .ok (.aload_n 1, 1) := by decide +kernel
theorem dX2_pass_267 : decode cX2_pass 267 = .ok (.if_acmp .eq 9, 3) := by decide +kernel
theorem dX2_pass_270 : decode cX2_pass 270 = .ok (.aload 8, 2) := by decide +kernel
theorem dX2_pass_272 : decode cX2_pass 272 = .ok (.aload_n 1, 1) := by decide +kernel
theorem dX2_pass_273 : decode cX2_pass 273 = .ok (.if_acmp .ne 5, 3) := by decide +kernel
theorem dX2_pass_276 : decode cX2_pass 276 = .ok (.iconst 3, 1) := by decide +kernel
theorem dX2_pass_277 : decode cX2_pass 277 = .ok (.istore_n 2, 1) := by decide +kernel
theorem dX2_pass_278 : decode cX2_pass 278 = .ok (.goto 74, 3) := by decide +kernel
theorem dX2_pass_281 : decode cX2_pass 281 = .ok (.aload_n 0, 1) := by decide +kernel
theorem dX2_pass_282 : decode cX2_pass 282 = .ok (.getfield 13, 3) := by decide +kernel
theorem dX2_pass_285 : decode cX2_pass 285 = .ok (.aload 6, 2) := by decide +kernel
theorem dX2_pass_287 : decode cX2_pass 287 = .ok (.iconst 1, 1) := by decide +kernel
theorem dX2_pass_288 : decode cX2_pass 288 = .ok (.iaload, 1) := by decide +kernel
theorem dX2_pass_289 : decode cX2_pass 289 = .ok (.if_icmp .ne 24, 3) := by decide +kernel
theorem dX2_pass_292 : decode cX2_pass 292 = .ok (.aload_n 0, 1) := by decide +kernel
theorem dX2_pass_293 : decode cX2_pass 293 = .ok (.dup, 1) := by decide +kernel
theorem dX2_pass_294 : decode cX2_pass 294 = .ok (.getfield 59, 3) := by decide +kernel
theorem dX2_pass_297 : decode cX2_pass 297 = .ok (.iconst 1, 1) := by decide +kernel
theorem dX2_pass_298 : decode cX2_pass 298 = .ok (.iadd, 1) := by decide +kernel
theorem dX2_pass_299 : decode cX2_pass 299 = .ok (.putfield 59, 3) := by decide +kernel
theorem dX2_pass_302 : decode cX2_pass 302 = .ok (.aload 6, 2) := by decide +kernel
theorem dX2_pass_304 : decode cX2_pass 304 = .ok (.aload_n 1, 1) := by decide +kernel
theorem dX2_pass_305 : decode cX2_pass 305 = .ok (.if_acmp .ne 47, 3) := by decide +kernel
theorem dX2_pass_308 : decode cX2_pass 308 = .ok (.iconst 0, 1) := by decide +kernel
theorem dX2_pass_309 : decode cX2_pass 309 = .ok (.istore_n 2, 1) := by decide +kernel
theorem dX2_pass_310 : decode cX2_pass 310 = .ok (.goto 42, 3) := by decide +kernel
theorem dX2_pass_313 : decode cX2_pass 313 = .ok (.aload_n 0, 1) := by decide +kernel
theorem dX2_pass_314 : decode cX2_pass 314 = .ok (.getfield 38, 3) := by decide +kernel
theorem dX2_pass_317 : decode cX2_pass 317 = .ok (.aload 6, 2) := by decide +kernel
theorem dX2_pass_319 : decode cX2_pass 319 = .ok (.iconst 0, 1) := by decide +kernel
theorem dX2_pass_320 : decode cX2_pass 320 = .ok (.iaload, 1) := by decide +kernel
theorem dX2_pass_321 : decode cX2_pass 321 = .ok (.aaload, 1) := by decide +kernel
theorem dX2_pass_322 : decode cX2_pass 322 = .ok (.aload 6, 2) := by decide +kernel
theorem dX2_pass_324 : decode cX2_pass 324 = .ok (.iconst 1, 1) := by decide +kernel
theorem dX2_pass_325 : decode cX2_pass 325 = .ok (.iaload, 1) := by decide +kernel
theorem dX2_pass_326 : decode cX2_pass 326 = .ok (.dup2, 1) := by decide +kernel
theorem dX2_pass_327 : decode cX2_pass 327 = .ok (.iaload, 1) := by decide +kernel
theorem dX2_pass_328 : decode cX2_pass 328 = .ok (.iconst 1, 1) := by decide +kernel
theorem dX2_pass_329 : decode cX2_pass 329 = .ok (.iadd, 1) := by decide +kernel
theorem dX2_pass_330 : decode cX2_pass 330 = .ok (.iastore, 1) := by decide +kernel
theorem dX2_pass_331 : decode cX2_pass 331 = .ok (.aload_n 0, 1) := by decide +kernel
theorem dX2_pass_332 : decode cX2_pass 332 = .ok (.getfield 34, 3) := by decide +kernel
theorem dX2_pass_335 : decode cX2_pass 335 = .ok (.aload 6, 2) := by decide +kernel
theorem dX2_pass_337 : decode cX2_pass 337 = .ok (.iconst 0, 1) := by decide +kernel
theorem dX2_pass_338 : decode cX2_pass 338 = .ok (.iaload, 1) := by decide +kernel
theorem dX2_pass_339 : decode cX2_pass 339 = .ok (.dup2, 1) := by decide +kernel
theorem dX2_pass_340 : decode cX2_pass 340 = .ok (.iaload, 1) := by decide +kernel
theorem dX2_pass_341 : decode cX2_pass 341 = .ok (.iconst 1, 1) := by decide +kernel
theorem dX2_pass_342 : decode cX2_pass 342 = .ok (.iadd, 1) := by decide +kernel
theorem dX2_pass_343 : decode cX2_pass 343 = .ok (.iastore, 1) := by decide +kernel
theorem dX2_pass_344 : decode cX2_pass 344 = .ok (.aload 6, 2) := by decide +kernel
theorem dX2_pass_346 : decode cX2_pass 346 = .ok (.aload_n 1, 1) := by decide +kernel
theorem dX2_pass_347 : decode cX2_pass 347 = .ok (.if_acmp .ne 5, 3) := by decide +kernel
theorem dX2_pass_350 : decode cX2_pass 350 = .ok (.iconst 1, 1) := by decide +kernel
theorem dX2_pass_351 : decode cX2_pass 351 = .ok (.istore_n 2, 1) := by decide +kernel
theorem dX2_pass_352 : decode cX2_pass 352 = .ok (.iinc 5 1, 3) := by decide +kernel
theorem dX2_pass_355 : decode cX2_pass 355 = .ok (.goto (-188), 3) := by decide +kernel
theorem dX2_pass_358 : decode cX2_pass 358 = .ok (.aload_n 0, 1) := by decide +kernel
theorem dX2_pass_359 : decode cX2_pass 359 = .ok (.dup, 1) := by decide +kernel
theorem dX2_pass_360 : decode cX2_pass 360 = .ok (.getfield 44, 3) := by decide +kernel
theorem dX2_pass_363 : decode cX2_pass 363 = .ok (.iconst 1, 1) := by decide +kernel
theorem dX2_pass_364 : decode cX2_pass 364 = .ok (.iadd, 1) := by decide +kernel
theorem dX2_pass_365 : decode cX2_pass 365 = .ok (.putfield 44, 3) := by decide +kernel
theorem dX2_pass_368 : decode cX2_pass 368 = .ok (.iload_n 2, 1) := by decide +kernel
theorem dX2_pass_369 : decode cX2_pass 369 = .ok (.ireturn, 1) := by decide +kernel
set_option maxRecDepth 20000 in
theorem ggX2_behind_X2_pass : GoodIn wsX2_behind wsX2_pass := goodIn_r _ [5, 6, 7, 8, 9, 10, 11, 12, 13, 14, 15, 16, 17, 18, 19, 20, 4, 21, 22, 23, 24, 25, 26, 27, 28, 29, 30, 31, 32, 33, 34, 35, 36] (by decide +kernel) (by decide +kernel)
set_option maxRecDepth 20000 in
theorem gX2_behind_X2_pass : GoodIn wsX2_behind (wsV RX2 77 RX2 yX2_pass wsX2_pass) := goodIn_app (goodIn_of _ (by decide +kernel)) ggX2_behind_X2_pass
theorem dX2_behind_0 : decode cX2_behind 0 = .ok (.iconst 0, 1) := by decide +kernel
theorem dX2_behind_1 : decode cX2_behind 1 = .ok (.istore_n 2, 1) := by decide +kernel
theorem dX2_behind_2 : decode cX2_behind 2 = .ok (.iload_n 2, 1) := by decide +kernel
theorem dX2_behind_3 : decode cX2_behind 3 = .ok (.iload_n 1, 1) := by decide +kernel
theorem dX2_behind_4 : decode cX2_behind 4 = .ok (.if_icmp .ge 14, 3) := by decide +kernel
theorem dX2_behind_7 : decode cX2_behind 7 = .ok (.aload_n 0, 1) := by decide +kernel
theorem dX2_behind_8 : decode cX2_behind 8 = .ok (.invokevirtual 77, 3) := by decide +kernel
theorem dX2_behind_11 : decode cX2_behind 11 = .ok (.pop, 1) := by decide +kernel
theorem dX2_behind_12 : decode cX2_behind 12 = .ok (.iinc 2 1, 3) := by decide +kernel
theorem dX2_behind_15 : decode cX2_behind 15 = .ok (.goto (-13), 3) := by decide +kernel
theorem dX2_behind_18 : decode cX2_behind 18 = .ok (.aload_n 0, 1) := by decide +kernel
theorem dX2_behind_19 : decode cX2_behind 19 = .ok (.areturn, 1) := by decide +kernel
set_option maxRecDepth 20000 in
theorem ggX2_isSame_X1_guests : GoodIn wsX2_isSame wsX1_guests := goodIn_r _ [20, 21, 22, 189, 190, 191, 192, 193, 194, 195, 196, 197, 198, 199, 200, 201, 202, 203, 204, 205, 206, 207] (by decide +kernel) (by decide +kernel)
set_option maxRecDepth 20000 in
theorem gX2_isSame_X1_guests : GoodIn wsX2_isSame (wsV RX2 83 RX1 yX1_guests wsX1_guests) := goodIn_app (goodIn_of _ (by decide +kernel)) ggX2_isSame_X1_guests
set_option maxRecDepth 20000 in
theorem ggX2_isSame_X1_seconds : GoodIn wsX2_isSame wsX1_seconds := goodIn_r _ [26, 21, 27, 189, 190, 191, 192, 193, 194, 195, 196, 197, 198, 199, 200, 201, 202, 203, 204, 205, 206, 207] (by decide +kernel) (by decide +kernel)
set_option maxRecDepth 20000 in
theorem gX2_isSame_X1_seconds : GoodIn wsX2_isSame (wsV RX2 87 RX1 yX1_seconds wsX1_seconds) := goodIn_app (goodIn_of _ (by decide +kernel)) ggX2_isSame_X1_seconds
set_option maxRecDepth 20000 in
theorem ggX2_isSame_X1_limit : GoodIn wsX2_isSame wsX1_limit := goodIn_r _ [31, 21, 32, 189, 190, 191, 192, 193, 194, 195, 196, 197, 198, 199, 200, 201, 202, 203, 204, 205, 206, 207] (by decide +kernel) (by decide +kernel)
set_option maxRecDepth 20000 in
theorem gX2_isSame_X1_limit : GoodIn wsX2_isSame (wsV RX2 90 RX1 yX1_limit wsX1_limit) := goodIn_app (goodIn_of _ (by decide +kernel)) ggX2_isSame_X1_limit
set_option maxRecDepth 20000 in
theorem ggX2_isSame_X1_speaker : GoodIn wsX2_isSame wsX1_speaker := goodIn_r _ [36, 21, 37, 189, 190, 191, 192, 193, 194, 195, 196, 197, 198, 199, 200, 201, 202, 203, 204, 205, 206, 207] (by decide +kernel) (by decide +kernel)
set_option maxRecDepth 20000 in
theorem gX2_isSame_X1_speaker : GoodIn wsX2_isSame (wsV RX2 92 RX1 yX1_speaker wsX1_speaker) := goodIn_app (goodIn_of _ (by decide +kernel)) ggX2_isSame_X1_speaker
set_option maxRecDepth 20000 in
theorem ggX2_isSame_X1_secondsToSpeak : GoodIn wsX2_isSame wsX1_secondsToSpeak := goodIn_r _ [41, 21, 42, 189, 190, 191, 192, 193, 194, 195, 196, 197, 198, 199, 200, 201, 202, 203, 204, 205, 206, 207] (by decide +kernel) (by decide +kernel)
set_option maxRecDepth 20000 in
theorem gX2_isSame_X1_secondsToSpeak : GoodIn wsX2_isSame (wsV RX2 94 RX1 yX1_secondsToSpeak wsX1_secondsToSpeak) := goodIn_app (goodIn_of _ (by decide +kernel)) ggX2_isSame_X1_secondsToSpeak
set_option maxRecDepth 20000 in
theorem ggX2_isSame_X1_pause : GoodIn wsX2_isSame wsX1_pause := goodIn_r _ [46, 21, 47, 189, 190, 191, 192, 193, 194, 195, 196, 197, 198, 199, 200, 201, 202, 203, 204, 205, 206, 207] (by decide +kernel) (by decide +kernel)
set_option maxRecDepth 20000 in
theorem gX2_isSame_X1_pause : GoodIn wsX2_isSame (wsV RX2 97 RX1 yX1_pause wsX1_pause) := goodIn_app (goodIn_of _ (by decide +kernel)) ggX2_isSame_X1_pause
set_option maxRecDepth 20000 in
theorem ggX2_isSame_X1_unsaidInPauses : GoodIn wsX2_isSame wsX1_unsaidInPauses := goodIn_r _ [51, 21, 52, 189, 190, 191, 192, 193, 194, 195, 196, 197, 198, 199, 200, 201, 202, 203, 204, 205, 206, 207] (by decide +kernel) (by decide +kernel)
set_option maxRecDepth 20000 in
theorem gX2_isSame_X1_unsaidInPauses : GoodIn wsX2_isSame (wsV RX2 99 RX1 yX1_unsaidInPauses wsX1_unsaidInPauses) := goodIn_app (goodIn_of _ (by decide +kernel)) ggX2_isSame_X1_unsaidInPauses
set_option maxRecDepth 20000 in
theorem ggX2_isSame_X1_allUnsaid : GoodIn wsX2_isSame wsX1_allUnsaid := goodIn_r _ [56, 21, 57, 58, 59, 60, 61, 62, 63, 64, 65, 66, 67, 68, 189, 190, 191, 192, 193, 194, 195, 196, 197, 198, 199, 200, 201, 202, 203, 204, 205, 206, 207] (by decide +kernel) (by decide +kernel)
set_option maxRecDepth 20000 in
theorem gX2_isSame_X1_allUnsaid : GoodIn wsX2_isSame (wsV RX2 102 RX1 yX1_allUnsaid wsX1_allUnsaid) := goodIn_app (goodIn_of _ (by decide +kernel)) ggX2_isSame_X1_allUnsaid
set_option maxRecDepth 20000 in
theorem ggX2_isSame_X2_all : GoodIn wsX2_isSame wsX2_all := goodIn_r _ [73, 8, 14, 174, 175, 176, 177, 178, 179, 180, 181, 182, 183, 184, 185, 186, 187, 188] (by decide +kernel) (by decide +kernel)
set_option maxRecDepth 20000 in
theorem gX2_isSame_X2_all : GoodIn wsX2_isSame (wsV RX2 66 RX2 yX2_all wsX2_all) := goodIn_app (goodIn_of _ (by decide +kernel)) ggX2_isSame_X2_all
set_option maxRecDepth 20000 in
theorem ggX2_isSame_X1_glancesUnderWay : GoodIn wsX2_isSame wsX1_glancesUnderWay := goodIn_r _ [77, 21, 78, 189, 190, 191, 192, 193, 194, 195, 196, 197, 198, 199, 200, 201, 202, 203, 204, 205, 206, 207] (by decide +kernel) (by decide +kernel)
set_option maxRecDepth 20000 in
theorem gX2_isSame_X1_glancesUnderWay : GoodIn wsX2_isSame (wsV RX2 105 RX1 yX1_glancesUnderWay wsX1_glancesUnderWay) := goodIn_app (goodIn_of _ (by decide +kernel)) ggX2_isSame_X1_glancesUnderWay
set_option maxRecDepth 20000 in
theorem ggX2_isSame_X1_meetings : GoodIn wsX2_isSame wsX1_meetings := goodIn_r _ [82, 21, 83, 189, 190, 191, 192, 193, 194, 195, 196, 197, 198, 199, 200, 201, 202, 203, 204, 205, 206, 207] (by decide +kernel) (by decide +kernel)
set_option maxRecDepth 20000 in
theorem gX2_isSame_X1_meetings : GoodIn wsX2_isSame (wsV RX2 108 RX1 yX1_meetings wsX1_meetings) := goodIn_app (goodIn_of _ (by decide +kernel)) ggX2_isSame_X1_meetings
set_option maxRecDepth 20000 in
theorem ggX2_isSame_X1_lostGlances : GoodIn wsX2_isSame wsX1_lostGlances := goodIn_r _ [87, 21, 88, 189, 190, 191, 192, 193, 194, 195, 196, 197, 198, 199, 200, 201, 202, 203, 204, 205, 206, 207] (by decide +kernel) (by decide +kernel)
set_option maxRecDepth 20000 in
theorem gX2_isSame_X1_lostGlances : GoodIn wsX2_isSame (wsV RX2 111 RX1 yX1_lostGlances wsX1_lostGlances) := goodIn_app (goodIn_of _ (by decide +kernel)) ggX2_isSame_X1_lostGlances
set_option maxRecDepth 20000 in
theorem ggX2_isSame_X1_rating : GoodIn wsX2_isSame wsX1_rating := goodIn_r _ [92, 21, 93, 94, 95, 60, 96, 67, 97, 98, 99, 100, 101, 102, 103, 104, 58, 59, 61, 62, 63, 64, 65, 66, 68, 189, 190, 191, 192, 193, 194, 195, 196, 197, 198, 199, 200, 201, 202, 203, 204, 205, 206, 207] (by decide +kernel) (by decide +kernel)
set_option maxRecDepth 20000 in
theorem gX2_isSame_X1_rating : GoodIn wsX2_isSame (wsV RX2 114 RX1 yX1_rating wsX1_rating) := goodIn_app (goodIn_of _ (by decide +kernel)) ggX2_isSame_X1_rating
set_option maxRecDepth 20000 in
theorem ggX2_isSame_X2_rated : GoodIn wsX2_isSame wsX2_rated := goodIn_r _ [108, 2, 69, 70, 71, 72, 73, 8, 14, 174, 175, 176, 177, 178, 179, 180, 181, 182, 183, 184, 185, 186, 187, 188] (by decide +kernel) (by decide +kernel)
set_option maxRecDepth 20000 in
theorem gX2_isSame_X2_rated : GoodIn wsX2_isSame (wsV RX2 117 RX2 yX2_rated wsX2_rated) := goodIn_app (goodIn_of _ (by decide +kernel)) ggX2_isSame_X2_rated
set_option maxRecDepth 20000 in
theorem ggX2_isSame_X1_spokenBy : GoodIn wsX2_isSame wsX1_spokenBy := goodIn_ca (goodIn_r _ [112, 21, 113, 114, 115, 116, 19, 117, 118, 119, 22, 189, 190, 191, 192, 193, 194, 195, 196, 197, 198, 199, 200, 201, 202, 203, 204, 205, 206, 207] (by decide +kernel) (by decide +kernel)) (goodIn_sub (fun _ h => List.mem_cons_of_mem _ (List.mem_append_right _ h)) (by decide +kernel))
set_option maxRecDepth 20000 in
theorem gX2_isSame_X1_spokenBy : GoodIn wsX2_isSame (wsV RX2 120 RX1 yX1_spokenBy wsX1_spokenBy) := goodIn_app (goodIn_of _ (by decide +kernel)) ggX2_isSame_X1_spokenBy
set_option maxRecDepth 20000 in
theorem ggX2_isSame_X1_interruptionsBy : GoodIn wsX2_isSame wsX1_interruptionsBy := goodIn_ca (goodIn_r _ [123, 21, 124, 114, 115, 116, 19, 117, 118, 119, 22, 189, 190, 191, 192, 193, 194, 195, 196, 197, 198, 199, 200, 201, 202, 203, 204, 205, 206, 207] (by decide +kernel) (by decide +kernel)) (goodIn_sub (fun _ h => List.mem_cons_of_mem _ (List.mem_append_right _ h)) (by decide +kernel))
set_option maxRecDepth 20000 in
theorem gX2_isSame_X1_interruptionsBy : GoodIn wsX2_isSame (wsV RX2 124 RX1 yX1_interruptionsBy wsX1_interruptionsBy) := goodIn_app (goodIn_of _ (by decide +kernel)) ggX2_isSame_X1_interruptionsBy
set_option maxRecDepth 20000 in
theorem ggX2_isSame_X1_coughsOf : GoodIn wsX2_isSame wsX1_coughsOf := goodIn_ca (goodIn_r _ [128, 21, 129, 114, 115, 116, 19, 117, 118, 119, 22, 189, 190, 191, 192, 193, 194, 195, 196, 197, 198, 199, 200, 201, 202, 203, 204, 205, 206, 207] (by decide +kernel) (by decide +kernel)) (goodIn_sub (fun _ h => List.mem_cons_of_mem _ (List.mem_append_right _ h)) (by decide +kernel))
set_option maxRecDepth 20000 in
theorem gX2_isSame_X1_coughsOf : GoodIn wsX2_isSame (wsV RX2 127 RX1 yX1_coughsOf wsX1_coughsOf) := goodIn_app (goodIn_of _ (by decide +kernel)) ggX2_isSame_X1_coughsOf
set_option maxRecDepth 20000 in
theorem ggX2_isSame_X1_unsaidBy : GoodIn wsX2_isSame wsX1_unsaidBy := goodIn_ca (goodIn_r _ [133, 21, 134, 114, 115, 116, 19, 117, 118, 119, 22, 189, 190, 191, 192, 193, 194, 195, 196, 197, 198, 199, 200, 201, 202, 203, 204, 205, 206, 207] (by decide +kernel) (by decide +kernel)) (goodIn_sub (fun _ h => List.mem_cons_of_mem _ (List.mem_append_right _ h)) (by decide +kernel))
set_option maxRecDepth 20000 in
theorem gX2_isSame_X1_unsaidBy : GoodIn wsX2_isSame (wsV RX2 130 RX1 yX1_unsaidBy wsX1_unsaidBy) := goodIn_app (goodIn_of _ (by decide +kernel)) ggX2_isSame_X1_unsaidBy
set_option maxRecDepth 20000 in
theorem ggX2_isSame_X2_find : GoodIn wsX2_isSame wsX2_find := goodIn_r _ [138, 1, 174, 175, 176, 177, 178, 179, 180, 181, 182, 183, 184, 185, 186, 187, 188] (by decide +kernel) (by decide +kernel)
set_option maxRecDepth 20000 in
theorem gX2_isSame_X2_find : GoodIn wsX2_isSame (wsV RX2 74 RX2 yX2_find wsX2_find) := goodIn_app (goodIn_of _ (by decide +kernel)) ggX2_isSame_X2_find
set_option maxRecDepth 20000 in
theorem ggX2_isSame_X1_isUnderWay : GoodIn wsX2_isSame wsX1_isUnderWay := goodIn_ca (goodIn_r _ [142, 21, 114, 115, 116, 19, 117, 118, 119, 22, 143, 144, 145, 146, 147, 148, 60, 149, 150, 189, 190, 191, 192, 193, 194, 195, 196, 197, 198, 199, 200, 201, 202, 203, 204, 205, 206, 207] (by decide +kernel) (by decide +kernel)) (goodIn_sub (fun _ h => List.mem_cons_of_mem _ (List.mem_append_right _ h)) (by decide +kernel))
set_option maxRecDepth 20000 in
theorem gX2_isSame_X1_isUnderWay : GoodIn wsX2_isSame (wsV RX2 133 RX1 yX1_isUnderWay wsX1_isUnderWay) := goodIn_app (goodIn_of _ (by decide +kernel)) ggX2_isSame_X1_isUnderWay
set_option maxRecDepth 20000 in
theorem ggX2_isSame_X1_secondsToGo : GoodIn wsX2_isSame wsX1_secondsToGo := goodIn_ca (goodIn_r _ [154, 21, 114, 115, 116, 19, 117, 118, 119, 22, 143, 144, 145, 155, 156, 157, 60, 158, 150, 159, 147, 148, 149, 189, 190, 191, 192, 193, 194, 195, 196, 197, 198, 199, 200, 201, 202, 203, 204, 205, 206, 207] (by decide +kernel) (by decide +kernel)) (goodIn_sub (fun _ h => List.mem_cons_of_mem _ (List.mem_append_right _ h)) (by decide +kernel))
set_option maxRecDepth 20000 in
theorem gX2_isSame_X1_secondsToGo : GoodIn wsX2_isSame (wsV RX2 137 RX1 yX1_secondsToGo wsX1_secondsToGo) := goodIn_app (goodIn_of _ (by decide +kernel)) ggX2_isSame_X1_secondsToGo
set_option maxRecDepth 20000 in
theorem ggX2_isSame_X1_caughtBy : GoodIn wsX2_isSame wsX1_caughtBy := goodIn_ca (goodIn_r _ [163, 21, 164, 114, 115, 116, 19, 117, 118, 119, 22, 143, 144, 145, 189, 190, 191, 192, 193, 194, 195, 196, 197, 198, 199, 200, 201, 202, 203, 204, 205, 206, 207] (by decide +kernel) (by decide +kernel)) (goodIn_sub (fun _ h => List.mem_cons_of_mem _ (List.mem_append_right _ h)) (by decide +kernel))
set_option maxRecDepth 20000 in
theorem gX2_isSame_X1_caughtBy : GoodIn wsX2_isSame (wsV RX2 140 RX1 yX1_caughtBy wsX1_caughtBy) := goodIn_app (goodIn_of _ (by decide +kernel)) ggX2_isSame_X1_caughtBy
set_option maxRecDepth 20000 in
theorem ggX2_isSame_X1_quietest : GoodIn wsX2_isSame wsX1_quietest := goodIn_r _ [168, 21, 22, 134, 189, 190, 191, 192, 193, 194, 195, 196, 197, 198, 199, 200, 201, 202, 203, 204, 205, 206, 207] (by decide +kernel) (by decide +kernel)
set_option maxRecDepth 20000 in
theorem gX2_isSame_X1_quietest : GoodIn wsX2_isSame (wsV RX2 143 RX1 yX1_quietest wsX1_quietest) := goodIn_app (goodIn_of _ (by decide +kernel)) ggX2_isSame_X1_quietest
set_option maxRecDepth 20000 in
theorem ggX2_isSame_X1_meanUnsaid : GoodIn wsX2_isSame wsX1_meanUnsaid := goodIn_r _ [172, 21, 22, 173, 64, 65, 60, 66, 67, 68, 189, 190, 191, 192, 193, 194, 195, 196, 197, 198, 199, 200, 201, 202, 203, 204, 205, 206, 207] (by decide +kernel) (by decide +kernel)
set_option maxRecDepth 20000 in
theorem gX2_isSame_X1_meanUnsaid : GoodIn wsX2_isSame (wsV RX2 146 RX1 yX1_meanUnsaid wsX1_meanUnsaid) := goodIn_app (goodIn_of _ (by decide +kernel)) ggX2_isSame_X1_meanUnsaid
theorem dX2_isSame_0 : decode cX2_isSame 0 = .ok (.iconst 0, 1) := by decide +kernel
theorem dX2_isSame_1 : decode cX2_isSame 1 = .ok (.istore_n 2, 1) := by decide +kernel
theorem dX2_isSame_2 : decode cX2_isSame 2 = .ok (.aload_n 0, 1) := by decide +kernel
theorem dX2_isSame_3 : decode cX2_isSame 3 = .ok (.getfield 18, 3) := by decide +kernel
theorem dX2_isSame_6 : decode cX2_isSame 6 = .ok (.astore_n 3, 1) := by decide +kernel
theorem dX2_isSame_7 : decode cX2_isSame 7 = .ok (.aload_n 3, 1) := by decide +kernel
theorem dX2_isSame_8 : decode cX2_isSame 8 = .ok (.arraylength, 1) := by decide +kernel
theorem dX2_isSame_9 : decode cX2_isSame 9 = .ok (.istore 4, 2) := by decide +kernel
theorem dX2_isSame_11 : decode cX2_isSame 11 = .ok (.iconst 0, 1) := by decide +kernel
theorem dX2_isSame_12 : decode cX2_isSame 12 = .ok (.istore 5, 2) := by decide +kernel
theorem dX2_isSame_14 : decode cX2_isSame 14 = .ok (.iload 5, 2) := by decide +kernel
theorem dX2_isSame_16 : decode cX2_isSame 16 = .ok (.iload 4, 2) := by decide +kernel
theorem dX2_isSame_18 : decode cX2_isSame 18 = .ok (.if_icmp .ge 30, 3) := by decide +kernel
theorem dX2_isSame_21 : decode cX2_isSame 21 = .ok (.aload_n 3, 1) := by decide +kernel
theorem dX2_isSame_22 : decode cX2_isSame 22 = .ok (.iload 5, 2) := by decide +kernel
theorem dX2_isSame_24 : decode cX2_isSame 24 = .ok (.aaload, 1) := by decide +kernel
theorem dX2_isSame_25 : decode cX2_isSame 25 = .ok (.astore 6, 2) := by decide +kernel
theorem dX2_isSame_27 : decode cX2_isSame 27 = .ok (.iload_n 2, 1) := by decide +kernel
theorem dX2_isSame_28 : decode cX2_isSame 28 = .ok (.aload 6, 2) := by decide +kernel
theorem dX2_isSame_30 : decode cX2_isSame 30 = .ok (.iconst 2, 1) := by decide +kernel
theorem dX2_isSame_31 : decode cX2_isSame 31 = .ok (.iaload, 1) := by decide +kernel
theorem dX2_isSame_32 : decode cX2_isSame 32 = .ok (.ifCond .lt 7, 3) := by decide +kernel
theorem dX2_isSame_35 : decode cX2_isSame 35 = .ok (.iconst 1, 1) := by decide +kernel
theorem dX2_isSame_36 : decode cX2_isSame 36 = .ok (.goto 4, 3) := by decide +kernel
theorem dX2_isSame_39 : decode cX2_isSame 39 = .ok (.iconst 0, 1) := by decide +kernel
theorem dX2_isSame_40 : decode cX2_isSame 40 = .ok (.iadd, 1) := by decide +kernel
theorem dX2_isSame_41 : decode cX2_isSame 41 = .ok (.istore_n 2, 1) := by decide +kernel
theorem dX2_isSame_42 : decode cX2_isSame 42 = .ok (.iinc 5 1, 3) := by decide +kernel
theorem dX2_isSame_45 : decode cX2_isSame 45 = .ok (.goto (-31), 3) := by decide +kernel
theorem dX2_isSame_48 : decode cX2_isSame 48 = .ok (.aload_n 1, 1) := by decide +kernel
theorem dX2_isSame_49 : decode cX2_isSame 49 = .ok (.invokevirtual 83, 3) := by decide +kernel
theorem dX2_isSame_52 : decode cX2_isSame 52 = .ok (.aload_n 0, 1) := by decide +kernel
theorem dX2_isSame_53 : decode cX2_isSame 53 = .ok (.getfield 22, 3) := by decide +kernel
theorem dX2_isSame_56 : decode cX2_isSame 56 = .ok (.if_icmp .ne 132, 3) := by decide +kernel
theorem dX2_isSame_59 : decode cX2_isSame 59 = .ok (.aload_n 1, 1) := by decide +kernel
theorem dX2_isSame_60 : decode cX2_isSame 60 = .ok (.invokevirtual 87, 3) := by decide +kernel
theorem dX2_isSame_63 : decode cX2_isSame 63 = .ok (.aload_n 0, 1) := by decide +kernel
theorem dX2_isSame_64 : decode cX2_isSame 64 = .ok (.getfield 44, 3) := by decide +kernel
theorem dX2_isSame_67 : decode cX2_isSame 67 = .ok (.if_icmp .ne 121, 3) := by decide +kernel
theorem dX2_isSame_70 : decode cX2_isSame 70 = .ok (.aload_n 1, 1) := by decide +kernel
theorem dX2_isSame_71 : decode cX2_isSame 71 = .ok (.invokevirtual 90, 3) := by decide +kernel
theorem dX2_isSame_74 : decode cX2_isSame 74 = .ok (.aload_n 0, 1) := by decide +kernel
theorem dX2_isSame_75 : decode cX2_isSame 75 = .ok (.getfield 7, 3) := by decide +kernel
theorem dX2_isSame_78 : decode cX2_isSame 78 = .ok (.if_icmp .ne 110, 3) := by decide +kernel
theorem dX2_isSame_81 : decode cX2_isSame 81 = .ok (.aload_n 1, 1) := by decide +kernel
theorem dX2_isSame_82 : decode cX2_isSame 82 = .ok (.invokevirtual 92, 3) := by decide +kernel
theorem dX2_isSame_85 : decode cX2_isSame 85 = .ok (.aload_n 0, 1) := by decide +kernel
theorem dX2_isSame_86 : decode cX2_isSame 86 = .ok (.getfield 13, 3) := by decide +kernel
theorem dX2_isSame_89 : decode cX2_isSame 89 = .ok (.if_icmp .ne 99, 3) := by decide +kernel
theorem dX2_isSame_92 : decode cX2_isSame 92 = .ok (.aload_n 1, 1) := by decide +kernel
theorem dX2_isSame_93 : decode cX2_isSame 93 = .ok (.invokevirtual 94, 3) := by decide +kernel
theorem dX2_isSame_96 : decode cX2_isSame 96 = .ok (.aload_n 0, 1) := by decide +kernel
theorem dX2_isSame_97 : decode cX2_isSame 97 = .ok (.getfield 13, 3) := by decide +kernel
theorem dX2_isSame_100 : decode cX2_isSame 100 = .ok (.ifCond .ge 7, 3) := by decide +kernel
theorem dX2_isSame_103 : decode cX2_isSame 103 = .ok (.iconst 0, 1) := by decide +kernel
theorem dX2_isSame_104 : decode cX2_isSame 104 = .ok (.goto 7, 3) := by decide +kernel
theorem dX2_isSame_107 : decode cX2_isSame 107 = .ok (.aload_n 0, 1) := by decide +kernel
theorem dX2_isSame_108 : decode cX2_isSame 108 = .ok (.getfield 47, 3) := by decide +kernel
theorem dX2_isSame_111 : decode cX2_isSame 111 = .ok (.if_icmp .ne 77, 3) := by decide +kernel
theorem dX2_isSame_114 : decode cX2_isSame 114 = .ok (.aload_n 1, 1) := by decide +kernel
theorem dX2_isSame_115 : decode cX2_isSame 115 = .ok (.invokevirtual 97, 3) := by decide +kernel
theorem dX2_isSame_118 : decode cX2_isSame 118 = .ok (.aload_n 0, 1) := by decide +kernel
theorem dX2_isSame_119 : decode cX2_isSame 119 = .ok (.getfield 50, 3) := by decide +kernel
theorem dX2_isSame_122 : decode cX2_isSame 122 = .ok (.if_icmp .ne 66, 3) := by decide +kernel
theorem dX2_isSame_125 : decode cX2_isSame 125 = .ok (.aload_n 1, 1) := by decide +kernel
theorem dX2_isSame_126 : decode cX2_isSame 126 = .ok (.invokevirtual 99, 3) := by decide +kernel
theorem dX2_isSame_129 : decode cX2_isSame 129 = .ok (.aload_n 0, 1) := by decide +kernel
theorem dX2_isSame_130 : decode cX2_isSame 130 = .ok (.getfield 53, 3) := by decide +kernel
theorem dX2_isSame_133 : decode cX2_isSame 133 = .ok (.if_icmp .ne 55, 3) := by decide +kernel
theorem dX2_isSame_136 : decode cX2_isSame 136 = .ok (.aload_n 1, 1) := by decide +kernel
theorem dX2_isSame_137 : decode cX2_isSame 137 = .ok (.invokevirtual 102, 3) := by decide +kernel
theorem dX2_isSame_140 : decode cX2_isSame 140 = .ok (.aload_n 0, 1) := by decide +kernel
theorem dX2_isSame_141 : decode cX2_isSame 141 = .ok (.invokevirtual 66, 3) := by decide +kernel
theorem dX2_isSame_144 : decode cX2_isSame 144 = .ok (.if_icmp .ne 44, 3) := by decide +kernel
theorem dX2_isSame_147 : decode cX2_isSame 147 = .ok (.aload_n 1, 1) := by decide +kernel
theorem dX2_isSame_148 : decode cX2_isSame 148 = .ok (.invokevirtual 105, 3) := by decide +kernel
theorem dX2_isSame_151 : decode cX2_isSame 151 = .ok (.iload_n 2, 1) := by decide +kernel
theorem dX2_isSame_152 : decode cX2_isSame 152 = .ok (.if_icmp .ne 36, 3) := by decide +kernel
theorem dX2_isSame_155 : decode cX2_isSame 155 = .ok (.aload_n 1, 1) := by decide +kernel
theorem dX2_isSame_156 : decode cX2_isSame 156 = .ok (.invokevirtual 108, 3) := by decide +kernel
theorem dX2_isSame_159 : decode cX2_isSame 159 = .ok (.aload_n 0, 1) := by decide +kernel
theorem dX2_isSame_160 : decode cX2_isSame 160 = .ok (.getfield 56, 3) := by decide +kernel
theorem dX2_isSame_163 : decode cX2_isSame 163 = .ok (.if_icmp .ne 25, 3) := by decide +kernel
theorem dX2_isSame_166 : decode cX2_isSame 166 = .ok (.aload_n 1, 1) := by decide +kernel
theorem dX2_isSame_167 : decode cX2_isSame 167 = .ok (.invokevirtual 111, 3) := by decide +kernel
theorem dX2_isSame_170 : decode cX2_isSame 170 = .ok (.aload_n 0, 1) := by decide +kernel
theorem dX2_isSame_171 : decode cX2_isSame 171 = .ok (.getfield 59, 3) := by decide +kernel
theorem dX2_isSame_174 : decode cX2_isSame 174 = .ok (.if_icmp .ne 14, 3) := by decide +kernel
theorem dX2_isSame_177 : decode cX2_isSame 177 = .ok (.aload_n 1, 1) := by decide +kernel
theorem dX2_isSame_178 : decode cX2_isSame 178 = .ok (.invokevirtual 114, 3) := by decide +kernel
theorem dX2_isSame_181 : decode cX2_isSame 181 = .ok (.aload_n 0, 1) := by decide +kernel
theorem dX2_isSame_182 : decode cX2_isSame 182 = .ok (.invokevirtual 117, 3) := by decide +kernel
theorem dX2_isSame_185 : decode cX2_isSame 185 = .ok (.if_icmp .eq 5, 3) := by decide +kernel
theorem dX2_isSame_188 : decode cX2_isSame 188 = .ok (.iconst 0, 1) := by decide +kernel
theorem dX2_isSame_189 : decode cX2_isSame 189 = .ok (.ireturn, 1) := by decide +kernel
theorem dX2_isSame_190 : decode cX2_isSame 190 = .ok (.iconst 0, 1) := by decide +kernel
theorem dX2_isSame_191 : decode cX2_isSame 191 = .ok (.istore_n 3, 1) := by decide +kernel
theorem dX2_isSame_192 : decode cX2_isSame 192 = .ok (.iconst 0, 1) := by decide +kernel
theorem dX2_isSame_193 : decode cX2_isSame 193 = .ok (.istore 4, 2) := by decide +kernel
theorem dX2_isSame_195 : decode cX2_isSame 195 = .ok (.iload 4, 2) := by decide +kernel
theorem dX2_isSame_197 : decode cX2_isSame 197 = .ok (.aload_n 0, 1) := by decide +kernel
theorem dX2_isSame_198 : decode cX2_isSame 198 = .ok (.getfield 22, 3) := by decide +kernel
theorem dX2_isSame_201 : decode cX2_isSame 201 = .ok (.if_icmp .ge 195, 3) := by decide +kernel
theorem dX2_isSame_204 : decode cX2_isSame 204 = .ok (.aload_n 1, 1) := by decide +kernel
theorem dX2_isSame_205 : decode cX2_isSame 205 = .ok (.iload 4, 2) := by decide +kernel
theorem dX2_isSame_207 : decode cX2_isSame 207 = .ok (.invokevirtual 120, 3) := by decide +kernel
theorem dX2_isSame_210 : decode cX2_isSame 210 = .ok (.aload_n 0, 1) := by decide +kernel
theorem dX2_isSame_211 : decode cX2_isSame 211 = .ok (.getfield 25, 3) := by decide +kernel
theorem dX2_isSame_214 : decode cX2_isSame 214 = .ok (.iload 4, 2) := by decide +kernel
theorem dX2_isSame_216 : decode cX2_isSame 216 = .ok (.iaload, 1) := by decide +kernel
theorem dX2_isSame_217 : decode cX2_isSame 217 = .ok (.if_icmp .ne 51, 3) := by decide +kernel
theorem dX2_isSame_220 : decode cX2_isSame 220 = .ok (.aload_n 1, 1) := by decide +kernel
theorem dX2_isSame_221 : decode cX2_isSame 221 = .ok (.iload 4, 2) := by decide +kernel
theorem dX2_isSame_223 : decode cX2_isSame 223 = .ok (.invokevirtual 124, 3) := by decide +kernel
theorem dX2_isSame_226 : decode cX2_isSame 226 = .ok (.aload_n 0, 1) := by decide +kernel
theorem dX2_isSame_227 : decode cX2_isSame 227 = .ok (.getfield 28, 3) := by decide +kernel
theorem dX2_isSame_230 : decode cX2_isSame 230 = .ok (.iload 4, 2) := by decide +kernel
theorem dX2_isSame_232 : decode cX2_isSame 232 = .ok (.iaload, 1) := by decide +kernel
theorem dX2_isSame_233 : decode cX2_isSame 233 = .ok (.if_icmp .ne 35, 3) := by decide +kernel
theorem dX2_isSame_236 : decode cX2_isSame 236 = .ok (.aload_n 1, 1) := by decide +kernel
theorem dX2_isSame_237 : decode cX2_isSame 237 = .ok (.iload 4, 2) := by decide +kernel
theorem dX2_isSame_239 : decode cX2_isSame 239 = .ok (.invokevirtual 127, 3) := by decide +kernel
theorem dX2_isSame_242 : decode cX2_isSame 242 = .ok (.aload_n 0, 1) := by decide +kernel
theorem dX2_isSame_243 : decode cX2_isSame 243 = .ok (.getfield 31, 3) := by decide +kernel
theorem dX2_isSame_246 : decode cX2_isSame 246 = .ok (.iload 4, 2) := by decide +kernel
theorem dX2_isSame_248 : decode cX2_isSame 248 = .ok (.iaload, 1) := by decide +kernel
theorem dX2_isSame_249 : decode cX2_isSame 249 = .ok (.if_icmp .ne 19, 3) := by decide +kernel
theorem dX2_isSame_252 : decode cX2_isSame 252 = .ok (.aload_n 1, 1) := by decide +kernel
theorem dX2_isSame_253 : decode cX2_isSame 253 = .ok (.iload 4, 2) := by decide +kernel
theorem dX2_isSame_255 : decode cX2_isSame 255 = .ok (.invokevirtual 130, 3) := by decide +kernel
theorem dX2_isSame_258 : decode cX2_isSame 258 = .ok (.aload_n 0, 1) := by decide +kernel
theorem dX2_isSame_259 : decode cX2_isSame 259 = .ok (.getfield 34, 3) := by decide +kernel
theorem dX2_isSame_262 : decode cX2_isSame 262 = .ok (.iload 4, 2) := by decide +kernel
theorem dX2_isSame_264 : decode cX2_isSame 264 = .ok (.iaload, 1) := by decide +kernel
theorem dX2_isSame_265 : decode cX2_isSame 265 = .ok (.if_icmp .eq 5, 3) := by decide +kernel
theorem dX2_isSame_268 : decode cX2_isSame 268 = .ok (.iconst 0, 1) := by decide +kernel
theorem dX2_isSame_269 : decode cX2_isSame 269 = .ok (.ireturn, 1) := by decide +kernel
theorem dX2_isSame_270 : decode cX2_isSame 270 = .ok (.aload_n 0, 1) := by decide +kernel
theorem dX2_isSame_271 : decode cX2_isSame 271 = .ok (.getfield 34, 3) := by decide +kernel
theorem dX2_isSame_274 : decode cX2_isSame 274 = .ok (.iload 4, 2) := by decide +kernel
theorem dX2_isSame_276 : decode cX2_isSame 276 = .ok (.iaload, 1) := by decide +kernel
theorem dX2_isSame_277 : decode cX2_isSame 277 = .ok (.aload_n 0, 1) := by decide +kernel
theorem dX2_isSame_278 : decode cX2_isSame 278 = .ok (.getfield 34, 3) := by decide +kernel
theorem dX2_isSame_281 : decode cX2_isSame 281 = .ok (.iload_n 3, 1) := by decide +kernel
theorem dX2_isSame_282 : decode cX2_isSame 282 = .ok (.iaload, 1) := by decide +kernel
theorem dX2_isSame_283 : decode cX2_isSame 283 = .ok (.if_icmp .le 6, 3) := by decide +kernel
theorem dX2_isSame_286 : decode cX2_isSame 286 = .ok (.iload 4, 2) := by decide +kernel
theorem dX2_isSame_288 : decode cX2_isSame 288 = .ok (.istore_n 3, 1) := by decide +kernel
theorem dX2_isSame_289 : decode cX2_isSame 289 = .ok (.iconst 0, 1) := by decide +kernel
theorem dX2_isSame_290 : decode cX2_isSame 290 = .ok (.istore 5, 2) := by decide +kernel
theorem dX2_isSame_292 : decode cX2_isSame 292 = .ok (.iload 5, 2) := by decide +kernel
theorem dX2_isSame_294 : decode cX2_isSame 294 = .ok (.aload_n 0, 1) := by decide +kernel
theorem dX2_isSame_295 : decode cX2_isSame 295 = .ok (.getfield 22, 3) := by decide +kernel
theorem dX2_isSame_298 : decode cX2_isSame 298 = .ok (.if_icmp .ge 92, 3) := by decide +kernel
theorem dX2_isSame_301 : decode cX2_isSame 301 = .ok (.aload_n 0, 1) := by decide +kernel
theorem dX2_isSame_302 : decode cX2_isSame 302 = .ok (.iload 4, 2) := by decide +kernel
theorem dX2_isSame_304 : decode cX2_isSame 304 = .ok (.iload 5, 2) := by decide +kernel
theorem dX2_isSame_306 : decode cX2_isSame 306 = .ok (.invokevirtual 74, 3) := by decide +kernel
theorem dX2_isSame_309 : decode cX2_isSame 309 = .ok (.istore 6, 2) := by decide +kernel
theorem dX2_isSame_311 : decode cX2_isSame 311 = .ok (.aload_n 1, 1) := by decide +kernel
theorem dX2_isSame_312 : decode cX2_isSame 312 = .ok (.iload 4, 2) := by decide +kernel
theorem dX2_isSame_314 : decode cX2_isSame 314 = .ok (.iload 5, 2) := by decide +kernel
theorem dX2_isSame_316 : decode cX2_isSame 316 = .ok (.invokevirtual 133, 3) := by decide +kernel
theorem dX2_isSame_319 : decode cX2_isSame 319 = .ok (.iload 6, 2) := by decide +kernel
theorem dX2_isSame_321 : decode cX2_isSame 321 = .ok (.ifCond .lt 7, 3) := by decide +kernel
theorem dX2_isSame_324 : decode cX2_isSame 324 = .ok (.iconst 1, 1) := by decide +kernel
theorem dX2_isSame_325 : decode cX2_isSame 325 = .ok (.goto 4, 3) := by decide +kernel
theorem dX2_isSame_328 : decode cX2_isSame 328 = .ok (.iconst 0, 1) := by decide +kernel
theorem dX2_isSame_329 : decode cX2_isSame 329 = .ok (.if_icmp .ne 53, 3) := by decide +kernel
theorem dX2_isSame_332 : decode cX2_isSame 332 = .ok (.aload_n 1, 1) := by decide +kernel
theorem dX2_isSame_333 : decode cX2_isSame 333 = .ok (.iload 4, 2) := by decide +kernel
theorem dX2_isSame_335 : decode cX2_isSame 335 = .ok (.iload 5, 2) := by decide +kernel
theorem dX2_isSame_337 : decode cX2_isSame 337 = .ok (.invokevirtual 137, 3) := by decide +kernel
theorem dX2_isSame_340 : decode cX2_isSame 340 = .ok (.iload 6, 2) := by decide +kernel
theorem dX2_isSame_342 : decode cX2_isSame 342 = .ok (.ifCond .ge 7, 3) := by decide +kernel
theorem dX2_isSame_345 : decode cX2_isSame 345 = .ok (.iconst 0, 1) := by decide +kernel
theorem dX2_isSame_346 : decode cX2_isSame 346 = .ok (.goto 12, 3) := by decide +kernel
theorem dX2_isSame_349 : decode cX2_isSame 349 = .ok (.aload_n 0, 1) := by decide +kernel
theorem dX2_isSame_350 : decode cX2_isSame 350 = .ok (.getfield 18, 3) := by decide +kernel
theorem dX2_isSame_353 : decode cX2_isSame 353 = .ok (.iload 6, 2) := by decide +kernel
theorem dX2_isSame_355 : decode cX2_isSame 355 = .ok (.aaload, 1) := by decide +kernel
theorem dX2_isSame_356 : decode cX2_isSame 356 = .ok (.iconst 2, 1) := by decide +kernel
theorem dX2_isSame_357 : decode cX2_isSame 357 = .ok (.iaload, 1) := by decide +kernel
theorem dX2_isSame_358 : decode cX2_isSame 358 = .ok (.if_icmp .ne 24, 3) := by decide +kernel
theorem dX2_isSame_361 : decode cX2_isSame 361 = .ok (.aload_n 1, 1) := by decide +kernel
theorem dX2_isSame_362 : decode cX2_isSame 362 = .ok (.iload 4, 2) := by decide +kernel
theorem dX2_isSame_364 : decode cX2_isSame 364 = .ok (.iload 5, 2) := by decide +kernel
theorem dX2_isSame_366 : decode cX2_isSame 366 = .ok (.invokevirtual 140, 3) := by decide +kernel
theorem dX2_isSame_369 : decode cX2_isSame 369 = .ok (.aload_n 0, 1) := by decide +kernel
theorem dX2_isSame_370 : decode cX2_isSame 370 = .ok (.getfield 38, 3) := by decide +kernel
theorem dX2_isSame_373 : decode cX2_isSame 373 = .ok (.iload 4, 2) := by decide +kernel
theorem dX2_isSame_375 : decode cX2_isSame 375 = .ok (.aaload, 1) := by decide +kernel
theorem dX2_isSame_376 : decode cX2_isSame 376 = .ok (.iload 5, 2) := by decide +kernel
theorem dX2_isSame_378 : decode cX2_isSame 378 = .ok (.iaload, 1) := by decide +kernel
theorem dX2_isSame_379 : decode cX2_isSame 379 = .ok (.if_icmp .eq 5, 3) := by decide +kernel
theorem dX2_isSame_382 : decode cX2_isSame 382 = .ok (.iconst 0, 1) := by decide +kernel
theorem dX2_isSame_383 : decode cX2_isSame 383 = .ok (.ireturn, 1) := by decide +kernel
theorem dX2_isSame_384 : decode cX2_isSame 384 = .ok (.iinc 5 1, 3) := by decide +kernel
theorem dX2_isSame_387 : decode cX2_isSame 387 = .ok (.goto (-95), 3) := by decide +kernel
theorem dX2_isSame_390 : decode cX2_isSame 390 = .ok (.iinc 4 1, 3) := by decide +kernel
theorem dX2_isSame_393 : decode cX2_isSame 393 = .ok (.goto (-198), 3) := by decide +kernel
theorem dX2_isSame_396 : decode cX2_isSame 396 = .ok (.aload_n 1, 1) := by decide +kernel
theorem dX2_isSame_397 : decode cX2_isSame 397 = .ok (.invokevirtual 143, 3) := by decide +kernel
theorem dX2_isSame_400 : decode cX2_isSame 400 = .ok (.iload_n 3, 1) := by decide +kernel
theorem dX2_isSame_401 : decode cX2_isSame 401 = .ok (.if_icmp .ne 31, 3) := by decide +kernel
theorem dX2_isSame_404 : decode cX2_isSame 404 = .ok (.aload_n 1, 1) := by decide +kernel
theorem dX2_isSame_405 : decode cX2_isSame 405 = .ok (.invokevirtual 146, 3) := by decide +kernel
theorem dX2_isSame_408 : decode cX2_isSame 408 = .ok (.aload_n 0, 1) := by decide +kernel
theorem dX2_isSame_409 : decode cX2_isSame 409 = .ok (.invokevirtual 66, 3) := by decide +kernel
theorem dX2_isSame_412 : decode cX2_isSame 412 = .ok (.aload_n 0, 1) := by decide +kernel
theorem dX2_isSame_413 : decode cX2_isSame 413 = .ok (.getfield 53, 3) := by decide +kernel
theorem dX2_isSame_416 : decode cX2_isSame 416 = .ok (.isub, 1) := by decide +kernel
theorem dX2_isSame_417 : decode cX2_isSame 417 = .ok (.i2d, 1) := by decide +kernel
theorem dX2_isSame_418 : decode cX2_isSame 418 = .ok (.aload_n 0, 1) := by decide +kernel
theorem dX2_isSame_419 : decode cX2_isSame 419 = .ok (.getfield 22, 3) := by decide +kernel
theorem dX2_isSame_422 : decode cX2_isSame 422 = .ok (.i2d, 1) := by decide +kernel
theorem dX2_isSame_423 : decode cX2_isSame 423 = .ok (.ddiv, 1) := by decide +kernel
theorem dX2_isSame_424 : decode cX2_isSame 424 = .ok (.dcmp .l, 1) := by decide +kernel
theorem dX2_isSame_425 : decode cX2_isSame 425 = .ok (.ifCond .ne 7, 3) := by decide +kernel
theorem dX2_isSame_428 : decode cX2_isSame 428 = .ok (.iconst 1, 1) := by decide +kernel
theorem dX2_isSame_429 : decode cX2_isSame 429 = .ok (.goto 4, 3) := by decide +kernel
theorem dX2_isSame_432 : decode cX2_isSame 432 = .ok (.iconst 0, 1) := by decide +kernel
theorem dX2_isSame_433 : decode cX2_isSame 433 = .ok (.ireturn, 1) := by decide +kernel
end
section
/-! The law's own dinner: its cells; rows of rows; calls that make cells, or answer a reference. -/
section SB
/-- what a row of N addresses holds -/
def RF (N : Nat) (b : Nat → Nat) : Nat → Option Nat := fun i => if i < N then some (b i) else none
theorem RF_in {N i : Nat} {b : Nat → Nat} (h : i < N) : RF N b i = some (b i) := if_pos h
/-- a cell that holds a row of rows -/
def QA (cR : ClassId) (q N : Nat) (h : Nat → Option Nat) : Nat × va_E := (q, .inl (cR, N, .inr (.inr (.inr (.inr h)))))
/-- N rows, of len ints each, at b -/
def RW (cI : ClassId) (b : Nat → Nat) (N len : Nat) (v : Nat → Nat → Int32) : va_W := (List.range N).map (fun i => ((b i, .inl (cI, len, .inl (v i))) : Nat × va_E))
/-- what was caught, by pairs, as rows -/
def CW (cI : ClassId) (b : Nat → Nat) (n : Nat) (r5 : Nat → Int32) : va_W := RW cI b n n (fun i j => r5 (i * 10 + j))
/-- the law's dinner: the ints f and the rows r of a Dinner of the class, its rows of n cells; k glances at ga -/
def SC (cI cR : ClassId) (a ca ga : Nat → Nat) (n k : Nat) (f : Nat → Int32) (r : Nat → Nat → Int32) : va_W := [(a 0, .inr (2, [.int (f 0), .int (f 2), .int (f 1), .int (f 3), .int (f 4), .int (f 5), .int (f 6), .int (f 7), .int (f 8), .ref (a 1), .ref (a 2), .ref (a 3), .ref (a 4), .ref (a 5), .ref (a 6)])), QA cR (a 6) k (RF k ga), (a 1, .inl (cI, n, .inl (r 0))), (a 2, .inl (cI, n, .inl (r 1))), (a 3, .inl (cI, n, .inl (r 2))), (a 4, .inl (cI, n, .inl (r 3))), QA cR (a 5) n (RF n ca)]
/-- G with the cell j of its row i new -/
def gUp (G : Nat → Nat → Int32) (i j : Nat) (x : Int32) : Nat → Nat → Int32 := va_up G i (upd (G i) j x)
theorem gUp_s {G : Nat → Nat → Int32} {i j : Nat} {x : Int32} : gUp G i j x i j = x := by simp [gUp, va_up, upd]
theorem gUp_i {G : Nat → Nat → Int32} {i j p : Nat} {x : Int32} (h : p ≠ i) : gUp G i j x p = G p := by simp [gUp, va_up, h]
theorem gUp_j {G : Nat → Nat → Int32} {i j p q : Nat} {x : Int32} (h : q ≠ j) : gUp G i j x p q = G p q := by
  by_cases e : p = i
  · subst e
    simp [gUp, va_up, upd, h]
  · rw [gUp_i e]
theorem RW_len {cI : ClassId} {b : Nat → Nat} {N len : Nat} {v : Nat → Nat → Int32} : (RW cI b N len v).length = N := by simp [RW]
theorem RW_at {cI : ClassId} {b : Nat → Nat} {N len : Nat} {v : Nat → Nat → Int32} {i : Nat} (h : i < N) : (RW cI b N len v)[i]? = some (b i, .inl (cI, len, .inl (v i))) := by
  unfold RW
  rw [List.getElem?_map, List.getElem?_range h]
  rfl
theorem RW_get {cI : ClassId} {b : Nat → Nat} {N len : Nat} {v : Nat → Nat → Int32} {pre suf : va_W} {i : Nat} (h : i < N) : (pre ++ (RW cI b N len v ++ suf))[pre.length + i]? = some (b i, .inl (cI, len, .inl (v i))) := by
  rw [List.getElem?_append_right (by omega), Nat.add_sub_cancel_left, List.getElem?_append_left (by rw [RW_len]; exact h)]
  exact RW_at h
theorem RW_put {cI : ClassId} {b : Nat → Nat} {N len : Nat} {v : Nat → Nat → Int32} {i : Nat} (z : Nat → Int32) : (RW cI b N len v).set i (b i, .inl (cI, len, .inl z)) = RW cI b N len (va_up v i z) := by
  apply List.ext_getElem?
  intro j
  rw [List.getElem?_set, RW_len]
  by_cases hj : j < N
  · rw [RW_at hj, RW_at hj]
    by_cases e : i = j
    · subst e
      rw [if_pos rfl, if_pos hj]
      simp [va_up]
    · rw [if_neg e]
      simp [va_up, Ne.symm e]
  · have h1 : (RW cI b N len v)[j]? = none := List.getElem?_eq_none (by rw [RW_len]; omega)
    have h2 : (RW cI b N len (va_up v i z))[j]? = none := List.getElem?_eq_none (by rw [RW_len]; omega)
    rw [h1, h2]
    by_cases e : i = j
    · rw [if_pos e, if_neg (by omega)]
    · rw [if_neg e]
theorem RW_set {cI : ClassId} {b : Nat → Nat} {N len : Nat} {v : Nat → Nat → Int32} {pre suf : va_W} {i : Nat} (h : i < N) (z : Nat → Int32) : (pre ++ (RW cI b N len v ++ suf)).set (pre.length + i) (b i, .inl (cI, len, .inl z)) = pre ++ (RW cI b N len (va_up v i z) ++ suf) := by
  rw [List.set_append_right _ _ (by omega), Nat.add_sub_cancel_left, List.set_append_left _ _ (by rw [RW_len]; exact h), RW_put]
/-- a world by what is in it -/
theorem wPmem {D : va_G} {ws : va_W} {H : Heap} : va_P D vwCl ws H ↔ ∀ q, q ∈ ws → va_at D vwCl q H := by
  refine ⟨fun h q hq => ?_, fun h k q hk => h q (List.mem_of_getElem? hk)⟩
  obtain ⟨k, hk⟩ := List.mem_iff_getElem?.mp hq
  exact h k q hk
theorem wDmem {A : Nat → Prop} {ws : va_W} : va_D A ws ↔ (ws.map (fun q => q.1)).Nodup ∧ ∀ q, q ∈ ws → A q.1 := by
  constructor
  · intro h
    refine ⟨?_, fun q hq => ?_⟩
    · rw [List.Nodup, List.pairwise_iff_getElem]
      intro i j hi hj hij e
      rw [List.length_map] at hi hj
      rw [List.getElem_map, List.getElem_map] at e
      have := h.1 i j ws[i] ws[j] (List.getElem?_eq_getElem hi) (List.getElem?_eq_getElem hj) e
      omega
    · obtain ⟨k, hk⟩ := List.mem_iff_getElem?.mp hq
      exact h.2 k q hk
  · rintro ⟨h1, h2⟩
    rw [List.Nodup, List.pairwise_iff_getElem] at h1
    refine ⟨fun i j p q hp hq e => ?_, fun k q hk => h2 q (List.mem_of_getElem? hk)⟩
    obtain ⟨hi, rfl⟩ := List.getElem?_eq_some_iff.mp hp
    obtain ⟨hj, rfl⟩ := List.getElem?_eq_some_iff.mp hq
    rcases Nat.lt_trichotomy i j with g | g | g
    · exact absurd (by rw [List.getElem_map, List.getElem_map]; exact e) (h1 i j (by rw [List.length_map]; exact hi) (by rw [List.length_map]; exact hj) g)
    · exact g
    · exact absurd (by rw [List.getElem_map, List.getElem_map]; exact e.symm) (h1 j i (by rw [List.length_map]; exact hj) (by rw [List.length_map]; exact hi) g)
theorem wPsub {D : va_G} {ws ws' : va_W} {H : Heap} (h : ∀ q, q ∈ ws' → q ∈ ws) (hP : va_P D vwCl ws H) : va_P D vwCl ws' H := wPmem.mpr (fun q hq => wPmem.mp hP q (h q hq))
theorem wDsub {A : Nat → Prop} {ws ws' : va_W} (h : List.Sublist ws' ws) (hD : va_D A ws) : va_D A ws' := wDmem.mpr ⟨(h.map (fun q => q.1)).nodup (wDmem.mp hD).1, fun q hq => (wDmem.mp hD).2 q (h.subset hq)⟩
theorem wDperm {A : Nat → Prop} {ws ws' : va_W} (h : List.Perm ws ws') (hD : va_D A ws) : va_D A ws' := wDmem.mpr ⟨((h.map (fun q => q.1)).nodup_iff).mp (wDmem.mp hD).1, fun q hq => (wDmem.mp hD).2 q (h.mem_iff.mpr hq)⟩
/-- worlds that agree, side by side -/
theorem wEq.app {D : va_G} {a a' b b' : va_W} (hl : a.length = a'.length) (h1 : wEq D a a') (h2 : wEq D b b') : wEq D (a ++ b) (a' ++ b') := by
  intro k q' hk
  by_cases h : k < a'.length
  · rw [List.getElem?_append_left h] at hk
    rw [List.getElem?_append_left (by omega)]
    exact h1 k q' hk
  · rw [List.getElem?_append_right (by omega)] at hk
    rw [List.getElem?_append_right (by omega), hl]
    exact h2 _ q' hk
theorem RW_cg {D : va_G} {cI : ClassId} {b : Nat → Nat} {N len : Nat} {v v' : Nat → Nat → Int32} (h : ∀ i, i < N → ∀ j, j < len → v i j = v' i j) : wEq D (RW cI b N len v) (RW cI b N len v') := by
  intro k q' hk
  have hkN : k < N := by
    have := (List.getElem?_eq_some_iff.mp hk).1
    rwa [RW_len] at this
  rw [RW_at hkN] at hk
  cases hk
  refine ⟨_, RW_at hkN, rfl, fun H h1 => ?_⟩
  have h2 : H[b k]? = some (vp_cell cI (len, .inl (v k))) := h1
  rw [wCell (h k hkN)] at h2
  exact h2
theorem RW_cgm {D : va_G} {cI : ClassId} {b : Nat → Nat} {N len : Nat} {v v' : Nat → Nat → Int32} {pre suf : va_W} (h : ∀ i, i < N → ∀ j, j < len → v i j = v' i j) : wEq D (pre ++ (RW cI b N len v ++ suf)) (pre ++ (RW cI b N len v' ++ suf)) := wEq.app rfl wEq.rf (wEq.app (by rw [RW_len, RW_len]) (RW_cg h) wEq.rf)
end SB
section SR
variable {p : Program} {l : Launch} {e : Env} {R : Room} {s : State} {m : MethodId} {args : Array Value} {below : List Frame} {meth : Method} {c : Code} {H : Heap} {locs : List Loc} {cells slots : Nat} {Q : State → Prop}
variable {y : MethodName} {bytes cc : ByteArray} {maxL nL mc ms n index : Nat} {ret : Option FieldType} {ws : List Cond} {rm : Room} {Ts : List Cond} {own C host : String} {b : Addr} {As rest st0 : List Value} {pc : Nat} {ls : Array Slot}
variable {D : va_G} {tys tysc : List (ClassId × FieldType)} {A0 : Nat → Prop} {H0 : Heap} {S : Type} {Wf : S → va_W} {af : S → Nat}
/-- a row out of a row of rows -/
theorem wAald {W0 : va_W} (hx : p.tables.exec = Jvm.exec) (hb : c.code = cc) (hK : va_K D vwCl tys s) (hP : va_P D vwCl W0 H) (q0 t0 : Nat) {a : Nat} {cR : ClassId} {N : Nat} {h : Nat → Option Nat} (ha : W0[q0]? = some (a, .inl (cR, N, .inr (.inr (.inr (.inr h)))))) (ht : tys[t0]? = some (cR, .array .int)) {i : Int32} (k : Nat) (hi : i = nI k) (hk : k < N) (hN : N < 2 ^ 31) {z : Nat} (hz : h k = some z) (hdg : decode cc pc = .ok (.aaload, 1))
    (kk : W p l e R s m args below meth c H locs cells slots Q (F0 m (pc + 1) ls (.ref z :: rest))) : W p l e R s m args below meth c H locs cells slots Q (F0 m pc ls (.int i :: .ref a :: rest)) := by
  subst hi
  have hin : vp_in (nI k) N := vp_in_nI hk hN
  have hc : (nI k).toNatClampNeg = k := nI_clamp (Nat.lt_trans hk hN)
  refine W.aald (v := .ref z) (ty := .array .int) hx hb (hP q0 _ ha) ((hK.2 t0 _ ht).1 N (fun j => va_rf (h j))) rfl (fun q => by cases q) (by show ¬ (nI k < 0 ∨ (arrV _ _ _).slots.size ≤ _); rw [arrV_size]; exact hin) ?_ rfl rfl hdg kk
  show (arrV cR N (fun j => va_rf (h j))).slots[(nI k).toNatClampNeg]? = _
  rw [hc, arrV_read _ _ hk, hz]
  rfl
/-- an int out of a row among many -/
theorem wIaldR {W0 pre suf : va_W} {cI : ClassId} {bb : Nat → Nat} {N len : Nat} {v : Nat → Nat → Int32} (hx : p.tables.exec = Jvm.exec) (hb : c.code = cc) (hK : va_K D vwCl tys s) (hP : va_P D vwCl W0 H) (t0 : Nat) (hW : W0 = pre ++ (RW cI bb N len v ++ suf)) (ht : tys[t0]? = some (cI, .int)) (i : Nat) (hi : i < N) {ix : Int32} (k : Nat) (hix : ix = nI k) (hk : k < len) (hL : len < 2 ^ 31) (hdg : decode cc pc = .ok (.iaload, 1))
    (kk : W p l e R s m args below meth c H locs cells slots Q (F0 m (pc + 1) ls (.int (v i k) :: rest))) : W p l e R s m args below meth c H locs cells slots Q (F0 m pc ls (.int ix :: .ref (bb i) :: rest)) := by
  subst hW
  exact wIald hx hb hK hP (pre.length + i) t0 (RW_get hi) ht k hix hk hL hdg kk
theorem wIastR {W0 W1 pre suf : va_W} {cI : ClassId} {bb : Nat → Nat} {N len : Nat} {v : Nat → Nat → Int32} (hx : p.tables.exec = Jvm.exec) (hb : c.code = cc) (hK : va_K D vwCl tys s) (hP : va_P D vwCl W0 H) (hD : va_D A0 W0) (hS : va_S A0 H0 H locs) (t0 : Nat) (hW : W0 = pre ++ (RW cI bb N len v ++ suf)) (ht : tys[t0]? = some (cI, .int)) (i : Nat) (hi : i < N) {ix x : Int32} (k : Nat) (hix : ix = nI k) (hk : k < len) (hL : len < 2 ^ 31) (hW1 : pre ++ (RW cI bb N len (gUp v i k x) ++ suf) = W1) (hdg : decode cc pc = .ok (.iastore, 1))
    (kk : ∀ (H1 : Heap) (locs1 : List Loc), va_P D vwCl W1 H1 → va_D A0 W1 → va_S A0 H0 H1 locs1 → W p l e R s m args below meth c H1 locs1 cells slots Q (F0 m (pc + 1) ls rest)) : W p l e R s m args below meth c H locs cells slots Q (F0 m pc ls (.int x :: .int ix :: .ref (bb i) :: rest)) := by
  subst hW
  refine wIast hx hb hK hP hD hS (pre.length + i) t0 (RW_get hi) ht k hix hk hL hdg (fun H1 locs1 a1 a2 a3 => ?_)
  rw [RW_set hi] at a1 a2
  refine kk H1 locs1 ?_ ?_ a3
  · rw [← hW1]; exact a1
  · rw [← hW1]; exact a2
/-- what is caught: a cell of a row, by its pair -/
theorem wIastC {W0 W1 pre suf : va_W} {cI : ClassId} {bb : Nat → Nat} {N : Nat} {r5 : Nat → Int32} (hx : p.tables.exec = Jvm.exec) (hb : c.code = cc) (hK : va_K D vwCl tys s) (hP : va_P D vwCl W0 H) (hD : va_D A0 W0) (hS : va_S A0 H0 H locs) (t0 : Nat) (hW : W0 = pre ++ (CW cI bb N r5 ++ suf)) (ht : tys[t0]? = some (cI, .int)) (i : Nat) (hi : i < N) {ix x : Int32} (k : Nat) (hix : ix = nI k) (hk : k < N) (hL : N ≤ 10) (hW1 : pre ++ (CW cI bb N (upd r5 (i * 10 + k) x) ++ suf) = W1) (hdg : decode cc pc = .ok (.iastore, 1))
    (kk : ∀ (H1 : Heap) (locs1 : List Loc), va_P D vwCl W1 H1 → va_D A0 W1 → va_S A0 H0 H1 locs1 → W p l e R s m args below meth c H1 locs1 cells slots Q (F0 m (pc + 1) ls rest)) : W p l e R s m args below meth c H locs cells slots Q (F0 m pc ls (.int x :: .int ix :: .ref (bb i) :: rest)) := by
  refine wIastR (pre := pre) (suf := suf) (v := fun i j => r5 (i * 10 + j)) hx hb hK hP hD hS t0 hW ht i hi k hix hk (by omega) rfl hdg (fun H1 locs1 a1 a2 a3 => ?_)
  have h9 : wEq D (pre ++ (RW cI bb N N (gUp (fun i j => r5 (i * 10 + j)) i k x) ++ suf)) W1 := by
    rw [← hW1]
    refine RW_cgm (fun p9 hp9 q9 hq9 => ?_)
    by_cases e1 : p9 = i
    · subst e1
      by_cases e2 : q9 = k
      · subst e2
        rw [gUp_s, pk_us]
      · rw [gUp_j e2, pk_un (by omega)]
    · rw [gUp_i e1, pk_un (by omega)]
  exact kk H1 locs1 (h9.P a1) (h9.D a2) a3
/-- a row put into a row of rows -/
theorem wAast {W0 : va_W} (hx : p.tables.exec = Jvm.exec) (hb : c.code = cc) (hN : wNest s) (hK : va_K D vwCl tys s) (hP : va_P D vwCl W0 H) (hD : va_D A0 W0) (hS : va_S A0 H0 H locs) (q0 qv t0 t1 : Nat) {a v : Nat} {cR cI : ClassId} {N : Nat} {h : Nat → Option Nat} {x9 : vp_A} (ha : W0[q0]? = some (a, .inl (cR, N, .inr (.inr (.inr (.inr h)))))) (ht : tys[t0]? = some (cR, .array .int)) (hv : W0[qv]? = some (v, .inl (cI, x9))) (ht1 : tys[t1]? = some (cI, .int)) {i : Int32} (k : Nat) (hi : i = nI k) (hk : k < N) (hN2 : N < 2 ^ 31) (hdg : decode cc pc = .ok (.aastore, 1))
    (kk : ∀ (H1 : Heap) (locs1 : List Loc), va_P D vwCl (W0.set q0 (a, .inl (cR, N, .inr (.inr (.inr (.inr (va_up h k (some v)))))))) H1 → va_D A0 (W0.set q0 (a, .inl (cR, N, .inr (.inr (.inr (.inr (va_up h k (some v)))))))) → va_S A0 H0 H1 locs1 → W p l e R s m args below meth c H1 locs1 cells slots Q (F0 m (pc + 1) ls rest)) : W p l e R s m args below meth c H locs cells slots Q (F0 m pc ls (.ref v :: .int i :: .ref a :: rest)) := by
  subst hi
  have hc : (nI k).toNatClampNeg = k := nI_clamp (Nat.lt_trans hk hN2)
  obtain ⟨comp, c9, k9, h1, -, h3, h4, h5⟩ := arrayOverA_spec (hN.2.use (A := #[]))
  have hR : s.vm.findClass ("[" ++ (FieldType.array .int).toString) = some cR := (hK.2 t0 _ ht).2
  have hI : s.vm.findClass ("[" ++ (FieldType.int).toString) = some cI := (hK.2 t1 _ ht1).2
  have e9 : c9 = cR := Option.some.inj (h5.symm.trans hR)
  subst e9
  have e8 : comp = cI := Option.some.inj (h1.symm.trans hI)
  subst e8
  obtain ⟨-, kI, hkI, -⟩ := (hK.2 t1 _ ht1).1 0 (fun _ => .null)
  have hkI : s.vm.classes[comp]? = some kI := hkI
  have hcv : H[v]? = some (vp_cell comp x9) := hP qv _ hv
  have hcls : (vp_cell comp x9).cls = comp := by unfold vp_cell; split <;> rfl
  have hvm : (vp_cell comp x9).vm = .none := by unfold vp_cell; split <;> rfl
  refine W.aast (t := .array .int) hx hb (hP q0 _ ha) (fun q h => by cases h) (fun h => by cases h) h3 h4 rfl hkI ⟨nI_pos (Nat.lt_trans hk hN2), by show _ < (arrV _ _ _).slots.size; rw [arrV_size, hc]; exact hk⟩ hcv (fun q h => by rw [hvm] at h; cases h) (by rw [hcls]; exact hkI) (by rw [hcls, Vm.assignable, Vm.assignableAux]; simp only [beq_self_eq_true, Bool.true_or]) rfl rfl hdg fun H1 e1 z oq => ?_
  refine kk H1 _ (hP.set hD ha ?_ oq) (hD.set ha) (hS.put z oq (hD.2 q0 _ ha))
  show H1[a]? = some (vp_cell _ _)
  rw [e1, hc]
  rw [vp_cell_q, vp_cell_q, arrV_store]
  congr 2
  funext q
  by_cases hq : q = k
  · subst hq
    simp [updV, va_up, va_rf]
  · simp [updV, va_up, hq]
/-- a new row of rows, empty -/
theorem wAnew {W0 : va_W} (hx : p.tables.exec = Jvm.exec) (hb : c.code = cc) (hown : s.vm.findClass own = some m.cls) (hlink : (Cond.classLink own index "[I").before args s = true) (hN : wNest s) (hK : va_K D vwCl tys s) (hP : va_P D vwCl W0 H) (hD : va_D A0 W0) (hS : va_S A0 H0 H locs) (hA : ∀ q, H0.size ≤ q → A0 q) (t0 : Nat) {cR : ClassId} (ht : tys[t0]? = some (cR, .array .int)) {i : Int32} (k : Nat) (hi : i = nI k) (hk : k < 2 ^ 20) (hf : cells + 1 ≤ R.cells ∧ slots + k ≤ R.slots) (hdg : decode cc pc = .ok (.anewarray index, 3))
    (kk : ∀ (q : Nat) (H1 : Heap), va_P D vwCl (W0 ++ [QA cR q k (fun _ => none)]) H1 → va_D A0 (W0 ++ [QA cR q k (fun _ => none)]) → va_S A0 H0 H1 locs → W p l e R s m args below meth c H1 locs (cells + 1) (slots + k) Q (F0 m (pc + 3) ls (.ref q :: rest))) : W p l e R s m args below meth c H locs cells slots Q (F0 m pc ls (.int i :: rest)) := by
  subst hi
  have hc : (nI k).toNatClampNeg = k := nI_clamp (by omega)
  have hR : s.vm.findClass ("[" ++ (FieldType.array .int).toString) = some cR := (hK.2 t0 _ ht).2
  refine W.anewA (t := .int) hx hb hown hlink (hN.2.use) rfl hdg rfl (nI_pos (by omega)) (by rw [hc]; omega) hf.1 (by rw [hc]; exact hf.2) fun cA kA comp f1 f2 f3 f4 => ?_
  have eA : cA = cR := Option.some.inj (f1.symm.trans hR)
  subst eA
  rw [hc]
  generalize hH1 : H.push ({ cls := cA, slots := Array.replicate k .null, vm := .none } : Cell) = H1
  have z1 : H1.size = H.size + 1 := by rw [← hH1, Array.size_push]
  have e1 : H1[H.size]? = some (arrV cA k (fun _ => .null)) := by rw [← hH1, Array.getElem?_push_size, ← arrV_new]
  have o1 : ∀ q : Nat, q < H.size → H1[q]? = H[q]? := fun q hq => by rw [← hH1, Array.getElem?_push, if_neg (Nat.ne_of_lt hq)]
  have hk1 : ∀ (k : Nat) (x : Nat × va_E), W0[k]? = some x → H1[x.1]? = H[x.1]? := fun k x hx => o1 x.1 ((hP k x hx).lt)
  refine kk H.size H1 ((hP.kept hk1).app (fun k9 x hx => ?_)) (hD.push hP rfl (hA _ hS.1)) ⟨Nat.le_trans hS.1 (by omega), fun x h1 h2 => (o1 x (Nat.lt_of_lt_of_le h1 hS.1)).trans (hS.2.1 x h1 h2), hS.2.2⟩
  have hz : k9 < 1 := (List.getElem?_eq_some_iff.mp hx).1
  rw [show k9 = 0 by omega] at hx
  cases hx
  exact e1
/-- new rows in a new row of rows -/
theorem wMna {W0 : va_W} (hx : p.tables.exec = Jvm.exec) (hb : c.code = cc) (hown : s.vm.findClass own = some m.cls) (hlink : (Cond.classLink own index "[[I").before args s = true) (harr : (Cond.arrayClass .int).before args s = true) (hN : wNest s) (hK : va_K D vwCl tys s) (hP : va_P D vwCl W0 H) (hD : va_D A0 W0) (hS : va_S A0 H0 H locs) (hA : ∀ q, H0.size ≤ q → A0 q) (t0 t1 : Nat) {cI cR : ClassId} (ht : tys[t0]? = some (cR, .array .int)) (ht1 : tys[t1]? = some (cI, .int)) {i j : Int32} (N K : Nat) (hi : i = nI N) (hj : j = nI K) (hN1 : N ≤ 1000) (hK1 : K ≤ 1000) (hf : cells + (1 + N) ≤ R.cells ∧ slots + (N + N * K) ≤ R.slots) (hdg : decode cc pc = .ok (.multianewarray index 2, 4))
    (kk : ∀ (q : Nat) (rr : Nat → Nat) (H1 : Heap), va_P D vwCl (W0 ++ ([QA cR q N (RF N rr)] ++ RW cI rr N K (fun _ _ => 0))) H1 → va_D A0 (W0 ++ ([QA cR q N (RF N rr)] ++ RW cI rr N K (fun _ _ => 0))) → va_S A0 H0 H1 locs → W p l e R s m args below meth c H1 locs (cells + 1 + N) (slots + N + N * K) Q (F0 m (pc + 4) ls (.ref q :: rest))) : W p l e R s m args below meth c H locs cells slots Q (F0 m pc ls (.int j :: .int i :: rest)) := by
  subst hi hj
  have hR : s.vm.findClass ("[" ++ (FieldType.array .int).toString) = some cR := (hK.2 t0 _ ht).2
  have hI : s.vm.findClass (FieldType.array .int).toString = some cI := (hK.2 t1 _ ht1).2
  have e0 : va_pl ([] : List Nat) (fun _ => (.inr (0, []) : va_E)) = [] := rfl
  refine va_mna (X := W0) (L := []) (f := fun _ => .inr (0, [])) (ty := .int) (z := (K, .inl (fun _ => 0))) hx hb hown hlink hN.2 harr hI hK (by rw [e0, List.append_nil]; exact hP) (by rw [e0, List.append_nil]; exact hD) hS hA (N' := N) (K' := K) (nI_pos (by omega)) (nI_pos (by omega)) (nI_clamp (by omega)) (nI_clamp (by omega)) (by omega) (by show K * 4 ≤ _; omega) (by omega) rfl rfl hf.1 hf.2 (fun c9 => arrV_new c9 K (.int 0)) hdg (fun q rr cA H1 hinj _ hK2 hP1 hD1 hS1 => ?_)
  have hA2 : s.vm.findClass ("[" ++ (FieldType.array .int).toString) = some cA := by
    have := (hK2.2 tys.length (cA, .array .int) (by rw [List.getElem?_append_right (Nat.le_refl _), Nat.sub_self]; rfl)).2
    exact this
  have eA : cA = cR := Option.some.inj (hA2.symm.trans hR)
  subst eA
  have hpl : va_pl ([] ++ (List.range N).map rr) (vr_up (fun _ => (.inr (0, []) : va_E)) ((List.range N).map rr) (.inl (cI, (K, .inl (fun _ => 0))))) = RW cI rr N K (fun _ _ => 0) := by
    unfold va_pl RW
    rw [List.nil_append, List.map_map]
    apply List.map_congr_left
    intro i9 hi9
    show (rr i9, vr_up _ _ _ (rr i9)) = _
    rw [vr_up_in (List.mem_map_of_mem hi9)]
  rw [hpl, List.append_assoc] at hP1 hD1
  exact kk q rr H1 hP1 hD1 hS1
/-- a new row of ints -/
theorem wNewi {W0 : va_W} (hx : p.tables.exec = Jvm.exec) (hb : c.code = cc) (harr : (Cond.arrayClass .int).before args s = true) (hK : va_K D vwCl tys s) (hP : va_P D vwCl W0 H) (hD : va_D A0 W0) (hS : va_S A0 H0 H locs) (hA : ∀ q, H0.size ≤ q → A0 q) (t1 : Nat) {cI : ClassId} (ht1 : tys[t1]? = some (cI, .int)) {i : Int32} (k : Nat) (hi : i = nI k) (hk : k < 2 ^ 20) (hf : cells + 1 ≤ R.cells ∧ slots + k ≤ R.slots) (hdg : decode cc pc = .ok (.newarray .int, 2))
    (kk : ∀ (q : Nat) (H1 : Heap), va_P D vwCl (W0 ++ [(q, .inl (cI, k, .inl (fun _ => 0)))]) H1 → va_D A0 (W0 ++ [(q, .inl (cI, k, .inl (fun _ => 0)))]) → va_S A0 H0 H1 locs → W p l e R s m args below meth c H1 locs (cells + 1) (slots + k) Q (F0 m (pc + 2) ls (.ref q :: rest))) : W p l e R s m args below meth c H locs cells slots Q (F0 m pc ls (.int i :: rest)) := by
  subst hi
  refine va_newa (atype := .int) (ty := .int) (N' := k) (a0 := (k, .inl (fun _ => 0))) hx hb harr rfl hK hP hD hS hA (fun _ => rfl) (nI_pos (by omega)) (nI_clamp (by omega)) (by show k * 4 ≤ _; omega) hf.1 hf.2 hdg (fun q cA H1 hK2 hP1 hD1 hS1 => ?_)
  have hI : s.vm.findClass ("[" ++ (FieldType.int).toString) = some cI := (hK.2 t1 _ ht1).2
  have hA2 : s.vm.findClass ("[" ++ (FieldType.int).toString) = some cA := by
    have := (hK2.2 tys.length (cA, .int) (by rw [List.getElem?_append_right (Nat.le_refl _), Nat.sub_self]; rfl)).2
    exact this
  have eA : cA = cI := Option.some.inj (hA2.symm.trans hI)
  subst eA
  exact kk q H1 hP1 hD1 hS1
/-- what a method owes that answers a reference -/
abbrev wQr {S : Type} (D : va_G) (post : S → Prop) (Wf : S → va_W) (af : S → Nat) : (Nat → Prop) → Array Value → State → Outcome → State → Prop := fun A => va_Qr post (fun u a t => wPost D Wf A u t ∧ a = af u) A
theorem wRr {post : S → Prop} {W1 : va_W} {rt : FieldType} {q : Nat} (hQ : MQ below (wQr D post Wf af A0) args s cells slots A0 = Q) (hx : p.tables.exec = Jvm.exec) (hb : c.code = cc) (hr : meth.sig.returnType = some rt) (hrt : (∃ n, rt = .object n) ∨ ∃ t, rt = .array t) (hlocks : meth.locks = false) (hP : va_P D vwCl W1 H) (hD : va_D A0 W1) (hS : va_S A0 s.heap H locs) (hdg : decode cc pc = .ok (.areturn, 1)) (u : S) (hu : post u) (hW : W1 = Wf u) (hq : q = af u) : W p l e R s m args below meth c H locs cells slots Q (F0 m pc ls [.ref q]) := by
  subst hW
  rw [← hQ]
  exact W.aret hx hb hr hrt (Or.inr ⟨q, rfl⟩) (fun t ht hW => ⟨⟨u, q, rfl, hu, ⟨by rw [ht]; exact hP, hD⟩, hq⟩, hS.F ht⟩) hS.2.2 hdg hlocks
/-- behind a call that may make cells -/
theorem wKim {post : Int32 → S → Prop} {pre Wc suf : va_W} {a : Array Value} (hr : va_Run p l e R s m args below meth c H locs cells slots mc ms (F0 m pc ls st0) rest (wQi D post Wf (va_A Wc H.size) a) (va_A Wc H.size)) (hP : va_P D vwCl (pre ++ (Wc ++ suf)) H) (hD : va_D A0 (pre ++ (Wc ++ suf))) (hS : va_S A0 H0 H locs) (hA : ∀ q : Nat, H0.size ≤ q → A0 q)
    (kk : ∀ (r : Int32) (u : S) (H1 : Heap) (locs1 : List Loc), post r u → va_P D vwCl (pre ++ (Wf u ++ suf)) H1 → va_D A0 (pre ++ (Wf u ++ suf)) → va_S A0 H0 H1 locs1 → W p l e R s m args below meth c H1 locs1 (cells + mc) (slots + ms) Q (F0 m (pc + 3) ls (.int r :: rest))) : W p l e R s m args below meth c H locs cells slots Q (F0 m pc ls st0) := by
  have hF := wFree (D := D) hD hS hA
  refine va_calli hr hS (fun q _ h => hF q h) hF (fun r u t H1 locs1 ht hvm hw hB hz1 hk1 hS1 => ?_)
  obtain ⟨hP1, hD1⟩ := hB
  rw [ht] at hP1
  obtain ⟨a1, a2⟩ := wFrame hP hD hk1 hF hP1 hD1
  exact kk r u H1 locs1 hw a1 a2 hS1
theorem wKrm {post : S → Prop} {pre Wc suf : va_W} {a : Array Value} (hr : va_Run p l e R s m args below meth c H locs cells slots mc ms (F0 m pc ls st0) rest (wQr D post Wf af (va_A Wc H.size) a) (va_A Wc H.size)) (hP : va_P D vwCl (pre ++ (Wc ++ suf)) H) (hD : va_D A0 (pre ++ (Wc ++ suf))) (hS : va_S A0 H0 H locs) (hA : ∀ q : Nat, H0.size ≤ q → A0 q)
    (kk : ∀ (u : S) (H1 : Heap) (locs1 : List Loc), post u → va_P D vwCl (pre ++ (Wf u ++ suf)) H1 → va_D A0 (pre ++ (Wf u ++ suf)) → va_S A0 H0 H1 locs1 → W p l e R s m args below meth c H1 locs1 (cells + mc) (slots + ms) Q (F0 m (pc + 3) ls (.ref (af u) :: rest))) : W p l e R s m args below meth c H locs cells slots Q (F0 m pc ls st0) := by
  have hF := wFree (D := D) hD hS hA
  refine va_callr hr hS (fun q _ h => hF q h) hF (fun u ra t H1 locs1 ht hvm hw hB hz1 hk1 hS1 => ?_)
  obtain ⟨⟨hP1, hD1⟩, rfl⟩ := hB
  rw [ht] at hP1
  obtain ⟨a1, a2⟩ := wFrame hP hD hk1 hF hP1 hD1
  exact kk u H1 locs1 hw a1 a2 hS1
theorem wCVim {post : Int32 → S → Prop} {W0 pre Wc suf : va_W} (F : CallFix p m c cc nL s args Ts own) (hM : wCt l y ws rm D tysc (.ref b :: As) Wc H.size mc ms (wQi D post Wf)) (hN : wNest s) (hA : ∀ q : Nat, H0.size ≤ q → A0 q) (hK : va_K D vwCl tysc s) (hS : va_S A0 H0 H locs) (hP : va_P D vwCl W0 H) (hD : va_D A0 W0) (hW0 : W0 = pre ++ (Wc ++ suf)) (q0 : Nat) {ci : Nat} {fs : List Value} {r : vw_C} (hc : vwCl[ci]? = some r) (he : Wc[q0]? = some (b, .inr (ci, fs)))
    (cw : CallW R s args own r.1 index y bytes maxL ret ws rm mc ms n) (hn : As.length = n) (hz : ls.size = nL) (hst : st0 = As.reverse ++ .ref b :: rest) (hr : (rest.map fun v => v.category).sum ≤ 8) (hdg : decode cc pc = .ok (.invokevirtual index, 3)) (hf : cells + mc ≤ R.cells ∧ slots + ms ≤ R.slots)
    (kk : ∀ (r : Int32) (u : S) (H1 : Heap) (locs1 : List Loc), post r u → va_P D vwCl (pre ++ (Wf u ++ suf)) H1 → va_D A0 (pre ++ (Wf u ++ suf)) → va_S A0 H0 H1 locs1 → W p l e R s m args below meth c H1 locs1 (cells + mc) (slots + ms) Q (F0 m (pc + 3) ls (.int r :: rest))) : W p l e R s m args below meth c H locs cells slots Q (F0 m pc ls st0) := by
  subst hW0
  exact wKim (va_runV (As := As) (rest := rest) F hM cw (wPreV hN hK hP hD q0 hc he) rfl hn hz hst (lv_room hr) hdg hf) hP hD hS hA kk
theorem wCVrm {post : S → Prop} {W0 pre Wc suf : va_W} (F : CallFix p m c cc nL s args Ts own) (hM : wCt l y ws rm D tysc (.ref b :: As) Wc H.size mc ms (wQr D post Wf af)) (hN : wNest s) (hA : ∀ q : Nat, H0.size ≤ q → A0 q) (hK : va_K D vwCl tysc s) (hS : va_S A0 H0 H locs) (hP : va_P D vwCl W0 H) (hD : va_D A0 W0) (hW0 : W0 = pre ++ (Wc ++ suf)) (q0 : Nat) {ci : Nat} {fs : List Value} {r : vw_C} (hc : vwCl[ci]? = some r) (he : Wc[q0]? = some (b, .inr (ci, fs)))
    (cw : CallW R s args own r.1 index y bytes maxL ret ws rm mc ms n) (hn : As.length = n) (hz : ls.size = nL) (hst : st0 = As.reverse ++ .ref b :: rest) (hr : (rest.map fun v => v.category).sum ≤ 8) (hdg : decode cc pc = .ok (.invokevirtual index, 3)) (hf : cells + mc ≤ R.cells ∧ slots + ms ≤ R.slots)
    (kk : ∀ (u : S) (H1 : Heap) (locs1 : List Loc), post u → va_P D vwCl (pre ++ (Wf u ++ suf)) H1 → va_D A0 (pre ++ (Wf u ++ suf)) → va_S A0 H0 H1 locs1 → W p l e R s m args below meth c H1 locs1 (cells + mc) (slots + ms) Q (F0 m (pc + 3) ls (.ref (af u) :: rest))) : W p l e R s m args below meth c H locs cells slots Q (F0 m pc ls st0) := by
  subst hW0
  exact wKrm (va_runV (As := As) (rest := rest) F hM cw (wPreV hN hK hP hD q0 hc he) rfl hn hz hst (lv_room hr) hdg hf) hP hD hS hA kk
theorem wCSrm {post : S → Prop} {W0 pre Wc suf : va_W} (F : CallFix p m c cc nL s args Ts own) (hM : wCt l y ws rm D tysc As Wc H.size mc ms (wQr D post Wf af)) (hN : wNest s) (hA : ∀ q : Nat, H0.size ≤ q → A0 q) (hK : va_K D vwCl tysc s) (hS : va_S A0 H0 H locs) (hP : va_P D vwCl W0 H) (hD : va_D A0 W0) (hW0 : W0 = pre ++ (Wc ++ suf))
    (cw : CallB R s args own index y bytes maxL ret ws rm mc ms n ∧ (Cond.static y).before args s = true) (hn : As.length = n) (hz : ls.size = nL) (hst : st0 = As.reverse ++ rest) (hr : (rest.map fun v => v.category).sum ≤ 8) (hdg : decode cc pc = .ok (.invokestatic index, 3)) (hf : cells + mc ≤ R.cells ∧ slots + ms ≤ R.slots)
    (kk : ∀ (u : S) (H1 : Heap) (locs1 : List Loc), post u → va_P D vwCl (pre ++ (Wf u ++ suf)) H1 → va_D A0 (pre ++ (Wf u ++ suf)) → va_S A0 H0 H1 locs1 → W p l e R s m args below meth c H1 locs1 (cells + mc) (slots + ms) Q (F0 m (pc + 3) ls (.ref (af u) :: rest))) : W p l e R s m args below meth c H locs cells slots Q (F0 m pc ls st0) := by
  subst hW0
  exact wKrm (va_runS (As := As) (rest := rest) F hM cw (wPreS hN hK hP hD) rfl hn hz hst (lv_room hr) hdg hf) hP hD hS hA kk
/-- a constructor, its row types known before -/
theorem wCIv {post : S → Prop} {W0 pre Wc suf : va_W} (F : CallFix p m c cc nL s args Ts own) (hM : wCt l y ws rm D tysc (.ref b :: As) Wc H.size mc ms (wQv D post Wf)) (hN : wNest s) (hA : ∀ q : Nat, H0.size ≤ q → A0 q) (hK : va_K D vwCl tysc s) (hS : va_S A0 H0 H locs) (hP : va_P D vwCl W0 H) (hD : va_D A0 W0) (hW0 : W0 = pre ++ (Wc ++ suf))
    (cw : CallB R s args own index y bytes maxL none ws rm mc ms n ∧ y.name = "<init>" ∧ (Cond.instanceMethod y).before args s = true) (hn : As.length = n) (hz : ls.size = nL) (hst : st0 = As.reverse ++ .ref b :: rest) (hr : (rest.map fun v => v.category).sum ≤ 8) (hdg : decode cc pc = .ok (.invokespecial index, 3)) (hf : cells + mc ≤ R.cells ∧ slots + ms ≤ R.slots)
    (kk : ∀ (u : S) (H1 : Heap) (locs1 : List Loc), post u → va_P D vwCl (pre ++ (Wf u ++ suf)) H1 → va_D A0 (pre ++ (Wf u ++ suf)) → va_S A0 H0 H1 locs1 → W p l e R s m args below meth c H1 locs1 (cells + mc) (slots + ms) Q (F0 m (pc + 3) ls rest)) : W p l e R s m args below meth c H locs cells slots Q (F0 m pc ls st0) := by
  subst hW0
  have hF := wFree (D := D) hD hS hA
  refine va_callv (va_runI (As := As) (rest := rest) F hM cw (wPreS hN hK hP hD) rfl hn hz hst (lv_room hr) hdg hf) hS (fun q _ h => hF q h) hF (fun u t H1 locs1 ht hvm hw hB hz1 hk1 hS1 => ?_)
  obtain ⟨hP1, hD1⟩ := hB
  rw [ht] at hP1
  obtain ⟨a1, a2⟩ := wFrame hP hD hk1 hF hP1 hD1
  exact kk u H1 locs1 hw a1 a2 hS1
/-- a method that reads the script: its row lies outside the world -/
def wPreC (D : va_G) (tys : List (ClassId × FieldType)) (W0 : va_W) (sz sb L : Nat) (xs : Nat → Int32) (U : State) : Prop := wPre D tys W0 sz U ∧ va_X sb L xs U U.heap ∧ sb < sz ∧ ¬ va_A W0 sz sb
abbrev wCc (l : Launch) (y : MethodName) (ws : List Cond) (rm : Room) (D : va_G) (tys : List (ClassId × FieldType)) (av : List Value) (W0 : va_W) (sz mc ms sb L : Nat) (xs : Nat → Int32) (Qf : (Nat → Prop) → Array Value → State → Outcome → State → Prop) : Prop :=
  Met l y ws rm (va_Pc av (wPreC D tys W0 sz sb L xs)) (Qf (va_A W0 sz)) mc ms (va_A W0 sz)
theorem wBlindC {av : List Value} {W0 : va_W} {sz sb L : Nat} {xs : Nat → Int32} : FrameBlind (va_Pc av (wPreC D tys W0 sz sb L xs)) := fun a U g mk q => by
  obtain ⟨e, ⟨hz, hP, hK, hD, hN⟩, hX, h2, h3⟩ := q
  exact ⟨e, ⟨hz, hP, va_K.moved (u := U) (U := U.calling g mk a) (Vm.Alike.refl U.vm) hK, hD, wNest.same rfl hN⟩, va_X.moved (u := U) (U := U.calling g mk a) (Vm.Alike.refl U.vm) hX, h2, h3⟩
theorem wMetC {av : List Value} {W0 : va_W} {sz sb L : Nat} {xs : Nat → Int32} {ws' : List Cond} {Qf : (Nat → Prop) → Array Value → State → Outcome → State → Prop} (cc : ByteArray) (maxL : Nat) (ret : Option FieldType)
    (hy : plainName y.cls = true) (hw : ws = Cond.code y cc maxL ret :: ws') (hle : (lg_sl av).length ≤ maxL)
    (body : ∀ (p : Program) (e : Env) (s : State) (m : MethodId) (args : Array Value) (below : List Frame) (meth : Method) (c : Code) (A : Nat → Prop) (Q : State → Prop) (ls : Array Slot), MQ below (Qf A) args s mc ms A = Q → p.tables.exec = Jvm.exec → c.code = cc → meth.sig.returnType = ret → c.maxLocals = maxL → s.vm.findClass y.cls = some m.cls → meth.locks = false → meth.name = y.name → (∀ w ∈ ws, w.before args s = true) → wNest s → va_P D vwCl W0 s.heap → va_K D vwCl tys s → va_D A W0 → (∀ q : Nat, s.heap.size ≤ q → A q) → va_S A s.heap s.heap [] → lv_has ls maxL (lv_args 0 av) → va_X sb L xs s s.heap → sb < s.heap.size → ¬ A sb → W p l e rm s m args below meth c s.heap [] 0 0 Q (F0 m 0 ls [])) :
    wCc l y ws rm D tys av W0 sz mc ms sb L xs Qf := by
  refine Met.ofW (cc := cc) (maxL := maxL) (ret := ret) hy hw ?_
  intro p e s m args below meth c s₁ B hml hv
  obtain ⟨rfl, ⟨hsz, hP, hK, hD0, hN⟩, hX, h2, h3⟩ := hv
  have hts := atoms_spec (ws := ws) B.pre
  have hin := (name_of_methodNamed B.named B.method).1
  subst hsz
  have hD := hD0.self (sz := s.heap.size)
  have hl := lv_entry av (n := maxL) hle
  rw [lg_entry_eq]
  exact body p e s m av.toArray below meth c (va_A W0 s.heap.size) _ _ rfl B.exec B.bytes B.returns hml (findClass_of_methodNamed B.named) B.notSynchronized hin hts hN hP hK hD (fun q h => Or.inr h) va_S.rf hl hX h2 h3
theorem wPreSc {pre Wc suf : va_W} {sb L : Nat} {xs : Nat → Int32} (hN : wNest s) (hK : va_K D vwCl tys s) (hP : va_P D vwCl (pre ++ (Wc ++ suf)) H) (hD : va_D A0 (pre ++ (Wc ++ suf))) (hS : va_S A0 s.heap H locs) (hA : ∀ q : Nat, s.heap.size ≤ q → A0 q) (hX : va_X sb L xs s s.heap) (hbl : sb < s.heap.size) (hbA : ¬ A0 sb) {av : List Value} : PreS s H (va_Pc av (wPreC D tys Wc H.size sb L xs)) av :=
  ⟨wBlindC, fun U hU hW => ⟨rfl, ⟨by rw [hU], by rw [hU]; exact wPc hP, va_K.moved hW.alike hK, wDc hD, wNest.warm hW hN⟩, by rw [hU]; exact va_X.moved hW.alike (hX.kept (hS.2.1 sb hbl hbA)), Nat.lt_of_lt_of_le hbl hS.1, fun h => hbA (wFree (D := D) hD hS hA sb h)⟩⟩
theorem wCSic {post : Int32 → S → Prop} {W0 pre Wc suf : va_W} {sb L : Nat} {xs : Nat → Int32} (F : CallFix p m c cc nL s args Ts own) (hM : wCc l y ws rm D tysc As Wc H.size mc ms sb L xs (wQi D post Wf)) (hN : wNest s) (hA : ∀ q : Nat, s.heap.size ≤ q → A0 q) (hX : va_X sb L xs s s.heap) (hbl : sb < s.heap.size) (hbA : ¬ A0 sb) (hK : va_K D vwCl tysc s) (hS : va_S A0 s.heap H locs) (hP : va_P D vwCl W0 H) (hD : va_D A0 W0) (hW0 : W0 = pre ++ (Wc ++ suf))
    (cw : CallB R s args own index y bytes maxL ret ws rm mc ms n ∧ (Cond.static y).before args s = true) (hn : As.length = n) (hz : ls.size = nL) (hst : st0 = As.reverse ++ rest) (hr : (rest.map fun v => v.category).sum ≤ 8) (hdg : decode cc pc = .ok (.invokestatic index, 3)) (hf : cells + mc ≤ R.cells ∧ slots + ms ≤ R.slots)
    (kk : ∀ (r : Int32) (u : S) (H1 : Heap) (locs1 : List Loc), post r u → va_P D vwCl (pre ++ (Wf u ++ suf)) H1 → va_D A0 (pre ++ (Wf u ++ suf)) → va_S A0 s.heap H1 locs1 → W p l e R s m args below meth c H1 locs1 (cells + mc) (slots + ms) Q (F0 m (pc + 3) ls (.int r :: rest))) : W p l e R s m args below meth c H locs cells slots Q (F0 m pc ls st0) := by
  subst hW0
  exact wKim (va_runS (As := As) (rest := rest) F hM cw (wPreSc hN hK hP hD hS hA hX hbl hbA) rfl hn hz hst (lv_room hr) hdg hf) hP hD hS hA kk
theorem wCSrc {post : S → Prop} {W0 pre Wc suf : va_W} {sb L : Nat} {xs : Nat → Int32} (F : CallFix p m c cc nL s args Ts own) (hM : wCc l y ws rm D tysc As Wc H.size mc ms sb L xs (wQr D post Wf af)) (hN : wNest s) (hA : ∀ q : Nat, s.heap.size ≤ q → A0 q) (hX : va_X sb L xs s s.heap) (hbl : sb < s.heap.size) (hbA : ¬ A0 sb) (hK : va_K D vwCl tysc s) (hS : va_S A0 s.heap H locs) (hP : va_P D vwCl W0 H) (hD : va_D A0 W0) (hW0 : W0 = pre ++ (Wc ++ suf))
    (cw : CallB R s args own index y bytes maxL ret ws rm mc ms n ∧ (Cond.static y).before args s = true) (hn : As.length = n) (hz : ls.size = nL) (hst : st0 = As.reverse ++ rest) (hr : (rest.map fun v => v.category).sum ≤ 8) (hdg : decode cc pc = .ok (.invokestatic index, 3)) (hf : cells + mc ≤ R.cells ∧ slots + ms ≤ R.slots)
    (kk : ∀ (u : S) (H1 : Heap) (locs1 : List Loc), post u → va_P D vwCl (pre ++ (Wf u ++ suf)) H1 → va_D A0 (pre ++ (Wf u ++ suf)) → va_S A0 s.heap H1 locs1 → W p l e R s m args below meth c H1 locs1 (cells + mc) (slots + ms) Q (F0 m (pc + 3) ls (.ref (af u) :: rest))) : W p l e R s m args below meth c H locs cells slots Q (F0 m pc ls st0) := by
  subst hW0
  exact wKrm (va_runS (As := As) (rest := rest) F hM cw (wPreSc hN hK hP hD hS hA hX hbl hbA) rfl hn hz hst (lv_room hr) hdg hf) hP hD hS hA kk
end SR
end
section
/-! What the law's dinner does, as functions: f its ints, r its rows (both in the order of the class's Dinner), G its glances (from, to, seconds to go), k of them. -/
section SP
theorem nI_m1 {q : Nat} (h : q < 2 ^ 31) : ¬ nI q = -1 := by
  intro e
  have h1 := nI_pos' h
  rw [e] at h1
  exact absurd h1 (by decide)
theorem nI_m1' {g : Nat} (h : 0 < g) : nI g - 1 = nI (g - 1) := by
  have e : nI g = nI (g - 1) + nI 1 := by rw [nI_add]; congr 1; omega
  rw [e, show nI 1 = 1 from rfl, Int32.add_sub_cancel]
theorem mUp {f : Nat → Int32} {k j : Nat} {x : Int32} (h : j ≠ k) : upd f k x j = f j := pk_un h
theorem mUs {f : Nat → Int32} {k : Nat} {x : Int32} : upd f k x k = x := pk_us
theorem vaUp {α : Type} {r : Nat → α} {k j : Nat} {x : α} (h : j ≠ k) : va_up r k x j = r j := if_neg h
theorem vaUs {α : Type} {r : Nat → α} {k : Nat} {x : α} : va_up r k x k = x := if_pos rfl
abbrev sS : Type := (Nat → Int32) × (Nat → Nat → Int32) × (Nat → Nat → Int32)
/-- seats between two guests -/
def sN (n x y : Nat) : Nat := if (x - y) + (y - x) ≤ n - ((x - y) + (y - x)) then (x - y) + (y - x) else n - ((x - y) + (y - x))
theorem sN_all : ∀ n : Fin 11, ∀ x y : Fin 10, x.val < n.val → y.val < n.val → dSeats (nI n.val) (nI x.val) (nI y.val) = nI (sN n.val x.val y.val) ∧ sN n.val x.val y.val ≤ 5 ∧ (∀ i : Fin 6, i.val < sN n.val x.val y.val → ¬ (x.val + i.val) % n.val = y.val ∧ ¬ (y.val + i.val) % n.val = x.val) ∧ ((x.val + sN n.val x.val y.val) % n.val = y.val ∨ (y.val + sN n.val x.val y.val) % n.val = x.val) := by decide +kernel
theorem sN_eq {n x y : Nat} (hn : n ≤ 10) (ux : x < n) (uy : y < n) : dSeats (nI n) (nI x) (nI y) = nI (sN n x y) := (sN_all ⟨n, by omega⟩ ⟨x, by omega⟩ ⟨y, by omega⟩ ux uy).1
theorem sN_le {n x y : Nat} (hn : n ≤ 10) (ux : x < n) (uy : y < n) : sN n x y ≤ 5 := (sN_all ⟨n, by omega⟩ ⟨x, by omega⟩ ⟨y, by omega⟩ ux uy).2.1
theorem sN_lt {n x y i : Nat} (hn : n ≤ 10) (ux : x < n) (uy : y < n) (hi : i < sN n x y) : ¬ (x + i) % n = y ∧ ¬ (y + i) % n = x := (sN_all ⟨n, by omega⟩ ⟨x, by omega⟩ ⟨y, by omega⟩ ux uy).2.2.1 ⟨i, by have := sN_le hn ux uy; omega⟩ hi
theorem sN_end {n x y : Nat} (hn : n ≤ 10) (ux : x < n) (uy : y < n) : (x + sN n x y) % n = y ∨ (y + sN n x y) % n = x := (sN_all ⟨n, by omega⟩ ⟨x, by omega⟩ ⟨y, by omega⟩ ux uy).2.2.2
/-- q and the first cells of a row, added -/
def sAll (q : Int32) (u : Nat → Int32) : Nat → Int32
  | 0 => q
  | i + 1 => sAll q u i + u i
theorem sAll_eq (q : Int32) (u : Nat → Int32) : ∀ n, sAll q u n = dSum u n + q
  | 0 => by
    show q = 0 + q
    rw [Int32.zero_add]
  | n + 1 => by
    show sAll q u n + u n = dSum u n + u n + q
    rw [sAll_eq q u n, Int32.add_assoc, Int32.add_assoc, Int32.add_comm q]
def sMade (e : Int32) : Int32 := if e < 4 then 6 + e else 14 - e
def sRated (e : Int32) : Int32 := if sMade e < 0 then 0 else sMade e
/-- the first glance there, or -1 -/
def sFind (G : Nat → Nat → Int32) (x y : Int32) : Nat → Nat → Int32
  | 0, _ => -1
  | j + 1, i => if G i 0 = x ∧ G i 1 = y ∧ 0 ≤ G i 2 then nI i else sFind G x y j (i + 1)
theorem sFind_lt (G : Nat → Nat → Int32) (x y : Int32) : ∀ j i, (sFind G x y j i = -1 ∧ ∀ q, i ≤ q → q < i + j → ¬ (G q 0 = x ∧ G q 1 = y ∧ 0 ≤ G q 2)) ∨ ∃ q, i ≤ q ∧ q < i + j ∧ sFind G x y j i = nI q ∧ G q 0 = x ∧ G q 1 = y ∧ 0 ≤ G q 2
  | 0, i => Or.inl ⟨rfl, fun q h1 h2 => by omega⟩
  | j + 1, i => by
    by_cases h : G i 0 = x ∧ G i 1 = y ∧ 0 ≤ G i 2
    · refine Or.inr ⟨i, Nat.le_refl i, by omega, ?_, h⟩
      unfold sFind
      rw [if_pos h]
    · have e : sFind G x y (j + 1) i = sFind G x y j (i + 1) := by
        show (if G i 0 = x ∧ G i 1 = y ∧ 0 ≤ G i 2 then nI i else sFind G x y j (i + 1)) = _
        rw [if_neg h]
      rcases sFind_lt G x y j (i + 1) with ⟨h1, h2⟩ | ⟨q, h1, h2, h3, h4⟩
      · refine Or.inl ⟨by rw [e]; exact h1, fun q a1 a2 => ?_⟩
        by_cases hq : q = i
        · subst hq
          exact h
        · exact h2 q (by omega) (by omega)
      · exact Or.inr ⟨q, by omega, by omega, by rw [e]; exact h3, h4⟩
/-- whether a glance is under way, which are, and how many -/
def sLive (G : Nat → Nat → Int32) (i : Nat) : Bool := decide (0 ≤ G i 2)
def sIds (G : Nat → Nat → Int32) (k : Nat) : List Nat := (List.range k).filter (sLive G)
def sCnt (G : Nat → Nat → Int32) (i : Nat) : Nat := (sIds G i).length
def sSel (G : Nat → Nat → Int32) (k j : Nat) : Nat := (sIds G k).getD j 0
theorem sIds_s (G : Nat → Nat → Int32) (i : Nat) : sIds G (i + 1) = sIds G i ++ (if 0 ≤ G i 2 then [i] else []) := by
  unfold sIds
  rw [List.range_succ, List.filter_append]
  congr 1
  by_cases h : 0 ≤ G i 2
  · rw [if_pos h]
    simp [sLive, h]
  · rw [if_neg h]
    simp [sLive, h]
theorem sCnt_t {G : Nat → Nat → Int32} {i : Nat} (h : 0 ≤ G i 2) : sCnt G (i + 1) = sCnt G i + 1 := by
  unfold sCnt
  rw [sIds_s, if_pos h, List.length_append]
  rfl
theorem sCnt_f {G : Nat → Nat → Int32} {i : Nat} (h : ¬ 0 ≤ G i 2) : sCnt G (i + 1) = sCnt G i := by
  unfold sCnt
  rw [sIds_s, if_neg h, List.append_nil]
theorem sCnt_le (G : Nat → Nat → Int32) : ∀ i, sCnt G i ≤ i
  | 0 => Nat.le_refl 0
  | i + 1 => by
    have h := sCnt_le G i
    by_cases e : 0 ≤ G i 2
    · rw [sCnt_t e]; omega
    · rw [sCnt_f e]; omega
theorem sCnt_mono (G : Nat → Nat → Int32) (i : Nat) : ∀ d, sCnt G i ≤ sCnt G (i + d)
  | 0 => Nat.le_refl _
  | d + 1 => by
    have h := sCnt_mono G i d
    have e9 : i + (d + 1) = (i + d) + 1 := by omega
    rw [e9]
    by_cases e : 0 ≤ G (i + d) 2
    · rw [sCnt_t e]; omega
    · rw [sCnt_f e]; omega
theorem sIds_pre (G : Nat → Nat → Int32) (i : Nat) : ∀ d, ∃ T, sIds G (i + d) = sIds G i ++ T
  | 0 => ⟨[], by rw [List.append_nil]; rfl⟩
  | d + 1 => by
    obtain ⟨T, h⟩ := sIds_pre G i d
    have e9 : i + (d + 1) = (i + d) + 1 := by omega
    exact ⟨T ++ (if 0 ≤ G (i + d) 2 then [i + d] else []), by rw [e9, sIds_s, h, List.append_assoc]⟩
theorem sSel_cnt {G : Nat → Nat → Int32} {k i : Nat} (hi : i < k) (h : 0 ≤ G i 2) : sSel G k (sCnt G i) = i := by
  obtain ⟨T, e⟩ := sIds_pre G (i + 1) (k - (i + 1))
  have ek : i + 1 + (k - (i + 1)) = k := by omega
  rw [ek] at e
  unfold sSel sCnt
  rw [e, sIds_s, if_pos h, List.append_assoc, List.getD_eq_getElem?_getD, List.getElem?_append_right (Nat.le_refl _), Nat.sub_self]
  rfl
/-- the places of the row that is made, i glances looked at -/
def sMk (ga : Nat → Nat) (G : Nat → Nat → Int32) (k i : Nat) : Nat → Option Nat := fun j => if j < sCnt G i then some (ga (sSel G k j)) else none
theorem sMk_0 (ga : Nat → Nat) (G : Nat → Nat → Int32) (k : Nat) : sMk ga G k 0 = fun _ => none := by
  funext j
  have h : sCnt G 0 = 0 := rfl
  unfold sMk
  rw [h, if_neg (by omega)]
theorem sMk_t {ga : Nat → Nat} {G : Nat → Nat → Int32} {k i : Nat} (hi : i < k) (h : 0 ≤ G i 2) : va_up (sMk ga G k i) (sCnt G i) (some (ga i)) = sMk ga G k (i + 1) := by
  funext j
  unfold sMk
  rw [sCnt_t h]
  by_cases e : j = sCnt G i
  · subst e
    rw [vaUs, if_pos (by omega), sSel_cnt hi h]
  · rw [vaUp e]
    by_cases e2 : j < sCnt G i
    · rw [if_pos e2, if_pos (by omega)]
    · rw [if_neg e2, if_neg (by omega)]
theorem sMk_f {ga : Nat → Nat} {G : Nat → Nat → Int32} {k i : Nat} (h : ¬ 0 ≤ G i 2) : sMk ga G k (i + 1) = sMk ga G k i := by
  funext j
  unfold sMk
  rw [sCnt_f h]
/-- behind a sending: where the glances lie, and what they are -/
def sGa (ga : Nat → Nat) (G : Nat → Nat → Int32) (k q : Nat) : Nat → Nat := fun j => if j < sCnt G k then ga (sSel G k j) else q
def sRow (x y w : Int32) : Nat → Int32 := upd (upd (upd (fun _ => 0) 0 x) 1 y) 2 w
def sGn (G : Nat → Nat → Int32) (k : Nat) (x y w : Int32) : Nat → Nat → Int32 := fun j => if j < sCnt G k then G (sSel G k j) else sRow x y w
/-- a second -/
def sDec (G : Nat → Nat → Int32) : Nat → (Nat → Nat → Int32)
  | 0 => G
  | i + 1 => if 0 < sDec G i i 2 then gUp (sDec G i) i 2 (sDec G i i 2 - 1) else sDec G i
def sBack (k : Nat) (s : sS) (i : Nat) : Int32 := sFind s.2.2 (s.2.2 i 1) (s.2.2 i 0) k 0
def sArr (k : Nat) (s : sS) (i : Nat) : sS :=
  if 0 ≤ sBack k s i then (upd s.1 7 (s.1 7 + 1), va_up s.2.1 3 (upd (upd (s.2.1 3) (dN (s.2.2 i 0)) (s.2.1 3 (dN (s.2.2 i 0)) + 3)) (dN (s.2.2 i 1)) (upd (s.2.1 3) (dN (s.2.2 i 0)) (s.2.1 3 (dN (s.2.2 i 0)) + 3) (dN (s.2.2 i 1)) + 3)), gUp (gUp s.2.2 i 2 (-1)) (dN (sBack k s i)) 2 (-1))
  else if s.1 3 = s.2.2 i 1 then (upd s.1 8 (s.1 8 + 1), s.2.1, gUp s.2.2 i 2 (-1))
  else (s.1, va_up (va_up s.2.1 3 (upd (s.2.1 3) (dN (s.2.2 i 0)) (s.2.1 3 (dN (s.2.2 i 0)) + 1))) 5 (upd (s.2.1 5) (dN (s.2.2 i 0) * 10 + dN (s.2.2 i 1)) (s.2.1 5 (dN (s.2.2 i 0) * 10 + dN (s.2.2 i 1)) + 1)), gUp s.2.2 i 2 (-1))
def sArrs (k : Nat) (s : sS) : Nat → sS
  | 0 => s
  | i + 1 => if (sArrs k s i).2.2 i 2 = 0 then sArr k (sArrs k s i) i else sArrs k s i
def sPass (k : Nat) (s : sS) : sS := (upd (sArrs k ((dTalk s.1 s.2.1).1, (dTalk s.1 s.2.1).2, sDec s.2.2 k) k).1 1 ((sArrs k ((dTalk s.1 s.2.1).1, (dTalk s.1 s.2.1).2, sDec s.2.2 k) k).1 1 + 1), (sArrs k ((dTalk s.1 s.2.1).1, (dTalk s.1 s.2.1).2, sDec s.2.2 k) k).2.1, (sArrs k ((dTalk s.1 s.2.1).1, (dTalk s.1 s.2.1).2, sDec s.2.2 k) k).2.2)
def sGo (k : Nat) (s : sS) : Nat → sS
  | 0 => s
  | i + 1 => sPass k (sGo k s i)
theorem sDec_c {G : Nat → Nat → Int32} {j c : Nat} (h : c ≠ 2) : ∀ i, sDec G i j c = G j c
  | 0 => rfl
  | i + 1 => by
    have ih := sDec_c (G := G) (j := j) h i
    unfold sDec
    split
    · rw [gUp_j h]; exact ih
    · exact ih
theorem sArr_c {k : Nat} {s : sS} {i j c : Nat} (h : c ≠ 2) : (sArr k s i).2.2 j c = s.2.2 j c := by
  unfold sArr
  split
  · show gUp (gUp _ _ _ _) _ _ _ j c = _
    rw [gUp_j h, gUp_j h]
  · split
    · show gUp _ _ _ _ j c = _
      rw [gUp_j h]
    · show gUp _ _ _ _ j c = _
      rw [gUp_j h]
theorem sArrs_c {k : Nat} {s : sS} {j c : Nat} (h : c ≠ 2) : ∀ i, (sArrs k s i).2.2 j c = s.2.2 j c
  | 0 => rfl
  | i + 1 => by
    have ih := sArrs_c (k := k) (s := s) (j := j) h i
    unfold sArrs
    split
    · rw [sArr_c h]; exact ih
    · exact ih
theorem sFind_in {G : Nat → Nat → Int32} {x y : Int32} {k : Nat} (hk : k ≤ 100) (h : 0 ≤ sFind G x y k 0) : ∃ q, q < k ∧ sFind G x y k 0 = nI q ∧ dN (sFind G x y k 0) = q := by
  rcases sFind_lt G x y k 0 with ⟨h1, -⟩ | ⟨q, -, h2, h3, -⟩
  · rw [h1] at h
    exact absurd h (by decide)
  · exact ⟨q, by omega, h3, by rw [h3]; exact dN_nI (by omega)⟩
end SP
end
section
/-! New cells put ahead of the world; rows that agree. -/
section SQ
theorem wEq.rowq {D : va_G} {ws ws' : va_W} {cR : ClassId} {q N : Nat} {h h' : Nat → Option Nat} (hg : ∀ j, j < N → h j = h' j) (hw : wEq D ws ws') : wEq D (QA cR q N h :: ws) (QA cR q N h' :: ws') := wEq.cons (fun H h1 => by
  have h2 : H[q]? = some (vp_cell cR (N, .inr (.inr (.inr (.inr h))))) := h1
  have e : (Array.ofFn (n := N) fun j => va_rf (h j.val)) = Array.ofFn (n := N) fun j => va_rf (h' j.val) := congrArg Array.ofFn (funext fun j => by rw [hg j.val j.isLt])
  have e2 : vp_cell cR (N, .inr (.inr (.inr (.inr h)))) = vp_cell cR (N, .inr (.inr (.inr (.inr h')))) := by
    show arrV cR N (fun j => va_rf (h j)) = arrV cR N (fun j => va_rf (h' j))
    unfold arrV
    rw [e]
  rw [e2] at h2
  exact h2) hw
theorem wRotP {D : va_G} {X Y : va_W} {H : Heap} (h : va_P D vwCl (X ++ Y) H) : va_P D vwCl (Y ++ X) H := wPsub (fun q hq => List.mem_append.mpr ((List.mem_append.mp hq).symm)) h
theorem wRotD {A : Nat → Prop} {X Y : va_W} (h : va_D A (X ++ Y)) : va_D A (Y ++ X) := wDperm List.perm_append_comm h
variable {p : Program} {l : Launch} {e : Env} {R : Room} {s : State} {m : MethodId} {args : Array Value} {below : List Frame} {meth : Method} {c : Code} {H : Heap} {locs : List Loc} {cells slots : Nat} {Q : State → Prop}
variable {cc : ByteArray} {index : Nat} {own : String} {rest : List Value} {pc : Nat} {ls : Array Slot} {D : va_G} {tys : List (ClassId × FieldType)} {A0 : Nat → Prop} {H0 : Heap}
theorem wAnewF {W0 : va_W} (hx : p.tables.exec = Jvm.exec) (hb : c.code = cc) (hown : s.vm.findClass own = some m.cls) (hlink : (Cond.classLink own index "[I").before args s = true) (hN : wNest s) (hK : va_K D vwCl tys s) (hP : va_P D vwCl W0 H) (hD : va_D A0 W0) (hS : va_S A0 H0 H locs) (hA : ∀ q, H0.size ≤ q → A0 q) (t0 : Nat) {cR : ClassId} (ht : tys[t0]? = some (cR, .array .int)) {i : Int32} (k : Nat) (hi : i = nI k) (hk : k < 2 ^ 20) (hf : cells + 1 ≤ R.cells ∧ slots + k ≤ R.slots) (hdg : decode cc pc = .ok (.anewarray index, 3))
    (kk : ∀ (q : Nat) (H1 : Heap), va_P D vwCl ([QA cR q k (fun _ => none)] ++ W0) H1 → va_D A0 ([QA cR q k (fun _ => none)] ++ W0) → va_S A0 H0 H1 locs → W p l e R s m args below meth c H1 locs (cells + 1) (slots + k) Q (F0 m (pc + 3) ls (.ref q :: rest))) : W p l e R s m args below meth c H locs cells slots Q (F0 m pc ls (.int i :: rest)) :=
  wAnew hx hb hown hlink hN hK hP hD hS hA t0 ht k hi hk hf hdg (fun q H1 a1 a2 a3 => kk q H1 (wRotP a1) (wRotD a2) a3)
theorem wNewiF {W0 : va_W} (hx : p.tables.exec = Jvm.exec) (hb : c.code = cc) (harr : (Cond.arrayClass .int).before args s = true) (hK : va_K D vwCl tys s) (hP : va_P D vwCl W0 H) (hD : va_D A0 W0) (hS : va_S A0 H0 H locs) (hA : ∀ q, H0.size ≤ q → A0 q) (t1 : Nat) {cI : ClassId} (ht1 : tys[t1]? = some (cI, .int)) {i : Int32} (k : Nat) (hi : i = nI k) (hk : k < 2 ^ 20) (hf : cells + 1 ≤ R.cells ∧ slots + k ≤ R.slots) (hdg : decode cc pc = .ok (.newarray .int, 2))
    (kk : ∀ (q : Nat) (H1 : Heap), va_P D vwCl ([(q, .inl (cI, k, .inl (fun _ => 0)))] ++ W0) H1 → va_D A0 ([(q, .inl (cI, k, .inl (fun _ => 0)))] ++ W0) → va_S A0 H0 H1 locs → W p l e R s m args below meth c H1 locs (cells + 1) (slots + k) Q (F0 m (pc + 2) ls (.ref q :: rest))) : W p l e R s m args below meth c H locs cells slots Q (F0 m pc ls (.int i :: rest)) :=
  wNewi hx hb harr hK hP hD hS hA t1 ht1 k hi hk hf hdg (fun q H1 a1 a2 a3 => kk q H1 (wRotP a1) (wRotD a2) a3)
/-- the row of rows ahead, the rows behind -/
theorem wMnaF {W0 : va_W} (hx : p.tables.exec = Jvm.exec) (hb : c.code = cc) (hown : s.vm.findClass own = some m.cls) (hlink : (Cond.classLink own index "[[I").before args s = true) (harr : (Cond.arrayClass .int).before args s = true) (hN : wNest s) (hK : va_K D vwCl tys s) (hP : va_P D vwCl W0 H) (hD : va_D A0 W0) (hS : va_S A0 H0 H locs) (hA : ∀ q, H0.size ≤ q → A0 q) (t0 t1 : Nat) {cI cR : ClassId} (ht : tys[t0]? = some (cR, .array .int)) (ht1 : tys[t1]? = some (cI, .int)) {i j : Int32} (N K : Nat) (hi : i = nI N) (hj : j = nI K) (hN1 : N ≤ 1000) (hK1 : K ≤ 1000) (hf : cells + (1 + N) ≤ R.cells ∧ slots + (N + N * K) ≤ R.slots) (hdg : decode cc pc = .ok (.multianewarray index 2, 4))
    (kk : ∀ (q : Nat) (rr : Nat → Nat) (H1 : Heap), va_P D vwCl ([QA cR q N (RF N rr)] ++ (W0 ++ RW cI rr N K (fun _ _ => 0))) H1 → va_D A0 ([QA cR q N (RF N rr)] ++ (W0 ++ RW cI rr N K (fun _ _ => 0))) → va_S A0 H0 H1 locs → W p l e R s m args below meth c H1 locs (cells + 1 + N) (slots + N + N * K) Q (F0 m (pc + 4) ls (.ref q :: rest))) : W p l e R s m args below meth c H locs cells slots Q (F0 m pc ls (.int j :: .int i :: rest)) :=
  wMna hx hb hown hlink harr hN hK hP hD hS hA t0 t1 ht ht1 N K hi hj hN1 hK1 hf hdg (fun q rr H1 a1 a2 a3 => kk q rr H1
    (wPsub (fun z hz => by
      simp only [List.mem_append] at hz ⊢
      rcases hz with h | h | h
      · exact Or.inr (Or.inl h)
      · exact Or.inl h
      · exact Or.inr (Or.inr h)) a1)
    (wDperm (by
      rw [← List.append_assoc, ← List.append_assoc]
      exact List.perm_append_comm.append_right _) a2) a3)
/-- one of many rows put into a row of rows -/
theorem wAastR {W0 pre suf : va_W} (hx : p.tables.exec = Jvm.exec) (hb : c.code = cc) (hN : wNest s) (hK : va_K D vwCl tys s) (hP : va_P D vwCl W0 H) (hD : va_D A0 W0) (hS : va_S A0 H0 H locs) (q0 t0 t1 : Nat) {a : Nat} {cR cI : ClassId} {N : Nat} {h : Nat → Option Nat} {bb : Nat → Nat} {N2 len : Nat} {v2 : Nat → Nat → Int32} (ha : W0[q0]? = some (a, .inl (cR, N, .inr (.inr (.inr (.inr h)))))) (ht : tys[t0]? = some (cR, .array .int)) (hW : W0 = pre ++ (RW cI bb N2 len v2 ++ suf)) (i2 : Nat) (hi2 : i2 < N2) (ht1 : tys[t1]? = some (cI, .int)) {i : Int32} (k : Nat) (hi : i = nI k) (hk : k < N) (hN2 : N < 2 ^ 31) (hdg : decode cc pc = .ok (.aastore, 1))
    (kk : ∀ (H1 : Heap) (locs1 : List Loc), va_P D vwCl (W0.set q0 (a, .inl (cR, N, .inr (.inr (.inr (.inr (va_up h k (some (bb i2))))))))) H1 → va_D A0 (W0.set q0 (a, .inl (cR, N, .inr (.inr (.inr (.inr (va_up h k (some (bb i2))))))))) → va_S A0 H0 H1 locs1 → W p l e R s m args below meth c H1 locs1 cells slots Q (F0 m (pc + 1) ls rest)) : W p l e R s m args below meth c H locs cells slots Q (F0 m pc ls (.ref (bb i2) :: .int i :: .ref a :: rest)) :=
  wAast hx hb hN hK hP hD hS q0 (pre.length + i2) t0 t1 ha ht (by rw [hW]; exact RW_get hi2) ht1 k hi hk hN2 hdg kk
theorem sendPm {α : Type} (Z Y O B9 : α) (T C M M0 : List α) (hM : List.Sublist M M0) : ∃ mid, List.Sublist mid ([Z] ++ ([Y] ++ ((O :: B9 :: T) ++ (C ++ M0)))) ∧ List.Perm mid (O :: Y :: (T ++ (C ++ (M ++ [Z])))) := by
  refine ⟨[Z] ++ ([Y] ++ ((O :: T) ++ (C ++ M))), ?_, ?_⟩
  · exact (List.Sublist.refl _).append ((List.Sublist.refl _).append (((List.sublist_cons_self B9 T).cons₂ O).append ((List.Sublist.refl _).append hM)))
  · have h1 : List.Perm (Z :: (Y :: O :: (T ++ (C ++ M)))) ((Y :: O :: (T ++ (C ++ M))) ++ [Z]) := (List.perm_append_singleton _ _).symm
    have h2 : (Y :: O :: (T ++ (C ++ M))) ++ [Z] = Y :: O :: (T ++ (C ++ (M ++ [Z]))) := by simp only [List.cons_append, List.append_assoc]
    rw [h2] at h1
    exact h1.trans (List.Perm.swap _ _ _)
theorem sendRW {cI : ClassId} {ga : Nat → Nat} {k q2 : Nat} {G : Nat → Nat → Int32} {x y w : Int32} : RW cI (sGa ga G k q2) (sCnt G k + 1) 3 (sGn G k x y w) = ((sIds G k).map (fun i => ((ga i, .inl (cI, 3, .inl (G i))) : Nat × va_E))) ++ [((q2, .inl (cI, 3, .inl (sRow x y w))) : Nat × va_E)] := by
  unfold RW
  rw [List.range_succ, List.map_append]
  congr 1
  · apply List.ext_getElem?
    intro j
    rw [List.getElem?_map, List.getElem?_map]
    by_cases hj : j < sCnt G k
    · have e : (sIds G k)[j]? = some (sSel G k j) := by
        unfold sSel
        rw [List.getD_eq_getElem?_getD, List.getElem?_eq_getElem hj]
        rfl
      rw [List.getElem?_range hj, e]
      simp only [Option.map_some]
      rw [show sGa ga G k q2 j = ga (sSel G k j) from if_pos hj, show sGn G k x y w j = G (sSel G k j) from if_pos hj]
    · have e : (sIds G k)[j]? = none := List.getElem?_eq_none (by show sCnt G k ≤ j; omega)
      have e2 : (List.range (sCnt G k))[j]? = none := List.getElem?_eq_none (by rw [List.length_range]; omega)
      rw [e, e2]
      rfl
  · show [(sGa ga G k q2 (sCnt G k), _)] = _
    rw [show sGa ga G k q2 (sCnt G k) = q2 from if_neg (Nat.lt_irrefl _), show sGn G k x y w (sCnt G k) = sRow x y w from if_neg (Nat.lt_irrefl _)]
theorem sendE {D : va_G} {cI cR : ClassId} {a ca ga : Nat → Nat} {n k q q2 : Nat} {f : Nat → Int32} {r G : Nat → Nat → Int32} {x y w : Int32} : wEq D ((a 0, (.inr (2, [.int (f 0), .int (f 2), .int (f 1), .int (f 3), .int (f 4), .int (f 5), .int (f 6), .int (f 7), .int (f 8), .ref (a 1), .ref (a 2), .ref (a 3), .ref (a 4), .ref (a 5), .ref q]) : va_E)) :: QA cR q (sCnt G k + 1) (va_up (sMk ga G k k) (sCnt G k) (some q2)) :: (((a 1, .inl (cI, n, .inl (r 0))) :: (a 2, .inl (cI, n, .inl (r 1))) :: (a 3, .inl (cI, n, .inl (r 2))) :: (a 4, .inl (cI, n, .inl (r 3))) :: QA cR (a 5) n (RF n ca) :: ([] : va_W)) ++ (CW cI ca n (r 5) ++ (((sIds G k).map (fun i => ((ga i, .inl (cI, 3, .inl (G i))) : Nat × va_E))) ++ [((q2, .inl (cI, 3, .inl (sRow x y w))) : Nat × va_E)])))) (SC cI cR (va_up a 6 q) ca (sGa ga G k q2) n (sCnt G k + 1) f r ++ (CW cI ca n (r 5) ++ RW cI (sGa ga G k q2) (sCnt G k + 1) 3 (sGn G k x y w))) := by
  rw [sendRW]
  refine wEq.cons (fun _ h => h) (wEq.rowq (fun j hj => ?_) wEq.rf)
  show va_up (sMk ga G k k) (sCnt G k) (some q2) j = RF (sCnt G k + 1) (sGa ga G k q2) j
  rw [RF_in hj]
  by_cases e : j = sCnt G k
  · subst e
    rw [vaUs, show sGa ga G k q2 (sCnt G k) = q2 from if_neg (Nat.lt_irrefl _)]
  · rw [vaUp e, show sMk ga G k k j = some (ga (sSel G k j)) from if_pos (by omega), show sGa ga G k q2 j = ga (sSel G k j) from if_pos (by omega)]
/-- behind a sending, the old row of rows and the glances that are over are let go -/
theorem sendP {D : va_G} {cI cR : ClassId} {a ca ga : Nat → Nat} {n k q q2 : Nat} {f : Nat → Int32} {r G : Nat → Nat → Int32} {x y w : Int32} {H : Heap} (h : va_P D vwCl ([((q2, .inl (cI, 3, .inl (sRow x y w))) : Nat × va_E)] ++ ([QA cR q (sCnt G k + 1) (va_up (sMk ga G k k) (sCnt G k) (some q2))] ++ (((a 0, (.inr (2, [.int (f 0), .int (f 2), .int (f 1), .int (f 3), .int (f 4), .int (f 5), .int (f 6), .int (f 7), .int (f 8), .ref (a 1), .ref (a 2), .ref (a 3), .ref (a 4), .ref (a 5), .ref q]) : va_E)) :: QA cR (a 6) k (RF k ga) :: ((a 1, .inl (cI, n, .inl (r 0))) :: (a 2, .inl (cI, n, .inl (r 1))) :: (a 3, .inl (cI, n, .inl (r 2))) :: (a 4, .inl (cI, n, .inl (r 3))) :: QA cR (a 5) n (RF n ca) :: ([] : va_W))) ++ (CW cI ca n (r 5) ++ RW cI ga k 3 G)))) H) :
    va_P D vwCl (SC cI cR (va_up a 6 q) ca (sGa ga G k q2) n (sCnt G k + 1) f r ++ (CW cI ca n (r 5) ++ RW cI (sGa ga G k q2) (sCnt G k + 1) 3 (sGn G k x y w))) H := by
  obtain ⟨mid, h1, h2⟩ := sendPm ((q2, .inl (cI, 3, .inl (sRow x y w))) : Nat × va_E) (QA cR q (sCnt G k + 1) (va_up (sMk ga G k k) (sCnt G k) (some q2))) (a 0, (.inr (2, [.int (f 0), .int (f 2), .int (f 1), .int (f 3), .int (f 4), .int (f 5), .int (f 6), .int (f 7), .int (f 8), .ref (a 1), .ref (a 2), .ref (a 3), .ref (a 4), .ref (a 5), .ref q]) : va_E)) (QA cR (a 6) k (RF k ga)) ((a 1, .inl (cI, n, .inl (r 0))) :: (a 2, .inl (cI, n, .inl (r 1))) :: (a 3, .inl (cI, n, .inl (r 2))) :: (a 4, .inl (cI, n, .inl (r 3))) :: QA cR (a 5) n (RF n ca) :: ([] : va_W)) (CW cI ca n (r 5)) ((sIds G k).map (fun i => ((ga i, .inl (cI, 3, .inl (G i))) : Nat × va_E))) (RW cI ga k 3 G) (List.filter_sublist.map _)
  exact sendE.P (wPsub (fun z hz => h1.subset (h2.mem_iff.mpr hz)) h)
theorem sendD {A : Nat → Prop} {cI cR : ClassId} {a ca ga : Nat → Nat} {n k q q2 : Nat} {f : Nat → Int32} {r G : Nat → Nat → Int32} {x y w : Int32} (h : va_D A ([((q2, .inl (cI, 3, .inl (sRow x y w))) : Nat × va_E)] ++ ([QA cR q (sCnt G k + 1) (va_up (sMk ga G k k) (sCnt G k) (some q2))] ++ (((a 0, (.inr (2, [.int (f 0), .int (f 2), .int (f 1), .int (f 3), .int (f 4), .int (f 5), .int (f 6), .int (f 7), .int (f 8), .ref (a 1), .ref (a 2), .ref (a 3), .ref (a 4), .ref (a 5), .ref q]) : va_E)) :: QA cR (a 6) k (RF k ga) :: ((a 1, .inl (cI, n, .inl (r 0))) :: (a 2, .inl (cI, n, .inl (r 1))) :: (a 3, .inl (cI, n, .inl (r 2))) :: (a 4, .inl (cI, n, .inl (r 3))) :: QA cR (a 5) n (RF n ca) :: ([] : va_W))) ++ (CW cI ca n (r 5) ++ RW cI ga k 3 G))))) :
    va_D A (SC cI cR (va_up a 6 q) ca (sGa ga G k q2) n (sCnt G k + 1) f r ++ (CW cI ca n (r 5) ++ RW cI (sGa ga G k q2) (sCnt G k + 1) 3 (sGn G k x y w))) := by
  obtain ⟨mid, h1, h2⟩ := sendPm ((q2, .inl (cI, 3, .inl (sRow x y w))) : Nat × va_E) (QA cR q (sCnt G k + 1) (va_up (sMk ga G k k) (sCnt G k) (some q2))) (a 0, (.inr (2, [.int (f 0), .int (f 2), .int (f 1), .int (f 3), .int (f 4), .int (f 5), .int (f 6), .int (f 7), .int (f 8), .ref (a 1), .ref (a 2), .ref (a 3), .ref (a 4), .ref (a 5), .ref q]) : va_E)) (QA cR (a 6) k (RF k ga)) ((a 1, .inl (cI, n, .inl (r 0))) :: (a 2, .inl (cI, n, .inl (r 1))) :: (a 3, .inl (cI, n, .inl (r 2))) :: (a 4, .inl (cI, n, .inl (r 3))) :: QA cR (a 5) n (RF n ca) :: ([] : va_W)) (CW cI ca n (r 5)) ((sIds G k).map (fun i => ((ga i, .inl (cI, 3, .inl (G i))) : Nat × va_E))) (RW cI ga k 3 G) (List.filter_sublist.map _)
  exact (sendE (D := ⟨fun _ => 0, fun _ _ => 0⟩)).D (wDperm h2 (wDsub h1 h))
end SQ
end
section
abbrev rmX2_apart : Room := { frames := 0, cells := 0, slots := 0, locals := 0 }
set_option maxRecDepth 100000 in
set_option maxHeartbeats 4000000 in
/-- apart -/
theorem mX2_apart (l : Launch) (D : va_G) (cI cR : ClassId) (a ca ga : Nat → Nat) (n k : Nat) (f : Nat → Int32) (r G : Nat → Nat → Int32) (x y : Nat) (sz : Nat) (hg : f 0 = nI n) (hn0 : 2 ≤ n) (hn1 : n ≤ 10) (hk : k ≤ 100) (ux : x < n) (uy : y < n) : wCt l yX2_apart wsX2_apart rmX2_apart D [(cI, .int), (cR, .array .int)] [.ref (a 0), .int (nI x), .int (nI y)] (SC cI cR a ca ga n k f r ++ (CW cI ca n (r 5) ++ RW cI ga k 3 G)) sz 0 0 (wQi D (fun v (_ : Unit) => v = nI (sN n x y)) (fun _ : Unit => SC cI cR a ca ga n k f r ++ (CW cI ca n (r 5) ++ RW cI ga k 3 G))) := by
  refine wMet cX2_apart 4 (some .int) (by decide) rfl (Nat.le_of_ble_eq_true rfl) ?_
  intro p e s m args below meth c A Q ls hQ hx hb hr hml hown hlocks hin hts hN hP hK hD hA hS hl
  have hK1 : va_K D vwCl [(cI, .int)] s := hK.sub [0] rfl
  have hl : lv_has ls 4 [(0, .ref (a 0)), (1, .int (nI x)), (2, .int (nI y))] := hl
  have hown : s.vm.findClass RX2 = some m.cls := hown
  have hw2 : ∀ w ∈ wsX20, w.before args s = true := fun w h => hts w (List.mem_cons_of_mem _ (List.mem_append_right _ h))
  have k22 := hts (.fieldLink RX2 22 "PauseLedgerLaw$Sim" "guests" "I") (by decide +kernel)
  refine lv_iconst (v := 0) hx hb dX2_apart_0 (by decide) ?_
  refine lv_istore_n (lv' := [(3, .int 0), (0, .ref (a 0)), (1, .int (nI x)), (2, .int (nI y))]) hx hb dX2_apart_1 rfl hl (by decide) rfl (fun ls hl => ?_)
  have loop2 : ∀ (j i2 : Nat), i2 + j = sN n x y → ∀ (H : Heap) (locs : List Loc) (ls : Array Slot), va_P D vwCl (SC cI cR a ca ga n k f r ++ (CW cI ca n (r 5) ++ RW cI ga k 3 G)) H → va_D A (SC cI cR a ca ga n k f r ++ (CW cI ca n (r 5) ++ RW cI ga k 3 G)) → va_S A s.heap H locs → lv_has ls 4 [(3, .int (nI i2)), (0, .ref (a 0)), (1, .int (nI x)), (2, .int (nI y))] → W p l e rmX2_apart s m args below meth c H locs 0 0 Q (F0 m 2 ls []) := by
    intro j
    induction j with
    | zero =>
      intro i2 hi2 H locs ls hP hD hS hl
      have ez : sN n x y = i2 := by omega
      subst ez
      have he := sN_end hn1 ux uy
      have h5 := sN_le hn1 ux uy
      have hm1 := Nat.mod_lt (x + sN n x y) (show 0 < n by omega)
      have hm2 := Nat.mod_lt (y + sN n x y) (show 0 < n by omega)
      refine lv_iload_n hx hb dX2_apart_2 rfl (lv_at hl 2 rfl) ?_
      refine lv_iload_n hx hb dX2_apart_3 rfl (lv_at hl 0 rfl) ?_
      refine lv_iadd hx hb dX2_apart_4 ?_
      refine wTop (z := nI (x + (sN n x y))) (nI_add x (sN n x y)) ?_
      refine lv_aload_n hx hb dX2_apart_5 rfl (lv_at hl 1 rfl) ?_
      refine va_get (D := D) (ci := 2) (v := .int (f 0)) (C := RX2) (T := TX2) (N := 15) hx hb hw2 (fun _ h => h) hown hK hP 0 rfl rfl 0 (by decide) k22 (fun _ h9 => h9) rfl dX2_apart_6 ?_
      refine lv_irem hx hb dX2_apart_9 (by rw [hg]; exact nI_ne0 (by omega) (by omega)) ?_
      refine wTop (z := nI ((x + (sN n x y)) % n)) (by rw [hg]; exact pk_rem (a := (x + (sN n x y))) (d := n) (by omega) (by omega) (by omega)) ?_
      refine lv_iload_n hx hb dX2_apart_10 rfl (lv_at hl 3 rfl) ?_
      refine lv_icmp_eq (tgt := 32) hx hb dX2_apart_11 (by decide) (fun c_11 => ?_) (fun c_11 => ?_)
      · have c_11n := (nI_eq (a := ((x + (sN n x y)) % n)) (b := y) (by omega) (by omega)).mp c_11
        refine lv_iload_n hx hb dX2_apart_32 rfl (lv_at hl 0 rfl) ?_
        exact wRi hQ hx hb hr hlocks hP hD hS dX2_apart_33 () (rfl) rfl
      · have c_11n := mt (nI_eq (a := ((x + (sN n x y)) % n)) (b := y) (by omega) (by omega)).mpr c_11
        refine lv_iload_n hx hb dX2_apart_14 rfl (lv_at hl 3 rfl) ?_
        refine lv_iload_n hx hb dX2_apart_15 rfl (lv_at hl 0 rfl) ?_
        refine lv_iadd hx hb dX2_apart_16 ?_
        refine wTop (z := nI (y + (sN n x y))) (nI_add y (sN n x y)) ?_
        refine lv_aload_n hx hb dX2_apart_17 rfl (lv_at hl 1 rfl) ?_
        refine va_get (D := D) (ci := 2) (v := .int (f 0)) (C := RX2) (T := TX2) (N := 15) hx hb hw2 (fun _ h => h) hown hK hP 0 rfl rfl 0 (by decide) k22 (fun _ h9 => h9) rfl dX2_apart_18 ?_
        refine lv_irem hx hb dX2_apart_21 (by rw [hg]; exact nI_ne0 (by omega) (by omega)) ?_
        refine wTop (z := nI ((y + (sN n x y)) % n)) (by rw [hg]; exact pk_rem (a := (y + (sN n x y))) (d := n) (by omega) (by omega) (by omega)) ?_
        refine lv_iload_n hx hb dX2_apart_22 rfl (lv_at hl 2 rfl) ?_
        refine lv_icmp_eq (tgt := 32) hx hb dX2_apart_23 (by decide) (fun c_23 => ?_) (fun h9 => absurd ((nI_eq (by omega) (by omega)).mpr (he.resolve_left c_11n)) h9)
        have c_23n := (nI_eq (a := ((y + (sN n x y)) % n)) (b := x) (by omega) (by omega)).mp c_23
        refine lv_iload_n hx hb dX2_apart_32 rfl (lv_at hl 0 rfl) ?_
        exact wRi hQ hx hb hr hlocks hP hD hS dX2_apart_33 () (rfl) rfl
    | succ j ih2 =>
      intro i2 hi2 H locs ls hP hD hS hl
      have hs := sN_lt hn1 ux uy (show i2 < sN n x y by omega)
      have h5 := sN_le hn1 ux uy
      have hm1 := Nat.mod_lt (x + i2) (show 0 < n by omega)
      have hm2 := Nat.mod_lt (y + i2) (show 0 < n by omega)
      refine lv_iload_n hx hb dX2_apart_2 rfl (lv_at hl 2 rfl) ?_
      refine lv_iload_n hx hb dX2_apart_3 rfl (lv_at hl 0 rfl) ?_
      refine lv_iadd hx hb dX2_apart_4 ?_
      refine wTop (z := nI (x + i2)) (nI_add x i2) ?_
      refine lv_aload_n hx hb dX2_apart_5 rfl (lv_at hl 1 rfl) ?_
      refine va_get (D := D) (ci := 2) (v := .int (f 0)) (C := RX2) (T := TX2) (N := 15) hx hb hw2 (fun _ h => h) hown hK hP 0 rfl rfl 0 (by decide) k22 (fun _ h9 => h9) rfl dX2_apart_6 ?_
      refine lv_irem hx hb dX2_apart_9 (by rw [hg]; exact nI_ne0 (by omega) (by omega)) ?_
      refine wTop (z := nI ((x + i2) % n)) (by rw [hg]; exact pk_rem (a := (x + i2)) (d := n) (by omega) (by omega) (by omega)) ?_
      refine lv_iload_n hx hb dX2_apart_10 rfl (lv_at hl 3 rfl) ?_
      refine lv_icmp_eq (tgt := 32) hx hb dX2_apart_11 (by decide) (fun h9 => absurd h9 (mt (nI_eq (by omega) (by omega)).mp hs.1)) (fun c_11 => ?_)
      have c_11n := mt (nI_eq (a := ((x + i2) % n)) (b := y) (by omega) (by omega)).mpr c_11
      refine lv_iload_n hx hb dX2_apart_14 rfl (lv_at hl 3 rfl) ?_
      refine lv_iload_n hx hb dX2_apart_15 rfl (lv_at hl 0 rfl) ?_
      refine lv_iadd hx hb dX2_apart_16 ?_
      refine wTop (z := nI (y + i2)) (nI_add y i2) ?_
      refine lv_aload_n hx hb dX2_apart_17 rfl (lv_at hl 1 rfl) ?_
      refine va_get (D := D) (ci := 2) (v := .int (f 0)) (C := RX2) (T := TX2) (N := 15) hx hb hw2 (fun _ h => h) hown hK hP 0 rfl rfl 0 (by decide) k22 (fun _ h9 => h9) rfl dX2_apart_18 ?_
      refine lv_irem hx hb dX2_apart_21 (by rw [hg]; exact nI_ne0 (by omega) (by omega)) ?_
      refine wTop (z := nI ((y + i2) % n)) (by rw [hg]; exact pk_rem (a := (y + i2)) (d := n) (by omega) (by omega) (by omega)) ?_
      refine lv_iload_n hx hb dX2_apart_22 rfl (lv_at hl 2 rfl) ?_
      refine lv_icmp_eq (tgt := 32) hx hb dX2_apart_23 (by decide) (fun h9 => absurd h9 (mt (nI_eq (by omega) (by omega)).mp hs.2)) (fun c_23 => ?_)
      have c_23n := mt (nI_eq (a := ((y + i2) % n)) (b := x) (by omega) (by omega)).mpr c_23
      refine lv_iinc (v := nI (i2 + 1)) (lv' := [(3, .int (nI (i2 + 1))), (0, .ref (a 0)), (1, .int (nI x)), (2, .int (nI y))]) hx hb dX2_apart_26 hl (k := 0) rfl (nI_1 i2) (by decide) rfl (fun ls hl => ?_)
      refine lv_goto (tgt := 2) hx hb dX2_apart_29 (by decide) ?_
      exact ih2 (i2 + 1) (by omega) _ _ _ hP hD hS (lv_sub hl [0, 1, 2, 3] rfl)
  exact loop2 (sN n x y) 0 (by omega) _ _ _ hP hD hS (lv_sub hl [0, 1, 2, 3] rfl)
abbrev rmX2_all : Room := { frames := 0, cells := 0, slots := 0, locals := 0 }
set_option maxRecDepth 100000 in
set_option maxHeartbeats 4000000 in
/-- all -/
theorem mX2_all (l : Launch) (D : va_G) (cI cR : ClassId) (a ca ga : Nat → Nat) (n k : Nat) (f : Nat → Int32) (r G : Nat → Nat → Int32) (sz : Nat) (hg : f 0 = nI n) (hn0 : 2 ≤ n) (hn1 : n ≤ 10) (hk : k ≤ 100) : wCt l yX2_all wsX2_all rmX2_all D [(cI, .int), (cR, .array .int)] [.ref (a 0)] (SC cI cR a ca ga n k f r ++ (CW cI ca n (r 5) ++ RW cI ga k 3 G)) sz 0 0 (wQi D (fun v (_ : Unit) => v = dSum (r 3) n + f 6) (fun _ : Unit => SC cI cR a ca ga n k f r ++ (CW cI ca n (r 5) ++ RW cI ga k 3 G))) := by
  refine wMet cX2_all 6 (some .int) (by decide) rfl (Nat.le_of_ble_eq_true rfl) ?_
  intro p e s m args below meth c A Q ls hQ hx hb hr hml hown hlocks hin hts hN hP hK hD hA hS hl
  have hK1 : va_K D vwCl [(cI, .int)] s := hK.sub [0] rfl
  have hl : lv_has ls 6 [(0, .ref (a 0))] := hl
  have hown : s.vm.findClass RX2 = some m.cls := hown
  have hw2 : ∀ w ∈ wsX20, w.before args s = true := fun w h => hts w (List.mem_cons_of_mem _ (List.mem_append_right _ h))
  have k34 := hts (.fieldLink RX2 34 "PauseLedgerLaw$Sim" "unsaid" "[I") (by decide +kernel)
  have k53 := hts (.fieldLink RX2 53 "PauseLedgerLaw$Sim" "quiet" "I") (by decide +kernel)
  refine lv_aload_n hx hb dX2_all_0 rfl (lv_at hl 0 rfl) ?_
  refine va_get (D := D) (ci := 2) (v := .int (f 6)) (C := RX2) (T := TX2) (N := 15) hx hb hw2 (fun _ h => h) hown hK hP 0 rfl rfl 6 (by decide) k53 (fun _ h9 => h9) rfl dX2_all_1 ?_
  refine lv_istore_n (lv' := [(1, .int (f 6)), (0, .ref (a 0))]) hx hb dX2_all_4 rfl hl (by decide) rfl (fun ls hl => ?_)
  refine lv_aload_n hx hb dX2_all_5 rfl (lv_at hl 1 rfl) ?_
  refine va_get (D := D) (ci := 2) (v := .ref (a 4)) (C := RX2) (T := TX2) (N := 15) hx hb hw2 (fun _ h => h) hown hK hP 0 rfl rfl 12 (by decide) k34 (fun _ h9 => h9) rfl dX2_all_6 ?_
  refine lv_astore_n (lv' := [(2, .ref (a 4)), (1, .int (f 6)), (0, .ref (a 0))]) hx hb dX2_all_9 rfl hl (by decide) rfl (fun ls hl => ?_)
  refine lv_aload_n hx hb dX2_all_10 rfl (lv_at hl 0 rfl) ?_
  refine va_alen (v := nI n) hx hb hK hP 5 0 rfl rfl rfl dX2_all_11 ?_
  refine lv_istore_n (lv' := [(3, .int (nI n)), (2, .ref (a 4)), (1, .int (f 6)), (0, .ref (a 0))]) hx hb dX2_all_12 rfl hl (by decide) rfl (fun ls hl => ?_)
  refine lv_iconst (v := 0) hx hb dX2_all_13 (by decide) ?_
  refine lv_istore (lv' := [(4, .int 0), (3, .int (nI n)), (2, .ref (a 4)), (1, .int (f 6)), (0, .ref (a 0))]) hx hb dX2_all_14 hl (by decide) rfl (fun ls hl => ?_)
  have loop16 : ∀ (j i16 : Nat), i16 + j = n → ∀ (H : Heap) (locs : List Loc) (ls : Array Slot), va_P D vwCl (SC cI cR a ca ga n k f r ++ (CW cI ca n (r 5) ++ RW cI ga k 3 G)) H → va_D A (SC cI cR a ca ga n k f r ++ (CW cI ca n (r 5) ++ RW cI ga k 3 G)) → va_S A s.heap H locs → lv_has ls 6 [(4, .int (nI i16)), (1, .int (sAll (f 6) (r 3) i16)), (0, .ref (a 0)), (2, .ref (a 4)), (3, .int (nI n))] → W p l e rmX2_all s m args below meth c H locs 0 0 Q (F0 m 16 ls []) := by
    intro j
    induction j with
    | zero =>
      intro i16 hi16 H locs ls hP hD hS hl
      have ez : n = i16 := by omega
      subst ez
      refine lv_iload hx hb dX2_all_16 (lv_at hl 0 rfl) ?_
      refine lv_iload_n hx hb dX2_all_18 rfl (lv_at hl 4 rfl) ?_
      refine lv_icmp_ge (tgt := 39) hx hb dX2_all_19 (by decide) (fun c_19 => ?_) (fun h9 => absurd (nI_le (Nat.le_refl _) (by omega)) h9)
      have c_19n := (nI_leI (a := n) (b := n) (by omega) (by omega)).mp c_19
      refine lv_iload_n hx hb dX2_all_39 rfl (lv_at hl 1 rfl) ?_
      exact wRi hQ hx hb hr hlocks hP hD hS dX2_all_40 () (sAll_eq _ _ _) rfl
    | succ j ih16 =>
      intro i16 hi16 H locs ls hP hD hS hl
      refine lv_iload hx hb dX2_all_16 (lv_at hl 0 rfl) ?_
      refine lv_iload_n hx hb dX2_all_18 rfl (lv_at hl 4 rfl) ?_
      refine lv_icmp_ge (tgt := 39) hx hb dX2_all_19 (by decide) (fun h9 => absurd h9 (nI_ge (by omega) (by omega))) (fun c_19 => ?_)
      have c_19n := mt (nI_leI (a := n) (b := i16) (by omega) (by omega)).mpr c_19
      refine lv_aload_n hx hb dX2_all_22 rfl (lv_at hl 3 rfl) ?_
      refine lv_iload hx hb dX2_all_23 (lv_at hl 0 rfl) ?_
      refine wIald hx hb hK hP 5 0 rfl rfl i16 rfl (by omega) (by omega) dX2_all_25 ?_
      refine lv_istore (lv' := [(5, .int ((r 3) i16)), (4, .int (nI i16)), (1, .int (sAll (f 6) (r 3) i16)), (0, .ref (a 0)), (2, .ref (a 4)), (3, .int (nI n))]) hx hb dX2_all_26 hl (by decide) rfl (fun ls hl => ?_)
      refine lv_iload_n hx hb dX2_all_28 rfl (lv_at hl 2 rfl) ?_
      refine lv_iload hx hb dX2_all_29 (lv_at hl 0 rfl) ?_
      refine lv_iadd hx hb dX2_all_31 ?_
      refine lv_istore_n (lv' := [(1, .int ((sAll (f 6) (r 3) i16) + ((r 3) i16))), (5, .int ((r 3) i16)), (4, .int (nI i16)), (0, .ref (a 0)), (2, .ref (a 4)), (3, .int (nI n))]) hx hb dX2_all_32 rfl hl (by decide) rfl (fun ls hl => ?_)
      refine lv_iinc (v := nI (i16 + 1)) (lv' := [(4, .int (nI (i16 + 1))), (1, .int ((sAll (f 6) (r 3) i16) + ((r 3) i16))), (5, .int ((r 3) i16)), (0, .ref (a 0)), (2, .ref (a 4)), (3, .int (nI n))]) hx hb dX2_all_33 hl (k := 2) rfl (nI_1 i16) (by decide) rfl (fun ls hl => ?_)
      refine lv_goto (tgt := 16) hx hb dX2_all_36 (by decide) ?_
      exact ih16 (i16 + 1) (by omega) _ _ _ hP hD hS (lv_sub hl [0, 1, 3, 4, 5] rfl)
  exact loop16 n 0 (by omega) _ _ _ hP hD hS (lv_sub hl [0, 3, 4, 2, 1] rfl)
abbrev rmX2_rated : Room := { frames := 1, cells := 0, slots := 0, locals := 25 }
set_option maxRecDepth 100000 in
set_option maxHeartbeats 4000000 in
/-- rated -/
theorem mX2_rated (l : Launch) (D : va_G) (cI cR : ClassId) (a ca ga : Nat → Nat) (n k : Nat) (f : Nat → Int32) (r G : Nat → Nat → Int32) (sz : Nat) (hg : f 0 = nI n) (hn0 : 2 ≤ n) (hn1 : n ≤ 10) (hk : k ≤ 100) : wCt l yX2_rated wsX2_rated rmX2_rated D [(cI, .int), (cR, .array .int)] [.ref (a 0)] (SC cI cR a ca ga n k f r ++ (CW cI ca n (r 5) ++ RW cI ga k 3 G)) sz 0 0 (wQi D (fun v (_ : Unit) => v = sRated ((dSum (r 3) n + f 6) / f 0)) (fun _ : Unit => SC cI cR a ca ga n k f r ++ (CW cI ca n (r 5) ++ RW cI ga k 3 G))) := by
  refine wMet cX2_rated 3 (some .int) (by decide) rfl (Nat.le_of_ble_eq_true rfl) ?_
  intro p e s m args below meth c A Q ls hQ hx hb hr hml hown hlocks hin hts hN hP hK hD hA hS hl
  have hK1 : va_K D vwCl [(cI, .int)] s := hK.sub [0] rfl
  have hl : lv_has ls 3 [(0, .ref (a 0))] := hl
  have hown : s.vm.findClass RX2 = some m.cls := hown
  have hw2 : ∀ w ∈ wsX20, w.before args s = true := fun w h => hts w (List.mem_cons_of_mem _ (List.mem_append_right _ h))
  have k22 := hts (.fieldLink RX2 22 "PauseLedgerLaw$Sim" "guests" "I") (by decide +kernel)
  refine lv_aload_n hx hb dX2_rated_0 rfl (lv_at hl 0 rfl) ?_
  refine wCVi (pre := ([] : va_W)) (Wc := SC cI cR a ca ga n k f r ++ (CW cI ca n (r 5) ++ RW cI ga k 3 G)) (suf := ([] : va_W)) (As := []) (rest := []) ⟨hx, hb, hml, hown, hts⟩ (mX2_all l D cI cR a ca ga n k f r G _ hg hn0 hn1 hk) hN hA hK hS hP hD (by simp only [List.append_assoc, List.append_nil, List.nil_append]) 0 (r := (RX2, TX2, 15)) rfl rfl (cwV 0 hts gX2_rated_X2_all rfl rfl rfl (by decide +kernel) ⟨Nat.le_of_ble_eq_true rfl, Nat.le_of_ble_eq_true rfl⟩) rfl hl.1 rfl (Nat.le_of_ble_eq_true rfl) dX2_rated_1 ⟨by show 0 ≤ 0; omega, by show 0 ≤ 0; omega⟩ (fun r_1 u_1 H locs hw hP hD hS => ?_)
  have hw : r_1 = dSum (r 3) n + (f 6) := hw
  subst hw
  have hP : va_P D vwCl (SC cI cR a ca ga n k f r ++ (CW cI ca n (r 5) ++ RW cI ga k 3 G)) H := by simpa only [List.append_assoc, List.append_nil, List.nil_append] using hP
  have hD : va_D A (SC cI cR a ca ga n k f r ++ (CW cI ca n (r 5) ++ RW cI ga k 3 G)) := by simpa only [List.append_assoc, List.append_nil, List.nil_append] using hD
  refine lv_aload_n hx hb dX2_rated_4 rfl (lv_at hl 0 rfl) ?_
  refine va_get (D := D) (ci := 2) (v := .int (f 0)) (C := RX2) (T := TX2) (N := 15) hx hb hw2 (fun _ h => h) hown hK hP 0 rfl rfl 0 (by decide) k22 (fun _ h9 => h9) rfl dX2_rated_5 ?_
  refine lv_idiv hx hb dX2_rated_8 (by rw [hg]; exact nI_ne0 (by omega) (by omega)) ?_
  refine lv_istore_n (lv' := [(1, .int ((dSum (r 3) n + (f 6)) / (f 0))), (0, .ref (a 0))]) hx hb dX2_rated_9 rfl hl (by decide) rfl (fun ls hl => ?_)
  refine lv_iload_n hx hb dX2_rated_10 rfl (lv_at hl 0 rfl) ?_
  refine lv_iconst (v := 4) hx hb dX2_rated_11 (by decide) ?_
  refine lv_icmp_ge (tgt := 22) hx hb dX2_rated_12 (by decide) (fun c_12 => ?_) (fun c_12 => ?_)
  · refine lv_bipush (v := 14) hx hb dX2_rated_22 (by decide) ?_
    refine lv_iload_n hx hb dX2_rated_24 rfl (lv_at hl 0 rfl) ?_
    refine lv_isub hx hb dX2_rated_25 ?_
    refine lv_istore_n (lv' := [(2, .int (14 - ((dSum (r 3) n + (f 6)) / (f 0)))), (1, .int ((dSum (r 3) n + (f 6)) / (f 0))), (0, .ref (a 0))]) hx hb dX2_rated_26 rfl hl (by decide) rfl (fun ls hl => ?_)
    refine lv_iload_n hx hb dX2_rated_27 rfl (lv_at hl 0 rfl) ?_
    refine lv_if_ge (tgt := 35) hx hb dX2_rated_28 (by decide) (fun c_28 => ?_) (fun c_28 => ?_)
    · refine lv_iload_n hx hb dX2_rated_35 rfl (lv_at hl 0 rfl) ?_
      exact wRi hQ hx hb hr hlocks hP hD hS dX2_rated_36 () (by simp only [sRated, sMade, if_neg (Int32.not_lt.mpr c_12), if_neg (Int32.not_lt.mpr c_28)]) rfl
    · refine lv_iconst (v := 0) hx hb dX2_rated_31 (by decide) ?_
      refine lv_goto (tgt := 36) hx hb dX2_rated_32 (by decide) ?_
      exact wRi hQ hx hb hr hlocks hP hD hS dX2_rated_36 () (by simp only [sRated, sMade, if_neg (Int32.not_lt.mpr c_12), if_pos (Int32.not_le.mp c_28)]) rfl
  · refine lv_bipush (v := 6) hx hb dX2_rated_15 (by decide) ?_
    refine lv_iload_n hx hb dX2_rated_17 rfl (lv_at hl 0 rfl) ?_
    refine lv_iadd hx hb dX2_rated_18 ?_
    refine lv_goto (tgt := 26) hx hb dX2_rated_19 (by decide) ?_
    refine lv_istore_n (lv' := [(2, .int (6 + ((dSum (r 3) n + (f 6)) / (f 0)))), (1, .int ((dSum (r 3) n + (f 6)) / (f 0))), (0, .ref (a 0))]) hx hb dX2_rated_26 rfl hl (by decide) rfl (fun ls hl => ?_)
    refine lv_iload_n hx hb dX2_rated_27 rfl (lv_at hl 0 rfl) ?_
    refine lv_if_ge (tgt := 35) hx hb dX2_rated_28 (by decide) (fun c_28 => ?_) (fun c_28 => ?_)
    · refine lv_iload_n hx hb dX2_rated_35 rfl (lv_at hl 0 rfl) ?_
      exact wRi hQ hx hb hr hlocks hP hD hS dX2_rated_36 () (by simp only [sRated, sMade, if_pos (Int32.not_le.mp c_12), if_neg (Int32.not_lt.mpr c_28)]) rfl
    · refine lv_iconst (v := 0) hx hb dX2_rated_31 (by decide) ?_
      refine lv_goto (tgt := 36) hx hb dX2_rated_32 (by decide) ?_
      exact wRi hQ hx hb hr hlocks hP hD hS dX2_rated_36 () (by simp only [sRated, sMade, if_pos (Int32.not_le.mp c_12), if_pos (Int32.not_le.mp c_28)]) rfl
abbrev rmX2_find : Room := { frames := 0, cells := 0, slots := 0, locals := 0 }
set_option maxRecDepth 100000 in
set_option maxHeartbeats 4000000 in
/-- find -/
theorem mX2_find (l : Launch) (D : va_G) (cI cR : ClassId) (a ca ga : Nat → Nat) (n k : Nat) (f : Nat → Int32) (r G : Nat → Nat → Int32) (x y : Int32) (sz : Nat) (hg : f 0 = nI n) (hn0 : 2 ≤ n) (hn1 : n ≤ 10) (hk : k ≤ 100) : wCt l yX2_find wsX2_find rmX2_find D [(cI, .int), (cR, .array .int)] [.ref (a 0), .int x, .int y] (SC cI cR a ca ga n k f r ++ (CW cI ca n (r 5) ++ RW cI ga k 3 G)) sz 0 0 (wQi D (fun v (_ : Unit) => v = sFind G x y k 0) (fun _ : Unit => SC cI cR a ca ga n k f r ++ (CW cI ca n (r 5) ++ RW cI ga k 3 G))) := by
  refine wMet cX2_find 4 (some .int) (by decide) rfl (Nat.le_of_ble_eq_true rfl) ?_
  intro p e s m args below meth c A Q ls hQ hx hb hr hml hown hlocks hin hts hN hP hK hD hA hS hl
  have hK1 : va_K D vwCl [(cI, .int)] s := hK.sub [0] rfl
  have hl : lv_has ls 4 [(0, .ref (a 0)), (1, .int x), (2, .int y)] := hl
  have hown : s.vm.findClass RX2 = some m.cls := hown
  have hw2 : ∀ w ∈ wsX20, w.before args s = true := fun w h => hts w (List.mem_cons_of_mem _ (List.mem_append_right _ h))
  have k18 := hts (.fieldLink RX2 18 "PauseLedgerLaw$Sim" "glances" "[[I") (by decide +kernel)
  refine lv_iconst (v := 0) hx hb dX2_find_0 (by decide) ?_
  refine lv_istore_n (lv' := [(3, .int 0), (0, .ref (a 0)), (1, .int x), (2, .int y)]) hx hb dX2_find_1 rfl hl (by decide) rfl (fun ls hl => ?_)
  have loop2 : ∀ (j i2 : Nat), i2 + j = k → sFind G x y j i2 = sFind G x y k 0 → ∀ (H : Heap) (locs : List Loc) (ls : Array Slot), va_P D vwCl (SC cI cR a ca ga n k f r ++ (CW cI ca n (r 5) ++ RW cI ga k 3 G)) H → va_D A (SC cI cR a ca ga n k f r ++ (CW cI ca n (r 5) ++ RW cI ga k 3 G)) → va_S A s.heap H locs → lv_has ls 4 [(3, .int (nI i2)), (0, .ref (a 0)), (1, .int x), (2, .int y)] → W p l e rmX2_find s m args below meth c H locs 0 0 Q (F0 m 2 ls []) := by
    intro j
    induction j with
    | zero =>
      intro i2 hi2 hf H locs ls hP hD hS hl
      have ez : k = i2 := by omega
      subst ez
      refine lv_iload_n hx hb dX2_find_2 rfl (lv_at hl 0 rfl) ?_
      refine lv_aload_n hx hb dX2_find_3 rfl (lv_at hl 1 rfl) ?_
      refine va_get (D := D) (ci := 2) (v := .ref (a 6)) (C := RX2) (T := TX2) (N := 15) hx hb hw2 (fun _ h => h) hown hK hP 0 rfl rfl 14 (by decide) k18 (fun _ h9 => h9) rfl dX2_find_4 ?_
      refine va_alen (v := nI k) hx hb hK hP 1 1 rfl rfl rfl dX2_find_7 ?_
      refine lv_icmp_ge (tgt := 54) hx hb dX2_find_8 (by decide) (fun c_8 => ?_) (fun h9 => absurd (nI_le (Nat.le_refl _) (by omega)) h9)
      have c_8n := (nI_leI (a := k) (b := k) (by omega) (by omega)).mp c_8
      refine lv_iconst (v := (-1)) hx hb dX2_find_54 (by decide) ?_
      exact wRi hQ hx hb hr hlocks hP hD hS dX2_find_55 () (by rw [← hf]; rfl) rfl
    | succ j ih2 =>
      intro i2 hi2 hf H locs ls hP hD hS hl
      refine lv_iload_n hx hb dX2_find_2 rfl (lv_at hl 0 rfl) ?_
      refine lv_aload_n hx hb dX2_find_3 rfl (lv_at hl 1 rfl) ?_
      refine va_get (D := D) (ci := 2) (v := .ref (a 6)) (C := RX2) (T := TX2) (N := 15) hx hb hw2 (fun _ h => h) hown hK hP 0 rfl rfl 14 (by decide) k18 (fun _ h9 => h9) rfl dX2_find_4 ?_
      refine va_alen (v := nI k) hx hb hK hP 1 1 rfl rfl rfl dX2_find_7 ?_
      refine lv_icmp_ge (tgt := 54) hx hb dX2_find_8 (by decide) (fun h9 => absurd h9 (nI_ge (by omega) (by omega))) (fun c_8 => ?_)
      have c_8n := mt (nI_leI (a := k) (b := i2) (by omega) (by omega)).mpr c_8
      refine lv_aload_n hx hb dX2_find_11 rfl (lv_at hl 1 rfl) ?_
      refine va_get (D := D) (ci := 2) (v := .ref (a 6)) (C := RX2) (T := TX2) (N := 15) hx hb hw2 (fun _ h => h) hown hK hP 0 rfl rfl 14 (by decide) k18 (fun _ h9 => h9) rfl dX2_find_12 ?_
      refine lv_iload_n hx hb dX2_find_15 rfl (lv_at hl 0 rfl) ?_
      refine wAald hx hb hK hP 1 1 rfl rfl i2 rfl (by omega) (by omega) (RF_in (by omega)) dX2_find_16 ?_
      refine lv_iconst (v := 0) hx hb dX2_find_17 (by decide) ?_
      refine wIaldR (pre := SC cI cR a ca ga n k f r ++ CW cI ca n (r 5)) (suf := ([] : va_W)) (bb := ga) (N := k) (len := 3) (v := G) hx hb hK hP 0 (by simp only [List.append_assoc, List.append_nil, List.nil_append]) rfl i2 (by omega) 0 rfl (by decide) (by decide) dX2_find_18 ?_
      refine lv_iload_n hx hb dX2_find_19 rfl (lv_at hl 2 rfl) ?_
      refine lv_icmp_ne (tgt := 48) hx hb dX2_find_20 (by decide) (fun c_20 => ?_) (fun c_20 => ?_)
      · refine lv_iinc (v := nI (i2 + 1)) (lv' := [(3, .int (nI (i2 + 1))), (0, .ref (a 0)), (1, .int x), (2, .int y)]) hx hb dX2_find_48 hl (k := 0) rfl (nI_1 i2) (by decide) rfl (fun ls hl => ?_)
        refine lv_goto (tgt := 2) hx hb dX2_find_51 (by decide) ?_
        exact ih2 (i2 + 1) (by omega) (by rw [← hf, sFind, if_neg (fun h => c_20 h.1)]) _ _ _ hP hD hS (lv_sub hl [0, 1, 2, 3] rfl)
      · refine lv_aload_n hx hb dX2_find_23 rfl (lv_at hl 1 rfl) ?_
        refine va_get (D := D) (ci := 2) (v := .ref (a 6)) (C := RX2) (T := TX2) (N := 15) hx hb hw2 (fun _ h => h) hown hK hP 0 rfl rfl 14 (by decide) k18 (fun _ h9 => h9) rfl dX2_find_24 ?_
        refine lv_iload_n hx hb dX2_find_27 rfl (lv_at hl 0 rfl) ?_
        refine wAald hx hb hK hP 1 1 rfl rfl i2 rfl (by omega) (by omega) (RF_in (by omega)) dX2_find_28 ?_
        refine lv_iconst (v := 1) hx hb dX2_find_29 (by decide) ?_
        refine wIaldR (pre := SC cI cR a ca ga n k f r ++ CW cI ca n (r 5)) (suf := ([] : va_W)) (bb := ga) (N := k) (len := 3) (v := G) hx hb hK hP 0 (by simp only [List.append_assoc, List.append_nil, List.nil_append]) rfl i2 (by omega) 1 rfl (by decide) (by decide) dX2_find_30 ?_
        refine lv_iload_n hx hb dX2_find_31 rfl (lv_at hl 3 rfl) ?_
        refine lv_icmp_ne (tgt := 48) hx hb dX2_find_32 (by decide) (fun c_32 => ?_) (fun c_32 => ?_)
        · refine lv_iinc (v := nI (i2 + 1)) (lv' := [(3, .int (nI (i2 + 1))), (0, .ref (a 0)), (1, .int x), (2, .int y)]) hx hb dX2_find_48 hl (k := 0) rfl (nI_1 i2) (by decide) rfl (fun ls hl => ?_)
          refine lv_goto (tgt := 2) hx hb dX2_find_51 (by decide) ?_
          exact ih2 (i2 + 1) (by omega) (by rw [← hf, sFind, if_neg (fun h => c_32 h.2.1)]) _ _ _ hP hD hS (lv_sub hl [0, 1, 2, 3] rfl)
        · refine lv_aload_n hx hb dX2_find_35 rfl (lv_at hl 1 rfl) ?_
          refine va_get (D := D) (ci := 2) (v := .ref (a 6)) (C := RX2) (T := TX2) (N := 15) hx hb hw2 (fun _ h => h) hown hK hP 0 rfl rfl 14 (by decide) k18 (fun _ h9 => h9) rfl dX2_find_36 ?_
          refine lv_iload_n hx hb dX2_find_39 rfl (lv_at hl 0 rfl) ?_
          refine wAald hx hb hK hP 1 1 rfl rfl i2 rfl (by omega) (by omega) (RF_in (by omega)) dX2_find_40 ?_
          refine lv_iconst (v := 2) hx hb dX2_find_41 (by decide) ?_
          refine wIaldR (pre := SC cI cR a ca ga n k f r ++ CW cI ca n (r 5)) (suf := ([] : va_W)) (bb := ga) (N := k) (len := 3) (v := G) hx hb hK hP 0 (by simp only [List.append_assoc, List.append_nil, List.nil_append]) rfl i2 (by omega) 2 rfl (by decide) (by decide) dX2_find_42 ?_
          refine lv_if_lt (tgt := 48) hx hb dX2_find_43 (by decide) (fun c_43 => ?_) (fun c_43 => ?_)
          · refine lv_iinc (v := nI (i2 + 1)) (lv' := [(3, .int (nI (i2 + 1))), (0, .ref (a 0)), (1, .int x), (2, .int y)]) hx hb dX2_find_48 hl (k := 0) rfl (nI_1 i2) (by decide) rfl (fun ls hl => ?_)
            refine lv_goto (tgt := 2) hx hb dX2_find_51 (by decide) ?_
            exact ih2 (i2 + 1) (by omega) (by rw [← hf, sFind, if_neg (fun h => absurd h.2.2 (Int32.not_le.mpr c_43))]) _ _ _ hP hD hS (lv_sub hl [0, 1, 2, 3] rfl)
          · refine lv_iload_n hx hb dX2_find_46 rfl (lv_at hl 0 rfl) ?_
            exact wRi hQ hx hb hr hlocks hP hD hS dX2_find_47 () (by rw [← hf, sFind, if_pos ⟨c_20, c_32, Int32.not_lt.mp c_43⟩]) rfl
  exact loop2 k 0 (by omega) rfl _ _ _ hP hD hS (lv_sub hl [0, 1, 2, 3] rfl)
end
section
abbrev rmX2_send : Room := { frames := 1, cells := 2, slots := 110, locals := 23 }
set_option maxRecDepth 100000 in
set_option maxHeartbeats 4000000 in
/-- send -/
theorem mX2_send (l : Launch) (D : va_G) (cI cR : ClassId) (a ca ga : Nat → Nat) (n k : Nat) (f : Nat → Int32) (r G : Nat → Nat → Int32) (x y : Nat) (sz : Nat) (hg : f 0 = nI n) (hn0 : 2 ≤ n) (hn1 : n ≤ 10) (hk : k ≤ 100) (ux : x < n) (uy : y < n) : wCt l yX2_send wsX2_send rmX2_send D [(cI, .int), (cR, .array .int)] [.ref (a 0), .int (nI x), .int (nI y)] (SC cI cR a ca ga n k f r ++ (CW cI ca n (r 5) ++ RW cI ga k 3 G)) sz 2 110 (wQi D (fun v (_ : Nat × Nat) => v = nI (2 * sN n x y)) (fun u : Nat × Nat => SC cI cR (va_up a 6 u.1) ca (sGa ga G k u.2) n (sCnt G k + 1) f r ++ (CW cI ca n (r 5) ++ RW cI (sGa ga G k u.2) (sCnt G k + 1) 3 (sGn G k (nI x) (nI y) (nI (2 * sN n x y)))))) := by
  refine wMet cX2_send 10 (some .int) (by decide) rfl (Nat.le_of_ble_eq_true rfl) ?_
  intro p e s m args below meth c A Q ls hQ hx hb hr hml hown hlocks hin hts hN hP hK hD hA hS hl
  have hK1 : va_K D vwCl [(cI, .int)] s := hK.sub [0] rfl
  have hl : lv_has ls 10 [(0, .ref (a 0)), (1, .int (nI x)), (2, .int (nI y))] := hl
  have hown : s.vm.findClass RX2 = some m.cls := hown
  have hw2 : ∀ w ∈ wsX20, w.before args s = true := fun w h => hts w (List.mem_cons_of_mem _ (List.mem_append_right _ h))
  have k18 := hts (.fieldLink RX2 18 "PauseLedgerLaw$Sim" "glances" "[[I") (by decide +kernel)
  refine lv_iconst (v := 0) hx hb dX2_send_0 (by decide) ?_
  refine lv_istore_n (lv' := [(3, .int 0), (0, .ref (a 0)), (1, .int (nI x)), (2, .int (nI y))]) hx hb dX2_send_1 rfl hl (by decide) rfl (fun ls hl => ?_)
  refine lv_aload_n hx hb dX2_send_2 rfl (lv_at hl 1 rfl) ?_
  refine va_get (D := D) (ci := 2) (v := .ref (a 6)) (C := RX2) (T := TX2) (N := 15) hx hb hw2 (fun _ h => h) hown hK hP 0 rfl rfl 14 (by decide) k18 (fun _ h9 => h9) rfl dX2_send_3 ?_
  refine lv_astore (lv' := [(4, .ref (a 6)), (3, .int 0), (0, .ref (a 0)), (1, .int (nI x)), (2, .int (nI y))]) hx hb dX2_send_6 hl (by decide) rfl (fun ls hl => ?_)
  refine lv_aload hx hb dX2_send_8 (lv_at hl 0 rfl) ?_
  refine va_alen (v := nI k) hx hb hK hP 1 1 rfl rfl rfl dX2_send_10 ?_
  refine lv_istore (lv' := [(5, .int (nI k)), (4, .ref (a 6)), (3, .int 0), (0, .ref (a 0)), (1, .int (nI x)), (2, .int (nI y))]) hx hb dX2_send_11 hl (by decide) rfl (fun ls hl => ?_)
  refine lv_iconst (v := 0) hx hb dX2_send_13 (by decide) ?_
  refine lv_istore (lv' := [(6, .int 0), (5, .int (nI k)), (4, .ref (a 6)), (3, .int 0), (0, .ref (a 0)), (1, .int (nI x)), (2, .int (nI y))]) hx hb dX2_send_14 hl (by decide) rfl (fun ls hl => ?_)
  have loop16 : ∀ (j i16 : Nat), i16 + j = k → ∀ (H : Heap) (locs : List Loc) (ls : Array Slot), va_P D vwCl (SC cI cR a ca ga n k f r ++ (CW cI ca n (r 5) ++ RW cI ga k 3 G)) H → va_D A (SC cI cR a ca ga n k f r ++ (CW cI ca n (r 5) ++ RW cI ga k 3 G)) → va_S A s.heap H locs → lv_has ls 10 [(6, .int (nI i16)), (3, .int (nI (sCnt G i16))), (0, .ref (a 0)), (1, .int (nI x)), (2, .int (nI y)), (4, .ref (a 6)), (5, .int (nI k))] → W p l e rmX2_send s m args below meth c H locs 0 0 Q (F0 m 16 ls []) := by
    intro j
    induction j with
    | zero =>
      intro i16 hi16 H locs ls hP hD hS hl
      have ez : k = i16 := by omega
      subst ez
      have hcs := sCnt_le G k
      refine lv_iload hx hb dX2_send_16 (lv_at hl 0 rfl) ?_
      refine lv_iload hx hb dX2_send_18 (lv_at hl 6 rfl) ?_
      refine lv_icmp_ge (tgt := 51) hx hb dX2_send_20 (by decide) (fun c_20 => ?_) (fun h9 => absurd (nI_le (Nat.le_refl _) (by omega)) h9)
      have c_20n := (nI_leI (a := k) (b := k) (by omega) (by omega)).mp c_20
      refine lv_iload_n hx hb dX2_send_51 rfl (lv_at hl 1 rfl) ?_
      refine lv_iconst (v := 1) hx hb dX2_send_52 (by decide) ?_
      refine lv_iadd hx hb dX2_send_53 ?_
      refine wTop (z := nI ((sCnt G k) + 1)) (nI_add (sCnt G k) 1) ?_
      refine wAnewF hx hb hown (hts (.classLink RX2 16 "[I") (by decide +kernel)) hN hK hP hD hS hA 1 rfl ((sCnt G k) + 1) rfl (by omega) ⟨by show 0 + (1) ≤ 2; omega, by show 0 + (((sCnt G k) + 1)) ≤ 110; omega⟩ dX2_send_54 (fun q54 H hP hD hS => ?_)
      have hP : va_P D vwCl ([QA cR q54 ((sCnt G k) + 1) (fun _ => none)] ++ (SC cI cR a ca ga n k f r ++ (CW cI ca n (r 5) ++ RW cI ga k 3 G))) H := hP
      have hD : va_D A ([QA cR q54 ((sCnt G k) + 1) (fun _ => none)] ++ (SC cI cR a ca ga n k f r ++ (CW cI ca n (r 5) ++ RW cI ga k 3 G))) := hD
      refine lv_astore (lv' := [(4, .ref q54), (6, .int (nI k)), (3, .int (nI (sCnt G k))), (0, .ref (a 0)), (1, .int (nI x)), (2, .int (nI y)), (5, .int (nI k))]) hx hb dX2_send_57 hl (by decide) rfl (fun ls hl => ?_)
      refine lv_iconst (v := 0) hx hb dX2_send_59 (by decide) ?_
      refine lv_istore (lv' := [(5, .int 0), (4, .ref q54), (6, .int (nI k)), (3, .int (nI (sCnt G k))), (0, .ref (a 0)), (1, .int (nI x)), (2, .int (nI y))]) hx hb dX2_send_60 hl (by decide) rfl (fun ls hl => ?_)
      refine lv_aload_n hx hb dX2_send_62 rfl (lv_at hl 4 rfl) ?_
      refine va_get (D := D) (ci := 2) (v := .ref (a 6)) (C := RX2) (T := TX2) (N := 15) hx hb hw2 (fun _ h => h) hown hK hP 1 rfl rfl 14 (by decide) k18 (fun _ h9 => h9) rfl dX2_send_63 ?_
      refine lv_astore (lv' := [(6, .ref (a 6)), (5, .int 0), (4, .ref q54), (3, .int (nI (sCnt G k))), (0, .ref (a 0)), (1, .int (nI x)), (2, .int (nI y))]) hx hb dX2_send_66 hl (by decide) rfl (fun ls hl => ?_)
      refine lv_aload hx hb dX2_send_68 (lv_at hl 0 rfl) ?_
      refine va_alen (v := nI k) hx hb hK hP 2 1 rfl rfl rfl dX2_send_70 ?_
      refine lv_istore (lv' := [(7, .int (nI k)), (6, .ref (a 6)), (5, .int 0), (4, .ref q54), (3, .int (nI (sCnt G k))), (0, .ref (a 0)), (1, .int (nI x)), (2, .int (nI y))]) hx hb dX2_send_71 hl (by decide) rfl (fun ls hl => ?_)
      refine lv_iconst (v := 0) hx hb dX2_send_73 (by decide) ?_
      refine lv_istore (lv' := [(8, .int 0), (7, .int (nI k)), (6, .ref (a 6)), (5, .int 0), (4, .ref q54), (3, .int (nI (sCnt G k))), (0, .ref (a 0)), (1, .int (nI x)), (2, .int (nI y))]) hx hb dX2_send_74 hl (by decide) rfl (fun ls hl => ?_)
      have loop76 : ∀ (j i76 : Nat), i76 + j = k → ∀ (H : Heap) (locs : List Loc) (ls : Array Slot), va_P D vwCl ([QA cR q54 (sCnt G k + 1) (sMk ga G k i76)] ++ (SC cI cR a ca ga n k f r ++ (CW cI ca n (r 5) ++ RW cI ga k 3 G))) H → va_D A ([QA cR q54 (sCnt G k + 1) (sMk ga G k i76)] ++ (SC cI cR a ca ga n k f r ++ (CW cI ca n (r 5) ++ RW cI ga k 3 G))) → va_S A s.heap H locs → lv_has ls 10 [(8, .int (nI i76)), (5, .int (nI (sCnt G i76))), (0, .ref (a 0)), (1, .int (nI x)), (2, .int (nI y)), (3, .int (nI (sCnt G k))), (4, .ref q54), (6, .ref (a 6)), (7, .int (nI k))] → W p l e rmX2_send s m args below meth c H locs (0 + 1) (0 + ((sCnt G k) + 1)) Q (F0 m 76 ls []) := by
        intro j
        induction j with
        | zero =>
          intro i76 hi76 H locs ls hP hD hS hl
          have ez : k = i76 := by omega
          subst ez
          refine lv_iload hx hb dX2_send_76 (lv_at hl 0 rfl) ?_
          refine lv_iload hx hb dX2_send_78 (lv_at hl 8 rfl) ?_
          refine lv_icmp_ge (tgt := 116) hx hb dX2_send_80 (by decide) (fun c_80 => ?_) (fun h9 => absurd (nI_le (Nat.le_refl _) (by omega)) h9)
          have c_80n := (nI_leI (a := k) (b := k) (by omega) (by omega)).mp c_80
          refine lv_aload hx hb dX2_send_116 (lv_at hl 6 rfl) ?_
          refine lv_iload_n hx hb dX2_send_118 rfl (lv_at hl 5 rfl) ?_
          refine lv_iconst (v := 3) hx hb dX2_send_119 (by decide) ?_
          refine wNewiF hx hb (hts (.arrayClass .int) (by decide +kernel)) hK hP hD hS hA 0 rfl 3 rfl (by omega) ⟨by show (0 + 1) + (1) ≤ 2; omega, by show (0 + ((sCnt G k) + 1)) + (3) ≤ 110; omega⟩ dX2_send_120 (fun q120 H hP hD hS => ?_)
          have hP : va_P D vwCl ([(q120, .inl (cI, 3, .inl (fun _ => 0)))] ++ ([QA cR q54 (sCnt G k + 1) (sMk ga G k k)] ++ (SC cI cR a ca ga n k f r ++ (CW cI ca n (r 5) ++ RW cI ga k 3 G)))) H := hP
          have hD : va_D A ([(q120, .inl (cI, 3, .inl (fun _ => 0)))] ++ ([QA cR q54 (sCnt G k + 1) (sMk ga G k k)] ++ (SC cI cR a ca ga n k f r ++ (CW cI ca n (r 5) ++ RW cI ga k 3 G)))) := hD
          refine lv_dup hx hb dX2_send_122 rfl ?_
          refine lv_iconst (v := 0) hx hb dX2_send_123 (by decide) ?_
          refine lv_iload_n hx hb dX2_send_124 rfl (lv_at hl 3 rfl) ?_
          refine wIast hx hb hK hP hD hS 0 0 rfl rfl 0 rfl (by decide) (by decide) dX2_send_125 (fun H locs hP hD hS => ?_)
          have hP : va_P D vwCl ([(q120, .inl (cI, 3, .inl (upd (fun _ => 0) 0 (nI x))))] ++ ([QA cR q54 (sCnt G k + 1) (sMk ga G k k)] ++ (SC cI cR a ca ga n k f r ++ (CW cI ca n (r 5) ++ RW cI ga k 3 G)))) H := hP
          have hD : va_D A ([(q120, .inl (cI, 3, .inl (upd (fun _ => 0) 0 (nI x))))] ++ ([QA cR q54 (sCnt G k + 1) (sMk ga G k k)] ++ (SC cI cR a ca ga n k f r ++ (CW cI ca n (r 5) ++ RW cI ga k 3 G)))) := hD
          refine lv_dup hx hb dX2_send_126 rfl ?_
          refine lv_iconst (v := 1) hx hb dX2_send_127 (by decide) ?_
          refine lv_iload_n hx hb dX2_send_128 rfl (lv_at hl 4 rfl) ?_
          refine wIast hx hb hK hP hD hS 0 0 rfl rfl 1 rfl (by decide) (by decide) dX2_send_129 (fun H locs hP hD hS => ?_)
          have hP : va_P D vwCl ([(q120, .inl (cI, 3, .inl (upd (upd (fun _ => 0) 0 (nI x)) 1 (nI y))))] ++ ([QA cR q54 (sCnt G k + 1) (sMk ga G k k)] ++ (SC cI cR a ca ga n k f r ++ (CW cI ca n (r 5) ++ RW cI ga k 3 G)))) H := hP
          have hD : va_D A ([(q120, .inl (cI, 3, .inl (upd (upd (fun _ => 0) 0 (nI x)) 1 (nI y))))] ++ ([QA cR q54 (sCnt G k + 1) (sMk ga G k k)] ++ (SC cI cR a ca ga n k f r ++ (CW cI ca n (r 5) ++ RW cI ga k 3 G)))) := hD
          refine lv_dup hx hb dX2_send_130 rfl ?_
          refine lv_iconst (v := 2) hx hb dX2_send_131 (by decide) ?_
          refine lv_iconst (v := 2) hx hb dX2_send_132 (by decide) ?_
          refine lv_aload_n hx hb dX2_send_133 rfl (lv_at hl 2 rfl) ?_
          refine lv_iload_n hx hb dX2_send_134 rfl (lv_at hl 3 rfl) ?_
          refine lv_iload_n hx hb dX2_send_135 rfl (lv_at hl 4 rfl) ?_
          refine wCVi (pre := [(q120, .inl (cI, 3, .inl (upd (upd (fun _ => 0) 0 (nI x)) 1 (nI y))))] ++ [QA cR q54 (sCnt G k + 1) (sMk ga G k k)]) (Wc := SC cI cR a ca ga n k f r ++ (CW cI ca n (r 5) ++ RW cI ga k 3 G)) (suf := ([] : va_W)) (As := [.int (nI x), .int (nI y)]) (rest := [.int 2, .int 2, .ref q120, .ref q120, .int (nI (sCnt G k)), .ref q54]) ⟨hx, hb, hml, hown, hts⟩ (mX2_apart l D cI cR a ca ga n k f r G x y _ hg hn0 hn1 hk ux uy) hN hA hK hS hP hD (by simp only [List.append_assoc, List.append_nil, List.nil_append]) 0 (r := (RX2, TX2, 15)) rfl rfl (cwV 2 hts gX2_send_X2_apart rfl rfl rfl (by decide +kernel) ⟨Nat.le_of_ble_eq_true rfl, Nat.le_of_ble_eq_true rfl⟩) rfl hl.1 rfl (Nat.le_of_ble_eq_true rfl) dX2_send_136 ⟨by show ((0 + 1) + 1) ≤ 2; omega, by show ((0 + ((sCnt G k) + 1)) + 3) ≤ 110; omega⟩ (fun r_136 u_136 H locs hw hP hD hS => ?_)
          have hw : r_136 = nI (sN n x y) := hw
          subst hw
          have hP : va_P D vwCl ([(q120, .inl (cI, 3, .inl (upd (upd (fun _ => 0) 0 (nI x)) 1 (nI y))))] ++ ([QA cR q54 (sCnt G k + 1) (sMk ga G k k)] ++ (SC cI cR a ca ga n k f r ++ (CW cI ca n (r 5) ++ RW cI ga k 3 G)))) H := by simpa only [List.append_assoc, List.append_nil, List.nil_append] using hP
          have hD : va_D A ([(q120, .inl (cI, 3, .inl (upd (upd (fun _ => 0) 0 (nI x)) 1 (nI y))))] ++ ([QA cR q54 (sCnt G k + 1) (sMk ga G k k)] ++ (SC cI cR a ca ga n k f r ++ (CW cI ca n (r 5) ++ RW cI ga k 3 G)))) := by simpa only [List.append_assoc, List.append_nil, List.nil_append] using hD
          refine lv_imul hx hb dX2_send_139 ?_
          refine wTop (z := nI (2 * (sN n x y))) (pk_mul 2 (sN n x y)) ?_
          refine wIast hx hb hK hP hD hS 0 0 rfl rfl 2 rfl (by decide) (by decide) dX2_send_140 (fun H locs hP hD hS => ?_)
          have hP : va_P D vwCl ([(q120, .inl (cI, 3, .inl (upd (upd (upd (fun _ => 0) 0 (nI x)) 1 (nI y)) 2 (nI (2 * (sN n x y))))))] ++ ([QA cR q54 (sCnt G k + 1) (sMk ga G k k)] ++ (SC cI cR a ca ga n k f r ++ (CW cI ca n (r 5) ++ RW cI ga k 3 G)))) H := hP
          have hD : va_D A ([(q120, .inl (cI, 3, .inl (upd (upd (upd (fun _ => 0) 0 (nI x)) 1 (nI y)) 2 (nI (2 * (sN n x y))))))] ++ ([QA cR q54 (sCnt G k + 1) (sMk ga G k k)] ++ (SC cI cR a ca ga n k f r ++ (CW cI ca n (r 5) ++ RW cI ga k 3 G)))) := hD
          refine wAast hx hb hN hK hP hD hS 1 0 1 0 rfl rfl rfl rfl (sCnt G k) rfl (by omega) (by omega) dX2_send_141 (fun H locs hP hD hS => ?_)
          have hP : va_P D vwCl ([(q120, .inl (cI, 3, .inl (upd (upd (upd (fun _ => 0) 0 (nI x)) 1 (nI y)) 2 (nI (2 * (sN n x y))))))] ++ ([QA cR q54 (sCnt G k + 1) (va_up (sMk ga G k k) (sCnt G k) (some q120))] ++ (SC cI cR a ca ga n k f r ++ (CW cI ca n (r 5) ++ RW cI ga k 3 G)))) H := hP
          have hD : va_D A ([(q120, .inl (cI, 3, .inl (upd (upd (upd (fun _ => 0) 0 (nI x)) 1 (nI y)) 2 (nI (2 * (sN n x y))))))] ++ ([QA cR q54 (sCnt G k + 1) (va_up (sMk ga G k k) (sCnt G k) (some q120))] ++ (SC cI cR a ca ga n k f r ++ (CW cI ca n (r 5) ++ RW cI ga k 3 G)))) := hD
          refine lv_aload_n hx hb dX2_send_142 rfl (lv_at hl 2 rfl) ?_
          refine lv_aload hx hb dX2_send_143 (lv_at hl 6 rfl) ?_
          refine va_put (D := D) (ci := 2) (v := .ref q54) (ty := .array (.array .int)) (C := RX2) (T := TX2) (N := 15) hx hb hw2 (fun _ h => h) tyX2 tyX2_ok nmX2 hown hK hP hD hS 2 rfl rfl 14 (by decide) k18 (fun _ h9 => h9) rfl (by decide +kernel) rfl rfl (Nat.le_of_ble_eq_true rfl) dX2_send_145 (fun H locs hP hD hS => ?_)
          have hP : va_P D vwCl ([(q120, .inl (cI, 3, .inl (upd (upd (upd (fun _ => 0) 0 (nI x)) 1 (nI y)) 2 (nI (2 * (sN n x y))))))] ++ ([QA cR q54 (sCnt G k + 1) (va_up (sMk ga G k k) (sCnt G k) (some q120))] ++ ([(a 0, .inr (2, [.int (f 0), .int (f 2), .int (f 1), .int (f 3), .int (f 4), .int (f 5), .int (f 6), .int (f 7), .int (f 8), .ref (a 1), .ref (a 2), .ref (a 3), .ref (a 4), .ref (a 5), .ref q54])), QA cR (a 6) k (RF k ga), (a 1, .inl (cI, n, .inl (r 0))), (a 2, .inl (cI, n, .inl (r 1))), (a 3, .inl (cI, n, .inl (r 2))), (a 4, .inl (cI, n, .inl (r 3))), QA cR (a 5) n (RF n ca)] ++ (CW cI ca n (r 5) ++ RW cI ga k 3 G)))) H := hP
          have hD : va_D A ([(q120, .inl (cI, 3, .inl (upd (upd (upd (fun _ => 0) 0 (nI x)) 1 (nI y)) 2 (nI (2 * (sN n x y))))))] ++ ([QA cR q54 (sCnt G k + 1) (va_up (sMk ga G k k) (sCnt G k) (some q120))] ++ ([(a 0, .inr (2, [.int (f 0), .int (f 2), .int (f 1), .int (f 3), .int (f 4), .int (f 5), .int (f 6), .int (f 7), .int (f 8), .ref (a 1), .ref (a 2), .ref (a 3), .ref (a 4), .ref (a 5), .ref q54])), QA cR (a 6) k (RF k ga), (a 1, .inl (cI, n, .inl (r 0))), (a 2, .inl (cI, n, .inl (r 1))), (a 3, .inl (cI, n, .inl (r 2))), (a 4, .inl (cI, n, .inl (r 3))), QA cR (a 5) n (RF n ca)] ++ (CW cI ca n (r 5) ++ RW cI ga k 3 G)))) := hD
          refine lv_aload hx hb dX2_send_148 (lv_at hl 6 rfl) ?_
          refine lv_iload_n hx hb dX2_send_150 rfl (lv_at hl 5 rfl) ?_
          refine wAald hx hb hK hP 1 1 rfl rfl (sCnt G k) rfl (by omega) (by omega) (vaUs) dX2_send_151 ?_
          refine lv_iconst (v := 2) hx hb dX2_send_152 (by decide) ?_
          refine wIald hx hb hK hP 0 0 rfl rfl 2 rfl (by decide) (by decide) dX2_send_153 ?_
          have hP := sendP (x := nI x) (y := nI y) (w := nI (2 * sN n x y)) hP
          have hD := sendD (x := nI x) (y := nI y) (w := nI (2 * sN n x y)) hD
          refine W.widen (k := 2) (n := 110) (by omega) (by omega) ?_
          exact wRi hQ hx hb hr hlocks hP hD hS dX2_send_154 (q54, q120) (mUs) rfl
        | succ j ih76 =>
          intro i76 hi76 H locs ls hP hD hS hl
          have hc7 := sCnt_le G i76
          have hm7 := sCnt_mono G i76 (k - i76)
          rw [show i76 + (k - i76) = k by omega] at hm7
          refine lv_iload hx hb dX2_send_76 (lv_at hl 0 rfl) ?_
          refine lv_iload hx hb dX2_send_78 (lv_at hl 8 rfl) ?_
          refine lv_icmp_ge (tgt := 116) hx hb dX2_send_80 (by decide) (fun h9 => absurd h9 (nI_ge (by omega) (by omega))) (fun c_80 => ?_)
          have c_80n := mt (nI_leI (a := k) (b := i76) (by omega) (by omega)).mpr c_80
          refine lv_aload hx hb dX2_send_83 (lv_at hl 7 rfl) ?_
          refine lv_iload hx hb dX2_send_85 (lv_at hl 0 rfl) ?_
          refine wAald hx hb hK hP 2 1 rfl rfl i76 rfl (by omega) (by omega) (RF_in (by omega)) dX2_send_87 ?_
          refine lv_astore (lv' := [(9, .ref (ga i76)), (8, .int (nI i76)), (5, .int (nI (sCnt G i76))), (0, .ref (a 0)), (1, .int (nI x)), (2, .int (nI y)), (3, .int (nI (sCnt G k))), (4, .ref q54), (6, .ref (a 6)), (7, .int (nI k))]) hx hb dX2_send_88 hl (by decide) rfl (fun ls hl => ?_)
          refine lv_aload hx hb dX2_send_90 (lv_at hl 0 rfl) ?_
          refine lv_iconst (v := 2) hx hb dX2_send_92 (by decide) ?_
          refine wIaldR (pre := [QA cR q54 (sCnt G k + 1) (sMk ga G k i76)] ++ (SC cI cR a ca ga n k f r ++ CW cI ca n (r 5))) (suf := ([] : va_W)) (bb := ga) (N := k) (len := 3) (v := G) hx hb hK hP 0 (by simp only [List.append_assoc, List.append_nil, List.nil_append]) rfl i76 (by omega) 2 rfl (by decide) (by decide) dX2_send_93 ?_
          refine lv_if_ge (tgt := 100) hx hb dX2_send_94 (by decide) (fun c_94 => ?_) (fun c_94 => ?_)
          · refine lv_aload hx hb dX2_send_100 (lv_at hl 7 rfl) ?_
            refine lv_iload hx hb dX2_send_102 (lv_at hl 2 rfl) ?_
            refine lv_aload hx hb dX2_send_104 (lv_at hl 0 rfl) ?_
            refine wAastR (pre := [QA cR q54 (sCnt G k + 1) (sMk ga G k i76)] ++ (SC cI cR a ca ga n k f r ++ CW cI ca n (r 5))) (suf := ([] : va_W)) (bb := ga) (N2 := k) (len := 3) (v2 := G) hx hb hN hK hP hD hS 0 1 0 rfl rfl (by simp only [List.append_assoc, List.append_nil, List.nil_append]) i76 (by omega) rfl (sCnt G i76) rfl (by omega) (by omega) dX2_send_106 (fun H locs hP hD hS => ?_)
            have hP : va_P D vwCl ([QA cR q54 (sCnt G k + 1) (va_up (sMk ga G k i76) (sCnt G i76) (some (ga i76)))] ++ (SC cI cR a ca ga n k f r ++ (CW cI ca n (r 5) ++ RW cI ga k 3 G))) H := hP
            have hD : va_D A ([QA cR q54 (sCnt G k + 1) (va_up (sMk ga G k i76) (sCnt G i76) (some (ga i76)))] ++ (SC cI cR a ca ga n k f r ++ (CW cI ca n (r 5) ++ RW cI ga k 3 G))) := hD
            refine lv_iinc (v := nI ((sCnt G i76) + 1)) (lv' := [(5, .int (nI ((sCnt G i76) + 1))), (9, .ref (ga i76)), (8, .int (nI i76)), (0, .ref (a 0)), (1, .int (nI x)), (2, .int (nI y)), (3, .int (nI (sCnt G k))), (4, .ref q54), (6, .ref (a 6)), (7, .int (nI k))]) hx hb dX2_send_107 hl (k := 2) rfl (nI_1 (sCnt G i76)) (by decide) rfl (fun ls hl => ?_)
            refine lv_iinc (v := nI (i76 + 1)) (lv' := [(8, .int (nI (i76 + 1))), (5, .int (nI ((sCnt G i76) + 1))), (9, .ref (ga i76)), (0, .ref (a 0)), (1, .int (nI x)), (2, .int (nI y)), (3, .int (nI (sCnt G k))), (4, .ref q54), (6, .ref (a 6)), (7, .int (nI k))]) hx hb dX2_send_110 hl (k := 2) rfl (nI_1 i76) (by decide) rfl (fun ls hl => ?_)
            refine lv_goto (tgt := 76) hx hb dX2_send_113 (by decide) ?_
            have e76 : sCnt G (i76 + 1) = sCnt G i76 + 1 := sCnt_t c_94
            have hP : va_P D vwCl ([QA cR q54 (sCnt G k + 1) (sMk ga G k (i76 + 1))] ++ (SC cI cR a ca ga n k f r ++ (CW cI ca n (r 5) ++ RW cI ga k 3 G))) H := by rw [← sMk_t (show i76 < k by omega) c_94]; exact hP
            have hD : va_D A ([QA cR q54 (sCnt G k + 1) (sMk ga G k (i76 + 1))] ++ (SC cI cR a ca ga n k f r ++ (CW cI ca n (r 5) ++ RW cI ga k 3 G))) := by rw [← sMk_t (show i76 < k by omega) c_94]; exact hD
            have hl : lv_has ls 10 [(8, .int (nI (i76 + 1))), (5, .int (nI (sCnt G (i76 + 1)))), (9, .ref (ga i76)), (0, .ref (a 0)), (1, .int (nI x)), (2, .int (nI y)), (3, .int (nI (sCnt G k))), (4, .ref q54), (6, .ref (a 6)), (7, .int (nI k))] := by rw [e76]; exact hl
            exact ih76 (i76 + 1) (by omega) _ _ _ hP hD hS (lv_sub hl [0, 1, 3, 4, 5, 6, 7, 8, 9] rfl)
          · refine lv_goto (tgt := 110) hx hb dX2_send_97 (by decide) ?_
            refine lv_iinc (v := nI (i76 + 1)) (lv' := [(8, .int (nI (i76 + 1))), (9, .ref (ga i76)), (5, .int (nI (sCnt G i76))), (0, .ref (a 0)), (1, .int (nI x)), (2, .int (nI y)), (3, .int (nI (sCnt G k))), (4, .ref q54), (6, .ref (a 6)), (7, .int (nI k))]) hx hb dX2_send_110 hl (k := 1) rfl (nI_1 i76) (by decide) rfl (fun ls hl => ?_)
            refine lv_goto (tgt := 76) hx hb dX2_send_113 (by decide) ?_
            have e76 : sCnt G (i76 + 1) = sCnt G i76 := sCnt_f c_94
            have hP : va_P D vwCl ([QA cR q54 (sCnt G k + 1) (sMk ga G k (i76 + 1))] ++ (SC cI cR a ca ga n k f r ++ (CW cI ca n (r 5) ++ RW cI ga k 3 G))) H := by rw [sMk_f c_94]; exact hP
            have hD : va_D A ([QA cR q54 (sCnt G k + 1) (sMk ga G k (i76 + 1))] ++ (SC cI cR a ca ga n k f r ++ (CW cI ca n (r 5) ++ RW cI ga k 3 G))) := by rw [sMk_f c_94]; exact hD
            have hl : lv_has ls 10 [(8, .int (nI (i76 + 1))), (9, .ref (ga i76)), (5, .int (nI (sCnt G (i76 + 1)))), (0, .ref (a 0)), (1, .int (nI x)), (2, .int (nI y)), (3, .int (nI (sCnt G k))), (4, .ref q54), (6, .ref (a 6)), (7, .int (nI k))] := by rw [e76]; exact hl
            exact ih76 (i76 + 1) (by omega) _ _ _ hP hD hS (lv_sub hl [0, 2, 3, 4, 5, 6, 7, 8, 9] rfl)
      have hP : va_P D vwCl ([QA cR q54 (sCnt G k + 1) (sMk ga G k 0)] ++ (SC cI cR a ca ga n k f r ++ (CW cI ca n (r 5) ++ RW cI ga k 3 G))) H := by rw [sMk_0]; exact hP
      have hD : va_D A ([QA cR q54 (sCnt G k + 1) (sMk ga G k 0)] ++ (SC cI cR a ca ga n k f r ++ (CW cI ca n (r 5) ++ RW cI ga k 3 G))) := by rw [sMk_0]; exact hD
      exact loop76 k 0 (by omega) _ _ _ hP hD hS (lv_sub hl [0, 3, 6, 7, 8, 5, 4, 2, 1] rfl)
    | succ j ih16 =>
      intro i16 hi16 H locs ls hP hD hS hl
      have hcs := sCnt_le G i16
      refine lv_iload hx hb dX2_send_16 (lv_at hl 0 rfl) ?_
      refine lv_iload hx hb dX2_send_18 (lv_at hl 6 rfl) ?_
      refine lv_icmp_ge (tgt := 51) hx hb dX2_send_20 (by decide) (fun h9 => absurd h9 (nI_ge (by omega) (by omega))) (fun c_20 => ?_)
      have c_20n := mt (nI_leI (a := k) (b := i16) (by omega) (by omega)).mpr c_20
      refine lv_aload hx hb dX2_send_23 (lv_at hl 5 rfl) ?_
      refine lv_iload hx hb dX2_send_25 (lv_at hl 0 rfl) ?_
      refine wAald hx hb hK hP 1 1 rfl rfl i16 rfl (by omega) (by omega) (RF_in (by omega)) dX2_send_27 ?_
      refine lv_astore (lv' := [(7, .ref (ga i16)), (6, .int (nI i16)), (3, .int (nI (sCnt G i16))), (0, .ref (a 0)), (1, .int (nI x)), (2, .int (nI y)), (4, .ref (a 6)), (5, .int (nI k))]) hx hb dX2_send_28 hl (by decide) rfl (fun ls hl => ?_)
      refine lv_iload_n hx hb dX2_send_30 rfl (lv_at hl 2 rfl) ?_
      refine lv_aload hx hb dX2_send_31 (lv_at hl 0 rfl) ?_
      refine lv_iconst (v := 2) hx hb dX2_send_33 (by decide) ?_
      refine wIaldR (pre := SC cI cR a ca ga n k f r ++ CW cI ca n (r 5)) (suf := ([] : va_W)) (bb := ga) (N := k) (len := 3) (v := G) hx hb hK hP 0 (by simp only [List.append_assoc, List.append_nil, List.nil_append]) rfl i16 (by omega) 2 rfl (by decide) (by decide) dX2_send_34 ?_
      refine lv_if_lt (tgt := 42) hx hb dX2_send_35 (by decide) (fun c_35 => ?_) (fun c_35 => ?_)
      · refine lv_iconst (v := 0) hx hb dX2_send_42 (by decide) ?_
        refine lv_iadd hx hb dX2_send_43 ?_
        refine wTop (z := nI ((sCnt G i16) + 0)) (nI_add (sCnt G i16) 0) ?_
        refine lv_istore_n (lv' := [(3, .int (nI ((sCnt G i16) + 0))), (7, .ref (ga i16)), (6, .int (nI i16)), (0, .ref (a 0)), (1, .int (nI x)), (2, .int (nI y)), (4, .ref (a 6)), (5, .int (nI k))]) hx hb dX2_send_44 rfl hl (by decide) rfl (fun ls hl => ?_)
        refine lv_iinc (v := nI (i16 + 1)) (lv' := [(6, .int (nI (i16 + 1))), (3, .int (nI ((sCnt G i16) + 0))), (7, .ref (ga i16)), (0, .ref (a 0)), (1, .int (nI x)), (2, .int (nI y)), (4, .ref (a 6)), (5, .int (nI k))]) hx hb dX2_send_45 hl (k := 2) rfl (nI_1 i16) (by decide) rfl (fun ls hl => ?_)
        refine lv_goto (tgt := 16) hx hb dX2_send_48 (by decide) ?_
        have e16 : sCnt G (i16 + 1) = sCnt G i16 + 0 := sCnt_f (Int32.not_le.mpr c_35)
        have hl : lv_has ls 10 [(6, .int (nI (i16 + 1))), (3, .int (nI (sCnt G (i16 + 1)))), (7, .ref (ga i16)), (0, .ref (a 0)), (1, .int (nI x)), (2, .int (nI y)), (4, .ref (a 6)), (5, .int (nI k))] := by rw [e16]; exact hl
        exact ih16 (i16 + 1) (by omega) _ _ _ hP hD hS (lv_sub hl [0, 1, 3, 4, 5, 6, 7] rfl)
      · refine lv_iconst (v := 1) hx hb dX2_send_38 (by decide) ?_
        refine lv_goto (tgt := 43) hx hb dX2_send_39 (by decide) ?_
        refine lv_iadd hx hb dX2_send_43 ?_
        refine wTop (z := nI ((sCnt G i16) + 1)) (nI_add (sCnt G i16) 1) ?_
        refine lv_istore_n (lv' := [(3, .int (nI ((sCnt G i16) + 1))), (7, .ref (ga i16)), (6, .int (nI i16)), (0, .ref (a 0)), (1, .int (nI x)), (2, .int (nI y)), (4, .ref (a 6)), (5, .int (nI k))]) hx hb dX2_send_44 rfl hl (by decide) rfl (fun ls hl => ?_)
        refine lv_iinc (v := nI (i16 + 1)) (lv' := [(6, .int (nI (i16 + 1))), (3, .int (nI ((sCnt G i16) + 1))), (7, .ref (ga i16)), (0, .ref (a 0)), (1, .int (nI x)), (2, .int (nI y)), (4, .ref (a 6)), (5, .int (nI k))]) hx hb dX2_send_45 hl (k := 2) rfl (nI_1 i16) (by decide) rfl (fun ls hl => ?_)
        refine lv_goto (tgt := 16) hx hb dX2_send_48 (by decide) ?_
        have e16 : sCnt G (i16 + 1) = sCnt G i16 + 1 := sCnt_t (Int32.not_lt.mp c_35)
        have hl : lv_has ls 10 [(6, .int (nI (i16 + 1))), (3, .int (nI (sCnt G (i16 + 1)))), (7, .ref (ga i16)), (0, .ref (a 0)), (1, .int (nI x)), (2, .int (nI y)), (4, .ref (a 6)), (5, .int (nI k))] := by rw [e16]; exact hl
        exact ih16 (i16 + 1) (by omega) _ _ _ hP hD hS (lv_sub hl [0, 1, 3, 4, 5, 6, 7] rfl)
  exact loop16 k 0 (by omega) _ _ _ hP hD hS (lv_sub hl [0, 3, 4, 5, 6, 2, 1] rfl)
end
section
/-! What a second leaves as it was; what many seconds want. -/
section SP2
theorem sArr_f {k : Nat} {s : sS} {i j : Nat} (h7 : j ≠ 7) (h8 : j ≠ 8) : (sArr k s i).1 j = s.1 j := by
  unfold sArr
  split
  · exact mUp h7
  · split
    · exact mUp h8
    · rfl
theorem sArrs_f {k : Nat} {s : sS} {j : Nat} (h7 : j ≠ 7) (h8 : j ≠ 8) : ∀ i, (sArrs k s i).1 j = s.1 j
  | 0 => rfl
  | i + 1 => by
    have ih := sArrs_f (k := k) (s := s) h7 h8 i
    unfold sArrs
    split
    · rw [sArr_f h7 h8]; exact ih
    · exact ih
theorem dTalk_f {j : Nat} (h3 : j ≠ 3) (h4 : j ≠ 4) (h5 : j ≠ 5) (h6 : j ≠ 6) (f : Nat → Int32) (r : Nat → Nat → Int32) : (dTalk f r).1 j = f j := by
  unfold dTalk
  split <;> split <;> simp only [mUp h3, mUp h4, mUp h5, mUp h6]
def pOk (n k : Nat) (s : sS) : Prop := s.1 0 = nI n ∧ (s.1 3 = -1 ∨ ∃ q, q < n ∧ s.1 3 = nI q) ∧ 0 < s.1 2 ∧ ∀ i, i < k → ∃ x y : Nat, x < n ∧ y < n ∧ s.2.2 i 0 = nI x ∧ s.2.2 i 1 = nI y
end SP2
section SP3
variable {p : Program} {l : Launch} {e : Env} {R : Room} {s : State} {m : MethodId} {args : Array Value} {below : List Frame} {meth : Method} {c : Code} {H : Heap} {locs : List Loc} {cells slots : Nat} {Q : State → Prop}
theorem wAloadO_n {cc : ByteArray} {rest : List Value} {pc : Nat} {ls : Array Slot} (hx : p.tables.exec = Jvm.exec) (hb : c.code = cc) {k : Fin 4} {i : Nat} {o : Option Nat} (hdg : decode cc pc = .ok (.aload_n k, 1)) (hi : (k : Nat) = i) (hl : ls[i]? = some (.val (va_rf o)))
    (kk : W p l e R s m args below meth c H locs cells slots Q (F0 m (pc + 1) ls (va_rf o :: rest))) : W p l e R s m args below meth c H locs cells slots Q (F0 m pc ls rest) := by
  cases o with
  | none => exact lv_aload_nN hx hb hdg hi hl kk
  | some q => exact lv_aload_n hx hb hdg hi hl kk
end SP3
end
section
abbrev rmX2_pass : Room := { frames := 1, cells := 0, slots := 0, locals := 23 }
set_option maxRecDepth 100000 in
set_option maxHeartbeats 4000000 in
/-- pass -/
theorem mX2_pass (l : Launch) (D : va_G) (cI cR : ClassId) (a ca ga : Nat → Nat) (n k : Nat) (f : Nat → Int32) (r G : Nat → Nat → Int32) (sz : Nat) (hg : f 0 = nI n) (hn0 : 2 ≤ n) (hn1 : n ≤ 10) (hk : k ≤ 100) (hs : f 3 = -1 ∨ ∃ q, q < n ∧ f 3 = nI q) (hli : 0 < f 2) (hok : ∀ i, i < k → ∃ x y : Nat, x < n ∧ y < n ∧ G i 0 = nI x ∧ G i 1 = nI y) : wCt l yX2_pass wsX2_pass rmX2_pass D [(cI, .int), (cR, .array .int)] [.ref (a 0)] (SC cI cR a ca ga n k f r ++ (CW cI ca n (r 5) ++ RW cI ga k 3 G)) sz 0 0 (wQi D (fun _ (u : sS) => u = sPass k (f, r, G)) (fun u : sS => SC cI cR a ca ga n k u.1 u.2.1 ++ (CW cI ca n (u.2.1 5) ++ RW cI ga k 3 u.2.2))) := by
  refine wMet cX2_pass 9 (some .int) (by decide) rfl (Nat.le_of_ble_eq_true rfl) ?_
  intro p e s m args below meth c A Q ls hQ hx hb hr hml hown hlocks hin hts hN hP hK hD hA hS hl
  have hK1 : va_K D vwCl [(cI, .int)] s := hK.sub [0] rfl
  have hl : lv_has ls 9 [(0, .ref (a 0))] := hl
  have hown : s.vm.findClass RX2 = some m.cls := hown
  have hw2 : ∀ w ∈ wsX20, w.before args s = true := fun w h => hts w (List.mem_cons_of_mem _ (List.mem_append_right _ h))
  have k7 := hts (.fieldLink RX2 7 "PauseLedgerLaw$Sim" "limit" "I") (by decide +kernel)
  have k13 := hts (.fieldLink RX2 13 "PauseLedgerLaw$Sim" "speaker" "I") (by decide +kernel)
  have k18 := hts (.fieldLink RX2 18 "PauseLedgerLaw$Sim" "glances" "[[I") (by decide +kernel)
  have k25 := hts (.fieldLink RX2 25 "PauseLedgerLaw$Sim" "spoken" "[I") (by decide +kernel)
  have k34 := hts (.fieldLink RX2 34 "PauseLedgerLaw$Sim" "unsaid" "[I") (by decide +kernel)
  have k38 := hts (.fieldLink RX2 38 "PauseLedgerLaw$Sim" "caught" "[[I") (by decide +kernel)
  have k44 := hts (.fieldLink RX2 44 "PauseLedgerLaw$Sim" "second" "I") (by decide +kernel)
  have k47 := hts (.fieldLink RX2 47 "PauseLedgerLaw$Sim" "left" "I") (by decide +kernel)
  have k50 := hts (.fieldLink RX2 50 "PauseLedgerLaw$Sim" "pause" "I") (by decide +kernel)
  have k53 := hts (.fieldLink RX2 53 "PauseLedgerLaw$Sim" "quiet" "I") (by decide +kernel)
  have k56 := hts (.fieldLink RX2 56 "PauseLedgerLaw$Sim" "met" "I") (by decide +kernel)
  have k59 := hts (.fieldLink RX2 59 "PauseLedgerLaw$Sim" "lost" "I") (by decide +kernel)
  have join107 : ∀ (f1 : Nat → Int32) (r1 : Nat → Nat → Int32) (o1 : Option Nat), dTalk f r = (f1, r1) → ∀ (H : Heap) (locs : List Loc) (ls : Array Slot), va_P D vwCl (SC cI cR a ca ga n k f1 r1 ++ (CW cI ca n (r1 5) ++ RW cI ga k 3 G)) H → va_D A (SC cI cR a ca ga n k f1 r1 ++ (CW cI ca n (r1 5) ++ RW cI ga k 3 G)) → va_S A s.heap H locs → lv_has ls 9 [(1, va_rf o1), (0, .ref (a 0))] → W p l e rmX2_pass s m args below meth c H locs 0 0 Q (F0 m 107 ls []) := by
    intro f1 r1 o1 he H locs ls hP hD hS hl
    refine lv_iconst (v := (-1)) hx hb dX2_pass_107 (by decide) ?_
    refine lv_istore_n (lv' := [(2, .int (-1)), (1, va_rf o1), (0, .ref (a 0))]) hx hb dX2_pass_108 rfl hl (by decide) (by cases o1 <;> rfl) (fun ls hl => ?_)
    refine lv_aload_n hx hb dX2_pass_109 rfl (lv_at hl 2 rfl) ?_
    refine va_get (D := D) (ci := 2) (v := .ref (a 6)) (C := RX2) (T := TX2) (N := 15) hx hb hw2 (fun _ h => h) hown hK hP 0 rfl rfl 14 (by decide) k18 (fun _ h9 => h9) rfl dX2_pass_110 ?_
    refine lv_astore_n (lv' := [(3, .ref (a 6)), (2, .int (-1)), (1, va_rf o1), (0, .ref (a 0))]) hx hb dX2_pass_113 rfl hl (by decide) (by cases o1 <;> rfl) (fun ls hl => ?_)
    refine lv_aload_n hx hb dX2_pass_114 rfl (lv_at hl 0 rfl) ?_
    refine va_alen (v := nI k) hx hb hK hP 1 1 rfl rfl rfl dX2_pass_115 ?_
    refine lv_istore (lv' := [(4, .int (nI k)), (3, .ref (a 6)), (2, .int (-1)), (1, va_rf o1), (0, .ref (a 0))]) hx hb dX2_pass_116 hl (by decide) (by cases o1 <;> rfl) (fun ls hl => ?_)
    refine lv_iconst (v := 0) hx hb dX2_pass_118 (by decide) ?_
    refine lv_istore (lv' := [(5, .int 0), (4, .int (nI k)), (3, .ref (a 6)), (2, .int (-1)), (1, va_rf o1), (0, .ref (a 0))]) hx hb dX2_pass_119 hl (by decide) (by cases o1 <;> rfl) (fun ls hl => ?_)
    have loop121 : ∀ (j i121 : Nat), i121 + j = k → ∀ (H : Heap) (locs : List Loc) (ls : Array Slot), va_P D vwCl (SC cI cR a ca ga n k f1 r1 ++ (CW cI ca n (r1 5) ++ RW cI ga k 3 (sDec G i121))) H → va_D A (SC cI cR a ca ga n k f1 r1 ++ (CW cI ca n (r1 5) ++ RW cI ga k 3 (sDec G i121))) → va_S A s.heap H locs → lv_has ls 9 [(5, .int (nI i121)), (0, .ref (a 0)), (1, va_rf o1), (2, .int (-1)), (3, .ref (a 6)), (4, .int (nI k))] → W p l e rmX2_pass s m args below meth c H locs 0 0 Q (F0 m 121 ls []) := by
      intro j
      induction j with
      | zero =>
        intro i121 hi121 H locs ls hP hD hS hl
        have ez : k = i121 := by omega
        subst ez
        refine lv_iload hx hb dX2_pass_121 (lv_at hl 0 rfl) ?_
        refine lv_iload hx hb dX2_pass_123 (lv_at hl 5 rfl) ?_
        refine lv_icmp_ge (tgt := 155) hx hb dX2_pass_125 (by decide) (fun c_125 => ?_) (fun h9 => absurd (nI_le (Nat.le_refl _) (by omega)) h9)
        have c_125n := (nI_leI (a := k) (b := k) (by omega) (by omega)).mp c_125
        refine lv_aload_n hx hb dX2_pass_155 rfl (lv_at hl 1 rfl) ?_
        refine va_get (D := D) (ci := 2) (v := .ref (a 6)) (C := RX2) (T := TX2) (N := 15) hx hb hw2 (fun _ h => h) hown hK hP 0 rfl rfl 14 (by decide) k18 (fun _ h9 => h9) rfl dX2_pass_156 ?_
        refine lv_astore_n (lv' := [(3, .ref (a 6)), (5, .int (nI k)), (0, .ref (a 0)), (1, va_rf o1), (2, .int (-1)), (4, .int (nI k))]) hx hb dX2_pass_159 rfl hl (by decide) (by cases o1 <;> rfl) (fun ls hl => ?_)
        refine lv_aload_n hx hb dX2_pass_160 rfl (lv_at hl 0 rfl) ?_
        refine va_alen (v := nI k) hx hb hK hP 1 1 rfl rfl rfl dX2_pass_161 ?_
        refine lv_istore (lv' := [(4, .int (nI k)), (3, .ref (a 6)), (5, .int (nI k)), (0, .ref (a 0)), (1, va_rf o1), (2, .int (-1))]) hx hb dX2_pass_162 hl (by decide) (by cases o1 <;> rfl) (fun ls hl => ?_)
        refine lv_iconst (v := 0) hx hb dX2_pass_164 (by decide) ?_
        refine lv_istore (lv' := [(5, .int 0), (4, .int (nI k)), (3, .ref (a 6)), (0, .ref (a 0)), (1, va_rf o1), (2, .int (-1))]) hx hb dX2_pass_165 hl (by decide) (by cases o1 <;> rfl) (fun ls hl => ?_)
        have loop167 : ∀ (j i167 : Nat) (e2 : Int32), i167 + j = k → ∀ (H : Heap) (locs : List Loc) (ls : Array Slot), va_P D vwCl (SC cI cR a ca ga n k (sArrs k (f1, r1, sDec G k) i167).1 (sArrs k (f1, r1, sDec G k) i167).2.1 ++ (CW cI ca n ((sArrs k (f1, r1, sDec G k) i167).2.1 5) ++ RW cI ga k 3 (sArrs k (f1, r1, sDec G k) i167).2.2)) H → va_D A (SC cI cR a ca ga n k (sArrs k (f1, r1, sDec G k) i167).1 (sArrs k (f1, r1, sDec G k) i167).2.1 ++ (CW cI ca n ((sArrs k (f1, r1, sDec G k) i167).2.1 5) ++ RW cI ga k 3 (sArrs k (f1, r1, sDec G k) i167).2.2)) → va_S A s.heap H locs → lv_has ls 9 [(5, .int (nI i167)), (0, .ref (a 0)), (1, va_rf o1), (2, .int e2), (3, .ref (a 6)), (4, .int (nI k))] → W p l e rmX2_pass s m args below meth c H locs 0 0 Q (F0 m 167 ls []) := by
          intro j
          induction j with
          | zero =>
            intro i167 e2 hi167 H locs ls hP hD hS hl
            have ez : k = i167 := by omega
            subst ez
            refine lv_iload hx hb dX2_pass_167 (lv_at hl 0 rfl) ?_
            refine lv_iload hx hb dX2_pass_169 (lv_at hl 5 rfl) ?_
            refine lv_icmp_ge (tgt := 358) hx hb dX2_pass_171 (by decide) (fun c_171 => ?_) (fun h9 => absurd (nI_le (Nat.le_refl _) (by omega)) h9)
            have c_171n := (nI_leI (a := k) (b := k) (by omega) (by omega)).mp c_171
            refine lv_aload_n hx hb dX2_pass_358 rfl (lv_at hl 1 rfl) ?_
            refine lv_dup hx hb dX2_pass_359 rfl ?_
            refine va_get (D := D) (ci := 2) (v := .int ((sArrs k (f1, r1, sDec G k) k).1 1)) (C := RX2) (T := TX2) (N := 15) hx hb hw2 (fun _ h => h) hown hK hP 0 rfl rfl 2 (by decide) k44 (fun _ h9 => h9) rfl dX2_pass_360 ?_
            refine lv_iconst (v := 1) hx hb dX2_pass_363 (by decide) ?_
            refine lv_iadd hx hb dX2_pass_364 ?_
            refine va_put (D := D) (ci := 2) (v := .int (((sArrs k (f1, r1, sDec G k) k).1 1) + 1)) (ty := .int) (C := RX2) (T := TX2) (N := 15) hx hb hw2 (fun _ h => h) tyX2 tyX2_ok nmX2 hown hK hP hD hS 0 rfl rfl 2 (by decide) k44 (fun _ h9 => h9) rfl (by decide +kernel) rfl rfl (Nat.le_of_ble_eq_true rfl) dX2_pass_365 (fun H locs hP hD hS => ?_)
            have hP : va_P D vwCl (SC cI cR a ca ga n k (upd (sArrs k (f1, r1, sDec G k) k).1 1 (((sArrs k (f1, r1, sDec G k) k).1 1) + 1)) (sArrs k (f1, r1, sDec G k) k).2.1 ++ (CW cI ca n ((sArrs k (f1, r1, sDec G k) k).2.1 5) ++ RW cI ga k 3 (sArrs k (f1, r1, sDec G k) k).2.2)) H := hP
            have hD : va_D A (SC cI cR a ca ga n k (upd (sArrs k (f1, r1, sDec G k) k).1 1 (((sArrs k (f1, r1, sDec G k) k).1 1) + 1)) (sArrs k (f1, r1, sDec G k) k).2.1 ++ (CW cI ca n ((sArrs k (f1, r1, sDec G k) k).2.1 5) ++ RW cI ga k 3 (sArrs k (f1, r1, sDec G k) k).2.2)) := hD
            refine lv_iload_n hx hb dX2_pass_368 rfl (lv_at hl 3 rfl) ?_
            exact wRi hQ hx hb hr hlocks hP hD hS dX2_pass_369 ((upd (sArrs k (f1, r1, sDec G k) k).1 1 (((sArrs k (f1, r1, sDec G k) k).1 1) + 1)), (sArrs k (f1, r1, sDec G k) k).2.1, (sArrs k (f1, r1, sDec G k) k).2.2) (by simp only [sPass, he]) rfl
          | succ j ih167 =>
            intro i167 e2 hi167 H locs ls hP hD hS hl
            obtain ⟨x, y, ux, uy, ex, ey⟩ := hok i167 (by omega)
            have ex : (sArrs k (f1, r1, sDec G k) i167).2.2 i167 0 = nI x := (sArrs_c (by decide) _).trans ((sDec_c (by decide) _).trans ex)
            have ey : (sArrs k (f1, r1, sDec G k) i167).2.2 i167 1 = nI y := (sArrs_c (by decide) _).trans ((sDec_c (by decide) _).trans ey)
            have edx : dN ((sArrs k (f1, r1, sDec G k) i167).2.2 i167 0) = x := by rw [ex]; exact dN_nI (by omega)
            have edy : dN ((sArrs k (f1, r1, sDec G k) i167).2.2 i167 1) = y := by rw [ey]; exact dN_nI (by omega)
            have hg9 : (sArrs k (f1, r1, sDec G k) i167).1 0 = nI n := (sArrs_f (by decide) (by decide) _).trans ((congrArg (fun q => q.1 0) he).symm.trans ((dTalk_f (by decide) (by decide) (by decide) (by decide) f r).trans hg))
            refine lv_iload hx hb dX2_pass_167 (lv_at hl 0 rfl) ?_
            refine lv_iload hx hb dX2_pass_169 (lv_at hl 5 rfl) ?_
            refine lv_icmp_ge (tgt := 358) hx hb dX2_pass_171 (by decide) (fun h9 => absurd h9 (nI_ge (by omega) (by omega))) (fun c_171 => ?_)
            have c_171n := mt (nI_leI (a := k) (b := i167) (by omega) (by omega)).mpr c_171
            refine lv_aload_n hx hb dX2_pass_174 rfl (lv_at hl 4 rfl) ?_
            refine lv_iload hx hb dX2_pass_175 (lv_at hl 0 rfl) ?_
            refine wAald hx hb hK hP 1 1 rfl rfl i167 rfl (by omega) (by omega) (RF_in (by omega)) dX2_pass_177 ?_
            refine lv_astore (lv' := [(6, .ref (ga i167)), (5, .int (nI i167)), (0, .ref (a 0)), (1, va_rf o1), (2, .int e2), (3, .ref (a 6)), (4, .int (nI k))]) hx hb dX2_pass_178 hl (by decide) (by cases o1 <;> rfl) (fun ls hl => ?_)
            refine lv_aload hx hb dX2_pass_180 (lv_at hl 0 rfl) ?_
            refine lv_iconst (v := 2) hx hb dX2_pass_182 (by decide) ?_
            refine wIaldR (pre := SC cI cR a ca ga n k (sArrs k (f1, r1, sDec G k) i167).1 (sArrs k (f1, r1, sDec G k) i167).2.1 ++ CW cI ca n ((sArrs k (f1, r1, sDec G k) i167).2.1 5)) (suf := ([] : va_W)) (bb := ga) (N := k) (len := 3) (v := (sArrs k (f1, r1, sDec G k) i167).2.2) hx hb hK hP 0 (by simp only [List.append_assoc, List.append_nil, List.nil_append]) rfl i167 (by omega) 2 rfl (by decide) (by decide) dX2_pass_183 ?_
            refine lv_if_eq (tgt := 190) hx hb dX2_pass_184 (by decide) (fun c_184 => ?_) (fun c_184 => ?_)
            · refine lv_aload_n hx hb dX2_pass_190 rfl (lv_at hl 2 rfl) ?_
              refine lv_aload hx hb dX2_pass_191 (lv_at hl 0 rfl) ?_
              refine lv_iconst (v := 1) hx hb dX2_pass_193 (by decide) ?_
              refine wIaldR (pre := SC cI cR a ca ga n k (sArrs k (f1, r1, sDec G k) i167).1 (sArrs k (f1, r1, sDec G k) i167).2.1 ++ CW cI ca n ((sArrs k (f1, r1, sDec G k) i167).2.1 5)) (suf := ([] : va_W)) (bb := ga) (N := k) (len := 3) (v := (sArrs k (f1, r1, sDec G k) i167).2.2) hx hb hK hP 0 (by simp only [List.append_assoc, List.append_nil, List.nil_append]) rfl i167 (by omega) 1 rfl (by decide) (by decide) dX2_pass_194 ?_
              refine lv_aload hx hb dX2_pass_195 (lv_at hl 0 rfl) ?_
              refine lv_iconst (v := 0) hx hb dX2_pass_197 (by decide) ?_
              refine wIaldR (pre := SC cI cR a ca ga n k (sArrs k (f1, r1, sDec G k) i167).1 (sArrs k (f1, r1, sDec G k) i167).2.1 ++ CW cI ca n ((sArrs k (f1, r1, sDec G k) i167).2.1 5)) (suf := ([] : va_W)) (bb := ga) (N := k) (len := 3) (v := (sArrs k (f1, r1, sDec G k) i167).2.2) hx hb hK hP 0 (by simp only [List.append_assoc, List.append_nil, List.nil_append]) rfl i167 (by omega) 0 rfl (by decide) (by decide) dX2_pass_198 ?_
              refine wCVi (pre := ([] : va_W)) (Wc := SC cI cR a ca ga n k (sArrs k (f1, r1, sDec G k) i167).1 (sArrs k (f1, r1, sDec G k) i167).2.1 ++ (CW cI ca n ((sArrs k (f1, r1, sDec G k) i167).2.1 5) ++ RW cI ga k 3 (sArrs k (f1, r1, sDec G k) i167).2.2)) (suf := ([] : va_W)) (As := [.int ((sArrs k (f1, r1, sDec G k) i167).2.2 i167 1), .int ((sArrs k (f1, r1, sDec G k) i167).2.2 i167 0)]) (rest := []) ⟨hx, hb, hml, hown, hts⟩ (mX2_find l D cI cR a ca ga n k (sArrs k (f1, r1, sDec G k) i167).1 (sArrs k (f1, r1, sDec G k) i167).2.1 (sArrs k (f1, r1, sDec G k) i167).2.2 ((sArrs k (f1, r1, sDec G k) i167).2.2 i167 1) ((sArrs k (f1, r1, sDec G k) i167).2.2 i167 0) _ hg9 hn0 hn1 hk) hN hA hK hS hP hD (by simp only [List.append_assoc, List.append_nil, List.nil_append]) 0 (r := (RX2, TX2, 15)) rfl rfl (cwV 2 hts gX2_pass_X2_find rfl rfl rfl (by decide +kernel) ⟨Nat.le_of_ble_eq_true rfl, Nat.le_of_ble_eq_true rfl⟩) rfl hl.1 rfl (Nat.le_of_ble_eq_true rfl) dX2_pass_199 ⟨by show 0 ≤ 0; omega, by show 0 ≤ 0; omega⟩ (fun r_199 u_199 H locs hw hP hD hS => ?_)
              have hw : r_199 = sFind (sArrs k (f1, r1, sDec G k) i167).2.2 ((sArrs k (f1, r1, sDec G k) i167).2.2 i167 1) ((sArrs k (f1, r1, sDec G k) i167).2.2 i167 0) k 0 := hw
              subst hw
              have hP : va_P D vwCl (SC cI cR a ca ga n k (sArrs k (f1, r1, sDec G k) i167).1 (sArrs k (f1, r1, sDec G k) i167).2.1 ++ (CW cI ca n ((sArrs k (f1, r1, sDec G k) i167).2.1 5) ++ RW cI ga k 3 (sArrs k (f1, r1, sDec G k) i167).2.2)) H := by simpa only [List.append_assoc, List.append_nil, List.nil_append] using hP
              have hD : va_D A (SC cI cR a ca ga n k (sArrs k (f1, r1, sDec G k) i167).1 (sArrs k (f1, r1, sDec G k) i167).2.1 ++ (CW cI ca n ((sArrs k (f1, r1, sDec G k) i167).2.1 5) ++ RW cI ga k 3 (sArrs k (f1, r1, sDec G k) i167).2.2)) := by simpa only [List.append_assoc, List.append_nil, List.nil_append] using hD
              refine lv_istore (lv' := [(7, .int (sFind (sArrs k (f1, r1, sDec G k) i167).2.2 ((sArrs k (f1, r1, sDec G k) i167).2.2 i167 1) ((sArrs k (f1, r1, sDec G k) i167).2.2 i167 0) k 0)), (6, .ref (ga i167)), (5, .int (nI i167)), (0, .ref (a 0)), (1, va_rf o1), (2, .int e2), (3, .ref (a 6)), (4, .int (nI k))]) hx hb dX2_pass_202 hl (by decide) (by cases o1 <;> rfl) (fun ls hl => ?_)
              refine lv_aload hx hb dX2_pass_204 (lv_at hl 1 rfl) ?_
              refine lv_iconst (v := 2) hx hb dX2_pass_206 (by decide) ?_
              refine lv_iconst (v := (-1)) hx hb dX2_pass_207 (by decide) ?_
              refine wIastR (pre := SC cI cR a ca ga n k (sArrs k (f1, r1, sDec G k) i167).1 (sArrs k (f1, r1, sDec G k) i167).2.1 ++ CW cI ca n ((sArrs k (f1, r1, sDec G k) i167).2.1 5)) (suf := ([] : va_W)) (bb := ga) (N := k) (len := 3) (v := (sArrs k (f1, r1, sDec G k) i167).2.2) (W1 := SC cI cR a ca ga n k (sArrs k (f1, r1, sDec G k) i167).1 (sArrs k (f1, r1, sDec G k) i167).2.1 ++ (CW cI ca n ((sArrs k (f1, r1, sDec G k) i167).2.1 5) ++ RW cI ga k 3 (gUp (sArrs k (f1, r1, sDec G k) i167).2.2 i167 2 (-1)))) hx hb hK hP hD hS 0 (by simp only [List.append_assoc, List.append_nil, List.nil_append]) rfl i167 (by omega) 2 rfl (by decide) (by decide) (by simp only [List.append_assoc, List.append_nil, List.nil_append]) dX2_pass_208 (fun H locs hP hD hS => ?_)
              refine lv_iload hx hb dX2_pass_209 (lv_at hl 0 rfl) ?_
              refine lv_if_lt (tgt := 281) hx hb dX2_pass_211 (by decide) (fun c_211 => ?_) (fun c_211 => ?_)
              · have c2 : ¬ 0 ≤ sBack k (sArrs k (f1, r1, sDec G k) i167) i167 := Int32.not_le.mpr c_211
                refine lv_aload_n hx hb dX2_pass_281 rfl (lv_at hl 3 rfl) ?_
                refine va_get (D := D) (ci := 2) (v := .int ((sArrs k (f1, r1, sDec G k) i167).1 3)) (C := RX2) (T := TX2) (N := 15) hx hb hw2 (fun _ h => h) hown hK hP 0 rfl rfl 3 (by decide) k13 (fun _ h9 => h9) rfl dX2_pass_282 ?_
                refine lv_aload hx hb dX2_pass_285 (lv_at hl 1 rfl) ?_
                refine lv_iconst (v := 1) hx hb dX2_pass_287 (by decide) ?_
                refine wIaldR (pre := SC cI cR a ca ga n k (sArrs k (f1, r1, sDec G k) i167).1 (sArrs k (f1, r1, sDec G k) i167).2.1 ++ CW cI ca n ((sArrs k (f1, r1, sDec G k) i167).2.1 5)) (suf := ([] : va_W)) (bb := ga) (N := k) (len := 3) (v := gUp (sArrs k (f1, r1, sDec G k) i167).2.2 i167 2 (-1)) hx hb hK hP 0 (by simp only [List.append_assoc, List.append_nil, List.nil_append]) rfl i167 (by omega) 1 rfl (by decide) (by decide) dX2_pass_288 ?_
                refine wTop (z := nI y) (by rw [gUp_j (by decide)]; exact ey) ?_
                refine lv_icmp_ne (tgt := 313) hx hb dX2_pass_289 (by decide) (fun c_289 => ?_) (fun c_289 => ?_)
                · have c9 : ¬ (sArrs k (f1, r1, sDec G k) i167).1 3 = (sArrs k (f1, r1, sDec G k) i167).2.2 i167 1 := by rw [ey]; exact c_289
                  refine lv_aload_n hx hb dX2_pass_313 rfl (lv_at hl 3 rfl) ?_
                  refine va_get (D := D) (ci := 2) (v := .ref (a 5)) (C := RX2) (T := TX2) (N := 15) hx hb hw2 (fun _ h => h) hown hK hP 0 rfl rfl 13 (by decide) k38 (fun _ h9 => h9) rfl dX2_pass_314 ?_
                  refine lv_aload hx hb dX2_pass_317 (lv_at hl 1 rfl) ?_
                  refine lv_iconst (v := 0) hx hb dX2_pass_319 (by decide) ?_
                  refine wIaldR (pre := SC cI cR a ca ga n k (sArrs k (f1, r1, sDec G k) i167).1 (sArrs k (f1, r1, sDec G k) i167).2.1 ++ CW cI ca n ((sArrs k (f1, r1, sDec G k) i167).2.1 5)) (suf := ([] : va_W)) (bb := ga) (N := k) (len := 3) (v := gUp (sArrs k (f1, r1, sDec G k) i167).2.2 i167 2 (-1)) hx hb hK hP 0 (by simp only [List.append_assoc, List.append_nil, List.nil_append]) rfl i167 (by omega) 0 rfl (by decide) (by decide) dX2_pass_320 ?_
                  refine wTop (z := nI x) (by rw [gUp_j (by decide)]; exact ex) ?_
                  refine wAald hx hb hK hP 6 1 rfl rfl x rfl (by omega) (by omega) (RF_in (by omega)) dX2_pass_321 ?_
                  refine lv_aload hx hb dX2_pass_322 (lv_at hl 1 rfl) ?_
                  refine lv_iconst (v := 1) hx hb dX2_pass_324 (by decide) ?_
                  refine wIaldR (pre := SC cI cR a ca ga n k (sArrs k (f1, r1, sDec G k) i167).1 (sArrs k (f1, r1, sDec G k) i167).2.1 ++ CW cI ca n ((sArrs k (f1, r1, sDec G k) i167).2.1 5)) (suf := ([] : va_W)) (bb := ga) (N := k) (len := 3) (v := gUp (sArrs k (f1, r1, sDec G k) i167).2.2 i167 2 (-1)) hx hb hK hP 0 (by simp only [List.append_assoc, List.append_nil, List.nil_append]) rfl i167 (by omega) 1 rfl (by decide) (by decide) dX2_pass_325 ?_
                  refine wTop (z := nI y) (by rw [gUp_j (by decide)]; exact ey) ?_
                  refine lv_dup2_11 hx hb dX2_pass_326 rfl rfl ?_
                  refine wIaldR (pre := SC cI cR a ca ga n k (sArrs k (f1, r1, sDec G k) i167).1 (sArrs k (f1, r1, sDec G k) i167).2.1) (suf := RW cI ga k 3 (gUp (sArrs k (f1, r1, sDec G k) i167).2.2 i167 2 (-1))) (bb := ca) (N := n) (len := n) (v := fun i j => ((sArrs k (f1, r1, sDec G k) i167).2.1 5) (i * 10 + j)) hx hb hK hP 0 (by simp only [CW, List.append_assoc, List.append_nil, List.nil_append]) rfl x (by omega) y rfl (by omega) (by omega) dX2_pass_327 ?_
                  refine lv_iconst (v := 1) hx hb dX2_pass_328 (by decide) ?_
                  refine lv_iadd hx hb dX2_pass_329 ?_
                  refine wIastC (pre := SC cI cR a ca ga n k (sArrs k (f1, r1, sDec G k) i167).1 (sArrs k (f1, r1, sDec G k) i167).2.1) (suf := RW cI ga k 3 (gUp (sArrs k (f1, r1, sDec G k) i167).2.2 i167 2 (-1))) (bb := ca) (N := n) (r5 := (sArrs k (f1, r1, sDec G k) i167).2.1 5) (W1 := SC cI cR a ca ga n k (sArrs k (f1, r1, sDec G k) i167).1 (va_up (sArrs k (f1, r1, sDec G k) i167).2.1 5 (upd ((sArrs k (f1, r1, sDec G k) i167).2.1 5) (x * 10 + y) ((((sArrs k (f1, r1, sDec G k) i167).2.1 5) (x * 10 + y)) + 1))) ++ (CW cI ca n (upd ((sArrs k (f1, r1, sDec G k) i167).2.1 5) (x * 10 + y) ((((sArrs k (f1, r1, sDec G k) i167).2.1 5) (x * 10 + y)) + 1)) ++ RW cI ga k 3 (gUp (sArrs k (f1, r1, sDec G k) i167).2.2 i167 2 (-1)))) hx hb hK hP hD hS 0 (by simp only [List.append_assoc, List.append_nil, List.nil_append]) rfl x (by omega) y rfl (by omega) (by omega) (rfl) dX2_pass_330 (fun H locs hP hD hS => ?_)
                  refine lv_aload_n hx hb dX2_pass_331 rfl (lv_at hl 3 rfl) ?_
                  refine va_get (D := D) (ci := 2) (v := .ref (a 4)) (C := RX2) (T := TX2) (N := 15) hx hb hw2 (fun _ h => h) hown hK hP 0 rfl rfl 12 (by decide) k34 (fun _ h9 => h9) rfl dX2_pass_332 ?_
                  refine lv_aload hx hb dX2_pass_335 (lv_at hl 1 rfl) ?_
                  refine lv_iconst (v := 0) hx hb dX2_pass_337 (by decide) ?_
                  refine wIaldR (pre := SC cI cR a ca ga n k (sArrs k (f1, r1, sDec G k) i167).1 (va_up (sArrs k (f1, r1, sDec G k) i167).2.1 5 (upd ((sArrs k (f1, r1, sDec G k) i167).2.1 5) (x * 10 + y) ((((sArrs k (f1, r1, sDec G k) i167).2.1 5) (x * 10 + y)) + 1))) ++ CW cI ca n (upd ((sArrs k (f1, r1, sDec G k) i167).2.1 5) (x * 10 + y) ((((sArrs k (f1, r1, sDec G k) i167).2.1 5) (x * 10 + y)) + 1))) (suf := ([] : va_W)) (bb := ga) (N := k) (len := 3) (v := gUp (sArrs k (f1, r1, sDec G k) i167).2.2 i167 2 (-1)) hx hb hK hP 0 (by simp only [List.append_assoc, List.append_nil, List.nil_append]) rfl i167 (by omega) 0 rfl (by decide) (by decide) dX2_pass_338 ?_
                  refine wTop (z := nI x) (by rw [gUp_j (by decide)]; exact ex) ?_
                  refine lv_dup2_11 hx hb dX2_pass_339 rfl rfl ?_
                  refine wIald hx hb hK hP 5 0 rfl rfl x rfl (by omega) (by omega) dX2_pass_340 ?_
                  refine lv_iconst (v := 1) hx hb dX2_pass_341 (by decide) ?_
                  refine lv_iadd hx hb dX2_pass_342 ?_
                  refine wIast hx hb hK hP hD hS 5 0 rfl rfl x rfl (by omega) (by omega) dX2_pass_343 (fun H locs hP hD hS => ?_)
                  have hP : va_P D vwCl (SC cI cR a ca ga n k (sArrs k (f1, r1, sDec G k) i167).1 (va_up (va_up (sArrs k (f1, r1, sDec G k) i167).2.1 3 (upd ((sArrs k (f1, r1, sDec G k) i167).2.1 3) x ((((sArrs k (f1, r1, sDec G k) i167).2.1 3) x) + 1))) 5 (upd ((sArrs k (f1, r1, sDec G k) i167).2.1 5) (x * 10 + y) ((((sArrs k (f1, r1, sDec G k) i167).2.1 5) (x * 10 + y)) + 1))) ++ (CW cI ca n (upd ((sArrs k (f1, r1, sDec G k) i167).2.1 5) (x * 10 + y) ((((sArrs k (f1, r1, sDec G k) i167).2.1 5) (x * 10 + y)) + 1)) ++ RW cI ga k 3 (gUp (sArrs k (f1, r1, sDec G k) i167).2.2 i167 2 (-1)))) H := hP
                  have hD : va_D A (SC cI cR a ca ga n k (sArrs k (f1, r1, sDec G k) i167).1 (va_up (va_up (sArrs k (f1, r1, sDec G k) i167).2.1 3 (upd ((sArrs k (f1, r1, sDec G k) i167).2.1 3) x ((((sArrs k (f1, r1, sDec G k) i167).2.1 3) x) + 1))) 5 (upd ((sArrs k (f1, r1, sDec G k) i167).2.1 5) (x * 10 + y) ((((sArrs k (f1, r1, sDec G k) i167).2.1 5) (x * 10 + y)) + 1))) ++ (CW cI ca n (upd ((sArrs k (f1, r1, sDec G k) i167).2.1 5) (x * 10 + y) ((((sArrs k (f1, r1, sDec G k) i167).2.1 5) (x * 10 + y)) + 1)) ++ RW cI ga k 3 (gUp (sArrs k (f1, r1, sDec G k) i167).2.2 i167 2 (-1)))) := hD
                  refine lv_aload hx hb dX2_pass_344 (lv_at hl 1 rfl) ?_
                  refine wAloadO_n hx hb dX2_pass_346 rfl (lv_at hl 4 rfl) ?_
                  refine lv_acmp_ne (rx := some (ga i167)) (ry := o1) (tgt := 352) hx hb dX2_pass_347 (by decide) (fun c_347 => ?_) (fun c_347 => ?_)
                  · refine lv_iinc (v := nI (i167 + 1)) (lv' := [(5, .int (nI (i167 + 1))), (7, .int (sFind (sArrs k (f1, r1, sDec G k) i167).2.2 ((sArrs k (f1, r1, sDec G k) i167).2.2 i167 1) ((sArrs k (f1, r1, sDec G k) i167).2.2 i167 0) k 0)), (6, .ref (ga i167)), (0, .ref (a 0)), (1, va_rf o1), (2, .int e2), (3, .ref (a 6)), (4, .int (nI k))]) hx hb dX2_pass_352 hl (k := 2) rfl (nI_1 i167) (by decide) (by cases o1 <;> rfl) (fun ls hl => ?_)
                    refine lv_goto (tgt := 167) hx hb dX2_pass_355 (by decide) ?_
                    have e167 : sArrs k (f1, r1, sDec G k) (i167 + 1) = ((sArrs k (f1, r1, sDec G k) i167).1, (va_up (va_up (sArrs k (f1, r1, sDec G k) i167).2.1 3 (upd ((sArrs k (f1, r1, sDec G k) i167).2.1 3) x ((((sArrs k (f1, r1, sDec G k) i167).2.1 3) x) + 1))) 5 (upd ((sArrs k (f1, r1, sDec G k) i167).2.1 5) (x * 10 + y) ((((sArrs k (f1, r1, sDec G k) i167).2.1 5) (x * 10 + y)) + 1))), gUp (sArrs k (f1, r1, sDec G k) i167).2.2 i167 2 (-1)) := by rw [sArrs, if_pos c_184, sArr, if_neg c2, if_neg c9]; simp only [edx, edy]
                    have hP : va_P D vwCl (SC cI cR a ca ga n k (sArrs k (f1, r1, sDec G k) (i167 + 1)).1 (sArrs k (f1, r1, sDec G k) (i167 + 1)).2.1 ++ (CW cI ca n ((sArrs k (f1, r1, sDec G k) (i167 + 1)).2.1 5) ++ RW cI ga k 3 (sArrs k (f1, r1, sDec G k) (i167 + 1)).2.2)) H := by rw [e167]; exact hP
                    have hD : va_D A (SC cI cR a ca ga n k (sArrs k (f1, r1, sDec G k) (i167 + 1)).1 (sArrs k (f1, r1, sDec G k) (i167 + 1)).2.1 ++ (CW cI ca n ((sArrs k (f1, r1, sDec G k) (i167 + 1)).2.1 5) ++ RW cI ga k 3 (sArrs k (f1, r1, sDec G k) (i167 + 1)).2.2)) := by rw [e167]; exact hD
                    exact ih167 (i167 + 1) e2 (by omega) _ _ _ hP hD hS (lv_sub hl [0, 3, 4, 5, 6, 7] rfl)
                  · refine lv_iconst (v := 1) hx hb dX2_pass_350 (by decide) ?_
                    refine lv_istore_n (lv' := [(2, .int 1), (7, .int (sFind (sArrs k (f1, r1, sDec G k) i167).2.2 ((sArrs k (f1, r1, sDec G k) i167).2.2 i167 1) ((sArrs k (f1, r1, sDec G k) i167).2.2 i167 0) k 0)), (6, .ref (ga i167)), (5, .int (nI i167)), (0, .ref (a 0)), (1, va_rf o1), (3, .ref (a 6)), (4, .int (nI k))]) hx hb dX2_pass_351 rfl hl (by decide) (by cases o1 <;> rfl) (fun ls hl => ?_)
                    refine lv_iinc (v := nI (i167 + 1)) (lv' := [(5, .int (nI (i167 + 1))), (2, .int 1), (7, .int (sFind (sArrs k (f1, r1, sDec G k) i167).2.2 ((sArrs k (f1, r1, sDec G k) i167).2.2 i167 1) ((sArrs k (f1, r1, sDec G k) i167).2.2 i167 0) k 0)), (6, .ref (ga i167)), (0, .ref (a 0)), (1, va_rf o1), (3, .ref (a 6)), (4, .int (nI k))]) hx hb dX2_pass_352 hl (k := 3) rfl (nI_1 i167) (by decide) (by cases o1 <;> rfl) (fun ls hl => ?_)
                    refine lv_goto (tgt := 167) hx hb dX2_pass_355 (by decide) ?_
                    have e167 : sArrs k (f1, r1, sDec G k) (i167 + 1) = ((sArrs k (f1, r1, sDec G k) i167).1, (va_up (va_up (sArrs k (f1, r1, sDec G k) i167).2.1 3 (upd ((sArrs k (f1, r1, sDec G k) i167).2.1 3) x ((((sArrs k (f1, r1, sDec G k) i167).2.1 3) x) + 1))) 5 (upd ((sArrs k (f1, r1, sDec G k) i167).2.1 5) (x * 10 + y) ((((sArrs k (f1, r1, sDec G k) i167).2.1 5) (x * 10 + y)) + 1))), gUp (sArrs k (f1, r1, sDec G k) i167).2.2 i167 2 (-1)) := by rw [sArrs, if_pos c_184, sArr, if_neg c2, if_neg c9]; simp only [edx, edy]
                    have hP : va_P D vwCl (SC cI cR a ca ga n k (sArrs k (f1, r1, sDec G k) (i167 + 1)).1 (sArrs k (f1, r1, sDec G k) (i167 + 1)).2.1 ++ (CW cI ca n ((sArrs k (f1, r1, sDec G k) (i167 + 1)).2.1 5) ++ RW cI ga k 3 (sArrs k (f1, r1, sDec G k) (i167 + 1)).2.2)) H := by rw [e167]; exact hP
                    have hD : va_D A (SC cI cR a ca ga n k (sArrs k (f1, r1, sDec G k) (i167 + 1)).1 (sArrs k (f1, r1, sDec G k) (i167 + 1)).2.1 ++ (CW cI ca n ((sArrs k (f1, r1, sDec G k) (i167 + 1)).2.1 5) ++ RW cI ga k 3 (sArrs k (f1, r1, sDec G k) (i167 + 1)).2.2)) := by rw [e167]; exact hD
                    exact ih167 (i167 + 1) 1 (by omega) _ _ _ hP hD hS (lv_sub hl [0, 4, 5, 1, 6, 7] rfl)
                · have c9 : (sArrs k (f1, r1, sDec G k) i167).1 3 = (sArrs k (f1, r1, sDec G k) i167).2.2 i167 1 := by rw [ey]; exact c_289
                  refine lv_aload_n hx hb dX2_pass_292 rfl (lv_at hl 3 rfl) ?_
                  refine lv_dup hx hb dX2_pass_293 rfl ?_
                  refine va_get (D := D) (ci := 2) (v := .int ((sArrs k (f1, r1, sDec G k) i167).1 8)) (C := RX2) (T := TX2) (N := 15) hx hb hw2 (fun _ h => h) hown hK hP 0 rfl rfl 8 (by decide) k59 (fun _ h9 => h9) rfl dX2_pass_294 ?_
                  refine lv_iconst (v := 1) hx hb dX2_pass_297 (by decide) ?_
                  refine lv_iadd hx hb dX2_pass_298 ?_
                  refine va_put (D := D) (ci := 2) (v := .int (((sArrs k (f1, r1, sDec G k) i167).1 8) + 1)) (ty := .int) (C := RX2) (T := TX2) (N := 15) hx hb hw2 (fun _ h => h) tyX2 tyX2_ok nmX2 hown hK hP hD hS 0 rfl rfl 8 (by decide) k59 (fun _ h9 => h9) rfl (by decide +kernel) rfl rfl (Nat.le_of_ble_eq_true rfl) dX2_pass_299 (fun H locs hP hD hS => ?_)
                  have hP : va_P D vwCl (SC cI cR a ca ga n k (upd (sArrs k (f1, r1, sDec G k) i167).1 8 (((sArrs k (f1, r1, sDec G k) i167).1 8) + 1)) (sArrs k (f1, r1, sDec G k) i167).2.1 ++ (CW cI ca n ((sArrs k (f1, r1, sDec G k) i167).2.1 5) ++ RW cI ga k 3 (gUp (sArrs k (f1, r1, sDec G k) i167).2.2 i167 2 (-1)))) H := hP
                  have hD : va_D A (SC cI cR a ca ga n k (upd (sArrs k (f1, r1, sDec G k) i167).1 8 (((sArrs k (f1, r1, sDec G k) i167).1 8) + 1)) (sArrs k (f1, r1, sDec G k) i167).2.1 ++ (CW cI ca n ((sArrs k (f1, r1, sDec G k) i167).2.1 5) ++ RW cI ga k 3 (gUp (sArrs k (f1, r1, sDec G k) i167).2.2 i167 2 (-1)))) := hD
                  refine lv_aload hx hb dX2_pass_302 (lv_at hl 1 rfl) ?_
                  refine wAloadO_n hx hb dX2_pass_304 rfl (lv_at hl 4 rfl) ?_
                  refine lv_acmp_ne (rx := some (ga i167)) (ry := o1) (tgt := 352) hx hb dX2_pass_305 (by decide) (fun c_305 => ?_) (fun c_305 => ?_)
                  · refine lv_iinc (v := nI (i167 + 1)) (lv' := [(5, .int (nI (i167 + 1))), (7, .int (sFind (sArrs k (f1, r1, sDec G k) i167).2.2 ((sArrs k (f1, r1, sDec G k) i167).2.2 i167 1) ((sArrs k (f1, r1, sDec G k) i167).2.2 i167 0) k 0)), (6, .ref (ga i167)), (0, .ref (a 0)), (1, va_rf o1), (2, .int e2), (3, .ref (a 6)), (4, .int (nI k))]) hx hb dX2_pass_352 hl (k := 2) rfl (nI_1 i167) (by decide) (by cases o1 <;> rfl) (fun ls hl => ?_)
                    refine lv_goto (tgt := 167) hx hb dX2_pass_355 (by decide) ?_
                    have e167 : sArrs k (f1, r1, sDec G k) (i167 + 1) = ((upd (sArrs k (f1, r1, sDec G k) i167).1 8 (((sArrs k (f1, r1, sDec G k) i167).1 8) + 1)), (sArrs k (f1, r1, sDec G k) i167).2.1, gUp (sArrs k (f1, r1, sDec G k) i167).2.2 i167 2 (-1)) := by rw [sArrs, if_pos c_184, sArr, if_neg c2, if_pos c9]
                    have hP : va_P D vwCl (SC cI cR a ca ga n k (sArrs k (f1, r1, sDec G k) (i167 + 1)).1 (sArrs k (f1, r1, sDec G k) (i167 + 1)).2.1 ++ (CW cI ca n ((sArrs k (f1, r1, sDec G k) (i167 + 1)).2.1 5) ++ RW cI ga k 3 (sArrs k (f1, r1, sDec G k) (i167 + 1)).2.2)) H := by rw [e167]; exact hP
                    have hD : va_D A (SC cI cR a ca ga n k (sArrs k (f1, r1, sDec G k) (i167 + 1)).1 (sArrs k (f1, r1, sDec G k) (i167 + 1)).2.1 ++ (CW cI ca n ((sArrs k (f1, r1, sDec G k) (i167 + 1)).2.1 5) ++ RW cI ga k 3 (sArrs k (f1, r1, sDec G k) (i167 + 1)).2.2)) := by rw [e167]; exact hD
                    exact ih167 (i167 + 1) e2 (by omega) _ _ _ hP hD hS (lv_sub hl [0, 3, 4, 5, 6, 7] rfl)
                  · refine lv_iconst (v := 0) hx hb dX2_pass_308 (by decide) ?_
                    refine lv_istore_n (lv' := [(2, .int 0), (7, .int (sFind (sArrs k (f1, r1, sDec G k) i167).2.2 ((sArrs k (f1, r1, sDec G k) i167).2.2 i167 1) ((sArrs k (f1, r1, sDec G k) i167).2.2 i167 0) k 0)), (6, .ref (ga i167)), (5, .int (nI i167)), (0, .ref (a 0)), (1, va_rf o1), (3, .ref (a 6)), (4, .int (nI k))]) hx hb dX2_pass_309 rfl hl (by decide) (by cases o1 <;> rfl) (fun ls hl => ?_)
                    refine lv_goto (tgt := 352) hx hb dX2_pass_310 (by decide) ?_
                    refine lv_iinc (v := nI (i167 + 1)) (lv' := [(5, .int (nI (i167 + 1))), (2, .int 0), (7, .int (sFind (sArrs k (f1, r1, sDec G k) i167).2.2 ((sArrs k (f1, r1, sDec G k) i167).2.2 i167 1) ((sArrs k (f1, r1, sDec G k) i167).2.2 i167 0) k 0)), (6, .ref (ga i167)), (0, .ref (a 0)), (1, va_rf o1), (3, .ref (a 6)), (4, .int (nI k))]) hx hb dX2_pass_352 hl (k := 3) rfl (nI_1 i167) (by decide) (by cases o1 <;> rfl) (fun ls hl => ?_)
                    refine lv_goto (tgt := 167) hx hb dX2_pass_355 (by decide) ?_
                    have e167 : sArrs k (f1, r1, sDec G k) (i167 + 1) = ((upd (sArrs k (f1, r1, sDec G k) i167).1 8 (((sArrs k (f1, r1, sDec G k) i167).1 8) + 1)), (sArrs k (f1, r1, sDec G k) i167).2.1, gUp (sArrs k (f1, r1, sDec G k) i167).2.2 i167 2 (-1)) := by rw [sArrs, if_pos c_184, sArr, if_neg c2, if_pos c9]
                    have hP : va_P D vwCl (SC cI cR a ca ga n k (sArrs k (f1, r1, sDec G k) (i167 + 1)).1 (sArrs k (f1, r1, sDec G k) (i167 + 1)).2.1 ++ (CW cI ca n ((sArrs k (f1, r1, sDec G k) (i167 + 1)).2.1 5) ++ RW cI ga k 3 (sArrs k (f1, r1, sDec G k) (i167 + 1)).2.2)) H := by rw [e167]; exact hP
                    have hD : va_D A (SC cI cR a ca ga n k (sArrs k (f1, r1, sDec G k) (i167 + 1)).1 (sArrs k (f1, r1, sDec G k) (i167 + 1)).2.1 ++ (CW cI ca n ((sArrs k (f1, r1, sDec G k) (i167 + 1)).2.1 5) ++ RW cI ga k 3 (sArrs k (f1, r1, sDec G k) (i167 + 1)).2.2)) := by rw [e167]; exact hD
                    exact ih167 (i167 + 1) 0 (by omega) _ _ _ hP hD hS (lv_sub hl [0, 4, 5, 1, 6, 7] rfl)
              · have c2 : 0 ≤ sBack k (sArrs k (f1, r1, sDec G k) i167) i167 := Int32.not_lt.mp c_211
                obtain ⟨q, hq, eb, ed⟩ := sFind_in hk (Int32.not_lt.mp c_211)
                refine lv_aload_n hx hb dX2_pass_214 rfl (lv_at hl 3 rfl) ?_
                refine va_get (D := D) (ci := 2) (v := .ref (a 6)) (C := RX2) (T := TX2) (N := 15) hx hb hw2 (fun _ h => h) hown hK hP 0 rfl rfl 14 (by decide) k18 (fun _ h9 => h9) rfl dX2_pass_215 ?_
                refine lv_iload hx hb dX2_pass_218 (lv_at hl 0 rfl) ?_
                refine wAald hx hb hK hP 1 1 rfl rfl q eb (by omega) (by omega) (RF_in (by omega)) dX2_pass_220 ?_
                refine lv_astore (lv' := [(8, .ref (ga q)), (7, .int (sFind (sArrs k (f1, r1, sDec G k) i167).2.2 ((sArrs k (f1, r1, sDec G k) i167).2.2 i167 1) ((sArrs k (f1, r1, sDec G k) i167).2.2 i167 0) k 0)), (6, .ref (ga i167)), (5, .int (nI i167)), (0, .ref (a 0)), (1, va_rf o1), (2, .int e2), (3, .ref (a 6)), (4, .int (nI k))]) hx hb dX2_pass_221 hl (by decide) (by cases o1 <;> rfl) (fun ls hl => ?_)
                refine lv_aload hx hb dX2_pass_223 (lv_at hl 0 rfl) ?_
                refine lv_iconst (v := 2) hx hb dX2_pass_225 (by decide) ?_
                refine lv_iconst (v := (-1)) hx hb dX2_pass_226 (by decide) ?_
                refine wIastR (pre := SC cI cR a ca ga n k (sArrs k (f1, r1, sDec G k) i167).1 (sArrs k (f1, r1, sDec G k) i167).2.1 ++ CW cI ca n ((sArrs k (f1, r1, sDec G k) i167).2.1 5)) (suf := ([] : va_W)) (bb := ga) (N := k) (len := 3) (v := gUp (sArrs k (f1, r1, sDec G k) i167).2.2 i167 2 (-1)) (W1 := SC cI cR a ca ga n k (sArrs k (f1, r1, sDec G k) i167).1 (sArrs k (f1, r1, sDec G k) i167).2.1 ++ (CW cI ca n ((sArrs k (f1, r1, sDec G k) i167).2.1 5) ++ RW cI ga k 3 (gUp (gUp (sArrs k (f1, r1, sDec G k) i167).2.2 i167 2 (-1)) q 2 (-1)))) hx hb hK hP hD hS 0 (by simp only [List.append_assoc, List.append_nil, List.nil_append]) rfl q (by omega) 2 rfl (by decide) (by decide) (by simp only [List.append_assoc, List.append_nil, List.nil_append]) dX2_pass_227 (fun H locs hP hD hS => ?_)
                refine lv_aload_n hx hb dX2_pass_228 rfl (lv_at hl 4 rfl) ?_
                refine va_get (D := D) (ci := 2) (v := .ref (a 4)) (C := RX2) (T := TX2) (N := 15) hx hb hw2 (fun _ h => h) hown hK hP 0 rfl rfl 12 (by decide) k34 (fun _ h9 => h9) rfl dX2_pass_229 ?_
                refine lv_aload hx hb dX2_pass_232 (lv_at hl 2 rfl) ?_
                refine lv_iconst (v := 0) hx hb dX2_pass_234 (by decide) ?_
                refine wIaldR (pre := SC cI cR a ca ga n k (sArrs k (f1, r1, sDec G k) i167).1 (sArrs k (f1, r1, sDec G k) i167).2.1 ++ CW cI ca n ((sArrs k (f1, r1, sDec G k) i167).2.1 5)) (suf := ([] : va_W)) (bb := ga) (N := k) (len := 3) (v := gUp (gUp (sArrs k (f1, r1, sDec G k) i167).2.2 i167 2 (-1)) q 2 (-1)) hx hb hK hP 0 (by simp only [List.append_assoc, List.append_nil, List.nil_append]) rfl i167 (by omega) 0 rfl (by decide) (by decide) dX2_pass_235 ?_
                refine wTop (z := nI x) (by rw [gUp_j (by decide), gUp_j (by decide)]; exact ex) ?_
                refine lv_dup2_11 hx hb dX2_pass_236 rfl rfl ?_
                refine wIald hx hb hK hP 5 0 rfl rfl x rfl (by omega) (by omega) dX2_pass_237 ?_
                refine lv_iconst (v := 3) hx hb dX2_pass_238 (by decide) ?_
                refine lv_iadd hx hb dX2_pass_239 ?_
                refine wIast hx hb hK hP hD hS 5 0 rfl rfl x rfl (by omega) (by omega) dX2_pass_240 (fun H locs hP hD hS => ?_)
                have hP : va_P D vwCl (SC cI cR a ca ga n k (sArrs k (f1, r1, sDec G k) i167).1 (va_up (sArrs k (f1, r1, sDec G k) i167).2.1 3 (upd ((sArrs k (f1, r1, sDec G k) i167).2.1 3) x ((((sArrs k (f1, r1, sDec G k) i167).2.1 3) x) + 3))) ++ (CW cI ca n ((sArrs k (f1, r1, sDec G k) i167).2.1 5) ++ RW cI ga k 3 (gUp (gUp (sArrs k (f1, r1, sDec G k) i167).2.2 i167 2 (-1)) q 2 (-1)))) H := hP
                have hD : va_D A (SC cI cR a ca ga n k (sArrs k (f1, r1, sDec G k) i167).1 (va_up (sArrs k (f1, r1, sDec G k) i167).2.1 3 (upd ((sArrs k (f1, r1, sDec G k) i167).2.1 3) x ((((sArrs k (f1, r1, sDec G k) i167).2.1 3) x) + 3))) ++ (CW cI ca n ((sArrs k (f1, r1, sDec G k) i167).2.1 5) ++ RW cI ga k 3 (gUp (gUp (sArrs k (f1, r1, sDec G k) i167).2.2 i167 2 (-1)) q 2 (-1)))) := hD
                refine lv_aload_n hx hb dX2_pass_241 rfl (lv_at hl 4 rfl) ?_
                refine va_get (D := D) (ci := 2) (v := .ref (a 4)) (C := RX2) (T := TX2) (N := 15) hx hb hw2 (fun _ h => h) hown hK hP 0 rfl rfl 12 (by decide) k34 (fun _ h9 => h9) rfl dX2_pass_242 ?_
                refine lv_aload hx hb dX2_pass_245 (lv_at hl 2 rfl) ?_
                refine lv_iconst (v := 1) hx hb dX2_pass_247 (by decide) ?_
                refine wIaldR (pre := SC cI cR a ca ga n k (sArrs k (f1, r1, sDec G k) i167).1 (va_up (sArrs k (f1, r1, sDec G k) i167).2.1 3 (upd ((sArrs k (f1, r1, sDec G k) i167).2.1 3) x ((((sArrs k (f1, r1, sDec G k) i167).2.1 3) x) + 3))) ++ CW cI ca n ((sArrs k (f1, r1, sDec G k) i167).2.1 5)) (suf := ([] : va_W)) (bb := ga) (N := k) (len := 3) (v := gUp (gUp (sArrs k (f1, r1, sDec G k) i167).2.2 i167 2 (-1)) q 2 (-1)) hx hb hK hP 0 (by simp only [List.append_assoc, List.append_nil, List.nil_append]) rfl i167 (by omega) 1 rfl (by decide) (by decide) dX2_pass_248 ?_
                refine wTop (z := nI y) (by rw [gUp_j (by decide), gUp_j (by decide)]; exact ey) ?_
                refine lv_dup2_11 hx hb dX2_pass_249 rfl rfl ?_
                refine wIald hx hb hK hP 5 0 rfl rfl y rfl (by omega) (by omega) dX2_pass_250 ?_
                refine lv_iconst (v := 3) hx hb dX2_pass_251 (by decide) ?_
                refine lv_iadd hx hb dX2_pass_252 ?_
                refine wIast hx hb hK hP hD hS 5 0 rfl rfl y rfl (by omega) (by omega) dX2_pass_253 (fun H locs hP hD hS => ?_)
                have hP : va_P D vwCl (SC cI cR a ca ga n k (sArrs k (f1, r1, sDec G k) i167).1 (va_up (sArrs k (f1, r1, sDec G k) i167).2.1 3 (upd (upd ((sArrs k (f1, r1, sDec G k) i167).2.1 3) x ((((sArrs k (f1, r1, sDec G k) i167).2.1 3) x) + 3)) y (((upd ((sArrs k (f1, r1, sDec G k) i167).2.1 3) x ((((sArrs k (f1, r1, sDec G k) i167).2.1 3) x) + 3)) y) + 3))) ++ (CW cI ca n ((sArrs k (f1, r1, sDec G k) i167).2.1 5) ++ RW cI ga k 3 (gUp (gUp (sArrs k (f1, r1, sDec G k) i167).2.2 i167 2 (-1)) q 2 (-1)))) H := hP
                have hD : va_D A (SC cI cR a ca ga n k (sArrs k (f1, r1, sDec G k) i167).1 (va_up (sArrs k (f1, r1, sDec G k) i167).2.1 3 (upd (upd ((sArrs k (f1, r1, sDec G k) i167).2.1 3) x ((((sArrs k (f1, r1, sDec G k) i167).2.1 3) x) + 3)) y (((upd ((sArrs k (f1, r1, sDec G k) i167).2.1 3) x ((((sArrs k (f1, r1, sDec G k) i167).2.1 3) x) + 3)) y) + 3))) ++ (CW cI ca n ((sArrs k (f1, r1, sDec G k) i167).2.1 5) ++ RW cI ga k 3 (gUp (gUp (sArrs k (f1, r1, sDec G k) i167).2.2 i167 2 (-1)) q 2 (-1)))) := hD
                refine lv_aload_n hx hb dX2_pass_254 rfl (lv_at hl 4 rfl) ?_
                refine lv_dup hx hb dX2_pass_255 rfl ?_
                refine va_get (D := D) (ci := 2) (v := .int ((sArrs k (f1, r1, sDec G k) i167).1 7)) (C := RX2) (T := TX2) (N := 15) hx hb hw2 (fun _ h => h) hown hK hP 0 rfl rfl 7 (by decide) k56 (fun _ h9 => h9) rfl dX2_pass_256 ?_
                refine lv_iconst (v := 1) hx hb dX2_pass_259 (by decide) ?_
                refine lv_iadd hx hb dX2_pass_260 ?_
                refine va_put (D := D) (ci := 2) (v := .int (((sArrs k (f1, r1, sDec G k) i167).1 7) + 1)) (ty := .int) (C := RX2) (T := TX2) (N := 15) hx hb hw2 (fun _ h => h) tyX2 tyX2_ok nmX2 hown hK hP hD hS 0 rfl rfl 7 (by decide) k56 (fun _ h9 => h9) rfl (by decide +kernel) rfl rfl (Nat.le_of_ble_eq_true rfl) dX2_pass_261 (fun H locs hP hD hS => ?_)
                have hP : va_P D vwCl (SC cI cR a ca ga n k (upd (sArrs k (f1, r1, sDec G k) i167).1 7 (((sArrs k (f1, r1, sDec G k) i167).1 7) + 1)) (va_up (sArrs k (f1, r1, sDec G k) i167).2.1 3 (upd (upd ((sArrs k (f1, r1, sDec G k) i167).2.1 3) x ((((sArrs k (f1, r1, sDec G k) i167).2.1 3) x) + 3)) y (((upd ((sArrs k (f1, r1, sDec G k) i167).2.1 3) x ((((sArrs k (f1, r1, sDec G k) i167).2.1 3) x) + 3)) y) + 3))) ++ (CW cI ca n ((sArrs k (f1, r1, sDec G k) i167).2.1 5) ++ RW cI ga k 3 (gUp (gUp (sArrs k (f1, r1, sDec G k) i167).2.2 i167 2 (-1)) q 2 (-1)))) H := hP
                have hD : va_D A (SC cI cR a ca ga n k (upd (sArrs k (f1, r1, sDec G k) i167).1 7 (((sArrs k (f1, r1, sDec G k) i167).1 7) + 1)) (va_up (sArrs k (f1, r1, sDec G k) i167).2.1 3 (upd (upd ((sArrs k (f1, r1, sDec G k) i167).2.1 3) x ((((sArrs k (f1, r1, sDec G k) i167).2.1 3) x) + 3)) y (((upd ((sArrs k (f1, r1, sDec G k) i167).2.1 3) x ((((sArrs k (f1, r1, sDec G k) i167).2.1 3) x) + 3)) y) + 3))) ++ (CW cI ca n ((sArrs k (f1, r1, sDec G k) i167).2.1 5) ++ RW cI ga k 3 (gUp (gUp (sArrs k (f1, r1, sDec G k) i167).2.2 i167 2 (-1)) q 2 (-1)))) := hD
                refine lv_aload hx hb dX2_pass_264 (lv_at hl 2 rfl) ?_
                refine wAloadO_n hx hb dX2_pass_266 rfl (lv_at hl 5 rfl) ?_
                refine lv_acmp_eq (rx := some (ga i167)) (ry := o1) (tgt := 276) hx hb dX2_pass_267 (by decide) (fun c_267 => ?_) (fun c_267 => ?_)
                · refine lv_iconst (v := 3) hx hb dX2_pass_276 (by decide) ?_
                  refine lv_istore_n (lv' := [(2, .int 3), (8, .ref (ga q)), (7, .int (sFind (sArrs k (f1, r1, sDec G k) i167).2.2 ((sArrs k (f1, r1, sDec G k) i167).2.2 i167 1) ((sArrs k (f1, r1, sDec G k) i167).2.2 i167 0) k 0)), (6, .ref (ga i167)), (5, .int (nI i167)), (0, .ref (a 0)), (1, va_rf o1), (3, .ref (a 6)), (4, .int (nI k))]) hx hb dX2_pass_277 rfl hl (by decide) (by cases o1 <;> rfl) (fun ls hl => ?_)
                  refine lv_goto (tgt := 352) hx hb dX2_pass_278 (by decide) ?_
                  refine lv_iinc (v := nI (i167 + 1)) (lv' := [(5, .int (nI (i167 + 1))), (2, .int 3), (8, .ref (ga q)), (7, .int (sFind (sArrs k (f1, r1, sDec G k) i167).2.2 ((sArrs k (f1, r1, sDec G k) i167).2.2 i167 1) ((sArrs k (f1, r1, sDec G k) i167).2.2 i167 0) k 0)), (6, .ref (ga i167)), (0, .ref (a 0)), (1, va_rf o1), (3, .ref (a 6)), (4, .int (nI k))]) hx hb dX2_pass_352 hl (k := 4) rfl (nI_1 i167) (by decide) (by cases o1 <;> rfl) (fun ls hl => ?_)
                  refine lv_goto (tgt := 167) hx hb dX2_pass_355 (by decide) ?_
                  have e167 : sArrs k (f1, r1, sDec G k) (i167 + 1) = ((upd (sArrs k (f1, r1, sDec G k) i167).1 7 (((sArrs k (f1, r1, sDec G k) i167).1 7) + 1)), (va_up (sArrs k (f1, r1, sDec G k) i167).2.1 3 (upd (upd ((sArrs k (f1, r1, sDec G k) i167).2.1 3) x ((((sArrs k (f1, r1, sDec G k) i167).2.1 3) x) + 3)) y (((upd ((sArrs k (f1, r1, sDec G k) i167).2.1 3) x ((((sArrs k (f1, r1, sDec G k) i167).2.1 3) x) + 3)) y) + 3))), gUp (gUp (sArrs k (f1, r1, sDec G k) i167).2.2 i167 2 (-1)) q 2 (-1)) := by rw [sArrs, if_pos c_184, sArr, if_pos c2]; simp only [sBack, ed, edx, edy]
                  have hP : va_P D vwCl (SC cI cR a ca ga n k (sArrs k (f1, r1, sDec G k) (i167 + 1)).1 (sArrs k (f1, r1, sDec G k) (i167 + 1)).2.1 ++ (CW cI ca n ((sArrs k (f1, r1, sDec G k) (i167 + 1)).2.1 5) ++ RW cI ga k 3 (sArrs k (f1, r1, sDec G k) (i167 + 1)).2.2)) H := by rw [e167]; exact hP
                  have hD : va_D A (SC cI cR a ca ga n k (sArrs k (f1, r1, sDec G k) (i167 + 1)).1 (sArrs k (f1, r1, sDec G k) (i167 + 1)).2.1 ++ (CW cI ca n ((sArrs k (f1, r1, sDec G k) (i167 + 1)).2.1 5) ++ RW cI ga k 3 (sArrs k (f1, r1, sDec G k) (i167 + 1)).2.2)) := by rw [e167]; exact hD
                  exact ih167 (i167 + 1) 3 (by omega) _ _ _ hP hD hS (lv_sub hl [0, 5, 6, 1, 7, 8] rfl)
                · refine lv_aload hx hb dX2_pass_270 (lv_at hl 0 rfl) ?_
                  refine wAloadO_n hx hb dX2_pass_272 rfl (lv_at hl 5 rfl) ?_
                  refine lv_acmp_ne (rx := some (ga q)) (ry := o1) (tgt := 278) hx hb dX2_pass_273 (by decide) (fun c_273 => ?_) (fun c_273 => ?_)
                  · refine lv_goto (tgt := 352) hx hb dX2_pass_278 (by decide) ?_
                    refine lv_iinc (v := nI (i167 + 1)) (lv' := [(5, .int (nI (i167 + 1))), (8, .ref (ga q)), (7, .int (sFind (sArrs k (f1, r1, sDec G k) i167).2.2 ((sArrs k (f1, r1, sDec G k) i167).2.2 i167 1) ((sArrs k (f1, r1, sDec G k) i167).2.2 i167 0) k 0)), (6, .ref (ga i167)), (0, .ref (a 0)), (1, va_rf o1), (2, .int e2), (3, .ref (a 6)), (4, .int (nI k))]) hx hb dX2_pass_352 hl (k := 3) rfl (nI_1 i167) (by decide) (by cases o1 <;> rfl) (fun ls hl => ?_)
                    refine lv_goto (tgt := 167) hx hb dX2_pass_355 (by decide) ?_
                    have e167 : sArrs k (f1, r1, sDec G k) (i167 + 1) = ((upd (sArrs k (f1, r1, sDec G k) i167).1 7 (((sArrs k (f1, r1, sDec G k) i167).1 7) + 1)), (va_up (sArrs k (f1, r1, sDec G k) i167).2.1 3 (upd (upd ((sArrs k (f1, r1, sDec G k) i167).2.1 3) x ((((sArrs k (f1, r1, sDec G k) i167).2.1 3) x) + 3)) y (((upd ((sArrs k (f1, r1, sDec G k) i167).2.1 3) x ((((sArrs k (f1, r1, sDec G k) i167).2.1 3) x) + 3)) y) + 3))), gUp (gUp (sArrs k (f1, r1, sDec G k) i167).2.2 i167 2 (-1)) q 2 (-1)) := by rw [sArrs, if_pos c_184, sArr, if_pos c2]; simp only [sBack, ed, edx, edy]
                    have hP : va_P D vwCl (SC cI cR a ca ga n k (sArrs k (f1, r1, sDec G k) (i167 + 1)).1 (sArrs k (f1, r1, sDec G k) (i167 + 1)).2.1 ++ (CW cI ca n ((sArrs k (f1, r1, sDec G k) (i167 + 1)).2.1 5) ++ RW cI ga k 3 (sArrs k (f1, r1, sDec G k) (i167 + 1)).2.2)) H := by rw [e167]; exact hP
                    have hD : va_D A (SC cI cR a ca ga n k (sArrs k (f1, r1, sDec G k) (i167 + 1)).1 (sArrs k (f1, r1, sDec G k) (i167 + 1)).2.1 ++ (CW cI ca n ((sArrs k (f1, r1, sDec G k) (i167 + 1)).2.1 5) ++ RW cI ga k 3 (sArrs k (f1, r1, sDec G k) (i167 + 1)).2.2)) := by rw [e167]; exact hD
                    exact ih167 (i167 + 1) e2 (by omega) _ _ _ hP hD hS (lv_sub hl [0, 4, 5, 6, 7, 8] rfl)
                  · refine lv_iconst (v := 3) hx hb dX2_pass_276 (by decide) ?_
                    refine lv_istore_n (lv' := [(2, .int 3), (8, .ref (ga q)), (7, .int (sFind (sArrs k (f1, r1, sDec G k) i167).2.2 ((sArrs k (f1, r1, sDec G k) i167).2.2 i167 1) ((sArrs k (f1, r1, sDec G k) i167).2.2 i167 0) k 0)), (6, .ref (ga i167)), (5, .int (nI i167)), (0, .ref (a 0)), (1, va_rf o1), (3, .ref (a 6)), (4, .int (nI k))]) hx hb dX2_pass_277 rfl hl (by decide) (by cases o1 <;> rfl) (fun ls hl => ?_)
                    refine lv_goto (tgt := 352) hx hb dX2_pass_278 (by decide) ?_
                    refine lv_iinc (v := nI (i167 + 1)) (lv' := [(5, .int (nI (i167 + 1))), (2, .int 3), (8, .ref (ga q)), (7, .int (sFind (sArrs k (f1, r1, sDec G k) i167).2.2 ((sArrs k (f1, r1, sDec G k) i167).2.2 i167 1) ((sArrs k (f1, r1, sDec G k) i167).2.2 i167 0) k 0)), (6, .ref (ga i167)), (0, .ref (a 0)), (1, va_rf o1), (3, .ref (a 6)), (4, .int (nI k))]) hx hb dX2_pass_352 hl (k := 4) rfl (nI_1 i167) (by decide) (by cases o1 <;> rfl) (fun ls hl => ?_)
                    refine lv_goto (tgt := 167) hx hb dX2_pass_355 (by decide) ?_
                    have e167 : sArrs k (f1, r1, sDec G k) (i167 + 1) = ((upd (sArrs k (f1, r1, sDec G k) i167).1 7 (((sArrs k (f1, r1, sDec G k) i167).1 7) + 1)), (va_up (sArrs k (f1, r1, sDec G k) i167).2.1 3 (upd (upd ((sArrs k (f1, r1, sDec G k) i167).2.1 3) x ((((sArrs k (f1, r1, sDec G k) i167).2.1 3) x) + 3)) y (((upd ((sArrs k (f1, r1, sDec G k) i167).2.1 3) x ((((sArrs k (f1, r1, sDec G k) i167).2.1 3) x) + 3)) y) + 3))), gUp (gUp (sArrs k (f1, r1, sDec G k) i167).2.2 i167 2 (-1)) q 2 (-1)) := by rw [sArrs, if_pos c_184, sArr, if_pos c2]; simp only [sBack, ed, edx, edy]
                    have hP : va_P D vwCl (SC cI cR a ca ga n k (sArrs k (f1, r1, sDec G k) (i167 + 1)).1 (sArrs k (f1, r1, sDec G k) (i167 + 1)).2.1 ++ (CW cI ca n ((sArrs k (f1, r1, sDec G k) (i167 + 1)).2.1 5) ++ RW cI ga k 3 (sArrs k (f1, r1, sDec G k) (i167 + 1)).2.2)) H := by rw [e167]; exact hP
                    have hD : va_D A (SC cI cR a ca ga n k (sArrs k (f1, r1, sDec G k) (i167 + 1)).1 (sArrs k (f1, r1, sDec G k) (i167 + 1)).2.1 ++ (CW cI ca n ((sArrs k (f1, r1, sDec G k) (i167 + 1)).2.1 5) ++ RW cI ga k 3 (sArrs k (f1, r1, sDec G k) (i167 + 1)).2.2)) := by rw [e167]; exact hD
                    exact ih167 (i167 + 1) 3 (by omega) _ _ _ hP hD hS (lv_sub hl [0, 5, 6, 1, 7, 8] rfl)
            · refine lv_goto (tgt := 352) hx hb dX2_pass_187 (by decide) ?_
              refine lv_iinc (v := nI (i167 + 1)) (lv' := [(5, .int (nI (i167 + 1))), (6, .ref (ga i167)), (0, .ref (a 0)), (1, va_rf o1), (2, .int e2), (3, .ref (a 6)), (4, .int (nI k))]) hx hb dX2_pass_352 hl (k := 1) rfl (nI_1 i167) (by decide) (by cases o1 <;> rfl) (fun ls hl => ?_)
              refine lv_goto (tgt := 167) hx hb dX2_pass_355 (by decide) ?_
              have e167 : sArrs k (f1, r1, sDec G k) (i167 + 1) = (sArrs k (f1, r1, sDec G k) i167) := by rw [sArrs, if_neg c_184]
              have hP : va_P D vwCl (SC cI cR a ca ga n k (sArrs k (f1, r1, sDec G k) (i167 + 1)).1 (sArrs k (f1, r1, sDec G k) (i167 + 1)).2.1 ++ (CW cI ca n ((sArrs k (f1, r1, sDec G k) (i167 + 1)).2.1 5) ++ RW cI ga k 3 (sArrs k (f1, r1, sDec G k) (i167 + 1)).2.2)) H := by rw [e167]; exact hP
              have hD : va_D A (SC cI cR a ca ga n k (sArrs k (f1, r1, sDec G k) (i167 + 1)).1 (sArrs k (f1, r1, sDec G k) (i167 + 1)).2.1 ++ (CW cI ca n ((sArrs k (f1, r1, sDec G k) (i167 + 1)).2.1 5) ++ RW cI ga k 3 (sArrs k (f1, r1, sDec G k) (i167 + 1)).2.2)) := by rw [e167]; exact hD
              exact ih167 (i167 + 1) e2 (by omega) _ _ _ hP hD hS (lv_sub hl [0, 2, 3, 4, 5, 6] rfl)
        exact loop167 k 0 (-1) (by omega) _ _ _ hP hD hS (lv_sub hl [0, 3, 4, 5, 2, 1] rfl)
      | succ j ih121 =>
        intro i121 hi121 H locs ls hP hD hS hl
        refine lv_iload hx hb dX2_pass_121 (lv_at hl 0 rfl) ?_
        refine lv_iload hx hb dX2_pass_123 (lv_at hl 5 rfl) ?_
        refine lv_icmp_ge (tgt := 155) hx hb dX2_pass_125 (by decide) (fun h9 => absurd h9 (nI_ge (by omega) (by omega))) (fun c_125 => ?_)
        have c_125n := mt (nI_leI (a := k) (b := i121) (by omega) (by omega)).mpr c_125
        refine lv_aload_n hx hb dX2_pass_128 rfl (lv_at hl 4 rfl) ?_
        refine lv_iload hx hb dX2_pass_129 (lv_at hl 0 rfl) ?_
        refine wAald hx hb hK hP 1 1 rfl rfl i121 rfl (by omega) (by omega) (RF_in (by omega)) dX2_pass_131 ?_
        refine lv_astore (lv' := [(6, .ref (ga i121)), (5, .int (nI i121)), (0, .ref (a 0)), (1, va_rf o1), (2, .int (-1)), (3, .ref (a 6)), (4, .int (nI k))]) hx hb dX2_pass_132 hl (by decide) (by cases o1 <;> rfl) (fun ls hl => ?_)
        refine lv_aload hx hb dX2_pass_134 (lv_at hl 0 rfl) ?_
        refine lv_iconst (v := 2) hx hb dX2_pass_136 (by decide) ?_
        refine wIaldR (pre := SC cI cR a ca ga n k f1 r1 ++ CW cI ca n (r1 5)) (suf := ([] : va_W)) (bb := ga) (N := k) (len := 3) (v := (sDec G i121)) hx hb hK hP 0 (by simp only [List.append_assoc, List.append_nil, List.nil_append]) rfl i121 (by omega) 2 rfl (by decide) (by decide) dX2_pass_137 ?_
        refine lv_if_le (tgt := 149) hx hb dX2_pass_138 (by decide) (fun c_138 => ?_) (fun c_138 => ?_)
        · refine lv_iinc (v := nI (i121 + 1)) (lv' := [(5, .int (nI (i121 + 1))), (6, .ref (ga i121)), (0, .ref (a 0)), (1, va_rf o1), (2, .int (-1)), (3, .ref (a 6)), (4, .int (nI k))]) hx hb dX2_pass_149 hl (k := 1) rfl (nI_1 i121) (by decide) (by cases o1 <;> rfl) (fun ls hl => ?_)
          refine lv_goto (tgt := 121) hx hb dX2_pass_152 (by decide) ?_
          have e121 : sDec G (i121 + 1) = sDec G i121 := by rw [sDec, if_neg (Int32.not_lt.mpr c_138)]
          have hP : va_P D vwCl (SC cI cR a ca ga n k f1 r1 ++ (CW cI ca n (r1 5) ++ RW cI ga k 3 (sDec G (i121 + 1)))) H := by rw [e121]; exact hP
          have hD : va_D A (SC cI cR a ca ga n k f1 r1 ++ (CW cI ca n (r1 5) ++ RW cI ga k 3 (sDec G (i121 + 1)))) := by rw [e121]; exact hD
          exact ih121 (i121 + 1) (by omega) _ _ _ hP hD hS (lv_sub hl [0, 2, 3, 4, 5, 6] rfl)
        · refine lv_aload hx hb dX2_pass_141 (lv_at hl 0 rfl) ?_
          refine lv_iconst (v := 2) hx hb dX2_pass_143 (by decide) ?_
          refine lv_dup2_11 hx hb dX2_pass_144 rfl rfl ?_
          refine wIaldR (pre := SC cI cR a ca ga n k f1 r1 ++ CW cI ca n (r1 5)) (suf := ([] : va_W)) (bb := ga) (N := k) (len := 3) (v := (sDec G i121)) hx hb hK hP 0 (by simp only [List.append_assoc, List.append_nil, List.nil_append]) rfl i121 (by omega) 2 rfl (by decide) (by decide) dX2_pass_145 ?_
          refine lv_iconst (v := 1) hx hb dX2_pass_146 (by decide) ?_
          refine lv_isub hx hb dX2_pass_147 ?_
          refine wIastR (pre := SC cI cR a ca ga n k f1 r1 ++ CW cI ca n (r1 5)) (suf := ([] : va_W)) (bb := ga) (N := k) (len := 3) (v := (sDec G i121)) (W1 := SC cI cR a ca ga n k f1 r1 ++ (CW cI ca n (r1 5) ++ RW cI ga k 3 (gUp (sDec G i121) i121 2 (((sDec G i121) i121 2) - 1)))) hx hb hK hP hD hS 0 (by simp only [List.append_assoc, List.append_nil, List.nil_append]) rfl i121 (by omega) 2 rfl (by decide) (by decide) (by simp only [List.append_assoc, List.append_nil, List.nil_append]) dX2_pass_148 (fun H locs hP hD hS => ?_)
          refine lv_iinc (v := nI (i121 + 1)) (lv' := [(5, .int (nI (i121 + 1))), (6, .ref (ga i121)), (0, .ref (a 0)), (1, va_rf o1), (2, .int (-1)), (3, .ref (a 6)), (4, .int (nI k))]) hx hb dX2_pass_149 hl (k := 1) rfl (nI_1 i121) (by decide) (by cases o1 <;> rfl) (fun ls hl => ?_)
          refine lv_goto (tgt := 121) hx hb dX2_pass_152 (by decide) ?_
          have e121 : sDec G (i121 + 1) = gUp (sDec G i121) i121 2 (sDec G i121 i121 2 - 1) := by rw [sDec, if_pos (Int32.not_le.mp c_138)]
          have hP : va_P D vwCl (SC cI cR a ca ga n k f1 r1 ++ (CW cI ca n (r1 5) ++ RW cI ga k 3 (sDec G (i121 + 1)))) H := by rw [e121]; exact hP
          have hD : va_D A (SC cI cR a ca ga n k f1 r1 ++ (CW cI ca n (r1 5) ++ RW cI ga k 3 (sDec G (i121 + 1)))) := by rw [e121]; exact hD
          exact ih121 (i121 + 1) (by omega) _ _ _ hP hD hS (lv_sub hl [0, 2, 3, 4, 5, 6] rfl)
    exact loop121 k 0 (by omega) _ _ _ hP hD hS (lv_sub hl [0, 5, 4, 3, 2, 1] rfl)
  have join82 : ∀ (f1 : Nat → Int32) (r1 : Nat → Nat → Int32), dTalk f r = (f1, r1) → ∀ (H : Heap) (locs : List Loc) (ls : Array Slot), va_P D vwCl (SC cI cR a ca ga n k f1 r1 ++ (CW cI ca n (r1 5) ++ RW cI ga k 3 G)) H → va_D A (SC cI cR a ca ga n k f1 r1 ++ (CW cI ca n (r1 5) ++ RW cI ga k 3 G)) → va_S A s.heap H locs → lv_has ls 9 [(0, .ref (a 0))] → W p l e rmX2_pass s m args below meth c H locs 0 0 Q (F0 m 82 ls []) := by
    intro f1 r1 he H locs ls hP hD hS hl
    refine lv_aload_n hx hb dX2_pass_82 rfl (lv_at hl 0 rfl) ?_
    refine va_get (D := D) (ci := 2) (v := .ref (a 6)) (C := RX2) (T := TX2) (N := 15) hx hb hw2 (fun _ h => h) hown hK hP 0 rfl rfl 14 (by decide) k18 (fun _ h9 => h9) rfl dX2_pass_83 ?_
    refine va_alen (v := nI k) hx hb hK hP 1 1 rfl rfl rfl dX2_pass_86 ?_
    refine lv_if_ne (tgt := 94) hx hb dX2_pass_87 (by decide) (fun c_87 => ?_) (fun c_87 => ?_)
    · have hk0 : 0 < k := by
        rcases Nat.eq_zero_or_pos k with h | h
        · exact absurd (by rw [h]; rfl) c_87
        · exact h
      refine lv_aload_n hx hb dX2_pass_94 rfl (lv_at hl 0 rfl) ?_
      refine va_get (D := D) (ci := 2) (v := .ref (a 6)) (C := RX2) (T := TX2) (N := 15) hx hb hw2 (fun _ h => h) hown hK hP 0 rfl rfl 14 (by decide) k18 (fun _ h9 => h9) rfl dX2_pass_95 ?_
      refine lv_aload_n hx hb dX2_pass_98 rfl (lv_at hl 0 rfl) ?_
      refine va_get (D := D) (ci := 2) (v := .ref (a 6)) (C := RX2) (T := TX2) (N := 15) hx hb hw2 (fun _ h => h) hown hK hP 0 rfl rfl 14 (by decide) k18 (fun _ h9 => h9) rfl dX2_pass_99 ?_
      refine va_alen (v := nI k) hx hb hK hP 1 1 rfl rfl rfl dX2_pass_102 ?_
      refine lv_iconst (v := 1) hx hb dX2_pass_103 (by decide) ?_
      refine lv_isub hx hb dX2_pass_104 ?_
      refine wTop (z := nI (k - 1)) (nI_m1' hk0) ?_
      refine wAald hx hb hK hP 1 1 rfl rfl (k - 1) rfl (by omega) (by omega) (RF_in (by omega)) dX2_pass_105 ?_
      refine lv_astore_n (lv' := [(1, .ref (ga (k - 1))), (0, .ref (a 0))]) hx hb dX2_pass_106 rfl hl (by decide) rfl (fun ls hl => ?_)
      exact join107 f1 r1 (some (ga (k - 1))) he _ _ _ hP hD hS (lv_sub hl [0, 1] rfl)
    · refine lv_null hx hb dX2_pass_90 ?_
      refine lv_goto (tgt := 106) hx hb dX2_pass_91 (by decide) ?_
      refine lv_astore_nN (lv' := [(1, .null), (0, .ref (a 0))]) hx hb dX2_pass_106 rfl hl (by decide) rfl (fun ls hl => ?_)
      exact join107 f1 r1 none he _ _ _ hP hD hS (lv_sub hl [0, 1] rfl)
  refine lv_aload_n hx hb dX2_pass_0 rfl (lv_at hl 0 rfl) ?_
  refine va_get (D := D) (ci := 2) (v := .int (f 3)) (C := RX2) (T := TX2) (N := 15) hx hb hw2 (fun _ h => h) hown hK hP 0 rfl rfl 3 (by decide) k13 (fun _ h9 => h9) rfl dX2_pass_1 ?_
  refine lv_if_ge (tgt := 42) hx hb dX2_pass_4 (by decide) (fun c_4 => ?_) (fun c_4 => ?_)
  · have t3 : ¬ f 3 = -1 := fun e => absurd c_4 (by rw [e]; decide)
    obtain ⟨q, hq, eq⟩ := hs.resolve_left t3
    have en : dN (f 3) = q := by rw [eq]; exact dN_nI (by omega)
    refine lv_aload_n hx hb dX2_pass_42 rfl (lv_at hl 0 rfl) ?_
    refine lv_iconst (v := 0) hx hb dX2_pass_43 (by decide) ?_
    refine va_put (D := D) (ci := 2) (v := .int 0) (ty := .int) (C := RX2) (T := TX2) (N := 15) hx hb hw2 (fun _ h => h) tyX2 tyX2_ok nmX2 hown hK hP hD hS 0 rfl rfl 5 (by decide) k50 (fun _ h9 => h9) rfl (by decide +kernel) rfl rfl (Nat.le_of_ble_eq_true rfl) dX2_pass_44 (fun H locs hP hD hS => ?_)
    have hP : va_P D vwCl (SC cI cR a ca ga n k (upd f 5 0) r ++ (CW cI ca n (r 5) ++ RW cI ga k 3 G)) H := hP
    have hD : va_D A (SC cI cR a ca ga n k (upd f 5 0) r ++ (CW cI ca n (r 5) ++ RW cI ga k 3 G)) := hD
    refine lv_aload_n hx hb dX2_pass_47 rfl (lv_at hl 0 rfl) ?_
    refine va_get (D := D) (ci := 2) (v := .ref (a 1)) (C := RX2) (T := TX2) (N := 15) hx hb hw2 (fun _ h => h) hown hK hP 0 rfl rfl 9 (by decide) k25 (fun _ h9 => h9) rfl dX2_pass_48 ?_
    refine lv_aload_n hx hb dX2_pass_51 rfl (lv_at hl 0 rfl) ?_
    refine va_get (D := D) (ci := 2) (v := .int (f 3)) (C := RX2) (T := TX2) (N := 15) hx hb hw2 (fun _ h => h) hown hK hP 0 rfl rfl 3 (by decide) k13 (fun _ h9 => h9) rfl dX2_pass_52 ?_
    refine lv_dup2_11 hx hb dX2_pass_55 rfl rfl ?_
    refine wIald hx hb hK hP 2 0 rfl rfl q eq (by omega) (by omega) dX2_pass_56 ?_
    refine lv_iconst (v := 1) hx hb dX2_pass_57 (by decide) ?_
    refine lv_iadd hx hb dX2_pass_58 ?_
    refine wIast hx hb hK hP hD hS 2 0 rfl rfl q eq (by omega) (by omega) dX2_pass_59 (fun H locs hP hD hS => ?_)
    have hP : va_P D vwCl (SC cI cR a ca ga n k (upd f 5 0) (va_up r 0 (upd (r 0) q (((r 0) q) + 1))) ++ (CW cI ca n (r 5) ++ RW cI ga k 3 G)) H := hP
    have hD : va_D A (SC cI cR a ca ga n k (upd f 5 0) (va_up r 0 (upd (r 0) q (((r 0) q) + 1))) ++ (CW cI ca n (r 5) ++ RW cI ga k 3 G)) := hD
    refine lv_aload_n hx hb dX2_pass_60 rfl (lv_at hl 0 rfl) ?_
    refine lv_dup hx hb dX2_pass_61 rfl ?_
    refine va_get (D := D) (ci := 2) (v := .int (f 4)) (C := RX2) (T := TX2) (N := 15) hx hb hw2 (fun _ h => h) hown hK hP 0 rfl rfl 4 (by decide) k47 (fun _ h9 => h9) rfl dX2_pass_62 ?_
    refine lv_iconst (v := 1) hx hb dX2_pass_65 (by decide) ?_
    refine lv_isub hx hb dX2_pass_66 ?_
    refine va_put (D := D) (ci := 2) (v := .int ((f 4) - 1)) (ty := .int) (C := RX2) (T := TX2) (N := 15) hx hb hw2 (fun _ h => h) tyX2 tyX2_ok nmX2 hown hK hP hD hS 0 rfl rfl 4 (by decide) k47 (fun _ h9 => h9) rfl (by decide +kernel) rfl rfl (Nat.le_of_ble_eq_true rfl) dX2_pass_67 (fun H locs hP hD hS => ?_)
    have hP : va_P D vwCl (SC cI cR a ca ga n k (upd (upd f 4 ((f 4) - 1)) 5 0) (va_up r 0 (upd (r 0) q (((r 0) q) + 1))) ++ (CW cI ca n (r 5) ++ RW cI ga k 3 G)) H := hP
    have hD : va_D A (SC cI cR a ca ga n k (upd (upd f 4 ((f 4) - 1)) 5 0) (va_up r 0 (upd (r 0) q (((r 0) q) + 1))) ++ (CW cI ca n (r 5) ++ RW cI ga k 3 G)) := hD
    refine lv_aload_n hx hb dX2_pass_70 rfl (lv_at hl 0 rfl) ?_
    refine va_get (D := D) (ci := 2) (v := .int ((f 4) - 1)) (C := RX2) (T := TX2) (N := 15) hx hb hw2 (fun _ h => h) hown hK hP 0 rfl rfl 4 (by decide) k47 (fun _ h9 => h9) rfl dX2_pass_71 ?_
    refine lv_if_ne (tgt := 82) hx hb dX2_pass_74 (by decide) (fun c_74 => ?_) (fun c_74 => ?_)
    · exact join82 (upd (upd f 4 ((f 4) - 1)) 5 0) (va_up r 0 (upd (r 0) q (((r 0) q) + 1))) (by simp only [dTalk, dBm, if_pos hli, if_neg t3, en, if_neg c_74]) _ _ _ hP hD hS (lv_sub hl [0] rfl)
    · refine lv_aload_n hx hb dX2_pass_77 rfl (lv_at hl 0 rfl) ?_
      refine lv_iconst (v := (-1)) hx hb dX2_pass_78 (by decide) ?_
      refine va_put (D := D) (ci := 2) (v := .int (-1)) (ty := .int) (C := RX2) (T := TX2) (N := 15) hx hb hw2 (fun _ h => h) tyX2 tyX2_ok nmX2 hown hK hP hD hS 0 rfl rfl 3 (by decide) k13 (fun _ h9 => h9) rfl (by decide +kernel) rfl rfl (Nat.le_of_ble_eq_true rfl) dX2_pass_79 (fun H locs hP hD hS => ?_)
      have hP : va_P D vwCl (SC cI cR a ca ga n k (upd (upd (upd f 3 (-1)) 4 ((f 4) - 1)) 5 0) (va_up r 0 (upd (r 0) q (((r 0) q) + 1))) ++ (CW cI ca n (r 5) ++ RW cI ga k 3 G)) H := hP
      have hD : va_D A (SC cI cR a ca ga n k (upd (upd (upd f 3 (-1)) 4 ((f 4) - 1)) 5 0) (va_up r 0 (upd (r 0) q (((r 0) q) + 1))) ++ (CW cI ca n (r 5) ++ RW cI ga k 3 G)) := hD
      exact join82 (upd (upd (upd f 3 (-1)) 4 ((f 4) - 1)) 5 0) (va_up r 0 (upd (r 0) q (((r 0) q) + 1))) (by simp only [dTalk, dBm, if_pos hli, if_neg t3, en, if_pos c_74]) _ _ _ hP hD hS (lv_sub hl [0] rfl)
  · have t3 : f 3 = -1 := hs.resolve_right (fun ⟨q, hq, e⟩ => c_4 (by rw [e]; exact nI_pos' (by omega)))
    refine lv_aload_n hx hb dX2_pass_7 rfl (lv_at hl 0 rfl) ?_
    refine lv_dup hx hb dX2_pass_8 rfl ?_
    refine va_get (D := D) (ci := 2) (v := .int (f 5)) (C := RX2) (T := TX2) (N := 15) hx hb hw2 (fun _ h => h) hown hK hP 0 rfl rfl 5 (by decide) k50 (fun _ h9 => h9) rfl dX2_pass_9 ?_
    refine lv_iconst (v := 1) hx hb dX2_pass_12 (by decide) ?_
    refine lv_iadd hx hb dX2_pass_13 ?_
    refine va_put (D := D) (ci := 2) (v := .int ((f 5) + 1)) (ty := .int) (C := RX2) (T := TX2) (N := 15) hx hb hw2 (fun _ h => h) tyX2 tyX2_ok nmX2 hown hK hP hD hS 0 rfl rfl 5 (by decide) k50 (fun _ h9 => h9) rfl (by decide +kernel) rfl rfl (Nat.le_of_ble_eq_true rfl) dX2_pass_14 (fun H locs hP hD hS => ?_)
    have hP : va_P D vwCl (SC cI cR a ca ga n k (upd f 5 ((f 5) + 1)) r ++ (CW cI ca n (r 5) ++ RW cI ga k 3 G)) H := hP
    have hD : va_D A (SC cI cR a ca ga n k (upd f 5 ((f 5) + 1)) r ++ (CW cI ca n (r 5) ++ RW cI ga k 3 G)) := hD
    refine lv_aload_n hx hb dX2_pass_17 rfl (lv_at hl 0 rfl) ?_
    refine va_get (D := D) (ci := 2) (v := .int ((f 5) + 1)) (C := RX2) (T := TX2) (N := 15) hx hb hw2 (fun _ h => h) hown hK hP 0 rfl rfl 5 (by decide) k50 (fun _ h9 => h9) rfl dX2_pass_18 ?_
    refine lv_aload_n hx hb dX2_pass_21 rfl (lv_at hl 0 rfl) ?_
    refine va_get (D := D) (ci := 2) (v := .int (f 2)) (C := RX2) (T := TX2) (N := 15) hx hb hw2 (fun _ h => h) hown hK hP 0 rfl rfl 1 (by decide) k7 (fun _ h9 => h9) rfl dX2_pass_22 ?_
    refine lv_irem hx hb dX2_pass_25 (fun e => absurd hli (by rw [e]; decide)) ?_
    refine lv_if_ne (tgt := 82) hx hb dX2_pass_26 (by decide) (fun c_26 => ?_) (fun c_26 => ?_)
    · exact join82 (upd f 5 ((f 5) + 1)) r (by simp only [dTalk, dBm, if_pos hli, if_pos t3, if_neg c_26]) _ _ _ hP hD hS (lv_sub hl [0] rfl)
    · refine lv_aload_n hx hb dX2_pass_29 rfl (lv_at hl 0 rfl) ?_
      refine lv_dup hx hb dX2_pass_30 rfl ?_
      refine va_get (D := D) (ci := 2) (v := .int (f 6)) (C := RX2) (T := TX2) (N := 15) hx hb hw2 (fun _ h => h) hown hK hP 0 rfl rfl 6 (by decide) k53 (fun _ h9 => h9) rfl dX2_pass_31 ?_
      refine lv_iconst (v := 1) hx hb dX2_pass_34 (by decide) ?_
      refine lv_iadd hx hb dX2_pass_35 ?_
      refine va_put (D := D) (ci := 2) (v := .int ((f 6) + 1)) (ty := .int) (C := RX2) (T := TX2) (N := 15) hx hb hw2 (fun _ h => h) tyX2 tyX2_ok nmX2 hown hK hP hD hS 0 rfl rfl 6 (by decide) k53 (fun _ h9 => h9) rfl (by decide +kernel) rfl rfl (Nat.le_of_ble_eq_true rfl) dX2_pass_36 (fun H locs hP hD hS => ?_)
      have hP : va_P D vwCl (SC cI cR a ca ga n k (upd (upd f 5 ((f 5) + 1)) 6 ((f 6) + 1)) r ++ (CW cI ca n (r 5) ++ RW cI ga k 3 G)) H := hP
      have hD : va_D A (SC cI cR a ca ga n k (upd (upd f 5 ((f 5) + 1)) 6 ((f 6) + 1)) r ++ (CW cI ca n (r 5) ++ RW cI ga k 3 G)) := hD
      refine lv_goto (tgt := 82) hx hb dX2_pass_39 (by decide) ?_
      exact join82 (upd (upd f 5 ((f 5) + 1)) 6 ((f 6) + 1)) r (by simp only [dTalk, dBm, if_pos hli, if_pos t3, if_pos c_26]) _ _ _ hP hD hS (lv_sub hl [0] rfl)
abbrev rmX2_behind : Room := { frames := 2, cells := 0, slots := 0, locals := 51 }
set_option maxRecDepth 100000 in
set_option maxHeartbeats 4000000 in
/-- behind -/
theorem mX2_behind (l : Launch) (D : va_G) (cI cR : ClassId) (a ca ga : Nat → Nat) (n k : Nat) (f : Nat → Int32) (r G : Nat → Nat → Int32) (c9 : Nat) (sz : Nat) (hg : f 0 = nI n) (hn0 : 2 ≤ n) (hn1 : n ≤ 10) (hk : k ≤ 100) (hc : c9 < 2 ^ 31) (hp : ∀ i, i < c9 → pOk n k (sGo k (f, r, G) i)) : wCt l yX2_behind wsX2_behind rmX2_behind D [(cI, .int), (cR, .array .int)] [.ref (a 0), .int (nI c9)] (SC cI cR a ca ga n k f r ++ (CW cI ca n (r 5) ++ RW cI ga k 3 G)) sz 0 0 (wQr D (fun u : sS => u = sGo k (f, r, G) c9) (fun u : sS => SC cI cR a ca ga n k u.1 u.2.1 ++ (CW cI ca n (u.2.1 5) ++ RW cI ga k 3 u.2.2)) (fun _ : sS => a 0)) := by
  refine wMet cX2_behind 3 (some (.object "PauseLedgerLaw$Sim")) (by decide) rfl (Nat.le_of_ble_eq_true rfl) ?_
  intro p e s m args below meth c A Q ls hQ hx hb hr hml hown hlocks hin hts hN hP hK hD hA hS hl
  have hK1 : va_K D vwCl [(cI, .int)] s := hK.sub [0] rfl
  have hl : lv_has ls 3 [(0, .ref (a 0)), (1, .int (nI c9))] := hl
  have hown : s.vm.findClass RX2 = some m.cls := hown
  refine lv_iconst (v := 0) hx hb dX2_behind_0 (by decide) ?_
  refine lv_istore_n (lv' := [(2, .int 0), (0, .ref (a 0)), (1, .int (nI c9))]) hx hb dX2_behind_1 rfl hl (by decide) rfl (fun ls hl => ?_)
  have loop2 : ∀ (j i2 : Nat), i2 + j = c9 → ∀ (H : Heap) (locs : List Loc) (ls : Array Slot), va_P D vwCl (SC cI cR a ca ga n k (sGo k (f, r, G) i2).1 (sGo k (f, r, G) i2).2.1 ++ (CW cI ca n ((sGo k (f, r, G) i2).2.1 5) ++ RW cI ga k 3 (sGo k (f, r, G) i2).2.2)) H → va_D A (SC cI cR a ca ga n k (sGo k (f, r, G) i2).1 (sGo k (f, r, G) i2).2.1 ++ (CW cI ca n ((sGo k (f, r, G) i2).2.1 5) ++ RW cI ga k 3 (sGo k (f, r, G) i2).2.2)) → va_S A s.heap H locs → lv_has ls 3 [(2, .int (nI i2)), (0, .ref (a 0)), (1, .int (nI c9))] → W p l e rmX2_behind s m args below meth c H locs 0 0 Q (F0 m 2 ls []) := by
    intro j
    induction j with
    | zero =>
      intro i2 hi2 H locs ls hP hD hS hl
      have ez : c9 = i2 := by omega
      subst ez
      refine lv_iload_n hx hb dX2_behind_2 rfl (lv_at hl 0 rfl) ?_
      refine lv_iload_n hx hb dX2_behind_3 rfl (lv_at hl 2 rfl) ?_
      refine lv_icmp_ge (tgt := 18) hx hb dX2_behind_4 (by decide) (fun c_4 => ?_) (fun h9 => absurd (nI_le (by omega) (by omega)) h9)
      have c_4n := (nI_leI (a := c9) (b := c9) (by omega) (by omega)).mp c_4
      refine lv_aload_n hx hb dX2_behind_18 rfl (lv_at hl 1 rfl) ?_
      exact wRr hQ hx hb hr (Or.inl ⟨_, rfl⟩) hlocks hP hD hS dX2_behind_19 (sGo k (f, r, G) c9) (rfl) rfl rfl
    | succ j ih2 =>
      intro i2 hi2 H locs ls hP hD hS hl
      refine lv_iload_n hx hb dX2_behind_2 rfl (lv_at hl 0 rfl) ?_
      refine lv_iload_n hx hb dX2_behind_3 rfl (lv_at hl 2 rfl) ?_
      refine lv_icmp_ge (tgt := 18) hx hb dX2_behind_4 (by decide) (fun h9 => absurd h9 (nI_ge (by omega) (by omega))) (fun c_4 => ?_)
      have c_4n := mt (nI_leI (a := c9) (b := i2) (by omega) (by omega)).mpr c_4
      refine lv_aload_n hx hb dX2_behind_7 rfl (lv_at hl 1 rfl) ?_
      refine wCVi (pre := ([] : va_W)) (Wc := SC cI cR a ca ga n k (sGo k (f, r, G) i2).1 (sGo k (f, r, G) i2).2.1 ++ (CW cI ca n ((sGo k (f, r, G) i2).2.1 5) ++ RW cI ga k 3 (sGo k (f, r, G) i2).2.2)) (suf := ([] : va_W)) (As := []) (rest := []) ⟨hx, hb, hml, hown, hts⟩ (mX2_pass l D cI cR a ca ga n k (sGo k (f, r, G) i2).1 (sGo k (f, r, G) i2).2.1 (sGo k (f, r, G) i2).2.2 _ (hp i2 (by omega)).1 hn0 hn1 hk (hp i2 (by omega)).2.1 (hp i2 (by omega)).2.2.1 (hp i2 (by omega)).2.2.2) hN hA hK hS hP hD (by simp only [List.append_assoc, List.append_nil, List.nil_append]) 0 (r := (RX2, TX2, 15)) rfl rfl (cwV 0 hts gX2_behind_X2_pass rfl rfl rfl (by decide +kernel) ⟨Nat.le_of_ble_eq_true rfl, Nat.le_of_ble_eq_true rfl⟩) rfl hl.1 rfl (Nat.le_of_ble_eq_true rfl) dX2_behind_8 ⟨by show 0 ≤ 0; omega, by show 0 ≤ 0; omega⟩ (fun r_8 u_8 H locs hw hP hD hS => ?_)
      subst hw
      have hP : va_P D vwCl (SC cI cR a ca ga n k (sPass k ((sGo k (f, r, G) i2).1, (sGo k (f, r, G) i2).2.1, (sGo k (f, r, G) i2).2.2)).1 (sPass k ((sGo k (f, r, G) i2).1, (sGo k (f, r, G) i2).2.1, (sGo k (f, r, G) i2).2.2)).2.1 ++ (CW cI ca n ((sPass k ((sGo k (f, r, G) i2).1, (sGo k (f, r, G) i2).2.1, (sGo k (f, r, G) i2).2.2)).2.1 5) ++ RW cI ga k 3 (sPass k ((sGo k (f, r, G) i2).1, (sGo k (f, r, G) i2).2.1, (sGo k (f, r, G) i2).2.2)).2.2)) H := by simpa only [List.append_assoc, List.append_nil, List.nil_append] using hP
      have hD : va_D A (SC cI cR a ca ga n k (sPass k ((sGo k (f, r, G) i2).1, (sGo k (f, r, G) i2).2.1, (sGo k (f, r, G) i2).2.2)).1 (sPass k ((sGo k (f, r, G) i2).1, (sGo k (f, r, G) i2).2.1, (sGo k (f, r, G) i2).2.2)).2.1 ++ (CW cI ca n ((sPass k ((sGo k (f, r, G) i2).1, (sGo k (f, r, G) i2).2.1, (sGo k (f, r, G) i2).2.2)).2.1 5) ++ RW cI ga k 3 (sPass k ((sGo k (f, r, G) i2).1, (sGo k (f, r, G) i2).2.1, (sGo k (f, r, G) i2).2.2)).2.2)) := by simpa only [List.append_assoc, List.append_nil, List.nil_append] using hD
      refine lv_pop hx hb dX2_behind_11 rfl ?_
      refine lv_iinc (v := nI (i2 + 1)) (lv' := [(2, .int (nI (i2 + 1))), (0, .ref (a 0)), (1, .int (nI c9))]) hx hb dX2_behind_12 hl (k := 0) rfl (nI_1 i2) (by decide) rfl (fun ls hl => ?_)
      refine lv_goto (tgt := 2) hx hb dX2_behind_15 (by decide) ?_
      exact ih2 (i2 + 1) (by omega) _ _ _ hP hD hS (lv_sub hl [0, 1, 2] rfl)
  exact loop2 c9 0 (by omega) _ _ _ hP hD hS (lv_sub hl [0, 1, 2] rfl)
end
