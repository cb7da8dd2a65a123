section
-- ===== PART A: goes FIRST, ahead of the names: the tables' words, and 'selects' of the private methods out of them =====
/-- a private method of a class that the tables say can be made, by its rows of tables_1 -/
def lw_okq (q : MethodName × Nat) : Prop := (q.1.cls ≠ "java/lang/invoke/MethodHandle" ∧ q.1.cls ≠ "java/lang/invoke/VarHandle") ∧ Cond.instantiable q.1.cls q.2 ∈ tables_1 ∧ Cond.privateMethod q.1 ∈ tables_1 ∧ Cond.instanceMethod q.1 ∈ tables_1
theorem lw_p0 : lw_okq (⟨"PauseLedger$Dinner", "beyondMultipleOfLimit", "(I)I"⟩, 17) := ⟨⟨by decide +kernel, by decide +kernel⟩, List.mem_of_getElem? (i := 22) (by decide +kernel), List.mem_of_getElem? (i := 189) (by decide +kernel), List.mem_of_getElem? (i := 190) (by decide +kernel)⟩
theorem lw_p1 : lw_okq (⟨"PauseLedger", "digestOfTable", "()J"⟩, 2) := ⟨⟨by decide +kernel, by decide +kernel⟩, List.mem_of_getElem? (i := 14) (by decide +kernel), List.mem_of_getElem? (i := 202) (by decide +kernel), List.mem_of_getElem? (i := 203) (by decide +kernel)⟩
theorem lw_p2 : lw_okq (⟨"PauseLedger", "withGuest", "(JI)J"⟩, 2) := ⟨⟨by decide +kernel, by decide +kernel⟩, List.mem_of_getElem? (i := 14) (by decide +kernel), List.mem_of_getElem? (i := 211) (by decide +kernel), List.mem_of_getElem? (i := 212) (by decide +kernel)⟩
theorem lw_p3 : lw_okq (⟨"java/lang/Throwable", "fillInStackTrace", "(I)Ljava/lang/Throwable;"⟩, 6) := ⟨⟨by decide +kernel, by decide +kernel⟩, List.mem_of_getElem? (i := 275) (by decide +kernel), List.mem_of_getElem? (i := 273) (by decide +kernel), List.mem_of_getElem? (i := 274) (by decide +kernel)⟩
theorem lw_p4 : lw_okq (⟨"PauseLedger", "requireGuest", "(I)V"⟩, 2) := ⟨⟨by decide +kernel, by decide +kernel⟩, List.mem_of_getElem? (i := 14) (by decide +kernel), List.mem_of_getElem? (i := 321) (by decide +kernel), List.mem_of_getElem? (i := 322) (by decide +kernel)⟩
theorem lw_p5 : lw_okq (⟨"PauseLedger$Dinner", "unsaidByCough", "(II)I"⟩, 17) := ⟨⟨by decide +kernel, by decide +kernel⟩, List.mem_of_getElem? (i := 22) (by decide +kernel), List.mem_of_getElem? (i := 356) (by decide +kernel), List.mem_of_getElem? (i := 357) (by decide +kernel)⟩
theorem lw_p6 : lw_okq (⟨"PauseLedger", "requireFreeWay", "(II)V"⟩, 2) := ⟨⟨by decide +kernel, by decide +kernel⟩, List.mem_of_getElem? (i := 14) (by decide +kernel), List.mem_of_getElem? (i := 368) (by decide +kernel), List.mem_of_getElem? (i := 369) (by decide +kernel)⟩
theorem lw_p7 : lw_okq (⟨"PauseLedger$Dinner", "wayOf", "(II)I"⟩, 17) := ⟨⟨by decide +kernel, by decide +kernel⟩, List.mem_of_getElem? (i := 22) (by decide +kernel), List.mem_of_getElem? (i := 395) (by decide +kernel), List.mem_of_getElem? (i := 396) (by decide +kernel)⟩
theorem lw_p8 : lw_okq (⟨"PauseLedger$Dinner", "goOneSecond", "()V"⟩, 17) := ⟨⟨by decide +kernel, by decide +kernel⟩, List.mem_of_getElem? (i := 22) (by decide +kernel), List.mem_of_getElem? (i := 417) (by decide +kernel), List.mem_of_getElem? (i := 418) (by decide +kernel)⟩
theorem lw_p9 : lw_okq (⟨"PauseLedger$Dinner", "speakOrPause", "()V"⟩, 17) := ⟨⟨by decide +kernel, by decide +kernel⟩, List.mem_of_getElem? (i := 22) (by decide +kernel), List.mem_of_getElem? (i := 421) (by decide +kernel), List.mem_of_getElem? (i := 422) (by decide +kernel)⟩
theorem lw_p10 : lw_okq (⟨"PauseLedger$Dinner", "moveGlances", "()V"⟩, 17) := ⟨⟨by decide +kernel, by decide +kernel⟩, List.mem_of_getElem? (i := 22) (by decide +kernel), List.mem_of_getElem? (i := 425) (by decide +kernel), List.mem_of_getElem? (i := 426) (by decide +kernel)⟩
theorem lw_p11 : lw_okq (⟨"PauseLedger$Dinner", "arrive", "(II)V"⟩, 17) := ⟨⟨by decide +kernel, by decide +kernel⟩, List.mem_of_getElem? (i := 22) (by decide +kernel), List.mem_of_getElem? (i := 429) (by decide +kernel), List.mem_of_getElem? (i := 430) (by decide +kernel)⟩
theorem lw_p12 : lw_okq (⟨"PauseLedger$Dinner", "forgetThoseOver", "()V"⟩, 17) := ⟨⟨by decide +kernel, by decide +kernel⟩, List.mem_of_getElem? (i := 22) (by decide +kernel), List.mem_of_getElem? (i := 433) (by decide +kernel), List.mem_of_getElem? (i := 434) (by decide +kernel)⟩
theorem lw_p13 : lw_okq (⟨"PauseLedger", "tryOut", "(I)V"⟩, 2) := ⟨⟨by decide +kernel, by decide +kernel⟩, List.mem_of_getElem? (i := 14) (by decide +kernel), List.mem_of_getElem? (i := 501) (by decide +kernel), List.mem_of_getElem? (i := 502) (by decide +kernel)⟩
theorem lw_p14 : lw_okq (⟨"PauseLedgerModel", "fail", "(I)I"⟩, 7) := ⟨⟨by decide +kernel, by decide +kernel⟩, List.mem_of_getElem? (i := 538) (by decide +kernel), List.mem_of_getElem? (i := 577) (by decide +kernel), List.mem_of_getElem? (i := 578) (by decide +kernel)⟩
theorem lw_p15 : lw_okq (⟨"PauseLedgerModel", "rated", "()I"⟩, 7) := ⟨⟨by decide +kernel, by decide +kernel⟩, List.mem_of_getElem? (i := 538) (by decide +kernel), List.mem_of_getElem? (i := 581) (by decide +kernel), List.mem_of_getElem? (i := 582) (by decide +kernel)⟩
def lw_privs_1 : List (MethodName × Nat) := [(⟨"PauseLedger$Dinner", "beyondMultipleOfLimit", "(I)I"⟩, 17), (⟨"PauseLedger", "digestOfTable", "()J"⟩, 2), (⟨"PauseLedger", "withGuest", "(JI)J"⟩, 2), (⟨"java/lang/Throwable", "fillInStackTrace", "(I)Ljava/lang/Throwable;"⟩, 6), (⟨"PauseLedger", "requireGuest", "(I)V"⟩, 2), (⟨"PauseLedger$Dinner", "unsaidByCough", "(II)I"⟩, 17), (⟨"PauseLedger", "requireFreeWay", "(II)V"⟩, 2), (⟨"PauseLedger$Dinner", "wayOf", "(II)I"⟩, 17), (⟨"PauseLedger$Dinner", "goOneSecond", "()V"⟩, 17), (⟨"PauseLedger$Dinner", "speakOrPause", "()V"⟩, 17), (⟨"PauseLedger$Dinner", "moveGlances", "()V"⟩, 17), (⟨"PauseLedger$Dinner", "arrive", "(II)V"⟩, 17), (⟨"PauseLedger$Dinner", "forgetThoseOver", "()V"⟩, 17), (⟨"PauseLedger", "tryOut", "(I)V"⟩, 2), (⟨"PauseLedgerModel", "fail", "(I)I"⟩, 7), (⟨"PauseLedgerModel", "rated", "()I"⟩, 7)]
theorem lw_r1 : ∀ q ∈ lw_privs_1, lw_okq q := List.forall_mem_cons.mpr ⟨lw_p0, List.forall_mem_cons.mpr ⟨lw_p1, List.forall_mem_cons.mpr ⟨lw_p2, List.forall_mem_cons.mpr ⟨lw_p3, List.forall_mem_cons.mpr ⟨lw_p4, List.forall_mem_cons.mpr ⟨lw_p5, List.forall_mem_cons.mpr ⟨lw_p6, List.forall_mem_cons.mpr ⟨lw_p7, List.forall_mem_cons.mpr ⟨lw_p8, List.forall_mem_cons.mpr ⟨lw_p9, List.forall_mem_cons.mpr ⟨lw_p10, List.forall_mem_cons.mpr ⟨lw_p11, List.forall_mem_cons.mpr ⟨lw_p12, List.forall_mem_cons.mpr ⟨lw_p13, List.forall_mem_cons.mpr ⟨lw_p14, List.forall_mem_cons.mpr ⟨lw_p15, fun _ h => absurd h List.not_mem_nil⟩⟩⟩⟩⟩⟩⟩⟩⟩⟩⟩⟩⟩⟩⟩⟩
theorem lw_p16 : lw_okq (⟨"PauseLedgerModel", "unsaid", "()I"⟩, 7) := ⟨⟨by decide +kernel, by decide +kernel⟩, List.mem_of_getElem? (i := 538) (by decide +kernel), List.mem_of_getElem? (i := 585) (by decide +kernel), List.mem_of_getElem? (i := 586) (by decide +kernel)⟩
theorem lw_p17 : lw_okq (⟨"PauseLedgerModel", "isGuest", "(I)Z"⟩, 7) := ⟨⟨by decide +kernel, by decide +kernel⟩, List.mem_of_getElem? (i := 538) (by decide +kernel), List.mem_of_getElem? (i := 599) (by decide +kernel), List.mem_of_getElem? (i := 600) (by decide +kernel)⟩
theorem lw_p18 : lw_okq (⟨"PauseLedgerModel", "canSend", "(II)Z"⟩, 7) := ⟨⟨by decide +kernel, by decide +kernel⟩, List.mem_of_getElem? (i := 538) (by decide +kernel), List.mem_of_getElem? (i := 611) (by decide +kernel), List.mem_of_getElem? (i := 612) (by decide +kernel)⟩
theorem lw_p19 : lw_okq (⟨"PauseLedgerModel", "send", "(II)I"⟩, 7) := ⟨⟨by decide +kernel, by decide +kernel⟩, List.mem_of_getElem? (i := 538) (by decide +kernel), List.mem_of_getElem? (i := 618) (by decide +kernel), List.mem_of_getElem? (i := 619) (by decide +kernel)⟩
theorem lw_p20 : lw_okq (⟨"PauseLedgerModel", "apart", "(II)I"⟩, 7) := ⟨⟨by decide +kernel, by decide +kernel⟩, List.mem_of_getElem? (i := 538) (by decide +kernel), List.mem_of_getElem? (i := 622) (by decide +kernel), List.mem_of_getElem? (i := 623) (by decide +kernel)⟩
theorem lw_p21 : lw_okq (⟨"PauseLedgerModel", "secondsOn", "(I)V"⟩, 7) := ⟨⟨by decide +kernel, by decide +kernel⟩, List.mem_of_getElem? (i := 538) (by decide +kernel), List.mem_of_getElem? (i := 631) (by decide +kernel), List.mem_of_getElem? (i := 632) (by decide +kernel)⟩
theorem lw_p22 : lw_okq (⟨"PauseLedgerModel", "secondOn", "()V"⟩, 7) := ⟨⟨by decide +kernel, by decide +kernel⟩, List.mem_of_getElem? (i := 538) (by decide +kernel), List.mem_of_getElem? (i := 635) (by decide +kernel), List.mem_of_getElem? (i := 636) (by decide +kernel)⟩
theorem lw_p23 : lw_okq (⟨"PauseLedgerModel", "talk", "()V"⟩, 7) := ⟨⟨by decide +kernel, by decide +kernel⟩, List.mem_of_getElem? (i := 538) (by decide +kernel), List.mem_of_getElem? (i := 639) (by decide +kernel), List.mem_of_getElem? (i := 640) (by decide +kernel)⟩
theorem lw_p24 : lw_okq (⟨"PauseLedgerModel", "fly", "()V"⟩, 7) := ⟨⟨by decide +kernel, by decide +kernel⟩, List.mem_of_getElem? (i := 538) (by decide +kernel), List.mem_of_getElem? (i := 643) (by decide +kernel), List.mem_of_getElem? (i := 644) (by decide +kernel)⟩
theorem lw_p25 : lw_okq (⟨"PauseLedgerModel", "arrives", "(II)V"⟩, 7) := ⟨⟨by decide +kernel, by decide +kernel⟩, List.mem_of_getElem? (i := 538) (by decide +kernel), List.mem_of_getElem? (i := 647) (by decide +kernel), List.mem_of_getElem? (i := 648) (by decide +kernel)⟩
theorem lw_p26 : lw_okq (⟨"PauseLedgerModel", "told", "(I)I"⟩, 7) := ⟨⟨by decide +kernel, by decide +kernel⟩, List.mem_of_getElem? (i := 538) (by decide +kernel), List.mem_of_getElem? (i := 655) (by decide +kernel), List.mem_of_getElem? (i := 656) (by decide +kernel)⟩
theorem lw_p27 : lw_okq (⟨"PauseLedgerModel", "left", "()I"⟩, 7) := ⟨⟨by decide +kernel, by decide +kernel⟩, List.mem_of_getElem? (i := 538) (by decide +kernel), List.mem_of_getElem? (i := 679) (by decide +kernel), List.mem_of_getElem? (i := 680) (by decide +kernel)⟩
theorem lw_p28 : lw_okq (⟨"PauseLedgerModel", "guest", "(II)I"⟩, 7) := ⟨⟨by decide +kernel, by decide +kernel⟩, List.mem_of_getElem? (i := 538) (by decide +kernel), List.mem_of_getElem? (i := 691) (by decide +kernel), List.mem_of_getElem? (i := 692) (by decide +kernel)⟩
theorem lw_p29 : lw_okq (⟨"PauseLedgerModel", "flight", "(III)I"⟩, 7) := ⟨⟨by decide +kernel, by decide +kernel⟩, List.mem_of_getElem? (i := 538) (by decide +kernel), List.mem_of_getElem? (i := 711) (by decide +kernel), List.mem_of_getElem? (i := 712) (by decide +kernel)⟩
theorem lw_p30 : lw_okq (⟨"PauseLedgerModel", "underWay", "()I"⟩, 7) := ⟨⟨by decide +kernel, by decide +kernel⟩, List.mem_of_getElem? (i := 538) (by decide +kernel), List.mem_of_getElem? (i := 735) (by decide +kernel), List.mem_of_getElem? (i := 736) (by decide +kernel)⟩
theorem lw_p31 : lw_okq (⟨"PauseLedgerModel", "keep", "()V"⟩, 7) := ⟨⟨by decide +kernel, by decide +kernel⟩, List.mem_of_getElem? (i := 538) (by decide +kernel), List.mem_of_getElem? (i := 759) (by decide +kernel), List.mem_of_getElem? (i := 760) (by decide +kernel)⟩
def lw_privs_2 : List (MethodName × Nat) := [(⟨"PauseLedgerModel", "unsaid", "()I"⟩, 7), (⟨"PauseLedgerModel", "isGuest", "(I)Z"⟩, 7), (⟨"PauseLedgerModel", "canSend", "(II)Z"⟩, 7), (⟨"PauseLedgerModel", "send", "(II)I"⟩, 7), (⟨"PauseLedgerModel", "apart", "(II)I"⟩, 7), (⟨"PauseLedgerModel", "secondsOn", "(I)V"⟩, 7), (⟨"PauseLedgerModel", "secondOn", "()V"⟩, 7), (⟨"PauseLedgerModel", "talk", "()V"⟩, 7), (⟨"PauseLedgerModel", "fly", "()V"⟩, 7), (⟨"PauseLedgerModel", "arrives", "(II)V"⟩, 7), (⟨"PauseLedgerModel", "told", "(I)I"⟩, 7), (⟨"PauseLedgerModel", "left", "()I"⟩, 7), (⟨"PauseLedgerModel", "guest", "(II)I"⟩, 7), (⟨"PauseLedgerModel", "flight", "(III)I"⟩, 7), (⟨"PauseLedgerModel", "underWay", "()I"⟩, 7), (⟨"PauseLedgerModel", "keep", "()V"⟩, 7)]
theorem lw_r2 : ∀ q ∈ lw_privs_2, lw_okq q := List.forall_mem_cons.mpr ⟨lw_p16, List.forall_mem_cons.mpr ⟨lw_p17, List.forall_mem_cons.mpr ⟨lw_p18, List.forall_mem_cons.mpr ⟨lw_p19, List.forall_mem_cons.mpr ⟨lw_p20, List.forall_mem_cons.mpr ⟨lw_p21, List.forall_mem_cons.mpr ⟨lw_p22, List.forall_mem_cons.mpr ⟨lw_p23, List.forall_mem_cons.mpr ⟨lw_p24, List.forall_mem_cons.mpr ⟨lw_p25, List.forall_mem_cons.mpr ⟨lw_p26, List.forall_mem_cons.mpr ⟨lw_p27, List.forall_mem_cons.mpr ⟨lw_p28, List.forall_mem_cons.mpr ⟨lw_p29, List.forall_mem_cons.mpr ⟨lw_p30, List.forall_mem_cons.mpr ⟨lw_p31, fun _ h => absurd h List.not_mem_nil⟩⟩⟩⟩⟩⟩⟩⟩⟩⟩⟩⟩⟩⟩⟩⟩
theorem lw_p32 : lw_okq (⟨"PauseLedgerModel", "bringBack", "()V"⟩, 7) := ⟨⟨by decide +kernel, by decide +kernel⟩, List.mem_of_getElem? (i := 538) (by decide +kernel), List.mem_of_getElem? (i := 764) (by decide +kernel), List.mem_of_getElem? (i := 765) (by decide +kernel)⟩
theorem lw_p33 : lw_okq (⟨"PauseLedgerModel", "becomes", "(II)I"⟩, 7) := ⟨⟨by decide +kernel, by decide +kernel⟩, List.mem_of_getElem? (i := 538) (by decide +kernel), List.mem_of_getElem? (i := 776) (by decide +kernel), List.mem_of_getElem? (i := 777) (by decide +kernel)⟩
def lw_privs_3 : List (MethodName × Nat) := [(⟨"PauseLedgerModel", "bringBack", "()V"⟩, 7), (⟨"PauseLedgerModel", "becomes", "(II)I"⟩, 7)]
theorem lw_r3 : ∀ q ∈ lw_privs_3, lw_okq q := List.forall_mem_cons.mpr ⟨lw_p32, List.forall_mem_cons.mpr ⟨lw_p33, fun _ h => absurd h List.not_mem_nil⟩⟩
def lw_privs : List (MethodName × Nat) := lw_privs_1 ++ (lw_privs_2 ++ (lw_privs_3))
def lw_tbl : List Cond := k2_sels lw_privs ++ tables_1
theorem lw_privs_ok : ∀ q ∈ lw_privs, lw_okq q := by
  show ∀ q ∈ lw_privs_1 ++ (lw_privs_2 ++ (lw_privs_3)), lw_okq q
  exact List.forall_mem_append.mpr ⟨lw_r1, List.forall_mem_append.mpr ⟨lw_r2, lw_r3⟩⟩
/-- the streams that the claim lets the run draw from -/
abbrev lw_cs : List Choice := [Jvm.Choice.named "NaN.bits"]
theorem lw_bits : nanBits ∈ lw_cs := by first | decide | exact List.mem_cons_self | simp [lw_cs, nanBits]
-- ===== end of PART A; then your names; then what follows =====
/-! ===== BEGIN words of one list among another's, by their places ===== -/
theorem goodIn_r {big : List Cond} (ws : List Cond) (ps : List Nat) (hp : ws = ps.filterMap (fun i => big[i]?)) (h : ws.all goodWord = true) : GoodIn big ws := by
  intro w hw
  have h1 := List.all_eq_true.mp h w hw
  rw [hp] at hw
  obtain ⟨i, -, hi⟩ := List.mem_filterMap.mp hw
  have hm : w ∈ big := by first | exact List.mem_of_getElem? hi | exact List.getElem?_mem hi
  exact ⟨hm, good_of_word h1⟩
theorem goodIn_app {big a b : List Cond} (ha : GoodIn big a) (hb : GoodIn big b) : GoodIn big (a ++ b) := fun w h => (List.mem_append.mp h).elim (ha w) (hb w)
theorem goodIn_ca {big a b : List Cond} {c : Cond} (ha : GoodIn big (c :: a)) (hb : GoodIn big b) : GoodIn big (c :: (a ++ b)) := fun w h => (List.mem_cons.mp h).elim (fun e => ha w (List.mem_cons.mpr (Or.inl e))) (fun h => (List.mem_append.mp h).elim (fun h => ha w (List.mem_cons.mpr (Or.inr h))) (hb w))
theorem goodIn_sub {big ws : List Cond} (hm : ∀ w ∈ ws, w ∈ big) (h : ws.all goodWord = true) : GoodIn big ws := fun w hw => ⟨hm w hw, good_of_word (List.all_eq_true.mp h w hw)⟩
/-! ===== END ===== -/

/-! ===== BEGIN exceptions that leave a method, and their catching by the caller (launches without stack traces) ===== -/
section VXA
/-! The laws vx_back, vx_callV, vx_callS, vx_callSW, vx_throw0, vx_throwS follow proofs of the library, with one case more: JvmDerived/Free/Laws.lean (Back.of_free), Shelf42/LK1.lean (callV, callS), Shelf/KitTraced.lean (throwNew0V, throwNewS). -/
/-- where a method has thrown q: the class by its name, the cell, what was written, the world -/
def vx_T (XC : String → State → State → Prop) (st : State) (q : Addr) (t : State) (mc ms : Nat) (free : Addr → Prop) : Prop :=
  ∃ (E : String) (ce : Cell) (L : List Loc), XC E st t ∧ t.heap[q]? = some ce ∧ ce.vm = .none ∧ st.vm.findClass E = some ce.cls ∧ st.WarmedH t.vm ∧ st.sameButNew ({ t with vm := st.vm } : State) L mc ms ∧ ∀ z ∈ L, free z.base
def vx_Q (Qc : Array Value → State → Outcome → State → Prop) (XC : String → State → State → Prop) (mc ms : Nat) (free : Addr → Prop) : Array Value → State → Outcome → State → Prop := fun a st o t =>
  (Qc a st o t ∧ ∃ L, FrameEnd st o t L mc ms ∧ ∀ q ∈ L, free q.base) ∨ ∃ q, o = .threw q ∧ vx_T XC st q t mc ms free
/-- a callee that returns or throws -/
def vx_Met (l : Launch) (y : MethodName) (ws : List Cond) (rm : Room) (Pc : Array Value → State → Prop) (Qc : Array Value → State → Outcome → State → Prop) (XC : String → State → State → Prop) (mc ms : Nat) (free : Addr → Prop) : Prop :=
  MetFree l y (headSpec ws rm) Pc (fun _ _ _ _ _ => True) (vx_Q Qc XC mc ms free)
def vx_Post (XC : String → State → State → Prop) (mc ms : Nat) (free : Addr → Prop) : Pt → Array Value → Addr → Pt → Prop := fun A a q B =>
  ∃ (g : JFrame) (mk : MethodId) (t : State) (L : List Loc) (E : String) (ce : Cell), B.U.heap = t.heap ∧ B.U.vm = t.vm ∧ XC E (A.U.calling g mk a) t ∧ t.heap[q]? = some ce ∧ ce.vm = .none ∧ A.U.vm.findClass E = some ce.cls ∧ B.locs = A.locs ++ L ∧ (∀ z ∈ L, free z.base) ∧ B.cells = A.cells + mc ∧ B.slots = A.slots + ms
def vx_Back (l : Launch) (R : Room) (p : Program) (e : Env) (below : List Frame) (s : State) (sargs : Array Value) (y : MethodName) (len W9 : Nat)
    (Pre : Pt → Array Value → Prop) (Post : Pt → Array Value → Option Value → Pt → Prop) (PostX : Pt → Array Value → Addr → Pt → Prop) : Prop :=
  ∀ (m : MethodId) (meth : Method) (c : Code) (A : Pt) (g : JFrame) (ig : Instr) (mk : MethodId) (a : Array Value),
    Stand p l e R s m sargs below meth c A.U A.locs A.cells A.slots → g.method = m → g.locals.size = c.maxLocals → decode c.code g.pc = .ok (ig, len) →
    2 * g.monitorRoom + (g.stack.map fun v => v.category).sum ≤ W9 → A.U.methodNamed? y = some mk → Pre A a →
    (∃ (v : Option Value) (B : Pt), Stand p l e R s m sargs below meth c B.U B.locs B.cells B.slots ∧ Post A a v B ∧
      Steps p.tables e below (doInvoke e (A.U.setTop g) [] mk a).1 (B.U.setTop { g with pc := g.pc + len, stack := v.toList ++ g.stack })) ∨
    (∃ (q : Addr) (B : Pt), Stand p l e R s m sargs below meth c B.U B.locs B.cells B.slots ∧ PostX A a q B ∧
      Steps p.tables e below (doInvoke e (A.U.setTop g) [] mk a).1 ((B.U.setTop g).pushFrame (.throwing q)))
section Payer
variable {l : Launch} {R : Room} {p : Program} {e : Env} {below : List Frame} {s : State} {sargs : Array Value} {y : MethodName} {len W9 : Nat}
theorem vx_back {ws : List Cond} {rm : Room} {Pc : Array Value → State → Prop} {Qc : Array Value → State → Outcome → State → Prop} {XC : String → State → State → Prop} {mc ms : Nat} {free : Addr → Prop} {bytes : ByteArray} {maxL : Nat} {ret : Option FieldType}
    (hM : vx_Met l y ws rm Pc Qc XC mc ms free) (hblind : FrameBlind Pc) (hrc : rm.cells = mc) (hrs : rm.slots = ms)
    (hframes : rm.frames + 1 ≤ R.frames) (hlocals : W9 + (maxL + 11) + rm.locals ≤ R.locals)
    (hws : ∀ w ∈ ws, ∀ a' U, s.WarmedH U.vm → w.before a' U = true) (hcode : Cond.code y bytes maxL ret ∈ ws) (hinit : ∀ a' U, s.WarmedH U.vm → (Cond.initialized y.cls).before a' U = true) :
    vx_Back l R p e below s sargs y len W9 (PreOf R mc ms Pc) (PostOf Qc mc ms free) (vx_Post XC mc ms free) := by
  intro m meth c A g ig mk a X hg hsize hdg hW hn hp
  have h1 : (headSpec ws rm).pre.before a A.U = true := atoms_intro fun w hw => hws w hw _ _ X.warmed
  have h2 : (Cond.code y bytes maxL ret).before a A.U = true := hws _ hcode _ _ X.warmed
  have h3 : (Cond.initialized y.cls).before a A.U = true := hinit _ _ X.warmed
  have h4 : A.cells + (headSpec ws rm).room.cells ≤ R.cells := by rw [show (headSpec ws rm).room.cells = mc from hrc]; exact hp.1
  have h5 : A.slots + (headSpec ws rm).room.slots ≤ R.slots := by rw [show (headSpec ws rm).room.slots = ms from hrs]; exact hp.2.1
  have hPc : Pc a (A.U.calling g mk a) := hblind _ _ _ _ hp.2.2
  obtain ⟨U, Ls, c0, s0⟩ := A
  dsimp only [Pt.U, Pt.locs, Pt.cells, Pt.slots] at h1 h2 h3 h4 h5 X hn hPc ⊢
  obtain ⟨methY, cY, hmY, hcY, -, hlY, -, -, -, -⟩ := Cond.code_spec hn h2
  obtain ⟨kY, hkY, -⟩ := className_of_methodNamed hn
  have hinitY : kY.init = .initialized := Cond.initialized_spec (findClass_of_methodNamed hn) hkY h3
  have h : At U g.method c below := by rw [hg]; exact X.here
  have hlocals9 : W9 + (maxL + 11) + (headSpec ws rm).room.locals ≤ R.locals := hlocals
  have happ : (headSpec ws rm).appliesLoose y e.platform (U.calling g mk a) = true :=
    Spec.appliesLoose_calling (g := g) h hdg hn hkY hinitY
      (X.room_calling (g := g) (R' := (headSpec ws rm).room) hsize hmY hcY hframes (by rw [hlY]; omega) h4 h5) h1
  obtain ⟨mid, hmid⟩ := h.above
  have hfr : (U.setTop g).frames = (.java g :: mid) ++ below := by rw [State.frames_setTop' g h.top, hmid]; rfl
  obtain ⟨o, s₂, hsteps, -, hend, hq⟩ := Steps.callFree hM p X.admits X.cas X.clock (acts := []) hfr happ hPc trivial
  have hq' : vx_Q Qc XC mc ms free a (U.calling g mk a) o s₂ := hq
  rw [State.frames_setTop' g h.top] at hend
  obtain ⟨g₀, hg0⟩ := Option.isSome_iff_exists.mp h.top
  obtain ⟨r, hr⟩ := State.topJava?_eq_some.mp hg0
  have hr' : (({ U with heap := s₂.heap, slotsUsed := s₂.slotsUsed } : State).setVm s₂.vm).frames = .java g₀ :: r := hr
  rcases hq' with ⟨hqc, L, hfe, hL⟩ | ⟨q, rfl, E, ce, L, hx, hce, hcv, hcl, hW₂, hsm, hL⟩
  · obtain ⟨⟨v, rfl⟩, hW₂, e2, q2, q3, q4, q5, q6⟩ := id hfe
    have e3 : s₂ = ({ (U.calling g mk a).setFrames s₂.frames with heap := s₂.heap, slotsUsed := s₂.slotsUsed } : State).setVm s₂.vm := by
      have : s₂ = ({ s₂ with vm := (U.calling g mk a).vm } : State).setVm s₂.vm := rfl
      rw [e2] at this
      exact this
    obtain ⟨c₂, i₂, len₂, hc₂, hd₂, hf₂⟩ := hend
    have hW' : U.WarmedH s₂.vm := hW₂
    have hcc : c₂ = c := by
      have h1 : s₂.code? g.method = U.code? g.method := by
        rw [State.code?_eq, State.code?_eq, hW'.alike.method?]
      exact Option.some.inj (hc₂.symm.trans (h1.trans h.code))
    subst hcc
    have hlen : len₂ = len := by rw [hdg] at hd₂; cases hd₂; rfl
    subst hlen
    have hs₂ : s₂ = (({ U with heap := s₂.heap, slotsUsed := s₂.slotsUsed } : State).setVm s₂.vm).setTop { g with pc := g.pc + len₂, stack := v.toList ++ g.stack } := by
      refine e3.trans ?_
      rw [hf₂, State.calling_eq h.top, State.setFrames_setFrames, State.setTop_of_frames _ hr', hr]
      rfl
    have hsame : U.sameButNew ({ U with heap := s₂.heap, slotsUsed := s₂.slotsUsed } : State) L mc ms := by
      refine ⟨?_, q2, q3, q4, q5, q6⟩
      obtain ⟨t, ht, -⟩ := State.frames_cons hr
      show ({ U with heap := s₂.heap, slotsUsed := s₂.slotsUsed } : State) = { U.setFrames U.frames with heap := s₂.heap, slotsUsed := s₂.slotsUsed }
      rw [State.setFrames_self ht]
    subst hg
    refine Or.inl ⟨v, ⟨(({ U with heap := s₂.heap, slotsUsed := s₂.slotsUsed } : State).setVm s₂.vm), Ls ++ L, c0 + mc, s0 + ms⟩,
      ⟨X.admits, X.cas, X.clock, X.frames, X.room, X.hears, X.method, X.code, (X.here.setHeapUsed s₂.heap s₂.slotsUsed).setVm hW'.alike, X.tail, State.WarmedH.trans X.warmed hW', X.limits, X.bytes, X.same.trans (hsame.setVm s.vm)⟩,
      ⟨g, mk, s₂, L, rfl, rfl, hqc, rfl, hL, rfl, rfl⟩, ?_⟩
    show Steps p.tables e below _ ((({ U with heap := s₂.heap, slotsUsed := s₂.slotsUsed } : State).setVm s₂.vm).setTop { g with pc := g.pc + len₂, stack := v.toList ++ g.stack })
    rw [← hs₂]
    exact hsteps
  · obtain ⟨e2, q2, q3, q4, q5, q6⟩ := id hsm
    have e3 : s₂ = ({ (U.calling g mk a).setFrames s₂.frames with heap := s₂.heap, slotsUsed := s₂.slotsUsed } : State).setVm s₂.vm := by
      have : s₂ = ({ s₂ with vm := (U.calling g mk a).vm } : State).setVm s₂.vm := rfl
      rw [e2] at this
      exact this
    have hf₂ : s₂.frames = .throwing q :: .java g :: U.frames.tail := hend
    have hW' : U.WarmedH s₂.vm := hW₂
    have hs₂ : s₂ = ((({ U with heap := s₂.heap, slotsUsed := s₂.slotsUsed } : State).setVm s₂.vm).setTop g).pushFrame (.throwing q) := by
      refine e3.trans ?_
      rw [hf₂, State.calling_eq h.top, State.setFrames_setFrames, State.pushFrame, State.frames_setTop _ hr', State.setTop_of_frames _ hr', State.setFrames_setFrames, hr]
      rfl
    have hsame : U.sameButNew ({ U with heap := s₂.heap, slotsUsed := s₂.slotsUsed } : State) L mc ms := by
      refine ⟨?_, q2, q3, q4, q5, q6⟩
      obtain ⟨t, ht, -⟩ := State.frames_cons hr
      show ({ U with heap := s₂.heap, slotsUsed := s₂.slotsUsed } : State) = { U.setFrames U.frames with heap := s₂.heap, slotsUsed := s₂.slotsUsed }
      rw [State.setFrames_self ht]
    subst hg
    refine Or.inr ⟨q, ⟨(({ U with heap := s₂.heap, slotsUsed := s₂.slotsUsed } : State).setVm s₂.vm), Ls ++ L, c0 + mc, s0 + ms⟩,
      ⟨X.admits, X.cas, X.clock, X.frames, X.room, X.hears, X.method, X.code, (X.here.setHeapUsed s₂.heap s₂.slotsUsed).setVm hW'.alike, X.tail, State.WarmedH.trans X.warmed hW', X.limits, X.bytes, X.same.trans (hsame.setVm s.vm)⟩,
      ⟨g, mk, s₂, L, E, ce, rfl, rfl, hx, hce, hcv, hcl, rfl, hL, rfl, rfl⟩, ?_⟩
    show Steps p.tables e below _ (((({ U with heap := s₂.heap, slotsUsed := s₂.slotsUsed } : State).setVm s₂.vm).setTop g).pushFrame (.throwing q))
    rw [← hs₂]
    exact hsteps
end Payer
section Calls
variable {p : Program} {l : Launch} {e : Env} {R : Room} {s : State} {m : MethodId} {args : Array Value} {below : List Frame} {meth : Method} {c : Code} {T : State} {locs : List Loc} {cells slots : Nat}
theorem vx_callV (X : Stand p l e R s m args below meth c T locs cells slots) (hexec : p.tables.exec = Jvm.exec) {own C : String} {index : Nat} {y : MethodName} {bytes : ByteArray} {maxL : Nat} {ret : Option FieldType}
    (hown : s.vm.findClass own = some m.cls) (hlink : (Cond.methodLink own index y).before args s = true) (hinst : (Cond.instanceMethod y).before args s = true) (hsel : (Cond.selects C y y).before args s = true)
    (hcode : (Cond.code y bytes maxL ret).before args s = true) (hy : y.cls ≠ "java/lang/invoke/MethodHandle" ∧ y.cls ≠ "java/lang/invoke/VarHandle")
    {W9 : Nat} {Pre : Pt → Array Value → Prop} {Post : Pt → Array Value → Option Value → Pt → Prop} {PostX : Pt → Array Value → Addr → Pt → Prop} (hK : vx_Back l R p e below s args y 3 W9 Pre Post PostX)
    {b : Addr} {cellB : Cell} (hcell : T.heap[b]? = some cellB) (hobj : cellB.vm.isStatics = false) (hcls : s.vm.findClass C = some cellB.cls)
    {g : JFrame} (hg : g.method = m) (hsize : g.locals.size = c.maxLocals) {argsL rest : List Value} (hlen : ∀ sig, parseMethodDescriptor y.desc = some sig → argsL.length = sig.parameters.length)
    (hstack : g.stack = argsL.reverse ++ .ref b :: rest) (hW : 2 * g.monitorRoom + (rest.map fun v => v.category).sum ≤ W9) (hdg : decode c.code g.pc = .ok (.invokevirtual index, 3))
    (hpre : ∀ vm₁, s.WarmedH vm₁ → Pre ⟨T.setVm vm₁, locs, cells, slots⟩ (Value.ref b :: argsL).toArray) :
    (∃ (v : Option Value) (vm₁ : Vm) (B : Pt), s.WarmedH vm₁ ∧ Stand p l e R s m args below meth c B.U B.locs B.cells B.slots ∧ Post ⟨T.setVm vm₁, locs, cells, slots⟩ (Value.ref b :: argsL).toArray v B ∧
      ∀ target, Steps p.tables e below (B.U.setTop { g with pc := g.pc + 3, stack := v.toList ++ rest }) target → Steps p.tables e below (T.setTop g) target) ∨
    (∃ (q : Addr) (vm₁ : Vm) (B : Pt), s.WarmedH vm₁ ∧ Stand p l e R s m args below meth c B.U B.locs B.cells B.slots ∧ PostX ⟨T.setVm vm₁, locs, cells, slots⟩ (Value.ref b :: argsL).toArray q B ∧
      Steps p.tables e below (T.setTop g) ((B.U.setTop { g with stack := rest }).pushFrame (.throwing q))) := by
  obtain ⟨mk, methM, hnamed, hmethM, hstM, habM⟩ := Cond.instanceMethod_spec hinst
  obtain ⟨methM', cM, hmethM', -, -, -, -, -, -, hsigM⟩ := Cond.code_spec hnamed hcode
  cases hmethM.symm.trans hmethM'
  obtain ⟨c2, r2, m2, q1, q2, q3, q4, kP, hkP, hkPi⟩ := Cond.selects_spec hsel
  cases hcls.symm.trans q1
  cases (State.methodFound?_of_named hnamed hy).symm.trans q2
  cases hnamed.symm.trans q3
  have hselP : selectMethod e.platform s.vm cellB.cls mk = .method mk := by rw [Launch.admits_selectMethod X.admits]; exact q4
  obtain ⟨vm₁, X₁, hstep₁⟩ := X.invokevirtual hexec hown hlink hnamed hmethM hstM hkP hkPi hy (a := b) (cell := cellB) hcell
    (fun z h => by rw [h] at hobj; cases hobj) hselP hmethM habM hkP hkPi (g := g) hg (argsL := argsL) (rest := rest) (hlen _ hsigM) hstack hdg
  rcases hK m meth c ⟨T.setVm vm₁, locs, cells, slots⟩ { g with stack := rest } (.invokevirtual index) mk (Value.ref b :: argsL).toArray X₁ hg hsize hdg hW (X₁.named hnamed) (hpre vm₁ X₁.warmed) with ⟨v, B, X', hpost, hsteps⟩ | ⟨q, B, X', hpost, hsteps⟩
  · exact Or.inl ⟨v, vm₁, B, X₁.warmed, X', hpost, fun target h => hstep₁ _ fun acts => by rw [doInvoke_state]; exact hsteps.trans h⟩
  · exact Or.inr ⟨q, vm₁, B, X₁.warmed, X', hpost, hstep₁ _ fun acts => by rw [doInvoke_state]; exact hsteps⟩
theorem vx_callS (X : Stand p l e R s m args below meth c T locs cells slots) (hexec : p.tables.exec = Jvm.exec) {own : String} {index : Nat} {y : MethodName} {bytes : ByteArray} {maxL : Nat} {ret : Option FieldType}
    (hown : s.vm.findClass own = some m.cls) (hlink : (Cond.methodLink own index y).before args s = true) (hstat : (Cond.static y).before args s = true) (hinit : (Cond.initialized y.cls).before args s = true)
    (hcode : (Cond.code y bytes maxL ret).before args s = true) (hy : y.cls ≠ "java/lang/invoke/MethodHandle" ∧ y.cls ≠ "java/lang/invoke/VarHandle")
    {W9 : Nat} {Pre : Pt → Array Value → Prop} {Post : Pt → Array Value → Option Value → Pt → Prop} {PostX : Pt → Array Value → Addr → Pt → Prop} (hK : vx_Back l R p e below s args y 3 W9 Pre Post PostX)
    {g : JFrame} (hg : g.method = m) (hsize : g.locals.size = c.maxLocals) {argsL rest : List Value} (hlen : ∀ sig, parseMethodDescriptor y.desc = some sig → argsL.length = sig.parameters.length)
    (hstack : g.stack = argsL.reverse ++ rest) (hW : 2 * g.monitorRoom + (rest.map fun v => v.category).sum ≤ W9) (hdg : decode c.code g.pc = .ok (.invokestatic index, 3))
    (hpre : ∀ vm₁, s.WarmedH vm₁ → Pre ⟨T.setVm vm₁, locs, cells, slots⟩ argsL.toArray) :
    (∃ (v : Option Value) (vm₁ : Vm) (B : Pt), s.WarmedH vm₁ ∧ Stand p l e R s m args below meth c B.U B.locs B.cells B.slots ∧ Post ⟨T.setVm vm₁, locs, cells, slots⟩ argsL.toArray v B ∧
      ∀ target, Steps p.tables e below (B.U.setTop { g with pc := g.pc + 3, stack := v.toList ++ rest }) target → Steps p.tables e below (T.setTop g) target) ∨
    (∃ (q : Addr) (vm₁ : Vm) (B : Pt), s.WarmedH vm₁ ∧ Stand p l e R s m args below meth c B.U B.locs B.cells B.slots ∧ PostX ⟨T.setVm vm₁, locs, cells, slots⟩ argsL.toArray q B ∧
      Steps p.tables e below (T.setTop g) ((B.U.setTop { g with stack := rest }).pushFrame (.throwing q))) := by
  obtain ⟨mk, hnamed⟩ := Cond.code_named hcode
  obtain ⟨methM, cM, hmethM, -, -, -, -, -, -, hsigM⟩ := Cond.code_spec hnamed hcode
  have hstatic : methM.isStatic = true := Cond.static_spec hnamed hmethM hstat
  obtain ⟨kP, hkP, -⟩ := className_of_methodNamed hnamed
  have hinitP : kP.init = .initialized := Cond.initialized_spec (findClass_of_methodNamed hnamed) hkP hinit
  obtain ⟨vm₁, X₁, hstep₁⟩ := X.invokestatic hexec hown hlink hnamed hmethM hstatic hkP hinitP hy (g := g) hg (argsL := argsL) (rest := rest) (hlen _ hsigM) hstack hdg
  rcases hK m meth c ⟨T.setVm vm₁, locs, cells, slots⟩ { g with stack := rest } (.invokestatic index) mk argsL.toArray X₁ hg hsize hdg hW (X₁.named hnamed) (hpre vm₁ X₁.warmed) with ⟨v, B, X', hpost, hsteps⟩ | ⟨q, B, X', hpost, hsteps⟩
  · exact Or.inl ⟨v, vm₁, B, X₁.warmed, X', hpost, fun target h => hstep₁ _ fun acts => by rw [doInvoke_state]; exact hsteps.trans h⟩
  · exact Or.inr ⟨q, vm₁, B, X₁.warmed, X', hpost, hstep₁ _ fun acts => by rw [doInvoke_state]; exact hsteps⟩
end Calls
theorem vx_cls {s : State} {T : State} {vm₁ : Vm} {E : String} {k : ClassId} (hW : s.WarmedH vm₁) (h : (T.setVm vm₁).vm.findClass E = some k) : s.vm.findClass E = some k := by
  have h1 : vm₁.findClass E = some k := h
  rw [hW.alike.findClass] at h1
  exact h1
/-- the method's frame g, with q thrown over it -/
def vx_W (p : Program) (l : Launch) (e : Env) (R : Room) (s : State) (m : MethodId) (args : Array Value) (below : List Frame) (meth : Method) (c : Code) (H : Heap) (locs : List Loc) (cells slots : Nat) (Q : State → Prop) (g : JFrame) (q : Addr) : Prop :=
  ∀ T : State, T.heap = H → Stand p l e R s m args below meth c T locs cells slots → ∃ t, Steps p.tables e below ((T.setTop g).pushFrame (.throwing q)) t ∧ Q t
def vx_Run (p : Program) (l : Launch) (e : Env) (R : Room) (s : State) (m : MethodId) (args : Array Value) (below : List Frame) (meth : Method) (c : Code) (H : Heap) (locs : List Loc) (cells slots mc ms : Nat) (g : JFrame) (rest : List Value) (Qa : State → Outcome → State → Prop) (XC : String → State → State → Prop) (free : Addr → Prop) : Prop :=
  ∀ T : State, T.heap = H → Stand p l e R s m args below meth c T locs cells slots →
    (∃ (v : Option Value) (st₀ t T' : State) (L : List Loc), st₀.heap = H ∧ Stand p l e R s m args below meth c T' (locs ++ L) (cells + mc) (slots + ms) ∧ (∀ q ∈ L, free q.base) ∧ T'.heap = t.heap ∧ T'.vm = t.vm ∧ Qa st₀ (.returned v) t ∧
      Goes p e below T g T' { g with pc := g.pc + 3, stack := v.toList ++ rest }) ∨
    (∃ (q : Addr) (st₀ t T' : State) (L : List Loc) (E : String) (ce : Cell), st₀.heap = H ∧ Stand p l e R s m args below meth c T' (locs ++ L) (cells + mc) (slots + ms) ∧ (∀ z ∈ L, free z.base) ∧ T'.heap = t.heap ∧ T'.vm = t.vm ∧ XC E st₀ t ∧ t.heap[q]? = some ce ∧ ce.vm = .none ∧ s.vm.findClass E = some ce.cls ∧
      Steps p.tables e below (T.setTop g) ((T'.setTop { g with stack := rest }).pushFrame (.throwing q)))
def vx_X {S : Type} (px : S → Prop) (B : String → S → State → Prop) (A : Nat → Prop) : String → State → State → Prop := fun E st t => ∃ u : S, px u ∧ B E u t ∧ va_F A st t
section Runs
variable {p : Program} {l : Launch} {e : Env} {R : Room} {s : State} {m : MethodId} {args : Array Value} {below : List Frame} {meth : Method} {c : Code} {H : Heap} {locs : List Loc} {cells slots : Nat}
variable {y : MethodName} {bytes cc : ByteArray} {maxL nL mc ms n index : Nat} {ret : Option FieldType} {ws : List Cond} {rm : Room} {Pc : Array Value → State → Prop} {Qc : Array Value → State → Outcome → State → Prop} {XC : String → State → State → Prop} {free : Addr → Prop} {Ts : List Cond} {own C : String} {b : Addr} {As rest : List Value} {g : JFrame}
theorem vx_callBack (cb : CallB R s args own index y bytes maxL ret ws rm mc ms n) (hM : vx_Met l y ws rm Pc Qc XC mc ms free) (hbl : FrameBlind Pc) : vx_Back l R p e below s args y 3 8 (PreOf R mc ms Pc) (PostOf Qc mc ms free) (vx_Post XC mc ms free) := by
  obtain ⟨hrc, hrs, hfr, hlo, hws, hcw, -, hini, -⟩ := cb
  exact vx_back (bytes := bytes) (maxL := maxL) (ret := ret) hM hbl hrc hrs hfr hlo hws hcw (fun a' U hW => word_at hW (Or.inl (by first | rfl | simp [Cond.onTables, Cond.keeps, Cond.steady])) hini)
theorem vx_runV (S : CallFix p m c cc nL s args Ts own) (hM : vx_Met l y ws rm Pc Qc XC mc ms free) (cw : CallW R s args own C index y bytes maxL ret ws rm mc ms n) (hp : PreV s H C b Pc As)
    (hg : g.method = m) (hn : As.length = n) (hsize : g.locals.size = nL) (hstack : g.stack = As.reverse ++ .ref b :: rest) (hW : 2 * g.monitorRoom + (rest.map fun v => v.category).sum ≤ 8) (hdg : decode cc g.pc = .ok (.invokevirtual index, 3)) (hf : cells + mc ≤ R.cells ∧ slots + ms ≤ R.slots) :
    vx_Run p l e R s m args below meth c H locs cells slots mc ms g rest (Qc (Value.ref b :: As).toArray) XC free := by
  have hK : vx_Back l R p e below s args y 3 8 (PreOf R mc ms Pc) (PostOf Qc mc ms free) (vx_Post XC mc ms free) := vx_callBack cw.1 hM hp.1
  obtain ⟨⟨-, -, -, -, -, -, hcode, -, hy, hlen, hl⟩, hin, hse⟩ := cw
  obtain ⟨hx, hb, hml, ho, -⟩ := S
  obtain ⟨-, ⟨cellB, hcB, hoB, hclB⟩, hPc⟩ := hp
  intro T hT X
  rcases vx_callV X hx (C := C) (bytes := bytes) (maxL := maxL) (ret := ret) ho hl hin hse hcode hy hK (by rw [hT]; exact hcB) hoB hclB hg (hsize.trans hml.symm) (argsL := As) (rest := rest) (fun sig h => hn.trans (hlen sig h)) hstack hW (by rw [hb]; exact hdg)
    (fun vm₁ hW₁ => ⟨hf.1, hf.2, hPc (T.setVm vm₁) hT hW₁⟩) with ⟨v, vm₁, ⟨U', l2, c2, s2⟩, hW₁, X', ⟨g', mk, t, L, e1, e2, hq, h1, hL, h2, h3⟩, st⟩ | ⟨q, vm₁, ⟨U', l2, c2, s2⟩, hW₁, X', ⟨g', mk, t, L, E, ce, e1, e2, hq, hce, hcv, hcl, h1, hL, h2, h3⟩, st⟩
  · dsimp only [Pt.U, Pt.locs, Pt.cells, Pt.slots] at X' e1 e2 h1 h2 h3 st
    subst h1; subst h2; subst h3
    exact Or.inl ⟨v, (T.setVm vm₁).calling g' mk (Value.ref b :: As).toArray, t, U', L, hT, X', hL, e1, e2, hq, st⟩
  · dsimp only [Pt.U, Pt.locs, Pt.cells, Pt.slots] at X' e1 e2 h1 h2 h3 st hcl
    subst h1; subst h2; subst h3
    exact Or.inr ⟨q, (T.setVm vm₁).calling g' mk (Value.ref b :: As).toArray, t, U', L, E, ce, hT, X', hL, e1, e2, hq, hce, hcv, vx_cls hW₁ hcl, st⟩
theorem vx_runS (S : CallFix p m c cc nL s args Ts own) (hM : vx_Met l y ws rm Pc Qc XC mc ms free) (cw : CallB R s args own index y bytes maxL ret ws rm mc ms n ∧ (Cond.static y).before args s = true) (hp : PreS s H Pc As)
    (hg : g.method = m) (hn : As.length = n) (hsize : g.locals.size = nL) (hstack : g.stack = As.reverse ++ rest) (hW : 2 * g.monitorRoom + (rest.map fun v => v.category).sum ≤ 8) (hdg : decode cc g.pc = .ok (.invokestatic index, 3)) (hf : cells + mc ≤ R.cells ∧ slots + ms ≤ R.slots) :
    vx_Run p l e R s m args below meth c H locs cells slots mc ms g rest (Qc As.toArray) XC free := by
  have hK : vx_Back l R p e below s args y 3 8 (PreOf R mc ms Pc) (PostOf Qc mc ms free) (vx_Post XC mc ms free) := vx_callBack cw.1 hM hp.1
  obtain ⟨⟨-, -, -, -, -, -, hcode, hini, hy, hlen, hl⟩, hstt⟩ := cw
  obtain ⟨hx, hb, hml, ho, -⟩ := S
  intro T hT X
  rcases vx_callS X hx (bytes := bytes) (maxL := maxL) (ret := ret) ho hl hstt hini hcode hy hK hg (hsize.trans hml.symm) (argsL := As) (rest := rest) (fun sig h => hn.trans (hlen sig h)) hstack hW (by rw [hb]; exact hdg)
    (fun vm₁ hW₁ => ⟨hf.1, hf.2, hp.2 (T.setVm vm₁) hT hW₁⟩) with ⟨v, vm₁, ⟨U', l2, c2, s2⟩, hW₁, X', ⟨g', mk, t, L, e1, e2, hq, h1, hL, h2, h3⟩, st⟩ | ⟨q, vm₁, ⟨U', l2, c2, s2⟩, hW₁, X', ⟨g', mk, t, L, E, ce, e1, e2, hq, hce, hcv, hcl, h1, hL, h2, h3⟩, st⟩
  · dsimp only [Pt.U, Pt.locs, Pt.cells, Pt.slots] at X' e1 e2 h1 h2 h3 st
    subst h1; subst h2; subst h3
    exact Or.inl ⟨v, (T.setVm vm₁).calling g' mk As.toArray, t, U', L, hT, X', hL, e1, e2, hq, st⟩
  · dsimp only [Pt.U, Pt.locs, Pt.cells, Pt.slots] at X' e1 e2 h1 h2 h3 st hcl
    subst h1; subst h2; subst h3
    exact Or.inr ⟨q, (T.setVm vm₁).calling g' mk As.toArray, t, U', L, E, ce, hT, X', hL, e1, e2, hq, hce, hcv, vx_cls hW₁ hcl, st⟩
end Runs
section Rows
variable {p : Program} {l : Launch} {e : Env} {R : Room} {s : State} {m : MethodId} {args : Array Value} {below : List Frame} {meth : Method} {c : Code} {H : Heap} {locs : List Loc} {cells slots : Nat} {Q : State → Prop}
variable {mc ms : Nat} {free : Addr → Prop} {A0 A1 : Nat → Prop} {H0 : Heap} {a : Array Value} {pc : Nat} {ls : Array Slot} {st0 rest : List Value}
theorem vx_keep {st₀ t T' : State} {L : List Loc} (h0 : st₀.heap = H) (e1 : T'.heap = t.heap) (hS : va_S A0 H0 H locs) (hA : ∀ q, q < H.size → A1 q → A0 q) (hf : ∀ q, free q → A0 q) (hL : ∀ q ∈ L, free q.base) (hF : va_F A1 st₀ t) :
    H.size ≤ T'.heap.size ∧ (∀ q : Nat, q < H.size → ¬ A1 q → T'.heap[q]? = H[q]?) ∧ va_S A0 H0 T'.heap (locs ++ L) := by
  obtain ⟨hz, hk⟩ := hF
  rw [h0] at hz hk
  exact ⟨by rw [e1]; exact hz, fun q h1 h2 => by rw [e1]; exact hk q h1 h2,
    ⟨Nat.le_trans hS.1 (by rw [e1]; exact hz), fun q h1 h2 => by rw [e1, hk q (Nat.lt_of_lt_of_le h1 hS.1) (fun z => h2 (hA q (Nat.lt_of_lt_of_le h1 hS.1) z))]; exact hS.2.1 q h1 h2, fun q hq => by
      rcases List.mem_append.mp hq with h | h
      · exact hS.2.2 q h
      · exact hf _ (hL q h)⟩⟩
theorem vx_calli {S SX : Type} {post : Int32 → S → Prop} {px : SX → Prop} {B : S → State → Prop} {BX : String → SX → State → Prop} {AX : Nat → Prop} (hr : vx_Run p l e R s m args below meth c H locs cells slots mc ms (F0 m pc ls st0) rest (va_Qi post B A1 a) (vx_X px BX AX) free) (hS : va_S A0 H0 H locs) (hA : ∀ q, q < H.size → A1 q → A0 q) (hf : ∀ q, free q → A0 q) (hAX : ∀ q, q < H.size → AX q → A0 q)
    (kx : ∀ (E : String) (ce : Cell) (q9 : Addr) (u : SX) (t : State) (H1 : Heap) (locs1 : List Loc), t.heap = H1 → s.vm.Alike t.vm → px u → BX E u t → H.size ≤ H1.size → (∀ q : Nat, q < H.size → ¬ AX q → H1[q]? = H[q]?) → va_S A0 H0 H1 locs1 → H1[q9]? = some ce → ce.vm = .none → s.vm.findClass E = some ce.cls → vx_W p l e R s m args below meth c H1 locs1 (cells + mc) (slots + ms) Q (F0 m pc ls rest) q9)
    (kk : ∀ (r : Int32) (u : S) (t : State) (H1 : Heap) (locs1 : List Loc), t.heap = H1 → s.vm.Alike t.vm → post r u → B u t → H.size ≤ H1.size → (∀ q : Nat, q < H.size → ¬ A1 q → H1[q]? = H[q]?) → va_S A0 H0 H1 locs1 → W p l e R s m args below meth c H1 locs1 (cells + mc) (slots + ms) Q (F0 m (pc + 3) ls (.int r :: rest))) : W p l e R s m args below meth c H locs cells slots Q (F0 m pc ls st0) := by
  intro T hT X
  rcases hr T hT X with ⟨v, st₀, t, T', L, h0, X', hL, e1, e2, ⟨⟨r, u, hv, hp, hb⟩, hF⟩, st⟩ | ⟨q, st₀, t, T', L, E, ce, h0, X', hL, e1, e2, ⟨u, hp, hb, hF⟩, hce, hcv, hcl, st⟩
  · cases hv
    obtain ⟨k1, k2, k3⟩ := vx_keep h0 e1 hS hA hf hL hF
    obtain ⟨t2, a1, b1⟩ := kk r u t T'.heap (locs ++ L) e1.symm (by rw [← e2]; exact X'.warmed.alike) hp hb k1 k2 k3 T' rfl X'
    exact ⟨t2, st t2 a1, b1⟩
  · obtain ⟨k1, k2, k3⟩ := vx_keep h0 e1 hS hAX hf hL hF
    obtain ⟨t2, a1, b1⟩ := kx E ce q u t T'.heap (locs ++ L) e1.symm (by rw [← e2]; exact X'.warmed.alike) hp hb k1 k2 k3 (by rw [e1]; exact hce) hcv hcl T' rfl X'
    exact ⟨t2, st.trans a1, b1⟩
theorem vx_calll {S SX : Type} {post : Int64 → S → Prop} {px : SX → Prop} {B : S → State → Prop} {BX : String → SX → State → Prop} {AX : Nat → Prop} (hr : vx_Run p l e R s m args below meth c H locs cells slots mc ms (F0 m pc ls st0) rest (va_Ql post B A1 a) (vx_X px BX AX) free) (hS : va_S A0 H0 H locs) (hA : ∀ q, q < H.size → A1 q → A0 q) (hf : ∀ q, free q → A0 q) (hAX : ∀ q, q < H.size → AX q → A0 q)
    (kx : ∀ (E : String) (ce : Cell) (q9 : Addr) (u : SX) (t : State) (H1 : Heap) (locs1 : List Loc), t.heap = H1 → s.vm.Alike t.vm → px u → BX E u t → H.size ≤ H1.size → (∀ q : Nat, q < H.size → ¬ AX q → H1[q]? = H[q]?) → va_S A0 H0 H1 locs1 → H1[q9]? = some ce → ce.vm = .none → s.vm.findClass E = some ce.cls → vx_W p l e R s m args below meth c H1 locs1 (cells + mc) (slots + ms) Q (F0 m pc ls rest) q9)
    (kk : ∀ (r : Int64) (u : S) (t : State) (H1 : Heap) (locs1 : List Loc), t.heap = H1 → s.vm.Alike t.vm → post r u → B u t → H.size ≤ H1.size → (∀ q : Nat, q < H.size → ¬ A1 q → H1[q]? = H[q]?) → va_S A0 H0 H1 locs1 → W p l e R s m args below meth c H1 locs1 (cells + mc) (slots + ms) Q (F0 m (pc + 3) ls (.long r :: rest))) : W p l e R s m args below meth c H locs cells slots Q (F0 m pc ls st0) := by
  intro T hT X
  rcases hr T hT X with ⟨v, st₀, t, T', L, h0, X', hL, e1, e2, ⟨⟨r, u, hv, hp, hb⟩, hF⟩, st⟩ | ⟨q, st₀, t, T', L, E, ce, h0, X', hL, e1, e2, ⟨u, hp, hb, hF⟩, hce, hcv, hcl, st⟩
  · cases hv
    obtain ⟨k1, k2, k3⟩ := vx_keep h0 e1 hS hA hf hL hF
    obtain ⟨t2, a1, b1⟩ := kk r u t T'.heap (locs ++ L) e1.symm (by rw [← e2]; exact X'.warmed.alike) hp hb k1 k2 k3 T' rfl X'
    exact ⟨t2, st t2 a1, b1⟩
  · obtain ⟨k1, k2, k3⟩ := vx_keep h0 e1 hS hAX hf hL hF
    obtain ⟨t2, a1, b1⟩ := kx E ce q u t T'.heap (locs ++ L) e1.symm (by rw [← e2]; exact X'.warmed.alike) hp hb k1 k2 k3 (by rw [e1]; exact hce) hcv hcl T' rfl X'
    exact ⟨t2, st.trans a1, b1⟩
theorem vx_callf {S SX : Type} {post : UInt32 → S → Prop} {px : SX → Prop} {B : S → State → Prop} {BX : String → SX → State → Prop} {AX : Nat → Prop} (hr : vx_Run p l e R s m args below meth c H locs cells slots mc ms (F0 m pc ls st0) rest (va_Qf post B A1 a) (vx_X px BX AX) free) (hS : va_S A0 H0 H locs) (hA : ∀ q, q < H.size → A1 q → A0 q) (hf : ∀ q, free q → A0 q) (hAX : ∀ q, q < H.size → AX q → A0 q)
    (kx : ∀ (E : String) (ce : Cell) (q9 : Addr) (u : SX) (t : State) (H1 : Heap) (locs1 : List Loc), t.heap = H1 → s.vm.Alike t.vm → px u → BX E u t → H.size ≤ H1.size → (∀ q : Nat, q < H.size → ¬ AX q → H1[q]? = H[q]?) → va_S A0 H0 H1 locs1 → H1[q9]? = some ce → ce.vm = .none → s.vm.findClass E = some ce.cls → vx_W p l e R s m args below meth c H1 locs1 (cells + mc) (slots + ms) Q (F0 m pc ls rest) q9)
    (kk : ∀ (r : UInt32) (u : S) (t : State) (H1 : Heap) (locs1 : List Loc), t.heap = H1 → s.vm.Alike t.vm → post r u → B u t → H.size ≤ H1.size → (∀ q : Nat, q < H.size → ¬ A1 q → H1[q]? = H[q]?) → va_S A0 H0 H1 locs1 → W p l e R s m args below meth c H1 locs1 (cells + mc) (slots + ms) Q (F0 m (pc + 3) ls (.float r :: rest))) : W p l e R s m args below meth c H locs cells slots Q (F0 m pc ls st0) := by
  intro T hT X
  rcases hr T hT X with ⟨v, st₀, t, T', L, h0, X', hL, e1, e2, ⟨⟨r, u, hv, hp, hb⟩, hF⟩, st⟩ | ⟨q, st₀, t, T', L, E, ce, h0, X', hL, e1, e2, ⟨u, hp, hb, hF⟩, hce, hcv, hcl, st⟩
  · cases hv
    obtain ⟨k1, k2, k3⟩ := vx_keep h0 e1 hS hA hf hL hF
    obtain ⟨t2, a1, b1⟩ := kk r u t T'.heap (locs ++ L) e1.symm (by rw [← e2]; exact X'.warmed.alike) hp hb k1 k2 k3 T' rfl X'
    exact ⟨t2, st t2 a1, b1⟩
  · obtain ⟨k1, k2, k3⟩ := vx_keep h0 e1 hS hAX hf hL hF
    obtain ⟨t2, a1, b1⟩ := kx E ce q u t T'.heap (locs ++ L) e1.symm (by rw [← e2]; exact X'.warmed.alike) hp hb k1 k2 k3 (by rw [e1]; exact hce) hcv hcl T' rfl X'
    exact ⟨t2, st.trans a1, b1⟩
theorem vx_calld {S SX : Type} {post : UInt64 → S → Prop} {px : SX → Prop} {B : S → State → Prop} {BX : String → SX → State → Prop} {AX : Nat → Prop} (hr : vx_Run p l e R s m args below meth c H locs cells slots mc ms (F0 m pc ls st0) rest (va_Qd post B A1 a) (vx_X px BX AX) free) (hS : va_S A0 H0 H locs) (hA : ∀ q, q < H.size → A1 q → A0 q) (hf : ∀ q, free q → A0 q) (hAX : ∀ q, q < H.size → AX q → A0 q)
    (kx : ∀ (E : String) (ce : Cell) (q9 : Addr) (u : SX) (t : State) (H1 : Heap) (locs1 : List Loc), t.heap = H1 → s.vm.Alike t.vm → px u → BX E u t → H.size ≤ H1.size → (∀ q : Nat, q < H.size → ¬ AX q → H1[q]? = H[q]?) → va_S A0 H0 H1 locs1 → H1[q9]? = some ce → ce.vm = .none → s.vm.findClass E = some ce.cls → vx_W p l e R s m args below meth c H1 locs1 (cells + mc) (slots + ms) Q (F0 m pc ls rest) q9)
    (kk : ∀ (r : UInt64) (u : S) (t : State) (H1 : Heap) (locs1 : List Loc), t.heap = H1 → s.vm.Alike t.vm → post r u → B u t → H.size ≤ H1.size → (∀ q : Nat, q < H.size → ¬ A1 q → H1[q]? = H[q]?) → va_S A0 H0 H1 locs1 → W p l e R s m args below meth c H1 locs1 (cells + mc) (slots + ms) Q (F0 m (pc + 3) ls (.double r :: rest))) : W p l e R s m args below meth c H locs cells slots Q (F0 m pc ls st0) := by
  intro T hT X
  rcases hr T hT X with ⟨v, st₀, t, T', L, h0, X', hL, e1, e2, ⟨⟨r, u, hv, hp, hb⟩, hF⟩, st⟩ | ⟨q, st₀, t, T', L, E, ce, h0, X', hL, e1, e2, ⟨u, hp, hb, hF⟩, hce, hcv, hcl, st⟩
  · cases hv
    obtain ⟨k1, k2, k3⟩ := vx_keep h0 e1 hS hA hf hL hF
    obtain ⟨t2, a1, b1⟩ := kk r u t T'.heap (locs ++ L) e1.symm (by rw [← e2]; exact X'.warmed.alike) hp hb k1 k2 k3 T' rfl X'
    exact ⟨t2, st t2 a1, b1⟩
  · obtain ⟨k1, k2, k3⟩ := vx_keep h0 e1 hS hAX hf hL hF
    obtain ⟨t2, a1, b1⟩ := kx E ce q u t T'.heap (locs ++ L) e1.symm (by rw [← e2]; exact X'.warmed.alike) hp hb k1 k2 k3 (by rw [e1]; exact hce) hcv hcl T' rfl X'
    exact ⟨t2, st.trans a1, b1⟩
theorem vx_callv {S SX : Type} {post : S → Prop} {px : SX → Prop} {B : S → State → Prop} {BX : String → SX → State → Prop} {AX : Nat → Prop} (hr : vx_Run p l e R s m args below meth c H locs cells slots mc ms (F0 m pc ls st0) rest (va_Qv post B A1 a) (vx_X px BX AX) free) (hS : va_S A0 H0 H locs) (hA : ∀ q, q < H.size → A1 q → A0 q) (hf : ∀ q, free q → A0 q) (hAX : ∀ q, q < H.size → AX q → A0 q)
    (kx : ∀ (E : String) (ce : Cell) (q9 : Addr) (u : SX) (t : State) (H1 : Heap) (locs1 : List Loc), t.heap = H1 → s.vm.Alike t.vm → px u → BX E u t → H.size ≤ H1.size → (∀ q : Nat, q < H.size → ¬ AX q → H1[q]? = H[q]?) → va_S A0 H0 H1 locs1 → H1[q9]? = some ce → ce.vm = .none → s.vm.findClass E = some ce.cls → vx_W p l e R s m args below meth c H1 locs1 (cells + mc) (slots + ms) Q (F0 m pc ls rest) q9)
    (kk : ∀ (u : S) (t : State) (H1 : Heap) (locs1 : List Loc), t.heap = H1 → s.vm.Alike t.vm → post u → B u t → H.size ≤ H1.size → (∀ q : Nat, q < H.size → ¬ A1 q → H1[q]? = H[q]?) → va_S A0 H0 H1 locs1 → W p l e R s m args below meth c H1 locs1 (cells + mc) (slots + ms) Q (F0 m (pc + 3) ls (rest))) : W p l e R s m args below meth c H locs cells slots Q (F0 m pc ls st0) := by
  intro T hT X
  rcases hr T hT X with ⟨v, st₀, t, T', L, h0, X', hL, e1, e2, ⟨⟨u, hv, hp, hb⟩, hF⟩, st⟩ | ⟨q, st₀, t, T', L, E, ce, h0, X', hL, e1, e2, ⟨u, hp, hb, hF⟩, hce, hcv, hcl, st⟩
  · cases hv
    obtain ⟨k1, k2, k3⟩ := vx_keep h0 e1 hS hA hf hL hF
    obtain ⟨t2, a1, b1⟩ := kk u t T'.heap (locs ++ L) e1.symm (by rw [← e2]; exact X'.warmed.alike) hp hb k1 k2 k3 T' rfl X'
    exact ⟨t2, st t2 a1, b1⟩
  · obtain ⟨k1, k2, k3⟩ := vx_keep h0 e1 hS hAX hf hL hF
    obtain ⟨t2, a1, b1⟩ := kx E ce q u t T'.heap (locs ++ L) e1.symm (by rw [← e2]; exact X'.warmed.alike) hp hb k1 k2 k3 (by rw [e1]; exact hce) hcv hcl T' rfl X'
    exact ⟨t2, st.trans a1, b1⟩
/-- caught by the row x of this method's table; the rows ahead don't take it -/
theorem vx_catch {own name : String} {E : String} {ce : Cell} {q : Addr} (hown : s.vm.findClass own = some m.cls) (pre : List ExceptionTableEntry) (x : ExceptionTableEntry) (suf : List ExceptionTableEntry) (hsplit : c.exceptionTable.toList = pre ++ x :: suf)
    (hpass : ∀ z ∈ pre, covers z pc = false ∨ (z.catchType ≠ 0 ∧ ∃ nm : String, (Cond.classLink own z.catchType nm).before args s = true ∧ va_Nc E nm s)) (hx : covers x pc = true) (h0 : x.catchType ≠ 0)
    (hlink : (Cond.classLink own x.catchType name).before args s = true) (hcast : (Cond.castable E name).before args s = true) (hcell : H[q]? = some ce) (hv : ce.vm = .none) (hcl : s.vm.findClass E = some ce.cls)
    (kk : W p l e R s m args below meth c H locs cells slots Q (F0 m x.handlerPc ls [.ref q])) : vx_W p l e R s m args below meth c H locs cells slots Q (F0 m pc ls rest) q := by
  intro T hT X
  have hpl : e.platform.magicAccessors = ({} : Platform).magicAccessors := by rw [X.admits.platform]
  obtain ⟨c3, c4, hc3, hc4, hasg⟩ := Cond.castable_spec hcast
  cases Option.some.inj (hc3.symm.trans hcl)
  obtain ⟨c5, hc5, hcl5⟩ := Cond.classLink_spec hown hlink e.platform hpl
  cases Option.some.inj (hc4.symm.trans hc5)
  obtain ⟨vm', X', st⟩ := X.thenCaughtThrough q (g := F0 m pc ls rest) rfl (Steps.refl _) (by rw [hT]; exact hcell) (by rw [hv]; rfl) (by obtain ⟨k9, h9, -⟩ := Vm.findClass_spec hcl; exact ⟨k9, h9⟩) pre x suf hsplit
    (fun z hz => by
      rcases hpass z hz with h | ⟨hz0, nm, hl1, hn1⟩
      · exact Or.inl h
      · obtain ⟨c6, hc6, hcl6⟩ := Cond.classLink_spec hown hl1 e.platform hpl
        obtain ⟨a8, b8, h1, h2, h3⟩ := hn1
        cases Option.some.inj (h1.symm.trans hcl)
        cases Option.some.inj (h2.symm.trans hc6)
        exact Or.inr ⟨hz0, _, hcl6, h3⟩) hx (Or.inr ⟨h0, c4, hcl5, hasg⟩)
  obtain ⟨t, a1, b1⟩ := kk (T.setVm vm') hT X'
  exact ⟨t, st.trans a1, b1⟩
end Rows
section Ends
variable {p : Program} {l : Launch} {e : Env} {R : Room} {s : State} {m : MethodId} {args : Array Value} {below : List Frame} {meth : Method} {c : Code} {H : Heap} {locs : List Loc} {cells slots : Nat} {Q : State → Prop}
variable {mc ms : Nat} {free : Addr → Prop} {A0 A1 : Nat → Prop} {H0 : Heap} {a : Array Value} {ls : Array Slot} {st0 rest : List Value}
variable {Qc : Array Value → State → Outcome → State → Prop} {XC : String → State → State → Prop}
/-- what a body that may throw owes at its end -/
def vx_MQ (below : List Frame) (Qc : Array Value → State → Outcome → State → Prop) (XC : String → State → State → Prop) (a : Array Value) (s : State) (mc ms : Nat) (free : Addr → Prop) : State → Prop := fun t =>
  ∃ o, t.status = .running ∧ Ended t below o ∧ vx_Q Qc XC mc ms free a s o t
theorem vx_ret {g : JFrame} {mc ms : Nat} (k : W p l e R s m args below meth c H locs cells slots (MQ below Qc args s mc ms free) g) : W p l e R s m args below meth c H locs cells slots (vx_MQ below Qc XC args s mc ms free) g := by
  intro T hT X
  obtain ⟨t, a1, o, b1, b2, b3, b4⟩ := k T hT X
  exact ⟨t, a1, o, b1, b2, Or.inl ⟨b3, b4⟩⟩
/-- not caught here: it goes on to the caller -/
theorem vx_widen {g : JFrame} {q : Addr} {k n : Nat} (h1 : cells ≤ k) (h2 : slots ≤ n) (kk : vx_W p l e R s m args below meth c H locs k n Q g q) : vx_W p l e R s m args below meth c H locs cells slots Q g q := fun T hT X => kk T hT (stand_widen X h1 h2)
theorem vx_out {pc : Nat} {E : String} {ce : Cell} {q : Addr} {mc ms : Nat} (hout : ∀ x ∈ c.exceptionTable.toList, covers x pc = false) (hlocks : meth.locks = false) (hcell : H[q]? = some ce) (hv : ce.vm = .none) (hcl : s.vm.findClass E = some ce.cls)
    (hx : ∀ t : State, t.heap = H → s.vm.Alike t.vm → XC E s t) (hf : ∀ z ∈ locs, free z.base) (hc : cells ≤ mc) (hs : slots ≤ ms) :
    vx_W p l e R s m args below meth c H locs cells slots (vx_MQ below Qc XC args s mc ms free) (F0 m pc ls rest) q := by
  intro T hT X
  obtain ⟨st1, hrun, hend, hW, hsm⟩ := X.leaveThrown q (g := F0 m pc ls rest) rfl rfl rfl hout hlocks
  have hcell9 : (T.setFrames (.throwing q :: below)).heap[q]? = some ce := by
    show T.heap[q]? = some ce
    rw [hT]; exact hcell
  exact ⟨_, st1, .threw q, hrun, hend, Or.inr ⟨q, rfl, E, ce, locs, hx _ hT hW.alike, hcell9, hv, hcl, hW, hsm.mono hc hs, hf⟩⟩
theorem vx_frame {U : State} {k n : Nat} (h : s.sameButNew ({ U with vm := s.vm } : State) locs k n) : s.heap.size ≤ U.heap.size ∧ ∀ q : Nat, q < s.heap.size → (∀ z ∈ locs, z.base ≠ q) → U.heap[q]? = s.heap[q]? := by
  obtain ⟨-, h2, -, -, -, h6⟩ := h
  refine ⟨h2, fun q hq hz => ?_⟩
  obtain ⟨c9, e1, e2, e3, e4⟩ := h6 q _ (Array.getElem?_eq_getElem hq)
  have hs : c9.slots = (s.heap[q]).slots := Array.ext_getElem? fun i => e4 i fun hm => hz _ hm rfl
  have h9 : c9 = s.heap[q] := by
    rw [hs] at e2
    exact e2
  have e5 : U.heap[q]? = some c9 := e1
  rw [e5, h9, Array.getElem?_eq_getElem hq]
/-- the words of a throw but the four that speak of the heap -/
def vx_no (w : Cond) : Bool := decide (w ≠ .isRef (.static Bundle.tN "UNASSIGNED_STACK" Bundle.steD)) && decide (w ≠ .isRef (.static Bundle.tN "SUPPRESSED_SENTINEL" Bundle.listD)) && decide (w ≠ .laysStatic Bundle.tN "UNASSIGNED_STACK" Bundle.steD) && decide (w ≠ .laysStatic Bundle.tN "SUPPRESSED_SENTINEL" Bundle.listD)
def vx_at0 (own : String) (ic : Nat) (X : String) (names : List String) : List Cond := (Bundle.ownAtoms0 own ic X names).filter vx_no
def vx_atS (own : String) (ic : Nat) (X : String) (names : List String) : List Cond := (Bundle.ownAtoms own ic X names).filter vx_no
/-- a word that the tables alone decide, or a good one -/
def vx_ot (w : Cond) : Bool := w.onTables || goodWord w
theorem vx_ot_at {args a' : Array Value} {s U : State} {w : Cond} (hW : s.WarmedH U.vm) (hvm : s.vm = U.vm) (hg : vx_ot w = true) (h : w.before args s = true) : w.before a' U = true := by
  simp only [vx_ot, Bool.or_eq_true] at hg
  rcases hg with hg | hg
  · exact va_tabs hg hvm h
  · exact word_at hW (good_of_word hg) h
/-- a list's words: the good ones out of the method's own list, the others by premises of their own -/
theorem vx_hat {args : Array Value} {s : State} {L B : List Cond} (h1 : ∀ w ∈ L.filter goodWord, w.before args s = true) (h2 : ∀ w ∈ L.filter (fun w => !goodWord w), w ∈ B) (h3 : ∀ w ∈ B, w.before args s = true) : ∀ w ∈ L, w.before args s = true := by
  intro w hw
  by_cases g : goodWord w = true
  · exact h1 w (List.mem_filter.mpr ⟨hw, g⟩)
  · refine h3 w (h2 w (List.mem_filter.mpr ⟨hw, ?_⟩))
    show (!goodWord w) = true
    cases hgw : goodWord w
    · rfl
    · exact absurd hgw g
theorem vx_c {args : Array Value} {s : State} {w : Cond} {B : List Cond} (h : w.before args s = true) (t : ∀ w ∈ B, w.before args s = true) : ∀ w' ∈ w :: B, w'.before args s = true := fun w' h' => (List.mem_cons.mp h').elim (fun e => by rw [e]; exact h) (t w')
theorem vx_n {args : Array Value} {s : State} : ∀ w ∈ ([] : List Cond), w.before args s = true := fun _ h => nomatch h
theorem vx_own {args : Array Value} {s : State} {L : List Cond} (h1 : ∀ w ∈ L.filter vx_no, w.before args s = true)
    (hU : (Cond.isRef (.static Bundle.tN "UNASSIGNED_STACK" Bundle.steD)).before args s = true) (hN : (Cond.isRef (.static Bundle.tN "SUPPRESSED_SENTINEL" Bundle.listD)).before args s = true)
    (lU : (Cond.laysStatic Bundle.tN "UNASSIGNED_STACK" Bundle.steD).before args s = true) (lN : (Cond.laysStatic Bundle.tN "SUPPRESSED_SENTINEL" Bundle.listD).before args s = true) : ∀ w ∈ L, w.before args s = true := by
  intro w hw
  by_cases e1 : w = .isRef (.static Bundle.tN "UNASSIGNED_STACK" Bundle.steD)
  · rw [e1]; exact hU
  · by_cases e2 : w = .isRef (.static Bundle.tN "SUPPRESSED_SENTINEL" Bundle.listD)
    · rw [e2]; exact hN
    · by_cases e3 : w = .laysStatic Bundle.tN "UNASSIGNED_STACK" Bundle.steD
      · rw [e3]; exact lU
      · by_cases e4 : w = .laysStatic Bundle.tN "SUPPRESSED_SENTINEL" Bundle.listD
        · rw [e4]; exact lN
        · exact h1 w (List.mem_filter.mpr ⟨hw, by unfold vx_no; rw [decide_eq_true e1, decide_eq_true e2, decide_eq_true e3, decide_eq_true e4]; rfl⟩)
/-- where a static field lies, its class's statics cell in H -/
def vx_L (C n d : String) (A : Nat → Prop) (U : State) (H : Heap) : Prop := ∃ (c : ClassId) (k : Class) (i : Nat) (f : Field) (a : Nat) (cell : Cell), U.vm.findClass C = some c ∧ U.fieldFound? C n d = some (c, k, i, f) ∧ f.isStatic = true ∧ k.statics = some a ∧ H[a]? = some cell ∧ cell.vm.isStatics = true ∧ cell.cls = c ∧ f.slot < cell.slots.size ∧ k.staticTypes[f.slot]? = some f.type ∧ ¬ A a
theorem vx_L.moved {C n d : String} {A : Nat → Prop} {u U : State} {H : Heap} (hvm : u.vm.Alike U.vm) (h : vx_L C n d A u H) : vx_L C n d A U H := by
  obtain ⟨c, k, i, f, a, cell, h1, h2, h3, h4, h5, h6, h7, h8, h9, h10⟩ := h
  obtain ⟨k', hi', he⟩ := State.fieldFound?_setVm hvm h2
  exact ⟨c, k', i, f, a, cell, by rw [hvm.findClass]; exact h1, hi', h3, by rw [he]; exact h4, h5, h6, h7, h8, by rw [he]; exact h9, h10⟩
theorem vx_L.kept {C n d : String} {A : Nat → Prop} {U : State} {H H1 : Heap} (h : vx_L C n d A U H) (hq : ∀ a : Nat, a < H.size → ¬ A a → H1[a]? = H[a]?) : vx_L C n d A U H1 := by
  obtain ⟨c, k, i, f, a, cell, h1, h2, h3, h4, h5, h6, h7, h8, h9, h10⟩ := h
  exact ⟨c, k, i, f, a, cell, h1, h2, h3, h4, by rw [hq a (Array.getElem?_eq_some_iff.mp h5).1 h10]; exact h5, h6, h7, h8, h9, h10⟩
theorem vx_L.narrow {C n d : String} {A B : Nat → Prop} {U : State} {H : Heap} (h : vx_L C n d A U H) (hAB : ∀ q, B q → A q) : vx_L C n d B U H := by
  obtain ⟨c, k, i, f, a, cell, h1, h2, h3, h4, h5, h6, h7, h8, h9, h10⟩ := h
  exact ⟨c, k, i, f, a, cell, h1, h2, h3, h4, h5, h6, h7, h8, h9, fun z => h10 (hAB _ z)⟩
theorem vx_L.word {C n d : String} {A : Nat → Prop} {s : State} {args : Array Value} (h : vx_L C n d A s s.heap) : (Cond.laysStatic C n d).before args s = true := by
  obtain ⟨c, k, i, f, a, cell, h1, h2, h3, h4, h5, h6, h7, h8, h9, -⟩ := h
  show (Cond.laysStatic C n d).holds args s none s [] = true
  exact Cond.laysStatic_of h1 h2 h3 h4 h5 h6 h7 h8 h9
/-- .. and what it holds: null or some reference -/
def vx_Zq (C n d : String) (A : Nat → Prop) (U : State) (H : Heap) : Prop := va_Zq C n d A U H ∧ vx_L C n d A U H
theorem vx_Zq.moved {C n d : String} {A : Nat → Prop} {u U : State} {H : Heap} (hvm : u.vm.Alike U.vm) (h : vx_Zq C n d A u H) : vx_Zq C n d A U H := ⟨va_Zq.moved hvm h.1, vx_L.moved hvm h.2⟩
theorem vx_Zq.kept {C n d : String} {A : Nat → Prop} {U : State} {H H1 : Heap} (h : vx_Zq C n d A U H) (hq : ∀ a : Nat, a < H.size → ¬ A a → H1[a]? = H[a]?) : vx_Zq C n d A U H1 := ⟨va_Zq.kept h.1 hq, vx_L.kept h.2 hq⟩
theorem vx_Zq.narrow {C n d : String} {A B : Nat → Prop} {U : State} {H : Heap} (h : vx_Zq C n d A U H) (hAB : ∀ q, B q → A q) : vx_Zq C n d B U H := ⟨va_Zq.narrow h.1 hAB, vx_L.narrow h.2 hAB⟩
theorem vx_Zqof {args : Array Value} {s : State} {C n d : String} {A : Nat → Prop} (hl : (Cond.laysStatic C n d).before args s = true) (hini : (Cond.initialized C).before args s = true) (h : (Cond.isRef (.static C n d)).before args s = true) (hA : ∀ a : Nat, a < s.heap.size → ¬ A a) : vx_Zq C n d A s s.heap := by
  refine ⟨va_Zqof hl hini h hA, ?_⟩
  obtain ⟨c, k, i, f, a, cell, h1, h2, h3, h4, h5, h6, h7, h8, h9⟩ := Cond.laysStatic_spec hl
  exact ⟨c, k, i, f, a, cell, h1, h2, h3, h4, h5, h6, h7, h8, h9, hA a (Array.getElem?_eq_some_iff.mp h5).1⟩
theorem vx_isRef {C n d : String} {v : Value} {A : Nat → Prop} {s : State} {args : Array Value} (h : va_Z C n d v A s s.heap) (hv : v.isRef = true) : (Cond.isRef (.static C n d)).before args s = true := by
  obtain ⟨cf, kf, fi, f, a, cell, h1, h2, h3, h4, h5, h6, h7, -⟩ := h
  have he : (Term.static C n d).eval args s none [] s = some v := by
    simp [Term.eval, State.fieldNamed?, h1, h2, h4, h5, h6, h7]
  simp only [Cond.before, Cond.holds, Cond.value, he]
  cases v <;> simp_all [Value.isRef]
theorem vx_isRefq {C n d : String} {A : Nat → Prop} {s : State} {args : Array Value} (h : va_Zq C n d A s s.heap) : (Cond.isRef (.static C n d)).before args s = true := by
  rcases h with h | ⟨t, h⟩
  · exact vx_isRef h rfl
  · exact vx_isRef h rfl
/-- the same frame, seen from here: as if the method were called anew in this heap -/
theorem vx_rebase {T : State} (X : Stand p l e R s m args below meth c T locs cells slots) {R' : Room} (hf : R'.frames ≤ R.frames) (hl : R'.locals ≤ R.locals) (hc : cells + R'.cells ≤ R.cells) (hs : slots + R'.slots ≤ R.slots) :
    Stand p l e R' ((T.setVm s.vm).setFrames (.invoking m args :: below)) m args below meth c T [] 0 0 := by
  have htop : (T.setVm s.vm).topJava?.isSome := X.here.top
  have hF : ((T.setVm s.vm).setFrames (.invoking m args :: below)).frames = .invoking m args :: below := State.frames_setFrames _ (State.cur_lt_of_top htop)
  obtain ⟨g₀, hg0⟩ := Option.isSome_iff_exists.mp htop
  obtain ⟨r, hr⟩ := State.topJava?_eq_some.mp hg0
  have hl9 : e.platform.stackLimits (T.setVm s.vm).me = e.platform.stackLimits s.me := X.limits
  have hb9 : (T.setVm s.vm).me.stackBytes = s.me.stackBytes := X.bytes
  refine ⟨X.admits, X.cas, X.clock, hF, ?_, X.hears, X.method, X.code, X.here, X.tail, X.warmed, ?_, ?_, ?_⟩
  · have h := X.room
    have hU : ((T.setVm s.vm).setFrames (.invoking m args :: below)).localsInUse = s.localsInUse := by
      rw [State.localsInUse_invoking hF (meth := meth) (c := c) X.method X.code, State.localsInUse_invoking X.frames X.method X.code]
    simp only [State.hasRoom, Bool.and_eq_true, decide_eq_true_eq] at h ⊢
    obtain ⟨⟨⟨⟨h1, h2, h3, h4, h5, h6⟩, h7⟩, h8⟩, h9⟩ := h
    rw [X.frames, List.length_cons] at h2 h3
    have q1 := X.heapSize
    have q2 := X.used
    simp only [hF, hU, List.length_cons, State.stackLimits_setFrames, State.stackBytes_setFrames, hl9, hb9]
    refine ⟨⟨⟨⟨by omega, by omega, by omega, by omega, by omega, h6⟩, ?_⟩, ?_⟩, X.book⟩
    · show T.heap.size + R'.cells ≤ e.platform.maxCells
      omega
    · show T.slotsUsed + R'.slots ≤ e.platform.maxSlots
      omega
  · rw [State.stackLimits_setFrames]; rfl
  · rw [State.stackBytes_setFrames]; rfl
  · refine ⟨?_, Nat.le_refl _, Nat.le_refl _, ?_, ?_, fun a c9 h9 => ⟨c9, h9, rfl, rfl, fun _ _ => rfl⟩⟩
    · obtain ⟨t, ht, -⟩ := State.frames_cons hr
      show T.setVm s.vm = { ((T.setVm s.vm).setFrames (.invoking m args :: below)).setFrames (T.setVm s.vm).frames with heap := T.heap, slotsUsed := T.slotsUsed }
      rw [State.setFrames_setFrames, State.setFrames_self ht]
      rfl
    · show T.slotsUsed = T.slotsUsed + ((T.heap.toList.drop T.heap.size).map (·.slots.size)).sum
      rw [List.drop_eq_nil_of_le (Nat.le_of_eq Array.length_toList)]
      rfl
    · show ((T.heap.toList.drop T.heap.size).map (·.slots.size)).sum ≤ 0
      rw [List.drop_eq_nil_of_le (Nat.le_of_eq Array.length_toList)]
      exact Nat.le_refl _
/-- 'throw new E()': new; dup; invokespecial; athrow -/
theorem vx_throw0 {cc : ByteArray} {pc : Nat} (hexec : p.tables.exec = Jvm.exec) (hb : c.code = cc) (hl : l.stackTraces = false) {own cls : String} {names : List String} {ik ic mc ms : Nat} {A : Nat → Prop}
    (hown : s.vm.findClass own = some m.cls) (hcls : Bundle.fit cls = true) (hnames : ∀ n ∈ names, Bundle.fit n = true)
    (hk : (Cond.classLink own ik cls).before args s = true) (hini : (Cond.initialized cls).before args s = true) (hat : ∀ w ∈ vx_at0 own ic cls names, w.before args s = true)
    (hgood : ∀ w ∈ Cond.classLink own ik cls :: Cond.initialized cls :: vx_at0 own ic cls names, vx_ot w = true)
    (hU : vx_Zq Bundle.tN "UNASSIGNED_STACK" Bundle.steD A s s.heap) (hN : vx_Zq Bundle.tN "SUPPRESSED_SENTINEL" Bundle.listD A s s.heap) (hS : va_S A s.heap H locs) (hsize : ls.size = c.maxLocals)
    (d0 : decode cc pc = .ok (.new ik, 3)) (d3 : decode cc (pc + 3) = .ok (.dup, 1)) (d4 : decode cc (pc + 4) = .ok (.invokespecial ic, 3)) (d7 : decode cc (pc + 7) = .ok (.athrow, 1))
    (hout : ∀ x ∈ c.exceptionTable.toList, covers x (pc + 7) = false)
    (hRframes : names.length + 3 < R.frames) (hRlocals : (rest.map fun v => v.category).sum + (13 * (names.length + 1) + 42) ≤ R.locals) (hRcells : cells + 1 ≤ R.cells) (hRslots : slots + 6 ≤ R.slots) (hlocks : meth.locks = false)
    (hx : ∀ t : State, s.vm.Alike t.vm → H.size ≤ t.heap.size → (∀ q : Nat, q < H.size → t.heap[q]? = H[q]?) → XC cls s t)
    (hf : ∀ z ∈ locs, free z.base) (hc : cells + 1 ≤ mc) (hs : slots + 6 ≤ ms) :
    W p l e R s m args below meth c H locs cells slots (vx_MQ below Qc XC args s mc ms free) (F0 m pc ls rest) := by
  intro T hT X
  have htr : e.platform.stackTraces = false := (show e.platform.stackTraces = l.stackTraces by rw [X.admits.platform]).trans hl
  have Y := vx_rebase X (R' := { frames := R.frames, locals := R.locals, cells := 1, slots := 6 }) (Nat.le_refl _) (Nat.le_refl _) hRcells hRslots
  obtain ⟨s', hA⟩ : ∃ z, z = (T.setVm s.vm).setFrames (.invoking m args :: below) := ⟨_, rfl⟩
  rw [← hA] at Y
  have hvm : s'.vm = s.vm := by rw [hA]; rfl
  have hhp : s'.heap = H := by rw [hA]; exact hT
  have hW0 : s.WarmedH s'.vm := by rw [hvm]; exact State.WarmedH.refl s
  have hat' : ∀ w ∈ vx_at0 own ic cls names, w.before args s' = true := fun w hw => vx_ot_at hW0 hvm.symm (hgood w (List.mem_cons_of_mem _ (List.mem_cons_of_mem _ hw))) (hat w hw)
  have hk' : (Cond.classLink own ik cls).before args s' = true := vx_ot_at hW0 hvm.symm (hgood _ List.mem_cons_self) hk
  have hini' : (Cond.initialized cls).before args s' = true := vx_ot_at hW0 hvm.symm (hgood _ (List.mem_cons_of_mem _ List.mem_cons_self)) hini
  have hU' : vx_Zq Bundle.tN "UNASSIGNED_STACK" Bundle.steD A s' s'.heap := by rw [hhp]; exact vx_Zq.moved hW0.alike (hU.kept hS.2.1)
  have hN' : vx_Zq Bundle.tN "SUPPRESSED_SENTINEL" Bundle.listD A s' s'.heap := by rw [hhp]; exact vx_Zq.moved hW0.alike (hN.kept hS.2.1)
  have h : ∀ w ∈ Bundle.ownAtoms0 own ic cls names, w.before args s' = true := vx_own hat' (vx_isRefq hU'.1) (vx_isRefq hN'.1) hU'.2.word hN'.2.word
  have hown' : s'.vm.findClass own = some m.cls := by rw [hvm]; exact hown
  have hins : (Cond.instantiable cls 6).before args s' = true := h _ (by simp [Bundle.ownAtoms0])
  obtain ⟨vm₁, cX, kX, hfX, hkX, -, -, X₁, st1⟩ := Y.newCold hexec (own := own) (C := cls) (index := ik) (n := 6) hown' hk' hins hini'
    (g := F0 m pc ls rest) rfl (by rw [hb]; exact d0) (Nat.le_refl _) (Nat.le_refl _)
  generalize hT1 : (T.setVm vm₁).pushCell { cls := cX, slots := kX.instanceTypes.map defaultValue, vm := .none } = T1 at X₁ st1
  have hcat : (Value.ref T.heap.size).category = 1 := rfl
  have hcellA : T1.heap[T.heap.size]? = some (freshCell cX kX) := by rw [← hT1]; exact State.heap_pushCell_size _ _
  have d3' : decode c.code (pc + 3) = .ok (.dup, 1) := by rw [hb]; exact d3
  obtain ⟨U, hsteps, hrun, hend, hW, hsame, ce, hce, hO⟩ := X₁.ctorThrow0 hexec htr (own := own) (cls := cls) (names := names) (ic := ic) hown' hcls hnames h (fun x hx => nomatch hx) hfX hkX hcellA (by rw [hhp, hT]; exact Nat.le_refl _)
    (g := { method := m, pc := pc + 4, locals := ls, stack := .ref T.heap.size :: .ref T.heap.size :: rest, locked := none }) rfl hsize rfl rfl (rest := rest) rfl
    (by rw [hb]; exact d4) (by rw [hb]; exact d7) hout hRframes (by simp only [List.map_cons, List.sum_cons, hcat]; omega) hlocks
  obtain ⟨f1, f2⟩ := vx_frame hsame
  rw [hhp] at f1 f2
  have hWs : s.WarmedH U.vm := State.WarmedH.trans hW0 hW
  have hcl : s.vm.findClass cls = some ce.cls := by
    have h9 := hO.cls
    rw [hvm] at h9
    exact h9
  have hall : s.sameButNew ({ U with vm := s.vm } : State) locs mc ms := by
    subst hA
    obtain ⟨e1, e2⟩ := hsame
    rw [State.setFrames_setFrames] at e1
    have h2 : (T.setVm s.vm).sameButNew ({ U with vm := s.vm } : State) [] (0 + 1) (0 + 6) := ⟨e1, e2⟩
    have h3 := X.same.trans h2
    rw [List.append_nil] at h3
    exact h3.mono hc hs
  refine ⟨U, ?_, .threw T.heap.size, hrun, hend, Or.inr ⟨T.heap.size, rfl, cls, ce, locs, hx U hWs.alike f1 (fun q hq => f2 q hq (fun z hz => nomatch hz)), hce, hO.vm, hcl, hWs, hall, hf⟩⟩
  refine st1 _ ?_
  show Steps p.tables e below (T1.setTop { method := m, pc := pc + 3, locals := ls, stack := .ref T.heap.size :: rest, locked := none }) _
  jvm_step X₁.here [X₁.here.top, hexec, d3', Value.category]
  exact hsteps
/-- 'throw new E("text")': new; dup; ldc; invokespecial; athrow -/
theorem vx_throwS {cc : ByteArray} {pc : Nat} (hexec : p.tables.exec = Jvm.exec) (hb : c.code = cc) (hl : l.stackTraces = false) {own cls text : String} {names : List String} {ik is ic mc ms sa : Nat} {A : Nat → Prop}
    (hown : s.vm.findClass own = some m.cls) (hcls : Bundle.fit cls = true) (hnames : ∀ n ∈ names, Bundle.fit n = true)
    (hk : (Cond.classLink own ik cls).before args s = true) (hini : (Cond.initialized cls).before args s = true) (hstr : vk_R own is text sa s) (hat : ∀ w ∈ vx_atS own ic cls names, w.before args s = true)
    (hgood : ∀ w ∈ Cond.classLink own ik cls :: Cond.initialized cls :: vx_atS own ic cls names, vx_ot w = true)
    (hU : vx_Zq Bundle.tN "UNASSIGNED_STACK" Bundle.steD A s s.heap) (hN : vx_Zq Bundle.tN "SUPPRESSED_SENTINEL" Bundle.listD A s s.heap) (hS : va_S A s.heap H locs) (hsize : ls.size = c.maxLocals)
    (d0 : decode cc pc = .ok (.new ik, 3)) (d3 : decode cc (pc + 3) = .ok (.dup, 1)) (d4 : decode cc (pc + 4) = .ok (.ldc is, 2)) (d6 : decode cc (pc + 6) = .ok (.invokespecial ic, 3)) (d9 : decode cc (pc + 9) = .ok (.athrow, 1))
    (hout : ∀ x ∈ c.exceptionTable.toList, covers x (pc + 9) = false)
    (hRframes : names.length + 3 < R.frames) (hRlocals : (rest.map fun v => v.category).sum + (13 * (names.length + 1) + 43) ≤ R.locals) (hRcells : cells + 1 ≤ R.cells) (hRslots : slots + 6 ≤ R.slots) (hlocks : meth.locks = false)
    (hx : ∀ t : State, s.vm.Alike t.vm → H.size ≤ t.heap.size → (∀ q : Nat, q < H.size → t.heap[q]? = H[q]?) → XC cls s t)
    (hf : ∀ z ∈ locs, free z.base) (hc : cells + 1 ≤ mc) (hs : slots + 6 ≤ ms) :
    W p l e R s m args below meth c H locs cells slots (vx_MQ below Qc XC args s mc ms free) (F0 m pc ls rest) := by
  intro T hT X
  have htr : e.platform.stackTraces = false := (show e.platform.stackTraces = l.stackTraces by rw [X.admits.platform]).trans hl
  have Y := vx_rebase X (R' := { frames := R.frames, locals := R.locals, cells := 1, slots := 6 }) (Nat.le_refl _) (Nat.le_refl _) hRcells hRslots
  obtain ⟨s', hA⟩ : ∃ z, z = (T.setVm s.vm).setFrames (.invoking m args :: below) := ⟨_, rfl⟩
  rw [← hA] at Y
  have hvm : s'.vm = s.vm := by rw [hA]; rfl
  have hhp : s'.heap = H := by rw [hA]; exact hT
  have hW0 : s.WarmedH s'.vm := by rw [hvm]; exact State.WarmedH.refl s
  have hat' : ∀ w ∈ vx_atS own ic cls names, w.before args s' = true := fun w hw => vx_ot_at hW0 hvm.symm (hgood w (List.mem_cons_of_mem _ (List.mem_cons_of_mem _ hw))) (hat w hw)
  have hk' : (Cond.classLink own ik cls).before args s' = true := vx_ot_at hW0 hvm.symm (hgood _ List.mem_cons_self) hk
  have hini' : (Cond.initialized cls).before args s' = true := vx_ot_at hW0 hvm.symm (hgood _ (List.mem_cons_of_mem _ List.mem_cons_self)) hini
  have hU' : vx_Zq Bundle.tN "UNASSIGNED_STACK" Bundle.steD A s' s'.heap := by rw [hhp]; exact vx_Zq.moved hW0.alike (hU.kept hS.2.1)
  have hN' : vx_Zq Bundle.tN "SUPPRESSED_SENTINEL" Bundle.listD A s' s'.heap := by rw [hhp]; exact vx_Zq.moved hW0.alike (hN.kept hS.2.1)
  have h : ∀ w ∈ Bundle.ownAtoms own ic cls names, w.before args s' = true := vx_own hat' (vx_isRefq hU'.1) (vx_isRefq hN'.1) hU'.2.word hN'.2.word
  have hown' : s'.vm.findClass own = some m.cls := by rw [hvm]; exact hown
  have hins : (Cond.instantiable cls 6).before args s' = true := h _ (by simp [Bundle.ownAtoms])
  obtain ⟨vm₁, cX, kX, hfX, hkX, -, -, X₁, st1⟩ := Y.newCold hexec (own := own) (C := cls) (index := ik) (n := 6) hown' hk' hins hini'
    (g := F0 m pc ls rest) rfl (by rw [hb]; exact d0) (Nat.le_refl _) (Nat.le_refl _)
  generalize hT1 : (T.setVm vm₁).pushCell { cls := cX, slots := kX.instanceTypes.map defaultValue, vm := .none } = T1 at X₁ st1
  have hcat : (Value.ref T.heap.size).category = 1 := rfl
  have hcellA : T1.heap[T.heap.size]? = some (freshCell cX kX) := by rw [← hT1]; exact State.heap_pushCell_size _ _
  have d3' : decode c.code (pc + 3) = .ok (.dup, 1) := by rw [hb]; exact d3
  have d4' : decode c.code (pc + 4) = .ok (.ldc is, 2) := by rw [hb]; exact d4
  have hstr' : vk_R own is text sa s' := vk_R.warm hW0 hstr
  obtain ⟨U, hsteps, hrun, hend, hW, hsame, ce, hce, hO⟩ := X₁.ctorThrowS hexec htr (own := own) (cls := cls) (names := names) (ic := ic) hown' hcls hnames h (fun x hx => nomatch hx) hfX hkX hcellA (by rw [hhp, hT]; exact Nat.le_refl _) (msg := .ref sa) rfl
    (g := { method := m, pc := pc + 6, locals := ls, stack := .ref sa :: .ref T.heap.size :: .ref T.heap.size :: rest, locked := none }) rfl hsize rfl rfl (rest := rest) rfl
    (by rw [hb]; exact d6) (by rw [hb]; exact d9) hout hRframes (by simp only [List.map_cons, List.sum_cons, hcat]; omega) hlocks
  obtain ⟨f1, f2⟩ := vx_frame hsame
  rw [hhp] at f1 f2
  have hWs : s.WarmedH U.vm := State.WarmedH.trans hW0 hW
  have hcl : s.vm.findClass cls = some ce.cls := by
    have h9 := hO.cls
    rw [hvm] at h9
    exact h9
  have hall : s.sameButNew ({ U with vm := s.vm } : State) locs mc ms := by
    subst hA
    obtain ⟨e1, e2⟩ := hsame
    rw [State.setFrames_setFrames] at e1
    have h2 : (T.setVm s.vm).sameButNew ({ U with vm := s.vm } : State) [] (0 + 1) (0 + 6) := ⟨e1, e2⟩
    have h3 := X.same.trans h2
    rw [List.append_nil] at h3
    exact h3.mono hc hs
  refine ⟨U, ?_, .threw T.heap.size, hrun, hend, Or.inr ⟨T.heap.size, rfl, cls, ce, locs, hx U hWs.alike f1 (fun q hq => f2 q hq (fun z hz => nomatch hz)), hce, hO.vm, hcl, hWs, hall, hf⟩⟩
  refine st1 _ ?_
  show Steps p.tables e below (T1.setTop { method := m, pc := pc + 3, locals := ls, stack := .ref T.heap.size :: rest, locked := none }) _
  jvm_step X₁.here [X₁.here.top, hexec, d3', Value.category]
  exact X₁.ldcString hexec (own := own) (text := text) (index := is) (a := sa) hown' hstr'.1 hstr'.2
    (g := { method := m, pc := pc + 4, locals := ls, stack := .ref T.heap.size :: .ref T.heap.size :: rest, locked := none }) rfl d4' _ hsteps
/-- 'throw new E("text")', the text by a wide index -/
theorem vx_throwSW {cc : ByteArray} {pc : Nat} (hexec : p.tables.exec = Jvm.exec) (hb : c.code = cc) (hl : l.stackTraces = false) {own cls text : String} {names : List String} {ik is ic mc ms sa : Nat} {A : Nat → Prop}
    (hown : s.vm.findClass own = some m.cls) (hcls : Bundle.fit cls = true) (hnames : ∀ n ∈ names, Bundle.fit n = true)
    (hk : (Cond.classLink own ik cls).before args s = true) (hini : (Cond.initialized cls).before args s = true) (hstr : vk_R own is text sa s) (hat : ∀ w ∈ vx_atS own ic cls names, w.before args s = true)
    (hgood : ∀ w ∈ Cond.classLink own ik cls :: Cond.initialized cls :: vx_atS own ic cls names, vx_ot w = true)
    (hU : vx_Zq Bundle.tN "UNASSIGNED_STACK" Bundle.steD A s s.heap) (hN : vx_Zq Bundle.tN "SUPPRESSED_SENTINEL" Bundle.listD A s s.heap) (hS : va_S A s.heap H locs) (hsize : ls.size = c.maxLocals)
    (d0 : decode cc pc = .ok (.new ik, 3)) (d3 : decode cc (pc + 3) = .ok (.dup, 1)) (d4 : decode cc (pc + 4) = .ok (.ldc_w is, 3)) (d7 : decode cc (pc + 7) = .ok (.invokespecial ic, 3)) (d10 : decode cc (pc + 10) = .ok (.athrow, 1))
    (hout : ∀ x ∈ c.exceptionTable.toList, covers x (pc + 10) = false)
    (hRframes : names.length + 3 < R.frames) (hRlocals : (rest.map fun v => v.category).sum + (13 * (names.length + 1) + 43) ≤ R.locals) (hRcells : cells + 1 ≤ R.cells) (hRslots : slots + 6 ≤ R.slots) (hlocks : meth.locks = false)
    (hx : ∀ t : State, s.vm.Alike t.vm → H.size ≤ t.heap.size → (∀ q : Nat, q < H.size → t.heap[q]? = H[q]?) → XC cls s t)
    (hf : ∀ z ∈ locs, free z.base) (hc : cells + 1 ≤ mc) (hs : slots + 6 ≤ ms) :
    W p l e R s m args below meth c H locs cells slots (vx_MQ below Qc XC args s mc ms free) (F0 m pc ls rest) := by
  intro T hT X
  have htr : e.platform.stackTraces = false := (show e.platform.stackTraces = l.stackTraces by rw [X.admits.platform]).trans hl
  have Y := vx_rebase X (R' := { frames := R.frames, locals := R.locals, cells := 1, slots := 6 }) (Nat.le_refl _) (Nat.le_refl _) hRcells hRslots
  obtain ⟨s', hA⟩ : ∃ z, z = (T.setVm s.vm).setFrames (.invoking m args :: below) := ⟨_, rfl⟩
  rw [← hA] at Y
  have hvm : s'.vm = s.vm := by rw [hA]; rfl
  have hhp : s'.heap = H := by rw [hA]; exact hT
  have hW0 : s.WarmedH s'.vm := by rw [hvm]; exact State.WarmedH.refl s
  have hat' : ∀ w ∈ vx_atS own ic cls names, w.before args s' = true := fun w hw => vx_ot_at hW0 hvm.symm (hgood w (List.mem_cons_of_mem _ (List.mem_cons_of_mem _ hw))) (hat w hw)
  have hk' : (Cond.classLink own ik cls).before args s' = true := vx_ot_at hW0 hvm.symm (hgood _ List.mem_cons_self) hk
  have hini' : (Cond.initialized cls).before args s' = true := vx_ot_at hW0 hvm.symm (hgood _ (List.mem_cons_of_mem _ List.mem_cons_self)) hini
  have hU' : vx_Zq Bundle.tN "UNASSIGNED_STACK" Bundle.steD A s' s'.heap := by rw [hhp]; exact vx_Zq.moved hW0.alike (hU.kept hS.2.1)
  have hN' : vx_Zq Bundle.tN "SUPPRESSED_SENTINEL" Bundle.listD A s' s'.heap := by rw [hhp]; exact vx_Zq.moved hW0.alike (hN.kept hS.2.1)
  have h : ∀ w ∈ Bundle.ownAtoms own ic cls names, w.before args s' = true := vx_own hat' (vx_isRefq hU'.1) (vx_isRefq hN'.1) hU'.2.word hN'.2.word
  have hown' : s'.vm.findClass own = some m.cls := by rw [hvm]; exact hown
  have hins : (Cond.instantiable cls 6).before args s' = true := h _ (by simp [Bundle.ownAtoms])
  obtain ⟨vm₁, cX, kX, hfX, hkX, -, -, X₁, st1⟩ := Y.newCold hexec (own := own) (C := cls) (index := ik) (n := 6) hown' hk' hins hini'
    (g := F0 m pc ls rest) rfl (by rw [hb]; exact d0) (Nat.le_refl _) (Nat.le_refl _)
  generalize hT1 : (T.setVm vm₁).pushCell { cls := cX, slots := kX.instanceTypes.map defaultValue, vm := .none } = T1 at X₁ st1
  have hcat : (Value.ref T.heap.size).category = 1 := rfl
  have hcellA : T1.heap[T.heap.size]? = some (freshCell cX kX) := by rw [← hT1]; exact State.heap_pushCell_size _ _
  have d3' : decode c.code (pc + 3) = .ok (.dup, 1) := by rw [hb]; exact d3
  have d4' : decode c.code (pc + 4) = .ok (.ldc_w is, 3) := by rw [hb]; exact d4
  have hstr' : vk_R own is text sa s' := vk_R.warm hW0 hstr
  obtain ⟨U, hsteps, hrun, hend, hW, hsame, ce, hce, hO⟩ := X₁.ctorThrowS hexec htr (own := own) (cls := cls) (names := names) (ic := ic) hown' hcls hnames h (fun x hx => nomatch hx) hfX hkX hcellA (by rw [hhp, hT]; exact Nat.le_refl _) (msg := .ref sa) rfl
    (g := { method := m, pc := pc + 7, locals := ls, stack := .ref sa :: .ref T.heap.size :: .ref T.heap.size :: rest, locked := none }) rfl hsize rfl rfl (rest := rest) rfl
    (by rw [hb]; exact d7) (by rw [hb]; exact d10) hout hRframes (by simp only [List.map_cons, List.sum_cons, hcat]; omega) hlocks
  obtain ⟨f1, f2⟩ := vx_frame hsame
  rw [hhp] at f1 f2
  have hWs : s.WarmedH U.vm := State.WarmedH.trans hW0 hW
  have hcl : s.vm.findClass cls = some ce.cls := by
    have h9 := hO.cls
    rw [hvm] at h9
    exact h9
  have hall : s.sameButNew ({ U with vm := s.vm } : State) locs mc ms := by
    subst hA
    obtain ⟨e1, e2⟩ := hsame
    rw [State.setFrames_setFrames] at e1
    have h2 : (T.setVm s.vm).sameButNew ({ U with vm := s.vm } : State) [] (0 + 1) (0 + 6) := ⟨e1, e2⟩
    have h3 := X.same.trans h2
    rw [List.append_nil] at h3
    exact h3.mono hc hs
  refine ⟨U, ?_, .threw T.heap.size, hrun, hend, Or.inr ⟨T.heap.size, rfl, cls, ce, locs, hx U hWs.alike f1 (fun q hq => f2 q hq (fun z hz => nomatch hz)), hce, hO.vm, hcl, hWs, hall, hf⟩⟩
  refine st1 _ ?_
  show Steps p.tables e below (T1.setTop { method := m, pc := pc + 3, locals := ls, stack := .ref T.heap.size :: rest, locked := none }) _
  jvm_step X₁.here [X₁.here.top, hexec, d3', Value.category]
  exact X₁.ldcStringW hexec (own := own) (text := text) (index := is) (a := sa) hown' hstr'.1 hstr'.2
    (g := { method := m, pc := pc + 4, locals := ls, stack := .ref T.heap.size :: .ref T.heap.size :: rest, locked := none }) rfl d4' _ hsteps
end Ends
section Bodies
variable {l : Launch}
theorem vx_ofW {y : MethodName} {ws ws' : List Cond} {rm : Room} {Pc : Array Value → State → Prop} {Qc : Array Value → State → Outcome → State → Prop} {XC : String → State → State → Prop} {mc ms : Nat} {free : Addr → Prop} {cc : ByteArray} {maxL : Nat} {ret : Option FieldType}
    (hy : plainName y.cls = true) (hw : ws = Cond.code y cc maxL ret :: ws')
    (body : ∀ p e s m args below meth c s₁, BodyLoose p l y (headSpec ws rm) cc maxL ret e s m args below meth c s₁ → c.maxLocals = maxL → (∀ x ∈ c.exceptionTable.toList, False) → Pc args s →
      W p l e (headSpec ws rm).room s m args below meth c s.heap [] 0 0 (vx_MQ below Qc XC args s mc ms free) (entryFrame m args maxL)) : vx_Met l y ws rm Pc Qc XC mc ms free := by
  refine MetFree.of_bodyS (code := cc) (maxLocals := maxL) (ret := ret) hy ?_ ?_
  · intro args s m h hn
    obtain ⟨meth, c, h1, h2, h3, h4, h5, h6, -, -⟩ := Cond.code_spec hn (atoms_spec (ws := ws) h _ (by rw [hw]; exact List.mem_cons_self))
    exact ⟨meth, c, h1, h2, h3, h4, h5, h6⟩
  · intro p e s m args below meth c s₁ B hml hP _
    have hh0 : s₁.heap = s.heap := by rw [B.state]; rfl
    have ht : ∀ x ∈ c.exceptionTable.toList, False := by
      obtain ⟨meth9, c9, h1, h2, -, -, -, -, h7, -⟩ := Cond.code_spec B.named (atoms_spec (ws := ws) B.pre _ (by rw [hw]; exact List.mem_cons_self))
      cases Option.some.inj (h1.symm.trans B.method)
      cases Option.some.inj (h2.symm.trans (Stand.of_body B).code)
      intro x hx
      rw [Array.isEmpty_iff.mp h7] at hx
      cases hx
    obtain ⟨t, a1, o, b1, b2, b3⟩ := body p e s m args below meth c s₁ B hml ht hP s₁ hh0 (Stand.of_body B)
    exact ⟨t, o, a1, b1, b2, b3⟩
/-- the table of a body with handlers -/
theorem vx_table {p : Program} {x y : MethodName} {S : Spec} {cc bytes : ByteArray} {maxL maxL' : Nat} {ret ret' : Option FieldType} {e : Env} {s s₁ : State} {m : MethodId} {args : Array Value} {below : List Frame} {meth : Method} {c : Code} {hh : List (Nat × Nat × Nat × Nat)}
    (B : BodyLoose p l y S cc maxL ret e s m args below meth c s₁) (h : (Cond.codeWith y bytes maxL' ret' hh).before args s = true) : c.exceptionTable.toList = tableOf hh := by
  obtain ⟨m9, meth9, c9, hn9, h1, h2, -, -, h6, -⟩ := Cond.codeWith_spec h
  cases Option.some.inj (hn9.symm.trans B.named)
  cases Option.some.inj (h1.symm.trans B.method)
  cases Option.some.inj (h2.symm.trans (Stand.of_body B).code)
  rw [← h6, table_eq]
end Bodies
end VXA
/-! ===== END ===== -/
/-! ===== BEGIN a static call of a method with an exception table ===== -/
section VXS
variable {p : Program} {l : Launch} {e : Env} {R : Room} {s : State} {m : MethodId} {args : Array Value} {below : List Frame} {meth : Method} {c : Code} {T : State} {H : Heap} {locs : List Loc} {cells slots : Nat}
abbrev vx_CSW (R : Room) (s : State) (args : Array Value) (own : String) (index : Nat) (y : MethodName) (bytes : ByteArray) (maxL : Nat) (ret : Option FieldType) (hh : List (Nat × Nat × Nat × Nat)) (ws : List Cond) (rm : Room) (mc ms n : Nat) : Prop :=
  (rm.cells = mc ∧ rm.slots = ms ∧ rm.frames + 1 ≤ R.frames ∧ 8 + (maxL + 11) + rm.locals ≤ R.locals ∧ (∀ w ∈ ws, ∀ (a' : Array Value) (U : State), s.WarmedH U.vm → w.before a' U = true) ∧ Cond.codeWith y bytes maxL ret hh ∈ ws) ∧
  (Cond.codeWith y bytes maxL ret hh).before args s = true ∧ (Cond.initialized y.cls).before args s = true ∧ (y.cls ≠ "java/lang/invoke/MethodHandle" ∧ y.cls ≠ "java/lang/invoke/VarHandle") ∧
  (∀ sig, parseMethodDescriptor y.desc = some sig → n = sig.parameters.length) ∧ (Cond.methodLink own index y).before args s = true ∧ (Cond.static y).before args s = true
theorem vx_cwSW {own : String} {index maxL mc ms : Nat} {y : MethodName} {bytes : ByteArray} {ret : Option FieldType} {hh : List (Nat × Nat × Nat × Nat)} {Ts ws ws' : List Cond} {rm : Room} (n : Nat) (ht : ∀ w ∈ Ts, w.before args s = true) (hT : GoodIn Ts (va_wsS own index y ws)) (hw : ws = Cond.codeWith y bytes maxL ret hh :: ws') (hrc : rm.cells = mc) (hrs : rm.slots = ms)
    (hd : y.cls ≠ "java/lang/invoke/MethodHandle" ∧ y.cls ≠ "java/lang/invoke/VarHandle" ∧ (parseMethodDescriptor y.desc).map (fun d => d.parameters.length) = some n) (hR : rm.frames + 1 ≤ R.frames ∧ 8 + (maxL + 11) + rm.locals ≤ R.locals) :
    vx_CSW R s args own index y bytes maxL ret hh ws rm mc ms n := by
  have ok : ∀ w ∈ va_wsS own index y ws, w.before args s = true := fun w h => ht w (hT w h).1
  have hG : GoodIn Ts ws := fun w h => hT w (by unfold va_wsS; exact List.mem_append_right _ h)
  have hc : Cond.codeWith y bytes maxL ret hh ∈ ws := by rw [hw]; exact List.mem_cons_self
  refine ⟨⟨hrc, hrs, hR.1, hR.2, pay_in ht hG, hc⟩, ht _ (hG _ hc).1, ok _ (by simp [va_wsS]), ⟨hd.1, hd.2.1⟩, fun sig h => ?_, ok _ (by simp [va_wsS]), ok _ (by simp [va_wsS])⟩
  have h2 := hd.2.2
  rw [h] at h2
  exact (Option.some.inj h2).symm
theorem vx_callSW (X : Stand p l e R s m args below meth c T locs cells slots) (hexec : p.tables.exec = Jvm.exec) {own : String} {index : Nat} {y : MethodName} {bytes : ByteArray} {maxL : Nat} {ret : Option FieldType} {hh : List (Nat × Nat × Nat × Nat)}
    (hown : s.vm.findClass own = some m.cls) (hlink : (Cond.methodLink own index y).before args s = true) (hstat : (Cond.static y).before args s = true) (hinit : (Cond.initialized y.cls).before args s = true)
    (hcode : (Cond.codeWith y bytes maxL ret hh).before args s = true) (hy : y.cls ≠ "java/lang/invoke/MethodHandle" ∧ y.cls ≠ "java/lang/invoke/VarHandle")
    {W9 : Nat} {Pre : Pt → Array Value → Prop} {Post : Pt → Array Value → Option Value → Pt → Prop} (hK : Back l R p e below s args y 3 W9 Pre Post)
    {g : JFrame} (hg : g.method = m) (hsize : g.locals.size = c.maxLocals) {argsL rest : List Value} (hlen : ∀ sig, parseMethodDescriptor y.desc = some sig → argsL.length = sig.parameters.length)
    (hstack : g.stack = argsL.reverse ++ rest) (hW : 2 * g.monitorRoom + (rest.map fun v => v.category).sum ≤ W9) (hdg : decode c.code g.pc = .ok (.invokestatic index, 3))
    (hpre : ∀ vm₁, s.WarmedH vm₁ → Pre ⟨T.setVm vm₁, locs, cells, slots⟩ argsL.toArray) :
    ∃ (v : Option Value) (vm₁ : Vm) (B : Pt), s.WarmedH vm₁ ∧ Stand p l e R s m args below meth c B.U B.locs B.cells B.slots ∧ Post ⟨T.setVm vm₁, locs, cells, slots⟩ argsL.toArray v B ∧
      ∀ target, Steps p.tables e below (B.U.setTop { g with pc := g.pc + 3, stack := v.toList ++ rest }) target → Steps p.tables e below (T.setTop g) target := by
  obtain ⟨mk, methM, cM, hnamed, hmethM, -, -, -, -, -, -, hsigM⟩ := Cond.codeWith_spec hcode
  have hstatic : methM.isStatic = true := Cond.static_spec hnamed hmethM hstat
  obtain ⟨kP, hkP, -⟩ := className_of_methodNamed hnamed
  have hinitP : kP.init = .initialized := Cond.initialized_spec (findClass_of_methodNamed hnamed) hkP hinit
  obtain ⟨vm₁, X₁, hstep₁⟩ := X.invokestatic hexec hown hlink hnamed hmethM hstatic hkP hinitP hy (g := g) hg (argsL := argsL) (rest := rest) (hlen _ hsigM) hstack hdg
  obtain ⟨v, B, X', hpost, hsteps⟩ := hK m meth c ⟨T.setVm vm₁, locs, cells, slots⟩ { g with stack := rest } (.invokestatic index) mk argsL.toArray X₁ hg hsize hdg hW (X₁.named hnamed) (hpre vm₁ X₁.warmed)
  exact ⟨v, vm₁, B, X₁.warmed, X', hpost, fun target h => hstep₁ _ fun acts => by rw [doInvoke_state]; exact hsteps.trans h⟩
theorem vx_runSW {y : MethodName} {bytes cc : ByteArray} {maxL nL mc ms n index : Nat} {ret : Option FieldType} {hh : List (Nat × Nat × Nat × Nat)} {ws : List Cond} {rm : Room} {Pc : Array Value → State → Prop} {Qc : Array Value → State → Outcome → State → Prop} {free : Addr → Prop} {Ts : List Cond} {own : String} {As rest : List Value} {g : JFrame}
    (S : CallFix p m c cc nL s args Ts own) (hM : Met l y ws rm Pc Qc mc ms free) (cw : vx_CSW R s args own index y bytes maxL ret hh ws rm mc ms n) (hp : PreS s H Pc As)
    (hg : g.method = m) (hn : As.length = n) (hsize : g.locals.size = nL) (hstack : g.stack = As.reverse ++ rest) (hW : 2 * g.monitorRoom + (rest.map fun v => v.category).sum ≤ 8) (hdg : decode cc g.pc = .ok (.invokestatic index, 3)) (hf : cells + mc ≤ R.cells ∧ slots + ms ≤ R.slots) :
    va_Run p l e R s m args below meth c H locs cells slots mc ms g rest (Qc As.toArray) (free) := by
  obtain ⟨⟨hrc, hrs, hfr, hlo, hws, hcw⟩, hcode, hini, hy, hlen, hl, hstt⟩ := cw
  have hK : Back l R p e below s args y 3 8 (PreOf R mc ms Pc) (PostOf Qc mc ms free) := va_backW (hh := hh) (bytes := bytes) (maxL := maxL) (ret := ret) hM hp.1 hrc hrs hfr hlo hws hcw (fun a' U hW => word_at hW (Or.inl (by first | rfl | simp [Cond.onTables, Cond.keeps, Cond.steady])) hini)
  obtain ⟨hx, hb, hml, ho, -⟩ := S
  intro T hT X
  obtain ⟨v, vm₁, ⟨U', l2, c2, s2⟩, hW₁, X', ⟨g', mk, t, L, e1, e2, hq, h1, hL, h2, h3⟩, st⟩ := vx_callSW X hx (hh := hh) (bytes := bytes) (maxL := maxL) (ret := ret) ho hl hstt hini hcode hy hK hg (hsize.trans hml.symm) (argsL := As) (rest := rest) (fun sig h => hn.trans (hlen sig h)) hstack hW (by rw [hb]; exact hdg)
    (fun vm₁ hW₁ => ⟨hf.1, hf.2, hp.2 (T.setVm vm₁) hT hW₁⟩)
  dsimp only [Pt.U, Pt.locs, Pt.cells, Pt.slots] at X' e1 e2 h1 h2 h3 st
  subst h1; subst h2; subst h3
  exact ⟨v, (T.setVm vm₁).calling g' mk As.toArray, t, U', L, hT, X', hL, e1, e2, hq, st⟩
/-- not caught here, past rows that name other classes: it goes on to the caller -/
theorem vx_outP {p : Program} {l : Launch} {e : Env} {R : Room} {s : State} {m : MethodId} {args : Array Value} {below : List Frame} {meth : Method} {c : Code} {H : Heap} {locs : List Loc} {cells slots : Nat} {free : Addr → Prop} {ls : Array Slot} {rest : List Value} {Qc : Array Value → State → Outcome → State → Prop} {XC : String → State → State → Prop}
    {pc : Nat} {own E : String} {ce : Cell} {q : Addr} {mc ms : Nat} (hown : s.vm.findClass own = some m.cls) (hlocks : meth.locks = false)
    (hpass : ∀ z ∈ c.exceptionTable.toList, covers z pc = false ∨ (z.catchType ≠ 0 ∧ ∃ nm : String, (Cond.classLink own z.catchType nm).before args s = true ∧ va_Nc E nm s)) (hcell : H[q]? = some ce) (hv : ce.vm = .none) (hcl : s.vm.findClass E = some ce.cls)
    (hx : ∀ t : State, t.heap = H → s.vm.Alike t.vm → XC E s t) (hf : ∀ z ∈ locs, free z.base) (hc : cells ≤ mc) (hs : slots ≤ ms) :
    vx_W p l e R s m args below meth c H locs cells slots (vx_MQ below Qc XC args s mc ms free) (F0 m pc ls rest) q := by
  intro T hT X
  have hpl : e.platform.magicAccessors = ({} : Platform).magicAccessors := by rw [X.admits.platform]
  obtain ⟨vm', hW', X', st⟩ := X.outThrough hlocks q (g := F0 m pc ls rest) rfl rfl rfl (cell := ce) (by rw [hT]; exact hcell) (by rw [hv]; rfl)
    (by obtain ⟨k9, h9, -⟩ := Vm.findClass_spec hcl; exact ⟨k9, h9⟩) (fun z hz => by
      rcases hpass z hz with h | ⟨hz0, nm, hl1, hn1⟩
      · exact Or.inl h
      · obtain ⟨c6, hc6, hcl6⟩ := Cond.classLink_spec hown hl1 e.platform hpl
        obtain ⟨a8, b8, h1, h2, h3⟩ := hn1
        cases Option.some.inj (h1.symm.trans hcl)
        cases Option.some.inj (h2.symm.trans hc6)
        exact Or.inr ⟨hz0, _, hcl6, h3⟩)
  obtain ⟨g₀, hfr⟩ := X'.frames_eq
  have hcell9 : ((T.setVm vm').setFrames (.throwing q :: below)).heap[q]? = some ce := by
    show T.heap[q]? = some ce
    rw [hT]; exact hcell
  have hend : Ended ((T.setVm vm').setFrames (.throwing q :: below)) below (.threw q) := State.frames_setFrames _ (State.cur_lt_of_frames hfr)
  refine ⟨(T.setVm vm').setFrames (.throwing q :: below), ?_, .threw q, X'.here.running, hend, Or.inr ⟨q, rfl, E, ce, locs, hx _ hT (X'.ends _).1.alike, hcell9, hv, hcl, (X'.ends _).1, (X'.ends _).2.mono hc hs, hf⟩⟩
  rw [X.pushThrowing_eq]
  exact st
/-- a thing of a world lies in the heap -/
theorem vx_lt {D : va_G} {cl : List vw_C} {ws : va_W} {H1 : Heap} (h : va_P D cl ws H1) {k : Nat} {q : Nat × va_E} (hk : ws[k]? = some q) : q.1 < H1.size := (h k q hk).lt
end VXS
/-! ===== END ===== -/
/-! ===== BEGIN methods with a table of their own: called by a name, returning or throwing ===== -/
section VXH
/-! vx_backW, vx_callVX, vx_callSX, vx_callVW, vx_runVW, vx_runVX, vx_runSX, vx_ofWH follow the same proofs as their sisters above (Free/Laws.lean, Shelf42/LK1.lean); vx_outP calls Shelf42/NT130.lean (outThrough). -/
section
variable {l : Launch} {R : Room} {p : Program} {e : Env} {below : List Frame} {s : State} {sargs : Array Value} {y : MethodName} {len W9 : Nat}
theorem vx_backW {ws : List Cond} {rm : Room} {Pc : Array Value → State → Prop} {Qc : Array Value → State → Outcome → State → Prop} {XC : String → State → State → Prop} {mc ms : Nat} {free : Addr → Prop} {bytes : ByteArray} {maxL : Nat} {ret : Option FieldType} {hh : List (Nat × Nat × Nat × Nat)}
    (hM : vx_Met l y ws rm Pc Qc XC mc ms free) (hblind : FrameBlind Pc) (hrc : rm.cells = mc) (hrs : rm.slots = ms)
    (hframes : rm.frames + 1 ≤ R.frames) (hlocals : W9 + (maxL + 11) + rm.locals ≤ R.locals)
    (hws : ∀ w ∈ ws, ∀ a' U, s.WarmedH U.vm → w.before a' U = true) (hcode : Cond.codeWith y bytes maxL ret hh ∈ ws) (hinit : ∀ a' U, s.WarmedH U.vm → (Cond.initialized y.cls).before a' U = true) :
    vx_Back l R p e below s sargs y len W9 (PreOf R mc ms Pc) (PostOf Qc mc ms free) (vx_Post XC mc ms free) := by
  intro m meth c A g ig mk a X hg hsize hdg hW hn hp
  have h1 : (headSpec ws rm).pre.before a A.U = true := atoms_intro fun w hw => hws w hw _ _ X.warmed
  have h2 : (Cond.codeWith y bytes maxL ret hh).before a A.U = true := hws _ hcode _ _ X.warmed
  have h3 : (Cond.initialized y.cls).before a A.U = true := hinit _ _ X.warmed
  have h4 : A.cells + (headSpec ws rm).room.cells ≤ R.cells := by rw [show (headSpec ws rm).room.cells = mc from hrc]; exact hp.1
  have h5 : A.slots + (headSpec ws rm).room.slots ≤ R.slots := by rw [show (headSpec ws rm).room.slots = ms from hrs]; exact hp.2.1
  have hPc : Pc a (A.U.calling g mk a) := hblind _ _ _ _ hp.2.2
  obtain ⟨U, Ls, c0, s0⟩ := A
  dsimp only [Pt.U, Pt.locs, Pt.cells, Pt.slots] at h1 h2 h3 h4 h5 X hn hPc ⊢
  obtain ⟨m9, methY, cY, hn9, hmY, hcY, -, hlY, -⟩ := Cond.codeWith_spec h2
  cases Option.some.inj (hn9.symm.trans hn)
  obtain ⟨kY, hkY, -⟩ := className_of_methodNamed hn
  have hinitY : kY.init = .initialized := Cond.initialized_spec (findClass_of_methodNamed hn) hkY h3
  have h : At U g.method c below := by rw [hg]; exact X.here
  have hlocals9 : W9 + (maxL + 11) + (headSpec ws rm).room.locals ≤ R.locals := hlocals
  have happ : (headSpec ws rm).appliesLoose y e.platform (U.calling g mk a) = true :=
    Spec.appliesLoose_calling (g := g) h hdg hn hkY hinitY
      (X.room_calling (g := g) (R' := (headSpec ws rm).room) hsize hmY hcY hframes (by rw [hlY]; omega) h4 h5) h1
  obtain ⟨mid, hmid⟩ := h.above
  have hfr : (U.setTop g).frames = (.java g :: mid) ++ below := by rw [State.frames_setTop' g h.top, hmid]; rfl
  obtain ⟨o, s₂, hsteps, -, hend, hq⟩ := Steps.callFree hM p X.admits X.cas X.clock (acts := []) hfr happ hPc trivial
  have hq' : vx_Q Qc XC mc ms free a (U.calling g mk a) o s₂ := hq
  rw [State.frames_setTop' g h.top] at hend
  obtain ⟨g₀, hg0⟩ := Option.isSome_iff_exists.mp h.top
  obtain ⟨r, hr⟩ := State.topJava?_eq_some.mp hg0
  have hr' : (({ U with heap := s₂.heap, slotsUsed := s₂.slotsUsed } : State).setVm s₂.vm).frames = .java g₀ :: r := hr
  rcases hq' with ⟨hqc, L, hfe, hL⟩ | ⟨q, rfl, E, ce, L, hx, hce, hcv, hcl, hW₂, hsm, hL⟩
  · obtain ⟨⟨v, rfl⟩, hW₂, e2, q2, q3, q4, q5, q6⟩ := id hfe
    have e3 : s₂ = ({ (U.calling g mk a).setFrames s₂.frames with heap := s₂.heap, slotsUsed := s₂.slotsUsed } : State).setVm s₂.vm := by
      have : s₂ = ({ s₂ with vm := (U.calling g mk a).vm } : State).setVm s₂.vm := rfl
      rw [e2] at this
      exact this
    obtain ⟨c₂, i₂, len₂, hc₂, hd₂, hf₂⟩ := hend
    have hW' : U.WarmedH s₂.vm := hW₂
    have hcc : c₂ = c := by
      have h1 : s₂.code? g.method = U.code? g.method := by
        rw [State.code?_eq, State.code?_eq, hW'.alike.method?]
      exact Option.some.inj (hc₂.symm.trans (h1.trans h.code))
    subst hcc
    have hlen : len₂ = len := by rw [hdg] at hd₂; cases hd₂; rfl
    subst hlen
    have hs₂ : s₂ = (({ U with heap := s₂.heap, slotsUsed := s₂.slotsUsed } : State).setVm s₂.vm).setTop { g with pc := g.pc + len₂, stack := v.toList ++ g.stack } := by
      refine e3.trans ?_
      rw [hf₂, State.calling_eq h.top, State.setFrames_setFrames, State.setTop_of_frames _ hr', hr]
      rfl
    have hsame : U.sameButNew ({ U with heap := s₂.heap, slotsUsed := s₂.slotsUsed } : State) L mc ms := by
      refine ⟨?_, q2, q3, q4, q5, q6⟩
      obtain ⟨t, ht, -⟩ := State.frames_cons hr
      show ({ U with heap := s₂.heap, slotsUsed := s₂.slotsUsed } : State) = { U.setFrames U.frames with heap := s₂.heap, slotsUsed := s₂.slotsUsed }
      rw [State.setFrames_self ht]
    subst hg
    refine Or.inl ⟨v, ⟨(({ U with heap := s₂.heap, slotsUsed := s₂.slotsUsed } : State).setVm s₂.vm), Ls ++ L, c0 + mc, s0 + ms⟩,
      ⟨X.admits, X.cas, X.clock, X.frames, X.room, X.hears, X.method, X.code, (X.here.setHeapUsed s₂.heap s₂.slotsUsed).setVm hW'.alike, X.tail, State.WarmedH.trans X.warmed hW', X.limits, X.bytes, X.same.trans (hsame.setVm s.vm)⟩,
      ⟨g, mk, s₂, L, rfl, rfl, hqc, rfl, hL, rfl, rfl⟩, ?_⟩
    show Steps p.tables e below _ ((({ U with heap := s₂.heap, slotsUsed := s₂.slotsUsed } : State).setVm s₂.vm).setTop { g with pc := g.pc + len₂, stack := v.toList ++ g.stack })
    rw [← hs₂]
    exact hsteps
  · obtain ⟨e2, q2, q3, q4, q5, q6⟩ := id hsm
    have e3 : s₂ = ({ (U.calling g mk a).setFrames s₂.frames with heap := s₂.heap, slotsUsed := s₂.slotsUsed } : State).setVm s₂.vm := by
      have : s₂ = ({ s₂ with vm := (U.calling g mk a).vm } : State).setVm s₂.vm := rfl
      rw [e2] at this
      exact this
    have hf₂ : s₂.frames = .throwing q :: .java g :: U.frames.tail := hend
    have hW' : U.WarmedH s₂.vm := hW₂
    have hs₂ : s₂ = ((({ U with heap := s₂.heap, slotsUsed := s₂.slotsUsed } : State).setVm s₂.vm).setTop g).pushFrame (.throwing q) := by
      refine e3.trans ?_
      rw [hf₂, State.calling_eq h.top, State.setFrames_setFrames, State.pushFrame, State.frames_setTop _ hr', State.setTop_of_frames _ hr', State.setFrames_setFrames, hr]
      rfl
    have hsame : U.sameButNew ({ U with heap := s₂.heap, slotsUsed := s₂.slotsUsed } : State) L mc ms := by
      refine ⟨?_, q2, q3, q4, q5, q6⟩
      obtain ⟨t, ht, -⟩ := State.frames_cons hr
      show ({ U with heap := s₂.heap, slotsUsed := s₂.slotsUsed } : State) = { U.setFrames U.frames with heap := s₂.heap, slotsUsed := s₂.slotsUsed }
      rw [State.setFrames_self ht]
    subst hg
    refine Or.inr ⟨q, ⟨(({ U with heap := s₂.heap, slotsUsed := s₂.slotsUsed } : State).setVm s₂.vm), Ls ++ L, c0 + mc, s0 + ms⟩,
      ⟨X.admits, X.cas, X.clock, X.frames, X.room, X.hears, X.method, X.code, (X.here.setHeapUsed s₂.heap s₂.slotsUsed).setVm hW'.alike, X.tail, State.WarmedH.trans X.warmed hW', X.limits, X.bytes, X.same.trans (hsame.setVm s.vm)⟩,
      ⟨g, mk, s₂, L, E, ce, rfl, rfl, hx, hce, hcv, hcl, rfl, hL, rfl, rfl⟩, ?_⟩
    show Steps p.tables e below _ (((({ U with heap := s₂.heap, slotsUsed := s₂.slotsUsed } : State).setVm s₂.vm).setTop g).pushFrame (.throwing q))
    rw [← hs₂]
    exact hsteps
end
variable {p : Program} {l : Launch} {e : Env} {R : Room} {s : State} {m : MethodId} {args : Array Value} {below : List Frame} {meth : Method} {c : Code} {T : State} {H : Heap} {locs : List Loc} {cells slots : Nat}
theorem vx_callVX (X : Stand p l e R s m args below meth c T locs cells slots) (hexec : p.tables.exec = Jvm.exec) {own C : String} {index : Nat} {y : MethodName} {bytes : ByteArray} {maxL : Nat} {ret : Option FieldType} {hh : List (Nat × Nat × Nat × Nat)}
    (hown : s.vm.findClass own = some m.cls) (hlink : (Cond.methodLink own index y).before args s = true) (hinst : (Cond.instanceMethod y).before args s = true) (hsel : (Cond.selects C y y).before args s = true)
    (hcode : (Cond.codeWith y bytes maxL ret hh).before args s = true) (hy : y.cls ≠ "java/lang/invoke/MethodHandle" ∧ y.cls ≠ "java/lang/invoke/VarHandle")
    {W9 : Nat} {Pre : Pt → Array Value → Prop} {Post : Pt → Array Value → Option Value → Pt → Prop} {PostX : Pt → Array Value → Addr → Pt → Prop} (hK : vx_Back l R p e below s args y 3 W9 Pre Post PostX)
    {b : Addr} {cellB : Cell} (hcell : T.heap[b]? = some cellB) (hobj : cellB.vm.isStatics = false) (hcls : s.vm.findClass C = some cellB.cls)
    {g : JFrame} (hg : g.method = m) (hsize : g.locals.size = c.maxLocals) {argsL rest : List Value} (hlen : ∀ sig, parseMethodDescriptor y.desc = some sig → argsL.length = sig.parameters.length)
    (hstack : g.stack = argsL.reverse ++ .ref b :: rest) (hW : 2 * g.monitorRoom + (rest.map fun v => v.category).sum ≤ W9) (hdg : decode c.code g.pc = .ok (.invokevirtual index, 3))
    (hpre : ∀ vm₁, s.WarmedH vm₁ → Pre ⟨T.setVm vm₁, locs, cells, slots⟩ (Value.ref b :: argsL).toArray) :
    (∃ (v : Option Value) (vm₁ : Vm) (B : Pt), s.WarmedH vm₁ ∧ Stand p l e R s m args below meth c B.U B.locs B.cells B.slots ∧ Post ⟨T.setVm vm₁, locs, cells, slots⟩ (Value.ref b :: argsL).toArray v B ∧
      ∀ target, Steps p.tables e below (B.U.setTop { g with pc := g.pc + 3, stack := v.toList ++ rest }) target → Steps p.tables e below (T.setTop g) target) ∨
    (∃ (q : Addr) (vm₁ : Vm) (B : Pt), s.WarmedH vm₁ ∧ Stand p l e R s m args below meth c B.U B.locs B.cells B.slots ∧ PostX ⟨T.setVm vm₁, locs, cells, slots⟩ (Value.ref b :: argsL).toArray q B ∧
      Steps p.tables e below (T.setTop g) ((B.U.setTop { g with stack := rest }).pushFrame (.throwing q))) := by
  obtain ⟨mk, methM, hnamed, hmethM, hstM, habM⟩ := Cond.instanceMethod_spec hinst
  obtain ⟨m8, methM', cM, hn8, hmethM', -, -, -, -, -, -, hsigM⟩ := Cond.codeWith_spec hcode
  cases Option.some.inj (hn8.symm.trans hnamed)
  cases hmethM.symm.trans hmethM'
  obtain ⟨c2, r2, m2, q1, q2, q3, q4, kP, hkP, hkPi⟩ := Cond.selects_spec hsel
  cases hcls.symm.trans q1
  cases (State.methodFound?_of_named hnamed hy).symm.trans q2
  cases hnamed.symm.trans q3
  have hselP : selectMethod e.platform s.vm cellB.cls mk = .method mk := by rw [Launch.admits_selectMethod X.admits]; exact q4
  obtain ⟨vm₁, X₁, hstep₁⟩ := X.invokevirtual hexec hown hlink hnamed hmethM hstM hkP hkPi hy (a := b) (cell := cellB) hcell
    (fun z h => by rw [h] at hobj; cases hobj) hselP hmethM habM hkP hkPi (g := g) hg (argsL := argsL) (rest := rest) (hlen _ hsigM) hstack hdg
  rcases hK m meth c ⟨T.setVm vm₁, locs, cells, slots⟩ { g with stack := rest } (.invokevirtual index) mk (Value.ref b :: argsL).toArray X₁ hg hsize hdg hW (X₁.named hnamed) (hpre vm₁ X₁.warmed) with ⟨v, B, X', hpost, hsteps⟩ | ⟨q, B, X', hpost, hsteps⟩
  · exact Or.inl ⟨v, vm₁, B, X₁.warmed, X', hpost, fun target h => hstep₁ _ fun acts => by rw [doInvoke_state]; exact hsteps.trans h⟩
  · exact Or.inr ⟨q, vm₁, B, X₁.warmed, X', hpost, hstep₁ _ fun acts => by rw [doInvoke_state]; exact hsteps⟩
theorem vx_callSX (X : Stand p l e R s m args below meth c T locs cells slots) (hexec : p.tables.exec = Jvm.exec) {own : String} {index : Nat} {y : MethodName} {bytes : ByteArray} {maxL : Nat} {ret : Option FieldType} {hh : List (Nat × Nat × Nat × Nat)}
    (hown : s.vm.findClass own = some m.cls) (hlink : (Cond.methodLink own index y).before args s = true) (hstat : (Cond.static y).before args s = true) (hinit : (Cond.initialized y.cls).before args s = true)
    (hcode : (Cond.codeWith y bytes maxL ret hh).before args s = true) (hy : y.cls ≠ "java/lang/invoke/MethodHandle" ∧ y.cls ≠ "java/lang/invoke/VarHandle")
    {W9 : Nat} {Pre : Pt → Array Value → Prop} {Post : Pt → Array Value → Option Value → Pt → Prop} {PostX : Pt → Array Value → Addr → Pt → Prop} (hK : vx_Back l R p e below s args y 3 W9 Pre Post PostX)
    {g : JFrame} (hg : g.method = m) (hsize : g.locals.size = c.maxLocals) {argsL rest : List Value} (hlen : ∀ sig, parseMethodDescriptor y.desc = some sig → argsL.length = sig.parameters.length)
    (hstack : g.stack = argsL.reverse ++ rest) (hW : 2 * g.monitorRoom + (rest.map fun v => v.category).sum ≤ W9) (hdg : decode c.code g.pc = .ok (.invokestatic index, 3))
    (hpre : ∀ vm₁, s.WarmedH vm₁ → Pre ⟨T.setVm vm₁, locs, cells, slots⟩ argsL.toArray) :
    (∃ (v : Option Value) (vm₁ : Vm) (B : Pt), s.WarmedH vm₁ ∧ Stand p l e R s m args below meth c B.U B.locs B.cells B.slots ∧ Post ⟨T.setVm vm₁, locs, cells, slots⟩ argsL.toArray v B ∧
      ∀ target, Steps p.tables e below (B.U.setTop { g with pc := g.pc + 3, stack := v.toList ++ rest }) target → Steps p.tables e below (T.setTop g) target) ∨
    (∃ (q : Addr) (vm₁ : Vm) (B : Pt), s.WarmedH vm₁ ∧ Stand p l e R s m args below meth c B.U B.locs B.cells B.slots ∧ PostX ⟨T.setVm vm₁, locs, cells, slots⟩ argsL.toArray q B ∧
      Steps p.tables e below (T.setTop g) ((B.U.setTop { g with stack := rest }).pushFrame (.throwing q))) := by
  obtain ⟨mk, methM, cM, hnamed, hmethM, -, -, -, -, -, -, hsigM⟩ := Cond.codeWith_spec hcode
  have hstatic : methM.isStatic = true := Cond.static_spec hnamed hmethM hstat
  obtain ⟨kP, hkP, -⟩ := className_of_methodNamed hnamed
  have hinitP : kP.init = .initialized := Cond.initialized_spec (findClass_of_methodNamed hnamed) hkP hinit
  obtain ⟨vm₁, X₁, hstep₁⟩ := X.invokestatic hexec hown hlink hnamed hmethM hstatic hkP hinitP hy (g := g) hg (argsL := argsL) (rest := rest) (hlen _ hsigM) hstack hdg
  rcases hK m meth c ⟨T.setVm vm₁, locs, cells, slots⟩ { g with stack := rest } (.invokestatic index) mk argsL.toArray X₁ hg hsize hdg hW (X₁.named hnamed) (hpre vm₁ X₁.warmed) with ⟨v, B, X', hpost, hsteps⟩ | ⟨q, B, X', hpost, hsteps⟩
  · exact Or.inl ⟨v, vm₁, B, X₁.warmed, X', hpost, fun target h => hstep₁ _ fun acts => by rw [doInvoke_state]; exact hsteps.trans h⟩
  · exact Or.inr ⟨q, vm₁, B, X₁.warmed, X', hpost, hstep₁ _ fun acts => by rw [doInvoke_state]; exact hsteps⟩
theorem vx_callVW (X : Stand p l e R s m args below meth c T locs cells slots) (hexec : p.tables.exec = Jvm.exec) {own C : String} {index : Nat} {y : MethodName} {bytes : ByteArray} {maxL : Nat} {ret : Option FieldType} {hh : List (Nat × Nat × Nat × Nat)}
    (hown : s.vm.findClass own = some m.cls) (hlink : (Cond.methodLink own index y).before args s = true) (hinst : (Cond.instanceMethod y).before args s = true) (hsel : (Cond.selects C y y).before args s = true)
    (hcode : (Cond.codeWith y bytes maxL ret hh).before args s = true) (hy : y.cls ≠ "java/lang/invoke/MethodHandle" ∧ y.cls ≠ "java/lang/invoke/VarHandle")
    {W9 : Nat} {Pre : Pt → Array Value → Prop} {Post : Pt → Array Value → Option Value → Pt → Prop} (hK : Back l R p e below s args y 3 W9 Pre Post)
    {b : Addr} {cellB : Cell} (hcell : T.heap[b]? = some cellB) (hobj : cellB.vm.isStatics = false) (hcls : s.vm.findClass C = some cellB.cls)
    {g : JFrame} (hg : g.method = m) (hsize : g.locals.size = c.maxLocals) {argsL rest : List Value} (hlen : ∀ sig, parseMethodDescriptor y.desc = some sig → argsL.length = sig.parameters.length)
    (hstack : g.stack = argsL.reverse ++ .ref b :: rest) (hW : 2 * g.monitorRoom + (rest.map fun v => v.category).sum ≤ W9) (hdg : decode c.code g.pc = .ok (.invokevirtual index, 3))
    (hpre : ∀ vm₁, s.WarmedH vm₁ → Pre ⟨T.setVm vm₁, locs, cells, slots⟩ (Value.ref b :: argsL).toArray) :
    ∃ (v : Option Value) (vm₁ : Vm) (B : Pt), s.WarmedH vm₁ ∧ Stand p l e R s m args below meth c B.U B.locs B.cells B.slots ∧ Post ⟨T.setVm vm₁, locs, cells, slots⟩ (Value.ref b :: argsL).toArray v B ∧
      ∀ target, Steps p.tables e below (B.U.setTop { g with pc := g.pc + 3, stack := v.toList ++ rest }) target → Steps p.tables e below (T.setTop g) target := by
  obtain ⟨mk, methM, hnamed, hmethM, hstM, habM⟩ := Cond.instanceMethod_spec hinst
  obtain ⟨m8, methM', cM, hn8, hmethM', -, -, -, -, -, -, hsigM⟩ := Cond.codeWith_spec hcode
  cases Option.some.inj (hn8.symm.trans hnamed)
  cases hmethM.symm.trans hmethM'
  obtain ⟨c2, r2, m2, q1, q2, q3, q4, kP, hkP, hkPi⟩ := Cond.selects_spec hsel
  cases hcls.symm.trans q1
  cases (State.methodFound?_of_named hnamed hy).symm.trans q2
  cases hnamed.symm.trans q3
  have hselP : selectMethod e.platform s.vm cellB.cls mk = .method mk := by rw [Launch.admits_selectMethod X.admits]; exact q4
  obtain ⟨vm₁, X₁, hstep₁⟩ := X.invokevirtual hexec hown hlink hnamed hmethM hstM hkP hkPi hy (a := b) (cell := cellB) hcell
    (fun z h => by rw [h] at hobj; cases hobj) hselP hmethM habM hkP hkPi (g := g) hg (argsL := argsL) (rest := rest) (hlen _ hsigM) hstack hdg
  obtain ⟨v, B, X', hpost, hsteps⟩ := hK m meth c ⟨T.setVm vm₁, locs, cells, slots⟩ { g with stack := rest } (.invokevirtual index) mk (Value.ref b :: argsL).toArray X₁ hg hsize hdg hW (X₁.named hnamed) (hpre vm₁ X₁.warmed)
  exact ⟨v, vm₁, B, X₁.warmed, X', hpost, fun target h => hstep₁ _ fun acts => by rw [doInvoke_state]; exact hsteps.trans h⟩
abbrev vx_CVW (R : Room) (s : State) (args : Array Value) (own C : String) (index : Nat) (y : MethodName) (bytes : ByteArray) (maxL : Nat) (ret : Option FieldType) (hh : List (Nat × Nat × Nat × Nat)) (ws : List Cond) (rm : Room) (mc ms n : Nat) : Prop :=
  (rm.cells = mc ∧ rm.slots = ms ∧ rm.frames + 1 ≤ R.frames ∧ 8 + (maxL + 11) + rm.locals ≤ R.locals ∧ (∀ w ∈ ws, ∀ (a' : Array Value) (U : State), s.WarmedH U.vm → w.before a' U = true) ∧ Cond.codeWith y bytes maxL ret hh ∈ ws) ∧
  (Cond.codeWith y bytes maxL ret hh).before args s = true ∧ (Cond.initialized y.cls).before args s = true ∧ (y.cls ≠ "java/lang/invoke/MethodHandle" ∧ y.cls ≠ "java/lang/invoke/VarHandle") ∧
  (∀ sig, parseMethodDescriptor y.desc = some sig → n = sig.parameters.length) ∧ (Cond.methodLink own index y).before args s = true ∧ (Cond.instanceMethod y).before args s = true ∧ (Cond.selects C y y).before args s = true
theorem vx_cwVW {own C : String} {index maxL mc ms : Nat} {y : MethodName} {bytes : ByteArray} {ret : Option FieldType} {hh : List (Nat × Nat × Nat × Nat)} {Ts ws ws' : List Cond} {rm : Room} (n : Nat) (ht : ∀ w ∈ Ts, w.before args s = true) (hT : GoodIn Ts (wsV own index C y ws)) (hw : ws = Cond.codeWith y bytes maxL ret hh :: ws') (hrc : rm.cells = mc) (hrs : rm.slots = ms)
    (hd : y.cls = C ∧ y.cls ≠ "java/lang/invoke/MethodHandle" ∧ y.cls ≠ "java/lang/invoke/VarHandle" ∧ (parseMethodDescriptor y.desc).map (fun d => d.parameters.length) = some n) (hR : rm.frames + 1 ≤ R.frames ∧ 8 + (maxL + 11) + rm.locals ≤ R.locals) :
    vx_CVW R s args own C index y bytes maxL ret hh ws rm mc ms n := by
  obtain ⟨hC, hd⟩ := hd
  subst hC
  have ok : ∀ w ∈ wsV own index y.cls y ws, w.before args s = true := fun w h => ht w (hT w h).1
  have hG : GoodIn Ts ws := fun w h => hT w (by unfold wsV; exact List.mem_append_right _ h)
  have hc : Cond.codeWith y bytes maxL ret hh ∈ ws := by rw [hw]; exact List.mem_cons_self
  refine ⟨⟨hrc, hrs, hR.1, hR.2, pay_in ht hG, hc⟩, ht _ (hG _ hc).1, ok _ (by simp [wsV]), ⟨hd.1, hd.2.1⟩, fun sig h => ?_, ok _ (by simp [wsV]), ok _ (by simp [wsV]), ok _ (by simp [wsV])⟩
  have h2 := hd.2.2
  rw [h] at h2
  exact (Option.some.inj h2).symm
theorem vx_runVW {y : MethodName} {bytes cc : ByteArray} {maxL nL mc ms n index : Nat} {ret : Option FieldType} {hh : List (Nat × Nat × Nat × Nat)} {ws : List Cond} {rm : Room} {Pc : Array Value → State → Prop} {Qc : Array Value → State → Outcome → State → Prop} {free : Addr → Prop} {Ts : List Cond} {own C : String} {b : Addr} {As rest : List Value} {g : JFrame}
    (S : CallFix p m c cc nL s args Ts own) (hM : Met l y ws rm Pc Qc mc ms free) (cw : vx_CVW R s args own C index y bytes maxL ret hh ws rm mc ms n) (hp : PreV s H C b Pc As)
    (hg : g.method = m) (hn : As.length = n) (hsize : g.locals.size = nL) (hstack : g.stack = As.reverse ++ .ref b :: rest) (hW : 2 * g.monitorRoom + (rest.map fun v => v.category).sum ≤ 8) (hdg : decode cc g.pc = .ok (.invokevirtual index, 3)) (hf : cells + mc ≤ R.cells ∧ slots + ms ≤ R.slots) :
    va_Run p l e R s m args below meth c H locs cells slots mc ms g rest (Qc (Value.ref b :: As).toArray) free := by
  obtain ⟨⟨hrc, hrs, hfr, hlo, hws, hcw⟩, hcode, hini, hy, hlen, hl, hin, hse⟩ := cw
  have hK : Back l R p e below s args y 3 8 (PreOf R mc ms Pc) (PostOf Qc mc ms free) := va_backW (hh := hh) (bytes := bytes) (maxL := maxL) (ret := ret) hM hp.1 hrc hrs hfr hlo hws hcw (fun a' U hW => word_at hW (Or.inl (by first | rfl | simp [Cond.onTables, Cond.keeps, Cond.steady])) hini)
  obtain ⟨hx, hb, hml, ho, -⟩ := S
  obtain ⟨-, ⟨cellB, hcB, hoB, hclB⟩, hPc⟩ := hp
  intro T hT X
  obtain ⟨v, vm₁, ⟨U', l2, c2, s2⟩, hW₁, X', ⟨g', mk, t, L, e1, e2, hq, h1, hL, h2, h3⟩, st⟩ := vx_callVW X hx (C := C) (hh := hh) (bytes := bytes) (maxL := maxL) (ret := ret) ho hl hin hse hcode hy hK (by rw [hT]; exact hcB) hoB hclB hg (hsize.trans hml.symm) (argsL := As) (rest := rest) (fun sig h => hn.trans (hlen sig h)) hstack hW (by rw [hb]; exact hdg)
    (fun vm₁ hW₁ => ⟨hf.1, hf.2, hPc (T.setVm vm₁) hT hW₁⟩)
  dsimp only [Pt.U, Pt.locs, Pt.cells, Pt.slots] at X' e1 e2 h1 h2 h3 st
  subst h1; subst h2; subst h3
  exact ⟨v, (T.setVm vm₁).calling g' mk (Value.ref b :: As).toArray, t, U', L, hT, X', hL, e1, e2, hq, st⟩
section
variable {y : MethodName} {bytes cc : ByteArray} {maxL nL mc ms n index : Nat} {ret : Option FieldType} {ws : List Cond} {rm : Room} {Pc : Array Value → State → Prop} {Qc : Array Value → State → Outcome → State → Prop} {XC : String → State → State → Prop} {free : Addr → Prop} {Ts : List Cond} {own C : String} {b : Addr} {As rest : List Value} {g : JFrame}
theorem vx_runVX {hh : List (Nat × Nat × Nat × Nat)} (S : CallFix p m c cc nL s args Ts own) (hM : vx_Met l y ws rm Pc Qc XC mc ms free) (cw : vx_CVW R s args own C index y bytes maxL ret hh ws rm mc ms n) (hp : PreV s H C b Pc As)
    (hg : g.method = m) (hn : As.length = n) (hsize : g.locals.size = nL) (hstack : g.stack = As.reverse ++ .ref b :: rest) (hW : 2 * g.monitorRoom + (rest.map fun v => v.category).sum ≤ 8) (hdg : decode cc g.pc = .ok (.invokevirtual index, 3)) (hf : cells + mc ≤ R.cells ∧ slots + ms ≤ R.slots) :
    vx_Run p l e R s m args below meth c H locs cells slots mc ms g rest (Qc (Value.ref b :: As).toArray) XC free := by
  obtain ⟨⟨hrc, hrs, hfr, hlo, hws, hcw⟩, hcode, hini, hy, hlen, hl, hin, hse⟩ := cw
  have hK : vx_Back l R p e below s args y 3 8 (PreOf R mc ms Pc) (PostOf Qc mc ms free) (vx_Post XC mc ms free) := vx_backW (hh := hh) (bytes := bytes) (maxL := maxL) (ret := ret) hM hp.1 hrc hrs hfr hlo hws hcw (fun a' U hW => word_at hW (Or.inl (by first | rfl | simp [Cond.onTables, Cond.keeps, Cond.steady])) hini)
  obtain ⟨hx, hb, hml, ho, -⟩ := S
  obtain ⟨-, ⟨cellB, hcB, hoB, hclB⟩, hPc⟩ := hp
  intro T hT X
  rcases vx_callVX X hx (C := C) (hh := hh) (bytes := bytes) (maxL := maxL) (ret := ret) ho hl hin hse hcode hy hK (by rw [hT]; exact hcB) hoB hclB hg (hsize.trans hml.symm) (argsL := As) (rest := rest) (fun sig h => hn.trans (hlen sig h)) hstack hW (by rw [hb]; exact hdg)
    (fun vm₁ hW₁ => ⟨hf.1, hf.2, hPc (T.setVm vm₁) hT hW₁⟩) with ⟨v, vm₁, ⟨U', l2, c2, s2⟩, hW₁, X', ⟨g', mk, t, L, e1, e2, hq, h1, hL, h2, h3⟩, st⟩ | ⟨q, vm₁, ⟨U', l2, c2, s2⟩, hW₁, X', ⟨g', mk, t, L, E, ce, e1, e2, hq, hce, hcv, hcl, h1, hL, h2, h3⟩, st⟩
  · dsimp only [Pt.U, Pt.locs, Pt.cells, Pt.slots] at X' e1 e2 h1 h2 h3 st
    subst h1; subst h2; subst h3
    exact Or.inl ⟨v, (T.setVm vm₁).calling g' mk (Value.ref b :: As).toArray, t, U', L, hT, X', hL, e1, e2, hq, st⟩
  · dsimp only [Pt.U, Pt.locs, Pt.cells, Pt.slots] at X' e1 e2 h1 h2 h3 st hcl
    subst h1; subst h2; subst h3
    exact Or.inr ⟨q, (T.setVm vm₁).calling g' mk (Value.ref b :: As).toArray, t, U', L, E, ce, hT, X', hL, e1, e2, hq, hce, hcv, vx_cls hW₁ hcl, st⟩
theorem vx_runSX {hh : List (Nat × Nat × Nat × Nat)} (S : CallFix p m c cc nL s args Ts own) (hM : vx_Met l y ws rm Pc Qc XC mc ms free) (cw : vx_CSW R s args own index y bytes maxL ret hh ws rm mc ms n) (hp : PreS s H Pc As)
    (hg : g.method = m) (hn : As.length = n) (hsize : g.locals.size = nL) (hstack : g.stack = As.reverse ++ rest) (hW : 2 * g.monitorRoom + (rest.map fun v => v.category).sum ≤ 8) (hdg : decode cc g.pc = .ok (.invokestatic index, 3)) (hf : cells + mc ≤ R.cells ∧ slots + ms ≤ R.slots) :
    vx_Run p l e R s m args below meth c H locs cells slots mc ms g rest (Qc As.toArray) XC free := by
  obtain ⟨⟨hrc, hrs, hfr, hlo, hws, hcw⟩, hcode, hini, hy, hlen, hl, hstt⟩ := cw
  have hK : vx_Back l R p e below s args y 3 8 (PreOf R mc ms Pc) (PostOf Qc mc ms free) (vx_Post XC mc ms free) := vx_backW (hh := hh) (bytes := bytes) (maxL := maxL) (ret := ret) hM hp.1 hrc hrs hfr hlo hws hcw (fun a' U hW => word_at hW (Or.inl (by first | rfl | simp [Cond.onTables, Cond.keeps, Cond.steady])) hini)
  obtain ⟨hx, hb, hml, ho, -⟩ := S
  intro T hT X
  rcases vx_callSX X hx (hh := hh) (bytes := bytes) (maxL := maxL) (ret := ret) ho hl hstt hini hcode hy hK hg (hsize.trans hml.symm) (argsL := As) (rest := rest) (fun sig h => hn.trans (hlen sig h)) hstack hW (by rw [hb]; exact hdg)
    (fun vm₁ hW₁ => ⟨hf.1, hf.2, hp.2 (T.setVm vm₁) hT hW₁⟩) with ⟨v, vm₁, ⟨U', l2, c2, s2⟩, hW₁, X', ⟨g', mk, t, L, e1, e2, hq, h1, hL, h2, h3⟩, st⟩ | ⟨q, vm₁, ⟨U', l2, c2, s2⟩, hW₁, X', ⟨g', mk, t, L, E, ce, e1, e2, hq, hce, hcv, hcl, h1, hL, h2, h3⟩, st⟩
  · dsimp only [Pt.U, Pt.locs, Pt.cells, Pt.slots] at X' e1 e2 h1 h2 h3 st
    subst h1; subst h2; subst h3
    exact Or.inl ⟨v, (T.setVm vm₁).calling g' mk As.toArray, t, U', L, hT, X', hL, e1, e2, hq, st⟩
  · dsimp only [Pt.U, Pt.locs, Pt.cells, Pt.slots] at X' e1 e2 h1 h2 h3 st hcl
    subst h1; subst h2; subst h3
    exact Or.inr ⟨q, (T.setVm vm₁).calling g' mk As.toArray, t, U', L, E, ce, hT, X', hL, e1, e2, hq, hce, hcv, vx_cls hW₁ hcl, st⟩
end
end VXH
theorem vx_ofWH {l : Launch} {y : MethodName} {ws ws' : List Cond} {rm : Room} {Pc : Array Value → State → Prop} {Qc : Array Value → State → Outcome → State → Prop} {XC : String → State → State → Prop} {mc ms : Nat} {free : Addr → Prop} {cc : ByteArray} {maxL : Nat} {ret : Option FieldType} {hh : List (Nat × Nat × Nat × Nat)}
    (hy : plainName y.cls = true) (hw : ws = Cond.codeWith y cc maxL ret hh :: ws')
    (body : ∀ p e s m args below meth c s₁, BodyLoose p l y (headSpec ws rm) cc maxL ret e s m args below meth c s₁ → c.maxLocals = maxL → Pc args s →
      W p l e (headSpec ws rm).room s m args below meth c s.heap [] 0 0 (vx_MQ below Qc XC args s mc ms free) (entryFrame m args maxL)) : vx_Met l y ws rm Pc Qc XC mc ms free := by
  refine MetFree.of_bodyS (code := cc) (maxLocals := maxL) (ret := ret) hy ?_ ?_
  · intro args s m h hn
    obtain ⟨m9, meth, c, hn9, h1, h2, h3, h4, -, h5, h6, -⟩ := Cond.codeWith_spec (atoms_spec (ws := ws) h _ (by rw [hw]; exact List.mem_cons_self))
    cases hn.symm.trans hn9
    exact ⟨meth, c, h1, h2, h3, h4, h5, h6⟩
  · intro p e s m args below meth c s₁ B hml hP _
    have hh0 : s₁.heap = s.heap := by rw [B.state]; rfl
    obtain ⟨t, a1, o, b1, b2, b3⟩ := body p e s m args below meth c s₁ B hml hP s₁ hh0 (Stand.of_body B)
    exact ⟨t, o, a1, b1, b2, b3⟩
/-! ===== END ===== -/

/-! ===== BEGIN printed: names, fields, word lists, decode rows ===== -/
def RX0 : String := "PauseLedger$Dinner"
def TX0 : u_T := fun k => match k with
  | 0 => ("PauseLedger$Dinner", "guests", "I", false)
  | 1 => ("PauseLedger$Dinner", "seconds", "I", false)
  | 2 => ("PauseLedger$Dinner", "limit", "I", false)
  | 3 => ("PauseLedger$Dinner", "speaker", "I", false)
  | 4 => ("PauseLedger$Dinner", "toSpeak", "I", false)
  | 5 => ("PauseLedger$Dinner", "pause", "I", false)
  | 6 => ("PauseLedger$Dinner", "unsaidInPauses", "I", false)
  | 7 => ("PauseLedger$Dinner", "meetings", "I", false)
  | 8 => ("PauseLedger$Dinner", "lost", "I", false)
  | 9 => ("PauseLedger$Dinner", "sent", "I", false)
  | 10 => ("PauseLedger$Dinner", "spoken", "[I", true)
  | 11 => ("PauseLedger$Dinner", "interruptions", "[I", true)
  | 12 => ("PauseLedger$Dinner", "coughs", "[I", true)
  | 13 => ("PauseLedger$Dinner", "unsaid", "[I", true)
  | 14 => ("PauseLedger$Dinner", "toGo", "[I", true)
  | 15 => ("PauseLedger$Dinner", "caught", "[I", true)
  | _ => ("PauseLedger$Dinner", "order", "[I", true)
def tyX0 : Nat → FieldType := fun k => match k with
  | 0 => .int
  | 1 => .int
  | 2 => .int
  | 3 => .int
  | 4 => .int
  | 5 => .int
  | 6 => .int
  | 7 => .int
  | 8 => .int
  | 9 => .int
  | 10 => .array .int
  | 11 => .array .int
  | 12 => .array .int
  | 13 => .array .int
  | 14 => .array .int
  | 15 => .array .int
  | _ => .array .int
abbrev wsX00 : List Cond := u_ws RX0 TX0 17
theorem nmX0 : ∀ a, a < 17 → ∀ b, b < 17 → a ≠ b → (TX0 a).2.1 ≠ (TX0 b).2.1 := by decide +kernel
theorem tyX0_ok : ∀ k, k < 17 → parseFieldDescriptor (TX0 k).2.2.1 = some (tyX0 k) := by decide +kernel
abbrev cX0_init : ByteArray := prog_2_method_1_code
def yX0_init : MethodName := ⟨RX0, "<init>", "()V"⟩
abbrev cX0_begin : ByteArray := prog_2_method_2_code
def yX0_begin : MethodName := ⟨RX0, "begin", "(I)V"⟩
abbrev cX0_copyOf : ByteArray := prog_2_method_3_code
def yX0_copyOf : MethodName := ⟨RX0, "copyOf", "(LPauseLedger$Dinner;)V"⟩
abbrev cX0_letSpeak : ByteArray := prog_2_method_4_code
def yX0_letSpeak : MethodName := ⟨RX0, "letSpeak", "(II)I"⟩
abbrev cX0_letCough : ByteArray := prog_2_method_5_code
def yX0_letCough : MethodName := ⟨RX0, "letCough", "(II)I"⟩
abbrev cX0_unsaidByCough : ByteArray := prog_2_method_6_code
def yX0_unsaidByCough : MethodName := ⟨RX0, "unsaidByCough", "(II)I"⟩
abbrev cX0_send : ByteArray := prog_2_method_7_code
def yX0_send : MethodName := ⟨RX0, "send", "(II)I"⟩
abbrev cX0_goBy : ByteArray := prog_2_method_8_code
def yX0_goBy : MethodName := ⟨RX0, "goBy", "(I)V"⟩
abbrev cX0_goOneSecond : ByteArray := prog_2_method_9_code
def yX0_goOneSecond : MethodName := ⟨RX0, "goOneSecond", "()V"⟩
abbrev cX0_speakOrPause : ByteArray := prog_2_method_10_code
def yX0_speakOrPause : MethodName := ⟨RX0, "speakOrPause", "()V"⟩
abbrev cX0_moveGlances : ByteArray := prog_2_method_11_code
def yX0_moveGlances : MethodName := ⟨RX0, "moveGlances", "()V"⟩
abbrev cX0_arrive : ByteArray := prog_2_method_12_code
def yX0_arrive : MethodName := ⟨RX0, "arrive", "(II)V"⟩
abbrev cX0_forgetThoseOver : ByteArray := prog_2_method_13_code
def yX0_forgetThoseOver : MethodName := ⟨RX0, "forgetThoseOver", "()V"⟩
abbrev cX0_isOnItsWay : ByteArray := prog_2_method_14_code
def yX0_isOnItsWay : MethodName := ⟨RX0, "isOnItsWay", "(I)Z"⟩
abbrev cX0_timeToGo : ByteArray := prog_2_method_15_code
def yX0_timeToGo : MethodName := ⟨RX0, "timeToGo", "(I)I"⟩
abbrev cX0_seatsBetween : ByteArray := prog_2_method_16_code
def yX0_seatsBetween : MethodName := ⟨RX0, "seatsBetween", "(II)I"⟩
abbrev cX0_wayOf : ByteArray := prog_2_method_17_code
def yX0_wayOf : MethodName := ⟨RX0, "wayOf", "(II)I"⟩
abbrev cX0_fateOf : ByteArray := prog_2_method_18_code
def yX0_fateOf : MethodName := ⟨RX0, "fateOf", "(III)I"⟩
abbrev cX0_untilPauseCounts : ByteArray := prog_2_method_19_code
def yX0_untilPauseCounts : MethodName := ⟨RX0, "untilPauseCounts", "()I"⟩
abbrev cX0_beyondMultipleOfLimit : ByteArray := prog_2_method_20_code
def yX0_beyondMultipleOfLimit : MethodName := ⟨RX0, "beyondMultipleOfLimit", "(I)I"⟩
abbrev cX0_sumUnsaidByGuests : ByteArray := prog_2_method_21_code
def yX0_sumUnsaidByGuests : MethodName := ⟨RX0, "sumUnsaidByGuests", "()I"⟩
abbrev cX0_sumUnsaid : ByteArray := prog_2_method_22_code
def yX0_sumUnsaid : MethodName := ⟨RX0, "sumUnsaid", "()I"⟩
abbrev cX0_rate : ByteArray := prog_2_method_23_code
def yX0_rate : MethodName := ⟨RX0, "rate", "()I"⟩
def RX1 : String := "PauseLedger"
def TX1 : u_T := fun k => match k with
  | 0 => ("PauseLedger", "dinner", "LPauseLedger$Dinner;", true)
  | _ => ("PauseLedger", "trial", "LPauseLedger$Dinner;", true)
def tyX1 : Nat → FieldType := fun k => match k with
  | 0 => .object "PauseLedger$Dinner"
  | _ => .object "PauseLedger$Dinner"
abbrev wsX10 : List Cond := u_ws RX1 TX1 2
theorem nmX1 : ∀ a, a < 2 → ∀ b, b < 2 → a ≠ b → (TX1 a).2.1 ≠ (TX1 b).2.1 := by decide +kernel
theorem tyX1_ok : ∀ k, k < 2 → parseFieldDescriptor (TX1 k).2.2.1 = some (tyX1 k) := by decide +kernel
abbrev cX1_init : ByteArray := prog_1_method_1_code
def yX1_init : MethodName := ⟨RX1, "<init>", "()V"⟩
abbrev cX1_newDinner : ByteArray := prog_1_method_2_code
def yX1_newDinner : MethodName := ⟨RX1, "newDinner", "(I)I"⟩
abbrev cX1_setLimit : ByteArray := prog_1_method_3_code
def yX1_setLimit : MethodName := ⟨RX1, "setLimit", "(I)I"⟩
abbrev cX1_speak : ByteArray := prog_1_method_4_code
def yX1_speak : MethodName := ⟨RX1, "speak", "(II)I"⟩
abbrev cX1_cough : ByteArray := prog_1_method_5_code
def yX1_cough : MethodName := ⟨RX1, "cough", "(II)I"⟩
abbrev cX1_glance : ByteArray := prog_1_method_6_code
def yX1_glance : MethodName := ⟨RX1, "glance", "(II)I"⟩
abbrev cX1_pass : ByteArray := prog_1_method_7_code
def yX1_pass : MethodName := ⟨RX1, "pass", "(I)I"⟩
abbrev cX1_guests : ByteArray := prog_1_method_8_code
def yX1_guests : MethodName := ⟨RX1, "guests", "()I"⟩
abbrev cX1_seconds : ByteArray := prog_1_method_9_code
def yX1_seconds : MethodName := ⟨RX1, "seconds", "()I"⟩
abbrev cX1_limit : ByteArray := prog_1_method_10_code
def yX1_limit : MethodName := ⟨RX1, "limit", "()I"⟩
abbrev cX1_seatsApart : ByteArray := prog_1_method_11_code
def yX1_seatsApart : MethodName := ⟨RX1, "seatsApart", "(II)I"⟩
abbrev cX1_speaker : ByteArray := prog_1_method_12_code
def yX1_speaker : MethodName := ⟨RX1, "speaker", "()I"⟩
abbrev cX1_secondsToSpeak : ByteArray := prog_1_method_13_code
def yX1_secondsToSpeak : MethodName := ⟨RX1, "secondsToSpeak", "()I"⟩
abbrev cX1_pause : ByteArray := prog_1_method_14_code
def yX1_pause : MethodName := ⟨RX1, "pause", "()I"⟩
abbrev cX1_spokenBy : ByteArray := prog_1_method_15_code
def yX1_spokenBy : MethodName := ⟨RX1, "spokenBy", "(I)I"⟩
abbrev cX1_interruptionsBy : ByteArray := prog_1_method_16_code
def yX1_interruptionsBy : MethodName := ⟨RX1, "interruptionsBy", "(I)I"⟩
abbrev cX1_coughsOf : ByteArray := prog_1_method_17_code
def yX1_coughsOf : MethodName := ⟨RX1, "coughsOf", "(I)I"⟩
abbrev cX1_unsaidBy : ByteArray := prog_1_method_18_code
def yX1_unsaidBy : MethodName := ⟨RX1, "unsaidBy", "(I)I"⟩
abbrev cX1_isUnderWay : ByteArray := prog_1_method_19_code
def yX1_isUnderWay : MethodName := ⟨RX1, "isUnderWay", "(II)Z"⟩
abbrev cX1_secondsToGo : ByteArray := prog_1_method_20_code
def yX1_secondsToGo : MethodName := ⟨RX1, "secondsToGo", "(II)I"⟩
abbrev cX1_caughtBy : ByteArray := prog_1_method_21_code
def yX1_caughtBy : MethodName := ⟨RX1, "caughtBy", "(II)I"⟩
abbrev cX1_unsaidInPauses : ByteArray := prog_1_method_22_code
def yX1_unsaidInPauses : MethodName := ⟨RX1, "unsaidInPauses", "()I"⟩
abbrev cX1_allUnsaid : ByteArray := prog_1_method_23_code
def yX1_allUnsaid : MethodName := ⟨RX1, "allUnsaid", "()I"⟩
abbrev cX1_glancesUnderWay : ByteArray := prog_1_method_24_code
def yX1_glancesUnderWay : MethodName := ⟨RX1, "glancesUnderWay", "()I"⟩
abbrev cX1_meetings : ByteArray := prog_1_method_25_code
def yX1_meetings : MethodName := ⟨RX1, "meetings", "()I"⟩
abbrev cX1_lostGlances : ByteArray := prog_1_method_26_code
def yX1_lostGlances : MethodName := ⟨RX1, "lostGlances", "()I"⟩
abbrev cX1_quietest : ByteArray := prog_1_method_27_code
def yX1_quietest : MethodName := ⟨RX1, "quietest", "()I"⟩
abbrev cX1_rating : ByteArray := prog_1_method_28_code
def yX1_rating : MethodName := ⟨RX1, "rating", "()I"⟩
abbrev cX1_allUnsaidIn : ByteArray := prog_1_method_29_code
def yX1_allUnsaidIn : MethodName := ⟨RX1, "allUnsaidIn", "(I)I"⟩
abbrev cX1_secondsUntilPauseCounts : ByteArray := prog_1_method_30_code
def yX1_secondsUntilPauseCounts : MethodName := ⟨RX1, "secondsUntilPauseCounts", "()I"⟩
abbrev cX1_wouldLeave : ByteArray := prog_1_method_31_code
def yX1_wouldLeave : MethodName := ⟨RX1, "wouldLeave", "(II)I"⟩
abbrev cX1_bestMoment : ByteArray := prog_1_method_32_code
def yX1_bestMoment : MethodName := ⟨RX1, "bestMoment", "(II)I"⟩
abbrev cX1_ratingIn : ByteArray := prog_1_method_33_code
def yX1_ratingIn : MethodName := ⟨RX1, "ratingIn", "(I)I"⟩
abbrev cX1_meanUnsaid : ByteArray := prog_1_method_34_code
def yX1_meanUnsaid : MethodName := ⟨RX1, "meanUnsaid", "()D"⟩
abbrev cX1_digest : ByteArray := prog_1_method_35_code
def yX1_digest : MethodName := ⟨RX1, "digest", "()J"⟩
abbrev cX1_digestOfTable : ByteArray := prog_1_method_36_code
def yX1_digestOfTable : MethodName := ⟨RX1, "digestOfTable", "()J"⟩
abbrev cX1_withGuest : ByteArray := prog_1_method_37_code
def yX1_withGuest : MethodName := ⟨RX1, "withGuest", "(JI)J"⟩
abbrev cX1_followedBy : ByteArray := prog_1_method_38_code
def yX1_followedBy : MethodName := ⟨RX1, "followedBy", "(JI)J"⟩
abbrev cX1_tryOut : ByteArray := prog_1_method_39_code
def yX1_tryOut : MethodName := ⟨RX1, "tryOut", "(I)V"⟩
abbrev cX1_requireGuest : ByteArray := prog_1_method_40_code
def yX1_requireGuest : MethodName := ⟨RX1, "requireGuest", "(I)V"⟩
abbrev cX1_requireWithin : ByteArray := prog_1_method_41_code
def yX1_requireWithin : MethodName := ⟨RX1, "requireWithin", "(III)V"⟩
abbrev cX1_requireFreeWay : ByteArray := prog_1_method_42_code
def yX1_requireFreeWay : MethodName := ⟨RX1, "requireFreeWay", "(II)V"⟩
abbrev cX1_pairOf : ByteArray := prog_1_method_43_code
def yX1_pairOf : MethodName := ⟨RX1, "pairOf", "(II)I"⟩
def RX2 : String := "PauseLedgerModel"
def TX2 : u_T := fun k => match k with
  | 0 => ("PauseLedgerModel", "thrown", "I", false)
  | 1 => ("PauseLedgerModel", "guests", "I", false)
  | 2 => ("PauseLedgerModel", "limit", "I", false)
  | 3 => ("PauseLedgerModel", "now", "[I", true)
  | 4 => ("PauseLedgerModel", "kept", "[I", true)
  | 5 => ("PauseLedgerModel", "mark", "I", false)
  | _ => ("PauseLedgerModel", "end", "I", false)
def tyX2 : Nat → FieldType := fun k => match k with
  | 0 => .int
  | 1 => .int
  | 2 => .int
  | 3 => .array .int
  | 4 => .array .int
  | 5 => .int
  | _ => .int
abbrev wsX20 : List Cond := u_ws RX2 TX2 7
theorem nmX2 : ∀ a, a < 7 → ∀ b, b < 7 → a ≠ b → (TX2 a).2.1 ≠ (TX2 b).2.1 := by decide +kernel
theorem tyX2_ok : ∀ k, k < 7 → parseFieldDescriptor (TX2 k).2.2.1 = some (tyX2 k) := by decide +kernel
abbrev cX2_init : ByteArray := prog_4_method_1_code
def yX2_init : MethodName := ⟨RX2, "<init>", "()V"⟩
abbrev cX2_thrown : ByteArray := prog_4_method_2_code
def yX2_thrown : MethodName := ⟨RX2, "thrown", "()I"⟩
abbrev cX2_fail : ByteArray := prog_4_method_3_code
def yX2_fail : MethodName := ⟨RX2, "fail", "(I)I"⟩
abbrev cX2_told : ByteArray := prog_4_method_4_code
def yX2_told : MethodName := ⟨RX2, "told", "(I)I"⟩
abbrev cX2_isIn : ByteArray := prog_4_method_5_code
def yX2_isIn : MethodName := ⟨RX2, "isIn", "(III)Z"⟩
abbrev cX2_isGuest : ByteArray := prog_4_method_6_code
def yX2_isGuest : MethodName := ⟨RX2, "isGuest", "(I)Z"⟩
abbrev cX2_keep : ByteArray := prog_4_method_7_code
def yX2_keep : MethodName := ⟨RX2, "keep", "()V"⟩
abbrev cX2_bringBack : ByteArray := prog_4_method_8_code
def yX2_bringBack : MethodName := ⟨RX2, "bringBack", "()V"⟩
abbrev cX2_pair : ByteArray := prog_4_method_9_code
def yX2_pair : MethodName := ⟨RX2, "pair", "(II)I"⟩
abbrev cX2_apart : ByteArray := prog_4_method_10_code
def yX2_apart : MethodName := ⟨RX2, "apart", "(II)I"⟩
abbrev cX2_unsaid : ByteArray := prog_4_method_11_code
def yX2_unsaid : MethodName := ⟨RX2, "unsaid", "()I"⟩
abbrev cX2_rated : ByteArray := prog_4_method_12_code
def yX2_rated : MethodName := ⟨RX2, "rated", "()I"⟩
abbrev cX2_talk : ByteArray := prog_4_method_13_code
def yX2_talk : MethodName := ⟨RX2, "talk", "()V"⟩
abbrev cX2_arrives : ByteArray := prog_4_method_14_code
def yX2_arrives : MethodName := ⟨RX2, "arrives", "(II)V"⟩
abbrev cX2_fly : ByteArray := prog_4_method_15_code
def yX2_fly : MethodName := ⟨RX2, "fly", "()V"⟩
abbrev cX2_secondOn : ByteArray := prog_4_method_16_code
def yX2_secondOn : MethodName := ⟨RX2, "secondOn", "()V"⟩
abbrev cX2_secondsOn : ByteArray := prog_4_method_17_code
def yX2_secondsOn : MethodName := ⟨RX2, "secondsOn", "(I)V"⟩
abbrev cX2_newDinner : ByteArray := prog_4_method_18_code
def yX2_newDinner : MethodName := ⟨RX2, "newDinner", "(I)I"⟩
abbrev cX2_setLimit : ByteArray := prog_4_method_19_code
def yX2_setLimit : MethodName := ⟨RX2, "setLimit", "(I)I"⟩
abbrev cX2_speak : ByteArray := prog_4_method_20_code
def yX2_speak : MethodName := ⟨RX2, "speak", "(II)I"⟩
abbrev cX2_cough : ByteArray := prog_4_method_21_code
def yX2_cough : MethodName := ⟨RX2, "cough", "(II)I"⟩
abbrev cX2_send : ByteArray := prog_4_method_22_code
def yX2_send : MethodName := ⟨RX2, "send", "(II)I"⟩
abbrev cX2_canSend : ByteArray := prog_4_method_23_code
def yX2_canSend : MethodName := ⟨RX2, "canSend", "(II)Z"⟩
abbrev cX2_glance : ByteArray := prog_4_method_24_code
def yX2_glance : MethodName := ⟨RX2, "glance", "(II)I"⟩
abbrev cX2_pass : ByteArray := prog_4_method_25_code
def yX2_pass : MethodName := ⟨RX2, "pass", "(I)I"⟩
abbrev cX2_guests : ByteArray := prog_4_method_26_code
def yX2_guests : MethodName := ⟨RX2, "guests", "()I"⟩
abbrev cX2_seconds : ByteArray := prog_4_method_27_code
def yX2_seconds : MethodName := ⟨RX2, "seconds", "()I"⟩
abbrev cX2_limit : ByteArray := prog_4_method_28_code
def yX2_limit : MethodName := ⟨RX2, "limit", "()I"⟩
abbrev cX2_seatsApart : ByteArray := prog_4_method_29_code
def yX2_seatsApart : MethodName := ⟨RX2, "seatsApart", "(II)I"⟩
abbrev cX2_speaker : ByteArray := prog_4_method_30_code
def yX2_speaker : MethodName := ⟨RX2, "speaker", "()I"⟩
abbrev cX2_left : ByteArray := prog_4_method_31_code
def yX2_left : MethodName := ⟨RX2, "left", "()I"⟩
abbrev cX2_secondsToSpeak : ByteArray := prog_4_method_32_code
def yX2_secondsToSpeak : MethodName := ⟨RX2, "secondsToSpeak", "()I"⟩
abbrev cX2_pause : ByteArray := prog_4_method_33_code
def yX2_pause : MethodName := ⟨RX2, "pause", "()I"⟩
abbrev cX2_guest : ByteArray := prog_4_method_34_code
def yX2_guest : MethodName := ⟨RX2, "guest", "(II)I"⟩
abbrev cX2_spokenBy : ByteArray := prog_4_method_35_code
def yX2_spokenBy : MethodName := ⟨RX2, "spokenBy", "(I)I"⟩
abbrev cX2_interruptionsBy : ByteArray := prog_4_method_36_code
def yX2_interruptionsBy : MethodName := ⟨RX2, "interruptionsBy", "(I)I"⟩
abbrev cX2_coughsOf : ByteArray := prog_4_method_37_code
def yX2_coughsOf : MethodName := ⟨RX2, "coughsOf", "(I)I"⟩
abbrev cX2_unsaidBy : ByteArray := prog_4_method_38_code
def yX2_unsaidBy : MethodName := ⟨RX2, "unsaidBy", "(I)I"⟩
abbrev cX2_flight : ByteArray := prog_4_method_39_code
def yX2_flight : MethodName := ⟨RX2, "flight", "(III)I"⟩
abbrev cX2_isUnderWay : ByteArray := prog_4_method_40_code
def yX2_isUnderWay : MethodName := ⟨RX2, "isUnderWay", "(II)Z"⟩
abbrev cX2_secondsToGo : ByteArray := prog_4_method_41_code
def yX2_secondsToGo : MethodName := ⟨RX2, "secondsToGo", "(II)I"⟩
abbrev cX2_caughtBy : ByteArray := prog_4_method_42_code
def yX2_caughtBy : MethodName := ⟨RX2, "caughtBy", "(II)I"⟩
abbrev cX2_unsaidInPauses : ByteArray := prog_4_method_43_code
def yX2_unsaidInPauses : MethodName := ⟨RX2, "unsaidInPauses", "()I"⟩
abbrev cX2_allUnsaid : ByteArray := prog_4_method_44_code
def yX2_allUnsaid : MethodName := ⟨RX2, "allUnsaid", "()I"⟩
abbrev cX2_underWay : ByteArray := prog_4_method_45_code
def yX2_underWay : MethodName := ⟨RX2, "underWay", "()I"⟩
abbrev cX2_glancesUnderWay : ByteArray := prog_4_method_46_code
def yX2_glancesUnderWay : MethodName := ⟨RX2, "glancesUnderWay", "()I"⟩
abbrev cX2_meetings : ByteArray := prog_4_method_47_code
def yX2_meetings : MethodName := ⟨RX2, "meetings", "()I"⟩
abbrev cX2_lostGlances : ByteArray := prog_4_method_48_code
def yX2_lostGlances : MethodName := ⟨RX2, "lostGlances", "()I"⟩
abbrev cX2_quietest : ByteArray := prog_4_method_49_code
def yX2_quietest : MethodName := ⟨RX2, "quietest", "()I"⟩
abbrev cX2_rating : ByteArray := prog_4_method_50_code
def yX2_rating : MethodName := ⟨RX2, "rating", "()I"⟩
abbrev cX2_allUnsaidIn : ByteArray := prog_4_method_51_code
def yX2_allUnsaidIn : MethodName := ⟨RX2, "allUnsaidIn", "(I)I"⟩
abbrev cX2_secondsUntilPauseCounts : ByteArray := prog_4_method_52_code
def yX2_secondsUntilPauseCounts : MethodName := ⟨RX2, "secondsUntilPauseCounts", "()I"⟩
abbrev cX2_becomes : ByteArray := prog_4_method_53_code
def yX2_becomes : MethodName := ⟨RX2, "becomes", "(II)I"⟩
abbrev cX2_wouldLeave : ByteArray := prog_4_method_54_code
def yX2_wouldLeave : MethodName := ⟨RX2, "wouldLeave", "(II)I"⟩
abbrev cX2_bestMoment : ByteArray := prog_4_method_55_code
def yX2_bestMoment : MethodName := ⟨RX2, "bestMoment", "(II)I"⟩
abbrev cX2_ratingIn : ByteArray := prog_4_method_56_code
def yX2_ratingIn : MethodName := ⟨RX2, "ratingIn", "(I)I"⟩
abbrev cX2_meanUnsaid : ByteArray := prog_4_method_57_code
def yX2_meanUnsaid : MethodName := ⟨RX2, "meanUnsaid", "()D"⟩
abbrev cX2_digest : ByteArray := prog_4_method_58_code
def yX2_digest : MethodName := ⟨RX2, "digest", "()J"⟩
def RJx145de : String := "java/io/Serializable"
def TJx145de : u_T := fun k => match k with
  | _ => ("", "", "", false)
def tyJx145de : Nat → FieldType := fun k => match k with
  | _ => .int
abbrev wsJx145de0 : List Cond := u_ws RJx145de TJx145de 0
theorem nmJx145de : ∀ a, a < 0 → ∀ b, b < 0 → a ≠ b → (TJx145de a).2.1 ≠ (TJx145de b).2.1 := by decide +kernel
theorem tyJx145de_ok : ∀ k, k < 0 → parseFieldDescriptor (TJx145de k).2.2.1 = some (tyJx145de k) := by decide +kernel
def RJ9 : String := "java/lang/Math"
def TJ9 : u_T := fun k => match k with
  | _ => ("", "", "", false)
def tyJ9 : Nat → FieldType := fun k => match k with
  | _ => .int
abbrev wsJ90 : List Cond := u_ws RJ9 TJ9 0
theorem nmJ9 : ∀ a, a < 0 → ∀ b, b < 0 → a ≠ b → (TJ9 a).2.1 ≠ (TJ9 b).2.1 := by decide +kernel
theorem tyJ9_ok : ∀ k, k < 0 → parseFieldDescriptor (TJ9 k).2.2.1 = some (tyJ9 k) := by decide +kernel
abbrev cJ9_abs_0f7a4 : ByteArray := prog_9_method_59_code
def yJ9_abs_0f7a4 : MethodName := ⟨RJ9, "abs", "(I)I"⟩
abbrev cJ9_max_7cf53 : ByteArray := prog_9_method_65_code
def yJ9_max_7cf53 : MethodName := ⟨RJ9, "max", "(II)I"⟩
abbrev cJ9_min_7cf53 : ByteArray := prog_9_method_69_code
def yJ9_min_7cf53 : MethodName := ⟨RJ9, "min", "(II)I"⟩
def RJ0 : String := "java/lang/String"
def TJ0 : u_T := fun k => match k with
  | _ => ("", "", "", false)
def tyJ0 : Nat → FieldType := fun k => match k with
  | _ => .int
abbrev wsJ00 : List Cond := u_ws RJ0 TJ0 0
theorem nmJ0 : ∀ a, a < 0 → ∀ b, b < 0 → a ≠ b → (TJ0 a).2.1 ≠ (TJ0 b).2.1 := by decide +kernel
theorem tyJ0_ok : ∀ k, k < 0 → parseFieldDescriptor (TJ0 k).2.2.1 = some (tyJ0 k) := by decide +kernel
def RJ10 : String := "java/lang/System"
def TJ10 : u_T := fun k => match k with
  | _ => ("", "", "", false)
def tyJ10 : Nat → FieldType := fun k => match k with
  | _ => .int
abbrev wsJ100 : List Cond := u_ws RJ10 TJ10 0
theorem nmJ10 : ∀ a, a < 0 → ∀ b, b < 0 → a ≠ b → (TJ10 a).2.1 ≠ (TJ10 b).2.1 := by decide +kernel
theorem tyJ10_ok : ∀ k, k < 0 → parseFieldDescriptor (TJ10 k).2.2.1 = some (tyJ10 k) := by decide +kernel
def RJ7 : String := "java/util/Arrays"
def TJ7 : u_T := fun k => match k with
  | _ => ("", "", "", false)
def tyJ7 : Nat → FieldType := fun k => match k with
  | _ => .int
abbrev wsJ70 : List Cond := u_ws RJ7 TJ7 0
theorem nmJ7 : ∀ a, a < 0 → ∀ b, b < 0 → a ≠ b → (TJ7 a).2.1 ≠ (TJ7 b).2.1 := by decide +kernel
theorem tyJ7_ok : ∀ k, k < 0 → parseFieldDescriptor (TJ7 k).2.2.1 = some (tyJ7 k) := by decide +kernel
abbrev cJ7_fill_53178 : ByteArray := prog_14_method_103_code
def yJ7_fill_53178 : MethodName := ⟨RJ7, "fill", "([II)V"⟩
def RL : String := "PauseLedgerLaw"
abbrev cL_newDinner : ByteArray := method_3_code
def yL_newDinner : MethodName := ⟨RL, "newDinner", "(LPauseLedger;I[J)I"⟩
abbrev cL_setLimit : ByteArray := method_4_code
def yL_setLimit : MethodName := ⟨RL, "setLimit", "(LPauseLedger;I[J)I"⟩
abbrev cL_speak : ByteArray := method_5_code
def yL_speak : MethodName := ⟨RL, "speak", "(LPauseLedger;II[J)I"⟩
abbrev cL_cough : ByteArray := method_6_code
def yL_cough : MethodName := ⟨RL, "cough", "(LPauseLedger;II[J)I"⟩
abbrev cL_glance : ByteArray := method_7_code
def yL_glance : MethodName := ⟨RL, "glance", "(LPauseLedger;II[J)I"⟩
abbrev cL_pass : ByteArray := method_8_code
def yL_pass : MethodName := ⟨RL, "pass", "(LPauseLedger;I[J)I"⟩
abbrev cL_seatsApart : ByteArray := method_9_code
def yL_seatsApart : MethodName := ⟨RL, "seatsApart", "(LPauseLedger;II[J)I"⟩
abbrev cL_spokenBy : ByteArray := method_10_code
def yL_spokenBy : MethodName := ⟨RL, "spokenBy", "(LPauseLedger;I[J)I"⟩
abbrev cL_interruptionsBy : ByteArray := method_11_code
def yL_interruptionsBy : MethodName := ⟨RL, "interruptionsBy", "(LPauseLedger;I[J)I"⟩
abbrev cL_coughsOf : ByteArray := method_12_code
def yL_coughsOf : MethodName := ⟨RL, "coughsOf", "(LPauseLedger;I[J)I"⟩
abbrev cL_unsaidBy : ByteArray := method_13_code
def yL_unsaidBy : MethodName := ⟨RL, "unsaidBy", "(LPauseLedger;I[J)I"⟩
abbrev cL_isUnderWay : ByteArray := method_14_code
def yL_isUnderWay : MethodName := ⟨RL, "isUnderWay", "(LPauseLedger;II[J)I"⟩
abbrev cL_secondsToGo : ByteArray := method_15_code
def yL_secondsToGo : MethodName := ⟨RL, "secondsToGo", "(LPauseLedger;II[J)I"⟩
abbrev cL_caughtBy : ByteArray := method_16_code
def yL_caughtBy : MethodName := ⟨RL, "caughtBy", "(LPauseLedger;II[J)I"⟩
abbrev cL_allUnsaidIn : ByteArray := method_17_code
def yL_allUnsaidIn : MethodName := ⟨RL, "allUnsaidIn", "(LPauseLedger;I[J)I"⟩
abbrev cL_wouldLeave : ByteArray := method_18_code
def yL_wouldLeave : MethodName := ⟨RL, "wouldLeave", "(LPauseLedger;II[J)I"⟩
abbrev cL_bestMoment : ByteArray := method_19_code
def yL_bestMoment : MethodName := ⟨RL, "bestMoment", "(LPauseLedger;II[J)I"⟩
abbrev cL_ratingIn : ByteArray := method_20_code
def yL_ratingIn : MethodName := ⟨RL, "ratingIn", "(LPauseLedger;I[J)I"⟩
abbrev cL_law : ByteArray := code
def yL_law : MethodName := ⟨RL, "law", "([I)Z"⟩
def wsJ7_fill_53178 : List Cond := .code yJ7_fill_53178 cJ7_fill_53178 4 none :: ([])
def wsX0_begin : List Cond := .code yX0_begin cX0_begin 2 none :: ([.fieldLink RX0 41 "PauseLedger$Dinner" "guests" "I", .fieldLink RX0 44 "PauseLedger$Dinner" "seconds" "I", .fieldLink RX0 47 "PauseLedger$Dinner" "speaker" "I", .fieldLink RX0 50 "PauseLedger$Dinner" "toSpeak" "I", .fieldLink RX0 53 "PauseLedger$Dinner" "pause" "I", .fieldLink RX0 56 "PauseLedger$Dinner" "unsaidInPauses" "I", .fieldLink RX0 59 "PauseLedger$Dinner" "meetings" "I", .fieldLink RX0 62 "PauseLedger$Dinner" "lost" "I", .fieldLink RX0 65 "PauseLedger$Dinner" "sent" "I", .fieldLink RX0 9 "PauseLedger$Dinner" "spoken" "[I", .fieldLink RX0 15 "PauseLedger$Dinner" "interruptions" "[I", .fieldLink RX0 18 "PauseLedger$Dinner" "coughs" "[I", .fieldLink RX0 21 "PauseLedger$Dinner" "unsaid" "[I", .fieldLink RX0 24 "PauseLedger$Dinner" "toGo" "[I", .fieldLink RX0 27 "PauseLedger$Dinner" "caught" "[I", .methodLink RX0 68 yJ7_fill_53178, .static yJ7_fill_53178, .initialized RJ7, .code yJ7_fill_53178 cJ7_fill_53178 4 none] ++ wsX00)
def wsX0_init_r1 : List Cond := [Cond.methodLink RX0 3 objectInit, Cond.instanceMethod objectInit, Cond.code objectInit ⟨#[0xb1]⟩ 1 none, Cond.arrayClass .int, Cond.fieldLink RX0 9 "PauseLedger$Dinner" "spoken" "[I", Cond.fieldLink RX0 15 "PauseLedger$Dinner" "interruptions" "[I", Cond.fieldLink RX0 18 "PauseLedger$Dinner" "coughs" "[I", Cond.fieldLink RX0 21 "PauseLedger$Dinner" "unsaid" "[I", Cond.fieldLink RX0 24 "PauseLedger$Dinner" "toGo" "[I", Cond.fieldLink RX0 27 "PauseLedger$Dinner" "caught" "[I", Cond.fieldLink RX0 30 "PauseLedger$Dinner" "order" "[I", Cond.fieldLink RX0 33 "PauseLedger$Dinner" "limit" "I", Cond.methodLink RX0 37 yX0_begin, Cond.instanceMethod yX0_begin, Cond.selects RX0 yX0_begin yX0_begin, Cond.initialized RX0, Cond.code yX0_begin cX0_begin 2 none, Cond.fieldLink RX0 41 "PauseLedger$Dinner" "guests" "I", Cond.fieldLink RX0 44 "PauseLedger$Dinner" "seconds" "I", Cond.fieldLink RX0 47 "PauseLedger$Dinner" "speaker" "I", Cond.fieldLink RX0 50 "PauseLedger$Dinner" "toSpeak" "I", Cond.fieldLink RX0 53 "PauseLedger$Dinner" "pause" "I", Cond.fieldLink RX0 56 "PauseLedger$Dinner" "unsaidInPauses" "I", Cond.fieldLink RX0 59 "PauseLedger$Dinner" "meetings" "I"]
def wsX0_init_r2 : List Cond := [Cond.fieldLink RX0 62 "PauseLedger$Dinner" "lost" "I", Cond.fieldLink RX0 65 "PauseLedger$Dinner" "sent" "I", Cond.methodLink RX0 68 yJ7_fill_53178, Cond.static yJ7_fill_53178, Cond.initialized RJ7, Cond.code yJ7_fill_53178 cJ7_fill_53178 4 none]
def wsX0_init : List Cond := .code yX0_init cX0_init 1 none :: ((wsX0_init_r1 ++ wsX0_init_r2) ++ wsX00)
def wsX0_copyOf : List Cond := .code yX0_copyOf cX0_copyOf 2 none :: ([.fieldLink RX0 41 "PauseLedger$Dinner" "guests" "I", .fieldLink RX0 44 "PauseLedger$Dinner" "seconds" "I", .fieldLink RX0 33 "PauseLedger$Dinner" "limit" "I", .fieldLink RX0 47 "PauseLedger$Dinner" "speaker" "I", .fieldLink RX0 50 "PauseLedger$Dinner" "toSpeak" "I", .fieldLink RX0 53 "PauseLedger$Dinner" "pause" "I", .fieldLink RX0 56 "PauseLedger$Dinner" "unsaidInPauses" "I", .fieldLink RX0 59 "PauseLedger$Dinner" "meetings" "I", .fieldLink RX0 62 "PauseLedger$Dinner" "lost" "I", .fieldLink RX0 65 "PauseLedger$Dinner" "sent" "I", .fieldLink RX0 9 "PauseLedger$Dinner" "spoken" "[I", .methodLink RX0 74 arraycopyName, .native arraycopyName, .static arraycopyName, .initialized "java/lang/System", .fieldLink RX0 15 "PauseLedger$Dinner" "interruptions" "[I", .fieldLink RX0 18 "PauseLedger$Dinner" "coughs" "[I", .fieldLink RX0 21 "PauseLedger$Dinner" "unsaid" "[I", .fieldLink RX0 24 "PauseLedger$Dinner" "toGo" "[I", .fieldLink RX0 27 "PauseLedger$Dinner" "caught" "[I", .fieldLink RX0 30 "PauseLedger$Dinner" "order" "[I"] ++ wsX00)
def wsX0_letSpeak : List Cond := .code yX0_letSpeak cX0_letSpeak 4 (some .int) :: ([.fieldLink RX0 47 "PauseLedger$Dinner" "speaker" "I", .fieldLink RX0 15 "PauseLedger$Dinner" "interruptions" "[I", .fieldLink RX0 50 "PauseLedger$Dinner" "toSpeak" "I"] ++ wsX00)
def wsX0_unsaidByCough : List Cond := .code yX0_unsaidByCough cX0_unsaidByCough 3 (some .int) :: ([.fieldLink RX0 47 "PauseLedger$Dinner" "speaker" "I"] ++ wsX00)
def wsX0_letCough : List Cond := .code yX0_letCough cX0_letCough 4 (some .int) :: ([.fieldLink RX0 18 "PauseLedger$Dinner" "coughs" "[I", .fieldLink RX0 21 "PauseLedger$Dinner" "unsaid" "[I", .methodLink RX0 80 yX0_unsaidByCough, .instanceMethod yX0_unsaidByCough, .selects RX0 yX0_unsaidByCough yX0_unsaidByCough, .initialized RX0, .code yX0_unsaidByCough cX0_unsaidByCough 3 (some .int), .fieldLink RX0 47 "PauseLedger$Dinner" "speaker" "I"] ++ wsX00)
def wsX1_pairOf : List Cond := .code yX1_pairOf cX1_pairOf 2 (some .int) :: ([])
def wsX0_seatsBetween : List Cond := .code yX0_seatsBetween cX0_seatsBetween 4 (some .int) :: ([.methodLink RX0 114 Lib.Math.abs.name, .static Lib.Math.abs.name, .initialized "java/lang/Math", .code Lib.Math.abs.name Lib.Math.abs.code 1 (some .int), .fieldLink RX0 41 "PauseLedger$Dinner" "guests" "I", .methodLink RX0 119 Lib.Math.min.name, .static Lib.Math.min.name, .code Lib.Math.min.name Lib.Math.min.code 2 (some .int)] ++ wsX00)
def wsX0_wayOf : List Cond := .code yX0_wayOf cX0_wayOf 3 (some .int) :: ([.methodLink RX0 122 yX0_seatsBetween, .instanceMethod yX0_seatsBetween, .selects RX0 yX0_seatsBetween yX0_seatsBetween, .initialized RX0, .code yX0_seatsBetween cX0_seatsBetween 4 (some .int), .methodLink RX0 114 Lib.Math.abs.name, .static Lib.Math.abs.name, .initialized "java/lang/Math", .code Lib.Math.abs.name Lib.Math.abs.code 1 (some .int), .fieldLink RX0 41 "PauseLedger$Dinner" "guests" "I", .methodLink RX0 119 Lib.Math.min.name, .static Lib.Math.min.name, .code Lib.Math.min.name Lib.Math.min.code 2 (some .int)] ++ wsX00)
def wsX0_send : List Cond := .code yX0_send cX0_send 4 (some .int) :: ([.fieldLink RX0 65 "PauseLedger$Dinner" "sent" "I", .fieldLink RX0 30 "PauseLedger$Dinner" "order" "[I", .fieldLink RX0 24 "PauseLedger$Dinner" "toGo" "[I", .static yX1_pairOf, .initialized RX1, .code yX1_pairOf cX1_pairOf 2 (some .int), .methodLink RX0 87 yX0_wayOf, .instanceMethod yX0_wayOf, .selects RX0 yX0_wayOf yX0_wayOf, .initialized RX0, .code yX0_wayOf cX0_wayOf 3 (some .int), .methodLink RX0 122 yX0_seatsBetween, .instanceMethod yX0_seatsBetween, .selects RX0 yX0_seatsBetween yX0_seatsBetween, .code yX0_seatsBetween cX0_seatsBetween 4 (some .int), .methodLink RX0 114 Lib.Math.abs.name, .static Lib.Math.abs.name, .initialized "java/lang/Math", .code Lib.Math.abs.name Lib.Math.abs.code 1 (some .int), .fieldLink RX0 41 "PauseLedger$Dinner" "guests" "I", .methodLink RX0 119 Lib.Math.min.name, .static Lib.Math.min.name, .code Lib.Math.min.name Lib.Math.min.code 2 (some .int)] ++ wsX00)
def wsX0_beyondMultipleOfLimit : List Cond := .code yX0_beyondMultipleOfLimit cX0_beyondMultipleOfLimit 2 (some .int) :: ([.fieldLink RX0 33 "PauseLedger$Dinner" "limit" "I"] ++ wsX00)
def wsX0_speakOrPause : List Cond := .code yX0_speakOrPause cX0_speakOrPause 1 none :: ([.fieldLink RX0 47 "PauseLedger$Dinner" "speaker" "I", .fieldLink RX0 53 "PauseLedger$Dinner" "pause" "I", .fieldLink RX0 56 "PauseLedger$Dinner" "unsaidInPauses" "I", .fieldLink RX0 9 "PauseLedger$Dinner" "spoken" "[I", .fieldLink RX0 50 "PauseLedger$Dinner" "toSpeak" "I", .methodLink RX0 99 yX0_beyondMultipleOfLimit, .instanceMethod yX0_beyondMultipleOfLimit, .selects RX0 yX0_beyondMultipleOfLimit yX0_beyondMultipleOfLimit, .initialized RX0, .code yX0_beyondMultipleOfLimit cX0_beyondMultipleOfLimit 2 (some .int), .fieldLink RX0 33 "PauseLedger$Dinner" "limit" "I"] ++ wsX00)
def wsX0_isOnItsWay : List Cond := .code yX0_isOnItsWay cX0_isOnItsWay 2 (some .boolean) :: ([.fieldLink RX0 24 "PauseLedger$Dinner" "toGo" "[I"] ++ wsX00)
def wsX0_arrive : List Cond := .code yX0_arrive cX0_arrive 5 none :: ([.fieldLink RX0 59 "PauseLedger$Dinner" "meetings" "I", .fieldLink RX0 21 "PauseLedger$Dinner" "unsaid" "[I", .fieldLink RX0 24 "PauseLedger$Dinner" "toGo" "[I", .fieldLink RX0 47 "PauseLedger$Dinner" "speaker" "I", .fieldLink RX0 62 "PauseLedger$Dinner" "lost" "I", .fieldLink RX0 27 "PauseLedger$Dinner" "caught" "[I", .static yX1_pairOf, .initialized RX1, .code yX1_pairOf cX1_pairOf 2 (some .int), .methodLink RX0 110 yX0_isOnItsWay, .instanceMethod yX0_isOnItsWay, .selects RX0 yX0_isOnItsWay yX0_isOnItsWay, .initialized RX0, .code yX0_isOnItsWay cX0_isOnItsWay 2 (some .boolean)] ++ wsX00)
def wsX0_forgetThoseOver : List Cond := .code yX0_forgetThoseOver cX0_forgetThoseOver 4 none :: ([.fieldLink RX0 65 "PauseLedger$Dinner" "sent" "I", .fieldLink RX0 30 "PauseLedger$Dinner" "order" "[I", .methodLink RX0 110 yX0_isOnItsWay, .instanceMethod yX0_isOnItsWay, .selects RX0 yX0_isOnItsWay yX0_isOnItsWay, .initialized RX0, .code yX0_isOnItsWay cX0_isOnItsWay 2 (some .boolean), .fieldLink RX0 24 "PauseLedger$Dinner" "toGo" "[I"] ++ wsX00)
def wsX0_moveGlances : List Cond := .code yX0_moveGlances cX0_moveGlances 3 none :: ([.fieldLink RX0 65 "PauseLedger$Dinner" "sent" "I", .fieldLink RX0 24 "PauseLedger$Dinner" "toGo" "[I", .fieldLink RX0 30 "PauseLedger$Dinner" "order" "[I", .methodLink RX0 103 yX0_arrive, .instanceMethod yX0_arrive, .selects RX0 yX0_arrive yX0_arrive, .initialized RX0, .code yX0_arrive cX0_arrive 5 none, .fieldLink RX0 59 "PauseLedger$Dinner" "meetings" "I", .fieldLink RX0 21 "PauseLedger$Dinner" "unsaid" "[I", .fieldLink RX0 47 "PauseLedger$Dinner" "speaker" "I", .fieldLink RX0 62 "PauseLedger$Dinner" "lost" "I", .fieldLink RX0 27 "PauseLedger$Dinner" "caught" "[I", .static yX1_pairOf, .initialized RX1, .code yX1_pairOf cX1_pairOf 2 (some .int), .methodLink RX0 110 yX0_isOnItsWay, .instanceMethod yX0_isOnItsWay, .selects RX0 yX0_isOnItsWay yX0_isOnItsWay, .code yX0_isOnItsWay cX0_isOnItsWay 2 (some .boolean), .methodLink RX0 107 yX0_forgetThoseOver, .instanceMethod yX0_forgetThoseOver, .selects RX0 yX0_forgetThoseOver yX0_forgetThoseOver, .code yX0_forgetThoseOver cX0_forgetThoseOver 4 none] ++ wsX00)
def wsX0_goOneSecond_r1 : List Cond := [Cond.fieldLink RX0 44 "PauseLedger$Dinner" "seconds" "I", Cond.methodLink RX0 93 yX0_speakOrPause, Cond.instanceMethod yX0_speakOrPause, Cond.selects RX0 yX0_speakOrPause yX0_speakOrPause, Cond.initialized RX0, Cond.code yX0_speakOrPause cX0_speakOrPause 1 none, Cond.fieldLink RX0 47 "PauseLedger$Dinner" "speaker" "I", Cond.fieldLink RX0 53 "PauseLedger$Dinner" "pause" "I", Cond.fieldLink RX0 56 "PauseLedger$Dinner" "unsaidInPauses" "I", Cond.fieldLink RX0 9 "PauseLedger$Dinner" "spoken" "[I", Cond.fieldLink RX0 50 "PauseLedger$Dinner" "toSpeak" "I", Cond.methodLink RX0 99 yX0_beyondMultipleOfLimit, Cond.instanceMethod yX0_beyondMultipleOfLimit, Cond.selects RX0 yX0_beyondMultipleOfLimit yX0_beyondMultipleOfLimit, Cond.code yX0_beyondMultipleOfLimit cX0_beyondMultipleOfLimit 2 (some .int), Cond.fieldLink RX0 33 "PauseLedger$Dinner" "limit" "I", Cond.methodLink RX0 96 yX0_moveGlances, Cond.instanceMethod yX0_moveGlances, Cond.selects RX0 yX0_moveGlances yX0_moveGlances, Cond.code yX0_moveGlances cX0_moveGlances 3 none, Cond.fieldLink RX0 65 "PauseLedger$Dinner" "sent" "I", Cond.fieldLink RX0 24 "PauseLedger$Dinner" "toGo" "[I", Cond.fieldLink RX0 30 "PauseLedger$Dinner" "order" "[I", Cond.methodLink RX0 103 yX0_arrive]
def wsX0_goOneSecond_r2 : List Cond := [Cond.instanceMethod yX0_arrive, Cond.selects RX0 yX0_arrive yX0_arrive, Cond.code yX0_arrive cX0_arrive 5 none, Cond.fieldLink RX0 59 "PauseLedger$Dinner" "meetings" "I", Cond.fieldLink RX0 21 "PauseLedger$Dinner" "unsaid" "[I", Cond.fieldLink RX0 62 "PauseLedger$Dinner" "lost" "I", Cond.fieldLink RX0 27 "PauseLedger$Dinner" "caught" "[I", Cond.static yX1_pairOf, Cond.initialized RX1, Cond.code yX1_pairOf cX1_pairOf 2 (some .int), Cond.methodLink RX0 110 yX0_isOnItsWay, Cond.instanceMethod yX0_isOnItsWay, Cond.selects RX0 yX0_isOnItsWay yX0_isOnItsWay, Cond.code yX0_isOnItsWay cX0_isOnItsWay 2 (some .boolean), Cond.methodLink RX0 107 yX0_forgetThoseOver, Cond.instanceMethod yX0_forgetThoseOver, Cond.selects RX0 yX0_forgetThoseOver yX0_forgetThoseOver, Cond.code yX0_forgetThoseOver cX0_forgetThoseOver 4 none]
def wsX0_goOneSecond : List Cond := .code yX0_goOneSecond cX0_goOneSecond 1 none :: ((wsX0_goOneSecond_r1 ++ wsX0_goOneSecond_r2) ++ wsX00)
def wsX0_goBy_r1 : List Cond := [Cond.methodLink RX0 90 yX0_goOneSecond, Cond.instanceMethod yX0_goOneSecond, Cond.selects RX0 yX0_goOneSecond yX0_goOneSecond, Cond.initialized RX0, Cond.code yX0_goOneSecond cX0_goOneSecond 1 none, Cond.fieldLink RX0 44 "PauseLedger$Dinner" "seconds" "I", Cond.methodLink RX0 93 yX0_speakOrPause, Cond.instanceMethod yX0_speakOrPause, Cond.selects RX0 yX0_speakOrPause yX0_speakOrPause, Cond.code yX0_speakOrPause cX0_speakOrPause 1 none, Cond.fieldLink RX0 47 "PauseLedger$Dinner" "speaker" "I", Cond.fieldLink RX0 53 "PauseLedger$Dinner" "pause" "I", Cond.fieldLink RX0 56 "PauseLedger$Dinner" "unsaidInPauses" "I", Cond.fieldLink RX0 9 "PauseLedger$Dinner" "spoken" "[I", Cond.fieldLink RX0 50 "PauseLedger$Dinner" "toSpeak" "I", Cond.methodLink RX0 99 yX0_beyondMultipleOfLimit, Cond.instanceMethod yX0_beyondMultipleOfLimit, Cond.selects RX0 yX0_beyondMultipleOfLimit yX0_beyondMultipleOfLimit, Cond.code yX0_beyondMultipleOfLimit cX0_beyondMultipleOfLimit 2 (some .int), Cond.fieldLink RX0 33 "PauseLedger$Dinner" "limit" "I", Cond.methodLink RX0 96 yX0_moveGlances, Cond.instanceMethod yX0_moveGlances, Cond.selects RX0 yX0_moveGlances yX0_moveGlances, Cond.code yX0_moveGlances cX0_moveGlances 3 none]
def wsX0_goBy_r2 : List Cond := [Cond.fieldLink RX0 65 "PauseLedger$Dinner" "sent" "I", Cond.fieldLink RX0 24 "PauseLedger$Dinner" "toGo" "[I", Cond.fieldLink RX0 30 "PauseLedger$Dinner" "order" "[I", Cond.methodLink RX0 103 yX0_arrive, Cond.instanceMethod yX0_arrive, Cond.selects RX0 yX0_arrive yX0_arrive, Cond.code yX0_arrive cX0_arrive 5 none, Cond.fieldLink RX0 59 "PauseLedger$Dinner" "meetings" "I", Cond.fieldLink RX0 21 "PauseLedger$Dinner" "unsaid" "[I", Cond.fieldLink RX0 62 "PauseLedger$Dinner" "lost" "I", Cond.fieldLink RX0 27 "PauseLedger$Dinner" "caught" "[I", Cond.static yX1_pairOf, Cond.initialized RX1, Cond.code yX1_pairOf cX1_pairOf 2 (some .int), Cond.methodLink RX0 110 yX0_isOnItsWay, Cond.instanceMethod yX0_isOnItsWay, Cond.selects RX0 yX0_isOnItsWay yX0_isOnItsWay, Cond.code yX0_isOnItsWay cX0_isOnItsWay 2 (some .boolean), Cond.methodLink RX0 107 yX0_forgetThoseOver, Cond.instanceMethod yX0_forgetThoseOver, Cond.selects RX0 yX0_forgetThoseOver yX0_forgetThoseOver, Cond.code yX0_forgetThoseOver cX0_forgetThoseOver 4 none]
def wsX0_goBy : List Cond := .code yX0_goBy cX0_goBy 3 none :: ((wsX0_goBy_r1 ++ wsX0_goBy_r2) ++ wsX00)
def wsX0_timeToGo : List Cond := .code yX0_timeToGo cX0_timeToGo 2 (some .int) :: ([.fieldLink RX0 24 "PauseLedger$Dinner" "toGo" "[I", .methodLink RX0 110 yX0_isOnItsWay, .instanceMethod yX0_isOnItsWay, .selects RX0 yX0_isOnItsWay yX0_isOnItsWay, .initialized RX0, .code yX0_isOnItsWay cX0_isOnItsWay 2 (some .boolean)] ++ wsX00)
def wsX0_fateOf_r1 : List Cond := [Cond.fieldLink RX0 47 "PauseLedger$Dinner" "speaker" "I", Cond.fieldLink RX0 50 "PauseLedger$Dinner" "toSpeak" "I", Cond.static yX1_pairOf, Cond.initialized RX1, Cond.code yX1_pairOf cX1_pairOf 2 (some .int), Cond.methodLink RX0 125 yX0_timeToGo, Cond.instanceMethod yX0_timeToGo, Cond.selects RX0 yX0_timeToGo yX0_timeToGo, Cond.initialized RX0, Cond.code yX0_timeToGo cX0_timeToGo 2 (some .int), Cond.fieldLink RX0 24 "PauseLedger$Dinner" "toGo" "[I", Cond.methodLink RX0 110 yX0_isOnItsWay, Cond.instanceMethod yX0_isOnItsWay, Cond.selects RX0 yX0_isOnItsWay yX0_isOnItsWay, Cond.code yX0_isOnItsWay cX0_isOnItsWay 2 (some .boolean), Cond.methodLink RX0 87 yX0_wayOf, Cond.instanceMethod yX0_wayOf, Cond.selects RX0 yX0_wayOf yX0_wayOf, Cond.code yX0_wayOf cX0_wayOf 3 (some .int), Cond.methodLink RX0 122 yX0_seatsBetween, Cond.instanceMethod yX0_seatsBetween, Cond.selects RX0 yX0_seatsBetween yX0_seatsBetween, Cond.code yX0_seatsBetween cX0_seatsBetween 4 (some .int), Cond.methodLink RX0 114 Lib.Math.abs.name]
def wsX0_fateOf_r2 : List Cond := [Cond.static Lib.Math.abs.name, Cond.initialized "java/lang/Math", Cond.code Lib.Math.abs.name Lib.Math.abs.code 1 (some .int), Cond.fieldLink RX0 41 "PauseLedger$Dinner" "guests" "I", Cond.methodLink RX0 119 Lib.Math.min.name, Cond.static Lib.Math.min.name, Cond.code Lib.Math.min.name Lib.Math.min.code 2 (some .int)]
def wsX0_fateOf : List Cond := .code yX0_fateOf cX0_fateOf 5 (some .int) :: ((wsX0_fateOf_r1 ++ wsX0_fateOf_r2) ++ wsX00)
def wsX0_untilPauseCounts : List Cond := .code yX0_untilPauseCounts cX0_untilPauseCounts 1 (some .int) :: ([.fieldLink RX0 47 "PauseLedger$Dinner" "speaker" "I", .fieldLink RX0 33 "PauseLedger$Dinner" "limit" "I", .fieldLink RX0 53 "PauseLedger$Dinner" "pause" "I", .fieldLink RX0 50 "PauseLedger$Dinner" "toSpeak" "I", .methodLink RX0 99 yX0_beyondMultipleOfLimit, .instanceMethod yX0_beyondMultipleOfLimit, .selects RX0 yX0_beyondMultipleOfLimit yX0_beyondMultipleOfLimit, .initialized RX0, .code yX0_beyondMultipleOfLimit cX0_beyondMultipleOfLimit 2 (some .int)] ++ wsX00)
def wsX0_sumUnsaidByGuests : List Cond := .code yX0_sumUnsaidByGuests cX0_sumUnsaidByGuests 3 (some .int) :: ([.fieldLink RX0 41 "PauseLedger$Dinner" "guests" "I", .fieldLink RX0 21 "PauseLedger$Dinner" "unsaid" "[I"] ++ wsX00)
def wsX0_sumUnsaid : List Cond := .code yX0_sumUnsaid cX0_sumUnsaid 1 (some .int) :: ([.fieldLink RX0 56 "PauseLedger$Dinner" "unsaidInPauses" "I", .methodLink RX0 128 yX0_sumUnsaidByGuests, .instanceMethod yX0_sumUnsaidByGuests, .selects RX0 yX0_sumUnsaidByGuests yX0_sumUnsaidByGuests, .initialized RX0, .code yX0_sumUnsaidByGuests cX0_sumUnsaidByGuests 3 (some .int), .fieldLink RX0 41 "PauseLedger$Dinner" "guests" "I", .fieldLink RX0 21 "PauseLedger$Dinner" "unsaid" "[I"] ++ wsX00)
def wsX0_rate : List Cond := .code yX0_rate cX0_rate 2 (some .int) :: ([.fieldLink RX0 41 "PauseLedger$Dinner" "guests" "I", .methodLink RX0 114 Lib.Math.abs.name, .static Lib.Math.abs.name, .initialized "java/lang/Math", .code Lib.Math.abs.name Lib.Math.abs.code 1 (some .int), .methodLink RX0 135 Lib.Math.max.name, .static Lib.Math.max.name, .code Lib.Math.max.name Lib.Math.max.code 2 (some .int), .methodLink RX0 132 yX0_sumUnsaid, .instanceMethod yX0_sumUnsaid, .selects RX0 yX0_sumUnsaid yX0_sumUnsaid, .initialized RX0, .code yX0_sumUnsaid cX0_sumUnsaid 1 (some .int), .fieldLink RX0 56 "PauseLedger$Dinner" "unsaidInPauses" "I", .methodLink RX0 128 yX0_sumUnsaidByGuests, .instanceMethod yX0_sumUnsaidByGuests, .selects RX0 yX0_sumUnsaidByGuests yX0_sumUnsaidByGuests, .code yX0_sumUnsaidByGuests cX0_sumUnsaidByGuests 3 (some .int), .fieldLink RX0 21 "PauseLedger$Dinner" "unsaid" "[I"] ++ wsX00)
def wsX1_init_r1 : List Cond := [Cond.methodLink RX1 3 objectInit, Cond.instanceMethod objectInit, Cond.code objectInit ⟨#[0xb1]⟩ 1 none, Cond.classLink RX1 9 RX0, Cond.instantiable RX0 17, Cond.initialized RX0, Cond.fieldLink RX1 12 "PauseLedger" "dinner" "LPauseLedger$Dinner;", Cond.fieldLink RX1 16 "PauseLedger" "trial" "LPauseLedger$Dinner;", Cond.methodLink RX1 11 yX0_init, Cond.instanceMethod yX0_init, Cond.code yX0_init cX0_init 1 none, Cond.methodLink RX0 3 objectInit, Cond.arrayClass .int, Cond.fieldLink RX0 9 "PauseLedger$Dinner" "spoken" "[I", Cond.fieldLink RX0 15 "PauseLedger$Dinner" "interruptions" "[I", Cond.fieldLink RX0 18 "PauseLedger$Dinner" "coughs" "[I", Cond.fieldLink RX0 21 "PauseLedger$Dinner" "unsaid" "[I", Cond.fieldLink RX0 24 "PauseLedger$Dinner" "toGo" "[I", Cond.fieldLink RX0 27 "PauseLedger$Dinner" "caught" "[I", Cond.fieldLink RX0 30 "PauseLedger$Dinner" "order" "[I", Cond.fieldLink RX0 33 "PauseLedger$Dinner" "limit" "I", Cond.methodLink RX0 37 yX0_begin, Cond.instanceMethod yX0_begin, Cond.selects RX0 yX0_begin yX0_begin]
def wsX1_init_r2 : List Cond := [Cond.code yX0_begin cX0_begin 2 none, Cond.fieldLink RX0 41 "PauseLedger$Dinner" "guests" "I", Cond.fieldLink RX0 44 "PauseLedger$Dinner" "seconds" "I", Cond.fieldLink RX0 47 "PauseLedger$Dinner" "speaker" "I", Cond.fieldLink RX0 50 "PauseLedger$Dinner" "toSpeak" "I", Cond.fieldLink RX0 53 "PauseLedger$Dinner" "pause" "I", Cond.fieldLink RX0 56 "PauseLedger$Dinner" "unsaidInPauses" "I", Cond.fieldLink RX0 59 "PauseLedger$Dinner" "meetings" "I", Cond.fieldLink RX0 62 "PauseLedger$Dinner" "lost" "I", Cond.fieldLink RX0 65 "PauseLedger$Dinner" "sent" "I", Cond.methodLink RX0 68 yJ7_fill_53178, Cond.static yJ7_fill_53178, Cond.initialized RJ7, Cond.code yJ7_fill_53178 cJ7_fill_53178 4 none]
def wsX1_init : List Cond := .code yX1_init cX1_init 1 none :: ((wsX1_init_r1 ++ wsX1_init_r2) ++ wsX00 ++ wsX10)
def wsX1_requireWithin : List Cond := .code yX1_requireWithin cX1_requireWithin 3 none :: ([.classLink RX1 154 "java/lang/IllegalArgumentException", .initialized "java/lang/IllegalArgumentException"] ++ (vx_atS RX1 158 "java/lang/IllegalArgumentException" ["java/lang/RuntimeException", "java/lang/Exception"]).filter goodWord)
def wsX1_newDinner_r1 : List Cond := [Cond.fieldLink RX1 12 "PauseLedger" "dinner" "LPauseLedger$Dinner;", Cond.methodLink RX1 19 yX1_requireWithin, Cond.static yX1_requireWithin, Cond.initialized RX1, Cond.code yX1_requireWithin cX1_requireWithin 3 none, Cond.classLink RX1 154 "java/lang/IllegalArgumentException", Cond.initialized "java/lang/IllegalArgumentException", Cond.methodLink RX1 23 yX0_rate, Cond.instanceMethod yX0_rate, Cond.selects RX0 yX0_rate yX0_rate, Cond.initialized RX0, Cond.code yX0_rate cX0_rate 2 (some .int), Cond.fieldLink RX0 41 "PauseLedger$Dinner" "guests" "I", Cond.methodLink RX0 114 Lib.Math.abs.name, Cond.static Lib.Math.abs.name, Cond.initialized "java/lang/Math", Cond.code Lib.Math.abs.name Lib.Math.abs.code 1 (some .int), Cond.methodLink RX0 135 Lib.Math.max.name, Cond.static Lib.Math.max.name, Cond.code Lib.Math.max.name Lib.Math.max.code 2 (some .int), Cond.methodLink RX0 132 yX0_sumUnsaid, Cond.instanceMethod yX0_sumUnsaid, Cond.selects RX0 yX0_sumUnsaid yX0_sumUnsaid, Cond.code yX0_sumUnsaid cX0_sumUnsaid 1 (some .int)]
def wsX1_newDinner_r2 : List Cond := [Cond.fieldLink RX0 56 "PauseLedger$Dinner" "unsaidInPauses" "I", Cond.methodLink RX0 128 yX0_sumUnsaidByGuests, Cond.instanceMethod yX0_sumUnsaidByGuests, Cond.selects RX0 yX0_sumUnsaidByGuests yX0_sumUnsaidByGuests, Cond.code yX0_sumUnsaidByGuests cX0_sumUnsaidByGuests 3 (some .int), Cond.fieldLink RX0 21 "PauseLedger$Dinner" "unsaid" "[I", Cond.methodLink RX1 27 yX0_begin, Cond.instanceMethod yX0_begin, Cond.selects RX0 yX0_begin yX0_begin, Cond.code yX0_begin cX0_begin 2 none, Cond.fieldLink RX0 44 "PauseLedger$Dinner" "seconds" "I", Cond.fieldLink RX0 47 "PauseLedger$Dinner" "speaker" "I", Cond.fieldLink RX0 50 "PauseLedger$Dinner" "toSpeak" "I", Cond.fieldLink RX0 53 "PauseLedger$Dinner" "pause" "I", Cond.fieldLink RX0 59 "PauseLedger$Dinner" "meetings" "I", Cond.fieldLink RX0 62 "PauseLedger$Dinner" "lost" "I", Cond.fieldLink RX0 65 "PauseLedger$Dinner" "sent" "I", Cond.fieldLink RX0 9 "PauseLedger$Dinner" "spoken" "[I", Cond.fieldLink RX0 15 "PauseLedger$Dinner" "interruptions" "[I", Cond.fieldLink RX0 18 "PauseLedger$Dinner" "coughs" "[I", Cond.fieldLink RX0 24 "PauseLedger$Dinner" "toGo" "[I", Cond.fieldLink RX0 27 "PauseLedger$Dinner" "caught" "[I", Cond.methodLink RX0 68 yJ7_fill_53178, Cond.static yJ7_fill_53178]
def wsX1_newDinner_r3 : List Cond := [Cond.initialized RJ7, Cond.code yJ7_fill_53178 cJ7_fill_53178 4 none]
def wsX1_newDinner : List Cond := .code yX1_newDinner cX1_newDinner 3 (some .int) :: ((wsX1_newDinner_r1 ++ (wsX1_newDinner_r2 ++ wsX1_newDinner_r3)) ++ wsX10 ++ wsX00 ++ (vx_atS RX1 158 "java/lang/IllegalArgumentException" ["java/lang/RuntimeException", "java/lang/Exception"]).filter goodWord)
def wsX1_setLimit : List Cond := .code yX1_setLimit cX1_setLimit 3 (some .int) :: ([.fieldLink RX1 12 "PauseLedger" "dinner" "LPauseLedger$Dinner;", .fieldLink RX1 31 "PauseLedger$Dinner" "limit" "I", .methodLink RX1 19 yX1_requireWithin, .static yX1_requireWithin, .initialized RX1, .code yX1_requireWithin cX1_requireWithin 3 none, .classLink RX1 154 "java/lang/IllegalArgumentException", .initialized "java/lang/IllegalArgumentException"] ++ wsX10 ++ wsX00 ++ (vx_atS RX1 158 "java/lang/IllegalArgumentException" ["java/lang/RuntimeException", "java/lang/Exception"]).filter goodWord)
def wsX1_requireGuest : List Cond := .code yX1_requireGuest cX1_requireGuest 2 none :: ([.classLink RX1 147 "java/lang/IndexOutOfBoundsException", .initialized "java/lang/IndexOutOfBoundsException", .fieldLink RX1 12 "PauseLedger" "dinner" "LPauseLedger$Dinner;", .fieldLink RX1 58 "PauseLedger$Dinner" "guests" "I"] ++ wsX10 ++ wsX00 ++ (vx_atS RX1 151 "java/lang/IndexOutOfBoundsException" ["java/lang/RuntimeException", "java/lang/Exception"]).filter goodWord)
def wsX1_speak : List Cond := .code yX1_speak cX1_speak 3 (some .int) :: ([.fieldLink RX1 12 "PauseLedger" "dinner" "LPauseLedger$Dinner;", .methodLink RX1 35 yX1_requireGuest, .instanceMethod yX1_requireGuest, .selects RX1 yX1_requireGuest yX1_requireGuest, .initialized RX1, .code yX1_requireGuest cX1_requireGuest 2 none, .classLink RX1 147 "java/lang/IndexOutOfBoundsException", .initialized "java/lang/IndexOutOfBoundsException", .fieldLink RX1 58 "PauseLedger$Dinner" "guests" "I", .methodLink RX1 19 yX1_requireWithin, .static yX1_requireWithin, .code yX1_requireWithin cX1_requireWithin 3 none, .classLink RX1 154 "java/lang/IllegalArgumentException", .initialized "java/lang/IllegalArgumentException", .methodLink RX1 38 yX0_letSpeak, .instanceMethod yX0_letSpeak, .selects RX0 yX0_letSpeak yX0_letSpeak, .initialized RX0, .code yX0_letSpeak cX0_letSpeak 4 (some .int), .fieldLink RX0 47 "PauseLedger$Dinner" "speaker" "I", .fieldLink RX0 15 "PauseLedger$Dinner" "interruptions" "[I", .fieldLink RX0 50 "PauseLedger$Dinner" "toSpeak" "I"] ++ wsX10 ++ wsX00 ++ (vx_atS RX1 151 "java/lang/IndexOutOfBoundsException" ["java/lang/RuntimeException", "java/lang/Exception"]).filter goodWord ++ (vx_atS RX1 158 "java/lang/IllegalArgumentException" ["java/lang/RuntimeException", "java/lang/Exception"]).filter goodWord)
def wsX1_cough_r1 : List Cond := [Cond.fieldLink RX1 12 "PauseLedger" "dinner" "LPauseLedger$Dinner;", Cond.methodLink RX1 35 yX1_requireGuest, Cond.instanceMethod yX1_requireGuest, Cond.selects RX1 yX1_requireGuest yX1_requireGuest, Cond.initialized RX1, Cond.code yX1_requireGuest cX1_requireGuest 2 none, Cond.classLink RX1 147 "java/lang/IndexOutOfBoundsException", Cond.initialized "java/lang/IndexOutOfBoundsException", Cond.fieldLink RX1 58 "PauseLedger$Dinner" "guests" "I", Cond.methodLink RX1 19 yX1_requireWithin, Cond.static yX1_requireWithin, Cond.code yX1_requireWithin cX1_requireWithin 3 none, Cond.classLink RX1 154 "java/lang/IllegalArgumentException", Cond.initialized "java/lang/IllegalArgumentException", Cond.methodLink RX1 42 yX0_letCough, Cond.instanceMethod yX0_letCough, Cond.selects RX0 yX0_letCough yX0_letCough, Cond.initialized RX0, Cond.code yX0_letCough cX0_letCough 4 (some .int), Cond.fieldLink RX0 18 "PauseLedger$Dinner" "coughs" "[I", Cond.fieldLink RX0 21 "PauseLedger$Dinner" "unsaid" "[I", Cond.methodLink RX0 80 yX0_unsaidByCough, Cond.instanceMethod yX0_unsaidByCough, Cond.selects RX0 yX0_unsaidByCough yX0_unsaidByCough]
def wsX1_cough_r2 : List Cond := [Cond.code yX0_unsaidByCough cX0_unsaidByCough 3 (some .int), Cond.fieldLink RX0 47 "PauseLedger$Dinner" "speaker" "I"]
def wsX1_cough : List Cond := .code yX1_cough cX1_cough 3 (some .int) :: ((wsX1_cough_r1 ++ wsX1_cough_r2) ++ wsX10 ++ wsX00 ++ (vx_atS RX1 151 "java/lang/IndexOutOfBoundsException" ["java/lang/RuntimeException", "java/lang/Exception"]).filter goodWord ++ (vx_atS RX1 158 "java/lang/IllegalArgumentException" ["java/lang/RuntimeException", "java/lang/Exception"]).filter goodWord)
def wsX1_requireFreeWay : List Cond := .code yX1_requireFreeWay cX1_requireFreeWay 3 none :: ([.classLink RX1 154 "java/lang/IllegalArgumentException", .initialized "java/lang/IllegalArgumentException", .classLink RX1 161 "java/lang/IllegalStateException", .initialized "java/lang/IllegalStateException", .fieldLink RX1 12 "PauseLedger" "dinner" "LPauseLedger$Dinner;", .methodLink RX1 35 yX1_requireGuest, .instanceMethod yX1_requireGuest, .selects RX1 yX1_requireGuest yX1_requireGuest, .initialized RX1, .code yX1_requireGuest cX1_requireGuest 2 none, .classLink RX1 147 "java/lang/IndexOutOfBoundsException", .initialized "java/lang/IndexOutOfBoundsException", .fieldLink RX1 58 "PauseLedger$Dinner" "guests" "I", .methodLink RX1 89 yX1_pairOf, .static yX1_pairOf, .code yX1_pairOf cX1_pairOf 2 (some .int), .methodLink RX1 92 yX0_isOnItsWay, .instanceMethod yX0_isOnItsWay, .selects RX0 yX0_isOnItsWay yX0_isOnItsWay, .initialized RX0, .code yX0_isOnItsWay cX0_isOnItsWay 2 (some .boolean), .fieldLink RX0 24 "PauseLedger$Dinner" "toGo" "[I"] ++ wsX10 ++ wsX00 ++ (vx_atS RX1 158 "java/lang/IllegalArgumentException" ["java/lang/RuntimeException", "java/lang/Exception"]).filter goodWord ++ (vx_atS RX1 165 "java/lang/IllegalStateException" ["java/lang/RuntimeException", "java/lang/Exception"]).filter goodWord ++ (vx_atS RX1 151 "java/lang/IndexOutOfBoundsException" ["java/lang/RuntimeException", "java/lang/Exception"]).filter goodWord)
def wsX1_glance_r1 : List Cond := [Cond.fieldLink RX1 12 "PauseLedger" "dinner" "LPauseLedger$Dinner;", Cond.methodLink RX1 45 yX1_requireFreeWay, Cond.instanceMethod yX1_requireFreeWay, Cond.selects RX1 yX1_requireFreeWay yX1_requireFreeWay, Cond.initialized RX1, Cond.code yX1_requireFreeWay cX1_requireFreeWay 3 none, Cond.classLink RX1 154 "java/lang/IllegalArgumentException", Cond.initialized "java/lang/IllegalArgumentException", Cond.classLink RX1 161 "java/lang/IllegalStateException", Cond.initialized "java/lang/IllegalStateException", Cond.methodLink RX1 35 yX1_requireGuest, Cond.instanceMethod yX1_requireGuest, Cond.selects RX1 yX1_requireGuest yX1_requireGuest, Cond.code yX1_requireGuest cX1_requireGuest 2 none, Cond.classLink RX1 147 "java/lang/IndexOutOfBoundsException", Cond.initialized "java/lang/IndexOutOfBoundsException", Cond.fieldLink RX1 58 "PauseLedger$Dinner" "guests" "I", Cond.methodLink RX1 89 yX1_pairOf, Cond.static yX1_pairOf, Cond.code yX1_pairOf cX1_pairOf 2 (some .int), Cond.methodLink RX1 92 yX0_isOnItsWay, Cond.instanceMethod yX0_isOnItsWay, Cond.selects RX0 yX0_isOnItsWay yX0_isOnItsWay, Cond.initialized RX0]
def wsX1_glance_r2 : List Cond := [Cond.code yX0_isOnItsWay cX0_isOnItsWay 2 (some .boolean), Cond.fieldLink RX0 24 "PauseLedger$Dinner" "toGo" "[I", Cond.methodLink RX1 49 yX0_send, Cond.instanceMethod yX0_send, Cond.selects RX0 yX0_send yX0_send, Cond.code yX0_send cX0_send 4 (some .int), Cond.fieldLink RX0 65 "PauseLedger$Dinner" "sent" "I", Cond.fieldLink RX0 30 "PauseLedger$Dinner" "order" "[I", Cond.methodLink RX0 87 yX0_wayOf, Cond.instanceMethod yX0_wayOf, Cond.selects RX0 yX0_wayOf yX0_wayOf, Cond.code yX0_wayOf cX0_wayOf 3 (some .int), Cond.methodLink RX0 122 yX0_seatsBetween, Cond.instanceMethod yX0_seatsBetween, Cond.selects RX0 yX0_seatsBetween yX0_seatsBetween, Cond.code yX0_seatsBetween cX0_seatsBetween 4 (some .int), Cond.methodLink RX0 114 Lib.Math.abs.name, Cond.static Lib.Math.abs.name, Cond.initialized "java/lang/Math", Cond.code Lib.Math.abs.name Lib.Math.abs.code 1 (some .int), Cond.fieldLink RX0 41 "PauseLedger$Dinner" "guests" "I", Cond.methodLink RX0 119 Lib.Math.min.name, Cond.static Lib.Math.min.name, Cond.code Lib.Math.min.name Lib.Math.min.code 2 (some .int)]
def wsX1_glance : List Cond := .code yX1_glance cX1_glance 3 (some .int) :: ((wsX1_glance_r1 ++ wsX1_glance_r2) ++ wsX10 ++ wsX00 ++ (vx_atS RX1 158 "java/lang/IllegalArgumentException" ["java/lang/RuntimeException", "java/lang/Exception"]).filter goodWord ++ (vx_atS RX1 165 "java/lang/IllegalStateException" ["java/lang/RuntimeException", "java/lang/Exception"]).filter goodWord ++ (vx_atS RX1 151 "java/lang/IndexOutOfBoundsException" ["java/lang/RuntimeException", "java/lang/Exception"]).filter goodWord)
def wsX1_pass_r1 : List Cond := [Cond.fieldLink RX1 12 "PauseLedger" "dinner" "LPauseLedger$Dinner;", Cond.methodLink RX1 19 yX1_requireWithin, Cond.static yX1_requireWithin, Cond.initialized RX1, Cond.code yX1_requireWithin cX1_requireWithin 3 none, Cond.classLink RX1 154 "java/lang/IllegalArgumentException", Cond.initialized "java/lang/IllegalArgumentException", Cond.methodLink RX1 52 yX0_sumUnsaid, Cond.instanceMethod yX0_sumUnsaid, Cond.selects RX0 yX0_sumUnsaid yX0_sumUnsaid, Cond.initialized RX0, Cond.code yX0_sumUnsaid cX0_sumUnsaid 1 (some .int), Cond.fieldLink RX0 56 "PauseLedger$Dinner" "unsaidInPauses" "I", Cond.methodLink RX0 128 yX0_sumUnsaidByGuests, Cond.instanceMethod yX0_sumUnsaidByGuests, Cond.selects RX0 yX0_sumUnsaidByGuests yX0_sumUnsaidByGuests, Cond.code yX0_sumUnsaidByGuests cX0_sumUnsaidByGuests 3 (some .int), Cond.fieldLink RX0 41 "PauseLedger$Dinner" "guests" "I", Cond.fieldLink RX0 21 "PauseLedger$Dinner" "unsaid" "[I", Cond.methodLink RX1 55 yX0_goBy, Cond.instanceMethod yX0_goBy, Cond.selects RX0 yX0_goBy yX0_goBy, Cond.code yX0_goBy cX0_goBy 3 none, Cond.methodLink RX0 90 yX0_goOneSecond]
def wsX1_pass_r2 : List Cond := [Cond.instanceMethod yX0_goOneSecond, Cond.selects RX0 yX0_goOneSecond yX0_goOneSecond, Cond.code yX0_goOneSecond cX0_goOneSecond 1 none, Cond.fieldLink RX0 44 "PauseLedger$Dinner" "seconds" "I", Cond.methodLink RX0 93 yX0_speakOrPause, Cond.instanceMethod yX0_speakOrPause, Cond.selects RX0 yX0_speakOrPause yX0_speakOrPause, Cond.code yX0_speakOrPause cX0_speakOrPause 1 none, Cond.fieldLink RX0 47 "PauseLedger$Dinner" "speaker" "I", Cond.fieldLink RX0 53 "PauseLedger$Dinner" "pause" "I", Cond.fieldLink RX0 9 "PauseLedger$Dinner" "spoken" "[I", Cond.fieldLink RX0 50 "PauseLedger$Dinner" "toSpeak" "I", Cond.methodLink RX0 99 yX0_beyondMultipleOfLimit, Cond.instanceMethod yX0_beyondMultipleOfLimit, Cond.selects RX0 yX0_beyondMultipleOfLimit yX0_beyondMultipleOfLimit, Cond.code yX0_beyondMultipleOfLimit cX0_beyondMultipleOfLimit 2 (some .int), Cond.fieldLink RX0 33 "PauseLedger$Dinner" "limit" "I", Cond.methodLink RX0 96 yX0_moveGlances, Cond.instanceMethod yX0_moveGlances, Cond.selects RX0 yX0_moveGlances yX0_moveGlances, Cond.code yX0_moveGlances cX0_moveGlances 3 none, Cond.fieldLink RX0 65 "PauseLedger$Dinner" "sent" "I", Cond.fieldLink RX0 24 "PauseLedger$Dinner" "toGo" "[I", Cond.fieldLink RX0 30 "PauseLedger$Dinner" "order" "[I"]
def wsX1_pass_r3 : List Cond := [Cond.methodLink RX0 103 yX0_arrive, Cond.instanceMethod yX0_arrive, Cond.selects RX0 yX0_arrive yX0_arrive, Cond.code yX0_arrive cX0_arrive 5 none, Cond.fieldLink RX0 59 "PauseLedger$Dinner" "meetings" "I", Cond.fieldLink RX0 62 "PauseLedger$Dinner" "lost" "I", Cond.fieldLink RX0 27 "PauseLedger$Dinner" "caught" "[I", Cond.static yX1_pairOf, Cond.code yX1_pairOf cX1_pairOf 2 (some .int), Cond.methodLink RX0 110 yX0_isOnItsWay, Cond.instanceMethod yX0_isOnItsWay, Cond.selects RX0 yX0_isOnItsWay yX0_isOnItsWay, Cond.code yX0_isOnItsWay cX0_isOnItsWay 2 (some .boolean), Cond.methodLink RX0 107 yX0_forgetThoseOver, Cond.instanceMethod yX0_forgetThoseOver, Cond.selects RX0 yX0_forgetThoseOver yX0_forgetThoseOver, Cond.code yX0_forgetThoseOver cX0_forgetThoseOver 4 none]
def wsX1_pass : List Cond := .code yX1_pass cX1_pass 3 (some .int) :: ((wsX1_pass_r1 ++ (wsX1_pass_r2 ++ wsX1_pass_r3)) ++ wsX10 ++ wsX00 ++ (vx_atS RX1 158 "java/lang/IllegalArgumentException" ["java/lang/RuntimeException", "java/lang/Exception"]).filter goodWord)
def wsX1_guests : List Cond := .code yX1_guests cX1_guests 1 (some .int) :: ([.fieldLink RX1 12 "PauseLedger" "dinner" "LPauseLedger$Dinner;", .fieldLink RX1 58 "PauseLedger$Dinner" "guests" "I"] ++ wsX10 ++ wsX00)
def wsX1_seconds : List Cond := .code yX1_seconds cX1_seconds 1 (some .int) :: ([.fieldLink RX1 12 "PauseLedger" "dinner" "LPauseLedger$Dinner;", .fieldLink RX1 61 "PauseLedger$Dinner" "seconds" "I"] ++ wsX10 ++ wsX00)
def wsX1_limit : List Cond := .code yX1_limit cX1_limit 1 (some .int) :: ([.fieldLink RX1 12 "PauseLedger" "dinner" "LPauseLedger$Dinner;", .fieldLink RX1 31 "PauseLedger$Dinner" "limit" "I"] ++ wsX10 ++ wsX00)
def wsX1_seatsApart : List Cond := .code yX1_seatsApart cX1_seatsApart 3 (some .int) :: ([.fieldLink RX1 12 "PauseLedger" "dinner" "LPauseLedger$Dinner;", .methodLink RX1 35 yX1_requireGuest, .instanceMethod yX1_requireGuest, .selects RX1 yX1_requireGuest yX1_requireGuest, .initialized RX1, .code yX1_requireGuest cX1_requireGuest 2 none, .classLink RX1 147 "java/lang/IndexOutOfBoundsException", .initialized "java/lang/IndexOutOfBoundsException", .fieldLink RX1 58 "PauseLedger$Dinner" "guests" "I", .methodLink RX1 64 yX0_seatsBetween, .instanceMethod yX0_seatsBetween, .selects RX0 yX0_seatsBetween yX0_seatsBetween, .initialized RX0, .code yX0_seatsBetween cX0_seatsBetween 4 (some .int), .methodLink RX0 114 Lib.Math.abs.name, .static Lib.Math.abs.name, .initialized "java/lang/Math", .code Lib.Math.abs.name Lib.Math.abs.code 1 (some .int), .fieldLink RX0 41 "PauseLedger$Dinner" "guests" "I", .methodLink RX0 119 Lib.Math.min.name, .static Lib.Math.min.name, .code Lib.Math.min.name Lib.Math.min.code 2 (some .int)] ++ wsX10 ++ wsX00 ++ (vx_atS RX1 151 "java/lang/IndexOutOfBoundsException" ["java/lang/RuntimeException", "java/lang/Exception"]).filter goodWord)
def wsX1_speaker : List Cond := .code yX1_speaker cX1_speaker 1 (some .int) :: ([.fieldLink RX1 12 "PauseLedger" "dinner" "LPauseLedger$Dinner;", .fieldLink RX1 67 "PauseLedger$Dinner" "speaker" "I"] ++ wsX10 ++ wsX00)
def wsX1_secondsToSpeak : List Cond := .code yX1_secondsToSpeak cX1_secondsToSpeak 1 (some .int) :: ([.fieldLink RX1 12 "PauseLedger" "dinner" "LPauseLedger$Dinner;", .fieldLink RX1 70 "PauseLedger$Dinner" "toSpeak" "I"] ++ wsX10 ++ wsX00)
def wsX1_pause : List Cond := .code yX1_pause cX1_pause 1 (some .int) :: ([.fieldLink RX1 12 "PauseLedger" "dinner" "LPauseLedger$Dinner;", .fieldLink RX1 73 "PauseLedger$Dinner" "pause" "I"] ++ wsX10 ++ wsX00)
def wsX1_spokenBy : List Cond := .code yX1_spokenBy cX1_spokenBy 2 (some .int) :: ([.fieldLink RX1 12 "PauseLedger" "dinner" "LPauseLedger$Dinner;", .fieldLink RX1 76 "PauseLedger$Dinner" "spoken" "[I", .methodLink RX1 35 yX1_requireGuest, .instanceMethod yX1_requireGuest, .selects RX1 yX1_requireGuest yX1_requireGuest, .initialized RX1, .code yX1_requireGuest cX1_requireGuest 2 none, .classLink RX1 147 "java/lang/IndexOutOfBoundsException", .initialized "java/lang/IndexOutOfBoundsException", .fieldLink RX1 58 "PauseLedger$Dinner" "guests" "I"] ++ wsX10 ++ wsX00 ++ (vx_atS RX1 151 "java/lang/IndexOutOfBoundsException" ["java/lang/RuntimeException", "java/lang/Exception"]).filter goodWord)
def wsX1_interruptionsBy : List Cond := .code yX1_interruptionsBy cX1_interruptionsBy 2 (some .int) :: ([.fieldLink RX1 12 "PauseLedger" "dinner" "LPauseLedger$Dinner;", .fieldLink RX1 80 "PauseLedger$Dinner" "interruptions" "[I", .methodLink RX1 35 yX1_requireGuest, .instanceMethod yX1_requireGuest, .selects RX1 yX1_requireGuest yX1_requireGuest, .initialized RX1, .code yX1_requireGuest cX1_requireGuest 2 none, .classLink RX1 147 "java/lang/IndexOutOfBoundsException", .initialized "java/lang/IndexOutOfBoundsException", .fieldLink RX1 58 "PauseLedger$Dinner" "guests" "I"] ++ wsX10 ++ wsX00 ++ (vx_atS RX1 151 "java/lang/IndexOutOfBoundsException" ["java/lang/RuntimeException", "java/lang/Exception"]).filter goodWord)
def wsX1_coughsOf : List Cond := .code yX1_coughsOf cX1_coughsOf 2 (some .int) :: ([.fieldLink RX1 12 "PauseLedger" "dinner" "LPauseLedger$Dinner;", .fieldLink RX1 83 "PauseLedger$Dinner" "coughs" "[I", .methodLink RX1 35 yX1_requireGuest, .instanceMethod yX1_requireGuest, .selects RX1 yX1_requireGuest yX1_requireGuest, .initialized RX1, .code yX1_requireGuest cX1_requireGuest 2 none, .classLink RX1 147 "java/lang/IndexOutOfBoundsException", .initialized "java/lang/IndexOutOfBoundsException", .fieldLink RX1 58 "PauseLedger$Dinner" "guests" "I"] ++ wsX10 ++ wsX00 ++ (vx_atS RX1 151 "java/lang/IndexOutOfBoundsException" ["java/lang/RuntimeException", "java/lang/Exception"]).filter goodWord)
def wsX1_unsaidBy : List Cond := .code yX1_unsaidBy cX1_unsaidBy 2 (some .int) :: ([.fieldLink RX1 12 "PauseLedger" "dinner" "LPauseLedger$Dinner;", .fieldLink RX1 86 "PauseLedger$Dinner" "unsaid" "[I", .methodLink RX1 35 yX1_requireGuest, .instanceMethod yX1_requireGuest, .selects RX1 yX1_requireGuest yX1_requireGuest, .initialized RX1, .code yX1_requireGuest cX1_requireGuest 2 none, .classLink RX1 147 "java/lang/IndexOutOfBoundsException", .initialized "java/lang/IndexOutOfBoundsException", .fieldLink RX1 58 "PauseLedger$Dinner" "guests" "I"] ++ wsX10 ++ wsX00 ++ (vx_atS RX1 151 "java/lang/IndexOutOfBoundsException" ["java/lang/RuntimeException", "java/lang/Exception"]).filter goodWord)
def wsX1_isUnderWay : List Cond := .code yX1_isUnderWay cX1_isUnderWay 3 (some .boolean) :: ([.fieldLink RX1 12 "PauseLedger" "dinner" "LPauseLedger$Dinner;", .methodLink RX1 35 yX1_requireGuest, .instanceMethod yX1_requireGuest, .selects RX1 yX1_requireGuest yX1_requireGuest, .initialized RX1, .code yX1_requireGuest cX1_requireGuest 2 none, .classLink RX1 147 "java/lang/IndexOutOfBoundsException", .initialized "java/lang/IndexOutOfBoundsException", .fieldLink RX1 58 "PauseLedger$Dinner" "guests" "I", .methodLink RX1 89 yX1_pairOf, .static yX1_pairOf, .code yX1_pairOf cX1_pairOf 2 (some .int), .methodLink RX1 92 yX0_isOnItsWay, .instanceMethod yX0_isOnItsWay, .selects RX0 yX0_isOnItsWay yX0_isOnItsWay, .initialized RX0, .code yX0_isOnItsWay cX0_isOnItsWay 2 (some .boolean), .fieldLink RX0 24 "PauseLedger$Dinner" "toGo" "[I"] ++ wsX10 ++ wsX00 ++ (vx_atS RX1 151 "java/lang/IndexOutOfBoundsException" ["java/lang/RuntimeException", "java/lang/Exception"]).filter goodWord)
def wsX1_secondsToGo : List Cond := .code yX1_secondsToGo cX1_secondsToGo 3 (some .int) :: ([.fieldLink RX1 12 "PauseLedger" "dinner" "LPauseLedger$Dinner;", .methodLink RX1 35 yX1_requireGuest, .instanceMethod yX1_requireGuest, .selects RX1 yX1_requireGuest yX1_requireGuest, .initialized RX1, .code yX1_requireGuest cX1_requireGuest 2 none, .classLink RX1 147 "java/lang/IndexOutOfBoundsException", .initialized "java/lang/IndexOutOfBoundsException", .fieldLink RX1 58 "PauseLedger$Dinner" "guests" "I", .methodLink RX1 89 yX1_pairOf, .static yX1_pairOf, .code yX1_pairOf cX1_pairOf 2 (some .int), .methodLink RX1 96 yX0_timeToGo, .instanceMethod yX0_timeToGo, .selects RX0 yX0_timeToGo yX0_timeToGo, .initialized RX0, .code yX0_timeToGo cX0_timeToGo 2 (some .int), .fieldLink RX0 24 "PauseLedger$Dinner" "toGo" "[I", .methodLink RX0 110 yX0_isOnItsWay, .instanceMethod yX0_isOnItsWay, .selects RX0 yX0_isOnItsWay yX0_isOnItsWay, .code yX0_isOnItsWay cX0_isOnItsWay 2 (some .boolean)] ++ wsX10 ++ wsX00 ++ (vx_atS RX1 151 "java/lang/IndexOutOfBoundsException" ["java/lang/RuntimeException", "java/lang/Exception"]).filter goodWord)
def wsX1_caughtBy : List Cond := .code yX1_caughtBy cX1_caughtBy 3 (some .int) :: ([.fieldLink RX1 12 "PauseLedger" "dinner" "LPauseLedger$Dinner;", .fieldLink RX1 100 "PauseLedger$Dinner" "caught" "[I", .methodLink RX1 35 yX1_requireGuest, .instanceMethod yX1_requireGuest, .selects RX1 yX1_requireGuest yX1_requireGuest, .initialized RX1, .code yX1_requireGuest cX1_requireGuest 2 none, .classLink RX1 147 "java/lang/IndexOutOfBoundsException", .initialized "java/lang/IndexOutOfBoundsException", .fieldLink RX1 58 "PauseLedger$Dinner" "guests" "I", .methodLink RX1 89 yX1_pairOf, .static yX1_pairOf, .code yX1_pairOf cX1_pairOf 2 (some .int)] ++ wsX10 ++ wsX00 ++ (vx_atS RX1 151 "java/lang/IndexOutOfBoundsException" ["java/lang/RuntimeException", "java/lang/Exception"]).filter goodWord)
def wsX1_unsaidInPauses : List Cond := .code yX1_unsaidInPauses cX1_unsaidInPauses 1 (some .int) :: ([.fieldLink RX1 12 "PauseLedger" "dinner" "LPauseLedger$Dinner;", .fieldLink RX1 103 "PauseLedger$Dinner" "unsaidInPauses" "I"] ++ wsX10 ++ wsX00)
def wsX1_allUnsaid : List Cond := .code yX1_allUnsaid cX1_allUnsaid 1 (some .int) :: ([.fieldLink RX1 12 "PauseLedger" "dinner" "LPauseLedger$Dinner;", .methodLink RX1 52 yX0_sumUnsaid, .instanceMethod yX0_sumUnsaid, .selects RX0 yX0_sumUnsaid yX0_sumUnsaid, .initialized RX0, .code yX0_sumUnsaid cX0_sumUnsaid 1 (some .int), .fieldLink RX0 56 "PauseLedger$Dinner" "unsaidInPauses" "I", .methodLink RX0 128 yX0_sumUnsaidByGuests, .instanceMethod yX0_sumUnsaidByGuests, .selects RX0 yX0_sumUnsaidByGuests yX0_sumUnsaidByGuests, .code yX0_sumUnsaidByGuests cX0_sumUnsaidByGuests 3 (some .int), .fieldLink RX0 41 "PauseLedger$Dinner" "guests" "I", .fieldLink RX0 21 "PauseLedger$Dinner" "unsaid" "[I"] ++ wsX10 ++ wsX00)
def wsX1_glancesUnderWay : List Cond := .code yX1_glancesUnderWay cX1_glancesUnderWay 1 (some .int) :: ([.fieldLink RX1 12 "PauseLedger" "dinner" "LPauseLedger$Dinner;", .fieldLink RX1 106 "PauseLedger$Dinner" "sent" "I"] ++ wsX10 ++ wsX00)
def wsX1_meetings : List Cond := .code yX1_meetings cX1_meetings 1 (some .int) :: ([.fieldLink RX1 12 "PauseLedger" "dinner" "LPauseLedger$Dinner;", .fieldLink RX1 109 "PauseLedger$Dinner" "meetings" "I"] ++ wsX10 ++ wsX00)
def wsX1_lostGlances : List Cond := .code yX1_lostGlances cX1_lostGlances 1 (some .int) :: ([.fieldLink RX1 12 "PauseLedger" "dinner" "LPauseLedger$Dinner;", .fieldLink RX1 112 "PauseLedger$Dinner" "lost" "I"] ++ wsX10 ++ wsX00)
def wsX1_quietest : List Cond := .code yX1_quietest cX1_quietest 3 (some .int) :: ([.fieldLink RX1 12 "PauseLedger" "dinner" "LPauseLedger$Dinner;", .fieldLink RX1 58 "PauseLedger$Dinner" "guests" "I", .fieldLink RX1 86 "PauseLedger$Dinner" "unsaid" "[I"] ++ wsX10 ++ wsX00)
def wsX1_rating : List Cond := .code yX1_rating cX1_rating 1 (some .int) :: ([.fieldLink RX1 12 "PauseLedger" "dinner" "LPauseLedger$Dinner;", .methodLink RX1 23 yX0_rate, .instanceMethod yX0_rate, .selects RX0 yX0_rate yX0_rate, .initialized RX0, .code yX0_rate cX0_rate 2 (some .int), .fieldLink RX0 41 "PauseLedger$Dinner" "guests" "I", .methodLink RX0 114 Lib.Math.abs.name, .static Lib.Math.abs.name, .initialized "java/lang/Math", .code Lib.Math.abs.name Lib.Math.abs.code 1 (some .int), .methodLink RX0 135 Lib.Math.max.name, .static Lib.Math.max.name, .code Lib.Math.max.name Lib.Math.max.code 2 (some .int), .methodLink RX0 132 yX0_sumUnsaid, .instanceMethod yX0_sumUnsaid, .selects RX0 yX0_sumUnsaid yX0_sumUnsaid, .code yX0_sumUnsaid cX0_sumUnsaid 1 (some .int), .fieldLink RX0 56 "PauseLedger$Dinner" "unsaidInPauses" "I", .methodLink RX0 128 yX0_sumUnsaidByGuests, .instanceMethod yX0_sumUnsaidByGuests, .selects RX0 yX0_sumUnsaidByGuests yX0_sumUnsaidByGuests, .code yX0_sumUnsaidByGuests cX0_sumUnsaidByGuests 3 (some .int), .fieldLink RX0 21 "PauseLedger$Dinner" "unsaid" "[I"] ++ wsX10 ++ wsX00)
def wsX1_tryOut_r1 : List Cond := [Cond.fieldLink RX1 16 "PauseLedger" "trial" "LPauseLedger$Dinner;", Cond.fieldLink RX1 12 "PauseLedger" "dinner" "LPauseLedger$Dinner;", Cond.methodLink RX1 143 yX0_copyOf, Cond.instanceMethod yX0_copyOf, Cond.selects RX0 yX0_copyOf yX0_copyOf, Cond.initialized RX0, Cond.code yX0_copyOf cX0_copyOf 2 none, Cond.fieldLink RX0 41 "PauseLedger$Dinner" "guests" "I", Cond.fieldLink RX0 44 "PauseLedger$Dinner" "seconds" "I", Cond.fieldLink RX0 33 "PauseLedger$Dinner" "limit" "I", Cond.fieldLink RX0 47 "PauseLedger$Dinner" "speaker" "I", Cond.fieldLink RX0 50 "PauseLedger$Dinner" "toSpeak" "I", Cond.fieldLink RX0 53 "PauseLedger$Dinner" "pause" "I", Cond.fieldLink RX0 56 "PauseLedger$Dinner" "unsaidInPauses" "I", Cond.fieldLink RX0 59 "PauseLedger$Dinner" "meetings" "I", Cond.fieldLink RX0 62 "PauseLedger$Dinner" "lost" "I", Cond.fieldLink RX0 65 "PauseLedger$Dinner" "sent" "I", Cond.fieldLink RX0 9 "PauseLedger$Dinner" "spoken" "[I", Cond.methodLink RX0 74 arraycopyName, Cond.native arraycopyName, Cond.static arraycopyName, Cond.initialized "java/lang/System", Cond.fieldLink RX0 15 "PauseLedger$Dinner" "interruptions" "[I", Cond.fieldLink RX0 18 "PauseLedger$Dinner" "coughs" "[I"]
def wsX1_tryOut_r2 : List Cond := [Cond.fieldLink RX0 21 "PauseLedger$Dinner" "unsaid" "[I", Cond.fieldLink RX0 24 "PauseLedger$Dinner" "toGo" "[I", Cond.fieldLink RX0 27 "PauseLedger$Dinner" "caught" "[I", Cond.fieldLink RX0 30 "PauseLedger$Dinner" "order" "[I", Cond.methodLink RX1 55 yX0_goBy, Cond.instanceMethod yX0_goBy, Cond.selects RX0 yX0_goBy yX0_goBy, Cond.code yX0_goBy cX0_goBy 3 none, Cond.methodLink RX0 90 yX0_goOneSecond, Cond.instanceMethod yX0_goOneSecond, Cond.selects RX0 yX0_goOneSecond yX0_goOneSecond, Cond.code yX0_goOneSecond cX0_goOneSecond 1 none, Cond.methodLink RX0 93 yX0_speakOrPause, Cond.instanceMethod yX0_speakOrPause, Cond.selects RX0 yX0_speakOrPause yX0_speakOrPause, Cond.code yX0_speakOrPause cX0_speakOrPause 1 none, Cond.methodLink RX0 99 yX0_beyondMultipleOfLimit, Cond.instanceMethod yX0_beyondMultipleOfLimit, Cond.selects RX0 yX0_beyondMultipleOfLimit yX0_beyondMultipleOfLimit, Cond.code yX0_beyondMultipleOfLimit cX0_beyondMultipleOfLimit 2 (some .int), Cond.methodLink RX0 96 yX0_moveGlances, Cond.instanceMethod yX0_moveGlances, Cond.selects RX0 yX0_moveGlances yX0_moveGlances, Cond.code yX0_moveGlances cX0_moveGlances 3 none]
def wsX1_tryOut_r3 : List Cond := [Cond.methodLink RX0 103 yX0_arrive, Cond.instanceMethod yX0_arrive, Cond.selects RX0 yX0_arrive yX0_arrive, Cond.code yX0_arrive cX0_arrive 5 none, Cond.static yX1_pairOf, Cond.initialized RX1, Cond.code yX1_pairOf cX1_pairOf 2 (some .int), Cond.methodLink RX0 110 yX0_isOnItsWay, Cond.instanceMethod yX0_isOnItsWay, Cond.selects RX0 yX0_isOnItsWay yX0_isOnItsWay, Cond.code yX0_isOnItsWay cX0_isOnItsWay 2 (some .boolean), Cond.methodLink RX0 107 yX0_forgetThoseOver, Cond.instanceMethod yX0_forgetThoseOver, Cond.selects RX0 yX0_forgetThoseOver yX0_forgetThoseOver, Cond.code yX0_forgetThoseOver cX0_forgetThoseOver 4 none]
def wsX1_tryOut : List Cond := .code yX1_tryOut cX1_tryOut 2 none :: ((wsX1_tryOut_r1 ++ (wsX1_tryOut_r2 ++ wsX1_tryOut_r3)) ++ wsX10 ++ wsX00)
def wsX1_allUnsaidIn_r1 : List Cond := [Cond.fieldLink RX1 16 "PauseLedger" "trial" "LPauseLedger$Dinner;", Cond.methodLink RX1 19 yX1_requireWithin, Cond.static yX1_requireWithin, Cond.initialized RX1, Cond.code yX1_requireWithin cX1_requireWithin 3 none, Cond.classLink RX1 154 "java/lang/IllegalArgumentException", Cond.initialized "java/lang/IllegalArgumentException", Cond.methodLink RX1 115 yX1_tryOut, Cond.instanceMethod yX1_tryOut, Cond.selects RX1 yX1_tryOut yX1_tryOut, Cond.code yX1_tryOut cX1_tryOut 2 none, Cond.fieldLink RX1 12 "PauseLedger" "dinner" "LPauseLedger$Dinner;", Cond.methodLink RX1 143 yX0_copyOf, Cond.instanceMethod yX0_copyOf, Cond.selects RX0 yX0_copyOf yX0_copyOf, Cond.initialized RX0, Cond.code yX0_copyOf cX0_copyOf 2 none, Cond.fieldLink RX0 41 "PauseLedger$Dinner" "guests" "I", Cond.fieldLink RX0 44 "PauseLedger$Dinner" "seconds" "I", Cond.fieldLink RX0 33 "PauseLedger$Dinner" "limit" "I", Cond.fieldLink RX0 47 "PauseLedger$Dinner" "speaker" "I", Cond.fieldLink RX0 50 "PauseLedger$Dinner" "toSpeak" "I", Cond.fieldLink RX0 53 "PauseLedger$Dinner" "pause" "I", Cond.fieldLink RX0 56 "PauseLedger$Dinner" "unsaidInPauses" "I"]
def wsX1_allUnsaidIn_r2 : List Cond := [Cond.fieldLink RX0 59 "PauseLedger$Dinner" "meetings" "I", Cond.fieldLink RX0 62 "PauseLedger$Dinner" "lost" "I", Cond.fieldLink RX0 65 "PauseLedger$Dinner" "sent" "I", Cond.fieldLink RX0 9 "PauseLedger$Dinner" "spoken" "[I", Cond.methodLink RX0 74 arraycopyName, Cond.native arraycopyName, Cond.static arraycopyName, Cond.initialized "java/lang/System", Cond.fieldLink RX0 15 "PauseLedger$Dinner" "interruptions" "[I", Cond.fieldLink RX0 18 "PauseLedger$Dinner" "coughs" "[I", Cond.fieldLink RX0 21 "PauseLedger$Dinner" "unsaid" "[I", Cond.fieldLink RX0 24 "PauseLedger$Dinner" "toGo" "[I", Cond.fieldLink RX0 27 "PauseLedger$Dinner" "caught" "[I", Cond.fieldLink RX0 30 "PauseLedger$Dinner" "order" "[I", Cond.methodLink RX1 55 yX0_goBy, Cond.instanceMethod yX0_goBy, Cond.selects RX0 yX0_goBy yX0_goBy, Cond.code yX0_goBy cX0_goBy 3 none, Cond.methodLink RX0 90 yX0_goOneSecond, Cond.instanceMethod yX0_goOneSecond, Cond.selects RX0 yX0_goOneSecond yX0_goOneSecond, Cond.code yX0_goOneSecond cX0_goOneSecond 1 none, Cond.methodLink RX0 93 yX0_speakOrPause, Cond.instanceMethod yX0_speakOrPause]
def wsX1_allUnsaidIn_r3 : List Cond := [Cond.selects RX0 yX0_speakOrPause yX0_speakOrPause, Cond.code yX0_speakOrPause cX0_speakOrPause 1 none, Cond.methodLink RX0 99 yX0_beyondMultipleOfLimit, Cond.instanceMethod yX0_beyondMultipleOfLimit, Cond.selects RX0 yX0_beyondMultipleOfLimit yX0_beyondMultipleOfLimit, Cond.code yX0_beyondMultipleOfLimit cX0_beyondMultipleOfLimit 2 (some .int), Cond.methodLink RX0 96 yX0_moveGlances, Cond.instanceMethod yX0_moveGlances, Cond.selects RX0 yX0_moveGlances yX0_moveGlances, Cond.code yX0_moveGlances cX0_moveGlances 3 none, Cond.methodLink RX0 103 yX0_arrive, Cond.instanceMethod yX0_arrive, Cond.selects RX0 yX0_arrive yX0_arrive, Cond.code yX0_arrive cX0_arrive 5 none, Cond.static yX1_pairOf, Cond.code yX1_pairOf cX1_pairOf 2 (some .int), Cond.methodLink RX0 110 yX0_isOnItsWay, Cond.instanceMethod yX0_isOnItsWay, Cond.selects RX0 yX0_isOnItsWay yX0_isOnItsWay, Cond.code yX0_isOnItsWay cX0_isOnItsWay 2 (some .boolean), Cond.methodLink RX0 107 yX0_forgetThoseOver, Cond.instanceMethod yX0_forgetThoseOver, Cond.selects RX0 yX0_forgetThoseOver yX0_forgetThoseOver, Cond.code yX0_forgetThoseOver cX0_forgetThoseOver 4 none]
def wsX1_allUnsaidIn_r4 : List Cond := [Cond.methodLink RX1 52 yX0_sumUnsaid, Cond.instanceMethod yX0_sumUnsaid, Cond.selects RX0 yX0_sumUnsaid yX0_sumUnsaid, Cond.code yX0_sumUnsaid cX0_sumUnsaid 1 (some .int), Cond.methodLink RX0 128 yX0_sumUnsaidByGuests, Cond.instanceMethod yX0_sumUnsaidByGuests, Cond.selects RX0 yX0_sumUnsaidByGuests yX0_sumUnsaidByGuests, Cond.code yX0_sumUnsaidByGuests cX0_sumUnsaidByGuests 3 (some .int)]
def wsX1_allUnsaidIn : List Cond := .code yX1_allUnsaidIn cX1_allUnsaidIn 2 (some .int) :: ((wsX1_allUnsaidIn_r1 ++ (wsX1_allUnsaidIn_r2 ++ (wsX1_allUnsaidIn_r3 ++ wsX1_allUnsaidIn_r4))) ++ wsX10 ++ wsX00 ++ (vx_atS RX1 158 "java/lang/IllegalArgumentException" ["java/lang/RuntimeException", "java/lang/Exception"]).filter goodWord)
def wsX1_secondsUntilPauseCounts : List Cond := .code yX1_secondsUntilPauseCounts cX1_secondsUntilPauseCounts 1 (some .int) :: ([.fieldLink RX1 12 "PauseLedger" "dinner" "LPauseLedger$Dinner;", .methodLink RX1 118 yX0_untilPauseCounts, .instanceMethod yX0_untilPauseCounts, .selects RX0 yX0_untilPauseCounts yX0_untilPauseCounts, .initialized RX0, .code yX0_untilPauseCounts cX0_untilPauseCounts 1 (some .int), .fieldLink RX0 47 "PauseLedger$Dinner" "speaker" "I", .fieldLink RX0 33 "PauseLedger$Dinner" "limit" "I", .fieldLink RX0 53 "PauseLedger$Dinner" "pause" "I", .fieldLink RX0 50 "PauseLedger$Dinner" "toSpeak" "I", .methodLink RX0 99 yX0_beyondMultipleOfLimit, .instanceMethod yX0_beyondMultipleOfLimit, .selects RX0 yX0_beyondMultipleOfLimit yX0_beyondMultipleOfLimit, .code yX0_beyondMultipleOfLimit cX0_beyondMultipleOfLimit 2 (some .int)] ++ wsX10 ++ wsX00)
def wsX1_wouldLeave_r1 : List Cond := [Cond.fieldLink RX1 12 "PauseLedger" "dinner" "LPauseLedger$Dinner;", Cond.methodLink RX1 45 yX1_requireFreeWay, Cond.instanceMethod yX1_requireFreeWay, Cond.selects RX1 yX1_requireFreeWay yX1_requireFreeWay, Cond.initialized RX1, Cond.code yX1_requireFreeWay cX1_requireFreeWay 3 none, Cond.classLink RX1 154 "java/lang/IllegalArgumentException", Cond.initialized "java/lang/IllegalArgumentException", Cond.classLink RX1 161 "java/lang/IllegalStateException", Cond.initialized "java/lang/IllegalStateException", Cond.methodLink RX1 35 yX1_requireGuest, Cond.instanceMethod yX1_requireGuest, Cond.selects RX1 yX1_requireGuest yX1_requireGuest, Cond.code yX1_requireGuest cX1_requireGuest 2 none, Cond.classLink RX1 147 "java/lang/IndexOutOfBoundsException", Cond.initialized "java/lang/IndexOutOfBoundsException", Cond.fieldLink RX1 58 "PauseLedger$Dinner" "guests" "I", Cond.methodLink RX1 89 yX1_pairOf, Cond.static yX1_pairOf, Cond.code yX1_pairOf cX1_pairOf 2 (some .int), Cond.methodLink RX1 92 yX0_isOnItsWay, Cond.instanceMethod yX0_isOnItsWay, Cond.selects RX0 yX0_isOnItsWay yX0_isOnItsWay, Cond.initialized RX0]
def wsX1_wouldLeave_r2 : List Cond := [Cond.code yX0_isOnItsWay cX0_isOnItsWay 2 (some .boolean), Cond.fieldLink RX0 24 "PauseLedger$Dinner" "toGo" "[I", Cond.methodLink RX1 121 yX0_fateOf, Cond.instanceMethod yX0_fateOf, Cond.selects RX0 yX0_fateOf yX0_fateOf, Cond.code yX0_fateOf cX0_fateOf 5 (some .int), Cond.fieldLink RX0 47 "PauseLedger$Dinner" "speaker" "I", Cond.fieldLink RX0 50 "PauseLedger$Dinner" "toSpeak" "I", Cond.methodLink RX0 125 yX0_timeToGo, Cond.instanceMethod yX0_timeToGo, Cond.selects RX0 yX0_timeToGo yX0_timeToGo, Cond.code yX0_timeToGo cX0_timeToGo 2 (some .int), Cond.methodLink RX0 110 yX0_isOnItsWay, Cond.methodLink RX0 87 yX0_wayOf, Cond.instanceMethod yX0_wayOf, Cond.selects RX0 yX0_wayOf yX0_wayOf, Cond.code yX0_wayOf cX0_wayOf 3 (some .int), Cond.methodLink RX0 122 yX0_seatsBetween, Cond.instanceMethod yX0_seatsBetween, Cond.selects RX0 yX0_seatsBetween yX0_seatsBetween, Cond.code yX0_seatsBetween cX0_seatsBetween 4 (some .int), Cond.methodLink RX0 114 Lib.Math.abs.name, Cond.static Lib.Math.abs.name, Cond.initialized "java/lang/Math"]
def wsX1_wouldLeave_r3 : List Cond := [Cond.code Lib.Math.abs.name Lib.Math.abs.code 1 (some .int), Cond.fieldLink RX0 41 "PauseLedger$Dinner" "guests" "I", Cond.methodLink RX0 119 Lib.Math.min.name, Cond.static Lib.Math.min.name, Cond.code Lib.Math.min.name Lib.Math.min.code 2 (some .int)]
def wsX1_wouldLeave : List Cond := .code yX1_wouldLeave cX1_wouldLeave 3 (some .int) :: ((wsX1_wouldLeave_r1 ++ (wsX1_wouldLeave_r2 ++ wsX1_wouldLeave_r3)) ++ wsX10 ++ wsX00 ++ (vx_atS RX1 158 "java/lang/IllegalArgumentException" ["java/lang/RuntimeException", "java/lang/Exception"]).filter goodWord ++ (vx_atS RX1 165 "java/lang/IllegalStateException" ["java/lang/RuntimeException", "java/lang/Exception"]).filter goodWord ++ (vx_atS RX1 151 "java/lang/IndexOutOfBoundsException" ["java/lang/RuntimeException", "java/lang/Exception"]).filter goodWord)
def wsX1_bestMoment_r1 : List Cond := [Cond.fieldLink RX1 12 "PauseLedger" "dinner" "LPauseLedger$Dinner;", Cond.methodLink RX1 45 yX1_requireFreeWay, Cond.instanceMethod yX1_requireFreeWay, Cond.selects RX1 yX1_requireFreeWay yX1_requireFreeWay, Cond.initialized RX1, Cond.code yX1_requireFreeWay cX1_requireFreeWay 3 none, Cond.classLink RX1 154 "java/lang/IllegalArgumentException", Cond.initialized "java/lang/IllegalArgumentException", Cond.classLink RX1 161 "java/lang/IllegalStateException", Cond.initialized "java/lang/IllegalStateException", Cond.methodLink RX1 35 yX1_requireGuest, Cond.instanceMethod yX1_requireGuest, Cond.selects RX1 yX1_requireGuest yX1_requireGuest, Cond.code yX1_requireGuest cX1_requireGuest 2 none, Cond.classLink RX1 147 "java/lang/IndexOutOfBoundsException", Cond.initialized "java/lang/IndexOutOfBoundsException", Cond.fieldLink RX1 58 "PauseLedger$Dinner" "guests" "I", Cond.methodLink RX1 89 yX1_pairOf, Cond.static yX1_pairOf, Cond.code yX1_pairOf cX1_pairOf 2 (some .int), Cond.methodLink RX1 92 yX0_isOnItsWay, Cond.instanceMethod yX0_isOnItsWay, Cond.selects RX0 yX0_isOnItsWay yX0_isOnItsWay, Cond.initialized RX0]
def wsX1_bestMoment_r2 : List Cond := [Cond.code yX0_isOnItsWay cX0_isOnItsWay 2 (some .boolean), Cond.fieldLink RX0 24 "PauseLedger$Dinner" "toGo" "[I", Cond.methodLink RX1 121 yX0_fateOf, Cond.instanceMethod yX0_fateOf, Cond.selects RX0 yX0_fateOf yX0_fateOf, Cond.code yX0_fateOf cX0_fateOf 5 (some .int), Cond.fieldLink RX0 47 "PauseLedger$Dinner" "speaker" "I", Cond.fieldLink RX0 50 "PauseLedger$Dinner" "toSpeak" "I", Cond.methodLink RX0 125 yX0_timeToGo, Cond.instanceMethod yX0_timeToGo, Cond.selects RX0 yX0_timeToGo yX0_timeToGo, Cond.code yX0_timeToGo cX0_timeToGo 2 (some .int), Cond.methodLink RX0 110 yX0_isOnItsWay, Cond.methodLink RX0 87 yX0_wayOf, Cond.instanceMethod yX0_wayOf, Cond.selects RX0 yX0_wayOf yX0_wayOf, Cond.code yX0_wayOf cX0_wayOf 3 (some .int), Cond.methodLink RX0 122 yX0_seatsBetween, Cond.instanceMethod yX0_seatsBetween, Cond.selects RX0 yX0_seatsBetween yX0_seatsBetween, Cond.code yX0_seatsBetween cX0_seatsBetween 4 (some .int), Cond.methodLink RX0 114 Lib.Math.abs.name, Cond.static Lib.Math.abs.name, Cond.initialized "java/lang/Math"]
def wsX1_bestMoment_r3 : List Cond := [Cond.code Lib.Math.abs.name Lib.Math.abs.code 1 (some .int), Cond.fieldLink RX0 41 "PauseLedger$Dinner" "guests" "I", Cond.methodLink RX0 119 Lib.Math.min.name, Cond.static Lib.Math.min.name, Cond.code Lib.Math.min.name Lib.Math.min.code 2 (some .int)]
def wsX1_bestMoment : List Cond := .code yX1_bestMoment cX1_bestMoment 4 (some .int) :: ((wsX1_bestMoment_r1 ++ (wsX1_bestMoment_r2 ++ wsX1_bestMoment_r3)) ++ wsX10 ++ wsX00 ++ (vx_atS RX1 158 "java/lang/IllegalArgumentException" ["java/lang/RuntimeException", "java/lang/Exception"]).filter goodWord ++ (vx_atS RX1 165 "java/lang/IllegalStateException" ["java/lang/RuntimeException", "java/lang/Exception"]).filter goodWord ++ (vx_atS RX1 151 "java/lang/IndexOutOfBoundsException" ["java/lang/RuntimeException", "java/lang/Exception"]).filter goodWord)
def wsX1_ratingIn_r1 : List Cond := [Cond.fieldLink RX1 16 "PauseLedger" "trial" "LPauseLedger$Dinner;", Cond.methodLink RX1 19 yX1_requireWithin, Cond.static yX1_requireWithin, Cond.initialized RX1, Cond.code yX1_requireWithin cX1_requireWithin 3 none, Cond.classLink RX1 154 "java/lang/IllegalArgumentException", Cond.initialized "java/lang/IllegalArgumentException", Cond.methodLink RX1 115 yX1_tryOut, Cond.instanceMethod yX1_tryOut, Cond.selects RX1 yX1_tryOut yX1_tryOut, Cond.code yX1_tryOut cX1_tryOut 2 none, Cond.fieldLink RX1 12 "PauseLedger" "dinner" "LPauseLedger$Dinner;", Cond.methodLink RX1 143 yX0_copyOf, Cond.instanceMethod yX0_copyOf, Cond.selects RX0 yX0_copyOf yX0_copyOf, Cond.initialized RX0, Cond.code yX0_copyOf cX0_copyOf 2 none, Cond.fieldLink RX0 41 "PauseLedger$Dinner" "guests" "I", Cond.fieldLink RX0 44 "PauseLedger$Dinner" "seconds" "I", Cond.fieldLink RX0 33 "PauseLedger$Dinner" "limit" "I", Cond.fieldLink RX0 47 "PauseLedger$Dinner" "speaker" "I", Cond.fieldLink RX0 50 "PauseLedger$Dinner" "toSpeak" "I", Cond.fieldLink RX0 53 "PauseLedger$Dinner" "pause" "I", Cond.fieldLink RX0 56 "PauseLedger$Dinner" "unsaidInPauses" "I"]
def wsX1_ratingIn_r2 : List Cond := [Cond.fieldLink RX0 59 "PauseLedger$Dinner" "meetings" "I", Cond.fieldLink RX0 62 "PauseLedger$Dinner" "lost" "I", Cond.fieldLink RX0 65 "PauseLedger$Dinner" "sent" "I", Cond.fieldLink RX0 9 "PauseLedger$Dinner" "spoken" "[I", Cond.methodLink RX0 74 arraycopyName, Cond.native arraycopyName, Cond.static arraycopyName, Cond.initialized "java/lang/System", Cond.fieldLink RX0 15 "PauseLedger$Dinner" "interruptions" "[I", Cond.fieldLink RX0 18 "PauseLedger$Dinner" "coughs" "[I", Cond.fieldLink RX0 21 "PauseLedger$Dinner" "unsaid" "[I", Cond.fieldLink RX0 24 "PauseLedger$Dinner" "toGo" "[I", Cond.fieldLink RX0 27 "PauseLedger$Dinner" "caught" "[I", Cond.fieldLink RX0 30 "PauseLedger$Dinner" "order" "[I", Cond.methodLink RX1 55 yX0_goBy, Cond.instanceMethod yX0_goBy, Cond.selects RX0 yX0_goBy yX0_goBy, Cond.code yX0_goBy cX0_goBy 3 none, Cond.methodLink RX0 90 yX0_goOneSecond, Cond.instanceMethod yX0_goOneSecond, Cond.selects RX0 yX0_goOneSecond yX0_goOneSecond, Cond.code yX0_goOneSecond cX0_goOneSecond 1 none, Cond.methodLink RX0 93 yX0_speakOrPause, Cond.instanceMethod yX0_speakOrPause]
def wsX1_ratingIn_r3 : List Cond := [Cond.selects RX0 yX0_speakOrPause yX0_speakOrPause, Cond.code yX0_speakOrPause cX0_speakOrPause 1 none, Cond.methodLink RX0 99 yX0_beyondMultipleOfLimit, Cond.instanceMethod yX0_beyondMultipleOfLimit, Cond.selects RX0 yX0_beyondMultipleOfLimit yX0_beyondMultipleOfLimit, Cond.code yX0_beyondMultipleOfLimit cX0_beyondMultipleOfLimit 2 (some .int), Cond.methodLink RX0 96 yX0_moveGlances, Cond.instanceMethod yX0_moveGlances, Cond.selects RX0 yX0_moveGlances yX0_moveGlances, Cond.code yX0_moveGlances cX0_moveGlances 3 none, Cond.methodLink RX0 103 yX0_arrive, Cond.instanceMethod yX0_arrive, Cond.selects RX0 yX0_arrive yX0_arrive, Cond.code yX0_arrive cX0_arrive 5 none, Cond.static yX1_pairOf, Cond.code yX1_pairOf cX1_pairOf 2 (some .int), Cond.methodLink RX0 110 yX0_isOnItsWay, Cond.instanceMethod yX0_isOnItsWay, Cond.selects RX0 yX0_isOnItsWay yX0_isOnItsWay, Cond.code yX0_isOnItsWay cX0_isOnItsWay 2 (some .boolean), Cond.methodLink RX0 107 yX0_forgetThoseOver, Cond.instanceMethod yX0_forgetThoseOver, Cond.selects RX0 yX0_forgetThoseOver yX0_forgetThoseOver, Cond.code yX0_forgetThoseOver cX0_forgetThoseOver 4 none]
def wsX1_ratingIn_r4 : List Cond := [Cond.methodLink RX1 23 yX0_rate, Cond.instanceMethod yX0_rate, Cond.selects RX0 yX0_rate yX0_rate, Cond.code yX0_rate cX0_rate 2 (some .int), Cond.methodLink RX0 114 Lib.Math.abs.name, Cond.static Lib.Math.abs.name, Cond.initialized "java/lang/Math", Cond.code Lib.Math.abs.name Lib.Math.abs.code 1 (some .int), Cond.methodLink RX0 135 Lib.Math.max.name, Cond.static Lib.Math.max.name, Cond.code Lib.Math.max.name Lib.Math.max.code 2 (some .int), Cond.methodLink RX0 132 yX0_sumUnsaid, Cond.instanceMethod yX0_sumUnsaid, Cond.selects RX0 yX0_sumUnsaid yX0_sumUnsaid, Cond.code yX0_sumUnsaid cX0_sumUnsaid 1 (some .int), Cond.methodLink RX0 128 yX0_sumUnsaidByGuests, Cond.instanceMethod yX0_sumUnsaidByGuests, Cond.selects RX0 yX0_sumUnsaidByGuests yX0_sumUnsaidByGuests, Cond.code yX0_sumUnsaidByGuests cX0_sumUnsaidByGuests 3 (some .int)]
def wsX1_ratingIn : List Cond := .code yX1_ratingIn cX1_ratingIn 2 (some .int) :: ((wsX1_ratingIn_r1 ++ (wsX1_ratingIn_r2 ++ (wsX1_ratingIn_r3 ++ wsX1_ratingIn_r4))) ++ wsX10 ++ wsX00 ++ (vx_atS RX1 158 "java/lang/IllegalArgumentException" ["java/lang/RuntimeException", "java/lang/Exception"]).filter goodWord)
def wsX1_meanUnsaid : List Cond := .code yX1_meanUnsaid cX1_meanUnsaid 1 (some .double) :: ([.fieldLink RX1 12 "PauseLedger" "dinner" "LPauseLedger$Dinner;", .fieldLink RX1 58 "PauseLedger$Dinner" "guests" "I", .methodLink RX1 125 yX0_sumUnsaidByGuests, .instanceMethod yX0_sumUnsaidByGuests, .selects RX0 yX0_sumUnsaidByGuests yX0_sumUnsaidByGuests, .initialized RX0, .code yX0_sumUnsaidByGuests cX0_sumUnsaidByGuests 3 (some .int), .fieldLink RX0 41 "PauseLedger$Dinner" "guests" "I", .fieldLink RX0 21 "PauseLedger$Dinner" "unsaid" "[I"] ++ wsX10 ++ wsX00)
def wsX1_followedBy : List Cond := .code yX1_followedBy cX1_followedBy 3 (some .long) :: ([.constantLong RX1 141 (31)])
def wsX1_digestOfTable_r1 : List Cond := [Cond.constantLong RX1 136 (1973), Cond.fieldLink RX1 12 "PauseLedger" "dinner" "LPauseLedger$Dinner;", Cond.fieldLink RX1 58 "PauseLedger$Dinner" "guests" "I", Cond.fieldLink RX1 61 "PauseLedger$Dinner" "seconds" "I", Cond.fieldLink RX1 31 "PauseLedger$Dinner" "limit" "I", Cond.fieldLink RX1 67 "PauseLedger$Dinner" "speaker" "I", Cond.fieldLink RX1 70 "PauseLedger$Dinner" "toSpeak" "I", Cond.fieldLink RX1 73 "PauseLedger$Dinner" "pause" "I", Cond.fieldLink RX1 103 "PauseLedger$Dinner" "unsaidInPauses" "I", Cond.fieldLink RX1 106 "PauseLedger$Dinner" "sent" "I", Cond.fieldLink RX1 109 "PauseLedger$Dinner" "meetings" "I", Cond.fieldLink RX1 112 "PauseLedger$Dinner" "lost" "I", Cond.methodLink RX1 138 yX1_followedBy, Cond.static yX1_followedBy, Cond.initialized RX1, Cond.code yX1_followedBy cX1_followedBy 3 (some .long), Cond.constantLong RX1 141 (31), Cond.methodLink RX1 23 yX0_rate, Cond.instanceMethod yX0_rate, Cond.selects RX0 yX0_rate yX0_rate, Cond.initialized RX0, Cond.code yX0_rate cX0_rate 2 (some .int), Cond.fieldLink RX0 41 "PauseLedger$Dinner" "guests" "I", Cond.methodLink RX0 114 Lib.Math.abs.name]
def wsX1_digestOfTable_r2 : List Cond := [Cond.static Lib.Math.abs.name, Cond.initialized "java/lang/Math", Cond.code Lib.Math.abs.name Lib.Math.abs.code 1 (some .int), Cond.methodLink RX0 135 Lib.Math.max.name, Cond.static Lib.Math.max.name, Cond.code Lib.Math.max.name Lib.Math.max.code 2 (some .int), Cond.methodLink RX0 132 yX0_sumUnsaid, Cond.instanceMethod yX0_sumUnsaid, Cond.selects RX0 yX0_sumUnsaid yX0_sumUnsaid, Cond.code yX0_sumUnsaid cX0_sumUnsaid 1 (some .int), Cond.fieldLink RX0 56 "PauseLedger$Dinner" "unsaidInPauses" "I", Cond.methodLink RX0 128 yX0_sumUnsaidByGuests, Cond.instanceMethod yX0_sumUnsaidByGuests, Cond.selects RX0 yX0_sumUnsaidByGuests yX0_sumUnsaidByGuests, Cond.code yX0_sumUnsaidByGuests cX0_sumUnsaidByGuests 3 (some .int), Cond.fieldLink RX0 21 "PauseLedger$Dinner" "unsaid" "[I"]
def wsX1_digestOfTable : List Cond := .code yX1_digestOfTable cX1_digestOfTable 3 (some .long) :: ((wsX1_digestOfTable_r1 ++ wsX1_digestOfTable_r2) ++ wsX10 ++ wsX00)
def wsX1_withGuest_r1 : List Cond := [Cond.fieldLink RX1 12 "PauseLedger" "dinner" "LPauseLedger$Dinner;", Cond.fieldLink RX1 76 "PauseLedger$Dinner" "spoken" "[I", Cond.fieldLink RX1 80 "PauseLedger$Dinner" "interruptions" "[I", Cond.fieldLink RX1 83 "PauseLedger$Dinner" "coughs" "[I", Cond.fieldLink RX1 86 "PauseLedger$Dinner" "unsaid" "[I", Cond.fieldLink RX1 58 "PauseLedger$Dinner" "guests" "I", Cond.fieldLink RX1 100 "PauseLedger$Dinner" "caught" "[I", Cond.methodLink RX1 138 yX1_followedBy, Cond.static yX1_followedBy, Cond.initialized RX1, Cond.code yX1_followedBy cX1_followedBy 3 (some .long), Cond.constantLong RX1 141 (31), Cond.methodLink RX1 89 yX1_pairOf, Cond.static yX1_pairOf, Cond.code yX1_pairOf cX1_pairOf 2 (some .int), Cond.methodLink RX1 96 yX0_timeToGo, Cond.instanceMethod yX0_timeToGo, Cond.selects RX0 yX0_timeToGo yX0_timeToGo, Cond.initialized RX0, Cond.code yX0_timeToGo cX0_timeToGo 2 (some .int), Cond.fieldLink RX0 24 "PauseLedger$Dinner" "toGo" "[I", Cond.methodLink RX0 110 yX0_isOnItsWay, Cond.instanceMethod yX0_isOnItsWay, Cond.selects RX0 yX0_isOnItsWay yX0_isOnItsWay]
def wsX1_withGuest_r2 : List Cond := [Cond.code yX0_isOnItsWay cX0_isOnItsWay 2 (some .boolean)]
def wsX1_withGuest : List Cond := .code yX1_withGuest cX1_withGuest 8 (some .long) :: ((wsX1_withGuest_r1 ++ wsX1_withGuest_r2) ++ wsX10 ++ wsX00)
def wsX1_digest_r1 : List Cond := [Cond.fieldLink RX1 12 "PauseLedger" "dinner" "LPauseLedger$Dinner;", Cond.fieldLink RX1 58 "PauseLedger$Dinner" "guests" "I", Cond.methodLink RX1 128 yX1_digestOfTable, Cond.instanceMethod yX1_digestOfTable, Cond.selects RX1 yX1_digestOfTable yX1_digestOfTable, Cond.initialized RX1, Cond.code yX1_digestOfTable cX1_digestOfTable 3 (some .long), Cond.constantLong RX1 136 (1973), Cond.fieldLink RX1 61 "PauseLedger$Dinner" "seconds" "I", Cond.fieldLink RX1 31 "PauseLedger$Dinner" "limit" "I", Cond.fieldLink RX1 67 "PauseLedger$Dinner" "speaker" "I", Cond.fieldLink RX1 70 "PauseLedger$Dinner" "toSpeak" "I", Cond.fieldLink RX1 73 "PauseLedger$Dinner" "pause" "I", Cond.fieldLink RX1 103 "PauseLedger$Dinner" "unsaidInPauses" "I", Cond.fieldLink RX1 106 "PauseLedger$Dinner" "sent" "I", Cond.fieldLink RX1 109 "PauseLedger$Dinner" "meetings" "I", Cond.fieldLink RX1 112 "PauseLedger$Dinner" "lost" "I", Cond.methodLink RX1 138 yX1_followedBy, Cond.static yX1_followedBy, Cond.code yX1_followedBy cX1_followedBy 3 (some .long), Cond.constantLong RX1 141 (31), Cond.methodLink RX1 23 yX0_rate, Cond.instanceMethod yX0_rate, Cond.selects RX0 yX0_rate yX0_rate]
def wsX1_digest_r2 : List Cond := [Cond.initialized RX0, Cond.code yX0_rate cX0_rate 2 (some .int), Cond.fieldLink RX0 41 "PauseLedger$Dinner" "guests" "I", Cond.methodLink RX0 114 Lib.Math.abs.name, Cond.static Lib.Math.abs.name, Cond.initialized "java/lang/Math", Cond.code Lib.Math.abs.name Lib.Math.abs.code 1 (some .int), Cond.methodLink RX0 135 Lib.Math.max.name, Cond.static Lib.Math.max.name, Cond.code Lib.Math.max.name Lib.Math.max.code 2 (some .int), Cond.methodLink RX0 132 yX0_sumUnsaid, Cond.instanceMethod yX0_sumUnsaid, Cond.selects RX0 yX0_sumUnsaid yX0_sumUnsaid, Cond.code yX0_sumUnsaid cX0_sumUnsaid 1 (some .int), Cond.fieldLink RX0 56 "PauseLedger$Dinner" "unsaidInPauses" "I", Cond.methodLink RX0 128 yX0_sumUnsaidByGuests, Cond.instanceMethod yX0_sumUnsaidByGuests, Cond.selects RX0 yX0_sumUnsaidByGuests yX0_sumUnsaidByGuests, Cond.code yX0_sumUnsaidByGuests cX0_sumUnsaidByGuests 3 (some .int), Cond.fieldLink RX0 21 "PauseLedger$Dinner" "unsaid" "[I", Cond.methodLink RX1 132 yX1_withGuest, Cond.instanceMethod yX1_withGuest, Cond.selects RX1 yX1_withGuest yX1_withGuest, Cond.code yX1_withGuest cX1_withGuest 8 (some .long)]
def wsX1_digest_r3 : List Cond := [Cond.fieldLink RX1 76 "PauseLedger$Dinner" "spoken" "[I", Cond.fieldLink RX1 80 "PauseLedger$Dinner" "interruptions" "[I", Cond.fieldLink RX1 83 "PauseLedger$Dinner" "coughs" "[I", Cond.fieldLink RX1 86 "PauseLedger$Dinner" "unsaid" "[I", Cond.fieldLink RX1 100 "PauseLedger$Dinner" "caught" "[I", Cond.methodLink RX1 89 yX1_pairOf, Cond.static yX1_pairOf, Cond.code yX1_pairOf cX1_pairOf 2 (some .int), Cond.methodLink RX1 96 yX0_timeToGo, Cond.instanceMethod yX0_timeToGo, Cond.selects RX0 yX0_timeToGo yX0_timeToGo, Cond.code yX0_timeToGo cX0_timeToGo 2 (some .int), Cond.fieldLink RX0 24 "PauseLedger$Dinner" "toGo" "[I", Cond.methodLink RX0 110 yX0_isOnItsWay, Cond.instanceMethod yX0_isOnItsWay, Cond.selects RX0 yX0_isOnItsWay yX0_isOnItsWay, Cond.code yX0_isOnItsWay cX0_isOnItsWay 2 (some .boolean)]
def wsX1_digest : List Cond := .code yX1_digest cX1_digest 4 (some .long) :: ((wsX1_digest_r1 ++ (wsX1_digest_r2 ++ wsX1_digest_r3)) ++ wsX10 ++ wsX00)
def wsX2_init : List Cond := .code yX2_init cX2_init 1 none :: ([.methodLink RX2 1 objectInit, .instanceMethod objectInit, .code objectInit ⟨#[0xb1]⟩ 1 none, .fieldLink RX2 7 "PauseLedgerModel" "guests" "I", .fieldLink RX2 13 "PauseLedgerModel" "limit" "I", .arrayClass .int, .fieldLink RX2 16 "PauseLedgerModel" "now" "[I", .fieldLink RX2 20 "PauseLedgerModel" "kept" "[I", .fieldLink RX2 23 "PauseLedgerModel" "mark" "I"] ++ wsX20)
def wsX2_thrown : List Cond := .code yX2_thrown cX2_thrown 1 (some .int) :: ([.fieldLink RX2 26 "PauseLedgerModel" "thrown" "I"] ++ wsX20)
def wsX2_fail : List Cond := .code yX2_fail cX2_fail 2 (some .int) :: ([.fieldLink RX2 26 "PauseLedgerModel" "thrown" "I"] ++ wsX20)
def wsX2_told : List Cond := .code yX2_told cX2_told 2 (some .int) :: ([.fieldLink RX2 26 "PauseLedgerModel" "thrown" "I"] ++ wsX20)
def wsX2_isIn : List Cond := .code yX2_isIn cX2_isIn 3 (some .boolean) :: ([])
def wsX2_isGuest : List Cond := .code yX2_isGuest cX2_isGuest 2 (some .boolean) :: ([.fieldLink RX2 7 "PauseLedgerModel" "guests" "I", .methodLink RX2 29 yX2_isIn, .static yX2_isIn, .initialized RX2, .code yX2_isIn cX2_isIn 3 (some .boolean)] ++ wsX20)
def wsX2_keep : List Cond := .code yX2_keep cX2_keep 1 none :: ([.fieldLink RX2 16 "PauseLedgerModel" "now" "[I", .fieldLink RX2 20 "PauseLedgerModel" "kept" "[I", .methodLink RX2 33 arraycopyName, .native arraycopyName, .static arraycopyName, .initialized "java/lang/System"] ++ wsX20)
def wsX2_bringBack : List Cond := .code yX2_bringBack cX2_bringBack 1 none :: ([.fieldLink RX2 20 "PauseLedgerModel" "kept" "[I", .fieldLink RX2 16 "PauseLedgerModel" "now" "[I", .methodLink RX2 33 arraycopyName, .native arraycopyName, .static arraycopyName, .initialized "java/lang/System"] ++ wsX20)
def wsX2_pair : List Cond := .code yX2_pair cX2_pair 2 (some .int) :: ([])
def wsX2_apart : List Cond := .code yX2_apart cX2_apart 4 (some .int) :: ([.methodLink RX2 39 Lib.Math.abs.name, .static Lib.Math.abs.name, .initialized "java/lang/Math", .code Lib.Math.abs.name Lib.Math.abs.code 1 (some .int), .fieldLink RX2 7 "PauseLedgerModel" "guests" "I", .methodLink RX2 45 Lib.Math.min.name, .static Lib.Math.min.name, .code Lib.Math.min.name Lib.Math.min.code 2 (some .int)] ++ wsX20)
def wsX2_unsaid : List Cond := .code yX2_unsaid cX2_unsaid 3 (some .int) :: ([.fieldLink RX2 16 "PauseLedgerModel" "now" "[I", .fieldLink RX2 7 "PauseLedgerModel" "guests" "I"] ++ wsX20)
def wsX2_rated : List Cond := .code yX2_rated cX2_rated 1 (some .int) :: ([.fieldLink RX2 7 "PauseLedgerModel" "guests" "I", .methodLink RX2 39 Lib.Math.abs.name, .static Lib.Math.abs.name, .initialized "java/lang/Math", .code Lib.Math.abs.name Lib.Math.abs.code 1 (some .int), .methodLink RX2 53 Lib.Math.max.name, .static Lib.Math.max.name, .code Lib.Math.max.name Lib.Math.max.code 2 (some .int), .methodLink RX2 49 yX2_unsaid, .instanceMethod yX2_unsaid, .selects RX2 yX2_unsaid yX2_unsaid, .initialized RX2, .code yX2_unsaid cX2_unsaid 3 (some .int), .fieldLink RX2 16 "PauseLedgerModel" "now" "[I"] ++ wsX20)
def wsX2_talk : List Cond := .code yX2_talk cX2_talk 2 none :: ([.fieldLink RX2 16 "PauseLedgerModel" "now" "[I", .fieldLink RX2 13 "PauseLedgerModel" "limit" "I"] ++ wsX20)
def wsX2_arrives : List Cond := .code yX2_arrives cX2_arrives 5 none :: ([.fieldLink RX2 16 "PauseLedgerModel" "now" "[I", .fieldLink RX2 23 "PauseLedgerModel" "mark" "I", .fieldLink RX2 59 "PauseLedgerModel" "end" "I", .methodLink RX2 56 yX2_pair, .static yX2_pair, .initialized RX2, .code yX2_pair cX2_pair 2 (some .int)] ++ wsX20)
def wsX2_fly : List Cond := .code yX2_fly cX2_fly 3 none :: ([.fieldLink RX2 16 "PauseLedgerModel" "now" "[I", .methodLink RX2 62 yX2_arrives, .instanceMethod yX2_arrives, .selects RX2 yX2_arrives yX2_arrives, .initialized RX2, .code yX2_arrives cX2_arrives 5 none, .fieldLink RX2 23 "PauseLedgerModel" "mark" "I", .fieldLink RX2 59 "PauseLedgerModel" "end" "I", .methodLink RX2 56 yX2_pair, .static yX2_pair, .code yX2_pair cX2_pair 2 (some .int)] ++ wsX20)
def wsX2_secondOn : List Cond := .code yX2_secondOn cX2_secondOn 1 none :: ([.fieldLink RX2 16 "PauseLedgerModel" "now" "[I", .methodLink RX2 66 yX2_talk, .instanceMethod yX2_talk, .selects RX2 yX2_talk yX2_talk, .initialized RX2, .code yX2_talk cX2_talk 2 none, .fieldLink RX2 13 "PauseLedgerModel" "limit" "I", .methodLink RX2 69 yX2_fly, .instanceMethod yX2_fly, .selects RX2 yX2_fly yX2_fly, .code yX2_fly cX2_fly 3 none, .methodLink RX2 62 yX2_arrives, .instanceMethod yX2_arrives, .selects RX2 yX2_arrives yX2_arrives, .code yX2_arrives cX2_arrives 5 none, .fieldLink RX2 23 "PauseLedgerModel" "mark" "I", .fieldLink RX2 59 "PauseLedgerModel" "end" "I", .methodLink RX2 56 yX2_pair, .static yX2_pair, .code yX2_pair cX2_pair 2 (some .int)] ++ wsX20)
def wsX2_secondsOn : List Cond := .code yX2_secondsOn cX2_secondsOn 3 none :: ([.methodLink RX2 72 yX2_secondOn, .instanceMethod yX2_secondOn, .selects RX2 yX2_secondOn yX2_secondOn, .initialized RX2, .code yX2_secondOn cX2_secondOn 1 none, .fieldLink RX2 16 "PauseLedgerModel" "now" "[I", .methodLink RX2 66 yX2_talk, .instanceMethod yX2_talk, .selects RX2 yX2_talk yX2_talk, .code yX2_talk cX2_talk 2 none, .fieldLink RX2 13 "PauseLedgerModel" "limit" "I", .methodLink RX2 69 yX2_fly, .instanceMethod yX2_fly, .selects RX2 yX2_fly yX2_fly, .code yX2_fly cX2_fly 3 none, .methodLink RX2 62 yX2_arrives, .instanceMethod yX2_arrives, .selects RX2 yX2_arrives yX2_arrives, .code yX2_arrives cX2_arrives 5 none, .fieldLink RX2 23 "PauseLedgerModel" "mark" "I", .fieldLink RX2 59 "PauseLedgerModel" "end" "I", .methodLink RX2 56 yX2_pair, .static yX2_pair, .code yX2_pair cX2_pair 2 (some .int)] ++ wsX20)
def wsX2_newDinner_r1 : List Cond := [Cond.fieldLink RX2 26 "PauseLedgerModel" "thrown" "I", Cond.fieldLink RX2 16 "PauseLedgerModel" "now" "[I", Cond.fieldLink RX2 7 "PauseLedgerModel" "guests" "I", Cond.methodLink RX2 29 yX2_isIn, Cond.static yX2_isIn, Cond.initialized RX2, Cond.code yX2_isIn cX2_isIn 3 (some .boolean), Cond.methodLink RX2 75 yX2_fail, Cond.instanceMethod yX2_fail, Cond.selects RX2 yX2_fail yX2_fail, Cond.code yX2_fail cX2_fail 2 (some .int), Cond.methodLink RX2 78 yX2_rated, Cond.instanceMethod yX2_rated, Cond.selects RX2 yX2_rated yX2_rated, Cond.code yX2_rated cX2_rated 1 (some .int), Cond.methodLink RX2 39 Lib.Math.abs.name, Cond.static Lib.Math.abs.name, Cond.initialized "java/lang/Math", Cond.code Lib.Math.abs.name Lib.Math.abs.code 1 (some .int), Cond.methodLink RX2 53 Lib.Math.max.name, Cond.static Lib.Math.max.name, Cond.code Lib.Math.max.name Lib.Math.max.code 2 (some .int), Cond.methodLink RX2 49 yX2_unsaid, Cond.instanceMethod yX2_unsaid]
def wsX2_newDinner_r2 : List Cond := [Cond.selects RX2 yX2_unsaid yX2_unsaid, Cond.code yX2_unsaid cX2_unsaid 3 (some .int)]
def wsX2_newDinner : List Cond := .code yX2_newDinner cX2_newDinner 4 (some .int) :: ((wsX2_newDinner_r1 ++ wsX2_newDinner_r2) ++ wsX20)
def wsX2_setLimit : List Cond := .code yX2_setLimit cX2_setLimit 3 (some .int) :: ([.fieldLink RX2 26 "PauseLedgerModel" "thrown" "I", .fieldLink RX2 13 "PauseLedgerModel" "limit" "I", .methodLink RX2 29 yX2_isIn, .static yX2_isIn, .initialized RX2, .code yX2_isIn cX2_isIn 3 (some .boolean), .methodLink RX2 75 yX2_fail, .instanceMethod yX2_fail, .selects RX2 yX2_fail yX2_fail, .code yX2_fail cX2_fail 2 (some .int)] ++ wsX20)
def wsX2_speak : List Cond := .code yX2_speak cX2_speak 4 (some .int) :: ([.fieldLink RX2 26 "PauseLedgerModel" "thrown" "I", .fieldLink RX2 16 "PauseLedgerModel" "now" "[I", .methodLink RX2 81 yX2_isGuest, .instanceMethod yX2_isGuest, .selects RX2 yX2_isGuest yX2_isGuest, .initialized RX2, .code yX2_isGuest cX2_isGuest 2 (some .boolean), .fieldLink RX2 7 "PauseLedgerModel" "guests" "I", .methodLink RX2 29 yX2_isIn, .static yX2_isIn, .code yX2_isIn cX2_isIn 3 (some .boolean), .methodLink RX2 75 yX2_fail, .instanceMethod yX2_fail, .selects RX2 yX2_fail yX2_fail, .code yX2_fail cX2_fail 2 (some .int)] ++ wsX20)
def wsX2_cough : List Cond := .code yX2_cough cX2_cough 4 (some .int) :: ([.fieldLink RX2 26 "PauseLedgerModel" "thrown" "I", .fieldLink RX2 16 "PauseLedgerModel" "now" "[I", .methodLink RX2 81 yX2_isGuest, .instanceMethod yX2_isGuest, .selects RX2 yX2_isGuest yX2_isGuest, .initialized RX2, .code yX2_isGuest cX2_isGuest 2 (some .boolean), .fieldLink RX2 7 "PauseLedgerModel" "guests" "I", .methodLink RX2 29 yX2_isIn, .static yX2_isIn, .code yX2_isIn cX2_isIn 3 (some .boolean), .methodLink RX2 75 yX2_fail, .instanceMethod yX2_fail, .selects RX2 yX2_fail yX2_fail, .code yX2_fail cX2_fail 2 (some .int)] ++ wsX20)
def wsX2_send : List Cond := .code yX2_send cX2_send 3 (some .int) :: ([.fieldLink RX2 16 "PauseLedgerModel" "now" "[I", .methodLink RX2 56 yX2_pair, .static yX2_pair, .initialized RX2, .code yX2_pair cX2_pair 2 (some .int), .methodLink RX2 85 yX2_apart, .instanceMethod yX2_apart, .selects RX2 yX2_apart yX2_apart, .code yX2_apart cX2_apart 4 (some .int), .methodLink RX2 39 Lib.Math.abs.name, .static Lib.Math.abs.name, .initialized "java/lang/Math", .code Lib.Math.abs.name Lib.Math.abs.code 1 (some .int), .fieldLink RX2 7 "PauseLedgerModel" "guests" "I", .methodLink RX2 45 Lib.Math.min.name, .static Lib.Math.min.name, .code Lib.Math.min.name Lib.Math.min.code 2 (some .int)] ++ wsX20)
def wsX2_canSend : List Cond := .code yX2_canSend cX2_canSend 3 (some .boolean) :: ([.fieldLink RX2 16 "PauseLedgerModel" "now" "[I", .fieldLink RX2 26 "PauseLedgerModel" "thrown" "I", .methodLink RX2 81 yX2_isGuest, .instanceMethod yX2_isGuest, .selects RX2 yX2_isGuest yX2_isGuest, .initialized RX2, .code yX2_isGuest cX2_isGuest 2 (some .boolean), .fieldLink RX2 7 "PauseLedgerModel" "guests" "I", .methodLink RX2 29 yX2_isIn, .static yX2_isIn, .code yX2_isIn cX2_isIn 3 (some .boolean), .methodLink RX2 56 yX2_pair, .static yX2_pair, .code yX2_pair cX2_pair 2 (some .int)] ++ wsX20)
def wsX2_glance_r1 : List Cond := [Cond.methodLink RX2 88 yX2_canSend, Cond.instanceMethod yX2_canSend, Cond.selects RX2 yX2_canSend yX2_canSend, Cond.initialized RX2, Cond.code yX2_canSend cX2_canSend 3 (some .boolean), Cond.fieldLink RX2 16 "PauseLedgerModel" "now" "[I", Cond.fieldLink RX2 26 "PauseLedgerModel" "thrown" "I", Cond.methodLink RX2 81 yX2_isGuest, Cond.instanceMethod yX2_isGuest, Cond.selects RX2 yX2_isGuest yX2_isGuest, Cond.code yX2_isGuest cX2_isGuest 2 (some .boolean), Cond.fieldLink RX2 7 "PauseLedgerModel" "guests" "I", Cond.methodLink RX2 29 yX2_isIn, Cond.static yX2_isIn, Cond.code yX2_isIn cX2_isIn 3 (some .boolean), Cond.methodLink RX2 56 yX2_pair, Cond.static yX2_pair, Cond.code yX2_pair cX2_pair 2 (some .int), Cond.methodLink RX2 92 yX2_send, Cond.instanceMethod yX2_send, Cond.selects RX2 yX2_send yX2_send, Cond.code yX2_send cX2_send 3 (some .int), Cond.methodLink RX2 85 yX2_apart, Cond.instanceMethod yX2_apart]
def wsX2_glance_r2 : List Cond := [Cond.selects RX2 yX2_apart yX2_apart, Cond.code yX2_apart cX2_apart 4 (some .int), Cond.methodLink RX2 39 Lib.Math.abs.name, Cond.static Lib.Math.abs.name, Cond.initialized "java/lang/Math", Cond.code Lib.Math.abs.name Lib.Math.abs.code 1 (some .int), Cond.methodLink RX2 45 Lib.Math.min.name, Cond.static Lib.Math.min.name, Cond.code Lib.Math.min.name Lib.Math.min.code 2 (some .int)]
def wsX2_glance : List Cond := .code yX2_glance cX2_glance 3 (some .int) :: ((wsX2_glance_r1 ++ wsX2_glance_r2) ++ wsX20)
def wsX2_pass_r1 : List Cond := [Cond.fieldLink RX2 26 "PauseLedgerModel" "thrown" "I", Cond.methodLink RX2 29 yX2_isIn, Cond.static yX2_isIn, Cond.initialized RX2, Cond.code yX2_isIn cX2_isIn 3 (some .boolean), Cond.methodLink RX2 75 yX2_fail, Cond.instanceMethod yX2_fail, Cond.selects RX2 yX2_fail yX2_fail, Cond.code yX2_fail cX2_fail 2 (some .int), Cond.methodLink RX2 49 yX2_unsaid, Cond.instanceMethod yX2_unsaid, Cond.selects RX2 yX2_unsaid yX2_unsaid, Cond.code yX2_unsaid cX2_unsaid 3 (some .int), Cond.fieldLink RX2 16 "PauseLedgerModel" "now" "[I", Cond.fieldLink RX2 7 "PauseLedgerModel" "guests" "I", Cond.methodLink RX2 95 yX2_secondsOn, Cond.instanceMethod yX2_secondsOn, Cond.selects RX2 yX2_secondsOn yX2_secondsOn, Cond.code yX2_secondsOn cX2_secondsOn 3 none, Cond.methodLink RX2 72 yX2_secondOn, Cond.instanceMethod yX2_secondOn, Cond.selects RX2 yX2_secondOn yX2_secondOn, Cond.code yX2_secondOn cX2_secondOn 1 none, Cond.methodLink RX2 66 yX2_talk]
def wsX2_pass_r2 : List Cond := [Cond.instanceMethod yX2_talk, Cond.selects RX2 yX2_talk yX2_talk, Cond.code yX2_talk cX2_talk 2 none, Cond.fieldLink RX2 13 "PauseLedgerModel" "limit" "I", Cond.methodLink RX2 69 yX2_fly, Cond.instanceMethod yX2_fly, Cond.selects RX2 yX2_fly yX2_fly, Cond.code yX2_fly cX2_fly 3 none, Cond.methodLink RX2 62 yX2_arrives, Cond.instanceMethod yX2_arrives, Cond.selects RX2 yX2_arrives yX2_arrives, Cond.code yX2_arrives cX2_arrives 5 none, Cond.fieldLink RX2 23 "PauseLedgerModel" "mark" "I", Cond.fieldLink RX2 59 "PauseLedgerModel" "end" "I", Cond.methodLink RX2 56 yX2_pair, Cond.static yX2_pair, Cond.code yX2_pair cX2_pair 2 (some .int)]
def wsX2_pass : List Cond := .code yX2_pass cX2_pass 3 (some .int) :: ((wsX2_pass_r1 ++ wsX2_pass_r2) ++ wsX20)
def wsX2_guests : List Cond := .code yX2_guests cX2_guests 1 (some .int) :: ([.fieldLink RX2 7 "PauseLedgerModel" "guests" "I", .methodLink RX2 99 yX2_told, .instanceMethod yX2_told, .selects RX2 yX2_told yX2_told, .initialized RX2, .code yX2_told cX2_told 2 (some .int), .fieldLink RX2 26 "PauseLedgerModel" "thrown" "I"] ++ wsX20)
def wsX2_seconds : List Cond := .code yX2_seconds cX2_seconds 1 (some .int) :: ([.fieldLink RX2 16 "PauseLedgerModel" "now" "[I", .methodLink RX2 99 yX2_told, .instanceMethod yX2_told, .selects RX2 yX2_told yX2_told, .initialized RX2, .code yX2_told cX2_told 2 (some .int), .fieldLink RX2 26 "PauseLedgerModel" "thrown" "I"] ++ wsX20)
def wsX2_limit : List Cond := .code yX2_limit cX2_limit 1 (some .int) :: ([.fieldLink RX2 13 "PauseLedgerModel" "limit" "I", .methodLink RX2 99 yX2_told, .instanceMethod yX2_told, .selects RX2 yX2_told yX2_told, .initialized RX2, .code yX2_told cX2_told 2 (some .int), .fieldLink RX2 26 "PauseLedgerModel" "thrown" "I"] ++ wsX20)
def wsX2_seatsApart_r1 : List Cond := [Cond.fieldLink RX2 26 "PauseLedgerModel" "thrown" "I", Cond.methodLink RX2 81 yX2_isGuest, Cond.instanceMethod yX2_isGuest, Cond.selects RX2 yX2_isGuest yX2_isGuest, Cond.initialized RX2, Cond.code yX2_isGuest cX2_isGuest 2 (some .boolean), Cond.fieldLink RX2 7 "PauseLedgerModel" "guests" "I", Cond.methodLink RX2 29 yX2_isIn, Cond.static yX2_isIn, Cond.code yX2_isIn cX2_isIn 3 (some .boolean), Cond.methodLink RX2 85 yX2_apart, Cond.instanceMethod yX2_apart, Cond.selects RX2 yX2_apart yX2_apart, Cond.code yX2_apart cX2_apart 4 (some .int), Cond.methodLink RX2 39 Lib.Math.abs.name, Cond.static Lib.Math.abs.name, Cond.initialized "java/lang/Math", Cond.code Lib.Math.abs.name Lib.Math.abs.code 1 (some .int), Cond.methodLink RX2 45 Lib.Math.min.name, Cond.static Lib.Math.min.name, Cond.code Lib.Math.min.name Lib.Math.min.code 2 (some .int), Cond.methodLink RX2 75 yX2_fail, Cond.instanceMethod yX2_fail, Cond.selects RX2 yX2_fail yX2_fail]
def wsX2_seatsApart_r2 : List Cond := [Cond.code yX2_fail cX2_fail 2 (some .int)]
def wsX2_seatsApart : List Cond := .code yX2_seatsApart cX2_seatsApart 3 (some .int) :: ((wsX2_seatsApart_r1 ++ wsX2_seatsApart_r2) ++ wsX20)
def wsX2_speaker : List Cond := .code yX2_speaker cX2_speaker 1 (some .int) :: ([.fieldLink RX2 16 "PauseLedgerModel" "now" "[I", .methodLink RX2 99 yX2_told, .instanceMethod yX2_told, .selects RX2 yX2_told yX2_told, .initialized RX2, .code yX2_told cX2_told 2 (some .int), .fieldLink RX2 26 "PauseLedgerModel" "thrown" "I"] ++ wsX20)
def wsX2_left : List Cond := .code yX2_left cX2_left 1 (some .int) :: ([.fieldLink RX2 16 "PauseLedgerModel" "now" "[I"] ++ wsX20)
def wsX2_secondsToSpeak : List Cond := .code yX2_secondsToSpeak cX2_secondsToSpeak 1 (some .int) :: ([.methodLink RX2 102 yX2_left, .instanceMethod yX2_left, .selects RX2 yX2_left yX2_left, .initialized RX2, .code yX2_left cX2_left 1 (some .int), .fieldLink RX2 16 "PauseLedgerModel" "now" "[I", .methodLink RX2 99 yX2_told, .instanceMethod yX2_told, .selects RX2 yX2_told yX2_told, .code yX2_told cX2_told 2 (some .int), .fieldLink RX2 26 "PauseLedgerModel" "thrown" "I"] ++ wsX20)
def wsX2_pause : List Cond := .code yX2_pause cX2_pause 1 (some .int) :: ([.fieldLink RX2 16 "PauseLedgerModel" "now" "[I", .methodLink RX2 99 yX2_told, .instanceMethod yX2_told, .selects RX2 yX2_told yX2_told, .initialized RX2, .code yX2_told cX2_told 2 (some .int), .fieldLink RX2 26 "PauseLedgerModel" "thrown" "I"] ++ wsX20)
def wsX2_guest : List Cond := .code yX2_guest cX2_guest 3 (some .int) :: ([.fieldLink RX2 26 "PauseLedgerModel" "thrown" "I", .fieldLink RX2 16 "PauseLedgerModel" "now" "[I", .methodLink RX2 81 yX2_isGuest, .instanceMethod yX2_isGuest, .selects RX2 yX2_isGuest yX2_isGuest, .initialized RX2, .code yX2_isGuest cX2_isGuest 2 (some .boolean), .fieldLink RX2 7 "PauseLedgerModel" "guests" "I", .methodLink RX2 29 yX2_isIn, .static yX2_isIn, .code yX2_isIn cX2_isIn 3 (some .boolean), .methodLink RX2 75 yX2_fail, .instanceMethod yX2_fail, .selects RX2 yX2_fail yX2_fail, .code yX2_fail cX2_fail 2 (some .int)] ++ wsX20)
def wsX2_spokenBy : List Cond := .code yX2_spokenBy cX2_spokenBy 2 (some .int) :: ([.methodLink RX2 105 yX2_guest, .instanceMethod yX2_guest, .selects RX2 yX2_guest yX2_guest, .initialized RX2, .code yX2_guest cX2_guest 3 (some .int), .fieldLink RX2 26 "PauseLedgerModel" "thrown" "I", .fieldLink RX2 16 "PauseLedgerModel" "now" "[I", .methodLink RX2 81 yX2_isGuest, .instanceMethod yX2_isGuest, .selects RX2 yX2_isGuest yX2_isGuest, .code yX2_isGuest cX2_isGuest 2 (some .boolean), .fieldLink RX2 7 "PauseLedgerModel" "guests" "I", .methodLink RX2 29 yX2_isIn, .static yX2_isIn, .code yX2_isIn cX2_isIn 3 (some .boolean), .methodLink RX2 75 yX2_fail, .instanceMethod yX2_fail, .selects RX2 yX2_fail yX2_fail, .code yX2_fail cX2_fail 2 (some .int)] ++ wsX20)
def wsX2_interruptionsBy : List Cond := .code yX2_interruptionsBy cX2_interruptionsBy 2 (some .int) :: ([.methodLink RX2 105 yX2_guest, .instanceMethod yX2_guest, .selects RX2 yX2_guest yX2_guest, .initialized RX2, .code yX2_guest cX2_guest 3 (some .int), .fieldLink RX2 26 "PauseLedgerModel" "thrown" "I", .fieldLink RX2 16 "PauseLedgerModel" "now" "[I", .methodLink RX2 81 yX2_isGuest, .instanceMethod yX2_isGuest, .selects RX2 yX2_isGuest yX2_isGuest, .code yX2_isGuest cX2_isGuest 2 (some .boolean), .fieldLink RX2 7 "PauseLedgerModel" "guests" "I", .methodLink RX2 29 yX2_isIn, .static yX2_isIn, .code yX2_isIn cX2_isIn 3 (some .boolean), .methodLink RX2 75 yX2_fail, .instanceMethod yX2_fail, .selects RX2 yX2_fail yX2_fail, .code yX2_fail cX2_fail 2 (some .int)] ++ wsX20)
def wsX2_coughsOf : List Cond := .code yX2_coughsOf cX2_coughsOf 2 (some .int) :: ([.methodLink RX2 105 yX2_guest, .instanceMethod yX2_guest, .selects RX2 yX2_guest yX2_guest, .initialized RX2, .code yX2_guest cX2_guest 3 (some .int), .fieldLink RX2 26 "PauseLedgerModel" "thrown" "I", .fieldLink RX2 16 "PauseLedgerModel" "now" "[I", .methodLink RX2 81 yX2_isGuest, .instanceMethod yX2_isGuest, .selects RX2 yX2_isGuest yX2_isGuest, .code yX2_isGuest cX2_isGuest 2 (some .boolean), .fieldLink RX2 7 "PauseLedgerModel" "guests" "I", .methodLink RX2 29 yX2_isIn, .static yX2_isIn, .code yX2_isIn cX2_isIn 3 (some .boolean), .methodLink RX2 75 yX2_fail, .instanceMethod yX2_fail, .selects RX2 yX2_fail yX2_fail, .code yX2_fail cX2_fail 2 (some .int)] ++ wsX20)
def wsX2_unsaidBy : List Cond := .code yX2_unsaidBy cX2_unsaidBy 2 (some .int) :: ([.methodLink RX2 105 yX2_guest, .instanceMethod yX2_guest, .selects RX2 yX2_guest yX2_guest, .initialized RX2, .code yX2_guest cX2_guest 3 (some .int), .fieldLink RX2 26 "PauseLedgerModel" "thrown" "I", .fieldLink RX2 16 "PauseLedgerModel" "now" "[I", .methodLink RX2 81 yX2_isGuest, .instanceMethod yX2_isGuest, .selects RX2 yX2_isGuest yX2_isGuest, .code yX2_isGuest cX2_isGuest 2 (some .boolean), .fieldLink RX2 7 "PauseLedgerModel" "guests" "I", .methodLink RX2 29 yX2_isIn, .static yX2_isIn, .code yX2_isIn cX2_isIn 3 (some .boolean), .methodLink RX2 75 yX2_fail, .instanceMethod yX2_fail, .selects RX2 yX2_fail yX2_fail, .code yX2_fail cX2_fail 2 (some .int)] ++ wsX20)
def wsX2_flight : List Cond := .code yX2_flight cX2_flight 4 (some .int) :: ([.fieldLink RX2 26 "PauseLedgerModel" "thrown" "I", .fieldLink RX2 16 "PauseLedgerModel" "now" "[I", .methodLink RX2 81 yX2_isGuest, .instanceMethod yX2_isGuest, .selects RX2 yX2_isGuest yX2_isGuest, .initialized RX2, .code yX2_isGuest cX2_isGuest 2 (some .boolean), .fieldLink RX2 7 "PauseLedgerModel" "guests" "I", .methodLink RX2 29 yX2_isIn, .static yX2_isIn, .code yX2_isIn cX2_isIn 3 (some .boolean), .methodLink RX2 56 yX2_pair, .static yX2_pair, .code yX2_pair cX2_pair 2 (some .int), .methodLink RX2 75 yX2_fail, .instanceMethod yX2_fail, .selects RX2 yX2_fail yX2_fail, .code yX2_fail cX2_fail 2 (some .int)] ++ wsX20)
def wsX2_isUnderWay : List Cond := .code yX2_isUnderWay cX2_isUnderWay 3 (some .boolean) :: ([.methodLink RX2 108 yX2_flight, .instanceMethod yX2_flight, .selects RX2 yX2_flight yX2_flight, .initialized RX2, .code yX2_flight cX2_flight 4 (some .int), .fieldLink RX2 26 "PauseLedgerModel" "thrown" "I", .fieldLink RX2 16 "PauseLedgerModel" "now" "[I", .methodLink RX2 81 yX2_isGuest, .instanceMethod yX2_isGuest, .selects RX2 yX2_isGuest yX2_isGuest, .code yX2_isGuest cX2_isGuest 2 (some .boolean), .fieldLink RX2 7 "PauseLedgerModel" "guests" "I", .methodLink RX2 29 yX2_isIn, .static yX2_isIn, .code yX2_isIn cX2_isIn 3 (some .boolean), .methodLink RX2 56 yX2_pair, .static yX2_pair, .code yX2_pair cX2_pair 2 (some .int), .methodLink RX2 75 yX2_fail, .instanceMethod yX2_fail, .selects RX2 yX2_fail yX2_fail, .code yX2_fail cX2_fail 2 (some .int)] ++ wsX20)
def wsX2_secondsToGo : List Cond := .code yX2_secondsToGo cX2_secondsToGo 3 (some .int) :: ([.methodLink RX2 108 yX2_flight, .instanceMethod yX2_flight, .selects RX2 yX2_flight yX2_flight, .initialized RX2, .code yX2_flight cX2_flight 4 (some .int), .fieldLink RX2 26 "PauseLedgerModel" "thrown" "I", .fieldLink RX2 16 "PauseLedgerModel" "now" "[I", .methodLink RX2 81 yX2_isGuest, .instanceMethod yX2_isGuest, .selects RX2 yX2_isGuest yX2_isGuest, .code yX2_isGuest cX2_isGuest 2 (some .boolean), .fieldLink RX2 7 "PauseLedgerModel" "guests" "I", .methodLink RX2 29 yX2_isIn, .static yX2_isIn, .code yX2_isIn cX2_isIn 3 (some .boolean), .methodLink RX2 56 yX2_pair, .static yX2_pair, .code yX2_pair cX2_pair 2 (some .int), .methodLink RX2 75 yX2_fail, .instanceMethod yX2_fail, .selects RX2 yX2_fail yX2_fail, .code yX2_fail cX2_fail 2 (some .int)] ++ wsX20)
def wsX2_caughtBy : List Cond := .code yX2_caughtBy cX2_caughtBy 3 (some .int) :: ([.methodLink RX2 108 yX2_flight, .instanceMethod yX2_flight, .selects RX2 yX2_flight yX2_flight, .initialized RX2, .code yX2_flight cX2_flight 4 (some .int), .fieldLink RX2 26 "PauseLedgerModel" "thrown" "I", .fieldLink RX2 16 "PauseLedgerModel" "now" "[I", .methodLink RX2 81 yX2_isGuest, .instanceMethod yX2_isGuest, .selects RX2 yX2_isGuest yX2_isGuest, .code yX2_isGuest cX2_isGuest 2 (some .boolean), .fieldLink RX2 7 "PauseLedgerModel" "guests" "I", .methodLink RX2 29 yX2_isIn, .static yX2_isIn, .code yX2_isIn cX2_isIn 3 (some .boolean), .methodLink RX2 56 yX2_pair, .static yX2_pair, .code yX2_pair cX2_pair 2 (some .int), .methodLink RX2 75 yX2_fail, .instanceMethod yX2_fail, .selects RX2 yX2_fail yX2_fail, .code yX2_fail cX2_fail 2 (some .int)] ++ wsX20)
def wsX2_unsaidInPauses : List Cond := .code yX2_unsaidInPauses cX2_unsaidInPauses 1 (some .int) :: ([.fieldLink RX2 16 "PauseLedgerModel" "now" "[I", .methodLink RX2 99 yX2_told, .instanceMethod yX2_told, .selects RX2 yX2_told yX2_told, .initialized RX2, .code yX2_told cX2_told 2 (some .int), .fieldLink RX2 26 "PauseLedgerModel" "thrown" "I"] ++ wsX20)
def wsX2_allUnsaid : List Cond := .code yX2_allUnsaid cX2_allUnsaid 1 (some .int) :: ([.methodLink RX2 49 yX2_unsaid, .instanceMethod yX2_unsaid, .selects RX2 yX2_unsaid yX2_unsaid, .initialized RX2, .code yX2_unsaid cX2_unsaid 3 (some .int), .fieldLink RX2 16 "PauseLedgerModel" "now" "[I", .fieldLink RX2 7 "PauseLedgerModel" "guests" "I", .methodLink RX2 99 yX2_told, .instanceMethod yX2_told, .selects RX2 yX2_told yX2_told, .code yX2_told cX2_told 2 (some .int), .fieldLink RX2 26 "PauseLedgerModel" "thrown" "I"] ++ wsX20)
def wsX2_underWay : List Cond := .code yX2_underWay cX2_underWay 3 (some .int) :: ([.fieldLink RX2 16 "PauseLedgerModel" "now" "[I"] ++ wsX20)
def wsX2_glancesUnderWay : List Cond := .code yX2_glancesUnderWay cX2_glancesUnderWay 1 (some .int) :: ([.methodLink RX2 112 yX2_underWay, .instanceMethod yX2_underWay, .selects RX2 yX2_underWay yX2_underWay, .initialized RX2, .code yX2_underWay cX2_underWay 3 (some .int), .fieldLink RX2 16 "PauseLedgerModel" "now" "[I", .methodLink RX2 99 yX2_told, .instanceMethod yX2_told, .selects RX2 yX2_told yX2_told, .code yX2_told cX2_told 2 (some .int), .fieldLink RX2 26 "PauseLedgerModel" "thrown" "I"] ++ wsX20)
def wsX2_meetings : List Cond := .code yX2_meetings cX2_meetings 1 (some .int) :: ([.fieldLink RX2 16 "PauseLedgerModel" "now" "[I", .methodLink RX2 99 yX2_told, .instanceMethod yX2_told, .selects RX2 yX2_told yX2_told, .initialized RX2, .code yX2_told cX2_told 2 (some .int), .fieldLink RX2 26 "PauseLedgerModel" "thrown" "I"] ++ wsX20)
def wsX2_lostGlances : List Cond := .code yX2_lostGlances cX2_lostGlances 1 (some .int) :: ([.fieldLink RX2 16 "PauseLedgerModel" "now" "[I", .methodLink RX2 99 yX2_told, .instanceMethod yX2_told, .selects RX2 yX2_told yX2_told, .initialized RX2, .code yX2_told cX2_told 2 (some .int), .fieldLink RX2 26 "PauseLedgerModel" "thrown" "I"] ++ wsX20)
def wsX2_quietest : List Cond := .code yX2_quietest cX2_quietest 3 (some .int) :: ([.fieldLink RX2 26 "PauseLedgerModel" "thrown" "I", .fieldLink RX2 7 "PauseLedgerModel" "guests" "I", .fieldLink RX2 16 "PauseLedgerModel" "now" "[I"] ++ wsX20)
def wsX2_rating : List Cond := .code yX2_rating cX2_rating 1 (some .int) :: ([.methodLink RX2 78 yX2_rated, .instanceMethod yX2_rated, .selects RX2 yX2_rated yX2_rated, .initialized RX2, .code yX2_rated cX2_rated 1 (some .int), .fieldLink RX2 7 "PauseLedgerModel" "guests" "I", .methodLink RX2 39 Lib.Math.abs.name, .static Lib.Math.abs.name, .initialized "java/lang/Math", .code Lib.Math.abs.name Lib.Math.abs.code 1 (some .int), .methodLink RX2 53 Lib.Math.max.name, .static Lib.Math.max.name, .code Lib.Math.max.name Lib.Math.max.code 2 (some .int), .methodLink RX2 49 yX2_unsaid, .instanceMethod yX2_unsaid, .selects RX2 yX2_unsaid yX2_unsaid, .code yX2_unsaid cX2_unsaid 3 (some .int), .fieldLink RX2 16 "PauseLedgerModel" "now" "[I", .methodLink RX2 99 yX2_told, .instanceMethod yX2_told, .selects RX2 yX2_told yX2_told, .code yX2_told cX2_told 2 (some .int), .fieldLink RX2 26 "PauseLedgerModel" "thrown" "I"] ++ wsX20)
def wsX2_allUnsaidIn_r1 : List Cond := [Cond.fieldLink RX2 26 "PauseLedgerModel" "thrown" "I", Cond.methodLink RX2 29 yX2_isIn, Cond.static yX2_isIn, Cond.initialized RX2, Cond.code yX2_isIn cX2_isIn 3 (some .boolean), Cond.methodLink RX2 75 yX2_fail, Cond.instanceMethod yX2_fail, Cond.selects RX2 yX2_fail yX2_fail, Cond.code yX2_fail cX2_fail 2 (some .int), Cond.methodLink RX2 115 yX2_keep, Cond.instanceMethod yX2_keep, Cond.selects RX2 yX2_keep yX2_keep, Cond.code yX2_keep cX2_keep 1 none, Cond.fieldLink RX2 16 "PauseLedgerModel" "now" "[I", Cond.fieldLink RX2 20 "PauseLedgerModel" "kept" "[I", Cond.methodLink RX2 33 arraycopyName, Cond.native arraycopyName, Cond.static arraycopyName, Cond.initialized "java/lang/System", Cond.methodLink RX2 95 yX2_secondsOn, Cond.instanceMethod yX2_secondsOn, Cond.selects RX2 yX2_secondsOn yX2_secondsOn, Cond.code yX2_secondsOn cX2_secondsOn 3 none, Cond.methodLink RX2 72 yX2_secondOn]
def wsX2_allUnsaidIn_r2 : List Cond := [Cond.instanceMethod yX2_secondOn, Cond.selects RX2 yX2_secondOn yX2_secondOn, Cond.code yX2_secondOn cX2_secondOn 1 none, Cond.methodLink RX2 66 yX2_talk, Cond.instanceMethod yX2_talk, Cond.selects RX2 yX2_talk yX2_talk, Cond.code yX2_talk cX2_talk 2 none, Cond.fieldLink RX2 13 "PauseLedgerModel" "limit" "I", Cond.methodLink RX2 69 yX2_fly, Cond.instanceMethod yX2_fly, Cond.selects RX2 yX2_fly yX2_fly, Cond.code yX2_fly cX2_fly 3 none, Cond.methodLink RX2 62 yX2_arrives, Cond.instanceMethod yX2_arrives, Cond.selects RX2 yX2_arrives yX2_arrives, Cond.code yX2_arrives cX2_arrives 5 none, Cond.fieldLink RX2 23 "PauseLedgerModel" "mark" "I", Cond.fieldLink RX2 59 "PauseLedgerModel" "end" "I", Cond.methodLink RX2 56 yX2_pair, Cond.static yX2_pair, Cond.code yX2_pair cX2_pair 2 (some .int), Cond.methodLink RX2 49 yX2_unsaid, Cond.instanceMethod yX2_unsaid, Cond.selects RX2 yX2_unsaid yX2_unsaid]
def wsX2_allUnsaidIn_r3 : List Cond := [Cond.code yX2_unsaid cX2_unsaid 3 (some .int), Cond.fieldLink RX2 7 "PauseLedgerModel" "guests" "I", Cond.methodLink RX2 118 yX2_bringBack, Cond.instanceMethod yX2_bringBack, Cond.selects RX2 yX2_bringBack yX2_bringBack, Cond.code yX2_bringBack cX2_bringBack 1 none]
def wsX2_allUnsaidIn : List Cond := .code yX2_allUnsaidIn cX2_allUnsaidIn 3 (some .int) :: ((wsX2_allUnsaidIn_r1 ++ (wsX2_allUnsaidIn_r2 ++ wsX2_allUnsaidIn_r3)) ++ wsX20)
def wsX2_secondsUntilPauseCounts : List Cond := .code yX2_secondsUntilPauseCounts cX2_secondsUntilPauseCounts 1 (some .int) :: ([.fieldLink RX2 16 "PauseLedgerModel" "now" "[I", .fieldLink RX2 13 "PauseLedgerModel" "limit" "I", .methodLink RX2 99 yX2_told, .instanceMethod yX2_told, .selects RX2 yX2_told yX2_told, .initialized RX2, .code yX2_told cX2_told 2 (some .int), .fieldLink RX2 26 "PauseLedgerModel" "thrown" "I"] ++ wsX20)
def wsX2_becomes_r1 : List Cond := [Cond.fieldLink RX2 23 "PauseLedgerModel" "mark" "I", Cond.fieldLink RX2 16 "PauseLedgerModel" "now" "[I", Cond.fieldLink RX2 59 "PauseLedgerModel" "end" "I", Cond.methodLink RX2 92 yX2_send, Cond.instanceMethod yX2_send, Cond.selects RX2 yX2_send yX2_send, Cond.initialized RX2, Cond.code yX2_send cX2_send 3 (some .int), Cond.methodLink RX2 56 yX2_pair, Cond.static yX2_pair, Cond.code yX2_pair cX2_pair 2 (some .int), Cond.methodLink RX2 85 yX2_apart, Cond.instanceMethod yX2_apart, Cond.selects RX2 yX2_apart yX2_apart, Cond.code yX2_apart cX2_apart 4 (some .int), Cond.methodLink RX2 39 Lib.Math.abs.name, Cond.static Lib.Math.abs.name, Cond.initialized "java/lang/Math", Cond.code Lib.Math.abs.name Lib.Math.abs.code 1 (some .int), Cond.fieldLink RX2 7 "PauseLedgerModel" "guests" "I", Cond.methodLink RX2 45 Lib.Math.min.name, Cond.static Lib.Math.min.name, Cond.code Lib.Math.min.name Lib.Math.min.code 2 (some .int), Cond.methodLink RX2 72 yX2_secondOn]
def wsX2_becomes_r2 : List Cond := [Cond.instanceMethod yX2_secondOn, Cond.selects RX2 yX2_secondOn yX2_secondOn, Cond.code yX2_secondOn cX2_secondOn 1 none, Cond.methodLink RX2 66 yX2_talk, Cond.instanceMethod yX2_talk, Cond.selects RX2 yX2_talk yX2_talk, Cond.code yX2_talk cX2_talk 2 none, Cond.fieldLink RX2 13 "PauseLedgerModel" "limit" "I", Cond.methodLink RX2 69 yX2_fly, Cond.instanceMethod yX2_fly, Cond.selects RX2 yX2_fly yX2_fly, Cond.code yX2_fly cX2_fly 3 none, Cond.methodLink RX2 62 yX2_arrives, Cond.instanceMethod yX2_arrives, Cond.selects RX2 yX2_arrives yX2_arrives, Cond.code yX2_arrives cX2_arrives 5 none, Cond.methodLink RX2 118 yX2_bringBack, Cond.instanceMethod yX2_bringBack, Cond.selects RX2 yX2_bringBack yX2_bringBack, Cond.code yX2_bringBack cX2_bringBack 1 none, Cond.fieldLink RX2 20 "PauseLedgerModel" "kept" "[I", Cond.methodLink RX2 33 arraycopyName, Cond.native arraycopyName, Cond.static arraycopyName]
def wsX2_becomes_r3 : List Cond := [Cond.initialized "java/lang/System"]
def wsX2_becomes : List Cond := .code yX2_becomes cX2_becomes 4 (some .int) :: ((wsX2_becomes_r1 ++ (wsX2_becomes_r2 ++ wsX2_becomes_r3)) ++ wsX20)
def wsX2_wouldLeave_r1 : List Cond := [Cond.methodLink RX2 88 yX2_canSend, Cond.instanceMethod yX2_canSend, Cond.selects RX2 yX2_canSend yX2_canSend, Cond.initialized RX2, Cond.code yX2_canSend cX2_canSend 3 (some .boolean), Cond.fieldLink RX2 16 "PauseLedgerModel" "now" "[I", Cond.fieldLink RX2 26 "PauseLedgerModel" "thrown" "I", Cond.methodLink RX2 81 yX2_isGuest, Cond.instanceMethod yX2_isGuest, Cond.selects RX2 yX2_isGuest yX2_isGuest, Cond.code yX2_isGuest cX2_isGuest 2 (some .boolean), Cond.fieldLink RX2 7 "PauseLedgerModel" "guests" "I", Cond.methodLink RX2 29 yX2_isIn, Cond.static yX2_isIn, Cond.code yX2_isIn cX2_isIn 3 (some .boolean), Cond.methodLink RX2 56 yX2_pair, Cond.static yX2_pair, Cond.code yX2_pair cX2_pair 2 (some .int), Cond.methodLink RX2 115 yX2_keep, Cond.instanceMethod yX2_keep, Cond.selects RX2 yX2_keep yX2_keep, Cond.code yX2_keep cX2_keep 1 none, Cond.fieldLink RX2 20 "PauseLedgerModel" "kept" "[I", Cond.methodLink RX2 33 arraycopyName]
def wsX2_wouldLeave_r2 : List Cond := [Cond.native arraycopyName, Cond.static arraycopyName, Cond.initialized "java/lang/System", Cond.methodLink RX2 121 yX2_becomes, Cond.instanceMethod yX2_becomes, Cond.selects RX2 yX2_becomes yX2_becomes, Cond.code yX2_becomes cX2_becomes 4 (some .int), Cond.fieldLink RX2 23 "PauseLedgerModel" "mark" "I", Cond.fieldLink RX2 59 "PauseLedgerModel" "end" "I", Cond.methodLink RX2 92 yX2_send, Cond.instanceMethod yX2_send, Cond.selects RX2 yX2_send yX2_send, Cond.code yX2_send cX2_send 3 (some .int), Cond.methodLink RX2 85 yX2_apart, Cond.instanceMethod yX2_apart, Cond.selects RX2 yX2_apart yX2_apart, Cond.code yX2_apart cX2_apart 4 (some .int), Cond.methodLink RX2 39 Lib.Math.abs.name, Cond.static Lib.Math.abs.name, Cond.initialized "java/lang/Math", Cond.code Lib.Math.abs.name Lib.Math.abs.code 1 (some .int), Cond.methodLink RX2 45 Lib.Math.min.name, Cond.static Lib.Math.min.name, Cond.code Lib.Math.min.name Lib.Math.min.code 2 (some .int)]
def wsX2_wouldLeave_r3 : List Cond := [Cond.methodLink RX2 72 yX2_secondOn, Cond.instanceMethod yX2_secondOn, Cond.selects RX2 yX2_secondOn yX2_secondOn, Cond.code yX2_secondOn cX2_secondOn 1 none, Cond.methodLink RX2 66 yX2_talk, Cond.instanceMethod yX2_talk, Cond.selects RX2 yX2_talk yX2_talk, Cond.code yX2_talk cX2_talk 2 none, Cond.fieldLink RX2 13 "PauseLedgerModel" "limit" "I", Cond.methodLink RX2 69 yX2_fly, Cond.instanceMethod yX2_fly, Cond.selects RX2 yX2_fly yX2_fly, Cond.code yX2_fly cX2_fly 3 none, Cond.methodLink RX2 62 yX2_arrives, Cond.instanceMethod yX2_arrives, Cond.selects RX2 yX2_arrives yX2_arrives, Cond.code yX2_arrives cX2_arrives 5 none, Cond.methodLink RX2 118 yX2_bringBack, Cond.instanceMethod yX2_bringBack, Cond.selects RX2 yX2_bringBack yX2_bringBack, Cond.code yX2_bringBack cX2_bringBack 1 none]
def wsX2_wouldLeave : List Cond := .code yX2_wouldLeave cX2_wouldLeave 3 (some .int) :: ((wsX2_wouldLeave_r1 ++ (wsX2_wouldLeave_r2 ++ wsX2_wouldLeave_r3)) ++ wsX20)
def wsX2_bestMoment_r1 : List Cond := [Cond.methodLink RX2 88 yX2_canSend, Cond.instanceMethod yX2_canSend, Cond.selects RX2 yX2_canSend yX2_canSend, Cond.initialized RX2, Cond.code yX2_canSend cX2_canSend 3 (some .boolean), Cond.fieldLink RX2 16 "PauseLedgerModel" "now" "[I", Cond.fieldLink RX2 26 "PauseLedgerModel" "thrown" "I", Cond.methodLink RX2 81 yX2_isGuest, Cond.instanceMethod yX2_isGuest, Cond.selects RX2 yX2_isGuest yX2_isGuest, Cond.code yX2_isGuest cX2_isGuest 2 (some .boolean), Cond.fieldLink RX2 7 "PauseLedgerModel" "guests" "I", Cond.methodLink RX2 29 yX2_isIn, Cond.static yX2_isIn, Cond.code yX2_isIn cX2_isIn 3 (some .boolean), Cond.methodLink RX2 56 yX2_pair, Cond.static yX2_pair, Cond.code yX2_pair cX2_pair 2 (some .int), Cond.methodLink RX2 115 yX2_keep, Cond.instanceMethod yX2_keep, Cond.selects RX2 yX2_keep yX2_keep, Cond.code yX2_keep cX2_keep 1 none, Cond.fieldLink RX2 20 "PauseLedgerModel" "kept" "[I", Cond.methodLink RX2 33 arraycopyName]
def wsX2_bestMoment_r2 : List Cond := [Cond.native arraycopyName, Cond.static arraycopyName, Cond.initialized "java/lang/System", Cond.methodLink RX2 95 yX2_secondsOn, Cond.instanceMethod yX2_secondsOn, Cond.selects RX2 yX2_secondsOn yX2_secondsOn, Cond.code yX2_secondsOn cX2_secondsOn 3 none, Cond.methodLink RX2 72 yX2_secondOn, Cond.instanceMethod yX2_secondOn, Cond.selects RX2 yX2_secondOn yX2_secondOn, Cond.code yX2_secondOn cX2_secondOn 1 none, Cond.methodLink RX2 66 yX2_talk, Cond.instanceMethod yX2_talk, Cond.selects RX2 yX2_talk yX2_talk, Cond.code yX2_talk cX2_talk 2 none, Cond.fieldLink RX2 13 "PauseLedgerModel" "limit" "I", Cond.methodLink RX2 69 yX2_fly, Cond.instanceMethod yX2_fly, Cond.selects RX2 yX2_fly yX2_fly, Cond.code yX2_fly cX2_fly 3 none, Cond.methodLink RX2 62 yX2_arrives, Cond.instanceMethod yX2_arrives, Cond.selects RX2 yX2_arrives yX2_arrives, Cond.code yX2_arrives cX2_arrives 5 none]
def wsX2_bestMoment_r3 : List Cond := [Cond.fieldLink RX2 23 "PauseLedgerModel" "mark" "I", Cond.fieldLink RX2 59 "PauseLedgerModel" "end" "I", Cond.methodLink RX2 121 yX2_becomes, Cond.instanceMethod yX2_becomes, Cond.selects RX2 yX2_becomes yX2_becomes, Cond.code yX2_becomes cX2_becomes 4 (some .int), Cond.methodLink RX2 92 yX2_send, Cond.instanceMethod yX2_send, Cond.selects RX2 yX2_send yX2_send, Cond.code yX2_send cX2_send 3 (some .int), Cond.methodLink RX2 85 yX2_apart, Cond.instanceMethod yX2_apart, Cond.selects RX2 yX2_apart yX2_apart, Cond.code yX2_apart cX2_apart 4 (some .int), Cond.methodLink RX2 39 Lib.Math.abs.name, Cond.static Lib.Math.abs.name, Cond.initialized "java/lang/Math", Cond.code Lib.Math.abs.name Lib.Math.abs.code 1 (some .int), Cond.methodLink RX2 45 Lib.Math.min.name, Cond.static Lib.Math.min.name, Cond.code Lib.Math.min.name Lib.Math.min.code 2 (some .int), Cond.methodLink RX2 118 yX2_bringBack, Cond.instanceMethod yX2_bringBack, Cond.selects RX2 yX2_bringBack yX2_bringBack]
def wsX2_bestMoment_r4 : List Cond := [Cond.code yX2_bringBack cX2_bringBack 1 none]
def wsX2_bestMoment : List Cond := .code yX2_bestMoment cX2_bestMoment 4 (some .int) :: ((wsX2_bestMoment_r1 ++ (wsX2_bestMoment_r2 ++ (wsX2_bestMoment_r3 ++ wsX2_bestMoment_r4))) ++ wsX20)
def wsX2_ratingIn_r1 : List Cond := [Cond.fieldLink RX2 26 "PauseLedgerModel" "thrown" "I", Cond.methodLink RX2 29 yX2_isIn, Cond.static yX2_isIn, Cond.initialized RX2, Cond.code yX2_isIn cX2_isIn 3 (some .boolean), Cond.methodLink RX2 75 yX2_fail, Cond.instanceMethod yX2_fail, Cond.selects RX2 yX2_fail yX2_fail, Cond.code yX2_fail cX2_fail 2 (some .int), Cond.methodLink RX2 115 yX2_keep, Cond.instanceMethod yX2_keep, Cond.selects RX2 yX2_keep yX2_keep, Cond.code yX2_keep cX2_keep 1 none, Cond.fieldLink RX2 16 "PauseLedgerModel" "now" "[I", Cond.fieldLink RX2 20 "PauseLedgerModel" "kept" "[I", Cond.methodLink RX2 33 arraycopyName, Cond.native arraycopyName, Cond.static arraycopyName, Cond.initialized "java/lang/System", Cond.methodLink RX2 95 yX2_secondsOn, Cond.instanceMethod yX2_secondsOn, Cond.selects RX2 yX2_secondsOn yX2_secondsOn, Cond.code yX2_secondsOn cX2_secondsOn 3 none, Cond.methodLink RX2 72 yX2_secondOn]
def wsX2_ratingIn_r2 : List Cond := [Cond.instanceMethod yX2_secondOn, Cond.selects RX2 yX2_secondOn yX2_secondOn, Cond.code yX2_secondOn cX2_secondOn 1 none, Cond.methodLink RX2 66 yX2_talk, Cond.instanceMethod yX2_talk, Cond.selects RX2 yX2_talk yX2_talk, Cond.code yX2_talk cX2_talk 2 none, Cond.fieldLink RX2 13 "PauseLedgerModel" "limit" "I", Cond.methodLink RX2 69 yX2_fly, Cond.instanceMethod yX2_fly, Cond.selects RX2 yX2_fly yX2_fly, Cond.code yX2_fly cX2_fly 3 none, Cond.methodLink RX2 62 yX2_arrives, Cond.instanceMethod yX2_arrives, Cond.selects RX2 yX2_arrives yX2_arrives, Cond.code yX2_arrives cX2_arrives 5 none, Cond.fieldLink RX2 23 "PauseLedgerModel" "mark" "I", Cond.fieldLink RX2 59 "PauseLedgerModel" "end" "I", Cond.methodLink RX2 56 yX2_pair, Cond.static yX2_pair, Cond.code yX2_pair cX2_pair 2 (some .int), Cond.methodLink RX2 78 yX2_rated, Cond.instanceMethod yX2_rated, Cond.selects RX2 yX2_rated yX2_rated]
def wsX2_ratingIn_r3 : List Cond := [Cond.code yX2_rated cX2_rated 1 (some .int), Cond.fieldLink RX2 7 "PauseLedgerModel" "guests" "I", Cond.methodLink RX2 39 Lib.Math.abs.name, Cond.static Lib.Math.abs.name, Cond.initialized "java/lang/Math", Cond.code Lib.Math.abs.name Lib.Math.abs.code 1 (some .int), Cond.methodLink RX2 53 Lib.Math.max.name, Cond.static Lib.Math.max.name, Cond.code Lib.Math.max.name Lib.Math.max.code 2 (some .int), Cond.methodLink RX2 49 yX2_unsaid, Cond.instanceMethod yX2_unsaid, Cond.selects RX2 yX2_unsaid yX2_unsaid, Cond.code yX2_unsaid cX2_unsaid 3 (some .int), Cond.methodLink RX2 118 yX2_bringBack, Cond.instanceMethod yX2_bringBack, Cond.selects RX2 yX2_bringBack yX2_bringBack, Cond.code yX2_bringBack cX2_bringBack 1 none]
def wsX2_ratingIn : List Cond := .code yX2_ratingIn cX2_ratingIn 3 (some .int) :: ((wsX2_ratingIn_r1 ++ (wsX2_ratingIn_r2 ++ wsX2_ratingIn_r3)) ++ wsX20)
def wsX2_meanUnsaid : List Cond := .code yX2_meanUnsaid cX2_meanUnsaid 1 (some .double) :: ([.fieldLink RX2 26 "PauseLedgerModel" "thrown" "I", .fieldLink RX2 16 "PauseLedgerModel" "now" "[I", .fieldLink RX2 7 "PauseLedgerModel" "guests" "I", .methodLink RX2 49 yX2_unsaid, .instanceMethod yX2_unsaid, .selects RX2 yX2_unsaid yX2_unsaid, .initialized RX2, .code yX2_unsaid cX2_unsaid 3 (some .int)] ++ wsX20)
def wsX2_digest_r1 : List Cond := [Cond.fieldLink RX2 26 "PauseLedgerModel" "thrown" "I", Cond.arrayClass .int, Cond.fieldLink RX2 7 "PauseLedgerModel" "guests" "I", Cond.fieldLink RX2 16 "PauseLedgerModel" "now" "[I", Cond.fieldLink RX2 13 "PauseLedgerModel" "limit" "I", Cond.constantLong RX2 124 (1973), Cond.constantLong RX2 126 (31), Cond.methodLink RX2 102 yX2_left, Cond.instanceMethod yX2_left, Cond.selects RX2 yX2_left yX2_left, Cond.initialized RX2, Cond.code yX2_left cX2_left 1 (some .int), Cond.methodLink RX2 112 yX2_underWay, Cond.instanceMethod yX2_underWay, Cond.selects RX2 yX2_underWay yX2_underWay, Cond.code yX2_underWay cX2_underWay 3 (some .int), Cond.methodLink RX2 78 yX2_rated, Cond.instanceMethod yX2_rated, Cond.selects RX2 yX2_rated yX2_rated, Cond.code yX2_rated cX2_rated 1 (some .int), Cond.methodLink RX2 39 Lib.Math.abs.name, Cond.static Lib.Math.abs.name, Cond.initialized "java/lang/Math", Cond.code Lib.Math.abs.name Lib.Math.abs.code 1 (some .int)]
def wsX2_digest_r2 : List Cond := [Cond.methodLink RX2 53 Lib.Math.max.name, Cond.static Lib.Math.max.name, Cond.code Lib.Math.max.name Lib.Math.max.code 2 (some .int), Cond.methodLink RX2 49 yX2_unsaid, Cond.instanceMethod yX2_unsaid, Cond.selects RX2 yX2_unsaid yX2_unsaid, Cond.code yX2_unsaid cX2_unsaid 3 (some .int), Cond.methodLink RX2 56 yX2_pair, Cond.static yX2_pair, Cond.code yX2_pair cX2_pair 2 (some .int)]
def wsX2_digest : List Cond := .code yX2_digest cX2_digest 8 (some .long) :: ((wsX2_digest_r1 ++ wsX2_digest_r2) ++ wsX20)
def wsJ9_abs_0f7a4 : List Cond := .code yJ9_abs_0f7a4 cJ9_abs_0f7a4 1 (some .int) :: ([])
def wsJ9_max_7cf53 : List Cond := .code yJ9_max_7cf53 cJ9_max_7cf53 2 (some .int) :: ([])
def wsJ9_min_7cf53 : List Cond := .code yJ9_min_7cf53 cJ9_min_7cf53 2 (some .int) :: ([])
def wsL_newDinner_r1 : List Cond := [Cond.classLink RL 13 "java/lang/IllegalArgumentException", Cond.methodLink RL 7 yX1_newDinner, Cond.instanceMethod yX1_newDinner, Cond.selects RX1 yX1_newDinner yX1_newDinner, Cond.initialized RX1, Cond.code yX1_newDinner cX1_newDinner 3 (some .int), Cond.fieldLink RX1 12 "PauseLedger" "dinner" "LPauseLedger$Dinner;", Cond.methodLink RX1 19 yX1_requireWithin, Cond.static yX1_requireWithin, Cond.code yX1_requireWithin cX1_requireWithin 3 none, Cond.classLink RX1 154 "java/lang/IllegalArgumentException", Cond.initialized "java/lang/IllegalArgumentException", Cond.methodLink RX1 23 yX0_rate, Cond.instanceMethod yX0_rate, Cond.selects RX0 yX0_rate yX0_rate, Cond.initialized RX0, Cond.code yX0_rate cX0_rate 2 (some .int), Cond.fieldLink RX0 41 "PauseLedger$Dinner" "guests" "I", Cond.methodLink RX0 114 Lib.Math.abs.name, Cond.static Lib.Math.abs.name, Cond.initialized "java/lang/Math", Cond.code Lib.Math.abs.name Lib.Math.abs.code 1 (some .int), Cond.methodLink RX0 135 Lib.Math.max.name, Cond.static Lib.Math.max.name]
def wsL_newDinner_r2 : List Cond := [Cond.code Lib.Math.max.name Lib.Math.max.code 2 (some .int), Cond.methodLink RX0 132 yX0_sumUnsaid, Cond.instanceMethod yX0_sumUnsaid, Cond.selects RX0 yX0_sumUnsaid yX0_sumUnsaid, Cond.code yX0_sumUnsaid cX0_sumUnsaid 1 (some .int), Cond.fieldLink RX0 56 "PauseLedger$Dinner" "unsaidInPauses" "I", Cond.methodLink RX0 128 yX0_sumUnsaidByGuests, Cond.instanceMethod yX0_sumUnsaidByGuests, Cond.selects RX0 yX0_sumUnsaidByGuests yX0_sumUnsaidByGuests, Cond.code yX0_sumUnsaidByGuests cX0_sumUnsaidByGuests 3 (some .int), Cond.fieldLink RX0 21 "PauseLedger$Dinner" "unsaid" "[I", Cond.methodLink RX1 27 yX0_begin, Cond.instanceMethod yX0_begin, Cond.selects RX0 yX0_begin yX0_begin, Cond.code yX0_begin cX0_begin 2 none, Cond.fieldLink RX0 44 "PauseLedger$Dinner" "seconds" "I", Cond.fieldLink RX0 47 "PauseLedger$Dinner" "speaker" "I", Cond.fieldLink RX0 50 "PauseLedger$Dinner" "toSpeak" "I", Cond.fieldLink RX0 53 "PauseLedger$Dinner" "pause" "I", Cond.fieldLink RX0 59 "PauseLedger$Dinner" "meetings" "I", Cond.fieldLink RX0 62 "PauseLedger$Dinner" "lost" "I", Cond.fieldLink RX0 65 "PauseLedger$Dinner" "sent" "I", Cond.fieldLink RX0 9 "PauseLedger$Dinner" "spoken" "[I", Cond.fieldLink RX0 15 "PauseLedger$Dinner" "interruptions" "[I"]
def wsL_newDinner_r3 : List Cond := [Cond.fieldLink RX0 18 "PauseLedger$Dinner" "coughs" "[I", Cond.fieldLink RX0 24 "PauseLedger$Dinner" "toGo" "[I", Cond.fieldLink RX0 27 "PauseLedger$Dinner" "caught" "[I", Cond.methodLink RX0 68 yJ7_fill_53178, Cond.static yJ7_fill_53178, Cond.initialized RJ7, Cond.code yJ7_fill_53178 cJ7_fill_53178 4 none]
def wsL_newDinner : List Cond := .codeWith yL_newDinner cL_newDinner 4 (some .int) [(0, 9, 12, 13)] :: ((wsL_newDinner_r1 ++ (wsL_newDinner_r2 ++ wsL_newDinner_r3)) ++ wsX10 ++ wsX00 ++ (vx_atS RX1 158 "java/lang/IllegalArgumentException" ["java/lang/RuntimeException", "java/lang/Exception"]).filter goodWord)
def wsL_setLimit : List Cond := .codeWith yL_setLimit cL_setLimit 4 (some .int) [(0, 9, 12, 13)] :: ([.classLink RL 13 "java/lang/IllegalArgumentException", .methodLink RL 15 yX1_setLimit, .instanceMethod yX1_setLimit, .selects RX1 yX1_setLimit yX1_setLimit, .initialized RX1, .code yX1_setLimit cX1_setLimit 3 (some .int), .fieldLink RX1 12 "PauseLedger" "dinner" "LPauseLedger$Dinner;", .fieldLink RX1 31 "PauseLedger$Dinner" "limit" "I", .methodLink RX1 19 yX1_requireWithin, .static yX1_requireWithin, .code yX1_requireWithin cX1_requireWithin 3 none, .classLink RX1 154 "java/lang/IllegalArgumentException", .initialized "java/lang/IllegalArgumentException"] ++ wsX10 ++ wsX00 ++ (vx_atS RX1 158 "java/lang/IllegalArgumentException" ["java/lang/RuntimeException", "java/lang/Exception"]).filter goodWord)
def wsL_speak_r1 : List Cond := [Cond.classLink RL 22 "java/lang/IndexOutOfBoundsException", Cond.classLink RL 13 "java/lang/IllegalArgumentException", Cond.methodLink RL 18 yX1_speak, Cond.instanceMethod yX1_speak, Cond.selects RX1 yX1_speak yX1_speak, Cond.initialized RX1, Cond.code yX1_speak cX1_speak 3 (some .int), Cond.fieldLink RX1 12 "PauseLedger" "dinner" "LPauseLedger$Dinner;", Cond.methodLink RX1 35 yX1_requireGuest, Cond.instanceMethod yX1_requireGuest, Cond.selects RX1 yX1_requireGuest yX1_requireGuest, Cond.code yX1_requireGuest cX1_requireGuest 2 none, Cond.classLink RX1 147 "java/lang/IndexOutOfBoundsException", Cond.initialized "java/lang/IndexOutOfBoundsException", Cond.fieldLink RX1 58 "PauseLedger$Dinner" "guests" "I", Cond.methodLink RX1 19 yX1_requireWithin, Cond.static yX1_requireWithin, Cond.code yX1_requireWithin cX1_requireWithin 3 none, Cond.classLink RX1 154 "java/lang/IllegalArgumentException", Cond.initialized "java/lang/IllegalArgumentException", Cond.methodLink RX1 38 yX0_letSpeak, Cond.instanceMethod yX0_letSpeak, Cond.selects RX0 yX0_letSpeak yX0_letSpeak, Cond.initialized RX0]
def wsL_speak_r2 : List Cond := [Cond.code yX0_letSpeak cX0_letSpeak 4 (some .int), Cond.fieldLink RX0 47 "PauseLedger$Dinner" "speaker" "I", Cond.fieldLink RX0 15 "PauseLedger$Dinner" "interruptions" "[I", Cond.fieldLink RX0 50 "PauseLedger$Dinner" "toSpeak" "I"]
def wsL_speak : List Cond := .codeWith yL_speak cL_speak 5 (some .int) [(0, 10, 13, 22), (0, 10, 17, 13)] :: ((wsL_speak_r1 ++ wsL_speak_r2) ++ wsX10 ++ wsX00 ++ (vx_atS RX1 151 "java/lang/IndexOutOfBoundsException" ["java/lang/RuntimeException", "java/lang/Exception"]).filter goodWord ++ (vx_atS RX1 158 "java/lang/IllegalArgumentException" ["java/lang/RuntimeException", "java/lang/Exception"]).filter goodWord)
def wsL_cough_r1 : List Cond := [Cond.classLink RL 22 "java/lang/IndexOutOfBoundsException", Cond.classLink RL 13 "java/lang/IllegalArgumentException", Cond.methodLink RL 24 yX1_cough, Cond.instanceMethod yX1_cough, Cond.selects RX1 yX1_cough yX1_cough, Cond.initialized RX1, Cond.code yX1_cough cX1_cough 3 (some .int), Cond.fieldLink RX1 12 "PauseLedger" "dinner" "LPauseLedger$Dinner;", Cond.methodLink RX1 35 yX1_requireGuest, Cond.instanceMethod yX1_requireGuest, Cond.selects RX1 yX1_requireGuest yX1_requireGuest, Cond.code yX1_requireGuest cX1_requireGuest 2 none, Cond.classLink RX1 147 "java/lang/IndexOutOfBoundsException", Cond.initialized "java/lang/IndexOutOfBoundsException", Cond.fieldLink RX1 58 "PauseLedger$Dinner" "guests" "I", Cond.methodLink RX1 19 yX1_requireWithin, Cond.static yX1_requireWithin, Cond.code yX1_requireWithin cX1_requireWithin 3 none, Cond.classLink RX1 154 "java/lang/IllegalArgumentException", Cond.initialized "java/lang/IllegalArgumentException", Cond.methodLink RX1 42 yX0_letCough, Cond.instanceMethod yX0_letCough, Cond.selects RX0 yX0_letCough yX0_letCough, Cond.initialized RX0]
def wsL_cough_r2 : List Cond := [Cond.code yX0_letCough cX0_letCough 4 (some .int), Cond.fieldLink RX0 18 "PauseLedger$Dinner" "coughs" "[I", Cond.fieldLink RX0 21 "PauseLedger$Dinner" "unsaid" "[I", Cond.methodLink RX0 80 yX0_unsaidByCough, Cond.instanceMethod yX0_unsaidByCough, Cond.selects RX0 yX0_unsaidByCough yX0_unsaidByCough, Cond.code yX0_unsaidByCough cX0_unsaidByCough 3 (some .int), Cond.fieldLink RX0 47 "PauseLedger$Dinner" "speaker" "I"]
def wsL_cough : List Cond := .codeWith yL_cough cL_cough 5 (some .int) [(0, 10, 13, 22), (0, 10, 17, 13)] :: ((wsL_cough_r1 ++ wsL_cough_r2) ++ wsX10 ++ wsX00 ++ (vx_atS RX1 151 "java/lang/IndexOutOfBoundsException" ["java/lang/RuntimeException", "java/lang/Exception"]).filter goodWord ++ (vx_atS RX1 158 "java/lang/IllegalArgumentException" ["java/lang/RuntimeException", "java/lang/Exception"]).filter goodWord)
def wsL_glance_r1 : List Cond := [Cond.classLink RL 22 "java/lang/IndexOutOfBoundsException", Cond.classLink RL 13 "java/lang/IllegalArgumentException", Cond.classLink RL 30 "java/lang/IllegalStateException", Cond.methodLink RL 27 yX1_glance, Cond.instanceMethod yX1_glance, Cond.selects RX1 yX1_glance yX1_glance, Cond.initialized RX1, Cond.code yX1_glance cX1_glance 3 (some .int), Cond.fieldLink RX1 12 "PauseLedger" "dinner" "LPauseLedger$Dinner;", Cond.methodLink RX1 45 yX1_requireFreeWay, Cond.instanceMethod yX1_requireFreeWay, Cond.selects RX1 yX1_requireFreeWay yX1_requireFreeWay, Cond.code yX1_requireFreeWay cX1_requireFreeWay 3 none, Cond.classLink RX1 154 "java/lang/IllegalArgumentException", Cond.initialized "java/lang/IllegalArgumentException", Cond.classLink RX1 161 "java/lang/IllegalStateException", Cond.initialized "java/lang/IllegalStateException", Cond.methodLink RX1 35 yX1_requireGuest, Cond.instanceMethod yX1_requireGuest, Cond.selects RX1 yX1_requireGuest yX1_requireGuest, Cond.code yX1_requireGuest cX1_requireGuest 2 none, Cond.classLink RX1 147 "java/lang/IndexOutOfBoundsException", Cond.initialized "java/lang/IndexOutOfBoundsException", Cond.fieldLink RX1 58 "PauseLedger$Dinner" "guests" "I"]
def wsL_glance_r2 : List Cond := [Cond.methodLink RX1 89 yX1_pairOf, Cond.static yX1_pairOf, Cond.code yX1_pairOf cX1_pairOf 2 (some .int), Cond.methodLink RX1 92 yX0_isOnItsWay, Cond.instanceMethod yX0_isOnItsWay, Cond.selects RX0 yX0_isOnItsWay yX0_isOnItsWay, Cond.initialized RX0, Cond.code yX0_isOnItsWay cX0_isOnItsWay 2 (some .boolean), Cond.fieldLink RX0 24 "PauseLedger$Dinner" "toGo" "[I", Cond.methodLink RX1 49 yX0_send, Cond.instanceMethod yX0_send, Cond.selects RX0 yX0_send yX0_send, Cond.code yX0_send cX0_send 4 (some .int), Cond.fieldLink RX0 65 "PauseLedger$Dinner" "sent" "I", Cond.fieldLink RX0 30 "PauseLedger$Dinner" "order" "[I", Cond.methodLink RX0 87 yX0_wayOf, Cond.instanceMethod yX0_wayOf, Cond.selects RX0 yX0_wayOf yX0_wayOf, Cond.code yX0_wayOf cX0_wayOf 3 (some .int), Cond.methodLink RX0 122 yX0_seatsBetween, Cond.instanceMethod yX0_seatsBetween, Cond.selects RX0 yX0_seatsBetween yX0_seatsBetween, Cond.code yX0_seatsBetween cX0_seatsBetween 4 (some .int), Cond.methodLink RX0 114 Lib.Math.abs.name]
def wsL_glance_r3 : List Cond := [Cond.static Lib.Math.abs.name, Cond.initialized "java/lang/Math", Cond.code Lib.Math.abs.name Lib.Math.abs.code 1 (some .int), Cond.fieldLink RX0 41 "PauseLedger$Dinner" "guests" "I", Cond.methodLink RX0 119 Lib.Math.min.name, Cond.static Lib.Math.min.name, Cond.code Lib.Math.min.name Lib.Math.min.code 2 (some .int)]
def wsL_glance : List Cond := .codeWith yL_glance cL_glance 5 (some .int) [(0, 10, 13, 22), (0, 10, 17, 13), (0, 10, 21, 30)] :: ((wsL_glance_r1 ++ (wsL_glance_r2 ++ wsL_glance_r3)) ++ wsX10 ++ wsX00 ++ (vx_atS RX1 158 "java/lang/IllegalArgumentException" ["java/lang/RuntimeException", "java/lang/Exception"]).filter goodWord ++ (vx_atS RX1 165 "java/lang/IllegalStateException" ["java/lang/RuntimeException", "java/lang/Exception"]).filter goodWord ++ (vx_atS RX1 151 "java/lang/IndexOutOfBoundsException" ["java/lang/RuntimeException", "java/lang/Exception"]).filter goodWord)
def wsL_pass_r1 : List Cond := [Cond.classLink RL 13 "java/lang/IllegalArgumentException", Cond.methodLink RL 32 yX1_pass, Cond.instanceMethod yX1_pass, Cond.selects RX1 yX1_pass yX1_pass, Cond.initialized RX1, Cond.code yX1_pass cX1_pass 3 (some .int), Cond.fieldLink RX1 12 "PauseLedger" "dinner" "LPauseLedger$Dinner;", Cond.methodLink RX1 19 yX1_requireWithin, Cond.static yX1_requireWithin, Cond.code yX1_requireWithin cX1_requireWithin 3 none, Cond.classLink RX1 154 "java/lang/IllegalArgumentException", Cond.initialized "java/lang/IllegalArgumentException", Cond.methodLink RX1 52 yX0_sumUnsaid, Cond.instanceMethod yX0_sumUnsaid, Cond.selects RX0 yX0_sumUnsaid yX0_sumUnsaid, Cond.initialized RX0, Cond.code yX0_sumUnsaid cX0_sumUnsaid 1 (some .int), Cond.fieldLink RX0 56 "PauseLedger$Dinner" "unsaidInPauses" "I", Cond.methodLink RX0 128 yX0_sumUnsaidByGuests, Cond.instanceMethod yX0_sumUnsaidByGuests, Cond.selects RX0 yX0_sumUnsaidByGuests yX0_sumUnsaidByGuests, Cond.code yX0_sumUnsaidByGuests cX0_sumUnsaidByGuests 3 (some .int), Cond.fieldLink RX0 41 "PauseLedger$Dinner" "guests" "I", Cond.fieldLink RX0 21 "PauseLedger$Dinner" "unsaid" "[I"]
def wsL_pass_r2 : List Cond := [Cond.methodLink RX1 55 yX0_goBy, Cond.instanceMethod yX0_goBy, Cond.selects RX0 yX0_goBy yX0_goBy, Cond.code yX0_goBy cX0_goBy 3 none, Cond.methodLink RX0 90 yX0_goOneSecond, Cond.instanceMethod yX0_goOneSecond, Cond.selects RX0 yX0_goOneSecond yX0_goOneSecond, Cond.code yX0_goOneSecond cX0_goOneSecond 1 none, Cond.fieldLink RX0 44 "PauseLedger$Dinner" "seconds" "I", Cond.methodLink RX0 93 yX0_speakOrPause, Cond.instanceMethod yX0_speakOrPause, Cond.selects RX0 yX0_speakOrPause yX0_speakOrPause, Cond.code yX0_speakOrPause cX0_speakOrPause 1 none, Cond.fieldLink RX0 47 "PauseLedger$Dinner" "speaker" "I", Cond.fieldLink RX0 53 "PauseLedger$Dinner" "pause" "I", Cond.fieldLink RX0 9 "PauseLedger$Dinner" "spoken" "[I", Cond.fieldLink RX0 50 "PauseLedger$Dinner" "toSpeak" "I", Cond.methodLink RX0 99 yX0_beyondMultipleOfLimit, Cond.instanceMethod yX0_beyondMultipleOfLimit, Cond.selects RX0 yX0_beyondMultipleOfLimit yX0_beyondMultipleOfLimit, Cond.code yX0_beyondMultipleOfLimit cX0_beyondMultipleOfLimit 2 (some .int), Cond.fieldLink RX0 33 "PauseLedger$Dinner" "limit" "I", Cond.methodLink RX0 96 yX0_moveGlances, Cond.instanceMethod yX0_moveGlances]
def wsL_pass_r3 : List Cond := [Cond.selects RX0 yX0_moveGlances yX0_moveGlances, Cond.code yX0_moveGlances cX0_moveGlances 3 none, Cond.fieldLink RX0 65 "PauseLedger$Dinner" "sent" "I", Cond.fieldLink RX0 24 "PauseLedger$Dinner" "toGo" "[I", Cond.fieldLink RX0 30 "PauseLedger$Dinner" "order" "[I", Cond.methodLink RX0 103 yX0_arrive, Cond.instanceMethod yX0_arrive, Cond.selects RX0 yX0_arrive yX0_arrive, Cond.code yX0_arrive cX0_arrive 5 none, Cond.fieldLink RX0 59 "PauseLedger$Dinner" "meetings" "I", Cond.fieldLink RX0 62 "PauseLedger$Dinner" "lost" "I", Cond.fieldLink RX0 27 "PauseLedger$Dinner" "caught" "[I", Cond.static yX1_pairOf, Cond.code yX1_pairOf cX1_pairOf 2 (some .int), Cond.methodLink RX0 110 yX0_isOnItsWay, Cond.instanceMethod yX0_isOnItsWay, Cond.selects RX0 yX0_isOnItsWay yX0_isOnItsWay, Cond.code yX0_isOnItsWay cX0_isOnItsWay 2 (some .boolean), Cond.methodLink RX0 107 yX0_forgetThoseOver, Cond.instanceMethod yX0_forgetThoseOver, Cond.selects RX0 yX0_forgetThoseOver yX0_forgetThoseOver, Cond.code yX0_forgetThoseOver cX0_forgetThoseOver 4 none]
def wsL_pass : List Cond := .codeWith yL_pass cL_pass 4 (some .int) [(0, 9, 12, 13)] :: ((wsL_pass_r1 ++ (wsL_pass_r2 ++ wsL_pass_r3)) ++ wsX10 ++ wsX00 ++ (vx_atS RX1 158 "java/lang/IllegalArgumentException" ["java/lang/RuntimeException", "java/lang/Exception"]).filter goodWord)
def wsL_seatsApart_r1 : List Cond := [Cond.classLink RL 22 "java/lang/IndexOutOfBoundsException", Cond.methodLink RL 35 yX1_seatsApart, Cond.instanceMethod yX1_seatsApart, Cond.selects RX1 yX1_seatsApart yX1_seatsApart, Cond.initialized RX1, Cond.code yX1_seatsApart cX1_seatsApart 3 (some .int), Cond.fieldLink RX1 12 "PauseLedger" "dinner" "LPauseLedger$Dinner;", Cond.methodLink RX1 35 yX1_requireGuest, Cond.instanceMethod yX1_requireGuest, Cond.selects RX1 yX1_requireGuest yX1_requireGuest, Cond.code yX1_requireGuest cX1_requireGuest 2 none, Cond.classLink RX1 147 "java/lang/IndexOutOfBoundsException", Cond.initialized "java/lang/IndexOutOfBoundsException", Cond.fieldLink RX1 58 "PauseLedger$Dinner" "guests" "I", Cond.methodLink RX1 64 yX0_seatsBetween, Cond.instanceMethod yX0_seatsBetween, Cond.selects RX0 yX0_seatsBetween yX0_seatsBetween, Cond.initialized RX0, Cond.code yX0_seatsBetween cX0_seatsBetween 4 (some .int), Cond.methodLink RX0 114 Lib.Math.abs.name, Cond.static Lib.Math.abs.name, Cond.initialized "java/lang/Math", Cond.code Lib.Math.abs.name Lib.Math.abs.code 1 (some .int), Cond.fieldLink RX0 41 "PauseLedger$Dinner" "guests" "I"]
def wsL_seatsApart_r2 : List Cond := [Cond.methodLink RX0 119 Lib.Math.min.name, Cond.static Lib.Math.min.name, Cond.code Lib.Math.min.name Lib.Math.min.code 2 (some .int)]
def wsL_seatsApart : List Cond := .codeWith yL_seatsApart cL_seatsApart 5 (some .int) [(0, 10, 13, 22)] :: ((wsL_seatsApart_r1 ++ wsL_seatsApart_r2) ++ wsX10 ++ wsX00 ++ (vx_atS RX1 151 "java/lang/IndexOutOfBoundsException" ["java/lang/RuntimeException", "java/lang/Exception"]).filter goodWord)
def wsL_spokenBy : List Cond := .codeWith yL_spokenBy cL_spokenBy 4 (some .int) [(0, 9, 12, 22)] :: ([.classLink RL 22 "java/lang/IndexOutOfBoundsException", .methodLink RL 38 yX1_spokenBy, .instanceMethod yX1_spokenBy, .selects RX1 yX1_spokenBy yX1_spokenBy, .initialized RX1, .code yX1_spokenBy cX1_spokenBy 2 (some .int), .fieldLink RX1 12 "PauseLedger" "dinner" "LPauseLedger$Dinner;", .fieldLink RX1 76 "PauseLedger$Dinner" "spoken" "[I", .methodLink RX1 35 yX1_requireGuest, .instanceMethod yX1_requireGuest, .selects RX1 yX1_requireGuest yX1_requireGuest, .code yX1_requireGuest cX1_requireGuest 2 none, .classLink RX1 147 "java/lang/IndexOutOfBoundsException", .initialized "java/lang/IndexOutOfBoundsException", .fieldLink RX1 58 "PauseLedger$Dinner" "guests" "I"] ++ wsX10 ++ wsX00 ++ (vx_atS RX1 151 "java/lang/IndexOutOfBoundsException" ["java/lang/RuntimeException", "java/lang/Exception"]).filter goodWord)
def wsL_interruptionsBy : List Cond := .codeWith yL_interruptionsBy cL_interruptionsBy 4 (some .int) [(0, 9, 12, 22)] :: ([.classLink RL 22 "java/lang/IndexOutOfBoundsException", .methodLink RL 41 yX1_interruptionsBy, .instanceMethod yX1_interruptionsBy, .selects RX1 yX1_interruptionsBy yX1_interruptionsBy, .initialized RX1, .code yX1_interruptionsBy cX1_interruptionsBy 2 (some .int), .fieldLink RX1 12 "PauseLedger" "dinner" "LPauseLedger$Dinner;", .fieldLink RX1 80 "PauseLedger$Dinner" "interruptions" "[I", .methodLink RX1 35 yX1_requireGuest, .instanceMethod yX1_requireGuest, .selects RX1 yX1_requireGuest yX1_requireGuest, .code yX1_requireGuest cX1_requireGuest 2 none, .classLink RX1 147 "java/lang/IndexOutOfBoundsException", .initialized "java/lang/IndexOutOfBoundsException", .fieldLink RX1 58 "PauseLedger$Dinner" "guests" "I"] ++ wsX10 ++ wsX00 ++ (vx_atS RX1 151 "java/lang/IndexOutOfBoundsException" ["java/lang/RuntimeException", "java/lang/Exception"]).filter goodWord)
def wsL_coughsOf : List Cond := .codeWith yL_coughsOf cL_coughsOf 4 (some .int) [(0, 9, 12, 22)] :: ([.classLink RL 22 "java/lang/IndexOutOfBoundsException", .methodLink RL 44 yX1_coughsOf, .instanceMethod yX1_coughsOf, .selects RX1 yX1_coughsOf yX1_coughsOf, .initialized RX1, .code yX1_coughsOf cX1_coughsOf 2 (some .int), .fieldLink RX1 12 "PauseLedger" "dinner" "LPauseLedger$Dinner;", .fieldLink RX1 83 "PauseLedger$Dinner" "coughs" "[I", .methodLink RX1 35 yX1_requireGuest, .instanceMethod yX1_requireGuest, .selects RX1 yX1_requireGuest yX1_requireGuest, .code yX1_requireGuest cX1_requireGuest 2 none, .classLink RX1 147 "java/lang/IndexOutOfBoundsException", .initialized "java/lang/IndexOutOfBoundsException", .fieldLink RX1 58 "PauseLedger$Dinner" "guests" "I"] ++ wsX10 ++ wsX00 ++ (vx_atS RX1 151 "java/lang/IndexOutOfBoundsException" ["java/lang/RuntimeException", "java/lang/Exception"]).filter goodWord)
def wsL_unsaidBy : List Cond := .codeWith yL_unsaidBy cL_unsaidBy 4 (some .int) [(0, 9, 12, 22)] :: ([.classLink RL 22 "java/lang/IndexOutOfBoundsException", .methodLink RL 47 yX1_unsaidBy, .instanceMethod yX1_unsaidBy, .selects RX1 yX1_unsaidBy yX1_unsaidBy, .initialized RX1, .code yX1_unsaidBy cX1_unsaidBy 2 (some .int), .fieldLink RX1 12 "PauseLedger" "dinner" "LPauseLedger$Dinner;", .fieldLink RX1 86 "PauseLedger$Dinner" "unsaid" "[I", .methodLink RX1 35 yX1_requireGuest, .instanceMethod yX1_requireGuest, .selects RX1 yX1_requireGuest yX1_requireGuest, .code yX1_requireGuest cX1_requireGuest 2 none, .classLink RX1 147 "java/lang/IndexOutOfBoundsException", .initialized "java/lang/IndexOutOfBoundsException", .fieldLink RX1 58 "PauseLedger$Dinner" "guests" "I"] ++ wsX10 ++ wsX00 ++ (vx_atS RX1 151 "java/lang/IndexOutOfBoundsException" ["java/lang/RuntimeException", "java/lang/Exception"]).filter goodWord)
def wsL_isUnderWay : List Cond := .codeWith yL_isUnderWay cL_isUnderWay 5 (some .int) [(0, 17, 20, 22)] :: ([.classLink RL 22 "java/lang/IndexOutOfBoundsException", .methodLink RL 50 yX1_isUnderWay, .instanceMethod yX1_isUnderWay, .selects RX1 yX1_isUnderWay yX1_isUnderWay, .initialized RX1, .code yX1_isUnderWay cX1_isUnderWay 3 (some .boolean), .fieldLink RX1 12 "PauseLedger" "dinner" "LPauseLedger$Dinner;", .methodLink RX1 35 yX1_requireGuest, .instanceMethod yX1_requireGuest, .selects RX1 yX1_requireGuest yX1_requireGuest, .code yX1_requireGuest cX1_requireGuest 2 none, .classLink RX1 147 "java/lang/IndexOutOfBoundsException", .initialized "java/lang/IndexOutOfBoundsException", .fieldLink RX1 58 "PauseLedger$Dinner" "guests" "I", .methodLink RX1 89 yX1_pairOf, .static yX1_pairOf, .code yX1_pairOf cX1_pairOf 2 (some .int), .methodLink RX1 92 yX0_isOnItsWay, .instanceMethod yX0_isOnItsWay, .selects RX0 yX0_isOnItsWay yX0_isOnItsWay, .initialized RX0, .code yX0_isOnItsWay cX0_isOnItsWay 2 (some .boolean), .fieldLink RX0 24 "PauseLedger$Dinner" "toGo" "[I"] ++ wsX10 ++ wsX00 ++ (vx_atS RX1 151 "java/lang/IndexOutOfBoundsException" ["java/lang/RuntimeException", "java/lang/Exception"]).filter goodWord)
def wsL_secondsToGo_r1 : List Cond := [Cond.classLink RL 22 "java/lang/IndexOutOfBoundsException", Cond.methodLink RL 54 yX1_secondsToGo, Cond.instanceMethod yX1_secondsToGo, Cond.selects RX1 yX1_secondsToGo yX1_secondsToGo, Cond.initialized RX1, Cond.code yX1_secondsToGo cX1_secondsToGo 3 (some .int), Cond.fieldLink RX1 12 "PauseLedger" "dinner" "LPauseLedger$Dinner;", Cond.methodLink RX1 35 yX1_requireGuest, Cond.instanceMethod yX1_requireGuest, Cond.selects RX1 yX1_requireGuest yX1_requireGuest, Cond.code yX1_requireGuest cX1_requireGuest 2 none, Cond.classLink RX1 147 "java/lang/IndexOutOfBoundsException", Cond.initialized "java/lang/IndexOutOfBoundsException", Cond.fieldLink RX1 58 "PauseLedger$Dinner" "guests" "I", Cond.methodLink RX1 89 yX1_pairOf, Cond.static yX1_pairOf, Cond.code yX1_pairOf cX1_pairOf 2 (some .int), Cond.methodLink RX1 96 yX0_timeToGo, Cond.instanceMethod yX0_timeToGo, Cond.selects RX0 yX0_timeToGo yX0_timeToGo, Cond.initialized RX0, Cond.code yX0_timeToGo cX0_timeToGo 2 (some .int), Cond.fieldLink RX0 24 "PauseLedger$Dinner" "toGo" "[I", Cond.methodLink RX0 110 yX0_isOnItsWay]
def wsL_secondsToGo_r2 : List Cond := [Cond.instanceMethod yX0_isOnItsWay, Cond.selects RX0 yX0_isOnItsWay yX0_isOnItsWay, Cond.code yX0_isOnItsWay cX0_isOnItsWay 2 (some .boolean)]
def wsL_secondsToGo : List Cond := .codeWith yL_secondsToGo cL_secondsToGo 5 (some .int) [(0, 10, 13, 22)] :: ((wsL_secondsToGo_r1 ++ wsL_secondsToGo_r2) ++ wsX10 ++ wsX00 ++ (vx_atS RX1 151 "java/lang/IndexOutOfBoundsException" ["java/lang/RuntimeException", "java/lang/Exception"]).filter goodWord)
def wsL_caughtBy : List Cond := .codeWith yL_caughtBy cL_caughtBy 5 (some .int) [(0, 10, 13, 22)] :: ([.classLink RL 22 "java/lang/IndexOutOfBoundsException", .methodLink RL 57 yX1_caughtBy, .instanceMethod yX1_caughtBy, .selects RX1 yX1_caughtBy yX1_caughtBy, .initialized RX1, .code yX1_caughtBy cX1_caughtBy 3 (some .int), .fieldLink RX1 12 "PauseLedger" "dinner" "LPauseLedger$Dinner;", .fieldLink RX1 100 "PauseLedger$Dinner" "caught" "[I", .methodLink RX1 35 yX1_requireGuest, .instanceMethod yX1_requireGuest, .selects RX1 yX1_requireGuest yX1_requireGuest, .code yX1_requireGuest cX1_requireGuest 2 none, .classLink RX1 147 "java/lang/IndexOutOfBoundsException", .initialized "java/lang/IndexOutOfBoundsException", .fieldLink RX1 58 "PauseLedger$Dinner" "guests" "I", .methodLink RX1 89 yX1_pairOf, .static yX1_pairOf, .code yX1_pairOf cX1_pairOf 2 (some .int)] ++ wsX10 ++ wsX00 ++ (vx_atS RX1 151 "java/lang/IndexOutOfBoundsException" ["java/lang/RuntimeException", "java/lang/Exception"]).filter goodWord)
def wsL_allUnsaidIn_r1 : List Cond := [Cond.classLink RL 13 "java/lang/IllegalArgumentException", Cond.methodLink RL 60 yX1_allUnsaidIn, Cond.instanceMethod yX1_allUnsaidIn, Cond.selects RX1 yX1_allUnsaidIn yX1_allUnsaidIn, Cond.initialized RX1, Cond.code yX1_allUnsaidIn cX1_allUnsaidIn 2 (some .int), Cond.fieldLink RX1 16 "PauseLedger" "trial" "LPauseLedger$Dinner;", Cond.methodLink RX1 19 yX1_requireWithin, Cond.static yX1_requireWithin, Cond.code yX1_requireWithin cX1_requireWithin 3 none, Cond.classLink RX1 154 "java/lang/IllegalArgumentException", Cond.initialized "java/lang/IllegalArgumentException", Cond.methodLink RX1 115 yX1_tryOut, Cond.instanceMethod yX1_tryOut, Cond.selects RX1 yX1_tryOut yX1_tryOut, Cond.code yX1_tryOut cX1_tryOut 2 none, Cond.fieldLink RX1 12 "PauseLedger" "dinner" "LPauseLedger$Dinner;", Cond.methodLink RX1 143 yX0_copyOf, Cond.instanceMethod yX0_copyOf, Cond.selects RX0 yX0_copyOf yX0_copyOf, Cond.initialized RX0, Cond.code yX0_copyOf cX0_copyOf 2 none, Cond.fieldLink RX0 41 "PauseLedger$Dinner" "guests" "I", Cond.fieldLink RX0 44 "PauseLedger$Dinner" "seconds" "I"]
def wsL_allUnsaidIn_r2 : List Cond := [Cond.fieldLink RX0 33 "PauseLedger$Dinner" "limit" "I", Cond.fieldLink RX0 47 "PauseLedger$Dinner" "speaker" "I", Cond.fieldLink RX0 50 "PauseLedger$Dinner" "toSpeak" "I", Cond.fieldLink RX0 53 "PauseLedger$Dinner" "pause" "I", Cond.fieldLink RX0 56 "PauseLedger$Dinner" "unsaidInPauses" "I", Cond.fieldLink RX0 59 "PauseLedger$Dinner" "meetings" "I", Cond.fieldLink RX0 62 "PauseLedger$Dinner" "lost" "I", Cond.fieldLink RX0 65 "PauseLedger$Dinner" "sent" "I", Cond.fieldLink RX0 9 "PauseLedger$Dinner" "spoken" "[I", Cond.methodLink RX0 74 arraycopyName, Cond.native arraycopyName, Cond.static arraycopyName, Cond.initialized "java/lang/System", Cond.fieldLink RX0 15 "PauseLedger$Dinner" "interruptions" "[I", Cond.fieldLink RX0 18 "PauseLedger$Dinner" "coughs" "[I", Cond.fieldLink RX0 21 "PauseLedger$Dinner" "unsaid" "[I", Cond.fieldLink RX0 24 "PauseLedger$Dinner" "toGo" "[I", Cond.fieldLink RX0 27 "PauseLedger$Dinner" "caught" "[I", Cond.fieldLink RX0 30 "PauseLedger$Dinner" "order" "[I", Cond.methodLink RX1 55 yX0_goBy, Cond.instanceMethod yX0_goBy, Cond.selects RX0 yX0_goBy yX0_goBy, Cond.code yX0_goBy cX0_goBy 3 none, Cond.methodLink RX0 90 yX0_goOneSecond]
def wsL_allUnsaidIn_r3 : List Cond := [Cond.instanceMethod yX0_goOneSecond, Cond.selects RX0 yX0_goOneSecond yX0_goOneSecond, Cond.code yX0_goOneSecond cX0_goOneSecond 1 none, Cond.methodLink RX0 93 yX0_speakOrPause, Cond.instanceMethod yX0_speakOrPause, Cond.selects RX0 yX0_speakOrPause yX0_speakOrPause, Cond.code yX0_speakOrPause cX0_speakOrPause 1 none, Cond.methodLink RX0 99 yX0_beyondMultipleOfLimit, Cond.instanceMethod yX0_beyondMultipleOfLimit, Cond.selects RX0 yX0_beyondMultipleOfLimit yX0_beyondMultipleOfLimit, Cond.code yX0_beyondMultipleOfLimit cX0_beyondMultipleOfLimit 2 (some .int), Cond.methodLink RX0 96 yX0_moveGlances, Cond.instanceMethod yX0_moveGlances, Cond.selects RX0 yX0_moveGlances yX0_moveGlances, Cond.code yX0_moveGlances cX0_moveGlances 3 none, Cond.methodLink RX0 103 yX0_arrive, Cond.instanceMethod yX0_arrive, Cond.selects RX0 yX0_arrive yX0_arrive, Cond.code yX0_arrive cX0_arrive 5 none, Cond.static yX1_pairOf, Cond.code yX1_pairOf cX1_pairOf 2 (some .int), Cond.methodLink RX0 110 yX0_isOnItsWay, Cond.instanceMethod yX0_isOnItsWay, Cond.selects RX0 yX0_isOnItsWay yX0_isOnItsWay]
def wsL_allUnsaidIn_r4 : List Cond := [Cond.code yX0_isOnItsWay cX0_isOnItsWay 2 (some .boolean), Cond.methodLink RX0 107 yX0_forgetThoseOver, Cond.instanceMethod yX0_forgetThoseOver, Cond.selects RX0 yX0_forgetThoseOver yX0_forgetThoseOver, Cond.code yX0_forgetThoseOver cX0_forgetThoseOver 4 none, Cond.methodLink RX1 52 yX0_sumUnsaid, Cond.instanceMethod yX0_sumUnsaid, Cond.selects RX0 yX0_sumUnsaid yX0_sumUnsaid, Cond.code yX0_sumUnsaid cX0_sumUnsaid 1 (some .int), Cond.methodLink RX0 128 yX0_sumUnsaidByGuests, Cond.instanceMethod yX0_sumUnsaidByGuests, Cond.selects RX0 yX0_sumUnsaidByGuests yX0_sumUnsaidByGuests, Cond.code yX0_sumUnsaidByGuests cX0_sumUnsaidByGuests 3 (some .int)]
def wsL_allUnsaidIn : List Cond := .codeWith yL_allUnsaidIn cL_allUnsaidIn 4 (some .int) [(0, 9, 12, 13)] :: ((wsL_allUnsaidIn_r1 ++ (wsL_allUnsaidIn_r2 ++ (wsL_allUnsaidIn_r3 ++ wsL_allUnsaidIn_r4))) ++ wsX10 ++ wsX00 ++ (vx_atS RX1 158 "java/lang/IllegalArgumentException" ["java/lang/RuntimeException", "java/lang/Exception"]).filter goodWord)
def wsL_wouldLeave_r1 : List Cond := [Cond.classLink RL 22 "java/lang/IndexOutOfBoundsException", Cond.classLink RL 13 "java/lang/IllegalArgumentException", Cond.classLink RL 30 "java/lang/IllegalStateException", Cond.methodLink RL 63 yX1_wouldLeave, Cond.instanceMethod yX1_wouldLeave, Cond.selects RX1 yX1_wouldLeave yX1_wouldLeave, Cond.initialized RX1, Cond.code yX1_wouldLeave cX1_wouldLeave 3 (some .int), Cond.fieldLink RX1 12 "PauseLedger" "dinner" "LPauseLedger$Dinner;", Cond.methodLink RX1 45 yX1_requireFreeWay, Cond.instanceMethod yX1_requireFreeWay, Cond.selects RX1 yX1_requireFreeWay yX1_requireFreeWay, Cond.code yX1_requireFreeWay cX1_requireFreeWay 3 none, Cond.classLink RX1 154 "java/lang/IllegalArgumentException", Cond.initialized "java/lang/IllegalArgumentException", Cond.classLink RX1 161 "java/lang/IllegalStateException", Cond.initialized "java/lang/IllegalStateException", Cond.methodLink RX1 35 yX1_requireGuest, Cond.instanceMethod yX1_requireGuest, Cond.selects RX1 yX1_requireGuest yX1_requireGuest, Cond.code yX1_requireGuest cX1_requireGuest 2 none, Cond.classLink RX1 147 "java/lang/IndexOutOfBoundsException", Cond.initialized "java/lang/IndexOutOfBoundsException", Cond.fieldLink RX1 58 "PauseLedger$Dinner" "guests" "I"]
def wsL_wouldLeave_r2 : List Cond := [Cond.methodLink RX1 89 yX1_pairOf, Cond.static yX1_pairOf, Cond.code yX1_pairOf cX1_pairOf 2 (some .int), Cond.methodLink RX1 92 yX0_isOnItsWay, Cond.instanceMethod yX0_isOnItsWay, Cond.selects RX0 yX0_isOnItsWay yX0_isOnItsWay, Cond.initialized RX0, Cond.code yX0_isOnItsWay cX0_isOnItsWay 2 (some .boolean), Cond.fieldLink RX0 24 "PauseLedger$Dinner" "toGo" "[I", Cond.methodLink RX1 121 yX0_fateOf, Cond.instanceMethod yX0_fateOf, Cond.selects RX0 yX0_fateOf yX0_fateOf, Cond.code yX0_fateOf cX0_fateOf 5 (some .int), Cond.fieldLink RX0 47 "PauseLedger$Dinner" "speaker" "I", Cond.fieldLink RX0 50 "PauseLedger$Dinner" "toSpeak" "I", Cond.methodLink RX0 125 yX0_timeToGo, Cond.instanceMethod yX0_timeToGo, Cond.selects RX0 yX0_timeToGo yX0_timeToGo, Cond.code yX0_timeToGo cX0_timeToGo 2 (some .int), Cond.methodLink RX0 110 yX0_isOnItsWay, Cond.methodLink RX0 87 yX0_wayOf, Cond.instanceMethod yX0_wayOf, Cond.selects RX0 yX0_wayOf yX0_wayOf, Cond.code yX0_wayOf cX0_wayOf 3 (some .int)]
def wsL_wouldLeave_r3 : List Cond := [Cond.methodLink RX0 122 yX0_seatsBetween, Cond.instanceMethod yX0_seatsBetween, Cond.selects RX0 yX0_seatsBetween yX0_seatsBetween, Cond.code yX0_seatsBetween cX0_seatsBetween 4 (some .int), Cond.methodLink RX0 114 Lib.Math.abs.name, Cond.static Lib.Math.abs.name, Cond.initialized "java/lang/Math", Cond.code Lib.Math.abs.name Lib.Math.abs.code 1 (some .int), Cond.fieldLink RX0 41 "PauseLedger$Dinner" "guests" "I", Cond.methodLink RX0 119 Lib.Math.min.name, Cond.static Lib.Math.min.name, Cond.code Lib.Math.min.name Lib.Math.min.code 2 (some .int)]
def wsL_wouldLeave : List Cond := .codeWith yL_wouldLeave cL_wouldLeave 5 (some .int) [(0, 10, 13, 22), (0, 10, 17, 13), (0, 10, 21, 30)] :: ((wsL_wouldLeave_r1 ++ (wsL_wouldLeave_r2 ++ wsL_wouldLeave_r3)) ++ wsX10 ++ wsX00 ++ (vx_atS RX1 158 "java/lang/IllegalArgumentException" ["java/lang/RuntimeException", "java/lang/Exception"]).filter goodWord ++ (vx_atS RX1 165 "java/lang/IllegalStateException" ["java/lang/RuntimeException", "java/lang/Exception"]).filter goodWord ++ (vx_atS RX1 151 "java/lang/IndexOutOfBoundsException" ["java/lang/RuntimeException", "java/lang/Exception"]).filter goodWord)
def wsL_bestMoment_r1 : List Cond := [Cond.classLink RL 22 "java/lang/IndexOutOfBoundsException", Cond.classLink RL 13 "java/lang/IllegalArgumentException", Cond.classLink RL 30 "java/lang/IllegalStateException", Cond.methodLink RL 66 yX1_bestMoment, Cond.instanceMethod yX1_bestMoment, Cond.selects RX1 yX1_bestMoment yX1_bestMoment, Cond.initialized RX1, Cond.code yX1_bestMoment cX1_bestMoment 4 (some .int), Cond.fieldLink RX1 12 "PauseLedger" "dinner" "LPauseLedger$Dinner;", Cond.methodLink RX1 45 yX1_requireFreeWay, Cond.instanceMethod yX1_requireFreeWay, Cond.selects RX1 yX1_requireFreeWay yX1_requireFreeWay, Cond.code yX1_requireFreeWay cX1_requireFreeWay 3 none, Cond.classLink RX1 154 "java/lang/IllegalArgumentException", Cond.initialized "java/lang/IllegalArgumentException", Cond.classLink RX1 161 "java/lang/IllegalStateException", Cond.initialized "java/lang/IllegalStateException", Cond.methodLink RX1 35 yX1_requireGuest, Cond.instanceMethod yX1_requireGuest, Cond.selects RX1 yX1_requireGuest yX1_requireGuest, Cond.code yX1_requireGuest cX1_requireGuest 2 none, Cond.classLink RX1 147 "java/lang/IndexOutOfBoundsException", Cond.initialized "java/lang/IndexOutOfBoundsException", Cond.fieldLink RX1 58 "PauseLedger$Dinner" "guests" "I"]
def wsL_bestMoment_r2 : List Cond := [Cond.methodLink RX1 89 yX1_pairOf, Cond.static yX1_pairOf, Cond.code yX1_pairOf cX1_pairOf 2 (some .int), Cond.methodLink RX1 92 yX0_isOnItsWay, Cond.instanceMethod yX0_isOnItsWay, Cond.selects RX0 yX0_isOnItsWay yX0_isOnItsWay, Cond.initialized RX0, Cond.code yX0_isOnItsWay cX0_isOnItsWay 2 (some .boolean), Cond.fieldLink RX0 24 "PauseLedger$Dinner" "toGo" "[I", Cond.methodLink RX1 121 yX0_fateOf, Cond.instanceMethod yX0_fateOf, Cond.selects RX0 yX0_fateOf yX0_fateOf, Cond.code yX0_fateOf cX0_fateOf 5 (some .int), Cond.fieldLink RX0 47 "PauseLedger$Dinner" "speaker" "I", Cond.fieldLink RX0 50 "PauseLedger$Dinner" "toSpeak" "I", Cond.methodLink RX0 125 yX0_timeToGo, Cond.instanceMethod yX0_timeToGo, Cond.selects RX0 yX0_timeToGo yX0_timeToGo, Cond.code yX0_timeToGo cX0_timeToGo 2 (some .int), Cond.methodLink RX0 110 yX0_isOnItsWay, Cond.methodLink RX0 87 yX0_wayOf, Cond.instanceMethod yX0_wayOf, Cond.selects RX0 yX0_wayOf yX0_wayOf, Cond.code yX0_wayOf cX0_wayOf 3 (some .int)]
def wsL_bestMoment_r3 : List Cond := [Cond.methodLink RX0 122 yX0_seatsBetween, Cond.instanceMethod yX0_seatsBetween, Cond.selects RX0 yX0_seatsBetween yX0_seatsBetween, Cond.code yX0_seatsBetween cX0_seatsBetween 4 (some .int), Cond.methodLink RX0 114 Lib.Math.abs.name, Cond.static Lib.Math.abs.name, Cond.initialized "java/lang/Math", Cond.code Lib.Math.abs.name Lib.Math.abs.code 1 (some .int), Cond.fieldLink RX0 41 "PauseLedger$Dinner" "guests" "I", Cond.methodLink RX0 119 Lib.Math.min.name, Cond.static Lib.Math.min.name, Cond.code Lib.Math.min.name Lib.Math.min.code 2 (some .int)]
def wsL_bestMoment : List Cond := .codeWith yL_bestMoment cL_bestMoment 5 (some .int) [(0, 10, 13, 22), (0, 10, 17, 13), (0, 10, 21, 30)] :: ((wsL_bestMoment_r1 ++ (wsL_bestMoment_r2 ++ wsL_bestMoment_r3)) ++ wsX10 ++ wsX00 ++ (vx_atS RX1 158 "java/lang/IllegalArgumentException" ["java/lang/RuntimeException", "java/lang/Exception"]).filter goodWord ++ (vx_atS RX1 165 "java/lang/IllegalStateException" ["java/lang/RuntimeException", "java/lang/Exception"]).filter goodWord ++ (vx_atS RX1 151 "java/lang/IndexOutOfBoundsException" ["java/lang/RuntimeException", "java/lang/Exception"]).filter goodWord)
def wsL_ratingIn_r1 : List Cond := [Cond.classLink RL 13 "java/lang/IllegalArgumentException", Cond.methodLink RL 69 yX1_ratingIn, Cond.instanceMethod yX1_ratingIn, Cond.selects RX1 yX1_ratingIn yX1_ratingIn, Cond.initialized RX1, Cond.code yX1_ratingIn cX1_ratingIn 2 (some .int), Cond.fieldLink RX1 16 "PauseLedger" "trial" "LPauseLedger$Dinner;", Cond.methodLink RX1 19 yX1_requireWithin, Cond.static yX1_requireWithin, Cond.code yX1_requireWithin cX1_requireWithin 3 none, Cond.classLink RX1 154 "java/lang/IllegalArgumentException", Cond.initialized "java/lang/IllegalArgumentException", Cond.methodLink RX1 115 yX1_tryOut, Cond.instanceMethod yX1_tryOut, Cond.selects RX1 yX1_tryOut yX1_tryOut, Cond.code yX1_tryOut cX1_tryOut 2 none, Cond.fieldLink RX1 12 "PauseLedger" "dinner" "LPauseLedger$Dinner;", Cond.methodLink RX1 143 yX0_copyOf, Cond.instanceMethod yX0_copyOf, Cond.selects RX0 yX0_copyOf yX0_copyOf, Cond.initialized RX0, Cond.code yX0_copyOf cX0_copyOf 2 none, Cond.fieldLink RX0 41 "PauseLedger$Dinner" "guests" "I", Cond.fieldLink RX0 44 "PauseLedger$Dinner" "seconds" "I"]
def wsL_ratingIn_r2 : List Cond := [Cond.fieldLink RX0 33 "PauseLedger$Dinner" "limit" "I", Cond.fieldLink RX0 47 "PauseLedger$Dinner" "speaker" "I", Cond.fieldLink RX0 50 "PauseLedger$Dinner" "toSpeak" "I", Cond.fieldLink RX0 53 "PauseLedger$Dinner" "pause" "I", Cond.fieldLink RX0 56 "PauseLedger$Dinner" "unsaidInPauses" "I", Cond.fieldLink RX0 59 "PauseLedger$Dinner" "meetings" "I", Cond.fieldLink RX0 62 "PauseLedger$Dinner" "lost" "I", Cond.fieldLink RX0 65 "PauseLedger$Dinner" "sent" "I", Cond.fieldLink RX0 9 "PauseLedger$Dinner" "spoken" "[I", Cond.methodLink RX0 74 arraycopyName, Cond.native arraycopyName, Cond.static arraycopyName, Cond.initialized "java/lang/System", Cond.fieldLink RX0 15 "PauseLedger$Dinner" "interruptions" "[I", Cond.fieldLink RX0 18 "PauseLedger$Dinner" "coughs" "[I", Cond.fieldLink RX0 21 "PauseLedger$Dinner" "unsaid" "[I", Cond.fieldLink RX0 24 "PauseLedger$Dinner" "toGo" "[I", Cond.fieldLink RX0 27 "PauseLedger$Dinner" "caught" "[I", Cond.fieldLink RX0 30 "PauseLedger$Dinner" "order" "[I", Cond.methodLink RX1 55 yX0_goBy, Cond.instanceMethod yX0_goBy, Cond.selects RX0 yX0_goBy yX0_goBy, Cond.code yX0_goBy cX0_goBy 3 none, Cond.methodLink RX0 90 yX0_goOneSecond]
def wsL_ratingIn_r3 : List Cond := [Cond.instanceMethod yX0_goOneSecond, Cond.selects RX0 yX0_goOneSecond yX0_goOneSecond, Cond.code yX0_goOneSecond cX0_goOneSecond 1 none, Cond.methodLink RX0 93 yX0_speakOrPause, Cond.instanceMethod yX0_speakOrPause, Cond.selects RX0 yX0_speakOrPause yX0_speakOrPause, Cond.code yX0_speakOrPause cX0_speakOrPause 1 none, Cond.methodLink RX0 99 yX0_beyondMultipleOfLimit, Cond.instanceMethod yX0_beyondMultipleOfLimit, Cond.selects RX0 yX0_beyondMultipleOfLimit yX0_beyondMultipleOfLimit, Cond.code yX0_beyondMultipleOfLimit cX0_beyondMultipleOfLimit 2 (some .int), Cond.methodLink RX0 96 yX0_moveGlances, Cond.instanceMethod yX0_moveGlances, Cond.selects RX0 yX0_moveGlances yX0_moveGlances, Cond.code yX0_moveGlances cX0_moveGlances 3 none, Cond.methodLink RX0 103 yX0_arrive, Cond.instanceMethod yX0_arrive, Cond.selects RX0 yX0_arrive yX0_arrive, Cond.code yX0_arrive cX0_arrive 5 none, Cond.static yX1_pairOf, Cond.code yX1_pairOf cX1_pairOf 2 (some .int), Cond.methodLink RX0 110 yX0_isOnItsWay, Cond.instanceMethod yX0_isOnItsWay, Cond.selects RX0 yX0_isOnItsWay yX0_isOnItsWay]
def wsL_ratingIn_r4 : List Cond := [Cond.code yX0_isOnItsWay cX0_isOnItsWay 2 (some .boolean), Cond.methodLink RX0 107 yX0_forgetThoseOver, Cond.instanceMethod yX0_forgetThoseOver, Cond.selects RX0 yX0_forgetThoseOver yX0_forgetThoseOver, Cond.code yX0_forgetThoseOver cX0_forgetThoseOver 4 none, Cond.methodLink RX1 23 yX0_rate, Cond.instanceMethod yX0_rate, Cond.selects RX0 yX0_rate yX0_rate, Cond.code yX0_rate cX0_rate 2 (some .int), Cond.methodLink RX0 114 Lib.Math.abs.name, Cond.static Lib.Math.abs.name, Cond.initialized "java/lang/Math", Cond.code Lib.Math.abs.name Lib.Math.abs.code 1 (some .int), Cond.methodLink RX0 135 Lib.Math.max.name, Cond.static Lib.Math.max.name, Cond.code Lib.Math.max.name Lib.Math.max.code 2 (some .int), Cond.methodLink RX0 132 yX0_sumUnsaid, Cond.instanceMethod yX0_sumUnsaid, Cond.selects RX0 yX0_sumUnsaid yX0_sumUnsaid, Cond.code yX0_sumUnsaid cX0_sumUnsaid 1 (some .int), Cond.methodLink RX0 128 yX0_sumUnsaidByGuests, Cond.instanceMethod yX0_sumUnsaidByGuests, Cond.selects RX0 yX0_sumUnsaidByGuests yX0_sumUnsaidByGuests, Cond.code yX0_sumUnsaidByGuests cX0_sumUnsaidByGuests 3 (some .int)]
def wsL_ratingIn : List Cond := .codeWith yL_ratingIn cL_ratingIn 4 (some .int) [(0, 9, 12, 13)] :: ((wsL_ratingIn_r1 ++ (wsL_ratingIn_r2 ++ (wsL_ratingIn_r3 ++ wsL_ratingIn_r4))) ++ wsX10 ++ wsX00 ++ (vx_atS RX1 158 "java/lang/IllegalArgumentException" ["java/lang/RuntimeException", "java/lang/Exception"]).filter goodWord)
def wsL_law0_r1 : List Cond := [Cond.classLink RL 8 RX1, Cond.instantiable RX1 2, Cond.initialized RX1, Cond.classLink RL 73 RX2, Cond.instantiable RX2 7, Cond.initialized RX2, Cond.arrayClass .long, Cond.methodLink RL 72 yX1_init, Cond.instanceMethod yX1_init, Cond.code yX1_init cX1_init 1 none, Cond.methodLink RX1 3 objectInit, Cond.instanceMethod objectInit, Cond.code objectInit ⟨#[0xb1]⟩ 1 none, Cond.classLink RX1 9 RX0, Cond.instantiable RX0 17, Cond.initialized RX0, Cond.fieldLink RX1 12 "PauseLedger" "dinner" "LPauseLedger$Dinner;", Cond.fieldLink RX1 16 "PauseLedger" "trial" "LPauseLedger$Dinner;", Cond.methodLink RX1 11 yX0_init, Cond.instanceMethod yX0_init, Cond.code yX0_init cX0_init 1 none, Cond.methodLink RX0 3 objectInit, Cond.arrayClass .int, Cond.fieldLink RX0 9 "PauseLedger$Dinner" "spoken" "[I"]
def wsL_law0_r2 : List Cond := [Cond.fieldLink RX0 15 "PauseLedger$Dinner" "interruptions" "[I", Cond.fieldLink RX0 18 "PauseLedger$Dinner" "coughs" "[I", Cond.fieldLink RX0 21 "PauseLedger$Dinner" "unsaid" "[I", Cond.fieldLink RX0 24 "PauseLedger$Dinner" "toGo" "[I", Cond.fieldLink RX0 27 "PauseLedger$Dinner" "caught" "[I", Cond.fieldLink RX0 30 "PauseLedger$Dinner" "order" "[I", Cond.fieldLink RX0 33 "PauseLedger$Dinner" "limit" "I", Cond.methodLink RX0 37 yX0_begin, Cond.instanceMethod yX0_begin, Cond.selects RX0 yX0_begin yX0_begin, Cond.code yX0_begin cX0_begin 2 none, Cond.fieldLink RX0 41 "PauseLedger$Dinner" "guests" "I", Cond.fieldLink RX0 44 "PauseLedger$Dinner" "seconds" "I", Cond.fieldLink RX0 47 "PauseLedger$Dinner" "speaker" "I", Cond.fieldLink RX0 50 "PauseLedger$Dinner" "toSpeak" "I", Cond.fieldLink RX0 53 "PauseLedger$Dinner" "pause" "I", Cond.fieldLink RX0 56 "PauseLedger$Dinner" "unsaidInPauses" "I", Cond.fieldLink RX0 59 "PauseLedger$Dinner" "meetings" "I", Cond.fieldLink RX0 62 "PauseLedger$Dinner" "lost" "I", Cond.fieldLink RX0 65 "PauseLedger$Dinner" "sent" "I", Cond.methodLink RX0 68 yJ7_fill_53178, Cond.static yJ7_fill_53178, Cond.initialized RJ7, Cond.code yJ7_fill_53178 cJ7_fill_53178 4 none]
def wsL_law0_r3 : List Cond := [Cond.methodLink RL 75 yX2_init, Cond.instanceMethod yX2_init, Cond.code yX2_init cX2_init 1 none, Cond.methodLink RX2 1 objectInit, Cond.fieldLink RX2 7 "PauseLedgerModel" "guests" "I", Cond.fieldLink RX2 13 "PauseLedgerModel" "limit" "I", Cond.fieldLink RX2 16 "PauseLedgerModel" "now" "[I", Cond.fieldLink RX2 20 "PauseLedgerModel" "kept" "[I", Cond.fieldLink RX2 23 "PauseLedgerModel" "mark" "I", Cond.methodLink RL 76 yL_newDinner, Cond.static yL_newDinner, Cond.initialized RL, Cond.codeWith yL_newDinner cL_newDinner 4 (some .int) [(0, 9, 12, 13)], Cond.classLink RL 13 "java/lang/IllegalArgumentException", Cond.methodLink RL 7 yX1_newDinner, Cond.instanceMethod yX1_newDinner, Cond.selects RX1 yX1_newDinner yX1_newDinner, Cond.code yX1_newDinner cX1_newDinner 3 (some .int), Cond.methodLink RX1 19 yX1_requireWithin, Cond.static yX1_requireWithin, Cond.code yX1_requireWithin cX1_requireWithin 3 none, Cond.classLink RX1 154 "java/lang/IllegalArgumentException", Cond.initialized "java/lang/IllegalArgumentException", Cond.methodLink RX1 23 yX0_rate]
def wsL_law0_r4 : List Cond := [Cond.instanceMethod yX0_rate, Cond.selects RX0 yX0_rate yX0_rate, Cond.code yX0_rate cX0_rate 2 (some .int), Cond.methodLink RX0 114 Lib.Math.abs.name, Cond.static Lib.Math.abs.name, Cond.initialized "java/lang/Math", Cond.code Lib.Math.abs.name Lib.Math.abs.code 1 (some .int), Cond.methodLink RX0 135 Lib.Math.max.name, Cond.static Lib.Math.max.name, Cond.code Lib.Math.max.name Lib.Math.max.code 2 (some .int), Cond.methodLink RX0 132 yX0_sumUnsaid, Cond.instanceMethod yX0_sumUnsaid, Cond.selects RX0 yX0_sumUnsaid yX0_sumUnsaid, Cond.code yX0_sumUnsaid cX0_sumUnsaid 1 (some .int), Cond.methodLink RX0 128 yX0_sumUnsaidByGuests, Cond.instanceMethod yX0_sumUnsaidByGuests, Cond.selects RX0 yX0_sumUnsaidByGuests yX0_sumUnsaidByGuests, Cond.code yX0_sumUnsaidByGuests cX0_sumUnsaidByGuests 3 (some .int), Cond.methodLink RX1 27 yX0_begin, Cond.methodLink RL 81 yX2_newDinner, Cond.instanceMethod yX2_newDinner, Cond.selects RX2 yX2_newDinner yX2_newDinner, Cond.code yX2_newDinner cX2_newDinner 4 (some .int), Cond.fieldLink RX2 26 "PauseLedgerModel" "thrown" "I"]
def wsL_law0_r5 : List Cond := [Cond.methodLink RX2 29 yX2_isIn, Cond.static yX2_isIn, Cond.code yX2_isIn cX2_isIn 3 (some .boolean), Cond.methodLink RX2 75 yX2_fail, Cond.instanceMethod yX2_fail, Cond.selects RX2 yX2_fail yX2_fail, Cond.code yX2_fail cX2_fail 2 (some .int), Cond.methodLink RX2 78 yX2_rated, Cond.instanceMethod yX2_rated, Cond.selects RX2 yX2_rated yX2_rated, Cond.code yX2_rated cX2_rated 1 (some .int), Cond.methodLink RX2 39 Lib.Math.abs.name, Cond.methodLink RX2 53 Lib.Math.max.name, Cond.methodLink RX2 49 yX2_unsaid, Cond.instanceMethod yX2_unsaid, Cond.selects RX2 yX2_unsaid yX2_unsaid, Cond.code yX2_unsaid cX2_unsaid 3 (some .int), Cond.methodLink RL 82 yX2_thrown, Cond.instanceMethod yX2_thrown, Cond.selects RX2 yX2_thrown yX2_thrown, Cond.code yX2_thrown cX2_thrown 1 (some .int), Cond.methodLink RL 86 yL_setLimit, Cond.static yL_setLimit, Cond.codeWith yL_setLimit cL_setLimit 4 (some .int) [(0, 9, 12, 13)]]
def wsL_law0_r6 : List Cond := [Cond.methodLink RL 15 yX1_setLimit, Cond.instanceMethod yX1_setLimit, Cond.selects RX1 yX1_setLimit yX1_setLimit, Cond.code yX1_setLimit cX1_setLimit 3 (some .int), Cond.fieldLink RX1 31 "PauseLedger$Dinner" "limit" "I", Cond.methodLink RL 88 yX2_setLimit, Cond.instanceMethod yX2_setLimit, Cond.selects RX2 yX2_setLimit yX2_setLimit, Cond.code yX2_setLimit cX2_setLimit 3 (some .int), Cond.methodLink RL 89 yL_speak, Cond.static yL_speak, Cond.codeWith yL_speak cL_speak 5 (some .int) [(0, 10, 13, 22), (0, 10, 17, 13)], Cond.classLink RL 22 "java/lang/IndexOutOfBoundsException", Cond.methodLink RL 18 yX1_speak, Cond.instanceMethod yX1_speak, Cond.selects RX1 yX1_speak yX1_speak, Cond.code yX1_speak cX1_speak 3 (some .int), Cond.methodLink RX1 35 yX1_requireGuest, Cond.instanceMethod yX1_requireGuest, Cond.selects RX1 yX1_requireGuest yX1_requireGuest, Cond.code yX1_requireGuest cX1_requireGuest 2 none, Cond.classLink RX1 147 "java/lang/IndexOutOfBoundsException", Cond.initialized "java/lang/IndexOutOfBoundsException", Cond.fieldLink RX1 58 "PauseLedger$Dinner" "guests" "I"]
def wsL_law0_r7 : List Cond := [Cond.methodLink RX1 38 yX0_letSpeak, Cond.instanceMethod yX0_letSpeak, Cond.selects RX0 yX0_letSpeak yX0_letSpeak, Cond.code yX0_letSpeak cX0_letSpeak 4 (some .int), Cond.methodLink RL 92 yX2_speak, Cond.instanceMethod yX2_speak, Cond.selects RX2 yX2_speak yX2_speak, Cond.code yX2_speak cX2_speak 4 (some .int), Cond.methodLink RX2 81 yX2_isGuest, Cond.instanceMethod yX2_isGuest, Cond.selects RX2 yX2_isGuest yX2_isGuest, Cond.code yX2_isGuest cX2_isGuest 2 (some .boolean), Cond.methodLink RL 93 yL_cough, Cond.static yL_cough, Cond.codeWith yL_cough cL_cough 5 (some .int) [(0, 10, 13, 22), (0, 10, 17, 13)], Cond.methodLink RL 24 yX1_cough, Cond.instanceMethod yX1_cough, Cond.selects RX1 yX1_cough yX1_cough, Cond.code yX1_cough cX1_cough 3 (some .int), Cond.methodLink RX1 42 yX0_letCough, Cond.instanceMethod yX0_letCough, Cond.selects RX0 yX0_letCough yX0_letCough, Cond.code yX0_letCough cX0_letCough 4 (some .int), Cond.methodLink RX0 80 yX0_unsaidByCough]
def wsL_law0_r8 : List Cond := [Cond.instanceMethod yX0_unsaidByCough, Cond.selects RX0 yX0_unsaidByCough yX0_unsaidByCough, Cond.code yX0_unsaidByCough cX0_unsaidByCough 3 (some .int), Cond.methodLink RL 95 yX2_cough, Cond.instanceMethod yX2_cough, Cond.selects RX2 yX2_cough yX2_cough, Cond.code yX2_cough cX2_cough 4 (some .int), Cond.methodLink RL 96 yL_glance, Cond.static yL_glance, Cond.codeWith yL_glance cL_glance 5 (some .int) [(0, 10, 13, 22), (0, 10, 17, 13), (0, 10, 21, 30)], Cond.classLink RL 30 "java/lang/IllegalStateException", Cond.methodLink RL 27 yX1_glance, Cond.instanceMethod yX1_glance, Cond.selects RX1 yX1_glance yX1_glance, Cond.code yX1_glance cX1_glance 3 (some .int), Cond.methodLink RX1 45 yX1_requireFreeWay, Cond.instanceMethod yX1_requireFreeWay, Cond.selects RX1 yX1_requireFreeWay yX1_requireFreeWay, Cond.code yX1_requireFreeWay cX1_requireFreeWay 3 none, Cond.classLink RX1 161 "java/lang/IllegalStateException", Cond.initialized "java/lang/IllegalStateException", Cond.methodLink RX1 89 yX1_pairOf, Cond.static yX1_pairOf, Cond.code yX1_pairOf cX1_pairOf 2 (some .int)]
def wsL_law0_r9 : List Cond := [Cond.methodLink RX1 92 yX0_isOnItsWay, Cond.instanceMethod yX0_isOnItsWay, Cond.selects RX0 yX0_isOnItsWay yX0_isOnItsWay, Cond.code yX0_isOnItsWay cX0_isOnItsWay 2 (some .boolean), Cond.methodLink RX1 49 yX0_send, Cond.instanceMethod yX0_send, Cond.selects RX0 yX0_send yX0_send, Cond.code yX0_send cX0_send 4 (some .int), Cond.methodLink RX0 87 yX0_wayOf, Cond.instanceMethod yX0_wayOf, Cond.selects RX0 yX0_wayOf yX0_wayOf, Cond.code yX0_wayOf cX0_wayOf 3 (some .int), Cond.methodLink RX0 122 yX0_seatsBetween, Cond.instanceMethod yX0_seatsBetween, Cond.selects RX0 yX0_seatsBetween yX0_seatsBetween, Cond.code yX0_seatsBetween cX0_seatsBetween 4 (some .int), Cond.methodLink RX0 119 Lib.Math.min.name, Cond.static Lib.Math.min.name, Cond.code Lib.Math.min.name Lib.Math.min.code 2 (some .int), Cond.methodLink RL 98 yX2_glance, Cond.instanceMethod yX2_glance, Cond.selects RX2 yX2_glance yX2_glance, Cond.code yX2_glance cX2_glance 3 (some .int), Cond.methodLink RX2 88 yX2_canSend]
def wsL_law0_r10 : List Cond := [Cond.instanceMethod yX2_canSend, Cond.selects RX2 yX2_canSend yX2_canSend, Cond.code yX2_canSend cX2_canSend 3 (some .boolean), Cond.methodLink RX2 56 yX2_pair, Cond.static yX2_pair, Cond.code yX2_pair cX2_pair 2 (some .int), Cond.methodLink RX2 92 yX2_send, Cond.instanceMethod yX2_send, Cond.selects RX2 yX2_send yX2_send, Cond.code yX2_send cX2_send 3 (some .int), Cond.methodLink RX2 85 yX2_apart, Cond.instanceMethod yX2_apart, Cond.selects RX2 yX2_apart yX2_apart, Cond.code yX2_apart cX2_apart 4 (some .int), Cond.methodLink RX2 45 Lib.Math.min.name, Cond.methodLink RL 99 yL_pass, Cond.static yL_pass, Cond.codeWith yL_pass cL_pass 4 (some .int) [(0, 9, 12, 13)], Cond.methodLink RL 32 yX1_pass, Cond.instanceMethod yX1_pass, Cond.selects RX1 yX1_pass yX1_pass, Cond.code yX1_pass cX1_pass 3 (some .int), Cond.methodLink RX1 52 yX0_sumUnsaid, Cond.methodLink RX1 55 yX0_goBy]
def wsL_law0_r11 : List Cond := [Cond.instanceMethod yX0_goBy, Cond.selects RX0 yX0_goBy yX0_goBy, Cond.code yX0_goBy cX0_goBy 3 none, Cond.methodLink RX0 90 yX0_goOneSecond, Cond.instanceMethod yX0_goOneSecond, Cond.selects RX0 yX0_goOneSecond yX0_goOneSecond, Cond.code yX0_goOneSecond cX0_goOneSecond 1 none, Cond.methodLink RX0 93 yX0_speakOrPause, Cond.instanceMethod yX0_speakOrPause, Cond.selects RX0 yX0_speakOrPause yX0_speakOrPause, Cond.code yX0_speakOrPause cX0_speakOrPause 1 none, Cond.methodLink RX0 99 yX0_beyondMultipleOfLimit, Cond.instanceMethod yX0_beyondMultipleOfLimit, Cond.selects RX0 yX0_beyondMultipleOfLimit yX0_beyondMultipleOfLimit, Cond.code yX0_beyondMultipleOfLimit cX0_beyondMultipleOfLimit 2 (some .int), Cond.methodLink RX0 96 yX0_moveGlances, Cond.instanceMethod yX0_moveGlances, Cond.selects RX0 yX0_moveGlances yX0_moveGlances, Cond.code yX0_moveGlances cX0_moveGlances 3 none, Cond.methodLink RX0 103 yX0_arrive, Cond.instanceMethod yX0_arrive, Cond.selects RX0 yX0_arrive yX0_arrive, Cond.code yX0_arrive cX0_arrive 5 none, Cond.methodLink RX0 110 yX0_isOnItsWay]
def wsL_law0_r12 : List Cond := [Cond.methodLink RX0 107 yX0_forgetThoseOver, Cond.instanceMethod yX0_forgetThoseOver, Cond.selects RX0 yX0_forgetThoseOver yX0_forgetThoseOver, Cond.code yX0_forgetThoseOver cX0_forgetThoseOver 4 none, Cond.methodLink RL 101 yX2_pass, Cond.instanceMethod yX2_pass, Cond.selects RX2 yX2_pass yX2_pass, Cond.code yX2_pass cX2_pass 3 (some .int), Cond.methodLink RX2 95 yX2_secondsOn, Cond.instanceMethod yX2_secondsOn, Cond.selects RX2 yX2_secondsOn yX2_secondsOn, Cond.code yX2_secondsOn cX2_secondsOn 3 none, Cond.methodLink RX2 72 yX2_secondOn, Cond.instanceMethod yX2_secondOn, Cond.selects RX2 yX2_secondOn yX2_secondOn, Cond.code yX2_secondOn cX2_secondOn 1 none, Cond.methodLink RX2 66 yX2_talk, Cond.instanceMethod yX2_talk, Cond.selects RX2 yX2_talk yX2_talk, Cond.code yX2_talk cX2_talk 2 none, Cond.methodLink RX2 69 yX2_fly, Cond.instanceMethod yX2_fly, Cond.selects RX2 yX2_fly yX2_fly, Cond.code yX2_fly cX2_fly 3 none]
def wsL_law0_r13 : List Cond := [Cond.methodLink RX2 62 yX2_arrives, Cond.instanceMethod yX2_arrives, Cond.selects RX2 yX2_arrives yX2_arrives, Cond.code yX2_arrives cX2_arrives 5 none, Cond.fieldLink RX2 59 "PauseLedgerModel" "end" "I", Cond.methodLink RL 102 yX1_guests, Cond.instanceMethod yX1_guests, Cond.selects RX1 yX1_guests yX1_guests, Cond.code yX1_guests cX1_guests 1 (some .int), Cond.methodLink RL 105 yX2_guests, Cond.instanceMethod yX2_guests, Cond.selects RX2 yX2_guests yX2_guests, Cond.code yX2_guests cX2_guests 1 (some .int), Cond.methodLink RX2 99 yX2_told, Cond.instanceMethod yX2_told, Cond.selects RX2 yX2_told yX2_told, Cond.code yX2_told cX2_told 2 (some .int), Cond.methodLink RL 106 yX1_seconds, Cond.instanceMethod yX1_seconds, Cond.selects RX1 yX1_seconds yX1_seconds, Cond.code yX1_seconds cX1_seconds 1 (some .int), Cond.fieldLink RX1 61 "PauseLedger$Dinner" "seconds" "I", Cond.methodLink RL 109 yX2_seconds, Cond.instanceMethod yX2_seconds]
def wsL_law0_r14 : List Cond := [Cond.selects RX2 yX2_seconds yX2_seconds, Cond.code yX2_seconds cX2_seconds 1 (some .int), Cond.methodLink RL 110 yX1_limit, Cond.instanceMethod yX1_limit, Cond.selects RX1 yX1_limit yX1_limit, Cond.code yX1_limit cX1_limit 1 (some .int), Cond.methodLink RL 113 yX2_limit, Cond.instanceMethod yX2_limit, Cond.selects RX2 yX2_limit yX2_limit, Cond.code yX2_limit cX2_limit 1 (some .int), Cond.methodLink RL 114 yL_seatsApart, Cond.static yL_seatsApart, Cond.codeWith yL_seatsApart cL_seatsApart 5 (some .int) [(0, 10, 13, 22)], Cond.methodLink RL 35 yX1_seatsApart, Cond.instanceMethod yX1_seatsApart, Cond.selects RX1 yX1_seatsApart yX1_seatsApart, Cond.code yX1_seatsApart cX1_seatsApart 3 (some .int), Cond.methodLink RX1 64 yX0_seatsBetween, Cond.methodLink RL 116 yX2_seatsApart, Cond.instanceMethod yX2_seatsApart, Cond.selects RX2 yX2_seatsApart yX2_seatsApart, Cond.code yX2_seatsApart cX2_seatsApart 3 (some .int), Cond.methodLink RL 117 yX1_speaker, Cond.instanceMethod yX1_speaker]
def wsL_law0_r15 : List Cond := [Cond.selects RX1 yX1_speaker yX1_speaker, Cond.code yX1_speaker cX1_speaker 1 (some .int), Cond.fieldLink RX1 67 "PauseLedger$Dinner" "speaker" "I", Cond.methodLink RL 120 yX2_speaker, Cond.instanceMethod yX2_speaker, Cond.selects RX2 yX2_speaker yX2_speaker, Cond.code yX2_speaker cX2_speaker 1 (some .int), Cond.methodLink RL 121 yX1_secondsToSpeak, Cond.instanceMethod yX1_secondsToSpeak, Cond.selects RX1 yX1_secondsToSpeak yX1_secondsToSpeak, Cond.code yX1_secondsToSpeak cX1_secondsToSpeak 1 (some .int), Cond.fieldLink RX1 70 "PauseLedger$Dinner" "toSpeak" "I", Cond.methodLink RL 124 yX2_secondsToSpeak, Cond.instanceMethod yX2_secondsToSpeak, Cond.selects RX2 yX2_secondsToSpeak yX2_secondsToSpeak, Cond.code yX2_secondsToSpeak cX2_secondsToSpeak 1 (some .int), Cond.methodLink RX2 102 yX2_left, Cond.instanceMethod yX2_left, Cond.selects RX2 yX2_left yX2_left, Cond.code yX2_left cX2_left 1 (some .int), Cond.methodLink RL 125 yX1_pause, Cond.instanceMethod yX1_pause, Cond.selects RX1 yX1_pause yX1_pause, Cond.code yX1_pause cX1_pause 1 (some .int)]
def wsL_law0_r16 : List Cond := [Cond.fieldLink RX1 73 "PauseLedger$Dinner" "pause" "I", Cond.methodLink RL 128 yX2_pause, Cond.instanceMethod yX2_pause, Cond.selects RX2 yX2_pause yX2_pause, Cond.code yX2_pause cX2_pause 1 (some .int), Cond.methodLink RL 129 yL_spokenBy, Cond.static yL_spokenBy, Cond.codeWith yL_spokenBy cL_spokenBy 4 (some .int) [(0, 9, 12, 22)], Cond.methodLink RL 38 yX1_spokenBy, Cond.instanceMethod yX1_spokenBy, Cond.selects RX1 yX1_spokenBy yX1_spokenBy, Cond.code yX1_spokenBy cX1_spokenBy 2 (some .int), Cond.fieldLink RX1 76 "PauseLedger$Dinner" "spoken" "[I", Cond.methodLink RL 131 yX2_spokenBy, Cond.instanceMethod yX2_spokenBy, Cond.selects RX2 yX2_spokenBy yX2_spokenBy, Cond.code yX2_spokenBy cX2_spokenBy 2 (some .int), Cond.methodLink RX2 105 yX2_guest, Cond.instanceMethod yX2_guest, Cond.selects RX2 yX2_guest yX2_guest, Cond.code yX2_guest cX2_guest 3 (some .int), Cond.methodLink RL 132 yL_interruptionsBy, Cond.static yL_interruptionsBy, Cond.codeWith yL_interruptionsBy cL_interruptionsBy 4 (some .int) [(0, 9, 12, 22)]]
def wsL_law0_r17 : List Cond := [Cond.methodLink RL 41 yX1_interruptionsBy, Cond.instanceMethod yX1_interruptionsBy, Cond.selects RX1 yX1_interruptionsBy yX1_interruptionsBy, Cond.code yX1_interruptionsBy cX1_interruptionsBy 2 (some .int), Cond.fieldLink RX1 80 "PauseLedger$Dinner" "interruptions" "[I", Cond.methodLink RL 134 yX2_interruptionsBy, Cond.instanceMethod yX2_interruptionsBy, Cond.selects RX2 yX2_interruptionsBy yX2_interruptionsBy, Cond.code yX2_interruptionsBy cX2_interruptionsBy 2 (some .int), Cond.methodLink RL 135 yL_coughsOf, Cond.static yL_coughsOf, Cond.codeWith yL_coughsOf cL_coughsOf 4 (some .int) [(0, 9, 12, 22)], Cond.methodLink RL 44 yX1_coughsOf, Cond.instanceMethod yX1_coughsOf, Cond.selects RX1 yX1_coughsOf yX1_coughsOf, Cond.code yX1_coughsOf cX1_coughsOf 2 (some .int), Cond.fieldLink RX1 83 "PauseLedger$Dinner" "coughs" "[I", Cond.methodLink RL 137 yX2_coughsOf, Cond.instanceMethod yX2_coughsOf, Cond.selects RX2 yX2_coughsOf yX2_coughsOf, Cond.code yX2_coughsOf cX2_coughsOf 2 (some .int), Cond.methodLink RL 138 yL_unsaidBy, Cond.static yL_unsaidBy, Cond.codeWith yL_unsaidBy cL_unsaidBy 4 (some .int) [(0, 9, 12, 22)]]
def wsL_law0_r18 : List Cond := [Cond.methodLink RL 47 yX1_unsaidBy, Cond.instanceMethod yX1_unsaidBy, Cond.selects RX1 yX1_unsaidBy yX1_unsaidBy, Cond.code yX1_unsaidBy cX1_unsaidBy 2 (some .int), Cond.fieldLink RX1 86 "PauseLedger$Dinner" "unsaid" "[I", Cond.methodLink RL 140 yX2_unsaidBy, Cond.instanceMethod yX2_unsaidBy, Cond.selects RX2 yX2_unsaidBy yX2_unsaidBy, Cond.code yX2_unsaidBy cX2_unsaidBy 2 (some .int), Cond.methodLink RL 141 yL_isUnderWay, Cond.static yL_isUnderWay, Cond.codeWith yL_isUnderWay cL_isUnderWay 5 (some .int) [(0, 17, 20, 22)], Cond.methodLink RL 50 yX1_isUnderWay, Cond.instanceMethod yX1_isUnderWay, Cond.selects RX1 yX1_isUnderWay yX1_isUnderWay, Cond.code yX1_isUnderWay cX1_isUnderWay 3 (some .boolean), Cond.methodLink RL 143 yX2_isUnderWay, Cond.instanceMethod yX2_isUnderWay, Cond.selects RX2 yX2_isUnderWay yX2_isUnderWay, Cond.code yX2_isUnderWay cX2_isUnderWay 3 (some .boolean), Cond.methodLink RX2 108 yX2_flight, Cond.instanceMethod yX2_flight, Cond.selects RX2 yX2_flight yX2_flight, Cond.code yX2_flight cX2_flight 4 (some .int)]
def wsL_law0_r19 : List Cond := [Cond.methodLink RL 144 yL_secondsToGo, Cond.static yL_secondsToGo, Cond.codeWith yL_secondsToGo cL_secondsToGo 5 (some .int) [(0, 10, 13, 22)], Cond.methodLink RL 54 yX1_secondsToGo, Cond.instanceMethod yX1_secondsToGo, Cond.selects RX1 yX1_secondsToGo yX1_secondsToGo, Cond.code yX1_secondsToGo cX1_secondsToGo 3 (some .int), Cond.methodLink RX1 96 yX0_timeToGo, Cond.instanceMethod yX0_timeToGo, Cond.selects RX0 yX0_timeToGo yX0_timeToGo, Cond.code yX0_timeToGo cX0_timeToGo 2 (some .int), Cond.methodLink RL 146 yX2_secondsToGo, Cond.instanceMethod yX2_secondsToGo, Cond.selects RX2 yX2_secondsToGo yX2_secondsToGo, Cond.code yX2_secondsToGo cX2_secondsToGo 3 (some .int), Cond.methodLink RL 147 yL_caughtBy, Cond.static yL_caughtBy, Cond.codeWith yL_caughtBy cL_caughtBy 5 (some .int) [(0, 10, 13, 22)], Cond.methodLink RL 57 yX1_caughtBy, Cond.instanceMethod yX1_caughtBy, Cond.selects RX1 yX1_caughtBy yX1_caughtBy, Cond.code yX1_caughtBy cX1_caughtBy 3 (some .int), Cond.fieldLink RX1 100 "PauseLedger$Dinner" "caught" "[I", Cond.methodLink RL 149 yX2_caughtBy]
def wsL_law0_r20 : List Cond := [Cond.instanceMethod yX2_caughtBy, Cond.selects RX2 yX2_caughtBy yX2_caughtBy, Cond.code yX2_caughtBy cX2_caughtBy 3 (some .int), Cond.methodLink RL 150 yX1_unsaidInPauses, Cond.instanceMethod yX1_unsaidInPauses, Cond.selects RX1 yX1_unsaidInPauses yX1_unsaidInPauses, Cond.code yX1_unsaidInPauses cX1_unsaidInPauses 1 (some .int), Cond.fieldLink RX1 103 "PauseLedger$Dinner" "unsaidInPauses" "I", Cond.methodLink RL 153 yX2_unsaidInPauses, Cond.instanceMethod yX2_unsaidInPauses, Cond.selects RX2 yX2_unsaidInPauses yX2_unsaidInPauses, Cond.code yX2_unsaidInPauses cX2_unsaidInPauses 1 (some .int), Cond.methodLink RL 154 yX1_allUnsaid, Cond.instanceMethod yX1_allUnsaid, Cond.selects RX1 yX1_allUnsaid yX1_allUnsaid, Cond.code yX1_allUnsaid cX1_allUnsaid 1 (some .int), Cond.methodLink RL 157 yX2_allUnsaid, Cond.instanceMethod yX2_allUnsaid, Cond.selects RX2 yX2_allUnsaid yX2_allUnsaid, Cond.code yX2_allUnsaid cX2_allUnsaid 1 (some .int), Cond.methodLink RL 158 yX1_glancesUnderWay, Cond.instanceMethod yX1_glancesUnderWay, Cond.selects RX1 yX1_glancesUnderWay yX1_glancesUnderWay, Cond.code yX1_glancesUnderWay cX1_glancesUnderWay 1 (some .int)]
def wsL_law0_r21 : List Cond := [Cond.fieldLink RX1 106 "PauseLedger$Dinner" "sent" "I", Cond.methodLink RL 161 yX2_glancesUnderWay, Cond.instanceMethod yX2_glancesUnderWay, Cond.selects RX2 yX2_glancesUnderWay yX2_glancesUnderWay, Cond.code yX2_glancesUnderWay cX2_glancesUnderWay 1 (some .int), Cond.methodLink RX2 112 yX2_underWay, Cond.instanceMethod yX2_underWay, Cond.selects RX2 yX2_underWay yX2_underWay, Cond.code yX2_underWay cX2_underWay 3 (some .int), Cond.methodLink RL 162 yX1_meetings, Cond.instanceMethod yX1_meetings, Cond.selects RX1 yX1_meetings yX1_meetings, Cond.code yX1_meetings cX1_meetings 1 (some .int), Cond.fieldLink RX1 109 "PauseLedger$Dinner" "meetings" "I", Cond.methodLink RL 165 yX2_meetings, Cond.instanceMethod yX2_meetings, Cond.selects RX2 yX2_meetings yX2_meetings, Cond.code yX2_meetings cX2_meetings 1 (some .int), Cond.methodLink RL 166 yX1_lostGlances, Cond.instanceMethod yX1_lostGlances, Cond.selects RX1 yX1_lostGlances yX1_lostGlances, Cond.code yX1_lostGlances cX1_lostGlances 1 (some .int), Cond.fieldLink RX1 112 "PauseLedger$Dinner" "lost" "I", Cond.methodLink RL 169 yX2_lostGlances]
def wsL_law0_r22 : List Cond := [Cond.instanceMethod yX2_lostGlances, Cond.selects RX2 yX2_lostGlances yX2_lostGlances, Cond.code yX2_lostGlances cX2_lostGlances 1 (some .int), Cond.methodLink RL 170 yX1_quietest, Cond.instanceMethod yX1_quietest, Cond.selects RX1 yX1_quietest yX1_quietest, Cond.code yX1_quietest cX1_quietest 3 (some .int), Cond.methodLink RL 173 yX2_quietest, Cond.instanceMethod yX2_quietest, Cond.selects RX2 yX2_quietest yX2_quietest, Cond.code yX2_quietest cX2_quietest 3 (some .int), Cond.methodLink RL 174 yX1_rating, Cond.instanceMethod yX1_rating, Cond.selects RX1 yX1_rating yX1_rating, Cond.code yX1_rating cX1_rating 1 (some .int), Cond.methodLink RL 177 yX2_rating, Cond.instanceMethod yX2_rating, Cond.selects RX2 yX2_rating yX2_rating, Cond.code yX2_rating cX2_rating 1 (some .int), Cond.methodLink RL 178 yL_allUnsaidIn, Cond.static yL_allUnsaidIn, Cond.codeWith yL_allUnsaidIn cL_allUnsaidIn 4 (some .int) [(0, 9, 12, 13)], Cond.methodLink RL 60 yX1_allUnsaidIn, Cond.instanceMethod yX1_allUnsaidIn]
def wsL_law0_r23 : List Cond := [Cond.selects RX1 yX1_allUnsaidIn yX1_allUnsaidIn, Cond.code yX1_allUnsaidIn cX1_allUnsaidIn 2 (some .int), Cond.methodLink RX1 115 yX1_tryOut, Cond.instanceMethod yX1_tryOut, Cond.selects RX1 yX1_tryOut yX1_tryOut, Cond.code yX1_tryOut cX1_tryOut 2 none, Cond.methodLink RX1 143 yX0_copyOf, Cond.instanceMethod yX0_copyOf, Cond.selects RX0 yX0_copyOf yX0_copyOf, Cond.code yX0_copyOf cX0_copyOf 2 none, Cond.methodLink RX0 74 arraycopyName, Cond.native arraycopyName, Cond.static arraycopyName, Cond.initialized "java/lang/System", Cond.methodLink RL 180 yX2_allUnsaidIn, Cond.instanceMethod yX2_allUnsaidIn, Cond.selects RX2 yX2_allUnsaidIn yX2_allUnsaidIn, Cond.code yX2_allUnsaidIn cX2_allUnsaidIn 3 (some .int), Cond.methodLink RX2 115 yX2_keep, Cond.instanceMethod yX2_keep, Cond.selects RX2 yX2_keep yX2_keep, Cond.code yX2_keep cX2_keep 1 none, Cond.methodLink RX2 33 arraycopyName, Cond.methodLink RX2 118 yX2_bringBack]
def wsL_law0_r24 : List Cond := [Cond.instanceMethod yX2_bringBack, Cond.selects RX2 yX2_bringBack yX2_bringBack, Cond.code yX2_bringBack cX2_bringBack 1 none, Cond.methodLink RL 181 yX1_secondsUntilPauseCounts, Cond.instanceMethod yX1_secondsUntilPauseCounts, Cond.selects RX1 yX1_secondsUntilPauseCounts yX1_secondsUntilPauseCounts, Cond.code yX1_secondsUntilPauseCounts cX1_secondsUntilPauseCounts 1 (some .int), Cond.methodLink RX1 118 yX0_untilPauseCounts, Cond.instanceMethod yX0_untilPauseCounts, Cond.selects RX0 yX0_untilPauseCounts yX0_untilPauseCounts, Cond.code yX0_untilPauseCounts cX0_untilPauseCounts 1 (some .int), Cond.methodLink RL 184 yX2_secondsUntilPauseCounts, Cond.instanceMethod yX2_secondsUntilPauseCounts, Cond.selects RX2 yX2_secondsUntilPauseCounts yX2_secondsUntilPauseCounts, Cond.code yX2_secondsUntilPauseCounts cX2_secondsUntilPauseCounts 1 (some .int), Cond.methodLink RL 185 yL_wouldLeave, Cond.static yL_wouldLeave, Cond.codeWith yL_wouldLeave cL_wouldLeave 5 (some .int) [(0, 10, 13, 22), (0, 10, 17, 13), (0, 10, 21, 30)], Cond.methodLink RL 63 yX1_wouldLeave, Cond.instanceMethod yX1_wouldLeave, Cond.selects RX1 yX1_wouldLeave yX1_wouldLeave, Cond.code yX1_wouldLeave cX1_wouldLeave 3 (some .int), Cond.methodLink RX1 121 yX0_fateOf, Cond.instanceMethod yX0_fateOf]
def wsL_law0_r25 : List Cond := [Cond.selects RX0 yX0_fateOf yX0_fateOf, Cond.code yX0_fateOf cX0_fateOf 5 (some .int), Cond.methodLink RX0 125 yX0_timeToGo, Cond.methodLink RL 187 yX2_wouldLeave, Cond.instanceMethod yX2_wouldLeave, Cond.selects RX2 yX2_wouldLeave yX2_wouldLeave, Cond.code yX2_wouldLeave cX2_wouldLeave 3 (some .int), Cond.methodLink RX2 121 yX2_becomes, Cond.instanceMethod yX2_becomes, Cond.selects RX2 yX2_becomes yX2_becomes, Cond.code yX2_becomes cX2_becomes 4 (some .int), Cond.methodLink RL 188 yL_bestMoment, Cond.static yL_bestMoment, Cond.codeWith yL_bestMoment cL_bestMoment 5 (some .int) [(0, 10, 13, 22), (0, 10, 17, 13), (0, 10, 21, 30)], Cond.methodLink RL 66 yX1_bestMoment, Cond.instanceMethod yX1_bestMoment, Cond.selects RX1 yX1_bestMoment yX1_bestMoment, Cond.code yX1_bestMoment cX1_bestMoment 4 (some .int), Cond.methodLink RL 190 yX2_bestMoment, Cond.instanceMethod yX2_bestMoment, Cond.selects RX2 yX2_bestMoment yX2_bestMoment, Cond.code yX2_bestMoment cX2_bestMoment 4 (some .int), Cond.methodLink RL 191 yL_ratingIn, Cond.static yL_ratingIn]
def wsL_law0_r26 : List Cond := [Cond.codeWith yL_ratingIn cL_ratingIn 4 (some .int) [(0, 9, 12, 13)], Cond.methodLink RL 69 yX1_ratingIn, Cond.instanceMethod yX1_ratingIn, Cond.selects RX1 yX1_ratingIn yX1_ratingIn, Cond.code yX1_ratingIn cX1_ratingIn 2 (some .int), Cond.methodLink RL 193 yX2_ratingIn, Cond.instanceMethod yX2_ratingIn, Cond.selects RX2 yX2_ratingIn yX2_ratingIn, Cond.code yX2_ratingIn cX2_ratingIn 3 (some .int), Cond.methodLink RL 194 yX1_meanUnsaid, Cond.instanceMethod yX1_meanUnsaid, Cond.selects RX1 yX1_meanUnsaid yX1_meanUnsaid, Cond.code yX1_meanUnsaid cX1_meanUnsaid 1 (some .double), Cond.methodLink RX1 125 yX0_sumUnsaidByGuests, Cond.methodLink RL 198 yX2_meanUnsaid, Cond.instanceMethod yX2_meanUnsaid, Cond.selects RX2 yX2_meanUnsaid yX2_meanUnsaid, Cond.code yX2_meanUnsaid cX2_meanUnsaid 1 (some .double), Cond.methodLink RL 199 yX1_digest, Cond.instanceMethod yX1_digest, Cond.selects RX1 yX1_digest yX1_digest, Cond.code yX1_digest cX1_digest 4 (some .long), Cond.methodLink RX1 128 yX1_digestOfTable, Cond.instanceMethod yX1_digestOfTable]
def wsL_law0_r27 : List Cond := [Cond.selects RX1 yX1_digestOfTable yX1_digestOfTable, Cond.code yX1_digestOfTable cX1_digestOfTable 3 (some .long), Cond.constantLong RX1 136 (1973), Cond.methodLink RX1 138 yX1_followedBy, Cond.static yX1_followedBy, Cond.code yX1_followedBy cX1_followedBy 3 (some .long), Cond.constantLong RX1 141 (31), Cond.methodLink RX1 132 yX1_withGuest, Cond.instanceMethod yX1_withGuest, Cond.selects RX1 yX1_withGuest yX1_withGuest, Cond.code yX1_withGuest cX1_withGuest 8 (some .long), Cond.methodLink RL 203 yX2_digest, Cond.instanceMethod yX2_digest, Cond.selects RX2 yX2_digest yX2_digest, Cond.code yX2_digest cX2_digest 8 (some .long), Cond.constantLong RX2 124 (1973), Cond.constantLong RX2 126 (31)]
def wsL_law0 : List Cond := (wsL_law0_r1 ++ (wsL_law0_r2 ++ (wsL_law0_r3 ++ (wsL_law0_r4 ++ (wsL_law0_r5 ++ (wsL_law0_r6 ++ (wsL_law0_r7 ++ (wsL_law0_r8 ++ (wsL_law0_r9 ++ (wsL_law0_r10 ++ (wsL_law0_r11 ++ (wsL_law0_r12 ++ (wsL_law0_r13 ++ (wsL_law0_r14 ++ (wsL_law0_r15 ++ (wsL_law0_r16 ++ (wsL_law0_r17 ++ (wsL_law0_r18 ++ (wsL_law0_r19 ++ (wsL_law0_r20 ++ (wsL_law0_r21 ++ (wsL_law0_r22 ++ (wsL_law0_r23 ++ (wsL_law0_r24 ++ (wsL_law0_r25 ++ (wsL_law0_r26 ++ wsL_law0_r27)))))))))))))))))))))))))) ++ wsX10 ++ wsX20 ++ wsX00 ++ ([] : List Cond)
def wsL_law : List Cond := wsL_law0 ++ (vx_atS RX1 158 "java/lang/IllegalArgumentException" ["java/lang/RuntimeException", "java/lang/Exception"]).filter goodWord ++ (vx_atS RX1 151 "java/lang/IndexOutOfBoundsException" ["java/lang/RuntimeException", "java/lang/Exception"]).filter goodWord ++ (vx_atS RX1 165 "java/lang/IllegalStateException" ["java/lang/RuntimeException", "java/lang/Exception"]).filter goodWord
abbrev vwCl : List vw_C := [(RX0, TX0, 17), (RX1, TX1, 2), (RX2, TX2, 7)]
end
section
set_option maxRecDepth 20000 in
theorem ggX0_init_X0_begin : GoodIn wsX0_init wsX0_begin := goodIn_r _ [17, 18, 19, 20, 21, 22, 23, 24, 25, 26, 5, 6, 7, 8, 9, 10, 27, 28, 29, 30, 31, 32, 33, 34, 35, 36, 37, 38, 39, 40, 41, 42, 43, 44, 45, 46, 47] (by decide +kernel) (by decide +kernel)
set_option maxRecDepth 20000 in
theorem gX0_init_X0_begin : GoodIn wsX0_init (wsV RX0 37 RX0 yX0_begin wsX0_begin) := goodIn_app (goodIn_of _ (by decide +kernel)) ggX0_init_X0_begin
theorem dX0_init_0 : decode cX0_init 0 = .ok (.aload_n 0, 1) := by decide +kernel
theorem dX0_init_1 : decode cX0_init 1 = .ok (.invokespecial 3, 3) := by decide +kernel
theorem dX0_init_4 : decode cX0_init 4 = .ok (.aload_n 0, 1) := by decide +kernel
theorem dX0_init_5 : decode cX0_init 5 = .ok (.bipush 10, 2) := by decide +kernel
theorem dX0_init_7 : decode cX0_init 7 = .ok (.newarray .int, 2) := by decide +kernel
theorem dX0_init_9 : decode cX0_init 9 = .ok (.putfield 9, 3) := by decide +kernel
theorem dX0_init_12 : decode cX0_init 12 = .ok (.aload_n 0, 1) := by decide +kernel
theorem dX0_init_13 : decode cX0_init 13 = .ok (.bipush 10, 2) := by decide +kernel
theorem dX0_init_15 : decode cX0_init 15 = .ok (.newarray .int, 2) := by decide +kernel
theorem dX0_init_17 : decode cX0_init 17 = .ok (.putfield 15, 3) := by decide +kernel
theorem dX0_init_20 : decode cX0_init 20 = .ok (.aload_n 0, 1) := by decide +kernel
theorem dX0_init_21 : decode cX0_init 21 = .ok (.bipush 10, 2) := by decide +kernel
theorem dX0_init_23 : decode cX0_init 23 = .ok (.newarray .int, 2) := by decide +kernel
theorem dX0_init_25 : decode cX0_init 25 = .ok (.putfield 18, 3) := by decide +kernel
theorem dX0_init_28 : decode cX0_init 28 = .ok (.aload_n 0, 1) := by decide +kernel
theorem dX0_init_29 : decode cX0_init 29 = .ok (.bipush 10, 2) := by decide +kernel
theorem dX0_init_31 : decode cX0_init 31 = .ok (.newarray .int, 2) := by decide +kernel
theorem dX0_init_33 : decode cX0_init 33 = .ok (.putfield 21, 3) := by decide +kernel
theorem dX0_init_36 : decode cX0_init 36 = .ok (.aload_n 0, 1) := by decide +kernel
theorem dX0_init_37 : decode cX0_init 37 = .ok (.bipush 100, 2) := by decide +kernel
theorem dX0_init_39 : decode cX0_init 39 = .ok (.newarray .int, 2) := by decide +kernel
theorem dX0_init_41 : decode cX0_init 41 = .ok (.putfield 24, 3) := by decide +kernel
theorem dX0_init_44 : decode cX0_init 44 = .ok (.aload_n 0, 1) := by decide +kernel
theorem dX0_init_45 : decode cX0_init 45 = .ok (.bipush 100, 2) := by decide +kernel
theorem dX0_init_47 : decode cX0_init 47 = .ok (.newarray .int, 2) := by decide +kernel
theorem dX0_init_49 : decode cX0_init 49 = .ok (.putfield 27, 3) := by decide +kernel
theorem dX0_init_52 : decode cX0_init 52 = .ok (.aload_n 0, 1) := by decide +kernel
theorem dX0_init_53 : decode cX0_init 53 = .ok (.bipush 100, 2) := by decide +kernel
theorem dX0_init_55 : decode cX0_init 55 = .ok (.newarray .int, 2) := by decide +kernel
theorem dX0_init_57 : decode cX0_init 57 = .ok (.putfield 30, 3) := by decide +kernel
theorem dX0_init_60 : decode cX0_init 60 = .ok (.aload_n 0, 1) := by decide +kernel
theorem dX0_init_61 : decode cX0_init 61 = .ok (.iconst 5, 1) := by decide +kernel
theorem dX0_init_62 : decode cX0_init 62 = .ok (.putfield 33, 3) := by decide +kernel
theorem dX0_init_65 : decode cX0_init 65 = .ok (.aload_n 0, 1) := by decide +kernel
theorem dX0_init_66 : decode cX0_init 66 = .ok (.iconst 4, 1) := by decide +kernel
theorem dX0_init_67 : decode cX0_init 67 = .ok (.invokevirtual 37, 3) := by decide +kernel
theorem dX0_init_70 : decode cX0_init 70 = .ok (.return_, 1) := by decide +kernel
set_option maxRecDepth 20000 in
theorem ggX0_begin_J7_fill_53178 : GoodIn wsX0_begin wsJ7_fill_53178 := goodIn_r _ [19] (by decide +kernel) (by decide +kernel)
set_option maxRecDepth 20000 in
theorem gX0_begin_J7_fill_53178 : GoodIn wsX0_begin (va_wsS RX0 68 yJ7_fill_53178 wsJ7_fill_53178) := goodIn_app (goodIn_of _ (by decide +kernel)) ggX0_begin_J7_fill_53178
theorem dX0_begin_0 : decode cX0_begin 0 = .ok (.aload_n 0, 1) := by decide +kernel
theorem dX0_begin_1 : decode cX0_begin 1 = .ok (.iload_n 1, 1) := by decide +kernel
theorem dX0_begin_2 : decode cX0_begin 2 = .ok (.putfield 41, 3) := by decide +kernel
theorem dX0_begin_5 : decode cX0_begin 5 = .ok (.aload_n 0, 1) := by decide +kernel
theorem dX0_begin_6 : decode cX0_begin 6 = .ok (.iconst 0, 1) := by decide +kernel
theorem dX0_begin_7 : decode cX0_begin 7 = .ok (.putfield 44, 3) := by decide +kernel
theorem dX0_begin_10 : decode cX0_begin 10 = .ok (.aload_n 0, 1) := by decide +kernel
theorem dX0_begin_11 : decode cX0_begin 11 = .ok (.iconst (-1), 1) := by decide +kernel
theorem dX0_begin_12 : decode cX0_begin 12 = .ok (.putfield 47, 3) := by decide +kernel
theorem dX0_begin_15 : decode cX0_begin 15 = .ok (.aload_n 0, 1) := by decide +kernel
theorem dX0_begin_16 : decode cX0_begin 16 = .ok (.iconst 0, 1) := by decide +kernel
theorem dX0_begin_17 : decode cX0_begin 17 = .ok (.putfield 50, 3) := by decide +kernel
theorem dX0_begin_20 : decode cX0_begin 20 = .ok (.aload_n 0, 1) := by decide +kernel
theorem dX0_begin_21 : decode cX0_begin 21 = .ok (.iconst 0, 1) := by decide +kernel
theorem dX0_begin_22 : decode cX0_begin 22 = .ok (.putfield 53, 3) := by decide +kernel
theorem dX0_begin_25 : decode cX0_begin 25 = .ok (.aload_n 0, 1) := by decide +kernel
theorem dX0_begin_26 : decode cX0_begin 26 = .ok (.iconst 0, 1) := by decide +kernel
theorem dX0_begin_27 : decode cX0_begin 27 = .ok (.putfield 56, 3) := by decide +kernel
theorem dX0_begin_30 : decode cX0_begin 30 = .ok (.aload_n 0, 1) := by decide +kernel
theorem dX0_begin_31 : decode cX0_begin 31 = .ok (.iconst 0, 1) := by decide +kernel
theorem dX0_begin_32 : decode cX0_begin 32 = .ok (.putfield 59, 3) := by decide +kernel
theorem dX0_begin_35 : decode cX0_begin 35 = .ok (.aload_n 0, 1) := by decide +kernel
theorem dX0_begin_36 : decode cX0_begin 36 = .ok (.iconst 0, 1) := by decide +kernel
theorem dX0_begin_37 : decode cX0_begin 37 = .ok (.putfield 62, 3) := by decide +kernel
theorem dX0_begin_40 : decode cX0_begin 40 = .ok (.aload_n 0, 1) := by decide +kernel
theorem dX0_begin_41 : decode cX0_begin 41 = .ok (.iconst 0, 1) := by decide +kernel
theorem dX0_begin_42 : decode cX0_begin 42 = .ok (.putfield 65, 3) := by decide +kernel
theorem dX0_begin_45 : decode cX0_begin 45 = .ok (.aload_n 0, 1) := by decide +kernel
theorem dX0_begin_46 : decode cX0_begin 46 = .ok (.getfield 9, 3) := by decide +kernel
theorem dX0_begin_49 : decode cX0_begin 49 = .ok (.iconst 0, 1) := by decide +kernel
theorem dX0_begin_50 : decode cX0_begin 50 = .ok (.invokestatic 68, 3) := by decide +kernel
theorem dX0_begin_53 : decode cX0_begin 53 = .ok (.aload_n 0, 1) := by decide +kernel
theorem dX0_begin_54 : decode cX0_begin 54 = .ok (.getfield 15, 3) := by decide +kernel
theorem dX0_begin_57 : decode cX0_begin 57 = .ok (.iconst 0, 1) := by decide +kernel
theorem dX0_begin_58 : decode cX0_begin 58 = .ok (.invokestatic 68, 3) := by decide +kernel
theorem dX0_begin_61 : decode cX0_begin 61 = .ok (.aload_n 0, 1) := by decide +kernel
theorem dX0_begin_62 : decode cX0_begin 62 = .ok (.getfield 18, 3) := by decide +kernel
theorem dX0_begin_65 : decode cX0_begin 65 = .ok (.iconst 0, 1) := by decide +kernel
theorem dX0_begin_66 : decode cX0_begin 66 = .ok (.invokestatic 68, 3) := by decide +kernel
theorem dX0_begin_69 : decode cX0_begin 69 = .ok (.aload_n 0, 1) := by decide +kernel
theorem dX0_begin_70 : decode cX0_begin 70 = .ok (.getfield 21, 3) := by decide +kernel
theorem dX0_begin_73 : decode cX0_begin 73 = .ok (.iconst 0, 1) := by decide +kernel
theorem dX0_begin_74 : decode cX0_begin 74 = .ok (.invokestatic 68, 3) := by decide +kernel
theorem dX0_begin_77 : decode cX0_begin 77 = .ok (.aload_n 0, 1) := by decide +kernel
theorem dX0_begin_78 : decode cX0_begin 78 = .ok (.getfield 24, 3) := by decide +kernel
theorem dX0_begin_81 : decode cX0_begin 81 = .ok (.iconst (-1), 1) := by decide +kernel
theorem dX0_begin_82 : decode cX0_begin 82 = .ok (.invokestatic 68, 3) := by decide +kernel
theorem dX0_begin_85 : decode cX0_begin 85 = .ok (.aload_n 0, 1) := by decide +kernel
theorem dX0_begin_86 : decode cX0_begin 86 = .ok (.getfield 27, 3) := by decide +kernel
theorem dX0_begin_89 : decode cX0_begin 89 = .ok (.iconst 0, 1) := by decide +kernel
theorem dX0_begin_90 : decode cX0_begin 90 = .ok (.invokestatic 68, 3) := by decide +kernel
theorem dX0_begin_93 : decode cX0_begin 93 = .ok (.return_, 1) := by decide +kernel
theorem dX0_copyOf_0 : decode cX0_copyOf 0 = .ok (.aload_n 0, 1) := by decide +kernel
theorem dX0_copyOf_1 : decode cX0_copyOf 1 = .ok (.aload_n 1, 1) := by decide +kernel
theorem dX0_copyOf_2 : decode cX0_copyOf 2 = .ok (.getfield 41, 3) := by decide +kernel
theorem dX0_copyOf_5 : decode cX0_copyOf 5 = .ok (.putfield 41, 3) := by decide +kernel
theorem dX0_copyOf_8 : decode cX0_copyOf 8 = .ok (.aload_n 0, 1) := by decide +kernel
theorem dX0_copyOf_9 : decode cX0_copyOf 9 = .ok (.aload_n 1, 1) := by decide +kernel
theorem dX0_copyOf_10 : decode cX0_copyOf 10 = .ok (.getfield 44, 3) := by decide +kernel
theorem dX0_copyOf_13 : decode cX0_copyOf 13 = .ok (.putfield 44, 3) := by decide +kernel
theorem dX0_copyOf_16 : decode cX0_copyOf 16 = .ok (.aload_n 0, 1) := by decide +kernel
theorem dX0_copyOf_17 : decode cX0_copyOf 17 = .ok (.aload_n 1, 1) := by decide +kernel
theorem dX0_copyOf_18 : decode cX0_copyOf 18 = .ok (.getfield 33, 3) := by decide +kernel
theorem dX0_copyOf_21 : decode cX0_copyOf 21 = .ok (.putfield 33, 3) := by decide +kernel
theorem dX0_copyOf_24 : decode cX0_copyOf 24 = .ok (.aload_n 0, 1) := by decide +kernel
theorem dX0_copyOf_25 : decode cX0_copyOf 25 = .ok (.aload_n 1, 1) := by decide +kernel
theorem dX0_copyOf_26 : decode cX0_copyOf 26 = .ok (.getfield 47, 3) := by decide +kernel
theorem dX0_copyOf_29 : decode cX0_copyOf 29 = .ok (.putfield 47, 3) := by decide +kernel
theorem dX0_copyOf_32 : decode cX0_copyOf 32 = .ok (.aload_n 0, 1) := by decide +kernel
theorem dX0_copyOf_33 : decode cX0_copyOf 33 = .ok (.aload_n 1, 1) := by decide +kernel
theorem dX0_copyOf_34 : decode cX0_copyOf 34 = .ok (.getfield 50, 3) := by decide +kernel
theorem dX0_copyOf_37 : decode cX0_copyOf 37 = .ok (.putfield 50, 3) := by decide +kernel
theorem dX0_copyOf_40 : decode cX0_copyOf 40 = .ok (.aload_n 0, 1) := by decide +kernel
theorem dX0_copyOf_41 : decode cX0_copyOf 41 = .ok (.aload_n 1, 1) := by decide +kernel
theorem dX0_copyOf_42 : decode cX0_copyOf 42 = .ok (.getfield 53, 3) := by decide +kernel
theorem dX0_copyOf_45 : decode cX0_copyOf 45 = .ok (.putfield 53, 3) := by decide +kernel
theorem dX0_copyOf_48 : decode cX0_copyOf 48 = .ok (.aload_n 0, 1) := by decide +kernel
theorem dX0_copyOf_49 : decode cX0_copyOf 49 = .ok (.aload_n 1, 1) := by decide +kernel
theorem dX0_copyOf_50 : decode cX0_copyOf 50 = .ok (.getfield 56, 3) := by decide +kernel
theorem dX0_copyOf_53 : decode cX0_copyOf 53 = .ok (.putfield 56, 3) := by decide +kernel
theorem dX0_copyOf_56 : decode cX0_copyOf 56 = .ok (.aload_n 0, 1) := by decide +kernel
theorem dX0_copyOf_57 : decode cX0_copyOf 57 = .ok (.aload_n 1, 1) := by decide +kernel
theorem dX0_copyOf_58 : decode cX0_copyOf 58 = .ok (.getfield 59, 3) := by decide +kernel
theorem dX0_copyOf_61 : decode cX0_copyOf 61 = .ok (.putfield 59, 3) := by decide +kernel
theorem dX0_copyOf_64 : decode cX0_copyOf 64 = .ok (.aload_n 0, 1) := by decide +kernel
theorem dX0_copyOf_65 : decode cX0_copyOf 65 = .ok (.aload_n 1, 1) := by decide +kernel
theorem dX0_copyOf_66 : decode cX0_copyOf 66 = .ok (.getfield 62, 3) := by decide +kernel
theorem dX0_copyOf_69 : decode cX0_copyOf 69 = .ok (.putfield 62, 3) := by decide +kernel
theorem dX0_copyOf_72 : decode cX0_copyOf 72 = .ok (.aload_n 0, 1) := by decide +kernel
theorem dX0_copyOf_73 : decode cX0_copyOf 73 = .ok (.aload_n 1, 1) := by decide +kernel
theorem dX0_copyOf_74 : decode cX0_copyOf 74 = .ok (.getfield 65, 3) := by decide +kernel
theorem dX0_copyOf_77 : decode cX0_copyOf 77 = .ok (.putfield 65, 3) := by decide +kernel
theorem dX0_copyOf_80 : decode cX0_copyOf 80 = .ok (.aload_n 1, 1) := by decide +kernel
theorem dX0_copyOf_81 : decode cX0_copyOf 81 = .ok (.getfield 9, 3) := by decide +kernel
theorem dX0_copyOf_84 : decode cX0_copyOf 84 = .ok (.iconst 0, 1) := by decide +kernel
theorem dX0_copyOf_85 : decode cX0_copyOf 85 = .ok (.aload_n 0, 1) := by decide +kernel
theorem dX0_copyOf_86 : decode cX0_copyOf 86 = .ok (.getfield 9, 3) := by decide +kernel
theorem dX0_copyOf_89 : decode cX0_copyOf 89 = .ok (.iconst 0, 1) := by decide +kernel
theorem dX0_copyOf_90 : decode cX0_copyOf 90 = .ok (.bipush 10, 2) := by decide +kernel
theorem dX0_copyOf_92 : decode cX0_copyOf 92 = .ok (.invokestatic 74, 3) := by decide +kernel
theorem dX0_copyOf_95 : decode cX0_copyOf 95 = .ok (.aload_n 1, 1) := by decide +kernel
theorem dX0_copyOf_96 : decode cX0_copyOf 96 = .ok (.getfield 15, 3) := by decide +kernel
theorem dX0_copyOf_99 : decode cX0_copyOf 99 = .ok (.iconst 0, 1) := by decide +kernel
theorem dX0_copyOf_100 : decode cX0_copyOf 100 = .ok (.aload_n 0, 1) := by decide +kernel
theorem dX0_copyOf_101 : decode cX0_copyOf 101 = .ok (.getfield 15, 3) := by decide +kernel
theorem dX0_copyOf_104 : decode cX0_copyOf 104 = .ok (.iconst 0, 1) := by decide +kernel
theorem dX0_copyOf_105 : decode cX0_copyOf 105 = .ok (.bipush 10, 2) := by decide +kernel
theorem dX0_copyOf_107 : decode cX0_copyOf 107 = .ok (.invokestatic 74, 3) := by decide +kernel
theorem dX0_copyOf_110 : decode cX0_copyOf 110 = .ok (.aload_n 1, 1) := by decide +kernel
theorem dX0_copyOf_111 : decode cX0_copyOf 111 = .ok (.getfield 18, 3) := by decide +kernel
theorem dX0_copyOf_114 : decode cX0_copyOf 114 = .ok (.iconst 0, 1) := by decide +kernel
theorem dX0_copyOf_115 : decode cX0_copyOf 115 = .ok (.aload_n 0, 1) := by decide +kernel
theorem dX0_copyOf_116 : decode cX0_copyOf 116 = .ok (.getfield 18, 3) := by decide +kernel
theorem dX0_copyOf_119 : decode cX0_copyOf 119 = .ok (.iconst 0, 1) := by decide +kernel
theorem dX0_copyOf_120 : decode cX0_copyOf 120 = .ok (.bipush 10, 2) := by decide +kernel
theorem dX0_copyOf_122 : decode cX0_copyOf 122 = .ok (.invokestatic 74, 3) := by decide +kernel
theorem dX0_copyOf_125 : decode cX0_copyOf 125 = .ok (.aload_n 1, 1) := by decide +kernel
theorem dX0_copyOf_126 : decode cX0_copyOf 126 = .ok (.getfield 21, 3) := by decide +kernel
theorem dX0_copyOf_129 : decode cX0_copyOf 129 = .ok (.iconst 0, 1) := by decide +kernel
theorem dX0_copyOf_130 : decode cX0_copyOf 130 = .ok (.aload_n 0, 1) := by decide +kernel
theorem dX0_copyOf_131 : decode cX0_copyOf 131 = .ok (.getfield 21, 3) := by decide +kernel
theorem dX0_copyOf_134 : decode cX0_copyOf 134 = .ok (.iconst 0, 1) := by decide +kernel
theorem dX0_copyOf_135 : decode cX0_copyOf 135 = .ok (.bipush 10, 2) := by decide +kernel
theorem dX0_copyOf_137 : decode cX0_copyOf 137 = .ok (.invokestatic 74, 3) := by decide +kernel
theorem dX0_copyOf_140 : decode cX0_copyOf 140 = .ok (.aload_n 1, 1) := by decide +kernel
theorem dX0_copyOf_141 : decode cX0_copyOf 141 = .ok (.getfield 24, 3) := by decide +kernel
theorem dX0_copyOf_144 : decode cX0_copyOf 144 = .ok (.iconst 0, 1) := by decide +kernel
theorem dX0_copyOf_145 : decode cX0_copyOf 145 = .ok (.aload_n 0, 1) := by decide +kernel
theorem dX0_copyOf_146 : decode cX0_copyOf 146 = .ok (.getfield 24, 3) := by decide +kernel
theorem dX0_copyOf_149 : decode cX0_copyOf 149 = .ok (.iconst 0, 1) := by decide +kernel
theorem dX0_copyOf_150 : decode cX0_copyOf 150 = .ok (.bipush 100, 2) := by decide +kernel
theorem dX0_copyOf_152 : decode cX0_copyOf 152 = .ok (.invokestatic 74, 3) := by decide +kernel
theorem dX0_copyOf_155 : decode cX0_copyOf 155 = .ok (.aload_n 1, 1) := by decide +kernel
theorem dX0_copyOf_156 : decode cX0_copyOf 156 = .ok (.getfield 27, 3) := by decide +kernel
theorem dX0_copyOf_159 : decode cX0_copyOf 159 = .ok (.iconst 0, 1) := by decide +kernel
theorem dX0_copyOf_160 : decode cX0_copyOf 160 = .ok (.aload_n 0, 1) := by decide +kernel
theorem dX0_copyOf_161 : decode cX0_copyOf 161 = .ok (.getfield 27, 3) := by decide +kernel
theorem dX0_copyOf_164 : decode cX0_copyOf 164 = .ok (.iconst 0, 1) := by decide +kernel
theorem dX0_copyOf_165 : decode cX0_copyOf 165 = .ok (.bipush 100, 2) := by decide +kernel
theorem dX0_copyOf_167 : decode cX0_copyOf 167 = .ok (.invokestatic 74, 3) := by decide +kernel
theorem dX0_copyOf_170 : decode cX0_copyOf 170 = .ok (.aload_n 1, 1) := by decide +kernel
theorem dX0_copyOf_171 : decode cX0_copyOf 171 = .ok (.getfield 30, 3) := by decide +kernel
theorem dX0_copyOf_174 : decode cX0_copyOf 174 = .ok (.iconst 0, 1) := by decide +kernel
theorem dX0_copyOf_175 : decode cX0_copyOf 175 = .ok (.aload_n 0, 1) := by decide +kernel
theorem dX0_copyOf_176 : decode cX0_copyOf 176 = .ok (.getfield 30, 3) := by decide +kernel
theorem dX0_copyOf_179 : decode cX0_copyOf 179 = .ok (.iconst 0, 1) := by decide +kernel
theorem dX0_copyOf_180 : decode cX0_copyOf 180 = .ok (.bipush 100, 2) := by decide +kernel
theorem dX0_copyOf_182 : decode cX0_copyOf 182 = .ok (.invokestatic 74, 3) := by decide +kernel
theorem dX0_copyOf_185 : decode cX0_copyOf 185 = .ok (.return_, 1) := by decide +kernel
theorem dX0_letSpeak_0 : decode cX0_letSpeak 0 = .ok (.aload_n 0, 1) := by decide +kernel
theorem dX0_letSpeak_1 : decode cX0_letSpeak 1 = .ok (.getfield 47, 3) := by decide +kernel
theorem dX0_letSpeak_4 : decode cX0_letSpeak 4 = .ok (.iload_n 1, 1) := by decide +kernel
theorem dX0_letSpeak_5 : decode cX0_letSpeak 5 = .ok (.if_icmp .ne 7, 3) := by decide +kernel
theorem dX0_letSpeak_8 : decode cX0_letSpeak 8 = .ok (.iconst (-1), 1) := by decide +kernel
theorem dX0_letSpeak_9 : decode cX0_letSpeak 9 = .ok (.goto 7, 3) := by decide +kernel
theorem dX0_letSpeak_12 : decode cX0_letSpeak 12 = .ok (.aload_n 0, 1) := by decide +kernel
theorem dX0_letSpeak_13 : decode cX0_letSpeak 13 = .ok (.getfield 47, 3) := by decide +kernel
theorem dX0_letSpeak_16 : decode cX0_letSpeak 16 = .ok (.istore_n 3, 1) := by decide +kernel
theorem dX0_letSpeak_17 : decode cX0_letSpeak 17 = .ok (.iload_n 3, 1) := by decide +kernel
theorem dX0_letSpeak_18 : decode cX0_letSpeak 18 = .ok (.iconst (-1), 1) := by decide +kernel
theorem dX0_letSpeak_19 : decode cX0_letSpeak 19 = .ok (.if_icmp .eq 13, 3) := by decide +kernel
theorem dX0_letSpeak_22 : decode cX0_letSpeak 22 = .ok (.aload_n 0, 1) := by decide +kernel
theorem dX0_letSpeak_23 : decode cX0_letSpeak 23 = .ok (.getfield 15, 3) := by decide +kernel
theorem dX0_letSpeak_26 : decode cX0_letSpeak 26 = .ok (.iload_n 1, 1) := by decide +kernel
theorem dX0_letSpeak_27 : decode cX0_letSpeak 27 = .ok (.dup2, 1) := by decide +kernel
theorem dX0_letSpeak_28 : decode cX0_letSpeak 28 = .ok (.iaload, 1) := by decide +kernel
theorem dX0_letSpeak_29 : decode cX0_letSpeak 29 = .ok (.iconst 1, 1) := by decide +kernel
theorem dX0_letSpeak_30 : decode cX0_letSpeak 30 = .ok (.iadd, 1) := by decide +kernel
theorem dX0_letSpeak_31 : decode cX0_letSpeak 31 = .ok (.iastore, 1) := by decide +kernel
theorem dX0_letSpeak_32 : decode cX0_letSpeak 32 = .ok (.aload_n 0, 1) := by decide +kernel
theorem dX0_letSpeak_33 : decode cX0_letSpeak 33 = .ok (.iload_n 1, 1) := by decide +kernel
theorem dX0_letSpeak_34 : decode cX0_letSpeak 34 = .ok (.putfield 47, 3) := by decide +kernel
theorem dX0_letSpeak_37 : decode cX0_letSpeak 37 = .ok (.aload_n 0, 1) := by decide +kernel
theorem dX0_letSpeak_38 : decode cX0_letSpeak 38 = .ok (.iload_n 2, 1) := by decide +kernel
theorem dX0_letSpeak_39 : decode cX0_letSpeak 39 = .ok (.putfield 50, 3) := by decide +kernel
theorem dX0_letSpeak_42 : decode cX0_letSpeak 42 = .ok (.iload_n 3, 1) := by decide +kernel
theorem dX0_letSpeak_43 : decode cX0_letSpeak 43 = .ok (.ireturn, 1) := by decide +kernel
set_option maxRecDepth 20000 in
theorem ggX0_letCough_X0_unsaidByCough : GoodIn wsX0_letCough wsX0_unsaidByCough := goodIn_r _ [7, 8, 9, 10, 11, 12, 13, 14, 15, 16, 17, 18, 19, 20, 21, 22, 23, 24, 25] (by decide +kernel) (by decide +kernel)
set_option maxRecDepth 20000 in
theorem gX0_letCough_X0_unsaidByCough : GoodIn wsX0_letCough (wsV RX0 80 RX0 yX0_unsaidByCough wsX0_unsaidByCough) := goodIn_app (goodIn_of _ (by decide +kernel)) ggX0_letCough_X0_unsaidByCough
theorem dX0_letCough_0 : decode cX0_letCough 0 = .ok (.aload_n 0, 1) := by decide +kernel
theorem dX0_letCough_1 : decode cX0_letCough 1 = .ok (.iload_n 1, 1) := by decide +kernel
theorem dX0_letCough_2 : decode cX0_letCough 2 = .ok (.iload_n 2, 1) := by decide +kernel
theorem dX0_letCough_3 : decode cX0_letCough 3 = .ok (.invokevirtual 80, 3) := by decide +kernel
theorem dX0_letCough_6 : decode cX0_letCough 6 = .ok (.istore_n 3, 1) := by decide +kernel
theorem dX0_letCough_7 : decode cX0_letCough 7 = .ok (.aload_n 0, 1) := by decide +kernel
theorem dX0_letCough_8 : decode cX0_letCough 8 = .ok (.getfield 18, 3) := by decide +kernel
theorem dX0_letCough_11 : decode cX0_letCough 11 = .ok (.iload_n 1, 1) := by decide +kernel
theorem dX0_letCough_12 : decode cX0_letCough 12 = .ok (.dup2, 1) := by decide +kernel
theorem dX0_letCough_13 : decode cX0_letCough 13 = .ok (.iaload, 1) := by decide +kernel
theorem dX0_letCough_14 : decode cX0_letCough 14 = .ok (.iconst 1, 1) := by decide +kernel
theorem dX0_letCough_15 : decode cX0_letCough 15 = .ok (.iadd, 1) := by decide +kernel
theorem dX0_letCough_16 : decode cX0_letCough 16 = .ok (.iastore, 1) := by decide +kernel
theorem dX0_letCough_17 : decode cX0_letCough 17 = .ok (.aload_n 0, 1) := by decide +kernel
theorem dX0_letCough_18 : decode cX0_letCough 18 = .ok (.getfield 21, 3) := by decide +kernel
theorem dX0_letCough_21 : decode cX0_letCough 21 = .ok (.iload_n 1, 1) := by decide +kernel
theorem dX0_letCough_22 : decode cX0_letCough 22 = .ok (.dup2, 1) := by decide +kernel
theorem dX0_letCough_23 : decode cX0_letCough 23 = .ok (.iaload, 1) := by decide +kernel
theorem dX0_letCough_24 : decode cX0_letCough 24 = .ok (.iload_n 3, 1) := by decide +kernel
theorem dX0_letCough_25 : decode cX0_letCough 25 = .ok (.iadd, 1) := by decide +kernel
theorem dX0_letCough_26 : decode cX0_letCough 26 = .ok (.iastore, 1) := by decide +kernel
theorem dX0_letCough_27 : decode cX0_letCough 27 = .ok (.iload_n 3, 1) := by decide +kernel
theorem dX0_letCough_28 : decode cX0_letCough 28 = .ok (.ireturn, 1) := by decide +kernel
theorem dX0_unsaidByCough_0 : decode cX0_unsaidByCough 0 = .ok (.aload_n 0, 1) := by decide +kernel
theorem dX0_unsaidByCough_1 : decode cX0_unsaidByCough 1 = .ok (.getfield 47, 3) := by decide +kernel
theorem dX0_unsaidByCough_4 : decode cX0_unsaidByCough 4 = .ok (.iconst (-1), 1) := by decide +kernel
theorem dX0_unsaidByCough_5 : decode cX0_unsaidByCough 5 = .ok (.if_icmp .ne 5, 3) := by decide +kernel
theorem dX0_unsaidByCough_8 : decode cX0_unsaidByCough 8 = .ok (.iload_n 2, 1) := by decide +kernel
theorem dX0_unsaidByCough_9 : decode cX0_unsaidByCough 9 = .ok (.ireturn, 1) := by decide +kernel
theorem dX0_unsaidByCough_10 : decode cX0_unsaidByCough 10 = .ok (.aload_n 0, 1) := by decide +kernel
theorem dX0_unsaidByCough_11 : decode cX0_unsaidByCough 11 = .ok (.getfield 47, 3) := by decide +kernel
theorem dX0_unsaidByCough_14 : decode cX0_unsaidByCough 14 = .ok (.iload_n 1, 1) := by decide +kernel
theorem dX0_unsaidByCough_15 : decode cX0_unsaidByCough 15 = .ok (.if_icmp .ne 7, 3) := by decide +kernel
theorem dX0_unsaidByCough_18 : decode cX0_unsaidByCough 18 = .ok (.iconst 0, 1) := by decide +kernel
theorem dX0_unsaidByCough_19 : decode cX0_unsaidByCough 19 = .ok (.goto 6, 3) := by decide +kernel
theorem dX0_unsaidByCough_22 : decode cX0_unsaidByCough 22 = .ok (.iload_n 2, 1) := by decide +kernel
theorem dX0_unsaidByCough_23 : decode cX0_unsaidByCough 23 = .ok (.iconst 2, 1) := by decide +kernel
theorem dX0_unsaidByCough_24 : decode cX0_unsaidByCough 24 = .ok (.idiv, 1) := by decide +kernel
theorem dX0_unsaidByCough_25 : decode cX0_unsaidByCough 25 = .ok (.ireturn, 1) := by decide +kernel
set_option maxRecDepth 20000 in
theorem ggX0_send_X1_pairOf : GoodIn wsX0_send wsX1_pairOf := goodIn_r _ [6] (by decide +kernel) (by decide +kernel)
set_option maxRecDepth 20000 in
theorem gX0_send_X1_pairOf_n84 : GoodIn wsX0_send (wsX1_pairOf) := ggX0_send_X1_pairOf
set_option maxRecDepth 20000 in
theorem ggX0_send_X0_wayOf : GoodIn wsX0_send wsX0_wayOf := goodIn_r _ [11, 12, 13, 14, 10, 15, 16, 17, 18, 19, 20, 21, 22, 23, 24, 25, 26, 27, 28, 29, 30, 31, 32, 33, 34, 35, 36, 37, 38, 39, 40] (by decide +kernel) (by decide +kernel)
set_option maxRecDepth 20000 in
theorem gX0_send_X0_wayOf : GoodIn wsX0_send (wsV RX0 87 RX0 yX0_wayOf wsX0_wayOf) := goodIn_app (goodIn_of _ (by decide +kernel)) ggX0_send_X0_wayOf
theorem dX0_send_0 : decode cX0_send 0 = .ok (.iload_n 1, 1) := by decide +kernel
theorem dX0_send_1 : decode cX0_send 1 = .ok (.iload_n 2, 1) := by decide +kernel
theorem dX0_send_2 : decode cX0_send 2 = .ok (.invokestatic 84, 3) := by decide +kernel
theorem dX0_send_5 : decode cX0_send 5 = .ok (.istore_n 3, 1) := by decide +kernel
theorem dX0_send_6 : decode cX0_send 6 = .ok (.aload_n 0, 1) := by decide +kernel
theorem dX0_send_7 : decode cX0_send 7 = .ok (.getfield 65, 3) := by decide +kernel
theorem dX0_send_10 : decode cX0_send 10 = .ok (.aload_n 0, 1) := by decide +kernel
theorem dX0_send_11 : decode cX0_send 11 = .ok (.getfield 30, 3) := by decide +kernel
theorem dX0_send_14 : decode cX0_send 14 = .ok (.arraylength, 1) := by decide +kernel
theorem dX0_send_15 : decode cX0_send 15 = .ok (.if_icmp .ge 35, 3) := by decide +kernel
theorem dX0_send_18 : decode cX0_send 18 = .ok (.aload_n 0, 1) := by decide +kernel
theorem dX0_send_19 : decode cX0_send 19 = .ok (.getfield 30, 3) := by decide +kernel
theorem dX0_send_22 : decode cX0_send 22 = .ok (.aload_n 0, 1) := by decide +kernel
theorem dX0_send_23 : decode cX0_send 23 = .ok (.getfield 65, 3) := by decide +kernel
theorem dX0_send_26 : decode cX0_send 26 = .ok (.iload_n 3, 1) := by decide +kernel
theorem dX0_send_27 : decode cX0_send 27 = .ok (.iastore, 1) := by decide +kernel
theorem dX0_send_28 : decode cX0_send 28 = .ok (.aload_n 0, 1) := by decide +kernel
theorem dX0_send_29 : decode cX0_send 29 = .ok (.dup, 1) := by decide +kernel
theorem dX0_send_30 : decode cX0_send 30 = .ok (.getfield 65, 3) := by decide +kernel
theorem dX0_send_33 : decode cX0_send 33 = .ok (.iconst 1, 1) := by decide +kernel
theorem dX0_send_34 : decode cX0_send 34 = .ok (.iadd, 1) := by decide +kernel
theorem dX0_send_35 : decode cX0_send 35 = .ok (.putfield 65, 3) := by decide +kernel
theorem dX0_send_38 : decode cX0_send 38 = .ok (.aload_n 0, 1) := by decide +kernel
theorem dX0_send_39 : decode cX0_send 39 = .ok (.getfield 24, 3) := by decide +kernel
theorem dX0_send_42 : decode cX0_send 42 = .ok (.iload_n 3, 1) := by decide +kernel
theorem dX0_send_43 : decode cX0_send 43 = .ok (.aload_n 0, 1) := by decide +kernel
theorem dX0_send_44 : decode cX0_send 44 = .ok (.iload_n 1, 1) := by decide +kernel
theorem dX0_send_45 : decode cX0_send 45 = .ok (.iload_n 2, 1) := by decide +kernel
theorem dX0_send_46 : decode cX0_send 46 = .ok (.invokevirtual 87, 3) := by decide +kernel
theorem dX0_send_49 : decode cX0_send 49 = .ok (.iastore, 1) := by decide +kernel
theorem dX0_send_50 : decode cX0_send 50 = .ok (.aload_n 0, 1) := by decide +kernel
theorem dX0_send_51 : decode cX0_send 51 = .ok (.iload_n 1, 1) := by decide +kernel
theorem dX0_send_52 : decode cX0_send 52 = .ok (.iload_n 2, 1) := by decide +kernel
theorem dX0_send_53 : decode cX0_send 53 = .ok (.invokevirtual 87, 3) := by decide +kernel
theorem dX0_send_56 : decode cX0_send 56 = .ok (.ireturn, 1) := by decide +kernel
set_option maxRecDepth 20000 in
theorem ggX0_goBy_X0_goOneSecond : GoodIn wsX0_goBy wsX0_goOneSecond := goodIn_r _ [5, 6, 7, 8, 9, 4, 10, 11, 12, 13, 14, 15, 16, 17, 18, 19, 20, 21, 22, 23, 24, 25, 26, 27, 28, 29, 30, 31, 32, 33, 34, 35, 36, 37, 38, 39, 40, 41, 42, 43, 44, 45, 46, 47, 48, 49, 50, 51, 52, 53, 54, 55, 56, 57, 58, 59, 60, 61, 62, 63] (by decide +kernel) (by decide +kernel)
set_option maxRecDepth 20000 in
theorem gX0_goBy_X0_goOneSecond : GoodIn wsX0_goBy (wsV RX0 90 RX0 yX0_goOneSecond wsX0_goOneSecond) := goodIn_app (goodIn_of _ (by decide +kernel)) ggX0_goBy_X0_goOneSecond
theorem dX0_goBy_0 : decode cX0_goBy 0 = .ok (.iconst 0, 1) := by decide +kernel
theorem dX0_goBy_1 : decode cX0_goBy 1 = .ok (.istore_n 2, 1) := by decide +kernel
theorem dX0_goBy_2 : decode cX0_goBy 2 = .ok (.iload_n 2, 1) := by decide +kernel
theorem dX0_goBy_3 : decode cX0_goBy 3 = .ok (.iload_n 1, 1) := by decide +kernel
theorem dX0_goBy_4 : decode cX0_goBy 4 = .ok (.if_icmp .ge 13, 3) := by decide +kernel
theorem dX0_goBy_7 : decode cX0_goBy 7 = .ok (.aload_n 0, 1) := by decide +kernel
theorem dX0_goBy_8 : decode cX0_goBy 8 = .ok (.invokevirtual 90, 3) := by decide +kernel
theorem dX0_goBy_11 : decode cX0_goBy 11 = .ok (.iinc 2 1, 3) := by decide +kernel
theorem dX0_goBy_14 : decode cX0_goBy 14 = .ok (.goto (-12), 3) := by decide +kernel
theorem dX0_goBy_17 : decode cX0_goBy 17 = .ok (.return_, 1) := by decide +kernel
set_option maxRecDepth 20000 in
theorem ggX0_goOneSecond_X0_speakOrPause : GoodIn wsX0_goOneSecond wsX0_speakOrPause := goodIn_r _ [6, 7, 8, 9, 10, 11, 12, 13, 14, 5, 15, 16, 43, 44, 45, 46, 47, 48, 49, 50, 51, 52, 53, 54, 55, 56, 57, 58, 59] (by decide +kernel) (by decide +kernel)
set_option maxRecDepth 20000 in
theorem gX0_goOneSecond_X0_speakOrPause : GoodIn wsX0_goOneSecond (wsV RX0 93 RX0 yX0_speakOrPause wsX0_speakOrPause) := goodIn_app (goodIn_of _ (by decide +kernel)) ggX0_goOneSecond_X0_speakOrPause
set_option maxRecDepth 20000 in
theorem ggX0_goOneSecond_X0_moveGlances : GoodIn wsX0_goOneSecond wsX0_moveGlances := goodIn_r _ [20, 21, 22, 23, 24, 25, 26, 5, 27, 28, 29, 7, 30, 31, 32, 33, 34, 35, 36, 37, 38, 39, 40, 41, 42, 43, 44, 45, 46, 47, 48, 49, 50, 51, 52, 53, 54, 55, 56, 57, 58, 59] (by decide +kernel) (by decide +kernel)
set_option maxRecDepth 20000 in
theorem gX0_goOneSecond_X0_moveGlances : GoodIn wsX0_goOneSecond (wsV RX0 96 RX0 yX0_moveGlances wsX0_moveGlances) := goodIn_app (goodIn_of _ (by decide +kernel)) ggX0_goOneSecond_X0_moveGlances
theorem dX0_goOneSecond_0 : decode cX0_goOneSecond 0 = .ok (.aload_n 0, 1) := by decide +kernel
theorem dX0_goOneSecond_1 : decode cX0_goOneSecond 1 = .ok (.invokevirtual 93, 3) := by decide +kernel
theorem dX0_goOneSecond_4 : decode cX0_goOneSecond 4 = .ok (.aload_n 0, 1) := by decide +kernel
theorem dX0_goOneSecond_5 : decode cX0_goOneSecond 5 = .ok (.invokevirtual 96, 3) := by decide +kernel
theorem dX0_goOneSecond_8 : decode cX0_goOneSecond 8 = .ok (.aload_n 0, 1) := by decide +kernel
theorem dX0_goOneSecond_9 : decode cX0_goOneSecond 9 = .ok (.dup, 1) := by decide +kernel
theorem dX0_goOneSecond_10 : decode cX0_goOneSecond 10 = .ok (.getfield 44, 3) := by decide +kernel
theorem dX0_goOneSecond_13 : decode cX0_goOneSecond 13 = .ok (.iconst 1, 1) := by decide +kernel
theorem dX0_goOneSecond_14 : decode cX0_goOneSecond 14 = .ok (.iadd, 1) := by decide +kernel
theorem dX0_goOneSecond_15 : decode cX0_goOneSecond 15 = .ok (.putfield 44, 3) := by decide +kernel
theorem dX0_goOneSecond_18 : decode cX0_goOneSecond 18 = .ok (.return_, 1) := by decide +kernel
set_option maxRecDepth 20000 in
theorem ggX0_speakOrPause_X0_beyondMultipleOfLimit : GoodIn wsX0_speakOrPause wsX0_beyondMultipleOfLimit := goodIn_r _ [10, 11, 12, 13, 14, 15, 16, 17, 18, 19, 20, 21, 22, 23, 24, 25, 26, 27, 28] (by decide +kernel) (by decide +kernel)
set_option maxRecDepth 20000 in
theorem gX0_speakOrPause_X0_beyondMultipleOfLimit : GoodIn wsX0_speakOrPause (wsV RX0 99 RX0 yX0_beyondMultipleOfLimit wsX0_beyondMultipleOfLimit) := goodIn_app (goodIn_of _ (by decide +kernel)) ggX0_speakOrPause_X0_beyondMultipleOfLimit
theorem dX0_speakOrPause_0 : decode cX0_speakOrPause 0 = .ok (.aload_n 0, 1) := by decide +kernel
theorem dX0_speakOrPause_1 : decode cX0_speakOrPause 1 = .ok (.getfield 47, 3) := by decide +kernel
theorem dX0_speakOrPause_4 : decode cX0_speakOrPause 4 = .ok (.iconst (-1), 1) := by decide +kernel
theorem dX0_speakOrPause_5 : decode cX0_speakOrPause 5 = .ok (.if_icmp .ne 35, 3) := by decide +kernel
theorem dX0_speakOrPause_8 : decode cX0_speakOrPause 8 = .ok (.aload_n 0, 1) := by decide +kernel
theorem dX0_speakOrPause_9 : decode cX0_speakOrPause 9 = .ok (.dup, 1) := by decide +kernel
theorem dX0_speakOrPause_10 : decode cX0_speakOrPause 10 = .ok (.getfield 53, 3) := by decide +kernel
theorem dX0_speakOrPause_13 : decode cX0_speakOrPause 13 = .ok (.iconst 1, 1) := by decide +kernel
theorem dX0_speakOrPause_14 : decode cX0_speakOrPause 14 = .ok (.iadd, 1) := by decide +kernel
theorem dX0_speakOrPause_15 : decode cX0_speakOrPause 15 = .ok (.putfield 53, 3) := by decide +kernel
theorem dX0_speakOrPause_18 : decode cX0_speakOrPause 18 = .ok (.aload_n 0, 1) := by decide +kernel
theorem dX0_speakOrPause_19 : decode cX0_speakOrPause 19 = .ok (.aload_n 0, 1) := by decide +kernel
theorem dX0_speakOrPause_20 : decode cX0_speakOrPause 20 = .ok (.getfield 53, 3) := by decide +kernel
theorem dX0_speakOrPause_23 : decode cX0_speakOrPause 23 = .ok (.invokevirtual 99, 3) := by decide +kernel
theorem dX0_speakOrPause_26 : decode cX0_speakOrPause 26 = .ok (.ifCond .ne 13, 3) := by decide +kernel
theorem dX0_speakOrPause_29 : decode cX0_speakOrPause 29 = .ok (.aload_n 0, 1) := by decide +kernel
theorem dX0_speakOrPause_30 : decode cX0_speakOrPause 30 = .ok (.dup, 1) := by decide +kernel
theorem dX0_speakOrPause_31 : decode cX0_speakOrPause 31 = .ok (.getfield 56, 3) := by decide +kernel
theorem dX0_speakOrPause_34 : decode cX0_speakOrPause 34 = .ok (.iconst 1, 1) := by decide +kernel
theorem dX0_speakOrPause_35 : decode cX0_speakOrPause 35 = .ok (.iadd, 1) := by decide +kernel
theorem dX0_speakOrPause_36 : decode cX0_speakOrPause 36 = .ok (.putfield 56, 3) := by decide +kernel
theorem dX0_speakOrPause_39 : decode cX0_speakOrPause 39 = .ok (.return_, 1) := by decide +kernel
theorem dX0_speakOrPause_40 : decode cX0_speakOrPause 40 = .ok (.aload_n 0, 1) := by decide +kernel
theorem dX0_speakOrPause_41 : decode cX0_speakOrPause 41 = .ok (.iconst 0, 1) := by decide +kernel
theorem dX0_speakOrPause_42 : decode cX0_speakOrPause 42 = .ok (.putfield 53, 3) := by decide +kernel
theorem dX0_speakOrPause_45 : decode cX0_speakOrPause 45 = .ok (.aload_n 0, 1) := by decide +kernel
theorem dX0_speakOrPause_46 : decode cX0_speakOrPause 46 = .ok (.getfield 9, 3) := by decide +kernel
theorem dX0_speakOrPause_49 : decode cX0_speakOrPause 49 = .ok (.aload_n 0, 1) := by decide +kernel
theorem dX0_speakOrPause_50 : decode cX0_speakOrPause 50 = .ok (.getfield 47, 3) := by decide +kernel
theorem dX0_speakOrPause_53 : decode cX0_speakOrPause 53 = .ok (.dup2, 1) := by decide +kernel
theorem dX0_speakOrPause_54 : decode cX0_speakOrPause 54 = .ok (.iaload, 1) := by decide +kernel
theorem dX0_speakOrPause_55 : decode cX0_speakOrPause 55 = .ok (.iconst 1, 1) := by decide +kernel
theorem dX0_speakOrPause_56 : decode cX0_speakOrPause 56 = .ok (.iadd, 1) := by decide +kernel
theorem dX0_speakOrPause_57 : decode cX0_speakOrPause 57 = .ok (.iastore, 1) := by decide +kernel
theorem dX0_speakOrPause_58 : decode cX0_speakOrPause 58 = .ok (.aload_n 0, 1) := by decide +kernel
theorem dX0_speakOrPause_59 : decode cX0_speakOrPause 59 = .ok (.dup, 1) := by decide +kernel
theorem dX0_speakOrPause_60 : decode cX0_speakOrPause 60 = .ok (.getfield 50, 3) := by decide +kernel
theorem dX0_speakOrPause_63 : decode cX0_speakOrPause 63 = .ok (.iconst 1, 1) := by decide +kernel
theorem dX0_speakOrPause_64 : decode cX0_speakOrPause 64 = .ok (.isub, 1) := by decide +kernel
theorem dX0_speakOrPause_65 : decode cX0_speakOrPause 65 = .ok (.putfield 50, 3) := by decide +kernel
theorem dX0_speakOrPause_68 : decode cX0_speakOrPause 68 = .ok (.aload_n 0, 1) := by decide +kernel
theorem dX0_speakOrPause_69 : decode cX0_speakOrPause 69 = .ok (.getfield 50, 3) := by decide +kernel
theorem dX0_speakOrPause_72 : decode cX0_speakOrPause 72 = .ok (.ifCond .ne 8, 3) := by decide +kernel
theorem dX0_speakOrPause_75 : decode cX0_speakOrPause 75 = .ok (.aload_n 0, 1) := by decide +kernel
theorem dX0_speakOrPause_76 : decode cX0_speakOrPause 76 = .ok (.iconst (-1), 1) := by decide +kernel
theorem dX0_speakOrPause_77 : decode cX0_speakOrPause 77 = .ok (.putfield 47, 3) := by decide +kernel
theorem dX0_speakOrPause_80 : decode cX0_speakOrPause 80 = .ok (.return_, 1) := by decide +kernel
set_option maxRecDepth 20000 in
theorem ggX0_moveGlances_X0_arrive : GoodIn wsX0_moveGlances wsX0_arrive := goodIn_r _ [8, 9, 10, 2, 11, 12, 13, 14, 15, 16, 17, 18, 19, 7, 20, 25, 26, 27, 28, 29, 30, 31, 32, 33, 34, 35, 36, 37, 38, 39, 40, 41] (by decide +kernel) (by decide +kernel)
set_option maxRecDepth 20000 in
theorem gX0_moveGlances_X0_arrive : GoodIn wsX0_moveGlances (wsV RX0 103 RX0 yX0_arrive wsX0_arrive) := goodIn_app (goodIn_of _ (by decide +kernel)) ggX0_moveGlances_X0_arrive
set_option maxRecDepth 20000 in
theorem ggX0_moveGlances_X0_forgetThoseOver : GoodIn wsX0_moveGlances wsX0_forgetThoseOver := goodIn_r _ [24, 1, 3, 17, 18, 19, 7, 20, 2, 25, 26, 27, 28, 29, 30, 31, 32, 33, 34, 35, 36, 37, 38, 39, 40, 41] (by decide +kernel) (by decide +kernel)
set_option maxRecDepth 20000 in
theorem gX0_moveGlances_X0_forgetThoseOver : GoodIn wsX0_moveGlances (wsV RX0 107 RX0 yX0_forgetThoseOver wsX0_forgetThoseOver) := goodIn_app (goodIn_of _ (by decide +kernel)) ggX0_moveGlances_X0_forgetThoseOver
theorem dX0_moveGlances_0 : decode cX0_moveGlances 0 = .ok (.iconst 0, 1) := by decide +kernel
theorem dX0_moveGlances_1 : decode cX0_moveGlances 1 = .ok (.istore_n 1, 1) := by decide +kernel
theorem dX0_moveGlances_2 : decode cX0_moveGlances 2 = .ok (.iload_n 1, 1) := by decide +kernel
theorem dX0_moveGlances_3 : decode cX0_moveGlances 3 = .ok (.aload_n 0, 1) := by decide +kernel
theorem dX0_moveGlances_4 : decode cX0_moveGlances 4 = .ok (.getfield 65, 3) := by decide +kernel
theorem dX0_moveGlances_7 : decode cX0_moveGlances 7 = .ok (.if_icmp .ge 24, 3) := by decide +kernel
theorem dX0_moveGlances_10 : decode cX0_moveGlances 10 = .ok (.aload_n 0, 1) := by decide +kernel
theorem dX0_moveGlances_11 : decode cX0_moveGlances 11 = .ok (.getfield 24, 3) := by decide +kernel
theorem dX0_moveGlances_14 : decode cX0_moveGlances 14 = .ok (.aload_n 0, 1) := by decide +kernel
theorem dX0_moveGlances_15 : decode cX0_moveGlances 15 = .ok (.getfield 30, 3) := by decide +kernel
theorem dX0_moveGlances_18 : decode cX0_moveGlances 18 = .ok (.iload_n 1, 1) := by decide +kernel
theorem dX0_moveGlances_19 : decode cX0_moveGlances 19 = .ok (.iaload, 1) := by decide +kernel
theorem dX0_moveGlances_20 : decode cX0_moveGlances 20 = .ok (.dup2, 1) := by decide +kernel
theorem dX0_moveGlances_21 : decode cX0_moveGlances 21 = .ok (.iaload, 1) := by decide +kernel
theorem dX0_moveGlances_22 : decode cX0_moveGlances 22 = .ok (.iconst 1, 1) := by decide +kernel
theorem dX0_moveGlances_23 : decode cX0_moveGlances 23 = .ok (.isub, 1) := by decide +kernel
theorem dX0_moveGlances_24 : decode cX0_moveGlances 24 = .ok (.iastore, 1) := by decide +kernel
theorem dX0_moveGlances_25 : decode cX0_moveGlances 25 = .ok (.iinc 1 1, 3) := by decide +kernel
theorem dX0_moveGlances_28 : decode cX0_moveGlances 28 = .ok (.goto (-26), 3) := by decide +kernel
theorem dX0_moveGlances_31 : decode cX0_moveGlances 31 = .ok (.iconst 0, 1) := by decide +kernel
theorem dX0_moveGlances_32 : decode cX0_moveGlances 32 = .ok (.istore_n 1, 1) := by decide +kernel
theorem dX0_moveGlances_33 : decode cX0_moveGlances 33 = .ok (.iload_n 1, 1) := by decide +kernel
theorem dX0_moveGlances_34 : decode cX0_moveGlances 34 = .ok (.aload_n 0, 1) := by decide +kernel
theorem dX0_moveGlances_35 : decode cX0_moveGlances 35 = .ok (.getfield 65, 3) := by decide +kernel
theorem dX0_moveGlances_38 : decode cX0_moveGlances 38 = .ok (.if_icmp .ge 37, 3) := by decide +kernel
theorem dX0_moveGlances_41 : decode cX0_moveGlances 41 = .ok (.aload_n 0, 1) := by decide +kernel
theorem dX0_moveGlances_42 : decode cX0_moveGlances 42 = .ok (.getfield 30, 3) := by decide +kernel
theorem dX0_moveGlances_45 : decode cX0_moveGlances 45 = .ok (.iload_n 1, 1) := by decide +kernel
theorem dX0_moveGlances_46 : decode cX0_moveGlances 46 = .ok (.iaload, 1) := by decide +kernel
theorem dX0_moveGlances_47 : decode cX0_moveGlances 47 = .ok (.istore_n 2, 1) := by decide +kernel
theorem dX0_moveGlances_48 : decode cX0_moveGlances 48 = .ok (.aload_n 0, 1) := by decide +kernel
theorem dX0_moveGlances_49 : decode cX0_moveGlances 49 = .ok (.getfield 24, 3) := by decide +kernel
theorem dX0_moveGlances_52 : decode cX0_moveGlances 52 = .ok (.iload_n 2, 1) := by decide +kernel
theorem dX0_moveGlances_53 : decode cX0_moveGlances 53 = .ok (.iaload, 1) := by decide +kernel
theorem dX0_moveGlances_54 : decode cX0_moveGlances 54 = .ok (.ifCond .ne 15, 3) := by decide +kernel
theorem dX0_moveGlances_57 : decode cX0_moveGlances 57 = .ok (.aload_n 0, 1) := by decide +kernel
theorem dX0_moveGlances_58 : decode cX0_moveGlances 58 = .ok (.iload_n 2, 1) := by decide +kernel
theorem dX0_moveGlances_59 : decode cX0_moveGlances 59 = .ok (.bipush 10, 2) := by decide +kernel
theorem dX0_moveGlances_61 : decode cX0_moveGlances 61 = .ok (.idiv, 1) := by decide +kernel
theorem dX0_moveGlances_62 : decode cX0_moveGlances 62 = .ok (.iload_n 2, 1) := by decide +kernel
theorem dX0_moveGlances_63 : decode cX0_moveGlances 63 = .ok (.bipush 10, 2) := by decide +kernel
theorem dX0_moveGlances_65 : decode cX0_moveGlances 65 = .ok (.irem, 1) := by decide +kernel
theorem dX0_moveGlances_66 : decode cX0_moveGlances 66 = .ok (.invokevirtual 103, 3) := by decide +kernel
theorem dX0_moveGlances_69 : decode cX0_moveGlances 69 = .ok (.iinc 1 1, 3) := by decide +kernel
theorem dX0_moveGlances_72 : decode cX0_moveGlances 72 = .ok (.goto (-39), 3) := by decide +kernel
theorem dX0_moveGlances_75 : decode cX0_moveGlances 75 = .ok (.aload_n 0, 1) := by decide +kernel
theorem dX0_moveGlances_76 : decode cX0_moveGlances 76 = .ok (.invokevirtual 107, 3) := by decide +kernel
theorem dX0_moveGlances_79 : decode cX0_moveGlances 79 = .ok (.return_, 1) := by decide +kernel
set_option maxRecDepth 20000 in
theorem ggX0_arrive_X1_pairOf : GoodIn wsX0_arrive wsX1_pairOf := goodIn_r _ [9] (by decide +kernel) (by decide +kernel)
set_option maxRecDepth 20000 in
theorem gX0_arrive_X1_pairOf_n84 : GoodIn wsX0_arrive (wsX1_pairOf) := ggX0_arrive_X1_pairOf
set_option maxRecDepth 20000 in
theorem ggX0_arrive_X0_isOnItsWay : GoodIn wsX0_arrive wsX0_isOnItsWay := goodIn_r _ [14, 3, 15, 16, 17, 18, 19, 20, 21, 22, 23, 24, 25, 26, 27, 28, 29, 30, 31] (by decide +kernel) (by decide +kernel)
set_option maxRecDepth 20000 in
theorem gX0_arrive_X0_isOnItsWay : GoodIn wsX0_arrive (wsV RX0 110 RX0 yX0_isOnItsWay wsX0_isOnItsWay) := goodIn_app (goodIn_of _ (by decide +kernel)) ggX0_arrive_X0_isOnItsWay
theorem dX0_arrive_0 : decode cX0_arrive 0 = .ok (.iload_n 1, 1) := by decide +kernel
theorem dX0_arrive_1 : decode cX0_arrive 1 = .ok (.iload_n 2, 1) := by decide +kernel
theorem dX0_arrive_2 : decode cX0_arrive 2 = .ok (.invokestatic 84, 3) := by decide +kernel
theorem dX0_arrive_5 : decode cX0_arrive 5 = .ok (.istore_n 3, 1) := by decide +kernel
theorem dX0_arrive_6 : decode cX0_arrive 6 = .ok (.iload_n 2, 1) := by decide +kernel
theorem dX0_arrive_7 : decode cX0_arrive 7 = .ok (.iload_n 1, 1) := by decide +kernel
theorem dX0_arrive_8 : decode cX0_arrive 8 = .ok (.invokestatic 84, 3) := by decide +kernel
theorem dX0_arrive_11 : decode cX0_arrive 11 = .ok (.istore 4, 2) := by decide +kernel
theorem dX0_arrive_13 : decode cX0_arrive 13 = .ok (.aload_n 0, 1) := by decide +kernel
theorem dX0_arrive_14 : decode cX0_arrive 14 = .ok (.iload 4, 2) := by decide +kernel
theorem dX0_arrive_16 : decode cX0_arrive 16 = .ok (.invokevirtual 110, 3) := by decide +kernel
theorem dX0_arrive_19 : decode cX0_arrive 19 = .ok (.ifCond .eq 44, 3) := by decide +kernel
theorem dX0_arrive_22 : decode cX0_arrive 22 = .ok (.aload_n 0, 1) := by decide +kernel
theorem dX0_arrive_23 : decode cX0_arrive 23 = .ok (.dup, 1) := by decide +kernel
theorem dX0_arrive_24 : decode cX0_arrive 24 = .ok (.getfield 59, 3) := by decide +kernel
theorem dX0_arrive_27 : decode cX0_arrive 27 = .ok (.iconst 1, 1) := by decide +kernel
theorem dX0_arrive_28 : decode cX0_arrive 28 = .ok (.iadd, 1) := by decide +kernel
theorem dX0_arrive_29 : decode cX0_arrive 29 = .ok (.putfield 59, 3) := by decide +kernel
theorem dX0_arrive_32 : decode cX0_arrive 32 = .ok (.aload_n 0, 1) := by decide +kernel
theorem dX0_arrive_33 : decode cX0_arrive 33 = .ok (.getfield 21, 3) := by decide +kernel
theorem dX0_arrive_36 : decode cX0_arrive 36 = .ok (.iload_n 1, 1) := by decide +kernel
theorem dX0_arrive_37 : decode cX0_arrive 37 = .ok (.dup2, 1) := by decide +kernel
theorem dX0_arrive_38 : decode cX0_arrive 38 = .ok (.iaload, 1) := by decide +kernel
theorem dX0_arrive_39 : decode cX0_arrive 39 = .ok (.iconst 3, 1) := by decide +kernel
theorem dX0_arrive_40 : decode cX0_arrive 40 = .ok (.iadd, 1) := by decide +kernel
theorem dX0_arrive_41 : decode cX0_arrive 41 = .ok (.iastore, 1) := by decide +kernel
theorem dX0_arrive_42 : decode cX0_arrive 42 = .ok (.aload_n 0, 1) := by decide +kernel
theorem dX0_arrive_43 : decode cX0_arrive 43 = .ok (.getfield 21, 3) := by decide +kernel
theorem dX0_arrive_46 : decode cX0_arrive 46 = .ok (.iload_n 2, 1) := by decide +kernel
theorem dX0_arrive_47 : decode cX0_arrive 47 = .ok (.dup2, 1) := by decide +kernel
theorem dX0_arrive_48 : decode cX0_arrive 48 = .ok (.iaload, 1) := by decide +kernel
theorem dX0_arrive_49 : decode cX0_arrive 49 = .ok (.iconst 3, 1) := by decide +kernel
theorem dX0_arrive_50 : decode cX0_arrive 50 = .ok (.iadd, 1) := by decide +kernel
theorem dX0_arrive_51 : decode cX0_arrive 51 = .ok (.iastore, 1) := by decide +kernel
theorem dX0_arrive_52 : decode cX0_arrive 52 = .ok (.aload_n 0, 1) := by decide +kernel
theorem dX0_arrive_53 : decode cX0_arrive 53 = .ok (.getfield 24, 3) := by decide +kernel
theorem dX0_arrive_56 : decode cX0_arrive 56 = .ok (.iload 4, 2) := by decide +kernel
theorem dX0_arrive_58 : decode cX0_arrive 58 = .ok (.iconst (-1), 1) := by decide +kernel
theorem dX0_arrive_59 : decode cX0_arrive 59 = .ok (.iastore, 1) := by decide +kernel
theorem dX0_arrive_60 : decode cX0_arrive 60 = .ok (.goto 44, 3) := by decide +kernel
theorem dX0_arrive_63 : decode cX0_arrive 63 = .ok (.aload_n 0, 1) := by decide +kernel
theorem dX0_arrive_64 : decode cX0_arrive 64 = .ok (.getfield 47, 3) := by decide +kernel
theorem dX0_arrive_67 : decode cX0_arrive 67 = .ok (.iload_n 2, 1) := by decide +kernel
theorem dX0_arrive_68 : decode cX0_arrive 68 = .ok (.if_icmp .ne 16, 3) := by decide +kernel
theorem dX0_arrive_71 : decode cX0_arrive 71 = .ok (.aload_n 0, 1) := by decide +kernel
theorem dX0_arrive_72 : decode cX0_arrive 72 = .ok (.dup, 1) := by decide +kernel
theorem dX0_arrive_73 : decode cX0_arrive 73 = .ok (.getfield 62, 3) := by decide +kernel
theorem dX0_arrive_76 : decode cX0_arrive 76 = .ok (.iconst 1, 1) := by decide +kernel
theorem dX0_arrive_77 : decode cX0_arrive 77 = .ok (.iadd, 1) := by decide +kernel
theorem dX0_arrive_78 : decode cX0_arrive 78 = .ok (.putfield 62, 3) := by decide +kernel
theorem dX0_arrive_81 : decode cX0_arrive 81 = .ok (.goto 23, 3) := by decide +kernel
theorem dX0_arrive_84 : decode cX0_arrive 84 = .ok (.aload_n 0, 1) := by decide +kernel
theorem dX0_arrive_85 : decode cX0_arrive 85 = .ok (.getfield 27, 3) := by decide +kernel
theorem dX0_arrive_88 : decode cX0_arrive 88 = .ok (.iload_n 3, 1) := by decide +kernel
theorem dX0_arrive_89 : decode cX0_arrive 89 = .ok (.dup2, 1) := by decide +kernel
theorem dX0_arrive_90 : decode cX0_arrive 90 = .ok (.iaload, 1) := by decide +kernel
theorem dX0_arrive_91 : decode cX0_arrive 91 = .ok (.iconst 1, 1) := by decide +kernel
theorem dX0_arrive_92 : decode cX0_arrive 92 = .ok (.iadd, 1) := by decide +kernel
theorem dX0_arrive_93 : decode cX0_arrive 93 = .ok (.iastore, 1) := by decide +kernel
theorem dX0_arrive_94 : decode cX0_arrive 94 = .ok (.aload_n 0, 1) := by decide +kernel
theorem dX0_arrive_95 : decode cX0_arrive 95 = .ok (.getfield 21, 3) := by decide +kernel
theorem dX0_arrive_98 : decode cX0_arrive 98 = .ok (.iload_n 1, 1) := by decide +kernel
theorem dX0_arrive_99 : decode cX0_arrive 99 = .ok (.dup2, 1) := by decide +kernel
theorem dX0_arrive_100 : decode cX0_arrive 100 = .ok (.iaload, 1) := by decide +kernel
theorem dX0_arrive_101 : decode cX0_arrive 101 = .ok (.iconst 1, 1) := by decide +kernel
theorem dX0_arrive_102 : decode cX0_arrive 102 = .ok (.iadd, 1) := by decide +kernel
theorem dX0_arrive_103 : decode cX0_arrive 103 = .ok (.iastore, 1) := by decide +kernel
theorem dX0_arrive_104 : decode cX0_arrive 104 = .ok (.aload_n 0, 1) := by decide +kernel
theorem dX0_arrive_105 : decode cX0_arrive 105 = .ok (.getfield 24, 3) := by decide +kernel
theorem dX0_arrive_108 : decode cX0_arrive 108 = .ok (.iload_n 3, 1) := by decide +kernel
theorem dX0_arrive_109 : decode cX0_arrive 109 = .ok (.iconst (-1), 1) := by decide +kernel
theorem dX0_arrive_110 : decode cX0_arrive 110 = .ok (.iastore, 1) := by decide +kernel
theorem dX0_arrive_111 : decode cX0_arrive 111 = .ok (.return_, 1) := by decide +kernel
set_option maxRecDepth 20000 in
theorem ggX0_forgetThoseOver_X0_isOnItsWay : GoodIn wsX0_forgetThoseOver wsX0_isOnItsWay := goodIn_r _ [7, 8, 9, 10, 11, 12, 13, 14, 15, 16, 17, 18, 19, 20, 21, 22, 23, 24, 25] (by decide +kernel) (by decide +kernel)
set_option maxRecDepth 20000 in
theorem gX0_forgetThoseOver_X0_isOnItsWay : GoodIn wsX0_forgetThoseOver (wsV RX0 110 RX0 yX0_isOnItsWay wsX0_isOnItsWay) := goodIn_app (goodIn_of _ (by decide +kernel)) ggX0_forgetThoseOver_X0_isOnItsWay
theorem dX0_forgetThoseOver_0 : decode cX0_forgetThoseOver 0 = .ok (.iconst 0, 1) := by decide +kernel
theorem dX0_forgetThoseOver_1 : decode cX0_forgetThoseOver 1 = .ok (.istore_n 1, 1) := by decide +kernel
theorem dX0_forgetThoseOver_2 : decode cX0_forgetThoseOver 2 = .ok (.iconst 0, 1) := by decide +kernel
theorem dX0_forgetThoseOver_3 : decode cX0_forgetThoseOver 3 = .ok (.istore_n 2, 1) := by decide +kernel
theorem dX0_forgetThoseOver_4 : decode cX0_forgetThoseOver 4 = .ok (.iload_n 2, 1) := by decide +kernel
theorem dX0_forgetThoseOver_5 : decode cX0_forgetThoseOver 5 = .ok (.aload_n 0, 1) := by decide +kernel
theorem dX0_forgetThoseOver_6 : decode cX0_forgetThoseOver 6 = .ok (.getfield 65, 3) := by decide +kernel
theorem dX0_forgetThoseOver_9 : decode cX0_forgetThoseOver 9 = .ok (.if_icmp .ge 34, 3) := by decide +kernel
theorem dX0_forgetThoseOver_12 : decode cX0_forgetThoseOver 12 = .ok (.aload_n 0, 1) := by decide +kernel
theorem dX0_forgetThoseOver_13 : decode cX0_forgetThoseOver 13 = .ok (.getfield 30, 3) := by decide +kernel
theorem dX0_forgetThoseOver_16 : decode cX0_forgetThoseOver 16 = .ok (.iload_n 2, 1) := by decide +kernel
theorem dX0_forgetThoseOver_17 : decode cX0_forgetThoseOver 17 = .ok (.iaload, 1) := by decide +kernel
theorem dX0_forgetThoseOver_18 : decode cX0_forgetThoseOver 18 = .ok (.istore_n 3, 1) := by decide +kernel
theorem dX0_forgetThoseOver_19 : decode cX0_forgetThoseOver 19 = .ok (.aload_n 0, 1) := by decide +kernel
theorem dX0_forgetThoseOver_20 : decode cX0_forgetThoseOver 20 = .ok (.iload_n 3, 1) := by decide +kernel
theorem dX0_forgetThoseOver_21 : decode cX0_forgetThoseOver 21 = .ok (.invokevirtual 110, 3) := by decide +kernel
theorem dX0_forgetThoseOver_24 : decode cX0_forgetThoseOver 24 = .ok (.ifCond .eq 13, 3) := by decide +kernel
theorem dX0_forgetThoseOver_27 : decode cX0_forgetThoseOver 27 = .ok (.aload_n 0, 1) := by decide +kernel
theorem dX0_forgetThoseOver_28 : decode cX0_forgetThoseOver 28 = .ok (.getfield 30, 3) := by decide +kernel
theorem dX0_forgetThoseOver_31 : decode cX0_forgetThoseOver 31 = .ok (.iload_n 1, 1) := by decide +kernel
theorem dX0_forgetThoseOver_32 : decode cX0_forgetThoseOver 32 = .ok (.iload_n 3, 1) := by decide +kernel
theorem dX0_forgetThoseOver_33 : decode cX0_forgetThoseOver 33 = .ok (.iastore, 1) := by decide +kernel
theorem dX0_forgetThoseOver_34 : decode cX0_forgetThoseOver 34 = .ok (.iinc 1 1, 3) := by decide +kernel
theorem dX0_forgetThoseOver_37 : decode cX0_forgetThoseOver 37 = .ok (.iinc 2 1, 3) := by decide +kernel
theorem dX0_forgetThoseOver_40 : decode cX0_forgetThoseOver 40 = .ok (.goto (-36), 3) := by decide +kernel
theorem dX0_forgetThoseOver_43 : decode cX0_forgetThoseOver 43 = .ok (.aload_n 0, 1) := by decide +kernel
theorem dX0_forgetThoseOver_44 : decode cX0_forgetThoseOver 44 = .ok (.iload_n 1, 1) := by decide +kernel
theorem dX0_forgetThoseOver_45 : decode cX0_forgetThoseOver 45 = .ok (.putfield 65, 3) := by decide +kernel
theorem dX0_forgetThoseOver_48 : decode cX0_forgetThoseOver 48 = .ok (.return_, 1) := by decide +kernel
theorem dX0_isOnItsWay_0 : decode cX0_isOnItsWay 0 = .ok (.aload_n 0, 1) := by decide +kernel
theorem dX0_isOnItsWay_1 : decode cX0_isOnItsWay 1 = .ok (.getfield 24, 3) := by decide +kernel
theorem dX0_isOnItsWay_4 : decode cX0_isOnItsWay 4 = .ok (.iload_n 1, 1) := by decide +kernel
theorem dX0_isOnItsWay_5 : decode cX0_isOnItsWay 5 = .ok (.iaload, 1) := by decide +kernel
theorem dX0_isOnItsWay_6 : decode cX0_isOnItsWay 6 = .ok (.iconst (-1), 1) := by decide +kernel
theorem dX0_isOnItsWay_7 : decode cX0_isOnItsWay 7 = .ok (.if_icmp .eq 7, 3) := by decide +kernel
theorem dX0_isOnItsWay_10 : decode cX0_isOnItsWay 10 = .ok (.iconst 1, 1) := by decide +kernel
theorem dX0_isOnItsWay_11 : decode cX0_isOnItsWay 11 = .ok (.goto 4, 3) := by decide +kernel
theorem dX0_isOnItsWay_14 : decode cX0_isOnItsWay 14 = .ok (.iconst 0, 1) := by decide +kernel
theorem dX0_isOnItsWay_15 : decode cX0_isOnItsWay 15 = .ok (.ireturn, 1) := by decide +kernel
set_option maxRecDepth 20000 in
theorem ggX0_timeToGo_X0_isOnItsWay : GoodIn wsX0_timeToGo wsX0_isOnItsWay := goodIn_r _ [6, 1, 7, 8, 9, 10, 11, 12, 13, 14, 15, 16, 17, 18, 19, 20, 21, 22, 23] (by decide +kernel) (by decide +kernel)
set_option maxRecDepth 20000 in
theorem gX0_timeToGo_X0_isOnItsWay : GoodIn wsX0_timeToGo (wsV RX0 110 RX0 yX0_isOnItsWay wsX0_isOnItsWay) := goodIn_app (goodIn_of _ (by decide +kernel)) ggX0_timeToGo_X0_isOnItsWay
theorem dX0_timeToGo_0 : decode cX0_timeToGo 0 = .ok (.aload_n 0, 1) := by decide +kernel
theorem dX0_timeToGo_1 : decode cX0_timeToGo 1 = .ok (.iload_n 1, 1) := by decide +kernel
theorem dX0_timeToGo_2 : decode cX0_timeToGo 2 = .ok (.invokevirtual 110, 3) := by decide +kernel
theorem dX0_timeToGo_5 : decode cX0_timeToGo 5 = .ok (.ifCond .eq 12, 3) := by decide +kernel
theorem dX0_timeToGo_8 : decode cX0_timeToGo 8 = .ok (.aload_n 0, 1) := by decide +kernel
theorem dX0_timeToGo_9 : decode cX0_timeToGo 9 = .ok (.getfield 24, 3) := by decide +kernel
theorem dX0_timeToGo_12 : decode cX0_timeToGo 12 = .ok (.iload_n 1, 1) := by decide +kernel
theorem dX0_timeToGo_13 : decode cX0_timeToGo 13 = .ok (.iaload, 1) := by decide +kernel
theorem dX0_timeToGo_14 : decode cX0_timeToGo 14 = .ok (.goto 4, 3) := by decide +kernel
theorem dX0_timeToGo_17 : decode cX0_timeToGo 17 = .ok (.iconst 0, 1) := by decide +kernel
theorem dX0_timeToGo_18 : decode cX0_timeToGo 18 = .ok (.ireturn, 1) := by decide +kernel
theorem dX0_seatsBetween_0 : decode cX0_seatsBetween 0 = .ok (.iload_n 1, 1) := by decide +kernel
theorem dX0_seatsBetween_1 : decode cX0_seatsBetween 1 = .ok (.iload_n 2, 1) := by decide +kernel
theorem dX0_seatsBetween_2 : decode cX0_seatsBetween 2 = .ok (.isub, 1) := by decide +kernel
theorem dX0_seatsBetween_3 : decode cX0_seatsBetween 3 = .ok (.invokestatic 114, 3) := by decide +kernel
theorem dX0_seatsBetween_6 : decode cX0_seatsBetween 6 = .ok (.istore_n 3, 1) := by decide +kernel
theorem dX0_seatsBetween_7 : decode cX0_seatsBetween 7 = .ok (.iload_n 3, 1) := by decide +kernel
theorem dX0_seatsBetween_8 : decode cX0_seatsBetween 8 = .ok (.aload_n 0, 1) := by decide +kernel
theorem dX0_seatsBetween_9 : decode cX0_seatsBetween 9 = .ok (.getfield 41, 3) := by decide +kernel
theorem dX0_seatsBetween_12 : decode cX0_seatsBetween 12 = .ok (.iload_n 3, 1) := by decide +kernel
theorem dX0_seatsBetween_13 : decode cX0_seatsBetween 13 = .ok (.isub, 1) := by decide +kernel
theorem dX0_seatsBetween_14 : decode cX0_seatsBetween 14 = .ok (.invokestatic 119, 3) := by decide +kernel
theorem dX0_seatsBetween_17 : decode cX0_seatsBetween 17 = .ok (.ireturn, 1) := by decide +kernel
set_option maxRecDepth 20000 in
theorem ggX0_wayOf_X0_seatsBetween : GoodIn wsX0_wayOf wsX0_seatsBetween := goodIn_r _ [5, 6, 7, 8, 9, 10, 11, 12, 13, 14, 15, 16, 17, 18, 19, 20, 21, 22, 23, 24, 25, 26, 27, 28, 29, 30] (by decide +kernel) (by decide +kernel)
set_option maxRecDepth 20000 in
theorem gX0_wayOf_X0_seatsBetween : GoodIn wsX0_wayOf (wsV RX0 122 RX0 yX0_seatsBetween wsX0_seatsBetween) := goodIn_app (goodIn_of _ (by decide +kernel)) ggX0_wayOf_X0_seatsBetween
theorem dX0_wayOf_0 : decode cX0_wayOf 0 = .ok (.iconst 2, 1) := by decide +kernel
theorem dX0_wayOf_1 : decode cX0_wayOf 1 = .ok (.aload_n 0, 1) := by decide +kernel
theorem dX0_wayOf_2 : decode cX0_wayOf 2 = .ok (.iload_n 1, 1) := by decide +kernel
theorem dX0_wayOf_3 : decode cX0_wayOf 3 = .ok (.iload_n 2, 1) := by decide +kernel
theorem dX0_wayOf_4 : decode cX0_wayOf 4 = .ok (.invokevirtual 122, 3) := by decide +kernel
theorem dX0_wayOf_7 : decode cX0_wayOf 7 = .ok (.imul, 1) := by decide +kernel
theorem dX0_wayOf_8 : decode cX0_wayOf 8 = .ok (.ireturn, 1) := by decide +kernel
set_option maxRecDepth 20000 in
theorem ggX0_fateOf_X1_pairOf : GoodIn wsX0_fateOf wsX1_pairOf := goodIn_r _ [5] (by decide +kernel) (by decide +kernel)
set_option maxRecDepth 20000 in
theorem gX0_fateOf_X1_pairOf_n84 : GoodIn wsX0_fateOf (wsX1_pairOf) := ggX0_fateOf_X1_pairOf
set_option maxRecDepth 20000 in
theorem ggX0_fateOf_X0_timeToGo : GoodIn wsX0_fateOf wsX0_timeToGo := goodIn_r _ [10, 11, 12, 13, 14, 9, 15, 32, 33, 34, 35, 36, 37, 38, 39, 40, 41, 42, 43, 44, 45, 46, 47, 48] (by decide +kernel) (by decide +kernel)
set_option maxRecDepth 20000 in
theorem gX0_fateOf_X0_timeToGo : GoodIn wsX0_fateOf (wsV RX0 125 RX0 yX0_timeToGo wsX0_timeToGo) := goodIn_app (goodIn_of _ (by decide +kernel)) ggX0_fateOf_X0_timeToGo
set_option maxRecDepth 20000 in
theorem ggX0_fateOf_X0_wayOf : GoodIn wsX0_fateOf wsX0_wayOf := goodIn_r _ [19, 20, 21, 22, 9, 23, 24, 25, 26, 27, 28, 29, 30, 31, 32, 33, 34, 35, 36, 37, 38, 39, 40, 41, 42, 43, 44, 45, 46, 47, 48] (by decide +kernel) (by decide +kernel)
set_option maxRecDepth 20000 in
theorem gX0_fateOf_X0_wayOf : GoodIn wsX0_fateOf (wsV RX0 87 RX0 yX0_wayOf wsX0_wayOf) := goodIn_app (goodIn_of _ (by decide +kernel)) ggX0_fateOf_X0_wayOf
theorem dX0_fateOf_0 : decode cX0_fateOf 0 = .ok (.aload_n 0, 1) := by decide +kernel
theorem dX0_fateOf_1 : decode cX0_fateOf 1 = .ok (.iload_n 2, 1) := by decide +kernel
theorem dX0_fateOf_2 : decode cX0_fateOf 2 = .ok (.iload_n 1, 1) := by decide +kernel
theorem dX0_fateOf_3 : decode cX0_fateOf 3 = .ok (.invokestatic 84, 3) := by decide +kernel
theorem dX0_fateOf_6 : decode cX0_fateOf 6 = .ok (.invokevirtual 125, 3) := by decide +kernel
theorem dX0_fateOf_9 : decode cX0_fateOf 9 = .ok (.iload_n 3, 1) := by decide +kernel
theorem dX0_fateOf_10 : decode cX0_fateOf 10 = .ok (.if_icmp .le 5, 3) := by decide +kernel
theorem dX0_fateOf_13 : decode cX0_fateOf 13 = .ok (.iconst 3, 1) := by decide +kernel
theorem dX0_fateOf_14 : decode cX0_fateOf 14 = .ok (.ireturn, 1) := by decide +kernel
theorem dX0_fateOf_15 : decode cX0_fateOf 15 = .ok (.aload_n 0, 1) := by decide +kernel
theorem dX0_fateOf_16 : decode cX0_fateOf 16 = .ok (.getfield 47, 3) := by decide +kernel
theorem dX0_fateOf_19 : decode cX0_fateOf 19 = .ok (.iload_n 2, 1) := by decide +kernel
theorem dX0_fateOf_20 : decode cX0_fateOf 20 = .ok (.if_icmp .ne 22, 3) := by decide +kernel
theorem dX0_fateOf_23 : decode cX0_fateOf 23 = .ok (.aload_n 0, 1) := by decide +kernel
theorem dX0_fateOf_24 : decode cX0_fateOf 24 = .ok (.getfield 50, 3) := by decide +kernel
theorem dX0_fateOf_27 : decode cX0_fateOf 27 = .ok (.iload_n 3, 1) := by decide +kernel
theorem dX0_fateOf_28 : decode cX0_fateOf 28 = .ok (.aload_n 0, 1) := by decide +kernel
theorem dX0_fateOf_29 : decode cX0_fateOf 29 = .ok (.iload_n 1, 1) := by decide +kernel
theorem dX0_fateOf_30 : decode cX0_fateOf 30 = .ok (.iload_n 2, 1) := by decide +kernel
theorem dX0_fateOf_31 : decode cX0_fateOf 31 = .ok (.invokevirtual 87, 3) := by decide +kernel
theorem dX0_fateOf_34 : decode cX0_fateOf 34 = .ok (.iadd, 1) := by decide +kernel
theorem dX0_fateOf_35 : decode cX0_fateOf 35 = .ok (.if_icmp .le 7, 3) := by decide +kernel
theorem dX0_fateOf_38 : decode cX0_fateOf 38 = .ok (.iconst 1, 1) := by decide +kernel
theorem dX0_fateOf_39 : decode cX0_fateOf 39 = .ok (.goto 4, 3) := by decide +kernel
theorem dX0_fateOf_42 : decode cX0_fateOf 42 = .ok (.iconst 0, 1) := by decide +kernel
theorem dX0_fateOf_43 : decode cX0_fateOf 43 = .ok (.istore 4, 2) := by decide +kernel
theorem dX0_fateOf_45 : decode cX0_fateOf 45 = .ok (.iload 4, 2) := by decide +kernel
theorem dX0_fateOf_47 : decode cX0_fateOf 47 = .ok (.ifCond .eq 7, 3) := by decide +kernel
theorem dX0_fateOf_50 : decode cX0_fateOf 50 = .ok (.iconst 0, 1) := by decide +kernel
theorem dX0_fateOf_51 : decode cX0_fateOf 51 = .ok (.goto 4, 3) := by decide +kernel
theorem dX0_fateOf_54 : decode cX0_fateOf 54 = .ok (.iconst 1, 1) := by decide +kernel
theorem dX0_fateOf_55 : decode cX0_fateOf 55 = .ok (.ireturn, 1) := by decide +kernel
set_option maxRecDepth 20000 in
theorem ggX0_untilPauseCounts_X0_beyondMultipleOfLimit : GoodIn wsX0_untilPauseCounts wsX0_beyondMultipleOfLimit := goodIn_r _ [9, 2, 10, 11, 12, 13, 14, 15, 16, 17, 18, 19, 20, 21, 22, 23, 24, 25, 26] (by decide +kernel) (by decide +kernel)
set_option maxRecDepth 20000 in
theorem gX0_untilPauseCounts_X0_beyondMultipleOfLimit : GoodIn wsX0_untilPauseCounts (wsV RX0 99 RX0 yX0_beyondMultipleOfLimit wsX0_beyondMultipleOfLimit) := goodIn_app (goodIn_of _ (by decide +kernel)) ggX0_untilPauseCounts_X0_beyondMultipleOfLimit
theorem dX0_untilPauseCounts_0 : decode cX0_untilPauseCounts 0 = .ok (.aload_n 0, 1) := by decide +kernel
theorem dX0_untilPauseCounts_1 : decode cX0_untilPauseCounts 1 = .ok (.getfield 47, 3) := by decide +kernel
theorem dX0_untilPauseCounts_4 : decode cX0_untilPauseCounts 4 = .ok (.iconst (-1), 1) := by decide +kernel
theorem dX0_untilPauseCounts_5 : decode cX0_untilPauseCounts 5 = .ok (.if_icmp .ne 19, 3) := by decide +kernel
theorem dX0_untilPauseCounts_8 : decode cX0_untilPauseCounts 8 = .ok (.aload_n 0, 1) := by decide +kernel
theorem dX0_untilPauseCounts_9 : decode cX0_untilPauseCounts 9 = .ok (.getfield 33, 3) := by decide +kernel
theorem dX0_untilPauseCounts_12 : decode cX0_untilPauseCounts 12 = .ok (.aload_n 0, 1) := by decide +kernel
theorem dX0_untilPauseCounts_13 : decode cX0_untilPauseCounts 13 = .ok (.aload_n 0, 1) := by decide +kernel
theorem dX0_untilPauseCounts_14 : decode cX0_untilPauseCounts 14 = .ok (.getfield 53, 3) := by decide +kernel
theorem dX0_untilPauseCounts_17 : decode cX0_untilPauseCounts 17 = .ok (.invokevirtual 99, 3) := by decide +kernel
theorem dX0_untilPauseCounts_20 : decode cX0_untilPauseCounts 20 = .ok (.isub, 1) := by decide +kernel
theorem dX0_untilPauseCounts_21 : decode cX0_untilPauseCounts 21 = .ok (.goto 12, 3) := by decide +kernel
theorem dX0_untilPauseCounts_24 : decode cX0_untilPauseCounts 24 = .ok (.aload_n 0, 1) := by decide +kernel
theorem dX0_untilPauseCounts_25 : decode cX0_untilPauseCounts 25 = .ok (.getfield 50, 3) := by decide +kernel
theorem dX0_untilPauseCounts_28 : decode cX0_untilPauseCounts 28 = .ok (.aload_n 0, 1) := by decide +kernel
theorem dX0_untilPauseCounts_29 : decode cX0_untilPauseCounts 29 = .ok (.getfield 33, 3) := by decide +kernel
theorem dX0_untilPauseCounts_32 : decode cX0_untilPauseCounts 32 = .ok (.iadd, 1) := by decide +kernel
theorem dX0_untilPauseCounts_33 : decode cX0_untilPauseCounts 33 = .ok (.ireturn, 1) := by decide +kernel
theorem dX0_beyondMultipleOfLimit_0 : decode cX0_beyondMultipleOfLimit 0 = .ok (.aload_n 0, 1) := by decide +kernel
theorem dX0_beyondMultipleOfLimit_1 : decode cX0_beyondMultipleOfLimit 1 = .ok (.getfield 33, 3) := by decide +kernel
theorem dX0_beyondMultipleOfLimit_4 : decode cX0_beyondMultipleOfLimit 4 = .ok (.ifCond .le 12, 3) := by decide +kernel
theorem dX0_beyondMultipleOfLimit_7 : decode cX0_beyondMultipleOfLimit 7 = .ok (.iload_n 1, 1) := by decide +kernel
theorem dX0_beyondMultipleOfLimit_8 : decode cX0_beyondMultipleOfLimit 8 = .ok (.aload_n 0, 1) := by decide +kernel
theorem dX0_beyondMultipleOfLimit_9 : decode cX0_beyondMultipleOfLimit 9 = .ok (.getfield 33, 3) := by decide +kernel
theorem dX0_beyondMultipleOfLimit_12 : decode cX0_beyondMultipleOfLimit 12 = .ok (.irem, 1) := by decide +kernel
theorem dX0_beyondMultipleOfLimit_13 : decode cX0_beyondMultipleOfLimit 13 = .ok (.goto 4, 3) := by decide +kernel
theorem dX0_beyondMultipleOfLimit_16 : decode cX0_beyondMultipleOfLimit 16 = .ok (.iconst 0, 1) := by decide +kernel
theorem dX0_beyondMultipleOfLimit_17 : decode cX0_beyondMultipleOfLimit 17 = .ok (.ireturn, 1) := by decide +kernel
theorem dX0_sumUnsaidByGuests_0 : decode cX0_sumUnsaidByGuests 0 = .ok (.iconst 0, 1) := by decide +kernel
theorem dX0_sumUnsaidByGuests_1 : decode cX0_sumUnsaidByGuests 1 = .ok (.istore_n 1, 1) := by decide +kernel
theorem dX0_sumUnsaidByGuests_2 : decode cX0_sumUnsaidByGuests 2 = .ok (.iconst 0, 1) := by decide +kernel
theorem dX0_sumUnsaidByGuests_3 : decode cX0_sumUnsaidByGuests 3 = .ok (.istore_n 2, 1) := by decide +kernel
theorem dX0_sumUnsaidByGuests_4 : decode cX0_sumUnsaidByGuests 4 = .ok (.iload_n 2, 1) := by decide +kernel
theorem dX0_sumUnsaidByGuests_5 : decode cX0_sumUnsaidByGuests 5 = .ok (.aload_n 0, 1) := by decide +kernel
theorem dX0_sumUnsaidByGuests_6 : decode cX0_sumUnsaidByGuests 6 = .ok (.getfield 41, 3) := by decide +kernel
theorem dX0_sumUnsaidByGuests_9 : decode cX0_sumUnsaidByGuests 9 = .ok (.if_icmp .ge 18, 3) := by decide +kernel
theorem dX0_sumUnsaidByGuests_12 : decode cX0_sumUnsaidByGuests 12 = .ok (.iload_n 1, 1) := by decide +kernel
theorem dX0_sumUnsaidByGuests_13 : decode cX0_sumUnsaidByGuests 13 = .ok (.aload_n 0, 1) := by decide +kernel
theorem dX0_sumUnsaidByGuests_14 : decode cX0_sumUnsaidByGuests 14 = .ok (.getfield 21, 3) := by decide +kernel
theorem dX0_sumUnsaidByGuests_17 : decode cX0_sumUnsaidByGuests 17 = .ok (.iload_n 2, 1) := by decide +kernel
theorem dX0_sumUnsaidByGuests_18 : decode cX0_sumUnsaidByGuests 18 = .ok (.iaload, 1) := by decide +kernel
theorem dX0_sumUnsaidByGuests_19 : decode cX0_sumUnsaidByGuests 19 = .ok (.iadd, 1) := by decide +kernel
theorem dX0_sumUnsaidByGuests_20 : decode cX0_sumUnsaidByGuests 20 = .ok (.istore_n 1, 1) := by decide +kernel
theorem dX0_sumUnsaidByGuests_21 : decode cX0_sumUnsaidByGuests 21 = .ok (.iinc 2 1, 3) := by decide +kernel
theorem dX0_sumUnsaidByGuests_24 : decode cX0_sumUnsaidByGuests 24 = .ok (.goto (-20), 3) := by decide +kernel
theorem dX0_sumUnsaidByGuests_27 : decode cX0_sumUnsaidByGuests 27 = .ok (.iload_n 1, 1) := by decide +kernel
theorem dX0_sumUnsaidByGuests_28 : decode cX0_sumUnsaidByGuests 28 = .ok (.ireturn, 1) := by decide +kernel
set_option maxRecDepth 20000 in
theorem ggX0_sumUnsaid_X0_sumUnsaidByGuests : GoodIn wsX0_sumUnsaid wsX0_sumUnsaidByGuests := goodIn_r _ [6, 7, 8, 9, 10, 11, 12, 13, 14, 15, 16, 17, 18, 19, 20, 21, 22, 23, 24, 25] (by decide +kernel) (by decide +kernel)
set_option maxRecDepth 20000 in
theorem gX0_sumUnsaid_X0_sumUnsaidByGuests : GoodIn wsX0_sumUnsaid (wsV RX0 128 RX0 yX0_sumUnsaidByGuests wsX0_sumUnsaidByGuests) := goodIn_app (goodIn_of _ (by decide +kernel)) ggX0_sumUnsaid_X0_sumUnsaidByGuests
theorem dX0_sumUnsaid_0 : decode cX0_sumUnsaid 0 = .ok (.aload_n 0, 1) := by decide +kernel
theorem dX0_sumUnsaid_1 : decode cX0_sumUnsaid 1 = .ok (.invokevirtual 128, 3) := by decide +kernel
theorem dX0_sumUnsaid_4 : decode cX0_sumUnsaid 4 = .ok (.aload_n 0, 1) := by decide +kernel
theorem dX0_sumUnsaid_5 : decode cX0_sumUnsaid 5 = .ok (.getfield 56, 3) := by decide +kernel
theorem dX0_sumUnsaid_8 : decode cX0_sumUnsaid 8 = .ok (.iadd, 1) := by decide +kernel
theorem dX0_sumUnsaid_9 : decode cX0_sumUnsaid 9 = .ok (.ireturn, 1) := by decide +kernel
set_option maxRecDepth 20000 in
theorem ggX0_rate_X0_sumUnsaid : GoodIn wsX0_rate wsX0_sumUnsaid := goodIn_r _ [13, 14, 15, 16, 17, 12, 18, 1, 19, 20, 21, 22, 23, 24, 25, 26, 27, 28, 29, 30, 31, 32, 33, 34, 35, 36] (by decide +kernel) (by decide +kernel)
set_option maxRecDepth 20000 in
theorem gX0_rate_X0_sumUnsaid : GoodIn wsX0_rate (wsV RX0 132 RX0 yX0_sumUnsaid wsX0_sumUnsaid) := goodIn_app (goodIn_of _ (by decide +kernel)) ggX0_rate_X0_sumUnsaid
theorem dX0_rate_0 : decode cX0_rate 0 = .ok (.aload_n 0, 1) := by decide +kernel
theorem dX0_rate_1 : decode cX0_rate 1 = .ok (.getfield 41, 3) := by decide +kernel
theorem dX0_rate_4 : decode cX0_rate 4 = .ok (.ifCond .le 15, 3) := by decide +kernel
theorem dX0_rate_7 : decode cX0_rate 7 = .ok (.aload_n 0, 1) := by decide +kernel
theorem dX0_rate_8 : decode cX0_rate 8 = .ok (.invokevirtual 132, 3) := by decide +kernel
theorem dX0_rate_11 : decode cX0_rate 11 = .ok (.aload_n 0, 1) := by decide +kernel
theorem dX0_rate_12 : decode cX0_rate 12 = .ok (.getfield 41, 3) := by decide +kernel
theorem dX0_rate_15 : decode cX0_rate 15 = .ok (.idiv, 1) := by decide +kernel
theorem dX0_rate_16 : decode cX0_rate 16 = .ok (.goto 4, 3) := by decide +kernel
theorem dX0_rate_19 : decode cX0_rate 19 = .ok (.iconst 0, 1) := by decide +kernel
theorem dX0_rate_20 : decode cX0_rate 20 = .ok (.istore_n 1, 1) := by decide +kernel
theorem dX0_rate_21 : decode cX0_rate 21 = .ok (.iconst 0, 1) := by decide +kernel
theorem dX0_rate_22 : decode cX0_rate 22 = .ok (.bipush 10, 2) := by decide +kernel
theorem dX0_rate_24 : decode cX0_rate 24 = .ok (.iload_n 1, 1) := by decide +kernel
theorem dX0_rate_25 : decode cX0_rate 25 = .ok (.iconst 4, 1) := by decide +kernel
theorem dX0_rate_26 : decode cX0_rate 26 = .ok (.isub, 1) := by decide +kernel
theorem dX0_rate_27 : decode cX0_rate 27 = .ok (.invokestatic 114, 3) := by decide +kernel
theorem dX0_rate_30 : decode cX0_rate 30 = .ok (.isub, 1) := by decide +kernel
theorem dX0_rate_31 : decode cX0_rate 31 = .ok (.invokestatic 135, 3) := by decide +kernel
theorem dX0_rate_34 : decode cX0_rate 34 = .ok (.ireturn, 1) := by decide +kernel
end
section
set_option maxRecDepth 20000 in
theorem ggX1_init_X0_init : GoodIn wsX1_init wsX0_init := goodIn_r _ [11, 12, 2, 3, 13, 14, 15, 16, 17, 18, 19, 20, 21, 22, 23, 24, 6, 25, 26, 27, 28, 29, 30, 31, 32, 33, 34, 35, 36, 37, 38, 39, 40, 41, 42, 43, 44, 45, 46, 47, 48, 49, 50, 51, 52, 53, 54, 55] (by decide +kernel) (by decide +kernel)
set_option maxRecDepth 20000 in
theorem gX1_init_X0_init : GoodIn wsX1_init (wsX0_init) := ggX1_init_X0_init
theorem dX1_init_0 : decode cX1_init 0 = .ok (.aload_n 0, 1) := by decide +kernel
theorem dX1_init_1 : decode cX1_init 1 = .ok (.invokespecial 3, 3) := by decide +kernel
theorem dX1_init_4 : decode cX1_init 4 = .ok (.aload_n 0, 1) := by decide +kernel
theorem dX1_init_5 : decode cX1_init 5 = .ok (.new 9, 3) := by decide +kernel
theorem dX1_init_8 : decode cX1_init 8 = .ok (.dup, 1) := by decide +kernel
theorem dX1_init_9 : decode cX1_init 9 = .ok (.invokespecial 11, 3) := by decide +kernel
theorem dX1_init_12 : decode cX1_init 12 = .ok (.putfield 12, 3) := by decide +kernel
theorem dX1_init_15 : decode cX1_init 15 = .ok (.aload_n 0, 1) := by decide +kernel
theorem dX1_init_16 : decode cX1_init 16 = .ok (.new 9, 3) := by decide +kernel
theorem dX1_init_19 : decode cX1_init 19 = .ok (.dup, 1) := by decide +kernel
theorem dX1_init_20 : decode cX1_init 20 = .ok (.invokespecial 11, 3) := by decide +kernel
theorem dX1_init_23 : decode cX1_init 23 = .ok (.putfield 16, 3) := by decide +kernel
theorem dX1_init_26 : decode cX1_init 26 = .ok (.return_, 1) := by decide +kernel
set_option maxRecDepth 20000 in
theorem ggX1_newDinner_X1_requireWithin : GoodIn wsX1_newDinner wsX1_requireWithin := goodIn_ca (goodIn_r _ [5, 6, 7] (by decide +kernel) (by decide +kernel)) (goodIn_sub (fun _ h => List.mem_cons_of_mem _ (List.mem_append_right _ h)) (by decide +kernel))
set_option maxRecDepth 20000 in
theorem gX1_newDinner_X1_requireWithin : GoodIn wsX1_newDinner (va_wsS RX1 19 yX1_requireWithin wsX1_requireWithin) := goodIn_app (goodIn_of _ (by decide +kernel)) ggX1_newDinner_X1_requireWithin
set_option maxRecDepth 20000 in
theorem ggX1_newDinner_X0_rate : GoodIn wsX1_newDinner wsX0_rate := goodIn_r _ [12, 13, 14, 15, 16, 17, 18, 19, 20, 21, 22, 23, 11, 24, 25, 26, 27, 28, 29, 30, 53, 54, 55, 56, 57, 58, 59, 60, 61, 62, 63, 64, 65, 66, 67, 68, 69] (by decide +kernel) (by decide +kernel)
set_option maxRecDepth 20000 in
theorem gX1_newDinner_X0_rate : GoodIn wsX1_newDinner (wsV RX1 23 RX0 yX0_rate wsX0_rate) := goodIn_app (goodIn_of _ (by decide +kernel)) ggX1_newDinner_X0_rate
set_option maxRecDepth 20000 in
theorem ggX1_newDinner_X0_begin : GoodIn wsX1_newDinner wsX0_begin := goodIn_r _ [34, 13, 35, 36, 37, 38, 25, 39, 40, 41, 42, 43, 44, 30, 45, 46, 47, 48, 49, 50, 53, 54, 55, 56, 57, 58, 59, 60, 61, 62, 63, 64, 65, 66, 67, 68, 69] (by decide +kernel) (by decide +kernel)
set_option maxRecDepth 20000 in
theorem gX1_newDinner_X0_begin : GoodIn wsX1_newDinner (wsV RX1 27 RX0 yX0_begin wsX0_begin) := goodIn_app (goodIn_of _ (by decide +kernel)) ggX1_newDinner_X0_begin
theorem dX1_newDinner_0 : decode cX1_newDinner 0 = .ok (.iload_n 1, 1) := by decide +kernel
theorem dX1_newDinner_1 : decode cX1_newDinner 1 = .ok (.iconst 2, 1) := by decide +kernel
theorem dX1_newDinner_2 : decode cX1_newDinner 2 = .ok (.bipush 10, 2) := by decide +kernel
theorem dX1_newDinner_4 : decode cX1_newDinner 4 = .ok (.invokestatic 19, 3) := by decide +kernel
theorem dX1_newDinner_7 : decode cX1_newDinner 7 = .ok (.aload_n 0, 1) := by decide +kernel
theorem dX1_newDinner_8 : decode cX1_newDinner 8 = .ok (.getfield 12, 3) := by decide +kernel
theorem dX1_newDinner_11 : decode cX1_newDinner 11 = .ok (.invokevirtual 23, 3) := by decide +kernel
theorem dX1_newDinner_14 : decode cX1_newDinner 14 = .ok (.istore_n 2, 1) := by decide +kernel
theorem dX1_newDinner_15 : decode cX1_newDinner 15 = .ok (.aload_n 0, 1) := by decide +kernel
theorem dX1_newDinner_16 : decode cX1_newDinner 16 = .ok (.getfield 12, 3) := by decide +kernel
theorem dX1_newDinner_19 : decode cX1_newDinner 19 = .ok (.iload_n 1, 1) := by decide +kernel
theorem dX1_newDinner_20 : decode cX1_newDinner 20 = .ok (.invokevirtual 27, 3) := by decide +kernel
theorem dX1_newDinner_23 : decode cX1_newDinner 23 = .ok (.iload_n 2, 1) := by decide +kernel
theorem dX1_newDinner_24 : decode cX1_newDinner 24 = .ok (.ireturn, 1) := by decide +kernel
set_option maxRecDepth 20000 in
theorem ggX1_setLimit_X1_requireWithin : GoodIn wsX1_setLimit wsX1_requireWithin := goodIn_ca (goodIn_r _ [6, 7, 8] (by decide +kernel) (by decide +kernel)) (goodIn_sub (fun _ h => List.mem_cons_of_mem _ (List.mem_append_right _ h)) (by decide +kernel))
set_option maxRecDepth 20000 in
theorem gX1_setLimit_X1_requireWithin : GoodIn wsX1_setLimit (va_wsS RX1 19 yX1_requireWithin wsX1_requireWithin) := goodIn_app (goodIn_of _ (by decide +kernel)) ggX1_setLimit_X1_requireWithin
theorem dX1_setLimit_0 : decode cX1_setLimit 0 = .ok (.iload_n 1, 1) := by decide +kernel
theorem dX1_setLimit_1 : decode cX1_setLimit 1 = .ok (.iconst 1, 1) := by decide +kernel
theorem dX1_setLimit_2 : decode cX1_setLimit 2 = .ok (.bipush 30, 2) := by decide +kernel
theorem dX1_setLimit_4 : decode cX1_setLimit 4 = .ok (.invokestatic 19, 3) := by decide +kernel
theorem dX1_setLimit_7 : decode cX1_setLimit 7 = .ok (.aload_n 0, 1) := by decide +kernel
theorem dX1_setLimit_8 : decode cX1_setLimit 8 = .ok (.getfield 12, 3) := by decide +kernel
theorem dX1_setLimit_11 : decode cX1_setLimit 11 = .ok (.getfield 31, 3) := by decide +kernel
theorem dX1_setLimit_14 : decode cX1_setLimit 14 = .ok (.istore_n 2, 1) := by decide +kernel
theorem dX1_setLimit_15 : decode cX1_setLimit 15 = .ok (.aload_n 0, 1) := by decide +kernel
theorem dX1_setLimit_16 : decode cX1_setLimit 16 = .ok (.getfield 12, 3) := by decide +kernel
theorem dX1_setLimit_19 : decode cX1_setLimit 19 = .ok (.iload_n 1, 1) := by decide +kernel
theorem dX1_setLimit_20 : decode cX1_setLimit 20 = .ok (.putfield 31, 3) := by decide +kernel
theorem dX1_setLimit_23 : decode cX1_setLimit 23 = .ok (.iload_n 2, 1) := by decide +kernel
theorem dX1_setLimit_24 : decode cX1_setLimit 24 = .ok (.ireturn, 1) := by decide +kernel
set_option maxRecDepth 20000 in
theorem ggX1_speak_X1_requireGuest : GoodIn wsX1_speak wsX1_requireGuest := goodIn_ca (goodIn_r _ [6, 7, 8, 1, 9, 23, 24, 25, 26, 27, 28, 29, 30, 31, 32, 33, 34, 35, 36, 37, 38, 39, 40, 41] (by decide +kernel) (by decide +kernel)) (goodIn_sub (fun _ h => List.mem_cons_of_mem _ (List.mem_append_left _ (List.mem_append_right _ h))) (by decide +kernel))
set_option maxRecDepth 20000 in
theorem gX1_speak_X1_requireGuest : GoodIn wsX1_speak (wsV RX1 35 RX1 yX1_requireGuest wsX1_requireGuest) := goodIn_app (goodIn_of _ (by decide +kernel)) ggX1_speak_X1_requireGuest
set_option maxRecDepth 20000 in
theorem ggX1_speak_X1_requireWithin : GoodIn wsX1_speak wsX1_requireWithin := goodIn_ca (goodIn_r _ [12, 13, 14] (by decide +kernel) (by decide +kernel)) (goodIn_sub (fun _ h => List.mem_cons_of_mem _ (List.mem_append_right _ h)) (by decide +kernel))
set_option maxRecDepth 20000 in
theorem gX1_speak_X1_requireWithin : GoodIn wsX1_speak (va_wsS RX1 19 yX1_requireWithin wsX1_requireWithin) := goodIn_app (goodIn_of _ (by decide +kernel)) ggX1_speak_X1_requireWithin
set_option maxRecDepth 20000 in
theorem ggX1_speak_X0_letSpeak : GoodIn wsX1_speak wsX0_letSpeak := goodIn_r _ [19, 20, 21, 22, 25, 26, 27, 28, 29, 30, 31, 32, 33, 34, 35, 36, 37, 38, 39, 40, 41] (by decide +kernel) (by decide +kernel)
set_option maxRecDepth 20000 in
theorem gX1_speak_X0_letSpeak : GoodIn wsX1_speak (wsV RX1 38 RX0 yX0_letSpeak wsX0_letSpeak) := goodIn_app (goodIn_of _ (by decide +kernel)) ggX1_speak_X0_letSpeak
theorem dX1_speak_0 : decode cX1_speak 0 = .ok (.aload_n 0, 1) := by decide +kernel
theorem dX1_speak_1 : decode cX1_speak 1 = .ok (.iload_n 1, 1) := by decide +kernel
theorem dX1_speak_2 : decode cX1_speak 2 = .ok (.invokevirtual 35, 3) := by decide +kernel
theorem dX1_speak_5 : decode cX1_speak 5 = .ok (.iload_n 2, 1) := by decide +kernel
theorem dX1_speak_6 : decode cX1_speak 6 = .ok (.iconst 1, 1) := by decide +kernel
theorem dX1_speak_7 : decode cX1_speak 7 = .ok (.bipush 60, 2) := by decide +kernel
theorem dX1_speak_9 : decode cX1_speak 9 = .ok (.invokestatic 19, 3) := by decide +kernel
theorem dX1_speak_12 : decode cX1_speak 12 = .ok (.aload_n 0, 1) := by decide +kernel
theorem dX1_speak_13 : decode cX1_speak 13 = .ok (.getfield 12, 3) := by decide +kernel
theorem dX1_speak_16 : decode cX1_speak 16 = .ok (.iload_n 1, 1) := by decide +kernel
theorem dX1_speak_17 : decode cX1_speak 17 = .ok (.iload_n 2, 1) := by decide +kernel
theorem dX1_speak_18 : decode cX1_speak 18 = .ok (.invokevirtual 38, 3) := by decide +kernel
theorem dX1_speak_21 : decode cX1_speak 21 = .ok (.ireturn, 1) := by decide +kernel
set_option maxRecDepth 20000 in
theorem ggX1_cough_X1_requireGuest : GoodIn wsX1_cough wsX1_requireGuest := goodIn_ca (goodIn_r _ [6, 7, 8, 1, 9, 27, 28, 29, 30, 31, 32, 33, 34, 35, 36, 37, 38, 39, 40, 41, 42, 43, 44, 45] (by decide +kernel) (by decide +kernel)) (goodIn_sub (fun _ h => List.mem_cons_of_mem _ (List.mem_append_left _ (List.mem_append_right _ h))) (by decide +kernel))
set_option maxRecDepth 20000 in
theorem gX1_cough_X1_requireGuest : GoodIn wsX1_cough (wsV RX1 35 RX1 yX1_requireGuest wsX1_requireGuest) := goodIn_app (goodIn_of _ (by decide +kernel)) ggX1_cough_X1_requireGuest
set_option maxRecDepth 20000 in
theorem ggX1_cough_X1_requireWithin : GoodIn wsX1_cough wsX1_requireWithin := goodIn_ca (goodIn_r _ [12, 13, 14] (by decide +kernel) (by decide +kernel)) (goodIn_sub (fun _ h => List.mem_cons_of_mem _ (List.mem_append_right _ h)) (by decide +kernel))
set_option maxRecDepth 20000 in
theorem gX1_cough_X1_requireWithin : GoodIn wsX1_cough (va_wsS RX1 19 yX1_requireWithin wsX1_requireWithin) := goodIn_app (goodIn_of _ (by decide +kernel)) ggX1_cough_X1_requireWithin
set_option maxRecDepth 20000 in
theorem ggX1_cough_X0_letCough : GoodIn wsX1_cough wsX0_letCough := goodIn_r _ [19, 20, 21, 22, 23, 24, 18, 25, 26, 29, 30, 31, 32, 33, 34, 35, 36, 37, 38, 39, 40, 41, 42, 43, 44, 45] (by decide +kernel) (by decide +kernel)
set_option maxRecDepth 20000 in
theorem gX1_cough_X0_letCough : GoodIn wsX1_cough (wsV RX1 42 RX0 yX0_letCough wsX0_letCough) := goodIn_app (goodIn_of _ (by decide +kernel)) ggX1_cough_X0_letCough
theorem dX1_cough_0 : decode cX1_cough 0 = .ok (.aload_n 0, 1) := by decide +kernel
theorem dX1_cough_1 : decode cX1_cough 1 = .ok (.iload_n 1, 1) := by decide +kernel
theorem dX1_cough_2 : decode cX1_cough 2 = .ok (.invokevirtual 35, 3) := by decide +kernel
theorem dX1_cough_5 : decode cX1_cough 5 = .ok (.iload_n 2, 1) := by decide +kernel
theorem dX1_cough_6 : decode cX1_cough 6 = .ok (.iconst 1, 1) := by decide +kernel
theorem dX1_cough_7 : decode cX1_cough 7 = .ok (.bipush 9, 2) := by decide +kernel
theorem dX1_cough_9 : decode cX1_cough 9 = .ok (.invokestatic 19, 3) := by decide +kernel
theorem dX1_cough_12 : decode cX1_cough 12 = .ok (.aload_n 0, 1) := by decide +kernel
theorem dX1_cough_13 : decode cX1_cough 13 = .ok (.getfield 12, 3) := by decide +kernel
theorem dX1_cough_16 : decode cX1_cough 16 = .ok (.iload_n 1, 1) := by decide +kernel
theorem dX1_cough_17 : decode cX1_cough 17 = .ok (.iload_n 2, 1) := by decide +kernel
theorem dX1_cough_18 : decode cX1_cough 18 = .ok (.invokevirtual 42, 3) := by decide +kernel
theorem dX1_cough_21 : decode cX1_cough 21 = .ok (.ireturn, 1) := by decide +kernel
set_option maxRecDepth 20000 in
theorem ggX1_glance_X1_requireFreeWay : GoodIn wsX1_glance wsX1_requireFreeWay := goodIn_ca (goodIn_ca (goodIn_ca (goodIn_r _ [6, 7, 8, 9, 10, 1, 11, 12, 13, 5, 14, 15, 16, 17, 18, 19, 20, 21, 22, 23, 24, 25, 26, 49, 50, 51, 52, 53, 54, 55, 56, 57, 58, 59, 60, 61, 62, 63, 64, 65, 66, 67] (by decide +kernel) (by decide +kernel)) (goodIn_sub (fun _ h => List.mem_cons_of_mem _ (List.mem_append_left _ (List.mem_append_left _ (List.mem_append_right _ h)))) (by decide +kernel))) (goodIn_sub (fun _ h => List.mem_cons_of_mem _ (List.mem_append_left _ (List.mem_append_right _ h))) (by decide +kernel))) (goodIn_sub (fun _ h => List.mem_cons_of_mem _ (List.mem_append_right _ h)) (by decide +kernel))
set_option maxRecDepth 20000 in
theorem gX1_glance_X1_requireFreeWay : GoodIn wsX1_glance (wsV RX1 45 RX1 yX1_requireFreeWay wsX1_requireFreeWay) := goodIn_app (goodIn_of _ (by decide +kernel)) ggX1_glance_X1_requireFreeWay
set_option maxRecDepth 20000 in
theorem ggX1_glance_X0_send : GoodIn wsX1_glance wsX0_send := goodIn_r _ [30, 31, 32, 26, 19, 5, 20, 33, 34, 35, 24, 36, 37, 38, 39, 40, 41, 42, 43, 44, 45, 46, 47, 48, 51, 52, 53, 54, 55, 56, 57, 58, 59, 60, 61, 62, 63, 64, 65, 66, 67] (by decide +kernel) (by decide +kernel)
set_option maxRecDepth 20000 in
theorem gX1_glance_X0_send : GoodIn wsX1_glance (wsV RX1 49 RX0 yX0_send wsX0_send) := goodIn_app (goodIn_of _ (by decide +kernel)) ggX1_glance_X0_send
theorem dX1_glance_0 : decode cX1_glance 0 = .ok (.aload_n 0, 1) := by decide +kernel
theorem dX1_glance_1 : decode cX1_glance 1 = .ok (.iload_n 1, 1) := by decide +kernel
theorem dX1_glance_2 : decode cX1_glance 2 = .ok (.iload_n 2, 1) := by decide +kernel
theorem dX1_glance_3 : decode cX1_glance 3 = .ok (.invokevirtual 45, 3) := by decide +kernel
theorem dX1_glance_6 : decode cX1_glance 6 = .ok (.aload_n 0, 1) := by decide +kernel
theorem dX1_glance_7 : decode cX1_glance 7 = .ok (.getfield 12, 3) := by decide +kernel
theorem dX1_glance_10 : decode cX1_glance 10 = .ok (.iload_n 1, 1) := by decide +kernel
theorem dX1_glance_11 : decode cX1_glance 11 = .ok (.iload_n 2, 1) := by decide +kernel
theorem dX1_glance_12 : decode cX1_glance 12 = .ok (.invokevirtual 49, 3) := by decide +kernel
theorem dX1_glance_15 : decode cX1_glance 15 = .ok (.ireturn, 1) := by decide +kernel
set_option maxRecDepth 20000 in
theorem ggX1_pass_X1_requireWithin : GoodIn wsX1_pass wsX1_requireWithin := goodIn_ca (goodIn_r _ [5, 6, 7] (by decide +kernel) (by decide +kernel)) (goodIn_sub (fun _ h => List.mem_cons_of_mem _ (List.mem_append_right _ h)) (by decide +kernel))
set_option maxRecDepth 20000 in
theorem gX1_pass_X1_requireWithin : GoodIn wsX1_pass (va_wsS RX1 19 yX1_requireWithin wsX1_requireWithin) := goodIn_app (goodIn_of _ (by decide +kernel)) ggX1_pass_X1_requireWithin
set_option maxRecDepth 20000 in
theorem ggX1_pass_X0_sumUnsaid : GoodIn wsX1_pass wsX0_sumUnsaid := goodIn_r _ [12, 13, 14, 15, 16, 11, 17, 18, 19, 68, 69, 70, 71, 72, 73, 74, 75, 76, 77, 78, 79, 80, 81, 82, 83, 84] (by decide +kernel) (by decide +kernel)
set_option maxRecDepth 20000 in
theorem gX1_pass_X0_sumUnsaid : GoodIn wsX1_pass (wsV RX1 52 RX0 yX0_sumUnsaid wsX0_sumUnsaid) := goodIn_app (goodIn_of _ (by decide +kernel)) ggX1_pass_X0_sumUnsaid
set_option maxRecDepth 20000 in
theorem ggX1_pass_X0_goBy : GoodIn wsX1_pass wsX0_goBy := goodIn_r _ [23, 24, 25, 26, 11, 27, 28, 29, 30, 31, 32, 33, 34, 13, 35, 36, 37, 38, 39, 40, 41, 42, 43, 44, 45, 46, 47, 48, 49, 50, 51, 52, 53, 19, 54, 55, 56, 4, 57, 58, 59, 60, 61, 62, 63, 64, 65, 68, 69, 70, 71, 72, 73, 74, 75, 76, 77, 78, 79, 80, 81, 82, 83, 84] (by decide +kernel) (by decide +kernel)
set_option maxRecDepth 20000 in
theorem gX1_pass_X0_goBy : GoodIn wsX1_pass (wsV RX1 55 RX0 yX0_goBy wsX0_goBy) := goodIn_app (goodIn_of _ (by decide +kernel)) ggX1_pass_X0_goBy
theorem dX1_pass_0 : decode cX1_pass 0 = .ok (.iload_n 1, 1) := by decide +kernel
theorem dX1_pass_1 : decode cX1_pass 1 = .ok (.iconst 1, 1) := by decide +kernel
theorem dX1_pass_2 : decode cX1_pass 2 = .ok (.bipush 120, 2) := by decide +kernel
theorem dX1_pass_4 : decode cX1_pass 4 = .ok (.invokestatic 19, 3) := by decide +kernel
theorem dX1_pass_7 : decode cX1_pass 7 = .ok (.aload_n 0, 1) := by decide +kernel
theorem dX1_pass_8 : decode cX1_pass 8 = .ok (.getfield 12, 3) := by decide +kernel
theorem dX1_pass_11 : decode cX1_pass 11 = .ok (.invokevirtual 52, 3) := by decide +kernel
theorem dX1_pass_14 : decode cX1_pass 14 = .ok (.istore_n 2, 1) := by decide +kernel
theorem dX1_pass_15 : decode cX1_pass 15 = .ok (.aload_n 0, 1) := by decide +kernel
theorem dX1_pass_16 : decode cX1_pass 16 = .ok (.getfield 12, 3) := by decide +kernel
theorem dX1_pass_19 : decode cX1_pass 19 = .ok (.iload_n 1, 1) := by decide +kernel
theorem dX1_pass_20 : decode cX1_pass 20 = .ok (.invokevirtual 55, 3) := by decide +kernel
theorem dX1_pass_23 : decode cX1_pass 23 = .ok (.aload_n 0, 1) := by decide +kernel
theorem dX1_pass_24 : decode cX1_pass 24 = .ok (.getfield 12, 3) := by decide +kernel
theorem dX1_pass_27 : decode cX1_pass 27 = .ok (.invokevirtual 52, 3) := by decide +kernel
theorem dX1_pass_30 : decode cX1_pass 30 = .ok (.iload_n 2, 1) := by decide +kernel
theorem dX1_pass_31 : decode cX1_pass 31 = .ok (.isub, 1) := by decide +kernel
theorem dX1_pass_32 : decode cX1_pass 32 = .ok (.ireturn, 1) := by decide +kernel
theorem dX1_guests_0 : decode cX1_guests 0 = .ok (.aload_n 0, 1) := by decide +kernel
theorem dX1_guests_1 : decode cX1_guests 1 = .ok (.getfield 12, 3) := by decide +kernel
theorem dX1_guests_4 : decode cX1_guests 4 = .ok (.getfield 58, 3) := by decide +kernel
theorem dX1_guests_7 : decode cX1_guests 7 = .ok (.ireturn, 1) := by decide +kernel
theorem dX1_seconds_0 : decode cX1_seconds 0 = .ok (.aload_n 0, 1) := by decide +kernel
theorem dX1_seconds_1 : decode cX1_seconds 1 = .ok (.getfield 12, 3) := by decide +kernel
theorem dX1_seconds_4 : decode cX1_seconds 4 = .ok (.getfield 61, 3) := by decide +kernel
theorem dX1_seconds_7 : decode cX1_seconds 7 = .ok (.ireturn, 1) := by decide +kernel
theorem dX1_limit_0 : decode cX1_limit 0 = .ok (.aload_n 0, 1) := by decide +kernel
theorem dX1_limit_1 : decode cX1_limit 1 = .ok (.getfield 12, 3) := by decide +kernel
theorem dX1_limit_4 : decode cX1_limit 4 = .ok (.getfield 31, 3) := by decide +kernel
theorem dX1_limit_7 : decode cX1_limit 7 = .ok (.ireturn, 1) := by decide +kernel
set_option maxRecDepth 20000 in
theorem ggX1_seatsApart_X1_requireGuest : GoodIn wsX1_seatsApart wsX1_requireGuest := goodIn_ca (goodIn_r _ [6, 7, 8, 1, 9, 23, 24, 25, 26, 27, 28, 29, 30, 31, 32, 33, 34, 35, 36, 37, 38, 39, 40, 41] (by decide +kernel) (by decide +kernel)) (goodIn_sub (fun _ h => List.mem_cons_of_mem _ (List.mem_append_right _ h)) (by decide +kernel))
set_option maxRecDepth 20000 in
theorem gX1_seatsApart_X1_requireGuest : GoodIn wsX1_seatsApart (wsV RX1 35 RX1 yX1_requireGuest wsX1_requireGuest) := goodIn_app (goodIn_of _ (by decide +kernel)) ggX1_seatsApart_X1_requireGuest
set_option maxRecDepth 20000 in
theorem ggX1_seatsApart_X0_seatsBetween : GoodIn wsX1_seatsApart wsX0_seatsBetween := goodIn_r _ [14, 15, 16, 17, 18, 19, 20, 21, 22, 25, 26, 27, 28, 29, 30, 31, 32, 33, 34, 35, 36, 37, 38, 39, 40, 41] (by decide +kernel) (by decide +kernel)
set_option maxRecDepth 20000 in
theorem gX1_seatsApart_X0_seatsBetween : GoodIn wsX1_seatsApart (wsV RX1 64 RX0 yX0_seatsBetween wsX0_seatsBetween) := goodIn_app (goodIn_of _ (by decide +kernel)) ggX1_seatsApart_X0_seatsBetween
theorem dX1_seatsApart_0 : decode cX1_seatsApart 0 = .ok (.aload_n 0, 1) := by decide +kernel
theorem dX1_seatsApart_1 : decode cX1_seatsApart 1 = .ok (.iload_n 1, 1) := by decide +kernel
theorem dX1_seatsApart_2 : decode cX1_seatsApart 2 = .ok (.invokevirtual 35, 3) := by decide +kernel
theorem dX1_seatsApart_5 : decode cX1_seatsApart 5 = .ok (.aload_n 0, 1) := by decide +kernel
theorem dX1_seatsApart_6 : decode cX1_seatsApart 6 = .ok (.iload_n 2, 1) := by decide +kernel
theorem dX1_seatsApart_7 : decode cX1_seatsApart 7 = .ok (.invokevirtual 35, 3) := by decide +kernel
theorem dX1_seatsApart_10 : decode cX1_seatsApart 10 = .ok (.aload_n 0, 1) := by decide +kernel
theorem dX1_seatsApart_11 : decode cX1_seatsApart 11 = .ok (.getfield 12, 3) := by decide +kernel
theorem dX1_seatsApart_14 : decode cX1_seatsApart 14 = .ok (.iload_n 1, 1) := by decide +kernel
theorem dX1_seatsApart_15 : decode cX1_seatsApart 15 = .ok (.iload_n 2, 1) := by decide +kernel
theorem dX1_seatsApart_16 : decode cX1_seatsApart 16 = .ok (.invokevirtual 64, 3) := by decide +kernel
theorem dX1_seatsApart_19 : decode cX1_seatsApart 19 = .ok (.ireturn, 1) := by decide +kernel
theorem dX1_speaker_0 : decode cX1_speaker 0 = .ok (.aload_n 0, 1) := by decide +kernel
theorem dX1_speaker_1 : decode cX1_speaker 1 = .ok (.getfield 12, 3) := by decide +kernel
theorem dX1_speaker_4 : decode cX1_speaker 4 = .ok (.getfield 67, 3) := by decide +kernel
theorem dX1_speaker_7 : decode cX1_speaker 7 = .ok (.ireturn, 1) := by decide +kernel
theorem dX1_secondsToSpeak_0 : decode cX1_secondsToSpeak 0 = .ok (.aload_n 0, 1) := by decide +kernel
theorem dX1_secondsToSpeak_1 : decode cX1_secondsToSpeak 1 = .ok (.getfield 12, 3) := by decide +kernel
theorem dX1_secondsToSpeak_4 : decode cX1_secondsToSpeak 4 = .ok (.getfield 70, 3) := by decide +kernel
theorem dX1_secondsToSpeak_7 : decode cX1_secondsToSpeak 7 = .ok (.ireturn, 1) := by decide +kernel
theorem dX1_pause_0 : decode cX1_pause 0 = .ok (.aload_n 0, 1) := by decide +kernel
theorem dX1_pause_1 : decode cX1_pause 1 = .ok (.getfield 12, 3) := by decide +kernel
theorem dX1_pause_4 : decode cX1_pause 4 = .ok (.getfield 73, 3) := by decide +kernel
theorem dX1_pause_7 : decode cX1_pause 7 = .ok (.ireturn, 1) := by decide +kernel
set_option maxRecDepth 20000 in
theorem ggX1_spokenBy_X1_requireGuest : GoodIn wsX1_spokenBy wsX1_requireGuest := goodIn_ca (goodIn_r _ [7, 8, 9, 1, 10, 11, 12, 13, 14, 15, 16, 17, 18, 19, 20, 21, 22, 23, 24, 25, 26, 27, 28, 29] (by decide +kernel) (by decide +kernel)) (goodIn_sub (fun _ h => List.mem_cons_of_mem _ (List.mem_append_right _ h)) (by decide +kernel))
set_option maxRecDepth 20000 in
theorem gX1_spokenBy_X1_requireGuest : GoodIn wsX1_spokenBy (wsV RX1 35 RX1 yX1_requireGuest wsX1_requireGuest) := goodIn_app (goodIn_of _ (by decide +kernel)) ggX1_spokenBy_X1_requireGuest
theorem dX1_spokenBy_0 : decode cX1_spokenBy 0 = .ok (.aload_n 0, 1) := by decide +kernel
theorem dX1_spokenBy_1 : decode cX1_spokenBy 1 = .ok (.iload_n 1, 1) := by decide +kernel
theorem dX1_spokenBy_2 : decode cX1_spokenBy 2 = .ok (.invokevirtual 35, 3) := by decide +kernel
theorem dX1_spokenBy_5 : decode cX1_spokenBy 5 = .ok (.aload_n 0, 1) := by decide +kernel
theorem dX1_spokenBy_6 : decode cX1_spokenBy 6 = .ok (.getfield 12, 3) := by decide +kernel
theorem dX1_spokenBy_9 : decode cX1_spokenBy 9 = .ok (.getfield 76, 3) := by decide +kernel
theorem dX1_spokenBy_12 : decode cX1_spokenBy 12 = .ok (.iload_n 1, 1) := by decide +kernel
theorem dX1_spokenBy_13 : decode cX1_spokenBy 13 = .ok (.iaload, 1) := by decide +kernel
theorem dX1_spokenBy_14 : decode cX1_spokenBy 14 = .ok (.ireturn, 1) := by decide +kernel
set_option maxRecDepth 20000 in
theorem ggX1_interruptionsBy_X1_requireGuest : GoodIn wsX1_interruptionsBy wsX1_requireGuest := goodIn_ca (goodIn_r _ [7, 8, 9, 1, 10, 11, 12, 13, 14, 15, 16, 17, 18, 19, 20, 21, 22, 23, 24, 25, 26, 27, 28, 29] (by decide +kernel) (by decide +kernel)) (goodIn_sub (fun _ h => List.mem_cons_of_mem _ (List.mem_append_right _ h)) (by decide +kernel))
set_option maxRecDepth 20000 in
theorem gX1_interruptionsBy_X1_requireGuest : GoodIn wsX1_interruptionsBy (wsV RX1 35 RX1 yX1_requireGuest wsX1_requireGuest) := goodIn_app (goodIn_of _ (by decide +kernel)) ggX1_interruptionsBy_X1_requireGuest
theorem dX1_interruptionsBy_0 : decode cX1_interruptionsBy 0 = .ok (.aload_n 0, 1) := by decide +kernel
theorem dX1_interruptionsBy_1 : decode cX1_interruptionsBy 1 = .ok (.iload_n 1, 1) := by decide +kernel
theorem dX1_interruptionsBy_2 : decode cX1_interruptionsBy 2 = .ok (.invokevirtual 35, 3) := by decide +kernel
theorem dX1_interruptionsBy_5 : decode cX1_interruptionsBy 5 = .ok (.aload_n 0, 1) := by decide +kernel
theorem dX1_interruptionsBy_6 : decode cX1_interruptionsBy 6 = .ok (.getfield 12, 3) := by decide +kernel
theorem dX1_interruptionsBy_9 : decode cX1_interruptionsBy 9 = .ok (.getfield 80, 3) := by decide +kernel
theorem dX1_interruptionsBy_12 : decode cX1_interruptionsBy 12 = .ok (.iload_n 1, 1) := by decide +kernel
theorem dX1_interruptionsBy_13 : decode cX1_interruptionsBy 13 = .ok (.iaload, 1) := by decide +kernel
theorem dX1_interruptionsBy_14 : decode cX1_interruptionsBy 14 = .ok (.ireturn, 1) := by decide +kernel
set_option maxRecDepth 20000 in
theorem ggX1_coughsOf_X1_requireGuest : GoodIn wsX1_coughsOf wsX1_requireGuest := goodIn_ca (goodIn_r _ [7, 8, 9, 1, 10, 11, 12, 13, 14, 15, 16, 17, 18, 19, 20, 21, 22, 23, 24, 25, 26, 27, 28, 29] (by decide +kernel) (by decide +kernel)) (goodIn_sub (fun _ h => List.mem_cons_of_mem _ (List.mem_append_right _ h)) (by decide +kernel))
set_option maxRecDepth 20000 in
theorem gX1_coughsOf_X1_requireGuest : GoodIn wsX1_coughsOf (wsV RX1 35 RX1 yX1_requireGuest wsX1_requireGuest) := goodIn_app (goodIn_of _ (by decide +kernel)) ggX1_coughsOf_X1_requireGuest
theorem dX1_coughsOf_0 : decode cX1_coughsOf 0 = .ok (.aload_n 0, 1) := by decide +kernel
theorem dX1_coughsOf_1 : decode cX1_coughsOf 1 = .ok (.iload_n 1, 1) := by decide +kernel
theorem dX1_coughsOf_2 : decode cX1_coughsOf 2 = .ok (.invokevirtual 35, 3) := by decide +kernel
theorem dX1_coughsOf_5 : decode cX1_coughsOf 5 = .ok (.aload_n 0, 1) := by decide +kernel
theorem dX1_coughsOf_6 : decode cX1_coughsOf 6 = .ok (.getfield 12, 3) := by decide +kernel
theorem dX1_coughsOf_9 : decode cX1_coughsOf 9 = .ok (.getfield 83, 3) := by decide +kernel
theorem dX1_coughsOf_12 : decode cX1_coughsOf 12 = .ok (.iload_n 1, 1) := by decide +kernel
theorem dX1_coughsOf_13 : decode cX1_coughsOf 13 = .ok (.iaload, 1) := by decide +kernel
theorem dX1_coughsOf_14 : decode cX1_coughsOf 14 = .ok (.ireturn, 1) := by decide +kernel
set_option maxRecDepth 20000 in
theorem ggX1_unsaidBy_X1_requireGuest : GoodIn wsX1_unsaidBy wsX1_requireGuest := goodIn_ca (goodIn_r _ [7, 8, 9, 1, 10, 11, 12, 13, 14, 15, 16, 17, 18, 19, 20, 21, 22, 23, 24, 25, 26, 27, 28, 29] (by decide +kernel) (by decide +kernel)) (goodIn_sub (fun _ h => List.mem_cons_of_mem _ (List.mem_append_right _ h)) (by decide +kernel))
set_option maxRecDepth 20000 in
theorem gX1_unsaidBy_X1_requireGuest : GoodIn wsX1_unsaidBy (wsV RX1 35 RX1 yX1_requireGuest wsX1_requireGuest) := goodIn_app (goodIn_of _ (by decide +kernel)) ggX1_unsaidBy_X1_requireGuest
theorem dX1_unsaidBy_0 : decode cX1_unsaidBy 0 = .ok (.aload_n 0, 1) := by decide +kernel
theorem dX1_unsaidBy_1 : decode cX1_unsaidBy 1 = .ok (.iload_n 1, 1) := by decide +kernel
theorem dX1_unsaidBy_2 : decode cX1_unsaidBy 2 = .ok (.invokevirtual 35, 3) := by decide +kernel
theorem dX1_unsaidBy_5 : decode cX1_unsaidBy 5 = .ok (.aload_n 0, 1) := by decide +kernel
theorem dX1_unsaidBy_6 : decode cX1_unsaidBy 6 = .ok (.getfield 12, 3) := by decide +kernel
theorem dX1_unsaidBy_9 : decode cX1_unsaidBy 9 = .ok (.getfield 86, 3) := by decide +kernel
theorem dX1_unsaidBy_12 : decode cX1_unsaidBy 12 = .ok (.iload_n 1, 1) := by decide +kernel
theorem dX1_unsaidBy_13 : decode cX1_unsaidBy 13 = .ok (.iaload, 1) := by decide +kernel
theorem dX1_unsaidBy_14 : decode cX1_unsaidBy 14 = .ok (.ireturn, 1) := by decide +kernel
set_option maxRecDepth 20000 in
theorem ggX1_isUnderWay_X1_requireGuest : GoodIn wsX1_isUnderWay wsX1_requireGuest := goodIn_ca (goodIn_r _ [6, 7, 8, 1, 9, 19, 20, 21, 22, 23, 24, 25, 26, 27, 28, 29, 30, 31, 32, 33, 34, 35, 36, 37] (by decide +kernel) (by decide +kernel)) (goodIn_sub (fun _ h => List.mem_cons_of_mem _ (List.mem_append_right _ h)) (by decide +kernel))
set_option maxRecDepth 20000 in
theorem gX1_isUnderWay_X1_requireGuest : GoodIn wsX1_isUnderWay (wsV RX1 35 RX1 yX1_requireGuest wsX1_requireGuest) := goodIn_app (goodIn_of _ (by decide +kernel)) ggX1_isUnderWay_X1_requireGuest
set_option maxRecDepth 20000 in
theorem ggX1_isUnderWay_X1_pairOf : GoodIn wsX1_isUnderWay wsX1_pairOf := goodIn_r _ [12] (by decide +kernel) (by decide +kernel)
set_option maxRecDepth 20000 in
theorem gX1_isUnderWay_X1_pairOf : GoodIn wsX1_isUnderWay (va_wsS RX1 89 yX1_pairOf wsX1_pairOf) := goodIn_app (goodIn_of _ (by decide +kernel)) ggX1_isUnderWay_X1_pairOf
set_option maxRecDepth 20000 in
theorem ggX1_isUnderWay_X0_isOnItsWay : GoodIn wsX1_isUnderWay wsX0_isOnItsWay := goodIn_r _ [17, 18, 21, 22, 23, 24, 25, 26, 27, 28, 29, 30, 31, 32, 33, 34, 35, 36, 37] (by decide +kernel) (by decide +kernel)
set_option maxRecDepth 20000 in
theorem gX1_isUnderWay_X0_isOnItsWay : GoodIn wsX1_isUnderWay (wsV RX1 92 RX0 yX0_isOnItsWay wsX0_isOnItsWay) := goodIn_app (goodIn_of _ (by decide +kernel)) ggX1_isUnderWay_X0_isOnItsWay
theorem dX1_isUnderWay_0 : decode cX1_isUnderWay 0 = .ok (.aload_n 0, 1) := by decide +kernel
theorem dX1_isUnderWay_1 : decode cX1_isUnderWay 1 = .ok (.iload_n 1, 1) := by decide +kernel
theorem dX1_isUnderWay_2 : decode cX1_isUnderWay 2 = .ok (.invokevirtual 35, 3) := by decide +kernel
theorem dX1_isUnderWay_5 : decode cX1_isUnderWay 5 = .ok (.aload_n 0, 1) := by decide +kernel
theorem dX1_isUnderWay_6 : decode cX1_isUnderWay 6 = .ok (.iload_n 2, 1) := by decide +kernel
theorem dX1_isUnderWay_7 : decode cX1_isUnderWay 7 = .ok (.invokevirtual 35, 3) := by decide +kernel
theorem dX1_isUnderWay_10 : decode cX1_isUnderWay 10 = .ok (.aload_n 0, 1) := by decide +kernel
theorem dX1_isUnderWay_11 : decode cX1_isUnderWay 11 = .ok (.getfield 12, 3) := by decide +kernel
theorem dX1_isUnderWay_14 : decode cX1_isUnderWay 14 = .ok (.iload_n 1, 1) := by decide +kernel
theorem dX1_isUnderWay_15 : decode cX1_isUnderWay 15 = .ok (.iload_n 2, 1) := by decide +kernel
theorem dX1_isUnderWay_16 : decode cX1_isUnderWay 16 = .ok (.invokestatic 89, 3) := by decide +kernel
theorem dX1_isUnderWay_19 : decode cX1_isUnderWay 19 = .ok (.invokevirtual 92, 3) := by decide +kernel
theorem dX1_isUnderWay_22 : decode cX1_isUnderWay 22 = .ok (.ireturn, 1) := by decide +kernel
set_option maxRecDepth 20000 in
theorem ggX1_secondsToGo_X1_requireGuest : GoodIn wsX1_secondsToGo wsX1_requireGuest := goodIn_ca (goodIn_r _ [6, 7, 8, 1, 9, 23, 24, 25, 26, 27, 28, 29, 30, 31, 32, 33, 34, 35, 36, 37, 38, 39, 40, 41] (by decide +kernel) (by decide +kernel)) (goodIn_sub (fun _ h => List.mem_cons_of_mem _ (List.mem_append_right _ h)) (by decide +kernel))
set_option maxRecDepth 20000 in
theorem gX1_secondsToGo_X1_requireGuest : GoodIn wsX1_secondsToGo (wsV RX1 35 RX1 yX1_requireGuest wsX1_requireGuest) := goodIn_app (goodIn_of _ (by decide +kernel)) ggX1_secondsToGo_X1_requireGuest
set_option maxRecDepth 20000 in
theorem ggX1_secondsToGo_X1_pairOf : GoodIn wsX1_secondsToGo wsX1_pairOf := goodIn_r _ [12] (by decide +kernel) (by decide +kernel)
set_option maxRecDepth 20000 in
theorem gX1_secondsToGo_X1_pairOf : GoodIn wsX1_secondsToGo (va_wsS RX1 89 yX1_pairOf wsX1_pairOf) := goodIn_app (goodIn_of _ (by decide +kernel)) ggX1_secondsToGo_X1_pairOf
set_option maxRecDepth 20000 in
theorem ggX1_secondsToGo_X0_timeToGo : GoodIn wsX1_secondsToGo wsX0_timeToGo := goodIn_r _ [17, 18, 19, 20, 21, 16, 22, 25, 26, 27, 28, 29, 30, 31, 32, 33, 34, 35, 36, 37, 38, 39, 40, 41] (by decide +kernel) (by decide +kernel)
set_option maxRecDepth 20000 in
theorem gX1_secondsToGo_X0_timeToGo : GoodIn wsX1_secondsToGo (wsV RX1 96 RX0 yX0_timeToGo wsX0_timeToGo) := goodIn_app (goodIn_of _ (by decide +kernel)) ggX1_secondsToGo_X0_timeToGo
theorem dX1_secondsToGo_0 : decode cX1_secondsToGo 0 = .ok (.aload_n 0, 1) := by decide +kernel
theorem dX1_secondsToGo_1 : decode cX1_secondsToGo 1 = .ok (.iload_n 1, 1) := by decide +kernel
theorem dX1_secondsToGo_2 : decode cX1_secondsToGo 2 = .ok (.invokevirtual 35, 3) := by decide +kernel
theorem dX1_secondsToGo_5 : decode cX1_secondsToGo 5 = .ok (.aload_n 0, 1) := by decide +kernel
theorem dX1_secondsToGo_6 : decode cX1_secondsToGo 6 = .ok (.iload_n 2, 1) := by decide +kernel
theorem dX1_secondsToGo_7 : decode cX1_secondsToGo 7 = .ok (.invokevirtual 35, 3) := by decide +kernel
theorem dX1_secondsToGo_10 : decode cX1_secondsToGo 10 = .ok (.aload_n 0, 1) := by decide +kernel
theorem dX1_secondsToGo_11 : decode cX1_secondsToGo 11 = .ok (.getfield 12, 3) := by decide +kernel
theorem dX1_secondsToGo_14 : decode cX1_secondsToGo 14 = .ok (.iload_n 1, 1) := by decide +kernel
theorem dX1_secondsToGo_15 : decode cX1_secondsToGo 15 = .ok (.iload_n 2, 1) := by decide +kernel
theorem dX1_secondsToGo_16 : decode cX1_secondsToGo 16 = .ok (.invokestatic 89, 3) := by decide +kernel
theorem dX1_secondsToGo_19 : decode cX1_secondsToGo 19 = .ok (.invokevirtual 96, 3) := by decide +kernel
theorem dX1_secondsToGo_22 : decode cX1_secondsToGo 22 = .ok (.ireturn, 1) := by decide +kernel
set_option maxRecDepth 20000 in
theorem ggX1_caughtBy_X1_requireGuest : GoodIn wsX1_caughtBy wsX1_requireGuest := goodIn_ca (goodIn_r _ [7, 8, 9, 1, 10, 14, 15, 16, 17, 18, 19, 20, 21, 22, 23, 24, 25, 26, 27, 28, 29, 30, 31, 32] (by decide +kernel) (by decide +kernel)) (goodIn_sub (fun _ h => List.mem_cons_of_mem _ (List.mem_append_right _ h)) (by decide +kernel))
set_option maxRecDepth 20000 in
theorem gX1_caughtBy_X1_requireGuest : GoodIn wsX1_caughtBy (wsV RX1 35 RX1 yX1_requireGuest wsX1_requireGuest) := goodIn_app (goodIn_of _ (by decide +kernel)) ggX1_caughtBy_X1_requireGuest
set_option maxRecDepth 20000 in
theorem ggX1_caughtBy_X1_pairOf : GoodIn wsX1_caughtBy wsX1_pairOf := goodIn_r _ [13] (by decide +kernel) (by decide +kernel)
set_option maxRecDepth 20000 in
theorem gX1_caughtBy_X1_pairOf : GoodIn wsX1_caughtBy (va_wsS RX1 89 yX1_pairOf wsX1_pairOf) := goodIn_app (goodIn_of _ (by decide +kernel)) ggX1_caughtBy_X1_pairOf
theorem dX1_caughtBy_0 : decode cX1_caughtBy 0 = .ok (.aload_n 0, 1) := by decide +kernel
theorem dX1_caughtBy_1 : decode cX1_caughtBy 1 = .ok (.iload_n 1, 1) := by decide +kernel
theorem dX1_caughtBy_2 : decode cX1_caughtBy 2 = .ok (.invokevirtual 35, 3) := by decide +kernel
theorem dX1_caughtBy_5 : decode cX1_caughtBy 5 = .ok (.aload_n 0, 1) := by decide +kernel
theorem dX1_caughtBy_6 : decode cX1_caughtBy 6 = .ok (.iload_n 2, 1) := by decide +kernel
theorem dX1_caughtBy_7 : decode cX1_caughtBy 7 = .ok (.invokevirtual 35, 3) := by decide +kernel
theorem dX1_caughtBy_10 : decode cX1_caughtBy 10 = .ok (.aload_n 0, 1) := by decide +kernel
theorem dX1_caughtBy_11 : decode cX1_caughtBy 11 = .ok (.getfield 12, 3) := by decide +kernel
theorem dX1_caughtBy_14 : decode cX1_caughtBy 14 = .ok (.getfield 100, 3) := by decide +kernel
theorem dX1_caughtBy_17 : decode cX1_caughtBy 17 = .ok (.iload_n 1, 1) := by decide +kernel
theorem dX1_caughtBy_18 : decode cX1_caughtBy 18 = .ok (.iload_n 2, 1) := by decide +kernel
theorem dX1_caughtBy_19 : decode cX1_caughtBy 19 = .ok (.invokestatic 89, 3) := by decide +kernel
theorem dX1_caughtBy_22 : decode cX1_caughtBy 22 = .ok (.iaload, 1) := by decide +kernel
theorem dX1_caughtBy_23 : decode cX1_caughtBy 23 = .ok (.ireturn, 1) := by decide +kernel
theorem dX1_unsaidInPauses_0 : decode cX1_unsaidInPauses 0 = .ok (.aload_n 0, 1) := by decide +kernel
theorem dX1_unsaidInPauses_1 : decode cX1_unsaidInPauses 1 = .ok (.getfield 12, 3) := by decide +kernel
theorem dX1_unsaidInPauses_4 : decode cX1_unsaidInPauses 4 = .ok (.getfield 103, 3) := by decide +kernel
theorem dX1_unsaidInPauses_7 : decode cX1_unsaidInPauses 7 = .ok (.ireturn, 1) := by decide +kernel
set_option maxRecDepth 20000 in
theorem ggX1_allUnsaid_X0_sumUnsaid : GoodIn wsX1_allUnsaid wsX0_sumUnsaid := goodIn_r _ [6, 7, 8, 9, 10, 5, 11, 12, 13, 16, 17, 18, 19, 20, 21, 22, 23, 24, 25, 26, 27, 28, 29, 30, 31, 32] (by decide +kernel) (by decide +kernel)
set_option maxRecDepth 20000 in
theorem gX1_allUnsaid_X0_sumUnsaid : GoodIn wsX1_allUnsaid (wsV RX1 52 RX0 yX0_sumUnsaid wsX0_sumUnsaid) := goodIn_app (goodIn_of _ (by decide +kernel)) ggX1_allUnsaid_X0_sumUnsaid
theorem dX1_allUnsaid_0 : decode cX1_allUnsaid 0 = .ok (.aload_n 0, 1) := by decide +kernel
theorem dX1_allUnsaid_1 : decode cX1_allUnsaid 1 = .ok (.getfield 12, 3) := by decide +kernel
theorem dX1_allUnsaid_4 : decode cX1_allUnsaid 4 = .ok (.invokevirtual 52, 3) := by decide +kernel
theorem dX1_allUnsaid_7 : decode cX1_allUnsaid 7 = .ok (.ireturn, 1) := by decide +kernel
theorem dX1_glancesUnderWay_0 : decode cX1_glancesUnderWay 0 = .ok (.aload_n 0, 1) := by decide +kernel
theorem dX1_glancesUnderWay_1 : decode cX1_glancesUnderWay 1 = .ok (.getfield 12, 3) := by decide +kernel
theorem dX1_glancesUnderWay_4 : decode cX1_glancesUnderWay 4 = .ok (.getfield 106, 3) := by decide +kernel
theorem dX1_glancesUnderWay_7 : decode cX1_glancesUnderWay 7 = .ok (.ireturn, 1) := by decide +kernel
theorem dX1_meetings_0 : decode cX1_meetings 0 = .ok (.aload_n 0, 1) := by decide +kernel
theorem dX1_meetings_1 : decode cX1_meetings 1 = .ok (.getfield 12, 3) := by decide +kernel
theorem dX1_meetings_4 : decode cX1_meetings 4 = .ok (.getfield 109, 3) := by decide +kernel
theorem dX1_meetings_7 : decode cX1_meetings 7 = .ok (.ireturn, 1) := by decide +kernel
theorem dX1_lostGlances_0 : decode cX1_lostGlances 0 = .ok (.aload_n 0, 1) := by decide +kernel
theorem dX1_lostGlances_1 : decode cX1_lostGlances 1 = .ok (.getfield 12, 3) := by decide +kernel
theorem dX1_lostGlances_4 : decode cX1_lostGlances 4 = .ok (.getfield 112, 3) := by decide +kernel
theorem dX1_lostGlances_7 : decode cX1_lostGlances 7 = .ok (.ireturn, 1) := by decide +kernel
theorem dX1_quietest_0 : decode cX1_quietest 0 = .ok (.iconst 0, 1) := by decide +kernel
theorem dX1_quietest_1 : decode cX1_quietest 1 = .ok (.istore_n 1, 1) := by decide +kernel
theorem dX1_quietest_2 : decode cX1_quietest 2 = .ok (.iconst 1, 1) := by decide +kernel
theorem dX1_quietest_3 : decode cX1_quietest 3 = .ok (.istore_n 2, 1) := by decide +kernel
theorem dX1_quietest_4 : decode cX1_quietest 4 = .ok (.iload_n 2, 1) := by decide +kernel
theorem dX1_quietest_5 : decode cX1_quietest 5 = .ok (.aload_n 0, 1) := by decide +kernel
theorem dX1_quietest_6 : decode cX1_quietest 6 = .ok (.getfield 12, 3) := by decide +kernel
theorem dX1_quietest_9 : decode cX1_quietest 9 = .ok (.getfield 58, 3) := by decide +kernel
theorem dX1_quietest_12 : decode cX1_quietest 12 = .ok (.if_icmp .ge 32, 3) := by decide +kernel
theorem dX1_quietest_15 : decode cX1_quietest 15 = .ok (.aload_n 0, 1) := by decide +kernel
theorem dX1_quietest_16 : decode cX1_quietest 16 = .ok (.getfield 12, 3) := by decide +kernel
theorem dX1_quietest_19 : decode cX1_quietest 19 = .ok (.getfield 86, 3) := by decide +kernel
theorem dX1_quietest_22 : decode cX1_quietest 22 = .ok (.iload_n 2, 1) := by decide +kernel
theorem dX1_quietest_23 : decode cX1_quietest 23 = .ok (.iaload, 1) := by decide +kernel
theorem dX1_quietest_24 : decode cX1_quietest 24 = .ok (.aload_n 0, 1) := by decide +kernel
theorem dX1_quietest_25 : decode cX1_quietest 25 = .ok (.getfield 12, 3) := by decide +kernel
theorem dX1_quietest_28 : decode cX1_quietest 28 = .ok (.getfield 86, 3) := by decide +kernel
theorem dX1_quietest_31 : decode cX1_quietest 31 = .ok (.iload_n 1, 1) := by decide +kernel
theorem dX1_quietest_32 : decode cX1_quietest 32 = .ok (.iaload, 1) := by decide +kernel
theorem dX1_quietest_33 : decode cX1_quietest 33 = .ok (.if_icmp .le 5, 3) := by decide +kernel
theorem dX1_quietest_36 : decode cX1_quietest 36 = .ok (.iload_n 2, 1) := by decide +kernel
theorem dX1_quietest_37 : decode cX1_quietest 37 = .ok (.istore_n 1, 1) := by decide +kernel
theorem dX1_quietest_38 : decode cX1_quietest 38 = .ok (.iinc 2 1, 3) := by decide +kernel
theorem dX1_quietest_41 : decode cX1_quietest 41 = .ok (.goto (-37), 3) := by decide +kernel
theorem dX1_quietest_44 : decode cX1_quietest 44 = .ok (.iload_n 1, 1) := by decide +kernel
theorem dX1_quietest_45 : decode cX1_quietest 45 = .ok (.ireturn, 1) := by decide +kernel
set_option maxRecDepth 20000 in
theorem ggX1_rating_X0_rate : GoodIn wsX1_rating wsX0_rate := goodIn_r _ [6, 7, 8, 9, 10, 11, 12, 13, 14, 15, 16, 17, 5, 18, 19, 20, 21, 22, 23, 24, 27, 28, 29, 30, 31, 32, 33, 34, 35, 36, 37, 38, 39, 40, 41, 42, 43] (by decide +kernel) (by decide +kernel)
set_option maxRecDepth 20000 in
theorem gX1_rating_X0_rate : GoodIn wsX1_rating (wsV RX1 23 RX0 yX0_rate wsX0_rate) := goodIn_app (goodIn_of _ (by decide +kernel)) ggX1_rating_X0_rate
theorem dX1_rating_0 : decode cX1_rating 0 = .ok (.aload_n 0, 1) := by decide +kernel
theorem dX1_rating_1 : decode cX1_rating 1 = .ok (.getfield 12, 3) := by decide +kernel
theorem dX1_rating_4 : decode cX1_rating 4 = .ok (.invokevirtual 23, 3) := by decide +kernel
theorem dX1_rating_7 : decode cX1_rating 7 = .ok (.ireturn, 1) := by decide +kernel
set_option maxRecDepth 20000 in
theorem ggX1_allUnsaidIn_X1_requireWithin : GoodIn wsX1_allUnsaidIn wsX1_requireWithin := goodIn_ca (goodIn_r _ [5, 6, 7] (by decide +kernel) (by decide +kernel)) (goodIn_sub (fun _ h => List.mem_cons_of_mem _ (List.mem_append_right _ h)) (by decide +kernel))
set_option maxRecDepth 20000 in
theorem gX1_allUnsaidIn_X1_requireWithin : GoodIn wsX1_allUnsaidIn (va_wsS RX1 19 yX1_requireWithin wsX1_requireWithin) := goodIn_app (goodIn_of _ (by decide +kernel)) ggX1_allUnsaidIn_X1_requireWithin
set_option maxRecDepth 20000 in
theorem ggX1_allUnsaidIn_X1_tryOut : GoodIn wsX1_allUnsaidIn wsX1_tryOut := goodIn_r _ [11, 1, 12, 13, 14, 15, 16, 17, 18, 19, 20, 21, 22, 23, 24, 25, 26, 27, 28, 29, 30, 31, 32, 33, 34, 35, 36, 37, 38, 39, 40, 41, 42, 43, 44, 45, 46, 47, 48, 49, 50, 51, 52, 53, 54, 55, 56, 57, 58, 59, 60, 61, 62, 63, 4, 64, 65, 66, 67, 68, 69, 70, 71, 72, 81, 82, 83, 84, 85, 86, 87, 88, 89, 90, 91, 92, 93, 94, 95, 96, 97, 98, 99] (by decide +kernel) (by decide +kernel)
set_option maxRecDepth 20000 in
theorem gX1_allUnsaidIn_X1_tryOut : GoodIn wsX1_allUnsaidIn (wsV RX1 115 RX1 yX1_tryOut wsX1_tryOut) := goodIn_app (goodIn_of _ (by decide +kernel)) ggX1_allUnsaidIn_X1_tryOut
set_option maxRecDepth 20000 in
theorem ggX1_allUnsaidIn_X0_sumUnsaid : GoodIn wsX1_allUnsaidIn wsX0_sumUnsaid := goodIn_r _ [76, 24, 77, 78, 79, 16, 80, 18, 35, 83, 84, 85, 86, 87, 88, 89, 90, 91, 92, 93, 94, 95, 96, 97, 98, 99] (by decide +kernel) (by decide +kernel)
set_option maxRecDepth 20000 in
theorem gX1_allUnsaidIn_X0_sumUnsaid : GoodIn wsX1_allUnsaidIn (wsV RX1 52 RX0 yX0_sumUnsaid wsX0_sumUnsaid) := goodIn_app (goodIn_of _ (by decide +kernel)) ggX1_allUnsaidIn_X0_sumUnsaid
theorem dX1_allUnsaidIn_0 : decode cX1_allUnsaidIn 0 = .ok (.iload_n 1, 1) := by decide +kernel
theorem dX1_allUnsaidIn_1 : decode cX1_allUnsaidIn 1 = .ok (.iconst 1, 1) := by decide +kernel
theorem dX1_allUnsaidIn_2 : decode cX1_allUnsaidIn 2 = .ok (.bipush 120, 2) := by decide +kernel
theorem dX1_allUnsaidIn_4 : decode cX1_allUnsaidIn 4 = .ok (.invokestatic 19, 3) := by decide +kernel
theorem dX1_allUnsaidIn_7 : decode cX1_allUnsaidIn 7 = .ok (.aload_n 0, 1) := by decide +kernel
theorem dX1_allUnsaidIn_8 : decode cX1_allUnsaidIn 8 = .ok (.iload_n 1, 1) := by decide +kernel
theorem dX1_allUnsaidIn_9 : decode cX1_allUnsaidIn 9 = .ok (.invokevirtual 115, 3) := by decide +kernel
theorem dX1_allUnsaidIn_12 : decode cX1_allUnsaidIn 12 = .ok (.aload_n 0, 1) := by decide +kernel
theorem dX1_allUnsaidIn_13 : decode cX1_allUnsaidIn 13 = .ok (.getfield 16, 3) := by decide +kernel
theorem dX1_allUnsaidIn_16 : decode cX1_allUnsaidIn 16 = .ok (.invokevirtual 52, 3) := by decide +kernel
theorem dX1_allUnsaidIn_19 : decode cX1_allUnsaidIn 19 = .ok (.ireturn, 1) := by decide +kernel
set_option maxRecDepth 20000 in
theorem ggX1_secondsUntilPauseCounts_X0_untilPauseCounts : GoodIn wsX1_secondsUntilPauseCounts wsX0_untilPauseCounts := goodIn_r _ [6, 7, 8, 9, 10, 11, 12, 13, 5, 14, 17, 18, 19, 20, 21, 22, 23, 24, 25, 26, 27, 28, 29, 30, 31, 32, 33] (by decide +kernel) (by decide +kernel)
set_option maxRecDepth 20000 in
theorem gX1_secondsUntilPauseCounts_X0_untilPauseCounts : GoodIn wsX1_secondsUntilPauseCounts (wsV RX1 118 RX0 yX0_untilPauseCounts wsX0_untilPauseCounts) := goodIn_app (goodIn_of _ (by decide +kernel)) ggX1_secondsUntilPauseCounts_X0_untilPauseCounts
theorem dX1_secondsUntilPauseCounts_0 : decode cX1_secondsUntilPauseCounts 0 = .ok (.aload_n 0, 1) := by decide +kernel
theorem dX1_secondsUntilPauseCounts_1 : decode cX1_secondsUntilPauseCounts 1 = .ok (.getfield 12, 3) := by decide +kernel
theorem dX1_secondsUntilPauseCounts_4 : decode cX1_secondsUntilPauseCounts 4 = .ok (.invokevirtual 118, 3) := by decide +kernel
theorem dX1_secondsUntilPauseCounts_7 : decode cX1_secondsUntilPauseCounts 7 = .ok (.ireturn, 1) := by decide +kernel
set_option maxRecDepth 20000 in
theorem ggX1_wouldLeave_X1_requireFreeWay : GoodIn wsX1_wouldLeave wsX1_requireFreeWay := goodIn_ca (goodIn_ca (goodIn_ca (goodIn_r _ [6, 7, 8, 9, 10, 1, 11, 12, 13, 5, 14, 15, 16, 17, 18, 19, 20, 21, 22, 23, 24, 25, 26, 54, 55, 56, 57, 58, 59, 60, 61, 62, 63, 64, 65, 66, 67, 68, 69, 70, 71, 72] (by decide +kernel) (by decide +kernel)) (goodIn_sub (fun _ h => List.mem_cons_of_mem _ (List.mem_append_left _ (List.mem_append_left _ (List.mem_append_right _ h)))) (by decide +kernel))) (goodIn_sub (fun _ h => List.mem_cons_of_mem _ (List.mem_append_left _ (List.mem_append_right _ h))) (by decide +kernel))) (goodIn_sub (fun _ h => List.mem_cons_of_mem _ (List.mem_append_right _ h)) (by decide +kernel))
set_option maxRecDepth 20000 in
theorem gX1_wouldLeave_X1_requireFreeWay : GoodIn wsX1_wouldLeave (wsV RX1 45 RX1 yX1_requireFreeWay wsX1_requireFreeWay) := goodIn_app (goodIn_of _ (by decide +kernel)) ggX1_wouldLeave_X1_requireFreeWay
set_option maxRecDepth 20000 in
theorem ggX1_wouldLeave_X0_fateOf : GoodIn wsX1_wouldLeave wsX0_fateOf := goodIn_r _ [30, 31, 32, 19, 5, 20, 33, 34, 35, 24, 36, 26, 37, 22, 23, 25, 38, 39, 40, 41, 42, 43, 44, 45, 46, 47, 48, 49, 50, 51, 52, 53, 56, 57, 58, 59, 60, 61, 62, 63, 64, 65, 66, 67, 68, 69, 70, 71, 72] (by decide +kernel) (by decide +kernel)
set_option maxRecDepth 20000 in
theorem gX1_wouldLeave_X0_fateOf : GoodIn wsX1_wouldLeave (wsV RX1 121 RX0 yX0_fateOf wsX0_fateOf) := goodIn_app (goodIn_of _ (by decide +kernel)) ggX1_wouldLeave_X0_fateOf
theorem dX1_wouldLeave_0 : decode cX1_wouldLeave 0 = .ok (.aload_n 0, 1) := by decide +kernel
theorem dX1_wouldLeave_1 : decode cX1_wouldLeave 1 = .ok (.iload_n 1, 1) := by decide +kernel
theorem dX1_wouldLeave_2 : decode cX1_wouldLeave 2 = .ok (.iload_n 2, 1) := by decide +kernel
theorem dX1_wouldLeave_3 : decode cX1_wouldLeave 3 = .ok (.invokevirtual 45, 3) := by decide +kernel
theorem dX1_wouldLeave_6 : decode cX1_wouldLeave 6 = .ok (.aload_n 0, 1) := by decide +kernel
theorem dX1_wouldLeave_7 : decode cX1_wouldLeave 7 = .ok (.getfield 12, 3) := by decide +kernel
theorem dX1_wouldLeave_10 : decode cX1_wouldLeave 10 = .ok (.iload_n 1, 1) := by decide +kernel
theorem dX1_wouldLeave_11 : decode cX1_wouldLeave 11 = .ok (.iload_n 2, 1) := by decide +kernel
theorem dX1_wouldLeave_12 : decode cX1_wouldLeave 12 = .ok (.iconst 0, 1) := by decide +kernel
theorem dX1_wouldLeave_13 : decode cX1_wouldLeave 13 = .ok (.invokevirtual 121, 3) := by decide +kernel
theorem dX1_wouldLeave_16 : decode cX1_wouldLeave 16 = .ok (.ireturn, 1) := by decide +kernel
set_option maxRecDepth 20000 in
theorem ggX1_bestMoment_X1_requireFreeWay : GoodIn wsX1_bestMoment wsX1_requireFreeWay := goodIn_ca (goodIn_ca (goodIn_ca (goodIn_r _ [6, 7, 8, 9, 10, 1, 11, 12, 13, 5, 14, 15, 16, 17, 18, 19, 20, 21, 22, 23, 24, 25, 26, 54, 55, 56, 57, 58, 59, 60, 61, 62, 63, 64, 65, 66, 67, 68, 69, 70, 71, 72] (by decide +kernel) (by decide +kernel)) (goodIn_sub (fun _ h => List.mem_cons_of_mem _ (List.mem_append_left _ (List.mem_append_left _ (List.mem_append_right _ h)))) (by decide +kernel))) (goodIn_sub (fun _ h => List.mem_cons_of_mem _ (List.mem_append_left _ (List.mem_append_right _ h))) (by decide +kernel))) (goodIn_sub (fun _ h => List.mem_cons_of_mem _ (List.mem_append_right _ h)) (by decide +kernel))
set_option maxRecDepth 20000 in
theorem gX1_bestMoment_X1_requireFreeWay : GoodIn wsX1_bestMoment (wsV RX1 45 RX1 yX1_requireFreeWay wsX1_requireFreeWay) := goodIn_app (goodIn_of _ (by decide +kernel)) ggX1_bestMoment_X1_requireFreeWay
set_option maxRecDepth 20000 in
theorem ggX1_bestMoment_X0_fateOf : GoodIn wsX1_bestMoment wsX0_fateOf := goodIn_r _ [30, 31, 32, 19, 5, 20, 33, 34, 35, 24, 36, 26, 37, 22, 23, 25, 38, 39, 40, 41, 42, 43, 44, 45, 46, 47, 48, 49, 50, 51, 52, 53, 56, 57, 58, 59, 60, 61, 62, 63, 64, 65, 66, 67, 68, 69, 70, 71, 72] (by decide +kernel) (by decide +kernel)
set_option maxRecDepth 20000 in
theorem gX1_bestMoment_X0_fateOf : GoodIn wsX1_bestMoment (wsV RX1 121 RX0 yX0_fateOf wsX0_fateOf) := goodIn_app (goodIn_of _ (by decide +kernel)) ggX1_bestMoment_X0_fateOf
theorem dX1_bestMoment_0 : decode cX1_bestMoment 0 = .ok (.aload_n 0, 1) := by decide +kernel
theorem dX1_bestMoment_1 : decode cX1_bestMoment 1 = .ok (.iload_n 1, 1) := by decide +kernel
theorem dX1_bestMoment_2 : decode cX1_bestMoment 2 = .ok (.iload_n 2, 1) := by decide +kernel
theorem dX1_bestMoment_3 : decode cX1_bestMoment 3 = .ok (.invokevirtual 45, 3) := by decide +kernel
theorem dX1_bestMoment_6 : decode cX1_bestMoment 6 = .ok (.iconst 0, 1) := by decide +kernel
theorem dX1_bestMoment_7 : decode cX1_bestMoment 7 = .ok (.istore_n 3, 1) := by decide +kernel
theorem dX1_bestMoment_8 : decode cX1_bestMoment 8 = .ok (.iload_n 3, 1) := by decide +kernel
theorem dX1_bestMoment_9 : decode cX1_bestMoment 9 = .ok (.bipush 60, 2) := by decide +kernel
theorem dX1_bestMoment_11 : decode cX1_bestMoment 11 = .ok (.if_icmp .gt 24, 3) := by decide +kernel
theorem dX1_bestMoment_14 : decode cX1_bestMoment 14 = .ok (.aload_n 0, 1) := by decide +kernel
theorem dX1_bestMoment_15 : decode cX1_bestMoment 15 = .ok (.getfield 12, 3) := by decide +kernel
theorem dX1_bestMoment_18 : decode cX1_bestMoment 18 = .ok (.iload_n 1, 1) := by decide +kernel
theorem dX1_bestMoment_19 : decode cX1_bestMoment 19 = .ok (.iload_n 2, 1) := by decide +kernel
theorem dX1_bestMoment_20 : decode cX1_bestMoment 20 = .ok (.iload_n 3, 1) := by decide +kernel
theorem dX1_bestMoment_21 : decode cX1_bestMoment 21 = .ok (.invokevirtual 121, 3) := by decide +kernel
theorem dX1_bestMoment_24 : decode cX1_bestMoment 24 = .ok (.ifCond .eq 5, 3) := by decide +kernel
theorem dX1_bestMoment_27 : decode cX1_bestMoment 27 = .ok (.iload_n 3, 1) := by decide +kernel
theorem dX1_bestMoment_28 : decode cX1_bestMoment 28 = .ok (.ireturn, 1) := by decide +kernel
theorem dX1_bestMoment_29 : decode cX1_bestMoment 29 = .ok (.iinc 3 1, 3) := by decide +kernel
theorem dX1_bestMoment_32 : decode cX1_bestMoment 32 = .ok (.goto (-24), 3) := by decide +kernel
theorem dX1_bestMoment_35 : decode cX1_bestMoment 35 = .ok (.iconst (-1), 1) := by decide +kernel
theorem dX1_bestMoment_36 : decode cX1_bestMoment 36 = .ok (.ireturn, 1) := by decide +kernel
set_option maxRecDepth 20000 in
theorem ggX1_ratingIn_X1_requireWithin : GoodIn wsX1_ratingIn wsX1_requireWithin := goodIn_ca (goodIn_r _ [5, 6, 7] (by decide +kernel) (by decide +kernel)) (goodIn_sub (fun _ h => List.mem_cons_of_mem _ (List.mem_append_right _ h)) (by decide +kernel))
set_option maxRecDepth 20000 in
theorem gX1_ratingIn_X1_requireWithin : GoodIn wsX1_ratingIn (va_wsS RX1 19 yX1_requireWithin wsX1_requireWithin) := goodIn_app (goodIn_of _ (by decide +kernel)) ggX1_ratingIn_X1_requireWithin
set_option maxRecDepth 20000 in
theorem ggX1_ratingIn_X1_tryOut : GoodIn wsX1_ratingIn wsX1_tryOut := goodIn_r _ [11, 1, 12, 13, 14, 15, 16, 17, 18, 19, 20, 21, 22, 23, 24, 25, 26, 27, 28, 29, 30, 31, 32, 33, 34, 35, 36, 37, 38, 39, 40, 41, 42, 43, 44, 45, 46, 47, 48, 49, 50, 51, 52, 53, 54, 55, 56, 57, 58, 59, 60, 61, 62, 63, 4, 64, 65, 66, 67, 68, 69, 70, 71, 72, 92, 93, 94, 95, 96, 97, 98, 99, 100, 101, 102, 103, 104, 105, 106, 107, 108, 109, 110] (by decide +kernel) (by decide +kernel)
set_option maxRecDepth 20000 in
theorem gX1_ratingIn_X1_tryOut : GoodIn wsX1_ratingIn (wsV RX1 115 RX1 yX1_tryOut wsX1_tryOut) := goodIn_app (goodIn_of _ (by decide +kernel)) ggX1_ratingIn_X1_tryOut
set_option maxRecDepth 20000 in
theorem ggX1_ratingIn_X0_rate : GoodIn wsX1_ratingIn wsX0_rate := goodIn_r _ [76, 18, 77, 78, 79, 80, 81, 82, 83, 84, 85, 86, 16, 87, 24, 88, 89, 90, 91, 35, 94, 95, 96, 97, 98, 99, 100, 101, 102, 103, 104, 105, 106, 107, 108, 109, 110] (by decide +kernel) (by decide +kernel)
set_option maxRecDepth 20000 in
theorem gX1_ratingIn_X0_rate : GoodIn wsX1_ratingIn (wsV RX1 23 RX0 yX0_rate wsX0_rate) := goodIn_app (goodIn_of _ (by decide +kernel)) ggX1_ratingIn_X0_rate
theorem dX1_ratingIn_0 : decode cX1_ratingIn 0 = .ok (.iload_n 1, 1) := by decide +kernel
theorem dX1_ratingIn_1 : decode cX1_ratingIn 1 = .ok (.iconst 1, 1) := by decide +kernel
theorem dX1_ratingIn_2 : decode cX1_ratingIn 2 = .ok (.bipush 120, 2) := by decide +kernel
theorem dX1_ratingIn_4 : decode cX1_ratingIn 4 = .ok (.invokestatic 19, 3) := by decide +kernel
theorem dX1_ratingIn_7 : decode cX1_ratingIn 7 = .ok (.aload_n 0, 1) := by decide +kernel
theorem dX1_ratingIn_8 : decode cX1_ratingIn 8 = .ok (.iload_n 1, 1) := by decide +kernel
theorem dX1_ratingIn_9 : decode cX1_ratingIn 9 = .ok (.invokevirtual 115, 3) := by decide +kernel
theorem dX1_ratingIn_12 : decode cX1_ratingIn 12 = .ok (.aload_n 0, 1) := by decide +kernel
theorem dX1_ratingIn_13 : decode cX1_ratingIn 13 = .ok (.getfield 16, 3) := by decide +kernel
theorem dX1_ratingIn_16 : decode cX1_ratingIn 16 = .ok (.invokevirtual 23, 3) := by decide +kernel
theorem dX1_ratingIn_19 : decode cX1_ratingIn 19 = .ok (.ireturn, 1) := by decide +kernel
set_option maxRecDepth 20000 in
theorem ggX1_meanUnsaid_X0_sumUnsaidByGuests : GoodIn wsX1_meanUnsaid wsX0_sumUnsaidByGuests := goodIn_r _ [7, 8, 9, 12, 13, 14, 15, 16, 17, 18, 19, 20, 21, 22, 23, 24, 25, 26, 27, 28] (by decide +kernel) (by decide +kernel)
set_option maxRecDepth 20000 in
theorem gX1_meanUnsaid_X0_sumUnsaidByGuests : GoodIn wsX1_meanUnsaid (wsV RX1 125 RX0 yX0_sumUnsaidByGuests wsX0_sumUnsaidByGuests) := goodIn_app (goodIn_of _ (by decide +kernel)) ggX1_meanUnsaid_X0_sumUnsaidByGuests
theorem dX1_meanUnsaid_0 : decode cX1_meanUnsaid 0 = .ok (.aload_n 0, 1) := by decide +kernel
theorem dX1_meanUnsaid_1 : decode cX1_meanUnsaid 1 = .ok (.getfield 12, 3) := by decide +kernel
theorem dX1_meanUnsaid_4 : decode cX1_meanUnsaid 4 = .ok (.getfield 58, 3) := by decide +kernel
theorem dX1_meanUnsaid_7 : decode cX1_meanUnsaid 7 = .ok (.ifCond .le 23, 3) := by decide +kernel
theorem dX1_meanUnsaid_10 : decode cX1_meanUnsaid 10 = .ok (.aload_n 0, 1) := by decide +kernel
theorem dX1_meanUnsaid_11 : decode cX1_meanUnsaid 11 = .ok (.getfield 12, 3) := by decide +kernel
theorem dX1_meanUnsaid_14 : decode cX1_meanUnsaid 14 = .ok (.invokevirtual 125, 3) := by decide +kernel
theorem dX1_meanUnsaid_17 : decode cX1_meanUnsaid 17 = .ok (.i2d, 1) := by decide +kernel
theorem dX1_meanUnsaid_18 : decode cX1_meanUnsaid 18 = .ok (.aload_n 0, 1) := by decide +kernel
theorem dX1_meanUnsaid_19 : decode cX1_meanUnsaid 19 = .ok (.getfield 12, 3) := by decide +kernel
theorem dX1_meanUnsaid_22 : decode cX1_meanUnsaid 22 = .ok (.getfield 58, 3) := by decide +kernel
theorem dX1_meanUnsaid_25 : decode cX1_meanUnsaid 25 = .ok (.i2d, 1) := by decide +kernel
theorem dX1_meanUnsaid_26 : decode cX1_meanUnsaid 26 = .ok (.ddiv, 1) := by decide +kernel
theorem dX1_meanUnsaid_27 : decode cX1_meanUnsaid 27 = .ok (.goto 4, 3) := by decide +kernel
theorem dX1_meanUnsaid_30 : decode cX1_meanUnsaid 30 = .ok (.dconst 0, 1) := by decide +kernel
theorem dX1_meanUnsaid_31 : decode cX1_meanUnsaid 31 = .ok (.dreturn, 1) := by decide +kernel
set_option maxRecDepth 20000 in
theorem ggX1_digest_X1_digestOfTable : GoodIn wsX1_digest wsX1_digestOfTable := goodIn_r _ [7, 8, 1, 2, 9, 10, 11, 12, 13, 14, 15, 16, 17, 18, 19, 6, 20, 21, 22, 23, 24, 25, 26, 27, 28, 29, 30, 31, 32, 33, 34, 35, 36, 37, 38, 39, 40, 41, 42, 43, 44, 66, 67, 68, 69, 70, 71, 72, 73, 74, 75, 76, 77, 78, 79, 80, 81, 82, 83, 84] (by decide +kernel) (by decide +kernel)
set_option maxRecDepth 20000 in
theorem gX1_digest_X1_digestOfTable : GoodIn wsX1_digest (wsV RX1 128 RX1 yX1_digestOfTable wsX1_digestOfTable) := goodIn_app (goodIn_of _ (by decide +kernel)) ggX1_digest_X1_digestOfTable
set_option maxRecDepth 20000 in
theorem ggX1_digest_X1_withGuest : GoodIn wsX1_digest wsX1_withGuest := goodIn_r _ [48, 1, 49, 50, 51, 52, 2, 53, 18, 19, 6, 20, 21, 54, 55, 56, 57, 58, 59, 25, 60, 61, 62, 63, 64, 65, 66, 67, 68, 69, 70, 71, 72, 73, 74, 75, 76, 77, 78, 79, 80, 81, 82, 83, 84] (by decide +kernel) (by decide +kernel)
set_option maxRecDepth 20000 in
theorem gX1_digest_X1_withGuest : GoodIn wsX1_digest (wsV RX1 132 RX1 yX1_withGuest wsX1_withGuest) := goodIn_app (goodIn_of _ (by decide +kernel)) ggX1_digest_X1_withGuest
theorem dX1_digest_0 : decode cX1_digest 0 = .ok (.aload_n 0, 1) := by decide +kernel
theorem dX1_digest_1 : decode cX1_digest 1 = .ok (.invokevirtual 128, 3) := by decide +kernel
theorem dX1_digest_4 : decode cX1_digest 4 = .ok (.lstore_n 1, 1) := by decide +kernel
theorem dX1_digest_5 : decode cX1_digest 5 = .ok (.iconst 0, 1) := by decide +kernel
theorem dX1_digest_6 : decode cX1_digest 6 = .ok (.istore_n 3, 1) := by decide +kernel
theorem dX1_digest_7 : decode cX1_digest 7 = .ok (.iload_n 3, 1) := by decide +kernel
theorem dX1_digest_8 : decode cX1_digest 8 = .ok (.aload_n 0, 1) := by decide +kernel
theorem dX1_digest_9 : decode cX1_digest 9 = .ok (.getfield 12, 3) := by decide +kernel
theorem dX1_digest_12 : decode cX1_digest 12 = .ok (.getfield 58, 3) := by decide +kernel
theorem dX1_digest_15 : decode cX1_digest 15 = .ok (.if_icmp .ge 16, 3) := by decide +kernel
theorem dX1_digest_18 : decode cX1_digest 18 = .ok (.aload_n 0, 1) := by decide +kernel
theorem dX1_digest_19 : decode cX1_digest 19 = .ok (.lload_n 1, 1) := by decide +kernel
theorem dX1_digest_20 : decode cX1_digest 20 = .ok (.iload_n 3, 1) := by decide +kernel
theorem dX1_digest_21 : decode cX1_digest 21 = .ok (.invokevirtual 132, 3) := by decide +kernel
theorem dX1_digest_24 : decode cX1_digest 24 = .ok (.lstore_n 1, 1) := by decide +kernel
theorem dX1_digest_25 : decode cX1_digest 25 = .ok (.iinc 3 1, 3) := by decide +kernel
theorem dX1_digest_28 : decode cX1_digest 28 = .ok (.goto (-21), 3) := by decide +kernel
theorem dX1_digest_31 : decode cX1_digest 31 = .ok (.lload_n 1, 1) := by decide +kernel
theorem dX1_digest_32 : decode cX1_digest 32 = .ok (.lreturn, 1) := by decide +kernel
set_option maxRecDepth 20000 in
theorem ggX1_digestOfTable_X1_followedBy : GoodIn wsX1_digestOfTable wsX1_followedBy := goodIn_r _ [16, 17] (by decide +kernel) (by decide +kernel)
set_option maxRecDepth 20000 in
theorem gX1_digestOfTable_X1_followedBy : GoodIn wsX1_digestOfTable (va_wsS RX1 138 yX1_followedBy wsX1_followedBy) := goodIn_app (goodIn_of _ (by decide +kernel)) ggX1_digestOfTable_X1_followedBy
set_option maxRecDepth 20000 in
theorem ggX1_digestOfTable_X0_rate : GoodIn wsX1_digestOfTable wsX0_rate := goodIn_r _ [22, 23, 24, 25, 26, 27, 28, 29, 30, 31, 32, 33, 21, 34, 35, 36, 37, 38, 39, 40, 43, 44, 45, 46, 47, 48, 49, 50, 51, 52, 53, 54, 55, 56, 57, 58, 59] (by decide +kernel) (by decide +kernel)
set_option maxRecDepth 20000 in
theorem gX1_digestOfTable_X0_rate : GoodIn wsX1_digestOfTable (wsV RX1 23 RX0 yX0_rate wsX0_rate) := goodIn_app (goodIn_of _ (by decide +kernel)) ggX1_digestOfTable_X0_rate
theorem dX1_digestOfTable_0 : decode cX1_digestOfTable 0 = .ok (.ldc2_w 136, 3) := by decide +kernel
theorem dX1_digestOfTable_3 : decode cX1_digestOfTable 3 = .ok (.lstore_n 1, 1) := by decide +kernel
theorem dX1_digestOfTable_4 : decode cX1_digestOfTable 4 = .ok (.lload_n 1, 1) := by decide +kernel
theorem dX1_digestOfTable_5 : decode cX1_digestOfTable 5 = .ok (.aload_n 0, 1) := by decide +kernel
theorem dX1_digestOfTable_6 : decode cX1_digestOfTable 6 = .ok (.getfield 12, 3) := by decide +kernel
theorem dX1_digestOfTable_9 : decode cX1_digestOfTable 9 = .ok (.getfield 58, 3) := by decide +kernel
theorem dX1_digestOfTable_12 : decode cX1_digestOfTable 12 = .ok (.invokestatic 138, 3) := by decide +kernel
theorem dX1_digestOfTable_15 : decode cX1_digestOfTable 15 = .ok (.lstore_n 1, 1) := by decide +kernel
theorem dX1_digestOfTable_16 : decode cX1_digestOfTable 16 = .ok (.lload_n 1, 1) := by decide +kernel
theorem dX1_digestOfTable_17 : decode cX1_digestOfTable 17 = .ok (.aload_n 0, 1) := by decide +kernel
theorem dX1_digestOfTable_18 : decode cX1_digestOfTable 18 = .ok (.getfield 12, 3) := by decide +kernel
theorem dX1_digestOfTable_21 : decode cX1_digestOfTable 21 = .ok (.getfield 61, 3) := by decide +kernel
theorem dX1_digestOfTable_24 : decode cX1_digestOfTable 24 = .ok (.invokestatic 138, 3) := by decide +kernel
theorem dX1_digestOfTable_27 : decode cX1_digestOfTable 27 = .ok (.lstore_n 1, 1) := by decide +kernel
theorem dX1_digestOfTable_28 : decode cX1_digestOfTable 28 = .ok (.lload_n 1, 1) := by decide +kernel
theorem dX1_digestOfTable_29 : decode cX1_digestOfTable 29 = .ok (.aload_n 0, 1) := by decide +kernel
theorem dX1_digestOfTable_30 : decode cX1_digestOfTable 30 = .ok (.getfield 12, 3) := by decide +kernel
theorem dX1_digestOfTable_33 : decode cX1_digestOfTable 33 = .ok (.getfield 31, 3) := by decide +kernel
theorem dX1_digestOfTable_36 : decode cX1_digestOfTable 36 = .ok (.invokestatic 138, 3) := by decide +kernel
theorem dX1_digestOfTable_39 : decode cX1_digestOfTable 39 = .ok (.lstore_n 1, 1) := by decide +kernel
theorem dX1_digestOfTable_40 : decode cX1_digestOfTable 40 = .ok (.lload_n 1, 1) := by decide +kernel
theorem dX1_digestOfTable_41 : decode cX1_digestOfTable 41 = .ok (.aload_n 0, 1) := by decide +kernel
theorem dX1_digestOfTable_42 : decode cX1_digestOfTable 42 = .ok (.getfield 12, 3) := by decide +kernel
theorem dX1_digestOfTable_45 : decode cX1_digestOfTable 45 = .ok (.getfield 67, 3) := by decide +kernel
theorem dX1_digestOfTable_48 : decode cX1_digestOfTable 48 = .ok (.invokestatic 138, 3) := by decide +kernel
theorem dX1_digestOfTable_51 : decode cX1_digestOfTable 51 = .ok (.lstore_n 1, 1) := by decide +kernel
theorem dX1_digestOfTable_52 : decode cX1_digestOfTable 52 = .ok (.lload_n 1, 1) := by decide +kernel
theorem dX1_digestOfTable_53 : decode cX1_digestOfTable 53 = .ok (.aload_n 0, 1) := by decide +kernel
theorem dX1_digestOfTable_54 : decode cX1_digestOfTable 54 = .ok (.getfield 12, 3) := by decide +kernel
theorem dX1_digestOfTable_57 : decode cX1_digestOfTable 57 = .ok (.getfield 70, 3) := by decide +kernel
theorem dX1_digestOfTable_60 : decode cX1_digestOfTable 60 = .ok (.invokestatic 138, 3) := by decide +kernel
theorem dX1_digestOfTable_63 : decode cX1_digestOfTable 63 = .ok (.lstore_n 1, 1) := by decide +kernel
theorem dX1_digestOfTable_64 : decode cX1_digestOfTable 64 = .ok (.lload_n 1, 1) := by decide +kernel
theorem dX1_digestOfTable_65 : decode cX1_digestOfTable 65 = .ok (.aload_n 0, 1) := by decide +kernel
theorem dX1_digestOfTable_66 : decode cX1_digestOfTable 66 = .ok (.getfield 12, 3) := by decide +kernel
theorem dX1_digestOfTable_69 : decode cX1_digestOfTable 69 = .ok (.getfield 73, 3) := by decide +kernel
theorem dX1_digestOfTable_72 : decode cX1_digestOfTable 72 = .ok (.invokestatic 138, 3) := by decide +kernel
theorem dX1_digestOfTable_75 : decode cX1_digestOfTable 75 = .ok (.lstore_n 1, 1) := by decide +kernel
theorem dX1_digestOfTable_76 : decode cX1_digestOfTable 76 = .ok (.lload_n 1, 1) := by decide +kernel
theorem dX1_digestOfTable_77 : decode cX1_digestOfTable 77 = .ok (.aload_n 0, 1) := by decide +kernel
theorem dX1_digestOfTable_78 : decode cX1_digestOfTable 78 = .ok (.getfield 12, 3) := by decide +kernel
theorem dX1_digestOfTable_81 : decode cX1_digestOfTable 81 = .ok (.getfield 103, 3) := by decide +kernel
theorem dX1_digestOfTable_84 : decode cX1_digestOfTable 84 = .ok (.invokestatic 138, 3) := by decide +kernel
theorem dX1_digestOfTable_87 : decode cX1_digestOfTable 87 = .ok (.lstore_n 1, 1) := by decide +kernel
theorem dX1_digestOfTable_88 : decode cX1_digestOfTable 88 = .ok (.lload_n 1, 1) := by decide +kernel
theorem dX1_digestOfTable_89 : decode cX1_digestOfTable 89 = .ok (.aload_n 0, 1) := by decide +kernel
theorem dX1_digestOfTable_90 : decode cX1_digestOfTable 90 = .ok (.getfield 12, 3) := by decide +kernel
theorem dX1_digestOfTable_93 : decode cX1_digestOfTable 93 = .ok (.getfield 106, 3) := by decide +kernel
theorem dX1_digestOfTable_96 : decode cX1_digestOfTable 96 = .ok (.invokestatic 138, 3) := by decide +kernel
theorem dX1_digestOfTable_99 : decode cX1_digestOfTable 99 = .ok (.lstore_n 1, 1) := by decide +kernel
theorem dX1_digestOfTable_100 : decode cX1_digestOfTable 100 = .ok (.lload_n 1, 1) := by decide +kernel
theorem dX1_digestOfTable_101 : decode cX1_digestOfTable 101 = .ok (.aload_n 0, 1) := by decide +kernel
theorem dX1_digestOfTable_102 : decode cX1_digestOfTable 102 = .ok (.getfield 12, 3) := by decide +kernel
theorem dX1_digestOfTable_105 : decode cX1_digestOfTable 105 = .ok (.getfield 109, 3) := by decide +kernel
theorem dX1_digestOfTable_108 : decode cX1_digestOfTable 108 = .ok (.invokestatic 138, 3) := by decide +kernel
theorem dX1_digestOfTable_111 : decode cX1_digestOfTable 111 = .ok (.lstore_n 1, 1) := by decide +kernel
theorem dX1_digestOfTable_112 : decode cX1_digestOfTable 112 = .ok (.lload_n 1, 1) := by decide +kernel
theorem dX1_digestOfTable_113 : decode cX1_digestOfTable 113 = .ok (.aload_n 0, 1) := by decide +kernel
theorem dX1_digestOfTable_114 : decode cX1_digestOfTable 114 = .ok (.getfield 12, 3) := by decide +kernel
theorem dX1_digestOfTable_117 : decode cX1_digestOfTable 117 = .ok (.getfield 112, 3) := by decide +kernel
theorem dX1_digestOfTable_120 : decode cX1_digestOfTable 120 = .ok (.invokestatic 138, 3) := by decide +kernel
theorem dX1_digestOfTable_123 : decode cX1_digestOfTable 123 = .ok (.lstore_n 1, 1) := by decide +kernel
theorem dX1_digestOfTable_124 : decode cX1_digestOfTable 124 = .ok (.lload_n 1, 1) := by decide +kernel
theorem dX1_digestOfTable_125 : decode cX1_digestOfTable 125 = .ok (.aload_n 0, 1) := by decide +kernel
theorem dX1_digestOfTable_126 : decode cX1_digestOfTable 126 = .ok (.getfield 12, 3) := by decide +kernel
theorem dX1_digestOfTable_129 : decode cX1_digestOfTable 129 = .ok (.invokevirtual 23, 3) := by decide +kernel
theorem dX1_digestOfTable_132 : decode cX1_digestOfTable 132 = .ok (.invokestatic 138, 3) := by decide +kernel
theorem dX1_digestOfTable_135 : decode cX1_digestOfTable 135 = .ok (.lreturn, 1) := by decide +kernel
set_option maxRecDepth 20000 in
theorem ggX1_withGuest_X1_followedBy : GoodIn wsX1_withGuest wsX1_followedBy := goodIn_r _ [11, 12] (by decide +kernel) (by decide +kernel)
set_option maxRecDepth 20000 in
theorem gX1_withGuest_X1_followedBy : GoodIn wsX1_withGuest (va_wsS RX1 138 yX1_followedBy wsX1_followedBy) := goodIn_app (goodIn_of _ (by decide +kernel)) ggX1_withGuest_X1_followedBy
set_option maxRecDepth 20000 in
theorem ggX1_withGuest_X1_pairOf : GoodIn wsX1_withGuest wsX1_pairOf := goodIn_r _ [15] (by decide +kernel) (by decide +kernel)
set_option maxRecDepth 20000 in
theorem gX1_withGuest_X1_pairOf : GoodIn wsX1_withGuest (va_wsS RX1 89 yX1_pairOf wsX1_pairOf) := goodIn_app (goodIn_of _ (by decide +kernel)) ggX1_withGuest_X1_pairOf
set_option maxRecDepth 20000 in
theorem ggX1_withGuest_X0_timeToGo : GoodIn wsX1_withGuest wsX0_timeToGo := goodIn_r _ [20, 21, 22, 23, 24, 19, 25, 28, 29, 30, 31, 32, 33, 34, 35, 36, 37, 38, 39, 40, 41, 42, 43, 44] (by decide +kernel) (by decide +kernel)
set_option maxRecDepth 20000 in
theorem gX1_withGuest_X0_timeToGo : GoodIn wsX1_withGuest (wsV RX1 96 RX0 yX0_timeToGo wsX0_timeToGo) := goodIn_app (goodIn_of _ (by decide +kernel)) ggX1_withGuest_X0_timeToGo
theorem dX1_withGuest_0 : decode cX1_withGuest 0 = .ok (.lload_n 1, 1) := by decide +kernel
theorem dX1_withGuest_1 : decode cX1_withGuest 1 = .ok (.lstore 4, 2) := by decide +kernel
theorem dX1_withGuest_3 : decode cX1_withGuest 3 = .ok (.lload 4, 2) := by decide +kernel
theorem dX1_withGuest_5 : decode cX1_withGuest 5 = .ok (.aload_n 0, 1) := by decide +kernel
theorem dX1_withGuest_6 : decode cX1_withGuest 6 = .ok (.getfield 12, 3) := by decide +kernel
theorem dX1_withGuest_9 : decode cX1_withGuest 9 = .ok (.getfield 76, 3) := by decide +kernel
theorem dX1_withGuest_12 : decode cX1_withGuest 12 = .ok (.iload_n 3, 1) := by decide +kernel
theorem dX1_withGuest_13 : decode cX1_withGuest 13 = .ok (.iaload, 1) := by decide +kernel
theorem dX1_withGuest_14 : decode cX1_withGuest 14 = .ok (.invokestatic 138, 3) := by decide +kernel
theorem dX1_withGuest_17 : decode cX1_withGuest 17 = .ok (.lstore 4, 2) := by decide +kernel
theorem dX1_withGuest_19 : decode cX1_withGuest 19 = .ok (.lload 4, 2) := by decide +kernel
theorem dX1_withGuest_21 : decode cX1_withGuest 21 = .ok (.aload_n 0, 1) := by decide +kernel
theorem dX1_withGuest_22 : decode cX1_withGuest 22 = .ok (.getfield 12, 3) := by decide +kernel
theorem dX1_withGuest_25 : decode cX1_withGuest 25 = .ok (.getfield 80, 3) := by decide +kernel
theorem dX1_withGuest_28 : decode cX1_withGuest 28 = .ok (.iload_n 3, 1) := by decide +kernel
theorem dX1_withGuest_29 : decode cX1_withGuest 29 = .ok (.iaload, 1) := by decide +kernel
theorem dX1_withGuest_30 : decode cX1_withGuest 30 = .ok (.invokestatic 138, 3) := by decide +kernel
theorem dX1_withGuest_33 : decode cX1_withGuest 33 = .ok (.lstore 4, 2) := by decide +kernel
theorem dX1_withGuest_35 : decode cX1_withGuest 35 = .ok (.lload 4, 2) := by decide +kernel
theorem dX1_withGuest_37 : decode cX1_withGuest 37 = .ok (.aload_n 0, 1) := by decide +kernel
theorem dX1_withGuest_38 : decode cX1_withGuest 38 = .ok (.getfield 12, 3) := by decide +kernel
theorem dX1_withGuest_41 : decode cX1_withGuest 41 = .ok (.getfield 83, 3) := by decide +kernel
theorem dX1_withGuest_44 : decode cX1_withGuest 44 = .ok (.iload_n 3, 1) := by decide +kernel
theorem dX1_withGuest_45 : decode cX1_withGuest 45 = .ok (.iaload, 1) := by decide +kernel
theorem dX1_withGuest_46 : decode cX1_withGuest 46 = .ok (.invokestatic 138, 3) := by decide +kernel
theorem dX1_withGuest_49 : decode cX1_withGuest 49 = .ok (.lstore 4, 2) := by decide +kernel
theorem dX1_withGuest_51 : decode cX1_withGuest 51 = .ok (.lload 4, 2) := by decide +kernel
theorem dX1_withGuest_53 : decode cX1_withGuest 53 = .ok (.aload_n 0, 1) := by decide +kernel
theorem dX1_withGuest_54 : decode cX1_withGuest 54 = .ok (.getfield 12, 3) := by decide +kernel
theorem dX1_withGuest_57 : decode cX1_withGuest 57 = .ok (.getfield 86, 3) := by decide +kernel
theorem dX1_withGuest_60 : decode cX1_withGuest 60 = .ok (.iload_n 3, 1) := by decide +kernel
theorem dX1_withGuest_61 : decode cX1_withGuest 61 = .ok (.iaload, 1) := by decide +kernel
theorem dX1_withGuest_62 : decode cX1_withGuest 62 = .ok (.invokestatic 138, 3) := by decide +kernel
theorem dX1_withGuest_65 : decode cX1_withGuest 65 = .ok (.lstore 4, 2) := by decide +kernel
theorem dX1_withGuest_67 : decode cX1_withGuest 67 = .ok (.iconst 0, 1) := by decide +kernel
theorem dX1_withGuest_68 : decode cX1_withGuest 68 = .ok (.istore 6, 2) := by decide +kernel
theorem dX1_withGuest_70 : decode cX1_withGuest 70 = .ok (.iload 6, 2) := by decide +kernel
theorem dX1_withGuest_72 : decode cX1_withGuest 72 = .ok (.aload_n 0, 1) := by decide +kernel
theorem dX1_withGuest_73 : decode cX1_withGuest 73 = .ok (.getfield 12, 3) := by decide +kernel
theorem dX1_withGuest_76 : decode cX1_withGuest 76 = .ok (.getfield 58, 3) := by decide +kernel
theorem dX1_withGuest_79 : decode cX1_withGuest 79 = .ok (.if_icmp .ge 50, 3) := by decide +kernel
theorem dX1_withGuest_82 : decode cX1_withGuest 82 = .ok (.iload_n 3, 1) := by decide +kernel
theorem dX1_withGuest_83 : decode cX1_withGuest 83 = .ok (.iload 6, 2) := by decide +kernel
theorem dX1_withGuest_85 : decode cX1_withGuest 85 = .ok (.invokestatic 89, 3) := by decide +kernel
theorem dX1_withGuest_88 : decode cX1_withGuest 88 = .ok (.istore 7, 2) := by decide +kernel
theorem dX1_withGuest_90 : decode cX1_withGuest 90 = .ok (.lload 4, 2) := by decide +kernel
theorem dX1_withGuest_92 : decode cX1_withGuest 92 = .ok (.aload_n 0, 1) := by decide +kernel
theorem dX1_withGuest_93 : decode cX1_withGuest 93 = .ok (.getfield 12, 3) := by decide +kernel
theorem dX1_withGuest_96 : decode cX1_withGuest 96 = .ok (.iload 7, 2) := by decide +kernel
theorem dX1_withGuest_98 : decode cX1_withGuest 98 = .ok (.invokevirtual 96, 3) := by decide +kernel
theorem dX1_withGuest_101 : decode cX1_withGuest 101 = .ok (.invokestatic 138, 3) := by decide +kernel
theorem dX1_withGuest_104 : decode cX1_withGuest 104 = .ok (.lstore 4, 2) := by decide +kernel
theorem dX1_withGuest_106 : decode cX1_withGuest 106 = .ok (.lload 4, 2) := by decide +kernel
theorem dX1_withGuest_108 : decode cX1_withGuest 108 = .ok (.aload_n 0, 1) := by decide +kernel
theorem dX1_withGuest_109 : decode cX1_withGuest 109 = .ok (.getfield 12, 3) := by decide +kernel
theorem dX1_withGuest_112 : decode cX1_withGuest 112 = .ok (.getfield 100, 3) := by decide +kernel
theorem dX1_withGuest_115 : decode cX1_withGuest 115 = .ok (.iload 7, 2) := by decide +kernel
theorem dX1_withGuest_117 : decode cX1_withGuest 117 = .ok (.iaload, 1) := by decide +kernel
theorem dX1_withGuest_118 : decode cX1_withGuest 118 = .ok (.invokestatic 138, 3) := by decide +kernel
theorem dX1_withGuest_121 : decode cX1_withGuest 121 = .ok (.lstore 4, 2) := by decide +kernel
theorem dX1_withGuest_123 : decode cX1_withGuest 123 = .ok (.iinc 6 1, 3) := by decide +kernel
theorem dX1_withGuest_126 : decode cX1_withGuest 126 = .ok (.goto (-56), 3) := by decide +kernel
theorem dX1_withGuest_129 : decode cX1_withGuest 129 = .ok (.lload 4, 2) := by decide +kernel
theorem dX1_withGuest_131 : decode cX1_withGuest 131 = .ok (.lreturn, 1) := by decide +kernel
theorem dX1_followedBy_0 : decode cX1_followedBy 0 = .ok (.lload_n 0, 1) := by decide +kernel
theorem dX1_followedBy_1 : decode cX1_followedBy 1 = .ok (.ldc2_w 141, 3) := by decide +kernel
theorem dX1_followedBy_4 : decode cX1_followedBy 4 = .ok (.lmul, 1) := by decide +kernel
theorem dX1_followedBy_5 : decode cX1_followedBy 5 = .ok (.iload_n 2, 1) := by decide +kernel
theorem dX1_followedBy_6 : decode cX1_followedBy 6 = .ok (.i2l, 1) := by decide +kernel
theorem dX1_followedBy_7 : decode cX1_followedBy 7 = .ok (.ladd, 1) := by decide +kernel
theorem dX1_followedBy_8 : decode cX1_followedBy 8 = .ok (.lreturn, 1) := by decide +kernel
set_option maxRecDepth 20000 in
theorem ggX1_tryOut_X0_copyOf : GoodIn wsX1_tryOut wsX0_copyOf := goodIn_r _ [7, 8, 9, 10, 11, 12, 13, 14, 15, 16, 17, 18, 19, 20, 21, 22, 23, 24, 25, 26, 27, 28, 66, 67, 68, 69, 70, 71, 72, 73, 74, 75, 76, 77, 78, 79, 80, 81, 82] (by decide +kernel) (by decide +kernel)
set_option maxRecDepth 20000 in
theorem gX1_tryOut_X0_copyOf : GoodIn wsX1_tryOut (wsV RX1 143 RX0 yX0_copyOf wsX0_copyOf) := goodIn_app (goodIn_of _ (by decide +kernel)) ggX1_tryOut_X0_copyOf
set_option maxRecDepth 20000 in
theorem ggX1_tryOut_X0_goBy : GoodIn wsX1_tryOut wsX0_goBy := goodIn_r _ [32, 33, 34, 35, 6, 36, 9, 37, 38, 39, 40, 11, 13, 14, 18, 12, 41, 42, 43, 44, 10, 45, 46, 47, 48, 17, 26, 28, 49, 50, 51, 52, 15, 25, 16, 27, 53, 54, 55, 56, 57, 58, 59, 60, 61, 62, 63, 66, 67, 68, 69, 70, 71, 72, 73, 74, 75, 76, 77, 78, 79, 80, 81, 82] (by decide +kernel) (by decide +kernel)
set_option maxRecDepth 20000 in
theorem gX1_tryOut_X0_goBy : GoodIn wsX1_tryOut (wsV RX1 55 RX0 yX0_goBy wsX0_goBy) := goodIn_app (goodIn_of _ (by decide +kernel)) ggX1_tryOut_X0_goBy
theorem dX1_tryOut_0 : decode cX1_tryOut 0 = .ok (.aload_n 0, 1) := by decide +kernel
theorem dX1_tryOut_1 : decode cX1_tryOut 1 = .ok (.getfield 16, 3) := by decide +kernel
theorem dX1_tryOut_4 : decode cX1_tryOut 4 = .ok (.aload_n 0, 1) := by decide +kernel
theorem dX1_tryOut_5 : decode cX1_tryOut 5 = .ok (.getfield 12, 3) := by decide +kernel
theorem dX1_tryOut_8 : decode cX1_tryOut 8 = .ok (.invokevirtual 143, 3) := by decide +kernel
theorem dX1_tryOut_11 : decode cX1_tryOut 11 = .ok (.aload_n 0, 1) := by decide +kernel
theorem dX1_tryOut_12 : decode cX1_tryOut 12 = .ok (.getfield 16, 3) := by decide +kernel
theorem dX1_tryOut_15 : decode cX1_tryOut 15 = .ok (.iload_n 1, 1) := by decide +kernel
theorem dX1_tryOut_16 : decode cX1_tryOut 16 = .ok (.invokevirtual 55, 3) := by decide +kernel
theorem dX1_tryOut_19 : decode cX1_tryOut 19 = .ok (.return_, 1) := by decide +kernel
theorem dX1_requireGuest_0 : decode cX1_requireGuest 0 = .ok (.iload_n 1, 1) := by decide +kernel
theorem dX1_requireGuest_1 : decode cX1_requireGuest 1 = .ok (.ifCond .lt 14, 3) := by decide +kernel
theorem dX1_requireGuest_4 : decode cX1_requireGuest 4 = .ok (.iload_n 1, 1) := by decide +kernel
theorem dX1_requireGuest_5 : decode cX1_requireGuest 5 = .ok (.aload_n 0, 1) := by decide +kernel
theorem dX1_requireGuest_6 : decode cX1_requireGuest 6 = .ok (.getfield 12, 3) := by decide +kernel
theorem dX1_requireGuest_9 : decode cX1_requireGuest 9 = .ok (.getfield 58, 3) := by decide +kernel
theorem dX1_requireGuest_12 : decode cX1_requireGuest 12 = .ok (.if_icmp .lt 13, 3) := by decide +kernel
theorem dX1_requireGuest_15 : decode cX1_requireGuest 15 = .ok (.new 147, 3) := by decide +kernel
theorem dX1_requireGuest_18 : decode cX1_requireGuest 18 = .ok (.dup, 1) := by decide +kernel
theorem dX1_requireGuest_19 : decode cX1_requireGuest 19 = .ok (.ldc 149, 2) := by decide +kernel
theorem dX1_requireGuest_21 : decode cX1_requireGuest 21 = .ok (.invokespecial 151, 3) := by decide +kernel
theorem dX1_requireGuest_24 : decode cX1_requireGuest 24 = .ok (.athrow, 1) := by decide +kernel
theorem dX1_requireGuest_25 : decode cX1_requireGuest 25 = .ok (.return_, 1) := by decide +kernel
theorem dX1_requireWithin_0 : decode cX1_requireWithin 0 = .ok (.iload_n 0, 1) := by decide +kernel
theorem dX1_requireWithin_1 : decode cX1_requireWithin 1 = .ok (.iload_n 1, 1) := by decide +kernel
theorem dX1_requireWithin_2 : decode cX1_requireWithin 2 = .ok (.if_icmp .lt 8, 3) := by decide +kernel
theorem dX1_requireWithin_5 : decode cX1_requireWithin 5 = .ok (.iload_n 0, 1) := by decide +kernel
theorem dX1_requireWithin_6 : decode cX1_requireWithin 6 = .ok (.iload_n 2, 1) := by decide +kernel
theorem dX1_requireWithin_7 : decode cX1_requireWithin 7 = .ok (.if_icmp .le 13, 3) := by decide +kernel
theorem dX1_requireWithin_10 : decode cX1_requireWithin 10 = .ok (.new 154, 3) := by decide +kernel
theorem dX1_requireWithin_13 : decode cX1_requireWithin 13 = .ok (.dup, 1) := by decide +kernel
theorem dX1_requireWithin_14 : decode cX1_requireWithin 14 = .ok (.ldc 156, 2) := by decide +kernel
theorem dX1_requireWithin_16 : decode cX1_requireWithin 16 = .ok (.invokespecial 158, 3) := by decide +kernel
theorem dX1_requireWithin_19 : decode cX1_requireWithin 19 = .ok (.athrow, 1) := by decide +kernel
theorem dX1_requireWithin_20 : decode cX1_requireWithin 20 = .ok (.return_, 1) := by decide +kernel
set_option maxRecDepth 20000 in
theorem ggX1_requireFreeWay_X1_requireGuest : GoodIn wsX1_requireFreeWay wsX1_requireGuest := goodIn_ca (goodIn_r _ [10, 11, 12, 5, 13, 23, 24, 25, 26, 27, 28, 29, 30, 31, 32, 33, 34, 35, 36, 37, 38, 39, 40, 41] (by decide +kernel) (by decide +kernel)) (goodIn_sub (fun _ h => List.mem_cons_of_mem _ (List.mem_append_right _ h)) (by decide +kernel))
set_option maxRecDepth 20000 in
theorem gX1_requireFreeWay_X1_requireGuest : GoodIn wsX1_requireFreeWay (wsV RX1 35 RX1 yX1_requireGuest wsX1_requireGuest) := goodIn_app (goodIn_of _ (by decide +kernel)) ggX1_requireFreeWay_X1_requireGuest
set_option maxRecDepth 20000 in
theorem ggX1_requireFreeWay_X1_pairOf : GoodIn wsX1_requireFreeWay wsX1_pairOf := goodIn_r _ [16] (by decide +kernel) (by decide +kernel)
set_option maxRecDepth 20000 in
theorem gX1_requireFreeWay_X1_pairOf : GoodIn wsX1_requireFreeWay (va_wsS RX1 89 yX1_pairOf wsX1_pairOf) := goodIn_app (goodIn_of _ (by decide +kernel)) ggX1_requireFreeWay_X1_pairOf
set_option maxRecDepth 20000 in
theorem ggX1_requireFreeWay_X0_isOnItsWay : GoodIn wsX1_requireFreeWay wsX0_isOnItsWay := goodIn_r _ [21, 22, 25, 26, 27, 28, 29, 30, 31, 32, 33, 34, 35, 36, 37, 38, 39, 40, 41] (by decide +kernel) (by decide +kernel)
set_option maxRecDepth 20000 in
theorem gX1_requireFreeWay_X0_isOnItsWay : GoodIn wsX1_requireFreeWay (wsV RX1 92 RX0 yX0_isOnItsWay wsX0_isOnItsWay) := goodIn_app (goodIn_of _ (by decide +kernel)) ggX1_requireFreeWay_X0_isOnItsWay
theorem dX1_requireFreeWay_0 : decode cX1_requireFreeWay 0 = .ok (.aload_n 0, 1) := by decide +kernel
theorem dX1_requireFreeWay_1 : decode cX1_requireFreeWay 1 = .ok (.iload_n 1, 1) := by decide +kernel
theorem dX1_requireFreeWay_2 : decode cX1_requireFreeWay 2 = .ok (.invokevirtual 35, 3) := by decide +kernel
theorem dX1_requireFreeWay_5 : decode cX1_requireFreeWay 5 = .ok (.aload_n 0, 1) := by decide +kernel
theorem dX1_requireFreeWay_6 : decode cX1_requireFreeWay 6 = .ok (.iload_n 2, 1) := by decide +kernel
theorem dX1_requireFreeWay_7 : decode cX1_requireFreeWay 7 = .ok (.invokevirtual 35, 3) := by decide +kernel
theorem dX1_requireFreeWay_10 : decode cX1_requireFreeWay 10 = .ok (.iload_n 1, 1) := by decide +kernel
theorem dX1_requireFreeWay_11 : decode cX1_requireFreeWay 11 = .ok (.iload_n 2, 1) := by decide +kernel
theorem dX1_requireFreeWay_12 : decode cX1_requireFreeWay 12 = .ok (.if_icmp .ne 13, 3) := by decide +kernel
theorem dX1_requireFreeWay_15 : decode cX1_requireFreeWay 15 = .ok (.new 154, 3) := by decide +kernel
theorem dX1_requireFreeWay_18 : decode cX1_requireFreeWay 18 = .ok (.dup, 1) := by decide +kernel
theorem dX1_requireFreeWay_19 : decode cX1_requireFreeWay 19 = .ok (.ldc 159, 2) := by decide +kernel
theorem dX1_requireFreeWay_21 : decode cX1_requireFreeWay 21 = .ok (.invokespecial 158, 3) := by decide +kernel
theorem dX1_requireFreeWay_24 : decode cX1_requireFreeWay 24 = .ok (.athrow, 1) := by decide +kernel
theorem dX1_requireFreeWay_25 : decode cX1_requireFreeWay 25 = .ok (.aload_n 0, 1) := by decide +kernel
theorem dX1_requireFreeWay_26 : decode cX1_requireFreeWay 26 = .ok (.getfield 12, 3) := by decide +kernel
theorem dX1_requireFreeWay_29 : decode cX1_requireFreeWay 29 = .ok (.iload_n 1, 1) := by decide +kernel
theorem dX1_requireFreeWay_30 : decode cX1_requireFreeWay 30 = .ok (.iload_n 2, 1) := by decide +kernel
theorem dX1_requireFreeWay_31 : decode cX1_requireFreeWay 31 = .ok (.invokestatic 89, 3) := by decide +kernel
theorem dX1_requireFreeWay_34 : decode cX1_requireFreeWay 34 = .ok (.invokevirtual 92, 3) := by decide +kernel
theorem dX1_requireFreeWay_37 : decode cX1_requireFreeWay 37 = .ok (.ifCond .eq 13, 3) := by decide +kernel
theorem dX1_requireFreeWay_40 : decode cX1_requireFreeWay 40 = .ok (.new 161, 3) := by decide +kernel
theorem dX1_requireFreeWay_43 : decode cX1_requireFreeWay 43 = .ok (.dup, 1) := by decide +kernel
theorem dX1_requireFreeWay_44 : decode cX1_requireFreeWay 44 = .ok (.ldc 163, 2) := by decide +kernel
theorem dX1_requireFreeWay_46 : decode cX1_requireFreeWay 46 = .ok (.invokespecial 165, 3) := by decide +kernel
theorem dX1_requireFreeWay_49 : decode cX1_requireFreeWay 49 = .ok (.athrow, 1) := by decide +kernel
theorem dX1_requireFreeWay_50 : decode cX1_requireFreeWay 50 = .ok (.return_, 1) := by decide +kernel
theorem dX1_pairOf_0 : decode cX1_pairOf 0 = .ok (.iload_n 0, 1) := by decide +kernel
theorem dX1_pairOf_1 : decode cX1_pairOf 1 = .ok (.bipush 10, 2) := by decide +kernel
theorem dX1_pairOf_3 : decode cX1_pairOf 3 = .ok (.imul, 1) := by decide +kernel
theorem dX1_pairOf_4 : decode cX1_pairOf 4 = .ok (.iload_n 1, 1) := by decide +kernel
theorem dX1_pairOf_5 : decode cX1_pairOf 5 = .ok (.iadd, 1) := by decide +kernel
theorem dX1_pairOf_6 : decode cX1_pairOf 6 = .ok (.ireturn, 1) := by decide +kernel
end
section
theorem dX2_init_0 : decode cX2_init 0 = .ok (.aload_n 0, 1) := by decide +kernel
theorem dX2_init_1 : decode cX2_init 1 = .ok (.invokespecial 1, 3) := by decide +kernel
theorem dX2_init_4 : decode cX2_init 4 = .ok (.aload_n 0, 1) := by decide +kernel
theorem dX2_init_5 : decode cX2_init 5 = .ok (.iconst 4, 1) := by decide +kernel
theorem dX2_init_6 : decode cX2_init 6 = .ok (.putfield 7, 3) := by decide +kernel
theorem dX2_init_9 : decode cX2_init 9 = .ok (.aload_n 0, 1) := by decide +kernel
theorem dX2_init_10 : decode cX2_init 10 = .ok (.iconst 5, 1) := by decide +kernel
theorem dX2_init_11 : decode cX2_init 11 = .ok (.putfield 13, 3) := by decide +kernel
theorem dX2_init_14 : decode cX2_init 14 = .ok (.aload_n 0, 1) := by decide +kernel
theorem dX2_init_15 : decode cX2_init 15 = .ok (.sipush 348, 3) := by decide +kernel
theorem dX2_init_18 : decode cX2_init 18 = .ok (.newarray .int, 2) := by decide +kernel
theorem dX2_init_20 : decode cX2_init 20 = .ok (.putfield 16, 3) := by decide +kernel
theorem dX2_init_23 : decode cX2_init 23 = .ok (.aload_n 0, 1) := by decide +kernel
theorem dX2_init_24 : decode cX2_init 24 = .ok (.sipush 348, 3) := by decide +kernel
theorem dX2_init_27 : decode cX2_init 27 = .ok (.newarray .int, 2) := by decide +kernel
theorem dX2_init_29 : decode cX2_init 29 = .ok (.putfield 20, 3) := by decide +kernel
theorem dX2_init_32 : decode cX2_init 32 = .ok (.aload_n 0, 1) := by decide +kernel
theorem dX2_init_33 : decode cX2_init 33 = .ok (.iconst (-1), 1) := by decide +kernel
theorem dX2_init_34 : decode cX2_init 34 = .ok (.putfield 23, 3) := by decide +kernel
theorem dX2_init_37 : decode cX2_init 37 = .ok (.aload_n 0, 1) := by decide +kernel
theorem dX2_init_38 : decode cX2_init 38 = .ok (.getfield 16, 3) := by decide +kernel
theorem dX2_init_41 : decode cX2_init 41 = .ok (.iconst 1, 1) := by decide +kernel
theorem dX2_init_42 : decode cX2_init 42 = .ok (.iconst (-1), 1) := by decide +kernel
theorem dX2_init_43 : decode cX2_init 43 = .ok (.iastore, 1) := by decide +kernel
theorem dX2_init_44 : decode cX2_init 44 = .ok (.return_, 1) := by decide +kernel
theorem dX2_thrown_0 : decode cX2_thrown 0 = .ok (.aload_n 0, 1) := by decide +kernel
theorem dX2_thrown_1 : decode cX2_thrown 1 = .ok (.getfield 26, 3) := by decide +kernel
theorem dX2_thrown_4 : decode cX2_thrown 4 = .ok (.ireturn, 1) := by decide +kernel
theorem dX2_fail_0 : decode cX2_fail 0 = .ok (.aload_n 0, 1) := by decide +kernel
theorem dX2_fail_1 : decode cX2_fail 1 = .ok (.iload_n 1, 1) := by decide +kernel
theorem dX2_fail_2 : decode cX2_fail 2 = .ok (.putfield 26, 3) := by decide +kernel
theorem dX2_fail_5 : decode cX2_fail 5 = .ok (.iconst 0, 1) := by decide +kernel
theorem dX2_fail_6 : decode cX2_fail 6 = .ok (.ireturn, 1) := by decide +kernel
theorem dX2_told_0 : decode cX2_told 0 = .ok (.aload_n 0, 1) := by decide +kernel
theorem dX2_told_1 : decode cX2_told 1 = .ok (.iconst 0, 1) := by decide +kernel
theorem dX2_told_2 : decode cX2_told 2 = .ok (.putfield 26, 3) := by decide +kernel
theorem dX2_told_5 : decode cX2_told 5 = .ok (.iload_n 1, 1) := by decide +kernel
theorem dX2_told_6 : decode cX2_told 6 = .ok (.ireturn, 1) := by decide +kernel
theorem dX2_isIn_0 : decode cX2_isIn 0 = .ok (.iload_n 0, 1) := by decide +kernel
theorem dX2_isIn_1 : decode cX2_isIn 1 = .ok (.iload_n 1, 1) := by decide +kernel
theorem dX2_isIn_2 : decode cX2_isIn 2 = .ok (.if_icmp .lt 12, 3) := by decide +kernel
theorem dX2_isIn_5 : decode cX2_isIn 5 = .ok (.iload_n 0, 1) := by decide +kernel
theorem dX2_isIn_6 : decode cX2_isIn 6 = .ok (.iload_n 2, 1) := by decide +kernel
theorem dX2_isIn_7 : decode cX2_isIn 7 = .ok (.if_icmp .gt 7, 3) := by decide +kernel
theorem dX2_isIn_10 : decode cX2_isIn 10 = .ok (.iconst 1, 1) := by decide +kernel
theorem dX2_isIn_11 : decode cX2_isIn 11 = .ok (.goto 4, 3) := by decide +kernel
theorem dX2_isIn_14 : decode cX2_isIn 14 = .ok (.iconst 0, 1) := by decide +kernel
theorem dX2_isIn_15 : decode cX2_isIn 15 = .ok (.ireturn, 1) := by decide +kernel
set_option maxRecDepth 20000 in
theorem ggX2_isGuest_X2_isIn : GoodIn wsX2_isGuest wsX2_isIn := goodIn_r _ [5] (by decide +kernel) (by decide +kernel)
set_option maxRecDepth 20000 in
theorem gX2_isGuest_X2_isIn : GoodIn wsX2_isGuest (va_wsS RX2 29 yX2_isIn wsX2_isIn) := goodIn_app (goodIn_of _ (by decide +kernel)) ggX2_isGuest_X2_isIn
theorem dX2_isGuest_0 : decode cX2_isGuest 0 = .ok (.iload_n 1, 1) := by decide +kernel
theorem dX2_isGuest_1 : decode cX2_isGuest 1 = .ok (.iconst 0, 1) := by decide +kernel
theorem dX2_isGuest_2 : decode cX2_isGuest 2 = .ok (.aload_n 0, 1) := by decide +kernel
theorem dX2_isGuest_3 : decode cX2_isGuest 3 = .ok (.getfield 7, 3) := by decide +kernel
theorem dX2_isGuest_6 : decode cX2_isGuest 6 = .ok (.iconst 1, 1) := by decide +kernel
theorem dX2_isGuest_7 : decode cX2_isGuest 7 = .ok (.isub, 1) := by decide +kernel
theorem dX2_isGuest_8 : decode cX2_isGuest 8 = .ok (.invokestatic 29, 3) := by decide +kernel
theorem dX2_isGuest_11 : decode cX2_isGuest 11 = .ok (.ireturn, 1) := by decide +kernel
theorem dX2_keep_0 : decode cX2_keep 0 = .ok (.aload_n 0, 1) := by decide +kernel
theorem dX2_keep_1 : decode cX2_keep 1 = .ok (.getfield 16, 3) := by decide +kernel
theorem dX2_keep_4 : decode cX2_keep 4 = .ok (.iconst 0, 1) := by decide +kernel
theorem dX2_keep_5 : decode cX2_keep 5 = .ok (.aload_n 0, 1) := by decide +kernel
theorem dX2_keep_6 : decode cX2_keep 6 = .ok (.getfield 20, 3) := by decide +kernel
theorem dX2_keep_9 : decode cX2_keep 9 = .ok (.iconst 0, 1) := by decide +kernel
theorem dX2_keep_10 : decode cX2_keep 10 = .ok (.sipush 348, 3) := by decide +kernel
theorem dX2_keep_13 : decode cX2_keep 13 = .ok (.invokestatic 33, 3) := by decide +kernel
theorem dX2_keep_16 : decode cX2_keep 16 = .ok (.return_, 1) := by decide +kernel
theorem dX2_bringBack_0 : decode cX2_bringBack 0 = .ok (.aload_n 0, 1) := by decide +kernel
theorem dX2_bringBack_1 : decode cX2_bringBack 1 = .ok (.getfield 20, 3) := by decide +kernel
theorem dX2_bringBack_4 : decode cX2_bringBack 4 = .ok (.iconst 0, 1) := by decide +kernel
theorem dX2_bringBack_5 : decode cX2_bringBack 5 = .ok (.aload_n 0, 1) := by decide +kernel
theorem dX2_bringBack_6 : decode cX2_bringBack 6 = .ok (.getfield 16, 3) := by decide +kernel
theorem dX2_bringBack_9 : decode cX2_bringBack 9 = .ok (.iconst 0, 1) := by decide +kernel
theorem dX2_bringBack_10 : decode cX2_bringBack 10 = .ok (.sipush 348, 3) := by decide +kernel
theorem dX2_bringBack_13 : decode cX2_bringBack 13 = .ok (.invokestatic 33, 3) := by decide +kernel
theorem dX2_bringBack_16 : decode cX2_bringBack 16 = .ok (.return_, 1) := by decide +kernel
theorem dX2_pair_0 : decode cX2_pair 0 = .ok (.bipush 10, 2) := by decide +kernel
theorem dX2_pair_2 : decode cX2_pair 2 = .ok (.iload_n 0, 1) := by decide +kernel
theorem dX2_pair_3 : decode cX2_pair 3 = .ok (.imul, 1) := by decide +kernel
theorem dX2_pair_4 : decode cX2_pair 4 = .ok (.iload_n 1, 1) := by decide +kernel
theorem dX2_pair_5 : decode cX2_pair 5 = .ok (.iadd, 1) := by decide +kernel
theorem dX2_pair_6 : decode cX2_pair 6 = .ok (.ireturn, 1) := by decide +kernel
theorem dX2_apart_0 : decode cX2_apart 0 = .ok (.iload_n 1, 1) := by decide +kernel
theorem dX2_apart_1 : decode cX2_apart 1 = .ok (.iload_n 2, 1) := by decide +kernel
theorem dX2_apart_2 : decode cX2_apart 2 = .ok (.isub, 1) := by decide +kernel
theorem dX2_apart_3 : decode cX2_apart 3 = .ok (.invokestatic 39, 3) := by decide +kernel
theorem dX2_apart_6 : decode cX2_apart 6 = .ok (.istore_n 3, 1) := by decide +kernel
theorem dX2_apart_7 : decode cX2_apart 7 = .ok (.iload_n 3, 1) := by decide +kernel
theorem dX2_apart_8 : decode cX2_apart 8 = .ok (.aload_n 0, 1) := by decide +kernel
theorem dX2_apart_9 : decode cX2_apart 9 = .ok (.getfield 7, 3) := by decide +kernel
theorem dX2_apart_12 : decode cX2_apart 12 = .ok (.iload_n 3, 1) := by decide +kernel
theorem dX2_apart_13 : decode cX2_apart 13 = .ok (.isub, 1) := by decide +kernel
theorem dX2_apart_14 : decode cX2_apart 14 = .ok (.invokestatic 45, 3) := by decide +kernel
theorem dX2_apart_17 : decode cX2_apart 17 = .ok (.ireturn, 1) := by decide +kernel
theorem dX2_unsaid_0 : decode cX2_unsaid 0 = .ok (.aload_n 0, 1) := by decide +kernel
theorem dX2_unsaid_1 : decode cX2_unsaid 1 = .ok (.getfield 16, 3) := by decide +kernel
theorem dX2_unsaid_4 : decode cX2_unsaid 4 = .ok (.iconst 4, 1) := by decide +kernel
theorem dX2_unsaid_5 : decode cX2_unsaid 5 = .ok (.iaload, 1) := by decide +kernel
theorem dX2_unsaid_6 : decode cX2_unsaid 6 = .ok (.istore_n 1, 1) := by decide +kernel
theorem dX2_unsaid_7 : decode cX2_unsaid 7 = .ok (.iconst 0, 1) := by decide +kernel
theorem dX2_unsaid_8 : decode cX2_unsaid 8 = .ok (.istore_n 2, 1) := by decide +kernel
theorem dX2_unsaid_9 : decode cX2_unsaid 9 = .ok (.iload_n 2, 1) := by decide +kernel
theorem dX2_unsaid_10 : decode cX2_unsaid 10 = .ok (.aload_n 0, 1) := by decide +kernel
theorem dX2_unsaid_11 : decode cX2_unsaid 11 = .ok (.getfield 7, 3) := by decide +kernel
theorem dX2_unsaid_14 : decode cX2_unsaid 14 = .ok (.if_icmp .ge 21, 3) := by decide +kernel
theorem dX2_unsaid_17 : decode cX2_unsaid 17 = .ok (.iload_n 1, 1) := by decide +kernel
theorem dX2_unsaid_18 : decode cX2_unsaid 18 = .ok (.aload_n 0, 1) := by decide +kernel
theorem dX2_unsaid_19 : decode cX2_unsaid 19 = .ok (.getfield 16, 3) := by decide +kernel
theorem dX2_unsaid_22 : decode cX2_unsaid 22 = .ok (.bipush 38, 2) := by decide +kernel
theorem dX2_unsaid_24 : decode cX2_unsaid 24 = .ok (.iload_n 2, 1) := by decide +kernel
theorem dX2_unsaid_25 : decode cX2_unsaid 25 = .ok (.iadd, 1) := by decide +kernel
theorem dX2_unsaid_26 : decode cX2_unsaid 26 = .ok (.iaload, 1) := by decide +kernel
theorem dX2_unsaid_27 : decode cX2_unsaid 27 = .ok (.iadd, 1) := by decide +kernel
theorem dX2_unsaid_28 : decode cX2_unsaid 28 = .ok (.istore_n 1, 1) := by decide +kernel
theorem dX2_unsaid_29 : decode cX2_unsaid 29 = .ok (.iinc 2 1, 3) := by decide +kernel
theorem dX2_unsaid_32 : decode cX2_unsaid 32 = .ok (.goto (-23), 3) := by decide +kernel
theorem dX2_unsaid_35 : decode cX2_unsaid 35 = .ok (.iload_n 1, 1) := by decide +kernel
theorem dX2_unsaid_36 : decode cX2_unsaid 36 = .ok (.ireturn, 1) := by decide +kernel
set_option maxRecDepth 20000 in
theorem ggX2_rated_X2_unsaid : GoodIn wsX2_rated wsX2_unsaid := goodIn_r _ [13, 14, 1, 15, 16, 17, 18, 19, 20, 21] (by decide +kernel) (by decide +kernel)
set_option maxRecDepth 20000 in
theorem gX2_rated_X2_unsaid : GoodIn wsX2_rated (wsV RX2 49 RX2 yX2_unsaid wsX2_unsaid) := goodIn_app (goodIn_of _ (by decide +kernel)) ggX2_rated_X2_unsaid
theorem dX2_rated_0 : decode cX2_rated 0 = .ok (.iconst 0, 1) := by decide +kernel
theorem dX2_rated_1 : decode cX2_rated 1 = .ok (.bipush 10, 2) := by decide +kernel
theorem dX2_rated_3 : decode cX2_rated 3 = .ok (.aload_n 0, 1) := by decide +kernel
theorem dX2_rated_4 : decode cX2_rated 4 = .ok (.invokevirtual 49, 3) := by decide +kernel
theorem dX2_rated_7 : decode cX2_rated 7 = .ok (.aload_n 0, 1) := by decide +kernel
theorem dX2_rated_8 : decode cX2_rated 8 = .ok (.getfield 7, 3) := by decide +kernel
theorem dX2_rated_11 : decode cX2_rated 11 = .ok (.idiv, 1) := by decide +kernel
theorem dX2_rated_12 : decode cX2_rated 12 = .ok (.iconst 4, 1) := by decide +kernel
theorem dX2_rated_13 : decode cX2_rated 13 = .ok (.isub, 1) := by decide +kernel
theorem dX2_rated_14 : decode cX2_rated 14 = .ok (.invokestatic 39, 3) := by decide +kernel
theorem dX2_rated_17 : decode cX2_rated 17 = .ok (.isub, 1) := by decide +kernel
theorem dX2_rated_18 : decode cX2_rated 18 = .ok (.invokestatic 53, 3) := by decide +kernel
theorem dX2_rated_21 : decode cX2_rated 21 = .ok (.ireturn, 1) := by decide +kernel
theorem dX2_talk_0 : decode cX2_talk 0 = .ok (.aload_n 0, 1) := by decide +kernel
theorem dX2_talk_1 : decode cX2_talk 1 = .ok (.getfield 16, 3) := by decide +kernel
theorem dX2_talk_4 : decode cX2_talk 4 = .ok (.iconst 1, 1) := by decide +kernel
theorem dX2_talk_5 : decode cX2_talk 5 = .ok (.iaload, 1) := by decide +kernel
theorem dX2_talk_6 : decode cX2_talk 6 = .ok (.istore_n 1, 1) := by decide +kernel
theorem dX2_talk_7 : decode cX2_talk 7 = .ok (.iload_n 1, 1) := by decide +kernel
theorem dX2_talk_8 : decode cX2_talk 8 = .ok (.iconst (-1), 1) := by decide +kernel
theorem dX2_talk_9 : decode cX2_talk 9 = .ok (.if_icmp .ne 38, 3) := by decide +kernel
theorem dX2_talk_12 : decode cX2_talk 12 = .ok (.aload_n 0, 1) := by decide +kernel
theorem dX2_talk_13 : decode cX2_talk 13 = .ok (.getfield 16, 3) := by decide +kernel
theorem dX2_talk_16 : decode cX2_talk 16 = .ok (.iconst 3, 1) := by decide +kernel
theorem dX2_talk_17 : decode cX2_talk 17 = .ok (.dup2, 1) := by decide +kernel
theorem dX2_talk_18 : decode cX2_talk 18 = .ok (.iaload, 1) := by decide +kernel
theorem dX2_talk_19 : decode cX2_talk 19 = .ok (.iconst 1, 1) := by decide +kernel
theorem dX2_talk_20 : decode cX2_talk 20 = .ok (.iadd, 1) := by decide +kernel
theorem dX2_talk_21 : decode cX2_talk 21 = .ok (.iastore, 1) := by decide +kernel
theorem dX2_talk_22 : decode cX2_talk 22 = .ok (.aload_n 0, 1) := by decide +kernel
theorem dX2_talk_23 : decode cX2_talk 23 = .ok (.getfield 16, 3) := by decide +kernel
theorem dX2_talk_26 : decode cX2_talk 26 = .ok (.iconst 3, 1) := by decide +kernel
theorem dX2_talk_27 : decode cX2_talk 27 = .ok (.iaload, 1) := by decide +kernel
theorem dX2_talk_28 : decode cX2_talk 28 = .ok (.aload_n 0, 1) := by decide +kernel
theorem dX2_talk_29 : decode cX2_talk 29 = .ok (.getfield 13, 3) := by decide +kernel
theorem dX2_talk_32 : decode cX2_talk 32 = .ok (.irem, 1) := by decide +kernel
theorem dX2_talk_33 : decode cX2_talk 33 = .ok (.ifCond .ne 13, 3) := by decide +kernel
theorem dX2_talk_36 : decode cX2_talk 36 = .ok (.aload_n 0, 1) := by decide +kernel
theorem dX2_talk_37 : decode cX2_talk 37 = .ok (.getfield 16, 3) := by decide +kernel
theorem dX2_talk_40 : decode cX2_talk 40 = .ok (.iconst 4, 1) := by decide +kernel
theorem dX2_talk_41 : decode cX2_talk 41 = .ok (.dup2, 1) := by decide +kernel
theorem dX2_talk_42 : decode cX2_talk 42 = .ok (.iaload, 1) := by decide +kernel
theorem dX2_talk_43 : decode cX2_talk 43 = .ok (.iconst 1, 1) := by decide +kernel
theorem dX2_talk_44 : decode cX2_talk 44 = .ok (.iadd, 1) := by decide +kernel
theorem dX2_talk_45 : decode cX2_talk 45 = .ok (.iastore, 1) := by decide +kernel
theorem dX2_talk_46 : decode cX2_talk 46 = .ok (.return_, 1) := by decide +kernel
theorem dX2_talk_47 : decode cX2_talk 47 = .ok (.aload_n 0, 1) := by decide +kernel
theorem dX2_talk_48 : decode cX2_talk 48 = .ok (.getfield 16, 3) := by decide +kernel
theorem dX2_talk_51 : decode cX2_talk 51 = .ok (.iconst 3, 1) := by decide +kernel
theorem dX2_talk_52 : decode cX2_talk 52 = .ok (.iconst 0, 1) := by decide +kernel
theorem dX2_talk_53 : decode cX2_talk 53 = .ok (.iastore, 1) := by decide +kernel
theorem dX2_talk_54 : decode cX2_talk 54 = .ok (.aload_n 0, 1) := by decide +kernel
theorem dX2_talk_55 : decode cX2_talk 55 = .ok (.getfield 16, 3) := by decide +kernel
theorem dX2_talk_58 : decode cX2_talk 58 = .ok (.bipush 8, 2) := by decide +kernel
theorem dX2_talk_60 : decode cX2_talk 60 = .ok (.iload_n 1, 1) := by decide +kernel
theorem dX2_talk_61 : decode cX2_talk 61 = .ok (.iadd, 1) := by decide +kernel
theorem dX2_talk_62 : decode cX2_talk 62 = .ok (.dup2, 1) := by decide +kernel
theorem dX2_talk_63 : decode cX2_talk 63 = .ok (.iaload, 1) := by decide +kernel
theorem dX2_talk_64 : decode cX2_talk 64 = .ok (.iconst 1, 1) := by decide +kernel
theorem dX2_talk_65 : decode cX2_talk 65 = .ok (.iadd, 1) := by decide +kernel
theorem dX2_talk_66 : decode cX2_talk 66 = .ok (.iastore, 1) := by decide +kernel
theorem dX2_talk_67 : decode cX2_talk 67 = .ok (.aload_n 0, 1) := by decide +kernel
theorem dX2_talk_68 : decode cX2_talk 68 = .ok (.getfield 16, 3) := by decide +kernel
theorem dX2_talk_71 : decode cX2_talk 71 = .ok (.iconst 2, 1) := by decide +kernel
theorem dX2_talk_72 : decode cX2_talk 72 = .ok (.dup2, 1) := by decide +kernel
theorem dX2_talk_73 : decode cX2_talk 73 = .ok (.iaload, 1) := by decide +kernel
theorem dX2_talk_74 : decode cX2_talk 74 = .ok (.iconst 1, 1) := by decide +kernel
theorem dX2_talk_75 : decode cX2_talk 75 = .ok (.isub, 1) := by decide +kernel
theorem dX2_talk_76 : decode cX2_talk 76 = .ok (.iastore, 1) := by decide +kernel
theorem dX2_talk_77 : decode cX2_talk 77 = .ok (.aload_n 0, 1) := by decide +kernel
theorem dX2_talk_78 : decode cX2_talk 78 = .ok (.getfield 16, 3) := by decide +kernel
theorem dX2_talk_81 : decode cX2_talk 81 = .ok (.iconst 2, 1) := by decide +kernel
theorem dX2_talk_82 : decode cX2_talk 82 = .ok (.iaload, 1) := by decide +kernel
theorem dX2_talk_83 : decode cX2_talk 83 = .ok (.ifCond .ne 10, 3) := by decide +kernel
theorem dX2_talk_86 : decode cX2_talk 86 = .ok (.aload_n 0, 1) := by decide +kernel
theorem dX2_talk_87 : decode cX2_talk 87 = .ok (.getfield 16, 3) := by decide +kernel
theorem dX2_talk_90 : decode cX2_talk 90 = .ok (.iconst 1, 1) := by decide +kernel
theorem dX2_talk_91 : decode cX2_talk 91 = .ok (.iconst (-1), 1) := by decide +kernel
theorem dX2_talk_92 : decode cX2_talk 92 = .ok (.iastore, 1) := by decide +kernel
theorem dX2_talk_93 : decode cX2_talk 93 = .ok (.return_, 1) := by decide +kernel
set_option maxRecDepth 20000 in
theorem ggX2_arrives_X2_pair : GoodIn wsX2_arrives wsX2_pair := goodIn_r _ [7] (by decide +kernel) (by decide +kernel)
set_option maxRecDepth 20000 in
theorem gX2_arrives_X2_pair : GoodIn wsX2_arrives (va_wsS RX2 56 yX2_pair wsX2_pair) := goodIn_app (goodIn_of _ (by decide +kernel)) ggX2_arrives_X2_pair
theorem dX2_arrives_0 : decode cX2_arrives 0 = .ok (.iload_n 2, 1) := by decide +kernel
theorem dX2_arrives_1 : decode cX2_arrives 1 = .ok (.iload_n 1, 1) := by decide +kernel
theorem dX2_arrives_2 : decode cX2_arrives 2 = .ok (.invokestatic 56, 3) := by decide +kernel
theorem dX2_arrives_5 : decode cX2_arrives 5 = .ok (.istore_n 3, 1) := by decide +kernel
theorem dX2_arrives_6 : decode cX2_arrives 6 = .ok (.aload_n 0, 1) := by decide +kernel
theorem dX2_arrives_7 : decode cX2_arrives 7 = .ok (.getfield 16, 3) := by decide +kernel
theorem dX2_arrives_10 : decode cX2_arrives 10 = .ok (.sipush 148, 3) := by decide +kernel
theorem dX2_arrives_13 : decode cX2_arrives 13 = .ok (.iload_n 3, 1) := by decide +kernel
theorem dX2_arrives_14 : decode cX2_arrives 14 = .ok (.iadd, 1) := by decide +kernel
theorem dX2_arrives_15 : decode cX2_arrives 15 = .ok (.iaload, 1) := by decide +kernel
theorem dX2_arrives_16 : decode cX2_arrives 16 = .ok (.ifCond .le 7, 3) := by decide +kernel
theorem dX2_arrives_19 : decode cX2_arrives 19 = .ok (.iconst 1, 1) := by decide +kernel
theorem dX2_arrives_20 : decode cX2_arrives 20 = .ok (.goto 4, 3) := by decide +kernel
theorem dX2_arrives_23 : decode cX2_arrives 23 = .ok (.iconst 0, 1) := by decide +kernel
theorem dX2_arrives_24 : decode cX2_arrives 24 = .ok (.istore 4, 2) := by decide +kernel
theorem dX2_arrives_26 : decode cX2_arrives 26 = .ok (.aload_n 0, 1) := by decide +kernel
theorem dX2_arrives_27 : decode cX2_arrives 27 = .ok (.getfield 16, 3) := by decide +kernel
theorem dX2_arrives_30 : decode cX2_arrives 30 = .ok (.sipush 148, 3) := by decide +kernel
theorem dX2_arrives_33 : decode cX2_arrives 33 = .ok (.iload_n 1, 1) := by decide +kernel
theorem dX2_arrives_34 : decode cX2_arrives 34 = .ok (.iload_n 2, 1) := by decide +kernel
theorem dX2_arrives_35 : decode cX2_arrives 35 = .ok (.invokestatic 56, 3) := by decide +kernel
theorem dX2_arrives_38 : decode cX2_arrives 38 = .ok (.iadd, 1) := by decide +kernel
theorem dX2_arrives_39 : decode cX2_arrives 39 = .ok (.iconst 0, 1) := by decide +kernel
theorem dX2_arrives_40 : decode cX2_arrives 40 = .ok (.iastore, 1) := by decide +kernel
theorem dX2_arrives_41 : decode cX2_arrives 41 = .ok (.aload_n 0, 1) := by decide +kernel
theorem dX2_arrives_42 : decode cX2_arrives 42 = .ok (.getfield 23, 3) := by decide +kernel
theorem dX2_arrives_45 : decode cX2_arrives 45 = .ok (.iload_n 1, 1) := by decide +kernel
theorem dX2_arrives_46 : decode cX2_arrives 46 = .ok (.iload_n 2, 1) := by decide +kernel
theorem dX2_arrives_47 : decode cX2_arrives 47 = .ok (.invokestatic 56, 3) := by decide +kernel
theorem dX2_arrives_50 : decode cX2_arrives 50 = .ok (.if_icmp .eq 16, 3) := by decide +kernel
theorem dX2_arrives_53 : decode cX2_arrives 53 = .ok (.iload 4, 2) := by decide +kernel
theorem dX2_arrives_55 : decode cX2_arrives 55 = .ok (.ifCond .eq 39, 3) := by decide +kernel
theorem dX2_arrives_58 : decode cX2_arrives 58 = .ok (.aload_n 0, 1) := by decide +kernel
theorem dX2_arrives_59 : decode cX2_arrives 59 = .ok (.getfield 23, 3) := by decide +kernel
theorem dX2_arrives_62 : decode cX2_arrives 62 = .ok (.iload_n 3, 1) := by decide +kernel
theorem dX2_arrives_63 : decode cX2_arrives 63 = .ok (.if_icmp .ne 31, 3) := by decide +kernel
theorem dX2_arrives_66 : decode cX2_arrives 66 = .ok (.aload_n 0, 1) := by decide +kernel
theorem dX2_arrives_67 : decode cX2_arrives 67 = .ok (.iload 4, 2) := by decide +kernel
theorem dX2_arrives_69 : decode cX2_arrives 69 = .ok (.ifCond .eq 7, 3) := by decide +kernel
theorem dX2_arrives_72 : decode cX2_arrives 72 = .ok (.iconst 3, 1) := by decide +kernel
theorem dX2_arrives_73 : decode cX2_arrives 73 = .ok (.goto 18, 3) := by decide +kernel
theorem dX2_arrives_76 : decode cX2_arrives 76 = .ok (.aload_n 0, 1) := by decide +kernel
theorem dX2_arrives_77 : decode cX2_arrives 77 = .ok (.getfield 16, 3) := by decide +kernel
theorem dX2_arrives_80 : decode cX2_arrives 80 = .ok (.iconst 1, 1) := by decide +kernel
theorem dX2_arrives_81 : decode cX2_arrives 81 = .ok (.iaload, 1) := by decide +kernel
theorem dX2_arrives_82 : decode cX2_arrives 82 = .ok (.iload_n 2, 1) := by decide +kernel
theorem dX2_arrives_83 : decode cX2_arrives 83 = .ok (.if_icmp .ne 7, 3) := by decide +kernel
theorem dX2_arrives_86 : decode cX2_arrives 86 = .ok (.iconst 0, 1) := by decide +kernel
theorem dX2_arrives_87 : decode cX2_arrives 87 = .ok (.goto 4, 3) := by decide +kernel
theorem dX2_arrives_90 : decode cX2_arrives 90 = .ok (.iconst 1, 1) := by decide +kernel
theorem dX2_arrives_91 : decode cX2_arrives 91 = .ok (.putfield 59, 3) := by decide +kernel
theorem dX2_arrives_94 : decode cX2_arrives 94 = .ok (.iload 4, 2) := by decide +kernel
theorem dX2_arrives_96 : decode cX2_arrives 96 = .ok (.ifCond .eq 63, 3) := by decide +kernel
theorem dX2_arrives_99 : decode cX2_arrives 99 = .ok (.aload_n 0, 1) := by decide +kernel
theorem dX2_arrives_100 : decode cX2_arrives 100 = .ok (.getfield 16, 3) := by decide +kernel
theorem dX2_arrives_103 : decode cX2_arrives 103 = .ok (.sipush 148, 3) := by decide +kernel
theorem dX2_arrives_106 : decode cX2_arrives 106 = .ok (.iload_n 3, 1) := by decide +kernel
theorem dX2_arrives_107 : decode cX2_arrives 107 = .ok (.iadd, 1) := by decide +kernel
theorem dX2_arrives_108 : decode cX2_arrives 108 = .ok (.iconst 0, 1) := by decide +kernel
theorem dX2_arrives_109 : decode cX2_arrives 109 = .ok (.iastore, 1) := by decide +kernel
theorem dX2_arrives_110 : decode cX2_arrives 110 = .ok (.aload_n 0, 1) := by decide +kernel
theorem dX2_arrives_111 : decode cX2_arrives 111 = .ok (.getfield 16, 3) := by decide +kernel
theorem dX2_arrives_114 : decode cX2_arrives 114 = .ok (.bipush 48, 2) := by decide +kernel
theorem dX2_arrives_116 : decode cX2_arrives 116 = .ok (.iload_n 3, 1) := by decide +kernel
theorem dX2_arrives_117 : decode cX2_arrives 117 = .ok (.iadd, 1) := by decide +kernel
theorem dX2_arrives_118 : decode cX2_arrives 118 = .ok (.iconst 0, 1) := by decide +kernel
theorem dX2_arrives_119 : decode cX2_arrives 119 = .ok (.iastore, 1) := by decide +kernel
theorem dX2_arrives_120 : decode cX2_arrives 120 = .ok (.aload_n 0, 1) := by decide +kernel
theorem dX2_arrives_121 : decode cX2_arrives 121 = .ok (.getfield 16, 3) := by decide +kernel
theorem dX2_arrives_124 : decode cX2_arrives 124 = .ok (.bipush 38, 2) := by decide +kernel
theorem dX2_arrives_126 : decode cX2_arrives 126 = .ok (.iload_n 1, 1) := by decide +kernel
theorem dX2_arrives_127 : decode cX2_arrives 127 = .ok (.iadd, 1) := by decide +kernel
theorem dX2_arrives_128 : decode cX2_arrives 128 = .ok (.dup2, 1) := by decide +kernel
theorem dX2_arrives_129 : decode cX2_arrives 129 = .ok (.iaload, 1) := by decide +kernel
theorem dX2_arrives_130 : decode cX2_arrives 130 = .ok (.iconst 3, 1) := by decide +kernel
theorem dX2_arrives_131 : decode cX2_arrives 131 = .ok (.iadd, 1) := by decide +kernel
theorem dX2_arrives_132 : decode cX2_arrives 132 = .ok (.iastore, 1) := by decide +kernel
theorem dX2_arrives_133 : decode cX2_arrives 133 = .ok (.aload_n 0, 1) := by decide +kernel
theorem dX2_arrives_134 : decode cX2_arrives 134 = .ok (.getfield 16, 3) := by decide +kernel
theorem dX2_arrives_137 : decode cX2_arrives 137 = .ok (.bipush 38, 2) := by decide +kernel
theorem dX2_arrives_139 : decode cX2_arrives 139 = .ok (.iload_n 2, 1) := by decide +kernel
theorem dX2_arrives_140 : decode cX2_arrives 140 = .ok (.iadd, 1) := by decide +kernel
theorem dX2_arrives_141 : decode cX2_arrives 141 = .ok (.dup2, 1) := by decide +kernel
theorem dX2_arrives_142 : decode cX2_arrives 142 = .ok (.iaload, 1) := by decide +kernel
theorem dX2_arrives_143 : decode cX2_arrives 143 = .ok (.iconst 3, 1) := by decide +kernel
theorem dX2_arrives_144 : decode cX2_arrives 144 = .ok (.iadd, 1) := by decide +kernel
theorem dX2_arrives_145 : decode cX2_arrives 145 = .ok (.iastore, 1) := by decide +kernel
theorem dX2_arrives_146 : decode cX2_arrives 146 = .ok (.aload_n 0, 1) := by decide +kernel
theorem dX2_arrives_147 : decode cX2_arrives 147 = .ok (.getfield 16, 3) := by decide +kernel
theorem dX2_arrives_150 : decode cX2_arrives 150 = .ok (.iconst 5, 1) := by decide +kernel
theorem dX2_arrives_151 : decode cX2_arrives 151 = .ok (.dup2, 1) := by decide +kernel
theorem dX2_arrives_152 : decode cX2_arrives 152 = .ok (.iaload, 1) := by decide +kernel
theorem dX2_arrives_153 : decode cX2_arrives 153 = .ok (.iconst 1, 1) := by decide +kernel
theorem dX2_arrives_154 : decode cX2_arrives 154 = .ok (.iadd, 1) := by decide +kernel
theorem dX2_arrives_155 : decode cX2_arrives 155 = .ok (.iastore, 1) := by decide +kernel
theorem dX2_arrives_156 : decode cX2_arrives 156 = .ok (.goto 58, 3) := by decide +kernel
theorem dX2_arrives_159 : decode cX2_arrives 159 = .ok (.aload_n 0, 1) := by decide +kernel
theorem dX2_arrives_160 : decode cX2_arrives 160 = .ok (.getfield 16, 3) := by decide +kernel
theorem dX2_arrives_163 : decode cX2_arrives 163 = .ok (.iconst 1, 1) := by decide +kernel
theorem dX2_arrives_164 : decode cX2_arrives 164 = .ok (.iaload, 1) := by decide +kernel
theorem dX2_arrives_165 : decode cX2_arrives 165 = .ok (.iload_n 2, 1) := by decide +kernel
theorem dX2_arrives_166 : decode cX2_arrives 166 = .ok (.if_icmp .ne 17, 3) := by decide +kernel
theorem dX2_arrives_169 : decode cX2_arrives 169 = .ok (.aload_n 0, 1) := by decide +kernel
theorem dX2_arrives_170 : decode cX2_arrives 170 = .ok (.getfield 16, 3) := by decide +kernel
theorem dX2_arrives_173 : decode cX2_arrives 173 = .ok (.bipush 6, 2) := by decide +kernel
theorem dX2_arrives_175 : decode cX2_arrives 175 = .ok (.dup2, 1) := by decide +kernel
theorem dX2_arrives_176 : decode cX2_arrives 176 = .ok (.iaload, 1) := by decide +kernel
theorem dX2_arrives_177 : decode cX2_arrives 177 = .ok (.iconst 1, 1) := by decide +kernel
theorem dX2_arrives_178 : decode cX2_arrives 178 = .ok (.iadd, 1) := by decide +kernel
theorem dX2_arrives_179 : decode cX2_arrives 179 = .ok (.iastore, 1) := by decide +kernel
theorem dX2_arrives_180 : decode cX2_arrives 180 = .ok (.goto 34, 3) := by decide +kernel
theorem dX2_arrives_183 : decode cX2_arrives 183 = .ok (.aload_n 0, 1) := by decide +kernel
theorem dX2_arrives_184 : decode cX2_arrives 184 = .ok (.getfield 16, 3) := by decide +kernel
theorem dX2_arrives_187 : decode cX2_arrives 187 = .ok (.sipush 248, 3) := by decide +kernel
theorem dX2_arrives_190 : decode cX2_arrives 190 = .ok (.iload_n 1, 1) := by decide +kernel
theorem dX2_arrives_191 : decode cX2_arrives 191 = .ok (.iload_n 2, 1) := by decide +kernel
theorem dX2_arrives_192 : decode cX2_arrives 192 = .ok (.invokestatic 56, 3) := by decide +kernel
theorem dX2_arrives_195 : decode cX2_arrives 195 = .ok (.iadd, 1) := by decide +kernel
theorem dX2_arrives_196 : decode cX2_arrives 196 = .ok (.dup2, 1) := by decide +kernel
theorem dX2_arrives_197 : decode cX2_arrives 197 = .ok (.iaload, 1) := by decide +kernel
theorem dX2_arrives_198 : decode cX2_arrives 198 = .ok (.iconst 1, 1) := by decide +kernel
theorem dX2_arrives_199 : decode cX2_arrives 199 = .ok (.iadd, 1) := by decide +kernel
theorem dX2_arrives_200 : decode cX2_arrives 200 = .ok (.iastore, 1) := by decide +kernel
theorem dX2_arrives_201 : decode cX2_arrives 201 = .ok (.aload_n 0, 1) := by decide +kernel
theorem dX2_arrives_202 : decode cX2_arrives 202 = .ok (.getfield 16, 3) := by decide +kernel
theorem dX2_arrives_205 : decode cX2_arrives 205 = .ok (.bipush 38, 2) := by decide +kernel
theorem dX2_arrives_207 : decode cX2_arrives 207 = .ok (.iload_n 1, 1) := by decide +kernel
theorem dX2_arrives_208 : decode cX2_arrives 208 = .ok (.iadd, 1) := by decide +kernel
theorem dX2_arrives_209 : decode cX2_arrives 209 = .ok (.dup2, 1) := by decide +kernel
theorem dX2_arrives_210 : decode cX2_arrives 210 = .ok (.iaload, 1) := by decide +kernel
theorem dX2_arrives_211 : decode cX2_arrives 211 = .ok (.iconst 1, 1) := by decide +kernel
theorem dX2_arrives_212 : decode cX2_arrives 212 = .ok (.iadd, 1) := by decide +kernel
theorem dX2_arrives_213 : decode cX2_arrives 213 = .ok (.iastore, 1) := by decide +kernel
theorem dX2_arrives_214 : decode cX2_arrives 214 = .ok (.return_, 1) := by decide +kernel
set_option maxRecDepth 20000 in
theorem ggX2_fly_X2_arrives : GoodIn wsX2_fly wsX2_arrives := goodIn_r _ [6, 1, 7, 8, 9, 10, 5, 11, 12, 13, 14, 15, 16, 17, 18] (by decide +kernel) (by decide +kernel)
set_option maxRecDepth 20000 in
theorem gX2_fly_X2_arrives : GoodIn wsX2_fly (wsV RX2 62 RX2 yX2_arrives wsX2_arrives) := goodIn_app (goodIn_of _ (by decide +kernel)) ggX2_fly_X2_arrives
theorem dX2_fly_0 : decode cX2_fly 0 = .ok (.iconst 0, 1) := by decide +kernel
theorem dX2_fly_1 : decode cX2_fly 1 = .ok (.istore_n 1, 1) := by decide +kernel
theorem dX2_fly_2 : decode cX2_fly 2 = .ok (.iload_n 1, 1) := by decide +kernel
theorem dX2_fly_3 : decode cX2_fly 3 = .ok (.bipush 100, 2) := by decide +kernel
theorem dX2_fly_5 : decode cX2_fly 5 = .ok (.if_icmp .ge 35, 3) := by decide +kernel
theorem dX2_fly_8 : decode cX2_fly 8 = .ok (.aload_n 0, 1) := by decide +kernel
theorem dX2_fly_9 : decode cX2_fly 9 = .ok (.getfield 16, 3) := by decide +kernel
theorem dX2_fly_12 : decode cX2_fly 12 = .ok (.sipush 148, 3) := by decide +kernel
theorem dX2_fly_15 : decode cX2_fly 15 = .ok (.iload_n 1, 1) := by decide +kernel
theorem dX2_fly_16 : decode cX2_fly 16 = .ok (.iadd, 1) := by decide +kernel
theorem dX2_fly_17 : decode cX2_fly 17 = .ok (.iaload, 1) := by decide +kernel
theorem dX2_fly_18 : decode cX2_fly 18 = .ok (.ifCond .le 16, 3) := by decide +kernel
theorem dX2_fly_21 : decode cX2_fly 21 = .ok (.aload_n 0, 1) := by decide +kernel
theorem dX2_fly_22 : decode cX2_fly 22 = .ok (.getfield 16, 3) := by decide +kernel
theorem dX2_fly_25 : decode cX2_fly 25 = .ok (.bipush 48, 2) := by decide +kernel
theorem dX2_fly_27 : decode cX2_fly 27 = .ok (.iload_n 1, 1) := by decide +kernel
theorem dX2_fly_28 : decode cX2_fly 28 = .ok (.iadd, 1) := by decide +kernel
theorem dX2_fly_29 : decode cX2_fly 29 = .ok (.dup2, 1) := by decide +kernel
theorem dX2_fly_30 : decode cX2_fly 30 = .ok (.iaload, 1) := by decide +kernel
theorem dX2_fly_31 : decode cX2_fly 31 = .ok (.iconst 1, 1) := by decide +kernel
theorem dX2_fly_32 : decode cX2_fly 32 = .ok (.isub, 1) := by decide +kernel
theorem dX2_fly_33 : decode cX2_fly 33 = .ok (.iastore, 1) := by decide +kernel
theorem dX2_fly_34 : decode cX2_fly 34 = .ok (.iinc 1 1, 3) := by decide +kernel
theorem dX2_fly_37 : decode cX2_fly 37 = .ok (.goto (-35), 3) := by decide +kernel
theorem dX2_fly_40 : decode cX2_fly 40 = .ok (.iconst 0, 1) := by decide +kernel
theorem dX2_fly_41 : decode cX2_fly 41 = .ok (.istore_n 1, 1) := by decide +kernel
theorem dX2_fly_42 : decode cX2_fly 42 = .ok (.iload_n 1, 1) := by decide +kernel
theorem dX2_fly_43 : decode cX2_fly 43 = .ok (.iconst (-1), 1) := by decide +kernel
theorem dX2_fly_44 : decode cX2_fly 44 = .ok (.if_icmp .eq 94, 3) := by decide +kernel
theorem dX2_fly_47 : decode cX2_fly 47 = .ok (.iconst (-1), 1) := by decide +kernel
theorem dX2_fly_48 : decode cX2_fly 48 = .ok (.istore_n 1, 1) := by decide +kernel
theorem dX2_fly_49 : decode cX2_fly 49 = .ok (.iconst 0, 1) := by decide +kernel
theorem dX2_fly_50 : decode cX2_fly 50 = .ok (.istore_n 2, 1) := by decide +kernel
theorem dX2_fly_51 : decode cX2_fly 51 = .ok (.iload_n 2, 1) := by decide +kernel
theorem dX2_fly_52 : decode cX2_fly 52 = .ok (.bipush 100, 2) := by decide +kernel
theorem dX2_fly_54 : decode cX2_fly 54 = .ok (.if_icmp .ge 64, 3) := by decide +kernel
theorem dX2_fly_57 : decode cX2_fly 57 = .ok (.aload_n 0, 1) := by decide +kernel
theorem dX2_fly_58 : decode cX2_fly 58 = .ok (.getfield 16, 3) := by decide +kernel
theorem dX2_fly_61 : decode cX2_fly 61 = .ok (.sipush 148, 3) := by decide +kernel
theorem dX2_fly_64 : decode cX2_fly 64 = .ok (.iload_n 2, 1) := by decide +kernel
theorem dX2_fly_65 : decode cX2_fly 65 = .ok (.iadd, 1) := by decide +kernel
theorem dX2_fly_66 : decode cX2_fly 66 = .ok (.iaload, 1) := by decide +kernel
theorem dX2_fly_67 : decode cX2_fly 67 = .ok (.ifCond .le 45, 3) := by decide +kernel
theorem dX2_fly_70 : decode cX2_fly 70 = .ok (.aload_n 0, 1) := by decide +kernel
theorem dX2_fly_71 : decode cX2_fly 71 = .ok (.getfield 16, 3) := by decide +kernel
theorem dX2_fly_74 : decode cX2_fly 74 = .ok (.bipush 48, 2) := by decide +kernel
theorem dX2_fly_76 : decode cX2_fly 76 = .ok (.iload_n 2, 1) := by decide +kernel
theorem dX2_fly_77 : decode cX2_fly 77 = .ok (.iadd, 1) := by decide +kernel
theorem dX2_fly_78 : decode cX2_fly 78 = .ok (.iaload, 1) := by decide +kernel
theorem dX2_fly_79 : decode cX2_fly 79 = .ok (.ifCond .ne 33, 3) := by decide +kernel
theorem dX2_fly_82 : decode cX2_fly 82 = .ok (.iload_n 1, 1) := by decide +kernel
theorem dX2_fly_83 : decode cX2_fly 83 = .ok (.iconst (-1), 1) := by decide +kernel
theorem dX2_fly_84 : decode cX2_fly 84 = .ok (.if_icmp .eq 26, 3) := by decide +kernel
theorem dX2_fly_87 : decode cX2_fly 87 = .ok (.aload_n 0, 1) := by decide +kernel
theorem dX2_fly_88 : decode cX2_fly 88 = .ok (.getfield 16, 3) := by decide +kernel
theorem dX2_fly_91 : decode cX2_fly 91 = .ok (.sipush 148, 3) := by decide +kernel
theorem dX2_fly_94 : decode cX2_fly 94 = .ok (.iload_n 2, 1) := by decide +kernel
theorem dX2_fly_95 : decode cX2_fly 95 = .ok (.iadd, 1) := by decide +kernel
theorem dX2_fly_96 : decode cX2_fly 96 = .ok (.iaload, 1) := by decide +kernel
theorem dX2_fly_97 : decode cX2_fly 97 = .ok (.aload_n 0, 1) := by decide +kernel
theorem dX2_fly_98 : decode cX2_fly 98 = .ok (.getfield 16, 3) := by decide +kernel
theorem dX2_fly_101 : decode cX2_fly 101 = .ok (.sipush 148, 3) := by decide +kernel
theorem dX2_fly_104 : decode cX2_fly 104 = .ok (.iload_n 1, 1) := by decide +kernel
theorem dX2_fly_105 : decode cX2_fly 105 = .ok (.iadd, 1) := by decide +kernel
theorem dX2_fly_106 : decode cX2_fly 106 = .ok (.iaload, 1) := by decide +kernel
theorem dX2_fly_107 : decode cX2_fly 107 = .ok (.if_icmp .ge 5, 3) := by decide +kernel
theorem dX2_fly_110 : decode cX2_fly 110 = .ok (.iload_n 2, 1) := by decide +kernel
theorem dX2_fly_111 : decode cX2_fly 111 = .ok (.istore_n 1, 1) := by decide +kernel
theorem dX2_fly_112 : decode cX2_fly 112 = .ok (.iinc 2 1, 3) := by decide +kernel
theorem dX2_fly_115 : decode cX2_fly 115 = .ok (.goto (-64), 3) := by decide +kernel
theorem dX2_fly_118 : decode cX2_fly 118 = .ok (.iload_n 1, 1) := by decide +kernel
theorem dX2_fly_119 : decode cX2_fly 119 = .ok (.iconst (-1), 1) := by decide +kernel
theorem dX2_fly_120 : decode cX2_fly 120 = .ok (.if_icmp .eq (-78), 3) := by decide +kernel
theorem dX2_fly_123 : decode cX2_fly 123 = .ok (.aload_n 0, 1) := by decide +kernel
theorem dX2_fly_124 : decode cX2_fly 124 = .ok (.iload_n 1, 1) := by decide +kernel
theorem dX2_fly_125 : decode cX2_fly 125 = .ok (.bipush 10, 2) := by decide +kernel
theorem dX2_fly_127 : decode cX2_fly 127 = .ok (.idiv, 1) := by decide +kernel
theorem dX2_fly_128 : decode cX2_fly 128 = .ok (.iload_n 1, 1) := by decide +kernel
theorem dX2_fly_129 : decode cX2_fly 129 = .ok (.bipush 10, 2) := by decide +kernel
theorem dX2_fly_131 : decode cX2_fly 131 = .ok (.irem, 1) := by decide +kernel
theorem dX2_fly_132 : decode cX2_fly 132 = .ok (.invokevirtual 62, 3) := by decide +kernel
theorem dX2_fly_135 : decode cX2_fly 135 = .ok (.goto (-93), 3) := by decide +kernel
theorem dX2_fly_138 : decode cX2_fly 138 = .ok (.return_, 1) := by decide +kernel
set_option maxRecDepth 20000 in
theorem ggX2_secondOn_X2_talk : GoodIn wsX2_secondOn wsX2_talk := goodIn_r _ [6, 1, 7, 21, 22, 23, 24, 25, 26, 27] (by decide +kernel) (by decide +kernel)
set_option maxRecDepth 20000 in
theorem gX2_secondOn_X2_talk : GoodIn wsX2_secondOn (wsV RX2 66 RX2 yX2_talk wsX2_talk) := goodIn_app (goodIn_of _ (by decide +kernel)) ggX2_secondOn_X2_talk
set_option maxRecDepth 20000 in
theorem ggX2_secondOn_X2_fly : GoodIn wsX2_secondOn wsX2_fly := goodIn_r _ [11, 1, 12, 13, 14, 5, 15, 16, 17, 18, 19, 20, 21, 22, 23, 24, 25, 26, 27] (by decide +kernel) (by decide +kernel)
set_option maxRecDepth 20000 in
theorem gX2_secondOn_X2_fly : GoodIn wsX2_secondOn (wsV RX2 69 RX2 yX2_fly wsX2_fly) := goodIn_app (goodIn_of _ (by decide +kernel)) ggX2_secondOn_X2_fly
theorem dX2_secondOn_0 : decode cX2_secondOn 0 = .ok (.aload_n 0, 1) := by decide +kernel
theorem dX2_secondOn_1 : decode cX2_secondOn 1 = .ok (.invokevirtual 66, 3) := by decide +kernel
theorem dX2_secondOn_4 : decode cX2_secondOn 4 = .ok (.aload_n 0, 1) := by decide +kernel
theorem dX2_secondOn_5 : decode cX2_secondOn 5 = .ok (.invokevirtual 69, 3) := by decide +kernel
theorem dX2_secondOn_8 : decode cX2_secondOn 8 = .ok (.aload_n 0, 1) := by decide +kernel
theorem dX2_secondOn_9 : decode cX2_secondOn 9 = .ok (.getfield 16, 3) := by decide +kernel
theorem dX2_secondOn_12 : decode cX2_secondOn 12 = .ok (.iconst 0, 1) := by decide +kernel
theorem dX2_secondOn_13 : decode cX2_secondOn 13 = .ok (.dup2, 1) := by decide +kernel
theorem dX2_secondOn_14 : decode cX2_secondOn 14 = .ok (.iaload, 1) := by decide +kernel
theorem dX2_secondOn_15 : decode cX2_secondOn 15 = .ok (.iconst 1, 1) := by decide +kernel
theorem dX2_secondOn_16 : decode cX2_secondOn 16 = .ok (.iadd, 1) := by decide +kernel
theorem dX2_secondOn_17 : decode cX2_secondOn 17 = .ok (.iastore, 1) := by decide +kernel
theorem dX2_secondOn_18 : decode cX2_secondOn 18 = .ok (.return_, 1) := by decide +kernel
set_option maxRecDepth 20000 in
theorem ggX2_secondsOn_X2_secondOn : GoodIn wsX2_secondsOn wsX2_secondOn := goodIn_r _ [5, 6, 7, 8, 9, 4, 10, 11, 12, 13, 14, 15, 16, 17, 18, 19, 20, 21, 22, 23, 24, 25, 26, 27, 28, 29, 30, 31] (by decide +kernel) (by decide +kernel)
set_option maxRecDepth 20000 in
theorem gX2_secondsOn_X2_secondOn : GoodIn wsX2_secondsOn (wsV RX2 72 RX2 yX2_secondOn wsX2_secondOn) := goodIn_app (goodIn_of _ (by decide +kernel)) ggX2_secondsOn_X2_secondOn
theorem dX2_secondsOn_0 : decode cX2_secondsOn 0 = .ok (.iconst 0, 1) := by decide +kernel
theorem dX2_secondsOn_1 : decode cX2_secondsOn 1 = .ok (.istore_n 2, 1) := by decide +kernel
theorem dX2_secondsOn_2 : decode cX2_secondsOn 2 = .ok (.iload_n 2, 1) := by decide +kernel
theorem dX2_secondsOn_3 : decode cX2_secondsOn 3 = .ok (.iload_n 1, 1) := by decide +kernel
theorem dX2_secondsOn_4 : decode cX2_secondsOn 4 = .ok (.if_icmp .ge 13, 3) := by decide +kernel
theorem dX2_secondsOn_7 : decode cX2_secondsOn 7 = .ok (.aload_n 0, 1) := by decide +kernel
theorem dX2_secondsOn_8 : decode cX2_secondsOn 8 = .ok (.invokevirtual 72, 3) := by decide +kernel
theorem dX2_secondsOn_11 : decode cX2_secondsOn 11 = .ok (.iinc 2 1, 3) := by decide +kernel
theorem dX2_secondsOn_14 : decode cX2_secondsOn 14 = .ok (.goto (-12), 3) := by decide +kernel
theorem dX2_secondsOn_17 : decode cX2_secondsOn 17 = .ok (.return_, 1) := by decide +kernel
set_option maxRecDepth 20000 in
theorem ggX2_newDinner_X2_isIn : GoodIn wsX2_newDinner wsX2_isIn := goodIn_r _ [7] (by decide +kernel) (by decide +kernel)
set_option maxRecDepth 20000 in
theorem gX2_newDinner_X2_isIn : GoodIn wsX2_newDinner (va_wsS RX2 29 yX2_isIn wsX2_isIn) := goodIn_app (goodIn_of _ (by decide +kernel)) ggX2_newDinner_X2_isIn
set_option maxRecDepth 20000 in
theorem ggX2_newDinner_X2_fail : GoodIn wsX2_newDinner wsX2_fail := goodIn_r _ [11, 1, 27, 28, 29, 30, 31, 32, 33] (by decide +kernel) (by decide +kernel)
set_option maxRecDepth 20000 in
theorem gX2_newDinner_X2_fail : GoodIn wsX2_newDinner (wsV RX2 75 RX2 yX2_fail wsX2_fail) := goodIn_app (goodIn_of _ (by decide +kernel)) ggX2_newDinner_X2_fail
set_option maxRecDepth 20000 in
theorem ggX2_newDinner_X2_rated : GoodIn wsX2_newDinner wsX2_rated := goodIn_r _ [15, 3, 16, 17, 18, 19, 20, 21, 22, 23, 24, 25, 6, 26, 2, 27, 28, 29, 30, 31, 32, 33] (by decide +kernel) (by decide +kernel)
set_option maxRecDepth 20000 in
theorem gX2_newDinner_X2_rated : GoodIn wsX2_newDinner (wsV RX2 78 RX2 yX2_rated wsX2_rated) := goodIn_app (goodIn_of _ (by decide +kernel)) ggX2_newDinner_X2_rated
theorem dX2_newDinner_0 : decode cX2_newDinner 0 = .ok (.aload_n 0, 1) := by decide +kernel
theorem dX2_newDinner_1 : decode cX2_newDinner 1 = .ok (.iconst 0, 1) := by decide +kernel
theorem dX2_newDinner_2 : decode cX2_newDinner 2 = .ok (.putfield 26, 3) := by decide +kernel
theorem dX2_newDinner_5 : decode cX2_newDinner 5 = .ok (.iload_n 1, 1) := by decide +kernel
theorem dX2_newDinner_6 : decode cX2_newDinner 6 = .ok (.iconst 2, 1) := by decide +kernel
theorem dX2_newDinner_7 : decode cX2_newDinner 7 = .ok (.bipush 10, 2) := by decide +kernel
theorem dX2_newDinner_9 : decode cX2_newDinner 9 = .ok (.invokestatic 29, 3) := by decide +kernel
theorem dX2_newDinner_12 : decode cX2_newDinner 12 = .ok (.ifCond .ne 9, 3) := by decide +kernel
theorem dX2_newDinner_15 : decode cX2_newDinner 15 = .ok (.aload_n 0, 1) := by decide +kernel
theorem dX2_newDinner_16 : decode cX2_newDinner 16 = .ok (.iconst 1, 1) := by decide +kernel
theorem dX2_newDinner_17 : decode cX2_newDinner 17 = .ok (.invokevirtual 75, 3) := by decide +kernel
theorem dX2_newDinner_20 : decode cX2_newDinner 20 = .ok (.ireturn, 1) := by decide +kernel
theorem dX2_newDinner_21 : decode cX2_newDinner 21 = .ok (.aload_n 0, 1) := by decide +kernel
theorem dX2_newDinner_22 : decode cX2_newDinner 22 = .ok (.invokevirtual 78, 3) := by decide +kernel
theorem dX2_newDinner_25 : decode cX2_newDinner 25 = .ok (.istore_n 2, 1) := by decide +kernel
theorem dX2_newDinner_26 : decode cX2_newDinner 26 = .ok (.iconst 0, 1) := by decide +kernel
theorem dX2_newDinner_27 : decode cX2_newDinner 27 = .ok (.istore_n 3, 1) := by decide +kernel
theorem dX2_newDinner_28 : decode cX2_newDinner 28 = .ok (.iload_n 3, 1) := by decide +kernel
theorem dX2_newDinner_29 : decode cX2_newDinner 29 = .ok (.sipush 348, 3) := by decide +kernel
theorem dX2_newDinner_32 : decode cX2_newDinner 32 = .ok (.if_icmp .ge 16, 3) := by decide +kernel
theorem dX2_newDinner_35 : decode cX2_newDinner 35 = .ok (.aload_n 0, 1) := by decide +kernel
theorem dX2_newDinner_36 : decode cX2_newDinner 36 = .ok (.getfield 16, 3) := by decide +kernel
theorem dX2_newDinner_39 : decode cX2_newDinner 39 = .ok (.iload_n 3, 1) := by decide +kernel
theorem dX2_newDinner_40 : decode cX2_newDinner 40 = .ok (.iconst 0, 1) := by decide +kernel
theorem dX2_newDinner_41 : decode cX2_newDinner 41 = .ok (.iastore, 1) := by decide +kernel
theorem dX2_newDinner_42 : decode cX2_newDinner 42 = .ok (.iinc 3 1, 3) := by decide +kernel
theorem dX2_newDinner_45 : decode cX2_newDinner 45 = .ok (.goto (-17), 3) := by decide +kernel
theorem dX2_newDinner_48 : decode cX2_newDinner 48 = .ok (.aload_n 0, 1) := by decide +kernel
theorem dX2_newDinner_49 : decode cX2_newDinner 49 = .ok (.getfield 16, 3) := by decide +kernel
theorem dX2_newDinner_52 : decode cX2_newDinner 52 = .ok (.iconst 1, 1) := by decide +kernel
theorem dX2_newDinner_53 : decode cX2_newDinner 53 = .ok (.iconst (-1), 1) := by decide +kernel
theorem dX2_newDinner_54 : decode cX2_newDinner 54 = .ok (.iastore, 1) := by decide +kernel
theorem dX2_newDinner_55 : decode cX2_newDinner 55 = .ok (.aload_n 0, 1) := by decide +kernel
theorem dX2_newDinner_56 : decode cX2_newDinner 56 = .ok (.iload_n 1, 1) := by decide +kernel
theorem dX2_newDinner_57 : decode cX2_newDinner 57 = .ok (.putfield 7, 3) := by decide +kernel
theorem dX2_newDinner_60 : decode cX2_newDinner 60 = .ok (.iload_n 2, 1) := by decide +kernel
theorem dX2_newDinner_61 : decode cX2_newDinner 61 = .ok (.ireturn, 1) := by decide +kernel
set_option maxRecDepth 20000 in
theorem ggX2_setLimit_X2_isIn : GoodIn wsX2_setLimit wsX2_isIn := goodIn_r _ [6] (by decide +kernel) (by decide +kernel)
set_option maxRecDepth 20000 in
theorem gX2_setLimit_X2_isIn : GoodIn wsX2_setLimit (va_wsS RX2 29 yX2_isIn wsX2_isIn) := goodIn_app (goodIn_of _ (by decide +kernel)) ggX2_setLimit_X2_isIn
set_option maxRecDepth 20000 in
theorem ggX2_setLimit_X2_fail : GoodIn wsX2_setLimit wsX2_fail := goodIn_r _ [10, 1, 11, 12, 13, 14, 15, 16, 17] (by decide +kernel) (by decide +kernel)
set_option maxRecDepth 20000 in
theorem gX2_setLimit_X2_fail : GoodIn wsX2_setLimit (wsV RX2 75 RX2 yX2_fail wsX2_fail) := goodIn_app (goodIn_of _ (by decide +kernel)) ggX2_setLimit_X2_fail
theorem dX2_setLimit_0 : decode cX2_setLimit 0 = .ok (.aload_n 0, 1) := by decide +kernel
theorem dX2_setLimit_1 : decode cX2_setLimit 1 = .ok (.iconst 0, 1) := by decide +kernel
theorem dX2_setLimit_2 : decode cX2_setLimit 2 = .ok (.putfield 26, 3) := by decide +kernel
theorem dX2_setLimit_5 : decode cX2_setLimit 5 = .ok (.iload_n 1, 1) := by decide +kernel
theorem dX2_setLimit_6 : decode cX2_setLimit 6 = .ok (.iconst 1, 1) := by decide +kernel
theorem dX2_setLimit_7 : decode cX2_setLimit 7 = .ok (.bipush 30, 2) := by decide +kernel
theorem dX2_setLimit_9 : decode cX2_setLimit 9 = .ok (.invokestatic 29, 3) := by decide +kernel
theorem dX2_setLimit_12 : decode cX2_setLimit 12 = .ok (.ifCond .ne 9, 3) := by decide +kernel
theorem dX2_setLimit_15 : decode cX2_setLimit 15 = .ok (.aload_n 0, 1) := by decide +kernel
theorem dX2_setLimit_16 : decode cX2_setLimit 16 = .ok (.iconst 1, 1) := by decide +kernel
theorem dX2_setLimit_17 : decode cX2_setLimit 17 = .ok (.invokevirtual 75, 3) := by decide +kernel
theorem dX2_setLimit_20 : decode cX2_setLimit 20 = .ok (.ireturn, 1) := by decide +kernel
theorem dX2_setLimit_21 : decode cX2_setLimit 21 = .ok (.aload_n 0, 1) := by decide +kernel
theorem dX2_setLimit_22 : decode cX2_setLimit 22 = .ok (.getfield 13, 3) := by decide +kernel
theorem dX2_setLimit_25 : decode cX2_setLimit 25 = .ok (.istore_n 2, 1) := by decide +kernel
theorem dX2_setLimit_26 : decode cX2_setLimit 26 = .ok (.aload_n 0, 1) := by decide +kernel
theorem dX2_setLimit_27 : decode cX2_setLimit 27 = .ok (.iload_n 1, 1) := by decide +kernel
theorem dX2_setLimit_28 : decode cX2_setLimit 28 = .ok (.putfield 13, 3) := by decide +kernel
theorem dX2_setLimit_31 : decode cX2_setLimit 31 = .ok (.iload_n 2, 1) := by decide +kernel
theorem dX2_setLimit_32 : decode cX2_setLimit 32 = .ok (.ireturn, 1) := by decide +kernel
set_option maxRecDepth 20000 in
theorem ggX2_speak_X2_isGuest : GoodIn wsX2_speak wsX2_isGuest := goodIn_r _ [7, 8, 9, 10, 6, 11, 16, 17, 18, 19, 20, 21, 22] (by decide +kernel) (by decide +kernel)
set_option maxRecDepth 20000 in
theorem gX2_speak_X2_isGuest : GoodIn wsX2_speak (wsV RX2 81 RX2 yX2_isGuest wsX2_isGuest) := goodIn_app (goodIn_of _ (by decide +kernel)) ggX2_speak_X2_isGuest
set_option maxRecDepth 20000 in
theorem ggX2_speak_X2_fail : GoodIn wsX2_speak wsX2_fail := goodIn_r _ [15, 1, 16, 17, 18, 19, 20, 21, 22] (by decide +kernel) (by decide +kernel)
set_option maxRecDepth 20000 in
theorem gX2_speak_X2_fail : GoodIn wsX2_speak (wsV RX2 75 RX2 yX2_fail wsX2_fail) := goodIn_app (goodIn_of _ (by decide +kernel)) ggX2_speak_X2_fail
set_option maxRecDepth 20000 in
theorem ggX2_speak_X2_isIn : GoodIn wsX2_speak wsX2_isIn := goodIn_r _ [11] (by decide +kernel) (by decide +kernel)
set_option maxRecDepth 20000 in
theorem gX2_speak_X2_isIn : GoodIn wsX2_speak (va_wsS RX2 29 yX2_isIn wsX2_isIn) := goodIn_app (goodIn_of _ (by decide +kernel)) ggX2_speak_X2_isIn
theorem dX2_speak_0 : decode cX2_speak 0 = .ok (.aload_n 0, 1) := by decide +kernel
theorem dX2_speak_1 : decode cX2_speak 1 = .ok (.iconst 0, 1) := by decide +kernel
theorem dX2_speak_2 : decode cX2_speak 2 = .ok (.putfield 26, 3) := by decide +kernel
theorem dX2_speak_5 : decode cX2_speak 5 = .ok (.aload_n 0, 1) := by decide +kernel
theorem dX2_speak_6 : decode cX2_speak 6 = .ok (.iload_n 1, 1) := by decide +kernel
theorem dX2_speak_7 : decode cX2_speak 7 = .ok (.invokevirtual 81, 3) := by decide +kernel
theorem dX2_speak_10 : decode cX2_speak 10 = .ok (.ifCond .ne 9, 3) := by decide +kernel
theorem dX2_speak_13 : decode cX2_speak 13 = .ok (.aload_n 0, 1) := by decide +kernel
theorem dX2_speak_14 : decode cX2_speak 14 = .ok (.iconst 1, 1) := by decide +kernel
theorem dX2_speak_15 : decode cX2_speak 15 = .ok (.invokevirtual 75, 3) := by decide +kernel
theorem dX2_speak_18 : decode cX2_speak 18 = .ok (.ireturn, 1) := by decide +kernel
theorem dX2_speak_19 : decode cX2_speak 19 = .ok (.iload_n 2, 1) := by decide +kernel
theorem dX2_speak_20 : decode cX2_speak 20 = .ok (.iconst 1, 1) := by decide +kernel
theorem dX2_speak_21 : decode cX2_speak 21 = .ok (.bipush 60, 2) := by decide +kernel
theorem dX2_speak_23 : decode cX2_speak 23 = .ok (.invokestatic 29, 3) := by decide +kernel
theorem dX2_speak_26 : decode cX2_speak 26 = .ok (.ifCond .ne 9, 3) := by decide +kernel
theorem dX2_speak_29 : decode cX2_speak 29 = .ok (.aload_n 0, 1) := by decide +kernel
theorem dX2_speak_30 : decode cX2_speak 30 = .ok (.iconst 2, 1) := by decide +kernel
theorem dX2_speak_31 : decode cX2_speak 31 = .ok (.invokevirtual 75, 3) := by decide +kernel
theorem dX2_speak_34 : decode cX2_speak 34 = .ok (.ireturn, 1) := by decide +kernel
theorem dX2_speak_35 : decode cX2_speak 35 = .ok (.aload_n 0, 1) := by decide +kernel
theorem dX2_speak_36 : decode cX2_speak 36 = .ok (.getfield 16, 3) := by decide +kernel
theorem dX2_speak_39 : decode cX2_speak 39 = .ok (.iconst 1, 1) := by decide +kernel
theorem dX2_speak_40 : decode cX2_speak 40 = .ok (.iaload, 1) := by decide +kernel
theorem dX2_speak_41 : decode cX2_speak 41 = .ok (.istore_n 3, 1) := by decide +kernel
theorem dX2_speak_42 : decode cX2_speak 42 = .ok (.aload_n 0, 1) := by decide +kernel
theorem dX2_speak_43 : decode cX2_speak 43 = .ok (.getfield 16, 3) := by decide +kernel
theorem dX2_speak_46 : decode cX2_speak 46 = .ok (.iconst 1, 1) := by decide +kernel
theorem dX2_speak_47 : decode cX2_speak 47 = .ok (.iload_n 1, 1) := by decide +kernel
theorem dX2_speak_48 : decode cX2_speak 48 = .ok (.iastore, 1) := by decide +kernel
theorem dX2_speak_49 : decode cX2_speak 49 = .ok (.aload_n 0, 1) := by decide +kernel
theorem dX2_speak_50 : decode cX2_speak 50 = .ok (.getfield 16, 3) := by decide +kernel
theorem dX2_speak_53 : decode cX2_speak 53 = .ok (.iconst 2, 1) := by decide +kernel
theorem dX2_speak_54 : decode cX2_speak 54 = .ok (.iload_n 2, 1) := by decide +kernel
theorem dX2_speak_55 : decode cX2_speak 55 = .ok (.iastore, 1) := by decide +kernel
theorem dX2_speak_56 : decode cX2_speak 56 = .ok (.iload_n 3, 1) := by decide +kernel
theorem dX2_speak_57 : decode cX2_speak 57 = .ok (.iconst (-1), 1) := by decide +kernel
theorem dX2_speak_58 : decode cX2_speak 58 = .ok (.if_icmp .eq 8, 3) := by decide +kernel
theorem dX2_speak_61 : decode cX2_speak 61 = .ok (.iload_n 3, 1) := by decide +kernel
theorem dX2_speak_62 : decode cX2_speak 62 = .ok (.iload_n 1, 1) := by decide +kernel
theorem dX2_speak_63 : decode cX2_speak 63 = .ok (.if_icmp .ne 5, 3) := by decide +kernel
theorem dX2_speak_66 : decode cX2_speak 66 = .ok (.iconst (-1), 1) := by decide +kernel
theorem dX2_speak_67 : decode cX2_speak 67 = .ok (.ireturn, 1) := by decide +kernel
theorem dX2_speak_68 : decode cX2_speak 68 = .ok (.aload_n 0, 1) := by decide +kernel
theorem dX2_speak_69 : decode cX2_speak 69 = .ok (.getfield 16, 3) := by decide +kernel
theorem dX2_speak_72 : decode cX2_speak 72 = .ok (.bipush 18, 2) := by decide +kernel
theorem dX2_speak_74 : decode cX2_speak 74 = .ok (.iload_n 1, 1) := by decide +kernel
theorem dX2_speak_75 : decode cX2_speak 75 = .ok (.iadd, 1) := by decide +kernel
theorem dX2_speak_76 : decode cX2_speak 76 = .ok (.dup2, 1) := by decide +kernel
theorem dX2_speak_77 : decode cX2_speak 77 = .ok (.iaload, 1) := by decide +kernel
theorem dX2_speak_78 : decode cX2_speak 78 = .ok (.iconst 1, 1) := by decide +kernel
theorem dX2_speak_79 : decode cX2_speak 79 = .ok (.iadd, 1) := by decide +kernel
theorem dX2_speak_80 : decode cX2_speak 80 = .ok (.iastore, 1) := by decide +kernel
theorem dX2_speak_81 : decode cX2_speak 81 = .ok (.iload_n 3, 1) := by decide +kernel
theorem dX2_speak_82 : decode cX2_speak 82 = .ok (.ireturn, 1) := by decide +kernel
set_option maxRecDepth 20000 in
theorem ggX2_cough_X2_isGuest : GoodIn wsX2_cough wsX2_isGuest := goodIn_r _ [7, 8, 9, 10, 6, 11, 16, 17, 18, 19, 20, 21, 22] (by decide +kernel) (by decide +kernel)
set_option maxRecDepth 20000 in
theorem gX2_cough_X2_isGuest : GoodIn wsX2_cough (wsV RX2 81 RX2 yX2_isGuest wsX2_isGuest) := goodIn_app (goodIn_of _ (by decide +kernel)) ggX2_cough_X2_isGuest
set_option maxRecDepth 20000 in
theorem ggX2_cough_X2_fail : GoodIn wsX2_cough wsX2_fail := goodIn_r _ [15, 1, 16, 17, 18, 19, 20, 21, 22] (by decide +kernel) (by decide +kernel)
set_option maxRecDepth 20000 in
theorem gX2_cough_X2_fail : GoodIn wsX2_cough (wsV RX2 75 RX2 yX2_fail wsX2_fail) := goodIn_app (goodIn_of _ (by decide +kernel)) ggX2_cough_X2_fail
set_option maxRecDepth 20000 in
theorem ggX2_cough_X2_isIn : GoodIn wsX2_cough wsX2_isIn := goodIn_r _ [11] (by decide +kernel) (by decide +kernel)
set_option maxRecDepth 20000 in
theorem gX2_cough_X2_isIn : GoodIn wsX2_cough (va_wsS RX2 29 yX2_isIn wsX2_isIn) := goodIn_app (goodIn_of _ (by decide +kernel)) ggX2_cough_X2_isIn
theorem dX2_cough_0 : decode cX2_cough 0 = .ok (.aload_n 0, 1) := by decide +kernel
theorem dX2_cough_1 : decode cX2_cough 1 = .ok (.iconst 0, 1) := by decide +kernel
theorem dX2_cough_2 : decode cX2_cough 2 = .ok (.putfield 26, 3) := by decide +kernel
theorem dX2_cough_5 : decode cX2_cough 5 = .ok (.aload_n 0, 1) := by decide +kernel
theorem dX2_cough_6 : decode cX2_cough 6 = .ok (.iload_n 1, 1) := by decide +kernel
theorem dX2_cough_7 : decode cX2_cough 7 = .ok (.invokevirtual 81, 3) := by decide +kernel
theorem dX2_cough_10 : decode cX2_cough 10 = .ok (.ifCond .ne 9, 3) := by decide +kernel
theorem dX2_cough_13 : decode cX2_cough 13 = .ok (.aload_n 0, 1) := by decide +kernel
theorem dX2_cough_14 : decode cX2_cough 14 = .ok (.iconst 1, 1) := by decide +kernel
theorem dX2_cough_15 : decode cX2_cough 15 = .ok (.invokevirtual 75, 3) := by decide +kernel
theorem dX2_cough_18 : decode cX2_cough 18 = .ok (.ireturn, 1) := by decide +kernel
theorem dX2_cough_19 : decode cX2_cough 19 = .ok (.iload_n 2, 1) := by decide +kernel
theorem dX2_cough_20 : decode cX2_cough 20 = .ok (.iconst 1, 1) := by decide +kernel
theorem dX2_cough_21 : decode cX2_cough 21 = .ok (.bipush 9, 2) := by decide +kernel
theorem dX2_cough_23 : decode cX2_cough 23 = .ok (.invokestatic 29, 3) := by decide +kernel
theorem dX2_cough_26 : decode cX2_cough 26 = .ok (.ifCond .ne 9, 3) := by decide +kernel
theorem dX2_cough_29 : decode cX2_cough 29 = .ok (.aload_n 0, 1) := by decide +kernel
theorem dX2_cough_30 : decode cX2_cough 30 = .ok (.iconst 2, 1) := by decide +kernel
theorem dX2_cough_31 : decode cX2_cough 31 = .ok (.invokevirtual 75, 3) := by decide +kernel
theorem dX2_cough_34 : decode cX2_cough 34 = .ok (.ireturn, 1) := by decide +kernel
theorem dX2_cough_35 : decode cX2_cough 35 = .ok (.aload_n 0, 1) := by decide +kernel
theorem dX2_cough_36 : decode cX2_cough 36 = .ok (.getfield 16, 3) := by decide +kernel
theorem dX2_cough_39 : decode cX2_cough 39 = .ok (.iconst 1, 1) := by decide +kernel
theorem dX2_cough_40 : decode cX2_cough 40 = .ok (.iaload, 1) := by decide +kernel
theorem dX2_cough_41 : decode cX2_cough 41 = .ok (.iconst (-1), 1) := by decide +kernel
theorem dX2_cough_42 : decode cX2_cough 42 = .ok (.if_icmp .ne 7, 3) := by decide +kernel
theorem dX2_cough_45 : decode cX2_cough 45 = .ok (.iload_n 2, 1) := by decide +kernel
theorem dX2_cough_46 : decode cX2_cough 46 = .ok (.goto 20, 3) := by decide +kernel
theorem dX2_cough_49 : decode cX2_cough 49 = .ok (.aload_n 0, 1) := by decide +kernel
theorem dX2_cough_50 : decode cX2_cough 50 = .ok (.getfield 16, 3) := by decide +kernel
theorem dX2_cough_53 : decode cX2_cough 53 = .ok (.iconst 1, 1) := by decide +kernel
theorem dX2_cough_54 : decode cX2_cough 54 = .ok (.iaload, 1) := by decide +kernel
theorem dX2_cough_55 : decode cX2_cough 55 = .ok (.iload_n 1, 1) := by decide +kernel
theorem dX2_cough_56 : decode cX2_cough 56 = .ok (.if_icmp .ne 7, 3) := by decide +kernel
theorem dX2_cough_59 : decode cX2_cough 59 = .ok (.iconst 0, 1) := by decide +kernel
theorem dX2_cough_60 : decode cX2_cough 60 = .ok (.goto 6, 3) := by decide +kernel
theorem dX2_cough_63 : decode cX2_cough 63 = .ok (.iload_n 2, 1) := by decide +kernel
theorem dX2_cough_64 : decode cX2_cough 64 = .ok (.iconst 2, 1) := by decide +kernel
theorem dX2_cough_65 : decode cX2_cough 65 = .ok (.idiv, 1) := by decide +kernel
theorem dX2_cough_66 : decode cX2_cough 66 = .ok (.istore_n 3, 1) := by decide +kernel
theorem dX2_cough_67 : decode cX2_cough 67 = .ok (.aload_n 0, 1) := by decide +kernel
theorem dX2_cough_68 : decode cX2_cough 68 = .ok (.getfield 16, 3) := by decide +kernel
theorem dX2_cough_71 : decode cX2_cough 71 = .ok (.bipush 28, 2) := by decide +kernel
theorem dX2_cough_73 : decode cX2_cough 73 = .ok (.iload_n 1, 1) := by decide +kernel
theorem dX2_cough_74 : decode cX2_cough 74 = .ok (.iadd, 1) := by decide +kernel
theorem dX2_cough_75 : decode cX2_cough 75 = .ok (.dup2, 1) := by decide +kernel
theorem dX2_cough_76 : decode cX2_cough 76 = .ok (.iaload, 1) := by decide +kernel
theorem dX2_cough_77 : decode cX2_cough 77 = .ok (.iconst 1, 1) := by decide +kernel
theorem dX2_cough_78 : decode cX2_cough 78 = .ok (.iadd, 1) := by decide +kernel
theorem dX2_cough_79 : decode cX2_cough 79 = .ok (.iastore, 1) := by decide +kernel
theorem dX2_cough_80 : decode cX2_cough 80 = .ok (.aload_n 0, 1) := by decide +kernel
theorem dX2_cough_81 : decode cX2_cough 81 = .ok (.getfield 16, 3) := by decide +kernel
theorem dX2_cough_84 : decode cX2_cough 84 = .ok (.bipush 38, 2) := by decide +kernel
theorem dX2_cough_86 : decode cX2_cough 86 = .ok (.iload_n 1, 1) := by decide +kernel
theorem dX2_cough_87 : decode cX2_cough 87 = .ok (.iadd, 1) := by decide +kernel
theorem dX2_cough_88 : decode cX2_cough 88 = .ok (.dup2, 1) := by decide +kernel
theorem dX2_cough_89 : decode cX2_cough 89 = .ok (.iaload, 1) := by decide +kernel
theorem dX2_cough_90 : decode cX2_cough 90 = .ok (.iload_n 3, 1) := by decide +kernel
theorem dX2_cough_91 : decode cX2_cough 91 = .ok (.iadd, 1) := by decide +kernel
theorem dX2_cough_92 : decode cX2_cough 92 = .ok (.iastore, 1) := by decide +kernel
theorem dX2_cough_93 : decode cX2_cough 93 = .ok (.iload_n 3, 1) := by decide +kernel
theorem dX2_cough_94 : decode cX2_cough 94 = .ok (.ireturn, 1) := by decide +kernel
set_option maxRecDepth 20000 in
theorem ggX2_send_X2_pair : GoodIn wsX2_send wsX2_pair := goodIn_r _ [5] (by decide +kernel) (by decide +kernel)
set_option maxRecDepth 20000 in
theorem gX2_send_X2_pair : GoodIn wsX2_send (va_wsS RX2 56 yX2_pair wsX2_pair) := goodIn_app (goodIn_of _ (by decide +kernel)) ggX2_send_X2_pair
set_option maxRecDepth 20000 in
theorem ggX2_send_X2_apart : GoodIn wsX2_send wsX2_apart := goodIn_r _ [9, 10, 11, 12, 13, 14, 15, 16, 17, 18, 19, 20, 21, 22, 23, 24] (by decide +kernel) (by decide +kernel)
set_option maxRecDepth 20000 in
theorem gX2_send_X2_apart : GoodIn wsX2_send (wsV RX2 85 RX2 yX2_apart wsX2_apart) := goodIn_app (goodIn_of _ (by decide +kernel)) ggX2_send_X2_apart
theorem dX2_send_0 : decode cX2_send 0 = .ok (.aload_n 0, 1) := by decide +kernel
theorem dX2_send_1 : decode cX2_send 1 = .ok (.getfield 16, 3) := by decide +kernel
theorem dX2_send_4 : decode cX2_send 4 = .ok (.bipush 7, 2) := by decide +kernel
theorem dX2_send_6 : decode cX2_send 6 = .ok (.dup2, 1) := by decide +kernel
theorem dX2_send_7 : decode cX2_send 7 = .ok (.iaload, 1) := by decide +kernel
theorem dX2_send_8 : decode cX2_send 8 = .ok (.iconst 1, 1) := by decide +kernel
theorem dX2_send_9 : decode cX2_send 9 = .ok (.iadd, 1) := by decide +kernel
theorem dX2_send_10 : decode cX2_send 10 = .ok (.iastore, 1) := by decide +kernel
theorem dX2_send_11 : decode cX2_send 11 = .ok (.aload_n 0, 1) := by decide +kernel
theorem dX2_send_12 : decode cX2_send 12 = .ok (.getfield 16, 3) := by decide +kernel
theorem dX2_send_15 : decode cX2_send 15 = .ok (.sipush 148, 3) := by decide +kernel
theorem dX2_send_18 : decode cX2_send 18 = .ok (.iload_n 1, 1) := by decide +kernel
theorem dX2_send_19 : decode cX2_send 19 = .ok (.iload_n 2, 1) := by decide +kernel
theorem dX2_send_20 : decode cX2_send 20 = .ok (.invokestatic 56, 3) := by decide +kernel
theorem dX2_send_23 : decode cX2_send 23 = .ok (.iadd, 1) := by decide +kernel
theorem dX2_send_24 : decode cX2_send 24 = .ok (.aload_n 0, 1) := by decide +kernel
theorem dX2_send_25 : decode cX2_send 25 = .ok (.getfield 16, 3) := by decide +kernel
theorem dX2_send_28 : decode cX2_send 28 = .ok (.bipush 7, 2) := by decide +kernel
theorem dX2_send_30 : decode cX2_send 30 = .ok (.iaload, 1) := by decide +kernel
theorem dX2_send_31 : decode cX2_send 31 = .ok (.iastore, 1) := by decide +kernel
theorem dX2_send_32 : decode cX2_send 32 = .ok (.aload_n 0, 1) := by decide +kernel
theorem dX2_send_33 : decode cX2_send 33 = .ok (.getfield 16, 3) := by decide +kernel
theorem dX2_send_36 : decode cX2_send 36 = .ok (.bipush 48, 2) := by decide +kernel
theorem dX2_send_38 : decode cX2_send 38 = .ok (.iload_n 1, 1) := by decide +kernel
theorem dX2_send_39 : decode cX2_send 39 = .ok (.iload_n 2, 1) := by decide +kernel
theorem dX2_send_40 : decode cX2_send 40 = .ok (.invokestatic 56, 3) := by decide +kernel
theorem dX2_send_43 : decode cX2_send 43 = .ok (.iadd, 1) := by decide +kernel
theorem dX2_send_44 : decode cX2_send 44 = .ok (.iconst 2, 1) := by decide +kernel
theorem dX2_send_45 : decode cX2_send 45 = .ok (.aload_n 0, 1) := by decide +kernel
theorem dX2_send_46 : decode cX2_send 46 = .ok (.iload_n 1, 1) := by decide +kernel
theorem dX2_send_47 : decode cX2_send 47 = .ok (.iload_n 2, 1) := by decide +kernel
theorem dX2_send_48 : decode cX2_send 48 = .ok (.invokevirtual 85, 3) := by decide +kernel
theorem dX2_send_51 : decode cX2_send 51 = .ok (.imul, 1) := by decide +kernel
theorem dX2_send_52 : decode cX2_send 52 = .ok (.iastore, 1) := by decide +kernel
theorem dX2_send_53 : decode cX2_send 53 = .ok (.aload_n 0, 1) := by decide +kernel
theorem dX2_send_54 : decode cX2_send 54 = .ok (.getfield 16, 3) := by decide +kernel
theorem dX2_send_57 : decode cX2_send 57 = .ok (.bipush 48, 2) := by decide +kernel
theorem dX2_send_59 : decode cX2_send 59 = .ok (.iload_n 1, 1) := by decide +kernel
theorem dX2_send_60 : decode cX2_send 60 = .ok (.iload_n 2, 1) := by decide +kernel
theorem dX2_send_61 : decode cX2_send 61 = .ok (.invokestatic 56, 3) := by decide +kernel
theorem dX2_send_64 : decode cX2_send 64 = .ok (.iadd, 1) := by decide +kernel
theorem dX2_send_65 : decode cX2_send 65 = .ok (.iaload, 1) := by decide +kernel
theorem dX2_send_66 : decode cX2_send 66 = .ok (.ireturn, 1) := by decide +kernel
set_option maxRecDepth 20000 in
theorem ggX2_canSend_X2_isGuest : GoodIn wsX2_canSend wsX2_isGuest := goodIn_r _ [7, 8, 9, 10, 6, 11, 15, 16, 17, 18, 19, 20, 21] (by decide +kernel) (by decide +kernel)
set_option maxRecDepth 20000 in
theorem gX2_canSend_X2_isGuest : GoodIn wsX2_canSend (wsV RX2 81 RX2 yX2_isGuest wsX2_isGuest) := goodIn_app (goodIn_of _ (by decide +kernel)) ggX2_canSend_X2_isGuest
set_option maxRecDepth 20000 in
theorem ggX2_canSend_X2_pair : GoodIn wsX2_canSend wsX2_pair := goodIn_r _ [14] (by decide +kernel) (by decide +kernel)
set_option maxRecDepth 20000 in
theorem gX2_canSend_X2_pair : GoodIn wsX2_canSend (va_wsS RX2 56 yX2_pair wsX2_pair) := goodIn_app (goodIn_of _ (by decide +kernel)) ggX2_canSend_X2_pair
theorem dX2_canSend_0 : decode cX2_canSend 0 = .ok (.aload_n 0, 1) := by decide +kernel
theorem dX2_canSend_1 : decode cX2_canSend 1 = .ok (.aload_n 0, 1) := by decide +kernel
theorem dX2_canSend_2 : decode cX2_canSend 2 = .ok (.iload_n 1, 1) := by decide +kernel
theorem dX2_canSend_3 : decode cX2_canSend 3 = .ok (.invokevirtual 81, 3) := by decide +kernel
theorem dX2_canSend_6 : decode cX2_canSend 6 = .ok (.ifCond .eq 11, 3) := by decide +kernel
theorem dX2_canSend_9 : decode cX2_canSend 9 = .ok (.aload_n 0, 1) := by decide +kernel
theorem dX2_canSend_10 : decode cX2_canSend 10 = .ok (.iload_n 2, 1) := by decide +kernel
theorem dX2_canSend_11 : decode cX2_canSend 11 = .ok (.invokevirtual 81, 3) := by decide +kernel
theorem dX2_canSend_14 : decode cX2_canSend 14 = .ok (.ifCond .ne 7, 3) := by decide +kernel
theorem dX2_canSend_17 : decode cX2_canSend 17 = .ok (.iconst 1, 1) := by decide +kernel
theorem dX2_canSend_18 : decode cX2_canSend 18 = .ok (.goto 34, 3) := by decide +kernel
theorem dX2_canSend_21 : decode cX2_canSend 21 = .ok (.iload_n 1, 1) := by decide +kernel
theorem dX2_canSend_22 : decode cX2_canSend 22 = .ok (.iload_n 2, 1) := by decide +kernel
theorem dX2_canSend_23 : decode cX2_canSend 23 = .ok (.if_icmp .ne 7, 3) := by decide +kernel
theorem dX2_canSend_26 : decode cX2_canSend 26 = .ok (.iconst 2, 1) := by decide +kernel
theorem dX2_canSend_27 : decode cX2_canSend 27 = .ok (.goto 25, 3) := by decide +kernel
theorem dX2_canSend_30 : decode cX2_canSend 30 = .ok (.aload_n 0, 1) := by decide +kernel
theorem dX2_canSend_31 : decode cX2_canSend 31 = .ok (.getfield 16, 3) := by decide +kernel
theorem dX2_canSend_34 : decode cX2_canSend 34 = .ok (.sipush 148, 3) := by decide +kernel
theorem dX2_canSend_37 : decode cX2_canSend 37 = .ok (.iload_n 1, 1) := by decide +kernel
theorem dX2_canSend_38 : decode cX2_canSend 38 = .ok (.iload_n 2, 1) := by decide +kernel
theorem dX2_canSend_39 : decode cX2_canSend 39 = .ok (.invokestatic 56, 3) := by decide +kernel
theorem dX2_canSend_42 : decode cX2_canSend 42 = .ok (.iadd, 1) := by decide +kernel
theorem dX2_canSend_43 : decode cX2_canSend 43 = .ok (.iaload, 1) := by decide +kernel
theorem dX2_canSend_44 : decode cX2_canSend 44 = .ok (.ifCond .le 7, 3) := by decide +kernel
theorem dX2_canSend_47 : decode cX2_canSend 47 = .ok (.iconst 3, 1) := by decide +kernel
theorem dX2_canSend_48 : decode cX2_canSend 48 = .ok (.goto 4, 3) := by decide +kernel
theorem dX2_canSend_51 : decode cX2_canSend 51 = .ok (.iconst 0, 1) := by decide +kernel
theorem dX2_canSend_52 : decode cX2_canSend 52 = .ok (.putfield 26, 3) := by decide +kernel
theorem dX2_canSend_55 : decode cX2_canSend 55 = .ok (.aload_n 0, 1) := by decide +kernel
theorem dX2_canSend_56 : decode cX2_canSend 56 = .ok (.getfield 26, 3) := by decide +kernel
theorem dX2_canSend_59 : decode cX2_canSend 59 = .ok (.ifCond .ne 7, 3) := by decide +kernel
theorem dX2_canSend_62 : decode cX2_canSend 62 = .ok (.iconst 1, 1) := by decide +kernel
theorem dX2_canSend_63 : decode cX2_canSend 63 = .ok (.goto 4, 3) := by decide +kernel
theorem dX2_canSend_66 : decode cX2_canSend 66 = .ok (.iconst 0, 1) := by decide +kernel
theorem dX2_canSend_67 : decode cX2_canSend 67 = .ok (.ireturn, 1) := by decide +kernel
set_option maxRecDepth 20000 in
theorem ggX2_glance_X2_canSend : GoodIn wsX2_glance wsX2_canSend := goodIn_r _ [5, 6, 7, 8, 9, 10, 4, 11, 12, 13, 14, 15, 16, 17, 18, 34, 35, 36, 37, 38, 39, 40] (by decide +kernel) (by decide +kernel)
set_option maxRecDepth 20000 in
theorem gX2_glance_X2_canSend : GoodIn wsX2_glance (wsV RX2 88 RX2 yX2_canSend wsX2_canSend) := goodIn_app (goodIn_of _ (by decide +kernel)) ggX2_glance_X2_canSend
set_option maxRecDepth 20000 in
theorem ggX2_glance_X2_send : GoodIn wsX2_glance wsX2_send := goodIn_r _ [22, 6, 16, 17, 4, 18, 23, 24, 25, 26, 27, 28, 29, 30, 12, 31, 32, 33, 34, 35, 36, 37, 38, 39, 40] (by decide +kernel) (by decide +kernel)
set_option maxRecDepth 20000 in
theorem gX2_glance_X2_send : GoodIn wsX2_glance (wsV RX2 92 RX2 yX2_send wsX2_send) := goodIn_app (goodIn_of _ (by decide +kernel)) ggX2_glance_X2_send
theorem dX2_glance_0 : decode cX2_glance 0 = .ok (.aload_n 0, 1) := by decide +kernel
theorem dX2_glance_1 : decode cX2_glance 1 = .ok (.iload_n 1, 1) := by decide +kernel
theorem dX2_glance_2 : decode cX2_glance 2 = .ok (.iload_n 2, 1) := by decide +kernel
theorem dX2_glance_3 : decode cX2_glance 3 = .ok (.invokevirtual 88, 3) := by decide +kernel
theorem dX2_glance_6 : decode cX2_glance 6 = .ok (.ifCond .eq 12, 3) := by decide +kernel
theorem dX2_glance_9 : decode cX2_glance 9 = .ok (.aload_n 0, 1) := by decide +kernel
theorem dX2_glance_10 : decode cX2_glance 10 = .ok (.iload_n 1, 1) := by decide +kernel
theorem dX2_glance_11 : decode cX2_glance 11 = .ok (.iload_n 2, 1) := by decide +kernel
theorem dX2_glance_12 : decode cX2_glance 12 = .ok (.invokevirtual 92, 3) := by decide +kernel
theorem dX2_glance_15 : decode cX2_glance 15 = .ok (.goto 4, 3) := by decide +kernel
theorem dX2_glance_18 : decode cX2_glance 18 = .ok (.iconst 0, 1) := by decide +kernel
theorem dX2_glance_19 : decode cX2_glance 19 = .ok (.ireturn, 1) := by decide +kernel
set_option maxRecDepth 20000 in
theorem ggX2_pass_X2_isIn : GoodIn wsX2_pass wsX2_isIn := goodIn_r _ [5] (by decide +kernel) (by decide +kernel)
set_option maxRecDepth 20000 in
theorem gX2_pass_X2_isIn : GoodIn wsX2_pass (va_wsS RX2 29 yX2_isIn wsX2_isIn) := goodIn_app (goodIn_of _ (by decide +kernel)) ggX2_pass_X2_isIn
set_option maxRecDepth 20000 in
theorem ggX2_pass_X2_fail : GoodIn wsX2_pass wsX2_fail := goodIn_r _ [9, 1, 42, 43, 44, 45, 46, 47, 48] (by decide +kernel) (by decide +kernel)
set_option maxRecDepth 20000 in
theorem gX2_pass_X2_fail : GoodIn wsX2_pass (wsV RX2 75 RX2 yX2_fail wsX2_fail) := goodIn_app (goodIn_of _ (by decide +kernel)) ggX2_pass_X2_fail
set_option maxRecDepth 20000 in
theorem ggX2_pass_X2_unsaid : GoodIn wsX2_pass wsX2_unsaid := goodIn_r _ [13, 14, 15, 42, 43, 44, 45, 46, 47, 48] (by decide +kernel) (by decide +kernel)
set_option maxRecDepth 20000 in
theorem gX2_pass_X2_unsaid : GoodIn wsX2_pass (wsV RX2 49 RX2 yX2_unsaid wsX2_unsaid) := goodIn_app (goodIn_of _ (by decide +kernel)) ggX2_pass_X2_unsaid
set_option maxRecDepth 20000 in
theorem ggX2_pass_X2_secondsOn : GoodIn wsX2_pass wsX2_secondsOn := goodIn_r _ [19, 20, 21, 22, 4, 23, 14, 24, 25, 26, 27, 28, 29, 30, 31, 32, 33, 34, 35, 36, 37, 38, 39, 40, 41, 42, 43, 44, 45, 46, 47, 48] (by decide +kernel) (by decide +kernel)
set_option maxRecDepth 20000 in
theorem gX2_pass_X2_secondsOn : GoodIn wsX2_pass (wsV RX2 95 RX2 yX2_secondsOn wsX2_secondsOn) := goodIn_app (goodIn_of _ (by decide +kernel)) ggX2_pass_X2_secondsOn
theorem dX2_pass_0 : decode cX2_pass 0 = .ok (.aload_n 0, 1) := by decide +kernel
theorem dX2_pass_1 : decode cX2_pass 1 = .ok (.iconst 0, 1) := by decide +kernel
theorem dX2_pass_2 : decode cX2_pass 2 = .ok (.putfield 26, 3) := by decide +kernel
theorem dX2_pass_5 : decode cX2_pass 5 = .ok (.iload_n 1, 1) := by decide +kernel
theorem dX2_pass_6 : decode cX2_pass 6 = .ok (.iconst 1, 1) := by decide +kernel
theorem dX2_pass_7 : decode cX2_pass 7 = .ok (.bipush 120, 2) := by decide +kernel
theorem dX2_pass_9 : decode cX2_pass 9 = .ok (.invokestatic 29, 3) := by decide +kernel
theorem dX2_pass_12 : decode cX2_pass 12 = .ok (.ifCond .ne 9, 3) := by decide +kernel
theorem dX2_pass_15 : decode cX2_pass 15 = .ok (.aload_n 0, 1) := by decide +kernel
theorem dX2_pass_16 : decode cX2_pass 16 = .ok (.iconst 1, 1) := by decide +kernel
theorem dX2_pass_17 : decode cX2_pass 17 = .ok (.invokevirtual 75, 3) := by decide +kernel
theorem dX2_pass_20 : decode cX2_pass 20 = .ok (.ireturn, 1) := by decide +kernel
theorem dX2_pass_21 : decode cX2_pass 21 = .ok (.aload_n 0, 1) := by decide +kernel
theorem dX2_pass_22 : decode cX2_pass 22 = .ok (.invokevirtual 49, 3) := by decide +kernel
theorem dX2_pass_25 : decode cX2_pass 25 = .ok (.istore_n 2, 1) := by decide +kernel
theorem dX2_pass_26 : decode cX2_pass 26 = .ok (.aload_n 0, 1) := by decide +kernel
theorem dX2_pass_27 : decode cX2_pass 27 = .ok (.iload_n 1, 1) := by decide +kernel
theorem dX2_pass_28 : decode cX2_pass 28 = .ok (.invokevirtual 95, 3) := by decide +kernel
theorem dX2_pass_31 : decode cX2_pass 31 = .ok (.aload_n 0, 1) := by decide +kernel
theorem dX2_pass_32 : decode cX2_pass 32 = .ok (.invokevirtual 49, 3) := by decide +kernel
theorem dX2_pass_35 : decode cX2_pass 35 = .ok (.iload_n 2, 1) := by decide +kernel
theorem dX2_pass_36 : decode cX2_pass 36 = .ok (.isub, 1) := by decide +kernel
theorem dX2_pass_37 : decode cX2_pass 37 = .ok (.ireturn, 1) := by decide +kernel
set_option maxRecDepth 20000 in
theorem ggX2_guests_X2_told : GoodIn wsX2_guests wsX2_told := goodIn_r _ [6, 7, 8, 9, 10, 11, 12, 13, 14] (by decide +kernel) (by decide +kernel)
set_option maxRecDepth 20000 in
theorem gX2_guests_X2_told : GoodIn wsX2_guests (wsV RX2 99 RX2 yX2_told wsX2_told) := goodIn_app (goodIn_of _ (by decide +kernel)) ggX2_guests_X2_told
theorem dX2_guests_0 : decode cX2_guests 0 = .ok (.aload_n 0, 1) := by decide +kernel
theorem dX2_guests_1 : decode cX2_guests 1 = .ok (.aload_n 0, 1) := by decide +kernel
theorem dX2_guests_2 : decode cX2_guests 2 = .ok (.getfield 7, 3) := by decide +kernel
theorem dX2_guests_5 : decode cX2_guests 5 = .ok (.invokevirtual 99, 3) := by decide +kernel
theorem dX2_guests_8 : decode cX2_guests 8 = .ok (.ireturn, 1) := by decide +kernel
set_option maxRecDepth 20000 in
theorem ggX2_seconds_X2_told : GoodIn wsX2_seconds wsX2_told := goodIn_r _ [6, 7, 8, 9, 10, 11, 12, 13, 14] (by decide +kernel) (by decide +kernel)
set_option maxRecDepth 20000 in
theorem gX2_seconds_X2_told : GoodIn wsX2_seconds (wsV RX2 99 RX2 yX2_told wsX2_told) := goodIn_app (goodIn_of _ (by decide +kernel)) ggX2_seconds_X2_told
theorem dX2_seconds_0 : decode cX2_seconds 0 = .ok (.aload_n 0, 1) := by decide +kernel
theorem dX2_seconds_1 : decode cX2_seconds 1 = .ok (.aload_n 0, 1) := by decide +kernel
theorem dX2_seconds_2 : decode cX2_seconds 2 = .ok (.getfield 16, 3) := by decide +kernel
theorem dX2_seconds_5 : decode cX2_seconds 5 = .ok (.iconst 0, 1) := by decide +kernel
theorem dX2_seconds_6 : decode cX2_seconds 6 = .ok (.iaload, 1) := by decide +kernel
theorem dX2_seconds_7 : decode cX2_seconds 7 = .ok (.invokevirtual 99, 3) := by decide +kernel
theorem dX2_seconds_10 : decode cX2_seconds 10 = .ok (.ireturn, 1) := by decide +kernel
set_option maxRecDepth 20000 in
theorem ggX2_limit_X2_told : GoodIn wsX2_limit wsX2_told := goodIn_r _ [6, 7, 8, 9, 10, 11, 12, 13, 14] (by decide +kernel) (by decide +kernel)
set_option maxRecDepth 20000 in
theorem gX2_limit_X2_told : GoodIn wsX2_limit (wsV RX2 99 RX2 yX2_told wsX2_told) := goodIn_app (goodIn_of _ (by decide +kernel)) ggX2_limit_X2_told
theorem dX2_limit_0 : decode cX2_limit 0 = .ok (.aload_n 0, 1) := by decide +kernel
theorem dX2_limit_1 : decode cX2_limit 1 = .ok (.aload_n 0, 1) := by decide +kernel
theorem dX2_limit_2 : decode cX2_limit 2 = .ok (.getfield 13, 3) := by decide +kernel
theorem dX2_limit_5 : decode cX2_limit 5 = .ok (.invokevirtual 99, 3) := by decide +kernel
theorem dX2_limit_8 : decode cX2_limit 8 = .ok (.ireturn, 1) := by decide +kernel
set_option maxRecDepth 20000 in
theorem ggX2_seatsApart_X2_isGuest : GoodIn wsX2_seatsApart wsX2_isGuest := goodIn_r _ [6, 7, 8, 9, 5, 10, 26, 27, 28, 29, 30, 31, 32] (by decide +kernel) (by decide +kernel)
set_option maxRecDepth 20000 in
theorem gX2_seatsApart_X2_isGuest : GoodIn wsX2_seatsApart (wsV RX2 81 RX2 yX2_isGuest wsX2_isGuest) := goodIn_app (goodIn_of _ (by decide +kernel)) ggX2_seatsApart_X2_isGuest
set_option maxRecDepth 20000 in
theorem ggX2_seatsApart_X2_apart : GoodIn wsX2_seatsApart wsX2_apart := goodIn_r _ [14, 15, 16, 17, 18, 7, 19, 20, 21, 26, 27, 28, 29, 30, 31, 32] (by decide +kernel) (by decide +kernel)
set_option maxRecDepth 20000 in
theorem gX2_seatsApart_X2_apart : GoodIn wsX2_seatsApart (wsV RX2 85 RX2 yX2_apart wsX2_apart) := goodIn_app (goodIn_of _ (by decide +kernel)) ggX2_seatsApart_X2_apart
set_option maxRecDepth 20000 in
theorem ggX2_seatsApart_X2_fail : GoodIn wsX2_seatsApart wsX2_fail := goodIn_r _ [25, 1, 26, 27, 28, 29, 30, 31, 32] (by decide +kernel) (by decide +kernel)
set_option maxRecDepth 20000 in
theorem gX2_seatsApart_X2_fail : GoodIn wsX2_seatsApart (wsV RX2 75 RX2 yX2_fail wsX2_fail) := goodIn_app (goodIn_of _ (by decide +kernel)) ggX2_seatsApart_X2_fail
theorem dX2_seatsApart_0 : decode cX2_seatsApart 0 = .ok (.aload_n 0, 1) := by decide +kernel
theorem dX2_seatsApart_1 : decode cX2_seatsApart 1 = .ok (.iconst 0, 1) := by decide +kernel
theorem dX2_seatsApart_2 : decode cX2_seatsApart 2 = .ok (.putfield 26, 3) := by decide +kernel
theorem dX2_seatsApart_5 : decode cX2_seatsApart 5 = .ok (.aload_n 0, 1) := by decide +kernel
theorem dX2_seatsApart_6 : decode cX2_seatsApart 6 = .ok (.iload_n 1, 1) := by decide +kernel
theorem dX2_seatsApart_7 : decode cX2_seatsApart 7 = .ok (.invokevirtual 81, 3) := by decide +kernel
theorem dX2_seatsApart_10 : decode cX2_seatsApart 10 = .ok (.ifCond .eq 20, 3) := by decide +kernel
theorem dX2_seatsApart_13 : decode cX2_seatsApart 13 = .ok (.aload_n 0, 1) := by decide +kernel
theorem dX2_seatsApart_14 : decode cX2_seatsApart 14 = .ok (.iload_n 2, 1) := by decide +kernel
theorem dX2_seatsApart_15 : decode cX2_seatsApart 15 = .ok (.invokevirtual 81, 3) := by decide +kernel
theorem dX2_seatsApart_18 : decode cX2_seatsApart 18 = .ok (.ifCond .eq 12, 3) := by decide +kernel
theorem dX2_seatsApart_21 : decode cX2_seatsApart 21 = .ok (.aload_n 0, 1) := by decide +kernel
theorem dX2_seatsApart_22 : decode cX2_seatsApart 22 = .ok (.iload_n 1, 1) := by decide +kernel
theorem dX2_seatsApart_23 : decode cX2_seatsApart 23 = .ok (.iload_n 2, 1) := by decide +kernel
theorem dX2_seatsApart_24 : decode cX2_seatsApart 24 = .ok (.invokevirtual 85, 3) := by decide +kernel
theorem dX2_seatsApart_27 : decode cX2_seatsApart 27 = .ok (.goto 8, 3) := by decide +kernel
theorem dX2_seatsApart_30 : decode cX2_seatsApart 30 = .ok (.aload_n 0, 1) := by decide +kernel
theorem dX2_seatsApart_31 : decode cX2_seatsApart 31 = .ok (.iconst 1, 1) := by decide +kernel
theorem dX2_seatsApart_32 : decode cX2_seatsApart 32 = .ok (.invokevirtual 75, 3) := by decide +kernel
theorem dX2_seatsApart_35 : decode cX2_seatsApart 35 = .ok (.ireturn, 1) := by decide +kernel
set_option maxRecDepth 20000 in
theorem ggX2_speaker_X2_told : GoodIn wsX2_speaker wsX2_told := goodIn_r _ [6, 7, 8, 9, 10, 11, 12, 13, 14] (by decide +kernel) (by decide +kernel)
set_option maxRecDepth 20000 in
theorem gX2_speaker_X2_told : GoodIn wsX2_speaker (wsV RX2 99 RX2 yX2_told wsX2_told) := goodIn_app (goodIn_of _ (by decide +kernel)) ggX2_speaker_X2_told
theorem dX2_speaker_0 : decode cX2_speaker 0 = .ok (.aload_n 0, 1) := by decide +kernel
theorem dX2_speaker_1 : decode cX2_speaker 1 = .ok (.aload_n 0, 1) := by decide +kernel
theorem dX2_speaker_2 : decode cX2_speaker 2 = .ok (.getfield 16, 3) := by decide +kernel
theorem dX2_speaker_5 : decode cX2_speaker 5 = .ok (.iconst 1, 1) := by decide +kernel
theorem dX2_speaker_6 : decode cX2_speaker 6 = .ok (.iaload, 1) := by decide +kernel
theorem dX2_speaker_7 : decode cX2_speaker 7 = .ok (.invokevirtual 99, 3) := by decide +kernel
theorem dX2_speaker_10 : decode cX2_speaker 10 = .ok (.ireturn, 1) := by decide +kernel
theorem dX2_left_0 : decode cX2_left 0 = .ok (.aload_n 0, 1) := by decide +kernel
theorem dX2_left_1 : decode cX2_left 1 = .ok (.getfield 16, 3) := by decide +kernel
theorem dX2_left_4 : decode cX2_left 4 = .ok (.iconst 1, 1) := by decide +kernel
theorem dX2_left_5 : decode cX2_left 5 = .ok (.iaload, 1) := by decide +kernel
theorem dX2_left_6 : decode cX2_left 6 = .ok (.iconst (-1), 1) := by decide +kernel
theorem dX2_left_7 : decode cX2_left 7 = .ok (.if_icmp .ne 7, 3) := by decide +kernel
theorem dX2_left_10 : decode cX2_left 10 = .ok (.iconst 0, 1) := by decide +kernel
theorem dX2_left_11 : decode cX2_left 11 = .ok (.goto 9, 3) := by decide +kernel
theorem dX2_left_14 : decode cX2_left 14 = .ok (.aload_n 0, 1) := by decide +kernel
theorem dX2_left_15 : decode cX2_left 15 = .ok (.getfield 16, 3) := by decide +kernel
theorem dX2_left_18 : decode cX2_left 18 = .ok (.iconst 2, 1) := by decide +kernel
theorem dX2_left_19 : decode cX2_left 19 = .ok (.iaload, 1) := by decide +kernel
theorem dX2_left_20 : decode cX2_left 20 = .ok (.ireturn, 1) := by decide +kernel
set_option maxRecDepth 20000 in
theorem ggX2_secondsToSpeak_X2_left : GoodIn wsX2_secondsToSpeak wsX2_left := goodIn_r _ [5, 6, 12, 13, 14, 15, 16, 17, 18] (by decide +kernel) (by decide +kernel)
set_option maxRecDepth 20000 in
theorem gX2_secondsToSpeak_X2_left : GoodIn wsX2_secondsToSpeak (wsV RX2 102 RX2 yX2_left wsX2_left) := goodIn_app (goodIn_of _ (by decide +kernel)) ggX2_secondsToSpeak_X2_left
set_option maxRecDepth 20000 in
theorem ggX2_secondsToSpeak_X2_told : GoodIn wsX2_secondsToSpeak wsX2_told := goodIn_r _ [10, 11, 12, 13, 14, 15, 16, 17, 18] (by decide +kernel) (by decide +kernel)
set_option maxRecDepth 20000 in
theorem gX2_secondsToSpeak_X2_told : GoodIn wsX2_secondsToSpeak (wsV RX2 99 RX2 yX2_told wsX2_told) := goodIn_app (goodIn_of _ (by decide +kernel)) ggX2_secondsToSpeak_X2_told
theorem dX2_secondsToSpeak_0 : decode cX2_secondsToSpeak 0 = .ok (.aload_n 0, 1) := by decide +kernel
theorem dX2_secondsToSpeak_1 : decode cX2_secondsToSpeak 1 = .ok (.aload_n 0, 1) := by decide +kernel
theorem dX2_secondsToSpeak_2 : decode cX2_secondsToSpeak 2 = .ok (.invokevirtual 102, 3) := by decide +kernel
theorem dX2_secondsToSpeak_5 : decode cX2_secondsToSpeak 5 = .ok (.invokevirtual 99, 3) := by decide +kernel
theorem dX2_secondsToSpeak_8 : decode cX2_secondsToSpeak 8 = .ok (.ireturn, 1) := by decide +kernel
set_option maxRecDepth 20000 in
theorem ggX2_pause_X2_told : GoodIn wsX2_pause wsX2_told := goodIn_r _ [6, 7, 8, 9, 10, 11, 12, 13, 14] (by decide +kernel) (by decide +kernel)
set_option maxRecDepth 20000 in
theorem gX2_pause_X2_told : GoodIn wsX2_pause (wsV RX2 99 RX2 yX2_told wsX2_told) := goodIn_app (goodIn_of _ (by decide +kernel)) ggX2_pause_X2_told
theorem dX2_pause_0 : decode cX2_pause 0 = .ok (.aload_n 0, 1) := by decide +kernel
theorem dX2_pause_1 : decode cX2_pause 1 = .ok (.aload_n 0, 1) := by decide +kernel
theorem dX2_pause_2 : decode cX2_pause 2 = .ok (.getfield 16, 3) := by decide +kernel
theorem dX2_pause_5 : decode cX2_pause 5 = .ok (.iconst 3, 1) := by decide +kernel
theorem dX2_pause_6 : decode cX2_pause 6 = .ok (.iaload, 1) := by decide +kernel
theorem dX2_pause_7 : decode cX2_pause 7 = .ok (.invokevirtual 99, 3) := by decide +kernel
theorem dX2_pause_10 : decode cX2_pause 10 = .ok (.ireturn, 1) := by decide +kernel
set_option maxRecDepth 20000 in
theorem ggX2_guest_X2_isGuest : GoodIn wsX2_guest wsX2_isGuest := goodIn_r _ [7, 8, 9, 10, 6, 11, 16, 17, 18, 19, 20, 21, 22] (by decide +kernel) (by decide +kernel)
set_option maxRecDepth 20000 in
theorem gX2_guest_X2_isGuest : GoodIn wsX2_guest (wsV RX2 81 RX2 yX2_isGuest wsX2_isGuest) := goodIn_app (goodIn_of _ (by decide +kernel)) ggX2_guest_X2_isGuest
set_option maxRecDepth 20000 in
theorem ggX2_guest_X2_fail : GoodIn wsX2_guest wsX2_fail := goodIn_r _ [15, 1, 16, 17, 18, 19, 20, 21, 22] (by decide +kernel) (by decide +kernel)
set_option maxRecDepth 20000 in
theorem gX2_guest_X2_fail : GoodIn wsX2_guest (wsV RX2 75 RX2 yX2_fail wsX2_fail) := goodIn_app (goodIn_of _ (by decide +kernel)) ggX2_guest_X2_fail
theorem dX2_guest_0 : decode cX2_guest 0 = .ok (.aload_n 0, 1) := by decide +kernel
theorem dX2_guest_1 : decode cX2_guest 1 = .ok (.iconst 0, 1) := by decide +kernel
theorem dX2_guest_2 : decode cX2_guest 2 = .ok (.putfield 26, 3) := by decide +kernel
theorem dX2_guest_5 : decode cX2_guest 5 = .ok (.aload_n 0, 1) := by decide +kernel
theorem dX2_guest_6 : decode cX2_guest 6 = .ok (.iload_n 1, 1) := by decide +kernel
theorem dX2_guest_7 : decode cX2_guest 7 = .ok (.invokevirtual 81, 3) := by decide +kernel
theorem dX2_guest_10 : decode cX2_guest 10 = .ok (.ifCond .eq 14, 3) := by decide +kernel
theorem dX2_guest_13 : decode cX2_guest 13 = .ok (.aload_n 0, 1) := by decide +kernel
theorem dX2_guest_14 : decode cX2_guest 14 = .ok (.getfield 16, 3) := by decide +kernel
theorem dX2_guest_17 : decode cX2_guest 17 = .ok (.iload_n 2, 1) := by decide +kernel
theorem dX2_guest_18 : decode cX2_guest 18 = .ok (.iload_n 1, 1) := by decide +kernel
theorem dX2_guest_19 : decode cX2_guest 19 = .ok (.iadd, 1) := by decide +kernel
theorem dX2_guest_20 : decode cX2_guest 20 = .ok (.iaload, 1) := by decide +kernel
theorem dX2_guest_21 : decode cX2_guest 21 = .ok (.goto 8, 3) := by decide +kernel
theorem dX2_guest_24 : decode cX2_guest 24 = .ok (.aload_n 0, 1) := by decide +kernel
theorem dX2_guest_25 : decode cX2_guest 25 = .ok (.iconst 1, 1) := by decide +kernel
theorem dX2_guest_26 : decode cX2_guest 26 = .ok (.invokevirtual 75, 3) := by decide +kernel
theorem dX2_guest_29 : decode cX2_guest 29 = .ok (.ireturn, 1) := by decide +kernel
set_option maxRecDepth 20000 in
theorem ggX2_spokenBy_X2_guest : GoodIn wsX2_spokenBy wsX2_guest := goodIn_r _ [5, 6, 7, 8, 9, 10, 4, 11, 12, 13, 14, 15, 16, 17, 18, 19, 20, 21, 22, 23, 24, 25, 26] (by decide +kernel) (by decide +kernel)
set_option maxRecDepth 20000 in
theorem gX2_spokenBy_X2_guest : GoodIn wsX2_spokenBy (wsV RX2 105 RX2 yX2_guest wsX2_guest) := goodIn_app (goodIn_of _ (by decide +kernel)) ggX2_spokenBy_X2_guest
theorem dX2_spokenBy_0 : decode cX2_spokenBy 0 = .ok (.aload_n 0, 1) := by decide +kernel
theorem dX2_spokenBy_1 : decode cX2_spokenBy 1 = .ok (.iload_n 1, 1) := by decide +kernel
theorem dX2_spokenBy_2 : decode cX2_spokenBy 2 = .ok (.bipush 8, 2) := by decide +kernel
theorem dX2_spokenBy_4 : decode cX2_spokenBy 4 = .ok (.invokevirtual 105, 3) := by decide +kernel
theorem dX2_spokenBy_7 : decode cX2_spokenBy 7 = .ok (.ireturn, 1) := by decide +kernel
set_option maxRecDepth 20000 in
theorem ggX2_interruptionsBy_X2_guest : GoodIn wsX2_interruptionsBy wsX2_guest := goodIn_r _ [5, 6, 7, 8, 9, 10, 4, 11, 12, 13, 14, 15, 16, 17, 18, 19, 20, 21, 22, 23, 24, 25, 26] (by decide +kernel) (by decide +kernel)
set_option maxRecDepth 20000 in
theorem gX2_interruptionsBy_X2_guest : GoodIn wsX2_interruptionsBy (wsV RX2 105 RX2 yX2_guest wsX2_guest) := goodIn_app (goodIn_of _ (by decide +kernel)) ggX2_interruptionsBy_X2_guest
theorem dX2_interruptionsBy_0 : decode cX2_interruptionsBy 0 = .ok (.aload_n 0, 1) := by decide +kernel
theorem dX2_interruptionsBy_1 : decode cX2_interruptionsBy 1 = .ok (.iload_n 1, 1) := by decide +kernel
theorem dX2_interruptionsBy_2 : decode cX2_interruptionsBy 2 = .ok (.bipush 18, 2) := by decide +kernel
theorem dX2_interruptionsBy_4 : decode cX2_interruptionsBy 4 = .ok (.invokevirtual 105, 3) := by decide +kernel
theorem dX2_interruptionsBy_7 : decode cX2_interruptionsBy 7 = .ok (.ireturn, 1) := by decide +kernel
set_option maxRecDepth 20000 in
theorem ggX2_coughsOf_X2_guest : GoodIn wsX2_coughsOf wsX2_guest := goodIn_r _ [5, 6, 7, 8, 9, 10, 4, 11, 12, 13, 14, 15, 16, 17, 18, 19, 20, 21, 22, 23, 24, 25, 26] (by decide +kernel) (by decide +kernel)
set_option maxRecDepth 20000 in
theorem gX2_coughsOf_X2_guest : GoodIn wsX2_coughsOf (wsV RX2 105 RX2 yX2_guest wsX2_guest) := goodIn_app (goodIn_of _ (by decide +kernel)) ggX2_coughsOf_X2_guest
theorem dX2_coughsOf_0 : decode cX2_coughsOf 0 = .ok (.aload_n 0, 1) := by decide +kernel
theorem dX2_coughsOf_1 : decode cX2_coughsOf 1 = .ok (.iload_n 1, 1) := by decide +kernel
theorem dX2_coughsOf_2 : decode cX2_coughsOf 2 = .ok (.bipush 28, 2) := by decide +kernel
theorem dX2_coughsOf_4 : decode cX2_coughsOf 4 = .ok (.invokevirtual 105, 3) := by decide +kernel
theorem dX2_coughsOf_7 : decode cX2_coughsOf 7 = .ok (.ireturn, 1) := by decide +kernel
set_option maxRecDepth 20000 in
theorem ggX2_unsaidBy_X2_guest : GoodIn wsX2_unsaidBy wsX2_guest := goodIn_r _ [5, 6, 7, 8, 9, 10, 4, 11, 12, 13, 14, 15, 16, 17, 18, 19, 20, 21, 22, 23, 24, 25, 26] (by decide +kernel) (by decide +kernel)
set_option maxRecDepth 20000 in
theorem gX2_unsaidBy_X2_guest : GoodIn wsX2_unsaidBy (wsV RX2 105 RX2 yX2_guest wsX2_guest) := goodIn_app (goodIn_of _ (by decide +kernel)) ggX2_unsaidBy_X2_guest
theorem dX2_unsaidBy_0 : decode cX2_unsaidBy 0 = .ok (.aload_n 0, 1) := by decide +kernel
theorem dX2_unsaidBy_1 : decode cX2_unsaidBy 1 = .ok (.iload_n 1, 1) := by decide +kernel
theorem dX2_unsaidBy_2 : decode cX2_unsaidBy 2 = .ok (.bipush 38, 2) := by decide +kernel
theorem dX2_unsaidBy_4 : decode cX2_unsaidBy 4 = .ok (.invokevirtual 105, 3) := by decide +kernel
theorem dX2_unsaidBy_7 : decode cX2_unsaidBy 7 = .ok (.ireturn, 1) := by decide +kernel
set_option maxRecDepth 20000 in
theorem ggX2_flight_X2_isGuest : GoodIn wsX2_flight wsX2_isGuest := goodIn_r _ [7, 8, 9, 10, 6, 11, 19, 20, 21, 22, 23, 24, 25] (by decide +kernel) (by decide +kernel)
set_option maxRecDepth 20000 in
theorem gX2_flight_X2_isGuest : GoodIn wsX2_flight (wsV RX2 81 RX2 yX2_isGuest wsX2_isGuest) := goodIn_app (goodIn_of _ (by decide +kernel)) ggX2_flight_X2_isGuest
set_option maxRecDepth 20000 in
theorem ggX2_flight_X2_pair : GoodIn wsX2_flight wsX2_pair := goodIn_r _ [14] (by decide +kernel) (by decide +kernel)
set_option maxRecDepth 20000 in
theorem gX2_flight_X2_pair : GoodIn wsX2_flight (va_wsS RX2 56 yX2_pair wsX2_pair) := goodIn_app (goodIn_of _ (by decide +kernel)) ggX2_flight_X2_pair
set_option maxRecDepth 20000 in
theorem ggX2_flight_X2_fail : GoodIn wsX2_flight wsX2_fail := goodIn_r _ [18, 1, 19, 20, 21, 22, 23, 24, 25] (by decide +kernel) (by decide +kernel)
set_option maxRecDepth 20000 in
theorem gX2_flight_X2_fail : GoodIn wsX2_flight (wsV RX2 75 RX2 yX2_fail wsX2_fail) := goodIn_app (goodIn_of _ (by decide +kernel)) ggX2_flight_X2_fail
theorem dX2_flight_0 : decode cX2_flight 0 = .ok (.aload_n 0, 1) := by decide +kernel
theorem dX2_flight_1 : decode cX2_flight 1 = .ok (.iconst 0, 1) := by decide +kernel
theorem dX2_flight_2 : decode cX2_flight 2 = .ok (.putfield 26, 3) := by decide +kernel
theorem dX2_flight_5 : decode cX2_flight 5 = .ok (.aload_n 0, 1) := by decide +kernel
theorem dX2_flight_6 : decode cX2_flight 6 = .ok (.iload_n 1, 1) := by decide +kernel
theorem dX2_flight_7 : decode cX2_flight 7 = .ok (.invokevirtual 81, 3) := by decide +kernel
theorem dX2_flight_10 : decode cX2_flight 10 = .ok (.ifCond .eq 26, 3) := by decide +kernel
theorem dX2_flight_13 : decode cX2_flight 13 = .ok (.aload_n 0, 1) := by decide +kernel
theorem dX2_flight_14 : decode cX2_flight 14 = .ok (.iload_n 2, 1) := by decide +kernel
theorem dX2_flight_15 : decode cX2_flight 15 = .ok (.invokevirtual 81, 3) := by decide +kernel
theorem dX2_flight_18 : decode cX2_flight 18 = .ok (.ifCond .eq 18, 3) := by decide +kernel
theorem dX2_flight_21 : decode cX2_flight 21 = .ok (.aload_n 0, 1) := by decide +kernel
theorem dX2_flight_22 : decode cX2_flight 22 = .ok (.getfield 16, 3) := by decide +kernel
theorem dX2_flight_25 : decode cX2_flight 25 = .ok (.iload_n 3, 1) := by decide +kernel
theorem dX2_flight_26 : decode cX2_flight 26 = .ok (.iload_n 1, 1) := by decide +kernel
theorem dX2_flight_27 : decode cX2_flight 27 = .ok (.iload_n 2, 1) := by decide +kernel
theorem dX2_flight_28 : decode cX2_flight 28 = .ok (.invokestatic 56, 3) := by decide +kernel
theorem dX2_flight_31 : decode cX2_flight 31 = .ok (.iadd, 1) := by decide +kernel
theorem dX2_flight_32 : decode cX2_flight 32 = .ok (.iaload, 1) := by decide +kernel
theorem dX2_flight_33 : decode cX2_flight 33 = .ok (.goto 8, 3) := by decide +kernel
theorem dX2_flight_36 : decode cX2_flight 36 = .ok (.aload_n 0, 1) := by decide +kernel
theorem dX2_flight_37 : decode cX2_flight 37 = .ok (.iconst 1, 1) := by decide +kernel
theorem dX2_flight_38 : decode cX2_flight 38 = .ok (.invokevirtual 75, 3) := by decide +kernel
theorem dX2_flight_41 : decode cX2_flight 41 = .ok (.ireturn, 1) := by decide +kernel
set_option maxRecDepth 20000 in
theorem ggX2_isUnderWay_X2_flight : GoodIn wsX2_isUnderWay wsX2_flight := goodIn_r _ [5, 6, 7, 8, 9, 10, 4, 11, 12, 13, 14, 15, 16, 17, 18, 19, 20, 21, 22, 23, 24, 25, 26, 27, 28, 29] (by decide +kernel) (by decide +kernel)
set_option maxRecDepth 20000 in
theorem gX2_isUnderWay_X2_flight : GoodIn wsX2_isUnderWay (wsV RX2 108 RX2 yX2_flight wsX2_flight) := goodIn_app (goodIn_of _ (by decide +kernel)) ggX2_isUnderWay_X2_flight
theorem dX2_isUnderWay_0 : decode cX2_isUnderWay 0 = .ok (.aload_n 0, 1) := by decide +kernel
theorem dX2_isUnderWay_1 : decode cX2_isUnderWay 1 = .ok (.iload_n 1, 1) := by decide +kernel
theorem dX2_isUnderWay_2 : decode cX2_isUnderWay 2 = .ok (.iload_n 2, 1) := by decide +kernel
theorem dX2_isUnderWay_3 : decode cX2_isUnderWay 3 = .ok (.sipush 148, 3) := by decide +kernel
theorem dX2_isUnderWay_6 : decode cX2_isUnderWay 6 = .ok (.invokevirtual 108, 3) := by decide +kernel
theorem dX2_isUnderWay_9 : decode cX2_isUnderWay 9 = .ok (.ifCond .le 7, 3) := by decide +kernel
theorem dX2_isUnderWay_12 : decode cX2_isUnderWay 12 = .ok (.iconst 1, 1) := by decide +kernel
theorem dX2_isUnderWay_13 : decode cX2_isUnderWay 13 = .ok (.goto 4, 3) := by decide +kernel
theorem dX2_isUnderWay_16 : decode cX2_isUnderWay 16 = .ok (.iconst 0, 1) := by decide +kernel
theorem dX2_isUnderWay_17 : decode cX2_isUnderWay 17 = .ok (.ireturn, 1) := by decide +kernel
set_option maxRecDepth 20000 in
theorem ggX2_secondsToGo_X2_flight : GoodIn wsX2_secondsToGo wsX2_flight := goodIn_r _ [5, 6, 7, 8, 9, 10, 4, 11, 12, 13, 14, 15, 16, 17, 18, 19, 20, 21, 22, 23, 24, 25, 26, 27, 28, 29] (by decide +kernel) (by decide +kernel)
set_option maxRecDepth 20000 in
theorem gX2_secondsToGo_X2_flight : GoodIn wsX2_secondsToGo (wsV RX2 108 RX2 yX2_flight wsX2_flight) := goodIn_app (goodIn_of _ (by decide +kernel)) ggX2_secondsToGo_X2_flight
theorem dX2_secondsToGo_0 : decode cX2_secondsToGo 0 = .ok (.aload_n 0, 1) := by decide +kernel
theorem dX2_secondsToGo_1 : decode cX2_secondsToGo 1 = .ok (.iload_n 1, 1) := by decide +kernel
theorem dX2_secondsToGo_2 : decode cX2_secondsToGo 2 = .ok (.iload_n 2, 1) := by decide +kernel
theorem dX2_secondsToGo_3 : decode cX2_secondsToGo 3 = .ok (.bipush 48, 2) := by decide +kernel
theorem dX2_secondsToGo_5 : decode cX2_secondsToGo 5 = .ok (.invokevirtual 108, 3) := by decide +kernel
theorem dX2_secondsToGo_8 : decode cX2_secondsToGo 8 = .ok (.ireturn, 1) := by decide +kernel
set_option maxRecDepth 20000 in
theorem ggX2_caughtBy_X2_flight : GoodIn wsX2_caughtBy wsX2_flight := goodIn_r _ [5, 6, 7, 8, 9, 10, 4, 11, 12, 13, 14, 15, 16, 17, 18, 19, 20, 21, 22, 23, 24, 25, 26, 27, 28, 29] (by decide +kernel) (by decide +kernel)
set_option maxRecDepth 20000 in
theorem gX2_caughtBy_X2_flight : GoodIn wsX2_caughtBy (wsV RX2 108 RX2 yX2_flight wsX2_flight) := goodIn_app (goodIn_of _ (by decide +kernel)) ggX2_caughtBy_X2_flight
theorem dX2_caughtBy_0 : decode cX2_caughtBy 0 = .ok (.aload_n 0, 1) := by decide +kernel
theorem dX2_caughtBy_1 : decode cX2_caughtBy 1 = .ok (.iload_n 1, 1) := by decide +kernel
theorem dX2_caughtBy_2 : decode cX2_caughtBy 2 = .ok (.iload_n 2, 1) := by decide +kernel
theorem dX2_caughtBy_3 : decode cX2_caughtBy 3 = .ok (.sipush 248, 3) := by decide +kernel
theorem dX2_caughtBy_6 : decode cX2_caughtBy 6 = .ok (.invokevirtual 108, 3) := by decide +kernel
theorem dX2_caughtBy_9 : decode cX2_caughtBy 9 = .ok (.ireturn, 1) := by decide +kernel
set_option maxRecDepth 20000 in
theorem ggX2_unsaidInPauses_X2_told : GoodIn wsX2_unsaidInPauses wsX2_told := goodIn_r _ [6, 7, 8, 9, 10, 11, 12, 13, 14] (by decide +kernel) (by decide +kernel)
set_option maxRecDepth 20000 in
theorem gX2_unsaidInPauses_X2_told : GoodIn wsX2_unsaidInPauses (wsV RX2 99 RX2 yX2_told wsX2_told) := goodIn_app (goodIn_of _ (by decide +kernel)) ggX2_unsaidInPauses_X2_told
theorem dX2_unsaidInPauses_0 : decode cX2_unsaidInPauses 0 = .ok (.aload_n 0, 1) := by decide +kernel
theorem dX2_unsaidInPauses_1 : decode cX2_unsaidInPauses 1 = .ok (.aload_n 0, 1) := by decide +kernel
theorem dX2_unsaidInPauses_2 : decode cX2_unsaidInPauses 2 = .ok (.getfield 16, 3) := by decide +kernel
theorem dX2_unsaidInPauses_5 : decode cX2_unsaidInPauses 5 = .ok (.iconst 4, 1) := by decide +kernel
theorem dX2_unsaidInPauses_6 : decode cX2_unsaidInPauses 6 = .ok (.iaload, 1) := by decide +kernel
theorem dX2_unsaidInPauses_7 : decode cX2_unsaidInPauses 7 = .ok (.invokevirtual 99, 3) := by decide +kernel
theorem dX2_unsaidInPauses_10 : decode cX2_unsaidInPauses 10 = .ok (.ireturn, 1) := by decide +kernel
set_option maxRecDepth 20000 in
theorem ggX2_allUnsaid_X2_unsaid : GoodIn wsX2_allUnsaid wsX2_unsaid := goodIn_r _ [5, 6, 7, 13, 14, 15, 16, 17, 18, 19] (by decide +kernel) (by decide +kernel)
set_option maxRecDepth 20000 in
theorem gX2_allUnsaid_X2_unsaid : GoodIn wsX2_allUnsaid (wsV RX2 49 RX2 yX2_unsaid wsX2_unsaid) := goodIn_app (goodIn_of _ (by decide +kernel)) ggX2_allUnsaid_X2_unsaid
set_option maxRecDepth 20000 in
theorem ggX2_allUnsaid_X2_told : GoodIn wsX2_allUnsaid wsX2_told := goodIn_r _ [11, 12, 13, 14, 15, 16, 17, 18, 19] (by decide +kernel) (by decide +kernel)
set_option maxRecDepth 20000 in
theorem gX2_allUnsaid_X2_told : GoodIn wsX2_allUnsaid (wsV RX2 99 RX2 yX2_told wsX2_told) := goodIn_app (goodIn_of _ (by decide +kernel)) ggX2_allUnsaid_X2_told
theorem dX2_allUnsaid_0 : decode cX2_allUnsaid 0 = .ok (.aload_n 0, 1) := by decide +kernel
theorem dX2_allUnsaid_1 : decode cX2_allUnsaid 1 = .ok (.aload_n 0, 1) := by decide +kernel
theorem dX2_allUnsaid_2 : decode cX2_allUnsaid 2 = .ok (.invokevirtual 49, 3) := by decide +kernel
theorem dX2_allUnsaid_5 : decode cX2_allUnsaid 5 = .ok (.invokevirtual 99, 3) := by decide +kernel
theorem dX2_allUnsaid_8 : decode cX2_allUnsaid 8 = .ok (.ireturn, 1) := by decide +kernel
theorem dX2_underWay_0 : decode cX2_underWay 0 = .ok (.iconst 0, 1) := by decide +kernel
theorem dX2_underWay_1 : decode cX2_underWay 1 = .ok (.istore_n 1, 1) := by decide +kernel
theorem dX2_underWay_2 : decode cX2_underWay 2 = .ok (.iconst 0, 1) := by decide +kernel
theorem dX2_underWay_3 : decode cX2_underWay 3 = .ok (.istore_n 2, 1) := by decide +kernel
theorem dX2_underWay_4 : decode cX2_underWay 4 = .ok (.iload_n 2, 1) := by decide +kernel
theorem dX2_underWay_5 : decode cX2_underWay 5 = .ok (.bipush 100, 2) := by decide +kernel
theorem dX2_underWay_7 : decode cX2_underWay 7 = .ok (.if_icmp .ge 30, 3) := by decide +kernel
theorem dX2_underWay_10 : decode cX2_underWay 10 = .ok (.iload_n 1, 1) := by decide +kernel
theorem dX2_underWay_11 : decode cX2_underWay 11 = .ok (.aload_n 0, 1) := by decide +kernel
theorem dX2_underWay_12 : decode cX2_underWay 12 = .ok (.getfield 16, 3) := by decide +kernel
theorem dX2_underWay_15 : decode cX2_underWay 15 = .ok (.sipush 148, 3) := by decide +kernel
theorem dX2_underWay_18 : decode cX2_underWay 18 = .ok (.iload_n 2, 1) := by decide +kernel
theorem dX2_underWay_19 : decode cX2_underWay 19 = .ok (.iadd, 1) := by decide +kernel
theorem dX2_underWay_20 : decode cX2_underWay 20 = .ok (.iaload, 1) := by decide +kernel
theorem dX2_underWay_21 : decode cX2_underWay 21 = .ok (.ifCond .le 7, 3) := by decide +kernel
theorem dX2_underWay_24 : decode cX2_underWay 24 = .ok (.iconst 1, 1) := by decide +kernel
theorem dX2_underWay_25 : decode cX2_underWay 25 = .ok (.goto 4, 3) := by decide +kernel
theorem dX2_underWay_28 : decode cX2_underWay 28 = .ok (.iconst 0, 1) := by decide +kernel
theorem dX2_underWay_29 : decode cX2_underWay 29 = .ok (.iadd, 1) := by decide +kernel
theorem dX2_underWay_30 : decode cX2_underWay 30 = .ok (.istore_n 1, 1) := by decide +kernel
theorem dX2_underWay_31 : decode cX2_underWay 31 = .ok (.iinc 2 1, 3) := by decide +kernel
theorem dX2_underWay_34 : decode cX2_underWay 34 = .ok (.goto (-30), 3) := by decide +kernel
theorem dX2_underWay_37 : decode cX2_underWay 37 = .ok (.iload_n 1, 1) := by decide +kernel
theorem dX2_underWay_38 : decode cX2_underWay 38 = .ok (.ireturn, 1) := by decide +kernel
set_option maxRecDepth 20000 in
theorem ggX2_glancesUnderWay_X2_underWay : GoodIn wsX2_glancesUnderWay wsX2_underWay := goodIn_r _ [5, 6, 12, 13, 14, 15, 16, 17, 18] (by decide +kernel) (by decide +kernel)
set_option maxRecDepth 20000 in
theorem gX2_glancesUnderWay_X2_underWay : GoodIn wsX2_glancesUnderWay (wsV RX2 112 RX2 yX2_underWay wsX2_underWay) := goodIn_app (goodIn_of _ (by decide +kernel)) ggX2_glancesUnderWay_X2_underWay
set_option maxRecDepth 20000 in
theorem ggX2_glancesUnderWay_X2_told : GoodIn wsX2_glancesUnderWay wsX2_told := goodIn_r _ [10, 11, 12, 13, 14, 15, 16, 17, 18] (by decide +kernel) (by decide +kernel)
set_option maxRecDepth 20000 in
theorem gX2_glancesUnderWay_X2_told : GoodIn wsX2_glancesUnderWay (wsV RX2 99 RX2 yX2_told wsX2_told) := goodIn_app (goodIn_of _ (by decide +kernel)) ggX2_glancesUnderWay_X2_told
theorem dX2_glancesUnderWay_0 : decode cX2_glancesUnderWay 0 = .ok (.aload_n 0, 1) := by decide +kernel
theorem dX2_glancesUnderWay_1 : decode cX2_glancesUnderWay 1 = .ok (.aload_n 0, 1) := by decide +kernel
theorem dX2_glancesUnderWay_2 : decode cX2_glancesUnderWay 2 = .ok (.invokevirtual 112, 3) := by decide +kernel
theorem dX2_glancesUnderWay_5 : decode cX2_glancesUnderWay 5 = .ok (.invokevirtual 99, 3) := by decide +kernel
theorem dX2_glancesUnderWay_8 : decode cX2_glancesUnderWay 8 = .ok (.ireturn, 1) := by decide +kernel
set_option maxRecDepth 20000 in
theorem ggX2_meetings_X2_told : GoodIn wsX2_meetings wsX2_told := goodIn_r _ [6, 7, 8, 9, 10, 11, 12, 13, 14] (by decide +kernel) (by decide +kernel)
set_option maxRecDepth 20000 in
theorem gX2_meetings_X2_told : GoodIn wsX2_meetings (wsV RX2 99 RX2 yX2_told wsX2_told) := goodIn_app (goodIn_of _ (by decide +kernel)) ggX2_meetings_X2_told
theorem dX2_meetings_0 : decode cX2_meetings 0 = .ok (.aload_n 0, 1) := by decide +kernel
theorem dX2_meetings_1 : decode cX2_meetings 1 = .ok (.aload_n 0, 1) := by decide +kernel
theorem dX2_meetings_2 : decode cX2_meetings 2 = .ok (.getfield 16, 3) := by decide +kernel
theorem dX2_meetings_5 : decode cX2_meetings 5 = .ok (.iconst 5, 1) := by decide +kernel
theorem dX2_meetings_6 : decode cX2_meetings 6 = .ok (.iaload, 1) := by decide +kernel
theorem dX2_meetings_7 : decode cX2_meetings 7 = .ok (.invokevirtual 99, 3) := by decide +kernel
theorem dX2_meetings_10 : decode cX2_meetings 10 = .ok (.ireturn, 1) := by decide +kernel
set_option maxRecDepth 20000 in
theorem ggX2_lostGlances_X2_told : GoodIn wsX2_lostGlances wsX2_told := goodIn_r _ [6, 7, 8, 9, 10, 11, 12, 13, 14] (by decide +kernel) (by decide +kernel)
set_option maxRecDepth 20000 in
theorem gX2_lostGlances_X2_told : GoodIn wsX2_lostGlances (wsV RX2 99 RX2 yX2_told wsX2_told) := goodIn_app (goodIn_of _ (by decide +kernel)) ggX2_lostGlances_X2_told
theorem dX2_lostGlances_0 : decode cX2_lostGlances 0 = .ok (.aload_n 0, 1) := by decide +kernel
theorem dX2_lostGlances_1 : decode cX2_lostGlances 1 = .ok (.aload_n 0, 1) := by decide +kernel
theorem dX2_lostGlances_2 : decode cX2_lostGlances 2 = .ok (.getfield 16, 3) := by decide +kernel
theorem dX2_lostGlances_5 : decode cX2_lostGlances 5 = .ok (.bipush 6, 2) := by decide +kernel
theorem dX2_lostGlances_7 : decode cX2_lostGlances 7 = .ok (.iaload, 1) := by decide +kernel
theorem dX2_lostGlances_8 : decode cX2_lostGlances 8 = .ok (.invokevirtual 99, 3) := by decide +kernel
theorem dX2_lostGlances_11 : decode cX2_lostGlances 11 = .ok (.ireturn, 1) := by decide +kernel
theorem dX2_quietest_0 : decode cX2_quietest 0 = .ok (.aload_n 0, 1) := by decide +kernel
theorem dX2_quietest_1 : decode cX2_quietest 1 = .ok (.iconst 0, 1) := by decide +kernel
theorem dX2_quietest_2 : decode cX2_quietest 2 = .ok (.putfield 26, 3) := by decide +kernel
theorem dX2_quietest_5 : decode cX2_quietest 5 = .ok (.iconst 0, 1) := by decide +kernel
theorem dX2_quietest_6 : decode cX2_quietest 6 = .ok (.istore_n 1, 1) := by decide +kernel
theorem dX2_quietest_7 : decode cX2_quietest 7 = .ok (.iconst 1, 1) := by decide +kernel
theorem dX2_quietest_8 : decode cX2_quietest 8 = .ok (.istore_n 2, 1) := by decide +kernel
theorem dX2_quietest_9 : decode cX2_quietest 9 = .ok (.iload_n 2, 1) := by decide +kernel
theorem dX2_quietest_10 : decode cX2_quietest 10 = .ok (.aload_n 0, 1) := by decide +kernel
theorem dX2_quietest_11 : decode cX2_quietest 11 = .ok (.getfield 7, 3) := by decide +kernel
theorem dX2_quietest_14 : decode cX2_quietest 14 = .ok (.if_icmp .ge 32, 3) := by decide +kernel
theorem dX2_quietest_17 : decode cX2_quietest 17 = .ok (.aload_n 0, 1) := by decide +kernel
theorem dX2_quietest_18 : decode cX2_quietest 18 = .ok (.getfield 16, 3) := by decide +kernel
theorem dX2_quietest_21 : decode cX2_quietest 21 = .ok (.bipush 38, 2) := by decide +kernel
theorem dX2_quietest_23 : decode cX2_quietest 23 = .ok (.iload_n 2, 1) := by decide +kernel
theorem dX2_quietest_24 : decode cX2_quietest 24 = .ok (.iadd, 1) := by decide +kernel
theorem dX2_quietest_25 : decode cX2_quietest 25 = .ok (.iaload, 1) := by decide +kernel
theorem dX2_quietest_26 : decode cX2_quietest 26 = .ok (.aload_n 0, 1) := by decide +kernel
theorem dX2_quietest_27 : decode cX2_quietest 27 = .ok (.getfield 16, 3) := by decide +kernel
theorem dX2_quietest_30 : decode cX2_quietest 30 = .ok (.bipush 38, 2) := by decide +kernel
theorem dX2_quietest_32 : decode cX2_quietest 32 = .ok (.iload_n 1, 1) := by decide +kernel
theorem dX2_quietest_33 : decode cX2_quietest 33 = .ok (.iadd, 1) := by decide +kernel
theorem dX2_quietest_34 : decode cX2_quietest 34 = .ok (.iaload, 1) := by decide +kernel
theorem dX2_quietest_35 : decode cX2_quietest 35 = .ok (.if_icmp .le 5, 3) := by decide +kernel
theorem dX2_quietest_38 : decode cX2_quietest 38 = .ok (.iload_n 2, 1) := by decide +kernel
theorem dX2_quietest_39 : decode cX2_quietest 39 = .ok (.istore_n 1, 1) := by decide +kernel
theorem dX2_quietest_40 : decode cX2_quietest 40 = .ok (.iinc 2 1, 3) := by decide +kernel
theorem dX2_quietest_43 : decode cX2_quietest 43 = .ok (.goto (-34), 3) := by decide +kernel
theorem dX2_quietest_46 : decode cX2_quietest 46 = .ok (.iload_n 1, 1) := by decide +kernel
theorem dX2_quietest_47 : decode cX2_quietest 47 = .ok (.ireturn, 1) := by decide +kernel
set_option maxRecDepth 20000 in
theorem ggX2_rating_X2_rated : GoodIn wsX2_rating wsX2_rated := goodIn_r _ [5, 6, 7, 8, 9, 10, 11, 12, 13, 14, 15, 16, 4, 17, 18, 24, 25, 26, 27, 28, 29, 30] (by decide +kernel) (by decide +kernel)
set_option maxRecDepth 20000 in
theorem gX2_rating_X2_rated : GoodIn wsX2_rating (wsV RX2 78 RX2 yX2_rated wsX2_rated) := goodIn_app (goodIn_of _ (by decide +kernel)) ggX2_rating_X2_rated
set_option maxRecDepth 20000 in
theorem ggX2_rating_X2_told : GoodIn wsX2_rating wsX2_told := goodIn_r _ [22, 23, 24, 25, 26, 27, 28, 29, 30] (by decide +kernel) (by decide +kernel)
set_option maxRecDepth 20000 in
theorem gX2_rating_X2_told : GoodIn wsX2_rating (wsV RX2 99 RX2 yX2_told wsX2_told) := goodIn_app (goodIn_of _ (by decide +kernel)) ggX2_rating_X2_told
theorem dX2_rating_0 : decode cX2_rating 0 = .ok (.aload_n 0, 1) := by decide +kernel
theorem dX2_rating_1 : decode cX2_rating 1 = .ok (.aload_n 0, 1) := by decide +kernel
theorem dX2_rating_2 : decode cX2_rating 2 = .ok (.invokevirtual 78, 3) := by decide +kernel
theorem dX2_rating_5 : decode cX2_rating 5 = .ok (.invokevirtual 99, 3) := by decide +kernel
theorem dX2_rating_8 : decode cX2_rating 8 = .ok (.ireturn, 1) := by decide +kernel
set_option maxRecDepth 20000 in
theorem ggX2_allUnsaidIn_X2_isIn : GoodIn wsX2_allUnsaidIn wsX2_isIn := goodIn_r _ [5] (by decide +kernel) (by decide +kernel)
set_option maxRecDepth 20000 in
theorem gX2_allUnsaidIn_X2_isIn : GoodIn wsX2_allUnsaidIn (va_wsS RX2 29 yX2_isIn wsX2_isIn) := goodIn_app (goodIn_of _ (by decide +kernel)) ggX2_allUnsaidIn_X2_isIn
set_option maxRecDepth 20000 in
theorem ggX2_allUnsaidIn_X2_fail : GoodIn wsX2_allUnsaidIn wsX2_fail := goodIn_r _ [9, 1, 55, 56, 57, 58, 59, 60, 61] (by decide +kernel) (by decide +kernel)
set_option maxRecDepth 20000 in
theorem gX2_allUnsaidIn_X2_fail : GoodIn wsX2_allUnsaidIn (wsV RX2 75 RX2 yX2_fail wsX2_fail) := goodIn_app (goodIn_of _ (by decide +kernel)) ggX2_allUnsaidIn_X2_fail
set_option maxRecDepth 20000 in
theorem ggX2_allUnsaidIn_X2_keep : GoodIn wsX2_allUnsaidIn wsX2_keep := goodIn_r _ [13, 14, 15, 16, 17, 18, 19, 55, 56, 57, 58, 59, 60, 61] (by decide +kernel) (by decide +kernel)
set_option maxRecDepth 20000 in
theorem gX2_allUnsaidIn_X2_keep : GoodIn wsX2_allUnsaidIn (wsV RX2 115 RX2 yX2_keep wsX2_keep) := goodIn_app (goodIn_of _ (by decide +kernel)) ggX2_allUnsaidIn_X2_keep
set_option maxRecDepth 20000 in
theorem ggX2_allUnsaidIn_X2_secondsOn : GoodIn wsX2_allUnsaidIn wsX2_secondsOn := goodIn_r _ [23, 24, 25, 26, 4, 27, 14, 28, 29, 30, 31, 32, 33, 34, 35, 36, 37, 38, 39, 40, 41, 42, 43, 44, 45, 55, 56, 57, 58, 59, 60, 61] (by decide +kernel) (by decide +kernel)
set_option maxRecDepth 20000 in
theorem gX2_allUnsaidIn_X2_secondsOn : GoodIn wsX2_allUnsaidIn (wsV RX2 95 RX2 yX2_secondsOn wsX2_secondsOn) := goodIn_app (goodIn_of _ (by decide +kernel)) ggX2_allUnsaidIn_X2_secondsOn
set_option maxRecDepth 20000 in
theorem ggX2_allUnsaidIn_X2_unsaid : GoodIn wsX2_allUnsaidIn wsX2_unsaid := goodIn_r _ [49, 14, 50, 55, 56, 57, 58, 59, 60, 61] (by decide +kernel) (by decide +kernel)
set_option maxRecDepth 20000 in
theorem gX2_allUnsaidIn_X2_unsaid : GoodIn wsX2_allUnsaidIn (wsV RX2 49 RX2 yX2_unsaid wsX2_unsaid) := goodIn_app (goodIn_of _ (by decide +kernel)) ggX2_allUnsaidIn_X2_unsaid
set_option maxRecDepth 20000 in
theorem ggX2_allUnsaidIn_X2_bringBack : GoodIn wsX2_allUnsaidIn wsX2_bringBack := goodIn_r _ [54, 15, 14, 16, 17, 18, 19, 55, 56, 57, 58, 59, 60, 61] (by decide +kernel) (by decide +kernel)
set_option maxRecDepth 20000 in
theorem gX2_allUnsaidIn_X2_bringBack : GoodIn wsX2_allUnsaidIn (wsV RX2 118 RX2 yX2_bringBack wsX2_bringBack) := goodIn_app (goodIn_of _ (by decide +kernel)) ggX2_allUnsaidIn_X2_bringBack
theorem dX2_allUnsaidIn_0 : decode cX2_allUnsaidIn 0 = .ok (.aload_n 0, 1) := by decide +kernel
theorem dX2_allUnsaidIn_1 : decode cX2_allUnsaidIn 1 = .ok (.iconst 0, 1) := by decide +kernel
theorem dX2_allUnsaidIn_2 : decode cX2_allUnsaidIn 2 = .ok (.putfield 26, 3) := by decide +kernel
theorem dX2_allUnsaidIn_5 : decode cX2_allUnsaidIn 5 = .ok (.iload_n 1, 1) := by decide +kernel
theorem dX2_allUnsaidIn_6 : decode cX2_allUnsaidIn 6 = .ok (.iconst 1, 1) := by decide +kernel
theorem dX2_allUnsaidIn_7 : decode cX2_allUnsaidIn 7 = .ok (.bipush 120, 2) := by decide +kernel
theorem dX2_allUnsaidIn_9 : decode cX2_allUnsaidIn 9 = .ok (.invokestatic 29, 3) := by decide +kernel
theorem dX2_allUnsaidIn_12 : decode cX2_allUnsaidIn 12 = .ok (.ifCond .ne 9, 3) := by decide +kernel
theorem dX2_allUnsaidIn_15 : decode cX2_allUnsaidIn 15 = .ok (.aload_n 0, 1) := by decide +kernel
theorem dX2_allUnsaidIn_16 : decode cX2_allUnsaidIn 16 = .ok (.iconst 1, 1) := by decide +kernel
theorem dX2_allUnsaidIn_17 : decode cX2_allUnsaidIn 17 = .ok (.invokevirtual 75, 3) := by decide +kernel
theorem dX2_allUnsaidIn_20 : decode cX2_allUnsaidIn 20 = .ok (.ireturn, 1) := by decide +kernel
theorem dX2_allUnsaidIn_21 : decode cX2_allUnsaidIn 21 = .ok (.aload_n 0, 1) := by decide +kernel
theorem dX2_allUnsaidIn_22 : decode cX2_allUnsaidIn 22 = .ok (.invokevirtual 115, 3) := by decide +kernel
theorem dX2_allUnsaidIn_25 : decode cX2_allUnsaidIn 25 = .ok (.aload_n 0, 1) := by decide +kernel
theorem dX2_allUnsaidIn_26 : decode cX2_allUnsaidIn 26 = .ok (.iload_n 1, 1) := by decide +kernel
theorem dX2_allUnsaidIn_27 : decode cX2_allUnsaidIn 27 = .ok (.invokevirtual 95, 3) := by decide +kernel
theorem dX2_allUnsaidIn_30 : decode cX2_allUnsaidIn 30 = .ok (.aload_n 0, 1) := by decide +kernel
theorem dX2_allUnsaidIn_31 : decode cX2_allUnsaidIn 31 = .ok (.invokevirtual 49, 3) := by decide +kernel
theorem dX2_allUnsaidIn_34 : decode cX2_allUnsaidIn 34 = .ok (.istore_n 2, 1) := by decide +kernel
theorem dX2_allUnsaidIn_35 : decode cX2_allUnsaidIn 35 = .ok (.aload_n 0, 1) := by decide +kernel
theorem dX2_allUnsaidIn_36 : decode cX2_allUnsaidIn 36 = .ok (.invokevirtual 118, 3) := by decide +kernel
theorem dX2_allUnsaidIn_39 : decode cX2_allUnsaidIn 39 = .ok (.iload_n 2, 1) := by decide +kernel
theorem dX2_allUnsaidIn_40 : decode cX2_allUnsaidIn 40 = .ok (.ireturn, 1) := by decide +kernel
set_option maxRecDepth 20000 in
theorem ggX2_secondsUntilPauseCounts_X2_told : GoodIn wsX2_secondsUntilPauseCounts wsX2_told := goodIn_r _ [7, 8, 9, 10, 11, 12, 13, 14, 15] (by decide +kernel) (by decide +kernel)
set_option maxRecDepth 20000 in
theorem gX2_secondsUntilPauseCounts_X2_told : GoodIn wsX2_secondsUntilPauseCounts (wsV RX2 99 RX2 yX2_told wsX2_told) := goodIn_app (goodIn_of _ (by decide +kernel)) ggX2_secondsUntilPauseCounts_X2_told
theorem dX2_secondsUntilPauseCounts_0 : decode cX2_secondsUntilPauseCounts 0 = .ok (.aload_n 0, 1) := by decide +kernel
theorem dX2_secondsUntilPauseCounts_1 : decode cX2_secondsUntilPauseCounts 1 = .ok (.aload_n 0, 1) := by decide +kernel
theorem dX2_secondsUntilPauseCounts_2 : decode cX2_secondsUntilPauseCounts 2 = .ok (.getfield 16, 3) := by decide +kernel
theorem dX2_secondsUntilPauseCounts_5 : decode cX2_secondsUntilPauseCounts 5 = .ok (.iconst 1, 1) := by decide +kernel
theorem dX2_secondsUntilPauseCounts_6 : decode cX2_secondsUntilPauseCounts 6 = .ok (.iaload, 1) := by decide +kernel
theorem dX2_secondsUntilPauseCounts_7 : decode cX2_secondsUntilPauseCounts 7 = .ok (.iconst (-1), 1) := by decide +kernel
theorem dX2_secondsUntilPauseCounts_8 : decode cX2_secondsUntilPauseCounts 8 = .ok (.if_icmp .ne 22, 3) := by decide +kernel
theorem dX2_secondsUntilPauseCounts_11 : decode cX2_secondsUntilPauseCounts 11 = .ok (.aload_n 0, 1) := by decide +kernel
theorem dX2_secondsUntilPauseCounts_12 : decode cX2_secondsUntilPauseCounts 12 = .ok (.getfield 13, 3) := by decide +kernel
theorem dX2_secondsUntilPauseCounts_15 : decode cX2_secondsUntilPauseCounts 15 = .ok (.aload_n 0, 1) := by decide +kernel
theorem dX2_secondsUntilPauseCounts_16 : decode cX2_secondsUntilPauseCounts 16 = .ok (.getfield 16, 3) := by decide +kernel
theorem dX2_secondsUntilPauseCounts_19 : decode cX2_secondsUntilPauseCounts 19 = .ok (.iconst 3, 1) := by decide +kernel
theorem dX2_secondsUntilPauseCounts_20 : decode cX2_secondsUntilPauseCounts 20 = .ok (.iaload, 1) := by decide +kernel
theorem dX2_secondsUntilPauseCounts_21 : decode cX2_secondsUntilPauseCounts 21 = .ok (.aload_n 0, 1) := by decide +kernel
theorem dX2_secondsUntilPauseCounts_22 : decode cX2_secondsUntilPauseCounts 22 = .ok (.getfield 13, 3) := by decide +kernel
theorem dX2_secondsUntilPauseCounts_25 : decode cX2_secondsUntilPauseCounts 25 = .ok (.irem, 1) := by decide +kernel
theorem dX2_secondsUntilPauseCounts_26 : decode cX2_secondsUntilPauseCounts 26 = .ok (.isub, 1) := by decide +kernel
theorem dX2_secondsUntilPauseCounts_27 : decode cX2_secondsUntilPauseCounts 27 = .ok (.goto 14, 3) := by decide +kernel
theorem dX2_secondsUntilPauseCounts_30 : decode cX2_secondsUntilPauseCounts 30 = .ok (.aload_n 0, 1) := by decide +kernel
theorem dX2_secondsUntilPauseCounts_31 : decode cX2_secondsUntilPauseCounts 31 = .ok (.getfield 16, 3) := by decide +kernel
theorem dX2_secondsUntilPauseCounts_34 : decode cX2_secondsUntilPauseCounts 34 = .ok (.iconst 2, 1) := by decide +kernel
theorem dX2_secondsUntilPauseCounts_35 : decode cX2_secondsUntilPauseCounts 35 = .ok (.iaload, 1) := by decide +kernel
theorem dX2_secondsUntilPauseCounts_36 : decode cX2_secondsUntilPauseCounts 36 = .ok (.aload_n 0, 1) := by decide +kernel
theorem dX2_secondsUntilPauseCounts_37 : decode cX2_secondsUntilPauseCounts 37 = .ok (.getfield 13, 3) := by decide +kernel
theorem dX2_secondsUntilPauseCounts_40 : decode cX2_secondsUntilPauseCounts 40 = .ok (.iadd, 1) := by decide +kernel
theorem dX2_secondsUntilPauseCounts_41 : decode cX2_secondsUntilPauseCounts 41 = .ok (.invokevirtual 99, 3) := by decide +kernel
theorem dX2_secondsUntilPauseCounts_44 : decode cX2_secondsUntilPauseCounts 44 = .ok (.ireturn, 1) := by decide +kernel
set_option maxRecDepth 20000 in
theorem ggX2_becomes_X2_send : GoodIn wsX2_becomes wsX2_send := goodIn_r _ [8, 2, 9, 10, 7, 11, 12, 13, 14, 15, 16, 17, 18, 19, 20, 21, 22, 23, 50, 51, 52, 53, 54, 55, 56] (by decide +kernel) (by decide +kernel)
set_option maxRecDepth 20000 in
theorem gX2_becomes_X2_send : GoodIn wsX2_becomes (wsV RX2 92 RX2 yX2_send wsX2_send) := goodIn_app (goodIn_of _ (by decide +kernel)) ggX2_becomes_X2_send
set_option maxRecDepth 20000 in
theorem ggX2_becomes_X2_pair : GoodIn wsX2_becomes wsX2_pair := goodIn_r _ [11] (by decide +kernel) (by decide +kernel)
set_option maxRecDepth 20000 in
theorem gX2_becomes_X2_pair : GoodIn wsX2_becomes (va_wsS RX2 56 yX2_pair wsX2_pair) := goodIn_app (goodIn_of _ (by decide +kernel)) ggX2_becomes_X2_pair
set_option maxRecDepth 20000 in
theorem ggX2_becomes_X2_secondOn : GoodIn wsX2_becomes wsX2_secondOn := goodIn_r _ [27, 2, 28, 29, 30, 7, 31, 32, 33, 34, 35, 36, 37, 38, 39, 40, 1, 3, 9, 10, 11, 50, 51, 52, 53, 54, 55, 56] (by decide +kernel) (by decide +kernel)
set_option maxRecDepth 20000 in
theorem gX2_becomes_X2_secondOn : GoodIn wsX2_becomes (wsV RX2 72 RX2 yX2_secondOn wsX2_secondOn) := goodIn_app (goodIn_of _ (by decide +kernel)) ggX2_becomes_X2_secondOn
set_option maxRecDepth 20000 in
theorem ggX2_becomes_X2_bringBack : GoodIn wsX2_becomes wsX2_bringBack := goodIn_r _ [44, 45, 2, 46, 47, 48, 49, 50, 51, 52, 53, 54, 55, 56] (by decide +kernel) (by decide +kernel)
set_option maxRecDepth 20000 in
theorem gX2_becomes_X2_bringBack : GoodIn wsX2_becomes (wsV RX2 118 RX2 yX2_bringBack wsX2_bringBack) := goodIn_app (goodIn_of _ (by decide +kernel)) ggX2_becomes_X2_bringBack
theorem dX2_becomes_0 : decode cX2_becomes 0 = .ok (.aload_n 0, 1) := by decide +kernel
theorem dX2_becomes_1 : decode cX2_becomes 1 = .ok (.iload_n 1, 1) := by decide +kernel
theorem dX2_becomes_2 : decode cX2_becomes 2 = .ok (.iload_n 2, 1) := by decide +kernel
theorem dX2_becomes_3 : decode cX2_becomes 3 = .ok (.invokevirtual 92, 3) := by decide +kernel
theorem dX2_becomes_6 : decode cX2_becomes 6 = .ok (.pop, 1) := by decide +kernel
theorem dX2_becomes_7 : decode cX2_becomes 7 = .ok (.aload_n 0, 1) := by decide +kernel
theorem dX2_becomes_8 : decode cX2_becomes 8 = .ok (.iload_n 1, 1) := by decide +kernel
theorem dX2_becomes_9 : decode cX2_becomes 9 = .ok (.iload_n 2, 1) := by decide +kernel
theorem dX2_becomes_10 : decode cX2_becomes 10 = .ok (.invokestatic 56, 3) := by decide +kernel
theorem dX2_becomes_13 : decode cX2_becomes 13 = .ok (.putfield 23, 3) := by decide +kernel
theorem dX2_becomes_16 : decode cX2_becomes 16 = .ok (.aload_n 0, 1) := by decide +kernel
theorem dX2_becomes_17 : decode cX2_becomes 17 = .ok (.getfield 16, 3) := by decide +kernel
theorem dX2_becomes_20 : decode cX2_becomes 20 = .ok (.sipush 148, 3) := by decide +kernel
theorem dX2_becomes_23 : decode cX2_becomes 23 = .ok (.aload_n 0, 1) := by decide +kernel
theorem dX2_becomes_24 : decode cX2_becomes 24 = .ok (.getfield 23, 3) := by decide +kernel
theorem dX2_becomes_27 : decode cX2_becomes 27 = .ok (.iadd, 1) := by decide +kernel
theorem dX2_becomes_28 : decode cX2_becomes 28 = .ok (.iaload, 1) := by decide +kernel
theorem dX2_becomes_29 : decode cX2_becomes 29 = .ok (.ifCond .le 10, 3) := by decide +kernel
theorem dX2_becomes_32 : decode cX2_becomes 32 = .ok (.aload_n 0, 1) := by decide +kernel
theorem dX2_becomes_33 : decode cX2_becomes 33 = .ok (.invokevirtual 72, 3) := by decide +kernel
theorem dX2_becomes_36 : decode cX2_becomes 36 = .ok (.goto (-20), 3) := by decide +kernel
theorem dX2_becomes_39 : decode cX2_becomes 39 = .ok (.aload_n 0, 1) := by decide +kernel
theorem dX2_becomes_40 : decode cX2_becomes 40 = .ok (.getfield 59, 3) := by decide +kernel
theorem dX2_becomes_43 : decode cX2_becomes 43 = .ok (.istore_n 3, 1) := by decide +kernel
theorem dX2_becomes_44 : decode cX2_becomes 44 = .ok (.aload_n 0, 1) := by decide +kernel
theorem dX2_becomes_45 : decode cX2_becomes 45 = .ok (.invokevirtual 118, 3) := by decide +kernel
theorem dX2_becomes_48 : decode cX2_becomes 48 = .ok (.iload_n 3, 1) := by decide +kernel
theorem dX2_becomes_49 : decode cX2_becomes 49 = .ok (.ireturn, 1) := by decide +kernel
set_option maxRecDepth 20000 in
theorem ggX2_wouldLeave_X2_canSend : GoodIn wsX2_wouldLeave wsX2_canSend := goodIn_r _ [5, 6, 7, 8, 9, 10, 4, 11, 12, 13, 14, 15, 16, 17, 18, 70, 71, 72, 73, 74, 75, 76] (by decide +kernel) (by decide +kernel)
set_option maxRecDepth 20000 in
theorem gX2_wouldLeave_X2_canSend : GoodIn wsX2_wouldLeave (wsV RX2 88 RX2 yX2_canSend wsX2_canSend) := goodIn_app (goodIn_of _ (by decide +kernel)) ggX2_wouldLeave_X2_canSend
set_option maxRecDepth 20000 in
theorem ggX2_wouldLeave_X2_keep : GoodIn wsX2_wouldLeave wsX2_keep := goodIn_r _ [22, 6, 23, 24, 25, 26, 27, 70, 71, 72, 73, 74, 75, 76] (by decide +kernel) (by decide +kernel)
set_option maxRecDepth 20000 in
theorem gX2_wouldLeave_X2_keep : GoodIn wsX2_wouldLeave (wsV RX2 115 RX2 yX2_keep wsX2_keep) := goodIn_app (goodIn_of _ (by decide +kernel)) ggX2_wouldLeave_X2_keep
set_option maxRecDepth 20000 in
theorem ggX2_wouldLeave_X2_becomes : GoodIn wsX2_wouldLeave wsX2_becomes := goodIn_r _ [31, 32, 6, 33, 34, 35, 36, 4, 37, 16, 17, 18, 38, 39, 40, 41, 42, 43, 44, 45, 12, 46, 47, 48, 49, 50, 51, 52, 53, 54, 55, 56, 57, 58, 59, 60, 61, 62, 63, 64, 65, 66, 67, 68, 69, 23, 24, 25, 26, 27, 70, 71, 72, 73, 74, 75, 76] (by decide +kernel) (by decide +kernel)
set_option maxRecDepth 20000 in
theorem gX2_wouldLeave_X2_becomes : GoodIn wsX2_wouldLeave (wsV RX2 121 RX2 yX2_becomes wsX2_becomes) := goodIn_app (goodIn_of _ (by decide +kernel)) ggX2_wouldLeave_X2_becomes
theorem dX2_wouldLeave_0 : decode cX2_wouldLeave 0 = .ok (.aload_n 0, 1) := by decide +kernel
theorem dX2_wouldLeave_1 : decode cX2_wouldLeave 1 = .ok (.iload_n 1, 1) := by decide +kernel
theorem dX2_wouldLeave_2 : decode cX2_wouldLeave 2 = .ok (.iload_n 2, 1) := by decide +kernel
theorem dX2_wouldLeave_3 : decode cX2_wouldLeave 3 = .ok (.invokevirtual 88, 3) := by decide +kernel
theorem dX2_wouldLeave_6 : decode cX2_wouldLeave 6 = .ok (.ifCond .ne 5, 3) := by decide +kernel
theorem dX2_wouldLeave_9 : decode cX2_wouldLeave 9 = .ok (.iconst 0, 1) := by decide +kernel
theorem dX2_wouldLeave_10 : decode cX2_wouldLeave 10 = .ok (.ireturn, 1) := by decide +kernel
theorem dX2_wouldLeave_11 : decode cX2_wouldLeave 11 = .ok (.aload_n 0, 1) := by decide +kernel
theorem dX2_wouldLeave_12 : decode cX2_wouldLeave 12 = .ok (.invokevirtual 115, 3) := by decide +kernel
theorem dX2_wouldLeave_15 : decode cX2_wouldLeave 15 = .ok (.aload_n 0, 1) := by decide +kernel
theorem dX2_wouldLeave_16 : decode cX2_wouldLeave 16 = .ok (.iload_n 1, 1) := by decide +kernel
theorem dX2_wouldLeave_17 : decode cX2_wouldLeave 17 = .ok (.iload_n 2, 1) := by decide +kernel
theorem dX2_wouldLeave_18 : decode cX2_wouldLeave 18 = .ok (.invokevirtual 121, 3) := by decide +kernel
theorem dX2_wouldLeave_21 : decode cX2_wouldLeave 21 = .ok (.ireturn, 1) := by decide +kernel
set_option maxRecDepth 20000 in
theorem ggX2_bestMoment_X2_canSend : GoodIn wsX2_bestMoment wsX2_canSend := goodIn_r _ [5, 6, 7, 8, 9, 10, 4, 11, 12, 13, 14, 15, 16, 17, 18, 74, 75, 76, 77, 78, 79, 80] (by decide +kernel) (by decide +kernel)
set_option maxRecDepth 20000 in
theorem gX2_bestMoment_X2_canSend : GoodIn wsX2_bestMoment (wsV RX2 88 RX2 yX2_canSend wsX2_canSend) := goodIn_app (goodIn_of _ (by decide +kernel)) ggX2_bestMoment_X2_canSend
set_option maxRecDepth 20000 in
theorem ggX2_bestMoment_X2_keep : GoodIn wsX2_bestMoment wsX2_keep := goodIn_r _ [22, 6, 23, 24, 25, 26, 27, 74, 75, 76, 77, 78, 79, 80] (by decide +kernel) (by decide +kernel)
set_option maxRecDepth 20000 in
theorem gX2_bestMoment_X2_keep : GoodIn wsX2_bestMoment (wsV RX2 115 RX2 yX2_keep wsX2_keep) := goodIn_app (goodIn_of _ (by decide +kernel)) ggX2_bestMoment_X2_keep
set_option maxRecDepth 20000 in
theorem ggX2_bestMoment_X2_secondsOn : GoodIn wsX2_bestMoment wsX2_secondsOn := goodIn_r _ [31, 32, 33, 34, 4, 35, 6, 36, 37, 38, 39, 40, 41, 42, 43, 44, 45, 46, 47, 48, 49, 50, 16, 17, 18, 74, 75, 76, 77, 78, 79, 80] (by decide +kernel) (by decide +kernel)
set_option maxRecDepth 20000 in
theorem gX2_bestMoment_X2_secondsOn : GoodIn wsX2_bestMoment (wsV RX2 95 RX2 yX2_secondsOn wsX2_secondsOn) := goodIn_app (goodIn_of _ (by decide +kernel)) ggX2_bestMoment_X2_secondsOn
set_option maxRecDepth 20000 in
theorem ggX2_bestMoment_X2_becomes : GoodIn wsX2_bestMoment wsX2_becomes := goodIn_r _ [54, 49, 6, 50, 55, 56, 57, 4, 58, 16, 17, 18, 59, 60, 61, 62, 63, 64, 65, 66, 12, 67, 68, 69, 32, 33, 34, 35, 36, 37, 38, 39, 40, 41, 42, 43, 44, 45, 46, 47, 48, 70, 71, 72, 73, 23, 24, 25, 26, 27, 74, 75, 76, 77, 78, 79, 80] (by decide +kernel) (by decide +kernel)
set_option maxRecDepth 20000 in
theorem gX2_bestMoment_X2_becomes : GoodIn wsX2_bestMoment (wsV RX2 121 RX2 yX2_becomes wsX2_becomes) := goodIn_app (goodIn_of _ (by decide +kernel)) ggX2_bestMoment_X2_becomes
theorem dX2_bestMoment_0 : decode cX2_bestMoment 0 = .ok (.aload_n 0, 1) := by decide +kernel
theorem dX2_bestMoment_1 : decode cX2_bestMoment 1 = .ok (.iload_n 1, 1) := by decide +kernel
theorem dX2_bestMoment_2 : decode cX2_bestMoment 2 = .ok (.iload_n 2, 1) := by decide +kernel
theorem dX2_bestMoment_3 : decode cX2_bestMoment 3 = .ok (.invokevirtual 88, 3) := by decide +kernel
theorem dX2_bestMoment_6 : decode cX2_bestMoment 6 = .ok (.ifCond .ne 5, 3) := by decide +kernel
theorem dX2_bestMoment_9 : decode cX2_bestMoment 9 = .ok (.iconst 0, 1) := by decide +kernel
theorem dX2_bestMoment_10 : decode cX2_bestMoment 10 = .ok (.ireturn, 1) := by decide +kernel
theorem dX2_bestMoment_11 : decode cX2_bestMoment 11 = .ok (.aload_n 0, 1) := by decide +kernel
theorem dX2_bestMoment_12 : decode cX2_bestMoment 12 = .ok (.invokevirtual 115, 3) := by decide +kernel
theorem dX2_bestMoment_15 : decode cX2_bestMoment 15 = .ok (.iconst 0, 1) := by decide +kernel
theorem dX2_bestMoment_16 : decode cX2_bestMoment 16 = .ok (.istore_n 3, 1) := by decide +kernel
theorem dX2_bestMoment_17 : decode cX2_bestMoment 17 = .ok (.iload_n 3, 1) := by decide +kernel
theorem dX2_bestMoment_18 : decode cX2_bestMoment 18 = .ok (.bipush 60, 2) := by decide +kernel
theorem dX2_bestMoment_20 : decode cX2_bestMoment 20 = .ok (.if_icmp .gt 25, 3) := by decide +kernel
theorem dX2_bestMoment_23 : decode cX2_bestMoment 23 = .ok (.aload_n 0, 1) := by decide +kernel
theorem dX2_bestMoment_24 : decode cX2_bestMoment 24 = .ok (.iload_n 3, 1) := by decide +kernel
theorem dX2_bestMoment_25 : decode cX2_bestMoment 25 = .ok (.invokevirtual 95, 3) := by decide +kernel
theorem dX2_bestMoment_28 : decode cX2_bestMoment 28 = .ok (.aload_n 0, 1) := by decide +kernel
theorem dX2_bestMoment_29 : decode cX2_bestMoment 29 = .ok (.iload_n 1, 1) := by decide +kernel
theorem dX2_bestMoment_30 : decode cX2_bestMoment 30 = .ok (.iload_n 2, 1) := by decide +kernel
theorem dX2_bestMoment_31 : decode cX2_bestMoment 31 = .ok (.invokevirtual 121, 3) := by decide +kernel
theorem dX2_bestMoment_34 : decode cX2_bestMoment 34 = .ok (.ifCond .le 5, 3) := by decide +kernel
theorem dX2_bestMoment_37 : decode cX2_bestMoment 37 = .ok (.iload_n 3, 1) := by decide +kernel
theorem dX2_bestMoment_38 : decode cX2_bestMoment 38 = .ok (.ireturn, 1) := by decide +kernel
theorem dX2_bestMoment_39 : decode cX2_bestMoment 39 = .ok (.iinc 3 1, 3) := by decide +kernel
theorem dX2_bestMoment_42 : decode cX2_bestMoment 42 = .ok (.goto (-25), 3) := by decide +kernel
theorem dX2_bestMoment_45 : decode cX2_bestMoment 45 = .ok (.iconst (-1), 1) := by decide +kernel
theorem dX2_bestMoment_46 : decode cX2_bestMoment 46 = .ok (.ireturn, 1) := by decide +kernel
set_option maxRecDepth 20000 in
theorem ggX2_ratingIn_X2_isIn : GoodIn wsX2_ratingIn wsX2_isIn := goodIn_r _ [5] (by decide +kernel) (by decide +kernel)
set_option maxRecDepth 20000 in
theorem gX2_ratingIn_X2_isIn : GoodIn wsX2_ratingIn (va_wsS RX2 29 yX2_isIn wsX2_isIn) := goodIn_app (goodIn_of _ (by decide +kernel)) ggX2_ratingIn_X2_isIn
set_option maxRecDepth 20000 in
theorem ggX2_ratingIn_X2_fail : GoodIn wsX2_ratingIn wsX2_fail := goodIn_r _ [9, 1, 66, 67, 68, 69, 70, 71, 72] (by decide +kernel) (by decide +kernel)
set_option maxRecDepth 20000 in
theorem gX2_ratingIn_X2_fail : GoodIn wsX2_ratingIn (wsV RX2 75 RX2 yX2_fail wsX2_fail) := goodIn_app (goodIn_of _ (by decide +kernel)) ggX2_ratingIn_X2_fail
set_option maxRecDepth 20000 in
theorem ggX2_ratingIn_X2_keep : GoodIn wsX2_ratingIn wsX2_keep := goodIn_r _ [13, 14, 15, 16, 17, 18, 19, 66, 67, 68, 69, 70, 71, 72] (by decide +kernel) (by decide +kernel)
set_option maxRecDepth 20000 in
theorem gX2_ratingIn_X2_keep : GoodIn wsX2_ratingIn (wsV RX2 115 RX2 yX2_keep wsX2_keep) := goodIn_app (goodIn_of _ (by decide +kernel)) ggX2_ratingIn_X2_keep
set_option maxRecDepth 20000 in
theorem ggX2_ratingIn_X2_secondsOn : GoodIn wsX2_ratingIn wsX2_secondsOn := goodIn_r _ [23, 24, 25, 26, 4, 27, 14, 28, 29, 30, 31, 32, 33, 34, 35, 36, 37, 38, 39, 40, 41, 42, 43, 44, 45, 66, 67, 68, 69, 70, 71, 72] (by decide +kernel) (by decide +kernel)
set_option maxRecDepth 20000 in
theorem gX2_ratingIn_X2_secondsOn : GoodIn wsX2_ratingIn (wsV RX2 95 RX2 yX2_secondsOn wsX2_secondsOn) := goodIn_app (goodIn_of _ (by decide +kernel)) ggX2_ratingIn_X2_secondsOn
set_option maxRecDepth 20000 in
theorem ggX2_ratingIn_X2_rated : GoodIn wsX2_ratingIn wsX2_rated := goodIn_r _ [49, 50, 51, 52, 53, 54, 55, 56, 57, 58, 59, 60, 4, 61, 14, 66, 67, 68, 69, 70, 71, 72] (by decide +kernel) (by decide +kernel)
set_option maxRecDepth 20000 in
theorem gX2_ratingIn_X2_rated : GoodIn wsX2_ratingIn (wsV RX2 78 RX2 yX2_rated wsX2_rated) := goodIn_app (goodIn_of _ (by decide +kernel)) ggX2_ratingIn_X2_rated
set_option maxRecDepth 20000 in
theorem ggX2_ratingIn_X2_bringBack : GoodIn wsX2_ratingIn wsX2_bringBack := goodIn_r _ [65, 15, 14, 16, 17, 18, 19, 66, 67, 68, 69, 70, 71, 72] (by decide +kernel) (by decide +kernel)
set_option maxRecDepth 20000 in
theorem gX2_ratingIn_X2_bringBack : GoodIn wsX2_ratingIn (wsV RX2 118 RX2 yX2_bringBack wsX2_bringBack) := goodIn_app (goodIn_of _ (by decide +kernel)) ggX2_ratingIn_X2_bringBack
theorem dX2_ratingIn_0 : decode cX2_ratingIn 0 = .ok (.aload_n 0, 1) := by decide +kernel
theorem dX2_ratingIn_1 : decode cX2_ratingIn 1 = .ok (.iconst 0, 1) := by decide +kernel
theorem dX2_ratingIn_2 : decode cX2_ratingIn 2 = .ok (.putfield 26, 3) := by decide +kernel
theorem dX2_ratingIn_5 : decode cX2_ratingIn 5 = .ok (.iload_n 1, 1) := by decide +kernel
theorem dX2_ratingIn_6 : decode cX2_ratingIn 6 = .ok (.iconst 1, 1) := by decide +kernel
theorem dX2_ratingIn_7 : decode cX2_ratingIn 7 = .ok (.bipush 120, 2) := by decide +kernel
theorem dX2_ratingIn_9 : decode cX2_ratingIn 9 = .ok (.invokestatic 29, 3) := by decide +kernel
theorem dX2_ratingIn_12 : decode cX2_ratingIn 12 = .ok (.ifCond .ne 9, 3) := by decide +kernel
theorem dX2_ratingIn_15 : decode cX2_ratingIn 15 = .ok (.aload_n 0, 1) := by decide +kernel
theorem dX2_ratingIn_16 : decode cX2_ratingIn 16 = .ok (.iconst 1, 1) := by decide +kernel
theorem dX2_ratingIn_17 : decode cX2_ratingIn 17 = .ok (.invokevirtual 75, 3) := by decide +kernel
theorem dX2_ratingIn_20 : decode cX2_ratingIn 20 = .ok (.ireturn, 1) := by decide +kernel
theorem dX2_ratingIn_21 : decode cX2_ratingIn 21 = .ok (.aload_n 0, 1) := by decide +kernel
theorem dX2_ratingIn_22 : decode cX2_ratingIn 22 = .ok (.invokevirtual 115, 3) := by decide +kernel
theorem dX2_ratingIn_25 : decode cX2_ratingIn 25 = .ok (.aload_n 0, 1) := by decide +kernel
theorem dX2_ratingIn_26 : decode cX2_ratingIn 26 = .ok (.iload_n 1, 1) := by decide +kernel
theorem dX2_ratingIn_27 : decode cX2_ratingIn 27 = .ok (.invokevirtual 95, 3) := by decide +kernel
theorem dX2_ratingIn_30 : decode cX2_ratingIn 30 = .ok (.aload_n 0, 1) := by decide +kernel
theorem dX2_ratingIn_31 : decode cX2_ratingIn 31 = .ok (.invokevirtual 78, 3) := by decide +kernel
theorem dX2_ratingIn_34 : decode cX2_ratingIn 34 = .ok (.istore_n 2, 1) := by decide +kernel
theorem dX2_ratingIn_35 : decode cX2_ratingIn 35 = .ok (.aload_n 0, 1) := by decide +kernel
theorem dX2_ratingIn_36 : decode cX2_ratingIn 36 = .ok (.invokevirtual 118, 3) := by decide +kernel
theorem dX2_ratingIn_39 : decode cX2_ratingIn 39 = .ok (.iload_n 2, 1) := by decide +kernel
theorem dX2_ratingIn_40 : decode cX2_ratingIn 40 = .ok (.ireturn, 1) := by decide +kernel
set_option maxRecDepth 20000 in
theorem ggX2_meanUnsaid_X2_unsaid : GoodIn wsX2_meanUnsaid wsX2_unsaid := goodIn_r _ [8, 2, 3, 9, 10, 11, 12, 13, 14, 15] (by decide +kernel) (by decide +kernel)
set_option maxRecDepth 20000 in
theorem gX2_meanUnsaid_X2_unsaid : GoodIn wsX2_meanUnsaid (wsV RX2 49 RX2 yX2_unsaid wsX2_unsaid) := goodIn_app (goodIn_of _ (by decide +kernel)) ggX2_meanUnsaid_X2_unsaid
theorem dX2_meanUnsaid_0 : decode cX2_meanUnsaid 0 = .ok (.aload_n 0, 1) := by decide +kernel
theorem dX2_meanUnsaid_1 : decode cX2_meanUnsaid 1 = .ok (.iconst 0, 1) := by decide +kernel
theorem dX2_meanUnsaid_2 : decode cX2_meanUnsaid 2 = .ok (.putfield 26, 3) := by decide +kernel
theorem dX2_meanUnsaid_5 : decode cX2_meanUnsaid 5 = .ok (.aload_n 0, 1) := by decide +kernel
theorem dX2_meanUnsaid_6 : decode cX2_meanUnsaid 6 = .ok (.invokevirtual 49, 3) := by decide +kernel
theorem dX2_meanUnsaid_9 : decode cX2_meanUnsaid 9 = .ok (.aload_n 0, 1) := by decide +kernel
theorem dX2_meanUnsaid_10 : decode cX2_meanUnsaid 10 = .ok (.getfield 16, 3) := by decide +kernel
theorem dX2_meanUnsaid_13 : decode cX2_meanUnsaid 13 = .ok (.iconst 4, 1) := by decide +kernel
theorem dX2_meanUnsaid_14 : decode cX2_meanUnsaid 14 = .ok (.iaload, 1) := by decide +kernel
theorem dX2_meanUnsaid_15 : decode cX2_meanUnsaid 15 = .ok (.isub, 1) := by decide +kernel
theorem dX2_meanUnsaid_16 : decode cX2_meanUnsaid 16 = .ok (.i2d, 1) := by decide +kernel
theorem dX2_meanUnsaid_17 : decode cX2_meanUnsaid 17 = .ok (.aload_n 0, 1) := by decide +kernel
theorem dX2_meanUnsaid_18 : decode cX2_meanUnsaid 18 = .ok (.getfield 7, 3) := by decide +kernel
theorem dX2_meanUnsaid_21 : decode cX2_meanUnsaid 21 = .ok (.i2d, 1) := by decide +kernel
theorem dX2_meanUnsaid_22 : decode cX2_meanUnsaid 22 = .ok (.ddiv, 1) := by decide +kernel
theorem dX2_meanUnsaid_23 : decode cX2_meanUnsaid 23 = .ok (.dreturn, 1) := by decide +kernel
set_option maxRecDepth 20000 in
theorem ggX2_digest_X2_left : GoodIn wsX2_digest wsX2_left := goodIn_r _ [12, 4, 35, 36, 37, 38, 39, 40, 41] (by decide +kernel) (by decide +kernel)
set_option maxRecDepth 20000 in
theorem gX2_digest_X2_left : GoodIn wsX2_digest (wsV RX2 102 RX2 yX2_left wsX2_left) := goodIn_app (goodIn_of _ (by decide +kernel)) ggX2_digest_X2_left
set_option maxRecDepth 20000 in
theorem ggX2_digest_X2_underWay : GoodIn wsX2_digest wsX2_underWay := goodIn_r _ [16, 4, 35, 36, 37, 38, 39, 40, 41] (by decide +kernel) (by decide +kernel)
set_option maxRecDepth 20000 in
theorem gX2_digest_X2_underWay : GoodIn wsX2_digest (wsV RX2 112 RX2 yX2_underWay wsX2_underWay) := goodIn_app (goodIn_of _ (by decide +kernel)) ggX2_digest_X2_underWay
set_option maxRecDepth 20000 in
theorem ggX2_digest_X2_rated : GoodIn wsX2_digest wsX2_rated := goodIn_r _ [20, 3, 21, 22, 23, 24, 25, 26, 27, 28, 29, 30, 11, 31, 4, 35, 36, 37, 38, 39, 40, 41] (by decide +kernel) (by decide +kernel)
set_option maxRecDepth 20000 in
theorem gX2_digest_X2_rated : GoodIn wsX2_digest (wsV RX2 78 RX2 yX2_rated wsX2_rated) := goodIn_app (goodIn_of _ (by decide +kernel)) ggX2_digest_X2_rated
set_option maxRecDepth 20000 in
theorem ggX2_digest_X2_pair : GoodIn wsX2_digest wsX2_pair := goodIn_r _ [34] (by decide +kernel) (by decide +kernel)
set_option maxRecDepth 20000 in
theorem gX2_digest_X2_pair : GoodIn wsX2_digest (va_wsS RX2 56 yX2_pair wsX2_pair) := goodIn_app (goodIn_of _ (by decide +kernel)) ggX2_digest_X2_pair
theorem dX2_digest_0 : decode cX2_digest 0 = .ok (.aload_n 0, 1) := by decide +kernel
theorem dX2_digest_1 : decode cX2_digest 1 = .ok (.iconst 0, 1) := by decide +kernel
theorem dX2_digest_2 : decode cX2_digest 2 = .ok (.putfield 26, 3) := by decide +kernel
theorem dX2_digest_5 : decode cX2_digest 5 = .ok (.bipush 11, 2) := by decide +kernel
theorem dX2_digest_7 : decode cX2_digest 7 = .ok (.newarray .int, 2) := by decide +kernel
theorem dX2_digest_9 : decode cX2_digest 9 = .ok (.dup, 1) := by decide +kernel
theorem dX2_digest_10 : decode cX2_digest 10 = .ok (.iconst 0, 1) := by decide +kernel
theorem dX2_digest_11 : decode cX2_digest 11 = .ok (.aload_n 0, 1) := by decide +kernel
theorem dX2_digest_12 : decode cX2_digest 12 = .ok (.getfield 7, 3) := by decide +kernel
theorem dX2_digest_15 : decode cX2_digest 15 = .ok (.iastore, 1) := by decide +kernel
theorem dX2_digest_16 : decode cX2_digest 16 = .ok (.dup, 1) := by decide +kernel
theorem dX2_digest_17 : decode cX2_digest 17 = .ok (.iconst 1, 1) := by decide +kernel
theorem dX2_digest_18 : decode cX2_digest 18 = .ok (.aload_n 0, 1) := by decide +kernel
theorem dX2_digest_19 : decode cX2_digest 19 = .ok (.getfield 16, 3) := by decide +kernel
theorem dX2_digest_22 : decode cX2_digest 22 = .ok (.iconst 0, 1) := by decide +kernel
theorem dX2_digest_23 : decode cX2_digest 23 = .ok (.iaload, 1) := by decide +kernel
theorem dX2_digest_24 : decode cX2_digest 24 = .ok (.iastore, 1) := by decide +kernel
theorem dX2_digest_25 : decode cX2_digest 25 = .ok (.dup, 1) := by decide +kernel
theorem dX2_digest_26 : decode cX2_digest 26 = .ok (.iconst 2, 1) := by decide +kernel
theorem dX2_digest_27 : decode cX2_digest 27 = .ok (.aload_n 0, 1) := by decide +kernel
theorem dX2_digest_28 : decode cX2_digest 28 = .ok (.getfield 13, 3) := by decide +kernel
theorem dX2_digest_31 : decode cX2_digest 31 = .ok (.iastore, 1) := by decide +kernel
theorem dX2_digest_32 : decode cX2_digest 32 = .ok (.dup, 1) := by decide +kernel
theorem dX2_digest_33 : decode cX2_digest 33 = .ok (.iconst 3, 1) := by decide +kernel
theorem dX2_digest_34 : decode cX2_digest 34 = .ok (.aload_n 0, 1) := by decide +kernel
theorem dX2_digest_35 : decode cX2_digest 35 = .ok (.getfield 16, 3) := by decide +kernel
theorem dX2_digest_38 : decode cX2_digest 38 = .ok (.iconst 1, 1) := by decide +kernel
theorem dX2_digest_39 : decode cX2_digest 39 = .ok (.iaload, 1) := by decide +kernel
theorem dX2_digest_40 : decode cX2_digest 40 = .ok (.iastore, 1) := by decide +kernel
theorem dX2_digest_41 : decode cX2_digest 41 = .ok (.dup, 1) := by decide +kernel
theorem dX2_digest_42 : decode cX2_digest 42 = .ok (.iconst 4, 1) := by decide +kernel
theorem dX2_digest_43 : decode cX2_digest 43 = .ok (.aload_n 0, 1) := by decide +kernel
theorem dX2_digest_44 : decode cX2_digest 44 = .ok (.invokevirtual 102, 3) := by decide +kernel
theorem dX2_digest_47 : decode cX2_digest 47 = .ok (.iastore, 1) := by decide +kernel
theorem dX2_digest_48 : decode cX2_digest 48 = .ok (.dup, 1) := by decide +kernel
theorem dX2_digest_49 : decode cX2_digest 49 = .ok (.iconst 5, 1) := by decide +kernel
theorem dX2_digest_50 : decode cX2_digest 50 = .ok (.aload_n 0, 1) := by decide +kernel
theorem dX2_digest_51 : decode cX2_digest 51 = .ok (.getfield 16, 3) := by decide +kernel
theorem dX2_digest_54 : decode cX2_digest 54 = .ok (.iconst 3, 1) := by decide +kernel
theorem dX2_digest_55 : decode cX2_digest 55 = .ok (.iaload, 1) := by decide +kernel
theorem dX2_digest_56 : decode cX2_digest 56 = .ok (.iastore, 1) := by decide +kernel
theorem dX2_digest_57 : decode cX2_digest 57 = .ok (.dup, 1) := by decide +kernel
theorem dX2_digest_58 : decode cX2_digest 58 = .ok (.bipush 6, 2) := by decide +kernel
theorem dX2_digest_60 : decode cX2_digest 60 = .ok (.aload_n 0, 1) := by decide +kernel
theorem dX2_digest_61 : decode cX2_digest 61 = .ok (.getfield 16, 3) := by decide +kernel
theorem dX2_digest_64 : decode cX2_digest 64 = .ok (.iconst 4, 1) := by decide +kernel
theorem dX2_digest_65 : decode cX2_digest 65 = .ok (.iaload, 1) := by decide +kernel
theorem dX2_digest_66 : decode cX2_digest 66 = .ok (.iastore, 1) := by decide +kernel
theorem dX2_digest_67 : decode cX2_digest 67 = .ok (.dup, 1) := by decide +kernel
theorem dX2_digest_68 : decode cX2_digest 68 = .ok (.bipush 7, 2) := by decide +kernel
theorem dX2_digest_70 : decode cX2_digest 70 = .ok (.aload_n 0, 1) := by decide +kernel
theorem dX2_digest_71 : decode cX2_digest 71 = .ok (.invokevirtual 112, 3) := by decide +kernel
theorem dX2_digest_74 : decode cX2_digest 74 = .ok (.iastore, 1) := by decide +kernel
theorem dX2_digest_75 : decode cX2_digest 75 = .ok (.dup, 1) := by decide +kernel
theorem dX2_digest_76 : decode cX2_digest 76 = .ok (.bipush 8, 2) := by decide +kernel
theorem dX2_digest_78 : decode cX2_digest 78 = .ok (.aload_n 0, 1) := by decide +kernel
theorem dX2_digest_79 : decode cX2_digest 79 = .ok (.getfield 16, 3) := by decide +kernel
theorem dX2_digest_82 : decode cX2_digest 82 = .ok (.iconst 5, 1) := by decide +kernel
theorem dX2_digest_83 : decode cX2_digest 83 = .ok (.iaload, 1) := by decide +kernel
theorem dX2_digest_84 : decode cX2_digest 84 = .ok (.iastore, 1) := by decide +kernel
theorem dX2_digest_85 : decode cX2_digest 85 = .ok (.dup, 1) := by decide +kernel
theorem dX2_digest_86 : decode cX2_digest 86 = .ok (.bipush 9, 2) := by decide +kernel
theorem dX2_digest_88 : decode cX2_digest 88 = .ok (.aload_n 0, 1) := by decide +kernel
theorem dX2_digest_89 : decode cX2_digest 89 = .ok (.getfield 16, 3) := by decide +kernel
theorem dX2_digest_92 : decode cX2_digest 92 = .ok (.bipush 6, 2) := by decide +kernel
theorem dX2_digest_94 : decode cX2_digest 94 = .ok (.iaload, 1) := by decide +kernel
theorem dX2_digest_95 : decode cX2_digest 95 = .ok (.iastore, 1) := by decide +kernel
theorem dX2_digest_96 : decode cX2_digest 96 = .ok (.dup, 1) := by decide +kernel
theorem dX2_digest_97 : decode cX2_digest 97 = .ok (.bipush 10, 2) := by decide +kernel
theorem dX2_digest_99 : decode cX2_digest 99 = .ok (.aload_n 0, 1) := by decide +kernel
theorem dX2_digest_100 : decode cX2_digest 100 = .ok (.invokevirtual 78, 3) := by decide +kernel
theorem dX2_digest_103 : decode cX2_digest 103 = .ok (.iastore, 1) := by decide +kernel
theorem dX2_digest_104 : decode cX2_digest 104 = .ok (.astore_n 1, 1) := by decide +kernel
theorem dX2_digest_105 : decode cX2_digest 105 = .ok (.ldc2_w 124, 3) := by decide +kernel
theorem dX2_digest_108 : decode cX2_digest 108 = .ok (.lstore_n 2, 1) := by decide +kernel
theorem dX2_digest_109 : decode cX2_digest 109 = .ok (.aload_n 1, 1) := by decide +kernel
theorem dX2_digest_110 : decode cX2_digest 110 = .ok (.astore 4, 2) := by decide +kernel
theorem dX2_digest_112 : decode cX2_digest 112 = .ok (.aload 4, 2) := by decide +kernel
theorem dX2_digest_114 : decode cX2_digest 114 = .ok (.arraylength, 1) := by decide +kernel
theorem dX2_digest_115 : decode cX2_digest 115 = .ok (.istore 5, 2) := by decide +kernel
theorem dX2_digest_117 : decode cX2_digest 117 = .ok (.iconst 0, 1) := by decide +kernel
theorem dX2_digest_118 : decode cX2_digest 118 = .ok (.istore 6, 2) := by decide +kernel
theorem dX2_digest_120 : decode cX2_digest 120 = .ok (.iload 6, 2) := by decide +kernel
theorem dX2_digest_122 : decode cX2_digest 122 = .ok (.iload 5, 2) := by decide +kernel
theorem dX2_digest_124 : decode cX2_digest 124 = .ok (.if_icmp .ge 26, 3) := by decide +kernel
theorem dX2_digest_127 : decode cX2_digest 127 = .ok (.aload 4, 2) := by decide +kernel
theorem dX2_digest_129 : decode cX2_digest 129 = .ok (.iload 6, 2) := by decide +kernel
theorem dX2_digest_131 : decode cX2_digest 131 = .ok (.iaload, 1) := by decide +kernel
theorem dX2_digest_132 : decode cX2_digest 132 = .ok (.istore 7, 2) := by decide +kernel
theorem dX2_digest_134 : decode cX2_digest 134 = .ok (.lload_n 2, 1) := by decide +kernel
theorem dX2_digest_135 : decode cX2_digest 135 = .ok (.ldc2_w 126, 3) := by decide +kernel
theorem dX2_digest_138 : decode cX2_digest 138 = .ok (.lmul, 1) := by decide +kernel
theorem dX2_digest_139 : decode cX2_digest 139 = .ok (.iload 7, 2) := by decide +kernel
theorem dX2_digest_141 : decode cX2_digest 141 = .ok (.i2l, 1) := by decide +kernel
theorem dX2_digest_142 : decode cX2_digest 142 = .ok (.ladd, 1) := by decide +kernel
theorem dX2_digest_143 : decode cX2_digest 143 = .ok (.lstore_n 2, 1) := by decide +kernel
theorem dX2_digest_144 : decode cX2_digest 144 = .ok (.iinc 6 1, 3) := by decide +kernel
theorem dX2_digest_147 : decode cX2_digest 147 = .ok (.goto (-27), 3) := by decide +kernel
theorem dX2_digest_150 : decode cX2_digest 150 = .ok (.iconst 0, 1) := by decide +kernel
theorem dX2_digest_151 : decode cX2_digest 151 = .ok (.istore 4, 2) := by decide +kernel
theorem dX2_digest_153 : decode cX2_digest 153 = .ok (.iload 4, 2) := by decide +kernel
theorem dX2_digest_155 : decode cX2_digest 155 = .ok (.aload_n 0, 1) := by decide +kernel
theorem dX2_digest_156 : decode cX2_digest 156 = .ok (.getfield 7, 3) := by decide +kernel
theorem dX2_digest_159 : decode cX2_digest 159 = .ok (.if_icmp .ge 146, 3) := by decide +kernel
theorem dX2_digest_162 : decode cX2_digest 162 = .ok (.lload_n 2, 1) := by decide +kernel
theorem dX2_digest_163 : decode cX2_digest 163 = .ok (.ldc2_w 126, 3) := by decide +kernel
theorem dX2_digest_166 : decode cX2_digest 166 = .ok (.lmul, 1) := by decide +kernel
theorem dX2_digest_167 : decode cX2_digest 167 = .ok (.aload_n 0, 1) := by decide +kernel
theorem dX2_digest_168 : decode cX2_digest 168 = .ok (.getfield 16, 3) := by decide +kernel
theorem dX2_digest_171 : decode cX2_digest 171 = .ok (.bipush 8, 2) := by decide +kernel
theorem dX2_digest_173 : decode cX2_digest 173 = .ok (.iload 4, 2) := by decide +kernel
theorem dX2_digest_175 : decode cX2_digest 175 = .ok (.iadd, 1) := by decide +kernel
theorem dX2_digest_176 : decode cX2_digest 176 = .ok (.iaload, 1) := by decide +kernel
theorem dX2_digest_177 : decode cX2_digest 177 = .ok (.i2l, 1) := by decide +kernel
theorem dX2_digest_178 : decode cX2_digest 178 = .ok (.ladd, 1) := by decide +kernel
theorem dX2_digest_179 : decode cX2_digest 179 = .ok (.lstore_n 2, 1) := by decide +kernel
theorem dX2_digest_180 : decode cX2_digest 180 = .ok (.lload_n 2, 1) := by decide +kernel
theorem dX2_digest_181 : decode cX2_digest 181 = .ok (.ldc2_w 126, 3) := by decide +kernel
theorem dX2_digest_184 : decode cX2_digest 184 = .ok (.lmul, 1) := by decide +kernel
theorem dX2_digest_185 : decode cX2_digest 185 = .ok (.aload_n 0, 1) := by decide +kernel
theorem dX2_digest_186 : decode cX2_digest 186 = .ok (.getfield 16, 3) := by decide +kernel
theorem dX2_digest_189 : decode cX2_digest 189 = .ok (.bipush 18, 2) := by decide +kernel
theorem dX2_digest_191 : decode cX2_digest 191 = .ok (.iload 4, 2) := by decide +kernel
theorem dX2_digest_193 : decode cX2_digest 193 = .ok (.iadd, 1) := by decide +kernel
theorem dX2_digest_194 : decode cX2_digest 194 = .ok (.iaload, 1) := by decide +kernel
theorem dX2_digest_195 : decode cX2_digest 195 = .ok (.i2l, 1) := by decide +kernel
theorem dX2_digest_196 : decode cX2_digest 196 = .ok (.ladd, 1) := by decide +kernel
theorem dX2_digest_197 : decode cX2_digest 197 = .ok (.lstore_n 2, 1) := by decide +kernel
theorem dX2_digest_198 : decode cX2_digest 198 = .ok (.lload_n 2, 1) := by decide +kernel
theorem dX2_digest_199 : decode cX2_digest 199 = .ok (.ldc2_w 126, 3) := by decide +kernel
theorem dX2_digest_202 : decode cX2_digest 202 = .ok (.lmul, 1) := by decide +kernel
theorem dX2_digest_203 : decode cX2_digest 203 = .ok (.aload_n 0, 1) := by decide +kernel
theorem dX2_digest_204 : decode cX2_digest 204 = .ok (.getfield 16, 3) := by decide +kernel
theorem dX2_digest_207 : decode cX2_digest 207 = .ok (.bipush 28, 2) := by decide +kernel
theorem dX2_digest_209 : decode cX2_digest 209 = .ok (.iload 4, 2) := by decide +kernel
theorem dX2_digest_211 : decode cX2_digest 211 = .ok (.iadd, 1) := by decide +kernel
theorem dX2_digest_212 : decode cX2_digest 212 = .ok (.iaload, 1) := by decide +kernel
theorem dX2_digest_213 : decode cX2_digest 213 = .ok (.i2l, 1) := by decide +kernel
theorem dX2_digest_214 : decode cX2_digest 214 = .ok (.ladd, 1) := by decide +kernel
theorem dX2_digest_215 : decode cX2_digest 215 = .ok (.lstore_n 2, 1) := by decide +kernel
theorem dX2_digest_216 : decode cX2_digest 216 = .ok (.lload_n 2, 1) := by decide +kernel
theorem dX2_digest_217 : decode cX2_digest 217 = .ok (.ldc2_w 126, 3) := by decide +kernel
theorem dX2_digest_220 : decode cX2_digest 220 = .ok (.lmul, 1) := by decide +kernel
theorem dX2_digest_221 : decode cX2_digest 221 = .ok (.aload_n 0, 1) := by decide +kernel
theorem dX2_digest_222 : decode cX2_digest 222 = .ok (.getfield 16, 3) := by decide +kernel
theorem dX2_digest_225 : decode cX2_digest 225 = .ok (.bipush 38, 2) := by decide +kernel
theorem dX2_digest_227 : decode cX2_digest 227 = .ok (.iload 4, 2) := by decide +kernel
theorem dX2_digest_229 : decode cX2_digest 229 = .ok (.iadd, 1) := by decide +kernel
theorem dX2_digest_230 : decode cX2_digest 230 = .ok (.iaload, 1) := by decide +kernel
theorem dX2_digest_231 : decode cX2_digest 231 = .ok (.i2l, 1) := by decide +kernel
theorem dX2_digest_232 : decode cX2_digest 232 = .ok (.ladd, 1) := by decide +kernel
theorem dX2_digest_233 : decode cX2_digest 233 = .ok (.lstore_n 2, 1) := by decide +kernel
theorem dX2_digest_234 : decode cX2_digest 234 = .ok (.iconst 0, 1) := by decide +kernel
theorem dX2_digest_235 : decode cX2_digest 235 = .ok (.istore 5, 2) := by decide +kernel
theorem dX2_digest_237 : decode cX2_digest 237 = .ok (.iload 5, 2) := by decide +kernel
theorem dX2_digest_239 : decode cX2_digest 239 = .ok (.aload_n 0, 1) := by decide +kernel
theorem dX2_digest_240 : decode cX2_digest 240 = .ok (.getfield 7, 3) := by decide +kernel
theorem dX2_digest_243 : decode cX2_digest 243 = .ok (.if_icmp .ge 56, 3) := by decide +kernel
theorem dX2_digest_246 : decode cX2_digest 246 = .ok (.lload_n 2, 1) := by decide +kernel
theorem dX2_digest_247 : decode cX2_digest 247 = .ok (.ldc2_w 126, 3) := by decide +kernel
theorem dX2_digest_250 : decode cX2_digest 250 = .ok (.lmul, 1) := by decide +kernel
theorem dX2_digest_251 : decode cX2_digest 251 = .ok (.aload_n 0, 1) := by decide +kernel
theorem dX2_digest_252 : decode cX2_digest 252 = .ok (.getfield 16, 3) := by decide +kernel
theorem dX2_digest_255 : decode cX2_digest 255 = .ok (.bipush 48, 2) := by decide +kernel
theorem dX2_digest_257 : decode cX2_digest 257 = .ok (.iload 4, 2) := by decide +kernel
theorem dX2_digest_259 : decode cX2_digest 259 = .ok (.iload 5, 2) := by decide +kernel
theorem dX2_digest_261 : decode cX2_digest 261 = .ok (.invokestatic 56, 3) := by decide +kernel
theorem dX2_digest_264 : decode cX2_digest 264 = .ok (.iadd, 1) := by decide +kernel
theorem dX2_digest_265 : decode cX2_digest 265 = .ok (.iaload, 1) := by decide +kernel
theorem dX2_digest_266 : decode cX2_digest 266 = .ok (.i2l, 1) := by decide +kernel
theorem dX2_digest_267 : decode cX2_digest 267 = .ok (.ladd, 1) := by decide +kernel
theorem dX2_digest_268 : decode cX2_digest 268 = .ok (.lstore_n 2, 1) := by decide +kernel
theorem dX2_digest_269 : decode cX2_digest 269 = .ok (.lload_n 2, 1) := by decide +kernel
theorem dX2_digest_270 : decode cX2_digest 270 = .ok (.ldc2_w 126, 3) := by decide +kernel
theorem dX2_digest_273 : decode cX2_digest 273 = .ok (.lmul, 1) := by decide +kernel
theorem dX2_digest_274 : decode cX2_digest 274 = .ok (.aload_n 0, 1) := by decide +kernel
theorem dX2_digest_275 : decode cX2_digest 275 = .ok (.getfield 16, 3) := by decide +kernel
theorem dX2_digest_278 : decode cX2_digest 278 = .ok (.sipush 248, 3) := by decide +kernel
theorem dX2_digest_281 : decode cX2_digest 281 = .ok (.iload 4, 2) := by decide +kernel
theorem dX2_digest_283 : decode cX2_digest 283 = .ok (.iload 5, 2) := by decide +kernel
theorem dX2_digest_285 : decode cX2_digest 285 = .ok (.invokestatic 56, 3) := by decide +kernel
theorem dX2_digest_288 : decode cX2_digest 288 = .ok (.iadd, 1) := by decide +kernel
theorem dX2_digest_289 : decode cX2_digest 289 = .ok (.iaload, 1) := by decide +kernel
theorem dX2_digest_290 : decode cX2_digest 290 = .ok (.i2l, 1) := by decide +kernel
theorem dX2_digest_291 : decode cX2_digest 291 = .ok (.ladd, 1) := by decide +kernel
theorem dX2_digest_292 : decode cX2_digest 292 = .ok (.lstore_n 2, 1) := by decide +kernel
theorem dX2_digest_293 : decode cX2_digest 293 = .ok (.iinc 5 1, 3) := by decide +kernel
theorem dX2_digest_296 : decode cX2_digest 296 = .ok (.goto (-59), 3) := by decide +kernel
theorem dX2_digest_299 : decode cX2_digest 299 = .ok (.iinc 4 1, 3) := by decide +kernel
theorem dX2_digest_302 : decode cX2_digest 302 = .ok (.goto (-149), 3) := by decide +kernel
theorem dX2_digest_305 : decode cX2_digest 305 = .ok (.lload_n 2, 1) := by decide +kernel
theorem dX2_digest_306 : decode cX2_digest 306 = .ok (.lreturn, 1) := by decide +kernel
theorem dJ9_abs_0f7a4_0 : decode cJ9_abs_0f7a4 0 = .ok (.iload_n 0, 1) := by decide +kernel
theorem dJ9_abs_0f7a4_1 : decode cJ9_abs_0f7a4 1 = .ok (.ifCond .ge 8, 3) := by decide +kernel
theorem dJ9_abs_0f7a4_4 : decode cJ9_abs_0f7a4 4 = .ok (.iload_n 0, 1) := by decide +kernel
theorem dJ9_abs_0f7a4_5 : decode cJ9_abs_0f7a4 5 = .ok (.ineg, 1) := by decide +kernel
theorem dJ9_abs_0f7a4_6 : decode cJ9_abs_0f7a4 6 = .ok (.goto 4, 3) := by decide +kernel
theorem dJ9_abs_0f7a4_9 : decode cJ9_abs_0f7a4 9 = .ok (.iload_n 0, 1) := by decide +kernel
theorem dJ9_abs_0f7a4_10 : decode cJ9_abs_0f7a4 10 = .ok (.ireturn, 1) := by decide +kernel
theorem dJ9_max_7cf53_0 : decode cJ9_max_7cf53 0 = .ok (.iload_n 0, 1) := by decide +kernel
theorem dJ9_max_7cf53_1 : decode cJ9_max_7cf53 1 = .ok (.iload_n 1, 1) := by decide +kernel
theorem dJ9_max_7cf53_2 : decode cJ9_max_7cf53 2 = .ok (.if_icmp .lt 7, 3) := by decide +kernel
theorem dJ9_max_7cf53_5 : decode cJ9_max_7cf53 5 = .ok (.iload_n 0, 1) := by decide +kernel
theorem dJ9_max_7cf53_6 : decode cJ9_max_7cf53 6 = .ok (.goto 4, 3) := by decide +kernel
theorem dJ9_max_7cf53_9 : decode cJ9_max_7cf53 9 = .ok (.iload_n 1, 1) := by decide +kernel
theorem dJ9_max_7cf53_10 : decode cJ9_max_7cf53 10 = .ok (.ireturn, 1) := by decide +kernel
theorem dJ9_min_7cf53_0 : decode cJ9_min_7cf53 0 = .ok (.iload_n 0, 1) := by decide +kernel
theorem dJ9_min_7cf53_1 : decode cJ9_min_7cf53 1 = .ok (.iload_n 1, 1) := by decide +kernel
theorem dJ9_min_7cf53_2 : decode cJ9_min_7cf53 2 = .ok (.if_icmp .gt 7, 3) := by decide +kernel
theorem dJ9_min_7cf53_5 : decode cJ9_min_7cf53 5 = .ok (.iload_n 0, 1) := by decide +kernel
theorem dJ9_min_7cf53_6 : decode cJ9_min_7cf53 6 = .ok (.goto 4, 3) := by decide +kernel
theorem dJ9_min_7cf53_9 : decode cJ9_min_7cf53 9 = .ok (.iload_n 1, 1) := by decide +kernel
theorem dJ9_min_7cf53_10 : decode cJ9_min_7cf53 10 = .ok (.ireturn, 1) := by decide +kernel
theorem dJ7_fill_53178_0 : decode cJ7_fill_53178 0 = .ok (.iconst 0, 1) := by decide +kernel
theorem dJ7_fill_53178_1 : decode cJ7_fill_53178 1 = .ok (.istore_n 2, 1) := by decide +kernel
theorem dJ7_fill_53178_2 : decode cJ7_fill_53178 2 = .ok (.aload_n 0, 1) := by decide +kernel
theorem dJ7_fill_53178_3 : decode cJ7_fill_53178 3 = .ok (.arraylength, 1) := by decide +kernel
theorem dJ7_fill_53178_4 : decode cJ7_fill_53178 4 = .ok (.istore_n 3, 1) := by decide +kernel
theorem dJ7_fill_53178_5 : decode cJ7_fill_53178 5 = .ok (.iload_n 2, 1) := by decide +kernel
theorem dJ7_fill_53178_6 : decode cJ7_fill_53178 6 = .ok (.iload_n 3, 1) := by decide +kernel
theorem dJ7_fill_53178_7 : decode cJ7_fill_53178 7 = .ok (.if_icmp .ge 13, 3) := by decide +kernel
theorem dJ7_fill_53178_10 : decode cJ7_fill_53178 10 = .ok (.aload_n 0, 1) := by decide +kernel
theorem dJ7_fill_53178_11 : decode cJ7_fill_53178 11 = .ok (.iload_n 2, 1) := by decide +kernel
theorem dJ7_fill_53178_12 : decode cJ7_fill_53178 12 = .ok (.iload_n 1, 1) := by decide +kernel
theorem dJ7_fill_53178_13 : decode cJ7_fill_53178 13 = .ok (.iastore, 1) := by decide +kernel
theorem dJ7_fill_53178_14 : decode cJ7_fill_53178 14 = .ok (.iinc 2 1, 3) := by decide +kernel
theorem dJ7_fill_53178_17 : decode cJ7_fill_53178 17 = .ok (.goto (-12), 3) := by decide +kernel
theorem dJ7_fill_53178_20 : decode cJ7_fill_53178 20 = .ok (.return_, 1) := by decide +kernel
end
section
/-! Own base: contracts over a world that is a list of cells, calls with the frame rule in one row, ends in one row. -/
section BA
/-- the one link across the nest: Dinner's call of pairOf -/
def wNest (U : State) : Prop := va_Nw (.methodLinkNest RX0 84 yX1_pairOf RX1) U
/-- a method's world at its start -/
def wPre (D : va_G) (tys : List (ClassId × FieldType)) (W0 : va_W) (sz : Nat) (U : State) : Prop := U.heap.size = sz ∧ va_P D vwCl W0 U.heap ∧ va_K D vwCl tys U ∧ va_D (fun _ => True) W0 ∧ wNest U
/-- a method's world behind it -/
def wPost {S : Type} (D : va_G) (Wf : S → va_W) (A : Nat → Prop) (u : S) (t : State) : Prop := va_P D vwCl (Wf u) t.heap ∧ va_D A (Wf u)
abbrev wCt (l : Launch) (y : MethodName) (ws : List Cond) (rm : Room) (D : va_G) (tys : List (ClassId × FieldType)) (av : List Value) (W0 : va_W) (sz mc ms : Nat) (Qf : (Nat → Prop) → Array Value → State → Outcome → State → Prop) : Prop :=
  Met l y ws rm (va_Pc av (wPre D tys W0 sz)) (Qf (va_A W0 sz)) mc ms (va_A W0 sz)
abbrev wQi {S : Type} (D : va_G) (post : Int32 → S → Prop) (Wf : S → va_W) : (Nat → Prop) → Array Value → State → Outcome → State → Prop := fun A => va_Qi post (wPost D Wf A) A
abbrev wQl {S : Type} (D : va_G) (post : Int64 → S → Prop) (Wf : S → va_W) : (Nat → Prop) → Array Value → State → Outcome → State → Prop := fun A => va_Ql post (wPost D Wf A) A
abbrev wQd {S : Type} (D : va_G) (post : UInt64 → S → Prop) (Wf : S → va_W) : (Nat → Prop) → Array Value → State → Outcome → State → Prop := fun A => va_Qd post (wPost D Wf A) A
abbrev wQv {S : Type} (D : va_G) (post : S → Prop) (Wf : S → va_W) : (Nat → Prop) → Array Value → State → Outcome → State → Prop := fun A => va_Qv post (wPost D Wf A) A
theorem wBlind {D : va_G} {tys : List (ClassId × FieldType)} {av : List Value} {W0 : va_W} {sz : Nat} : FrameBlind (va_Pc av (wPre D tys W0 sz)) := fun a U g mk q => by
  obtain ⟨e, hz, hP, hK, hD, hN⟩ := q
  exact ⟨e, hz, hP, va_K.moved (u := U) (U := U.calling g mk a) (Vm.Alike.refl U.vm) hK, hD, va_Nw.same rfl rfl hN⟩
/-- a contract by a walk -/
theorem wMet {l : Launch} {y : MethodName} {ws ws' : List Cond} {rm : Room} {D : va_G} {tys : List (ClassId × FieldType)} {av : List Value} {W0 : va_W} {sz mc ms : Nat} {Qf : (Nat → Prop) → Array Value → State → Outcome → State → Prop} (cc : ByteArray) (maxL : Nat) (ret : Option FieldType)
    (hy : plainName y.cls = true) (hw : ws = Cond.code y cc maxL ret :: ws') (hle : (lg_sl av).length ≤ maxL)
    (body : ∀ (p : Program) (e : Env) (s : State) (m : MethodId) (args : Array Value) (below : List Frame) (meth : Method) (c : Code) (A : Nat → Prop) (Q : State → Prop) (ls : Array Slot), MQ below (Qf A) args s mc ms A = Q → p.tables.exec = Jvm.exec → c.code = cc → meth.sig.returnType = ret → c.maxLocals = maxL → s.vm.findClass y.cls = some m.cls → meth.locks = false → meth.name = y.name → (∀ w ∈ ws, w.before args s = true) → wNest s → va_P D vwCl W0 s.heap → va_K D vwCl tys s → va_D A W0 → (∀ q : Nat, s.heap.size ≤ q → A q) → va_S A s.heap s.heap [] → lv_has ls maxL (lv_args 0 av) → W p l e rm s m args below meth c s.heap [] 0 0 Q (F0 m 0 ls [])) :
    wCt l y ws rm D tys av W0 sz mc ms Qf := by
  refine Met.ofW (cc := cc) (maxL := maxL) (ret := ret) hy hw ?_
  intro p e s m args below meth c s₁ B hml hv
  obtain ⟨rfl, hsz, hP, hK, hD0, hN⟩ := hv
  have hts := atoms_spec (ws := ws) B.pre
  have hin := (name_of_methodNamed B.named B.method).1
  subst hsz
  have hD := hD0.self (sz := s.heap.size)
  have hl := lv_entry av (n := maxL) hle
  rw [lg_entry_eq]
  exact body p e s m av.toArray below meth c (va_A W0 s.heap.size) _ _ rfl B.exec B.bytes B.returns hml (findClass_of_methodNamed B.named) B.notSynchronized hin hts hN hP hK hD (fun q h => Or.inr h) va_S.rf hl
/-- the cells of a callee's world, in the middle of the caller's -/
theorem wFrame {A0 : Nat → Prop} {D : va_G} {pre Wc suf Wn : va_W} {H H1 : Heap} (hP : va_P D vwCl (pre ++ (Wc ++ suf)) H) (hD : va_D A0 (pre ++ (Wc ++ suf))) (hk : ∀ q : Nat, q < H.size → ¬ va_A Wc H.size q → H1[q]? = H[q]?) (hF : ∀ q, va_A Wc H.size q → A0 q) (hP1 : va_P D vwCl Wn H1) (hD1 : va_D (va_A Wc H.size) Wn) :
    va_P D vwCl (pre ++ (Wn ++ suf)) H1 ∧ va_D A0 (pre ++ (Wn ++ suf)) := by
  have key : ∀ (i : Nat) (q : Nat × va_E), (pre ++ (Wn ++ suf))[i]? = some q → (∃ j, (pre ++ (Wc ++ suf))[j]? = some q ∧ ((j < pre.length ∧ i = j) ∨ (pre.length + Wc.length ≤ j ∧ i + Wc.length = j + Wn.length))) ∨ (∃ j, Wn[j]? = some q ∧ i = pre.length + j) := by
    intro i q hq
    rcases Nat.lt_or_ge i pre.length with h | h
    · rw [List.getElem?_append_left h] at hq
      exact Or.inl ⟨i, by rw [List.getElem?_append_left h]; exact hq, Or.inl ⟨h, rfl⟩⟩
    · rw [List.getElem?_append_right h] at hq
      rcases Nat.lt_or_ge (i - pre.length) Wn.length with h2 | h2
      · rw [List.getElem?_append_left h2] at hq
        exact Or.inr ⟨i - pre.length, hq, by omega⟩
      · rw [List.getElem?_append_right h2] at hq
        refine Or.inl ⟨pre.length + (Wc.length + (i - pre.length - Wn.length)), ?_, Or.inr ⟨by omega, by omega⟩⟩
        rw [List.getElem?_append_right (by omega), List.getElem?_append_right (by omega)]
        rw [show pre.length + (Wc.length + (i - pre.length - Wn.length)) - pre.length - Wc.length = i - pre.length - Wn.length by omega]
        exact hq
  have apart : ∀ (j : Nat) (q : Nat × va_E), (pre ++ (Wc ++ suf))[j]? = some q → (j < pre.length ∨ pre.length + Wc.length ≤ j) → q.1 < H.size ∧ ¬ va_A Wc H.size q.1 := by
    intro j q hq hj
    have hl := (hP j q hq).lt
    refine ⟨hl, fun h => ?_⟩
    rcases h with ⟨k2, e, h⟩ | h
    · have hk2 : k2 < Wc.length := (List.getElem?_eq_some_iff.mp h).1
      have h4 : (pre ++ (Wc ++ suf))[pre.length + k2]? = some (q.1, e) := by
        rw [List.getElem?_append_right (by omega), List.getElem?_append_left (by omega)]
        rw [show pre.length + k2 - pre.length = k2 by omega]
        exact h
      have hij := hD.1 j (pre.length + k2) q (q.1, e) hq h4 rfl
      omega
    · omega
  refine ⟨fun i q hq => ?_, ⟨fun i i' q q' hq hq' he => ?_, fun i q hq => ?_⟩⟩
  · rcases key i q hq with ⟨j, hj, hx⟩ | ⟨j, hj, -⟩
    · obtain ⟨g1, g2⟩ := apart j q hj (by omega)
      exact (hP j q hj).kept (hk q.1 g1 g2)
    · exact hP1 j q hj
  · rcases key i q hq with ⟨j, hj, hx⟩ | ⟨j, hj, hx⟩ <;> rcases key i' q' hq' with ⟨j', hj', hx'⟩ | ⟨j', hj', hx'⟩
    · have := hD.1 j j' q q' hj hj' he
      omega
    · exact absurd (by rw [he]; exact hD1.2 j' q' hj') (apart j q hj (by omega)).2
    · exact absurd (by rw [← he]; exact hD1.2 j q hj) (apart j' q' hj' (by omega)).2
    · have := hD1.1 j j' q q' hj hj' he
      omega
  · rcases key i q hq with ⟨j, hj, -⟩ | ⟨j, hj, -⟩
    · exact hD.2 j q hj
    · exact hF q.1 (hD1.2 j q hj)
theorem wFree {A0 : Nat → Prop} {D : va_G} {pre Wc suf : va_W} {H0 H : Heap} {locs : List Loc} (hD : va_D A0 (pre ++ (Wc ++ suf))) (hS : va_S A0 H0 H locs) (hA : ∀ q : Nat, H0.size ≤ q → A0 q) : ∀ q, va_A Wc H.size q → A0 q := by
  intro q h
  rcases h with ⟨k, e, h⟩ | h
  · have hk2 : k < Wc.length := (List.getElem?_eq_some_iff.mp h).1
    exact hD.2 (pre.length + k) (q, e) (by
      rw [List.getElem?_append_right (by omega), List.getElem?_append_left (by omega)]
      rw [show pre.length + k - pre.length = k by omega]
      exact h)
  · exact hA q (Nat.le_trans hS.1 h)
theorem wDc {A0 : Nat → Prop} {pre Wc suf : va_W} (hD : va_D A0 (pre ++ (Wc ++ suf))) : va_D (fun _ => True) Wc := by
  have key : ∀ (k : Nat) (q : Nat × va_E), Wc[k]? = some q → (pre ++ (Wc ++ suf))[pre.length + k]? = some q := by
    intro k q h
    have hk2 : k < Wc.length := (List.getElem?_eq_some_iff.mp h).1
    rw [List.getElem?_append_right (by omega), List.getElem?_append_left (by omega)]
    rw [show pre.length + k - pre.length = k by omega]
    exact h
  refine ⟨fun i j p q hp hq he => ?_, fun _ _ _ => trivial⟩
  have := hD.1 _ _ p q (key i p hp) (key j q hq) he
  omega
theorem wPc {D : va_G} {pre Wc suf : va_W} {H : Heap} (hP : va_P D vwCl (pre ++ (Wc ++ suf)) H) : va_P D vwCl Wc H := by
  intro k q h
  have hk2 : k < Wc.length := (List.getElem?_eq_some_iff.mp h).1
  refine hP (pre.length + k) q ?_
  rw [List.getElem?_append_right (by omega), List.getElem?_append_left (by omega)]
  rw [show pre.length + k - pre.length = k by omega]
  exact h
/-- two rows that agree below their length are the same cell -/
theorem wCell {cA : ClassId} {N : Nat} {g g' : Nat → Int32} (h : ∀ j, j < N → g j = g' j) : vp_cell cA (N, .inl g) = vp_cell cA (N, .inl g') := by
  have e : (Array.ofFn (n := N) fun j => Value.int (g j.val)) = Array.ofFn (n := N) fun j => Value.int (g' j.val) := congrArg Array.ofFn (funext fun j => by rw [h j.val j.isLt])
  show arrV cA N (fun j => Value.int (g j)) = arrV cA N (fun j => Value.int (g' j))
  unfold arrV
  rw [e]
/-- worlds whose cells are the same, one by one -/
def wEq (D : va_G) (ws ws' : va_W) : Prop := (∀ (k : Nat) (q' : Nat × va_E), ws'[k]? = some q' → ∃ q, ws[k]? = some q ∧ q.1 = q'.1 ∧ ∀ H, va_at D vwCl q H → va_at D vwCl q' H)
theorem wEq.P {D : va_G} {ws ws' : va_W} {H : Heap} (h : wEq D ws ws') (hP : va_P D vwCl ws H) : va_P D vwCl ws' H := fun k q' hk => by
  obtain ⟨q, h1, -, h3⟩ := h k q' hk
  exact h3 H (hP k q h1)
theorem wEq.D {D : va_G} {ws ws' : va_W} {A : Nat → Prop} (h : wEq D ws ws') (hD : va_D A ws) : va_D A ws' := by
  refine ⟨fun i j p q hp hq he => ?_, fun k q hk => ?_⟩
  · obtain ⟨p0, a1, a2, -⟩ := h i p hp
    obtain ⟨q0, b1, b2, -⟩ := h j q hq
    exact hD.1 i j p0 q0 a1 b1 (by rw [a2, b2, he])
  · obtain ⟨q0, b1, b2, -⟩ := h k q hk
    rw [← b2]
    exact hD.2 k q0 b1
theorem wEq.nil {D : va_G} : wEq D [] [] := fun k q h => by simp at h
theorem wEq.cons {D : va_G} {ws ws' : va_W} {a : Nat} {e e' : va_E} (he : ∀ H, va_at D vwCl (a, e) H → va_at D vwCl (a, e') H) (h : wEq D ws ws') : wEq D ((a, e) :: ws) ((a, e') :: ws') := by
  intro k q' hk
  match k with
  | 0 => cases hk; exact ⟨(a, e), rfl, rfl, he⟩
  | k + 1 => exact h k q' hk
theorem wEq.row {D : va_G} {ws ws' : va_W} {a : Nat} {cA : ClassId} {N : Nat} {g g' : Nat → Int32} (hg : ∀ j, j < N → g j = g' j) (h : wEq D ws ws') : wEq D ((a, .inl (cA, N, .inl g)) :: ws) ((a, .inl (cA, N, .inl g')) :: ws') := wEq.cons (fun H h1 => by
  have h2 : H[a]? = some (vp_cell cA (N, .inl g)) := h1
  rw [wCell hg] at h2
  exact h2) h
theorem wEq.rf {D : va_G} {ws : va_W} : wEq D ws ws := fun k q h => ⟨q, h, rfl, fun _ h => h⟩
theorem wTys {D : va_G} {cl : List vw_C} {tys : List (ClassId × FieldType)} {U : State} (h : va_K D cl tys U) {i j : Nat} {c1 c2 : ClassId} (h1 : tys[i]? = some (c1, .int)) (h2 : tys[j]? = some (c2, .int)) : c1 = c2 := by
  have a := (h.2 i _ h1).2
  have b := (h.2 j _ h2).2
  have a' : U.vm.findClass ("[" ++ (FieldType.int).toString) = some c1 := a
  have b' : U.vm.findClass ("[" ++ (FieldType.int).toString) = some c2 := b
  exact Option.some.inj (a'.symm.trans b')
end BA
section BC
variable {p : Program} {l : Launch} {e : Env} {R : Room} {s : State} {m : MethodId} {args : Array Value} {below : List Frame} {meth : Method} {c : Code} {H : Heap} {locs : List Loc} {cells slots : Nat} {Q : State → Prop}
variable {y : MethodName} {bytes cc : ByteArray} {maxL nL mc ms n index : Nat} {ret : Option FieldType} {ws : List Cond} {rm : Room} {Ts : List Cond} {own C host : String} {b : Addr} {As rest st0 : List Value} {pc : Nat} {ls : Array Slot}
variable {D : va_G} {tys tysc : List (ClassId × FieldType)} {A0 : Nat → Prop} {H0 : Heap} {S : Type} {Wf : S → va_W}
/-- what a caller has at hand of its world -/
def wAt (D : va_G) (W0 : va_W) (A0 : Nat → Prop) (H0 H : Heap) (locs : List Loc) : Prop := va_P D vwCl W0 H ∧ va_D A0 W0 ∧ va_S A0 H0 H locs
theorem wPreS {tys : List (ClassId × FieldType)} {pre Wc suf : va_W} (hN : wNest s) (hK : va_K D vwCl tys s) (hP : va_P D vwCl (pre ++ (Wc ++ suf)) H) (hD : va_D A0 (pre ++ (Wc ++ suf))) {av : List Value} : PreS s H (va_Pc av (wPre D tys Wc H.size)) av :=
  ⟨wBlind, fun U hU hW => ⟨rfl, by rw [hU], by rw [hU]; exact wPc hP, va_K.moved hW.alike hK, wDc hD, va_Nw.warmM hW hN⟩⟩
theorem wPreV {tys : List (ClassId × FieldType)} {pre Wc suf : va_W} (hN : wNest s) (hK : va_K D vwCl tys s) (hP : va_P D vwCl (pre ++ (Wc ++ suf)) H) (hD : va_D A0 (pre ++ (Wc ++ suf))) (q0 : Nat) {ci : Nat} {fs : List Value} {r : vw_C} (hc : vwCl[ci]? = some r) (he : Wc[q0]? = some (b, .inr (ci, fs))) : PreV s H r.1 b (va_Pc (.ref b :: As) (wPre D tys Wc H.size)) As :=
  ⟨wBlind, va_recv hK (wPc hP) hc he, fun U hU hW => ⟨rfl, by rw [hU], by rw [hU]; exact wPc hP, va_K.moved hW.alike hK, wDc hD, va_Nw.warmM hW hN⟩⟩
/-- behind a call, an int: the world, with the callee's cells new -/
theorem wKi {post : Int32 → S → Prop} {pre Wc suf : va_W} {a : Array Value} (hr : va_Run p l e R s m args below meth c H locs cells slots 0 0 (F0 m pc ls st0) rest (wQi D post Wf (va_A Wc H.size) a) (va_A Wc H.size)) (hP : va_P D vwCl (pre ++ (Wc ++ suf)) H) (hD : va_D A0 (pre ++ (Wc ++ suf))) (hS : va_S A0 H0 H locs) (hA : ∀ q : Nat, H0.size ≤ q → A0 q)
    (kk : ∀ (r : Int32) (u : S) (H1 : Heap) (locs1 : List Loc), post r u → va_P D vwCl (pre ++ (Wf u ++ suf)) H1 → va_D A0 (pre ++ (Wf u ++ suf)) → va_S A0 H0 H1 locs1 → W p l e R s m args below meth c H1 locs1 cells slots Q (F0 m (pc + 3) ls (.int r :: rest))) : W p l e R s m args below meth c H locs cells slots Q (F0 m pc ls st0) := by
  have hF := wFree (D := D) hD hS hA
  refine va_calli hr hS (fun q _ h => hF q h) hF (fun r u t H1 locs1 ht hvm hw hB hz1 hk1 hS1 => ?_)
  obtain ⟨hP1, hD1⟩ := hB
  rw [ht] at hP1
  obtain ⟨a1, a2⟩ := wFrame hP hD hk1 hF hP1 hD1
  exact kk r u H1 locs1 hw a1 a2 hS1
theorem wKl {post : Int64 → S → Prop} {pre Wc suf : va_W} {a : Array Value} (hr : va_Run p l e R s m args below meth c H locs cells slots 0 0 (F0 m pc ls st0) rest (wQl D post Wf (va_A Wc H.size) a) (va_A Wc H.size)) (hP : va_P D vwCl (pre ++ (Wc ++ suf)) H) (hD : va_D A0 (pre ++ (Wc ++ suf))) (hS : va_S A0 H0 H locs) (hA : ∀ q : Nat, H0.size ≤ q → A0 q)
    (kk : ∀ (r : Int64) (u : S) (H1 : Heap) (locs1 : List Loc), post r u → va_P D vwCl (pre ++ (Wf u ++ suf)) H1 → va_D A0 (pre ++ (Wf u ++ suf)) → va_S A0 H0 H1 locs1 → W p l e R s m args below meth c H1 locs1 cells slots Q (F0 m (pc + 3) ls (.long r :: rest))) : W p l e R s m args below meth c H locs cells slots Q (F0 m pc ls st0) := by
  have hF := wFree (D := D) hD hS hA
  refine va_calll hr hS (fun q _ h => hF q h) hF (fun r u t H1 locs1 ht hvm hw hB hz1 hk1 hS1 => ?_)
  obtain ⟨hP1, hD1⟩ := hB
  rw [ht] at hP1
  obtain ⟨a1, a2⟩ := wFrame hP hD hk1 hF hP1 hD1
  exact kk r u H1 locs1 hw a1 a2 hS1
theorem wKv {post : S → Prop} {pre Wc suf : va_W} {a : Array Value} (hr : va_Run p l e R s m args below meth c H locs cells slots 0 0 (F0 m pc ls st0) rest (wQv D post Wf (va_A Wc H.size) a) (va_A Wc H.size)) (hP : va_P D vwCl (pre ++ (Wc ++ suf)) H) (hD : va_D A0 (pre ++ (Wc ++ suf))) (hS : va_S A0 H0 H locs) (hA : ∀ q : Nat, H0.size ≤ q → A0 q)
    (kk : ∀ (u : S) (H1 : Heap) (locs1 : List Loc), post u → va_P D vwCl (pre ++ (Wf u ++ suf)) H1 → va_D A0 (pre ++ (Wf u ++ suf)) → va_S A0 H0 H1 locs1 → W p l e R s m args below meth c H1 locs1 cells slots Q (F0 m (pc + 3) ls rest)) : W p l e R s m args below meth c H locs cells slots Q (F0 m pc ls st0) := by
  have hF := wFree (D := D) hD hS hA
  refine va_callv hr hS (fun q _ h => hF q h) hF (fun u t H1 locs1 ht hvm hw hB hz1 hk1 hS1 => ?_)
  obtain ⟨hP1, hD1⟩ := hB
  rw [ht] at hP1
  obtain ⟨a1, a2⟩ := wFrame hP hD hk1 hF hP1 hD1
  exact kk u H1 locs1 hw a1 a2 hS1
/-- calls: V an instance method, S a static one, N a static one of a nest mate; i, l, v: what it answers -/
theorem wCVi {post : Int32 → S → Prop} {W0 pre Wc suf : va_W} (F : CallFix p m c cc nL s args Ts own) (hM : wCt l y ws rm D tysc (.ref b :: As) Wc H.size 0 0 (wQi D post Wf)) (hN : wNest s) (hA : ∀ q : Nat, H0.size ≤ q → A0 q) (hK : va_K D vwCl tysc s) (hS : va_S A0 H0 H locs) (hP : va_P D vwCl W0 H) (hD : va_D A0 W0) (hW0 : W0 = pre ++ (Wc ++ suf)) (q0 : Nat) {ci : Nat} {fs : List Value} {r : vw_C} (hc : vwCl[ci]? = some r) (he : Wc[q0]? = some (b, .inr (ci, fs)))
    (cw : CallW R s args own r.1 index y bytes maxL ret ws rm 0 0 n) (hn : As.length = n) (hz : ls.size = nL) (hst : st0 = As.reverse ++ .ref b :: rest) (hr : (rest.map fun v => v.category).sum ≤ 8) (hdg : decode cc pc = .ok (.invokevirtual index, 3)) (hf : cells ≤ R.cells ∧ slots ≤ R.slots)
    (kk : ∀ (r : Int32) (u : S) (H1 : Heap) (locs1 : List Loc), post r u → va_P D vwCl (pre ++ (Wf u ++ suf)) H1 → va_D A0 (pre ++ (Wf u ++ suf)) → va_S A0 H0 H1 locs1 → W p l e R s m args below meth c H1 locs1 cells slots Q (F0 m (pc + 3) ls (.int r :: rest))) : W p l e R s m args below meth c H locs cells slots Q (F0 m pc ls st0) := by
  subst hW0
  exact wKi (va_runV (As := As) (rest := rest) F hM cw (wPreV hN hK hP hD q0 hc he) rfl hn hz hst (lv_room hr) hdg hf) hP hD hS hA kk
theorem wCVl {post : Int64 → S → Prop} {W0 pre Wc suf : va_W} (F : CallFix p m c cc nL s args Ts own) (hM : wCt l y ws rm D tysc (.ref b :: As) Wc H.size 0 0 (wQl D post Wf)) (hN : wNest s) (hA : ∀ q : Nat, H0.size ≤ q → A0 q) (hK : va_K D vwCl tysc s) (hS : va_S A0 H0 H locs) (hP : va_P D vwCl W0 H) (hD : va_D A0 W0) (hW0 : W0 = pre ++ (Wc ++ suf)) (q0 : Nat) {ci : Nat} {fs : List Value} {r : vw_C} (hc : vwCl[ci]? = some r) (he : Wc[q0]? = some (b, .inr (ci, fs)))
    (cw : CallW R s args own r.1 index y bytes maxL ret ws rm 0 0 n) (hn : As.length = n) (hz : ls.size = nL) (hst : st0 = As.reverse ++ .ref b :: rest) (hr : (rest.map fun v => v.category).sum ≤ 8) (hdg : decode cc pc = .ok (.invokevirtual index, 3)) (hf : cells ≤ R.cells ∧ slots ≤ R.slots)
    (kk : ∀ (r : Int64) (u : S) (H1 : Heap) (locs1 : List Loc), post r u → va_P D vwCl (pre ++ (Wf u ++ suf)) H1 → va_D A0 (pre ++ (Wf u ++ suf)) → va_S A0 H0 H1 locs1 → W p l e R s m args below meth c H1 locs1 cells slots Q (F0 m (pc + 3) ls (.long r :: rest))) : W p l e R s m args below meth c H locs cells slots Q (F0 m pc ls st0) := by
  subst hW0
  exact wKl (va_runV (As := As) (rest := rest) F hM cw (wPreV hN hK hP hD q0 hc he) rfl hn hz hst (lv_room hr) hdg hf) hP hD hS hA kk
theorem wCVv {post : S → Prop} {W0 pre Wc suf : va_W} (F : CallFix p m c cc nL s args Ts own) (hM : wCt l y ws rm D tysc (.ref b :: As) Wc H.size 0 0 (wQv D post Wf)) (hN : wNest s) (hA : ∀ q : Nat, H0.size ≤ q → A0 q) (hK : va_K D vwCl tysc s) (hS : va_S A0 H0 H locs) (hP : va_P D vwCl W0 H) (hD : va_D A0 W0) (hW0 : W0 = pre ++ (Wc ++ suf)) (q0 : Nat) {ci : Nat} {fs : List Value} {r : vw_C} (hc : vwCl[ci]? = some r) (he : Wc[q0]? = some (b, .inr (ci, fs)))
    (cw : CallW R s args own r.1 index y bytes maxL ret ws rm 0 0 n) (hn : As.length = n) (hz : ls.size = nL) (hst : st0 = As.reverse ++ .ref b :: rest) (hr : (rest.map fun v => v.category).sum ≤ 8) (hdg : decode cc pc = .ok (.invokevirtual index, 3)) (hf : cells ≤ R.cells ∧ slots ≤ R.slots)
    (kk : ∀ (u : S) (H1 : Heap) (locs1 : List Loc), post u → va_P D vwCl (pre ++ (Wf u ++ suf)) H1 → va_D A0 (pre ++ (Wf u ++ suf)) → va_S A0 H0 H1 locs1 → W p l e R s m args below meth c H1 locs1 cells slots Q (F0 m (pc + 3) ls rest)) : W p l e R s m args below meth c H locs cells slots Q (F0 m pc ls st0) := by
  subst hW0
  exact wKv (va_runV (As := As) (rest := rest) F hM cw (wPreV hN hK hP hD q0 hc he) rfl hn hz hst (lv_room hr) hdg hf) hP hD hS hA kk
theorem wCSi {post : Int32 → S → Prop} {W0 pre Wc suf : va_W} (F : CallFix p m c cc nL s args Ts own) (hM : wCt l y ws rm D tysc As Wc H.size 0 0 (wQi D post Wf)) (hN : wNest s) (hA : ∀ q : Nat, H0.size ≤ q → A0 q) (hK : va_K D vwCl tysc s) (hS : va_S A0 H0 H locs) (hP : va_P D vwCl W0 H) (hD : va_D A0 W0) (hW0 : W0 = pre ++ (Wc ++ suf))
    (cw : CallB R s args own index y bytes maxL ret ws rm 0 0 n ∧ (Cond.static y).before args s = true) (hn : As.length = n) (hz : ls.size = nL) (hst : st0 = As.reverse ++ rest) (hr : (rest.map fun v => v.category).sum ≤ 8) (hdg : decode cc pc = .ok (.invokestatic index, 3)) (hf : cells ≤ R.cells ∧ slots ≤ R.slots)
    (kk : ∀ (r : Int32) (u : S) (H1 : Heap) (locs1 : List Loc), post r u → va_P D vwCl (pre ++ (Wf u ++ suf)) H1 → va_D A0 (pre ++ (Wf u ++ suf)) → va_S A0 H0 H1 locs1 → W p l e R s m args below meth c H1 locs1 cells slots Q (F0 m (pc + 3) ls (.int r :: rest))) : W p l e R s m args below meth c H locs cells slots Q (F0 m pc ls st0) := by
  subst hW0
  exact wKi (va_runS (As := As) (rest := rest) F hM cw (wPreS hN hK hP hD) rfl hn hz hst (lv_room hr) hdg hf) hP hD hS hA kk
theorem wCSl {post : Int64 → S → Prop} {W0 pre Wc suf : va_W} (F : CallFix p m c cc nL s args Ts own) (hM : wCt l y ws rm D tysc As Wc H.size 0 0 (wQl D post Wf)) (hN : wNest s) (hA : ∀ q : Nat, H0.size ≤ q → A0 q) (hK : va_K D vwCl tysc s) (hS : va_S A0 H0 H locs) (hP : va_P D vwCl W0 H) (hD : va_D A0 W0) (hW0 : W0 = pre ++ (Wc ++ suf))
    (cw : CallB R s args own index y bytes maxL ret ws rm 0 0 n ∧ (Cond.static y).before args s = true) (hn : As.length = n) (hz : ls.size = nL) (hst : st0 = As.reverse ++ rest) (hr : (rest.map fun v => v.category).sum ≤ 8) (hdg : decode cc pc = .ok (.invokestatic index, 3)) (hf : cells ≤ R.cells ∧ slots ≤ R.slots)
    (kk : ∀ (r : Int64) (u : S) (H1 : Heap) (locs1 : List Loc), post r u → va_P D vwCl (pre ++ (Wf u ++ suf)) H1 → va_D A0 (pre ++ (Wf u ++ suf)) → va_S A0 H0 H1 locs1 → W p l e R s m args below meth c H1 locs1 cells slots Q (F0 m (pc + 3) ls (.long r :: rest))) : W p l e R s m args below meth c H locs cells slots Q (F0 m pc ls st0) := by
  subst hW0
  exact wKl (va_runS (As := As) (rest := rest) F hM cw (wPreS hN hK hP hD) rfl hn hz hst (lv_room hr) hdg hf) hP hD hS hA kk
theorem wCSv {post : S → Prop} {W0 pre Wc suf : va_W} (F : CallFix p m c cc nL s args Ts own) (hM : wCt l y ws rm D tysc As Wc H.size 0 0 (wQv D post Wf)) (hN : wNest s) (hA : ∀ q : Nat, H0.size ≤ q → A0 q) (hK : va_K D vwCl tysc s) (hS : va_S A0 H0 H locs) (hP : va_P D vwCl W0 H) (hD : va_D A0 W0) (hW0 : W0 = pre ++ (Wc ++ suf))
    (cw : CallB R s args own index y bytes maxL ret ws rm 0 0 n ∧ (Cond.static y).before args s = true) (hn : As.length = n) (hz : ls.size = nL) (hst : st0 = As.reverse ++ rest) (hr : (rest.map fun v => v.category).sum ≤ 8) (hdg : decode cc pc = .ok (.invokestatic index, 3)) (hf : cells ≤ R.cells ∧ slots ≤ R.slots)
    (kk : ∀ (u : S) (H1 : Heap) (locs1 : List Loc), post u → va_P D vwCl (pre ++ (Wf u ++ suf)) H1 → va_D A0 (pre ++ (Wf u ++ suf)) → va_S A0 H0 H1 locs1 → W p l e R s m args below meth c H1 locs1 cells slots Q (F0 m (pc + 3) ls rest)) : W p l e R s m args below meth c H locs cells slots Q (F0 m pc ls st0) := by
  subst hW0
  exact wKv (va_runS (As := As) (rest := rest) F hM cw (wPreS hN hK hP hD) rfl hn hz hst (lv_room hr) hdg hf) hP hD hS hA kk
theorem wCNi {post : Int32 → S → Prop} {W0 pre Wc suf : va_W} (F : CallFix p m c cc nL s args Ts own) (hM : wCt l y ws rm D tysc As Wc H.size 0 0 (wQi D post Wf)) (hN : wNest s) (hA : ∀ q : Nat, H0.size ≤ q → A0 q) (hK : va_K D vwCl tysc s) (hS : va_S A0 H0 H locs) (hP : va_P D vwCl W0 H) (hD : va_D A0 W0) (hW0 : W0 = pre ++ (Wc ++ suf))
    (cw : va_CN R s args own index y host bytes maxL ret ws rm 0 0 n ∧ (Cond.static y).before args s = true ∧ True) (hn : As.length = n) (hz : ls.size = nL) (hst : st0 = As.reverse ++ rest) (hr : (rest.map fun v => v.category).sum ≤ 8) (hdg : decode cc pc = .ok (.invokestatic index, 3)) (hf : cells ≤ R.cells ∧ slots ≤ R.slots)
    (kk : ∀ (r : Int32) (u : S) (H1 : Heap) (locs1 : List Loc), post r u → va_P D vwCl (pre ++ (Wf u ++ suf)) H1 → va_D A0 (pre ++ (Wf u ++ suf)) → va_S A0 H0 H1 locs1 → W p l e R s m args below meth c H1 locs1 cells slots Q (F0 m (pc + 3) ls (.int r :: rest))) : W p l e R s m args below meth c H locs cells slots Q (F0 m pc ls st0) := by
  subst hW0
  exact wKi (va_runSN (As := As) (rest := rest) F hM cw (wPreS hN hK hP hD) rfl hn hz hst (lv_room hr) hdg hf) hP hD hS hA kk
/-- ends -/
theorem wRi {post : Int32 → S → Prop} {W1 : va_W} (hQ : MQ below (wQi D post Wf A0) args s cells slots A0 = Q) (hx : p.tables.exec = Jvm.exec) (hb : c.code = cc) (hr : meth.sig.returnType = some .int) (hlocks : meth.locks = false) (hP : va_P D vwCl W1 H) (hD : va_D A0 W1) (hS : va_S A0 s.heap H locs) (hdg : decode cc pc = .ok (.ireturn, 1)) {v : Int32} (u : S) (hu : post v u) (hW : W1 = Wf u) : W p l e R s m args below meth c H locs cells slots Q (F0 m pc ls [.int v]) := by
  subst hW
  rw [← hQ]
  exact W.iret hx hb hr (fun t ht hW => ⟨⟨v, u, rfl, hu, by rw [ht]; exact hP, hD⟩, hS.F ht⟩) hS.2.2 hdg hlocks
theorem wRz {post : Int32 → S → Prop} {W1 : va_W} (hQ : MQ below (wQi D post Wf A0) args s cells slots A0 = Q) (hx : p.tables.exec = Jvm.exec) (hb : c.code = cc) (hr : meth.sig.returnType = some .boolean) (hlocks : meth.locks = false) (hP : va_P D vwCl W1 H) (hD : va_D A0 W1) (hS : va_S A0 s.heap H locs) (hdg : decode cc pc = .ok (.ireturn, 1)) {v : Int32} (hn : narrow .boolean (.int v) = .int v) (u : S) (hu : post v u) (hW : W1 = Wf u) : W p l e R s m args below meth c H locs cells slots Q (F0 m pc ls [.int v]) := by
  subst hW
  rw [← hQ]
  exact W.zret hx hb hr hn (fun t ht hW => ⟨⟨v, u, rfl, hu, by rw [ht]; exact hP, hD⟩, hS.F ht⟩) hS.2.2 hdg hlocks
theorem wRl {post : Int64 → S → Prop} {W1 : va_W} (hQ : MQ below (wQl D post Wf A0) args s cells slots A0 = Q) (hx : p.tables.exec = Jvm.exec) (hb : c.code = cc) (hr : meth.sig.returnType = some .long) (hlocks : meth.locks = false) (hP : va_P D vwCl W1 H) (hD : va_D A0 W1) (hS : va_S A0 s.heap H locs) (hdg : decode cc pc = .ok (.lreturn, 1)) {v : Int64} (u : S) (hu : post v u) (hW : W1 = Wf u) : W p l e R s m args below meth c H locs cells slots Q (F0 m pc ls [.long v]) := by
  subst hW
  rw [← hQ]
  exact W.lret hx hb hr (fun t ht hW => ⟨⟨v, u, rfl, hu, by rw [ht]; exact hP, hD⟩, hS.F ht⟩) hS.2.2 hdg hlocks
theorem wRv {post : S → Prop} {W1 : va_W} (hQ : MQ below (wQv D post Wf A0) args s cells slots A0 = Q) (hx : p.tables.exec = Jvm.exec) (hb : c.code = cc) (hr : meth.sig.returnType = none) (hlocks : meth.locks = false) (hP : va_P D vwCl W1 H) (hD : va_D A0 W1) (hS : va_S A0 s.heap H locs) (hdg : decode cc pc = .ok (.return_, 1)) (u : S) (hu : post u) (hW : W1 = Wf u) : W p l e R s m args below meth c H locs cells slots Q (F0 m pc ls []) := by
  subst hW
  rw [← hQ]
  exact W.vret hx hb hr (fun t ht hW => ⟨⟨u, rfl, hu, by rw [ht]; exact hP, hD⟩, hS.F ht⟩) hS.2.2 hdg hlocks
/-- arrays of ints at a small natural -/
theorem wIald {W0 : va_W} (hx : p.tables.exec = Jvm.exec) (hb : c.code = cc) (hK : va_K D vwCl tys s) (hP : va_P D vwCl W0 H) (q0 t0 : Nat) {a : Nat} {cA : ClassId} {N : Nat} {f : Nat → Int32} (ha : W0[q0]? = some (a, .inl (cA, N, .inl f))) (ht : tys[t0]? = some (cA, .int)) {i : Int32} (k : Nat) (hi : i = nI k) (hk : k < N) (hN : N < 2 ^ 31) (hdg : decode cc pc = .ok (.iaload, 1))
    (kk : W p l e R s m args below meth c H locs cells slots Q (F0 m (pc + 1) ls (.int (f k) :: rest))) : W p l e R s m args below meth c H locs cells slots Q (F0 m pc ls (.int i :: .ref a :: rest)) := by
  subst hi
  refine va_iald hx hb hK hP q0 t0 ha ht (vp_in_nI hk hN) hdg ?_
  rw [nI_clamp (Nat.lt_trans hk hN)]
  exact kk
theorem wIast {A : Nat → Prop} {W0 : va_W} (hx : p.tables.exec = Jvm.exec) (hb : c.code = cc) (hK : va_K D vwCl tys s) (hP : va_P D vwCl W0 H) (hD : va_D A W0) (hS : va_S A H0 H locs) (q0 t0 : Nat) {a : Nat} {cA : ClassId} {N : Nat} {f : Nat → Int32} (ha : W0[q0]? = some (a, .inl (cA, N, .inl f))) (ht : tys[t0]? = some (cA, .int)) {i x : Int32} (k : Nat) (hi : i = nI k) (hk : k < N) (hN : N < 2 ^ 31) (hdg : decode cc pc = .ok (.iastore, 1))
    (kk : ∀ (H1 : Heap) (locs1 : List Loc), va_P D vwCl (W0.set q0 (a, .inl (cA, N, .inl (upd f k x)))) H1 → va_D A (W0.set q0 (a, .inl (cA, N, .inl (upd f k x)))) → va_S A H0 H1 locs1 → W p l e R s m args below meth c H1 locs1 cells slots Q (F0 m (pc + 1) ls rest)) : W p l e R s m args below meth c H locs cells slots Q (F0 m pc ls (.int x :: .int i :: .ref a :: rest)) := by
  subst hi
  refine va_iast hx hb hK hP hD hS q0 t0 ha ht (vp_in_nI hk hN) hdg ?_
  rw [nI_clamp (Nat.lt_trans hk hN)]
  exact kk
/-- a computed int gets the name that one wants -/
theorem wTop {x z : Int32} (h : x = z) (k : W p l e R s m args below meth c H locs cells slots Q (F0 m pc ls (.int z :: rest))) : W p l e R s m args below meth c H locs cells slots Q (F0 m pc ls (.int x :: rest)) := h ▸ k
theorem wTop2 {x z : Int32} {v : Value} (h : x = z) (k : W p l e R s m args below meth c H locs cells slots Q (F0 m pc ls (v :: .int z :: rest))) : W p l e R s m args below meth c H locs cells slots Q (F0 m pc ls (v :: .int x :: rest)) := h ▸ k
end BC
end
section
/-! What a state is: the cells of a Dinner, of the class, of the reference, of the law's row; the pure functions that the methods are. -/
/-- a Dinner: f its ten ints (guests, seconds, limit, speaker, toSpeak, pause, unsaidInPauses, meetings, lost, sent), r its seven rows (spoken, interruptions, coughs, unsaid, toGo, caught, order), a the addresses -/
def DC (cI : ClassId) (a : Nat → Nat) (f : Nat → Int32) (r : Nat → Nat → Int32) : va_W := [(a 0, .inr (0, [.int (f 0), .int (f 1), .int (f 2), .int (f 3), .int (f 4), .int (f 5), .int (f 6), .int (f 7), .int (f 8), .int (f 9), .ref (a 1), .ref (a 2), .ref (a 3), .ref (a 4), .ref (a 5), .ref (a 6), .ref (a 7)])), (a 1, .inl (cI, 10, .inl (r 0))), (a 2, .inl (cI, 10, .inl (r 1))), (a 3, .inl (cI, 10, .inl (r 2))), (a 4, .inl (cI, 10, .inl (r 3))), (a 5, .inl (cI, 100, .inl (r 4))), (a 6, .inl (cI, 100, .inl (r 5))), (a 7, .inl (cI, 100, .inl (r 6)))]
/-- the class's own object -/
def XO (x : Nat) (a b : Nat → Nat) : va_W := [(x, .inr (1, [.ref (a 0), .ref (b 0)]))]
/-- the reference: g its ints by their places, n the row now, k the row kept -/
def MC (cI : ClassId) (b : Nat → Nat) (g : Nat → Int32) (n k : Nat → Int32) : va_W := [(b 0, .inr (2, [.int (g 0), .int (g 1), .int (g 2), .ref (b 1), .ref (b 2), .int (g 5), .int (g 6)])), (b 1, .inl (cI, 348, .inl n)), (b 2, .inl (cI, 348, .inl k))]
/-- the law's row of one long -/
def OUT (cJ : ClassId) (q : Nat) (v : Nat → Int64) : va_W := [(q, .inl (cJ, 1, .inr (.inl v)))]
abbrev dS : Type := (Nat → Int32) × (Nat → Nat → Int32)
/-- the class's state put into cells -/
abbrev DCs (cI : ClassId) (a : Nat → Nat) (u : dS) : va_W := DC cI a u.1 u.2
theorem ite01 {P : Prop} [Decidable P] : (if P then (0 : Int32) else 1) = 0 ↔ P := by
  by_cases h : P <;> simp [h]
theorem ite01n {P : Prop} [Decidable P] : ¬ (if P then (0 : Int32) else 1) = 0 ↔ ¬ P := by
  by_cases h : P <;> simp [h]
theorem ite10 {P : Prop} [Decidable P] : (if P then (1 : Int32) else 0) = 0 ↔ ¬ P := by
  by_cases h : P <;> simp [h]
theorem ite10n {P : Prop} [Decidable P] : ¬ (if P then (1 : Int32) else 0) = 0 ↔ P := by
  by_cases h : P <;> simp [h]
/-- seconds beyond a multiple of the limit -/
def dBm (lim x : Int32) : Int32 := if 0 < lim then x - x / lim * lim else 0
/-- how far apart two guests sit -/
def dSeats (g x y : Int32) : Int32 := if g - (if 0 ≤ x - y then x - y else 0 - (x - y)) < (if 0 ≤ x - y then x - y else 0 - (x - y)) then g - (if 0 ≤ x - y then x - y else 0 - (x - y)) else (if 0 ≤ x - y then x - y else 0 - (x - y))
def dToGo (t : Nat → Int32) (k : Nat) : Int32 := if t k = -1 then 0 else t k
def dUntil (f : Nat → Int32) : Int32 := if f 3 = -1 then f 2 - dBm (f 2) (f 5) else f 4 + f 2
/-- the first n cells of a row, added -/
def dSum (u : Nat → Int32) : Nat → Int32
  | 0 => 0
  | n + 1 => dSum u n + u n
def dRate (g q : Int32) (u : Nat → Int32) (n : Nat) : Int32 := if 0 < 10 - (if 0 ≤ (dSum u n + q) / g - 4 then (dSum u n + q) / g - 4 else 0 - ((dSum u n + q) / g - 4)) then 10 - (if 0 ≤ (dSum u n + q) / g - 4 then (dSum u n + q) / g - 4 else 0 - ((dSum u n + q) / g - 4)) else 0
def dCough (f : Nat → Int32) (x wt : Int32) : Int32 := if f 3 = -1 then wt else if f 3 = x then 0 else wt / 2
def dFate (f : Nat → Int32) (t : Nat → Int32) (x y : Nat) (mo : Int32) : Int32 := if mo < dToGo t (y * 10 + x) then 3 else if f 3 = nI y ∧ mo + 2 * dSeats (f 0) (nI x) (nI y) < f 4 then 0 else 1
/-! the class's steps, as functions of its ints f and its rows r; L: the pairs under way, in the order of their sending -/
def dN (x : Int32) : Nat := x.toNatClampNeg
theorem dN_nI {k : Nat} (h : k < 2 ^ 31) : dN (nI k) = k := nI_clamp h
def dInt (f : Nat → Int32) (x : Nat) : Int32 := if f 3 = nI x then -1 else f 3
def dSpeak (f : Nat → Int32) (r : Nat → Nat → Int32) (x : Nat) (secs : Int32) : dS := (upd (upd f 3 (nI x)) 4 secs, if dInt f x = -1 then r else va_up r 1 (upd (r 1) x (r 1 x + 1)))
def dLetCough (f : Nat → Int32) (r : Nat → Nat → Int32) (x : Nat) (wt : Int32) : dS := (f, va_up (va_up r 2 (upd (r 2) x (r 2 x + 1))) 3 (upd (r 3) x (r 3 x + dCough f (nI x) wt)))
def dSend (f : Nat → Int32) (r : Nat → Nat → Int32) (x y n : Nat) : dS := (upd f 9 (f 9 + 1), va_up (va_up r 4 (upd (r 4) (x * 10 + y) (2 * dSeats (f 0) (nI x) (nI y)))) 6 (upd (r 6) n (nI (x * 10 + y))))
def dTalk (f : Nat → Int32) (r : Nat → Nat → Int32) : dS := if f 3 = -1 then (if dBm (f 2) (f 5 + 1) = 0 then upd (upd f 5 (f 5 + 1)) 6 (f 6 + 1) else upd f 5 (f 5 + 1), r) else (if f 4 - 1 = 0 then upd (upd (upd f 3 (-1)) 4 (f 4 - 1)) 5 0 else upd (upd f 4 (f 4 - 1)) 5 0, va_up r 0 (upd (r 0) (dN (f 3)) (r 0 (dN (f 3)) + 1)))
def dArr (f : Nat → Int32) (r : Nat → Nat → Int32) (x y : Nat) : dS :=
  if r 4 (y * 10 + x) = -1 then
    if f 3 = nI y then (upd f 8 (f 8 + 1), va_up r 4 (upd (r 4) (x * 10 + y) (-1)))
    else (f, va_up (va_up (va_up r 3 (upd (r 3) x (r 3 x + 1))) 4 (upd (r 4) (x * 10 + y) (-1))) 5 (upd (r 5) (x * 10 + y) (r 5 (x * 10 + y) + 1)))
  else (upd f 7 (f 7 + 1), va_up (va_up r 3 (upd (upd (r 3) x (r 3 x + 3)) y (upd (r 3) x (r 3 x + 3) y + 3))) 4 (upd (upd (r 4) (y * 10 + x) (-1)) (x * 10 + y) (-1)))
/-- the row o says the pairs of L, in their order -/
def oR (o : Nat → Int32) (L : List Nat) : Prop := ∀ j, j < L.length → o j = nI (L.getD j 0)
def dDec (t : Nat → Int32) (L : List Nat) : Nat → (Nat → Int32)
  | 0 => t
  | i + 1 => upd (dDec t L i) (L.getD i 0) (dDec t L i (L.getD i 0) - 1)
def dM1 (f : Nat → Int32) (r : Nat → Nat → Int32) (L : List Nat) : dS := (f, va_up r 4 (dDec (r 4) L L.length))
def dArrs (L : List Nat) (s : dS) : Nat → dS
  | 0 => s
  | i + 1 => if (dArrs L s i).2 4 (L.getD i 0) = 0 then dArr (dArrs L s i).1 (dArrs L s i).2 (L.getD i 0 / 10) (L.getD i 0 % 10) else dArrs L s i
def dFgt (t o : Nat → Int32) (L : List Nat) : Nat → Nat × (Nat → Int32)
  | 0 => (0, o)
  | i + 1 => if t (L.getD i 0) = -1 then dFgt t o L i else ((dFgt t o L i).1 + 1, upd (dFgt t o L i).2 (dFgt t o L i).1 (nI (L.getD i 0)))
def dForget (f : Nat → Int32) (r : Nat → Nat → Int32) (L : List Nat) : dS := (upd f 9 (nI (dFgt (r 4) (r 6) L L.length).1), va_up r 6 (dFgt (r 4) (r 6) L L.length).2)
def dMove (f : Nat → Int32) (r : Nat → Nat → Int32) (L : List Nat) : dS := dForget (dArrs L (dM1 f r L) L.length).1 (dArrs L (dM1 f r L) L.length).2 L
def dSec (f : Nat → Int32) (r : Nat → Nat → Int32) (L : List Nat) : dS := (upd (dMove (dTalk f r).1 (dTalk f r).2 L).1 1 ((dMove (dTalk f r).1 (dTalk f r).2 L).1 1 + 1), (dMove (dTalk f r).1 (dTalk f r).2 L).2)
def dKeep (t : Nat → Int32) (L : List Nat) : List Nat := L.filter (fun p => !decide (t p = -1))
def dGo (s : dS) (L : List Nat) : Nat → dS × List Nat
  | 0 => (s, L)
  | k + 1 => (dSec (dGo s L k).1.1 (dGo s L k).1.2 (dGo s L k).2, dKeep ((dSec (dGo s L k).1.1 (dGo s L k).1.2 (dGo s L k).2).2 4) (dGo s L k).2)
/-- what a second needs, so that no index is wrong -/
def dOk (f : Nat → Int32) (r : Nat → Nat → Int32) (L : List Nat) : Prop := (f 3 = -1 ∨ ∃ q, q < 10 ∧ f 3 = nI q) ∧ f 9 = nI L.length ∧ oR (r 6) L ∧ (∀ p ∈ L, p < 100) ∧ L.length ≤ 100
theorem dgt {L : List Nat} (h : ∀ p ∈ L, p < 100) (i : Nat) : L.getD i 0 < 100 := by
  by_cases hi : i < L.length
  · have e : L.getD i 0 = L[i] := by simp [hi]
    rw [e]
    exact h _ (List.getElem_mem hi)
  · have e : L.getD i 0 = 0 := by simp [Nat.not_lt.mp hi]
    rw [e]
    decide
theorem dTalk9 (f : Nat → Int32) (r : Nat → Nat → Int32) : (dTalk f r).1 9 = f 9 := by
  unfold dTalk
  split <;> split <;> simp [upd]
theorem dTalk6 (f : Nat → Int32) (r : Nat → Nat → Int32) : (dTalk f r).2 6 = r 6 := by
  unfold dTalk
  split <;> simp [va_up]
theorem dArr9 (f : Nat → Int32) (r : Nat → Nat → Int32) (x y : Nat) : (dArr f r x y).1 9 = f 9 := by
  unfold dArr
  split
  · split <;> simp [upd]
  · simp [upd]
theorem dArr6 (f : Nat → Int32) (r : Nat → Nat → Int32) (x y : Nat) : (dArr f r x y).2 6 = r 6 := by
  unfold dArr
  split
  · split <;> simp [va_up]
  · simp [va_up]
theorem dArrs9 (L : List Nat) (s : dS) : ∀ i, (dArrs L s i).1 9 = s.1 9
  | 0 => rfl
  | i + 1 => by
    unfold dArrs
    split
    · rw [dArr9, dArrs9 L s i]
    · exact dArrs9 L s i
theorem dArrs6 (L : List Nat) (s : dS) : ∀ i, (dArrs L s i).2 6 = s.2 6
  | 0 => rfl
  | i + 1 => by
    unfold dArrs
    split
    · rw [dArr6, dArrs6 L s i]
    · exact dArrs6 L s i
theorem dFgt_le (t o : Nat → Int32) (L : List Nat) : ∀ i, (dFgt t o L i).1 ≤ i
  | 0 => Nat.le_refl 0
  | i + 1 => by
    have h := dFgt_le t o L i
    unfold dFgt
    split
    · omega
    · show (dFgt t o L i).1 + 1 ≤ i + 1
      omega
theorem dFgt_far (t o : Nat → Int32) (L : List Nat) : ∀ i j, i ≤ j → (dFgt t o L i).2 j = o j
  | 0, j, _ => rfl
  | i + 1, j, h => by
    have h1 := dFgt_far t o L i j (by omega)
    have h2 := dFgt_le t o L i
    unfold dFgt
    split
    · exact h1
    · show upd _ _ _ j = o j
      rw [pk_un (by omega)]
      exact h1
theorem dFgt_get {t o : Nat → Int32} {L : List Nat} (ho : oR o L) {i : Nat} (hi : i < L.length) : (dFgt t o L i).2 i = nI (L.getD i 0) := by
  rw [dFgt_far t o L i i (Nat.le_refl i)]
  exact ho i hi
def dFill (g : Nat → Int32) (v : Int32) (i : Nat) : Nat → Int32 := fun j => if j < i then v else g j
theorem dFill_0 (g : Nat → Int32) (v : Int32) : dFill g v 0 = g := by
  funext j
  simp [dFill]
theorem dFill_s (g : Nat → Int32) (v : Int32) (i : Nat) : upd (dFill g v i) i v = dFill g v (i + 1) := by
  funext j
  simp only [upd, dFill]
  by_cases h : j = i
  · rw [if_pos h, if_pos (by omega)]
  · rw [if_neg h]
    by_cases h2 : j < i
    · rw [if_pos h2, if_pos (by omega)]
    · rw [if_neg h2, if_neg (by omega)]
def dBeginF (f : Nat → Int32) (x : Int32) : Nat → Int32 := upd (upd (upd (upd (upd (upd (upd (upd (upd f 0 x) 1 0) 3 (-1)) 4 0) 5 0) 6 0) 7 0) 8 0) 9 0
def dBeginR (r : Nat → Nat → Int32) : Nat → Nat → Int32 := va_up (va_up (va_up (va_up (va_up (va_up r 0 (fun _ => 0)) 1 (fun _ => 0)) 2 (fun _ => 0)) 3 (fun _ => 0)) 4 (fun _ => -1)) 5 (fun _ => 0)
end
section
abbrev rmX1_pairOf : Room := { frames := 0, cells := 0, slots := 0, locals := 0 }
set_option maxRecDepth 100000 in
set_option maxHeartbeats 4000000 in
/-- pairOf -/
theorem mX1_pairOf (l : Launch) (D : va_G) (cI : ClassId) (x y : Nat) (sz : Nat) : wCt l yX1_pairOf wsX1_pairOf rmX1_pairOf D [(cI, .int)] [.int (nI x), .int (nI y)] (([] : va_W)) sz 0 0 (wQi D (fun v (_ : Unit) => v = nI (x * 10 + y)) (fun _ : Unit => ([] : va_W))) := by
  refine wMet cX1_pairOf 2 (some .int) (by decide) rfl (Nat.le_of_ble_eq_true rfl) ?_
  intro p e s m args below meth c A Q ls hQ hx hb hr hml hown hlocks hin hts hN hP hK hD hA hS hl
  have hl : lv_has ls 2 [(0, .int (nI x)), (1, .int (nI y))] := hl
  have hown : s.vm.findClass RX1 = some m.cls := hown
  refine lv_iload_n hx hb dX1_pairOf_0 rfl (lv_at hl 0 rfl) ?_
  refine lv_bipush (v := 10) hx hb dX1_pairOf_1 (by decide) ?_
  refine lv_imul hx hb dX1_pairOf_3 ?_
  refine wTop (z := nI (x * 10)) (pk_mul x 10) ?_
  refine lv_iload_n hx hb dX1_pairOf_4 rfl (lv_at hl 1 rfl) ?_
  refine lv_iadd hx hb dX1_pairOf_5 ?_
  refine wTop (z := nI ((x * 10) + y)) (nI_add (x * 10) y) ?_
  exact wRi hQ hx hb hr hlocks hP hD hS dX1_pairOf_6 () (rfl) rfl
abbrev rmX0_isOnItsWay : Room := { frames := 0, cells := 0, slots := 0, locals := 0 }
set_option maxRecDepth 100000 in
set_option maxHeartbeats 4000000 in
/-- isOnItsWay -/
theorem mX0_isOnItsWay (l : Launch) (D : va_G) (cI : ClassId) (a : Nat → Nat) (f : Nat → Int32) (r : Nat → Nat → Int32) (k : Nat) (sz : Nat) (hk : k < 100) : wCt l yX0_isOnItsWay wsX0_isOnItsWay rmX0_isOnItsWay D [(cI, .int)] [.ref (a 0), .int (nI k)] (DC cI a f r) sz 0 0 (wQi D (fun v (_ : Unit) => v = if r 4 k = -1 then 0 else 1) (fun _ : Unit => DC cI a f r)) := by
  refine wMet cX0_isOnItsWay 2 (some .boolean) (by decide) rfl (Nat.le_of_ble_eq_true rfl) ?_
  intro p e s m args below meth c A Q ls hQ hx hb hr hml hown hlocks hin hts hN hP hK hD hA hS hl
  have hl : lv_has ls 2 [(0, .ref (a 0)), (1, .int (nI k))] := hl
  have hown : s.vm.findClass RX0 = some m.cls := hown
  have hw0 : ∀ w ∈ wsX00, w.before args s = true := fun w h => hts w (List.mem_cons_of_mem _ (List.mem_append_right _ h))
  have k24 := hts (.fieldLink RX0 24 "PauseLedger$Dinner" "toGo" "[I") (by decide +kernel)
  refine lv_aload_n hx hb dX0_isOnItsWay_0 rfl (lv_at hl 0 rfl) ?_
  refine va_get (D := D) (ci := 0) (v := .ref (a 5)) (C := RX0) (T := TX0) (N := 17) hx hb hw0 (fun _ h => h) hown hK hP 0 rfl rfl 14 (by decide) k24 (fun _ h9 => h9) rfl dX0_isOnItsWay_1 ?_
  refine lv_iload_n hx hb dX0_isOnItsWay_4 rfl (lv_at hl 1 rfl) ?_
  refine wIald hx hb hK hP 5 0 rfl rfl k rfl (by omega) (by decide) dX0_isOnItsWay_5 ?_
  refine lv_iconst (v := (-1)) hx hb dX0_isOnItsWay_6 (by decide) ?_
  refine lv_icmp_eq (tgt := 14) hx hb dX0_isOnItsWay_7 (by decide) (fun c_7 => ?_) (fun c_7 => ?_)
  · refine lv_iconst (v := 0) hx hb dX0_isOnItsWay_14 (by decide) ?_
    exact wRz hQ hx hb hr hlocks hP hD hS dX0_isOnItsWay_15 (rfl) () (by rw [if_pos c_7]) rfl
  · refine lv_iconst (v := 1) hx hb dX0_isOnItsWay_10 (by decide) ?_
    refine lv_goto (tgt := 15) hx hb dX0_isOnItsWay_11 (by decide) ?_
    exact wRz hQ hx hb hr hlocks hP hD hS dX0_isOnItsWay_15 (rfl) () (by rw [if_neg c_7]) rfl
abbrev rmX0_timeToGo : Room := { frames := 1, cells := 0, slots := 0, locals := 21 }
set_option maxRecDepth 100000 in
set_option maxHeartbeats 4000000 in
/-- timeToGo -/
theorem mX0_timeToGo (l : Launch) (D : va_G) (cI : ClassId) (a : Nat → Nat) (f : Nat → Int32) (r : Nat → Nat → Int32) (k : Nat) (sz : Nat) (hk : k < 100) : wCt l yX0_timeToGo wsX0_timeToGo rmX0_timeToGo D [(cI, .int)] [.ref (a 0), .int (nI k)] (DC cI a f r) sz 0 0 (wQi D (fun v (_ : Unit) => v = dToGo (r 4) k) (fun _ : Unit => DC cI a f r)) := by
  refine wMet cX0_timeToGo 2 (some .int) (by decide) rfl (Nat.le_of_ble_eq_true rfl) ?_
  intro p e s m args below meth c A Q ls hQ hx hb hr hml hown hlocks hin hts hN hP hK hD hA hS hl
  have hl : lv_has ls 2 [(0, .ref (a 0)), (1, .int (nI k))] := hl
  have hown : s.vm.findClass RX0 = some m.cls := hown
  have hw0 : ∀ w ∈ wsX00, w.before args s = true := fun w h => hts w (List.mem_cons_of_mem _ (List.mem_append_right _ h))
  have k24 := hts (.fieldLink RX0 24 "PauseLedger$Dinner" "toGo" "[I") (by decide +kernel)
  refine lv_aload_n hx hb dX0_timeToGo_0 rfl (lv_at hl 0 rfl) ?_
  refine lv_iload_n hx hb dX0_timeToGo_1 rfl (lv_at hl 1 rfl) ?_
  refine wCVi (pre := ([] : va_W)) (Wc := DC cI a f r) (suf := ([] : va_W)) (As := [.int (nI k)]) (rest := []) ⟨hx, hb, hml, hown, hts⟩ (mX0_isOnItsWay l D cI a f r k _ hk) hN hA hK hS hP hD rfl 0 (r := (RX0, TX0, 17)) rfl rfl (cwV 1 hts gX0_timeToGo_X0_isOnItsWay rfl rfl rfl (by decide +kernel) ⟨Nat.le_of_ble_eq_true rfl, Nat.le_of_ble_eq_true rfl⟩) rfl hl.1 rfl (Nat.le_of_ble_eq_true rfl) dX0_timeToGo_2 ⟨Nat.zero_le _, Nat.zero_le _⟩ (fun r_2 u_2 H locs hw hP hD hS => ?_)
  have hw : r_2 = if (r 4) k = -1 then 0 else 1 := hw
  subst hw
  have hP : va_P D vwCl (DC cI a f r) H := hP
  have hD : va_D A (DC cI a f r) := hD
  refine lv_if_eq (tgt := 17) hx hb dX0_timeToGo_5 (by decide) (fun c_5 => ?_) (fun c_5 => ?_)
  · refine lv_iconst (v := 0) hx hb dX0_timeToGo_17 (by decide) ?_
    exact wRi hQ hx hb hr hlocks hP hD hS dX0_timeToGo_18 () (by simp only [dToGo]; first | exact (if_pos (ite01.mp c_5)).symm | exact (if_neg (ite01n.mp c_5)).symm) rfl
  · refine lv_aload_n hx hb dX0_timeToGo_8 rfl (lv_at hl 0 rfl) ?_
    refine va_get (D := D) (ci := 0) (v := .ref (a 5)) (C := RX0) (T := TX0) (N := 17) hx hb hw0 (fun _ h => h) hown hK hP 0 rfl rfl 14 (by decide) k24 (fun _ h9 => h9) rfl dX0_timeToGo_9 ?_
    refine lv_iload_n hx hb dX0_timeToGo_12 rfl (lv_at hl 1 rfl) ?_
    refine wIald hx hb hK hP 5 0 rfl rfl k rfl (by omega) (by decide) dX0_timeToGo_13 ?_
    refine lv_goto (tgt := 18) hx hb dX0_timeToGo_14 (by decide) ?_
    exact wRi hQ hx hb hr hlocks hP hD hS dX0_timeToGo_18 () (by simp only [dToGo]; first | exact (if_pos (ite01.mp c_5)).symm | exact (if_neg (ite01n.mp c_5)).symm) rfl
abbrev rmX0_seatsBetween : Room := { frames := 1, cells := 0, slots := 0, locals := 21 }
set_option maxRecDepth 100000 in
set_option maxHeartbeats 4000000 in
/-- seatsBetween -/
theorem mX0_seatsBetween (l : Launch) (D : va_G) (cI : ClassId) (a : Nat → Nat) (f : Nat → Int32) (r : Nat → Nat → Int32) (x y : Int32) (sz : Nat) : wCt l yX0_seatsBetween wsX0_seatsBetween rmX0_seatsBetween D [(cI, .int)] [.ref (a 0), .int x, .int y] (DC cI a f r) sz 0 0 (wQi D (fun v (_ : Unit) => v = dSeats (f 0) x y) (fun _ : Unit => DC cI a f r)) := by
  refine wMet cX0_seatsBetween 4 (some .int) (by decide) rfl (Nat.le_of_ble_eq_true rfl) ?_
  intro p e s m args below meth c A Q ls hQ hx hb hr hml hown hlocks hin hts hN hP hK hD hA hS hl
  have hl : lv_has ls 4 [(0, .ref (a 0)), (1, .int x), (2, .int y)] := hl
  have hown : s.vm.findClass RX0 = some m.cls := hown
  have hw0 : ∀ w ∈ wsX00, w.before args s = true := fun w h => hts w (List.mem_cons_of_mem _ (List.mem_append_right _ h))
  have k41 := hts (.fieldLink RX0 41 "PauseLedger$Dinner" "guests" "I") (by decide +kernel)
  refine lv_iload_n hx hb dX0_seatsBetween_0 rfl (lv_at hl 1 rfl) ?_
  refine lv_iload_n hx hb dX0_seatsBetween_1 rfl (lv_at hl 2 rfl) ?_
  refine lv_isub hx hb dX0_seatsBetween_2 ?_
  refine va_mabs hx hb (hml.trans hl.1.symm) hown (hts (.methodLink RX0 114 Lib.Math.abs.name) (by decide +kernel)) (hts (.static Lib.Math.abs.name) (by decide +kernel)) (hts (.initialized "java/lang/Math") (by decide +kernel)) (hts (.code Lib.Math.abs.name Lib.Math.abs.code 1 (some .int)) (by decide +kernel)) (Nat.le_of_ble_eq_true rfl) (Nat.le_of_ble_eq_true rfl) (Nat.zero_le _) (Nat.zero_le _) dX0_seatsBetween_3 ?_
  refine lv_istore_n (lv' := [(3, .int (if 0 ≤ (x - y) then (x - y) else 0 - (x - y))), (0, .ref (a 0)), (1, .int x), (2, .int y)]) hx hb dX0_seatsBetween_6 rfl hl (by decide) rfl (fun ls hl => ?_)
  refine lv_iload_n hx hb dX0_seatsBetween_7 rfl (lv_at hl 0 rfl) ?_
  refine lv_aload_n hx hb dX0_seatsBetween_8 rfl (lv_at hl 1 rfl) ?_
  refine va_get (D := D) (ci := 0) (v := .int (f 0)) (C := RX0) (T := TX0) (N := 17) hx hb hw0 (fun _ h => h) hown hK hP 0 rfl rfl 0 (by decide) k41 (fun _ h9 => h9) rfl dX0_seatsBetween_9 ?_
  refine lv_iload_n hx hb dX0_seatsBetween_12 rfl (lv_at hl 0 rfl) ?_
  refine lv_isub hx hb dX0_seatsBetween_13 ?_
  refine va_mmin hx hb (hml.trans hl.1.symm) hown (hts (.methodLink RX0 119 Lib.Math.min.name) (by decide +kernel)) (hts (.static Lib.Math.min.name) (by decide +kernel)) (hts (.initialized "java/lang/Math") (by decide +kernel)) (hts (.code Lib.Math.min.name Lib.Math.min.code 2 (some .int)) (by decide +kernel)) (Nat.le_of_ble_eq_true rfl) (Nat.le_of_ble_eq_true rfl) (Nat.zero_le _) (Nat.zero_le _) dX0_seatsBetween_14 ?_
  exact wRi hQ hx hb hr hlocks hP hD hS dX0_seatsBetween_17 () (rfl) rfl
abbrev rmX0_wayOf : Room := { frames := 2, cells := 0, slots := 0, locals := 44 }
set_option maxRecDepth 100000 in
set_option maxHeartbeats 4000000 in
/-- wayOf -/
theorem mX0_wayOf (l : Launch) (D : va_G) (cI : ClassId) (a : Nat → Nat) (f : Nat → Int32) (r : Nat → Nat → Int32) (x y : Int32) (sz : Nat) : wCt l yX0_wayOf wsX0_wayOf rmX0_wayOf D [(cI, .int)] [.ref (a 0), .int x, .int y] (DC cI a f r) sz 0 0 (wQi D (fun v (_ : Unit) => v = 2 * dSeats (f 0) x y) (fun _ : Unit => DC cI a f r)) := by
  refine wMet cX0_wayOf 3 (some .int) (by decide) rfl (Nat.le_of_ble_eq_true rfl) ?_
  intro p e s m args below meth c A Q ls hQ hx hb hr hml hown hlocks hin hts hN hP hK hD hA hS hl
  have hl : lv_has ls 3 [(0, .ref (a 0)), (1, .int x), (2, .int y)] := hl
  have hown : s.vm.findClass RX0 = some m.cls := hown
  refine lv_iconst (v := 2) hx hb dX0_wayOf_0 (by decide) ?_
  refine lv_aload_n hx hb dX0_wayOf_1 rfl (lv_at hl 0 rfl) ?_
  refine lv_iload_n hx hb dX0_wayOf_2 rfl (lv_at hl 1 rfl) ?_
  refine lv_iload_n hx hb dX0_wayOf_3 rfl (lv_at hl 2 rfl) ?_
  refine wCVi (pre := ([] : va_W)) (Wc := DC cI a f r) (suf := ([] : va_W)) (As := [.int x, .int y]) (rest := [.int 2]) ⟨hx, hb, hml, hown, hts⟩ (mX0_seatsBetween l D cI a f r x y _) hN hA hK hS hP hD rfl 0 (r := (RX0, TX0, 17)) rfl rfl (cwV 2 hts gX0_wayOf_X0_seatsBetween rfl rfl rfl (by decide +kernel) ⟨Nat.le_of_ble_eq_true rfl, Nat.le_of_ble_eq_true rfl⟩) rfl hl.1 rfl (Nat.le_of_ble_eq_true rfl) dX0_wayOf_4 ⟨Nat.zero_le _, Nat.zero_le _⟩ (fun r_4 u_4 H locs hw hP hD hS => ?_)
  have hw : r_4 = dSeats (f 0) x y := hw
  subst hw
  have hP : va_P D vwCl (DC cI a f r) H := hP
  have hD : va_D A (DC cI a f r) := hD
  refine lv_imul hx hb dX0_wayOf_7 ?_
  exact wRi hQ hx hb hr hlocks hP hD hS dX0_wayOf_8 () (rfl) rfl
abbrev rmX0_beyondMultipleOfLimit : Room := { frames := 0, cells := 0, slots := 0, locals := 0 }
set_option maxRecDepth 100000 in
set_option maxHeartbeats 4000000 in
/-- beyondMultipleOfLimit -/
theorem mX0_beyondMultipleOfLimit (l : Launch) (D : va_G) (cI : ClassId) (a : Nat → Nat) (f : Nat → Int32) (r : Nat → Nat → Int32) (x : Int32) (sz : Nat) : wCt l yX0_beyondMultipleOfLimit wsX0_beyondMultipleOfLimit rmX0_beyondMultipleOfLimit D [(cI, .int)] [.ref (a 0), .int x] (DC cI a f r) sz 0 0 (wQi D (fun v (_ : Unit) => v = dBm (f 2) x) (fun _ : Unit => DC cI a f r)) := by
  refine wMet cX0_beyondMultipleOfLimit 2 (some .int) (by decide) rfl (Nat.le_of_ble_eq_true rfl) ?_
  intro p e s m args below meth c A Q ls hQ hx hb hr hml hown hlocks hin hts hN hP hK hD hA hS hl
  have hl : lv_has ls 2 [(0, .ref (a 0)), (1, .int x)] := hl
  have hown : s.vm.findClass RX0 = some m.cls := hown
  have hw0 : ∀ w ∈ wsX00, w.before args s = true := fun w h => hts w (List.mem_cons_of_mem _ (List.mem_append_right _ h))
  have k33 := hts (.fieldLink RX0 33 "PauseLedger$Dinner" "limit" "I") (by decide +kernel)
  refine lv_aload_n hx hb dX0_beyondMultipleOfLimit_0 rfl (lv_at hl 0 rfl) ?_
  refine va_get (D := D) (ci := 0) (v := .int (f 2)) (C := RX0) (T := TX0) (N := 17) hx hb hw0 (fun _ h => h) hown hK hP 0 rfl rfl 2 (by decide) k33 (fun _ h9 => h9) rfl dX0_beyondMultipleOfLimit_1 ?_
  refine lv_if_le (tgt := 16) hx hb dX0_beyondMultipleOfLimit_4 (by decide) (fun c_4 => ?_) (fun c_4 => ?_)
  · refine lv_iconst (v := 0) hx hb dX0_beyondMultipleOfLimit_16 (by decide) ?_
    exact wRi hQ hx hb hr hlocks hP hD hS dX0_beyondMultipleOfLimit_17 () (by simp only [dBm]; first | exact (if_neg (Int32.not_lt.mpr c_4)).symm | exact (if_pos (Int32.not_le.mp c_4)).symm) rfl
  · refine lv_iload_n hx hb dX0_beyondMultipleOfLimit_7 rfl (lv_at hl 1 rfl) ?_
    refine lv_aload_n hx hb dX0_beyondMultipleOfLimit_8 rfl (lv_at hl 0 rfl) ?_
    refine va_get (D := D) (ci := 0) (v := .int (f 2)) (C := RX0) (T := TX0) (N := 17) hx hb hw0 (fun _ h => h) hown hK hP 0 rfl rfl 2 (by decide) k33 (fun _ h9 => h9) rfl dX0_beyondMultipleOfLimit_9 ?_
    refine lv_irem hx hb dX0_beyondMultipleOfLimit_12 (fun e => c_4 (by rw [e]; decide)) ?_
    refine lv_goto (tgt := 17) hx hb dX0_beyondMultipleOfLimit_13 (by decide) ?_
    exact wRi hQ hx hb hr hlocks hP hD hS dX0_beyondMultipleOfLimit_17 () (by simp only [dBm]; first | exact (if_neg (Int32.not_lt.mpr c_4)).symm | exact (if_pos (Int32.not_le.mp c_4)).symm) rfl
abbrev rmX0_untilPauseCounts : Room := { frames := 1, cells := 0, slots := 0, locals := 21 }
set_option maxRecDepth 100000 in
set_option maxHeartbeats 4000000 in
/-- untilPauseCounts -/
theorem mX0_untilPauseCounts (l : Launch) (D : va_G) (cI : ClassId) (a : Nat → Nat) (f : Nat → Int32) (r : Nat → Nat → Int32) (sz : Nat) : wCt l yX0_untilPauseCounts wsX0_untilPauseCounts rmX0_untilPauseCounts D [(cI, .int)] [.ref (a 0)] (DC cI a f r) sz 0 0 (wQi D (fun v (_ : Unit) => v = dUntil f) (fun _ : Unit => DC cI a f r)) := by
  refine wMet cX0_untilPauseCounts 1 (some .int) (by decide) rfl (Nat.le_of_ble_eq_true rfl) ?_
  intro p e s m args below meth c A Q ls hQ hx hb hr hml hown hlocks hin hts hN hP hK hD hA hS hl
  have hl : lv_has ls 1 [(0, .ref (a 0))] := hl
  have hown : s.vm.findClass RX0 = some m.cls := hown
  have hw0 : ∀ w ∈ wsX00, w.before args s = true := fun w h => hts w (List.mem_cons_of_mem _ (List.mem_append_right _ h))
  have k33 := hts (.fieldLink RX0 33 "PauseLedger$Dinner" "limit" "I") (by decide +kernel)
  have k47 := hts (.fieldLink RX0 47 "PauseLedger$Dinner" "speaker" "I") (by decide +kernel)
  have k50 := hts (.fieldLink RX0 50 "PauseLedger$Dinner" "toSpeak" "I") (by decide +kernel)
  have k53 := hts (.fieldLink RX0 53 "PauseLedger$Dinner" "pause" "I") (by decide +kernel)
  refine lv_aload_n hx hb dX0_untilPauseCounts_0 rfl (lv_at hl 0 rfl) ?_
  refine va_get (D := D) (ci := 0) (v := .int (f 3)) (C := RX0) (T := TX0) (N := 17) hx hb hw0 (fun _ h => h) hown hK hP 0 rfl rfl 3 (by decide) k47 (fun _ h9 => h9) rfl dX0_untilPauseCounts_1 ?_
  refine lv_iconst (v := (-1)) hx hb dX0_untilPauseCounts_4 (by decide) ?_
  refine lv_icmp_ne (tgt := 24) hx hb dX0_untilPauseCounts_5 (by decide) (fun c_5 => ?_) (fun c_5 => ?_)
  · refine lv_aload_n hx hb dX0_untilPauseCounts_24 rfl (lv_at hl 0 rfl) ?_
    refine va_get (D := D) (ci := 0) (v := .int (f 4)) (C := RX0) (T := TX0) (N := 17) hx hb hw0 (fun _ h => h) hown hK hP 0 rfl rfl 4 (by decide) k50 (fun _ h9 => h9) rfl dX0_untilPauseCounts_25 ?_
    refine lv_aload_n hx hb dX0_untilPauseCounts_28 rfl (lv_at hl 0 rfl) ?_
    refine va_get (D := D) (ci := 0) (v := .int (f 2)) (C := RX0) (T := TX0) (N := 17) hx hb hw0 (fun _ h => h) hown hK hP 0 rfl rfl 2 (by decide) k33 (fun _ h9 => h9) rfl dX0_untilPauseCounts_29 ?_
    refine lv_iadd hx hb dX0_untilPauseCounts_32 ?_
    exact wRi hQ hx hb hr hlocks hP hD hS dX0_untilPauseCounts_33 () (by simp only [dUntil, if_neg c_5]) rfl
  · refine lv_aload_n hx hb dX0_untilPauseCounts_8 rfl (lv_at hl 0 rfl) ?_
    refine va_get (D := D) (ci := 0) (v := .int (f 2)) (C := RX0) (T := TX0) (N := 17) hx hb hw0 (fun _ h => h) hown hK hP 0 rfl rfl 2 (by decide) k33 (fun _ h9 => h9) rfl dX0_untilPauseCounts_9 ?_
    refine lv_aload_n hx hb dX0_untilPauseCounts_12 rfl (lv_at hl 0 rfl) ?_
    refine lv_aload_n hx hb dX0_untilPauseCounts_13 rfl (lv_at hl 0 rfl) ?_
    refine va_get (D := D) (ci := 0) (v := .int (f 5)) (C := RX0) (T := TX0) (N := 17) hx hb hw0 (fun _ h => h) hown hK hP 0 rfl rfl 5 (by decide) k53 (fun _ h9 => h9) rfl dX0_untilPauseCounts_14 ?_
    refine wCVi (pre := ([] : va_W)) (Wc := DC cI a f r) (suf := ([] : va_W)) (As := [.int (f 5)]) (rest := [.int (f 2)]) ⟨hx, hb, hml, hown, hts⟩ (mX0_beyondMultipleOfLimit l D cI a f r (f 5) _) hN hA hK hS hP hD rfl 0 (r := (RX0, TX0, 17)) rfl rfl (cwV 1 hts gX0_untilPauseCounts_X0_beyondMultipleOfLimit rfl rfl rfl (by decide +kernel) ⟨Nat.le_of_ble_eq_true rfl, Nat.le_of_ble_eq_true rfl⟩) rfl hl.1 rfl (Nat.le_of_ble_eq_true rfl) dX0_untilPauseCounts_17 ⟨Nat.zero_le _, Nat.zero_le _⟩ (fun r_17 u_17 H locs hw hP hD hS => ?_)
    have hw : r_17 = dBm (f 2) (f 5) := hw
    subst hw
    have hP : va_P D vwCl (DC cI a f r) H := hP
    have hD : va_D A (DC cI a f r) := hD
    refine lv_isub hx hb dX0_untilPauseCounts_20 ?_
    refine lv_goto (tgt := 33) hx hb dX0_untilPauseCounts_21 (by decide) ?_
    exact wRi hQ hx hb hr hlocks hP hD hS dX0_untilPauseCounts_33 () (by simp only [dUntil, if_pos c_5]) rfl
abbrev rmX0_unsaidByCough : Room := { frames := 0, cells := 0, slots := 0, locals := 0 }
set_option maxRecDepth 100000 in
set_option maxHeartbeats 4000000 in
/-- unsaidByCough -/
theorem mX0_unsaidByCough (l : Launch) (D : va_G) (cI : ClassId) (a : Nat → Nat) (f : Nat → Int32) (r : Nat → Nat → Int32) (x wt : Int32) (sz : Nat) : wCt l yX0_unsaidByCough wsX0_unsaidByCough rmX0_unsaidByCough D [(cI, .int)] [.ref (a 0), .int x, .int wt] (DC cI a f r) sz 0 0 (wQi D (fun v (_ : Unit) => v = dCough f x wt) (fun _ : Unit => DC cI a f r)) := by
  refine wMet cX0_unsaidByCough 3 (some .int) (by decide) rfl (Nat.le_of_ble_eq_true rfl) ?_
  intro p e s m args below meth c A Q ls hQ hx hb hr hml hown hlocks hin hts hN hP hK hD hA hS hl
  have hl : lv_has ls 3 [(0, .ref (a 0)), (1, .int x), (2, .int wt)] := hl
  have hown : s.vm.findClass RX0 = some m.cls := hown
  have hw0 : ∀ w ∈ wsX00, w.before args s = true := fun w h => hts w (List.mem_cons_of_mem _ (List.mem_append_right _ h))
  have k47 := hts (.fieldLink RX0 47 "PauseLedger$Dinner" "speaker" "I") (by decide +kernel)
  refine lv_aload_n hx hb dX0_unsaidByCough_0 rfl (lv_at hl 0 rfl) ?_
  refine va_get (D := D) (ci := 0) (v := .int (f 3)) (C := RX0) (T := TX0) (N := 17) hx hb hw0 (fun _ h => h) hown hK hP 0 rfl rfl 3 (by decide) k47 (fun _ h9 => h9) rfl dX0_unsaidByCough_1 ?_
  refine lv_iconst (v := (-1)) hx hb dX0_unsaidByCough_4 (by decide) ?_
  refine lv_icmp_ne (tgt := 10) hx hb dX0_unsaidByCough_5 (by decide) (fun c_5 => ?_) (fun c_5 => ?_)
  · refine lv_aload_n hx hb dX0_unsaidByCough_10 rfl (lv_at hl 0 rfl) ?_
    refine va_get (D := D) (ci := 0) (v := .int (f 3)) (C := RX0) (T := TX0) (N := 17) hx hb hw0 (fun _ h => h) hown hK hP 0 rfl rfl 3 (by decide) k47 (fun _ h9 => h9) rfl dX0_unsaidByCough_11 ?_
    refine lv_iload_n hx hb dX0_unsaidByCough_14 rfl (lv_at hl 1 rfl) ?_
    refine lv_icmp_ne (tgt := 22) hx hb dX0_unsaidByCough_15 (by decide) (fun c_15 => ?_) (fun c_15 => ?_)
    · refine lv_iload_n hx hb dX0_unsaidByCough_22 rfl (lv_at hl 2 rfl) ?_
      refine lv_iconst (v := 2) hx hb dX0_unsaidByCough_23 (by decide) ?_
      refine lv_idiv hx hb dX0_unsaidByCough_24 (by decide) ?_
      exact wRi hQ hx hb hr hlocks hP hD hS dX0_unsaidByCough_25 () (by simp only [dCough, if_neg c_5, if_neg c_15]) rfl
    · refine lv_iconst (v := 0) hx hb dX0_unsaidByCough_18 (by decide) ?_
      refine lv_goto (tgt := 25) hx hb dX0_unsaidByCough_19 (by decide) ?_
      exact wRi hQ hx hb hr hlocks hP hD hS dX0_unsaidByCough_25 () (by simp only [dCough, if_neg c_5, if_pos c_15]) rfl
  · refine lv_iload_n hx hb dX0_unsaidByCough_8 rfl (lv_at hl 2 rfl) ?_
    exact wRi hQ hx hb hr hlocks hP hD hS dX0_unsaidByCough_9 () (by simp only [dCough, if_pos c_5]) rfl
abbrev rmX0_sumUnsaidByGuests : Room := { frames := 0, cells := 0, slots := 0, locals := 0 }
set_option maxRecDepth 100000 in
set_option maxHeartbeats 4000000 in
/-- sumUnsaidByGuests -/
theorem mX0_sumUnsaidByGuests (l : Launch) (D : va_G) (cI : ClassId) (a : Nat → Nat) (f : Nat → Int32) (r : Nat → Nat → Int32) (g : Nat) (sz : Nat) (hg : f 0 = nI g) (hg2 : g ≤ 10) : wCt l yX0_sumUnsaidByGuests wsX0_sumUnsaidByGuests rmX0_sumUnsaidByGuests D [(cI, .int)] [.ref (a 0)] (DC cI a f r) sz 0 0 (wQi D (fun v (_ : Unit) => v = dSum (r 3) g) (fun _ : Unit => DC cI a f r)) := by
  refine wMet cX0_sumUnsaidByGuests 3 (some .int) (by decide) rfl (Nat.le_of_ble_eq_true rfl) ?_
  intro p e s m args below meth c A Q ls hQ hx hb hr hml hown hlocks hin hts hN hP hK hD hA hS hl
  have hl : lv_has ls 3 [(0, .ref (a 0))] := hl
  have hown : s.vm.findClass RX0 = some m.cls := hown
  have hw0 : ∀ w ∈ wsX00, w.before args s = true := fun w h => hts w (List.mem_cons_of_mem _ (List.mem_append_right _ h))
  have k21 := hts (.fieldLink RX0 21 "PauseLedger$Dinner" "unsaid" "[I") (by decide +kernel)
  have k41 := hts (.fieldLink RX0 41 "PauseLedger$Dinner" "guests" "I") (by decide +kernel)
  refine lv_iconst (v := 0) hx hb dX0_sumUnsaidByGuests_0 (by decide) ?_
  refine lv_istore_n (lv' := [(1, .int 0), (0, .ref (a 0))]) hx hb dX0_sumUnsaidByGuests_1 rfl hl (by decide) rfl (fun ls hl => ?_)
  refine lv_iconst (v := 0) hx hb dX0_sumUnsaidByGuests_2 (by decide) ?_
  refine lv_istore_n (lv' := [(2, .int 0), (1, .int 0), (0, .ref (a 0))]) hx hb dX0_sumUnsaidByGuests_3 rfl hl (by decide) rfl (fun ls hl => ?_)
  have loop4 : ∀ (j i4 : Nat), i4 + j = g → ∀ (H : Heap) (locs : List Loc) (ls : Array Slot), va_P D vwCl (DC cI a f r) H → va_D A (DC cI a f r) → va_S A s.heap H locs → lv_has ls 3 [(2, .int (nI i4)), (1, .int (dSum (r 3) i4)), (0, .ref (a 0))] → W p l e rmX0_sumUnsaidByGuests s m args below meth c H locs 0 0 Q (F0 m 4 ls []) := by
    intro j
    induction j with
    | zero =>
      intro i4 hi4 H locs ls hP hD hS hl
      have ez : g = i4 := by omega
      subst ez
      refine lv_iload_n hx hb dX0_sumUnsaidByGuests_4 rfl (lv_at hl 0 rfl) ?_
      refine lv_aload_n hx hb dX0_sumUnsaidByGuests_5 rfl (lv_at hl 2 rfl) ?_
      refine va_get (D := D) (ci := 0) (v := .int (f 0)) (C := RX0) (T := TX0) (N := 17) hx hb hw0 (fun _ h => h) hown hK hP 0 rfl rfl 0 (by decide) k41 (fun _ h9 => h9) rfl dX0_sumUnsaidByGuests_6 ?_
      refine lv_icmp_ge (tgt := 27) hx hb dX0_sumUnsaidByGuests_9 (by decide) (fun c_9 => ?_) (fun h9 => absurd (by rw [hg]; exact nI_le (by omega) (by omega)) h9)
      refine lv_iload_n hx hb dX0_sumUnsaidByGuests_27 rfl (lv_at hl 1 rfl) ?_
      exact wRi hQ hx hb hr hlocks hP hD hS dX0_sumUnsaidByGuests_28 () (rfl) rfl
    | succ j ih4 =>
      intro i4 hi4 H locs ls hP hD hS hl
      refine lv_iload_n hx hb dX0_sumUnsaidByGuests_4 rfl (lv_at hl 0 rfl) ?_
      refine lv_aload_n hx hb dX0_sumUnsaidByGuests_5 rfl (lv_at hl 2 rfl) ?_
      refine va_get (D := D) (ci := 0) (v := .int (f 0)) (C := RX0) (T := TX0) (N := 17) hx hb hw0 (fun _ h => h) hown hK hP 0 rfl rfl 0 (by decide) k41 (fun _ h9 => h9) rfl dX0_sumUnsaidByGuests_6 ?_
      refine lv_icmp_ge (tgt := 27) hx hb dX0_sumUnsaidByGuests_9 (by decide) (fun h9 => absurd h9 (by rw [hg]; exact nI_ge (by omega) (by omega))) (fun c_9 => ?_)
      refine lv_iload_n hx hb dX0_sumUnsaidByGuests_12 rfl (lv_at hl 1 rfl) ?_
      refine lv_aload_n hx hb dX0_sumUnsaidByGuests_13 rfl (lv_at hl 2 rfl) ?_
      refine va_get (D := D) (ci := 0) (v := .ref (a 4)) (C := RX0) (T := TX0) (N := 17) hx hb hw0 (fun _ h => h) hown hK hP 0 rfl rfl 13 (by decide) k21 (fun _ h9 => h9) rfl dX0_sumUnsaidByGuests_14 ?_
      refine lv_iload_n hx hb dX0_sumUnsaidByGuests_17 rfl (lv_at hl 0 rfl) ?_
      refine wIald hx hb hK hP 4 0 rfl rfl i4 rfl (by omega) (by decide) dX0_sumUnsaidByGuests_18 ?_
      refine lv_iadd hx hb dX0_sumUnsaidByGuests_19 ?_
      refine lv_istore_n (lv' := [(1, .int ((dSum (r 3) i4) + ((r 3) i4))), (2, .int (nI i4)), (0, .ref (a 0))]) hx hb dX0_sumUnsaidByGuests_20 rfl hl (by decide) rfl (fun ls hl => ?_)
      refine lv_iinc (v := nI (i4 + 1)) (lv' := [(2, .int (nI (i4 + 1))), (1, .int ((dSum (r 3) i4) + ((r 3) i4))), (0, .ref (a 0))]) hx hb dX0_sumUnsaidByGuests_21 hl (k := 1) rfl (nI_1 i4) (by decide) rfl (fun ls hl => ?_)
      refine lv_goto (tgt := 4) hx hb dX0_sumUnsaidByGuests_24 (by decide) ?_
      exact ih4 (i4 + 1) (by omega) _ _ _ hP hD hS (lv_sub hl [0, 1, 2] rfl)
  exact loop4 g 0 (by omega) _ _ _ hP hD hS (lv_sub hl [0, 1, 2] rfl)
abbrev rmX0_sumUnsaid : Room := { frames := 1, cells := 0, slots := 0, locals := 22 }
set_option maxRecDepth 100000 in
set_option maxHeartbeats 4000000 in
/-- sumUnsaid -/
theorem mX0_sumUnsaid (l : Launch) (D : va_G) (cI : ClassId) (a : Nat → Nat) (f : Nat → Int32) (r : Nat → Nat → Int32) (g : Nat) (sz : Nat) (hg : f 0 = nI g) (hg2 : g ≤ 10) : wCt l yX0_sumUnsaid wsX0_sumUnsaid rmX0_sumUnsaid D [(cI, .int)] [.ref (a 0)] (DC cI a f r) sz 0 0 (wQi D (fun v (_ : Unit) => v = dSum (r 3) g + f 6) (fun _ : Unit => DC cI a f r)) := by
  refine wMet cX0_sumUnsaid 1 (some .int) (by decide) rfl (Nat.le_of_ble_eq_true rfl) ?_
  intro p e s m args below meth c A Q ls hQ hx hb hr hml hown hlocks hin hts hN hP hK hD hA hS hl
  have hl : lv_has ls 1 [(0, .ref (a 0))] := hl
  have hown : s.vm.findClass RX0 = some m.cls := hown
  have hw0 : ∀ w ∈ wsX00, w.before args s = true := fun w h => hts w (List.mem_cons_of_mem _ (List.mem_append_right _ h))
  have k56 := hts (.fieldLink RX0 56 "PauseLedger$Dinner" "unsaidInPauses" "I") (by decide +kernel)
  refine lv_aload_n hx hb dX0_sumUnsaid_0 rfl (lv_at hl 0 rfl) ?_
  refine wCVi (pre := ([] : va_W)) (Wc := DC cI a f r) (suf := ([] : va_W)) (As := []) (rest := []) ⟨hx, hb, hml, hown, hts⟩ (mX0_sumUnsaidByGuests l D cI a f r g _ hg hg2) hN hA hK hS hP hD rfl 0 (r := (RX0, TX0, 17)) rfl rfl (cwV 0 hts gX0_sumUnsaid_X0_sumUnsaidByGuests rfl rfl rfl (by decide +kernel) ⟨Nat.le_of_ble_eq_true rfl, Nat.le_of_ble_eq_true rfl⟩) rfl hl.1 rfl (Nat.le_of_ble_eq_true rfl) dX0_sumUnsaid_1 ⟨Nat.zero_le _, Nat.zero_le _⟩ (fun r_1 u_1 H locs hw hP hD hS => ?_)
  have hw : r_1 = dSum (r 3) g := hw
  subst hw
  have hP : va_P D vwCl (DC cI a f r) H := hP
  have hD : va_D A (DC cI a f r) := hD
  refine lv_aload_n hx hb dX0_sumUnsaid_4 rfl (lv_at hl 0 rfl) ?_
  refine va_get (D := D) (ci := 0) (v := .int (f 6)) (C := RX0) (T := TX0) (N := 17) hx hb hw0 (fun _ h => h) hown hK hP 0 rfl rfl 6 (by decide) k56 (fun _ h9 => h9) rfl dX0_sumUnsaid_5 ?_
  refine lv_iadd hx hb dX0_sumUnsaid_8 ?_
  exact wRi hQ hx hb hr hlocks hP hD hS dX0_sumUnsaid_9 () (rfl) rfl
abbrev rmX0_rate : Room := { frames := 2, cells := 0, slots := 0, locals := 42 }
set_option maxRecDepth 100000 in
set_option maxHeartbeats 4000000 in
/-- rate -/
theorem mX0_rate (l : Launch) (D : va_G) (cI : ClassId) (a : Nat → Nat) (f : Nat → Int32) (r : Nat → Nat → Int32) (g : Nat) (sz : Nat) (hg : f 0 = nI g) (hg2 : g ≤ 10) (hg0 : 0 < g) : wCt l yX0_rate wsX0_rate rmX0_rate D [(cI, .int)] [.ref (a 0)] (DC cI a f r) sz 0 0 (wQi D (fun v (_ : Unit) => v = dRate (f 0) (f 6) (r 3) g) (fun _ : Unit => DC cI a f r)) := by
  refine wMet cX0_rate 2 (some .int) (by decide) rfl (Nat.le_of_ble_eq_true rfl) ?_
  intro p e s m args below meth c A Q ls hQ hx hb hr hml hown hlocks hin hts hN hP hK hD hA hS hl
  have hl : lv_has ls 2 [(0, .ref (a 0))] := hl
  have hown : s.vm.findClass RX0 = some m.cls := hown
  have hw0 : ∀ w ∈ wsX00, w.before args s = true := fun w h => hts w (List.mem_cons_of_mem _ (List.mem_append_right _ h))
  have k41 := hts (.fieldLink RX0 41 "PauseLedger$Dinner" "guests" "I") (by decide +kernel)
  refine lv_aload_n hx hb dX0_rate_0 rfl (lv_at hl 0 rfl) ?_
  refine va_get (D := D) (ci := 0) (v := .int (f 0)) (C := RX0) (T := TX0) (N := 17) hx hb hw0 (fun _ h => h) hown hK hP 0 rfl rfl 0 (by decide) k41 (fun _ h9 => h9) rfl dX0_rate_1 ?_
  refine lv_if_le (tgt := 19) hx hb dX0_rate_4 (by decide) (fun h9 => absurd h9 (by rw [hg]; exact nI_nle hg0 (by omega))) (fun c_4 => ?_)
  refine lv_aload_n hx hb dX0_rate_7 rfl (lv_at hl 0 rfl) ?_
  refine wCVi (pre := ([] : va_W)) (Wc := DC cI a f r) (suf := ([] : va_W)) (As := []) (rest := []) ⟨hx, hb, hml, hown, hts⟩ (mX0_sumUnsaid l D cI a f r g _ hg hg2) hN hA hK hS hP hD rfl 0 (r := (RX0, TX0, 17)) rfl rfl (cwV 0 hts gX0_rate_X0_sumUnsaid rfl rfl rfl (by decide +kernel) ⟨Nat.le_of_ble_eq_true rfl, Nat.le_of_ble_eq_true rfl⟩) rfl hl.1 rfl (Nat.le_of_ble_eq_true rfl) dX0_rate_8 ⟨Nat.zero_le _, Nat.zero_le _⟩ (fun r_8 u_8 H locs hw hP hD hS => ?_)
  have hw : r_8 = dSum (r 3) g + f 6 := hw
  subst hw
  have hP : va_P D vwCl (DC cI a f r) H := hP
  have hD : va_D A (DC cI a f r) := hD
  refine lv_aload_n hx hb dX0_rate_11 rfl (lv_at hl 0 rfl) ?_
  refine va_get (D := D) (ci := 0) (v := .int (f 0)) (C := RX0) (T := TX0) (N := 17) hx hb hw0 (fun _ h => h) hown hK hP 0 rfl rfl 0 (by decide) k41 (fun _ h9 => h9) rfl dX0_rate_12 ?_
  refine lv_idiv hx hb dX0_rate_15 (by rw [hg]; exact nI_ne0 hg0 (by omega)) ?_
  refine lv_goto (tgt := 20) hx hb dX0_rate_16 (by decide) ?_
  refine lv_istore_n (lv' := [(1, .int ((dSum (r 3) g + f 6) / (f 0))), (0, .ref (a 0))]) hx hb dX0_rate_20 rfl hl (by decide) rfl (fun ls hl => ?_)
  refine lv_iconst (v := 0) hx hb dX0_rate_21 (by decide) ?_
  refine lv_bipush (v := 10) hx hb dX0_rate_22 (by decide) ?_
  refine lv_iload_n hx hb dX0_rate_24 rfl (lv_at hl 0 rfl) ?_
  refine lv_iconst (v := 4) hx hb dX0_rate_25 (by decide) ?_
  refine lv_isub hx hb dX0_rate_26 ?_
  refine va_mabs hx hb (hml.trans hl.1.symm) hown (hts (.methodLink RX0 114 Lib.Math.abs.name) (by decide +kernel)) (hts (.static Lib.Math.abs.name) (by decide +kernel)) (hts (.initialized "java/lang/Math") (by decide +kernel)) (hts (.code Lib.Math.abs.name Lib.Math.abs.code 1 (some .int)) (by decide +kernel)) (Nat.le_of_ble_eq_true rfl) (Nat.le_of_ble_eq_true rfl) (Nat.zero_le _) (Nat.zero_le _) dX0_rate_27 ?_
  refine lv_isub hx hb dX0_rate_30 ?_
  refine va_mmax hx hb (hml.trans hl.1.symm) hown (hts (.methodLink RX0 135 Lib.Math.max.name) (by decide +kernel)) (hts (.static Lib.Math.max.name) (by decide +kernel)) (hts (.initialized "java/lang/Math") (by decide +kernel)) (hts (.code Lib.Math.max.name Lib.Math.max.code 2 (some .int)) (by decide +kernel)) (Nat.le_of_ble_eq_true rfl) (Nat.le_of_ble_eq_true rfl) (Nat.zero_le _) (Nat.zero_le _) dX0_rate_31 ?_
  exact wRi hQ hx hb hr hlocks hP hD hS dX0_rate_34 () (rfl) rfl
abbrev rmX0_fateOf : Room := { frames := 3, cells := 0, slots := 0, locals := 66 }
set_option maxRecDepth 100000 in
set_option maxHeartbeats 4000000 in
/-- fateOf -/
theorem mX0_fateOf (l : Launch) (D : va_G) (cI : ClassId) (a : Nat → Nat) (f : Nat → Int32) (r : Nat → Nat → Int32) (x y : Nat) (mo : Int32) (sz : Nat) (ux : x < 10) (uy : y < 10) : wCt l yX0_fateOf wsX0_fateOf rmX0_fateOf D [(cI, .int)] [.ref (a 0), .int (nI x), .int (nI y), .int mo] (DC cI a f r) sz 0 0 (wQi D (fun v (_ : Unit) => v = dFate f (r 4) x y mo) (fun _ : Unit => DC cI a f r)) := by
  refine wMet cX0_fateOf 5 (some .int) (by decide) rfl (Nat.le_of_ble_eq_true rfl) ?_
  intro p e s m args below meth c A Q ls hQ hx hb hr hml hown hlocks hin hts hN hP hK hD hA hS hl
  have hl : lv_has ls 5 [(0, .ref (a 0)), (1, .int (nI x)), (2, .int (nI y)), (3, .int mo)] := hl
  have hown : s.vm.findClass RX0 = some m.cls := hown
  have hw0 : ∀ w ∈ wsX00, w.before args s = true := fun w h => hts w (List.mem_cons_of_mem _ (List.mem_append_right _ h))
  have k47 := hts (.fieldLink RX0 47 "PauseLedger$Dinner" "speaker" "I") (by decide +kernel)
  have k50 := hts (.fieldLink RX0 50 "PauseLedger$Dinner" "toSpeak" "I") (by decide +kernel)
  refine lv_aload_n hx hb dX0_fateOf_0 rfl (lv_at hl 0 rfl) ?_
  refine lv_iload_n hx hb dX0_fateOf_1 rfl (lv_at hl 2 rfl) ?_
  refine lv_iload_n hx hb dX0_fateOf_2 rfl (lv_at hl 1 rfl) ?_
  refine wCNi (pre := ([] : va_W)) (Wc := ([] : va_W)) (suf := DC cI a f r) (As := [.int (nI y), .int (nI x)]) (rest := [.ref (a 0)]) ⟨hx, hb, hml, hown, hts⟩ (mX1_pairOf l D cI y x _) hN hA hK hS hP hD rfl (⟨va_cnB 2 hts gX0_fateOf_X1_pairOf_n84 rfl rfl rfl hN (hts (.initialized RX1) (by decide +kernel)) (by decide +kernel) ⟨Nat.le_of_ble_eq_true rfl, Nat.le_of_ble_eq_true rfl⟩, hts (.static yX1_pairOf) (by decide +kernel), trivial⟩) rfl hl.1 rfl (Nat.le_of_ble_eq_true rfl) dX0_fateOf_3 ⟨Nat.zero_le _, Nat.zero_le _⟩ (fun r_3 u_3 H locs hw hP hD hS => ?_)
  have hw : r_3 = nI (y * 10 + x) := hw
  subst hw
  have hP : va_P D vwCl (DC cI a f r) H := hP
  have hD : va_D A (DC cI a f r) := hD
  refine wCVi (pre := ([] : va_W)) (Wc := DC cI a f r) (suf := ([] : va_W)) (As := [.int (nI (y * 10 + x))]) (rest := []) ⟨hx, hb, hml, hown, hts⟩ (mX0_timeToGo l D cI a f r (y * 10 + x) _ (by omega)) hN hA hK hS hP hD rfl 0 (r := (RX0, TX0, 17)) rfl rfl (cwV 1 hts gX0_fateOf_X0_timeToGo rfl rfl rfl (by decide +kernel) ⟨Nat.le_of_ble_eq_true rfl, Nat.le_of_ble_eq_true rfl⟩) rfl hl.1 rfl (Nat.le_of_ble_eq_true rfl) dX0_fateOf_6 ⟨Nat.zero_le _, Nat.zero_le _⟩ (fun r_6 u_6 H locs hw hP hD hS => ?_)
  have hw : r_6 = dToGo (r 4) (y * 10 + x) := hw
  subst hw
  have hP : va_P D vwCl (DC cI a f r) H := hP
  have hD : va_D A (DC cI a f r) := hD
  refine lv_iload_n hx hb dX0_fateOf_9 rfl (lv_at hl 3 rfl) ?_
  refine lv_icmp_le (tgt := 15) hx hb dX0_fateOf_10 (by decide) (fun c_10 => ?_) (fun c_10 => ?_)
  · refine lv_aload_n hx hb dX0_fateOf_15 rfl (lv_at hl 0 rfl) ?_
    refine va_get (D := D) (ci := 0) (v := .int (f 3)) (C := RX0) (T := TX0) (N := 17) hx hb hw0 (fun _ h => h) hown hK hP 0 rfl rfl 3 (by decide) k47 (fun _ h9 => h9) rfl dX0_fateOf_16 ?_
    refine lv_iload_n hx hb dX0_fateOf_19 rfl (lv_at hl 2 rfl) ?_
    refine lv_icmp_ne (tgt := 42) hx hb dX0_fateOf_20 (by decide) (fun c_20 => ?_) (fun c_20 => ?_)
    · refine lv_iconst (v := 0) hx hb dX0_fateOf_42 (by decide) ?_
      refine lv_istore (lv' := [(4, .int 0), (0, .ref (a 0)), (1, .int (nI x)), (2, .int (nI y)), (3, .int mo)]) hx hb dX0_fateOf_43 hl (by decide) rfl (fun ls hl => ?_)
      refine lv_iload hx hb dX0_fateOf_45 (lv_at hl 0 rfl) ?_
      refine lv_if_eq (tgt := 54) hx hb dX0_fateOf_47 (by decide) (fun c_47 => ?_) (fun h9 => absurd (by decide) h9)
      refine lv_iconst (v := 1) hx hb dX0_fateOf_54 (by decide) ?_
      exact wRi hQ hx hb hr hlocks hP hD hS dX0_fateOf_55 () (by simp only [dFate, if_neg (Int32.not_lt.mpr c_10), c_20, false_and, if_false]) rfl
    · refine lv_aload_n hx hb dX0_fateOf_23 rfl (lv_at hl 0 rfl) ?_
      refine va_get (D := D) (ci := 0) (v := .int (f 4)) (C := RX0) (T := TX0) (N := 17) hx hb hw0 (fun _ h => h) hown hK hP 0 rfl rfl 4 (by decide) k50 (fun _ h9 => h9) rfl dX0_fateOf_24 ?_
      refine lv_iload_n hx hb dX0_fateOf_27 rfl (lv_at hl 3 rfl) ?_
      refine lv_aload_n hx hb dX0_fateOf_28 rfl (lv_at hl 0 rfl) ?_
      refine lv_iload_n hx hb dX0_fateOf_29 rfl (lv_at hl 1 rfl) ?_
      refine lv_iload_n hx hb dX0_fateOf_30 rfl (lv_at hl 2 rfl) ?_
      refine wCVi (pre := ([] : va_W)) (Wc := DC cI a f r) (suf := ([] : va_W)) (As := [.int (nI x), .int (nI y)]) (rest := [.int mo, .int (f 4)]) ⟨hx, hb, hml, hown, hts⟩ (mX0_wayOf l D cI a f r (nI x) (nI y) _) hN hA hK hS hP hD rfl 0 (r := (RX0, TX0, 17)) rfl rfl (cwV 2 hts gX0_fateOf_X0_wayOf rfl rfl rfl (by decide +kernel) ⟨Nat.le_of_ble_eq_true rfl, Nat.le_of_ble_eq_true rfl⟩) rfl hl.1 rfl (Nat.le_of_ble_eq_true rfl) dX0_fateOf_31 ⟨Nat.zero_le _, Nat.zero_le _⟩ (fun r_31 u_31 H locs hw hP hD hS => ?_)
      have hw : r_31 = 2 * dSeats (f 0) (nI x) (nI y) := hw
      subst hw
      have hP : va_P D vwCl (DC cI a f r) H := hP
      have hD : va_D A (DC cI a f r) := hD
      refine lv_iadd hx hb dX0_fateOf_34 ?_
      refine lv_icmp_le (tgt := 42) hx hb dX0_fateOf_35 (by decide) (fun c_35 => ?_) (fun c_35 => ?_)
      · refine lv_iconst (v := 0) hx hb dX0_fateOf_42 (by decide) ?_
        refine lv_istore (lv' := [(4, .int 0), (0, .ref (a 0)), (1, .int (nI x)), (2, .int (nI y)), (3, .int mo)]) hx hb dX0_fateOf_43 hl (by decide) rfl (fun ls hl => ?_)
        refine lv_iload hx hb dX0_fateOf_45 (lv_at hl 0 rfl) ?_
        refine lv_if_eq (tgt := 54) hx hb dX0_fateOf_47 (by decide) (fun c_47 => ?_) (fun h9 => absurd (by decide) h9)
        refine lv_iconst (v := 1) hx hb dX0_fateOf_54 (by decide) ?_
        exact wRi hQ hx hb hr hlocks hP hD hS dX0_fateOf_55 () (by simp only [dFate, if_neg (Int32.not_lt.mpr c_10), c_20, Int32.not_lt.mpr c_35, and_false, if_false]) rfl
      · refine lv_iconst (v := 1) hx hb dX0_fateOf_38 (by decide) ?_
        refine lv_goto (tgt := 43) hx hb dX0_fateOf_39 (by decide) ?_
        refine lv_istore (lv' := [(4, .int 1), (0, .ref (a 0)), (1, .int (nI x)), (2, .int (nI y)), (3, .int mo)]) hx hb dX0_fateOf_43 hl (by decide) rfl (fun ls hl => ?_)
        refine lv_iload hx hb dX0_fateOf_45 (lv_at hl 0 rfl) ?_
        refine lv_if_eq (tgt := 54) hx hb dX0_fateOf_47 (by decide) (fun h9 => absurd h9 (by decide)) (fun c_47 => ?_)
        refine lv_iconst (v := 0) hx hb dX0_fateOf_50 (by decide) ?_
        refine lv_goto (tgt := 55) hx hb dX0_fateOf_51 (by decide) ?_
        exact wRi hQ hx hb hr hlocks hP hD hS dX0_fateOf_55 () (by simp only [dFate, if_neg (Int32.not_lt.mpr c_10), c_20, Int32.not_le.mp c_35, and_self, if_true]) rfl
  · refine lv_iconst (v := 3) hx hb dX0_fateOf_13 (by decide) ?_
    exact wRi hQ hx hb hr hlocks hP hD hS dX0_fateOf_14 () (by simp only [dFate, if_pos (Int32.not_le.mp c_10)]) rfl
end
section
abbrev rmX0_letSpeak : Room := { frames := 0, cells := 0, slots := 0, locals := 0 }
set_option maxRecDepth 100000 in
set_option maxHeartbeats 4000000 in
/-- letSpeak -/
theorem mX0_letSpeak (l : Launch) (D : va_G) (cI : ClassId) (a : Nat → Nat) (f : Nat → Int32) (r : Nat → Nat → Int32) (x : Nat) (secs : Int32) (sz : Nat) (ux : x < 10) : wCt l yX0_letSpeak wsX0_letSpeak rmX0_letSpeak D [(cI, .int)] [.ref (a 0), .int (nI x), .int secs] (DC cI a f r) sz 0 0 (wQi D (fun v (u : dS) => v = dInt f x ∧ u = dSpeak f r x secs) (fun u : dS => DCs cI a u)) := by
  refine wMet cX0_letSpeak 4 (some .int) (by decide) rfl (Nat.le_of_ble_eq_true rfl) ?_
  intro p e s m args below meth c A Q ls hQ hx hb hr hml hown hlocks hin hts hN hP hK hD hA hS hl
  have hl : lv_has ls 4 [(0, .ref (a 0)), (1, .int (nI x)), (2, .int secs)] := hl
  have hown : s.vm.findClass RX0 = some m.cls := hown
  have hw0 : ∀ w ∈ wsX00, w.before args s = true := fun w h => hts w (List.mem_cons_of_mem _ (List.mem_append_right _ h))
  have k15 := hts (.fieldLink RX0 15 "PauseLedger$Dinner" "interruptions" "[I") (by decide +kernel)
  have k47 := hts (.fieldLink RX0 47 "PauseLedger$Dinner" "speaker" "I") (by decide +kernel)
  have k50 := hts (.fieldLink RX0 50 "PauseLedger$Dinner" "toSpeak" "I") (by decide +kernel)
  refine lv_aload_n hx hb dX0_letSpeak_0 rfl (lv_at hl 0 rfl) ?_
  refine va_get (D := D) (ci := 0) (v := .int (f 3)) (C := RX0) (T := TX0) (N := 17) hx hb hw0 (fun _ h => h) hown hK hP 0 rfl rfl 3 (by decide) k47 (fun _ h9 => h9) rfl dX0_letSpeak_1 ?_
  refine lv_iload_n hx hb dX0_letSpeak_4 rfl (lv_at hl 1 rfl) ?_
  refine lv_icmp_ne (tgt := 12) hx hb dX0_letSpeak_5 (by decide) (fun c_5 => ?_) (fun c_5 => ?_)
  · refine lv_aload_n hx hb dX0_letSpeak_12 rfl (lv_at hl 0 rfl) ?_
    refine va_get (D := D) (ci := 0) (v := .int (f 3)) (C := RX0) (T := TX0) (N := 17) hx hb hw0 (fun _ h => h) hown hK hP 0 rfl rfl 3 (by decide) k47 (fun _ h9 => h9) rfl dX0_letSpeak_13 ?_
    refine lv_istore_n (lv' := [(3, .int (f 3)), (0, .ref (a 0)), (1, .int (nI x)), (2, .int secs)]) hx hb dX0_letSpeak_16 rfl hl (by decide) rfl (fun ls hl => ?_)
    refine lv_iload_n hx hb dX0_letSpeak_17 rfl (lv_at hl 0 rfl) ?_
    refine lv_iconst (v := (-1)) hx hb dX0_letSpeak_18 (by decide) ?_
    refine lv_icmp_eq (tgt := 32) hx hb dX0_letSpeak_19 (by decide) (fun c_19 => ?_) (fun c_19 => ?_)
    · refine lv_aload_n hx hb dX0_letSpeak_32 rfl (lv_at hl 1 rfl) ?_
      refine lv_iload_n hx hb dX0_letSpeak_33 rfl (lv_at hl 2 rfl) ?_
      refine va_put (D := D) (ci := 0) (v := .int (nI x)) (ty := .int) (C := RX0) (T := TX0) (N := 17) hx hb hw0 (fun _ h => h) tyX0 tyX0_ok nmX0 hown hK hP hD hS 0 rfl rfl 3 (by decide) k47 (fun _ h9 => h9) rfl (by decide +kernel) rfl rfl (Nat.le_of_ble_eq_true rfl) dX0_letSpeak_34 (fun H locs hP hD hS => ?_)
      have hP : va_P D vwCl (DC cI a (upd f 3 (nI x)) r) H := hP
      have hD : va_D A (DC cI a (upd f 3 (nI x)) r) := hD
      refine lv_aload_n hx hb dX0_letSpeak_37 rfl (lv_at hl 1 rfl) ?_
      refine lv_iload_n hx hb dX0_letSpeak_38 rfl (lv_at hl 3 rfl) ?_
      refine va_put (D := D) (ci := 0) (v := .int secs) (ty := .int) (C := RX0) (T := TX0) (N := 17) hx hb hw0 (fun _ h => h) tyX0 tyX0_ok nmX0 hown hK hP hD hS 0 rfl rfl 4 (by decide) k50 (fun _ h9 => h9) rfl (by decide +kernel) rfl rfl (Nat.le_of_ble_eq_true rfl) dX0_letSpeak_39 (fun H locs hP hD hS => ?_)
      have hP : va_P D vwCl (DC cI a (upd (upd f 3 (nI x)) 4 secs) r) H := hP
      have hD : va_D A (DC cI a (upd (upd f 3 (nI x)) 4 secs) r) := hD
      refine lv_iload_n hx hb dX0_letSpeak_42 rfl (lv_at hl 0 rfl) ?_
      exact wRi hQ hx hb hr hlocks hP hD hS dX0_letSpeak_43 ((upd (upd f 3 (nI x)) 4 secs), r) (by simp only [dInt, dSpeak, ↓reduceIte, if_neg c_5, if_pos c_19, and_self]) rfl
    · refine lv_aload_n hx hb dX0_letSpeak_22 rfl (lv_at hl 1 rfl) ?_
      refine va_get (D := D) (ci := 0) (v := .ref (a 2)) (C := RX0) (T := TX0) (N := 17) hx hb hw0 (fun _ h => h) hown hK hP 0 rfl rfl 11 (by decide) k15 (fun _ h9 => h9) rfl dX0_letSpeak_23 ?_
      refine lv_iload_n hx hb dX0_letSpeak_26 rfl (lv_at hl 2 rfl) ?_
      refine lv_dup2_11 hx hb dX0_letSpeak_27 rfl rfl ?_
      refine wIald hx hb hK hP 2 0 rfl rfl x rfl (by omega) (by decide) dX0_letSpeak_28 ?_
      refine lv_iconst (v := 1) hx hb dX0_letSpeak_29 (by decide) ?_
      refine lv_iadd hx hb dX0_letSpeak_30 ?_
      refine wIast hx hb hK hP hD hS 2 0 rfl rfl x rfl (by omega) (by decide) dX0_letSpeak_31 (fun H locs hP hD hS => ?_)
      have hP : va_P D vwCl (DC cI a f (va_up r 1 (upd (r 1) x (((r 1) x) + 1)))) H := hP
      have hD : va_D A (DC cI a f (va_up r 1 (upd (r 1) x (((r 1) x) + 1)))) := hD
      refine lv_aload_n hx hb dX0_letSpeak_32 rfl (lv_at hl 1 rfl) ?_
      refine lv_iload_n hx hb dX0_letSpeak_33 rfl (lv_at hl 2 rfl) ?_
      refine va_put (D := D) (ci := 0) (v := .int (nI x)) (ty := .int) (C := RX0) (T := TX0) (N := 17) hx hb hw0 (fun _ h => h) tyX0 tyX0_ok nmX0 hown hK hP hD hS 0 rfl rfl 3 (by decide) k47 (fun _ h9 => h9) rfl (by decide +kernel) rfl rfl (Nat.le_of_ble_eq_true rfl) dX0_letSpeak_34 (fun H locs hP hD hS => ?_)
      have hP : va_P D vwCl (DC cI a (upd f 3 (nI x)) (va_up r 1 (upd (r 1) x (((r 1) x) + 1)))) H := hP
      have hD : va_D A (DC cI a (upd f 3 (nI x)) (va_up r 1 (upd (r 1) x (((r 1) x) + 1)))) := hD
      refine lv_aload_n hx hb dX0_letSpeak_37 rfl (lv_at hl 1 rfl) ?_
      refine lv_iload_n hx hb dX0_letSpeak_38 rfl (lv_at hl 3 rfl) ?_
      refine va_put (D := D) (ci := 0) (v := .int secs) (ty := .int) (C := RX0) (T := TX0) (N := 17) hx hb hw0 (fun _ h => h) tyX0 tyX0_ok nmX0 hown hK hP hD hS 0 rfl rfl 4 (by decide) k50 (fun _ h9 => h9) rfl (by decide +kernel) rfl rfl (Nat.le_of_ble_eq_true rfl) dX0_letSpeak_39 (fun H locs hP hD hS => ?_)
      have hP : va_P D vwCl (DC cI a (upd (upd f 3 (nI x)) 4 secs) (va_up r 1 (upd (r 1) x (((r 1) x) + 1)))) H := hP
      have hD : va_D A (DC cI a (upd (upd f 3 (nI x)) 4 secs) (va_up r 1 (upd (r 1) x (((r 1) x) + 1)))) := hD
      refine lv_iload_n hx hb dX0_letSpeak_42 rfl (lv_at hl 0 rfl) ?_
      exact wRi hQ hx hb hr hlocks hP hD hS dX0_letSpeak_43 ((upd (upd f 3 (nI x)) 4 secs), (va_up r 1 (upd (r 1) x (((r 1) x) + 1)))) (by simp only [dInt, dSpeak, ↓reduceIte, if_neg c_5, if_neg c_19, and_self]) rfl
  · refine lv_iconst (v := (-1)) hx hb dX0_letSpeak_8 (by decide) ?_
    refine lv_goto (tgt := 16) hx hb dX0_letSpeak_9 (by decide) ?_
    refine lv_istore_n (lv' := [(3, .int (-1)), (0, .ref (a 0)), (1, .int (nI x)), (2, .int secs)]) hx hb dX0_letSpeak_16 rfl hl (by decide) rfl (fun ls hl => ?_)
    refine lv_iload_n hx hb dX0_letSpeak_17 rfl (lv_at hl 0 rfl) ?_
    refine lv_iconst (v := (-1)) hx hb dX0_letSpeak_18 (by decide) ?_
    refine lv_icmp_eq (tgt := 32) hx hb dX0_letSpeak_19 (by decide) (fun c_19 => ?_) (fun h9 => absurd (by decide) h9)
    refine lv_aload_n hx hb dX0_letSpeak_32 rfl (lv_at hl 1 rfl) ?_
    refine lv_iload_n hx hb dX0_letSpeak_33 rfl (lv_at hl 2 rfl) ?_
    refine va_put (D := D) (ci := 0) (v := .int (nI x)) (ty := .int) (C := RX0) (T := TX0) (N := 17) hx hb hw0 (fun _ h => h) tyX0 tyX0_ok nmX0 hown hK hP hD hS 0 rfl rfl 3 (by decide) k47 (fun _ h9 => h9) rfl (by decide +kernel) rfl rfl (Nat.le_of_ble_eq_true rfl) dX0_letSpeak_34 (fun H locs hP hD hS => ?_)
    have hP : va_P D vwCl (DC cI a (upd f 3 (nI x)) r) H := hP
    have hD : va_D A (DC cI a (upd f 3 (nI x)) r) := hD
    refine lv_aload_n hx hb dX0_letSpeak_37 rfl (lv_at hl 1 rfl) ?_
    refine lv_iload_n hx hb dX0_letSpeak_38 rfl (lv_at hl 3 rfl) ?_
    refine va_put (D := D) (ci := 0) (v := .int secs) (ty := .int) (C := RX0) (T := TX0) (N := 17) hx hb hw0 (fun _ h => h) tyX0 tyX0_ok nmX0 hown hK hP hD hS 0 rfl rfl 4 (by decide) k50 (fun _ h9 => h9) rfl (by decide +kernel) rfl rfl (Nat.le_of_ble_eq_true rfl) dX0_letSpeak_39 (fun H locs hP hD hS => ?_)
    have hP : va_P D vwCl (DC cI a (upd (upd f 3 (nI x)) 4 secs) r) H := hP
    have hD : va_D A (DC cI a (upd (upd f 3 (nI x)) 4 secs) r) := hD
    refine lv_iload_n hx hb dX0_letSpeak_42 rfl (lv_at hl 0 rfl) ?_
    exact wRi hQ hx hb hr hlocks hP hD hS dX0_letSpeak_43 ((upd (upd f 3 (nI x)) 4 secs), r) (by simp only [dInt, dSpeak, ↓reduceIte, if_pos c_5, if_pos c_19, and_self]) rfl
abbrev rmX0_letCough : Room := { frames := 1, cells := 0, slots := 0, locals := 22 }
set_option maxRecDepth 100000 in
set_option maxHeartbeats 4000000 in
/-- letCough -/
theorem mX0_letCough (l : Launch) (D : va_G) (cI : ClassId) (a : Nat → Nat) (f : Nat → Int32) (r : Nat → Nat → Int32) (x : Nat) (wt : Int32) (sz : Nat) (ux : x < 10) : wCt l yX0_letCough wsX0_letCough rmX0_letCough D [(cI, .int)] [.ref (a 0), .int (nI x), .int wt] (DC cI a f r) sz 0 0 (wQi D (fun v (u : dS) => v = dCough f (nI x) wt ∧ u = dLetCough f r x wt) (fun u : dS => DCs cI a u)) := by
  refine wMet cX0_letCough 4 (some .int) (by decide) rfl (Nat.le_of_ble_eq_true rfl) ?_
  intro p e s m args below meth c A Q ls hQ hx hb hr hml hown hlocks hin hts hN hP hK hD hA hS hl
  have hl : lv_has ls 4 [(0, .ref (a 0)), (1, .int (nI x)), (2, .int wt)] := hl
  have hown : s.vm.findClass RX0 = some m.cls := hown
  have hw0 : ∀ w ∈ wsX00, w.before args s = true := fun w h => hts w (List.mem_cons_of_mem _ (List.mem_append_right _ h))
  have k18 := hts (.fieldLink RX0 18 "PauseLedger$Dinner" "coughs" "[I") (by decide +kernel)
  have k21 := hts (.fieldLink RX0 21 "PauseLedger$Dinner" "unsaid" "[I") (by decide +kernel)
  refine lv_aload_n hx hb dX0_letCough_0 rfl (lv_at hl 0 rfl) ?_
  refine lv_iload_n hx hb dX0_letCough_1 rfl (lv_at hl 1 rfl) ?_
  refine lv_iload_n hx hb dX0_letCough_2 rfl (lv_at hl 2 rfl) ?_
  refine wCVi (pre := ([] : va_W)) (Wc := DC cI a f r) (suf := ([] : va_W)) (As := [.int (nI x), .int wt]) (rest := []) ⟨hx, hb, hml, hown, hts⟩ (mX0_unsaidByCough l D cI a f r (nI x) wt _) hN hA hK hS hP hD rfl 0 (r := (RX0, TX0, 17)) rfl rfl (cwV 2 hts gX0_letCough_X0_unsaidByCough rfl rfl rfl (by decide +kernel) ⟨Nat.le_of_ble_eq_true rfl, Nat.le_of_ble_eq_true rfl⟩) rfl hl.1 rfl (Nat.le_of_ble_eq_true rfl) dX0_letCough_3 ⟨Nat.zero_le _, Nat.zero_le _⟩ (fun r_3 u_3 H locs hw hP hD hS => ?_)
  have hw : r_3 = dCough f (nI x) wt := hw
  subst hw
  have hP : va_P D vwCl (DC cI a f r) H := hP
  have hD : va_D A (DC cI a f r) := hD
  refine lv_istore_n (lv' := [(3, .int (dCough f (nI x) wt)), (0, .ref (a 0)), (1, .int (nI x)), (2, .int wt)]) hx hb dX0_letCough_6 rfl hl (by decide) rfl (fun ls hl => ?_)
  refine lv_aload_n hx hb dX0_letCough_7 rfl (lv_at hl 1 rfl) ?_
  refine va_get (D := D) (ci := 0) (v := .ref (a 3)) (C := RX0) (T := TX0) (N := 17) hx hb hw0 (fun _ h => h) hown hK hP 0 rfl rfl 12 (by decide) k18 (fun _ h9 => h9) rfl dX0_letCough_8 ?_
  refine lv_iload_n hx hb dX0_letCough_11 rfl (lv_at hl 2 rfl) ?_
  refine lv_dup2_11 hx hb dX0_letCough_12 rfl rfl ?_
  refine wIald hx hb hK hP 3 0 rfl rfl x rfl (by omega) (by decide) dX0_letCough_13 ?_
  refine lv_iconst (v := 1) hx hb dX0_letCough_14 (by decide) ?_
  refine lv_iadd hx hb dX0_letCough_15 ?_
  refine wIast hx hb hK hP hD hS 3 0 rfl rfl x rfl (by omega) (by decide) dX0_letCough_16 (fun H locs hP hD hS => ?_)
  have hP : va_P D vwCl (DC cI a f (va_up r 2 (upd (r 2) x (((r 2) x) + 1)))) H := hP
  have hD : va_D A (DC cI a f (va_up r 2 (upd (r 2) x (((r 2) x) + 1)))) := hD
  refine lv_aload_n hx hb dX0_letCough_17 rfl (lv_at hl 1 rfl) ?_
  refine va_get (D := D) (ci := 0) (v := .ref (a 4)) (C := RX0) (T := TX0) (N := 17) hx hb hw0 (fun _ h => h) hown hK hP 0 rfl rfl 13 (by decide) k21 (fun _ h9 => h9) rfl dX0_letCough_18 ?_
  refine lv_iload_n hx hb dX0_letCough_21 rfl (lv_at hl 2 rfl) ?_
  refine lv_dup2_11 hx hb dX0_letCough_22 rfl rfl ?_
  refine wIald hx hb hK hP 4 0 rfl rfl x rfl (by omega) (by decide) dX0_letCough_23 ?_
  refine lv_iload_n hx hb dX0_letCough_24 rfl (lv_at hl 0 rfl) ?_
  refine lv_iadd hx hb dX0_letCough_25 ?_
  refine wIast hx hb hK hP hD hS 4 0 rfl rfl x rfl (by omega) (by decide) dX0_letCough_26 (fun H locs hP hD hS => ?_)
  have hP : va_P D vwCl (DC cI a f (va_up (va_up r 2 (upd (r 2) x (((r 2) x) + 1))) 3 (upd (r 3) x (((r 3) x) + (dCough f (nI x) wt))))) H := hP
  have hD : va_D A (DC cI a f (va_up (va_up r 2 (upd (r 2) x (((r 2) x) + 1))) 3 (upd (r 3) x (((r 3) x) + (dCough f (nI x) wt))))) := hD
  refine lv_iload_n hx hb dX0_letCough_27 rfl (lv_at hl 0 rfl) ?_
  exact wRi hQ hx hb hr hlocks hP hD hS dX0_letCough_28 (f, (va_up (va_up r 2 (upd (r 2) x (((r 2) x) + 1))) 3 (upd (r 3) x (((r 3) x) + (dCough f (nI x) wt))))) (⟨rfl, rfl⟩) rfl
abbrev rmX0_send : Room := { frames := 3, cells := 0, slots := 0, locals := 66 }
set_option maxRecDepth 100000 in
set_option maxHeartbeats 4000000 in
/-- send -/
theorem mX0_send (l : Launch) (D : va_G) (cI : ClassId) (a : Nat → Nat) (f : Nat → Int32) (r : Nat → Nat → Int32) (x y n : Nat) (sz : Nat) (ux : x < 10) (uy : y < 10) (hn : f 9 = nI n) (hn1 : n < 100) : wCt l yX0_send wsX0_send rmX0_send D [(cI, .int)] [.ref (a 0), .int (nI x), .int (nI y)] (DC cI a f r) sz 0 0 (wQi D (fun v (u : dS) => v = 2 * dSeats (f 0) (nI x) (nI y) ∧ u = dSend f r x y n) (fun u : dS => DCs cI a u)) := by
  refine wMet cX0_send 4 (some .int) (by decide) rfl (Nat.le_of_ble_eq_true rfl) ?_
  intro p e s m args below meth c A Q ls hQ hx hb hr hml hown hlocks hin hts hN hP hK hD hA hS hl
  have hl : lv_has ls 4 [(0, .ref (a 0)), (1, .int (nI x)), (2, .int (nI y))] := hl
  have hown : s.vm.findClass RX0 = some m.cls := hown
  have hw0 : ∀ w ∈ wsX00, w.before args s = true := fun w h => hts w (List.mem_cons_of_mem _ (List.mem_append_right _ h))
  have k24 := hts (.fieldLink RX0 24 "PauseLedger$Dinner" "toGo" "[I") (by decide +kernel)
  have k30 := hts (.fieldLink RX0 30 "PauseLedger$Dinner" "order" "[I") (by decide +kernel)
  have k65 := hts (.fieldLink RX0 65 "PauseLedger$Dinner" "sent" "I") (by decide +kernel)
  refine lv_iload_n hx hb dX0_send_0 rfl (lv_at hl 1 rfl) ?_
  refine lv_iload_n hx hb dX0_send_1 rfl (lv_at hl 2 rfl) ?_
  refine wCNi (pre := ([] : va_W)) (Wc := ([] : va_W)) (suf := DC cI a f r) (As := [.int (nI x), .int (nI y)]) (rest := []) ⟨hx, hb, hml, hown, hts⟩ (mX1_pairOf l D cI x y _) hN hA hK hS hP hD rfl (⟨va_cnB 2 hts gX0_send_X1_pairOf_n84 rfl rfl rfl hN (hts (.initialized RX1) (by decide +kernel)) (by decide +kernel) ⟨Nat.le_of_ble_eq_true rfl, Nat.le_of_ble_eq_true rfl⟩, hts (.static yX1_pairOf) (by decide +kernel), trivial⟩) rfl hl.1 rfl (Nat.le_of_ble_eq_true rfl) dX0_send_2 ⟨Nat.zero_le _, Nat.zero_le _⟩ (fun r_2 u_2 H locs hw hP hD hS => ?_)
  have hw : r_2 = nI (x * 10 + y) := hw
  subst hw
  have hP : va_P D vwCl (DC cI a f r) H := hP
  have hD : va_D A (DC cI a f r) := hD
  refine lv_istore_n (lv' := [(3, .int (nI (x * 10 + y))), (0, .ref (a 0)), (1, .int (nI x)), (2, .int (nI y))]) hx hb dX0_send_5 rfl hl (by decide) rfl (fun ls hl => ?_)
  refine lv_aload_n hx hb dX0_send_6 rfl (lv_at hl 1 rfl) ?_
  refine va_get (D := D) (ci := 0) (v := .int (f 9)) (C := RX0) (T := TX0) (N := 17) hx hb hw0 (fun _ h => h) hown hK hP 0 rfl rfl 9 (by decide) k65 (fun _ h9 => h9) rfl dX0_send_7 ?_
  refine lv_aload_n hx hb dX0_send_10 rfl (lv_at hl 1 rfl) ?_
  refine va_get (D := D) (ci := 0) (v := .ref (a 7)) (C := RX0) (T := TX0) (N := 17) hx hb hw0 (fun _ h => h) hown hK hP 0 rfl rfl 16 (by decide) k30 (fun _ h9 => h9) rfl dX0_send_11 ?_
  refine va_alen (v := 100) hx hb hK hP 7 0 rfl rfl rfl dX0_send_14 ?_
  refine lv_icmp_ge (tgt := 50) hx hb dX0_send_15 (by decide) (fun h9 => absurd h9 (by rw [hn]; exact nI_ge (b := 100) hn1 (by decide))) (fun c_15 => ?_)
  refine lv_aload_n hx hb dX0_send_18 rfl (lv_at hl 1 rfl) ?_
  refine va_get (D := D) (ci := 0) (v := .ref (a 7)) (C := RX0) (T := TX0) (N := 17) hx hb hw0 (fun _ h => h) hown hK hP 0 rfl rfl 16 (by decide) k30 (fun _ h9 => h9) rfl dX0_send_19 ?_
  refine lv_aload_n hx hb dX0_send_22 rfl (lv_at hl 1 rfl) ?_
  refine va_get (D := D) (ci := 0) (v := .int (f 9)) (C := RX0) (T := TX0) (N := 17) hx hb hw0 (fun _ h => h) hown hK hP 0 rfl rfl 9 (by decide) k65 (fun _ h9 => h9) rfl dX0_send_23 ?_
  refine lv_iload_n hx hb dX0_send_26 rfl (lv_at hl 0 rfl) ?_
  refine wIast hx hb hK hP hD hS 7 0 rfl rfl n hn hn1 (by decide) dX0_send_27 (fun H locs hP hD hS => ?_)
  have hP : va_P D vwCl (DC cI a f (va_up r 6 (upd (r 6) n (nI (x * 10 + y))))) H := hP
  have hD : va_D A (DC cI a f (va_up r 6 (upd (r 6) n (nI (x * 10 + y))))) := hD
  refine lv_aload_n hx hb dX0_send_28 rfl (lv_at hl 1 rfl) ?_
  refine lv_dup hx hb dX0_send_29 rfl ?_
  refine va_get (D := D) (ci := 0) (v := .int (f 9)) (C := RX0) (T := TX0) (N := 17) hx hb hw0 (fun _ h => h) hown hK hP 0 rfl rfl 9 (by decide) k65 (fun _ h9 => h9) rfl dX0_send_30 ?_
  refine lv_iconst (v := 1) hx hb dX0_send_33 (by decide) ?_
  refine lv_iadd hx hb dX0_send_34 ?_
  refine va_put (D := D) (ci := 0) (v := .int ((f 9) + 1)) (ty := .int) (C := RX0) (T := TX0) (N := 17) hx hb hw0 (fun _ h => h) tyX0 tyX0_ok nmX0 hown hK hP hD hS 0 rfl rfl 9 (by decide) k65 (fun _ h9 => h9) rfl (by decide +kernel) rfl rfl (Nat.le_of_ble_eq_true rfl) dX0_send_35 (fun H locs hP hD hS => ?_)
  have hP : va_P D vwCl (DC cI a (upd f 9 ((f 9) + 1)) (va_up r 6 (upd (r 6) n (nI (x * 10 + y))))) H := hP
  have hD : va_D A (DC cI a (upd f 9 ((f 9) + 1)) (va_up r 6 (upd (r 6) n (nI (x * 10 + y))))) := hD
  refine lv_aload_n hx hb dX0_send_38 rfl (lv_at hl 1 rfl) ?_
  refine va_get (D := D) (ci := 0) (v := .ref (a 5)) (C := RX0) (T := TX0) (N := 17) hx hb hw0 (fun _ h => h) hown hK hP 0 rfl rfl 14 (by decide) k24 (fun _ h9 => h9) rfl dX0_send_39 ?_
  refine lv_iload_n hx hb dX0_send_42 rfl (lv_at hl 0 rfl) ?_
  refine lv_aload_n hx hb dX0_send_43 rfl (lv_at hl 1 rfl) ?_
  refine lv_iload_n hx hb dX0_send_44 rfl (lv_at hl 2 rfl) ?_
  refine lv_iload_n hx hb dX0_send_45 rfl (lv_at hl 3 rfl) ?_
  refine wCVi (pre := ([] : va_W)) (Wc := DC cI a (upd f 9 ((f 9) + 1)) (va_up r 6 (upd (r 6) n (nI (x * 10 + y))))) (suf := ([] : va_W)) (As := [.int (nI x), .int (nI y)]) (rest := [.int (nI (x * 10 + y)), .ref (a 5)]) ⟨hx, hb, hml, hown, hts⟩ (mX0_wayOf l D cI a (upd f 9 ((f 9) + 1)) (va_up r 6 (upd (r 6) n (nI (x * 10 + y)))) (nI x) (nI y) _) hN hA hK hS hP hD rfl 0 (r := (RX0, TX0, 17)) rfl rfl (cwV 2 hts gX0_send_X0_wayOf rfl rfl rfl (by decide +kernel) ⟨Nat.le_of_ble_eq_true rfl, Nat.le_of_ble_eq_true rfl⟩) rfl hl.1 rfl (Nat.le_of_ble_eq_true rfl) dX0_send_46 ⟨Nat.zero_le _, Nat.zero_le _⟩ (fun r_46 u_46 H locs hw hP hD hS => ?_)
  have hw : r_46 = 2 * dSeats (f 0) (nI x) (nI y) := hw
  subst hw
  have hP : va_P D vwCl (DC cI a (upd f 9 ((f 9) + 1)) (va_up r 6 (upd (r 6) n (nI (x * 10 + y))))) H := hP
  have hD : va_D A (DC cI a (upd f 9 ((f 9) + 1)) (va_up r 6 (upd (r 6) n (nI (x * 10 + y))))) := hD
  refine wIast hx hb hK hP hD hS 5 0 rfl rfl (x * 10 + y) rfl (by omega) (by decide) dX0_send_49 (fun H locs hP hD hS => ?_)
  have hP : va_P D vwCl (DC cI a (upd f 9 ((f 9) + 1)) (va_up (va_up r 4 (upd (r 4) (x * 10 + y) (2 * dSeats (f 0) (nI x) (nI y)))) 6 (upd (r 6) n (nI (x * 10 + y))))) H := hP
  have hD : va_D A (DC cI a (upd f 9 ((f 9) + 1)) (va_up (va_up r 4 (upd (r 4) (x * 10 + y) (2 * dSeats (f 0) (nI x) (nI y)))) 6 (upd (r 6) n (nI (x * 10 + y))))) := hD
  refine lv_aload_n hx hb dX0_send_50 rfl (lv_at hl 1 rfl) ?_
  refine lv_iload_n hx hb dX0_send_51 rfl (lv_at hl 2 rfl) ?_
  refine lv_iload_n hx hb dX0_send_52 rfl (lv_at hl 3 rfl) ?_
  refine wCVi (pre := ([] : va_W)) (Wc := DC cI a (upd f 9 ((f 9) + 1)) (va_up (va_up r 4 (upd (r 4) (x * 10 + y) (2 * dSeats (f 0) (nI x) (nI y)))) 6 (upd (r 6) n (nI (x * 10 + y))))) (suf := ([] : va_W)) (As := [.int (nI x), .int (nI y)]) (rest := []) ⟨hx, hb, hml, hown, hts⟩ (mX0_wayOf l D cI a (upd f 9 ((f 9) + 1)) (va_up (va_up r 4 (upd (r 4) (x * 10 + y) (2 * dSeats (f 0) (nI x) (nI y)))) 6 (upd (r 6) n (nI (x * 10 + y)))) (nI x) (nI y) _) hN hA hK hS hP hD rfl 0 (r := (RX0, TX0, 17)) rfl rfl (cwV 2 hts gX0_send_X0_wayOf rfl rfl rfl (by decide +kernel) ⟨Nat.le_of_ble_eq_true rfl, Nat.le_of_ble_eq_true rfl⟩) rfl hl.1 rfl (Nat.le_of_ble_eq_true rfl) dX0_send_53 ⟨Nat.zero_le _, Nat.zero_le _⟩ (fun r_53 u_53 H locs hw hP hD hS => ?_)
  have hw : r_53 = 2 * dSeats (f 0) (nI x) (nI y) := hw
  subst hw
  have hP : va_P D vwCl (DC cI a (upd f 9 ((f 9) + 1)) (va_up (va_up r 4 (upd (r 4) (x * 10 + y) (2 * dSeats (f 0) (nI x) (nI y)))) 6 (upd (r 6) n (nI (x * 10 + y))))) H := hP
  have hD : va_D A (DC cI a (upd f 9 ((f 9) + 1)) (va_up (va_up r 4 (upd (r 4) (x * 10 + y) (2 * dSeats (f 0) (nI x) (nI y)))) 6 (upd (r 6) n (nI (x * 10 + y))))) := hD
  exact wRi hQ hx hb hr hlocks hP hD hS dX0_send_56 ((upd f 9 ((f 9) + 1)), (va_up (va_up r 4 (upd (r 4) (x * 10 + y) (2 * dSeats (f 0) (nI x) (nI y)))) 6 (upd (r 6) n (nI (x * 10 + y))))) (⟨rfl, rfl⟩) rfl
abbrev rmX0_speakOrPause : Room := { frames := 1, cells := 0, slots := 0, locals := 21 }
set_option maxRecDepth 100000 in
set_option maxHeartbeats 4000000 in
/-- speakOrPause -/
theorem mX0_speakOrPause (l : Launch) (D : va_G) (cI : ClassId) (a : Nat → Nat) (f : Nat → Int32) (r : Nat → Nat → Int32) (sz : Nat) (hs : f 3 = -1 ∨ ∃ q, q < 10 ∧ f 3 = nI q) : wCt l yX0_speakOrPause wsX0_speakOrPause rmX0_speakOrPause D [(cI, .int)] [.ref (a 0)] (DC cI a f r) sz 0 0 (wQv D (fun u : dS => u = dTalk f r) (fun u : dS => DCs cI a u)) := by
  refine wMet cX0_speakOrPause 1 none (by decide) rfl (Nat.le_of_ble_eq_true rfl) ?_
  intro p e s m args below meth c A Q ls hQ hx hb hr hml hown hlocks hin hts hN hP hK hD hA hS hl
  have hl : lv_has ls 1 [(0, .ref (a 0))] := hl
  have hown : s.vm.findClass RX0 = some m.cls := hown
  have hw0 : ∀ w ∈ wsX00, w.before args s = true := fun w h => hts w (List.mem_cons_of_mem _ (List.mem_append_right _ h))
  have k9 := hts (.fieldLink RX0 9 "PauseLedger$Dinner" "spoken" "[I") (by decide +kernel)
  have k47 := hts (.fieldLink RX0 47 "PauseLedger$Dinner" "speaker" "I") (by decide +kernel)
  have k50 := hts (.fieldLink RX0 50 "PauseLedger$Dinner" "toSpeak" "I") (by decide +kernel)
  have k53 := hts (.fieldLink RX0 53 "PauseLedger$Dinner" "pause" "I") (by decide +kernel)
  have k56 := hts (.fieldLink RX0 56 "PauseLedger$Dinner" "unsaidInPauses" "I") (by decide +kernel)
  refine lv_aload_n hx hb dX0_speakOrPause_0 rfl (lv_at hl 0 rfl) ?_
  refine va_get (D := D) (ci := 0) (v := .int (f 3)) (C := RX0) (T := TX0) (N := 17) hx hb hw0 (fun _ h => h) hown hK hP 0 rfl rfl 3 (by decide) k47 (fun _ h9 => h9) rfl dX0_speakOrPause_1 ?_
  refine lv_iconst (v := (-1)) hx hb dX0_speakOrPause_4 (by decide) ?_
  refine lv_icmp_ne (tgt := 40) hx hb dX0_speakOrPause_5 (by decide) (fun c_5 => ?_) (fun c_5 => ?_)
  · obtain ⟨q, hq, eq⟩ := hs.resolve_left c_5
    have en : dN (f 3) = q := by rw [eq]; exact dN_nI (by omega)
    refine lv_aload_n hx hb dX0_speakOrPause_40 rfl (lv_at hl 0 rfl) ?_
    refine lv_iconst (v := 0) hx hb dX0_speakOrPause_41 (by decide) ?_
    refine va_put (D := D) (ci := 0) (v := .int 0) (ty := .int) (C := RX0) (T := TX0) (N := 17) hx hb hw0 (fun _ h => h) tyX0 tyX0_ok nmX0 hown hK hP hD hS 0 rfl rfl 5 (by decide) k53 (fun _ h9 => h9) rfl (by decide +kernel) rfl rfl (Nat.le_of_ble_eq_true rfl) dX0_speakOrPause_42 (fun H locs hP hD hS => ?_)
    have hP : va_P D vwCl (DC cI a (upd f 5 0) r) H := hP
    have hD : va_D A (DC cI a (upd f 5 0) r) := hD
    refine lv_aload_n hx hb dX0_speakOrPause_45 rfl (lv_at hl 0 rfl) ?_
    refine va_get (D := D) (ci := 0) (v := .ref (a 1)) (C := RX0) (T := TX0) (N := 17) hx hb hw0 (fun _ h => h) hown hK hP 0 rfl rfl 10 (by decide) k9 (fun _ h9 => h9) rfl dX0_speakOrPause_46 ?_
    refine lv_aload_n hx hb dX0_speakOrPause_49 rfl (lv_at hl 0 rfl) ?_
    refine va_get (D := D) (ci := 0) (v := .int (f 3)) (C := RX0) (T := TX0) (N := 17) hx hb hw0 (fun _ h => h) hown hK hP 0 rfl rfl 3 (by decide) k47 (fun _ h9 => h9) rfl dX0_speakOrPause_50 ?_
    refine lv_dup2_11 hx hb dX0_speakOrPause_53 rfl rfl ?_
    refine wIald hx hb hK hP 1 0 rfl rfl q eq hq (by decide) dX0_speakOrPause_54 ?_
    refine lv_iconst (v := 1) hx hb dX0_speakOrPause_55 (by decide) ?_
    refine lv_iadd hx hb dX0_speakOrPause_56 ?_
    refine wIast hx hb hK hP hD hS 1 0 rfl rfl q eq hq (by decide) dX0_speakOrPause_57 (fun H locs hP hD hS => ?_)
    have hP : va_P D vwCl (DC cI a (upd f 5 0) (va_up r 0 (upd (r 0) q (((r 0) q) + 1)))) H := hP
    have hD : va_D A (DC cI a (upd f 5 0) (va_up r 0 (upd (r 0) q (((r 0) q) + 1)))) := hD
    refine lv_aload_n hx hb dX0_speakOrPause_58 rfl (lv_at hl 0 rfl) ?_
    refine lv_dup hx hb dX0_speakOrPause_59 rfl ?_
    refine va_get (D := D) (ci := 0) (v := .int (f 4)) (C := RX0) (T := TX0) (N := 17) hx hb hw0 (fun _ h => h) hown hK hP 0 rfl rfl 4 (by decide) k50 (fun _ h9 => h9) rfl dX0_speakOrPause_60 ?_
    refine lv_iconst (v := 1) hx hb dX0_speakOrPause_63 (by decide) ?_
    refine lv_isub hx hb dX0_speakOrPause_64 ?_
    refine va_put (D := D) (ci := 0) (v := .int ((f 4) - 1)) (ty := .int) (C := RX0) (T := TX0) (N := 17) hx hb hw0 (fun _ h => h) tyX0 tyX0_ok nmX0 hown hK hP hD hS 0 rfl rfl 4 (by decide) k50 (fun _ h9 => h9) rfl (by decide +kernel) rfl rfl (Nat.le_of_ble_eq_true rfl) dX0_speakOrPause_65 (fun H locs hP hD hS => ?_)
    have hP : va_P D vwCl (DC cI a (upd (upd f 4 ((f 4) - 1)) 5 0) (va_up r 0 (upd (r 0) q (((r 0) q) + 1)))) H := hP
    have hD : va_D A (DC cI a (upd (upd f 4 ((f 4) - 1)) 5 0) (va_up r 0 (upd (r 0) q (((r 0) q) + 1)))) := hD
    refine lv_aload_n hx hb dX0_speakOrPause_68 rfl (lv_at hl 0 rfl) ?_
    refine va_get (D := D) (ci := 0) (v := .int ((f 4) - 1)) (C := RX0) (T := TX0) (N := 17) hx hb hw0 (fun _ h => h) hown hK hP 0 rfl rfl 4 (by decide) k50 (fun _ h9 => h9) rfl dX0_speakOrPause_69 ?_
    refine lv_if_ne (tgt := 80) hx hb dX0_speakOrPause_72 (by decide) (fun c_72 => ?_) (fun c_72 => ?_)
    · exact wRv hQ hx hb hr hlocks hP hD hS dX0_speakOrPause_80 ((upd (upd f 4 ((f 4) - 1)) 5 0), (va_up r 0 (upd (r 0) q (((r 0) q) + 1)))) (by simp only [dTalk, if_neg c_5, if_neg c_72, en]) rfl
    · refine lv_aload_n hx hb dX0_speakOrPause_75 rfl (lv_at hl 0 rfl) ?_
      refine lv_iconst (v := (-1)) hx hb dX0_speakOrPause_76 (by decide) ?_
      refine va_put (D := D) (ci := 0) (v := .int (-1)) (ty := .int) (C := RX0) (T := TX0) (N := 17) hx hb hw0 (fun _ h => h) tyX0 tyX0_ok nmX0 hown hK hP hD hS 0 rfl rfl 3 (by decide) k47 (fun _ h9 => h9) rfl (by decide +kernel) rfl rfl (Nat.le_of_ble_eq_true rfl) dX0_speakOrPause_77 (fun H locs hP hD hS => ?_)
      have hP : va_P D vwCl (DC cI a (upd (upd (upd f 3 (-1)) 4 ((f 4) - 1)) 5 0) (va_up r 0 (upd (r 0) q (((r 0) q) + 1)))) H := hP
      have hD : va_D A (DC cI a (upd (upd (upd f 3 (-1)) 4 ((f 4) - 1)) 5 0) (va_up r 0 (upd (r 0) q (((r 0) q) + 1)))) := hD
      exact wRv hQ hx hb hr hlocks hP hD hS dX0_speakOrPause_80 ((upd (upd (upd f 3 (-1)) 4 ((f 4) - 1)) 5 0), (va_up r 0 (upd (r 0) q (((r 0) q) + 1)))) (by simp only [dTalk, if_neg c_5, if_pos c_72, en]) rfl
  · refine lv_aload_n hx hb dX0_speakOrPause_8 rfl (lv_at hl 0 rfl) ?_
    refine lv_dup hx hb dX0_speakOrPause_9 rfl ?_
    refine va_get (D := D) (ci := 0) (v := .int (f 5)) (C := RX0) (T := TX0) (N := 17) hx hb hw0 (fun _ h => h) hown hK hP 0 rfl rfl 5 (by decide) k53 (fun _ h9 => h9) rfl dX0_speakOrPause_10 ?_
    refine lv_iconst (v := 1) hx hb dX0_speakOrPause_13 (by decide) ?_
    refine lv_iadd hx hb dX0_speakOrPause_14 ?_
    refine va_put (D := D) (ci := 0) (v := .int ((f 5) + 1)) (ty := .int) (C := RX0) (T := TX0) (N := 17) hx hb hw0 (fun _ h => h) tyX0 tyX0_ok nmX0 hown hK hP hD hS 0 rfl rfl 5 (by decide) k53 (fun _ h9 => h9) rfl (by decide +kernel) rfl rfl (Nat.le_of_ble_eq_true rfl) dX0_speakOrPause_15 (fun H locs hP hD hS => ?_)
    have hP : va_P D vwCl (DC cI a (upd f 5 ((f 5) + 1)) r) H := hP
    have hD : va_D A (DC cI a (upd f 5 ((f 5) + 1)) r) := hD
    refine lv_aload_n hx hb dX0_speakOrPause_18 rfl (lv_at hl 0 rfl) ?_
    refine lv_aload_n hx hb dX0_speakOrPause_19 rfl (lv_at hl 0 rfl) ?_
    refine va_get (D := D) (ci := 0) (v := .int ((f 5) + 1)) (C := RX0) (T := TX0) (N := 17) hx hb hw0 (fun _ h => h) hown hK hP 0 rfl rfl 5 (by decide) k53 (fun _ h9 => h9) rfl dX0_speakOrPause_20 ?_
    refine wCVi (pre := ([] : va_W)) (Wc := DC cI a (upd f 5 ((f 5) + 1)) r) (suf := ([] : va_W)) (As := [.int ((f 5) + 1)]) (rest := []) ⟨hx, hb, hml, hown, hts⟩ (mX0_beyondMultipleOfLimit l D cI a (upd f 5 ((f 5) + 1)) r ((f 5) + 1) _) hN hA hK hS hP hD rfl 0 (r := (RX0, TX0, 17)) rfl rfl (cwV 1 hts gX0_speakOrPause_X0_beyondMultipleOfLimit rfl rfl rfl (by decide +kernel) ⟨Nat.le_of_ble_eq_true rfl, Nat.le_of_ble_eq_true rfl⟩) rfl hl.1 rfl (Nat.le_of_ble_eq_true rfl) dX0_speakOrPause_23 ⟨Nat.zero_le _, Nat.zero_le _⟩ (fun r_23 u_23 H locs hw hP hD hS => ?_)
    have hw : r_23 = dBm (f 2) ((f 5) + 1) := hw
    subst hw
    have hP : va_P D vwCl (DC cI a (upd f 5 ((f 5) + 1)) r) H := hP
    have hD : va_D A (DC cI a (upd f 5 ((f 5) + 1)) r) := hD
    refine lv_if_ne (tgt := 39) hx hb dX0_speakOrPause_26 (by decide) (fun c_26 => ?_) (fun c_26 => ?_)
    · exact wRv hQ hx hb hr hlocks hP hD hS dX0_speakOrPause_39 ((upd f 5 ((f 5) + 1)), r) (by simp only [dTalk, if_pos c_5, if_neg c_26]) rfl
    · refine lv_aload_n hx hb dX0_speakOrPause_29 rfl (lv_at hl 0 rfl) ?_
      refine lv_dup hx hb dX0_speakOrPause_30 rfl ?_
      refine va_get (D := D) (ci := 0) (v := .int (f 6)) (C := RX0) (T := TX0) (N := 17) hx hb hw0 (fun _ h => h) hown hK hP 0 rfl rfl 6 (by decide) k56 (fun _ h9 => h9) rfl dX0_speakOrPause_31 ?_
      refine lv_iconst (v := 1) hx hb dX0_speakOrPause_34 (by decide) ?_
      refine lv_iadd hx hb dX0_speakOrPause_35 ?_
      refine va_put (D := D) (ci := 0) (v := .int ((f 6) + 1)) (ty := .int) (C := RX0) (T := TX0) (N := 17) hx hb hw0 (fun _ h => h) tyX0 tyX0_ok nmX0 hown hK hP hD hS 0 rfl rfl 6 (by decide) k56 (fun _ h9 => h9) rfl (by decide +kernel) rfl rfl (Nat.le_of_ble_eq_true rfl) dX0_speakOrPause_36 (fun H locs hP hD hS => ?_)
      have hP : va_P D vwCl (DC cI a (upd (upd f 5 ((f 5) + 1)) 6 ((f 6) + 1)) r) H := hP
      have hD : va_D A (DC cI a (upd (upd f 5 ((f 5) + 1)) 6 ((f 6) + 1)) r) := hD
      exact wRv hQ hx hb hr hlocks hP hD hS dX0_speakOrPause_39 ((upd (upd f 5 ((f 5) + 1)) 6 ((f 6) + 1)), r) (by simp only [dTalk, if_pos c_5, if_pos c_26]) rfl
abbrev rmX0_arrive : Room := { frames := 1, cells := 0, slots := 0, locals := 21 }
set_option maxRecDepth 100000 in
set_option maxHeartbeats 4000000 in
/-- arrive -/
theorem mX0_arrive (l : Launch) (D : va_G) (cI : ClassId) (a : Nat → Nat) (f : Nat → Int32) (r : Nat → Nat → Int32) (x y : Nat) (sz : Nat) (ux : x < 10) (uy : y < 10) : wCt l yX0_arrive wsX0_arrive rmX0_arrive D [(cI, .int)] [.ref (a 0), .int (nI x), .int (nI y)] (DC cI a f r) sz 0 0 (wQv D (fun u : dS => u = dArr f r x y) (fun u : dS => DCs cI a u)) := by
  refine wMet cX0_arrive 5 none (by decide) rfl (Nat.le_of_ble_eq_true rfl) ?_
  intro p e s m args below meth c A Q ls hQ hx hb hr hml hown hlocks hin hts hN hP hK hD hA hS hl
  have hl : lv_has ls 5 [(0, .ref (a 0)), (1, .int (nI x)), (2, .int (nI y))] := hl
  have hown : s.vm.findClass RX0 = some m.cls := hown
  have hw0 : ∀ w ∈ wsX00, w.before args s = true := fun w h => hts w (List.mem_cons_of_mem _ (List.mem_append_right _ h))
  have k21 := hts (.fieldLink RX0 21 "PauseLedger$Dinner" "unsaid" "[I") (by decide +kernel)
  have k24 := hts (.fieldLink RX0 24 "PauseLedger$Dinner" "toGo" "[I") (by decide +kernel)
  have k27 := hts (.fieldLink RX0 27 "PauseLedger$Dinner" "caught" "[I") (by decide +kernel)
  have k47 := hts (.fieldLink RX0 47 "PauseLedger$Dinner" "speaker" "I") (by decide +kernel)
  have k59 := hts (.fieldLink RX0 59 "PauseLedger$Dinner" "meetings" "I") (by decide +kernel)
  have k62 := hts (.fieldLink RX0 62 "PauseLedger$Dinner" "lost" "I") (by decide +kernel)
  refine lv_iload_n hx hb dX0_arrive_0 rfl (lv_at hl 1 rfl) ?_
  refine lv_iload_n hx hb dX0_arrive_1 rfl (lv_at hl 2 rfl) ?_
  refine wCNi (pre := ([] : va_W)) (Wc := ([] : va_W)) (suf := DC cI a f r) (As := [.int (nI x), .int (nI y)]) (rest := []) ⟨hx, hb, hml, hown, hts⟩ (mX1_pairOf l D cI x y _) hN hA hK hS hP hD rfl (⟨va_cnB 2 hts gX0_arrive_X1_pairOf_n84 rfl rfl rfl hN (hts (.initialized RX1) (by decide +kernel)) (by decide +kernel) ⟨Nat.le_of_ble_eq_true rfl, Nat.le_of_ble_eq_true rfl⟩, hts (.static yX1_pairOf) (by decide +kernel), trivial⟩) rfl hl.1 rfl (Nat.le_of_ble_eq_true rfl) dX0_arrive_2 ⟨Nat.zero_le _, Nat.zero_le _⟩ (fun r_2 u_2 H locs hw hP hD hS => ?_)
  have hw : r_2 = nI (x * 10 + y) := hw
  subst hw
  have hP : va_P D vwCl (DC cI a f r) H := hP
  have hD : va_D A (DC cI a f r) := hD
  refine lv_istore_n (lv' := [(3, .int (nI (x * 10 + y))), (0, .ref (a 0)), (1, .int (nI x)), (2, .int (nI y))]) hx hb dX0_arrive_5 rfl hl (by decide) rfl (fun ls hl => ?_)
  refine lv_iload_n hx hb dX0_arrive_6 rfl (lv_at hl 3 rfl) ?_
  refine lv_iload_n hx hb dX0_arrive_7 rfl (lv_at hl 2 rfl) ?_
  refine wCNi (pre := ([] : va_W)) (Wc := ([] : va_W)) (suf := DC cI a f r) (As := [.int (nI y), .int (nI x)]) (rest := []) ⟨hx, hb, hml, hown, hts⟩ (mX1_pairOf l D cI y x _) hN hA hK hS hP hD rfl (⟨va_cnB 2 hts gX0_arrive_X1_pairOf_n84 rfl rfl rfl hN (hts (.initialized RX1) (by decide +kernel)) (by decide +kernel) ⟨Nat.le_of_ble_eq_true rfl, Nat.le_of_ble_eq_true rfl⟩, hts (.static yX1_pairOf) (by decide +kernel), trivial⟩) rfl hl.1 rfl (Nat.le_of_ble_eq_true rfl) dX0_arrive_8 ⟨Nat.zero_le _, Nat.zero_le _⟩ (fun r_8 u_8 H locs hw hP hD hS => ?_)
  have hw : r_8 = nI (y * 10 + x) := hw
  subst hw
  have hP : va_P D vwCl (DC cI a f r) H := hP
  have hD : va_D A (DC cI a f r) := hD
  refine lv_istore (lv' := [(4, .int (nI (y * 10 + x))), (3, .int (nI (x * 10 + y))), (0, .ref (a 0)), (1, .int (nI x)), (2, .int (nI y))]) hx hb dX0_arrive_11 hl (by decide) rfl (fun ls hl => ?_)
  refine lv_aload_n hx hb dX0_arrive_13 rfl (lv_at hl 2 rfl) ?_
  refine lv_iload hx hb dX0_arrive_14 (lv_at hl 0 rfl) ?_
  refine wCVi (pre := ([] : va_W)) (Wc := DC cI a f r) (suf := ([] : va_W)) (As := [.int (nI (y * 10 + x))]) (rest := []) ⟨hx, hb, hml, hown, hts⟩ (mX0_isOnItsWay l D cI a f r (y * 10 + x) _ (by omega)) hN hA hK hS hP hD rfl 0 (r := (RX0, TX0, 17)) rfl rfl (cwV 1 hts gX0_arrive_X0_isOnItsWay rfl rfl rfl (by decide +kernel) ⟨Nat.le_of_ble_eq_true rfl, Nat.le_of_ble_eq_true rfl⟩) rfl hl.1 rfl (Nat.le_of_ble_eq_true rfl) dX0_arrive_16 ⟨Nat.zero_le _, Nat.zero_le _⟩ (fun r_16 u_16 H locs hw hP hD hS => ?_)
  have hw : r_16 = if (r 4) (y * 10 + x) = -1 then 0 else 1 := hw
  subst hw
  have hP : va_P D vwCl (DC cI a f r) H := hP
  have hD : va_D A (DC cI a f r) := hD
  refine lv_if_eq (tgt := 63) hx hb dX0_arrive_19 (by decide) (fun c_19 => ?_) (fun c_19 => ?_)
  · have c_19 := ite01.mp c_19
    refine lv_aload_n hx hb dX0_arrive_63 rfl (lv_at hl 2 rfl) ?_
    refine va_get (D := D) (ci := 0) (v := .int (f 3)) (C := RX0) (T := TX0) (N := 17) hx hb hw0 (fun _ h => h) hown hK hP 0 rfl rfl 3 (by decide) k47 (fun _ h9 => h9) rfl dX0_arrive_64 ?_
    refine lv_iload_n hx hb dX0_arrive_67 rfl (lv_at hl 4 rfl) ?_
    refine lv_icmp_ne (tgt := 84) hx hb dX0_arrive_68 (by decide) (fun c_68 => ?_) (fun c_68 => ?_)
    · refine lv_aload_n hx hb dX0_arrive_84 rfl (lv_at hl 2 rfl) ?_
      refine va_get (D := D) (ci := 0) (v := .ref (a 6)) (C := RX0) (T := TX0) (N := 17) hx hb hw0 (fun _ h => h) hown hK hP 0 rfl rfl 15 (by decide) k27 (fun _ h9 => h9) rfl dX0_arrive_85 ?_
      refine lv_iload_n hx hb dX0_arrive_88 rfl (lv_at hl 1 rfl) ?_
      refine lv_dup2_11 hx hb dX0_arrive_89 rfl rfl ?_
      refine wIald hx hb hK hP 6 0 rfl rfl (x * 10 + y) rfl (by omega) (by decide) dX0_arrive_90 ?_
      refine lv_iconst (v := 1) hx hb dX0_arrive_91 (by decide) ?_
      refine lv_iadd hx hb dX0_arrive_92 ?_
      refine wIast hx hb hK hP hD hS 6 0 rfl rfl (x * 10 + y) rfl (by omega) (by decide) dX0_arrive_93 (fun H locs hP hD hS => ?_)
      have hP : va_P D vwCl (DC cI a f (va_up r 5 (upd (r 5) (x * 10 + y) (((r 5) (x * 10 + y)) + 1)))) H := hP
      have hD : va_D A (DC cI a f (va_up r 5 (upd (r 5) (x * 10 + y) (((r 5) (x * 10 + y)) + 1)))) := hD
      refine lv_aload_n hx hb dX0_arrive_94 rfl (lv_at hl 2 rfl) ?_
      refine va_get (D := D) (ci := 0) (v := .ref (a 4)) (C := RX0) (T := TX0) (N := 17) hx hb hw0 (fun _ h => h) hown hK hP 0 rfl rfl 13 (by decide) k21 (fun _ h9 => h9) rfl dX0_arrive_95 ?_
      refine lv_iload_n hx hb dX0_arrive_98 rfl (lv_at hl 3 rfl) ?_
      refine lv_dup2_11 hx hb dX0_arrive_99 rfl rfl ?_
      refine wIald hx hb hK hP 4 0 rfl rfl x rfl (by omega) (by decide) dX0_arrive_100 ?_
      refine lv_iconst (v := 1) hx hb dX0_arrive_101 (by decide) ?_
      refine lv_iadd hx hb dX0_arrive_102 ?_
      refine wIast hx hb hK hP hD hS 4 0 rfl rfl x rfl (by omega) (by decide) dX0_arrive_103 (fun H locs hP hD hS => ?_)
      have hP : va_P D vwCl (DC cI a f (va_up (va_up r 3 (upd (r 3) x (((r 3) x) + 1))) 5 (upd (r 5) (x * 10 + y) (((r 5) (x * 10 + y)) + 1)))) H := hP
      have hD : va_D A (DC cI a f (va_up (va_up r 3 (upd (r 3) x (((r 3) x) + 1))) 5 (upd (r 5) (x * 10 + y) (((r 5) (x * 10 + y)) + 1)))) := hD
      refine lv_aload_n hx hb dX0_arrive_104 rfl (lv_at hl 2 rfl) ?_
      refine va_get (D := D) (ci := 0) (v := .ref (a 5)) (C := RX0) (T := TX0) (N := 17) hx hb hw0 (fun _ h => h) hown hK hP 0 rfl rfl 14 (by decide) k24 (fun _ h9 => h9) rfl dX0_arrive_105 ?_
      refine lv_iload_n hx hb dX0_arrive_108 rfl (lv_at hl 1 rfl) ?_
      refine lv_iconst (v := (-1)) hx hb dX0_arrive_109 (by decide) ?_
      refine wIast hx hb hK hP hD hS 5 0 rfl rfl (x * 10 + y) rfl (by omega) (by decide) dX0_arrive_110 (fun H locs hP hD hS => ?_)
      have hP : va_P D vwCl (DC cI a f (va_up (va_up (va_up r 3 (upd (r 3) x (((r 3) x) + 1))) 4 (upd (r 4) (x * 10 + y) (-1))) 5 (upd (r 5) (x * 10 + y) (((r 5) (x * 10 + y)) + 1)))) H := hP
      have hD : va_D A (DC cI a f (va_up (va_up (va_up r 3 (upd (r 3) x (((r 3) x) + 1))) 4 (upd (r 4) (x * 10 + y) (-1))) 5 (upd (r 5) (x * 10 + y) (((r 5) (x * 10 + y)) + 1)))) := hD
      exact wRv hQ hx hb hr hlocks hP hD hS dX0_arrive_111 (f, (va_up (va_up (va_up r 3 (upd (r 3) x (((r 3) x) + 1))) 4 (upd (r 4) (x * 10 + y) (-1))) 5 (upd (r 5) (x * 10 + y) (((r 5) (x * 10 + y)) + 1)))) (by simp only [dArr, if_pos c_19, if_neg c_68]) rfl
    · refine lv_aload_n hx hb dX0_arrive_71 rfl (lv_at hl 2 rfl) ?_
      refine lv_dup hx hb dX0_arrive_72 rfl ?_
      refine va_get (D := D) (ci := 0) (v := .int (f 8)) (C := RX0) (T := TX0) (N := 17) hx hb hw0 (fun _ h => h) hown hK hP 0 rfl rfl 8 (by decide) k62 (fun _ h9 => h9) rfl dX0_arrive_73 ?_
      refine lv_iconst (v := 1) hx hb dX0_arrive_76 (by decide) ?_
      refine lv_iadd hx hb dX0_arrive_77 ?_
      refine va_put (D := D) (ci := 0) (v := .int ((f 8) + 1)) (ty := .int) (C := RX0) (T := TX0) (N := 17) hx hb hw0 (fun _ h => h) tyX0 tyX0_ok nmX0 hown hK hP hD hS 0 rfl rfl 8 (by decide) k62 (fun _ h9 => h9) rfl (by decide +kernel) rfl rfl (Nat.le_of_ble_eq_true rfl) dX0_arrive_78 (fun H locs hP hD hS => ?_)
      have hP : va_P D vwCl (DC cI a (upd f 8 ((f 8) + 1)) r) H := hP
      have hD : va_D A (DC cI a (upd f 8 ((f 8) + 1)) r) := hD
      refine lv_goto (tgt := 104) hx hb dX0_arrive_81 (by decide) ?_
      refine lv_aload_n hx hb dX0_arrive_104 rfl (lv_at hl 2 rfl) ?_
      refine va_get (D := D) (ci := 0) (v := .ref (a 5)) (C := RX0) (T := TX0) (N := 17) hx hb hw0 (fun _ h => h) hown hK hP 0 rfl rfl 14 (by decide) k24 (fun _ h9 => h9) rfl dX0_arrive_105 ?_
      refine lv_iload_n hx hb dX0_arrive_108 rfl (lv_at hl 1 rfl) ?_
      refine lv_iconst (v := (-1)) hx hb dX0_arrive_109 (by decide) ?_
      refine wIast hx hb hK hP hD hS 5 0 rfl rfl (x * 10 + y) rfl (by omega) (by decide) dX0_arrive_110 (fun H locs hP hD hS => ?_)
      have hP : va_P D vwCl (DC cI a (upd f 8 ((f 8) + 1)) (va_up r 4 (upd (r 4) (x * 10 + y) (-1)))) H := hP
      have hD : va_D A (DC cI a (upd f 8 ((f 8) + 1)) (va_up r 4 (upd (r 4) (x * 10 + y) (-1)))) := hD
      exact wRv hQ hx hb hr hlocks hP hD hS dX0_arrive_111 ((upd f 8 ((f 8) + 1)), (va_up r 4 (upd (r 4) (x * 10 + y) (-1)))) (by simp only [dArr, if_pos c_19, if_pos c_68]) rfl
  · have c_19 := ite01n.mp c_19
    refine lv_aload_n hx hb dX0_arrive_22 rfl (lv_at hl 2 rfl) ?_
    refine lv_dup hx hb dX0_arrive_23 rfl ?_
    refine va_get (D := D) (ci := 0) (v := .int (f 7)) (C := RX0) (T := TX0) (N := 17) hx hb hw0 (fun _ h => h) hown hK hP 0 rfl rfl 7 (by decide) k59 (fun _ h9 => h9) rfl dX0_arrive_24 ?_
    refine lv_iconst (v := 1) hx hb dX0_arrive_27 (by decide) ?_
    refine lv_iadd hx hb dX0_arrive_28 ?_
    refine va_put (D := D) (ci := 0) (v := .int ((f 7) + 1)) (ty := .int) (C := RX0) (T := TX0) (N := 17) hx hb hw0 (fun _ h => h) tyX0 tyX0_ok nmX0 hown hK hP hD hS 0 rfl rfl 7 (by decide) k59 (fun _ h9 => h9) rfl (by decide +kernel) rfl rfl (Nat.le_of_ble_eq_true rfl) dX0_arrive_29 (fun H locs hP hD hS => ?_)
    have hP : va_P D vwCl (DC cI a (upd f 7 ((f 7) + 1)) r) H := hP
    have hD : va_D A (DC cI a (upd f 7 ((f 7) + 1)) r) := hD
    refine lv_aload_n hx hb dX0_arrive_32 rfl (lv_at hl 2 rfl) ?_
    refine va_get (D := D) (ci := 0) (v := .ref (a 4)) (C := RX0) (T := TX0) (N := 17) hx hb hw0 (fun _ h => h) hown hK hP 0 rfl rfl 13 (by decide) k21 (fun _ h9 => h9) rfl dX0_arrive_33 ?_
    refine lv_iload_n hx hb dX0_arrive_36 rfl (lv_at hl 3 rfl) ?_
    refine lv_dup2_11 hx hb dX0_arrive_37 rfl rfl ?_
    refine wIald hx hb hK hP 4 0 rfl rfl x rfl (by omega) (by decide) dX0_arrive_38 ?_
    refine lv_iconst (v := 3) hx hb dX0_arrive_39 (by decide) ?_
    refine lv_iadd hx hb dX0_arrive_40 ?_
    refine wIast hx hb hK hP hD hS 4 0 rfl rfl x rfl (by omega) (by decide) dX0_arrive_41 (fun H locs hP hD hS => ?_)
    have hP : va_P D vwCl (DC cI a (upd f 7 ((f 7) + 1)) (va_up r 3 (upd (r 3) x (((r 3) x) + 3)))) H := hP
    have hD : va_D A (DC cI a (upd f 7 ((f 7) + 1)) (va_up r 3 (upd (r 3) x (((r 3) x) + 3)))) := hD
    refine lv_aload_n hx hb dX0_arrive_42 rfl (lv_at hl 2 rfl) ?_
    refine va_get (D := D) (ci := 0) (v := .ref (a 4)) (C := RX0) (T := TX0) (N := 17) hx hb hw0 (fun _ h => h) hown hK hP 0 rfl rfl 13 (by decide) k21 (fun _ h9 => h9) rfl dX0_arrive_43 ?_
    refine lv_iload_n hx hb dX0_arrive_46 rfl (lv_at hl 4 rfl) ?_
    refine lv_dup2_11 hx hb dX0_arrive_47 rfl rfl ?_
    refine wIald hx hb hK hP 4 0 rfl rfl y rfl (by omega) (by decide) dX0_arrive_48 ?_
    refine lv_iconst (v := 3) hx hb dX0_arrive_49 (by decide) ?_
    refine lv_iadd hx hb dX0_arrive_50 ?_
    refine wIast hx hb hK hP hD hS 4 0 rfl rfl y rfl (by omega) (by decide) dX0_arrive_51 (fun H locs hP hD hS => ?_)
    have hP : va_P D vwCl (DC cI a (upd f 7 ((f 7) + 1)) (va_up r 3 (upd (upd (r 3) x (((r 3) x) + 3)) y (((upd (r 3) x (((r 3) x) + 3)) y) + 3)))) H := hP
    have hD : va_D A (DC cI a (upd f 7 ((f 7) + 1)) (va_up r 3 (upd (upd (r 3) x (((r 3) x) + 3)) y (((upd (r 3) x (((r 3) x) + 3)) y) + 3)))) := hD
    refine lv_aload_n hx hb dX0_arrive_52 rfl (lv_at hl 2 rfl) ?_
    refine va_get (D := D) (ci := 0) (v := .ref (a 5)) (C := RX0) (T := TX0) (N := 17) hx hb hw0 (fun _ h => h) hown hK hP 0 rfl rfl 14 (by decide) k24 (fun _ h9 => h9) rfl dX0_arrive_53 ?_
    refine lv_iload hx hb dX0_arrive_56 (lv_at hl 0 rfl) ?_
    refine lv_iconst (v := (-1)) hx hb dX0_arrive_58 (by decide) ?_
    refine wIast hx hb hK hP hD hS 5 0 rfl rfl (y * 10 + x) rfl (by omega) (by decide) dX0_arrive_59 (fun H locs hP hD hS => ?_)
    have hP : va_P D vwCl (DC cI a (upd f 7 ((f 7) + 1)) (va_up (va_up r 3 (upd (upd (r 3) x (((r 3) x) + 3)) y (((upd (r 3) x (((r 3) x) + 3)) y) + 3))) 4 (upd (r 4) (y * 10 + x) (-1)))) H := hP
    have hD : va_D A (DC cI a (upd f 7 ((f 7) + 1)) (va_up (va_up r 3 (upd (upd (r 3) x (((r 3) x) + 3)) y (((upd (r 3) x (((r 3) x) + 3)) y) + 3))) 4 (upd (r 4) (y * 10 + x) (-1)))) := hD
    refine lv_goto (tgt := 104) hx hb dX0_arrive_60 (by decide) ?_
    refine lv_aload_n hx hb dX0_arrive_104 rfl (lv_at hl 2 rfl) ?_
    refine va_get (D := D) (ci := 0) (v := .ref (a 5)) (C := RX0) (T := TX0) (N := 17) hx hb hw0 (fun _ h => h) hown hK hP 0 rfl rfl 14 (by decide) k24 (fun _ h9 => h9) rfl dX0_arrive_105 ?_
    refine lv_iload_n hx hb dX0_arrive_108 rfl (lv_at hl 1 rfl) ?_
    refine lv_iconst (v := (-1)) hx hb dX0_arrive_109 (by decide) ?_
    refine wIast hx hb hK hP hD hS 5 0 rfl rfl (x * 10 + y) rfl (by omega) (by decide) dX0_arrive_110 (fun H locs hP hD hS => ?_)
    have hP : va_P D vwCl (DC cI a (upd f 7 ((f 7) + 1)) (va_up (va_up r 3 (upd (upd (r 3) x (((r 3) x) + 3)) y (((upd (r 3) x (((r 3) x) + 3)) y) + 3))) 4 (upd (upd (r 4) (y * 10 + x) (-1)) (x * 10 + y) (-1)))) H := hP
    have hD : va_D A (DC cI a (upd f 7 ((f 7) + 1)) (va_up (va_up r 3 (upd (upd (r 3) x (((r 3) x) + 3)) y (((upd (r 3) x (((r 3) x) + 3)) y) + 3))) 4 (upd (upd (r 4) (y * 10 + x) (-1)) (x * 10 + y) (-1)))) := hD
    exact wRv hQ hx hb hr hlocks hP hD hS dX0_arrive_111 ((upd f 7 ((f 7) + 1)), (va_up (va_up r 3 (upd (upd (r 3) x (((r 3) x) + 3)) y (((upd (r 3) x (((r 3) x) + 3)) y) + 3))) 4 (upd (upd (r 4) (y * 10 + x) (-1)) (x * 10 + y) (-1)))) (by simp only [dArr, if_neg c_19]) rfl
abbrev rmX0_forgetThoseOver : Room := { frames := 1, cells := 0, slots := 0, locals := 21 }
set_option maxRecDepth 100000 in
set_option maxHeartbeats 4000000 in
/-- forgetThoseOver -/
theorem mX0_forgetThoseOver (l : Launch) (D : va_G) (cI : ClassId) (a : Nat → Nat) (f : Nat → Int32) (r : Nat → Nat → Int32) (L : List Nat) (sz : Nat) (hn : f 9 = nI L.length) (ho : oR (r 6) L) (ht : ∀ p ∈ L, p < 100) (hc : L.length ≤ 100) : wCt l yX0_forgetThoseOver wsX0_forgetThoseOver rmX0_forgetThoseOver D [(cI, .int)] [.ref (a 0)] (DC cI a f r) sz 0 0 (wQv D (fun u : dS => u = dForget f r L) (fun u : dS => DCs cI a u)) := by
  refine wMet cX0_forgetThoseOver 4 none (by decide) rfl (Nat.le_of_ble_eq_true rfl) ?_
  intro p e s m args below meth c A Q ls hQ hx hb hr hml hown hlocks hin hts hN hP hK hD hA hS hl
  have hl : lv_has ls 4 [(0, .ref (a 0))] := hl
  have hown : s.vm.findClass RX0 = some m.cls := hown
  have hw0 : ∀ w ∈ wsX00, w.before args s = true := fun w h => hts w (List.mem_cons_of_mem _ (List.mem_append_right _ h))
  have k30 := hts (.fieldLink RX0 30 "PauseLedger$Dinner" "order" "[I") (by decide +kernel)
  have k65 := hts (.fieldLink RX0 65 "PauseLedger$Dinner" "sent" "I") (by decide +kernel)
  refine lv_iconst (v := 0) hx hb dX0_forgetThoseOver_0 (by decide) ?_
  refine lv_istore_n (lv' := [(1, .int 0), (0, .ref (a 0))]) hx hb dX0_forgetThoseOver_1 rfl hl (by decide) rfl (fun ls hl => ?_)
  refine lv_iconst (v := 0) hx hb dX0_forgetThoseOver_2 (by decide) ?_
  refine lv_istore_n (lv' := [(2, .int 0), (1, .int 0), (0, .ref (a 0))]) hx hb dX0_forgetThoseOver_3 rfl hl (by decide) rfl (fun ls hl => ?_)
  have loop4 : ∀ (j i4 : Nat), i4 + j = L.length → ∀ (H : Heap) (locs : List Loc) (ls : Array Slot), va_P D vwCl (DC cI a f (va_up r 6 (dFgt (r 4) (r 6) L i4).2)) H → va_D A (DC cI a f (va_up r 6 (dFgt (r 4) (r 6) L i4).2)) → va_S A s.heap H locs → lv_has ls 4 [(2, .int (nI i4)), (1, .int (nI (dFgt (r 4) (r 6) L i4).1)), (0, .ref (a 0))] → W p l e rmX0_forgetThoseOver s m args below meth c H locs 0 0 Q (F0 m 4 ls []) := by
    intro j
    induction j with
    | zero =>
      intro i4 hi4 H locs ls hP hD hS hl
      have ez : L.length = i4 := by omega
      subst ez
      refine lv_iload_n hx hb dX0_forgetThoseOver_4 rfl (lv_at hl 0 rfl) ?_
      refine lv_aload_n hx hb dX0_forgetThoseOver_5 rfl (lv_at hl 2 rfl) ?_
      refine va_get (D := D) (ci := 0) (v := .int (f 9)) (C := RX0) (T := TX0) (N := 17) hx hb hw0 (fun _ h => h) hown hK hP 0 rfl rfl 9 (by decide) k65 (fun _ h9 => h9) rfl dX0_forgetThoseOver_6 ?_
      refine lv_icmp_ge (tgt := 43) hx hb dX0_forgetThoseOver_9 (by decide) (fun c_9 => ?_) (fun h9 => absurd (by rw [hn]; exact nI_le (Nat.le_refl _) (by omega)) h9)
      refine lv_aload_n hx hb dX0_forgetThoseOver_43 rfl (lv_at hl 2 rfl) ?_
      refine lv_iload_n hx hb dX0_forgetThoseOver_44 rfl (lv_at hl 1 rfl) ?_
      refine va_put (D := D) (ci := 0) (v := .int (nI (dFgt (r 4) (r 6) L L.length).1)) (ty := .int) (C := RX0) (T := TX0) (N := 17) hx hb hw0 (fun _ h => h) tyX0 tyX0_ok nmX0 hown hK hP hD hS 0 rfl rfl 9 (by decide) k65 (fun _ h9 => h9) rfl (by decide +kernel) rfl rfl (Nat.le_of_ble_eq_true rfl) dX0_forgetThoseOver_45 (fun H locs hP hD hS => ?_)
      have hP : va_P D vwCl (DC cI a (upd f 9 (nI (dFgt (r 4) (r 6) L L.length).1)) (va_up r 6 (dFgt (r 4) (r 6) L L.length).2)) H := hP
      have hD : va_D A (DC cI a (upd f 9 (nI (dFgt (r 4) (r 6) L L.length).1)) (va_up r 6 (dFgt (r 4) (r 6) L L.length).2)) := hD
      exact wRv hQ hx hb hr hlocks hP hD hS dX0_forgetThoseOver_48 ((upd f 9 (nI (dFgt (r 4) (r 6) L L.length).1)), (va_up r 6 (dFgt (r 4) (r 6) L L.length).2)) (rfl) rfl
    | succ j ih4 =>
      intro i4 hi4 H locs ls hP hD hS hl
      have hk4 := dFgt_le (r 4) (r 6) L i4
      have hp4 := dgt ht i4
      refine lv_iload_n hx hb dX0_forgetThoseOver_4 rfl (lv_at hl 0 rfl) ?_
      refine lv_aload_n hx hb dX0_forgetThoseOver_5 rfl (lv_at hl 2 rfl) ?_
      refine va_get (D := D) (ci := 0) (v := .int (f 9)) (C := RX0) (T := TX0) (N := 17) hx hb hw0 (fun _ h => h) hown hK hP 0 rfl rfl 9 (by decide) k65 (fun _ h9 => h9) rfl dX0_forgetThoseOver_6 ?_
      refine lv_icmp_ge (tgt := 43) hx hb dX0_forgetThoseOver_9 (by decide) (fun h9 => absurd h9 (by rw [hn]; exact nI_ge (by omega) (by omega))) (fun c_9 => ?_)
      refine lv_aload_n hx hb dX0_forgetThoseOver_12 rfl (lv_at hl 2 rfl) ?_
      refine va_get (D := D) (ci := 0) (v := .ref (a 7)) (C := RX0) (T := TX0) (N := 17) hx hb hw0 (fun _ h => h) hown hK hP 0 rfl rfl 16 (by decide) k30 (fun _ h9 => h9) rfl dX0_forgetThoseOver_13 ?_
      refine lv_iload_n hx hb dX0_forgetThoseOver_16 rfl (lv_at hl 0 rfl) ?_
      refine wIald hx hb hK hP 7 0 rfl rfl i4 rfl (by omega) (by decide) dX0_forgetThoseOver_17 ?_
      refine wTop (z := nI (L.getD i4 0)) (dFgt_get ho (by omega)) ?_
      refine lv_istore_n (lv' := [(3, .int (nI (L.getD i4 0))), (2, .int (nI i4)), (1, .int (nI (dFgt (r 4) (r 6) L i4).1)), (0, .ref (a 0))]) hx hb dX0_forgetThoseOver_18 rfl hl (by decide) rfl (fun ls hl => ?_)
      refine lv_aload_n hx hb dX0_forgetThoseOver_19 rfl (lv_at hl 3 rfl) ?_
      refine lv_iload_n hx hb dX0_forgetThoseOver_20 rfl (lv_at hl 0 rfl) ?_
      refine wCVi (pre := ([] : va_W)) (Wc := DC cI a f (va_up r 6 (dFgt (r 4) (r 6) L i4).2)) (suf := ([] : va_W)) (As := [.int (nI (L.getD i4 0))]) (rest := []) ⟨hx, hb, hml, hown, hts⟩ (mX0_isOnItsWay l D cI a f (va_up r 6 (dFgt (r 4) (r 6) L i4).2) (L.getD i4 0) _ hp4) hN hA hK hS hP hD rfl 0 (r := (RX0, TX0, 17)) rfl rfl (cwV 1 hts gX0_forgetThoseOver_X0_isOnItsWay rfl rfl rfl (by decide +kernel) ⟨Nat.le_of_ble_eq_true rfl, Nat.le_of_ble_eq_true rfl⟩) rfl hl.1 rfl (Nat.le_of_ble_eq_true rfl) dX0_forgetThoseOver_21 ⟨Nat.zero_le _, Nat.zero_le _⟩ (fun r_21 u_21 H locs hw hP hD hS => ?_)
      have hw : r_21 = if (r 4) (L.getD i4 0) = -1 then 0 else 1 := hw
      subst hw
      have hP : va_P D vwCl (DC cI a f (va_up r 6 (dFgt (r 4) (r 6) L i4).2)) H := hP
      have hD : va_D A (DC cI a f (va_up r 6 (dFgt (r 4) (r 6) L i4).2)) := hD
      refine lv_if_eq (tgt := 37) hx hb dX0_forgetThoseOver_24 (by decide) (fun c_24 => ?_) (fun c_24 => ?_)
      · have c_24 := ite01.mp c_24
        refine lv_iinc (v := nI (i4 + 1)) (lv' := [(2, .int (nI (i4 + 1))), (3, .int (nI (L.getD i4 0))), (1, .int (nI (dFgt (r 4) (r 6) L i4).1)), (0, .ref (a 0))]) hx hb dX0_forgetThoseOver_37 hl (k := 1) rfl (nI_1 i4) (by decide) rfl (fun ls hl => ?_)
        refine lv_goto (tgt := 4) hx hb dX0_forgetThoseOver_40 (by decide) ?_
        have e4 : dFgt (r 4) (r 6) L (i4 + 1) = dFgt (r 4) (r 6) L i4 := by simp only [dFgt, if_pos c_24]
        have hP : va_P D vwCl (DC cI a f (va_up r 6 (dFgt (r 4) (r 6) L (i4 + 1)).2)) H := by rw [e4]; exact hP
        have hD : va_D A (DC cI a f (va_up r 6 (dFgt (r 4) (r 6) L (i4 + 1)).2)) := by rw [e4]; exact hD
        have hl : lv_has ls 4 [(2, .int (nI (i4 + 1))), (3, .int (nI (L.getD i4 0))), (1, .int (nI (dFgt (r 4) (r 6) L (i4 + 1)).1)), (0, .ref (a 0))] := by rw [e4]; exact hl
        exact ih4 (i4 + 1) (by omega) _ _ _ hP hD hS (lv_sub hl [0, 2, 3] rfl)
      · have c_24 := ite01n.mp c_24
        refine lv_aload_n hx hb dX0_forgetThoseOver_27 rfl (lv_at hl 3 rfl) ?_
        refine va_get (D := D) (ci := 0) (v := .ref (a 7)) (C := RX0) (T := TX0) (N := 17) hx hb hw0 (fun _ h => h) hown hK hP 0 rfl rfl 16 (by decide) k30 (fun _ h9 => h9) rfl dX0_forgetThoseOver_28 ?_
        refine lv_iload_n hx hb dX0_forgetThoseOver_31 rfl (lv_at hl 2 rfl) ?_
        refine lv_iload_n hx hb dX0_forgetThoseOver_32 rfl (lv_at hl 0 rfl) ?_
        refine wIast hx hb hK hP hD hS 7 0 rfl rfl (dFgt (r 4) (r 6) L i4).1 rfl (by omega) (by decide) dX0_forgetThoseOver_33 (fun H locs hP hD hS => ?_)
        have hP : va_P D vwCl (DC cI a f (va_up r 6 (upd (dFgt (r 4) (r 6) L i4).2 (dFgt (r 4) (r 6) L i4).1 (nI (L.getD i4 0))))) H := hP
        have hD : va_D A (DC cI a f (va_up r 6 (upd (dFgt (r 4) (r 6) L i4).2 (dFgt (r 4) (r 6) L i4).1 (nI (L.getD i4 0))))) := hD
        refine lv_iinc (v := nI ((dFgt (r 4) (r 6) L i4).1 + 1)) (lv' := [(1, .int (nI ((dFgt (r 4) (r 6) L i4).1 + 1))), (3, .int (nI (L.getD i4 0))), (2, .int (nI i4)), (0, .ref (a 0))]) hx hb dX0_forgetThoseOver_34 hl (k := 2) rfl (nI_1 (dFgt (r 4) (r 6) L i4).1) (by decide) rfl (fun ls hl => ?_)
        refine lv_iinc (v := nI (i4 + 1)) (lv' := [(2, .int (nI (i4 + 1))), (1, .int (nI ((dFgt (r 4) (r 6) L i4).1 + 1))), (3, .int (nI (L.getD i4 0))), (0, .ref (a 0))]) hx hb dX0_forgetThoseOver_37 hl (k := 2) rfl (nI_1 i4) (by decide) rfl (fun ls hl => ?_)
        refine lv_goto (tgt := 4) hx hb dX0_forgetThoseOver_40 (by decide) ?_
        have e4 : dFgt (r 4) (r 6) L (i4 + 1) = ((dFgt (r 4) (r 6) L i4).1 + 1, upd (dFgt (r 4) (r 6) L i4).2 (dFgt (r 4) (r 6) L i4).1 (nI (L.getD i4 0))) := by simp only [dFgt, if_neg c_24]
        have hP : va_P D vwCl (DC cI a f (va_up r 6 (dFgt (r 4) (r 6) L (i4 + 1)).2)) H := by rw [e4]; exact hP
        have hD : va_D A (DC cI a f (va_up r 6 (dFgt (r 4) (r 6) L (i4 + 1)).2)) := by rw [e4]; exact hD
        have hl : lv_has ls 4 [(2, .int (nI (i4 + 1))), (1, .int (nI (dFgt (r 4) (r 6) L (i4 + 1)).1)), (3, .int (nI (L.getD i4 0))), (0, .ref (a 0))] := by rw [e4]; exact hl
        exact ih4 (i4 + 1) (by omega) _ _ _ hP hD hS (lv_sub hl [0, 1, 3] rfl)
  exact loop4 L.length 0 (by omega) _ _ _ hP hD hS (lv_sub hl [0, 1, 2] rfl)
abbrev rmX0_moveGlances : Room := { frames := 2, cells := 0, slots := 0, locals := 45 }
set_option maxRecDepth 100000 in
set_option maxHeartbeats 4000000 in
/-- moveGlances -/
theorem mX0_moveGlances (l : Launch) (D : va_G) (cI : ClassId) (a : Nat → Nat) (f : Nat → Int32) (r : Nat → Nat → Int32) (L : List Nat) (sz : Nat) (hn : f 9 = nI L.length) (ho : oR (r 6) L) (ht : ∀ p ∈ L, p < 100) (hc : L.length ≤ 100) : wCt l yX0_moveGlances wsX0_moveGlances rmX0_moveGlances D [(cI, .int)] [.ref (a 0)] (DC cI a f r) sz 0 0 (wQv D (fun u : dS => u = dMove f r L) (fun u : dS => DCs cI a u)) := by
  refine wMet cX0_moveGlances 3 none (by decide) rfl (Nat.le_of_ble_eq_true rfl) ?_
  intro p e s m args below meth c A Q ls hQ hx hb hr hml hown hlocks hin hts hN hP hK hD hA hS hl
  have hl : lv_has ls 3 [(0, .ref (a 0))] := hl
  have hown : s.vm.findClass RX0 = some m.cls := hown
  have hw0 : ∀ w ∈ wsX00, w.before args s = true := fun w h => hts w (List.mem_cons_of_mem _ (List.mem_append_right _ h))
  have k24 := hts (.fieldLink RX0 24 "PauseLedger$Dinner" "toGo" "[I") (by decide +kernel)
  have k30 := hts (.fieldLink RX0 30 "PauseLedger$Dinner" "order" "[I") (by decide +kernel)
  have k65 := hts (.fieldLink RX0 65 "PauseLedger$Dinner" "sent" "I") (by decide +kernel)
  refine lv_iconst (v := 0) hx hb dX0_moveGlances_0 (by decide) ?_
  refine lv_istore_n (lv' := [(1, .int 0), (0, .ref (a 0))]) hx hb dX0_moveGlances_1 rfl hl (by decide) rfl (fun ls hl => ?_)
  have loop2 : ∀ (j i2 : Nat), i2 + j = L.length → ∀ (H : Heap) (locs : List Loc) (ls : Array Slot), va_P D vwCl (DC cI a f (va_up r 4 (dDec (r 4) L i2))) H → va_D A (DC cI a f (va_up r 4 (dDec (r 4) L i2))) → va_S A s.heap H locs → lv_has ls 3 [(1, .int (nI i2)), (0, .ref (a 0))] → W p l e rmX0_moveGlances s m args below meth c H locs 0 0 Q (F0 m 2 ls []) := by
    intro j
    induction j with
    | zero =>
      intro i2 hi2 H locs ls hP hD hS hl
      have ez : L.length = i2 := by omega
      subst ez
      refine lv_iload_n hx hb dX0_moveGlances_2 rfl (lv_at hl 0 rfl) ?_
      refine lv_aload_n hx hb dX0_moveGlances_3 rfl (lv_at hl 1 rfl) ?_
      refine va_get (D := D) (ci := 0) (v := .int (f 9)) (C := RX0) (T := TX0) (N := 17) hx hb hw0 (fun _ h => h) hown hK hP 0 rfl rfl 9 (by decide) k65 (fun _ h9 => h9) rfl dX0_moveGlances_4 ?_
      refine lv_icmp_ge (tgt := 31) hx hb dX0_moveGlances_7 (by decide) (fun c_7 => ?_) (fun h9 => absurd (by rw [hn]; exact nI_le (Nat.le_refl _) (by omega)) h9)
      refine lv_iconst (v := 0) hx hb dX0_moveGlances_31 (by decide) ?_
      refine lv_istore_n (lv' := [(1, .int 0), (0, .ref (a 0))]) hx hb dX0_moveGlances_32 rfl hl (by decide) rfl (fun ls hl => ?_)
      have loop33 : ∀ (j i33 : Nat), i33 + j = L.length → ∀ (H : Heap) (locs : List Loc) (ls : Array Slot), va_P D vwCl (DC cI a (dArrs L (dM1 f r L) i33).1 (dArrs L (dM1 f r L) i33).2) H → va_D A (DC cI a (dArrs L (dM1 f r L) i33).1 (dArrs L (dM1 f r L) i33).2) → va_S A s.heap H locs → lv_has ls 3 [(1, .int (nI i33)), (0, .ref (a 0))] → W p l e rmX0_moveGlances s m args below meth c H locs 0 0 Q (F0 m 33 ls []) := by
        intro j
        induction j with
        | zero =>
          intro i33 hi33 H locs ls hP hD hS hl
          have ez : L.length = i33 := by omega
          subst ez
          refine lv_iload_n hx hb dX0_moveGlances_33 rfl (lv_at hl 0 rfl) ?_
          refine lv_aload_n hx hb dX0_moveGlances_34 rfl (lv_at hl 1 rfl) ?_
          refine va_get (D := D) (ci := 0) (v := .int ((dArrs L (dM1 f r L) L.length).1 9)) (C := RX0) (T := TX0) (N := 17) hx hb hw0 (fun _ h => h) hown hK hP 0 rfl rfl 9 (by decide) k65 (fun _ h9 => h9) rfl dX0_moveGlances_35 ?_
          refine lv_icmp_ge (tgt := 75) hx hb dX0_moveGlances_38 (by decide) (fun c_38 => ?_) (fun h9 => absurd (by rw [dArrs9, show (dM1 f r L).1 9 = nI L.length from hn]; exact nI_le (Nat.le_refl _) (by omega)) h9)
          refine lv_aload_n hx hb dX0_moveGlances_75 rfl (lv_at hl 1 rfl) ?_
          refine wCVv (pre := ([] : va_W)) (Wc := DC cI a (dArrs L (dM1 f r L) L.length).1 (dArrs L (dM1 f r L) L.length).2) (suf := ([] : va_W)) (As := []) (rest := []) ⟨hx, hb, hml, hown, hts⟩ (mX0_forgetThoseOver l D cI a (dArrs L (dM1 f r L) L.length).1 (dArrs L (dM1 f r L) L.length).2 L _ (by rw [dArrs9]; exact hn) (by rw [dArrs6]; exact ho) ht hc) hN hA hK hS hP hD rfl 0 (r := (RX0, TX0, 17)) rfl rfl (cwV 0 hts gX0_moveGlances_X0_forgetThoseOver rfl rfl rfl (by decide +kernel) ⟨Nat.le_of_ble_eq_true rfl, Nat.le_of_ble_eq_true rfl⟩) rfl hl.1 rfl (Nat.le_of_ble_eq_true rfl) dX0_moveGlances_76 ⟨Nat.zero_le _, Nat.zero_le _⟩ (fun u_76 H locs hw hP hD hS => ?_)
          subst hw
          have hP : va_P D vwCl (DC cI a (dForget (dArrs L (dM1 f r L) L.length).1 (dArrs L (dM1 f r L) L.length).2 L).1 (dForget (dArrs L (dM1 f r L) L.length).1 (dArrs L (dM1 f r L) L.length).2 L).2) H := hP
          have hD : va_D A (DC cI a (dForget (dArrs L (dM1 f r L) L.length).1 (dArrs L (dM1 f r L) L.length).2 L).1 (dForget (dArrs L (dM1 f r L) L.length).1 (dArrs L (dM1 f r L) L.length).2 L).2) := hD
          exact wRv hQ hx hb hr hlocks hP hD hS dX0_moveGlances_79 ((dForget (dArrs L (dM1 f r L) L.length).1 (dArrs L (dM1 f r L) L.length).2 L).1, (dForget (dArrs L (dM1 f r L) L.length).1 (dArrs L (dM1 f r L) L.length).2 L).2) (rfl) rfl
        | succ j ih33 =>
          intro i33 hi33 H locs ls hP hD hS hl
          have hp33 := dgt ht i33
          refine lv_iload_n hx hb dX0_moveGlances_33 rfl (lv_at hl 0 rfl) ?_
          refine lv_aload_n hx hb dX0_moveGlances_34 rfl (lv_at hl 1 rfl) ?_
          refine va_get (D := D) (ci := 0) (v := .int ((dArrs L (dM1 f r L) i33).1 9)) (C := RX0) (T := TX0) (N := 17) hx hb hw0 (fun _ h => h) hown hK hP 0 rfl rfl 9 (by decide) k65 (fun _ h9 => h9) rfl dX0_moveGlances_35 ?_
          refine lv_icmp_ge (tgt := 75) hx hb dX0_moveGlances_38 (by decide) (fun h9 => absurd h9 (by rw [dArrs9, show (dM1 f r L).1 9 = nI L.length from hn]; exact nI_ge (by omega) (by omega))) (fun c_38 => ?_)
          refine lv_aload_n hx hb dX0_moveGlances_41 rfl (lv_at hl 1 rfl) ?_
          refine va_get (D := D) (ci := 0) (v := .ref (a 7)) (C := RX0) (T := TX0) (N := 17) hx hb hw0 (fun _ h => h) hown hK hP 0 rfl rfl 16 (by decide) k30 (fun _ h9 => h9) rfl dX0_moveGlances_42 ?_
          refine lv_iload_n hx hb dX0_moveGlances_45 rfl (lv_at hl 0 rfl) ?_
          refine wIald hx hb hK hP 7 0 rfl rfl i33 rfl (by omega) (by decide) dX0_moveGlances_46 ?_
          refine wTop (z := nI (L.getD i33 0)) (by rw [dArrs6]; exact ho i33 (by omega)) ?_
          refine lv_istore_n (lv' := [(2, .int (nI (L.getD i33 0))), (1, .int (nI i33)), (0, .ref (a 0))]) hx hb dX0_moveGlances_47 rfl hl (by decide) rfl (fun ls hl => ?_)
          refine lv_aload_n hx hb dX0_moveGlances_48 rfl (lv_at hl 2 rfl) ?_
          refine va_get (D := D) (ci := 0) (v := .ref (a 5)) (C := RX0) (T := TX0) (N := 17) hx hb hw0 (fun _ h => h) hown hK hP 0 rfl rfl 14 (by decide) k24 (fun _ h9 => h9) rfl dX0_moveGlances_49 ?_
          refine lv_iload_n hx hb dX0_moveGlances_52 rfl (lv_at hl 0 rfl) ?_
          refine wIald hx hb hK hP 5 0 rfl rfl (L.getD i33 0) rfl (by omega) (by decide) dX0_moveGlances_53 ?_
          refine lv_if_ne (tgt := 69) hx hb dX0_moveGlances_54 (by decide) (fun c_54 => ?_) (fun c_54 => ?_)
          · refine lv_iinc (v := nI (i33 + 1)) (lv' := [(1, .int (nI (i33 + 1))), (2, .int (nI (L.getD i33 0))), (0, .ref (a 0))]) hx hb dX0_moveGlances_69 hl (k := 1) rfl (nI_1 i33) (by decide) rfl (fun ls hl => ?_)
            refine lv_goto (tgt := 33) hx hb dX0_moveGlances_72 (by decide) ?_
            have e33 : dArrs L (dM1 f r L) (i33 + 1) = dArrs L (dM1 f r L) i33 := by simp only [dArrs, if_neg c_54]
            have hP : va_P D vwCl (DC cI a (dArrs L (dM1 f r L) (i33 + 1)).1 (dArrs L (dM1 f r L) (i33 + 1)).2) H := by rw [e33]; exact hP
            have hD : va_D A (DC cI a (dArrs L (dM1 f r L) (i33 + 1)).1 (dArrs L (dM1 f r L) (i33 + 1)).2) := by rw [e33]; exact hD
            exact ih33 (i33 + 1) (by omega) _ _ _ hP hD hS (lv_sub hl [0, 2] rfl)
          · refine lv_aload_n hx hb dX0_moveGlances_57 rfl (lv_at hl 2 rfl) ?_
            refine lv_iload_n hx hb dX0_moveGlances_58 rfl (lv_at hl 0 rfl) ?_
            refine lv_bipush (v := 10) hx hb dX0_moveGlances_59 (by decide) ?_
            refine lv_idiv hx hb dX0_moveGlances_61 (by decide) ?_
            refine wTop (z := nI ((L.getD i33 0) / 10)) (pk_div (a := (L.getD i33 0)) (d := 10) (by omega) (by decide) (by decide)) ?_
            refine lv_iload_n hx hb dX0_moveGlances_62 rfl (lv_at hl 0 rfl) ?_
            refine lv_bipush (v := 10) hx hb dX0_moveGlances_63 (by decide) ?_
            refine lv_irem hx hb dX0_moveGlances_65 (by decide) ?_
            refine wTop (z := nI ((L.getD i33 0) % 10)) (pk_rem (a := (L.getD i33 0)) (d := 10) (by omega) (by decide) (by decide)) ?_
            refine wCVv (pre := ([] : va_W)) (Wc := DC cI a (dArrs L (dM1 f r L) i33).1 (dArrs L (dM1 f r L) i33).2) (suf := ([] : va_W)) (As := [.int (nI ((L.getD i33 0) / 10)), .int (nI ((L.getD i33 0) % 10))]) (rest := []) ⟨hx, hb, hml, hown, hts⟩ (mX0_arrive l D cI a (dArrs L (dM1 f r L) i33).1 (dArrs L (dM1 f r L) i33).2 ((L.getD i33 0) / 10) ((L.getD i33 0) % 10) _ (by omega) (by omega)) hN hA hK hS hP hD rfl 0 (r := (RX0, TX0, 17)) rfl rfl (cwV 2 hts gX0_moveGlances_X0_arrive rfl rfl rfl (by decide +kernel) ⟨Nat.le_of_ble_eq_true rfl, Nat.le_of_ble_eq_true rfl⟩) rfl hl.1 rfl (Nat.le_of_ble_eq_true rfl) dX0_moveGlances_66 ⟨Nat.zero_le _, Nat.zero_le _⟩ (fun u_66 H locs hw hP hD hS => ?_)
            subst hw
            have hP : va_P D vwCl (DC cI a (dArr (dArrs L (dM1 f r L) i33).1 (dArrs L (dM1 f r L) i33).2 ((L.getD i33 0) / 10) ((L.getD i33 0) % 10)).1 (dArr (dArrs L (dM1 f r L) i33).1 (dArrs L (dM1 f r L) i33).2 ((L.getD i33 0) / 10) ((L.getD i33 0) % 10)).2) H := hP
            have hD : va_D A (DC cI a (dArr (dArrs L (dM1 f r L) i33).1 (dArrs L (dM1 f r L) i33).2 ((L.getD i33 0) / 10) ((L.getD i33 0) % 10)).1 (dArr (dArrs L (dM1 f r L) i33).1 (dArrs L (dM1 f r L) i33).2 ((L.getD i33 0) / 10) ((L.getD i33 0) % 10)).2) := hD
            refine lv_iinc (v := nI (i33 + 1)) (lv' := [(1, .int (nI (i33 + 1))), (2, .int (nI (L.getD i33 0))), (0, .ref (a 0))]) hx hb dX0_moveGlances_69 hl (k := 1) rfl (nI_1 i33) (by decide) rfl (fun ls hl => ?_)
            refine lv_goto (tgt := 33) hx hb dX0_moveGlances_72 (by decide) ?_
            have e33 : dArrs L (dM1 f r L) (i33 + 1) = dArr (dArrs L (dM1 f r L) i33).1 (dArrs L (dM1 f r L) i33).2 (L.getD i33 0 / 10) (L.getD i33 0 % 10) := by simp only [dArrs, if_pos c_54]
            have hP : va_P D vwCl (DC cI a (dArrs L (dM1 f r L) (i33 + 1)).1 (dArrs L (dM1 f r L) (i33 + 1)).2) H := by rw [e33]; exact hP
            have hD : va_D A (DC cI a (dArrs L (dM1 f r L) (i33 + 1)).1 (dArrs L (dM1 f r L) (i33 + 1)).2) := by rw [e33]; exact hD
            exact ih33 (i33 + 1) (by omega) _ _ _ hP hD hS (lv_sub hl [0, 2] rfl)
      exact loop33 L.length 0 (by omega) _ _ _ hP hD hS (lv_sub hl [0, 1] rfl)
    | succ j ih2 =>
      intro i2 hi2 H locs ls hP hD hS hl
      have hp2 := dgt ht i2
      refine lv_iload_n hx hb dX0_moveGlances_2 rfl (lv_at hl 0 rfl) ?_
      refine lv_aload_n hx hb dX0_moveGlances_3 rfl (lv_at hl 1 rfl) ?_
      refine va_get (D := D) (ci := 0) (v := .int (f 9)) (C := RX0) (T := TX0) (N := 17) hx hb hw0 (fun _ h => h) hown hK hP 0 rfl rfl 9 (by decide) k65 (fun _ h9 => h9) rfl dX0_moveGlances_4 ?_
      refine lv_icmp_ge (tgt := 31) hx hb dX0_moveGlances_7 (by decide) (fun h9 => absurd h9 (by rw [hn]; exact nI_ge (by omega) (by omega))) (fun c_7 => ?_)
      refine lv_aload_n hx hb dX0_moveGlances_10 rfl (lv_at hl 1 rfl) ?_
      refine va_get (D := D) (ci := 0) (v := .ref (a 5)) (C := RX0) (T := TX0) (N := 17) hx hb hw0 (fun _ h => h) hown hK hP 0 rfl rfl 14 (by decide) k24 (fun _ h9 => h9) rfl dX0_moveGlances_11 ?_
      refine lv_aload_n hx hb dX0_moveGlances_14 rfl (lv_at hl 1 rfl) ?_
      refine va_get (D := D) (ci := 0) (v := .ref (a 7)) (C := RX0) (T := TX0) (N := 17) hx hb hw0 (fun _ h => h) hown hK hP 0 rfl rfl 16 (by decide) k30 (fun _ h9 => h9) rfl dX0_moveGlances_15 ?_
      refine lv_iload_n hx hb dX0_moveGlances_18 rfl (lv_at hl 0 rfl) ?_
      refine wIald hx hb hK hP 7 0 rfl rfl i2 rfl (by omega) (by decide) dX0_moveGlances_19 ?_
      refine wTop (z := nI (L.getD i2 0)) (ho i2 (by omega)) ?_
      refine lv_dup2_11 hx hb dX0_moveGlances_20 rfl rfl ?_
      refine wIald hx hb hK hP 5 0 rfl rfl (L.getD i2 0) rfl (by omega) (by decide) dX0_moveGlances_21 ?_
      refine lv_iconst (v := 1) hx hb dX0_moveGlances_22 (by decide) ?_
      refine lv_isub hx hb dX0_moveGlances_23 ?_
      refine wIast hx hb hK hP hD hS 5 0 rfl rfl (L.getD i2 0) rfl (by omega) (by decide) dX0_moveGlances_24 (fun H locs hP hD hS => ?_)
      have hP : va_P D vwCl (DC cI a f (va_up r 4 (upd (dDec (r 4) L i2) (L.getD i2 0) (((dDec (r 4) L i2) (L.getD i2 0)) - 1)))) H := hP
      have hD : va_D A (DC cI a f (va_up r 4 (upd (dDec (r 4) L i2) (L.getD i2 0) (((dDec (r 4) L i2) (L.getD i2 0)) - 1)))) := hD
      refine lv_iinc (v := nI (i2 + 1)) (lv' := [(1, .int (nI (i2 + 1))), (0, .ref (a 0))]) hx hb dX0_moveGlances_25 hl (k := 0) rfl (nI_1 i2) (by decide) rfl (fun ls hl => ?_)
      refine lv_goto (tgt := 2) hx hb dX0_moveGlances_28 (by decide) ?_
      exact ih2 (i2 + 1) (by omega) _ _ _ hP hD hS (lv_sub hl [0, 1] rfl)
  exact loop2 L.length 0 (by omega) _ _ _ hP hD hS (lv_sub hl [0, 1] rfl)
abbrev rmX0_goOneSecond : Room := { frames := 3, cells := 0, slots := 0, locals := 67 }
set_option maxRecDepth 100000 in
set_option maxHeartbeats 4000000 in
/-- goOneSecond -/
theorem mX0_goOneSecond (l : Launch) (D : va_G) (cI : ClassId) (a : Nat → Nat) (f : Nat → Int32) (r : Nat → Nat → Int32) (L : List Nat) (sz : Nat) (hk : dOk f r L) : wCt l yX0_goOneSecond wsX0_goOneSecond rmX0_goOneSecond D [(cI, .int)] [.ref (a 0)] (DC cI a f r) sz 0 0 (wQv D (fun u : dS => u = dSec f r L) (fun u : dS => DCs cI a u)) := by
  refine wMet cX0_goOneSecond 1 none (by decide) rfl (Nat.le_of_ble_eq_true rfl) ?_
  intro p e s m args below meth c A Q ls hQ hx hb hr hml hown hlocks hin hts hN hP hK hD hA hS hl
  have hl : lv_has ls 1 [(0, .ref (a 0))] := hl
  have hown : s.vm.findClass RX0 = some m.cls := hown
  have hw0 : ∀ w ∈ wsX00, w.before args s = true := fun w h => hts w (List.mem_cons_of_mem _ (List.mem_append_right _ h))
  have k44 := hts (.fieldLink RX0 44 "PauseLedger$Dinner" "seconds" "I") (by decide +kernel)
  refine lv_aload_n hx hb dX0_goOneSecond_0 rfl (lv_at hl 0 rfl) ?_
  refine wCVv (pre := ([] : va_W)) (Wc := DC cI a f r) (suf := ([] : va_W)) (As := []) (rest := []) ⟨hx, hb, hml, hown, hts⟩ (mX0_speakOrPause l D cI a f r _ hk.1) hN hA hK hS hP hD rfl 0 (r := (RX0, TX0, 17)) rfl rfl (cwV 0 hts gX0_goOneSecond_X0_speakOrPause rfl rfl rfl (by decide +kernel) ⟨Nat.le_of_ble_eq_true rfl, Nat.le_of_ble_eq_true rfl⟩) rfl hl.1 rfl (Nat.le_of_ble_eq_true rfl) dX0_goOneSecond_1 ⟨Nat.zero_le _, Nat.zero_le _⟩ (fun u_1 H locs hw hP hD hS => ?_)
  subst hw
  have hP : va_P D vwCl (DC cI a (dTalk f r).1 (dTalk f r).2) H := hP
  have hD : va_D A (DC cI a (dTalk f r).1 (dTalk f r).2) := hD
  refine lv_aload_n hx hb dX0_goOneSecond_4 rfl (lv_at hl 0 rfl) ?_
  refine wCVv (pre := ([] : va_W)) (Wc := DC cI a (dTalk f r).1 (dTalk f r).2) (suf := ([] : va_W)) (As := []) (rest := []) ⟨hx, hb, hml, hown, hts⟩ (mX0_moveGlances l D cI a (dTalk f r).1 (dTalk f r).2 L _ (by rw [dTalk9]; exact hk.2.1) (by rw [dTalk6]; exact hk.2.2.1) hk.2.2.2.1 hk.2.2.2.2) hN hA hK hS hP hD rfl 0 (r := (RX0, TX0, 17)) rfl rfl (cwV 0 hts gX0_goOneSecond_X0_moveGlances rfl rfl rfl (by decide +kernel) ⟨Nat.le_of_ble_eq_true rfl, Nat.le_of_ble_eq_true rfl⟩) rfl hl.1 rfl (Nat.le_of_ble_eq_true rfl) dX0_goOneSecond_5 ⟨Nat.zero_le _, Nat.zero_le _⟩ (fun u_5 H locs hw hP hD hS => ?_)
  subst hw
  have hP : va_P D vwCl (DC cI a (dMove (dTalk f r).1 (dTalk f r).2 L).1 (dMove (dTalk f r).1 (dTalk f r).2 L).2) H := hP
  have hD : va_D A (DC cI a (dMove (dTalk f r).1 (dTalk f r).2 L).1 (dMove (dTalk f r).1 (dTalk f r).2 L).2) := hD
  refine lv_aload_n hx hb dX0_goOneSecond_8 rfl (lv_at hl 0 rfl) ?_
  refine lv_dup hx hb dX0_goOneSecond_9 rfl ?_
  refine va_get (D := D) (ci := 0) (v := .int ((dMove (dTalk f r).1 (dTalk f r).2 L).1 1)) (C := RX0) (T := TX0) (N := 17) hx hb hw0 (fun _ h => h) hown hK hP 0 rfl rfl 1 (by decide) k44 (fun _ h9 => h9) rfl dX0_goOneSecond_10 ?_
  refine lv_iconst (v := 1) hx hb dX0_goOneSecond_13 (by decide) ?_
  refine lv_iadd hx hb dX0_goOneSecond_14 ?_
  refine va_put (D := D) (ci := 0) (v := .int (((dMove (dTalk f r).1 (dTalk f r).2 L).1 1) + 1)) (ty := .int) (C := RX0) (T := TX0) (N := 17) hx hb hw0 (fun _ h => h) tyX0 tyX0_ok nmX0 hown hK hP hD hS 0 rfl rfl 1 (by decide) k44 (fun _ h9 => h9) rfl (by decide +kernel) rfl rfl (Nat.le_of_ble_eq_true rfl) dX0_goOneSecond_15 (fun H locs hP hD hS => ?_)
  have hP : va_P D vwCl (DC cI a (upd (dMove (dTalk f r).1 (dTalk f r).2 L).1 1 (((dMove (dTalk f r).1 (dTalk f r).2 L).1 1) + 1)) (dMove (dTalk f r).1 (dTalk f r).2 L).2) H := hP
  have hD : va_D A (DC cI a (upd (dMove (dTalk f r).1 (dTalk f r).2 L).1 1 (((dMove (dTalk f r).1 (dTalk f r).2 L).1 1) + 1)) (dMove (dTalk f r).1 (dTalk f r).2 L).2) := hD
  exact wRv hQ hx hb hr hlocks hP hD hS dX0_goOneSecond_18 ((upd (dMove (dTalk f r).1 (dTalk f r).2 L).1 1 (((dMove (dTalk f r).1 (dTalk f r).2 L).1 1) + 1)), (dMove (dTalk f r).1 (dTalk f r).2 L).2) (rfl) rfl
abbrev rmX0_goBy : Room := { frames := 4, cells := 0, slots := 0, locals := 87 }
set_option maxRecDepth 100000 in
set_option maxHeartbeats 4000000 in
/-- goBy -/
theorem mX0_goBy (l : Launch) (D : va_G) (cI : ClassId) (a : Nat → Nat) (f : Nat → Int32) (r : Nat → Nat → Int32) (L : List Nat) (n : Nat) (sz : Nat) (hn : n < 2 ^ 31) (hk : ∀ i, i < n → dOk (dGo (f, r) L i).1.1 (dGo (f, r) L i).1.2 (dGo (f, r) L i).2) : wCt l yX0_goBy wsX0_goBy rmX0_goBy D [(cI, .int)] [.ref (a 0), .int (nI n)] (DC cI a f r) sz 0 0 (wQv D (fun u : dS => u = (dGo (f, r) L n).1) (fun u : dS => DCs cI a u)) := by
  refine wMet cX0_goBy 3 none (by decide) rfl (Nat.le_of_ble_eq_true rfl) ?_
  intro p e s m args below meth c A Q ls hQ hx hb hr hml hown hlocks hin hts hN hP hK hD hA hS hl
  have hl : lv_has ls 3 [(0, .ref (a 0)), (1, .int (nI n))] := hl
  have hown : s.vm.findClass RX0 = some m.cls := hown
  refine lv_iconst (v := 0) hx hb dX0_goBy_0 (by decide) ?_
  refine lv_istore_n (lv' := [(2, .int 0), (0, .ref (a 0)), (1, .int (nI n))]) hx hb dX0_goBy_1 rfl hl (by decide) rfl (fun ls hl => ?_)
  have loop2 : ∀ (j i2 : Nat), i2 + j = n → ∀ (H : Heap) (locs : List Loc) (ls : Array Slot), va_P D vwCl (DC cI a (dGo (f, r) L i2).1.1 (dGo (f, r) L i2).1.2) H → va_D A (DC cI a (dGo (f, r) L i2).1.1 (dGo (f, r) L i2).1.2) → va_S A s.heap H locs → lv_has ls 3 [(2, .int (nI i2)), (0, .ref (a 0)), (1, .int (nI n))] → W p l e rmX0_goBy s m args below meth c H locs 0 0 Q (F0 m 2 ls []) := by
    intro j
    induction j with
    | zero =>
      intro i2 hi2 H locs ls hP hD hS hl
      have ez : n = i2 := by omega
      subst ez
      refine lv_iload_n hx hb dX0_goBy_2 rfl (lv_at hl 0 rfl) ?_
      refine lv_iload_n hx hb dX0_goBy_3 rfl (lv_at hl 2 rfl) ?_
      refine lv_icmp_ge (tgt := 17) hx hb dX0_goBy_4 (by decide) (fun c_4 => ?_) (fun h9 => absurd (nI_le (by omega) (by omega)) h9)
      have c_4n := (nI_leI (a := n) (b := n) (by omega) (by omega)).mp c_4
      exact wRv hQ hx hb hr hlocks hP hD hS dX0_goBy_17 ((dGo (f, r) L n).1.1, (dGo (f, r) L n).1.2) (rfl) rfl
    | succ j ih2 =>
      intro i2 hi2 H locs ls hP hD hS hl
      refine lv_iload_n hx hb dX0_goBy_2 rfl (lv_at hl 0 rfl) ?_
      refine lv_iload_n hx hb dX0_goBy_3 rfl (lv_at hl 2 rfl) ?_
      refine lv_icmp_ge (tgt := 17) hx hb dX0_goBy_4 (by decide) (fun h9 => absurd h9 (nI_ge (by omega) (by omega))) (fun c_4 => ?_)
      have c_4n := mt (nI_leI (a := n) (b := i2) (by omega) (by omega)).mpr c_4
      refine lv_aload_n hx hb dX0_goBy_7 rfl (lv_at hl 1 rfl) ?_
      refine wCVv (pre := ([] : va_W)) (Wc := DC cI a (dGo (f, r) L i2).1.1 (dGo (f, r) L i2).1.2) (suf := ([] : va_W)) (As := []) (rest := []) ⟨hx, hb, hml, hown, hts⟩ (mX0_goOneSecond l D cI a (dGo (f, r) L i2).1.1 (dGo (f, r) L i2).1.2 (dGo (f, r) L i2).2 _ (hk i2 (by omega))) hN hA hK hS hP hD rfl 0 (r := (RX0, TX0, 17)) rfl rfl (cwV 0 hts gX0_goBy_X0_goOneSecond rfl rfl rfl (by decide +kernel) ⟨Nat.le_of_ble_eq_true rfl, Nat.le_of_ble_eq_true rfl⟩) rfl hl.1 rfl (Nat.le_of_ble_eq_true rfl) dX0_goBy_8 ⟨Nat.zero_le _, Nat.zero_le _⟩ (fun u_8 H locs hw hP hD hS => ?_)
      subst hw
      have hP : va_P D vwCl (DC cI a (dSec (dGo (f, r) L i2).1.1 (dGo (f, r) L i2).1.2 (dGo (f, r) L i2).2).1 (dSec (dGo (f, r) L i2).1.1 (dGo (f, r) L i2).1.2 (dGo (f, r) L i2).2).2) H := hP
      have hD : va_D A (DC cI a (dSec (dGo (f, r) L i2).1.1 (dGo (f, r) L i2).1.2 (dGo (f, r) L i2).2).1 (dSec (dGo (f, r) L i2).1.1 (dGo (f, r) L i2).1.2 (dGo (f, r) L i2).2).2) := hD
      refine lv_iinc (v := nI (i2 + 1)) (lv' := [(2, .int (nI (i2 + 1))), (0, .ref (a 0)), (1, .int (nI n))]) hx hb dX0_goBy_11 hl (k := 0) rfl (nI_1 i2) (by decide) rfl (fun ls hl => ?_)
      refine lv_goto (tgt := 2) hx hb dX0_goBy_14 (by decide) ?_
      exact ih2 (i2 + 1) (by omega) _ _ _ hP hD hS (lv_sub hl [0, 1, 2] rfl)
  exact loop2 n 0 (by omega) _ _ _ hP hD hS (lv_sub hl [0, 1, 2] rfl)
end
section
theorem wCpy {g h : Nat → Int32} {n j : Nat} (hj : j < n) : va_cpy g h 0 0 n j = g j := by
  rw [pk_cpy_in (Nat.zero_le _) (by omega)]
  simp
end
section
abbrev rmJ7_fill_53178 : Room := { frames := 0, cells := 0, slots := 0, locals := 0 }
set_option maxRecDepth 100000 in
set_option maxHeartbeats 4000000 in
/-- Arrays.fill -/
theorem mJ7_fill_53178 (l : Launch) (D : va_G) (cI : ClassId) (q N : Nat) (h : Nat → Int32) (v : Int32) (sz : Nat) (hN1 : N < 2 ^ 31) : wCt l yJ7_fill_53178 wsJ7_fill_53178 rmJ7_fill_53178 D [(cI, .int)] [.ref q, .int v] ([(q, .inl (cI, N, .inl h))]) sz 0 0 (wQv D (fun _ : Unit => True) (fun _ : Unit => [(q, .inl (cI, N, .inl (fun _ => v)))])) := by
  refine wMet cJ7_fill_53178 4 none (by decide) rfl (Nat.le_of_ble_eq_true rfl) ?_
  intro p e s m args below meth c A Q ls hQ hx hb hr hml hown hlocks hin hts hN hP hK hD hA hS hl
  have hl : lv_has ls 4 [(0, .ref q), (1, .int v)] := hl
  have hown : s.vm.findClass RJ7 = some m.cls := hown
  refine lv_iconst (v := 0) hx hb dJ7_fill_53178_0 (by decide) ?_
  refine lv_istore_n (lv' := [(2, .int 0), (0, .ref q), (1, .int v)]) hx hb dJ7_fill_53178_1 rfl hl (by decide) rfl (fun ls hl => ?_)
  refine lv_aload_n hx hb dJ7_fill_53178_2 rfl (lv_at hl 1 rfl) ?_
  refine va_alen (v := nI N) hx hb hK hP 0 0 rfl rfl rfl dJ7_fill_53178_3 ?_
  refine lv_istore_n (lv' := [(3, .int (nI N)), (2, .int 0), (0, .ref q), (1, .int v)]) hx hb dJ7_fill_53178_4 rfl hl (by decide) rfl (fun ls hl => ?_)
  have loop5 : ∀ (j i5 : Nat), i5 + j = N → ∀ (H : Heap) (locs : List Loc) (ls : Array Slot), va_P D vwCl ([(q, .inl (cI, N, .inl (dFill h v i5)))]) H → va_D A ([(q, .inl (cI, N, .inl (dFill h v i5)))]) → va_S A s.heap H locs → lv_has ls 4 [(2, .int (nI i5)), (3, .int (nI N)), (0, .ref q), (1, .int v)] → W p l e rmJ7_fill_53178 s m args below meth c H locs 0 0 Q (F0 m 5 ls []) := by
    intro j
    induction j with
    | zero =>
      intro i5 hi5 H locs ls hP hD hS hl
      have ez : N = i5 := by omega
      subst ez
      refine lv_iload_n hx hb dJ7_fill_53178_5 rfl (lv_at hl 0 rfl) ?_
      refine lv_iload_n hx hb dJ7_fill_53178_6 rfl (lv_at hl 1 rfl) ?_
      refine lv_icmp_ge (tgt := 20) hx hb dJ7_fill_53178_7 (by decide) (fun c_7 => ?_) (fun h9 => absurd (nI_le (Nat.le_refl _) hN1) h9)
      have c_7n := (nI_leI (a := N) (b := N) (by omega) (by omega)).mp c_7
      have eq9 : wEq D [(q, .inl (cI, N, .inl (dFill h v N)))] [(q, .inl (cI, N, .inl (fun _ => v)))] := wEq.row (fun j hj => if_pos hj) wEq.nil
      have hP := eq9.P hP
      have hD := eq9.D hD
      exact wRv hQ hx hb hr hlocks hP hD hS dJ7_fill_53178_20 () (trivial) rfl
    | succ j ih5 =>
      intro i5 hi5 H locs ls hP hD hS hl
      refine lv_iload_n hx hb dJ7_fill_53178_5 rfl (lv_at hl 0 rfl) ?_
      refine lv_iload_n hx hb dJ7_fill_53178_6 rfl (lv_at hl 1 rfl) ?_
      refine lv_icmp_ge (tgt := 20) hx hb dJ7_fill_53178_7 (by decide) (fun h9 => absurd h9 (nI_ge (by omega) (by omega))) (fun c_7 => ?_)
      have c_7n := mt (nI_leI (a := N) (b := i5) (by omega) (by omega)).mpr c_7
      refine lv_aload_n hx hb dJ7_fill_53178_10 rfl (lv_at hl 2 rfl) ?_
      refine lv_iload_n hx hb dJ7_fill_53178_11 rfl (lv_at hl 0 rfl) ?_
      refine lv_iload_n hx hb dJ7_fill_53178_12 rfl (lv_at hl 3 rfl) ?_
      refine wIast hx hb hK hP hD hS 0 0 rfl rfl i5 rfl (by omega) (by omega) dJ7_fill_53178_13 (fun H locs hP hD hS => ?_)
      have hP : va_P D vwCl ([(q, .inl (cI, N, .inl (upd (dFill h v i5) i5 v)))]) H := hP
      have hD : va_D A ([(q, .inl (cI, N, .inl (upd (dFill h v i5) i5 v)))]) := hD
      refine lv_iinc (v := nI (i5 + 1)) (lv' := [(2, .int (nI (i5 + 1))), (3, .int (nI N)), (0, .ref q), (1, .int v)]) hx hb dJ7_fill_53178_14 hl (k := 0) rfl (nI_1 i5) (by decide) rfl (fun ls hl => ?_)
      refine lv_goto (tgt := 5) hx hb dJ7_fill_53178_17 (by decide) ?_
      have hP : va_P D vwCl ([(q, .inl (cI, N, .inl (dFill h v (i5 + 1))))]) H := by rw [← dFill_s]; exact hP
      have hD : va_D A ([(q, .inl (cI, N, .inl (dFill h v (i5 + 1))))]) := by rw [← dFill_s]; exact hD
      exact ih5 (i5 + 1) (by omega) _ _ _ hP hD hS (lv_sub hl [0, 1, 2, 3] rfl)
  have hP : va_P D vwCl ([(q, .inl (cI, N, .inl (dFill h v 0)))]) s.heap := by rw [dFill_0]; exact hP
  have hD : va_D A ([(q, .inl (cI, N, .inl (dFill h v 0)))]) := by rw [dFill_0]; exact hD
  exact loop5 N 0 (by omega) _ _ _ hP hD hS (lv_sub hl [1, 0, 2, 3] rfl)
abbrev rmX0_begin : Room := { frames := 1, cells := 0, slots := 0, locals := 23 }
set_option maxRecDepth 100000 in
set_option maxHeartbeats 4000000 in
/-- begin -/
theorem mX0_begin (l : Launch) (D : va_G) (cI : ClassId) (a : Nat → Nat) (f : Nat → Int32) (r : Nat → Nat → Int32) (x : Int32) (sz : Nat) : wCt l yX0_begin wsX0_begin rmX0_begin D [(cI, .int)] [.ref (a 0), .int x] (DC cI a f r) sz 0 0 (wQv D (fun u : dS => u = (dBeginF f x, dBeginR r)) (fun u : dS => DCs cI a u)) := by
  refine wMet cX0_begin 2 none (by decide) rfl (Nat.le_of_ble_eq_true rfl) ?_
  intro p e s m args below meth c A Q ls hQ hx hb hr hml hown hlocks hin hts hN hP hK hD hA hS hl
  have hl : lv_has ls 2 [(0, .ref (a 0)), (1, .int x)] := hl
  have hown : s.vm.findClass RX0 = some m.cls := hown
  have hw0 : ∀ w ∈ wsX00, w.before args s = true := fun w h => hts w (List.mem_cons_of_mem _ (List.mem_append_right _ h))
  have k9 := hts (.fieldLink RX0 9 "PauseLedger$Dinner" "spoken" "[I") (by decide +kernel)
  have k15 := hts (.fieldLink RX0 15 "PauseLedger$Dinner" "interruptions" "[I") (by decide +kernel)
  have k18 := hts (.fieldLink RX0 18 "PauseLedger$Dinner" "coughs" "[I") (by decide +kernel)
  have k21 := hts (.fieldLink RX0 21 "PauseLedger$Dinner" "unsaid" "[I") (by decide +kernel)
  have k24 := hts (.fieldLink RX0 24 "PauseLedger$Dinner" "toGo" "[I") (by decide +kernel)
  have k27 := hts (.fieldLink RX0 27 "PauseLedger$Dinner" "caught" "[I") (by decide +kernel)
  have k41 := hts (.fieldLink RX0 41 "PauseLedger$Dinner" "guests" "I") (by decide +kernel)
  have k44 := hts (.fieldLink RX0 44 "PauseLedger$Dinner" "seconds" "I") (by decide +kernel)
  have k47 := hts (.fieldLink RX0 47 "PauseLedger$Dinner" "speaker" "I") (by decide +kernel)
  have k50 := hts (.fieldLink RX0 50 "PauseLedger$Dinner" "toSpeak" "I") (by decide +kernel)
  have k53 := hts (.fieldLink RX0 53 "PauseLedger$Dinner" "pause" "I") (by decide +kernel)
  have k56 := hts (.fieldLink RX0 56 "PauseLedger$Dinner" "unsaidInPauses" "I") (by decide +kernel)
  have k59 := hts (.fieldLink RX0 59 "PauseLedger$Dinner" "meetings" "I") (by decide +kernel)
  have k62 := hts (.fieldLink RX0 62 "PauseLedger$Dinner" "lost" "I") (by decide +kernel)
  have k65 := hts (.fieldLink RX0 65 "PauseLedger$Dinner" "sent" "I") (by decide +kernel)
  refine lv_aload_n hx hb dX0_begin_0 rfl (lv_at hl 0 rfl) ?_
  refine lv_iload_n hx hb dX0_begin_1 rfl (lv_at hl 1 rfl) ?_
  refine va_put (D := D) (ci := 0) (v := .int x) (ty := .int) (C := RX0) (T := TX0) (N := 17) hx hb hw0 (fun _ h => h) tyX0 tyX0_ok nmX0 hown hK hP hD hS 0 rfl rfl 0 (by decide) k41 (fun _ h9 => h9) rfl (by decide +kernel) rfl rfl (Nat.le_of_ble_eq_true rfl) dX0_begin_2 (fun H locs hP hD hS => ?_)
  have hP : va_P D vwCl (DC cI a (upd f 0 x) r) H := hP
  have hD : va_D A (DC cI a (upd f 0 x) r) := hD
  refine lv_aload_n hx hb dX0_begin_5 rfl (lv_at hl 0 rfl) ?_
  refine lv_iconst (v := 0) hx hb dX0_begin_6 (by decide) ?_
  refine va_put (D := D) (ci := 0) (v := .int 0) (ty := .int) (C := RX0) (T := TX0) (N := 17) hx hb hw0 (fun _ h => h) tyX0 tyX0_ok nmX0 hown hK hP hD hS 0 rfl rfl 1 (by decide) k44 (fun _ h9 => h9) rfl (by decide +kernel) rfl rfl (Nat.le_of_ble_eq_true rfl) dX0_begin_7 (fun H locs hP hD hS => ?_)
  have hP : va_P D vwCl (DC cI a (upd (upd f 0 x) 1 0) r) H := hP
  have hD : va_D A (DC cI a (upd (upd f 0 x) 1 0) r) := hD
  refine lv_aload_n hx hb dX0_begin_10 rfl (lv_at hl 0 rfl) ?_
  refine lv_iconst (v := (-1)) hx hb dX0_begin_11 (by decide) ?_
  refine va_put (D := D) (ci := 0) (v := .int (-1)) (ty := .int) (C := RX0) (T := TX0) (N := 17) hx hb hw0 (fun _ h => h) tyX0 tyX0_ok nmX0 hown hK hP hD hS 0 rfl rfl 3 (by decide) k47 (fun _ h9 => h9) rfl (by decide +kernel) rfl rfl (Nat.le_of_ble_eq_true rfl) dX0_begin_12 (fun H locs hP hD hS => ?_)
  have hP : va_P D vwCl (DC cI a (upd (upd (upd f 0 x) 1 0) 3 (-1)) r) H := hP
  have hD : va_D A (DC cI a (upd (upd (upd f 0 x) 1 0) 3 (-1)) r) := hD
  refine lv_aload_n hx hb dX0_begin_15 rfl (lv_at hl 0 rfl) ?_
  refine lv_iconst (v := 0) hx hb dX0_begin_16 (by decide) ?_
  refine va_put (D := D) (ci := 0) (v := .int 0) (ty := .int) (C := RX0) (T := TX0) (N := 17) hx hb hw0 (fun _ h => h) tyX0 tyX0_ok nmX0 hown hK hP hD hS 0 rfl rfl 4 (by decide) k50 (fun _ h9 => h9) rfl (by decide +kernel) rfl rfl (Nat.le_of_ble_eq_true rfl) dX0_begin_17 (fun H locs hP hD hS => ?_)
  have hP : va_P D vwCl (DC cI a (upd (upd (upd (upd f 0 x) 1 0) 3 (-1)) 4 0) r) H := hP
  have hD : va_D A (DC cI a (upd (upd (upd (upd f 0 x) 1 0) 3 (-1)) 4 0) r) := hD
  refine lv_aload_n hx hb dX0_begin_20 rfl (lv_at hl 0 rfl) ?_
  refine lv_iconst (v := 0) hx hb dX0_begin_21 (by decide) ?_
  refine va_put (D := D) (ci := 0) (v := .int 0) (ty := .int) (C := RX0) (T := TX0) (N := 17) hx hb hw0 (fun _ h => h) tyX0 tyX0_ok nmX0 hown hK hP hD hS 0 rfl rfl 5 (by decide) k53 (fun _ h9 => h9) rfl (by decide +kernel) rfl rfl (Nat.le_of_ble_eq_true rfl) dX0_begin_22 (fun H locs hP hD hS => ?_)
  have hP : va_P D vwCl (DC cI a (upd (upd (upd (upd (upd f 0 x) 1 0) 3 (-1)) 4 0) 5 0) r) H := hP
  have hD : va_D A (DC cI a (upd (upd (upd (upd (upd f 0 x) 1 0) 3 (-1)) 4 0) 5 0) r) := hD
  refine lv_aload_n hx hb dX0_begin_25 rfl (lv_at hl 0 rfl) ?_
  refine lv_iconst (v := 0) hx hb dX0_begin_26 (by decide) ?_
  refine va_put (D := D) (ci := 0) (v := .int 0) (ty := .int) (C := RX0) (T := TX0) (N := 17) hx hb hw0 (fun _ h => h) tyX0 tyX0_ok nmX0 hown hK hP hD hS 0 rfl rfl 6 (by decide) k56 (fun _ h9 => h9) rfl (by decide +kernel) rfl rfl (Nat.le_of_ble_eq_true rfl) dX0_begin_27 (fun H locs hP hD hS => ?_)
  have hP : va_P D vwCl (DC cI a (upd (upd (upd (upd (upd (upd f 0 x) 1 0) 3 (-1)) 4 0) 5 0) 6 0) r) H := hP
  have hD : va_D A (DC cI a (upd (upd (upd (upd (upd (upd f 0 x) 1 0) 3 (-1)) 4 0) 5 0) 6 0) r) := hD
  refine lv_aload_n hx hb dX0_begin_30 rfl (lv_at hl 0 rfl) ?_
  refine lv_iconst (v := 0) hx hb dX0_begin_31 (by decide) ?_
  refine va_put (D := D) (ci := 0) (v := .int 0) (ty := .int) (C := RX0) (T := TX0) (N := 17) hx hb hw0 (fun _ h => h) tyX0 tyX0_ok nmX0 hown hK hP hD hS 0 rfl rfl 7 (by decide) k59 (fun _ h9 => h9) rfl (by decide +kernel) rfl rfl (Nat.le_of_ble_eq_true rfl) dX0_begin_32 (fun H locs hP hD hS => ?_)
  have hP : va_P D vwCl (DC cI a (upd (upd (upd (upd (upd (upd (upd f 0 x) 1 0) 3 (-1)) 4 0) 5 0) 6 0) 7 0) r) H := hP
  have hD : va_D A (DC cI a (upd (upd (upd (upd (upd (upd (upd f 0 x) 1 0) 3 (-1)) 4 0) 5 0) 6 0) 7 0) r) := hD
  refine lv_aload_n hx hb dX0_begin_35 rfl (lv_at hl 0 rfl) ?_
  refine lv_iconst (v := 0) hx hb dX0_begin_36 (by decide) ?_
  refine va_put (D := D) (ci := 0) (v := .int 0) (ty := .int) (C := RX0) (T := TX0) (N := 17) hx hb hw0 (fun _ h => h) tyX0 tyX0_ok nmX0 hown hK hP hD hS 0 rfl rfl 8 (by decide) k62 (fun _ h9 => h9) rfl (by decide +kernel) rfl rfl (Nat.le_of_ble_eq_true rfl) dX0_begin_37 (fun H locs hP hD hS => ?_)
  have hP : va_P D vwCl (DC cI a (upd (upd (upd (upd (upd (upd (upd (upd f 0 x) 1 0) 3 (-1)) 4 0) 5 0) 6 0) 7 0) 8 0) r) H := hP
  have hD : va_D A (DC cI a (upd (upd (upd (upd (upd (upd (upd (upd f 0 x) 1 0) 3 (-1)) 4 0) 5 0) 6 0) 7 0) 8 0) r) := hD
  refine lv_aload_n hx hb dX0_begin_40 rfl (lv_at hl 0 rfl) ?_
  refine lv_iconst (v := 0) hx hb dX0_begin_41 (by decide) ?_
  refine va_put (D := D) (ci := 0) (v := .int 0) (ty := .int) (C := RX0) (T := TX0) (N := 17) hx hb hw0 (fun _ h => h) tyX0 tyX0_ok nmX0 hown hK hP hD hS 0 rfl rfl 9 (by decide) k65 (fun _ h9 => h9) rfl (by decide +kernel) rfl rfl (Nat.le_of_ble_eq_true rfl) dX0_begin_42 (fun H locs hP hD hS => ?_)
  have hP : va_P D vwCl (DC cI a (upd (upd (upd (upd (upd (upd (upd (upd (upd f 0 x) 1 0) 3 (-1)) 4 0) 5 0) 6 0) 7 0) 8 0) 9 0) r) H := hP
  have hD : va_D A (DC cI a (upd (upd (upd (upd (upd (upd (upd (upd (upd f 0 x) 1 0) 3 (-1)) 4 0) 5 0) 6 0) 7 0) 8 0) 9 0) r) := hD
  refine lv_aload_n hx hb dX0_begin_45 rfl (lv_at hl 0 rfl) ?_
  refine va_get (D := D) (ci := 0) (v := .ref (a 1)) (C := RX0) (T := TX0) (N := 17) hx hb hw0 (fun _ h => h) hown hK hP 0 rfl rfl 10 (by decide) k9 (fun _ h9 => h9) rfl dX0_begin_46 ?_
  refine lv_iconst (v := 0) hx hb dX0_begin_49 (by decide) ?_
  refine wCSv (pre := (DC cI a (upd (upd (upd (upd (upd (upd (upd (upd (upd f 0 x) 1 0) 3 (-1)) 4 0) 5 0) 6 0) 7 0) 8 0) 9 0) r).take 1) (Wc := [(a 1, .inl (cI, 10, .inl (r 0)))]) (suf := (DC cI a (upd (upd (upd (upd (upd (upd (upd (upd (upd f 0 x) 1 0) 3 (-1)) 4 0) 5 0) 6 0) 7 0) 8 0) 9 0) r).drop 2) (As := [.ref (a 1), .int 0]) (rest := []) ⟨hx, hb, hml, hown, hts⟩ (mJ7_fill_53178 l D cI (a 1) 10 (r 0) 0 _ (by decide)) hN hA hK hS hP hD rfl (va_cwS 2 hts gX0_begin_J7_fill_53178 rfl rfl rfl (by decide +kernel) ⟨Nat.le_of_ble_eq_true rfl, Nat.le_of_ble_eq_true rfl⟩) rfl hl.1 rfl (Nat.le_of_ble_eq_true rfl) dX0_begin_50 ⟨Nat.zero_le _, Nat.zero_le _⟩ (fun u_50 H locs hw hP hD hS => ?_)
  have hP : va_P D vwCl (DC cI a (upd (upd (upd (upd (upd (upd (upd (upd (upd f 0 x) 1 0) 3 (-1)) 4 0) 5 0) 6 0) 7 0) 8 0) 9 0) (va_up r 0 (fun _ => 0))) H := hP
  have hD : va_D A (DC cI a (upd (upd (upd (upd (upd (upd (upd (upd (upd f 0 x) 1 0) 3 (-1)) 4 0) 5 0) 6 0) 7 0) 8 0) 9 0) (va_up r 0 (fun _ => 0))) := hD
  refine lv_aload_n hx hb dX0_begin_53 rfl (lv_at hl 0 rfl) ?_
  refine va_get (D := D) (ci := 0) (v := .ref (a 2)) (C := RX0) (T := TX0) (N := 17) hx hb hw0 (fun _ h => h) hown hK hP 0 rfl rfl 11 (by decide) k15 (fun _ h9 => h9) rfl dX0_begin_54 ?_
  refine lv_iconst (v := 0) hx hb dX0_begin_57 (by decide) ?_
  refine wCSv (pre := (DC cI a (upd (upd (upd (upd (upd (upd (upd (upd (upd f 0 x) 1 0) 3 (-1)) 4 0) 5 0) 6 0) 7 0) 8 0) 9 0) (va_up r 0 (fun _ => 0))).take 2) (Wc := [(a 2, .inl (cI, 10, .inl (r 1)))]) (suf := (DC cI a (upd (upd (upd (upd (upd (upd (upd (upd (upd f 0 x) 1 0) 3 (-1)) 4 0) 5 0) 6 0) 7 0) 8 0) 9 0) (va_up r 0 (fun _ => 0))).drop 3) (As := [.ref (a 2), .int 0]) (rest := []) ⟨hx, hb, hml, hown, hts⟩ (mJ7_fill_53178 l D cI (a 2) 10 (r 1) 0 _ (by decide)) hN hA hK hS hP hD rfl (va_cwS 2 hts gX0_begin_J7_fill_53178 rfl rfl rfl (by decide +kernel) ⟨Nat.le_of_ble_eq_true rfl, Nat.le_of_ble_eq_true rfl⟩) rfl hl.1 rfl (Nat.le_of_ble_eq_true rfl) dX0_begin_58 ⟨Nat.zero_le _, Nat.zero_le _⟩ (fun u_58 H locs hw hP hD hS => ?_)
  have hP : va_P D vwCl (DC cI a (upd (upd (upd (upd (upd (upd (upd (upd (upd f 0 x) 1 0) 3 (-1)) 4 0) 5 0) 6 0) 7 0) 8 0) 9 0) (va_up (va_up r 0 (fun _ => 0)) 1 (fun _ => 0))) H := hP
  have hD : va_D A (DC cI a (upd (upd (upd (upd (upd (upd (upd (upd (upd f 0 x) 1 0) 3 (-1)) 4 0) 5 0) 6 0) 7 0) 8 0) 9 0) (va_up (va_up r 0 (fun _ => 0)) 1 (fun _ => 0))) := hD
  refine lv_aload_n hx hb dX0_begin_61 rfl (lv_at hl 0 rfl) ?_
  refine va_get (D := D) (ci := 0) (v := .ref (a 3)) (C := RX0) (T := TX0) (N := 17) hx hb hw0 (fun _ h => h) hown hK hP 0 rfl rfl 12 (by decide) k18 (fun _ h9 => h9) rfl dX0_begin_62 ?_
  refine lv_iconst (v := 0) hx hb dX0_begin_65 (by decide) ?_
  refine wCSv (pre := (DC cI a (upd (upd (upd (upd (upd (upd (upd (upd (upd f 0 x) 1 0) 3 (-1)) 4 0) 5 0) 6 0) 7 0) 8 0) 9 0) (va_up (va_up r 0 (fun _ => 0)) 1 (fun _ => 0))).take 3) (Wc := [(a 3, .inl (cI, 10, .inl (r 2)))]) (suf := (DC cI a (upd (upd (upd (upd (upd (upd (upd (upd (upd f 0 x) 1 0) 3 (-1)) 4 0) 5 0) 6 0) 7 0) 8 0) 9 0) (va_up (va_up r 0 (fun _ => 0)) 1 (fun _ => 0))).drop 4) (As := [.ref (a 3), .int 0]) (rest := []) ⟨hx, hb, hml, hown, hts⟩ (mJ7_fill_53178 l D cI (a 3) 10 (r 2) 0 _ (by decide)) hN hA hK hS hP hD rfl (va_cwS 2 hts gX0_begin_J7_fill_53178 rfl rfl rfl (by decide +kernel) ⟨Nat.le_of_ble_eq_true rfl, Nat.le_of_ble_eq_true rfl⟩) rfl hl.1 rfl (Nat.le_of_ble_eq_true rfl) dX0_begin_66 ⟨Nat.zero_le _, Nat.zero_le _⟩ (fun u_66 H locs hw hP hD hS => ?_)
  have hP : va_P D vwCl (DC cI a (upd (upd (upd (upd (upd (upd (upd (upd (upd f 0 x) 1 0) 3 (-1)) 4 0) 5 0) 6 0) 7 0) 8 0) 9 0) (va_up (va_up (va_up r 0 (fun _ => 0)) 1 (fun _ => 0)) 2 (fun _ => 0))) H := hP
  have hD : va_D A (DC cI a (upd (upd (upd (upd (upd (upd (upd (upd (upd f 0 x) 1 0) 3 (-1)) 4 0) 5 0) 6 0) 7 0) 8 0) 9 0) (va_up (va_up (va_up r 0 (fun _ => 0)) 1 (fun _ => 0)) 2 (fun _ => 0))) := hD
  refine lv_aload_n hx hb dX0_begin_69 rfl (lv_at hl 0 rfl) ?_
  refine va_get (D := D) (ci := 0) (v := .ref (a 4)) (C := RX0) (T := TX0) (N := 17) hx hb hw0 (fun _ h => h) hown hK hP 0 rfl rfl 13 (by decide) k21 (fun _ h9 => h9) rfl dX0_begin_70 ?_
  refine lv_iconst (v := 0) hx hb dX0_begin_73 (by decide) ?_
  refine wCSv (pre := (DC cI a (upd (upd (upd (upd (upd (upd (upd (upd (upd f 0 x) 1 0) 3 (-1)) 4 0) 5 0) 6 0) 7 0) 8 0) 9 0) (va_up (va_up (va_up r 0 (fun _ => 0)) 1 (fun _ => 0)) 2 (fun _ => 0))).take 4) (Wc := [(a 4, .inl (cI, 10, .inl (r 3)))]) (suf := (DC cI a (upd (upd (upd (upd (upd (upd (upd (upd (upd f 0 x) 1 0) 3 (-1)) 4 0) 5 0) 6 0) 7 0) 8 0) 9 0) (va_up (va_up (va_up r 0 (fun _ => 0)) 1 (fun _ => 0)) 2 (fun _ => 0))).drop 5) (As := [.ref (a 4), .int 0]) (rest := []) ⟨hx, hb, hml, hown, hts⟩ (mJ7_fill_53178 l D cI (a 4) 10 (r 3) 0 _ (by decide)) hN hA hK hS hP hD rfl (va_cwS 2 hts gX0_begin_J7_fill_53178 rfl rfl rfl (by decide +kernel) ⟨Nat.le_of_ble_eq_true rfl, Nat.le_of_ble_eq_true rfl⟩) rfl hl.1 rfl (Nat.le_of_ble_eq_true rfl) dX0_begin_74 ⟨Nat.zero_le _, Nat.zero_le _⟩ (fun u_74 H locs hw hP hD hS => ?_)
  have hP : va_P D vwCl (DC cI a (upd (upd (upd (upd (upd (upd (upd (upd (upd f 0 x) 1 0) 3 (-1)) 4 0) 5 0) 6 0) 7 0) 8 0) 9 0) (va_up (va_up (va_up (va_up r 0 (fun _ => 0)) 1 (fun _ => 0)) 2 (fun _ => 0)) 3 (fun _ => 0))) H := hP
  have hD : va_D A (DC cI a (upd (upd (upd (upd (upd (upd (upd (upd (upd f 0 x) 1 0) 3 (-1)) 4 0) 5 0) 6 0) 7 0) 8 0) 9 0) (va_up (va_up (va_up (va_up r 0 (fun _ => 0)) 1 (fun _ => 0)) 2 (fun _ => 0)) 3 (fun _ => 0))) := hD
  refine lv_aload_n hx hb dX0_begin_77 rfl (lv_at hl 0 rfl) ?_
  refine va_get (D := D) (ci := 0) (v := .ref (a 5)) (C := RX0) (T := TX0) (N := 17) hx hb hw0 (fun _ h => h) hown hK hP 0 rfl rfl 14 (by decide) k24 (fun _ h9 => h9) rfl dX0_begin_78 ?_
  refine lv_iconst (v := (-1)) hx hb dX0_begin_81 (by decide) ?_
  refine wCSv (pre := (DC cI a (upd (upd (upd (upd (upd (upd (upd (upd (upd f 0 x) 1 0) 3 (-1)) 4 0) 5 0) 6 0) 7 0) 8 0) 9 0) (va_up (va_up (va_up (va_up r 0 (fun _ => 0)) 1 (fun _ => 0)) 2 (fun _ => 0)) 3 (fun _ => 0))).take 5) (Wc := [(a 5, .inl (cI, 100, .inl (r 4)))]) (suf := (DC cI a (upd (upd (upd (upd (upd (upd (upd (upd (upd f 0 x) 1 0) 3 (-1)) 4 0) 5 0) 6 0) 7 0) 8 0) 9 0) (va_up (va_up (va_up (va_up r 0 (fun _ => 0)) 1 (fun _ => 0)) 2 (fun _ => 0)) 3 (fun _ => 0))).drop 6) (As := [.ref (a 5), .int (-1)]) (rest := []) ⟨hx, hb, hml, hown, hts⟩ (mJ7_fill_53178 l D cI (a 5) 100 (r 4) (-1) _ (by decide)) hN hA hK hS hP hD rfl (va_cwS 2 hts gX0_begin_J7_fill_53178 rfl rfl rfl (by decide +kernel) ⟨Nat.le_of_ble_eq_true rfl, Nat.le_of_ble_eq_true rfl⟩) rfl hl.1 rfl (Nat.le_of_ble_eq_true rfl) dX0_begin_82 ⟨Nat.zero_le _, Nat.zero_le _⟩ (fun u_82 H locs hw hP hD hS => ?_)
  have hP : va_P D vwCl (DC cI a (upd (upd (upd (upd (upd (upd (upd (upd (upd f 0 x) 1 0) 3 (-1)) 4 0) 5 0) 6 0) 7 0) 8 0) 9 0) (va_up (va_up (va_up (va_up (va_up r 0 (fun _ => 0)) 1 (fun _ => 0)) 2 (fun _ => 0)) 3 (fun _ => 0)) 4 (fun _ => (-1)))) H := hP
  have hD : va_D A (DC cI a (upd (upd (upd (upd (upd (upd (upd (upd (upd f 0 x) 1 0) 3 (-1)) 4 0) 5 0) 6 0) 7 0) 8 0) 9 0) (va_up (va_up (va_up (va_up (va_up r 0 (fun _ => 0)) 1 (fun _ => 0)) 2 (fun _ => 0)) 3 (fun _ => 0)) 4 (fun _ => (-1)))) := hD
  refine lv_aload_n hx hb dX0_begin_85 rfl (lv_at hl 0 rfl) ?_
  refine va_get (D := D) (ci := 0) (v := .ref (a 6)) (C := RX0) (T := TX0) (N := 17) hx hb hw0 (fun _ h => h) hown hK hP 0 rfl rfl 15 (by decide) k27 (fun _ h9 => h9) rfl dX0_begin_86 ?_
  refine lv_iconst (v := 0) hx hb dX0_begin_89 (by decide) ?_
  refine wCSv (pre := (DC cI a (upd (upd (upd (upd (upd (upd (upd (upd (upd f 0 x) 1 0) 3 (-1)) 4 0) 5 0) 6 0) 7 0) 8 0) 9 0) (va_up (va_up (va_up (va_up (va_up r 0 (fun _ => 0)) 1 (fun _ => 0)) 2 (fun _ => 0)) 3 (fun _ => 0)) 4 (fun _ => (-1)))).take 6) (Wc := [(a 6, .inl (cI, 100, .inl (r 5)))]) (suf := (DC cI a (upd (upd (upd (upd (upd (upd (upd (upd (upd f 0 x) 1 0) 3 (-1)) 4 0) 5 0) 6 0) 7 0) 8 0) 9 0) (va_up (va_up (va_up (va_up (va_up r 0 (fun _ => 0)) 1 (fun _ => 0)) 2 (fun _ => 0)) 3 (fun _ => 0)) 4 (fun _ => (-1)))).drop 7) (As := [.ref (a 6), .int 0]) (rest := []) ⟨hx, hb, hml, hown, hts⟩ (mJ7_fill_53178 l D cI (a 6) 100 (r 5) 0 _ (by decide)) hN hA hK hS hP hD rfl (va_cwS 2 hts gX0_begin_J7_fill_53178 rfl rfl rfl (by decide +kernel) ⟨Nat.le_of_ble_eq_true rfl, Nat.le_of_ble_eq_true rfl⟩) rfl hl.1 rfl (Nat.le_of_ble_eq_true rfl) dX0_begin_90 ⟨Nat.zero_le _, Nat.zero_le _⟩ (fun u_90 H locs hw hP hD hS => ?_)
  have hP : va_P D vwCl (DC cI a (upd (upd (upd (upd (upd (upd (upd (upd (upd f 0 x) 1 0) 3 (-1)) 4 0) 5 0) 6 0) 7 0) 8 0) 9 0) (va_up (va_up (va_up (va_up (va_up (va_up r 0 (fun _ => 0)) 1 (fun _ => 0)) 2 (fun _ => 0)) 3 (fun _ => 0)) 4 (fun _ => (-1))) 5 (fun _ => 0))) H := hP
  have hD : va_D A (DC cI a (upd (upd (upd (upd (upd (upd (upd (upd (upd f 0 x) 1 0) 3 (-1)) 4 0) 5 0) 6 0) 7 0) 8 0) 9 0) (va_up (va_up (va_up (va_up (va_up (va_up r 0 (fun _ => 0)) 1 (fun _ => 0)) 2 (fun _ => 0)) 3 (fun _ => 0)) 4 (fun _ => (-1))) 5 (fun _ => 0))) := hD
  exact wRv hQ hx hb hr hlocks hP hD hS dX0_begin_93 ((upd (upd (upd (upd (upd (upd (upd (upd (upd f 0 x) 1 0) 3 (-1)) 4 0) 5 0) 6 0) 7 0) 8 0) 9 0), (va_up (va_up (va_up (va_up (va_up (va_up r 0 (fun _ => 0)) 1 (fun _ => 0)) 2 (fun _ => 0)) 3 (fun _ => 0)) 4 (fun _ => (-1))) 5 (fun _ => 0))) (rfl) rfl
abbrev rmX0_copyOf : Room := { frames := 1, cells := 0, slots := 0, locals := 60 }
set_option maxRecDepth 100000 in
set_option maxHeartbeats 4000000 in
/-- copyOf -/
theorem mX0_copyOf (l : Launch) (D : va_G) (cI : ClassId) (b a : Nat → Nat) (f2 f : Nat → Int32) (r2 r : Nat → Nat → Int32) (sz : Nat) : wCt l yX0_copyOf wsX0_copyOf rmX0_copyOf D [(cI, .int)] [.ref (b 0), .ref (a 0)] (DC cI b f2 r2 ++ DC cI a f r) sz 0 0 (wQv D (fun _ : Unit => True) (fun _ : Unit => DC cI b f r ++ DC cI a f r)) := by
  refine wMet cX0_copyOf 2 none (by decide) rfl (Nat.le_of_ble_eq_true rfl) ?_
  intro p e s m args below meth c A Q ls hQ hx hb hr hml hown hlocks hin hts hN hP hK hD hA hS hl
  have hl : lv_has ls 2 [(0, .ref (b 0)), (1, .ref (a 0))] := hl
  have hown : s.vm.findClass RX0 = some m.cls := hown
  have hw0 : ∀ w ∈ wsX00, w.before args s = true := fun w h => hts w (List.mem_cons_of_mem _ (List.mem_append_right _ h))
  have k9 := hts (.fieldLink RX0 9 "PauseLedger$Dinner" "spoken" "[I") (by decide +kernel)
  have k15 := hts (.fieldLink RX0 15 "PauseLedger$Dinner" "interruptions" "[I") (by decide +kernel)
  have k18 := hts (.fieldLink RX0 18 "PauseLedger$Dinner" "coughs" "[I") (by decide +kernel)
  have k21 := hts (.fieldLink RX0 21 "PauseLedger$Dinner" "unsaid" "[I") (by decide +kernel)
  have k24 := hts (.fieldLink RX0 24 "PauseLedger$Dinner" "toGo" "[I") (by decide +kernel)
  have k27 := hts (.fieldLink RX0 27 "PauseLedger$Dinner" "caught" "[I") (by decide +kernel)
  have k30 := hts (.fieldLink RX0 30 "PauseLedger$Dinner" "order" "[I") (by decide +kernel)
  have k33 := hts (.fieldLink RX0 33 "PauseLedger$Dinner" "limit" "I") (by decide +kernel)
  have k41 := hts (.fieldLink RX0 41 "PauseLedger$Dinner" "guests" "I") (by decide +kernel)
  have k44 := hts (.fieldLink RX0 44 "PauseLedger$Dinner" "seconds" "I") (by decide +kernel)
  have k47 := hts (.fieldLink RX0 47 "PauseLedger$Dinner" "speaker" "I") (by decide +kernel)
  have k50 := hts (.fieldLink RX0 50 "PauseLedger$Dinner" "toSpeak" "I") (by decide +kernel)
  have k53 := hts (.fieldLink RX0 53 "PauseLedger$Dinner" "pause" "I") (by decide +kernel)
  have k56 := hts (.fieldLink RX0 56 "PauseLedger$Dinner" "unsaidInPauses" "I") (by decide +kernel)
  have k59 := hts (.fieldLink RX0 59 "PauseLedger$Dinner" "meetings" "I") (by decide +kernel)
  have k62 := hts (.fieldLink RX0 62 "PauseLedger$Dinner" "lost" "I") (by decide +kernel)
  have k65 := hts (.fieldLink RX0 65 "PauseLedger$Dinner" "sent" "I") (by decide +kernel)
  refine lv_aload_n hx hb dX0_copyOf_0 rfl (lv_at hl 0 rfl) ?_
  refine lv_aload_n hx hb dX0_copyOf_1 rfl (lv_at hl 1 rfl) ?_
  refine va_get (D := D) (ci := 0) (v := .int (f 0)) (C := RX0) (T := TX0) (N := 17) hx hb hw0 (fun _ h => h) hown hK hP 8 rfl rfl 0 (by decide) k41 (fun _ h9 => h9) rfl dX0_copyOf_2 ?_
  refine va_put (D := D) (ci := 0) (v := .int (f 0)) (ty := .int) (C := RX0) (T := TX0) (N := 17) hx hb hw0 (fun _ h => h) tyX0 tyX0_ok nmX0 hown hK hP hD hS 0 rfl rfl 0 (by decide) k41 (fun _ h9 => h9) rfl (by decide +kernel) rfl rfl (Nat.le_of_ble_eq_true rfl) dX0_copyOf_5 (fun H locs hP hD hS => ?_)
  have hP : va_P D vwCl (DC cI b (upd f2 0 (f 0)) r2 ++ DC cI a f r) H := hP
  have hD : va_D A (DC cI b (upd f2 0 (f 0)) r2 ++ DC cI a f r) := hD
  refine lv_aload_n hx hb dX0_copyOf_8 rfl (lv_at hl 0 rfl) ?_
  refine lv_aload_n hx hb dX0_copyOf_9 rfl (lv_at hl 1 rfl) ?_
  refine va_get (D := D) (ci := 0) (v := .int (f 1)) (C := RX0) (T := TX0) (N := 17) hx hb hw0 (fun _ h => h) hown hK hP 8 rfl rfl 1 (by decide) k44 (fun _ h9 => h9) rfl dX0_copyOf_10 ?_
  refine va_put (D := D) (ci := 0) (v := .int (f 1)) (ty := .int) (C := RX0) (T := TX0) (N := 17) hx hb hw0 (fun _ h => h) tyX0 tyX0_ok nmX0 hown hK hP hD hS 0 rfl rfl 1 (by decide) k44 (fun _ h9 => h9) rfl (by decide +kernel) rfl rfl (Nat.le_of_ble_eq_true rfl) dX0_copyOf_13 (fun H locs hP hD hS => ?_)
  have hP : va_P D vwCl (DC cI b (upd (upd f2 0 (f 0)) 1 (f 1)) r2 ++ DC cI a f r) H := hP
  have hD : va_D A (DC cI b (upd (upd f2 0 (f 0)) 1 (f 1)) r2 ++ DC cI a f r) := hD
  refine lv_aload_n hx hb dX0_copyOf_16 rfl (lv_at hl 0 rfl) ?_
  refine lv_aload_n hx hb dX0_copyOf_17 rfl (lv_at hl 1 rfl) ?_
  refine va_get (D := D) (ci := 0) (v := .int (f 2)) (C := RX0) (T := TX0) (N := 17) hx hb hw0 (fun _ h => h) hown hK hP 8 rfl rfl 2 (by decide) k33 (fun _ h9 => h9) rfl dX0_copyOf_18 ?_
  refine va_put (D := D) (ci := 0) (v := .int (f 2)) (ty := .int) (C := RX0) (T := TX0) (N := 17) hx hb hw0 (fun _ h => h) tyX0 tyX0_ok nmX0 hown hK hP hD hS 0 rfl rfl 2 (by decide) k33 (fun _ h9 => h9) rfl (by decide +kernel) rfl rfl (Nat.le_of_ble_eq_true rfl) dX0_copyOf_21 (fun H locs hP hD hS => ?_)
  have hP : va_P D vwCl (DC cI b (upd (upd (upd f2 0 (f 0)) 1 (f 1)) 2 (f 2)) r2 ++ DC cI a f r) H := hP
  have hD : va_D A (DC cI b (upd (upd (upd f2 0 (f 0)) 1 (f 1)) 2 (f 2)) r2 ++ DC cI a f r) := hD
  refine lv_aload_n hx hb dX0_copyOf_24 rfl (lv_at hl 0 rfl) ?_
  refine lv_aload_n hx hb dX0_copyOf_25 rfl (lv_at hl 1 rfl) ?_
  refine va_get (D := D) (ci := 0) (v := .int (f 3)) (C := RX0) (T := TX0) (N := 17) hx hb hw0 (fun _ h => h) hown hK hP 8 rfl rfl 3 (by decide) k47 (fun _ h9 => h9) rfl dX0_copyOf_26 ?_
  refine va_put (D := D) (ci := 0) (v := .int (f 3)) (ty := .int) (C := RX0) (T := TX0) (N := 17) hx hb hw0 (fun _ h => h) tyX0 tyX0_ok nmX0 hown hK hP hD hS 0 rfl rfl 3 (by decide) k47 (fun _ h9 => h9) rfl (by decide +kernel) rfl rfl (Nat.le_of_ble_eq_true rfl) dX0_copyOf_29 (fun H locs hP hD hS => ?_)
  have hP : va_P D vwCl (DC cI b (upd (upd (upd (upd f2 0 (f 0)) 1 (f 1)) 2 (f 2)) 3 (f 3)) r2 ++ DC cI a f r) H := hP
  have hD : va_D A (DC cI b (upd (upd (upd (upd f2 0 (f 0)) 1 (f 1)) 2 (f 2)) 3 (f 3)) r2 ++ DC cI a f r) := hD
  refine lv_aload_n hx hb dX0_copyOf_32 rfl (lv_at hl 0 rfl) ?_
  refine lv_aload_n hx hb dX0_copyOf_33 rfl (lv_at hl 1 rfl) ?_
  refine va_get (D := D) (ci := 0) (v := .int (f 4)) (C := RX0) (T := TX0) (N := 17) hx hb hw0 (fun _ h => h) hown hK hP 8 rfl rfl 4 (by decide) k50 (fun _ h9 => h9) rfl dX0_copyOf_34 ?_
  refine va_put (D := D) (ci := 0) (v := .int (f 4)) (ty := .int) (C := RX0) (T := TX0) (N := 17) hx hb hw0 (fun _ h => h) tyX0 tyX0_ok nmX0 hown hK hP hD hS 0 rfl rfl 4 (by decide) k50 (fun _ h9 => h9) rfl (by decide +kernel) rfl rfl (Nat.le_of_ble_eq_true rfl) dX0_copyOf_37 (fun H locs hP hD hS => ?_)
  have hP : va_P D vwCl (DC cI b (upd (upd (upd (upd (upd f2 0 (f 0)) 1 (f 1)) 2 (f 2)) 3 (f 3)) 4 (f 4)) r2 ++ DC cI a f r) H := hP
  have hD : va_D A (DC cI b (upd (upd (upd (upd (upd f2 0 (f 0)) 1 (f 1)) 2 (f 2)) 3 (f 3)) 4 (f 4)) r2 ++ DC cI a f r) := hD
  refine lv_aload_n hx hb dX0_copyOf_40 rfl (lv_at hl 0 rfl) ?_
  refine lv_aload_n hx hb dX0_copyOf_41 rfl (lv_at hl 1 rfl) ?_
  refine va_get (D := D) (ci := 0) (v := .int (f 5)) (C := RX0) (T := TX0) (N := 17) hx hb hw0 (fun _ h => h) hown hK hP 8 rfl rfl 5 (by decide) k53 (fun _ h9 => h9) rfl dX0_copyOf_42 ?_
  refine va_put (D := D) (ci := 0) (v := .int (f 5)) (ty := .int) (C := RX0) (T := TX0) (N := 17) hx hb hw0 (fun _ h => h) tyX0 tyX0_ok nmX0 hown hK hP hD hS 0 rfl rfl 5 (by decide) k53 (fun _ h9 => h9) rfl (by decide +kernel) rfl rfl (Nat.le_of_ble_eq_true rfl) dX0_copyOf_45 (fun H locs hP hD hS => ?_)
  have hP : va_P D vwCl (DC cI b (upd (upd (upd (upd (upd (upd f2 0 (f 0)) 1 (f 1)) 2 (f 2)) 3 (f 3)) 4 (f 4)) 5 (f 5)) r2 ++ DC cI a f r) H := hP
  have hD : va_D A (DC cI b (upd (upd (upd (upd (upd (upd f2 0 (f 0)) 1 (f 1)) 2 (f 2)) 3 (f 3)) 4 (f 4)) 5 (f 5)) r2 ++ DC cI a f r) := hD
  refine lv_aload_n hx hb dX0_copyOf_48 rfl (lv_at hl 0 rfl) ?_
  refine lv_aload_n hx hb dX0_copyOf_49 rfl (lv_at hl 1 rfl) ?_
  refine va_get (D := D) (ci := 0) (v := .int (f 6)) (C := RX0) (T := TX0) (N := 17) hx hb hw0 (fun _ h => h) hown hK hP 8 rfl rfl 6 (by decide) k56 (fun _ h9 => h9) rfl dX0_copyOf_50 ?_
  refine va_put (D := D) (ci := 0) (v := .int (f 6)) (ty := .int) (C := RX0) (T := TX0) (N := 17) hx hb hw0 (fun _ h => h) tyX0 tyX0_ok nmX0 hown hK hP hD hS 0 rfl rfl 6 (by decide) k56 (fun _ h9 => h9) rfl (by decide +kernel) rfl rfl (Nat.le_of_ble_eq_true rfl) dX0_copyOf_53 (fun H locs hP hD hS => ?_)
  have hP : va_P D vwCl (DC cI b (upd (upd (upd (upd (upd (upd (upd f2 0 (f 0)) 1 (f 1)) 2 (f 2)) 3 (f 3)) 4 (f 4)) 5 (f 5)) 6 (f 6)) r2 ++ DC cI a f r) H := hP
  have hD : va_D A (DC cI b (upd (upd (upd (upd (upd (upd (upd f2 0 (f 0)) 1 (f 1)) 2 (f 2)) 3 (f 3)) 4 (f 4)) 5 (f 5)) 6 (f 6)) r2 ++ DC cI a f r) := hD
  refine lv_aload_n hx hb dX0_copyOf_56 rfl (lv_at hl 0 rfl) ?_
  refine lv_aload_n hx hb dX0_copyOf_57 rfl (lv_at hl 1 rfl) ?_
  refine va_get (D := D) (ci := 0) (v := .int (f 7)) (C := RX0) (T := TX0) (N := 17) hx hb hw0 (fun _ h => h) hown hK hP 8 rfl rfl 7 (by decide) k59 (fun _ h9 => h9) rfl dX0_copyOf_58 ?_
  refine va_put (D := D) (ci := 0) (v := .int (f 7)) (ty := .int) (C := RX0) (T := TX0) (N := 17) hx hb hw0 (fun _ h => h) tyX0 tyX0_ok nmX0 hown hK hP hD hS 0 rfl rfl 7 (by decide) k59 (fun _ h9 => h9) rfl (by decide +kernel) rfl rfl (Nat.le_of_ble_eq_true rfl) dX0_copyOf_61 (fun H locs hP hD hS => ?_)
  have hP : va_P D vwCl (DC cI b (upd (upd (upd (upd (upd (upd (upd (upd f2 0 (f 0)) 1 (f 1)) 2 (f 2)) 3 (f 3)) 4 (f 4)) 5 (f 5)) 6 (f 6)) 7 (f 7)) r2 ++ DC cI a f r) H := hP
  have hD : va_D A (DC cI b (upd (upd (upd (upd (upd (upd (upd (upd f2 0 (f 0)) 1 (f 1)) 2 (f 2)) 3 (f 3)) 4 (f 4)) 5 (f 5)) 6 (f 6)) 7 (f 7)) r2 ++ DC cI a f r) := hD
  refine lv_aload_n hx hb dX0_copyOf_64 rfl (lv_at hl 0 rfl) ?_
  refine lv_aload_n hx hb dX0_copyOf_65 rfl (lv_at hl 1 rfl) ?_
  refine va_get (D := D) (ci := 0) (v := .int (f 8)) (C := RX0) (T := TX0) (N := 17) hx hb hw0 (fun _ h => h) hown hK hP 8 rfl rfl 8 (by decide) k62 (fun _ h9 => h9) rfl dX0_copyOf_66 ?_
  refine va_put (D := D) (ci := 0) (v := .int (f 8)) (ty := .int) (C := RX0) (T := TX0) (N := 17) hx hb hw0 (fun _ h => h) tyX0 tyX0_ok nmX0 hown hK hP hD hS 0 rfl rfl 8 (by decide) k62 (fun _ h9 => h9) rfl (by decide +kernel) rfl rfl (Nat.le_of_ble_eq_true rfl) dX0_copyOf_69 (fun H locs hP hD hS => ?_)
  have hP : va_P D vwCl (DC cI b (upd (upd (upd (upd (upd (upd (upd (upd (upd f2 0 (f 0)) 1 (f 1)) 2 (f 2)) 3 (f 3)) 4 (f 4)) 5 (f 5)) 6 (f 6)) 7 (f 7)) 8 (f 8)) r2 ++ DC cI a f r) H := hP
  have hD : va_D A (DC cI b (upd (upd (upd (upd (upd (upd (upd (upd (upd f2 0 (f 0)) 1 (f 1)) 2 (f 2)) 3 (f 3)) 4 (f 4)) 5 (f 5)) 6 (f 6)) 7 (f 7)) 8 (f 8)) r2 ++ DC cI a f r) := hD
  refine lv_aload_n hx hb dX0_copyOf_72 rfl (lv_at hl 0 rfl) ?_
  refine lv_aload_n hx hb dX0_copyOf_73 rfl (lv_at hl 1 rfl) ?_
  refine va_get (D := D) (ci := 0) (v := .int (f 9)) (C := RX0) (T := TX0) (N := 17) hx hb hw0 (fun _ h => h) hown hK hP 8 rfl rfl 9 (by decide) k65 (fun _ h9 => h9) rfl dX0_copyOf_74 ?_
  refine va_put (D := D) (ci := 0) (v := .int (f 9)) (ty := .int) (C := RX0) (T := TX0) (N := 17) hx hb hw0 (fun _ h => h) tyX0 tyX0_ok nmX0 hown hK hP hD hS 0 rfl rfl 9 (by decide) k65 (fun _ h9 => h9) rfl (by decide +kernel) rfl rfl (Nat.le_of_ble_eq_true rfl) dX0_copyOf_77 (fun H locs hP hD hS => ?_)
  have hP : va_P D vwCl (DC cI b (upd (upd (upd (upd (upd (upd (upd (upd (upd (upd f2 0 (f 0)) 1 (f 1)) 2 (f 2)) 3 (f 3)) 4 (f 4)) 5 (f 5)) 6 (f 6)) 7 (f 7)) 8 (f 8)) 9 (f 9)) r2 ++ DC cI a f r) H := hP
  have hD : va_D A (DC cI b (upd (upd (upd (upd (upd (upd (upd (upd (upd (upd f2 0 (f 0)) 1 (f 1)) 2 (f 2)) 3 (f 3)) 4 (f 4)) 5 (f 5)) 6 (f 6)) 7 (f 7)) 8 (f 8)) 9 (f 9)) r2 ++ DC cI a f r) := hD
  refine lv_aload_n hx hb dX0_copyOf_80 rfl (lv_at hl 1 rfl) ?_
  refine va_get (D := D) (ci := 0) (v := .ref (a 1)) (C := RX0) (T := TX0) (N := 17) hx hb hw0 (fun _ h => h) hown hK hP 8 rfl rfl 10 (by decide) k9 (fun _ h9 => h9) rfl dX0_copyOf_81 ?_
  refine lv_iconst (v := 0) hx hb dX0_copyOf_84 (by decide) ?_
  refine lv_aload_n hx hb dX0_copyOf_85 rfl (lv_at hl 0 rfl) ?_
  refine va_get (D := D) (ci := 0) (v := .ref (b 1)) (C := RX0) (T := TX0) (N := 17) hx hb hw0 (fun _ h => h) hown hK hP 0 rfl rfl 10 (by decide) k9 (fun _ h9 => h9) rfl dX0_copyOf_86 ?_
  refine lv_iconst (v := 0) hx hb dX0_copyOf_89 (by decide) ?_
  refine lv_bipush (v := 10) hx hb dX0_copyOf_90 (by decide) ?_
  refine va_copyi hx hb (hml.trans hl.1.symm) hown (hts (.methodLink RX0 74 arraycopyName) (by decide +kernel)) (hts (.native arraycopyName) (by decide +kernel)) (hts (.static arraycopyName) (by decide +kernel)) (hts (.initialized "java/lang/System") (by decide +kernel)) hK hP hD hS 9 1 0 0 rfl rfl rfl rfl rfl (by decide) (by decide) (by decide) (by decide) (by decide) (fun _ _ => rfl) (Nat.le_of_ble_eq_true rfl) (by decide +kernel) dX0_copyOf_92 (fun H locs hP hD hS => ?_)
  have hP : va_P D vwCl (DC cI b (upd (upd (upd (upd (upd (upd (upd (upd (upd (upd f2 0 (f 0)) 1 (f 1)) 2 (f 2)) 3 (f 3)) 4 (f 4)) 5 (f 5)) 6 (f 6)) 7 (f 7)) 8 (f 8)) 9 (f 9)) (va_up r2 0 (va_cpy (r 0) (r2 0) 0 0 10)) ++ DC cI a f r) H := hP
  have hD : va_D A (DC cI b (upd (upd (upd (upd (upd (upd (upd (upd (upd (upd f2 0 (f 0)) 1 (f 1)) 2 (f 2)) 3 (f 3)) 4 (f 4)) 5 (f 5)) 6 (f 6)) 7 (f 7)) 8 (f 8)) 9 (f 9)) (va_up r2 0 (va_cpy (r 0) (r2 0) 0 0 10)) ++ DC cI a f r) := hD
  refine lv_aload_n hx hb dX0_copyOf_95 rfl (lv_at hl 1 rfl) ?_
  refine va_get (D := D) (ci := 0) (v := .ref (a 2)) (C := RX0) (T := TX0) (N := 17) hx hb hw0 (fun _ h => h) hown hK hP 8 rfl rfl 11 (by decide) k15 (fun _ h9 => h9) rfl dX0_copyOf_96 ?_
  refine lv_iconst (v := 0) hx hb dX0_copyOf_99 (by decide) ?_
  refine lv_aload_n hx hb dX0_copyOf_100 rfl (lv_at hl 0 rfl) ?_
  refine va_get (D := D) (ci := 0) (v := .ref (b 2)) (C := RX0) (T := TX0) (N := 17) hx hb hw0 (fun _ h => h) hown hK hP 0 rfl rfl 11 (by decide) k15 (fun _ h9 => h9) rfl dX0_copyOf_101 ?_
  refine lv_iconst (v := 0) hx hb dX0_copyOf_104 (by decide) ?_
  refine lv_bipush (v := 10) hx hb dX0_copyOf_105 (by decide) ?_
  refine va_copyi hx hb (hml.trans hl.1.symm) hown (hts (.methodLink RX0 74 arraycopyName) (by decide +kernel)) (hts (.native arraycopyName) (by decide +kernel)) (hts (.static arraycopyName) (by decide +kernel)) (hts (.initialized "java/lang/System") (by decide +kernel)) hK hP hD hS 10 2 0 0 rfl rfl rfl rfl rfl (by decide) (by decide) (by decide) (by decide) (by decide) (fun _ _ => rfl) (Nat.le_of_ble_eq_true rfl) (by decide +kernel) dX0_copyOf_107 (fun H locs hP hD hS => ?_)
  have hP : va_P D vwCl (DC cI b (upd (upd (upd (upd (upd (upd (upd (upd (upd (upd f2 0 (f 0)) 1 (f 1)) 2 (f 2)) 3 (f 3)) 4 (f 4)) 5 (f 5)) 6 (f 6)) 7 (f 7)) 8 (f 8)) 9 (f 9)) (va_up (va_up r2 0 (va_cpy (r 0) (r2 0) 0 0 10)) 1 (va_cpy (r 1) (r2 1) 0 0 10)) ++ DC cI a f r) H := hP
  have hD : va_D A (DC cI b (upd (upd (upd (upd (upd (upd (upd (upd (upd (upd f2 0 (f 0)) 1 (f 1)) 2 (f 2)) 3 (f 3)) 4 (f 4)) 5 (f 5)) 6 (f 6)) 7 (f 7)) 8 (f 8)) 9 (f 9)) (va_up (va_up r2 0 (va_cpy (r 0) (r2 0) 0 0 10)) 1 (va_cpy (r 1) (r2 1) 0 0 10)) ++ DC cI a f r) := hD
  refine lv_aload_n hx hb dX0_copyOf_110 rfl (lv_at hl 1 rfl) ?_
  refine va_get (D := D) (ci := 0) (v := .ref (a 3)) (C := RX0) (T := TX0) (N := 17) hx hb hw0 (fun _ h => h) hown hK hP 8 rfl rfl 12 (by decide) k18 (fun _ h9 => h9) rfl dX0_copyOf_111 ?_
  refine lv_iconst (v := 0) hx hb dX0_copyOf_114 (by decide) ?_
  refine lv_aload_n hx hb dX0_copyOf_115 rfl (lv_at hl 0 rfl) ?_
  refine va_get (D := D) (ci := 0) (v := .ref (b 3)) (C := RX0) (T := TX0) (N := 17) hx hb hw0 (fun _ h => h) hown hK hP 0 rfl rfl 12 (by decide) k18 (fun _ h9 => h9) rfl dX0_copyOf_116 ?_
  refine lv_iconst (v := 0) hx hb dX0_copyOf_119 (by decide) ?_
  refine lv_bipush (v := 10) hx hb dX0_copyOf_120 (by decide) ?_
  refine va_copyi hx hb (hml.trans hl.1.symm) hown (hts (.methodLink RX0 74 arraycopyName) (by decide +kernel)) (hts (.native arraycopyName) (by decide +kernel)) (hts (.static arraycopyName) (by decide +kernel)) (hts (.initialized "java/lang/System") (by decide +kernel)) hK hP hD hS 11 3 0 0 rfl rfl rfl rfl rfl (by decide) (by decide) (by decide) (by decide) (by decide) (fun _ _ => rfl) (Nat.le_of_ble_eq_true rfl) (by decide +kernel) dX0_copyOf_122 (fun H locs hP hD hS => ?_)
  have hP : va_P D vwCl (DC cI b (upd (upd (upd (upd (upd (upd (upd (upd (upd (upd f2 0 (f 0)) 1 (f 1)) 2 (f 2)) 3 (f 3)) 4 (f 4)) 5 (f 5)) 6 (f 6)) 7 (f 7)) 8 (f 8)) 9 (f 9)) (va_up (va_up (va_up r2 0 (va_cpy (r 0) (r2 0) 0 0 10)) 1 (va_cpy (r 1) (r2 1) 0 0 10)) 2 (va_cpy (r 2) (r2 2) 0 0 10)) ++ DC cI a f r) H := hP
  have hD : va_D A (DC cI b (upd (upd (upd (upd (upd (upd (upd (upd (upd (upd f2 0 (f 0)) 1 (f 1)) 2 (f 2)) 3 (f 3)) 4 (f 4)) 5 (f 5)) 6 (f 6)) 7 (f 7)) 8 (f 8)) 9 (f 9)) (va_up (va_up (va_up r2 0 (va_cpy (r 0) (r2 0) 0 0 10)) 1 (va_cpy (r 1) (r2 1) 0 0 10)) 2 (va_cpy (r 2) (r2 2) 0 0 10)) ++ DC cI a f r) := hD
  refine lv_aload_n hx hb dX0_copyOf_125 rfl (lv_at hl 1 rfl) ?_
  refine va_get (D := D) (ci := 0) (v := .ref (a 4)) (C := RX0) (T := TX0) (N := 17) hx hb hw0 (fun _ h => h) hown hK hP 8 rfl rfl 13 (by decide) k21 (fun _ h9 => h9) rfl dX0_copyOf_126 ?_
  refine lv_iconst (v := 0) hx hb dX0_copyOf_129 (by decide) ?_
  refine lv_aload_n hx hb dX0_copyOf_130 rfl (lv_at hl 0 rfl) ?_
  refine va_get (D := D) (ci := 0) (v := .ref (b 4)) (C := RX0) (T := TX0) (N := 17) hx hb hw0 (fun _ h => h) hown hK hP 0 rfl rfl 13 (by decide) k21 (fun _ h9 => h9) rfl dX0_copyOf_131 ?_
  refine lv_iconst (v := 0) hx hb dX0_copyOf_134 (by decide) ?_
  refine lv_bipush (v := 10) hx hb dX0_copyOf_135 (by decide) ?_
  refine va_copyi hx hb (hml.trans hl.1.symm) hown (hts (.methodLink RX0 74 arraycopyName) (by decide +kernel)) (hts (.native arraycopyName) (by decide +kernel)) (hts (.static arraycopyName) (by decide +kernel)) (hts (.initialized "java/lang/System") (by decide +kernel)) hK hP hD hS 12 4 0 0 rfl rfl rfl rfl rfl (by decide) (by decide) (by decide) (by decide) (by decide) (fun _ _ => rfl) (Nat.le_of_ble_eq_true rfl) (by decide +kernel) dX0_copyOf_137 (fun H locs hP hD hS => ?_)
  have hP : va_P D vwCl (DC cI b (upd (upd (upd (upd (upd (upd (upd (upd (upd (upd f2 0 (f 0)) 1 (f 1)) 2 (f 2)) 3 (f 3)) 4 (f 4)) 5 (f 5)) 6 (f 6)) 7 (f 7)) 8 (f 8)) 9 (f 9)) (va_up (va_up (va_up (va_up r2 0 (va_cpy (r 0) (r2 0) 0 0 10)) 1 (va_cpy (r 1) (r2 1) 0 0 10)) 2 (va_cpy (r 2) (r2 2) 0 0 10)) 3 (va_cpy (r 3) (r2 3) 0 0 10)) ++ DC cI a f r) H := hP
  have hD : va_D A (DC cI b (upd (upd (upd (upd (upd (upd (upd (upd (upd (upd f2 0 (f 0)) 1 (f 1)) 2 (f 2)) 3 (f 3)) 4 (f 4)) 5 (f 5)) 6 (f 6)) 7 (f 7)) 8 (f 8)) 9 (f 9)) (va_up (va_up (va_up (va_up r2 0 (va_cpy (r 0) (r2 0) 0 0 10)) 1 (va_cpy (r 1) (r2 1) 0 0 10)) 2 (va_cpy (r 2) (r2 2) 0 0 10)) 3 (va_cpy (r 3) (r2 3) 0 0 10)) ++ DC cI a f r) := hD
  refine lv_aload_n hx hb dX0_copyOf_140 rfl (lv_at hl 1 rfl) ?_
  refine va_get (D := D) (ci := 0) (v := .ref (a 5)) (C := RX0) (T := TX0) (N := 17) hx hb hw0 (fun _ h => h) hown hK hP 8 rfl rfl 14 (by decide) k24 (fun _ h9 => h9) rfl dX0_copyOf_141 ?_
  refine lv_iconst (v := 0) hx hb dX0_copyOf_144 (by decide) ?_
  refine lv_aload_n hx hb dX0_copyOf_145 rfl (lv_at hl 0 rfl) ?_
  refine va_get (D := D) (ci := 0) (v := .ref (b 5)) (C := RX0) (T := TX0) (N := 17) hx hb hw0 (fun _ h => h) hown hK hP 0 rfl rfl 14 (by decide) k24 (fun _ h9 => h9) rfl dX0_copyOf_146 ?_
  refine lv_iconst (v := 0) hx hb dX0_copyOf_149 (by decide) ?_
  refine lv_bipush (v := 100) hx hb dX0_copyOf_150 (by decide) ?_
  refine va_copyi hx hb (hml.trans hl.1.symm) hown (hts (.methodLink RX0 74 arraycopyName) (by decide +kernel)) (hts (.native arraycopyName) (by decide +kernel)) (hts (.static arraycopyName) (by decide +kernel)) (hts (.initialized "java/lang/System") (by decide +kernel)) hK hP hD hS 13 5 0 0 rfl rfl rfl rfl rfl (by decide) (by decide) (by decide) (by decide) (by decide) (fun _ _ => rfl) (Nat.le_of_ble_eq_true rfl) (by decide +kernel) dX0_copyOf_152 (fun H locs hP hD hS => ?_)
  have hP : va_P D vwCl (DC cI b (upd (upd (upd (upd (upd (upd (upd (upd (upd (upd f2 0 (f 0)) 1 (f 1)) 2 (f 2)) 3 (f 3)) 4 (f 4)) 5 (f 5)) 6 (f 6)) 7 (f 7)) 8 (f 8)) 9 (f 9)) (va_up (va_up (va_up (va_up (va_up r2 0 (va_cpy (r 0) (r2 0) 0 0 10)) 1 (va_cpy (r 1) (r2 1) 0 0 10)) 2 (va_cpy (r 2) (r2 2) 0 0 10)) 3 (va_cpy (r 3) (r2 3) 0 0 10)) 4 (va_cpy (r 4) (r2 4) 0 0 100)) ++ DC cI a f r) H := hP
  have hD : va_D A (DC cI b (upd (upd (upd (upd (upd (upd (upd (upd (upd (upd f2 0 (f 0)) 1 (f 1)) 2 (f 2)) 3 (f 3)) 4 (f 4)) 5 (f 5)) 6 (f 6)) 7 (f 7)) 8 (f 8)) 9 (f 9)) (va_up (va_up (va_up (va_up (va_up r2 0 (va_cpy (r 0) (r2 0) 0 0 10)) 1 (va_cpy (r 1) (r2 1) 0 0 10)) 2 (va_cpy (r 2) (r2 2) 0 0 10)) 3 (va_cpy (r 3) (r2 3) 0 0 10)) 4 (va_cpy (r 4) (r2 4) 0 0 100)) ++ DC cI a f r) := hD
  refine lv_aload_n hx hb dX0_copyOf_155 rfl (lv_at hl 1 rfl) ?_
  refine va_get (D := D) (ci := 0) (v := .ref (a 6)) (C := RX0) (T := TX0) (N := 17) hx hb hw0 (fun _ h => h) hown hK hP 8 rfl rfl 15 (by decide) k27 (fun _ h9 => h9) rfl dX0_copyOf_156 ?_
  refine lv_iconst (v := 0) hx hb dX0_copyOf_159 (by decide) ?_
  refine lv_aload_n hx hb dX0_copyOf_160 rfl (lv_at hl 0 rfl) ?_
  refine va_get (D := D) (ci := 0) (v := .ref (b 6)) (C := RX0) (T := TX0) (N := 17) hx hb hw0 (fun _ h => h) hown hK hP 0 rfl rfl 15 (by decide) k27 (fun _ h9 => h9) rfl dX0_copyOf_161 ?_
  refine lv_iconst (v := 0) hx hb dX0_copyOf_164 (by decide) ?_
  refine lv_bipush (v := 100) hx hb dX0_copyOf_165 (by decide) ?_
  refine va_copyi hx hb (hml.trans hl.1.symm) hown (hts (.methodLink RX0 74 arraycopyName) (by decide +kernel)) (hts (.native arraycopyName) (by decide +kernel)) (hts (.static arraycopyName) (by decide +kernel)) (hts (.initialized "java/lang/System") (by decide +kernel)) hK hP hD hS 14 6 0 0 rfl rfl rfl rfl rfl (by decide) (by decide) (by decide) (by decide) (by decide) (fun _ _ => rfl) (Nat.le_of_ble_eq_true rfl) (by decide +kernel) dX0_copyOf_167 (fun H locs hP hD hS => ?_)
  have hP : va_P D vwCl (DC cI b (upd (upd (upd (upd (upd (upd (upd (upd (upd (upd f2 0 (f 0)) 1 (f 1)) 2 (f 2)) 3 (f 3)) 4 (f 4)) 5 (f 5)) 6 (f 6)) 7 (f 7)) 8 (f 8)) 9 (f 9)) (va_up (va_up (va_up (va_up (va_up (va_up r2 0 (va_cpy (r 0) (r2 0) 0 0 10)) 1 (va_cpy (r 1) (r2 1) 0 0 10)) 2 (va_cpy (r 2) (r2 2) 0 0 10)) 3 (va_cpy (r 3) (r2 3) 0 0 10)) 4 (va_cpy (r 4) (r2 4) 0 0 100)) 5 (va_cpy (r 5) (r2 5) 0 0 100)) ++ DC cI a f r) H := hP
  have hD : va_D A (DC cI b (upd (upd (upd (upd (upd (upd (upd (upd (upd (upd f2 0 (f 0)) 1 (f 1)) 2 (f 2)) 3 (f 3)) 4 (f 4)) 5 (f 5)) 6 (f 6)) 7 (f 7)) 8 (f 8)) 9 (f 9)) (va_up (va_up (va_up (va_up (va_up (va_up r2 0 (va_cpy (r 0) (r2 0) 0 0 10)) 1 (va_cpy (r 1) (r2 1) 0 0 10)) 2 (va_cpy (r 2) (r2 2) 0 0 10)) 3 (va_cpy (r 3) (r2 3) 0 0 10)) 4 (va_cpy (r 4) (r2 4) 0 0 100)) 5 (va_cpy (r 5) (r2 5) 0 0 100)) ++ DC cI a f r) := hD
  refine lv_aload_n hx hb dX0_copyOf_170 rfl (lv_at hl 1 rfl) ?_
  refine va_get (D := D) (ci := 0) (v := .ref (a 7)) (C := RX0) (T := TX0) (N := 17) hx hb hw0 (fun _ h => h) hown hK hP 8 rfl rfl 16 (by decide) k30 (fun _ h9 => h9) rfl dX0_copyOf_171 ?_
  refine lv_iconst (v := 0) hx hb dX0_copyOf_174 (by decide) ?_
  refine lv_aload_n hx hb dX0_copyOf_175 rfl (lv_at hl 0 rfl) ?_
  refine va_get (D := D) (ci := 0) (v := .ref (b 7)) (C := RX0) (T := TX0) (N := 17) hx hb hw0 (fun _ h => h) hown hK hP 0 rfl rfl 16 (by decide) k30 (fun _ h9 => h9) rfl dX0_copyOf_176 ?_
  refine lv_iconst (v := 0) hx hb dX0_copyOf_179 (by decide) ?_
  refine lv_bipush (v := 100) hx hb dX0_copyOf_180 (by decide) ?_
  refine va_copyi hx hb (hml.trans hl.1.symm) hown (hts (.methodLink RX0 74 arraycopyName) (by decide +kernel)) (hts (.native arraycopyName) (by decide +kernel)) (hts (.static arraycopyName) (by decide +kernel)) (hts (.initialized "java/lang/System") (by decide +kernel)) hK hP hD hS 15 7 0 0 rfl rfl rfl rfl rfl (by decide) (by decide) (by decide) (by decide) (by decide) (fun _ _ => rfl) (Nat.le_of_ble_eq_true rfl) (by decide +kernel) dX0_copyOf_182 (fun H locs hP hD hS => ?_)
  have hP : va_P D vwCl (DC cI b (upd (upd (upd (upd (upd (upd (upd (upd (upd (upd f2 0 (f 0)) 1 (f 1)) 2 (f 2)) 3 (f 3)) 4 (f 4)) 5 (f 5)) 6 (f 6)) 7 (f 7)) 8 (f 8)) 9 (f 9)) (va_up (va_up (va_up (va_up (va_up (va_up (va_up r2 0 (va_cpy (r 0) (r2 0) 0 0 10)) 1 (va_cpy (r 1) (r2 1) 0 0 10)) 2 (va_cpy (r 2) (r2 2) 0 0 10)) 3 (va_cpy (r 3) (r2 3) 0 0 10)) 4 (va_cpy (r 4) (r2 4) 0 0 100)) 5 (va_cpy (r 5) (r2 5) 0 0 100)) 6 (va_cpy (r 6) (r2 6) 0 0 100)) ++ DC cI a f r) H := hP
  have hD : va_D A (DC cI b (upd (upd (upd (upd (upd (upd (upd (upd (upd (upd f2 0 (f 0)) 1 (f 1)) 2 (f 2)) 3 (f 3)) 4 (f 4)) 5 (f 5)) 6 (f 6)) 7 (f 7)) 8 (f 8)) 9 (f 9)) (va_up (va_up (va_up (va_up (va_up (va_up (va_up r2 0 (va_cpy (r 0) (r2 0) 0 0 10)) 1 (va_cpy (r 1) (r2 1) 0 0 10)) 2 (va_cpy (r 2) (r2 2) 0 0 10)) 3 (va_cpy (r 3) (r2 3) 0 0 10)) 4 (va_cpy (r 4) (r2 4) 0 0 100)) 5 (va_cpy (r 5) (r2 5) 0 0 100)) 6 (va_cpy (r 6) (r2 6) 0 0 100)) ++ DC cI a f r) := hD
  have eq9 : wEq D (DC cI b f (va_up (va_up (va_up (va_up (va_up (va_up (va_up r2 0 (va_cpy (r 0) (r2 0) 0 0 10)) 1 (va_cpy (r 1) (r2 1) 0 0 10)) 2 (va_cpy (r 2) (r2 2) 0 0 10)) 3 (va_cpy (r 3) (r2 3) 0 0 10)) 4 (va_cpy (r 4) (r2 4) 0 0 100)) 5 (va_cpy (r 5) (r2 5) 0 0 100)) 6 (va_cpy (r 6) (r2 6) 0 0 100)) ++ DC cI a f r) (DC cI b f r ++ DC cI a f r) := wEq.cons (fun _ h => h) (wEq.row (fun j hj => wCpy hj) (wEq.row (fun j hj => wCpy hj) (wEq.row (fun j hj => wCpy hj) (wEq.row (fun j hj => wCpy hj) (wEq.row (fun j hj => wCpy hj) (wEq.row (fun j hj => wCpy hj) (wEq.row (fun j hj => wCpy hj) (wEq.rf))))))))
  have hP := eq9.P hP
  have hD := eq9.D hD
  exact wRv hQ hx hb hr hlocks hP hD hS dX0_copyOf_185 () (trivial) rfl
end
section
/-! The reference's steps, as functions of its row now (nw). -/
abbrev mS : Type := (Nat → Int32) × Int32
def mIn (v lo hi : Int32) : Int32 := if lo ≤ v then (if v ≤ hi then 1 else 0) else 0
def mSum (nw : Nat → Int32) : Nat → Int32
  | 0 => nw 4
  | i + 1 => mSum nw i + nw (38 + i)
def mRate (gu : Int32) (nw : Nat → Int32) (n : Nat) : Int32 := if 0 < 10 - (if 0 ≤ mSum nw n / gu - 4 then mSum nw n / gu - 4 else 0 - (mSum nw n / gu - 4)) then 10 - (if 0 ≤ mSum nw n / gu - 4 then mSum nw n / gu - 4 else 0 - (mSum nw n / gu - 4)) else 0
/-- a row with x more, or x less, at a place -/
def mAdd (nw : Nat → Int32) (j : Nat) (x : Int32) : Nat → Int32 := upd nw j (nw j + x)
def mSub (nw : Nat → Int32) (j : Nat) (x : Int32) : Nat → Int32 := upd nw j (nw j - x)
def mTlk (nw : Nat → Int32) (q : Nat) : Nat → Int32 := mSub (mAdd (upd nw 3 0) (8 + q) 1) 2 1
def mTalk (li : Int32) (nw : Nat → Int32) : Nat → Int32 :=
  if nw 1 = -1 then
    if mAdd nw 3 1 3 - mAdd nw 3 1 3 / li * li = 0 then mAdd (mAdd nw 3 1) 4 1 else mAdd nw 3 1
  else if mTlk nw (dN (nw 1)) 2 = 0 then upd (mTlk nw (dN (nw 1))) 1 (-1) else mTlk nw (dN (nw 1))
def mArr (nw : Nat → Int32) (x y : Nat) : Nat → Int32 :=
  if 0 < nw (148 + (10 * y + x)) then mAdd (mAdd (mAdd (upd (upd (upd nw (148 + (10 * x + y)) 0) (148 + (10 * y + x)) 0) (48 + (10 * y + x)) 0) (38 + x) 3) (38 + y) 3) 5 1
  else if upd nw (148 + (10 * x + y)) 0 1 = nI y then mAdd (upd nw (148 + (10 * x + y)) 0) 6 1
  else mAdd (mAdd (upd nw (148 + (10 * x + y)) 0) (248 + (10 * x + y)) 1) (38 + x) 1
def mEnd (nw : Nat → Int32) (mk en : Int32) (x y : Nat) : Int32 :=
  if mk = nI (10 * x + y) then (if 0 < nw (148 + (10 * y + x)) then 3 else if upd nw (148 + (10 * x + y)) 0 1 = nI y then 0 else 1)
  else if 0 < nw (148 + (10 * y + x)) then (if mk = nI (10 * y + x) then 3 else en) else en
def mDec (nw : Nat → Int32) : Nat → (Nat → Int32)
  | 0 => nw
  | i + 1 => if 0 < mDec nw i (148 + i) then mSub (mDec nw i) (48 + i) 1 else mDec nw i
def mScan (nw : Nat → Int32) : Nat → Int32
  | 0 => -1
  | i + 1 => if 0 < nw (148 + i) then (if nw (48 + i) = 0 then (if mScan nw i = -1 then nI i else if nw (148 + i) < nw (148 + dN (mScan nw i)) then nI i else mScan nw i) else mScan nw i) else mScan nw i
def mCnt (nw : Nat → Int32) : Nat → Nat
  | 0 => 0
  | i + 1 => mCnt nw i + if 0 < nw (148 + i) then 1 else 0
def mStep (mk : Int32) (s : mS) : mS := (mArr s.1 (dN (mScan s.1 100) / 10) (dN (mScan s.1 100) % 10), mEnd s.1 mk s.2 (dN (mScan s.1 100) / 10) (dN (mScan s.1 100) % 10))
def mLoop (mk : Int32) : Nat → mS → mS
  | 0, s => s
  | j + 1, s => if mScan s.1 100 = -1 then s else mLoop mk j (mStep mk s)
/-- locked: nothing unfolds it but its theorem -/
theorem mFly_ex (mk : Int32) (s : mS) : ∃ u : mS, u = mLoop mk 101 (mDec s.1 100, s.2) := ⟨_, rfl⟩
noncomputable def mFly (mk : Int32) (s : mS) : mS := Classical.choose (mFly_ex mk s)
theorem mFly_eq (mk : Int32) (s : mS) : mFly mk s = mLoop mk 101 (mDec s.1 100, s.2) := Classical.choose_spec (mFly_ex mk s)
noncomputable def mSec (mk li : Int32) (s : mS) : mS := (mAdd (mFly mk (mTalk li s.1, s.2)).1 0 1, (mFly mk (mTalk li s.1, s.2)).2)
noncomputable def mSecs (mk li : Int32) (s : mS) : Nat → mS
  | 0 => s
  | k + 1 => mSec mk li (mSecs mk li s k)
def mSend (gu : Int32) (nw : Nat → Int32) (x y : Nat) : Nat → Int32 := upd (upd (mAdd nw 7 1) (148 + (10 * x + y)) (mAdd nw 7 1 7)) (48 + (10 * x + y)) (2 * dSeats gu (nI x) (nI y))
theorem mScan_sp (nw : Nat → Int32) : ∀ i, i ≤ 2 ^ 20 → (mScan nw i = -1 ∧ ∀ p, p < i → ¬ (0 < nw (148 + p) ∧ nw (48 + p) = 0)) ∨ ∃ q, q < i ∧ mScan nw i = nI q ∧ (0 < nw (148 + q) ∧ nw (48 + q) = 0) ∧ ∀ p, p < i → 0 < nw (148 + p) → nw (48 + p) = 0 → nw (148 + q) ≤ nw (148 + p)
  | 0, _ => Or.inl ⟨rfl, fun p h => absurd h (Nat.not_lt_zero p)⟩
  | i + 1, hi => by
    have ih := mScan_sp nw i (by omega)
    have key : ∀ (h : ¬ (0 < nw (148 + i) ∧ nw (48 + i) = 0)), mScan nw (i + 1) = mScan nw i := by
      intro h
      by_cases h1 : 0 < nw (148 + i)
      · rw [mScan, if_pos h1, if_neg (fun h2 => h ⟨h1, h2⟩)]
      · rw [mScan, if_neg h1]
    by_cases h : 0 < nw (148 + i) ∧ nw (48 + i) = 0
    · rcases ih with ⟨a1, a2⟩ | ⟨q, q1, q2, q3, q4⟩
      · refine Or.inr ⟨i, by omega, ?_, h, fun p hp g1 g2 => ?_⟩
        · unfold mScan
          rw [if_pos h.1, if_pos h.2, if_pos a1]
        · by_cases e : p = i
          · rw [e]
            exact Int32.le_refl _
          · exact absurd ⟨g1, g2⟩ (a2 p (by omega))
      · have hne : ¬ nI q = -1 := by
          intro e
          have := congrArg Int32.toInt e
          rw [nI_toInt (by omega)] at this
          have e2 : (-1 : Int32).toInt = -1 := by decide
          omega
        have e0 : mScan nw (i + 1) = if nw (148 + i) < nw (148 + q) then nI i else nI q := by
          rw [mScan, if_pos h.1, if_pos h.2, q2, if_neg hne, dN_nI (by omega)]
        by_cases hlt : nw (148 + i) < nw (148 + q)
        · refine Or.inr ⟨i, by omega, by rw [e0, if_pos hlt], h, fun p hp g1 g2 => ?_⟩
          by_cases e : p = i
          · rw [e]
            exact Int32.le_refl _
          · exact Int32.le_trans (Int32.le_of_lt hlt) (q4 p (by omega) g1 g2)
        · refine Or.inr ⟨q, by omega, by rw [e0, if_neg hlt], q3, fun p hp g1 g2 => ?_⟩
          by_cases e : p = i
          · rw [e]
            exact Int32.not_lt.mp hlt
          · exact q4 p (by omega) g1 g2
    · rw [key h]
      rcases ih with ⟨a1, a2⟩ | ⟨q, q1, q2, q3, q4⟩
      · refine Or.inl ⟨a1, fun p hp => ?_⟩
        by_cases e : p = i
        · rw [e]
          exact h
        · exact a2 p (by omega)
      · refine Or.inr ⟨q, by omega, q2, q3, fun p hp g1 g2 => ?_⟩
        by_cases e : p = i
        · rw [e] at g1 g2
          exact absurd ⟨g1, g2⟩ h
        · exact q4 p (by omega) g1 g2
theorem nI_m1 {q : Nat} (h : q < 2 ^ 31) : ¬ nI q = -1 := by
  intro e
  have := congrArg Int32.toInt e
  rw [nI_toInt h] at this
  have e2 : (-1 : Int32).toInt = -1 := by decide
  omega
/-- at the head of the while: something arrives -/
theorem mScan_in {nw : Nat → Int32} (h : ¬ mScan nw 100 = -1) : ∃ q, q < 100 ∧ mScan nw 100 = nI q ∧ 0 < nw (148 + q) ∧ nw (48 + q) = 0 := by
  rcases mScan_sp nw 100 (by decide) with ⟨a, -⟩ | ⟨q, q1, q2, q3, -⟩
  · exact absurd a h
  · exact ⟨q, q1, q2, q3⟩
theorem mScan_lt (nw : Nat → Int32) {i : Nat} (hi : i ≤ 100) (h : ¬ mScan nw i = -1) : ∃ q, q < 100 ∧ mScan nw i = nI q := by
  rcases mScan_sp nw i (by omega) with ⟨a, -⟩ | ⟨q, q1, q2, -⟩
  · exact absurd a h
  · exact ⟨q, by omega, q2⟩
theorem mCnt_le {u v : Nat → Int32} (h : ∀ p, 0 < u (148 + p) → 0 < v (148 + p)) : ∀ i, mCnt u i ≤ mCnt v i
  | 0 => Nat.le_refl 0
  | i + 1 => by
    have ih := mCnt_le h i
    unfold mCnt
    by_cases h1 : 0 < u (148 + i)
    · rw [if_pos h1, if_pos (h i h1)]
      omega
    · rw [if_neg h1]
      omega
theorem mCnt_lt {u v : Nat → Int32} (h : ∀ p, 0 < u (148 + p) → 0 < v (148 + p)) {q : Nat} (h1 : ¬ 0 < u (148 + q)) (h2 : 0 < v (148 + q)) : ∀ i, q < i → mCnt u i < mCnt v i
  | 0, hq => absurd hq (Nat.not_lt_zero q)
  | i + 1, hq => by
    unfold mCnt
    by_cases e : q = i
    · subst e
      have := mCnt_le h q
      rw [if_neg h1, if_pos h2]
      omega
    · have ih := mCnt_lt h h1 h2 i (by omega)
      by_cases h3 : 0 < u (148 + i)
      · rw [if_pos h3, if_pos (h i h3)]
        omega
      · rw [if_neg h3]
        omega
theorem mCnt_100 (u : Nat → Int32) : ∀ i, mCnt u i ≤ i
  | 0 => Nat.le_refl 0
  | i + 1 => by
    have := mCnt_100 u i
    unfold mCnt
    split <;> omega
theorem mUp {f : Nat → Int32} {k j : Nat} {x : Int32} (h : j ≠ k) : upd f k x j = f j := pk_un h
theorem mUs {f : Nat → Int32} {k : Nat} {x : Int32} : upd f k x k = x := pk_us
theorem mAp {f : Nat → Int32} {k j : Nat} {x : Int32} (h : j ≠ k) : mAdd f k x j = f j := pk_un h
theorem mSp {f : Nat → Int32} {k j : Nat} {x : Int32} (h : j ≠ k) : mSub f k x j = f j := pk_un h
theorem mSs {f : Nat → Int32} {k : Nat} {x : Int32} : mSub f k x k = f k - x := pk_us
theorem mAs {f : Nat → Int32} {k : Nat} {x : Int32} : mAdd f k x k = f k + x := pk_us
/-- the stamps behind an arrival -/
theorem mArr_st (nw : Nat → Int32) {x y : Nat} (hx : x < 10) (hy : y < 10) (p : Nat) (hp : p < 100) : mArr nw x y (148 + p) = if p = 10 * x + y then 0 else if p = 10 * y + x ∧ 0 < nw (148 + (10 * y + x)) then 0 else nw (148 + p) := by
  unfold mArr
  by_cases hm : 0 < nw (148 + (10 * y + x))
  · rw [if_pos hm, mAp (by omega), mAp (by omega), mAp (by omega), mUp (by omega)]
    by_cases e : p = 10 * y + x
    · subst e
      rw [mUs]
      split
      · rfl
      · rw [if_pos ⟨rfl, hm⟩]
    · rw [mUp (by omega)]
      by_cases e2 : p = 10 * x + y
      · subst e2
        rw [mUs, if_pos rfl]
      · rw [mUp (by omega), if_neg e2, if_neg (fun h => e h.1)]
  · rw [if_neg hm]
    have k : upd nw (148 + (10 * x + y)) 0 (148 + p) = if p = 10 * x + y then 0 else if p = 10 * y + x ∧ 0 < nw (148 + (10 * y + x)) then 0 else nw (148 + p) := by
      by_cases e2 : p = 10 * x + y
      · subst e2
        rw [mUs, if_pos rfl]
      · rw [mUp (by omega), if_neg e2, if_neg (fun h => hm h.2)]
    split
    · rw [mAp (by omega)]
      exact k
    · rw [mAp (by omega), mAp (by omega)]
      exact k
theorem mCnt_cg {u v : Nat → Int32} : ∀ i, (∀ p, p < i → (0 < u (148 + p) → 0 < v (148 + p))) → mCnt u i ≤ mCnt v i
  | 0, _ => Nat.le_refl 0
  | i + 1, h => by
    have ih := mCnt_cg (u := u) (v := v) i (fun p hp => h p (by omega))
    unfold mCnt
    by_cases h1 : 0 < u (148 + i)
    · rw [if_pos h1, if_pos (h i (by omega) h1)]
      omega
    · rw [if_neg h1]
      omega
theorem mCnt_cs {u v : Nat → Int32} {q : Nat} (h1 : ¬ 0 < u (148 + q)) (h2 : 0 < v (148 + q)) : ∀ i, q < i → (∀ p, p < i → (0 < u (148 + p) → 0 < v (148 + p))) → mCnt u i < mCnt v i
  | 0, hq, _ => absurd hq (Nat.not_lt_zero q)
  | i + 1, hq, h => by
    unfold mCnt
    by_cases e : q = i
    · subst e
      have := mCnt_cg (u := u) (v := v) q (fun p hp => h p (by omega))
      rw [if_neg h1, if_pos h2]
      omega
    · have ih := mCnt_cs h1 h2 i (by omega) (fun p hp => h p (by omega))
      by_cases h3 : 0 < u (148 + i)
      · rw [if_pos h3, if_pos (h i (by omega) h3)]
        omega
      · rw [if_neg h3]
        omega
/-- an arrival ends one glance at least -/
theorem mArr_cnt {nw : Nat → Int32} {q : Nat} (hq : q < 100) (h : 0 < nw (148 + q)) : mCnt (mArr nw (q / 10) (q % 10)) 100 < mCnt nw 100 := by
  have e : 10 * (q / 10) + q % 10 = q := by omega
  refine mCnt_cs (q := q) ?_ h 100 hq (fun p hp hu => ?_)
  · rw [mArr_st nw (by omega) (by omega) q hq, if_pos e.symm]
    decide
  · rw [mArr_st nw (by omega) (by omega) p hp] at hu
    split at hu
    · exact absurd hu (by decide)
    · split at hu
      · exact absurd hu (by decide)
      · exact hu
theorem mInT {k lo hi : Nat} (h1 : lo ≤ k) (h2 : k ≤ hi) (h3 : hi < 2 ^ 31) : ¬ mIn (nI k) (nI lo) (nI hi) = 0 := by
  unfold mIn
  rw [if_pos (nI_le h1 (by omega)), if_pos (nI_le h2 h3)]
  decide
theorem mInF {x lo hi : Int32} (h : ¬ (lo ≤ x ∧ x ≤ hi)) : mIn x lo hi = 0 := by
  unfold mIn
  by_cases h1 : lo ≤ x
  · rw [if_pos h1, if_neg (fun h2 => h ⟨h1, h2⟩)]
  · rw [if_neg h1]
theorem mIn_z (x lo hi : Int32) : narrow .boolean (.int (mIn x lo hi)) = .int (mIn x lo hi) := by
  unfold mIn
  split
  · split <;> rfl
  · rfl
theorem nI_m1' {g : Nat} (h : 0 < g) : nI g - 1 = nI (g - 1) := by
  have e := nI_pred (g - 1)
  rw [show g - 1 + 1 = g by omega] at e
  exact e
theorem mGT {gu : Int32} {gg k : Nat} (hg : gu = nI gg) (h : k < gg) (hgg : gg ≤ 10) : ¬ mIn (nI k) 0 (gu - 1) = 0 := by
  rw [hg, nI_m1' (by omega)]
  exact mInT (lo := 0) (Nat.zero_le k) (by omega) (by omega)
theorem mGF {gu x : Int32} {gg : Nat} (hg : gu = nI gg) (h0 : 0 < gg) (hgg : gg ≤ 10) (h : ¬ (0 ≤ x ∧ x < nI gg)) : mIn x 0 (gu - 1) = 0 := by
  refine mInF (fun hh => h ⟨hh.1, ?_⟩)
  have h2 := hh.2
  rw [hg, nI_m1' h0] at h2
  exact Int32.lt_of_le_of_lt h2 (nI_lt (by omega) (by omega))
/-- under way: how many -/
def mWay (nw : Nat → Int32) : Nat → Int32
  | 0 => 0
  | i + 1 => mWay nw i + if 0 < nw (148 + i) then 1 else 0
def mQuiet (nw : Nat → Int32) : Nat → Nat
  | 0 => 0
  | i + 1 => if nw (38 + mQuiet nw i) < nw (38 + (i + 1)) then i + 1 else mQuiet nw i
theorem mQuiet_le (nw : Nat → Int32) : ∀ i, mQuiet nw i ≤ i
  | 0 => Nat.le_refl 0
  | i + 1 => by
    have := mQuiet_le nw i
    unfold mQuiet
    split <;> omega
def mCode (nw : Nat → Int32) (x y : Nat) : Int32 := if nI x = nI y then 2 else if 0 < nw (148 + (10 * x + y)) then 3 else 0
/-- a second leaves nobody at a wrong place -/
def mOk (nw : Nat → Int32) : Prop := nw 1 = -1 ∨ ∃ q, q < 10 ∧ nw 1 = nI q
end
section
abbrev rmX2_isIn : Room := { frames := 0, cells := 0, slots := 0, locals := 0 }
set_option maxRecDepth 100000 in
set_option maxHeartbeats 4000000 in
/-- isIn -/
theorem mX2_isIn (l : Launch) (D : va_G) (cI : ClassId) (x lo hi : Int32) (sz : Nat) : wCt l yX2_isIn wsX2_isIn rmX2_isIn D [(cI, .int)] [.int x, .int lo, .int hi] (([] : va_W)) sz 0 0 (wQi D (fun v (_ : Unit) => v = mIn x lo hi) (fun _ : Unit => ([] : va_W))) := by
  refine wMet cX2_isIn 3 (some .boolean) (by decide) rfl (Nat.le_of_ble_eq_true rfl) ?_
  intro p e s m args below meth c A Q ls hQ hx hb hr hml hown hlocks hin hts hN hP hK hD hA hS hl
  have hl : lv_has ls 3 [(0, .int x), (1, .int lo), (2, .int hi)] := hl
  have hown : s.vm.findClass RX2 = some m.cls := hown
  refine lv_iload_n hx hb dX2_isIn_0 rfl (lv_at hl 0 rfl) ?_
  refine lv_iload_n hx hb dX2_isIn_1 rfl (lv_at hl 1 rfl) ?_
  refine lv_icmp_lt (tgt := 14) hx hb dX2_isIn_2 (by decide) (fun c_2 => ?_) (fun c_2 => ?_)
  · refine lv_iconst (v := 0) hx hb dX2_isIn_14 (by decide) ?_
    exact wRz hQ hx hb hr hlocks hP hD hS dX2_isIn_15 (rfl) () ((mInF (fun h => absurd h.1 (Int32.not_le.mpr c_2))).symm) rfl
  · refine lv_iload_n hx hb dX2_isIn_5 rfl (lv_at hl 0 rfl) ?_
    refine lv_iload_n hx hb dX2_isIn_6 rfl (lv_at hl 2 rfl) ?_
    refine lv_icmp_gt (tgt := 14) hx hb dX2_isIn_7 (by decide) (fun c_7 => ?_) (fun c_7 => ?_)
    · refine lv_iconst (v := 0) hx hb dX2_isIn_14 (by decide) ?_
      exact wRz hQ hx hb hr hlocks hP hD hS dX2_isIn_15 (rfl) () ((mInF (fun h => absurd h.2 (Int32.not_le.mpr c_7))).symm) rfl
    · refine lv_iconst (v := 1) hx hb dX2_isIn_10 (by decide) ?_
      refine lv_goto (tgt := 15) hx hb dX2_isIn_11 (by decide) ?_
      exact wRz hQ hx hb hr hlocks hP hD hS dX2_isIn_15 (rfl) () (show (1 : Int32) = mIn x lo hi by unfold mIn; rw [if_pos (Int32.not_lt.mp c_2), if_pos (Int32.not_lt.mp c_7)]) rfl
abbrev rmX2_pair : Room := { frames := 0, cells := 0, slots := 0, locals := 0 }
set_option maxRecDepth 100000 in
set_option maxHeartbeats 4000000 in
/-- pair -/
theorem mX2_pair (l : Launch) (D : va_G) (cI : ClassId) (x y : Nat) (sz : Nat) : wCt l yX2_pair wsX2_pair rmX2_pair D [(cI, .int)] [.int (nI x), .int (nI y)] (([] : va_W)) sz 0 0 (wQi D (fun v (_ : Unit) => v = nI (10 * x + y)) (fun _ : Unit => ([] : va_W))) := by
  refine wMet cX2_pair 2 (some .int) (by decide) rfl (Nat.le_of_ble_eq_true rfl) ?_
  intro p e s m args below meth c A Q ls hQ hx hb hr hml hown hlocks hin hts hN hP hK hD hA hS hl
  have hl : lv_has ls 2 [(0, .int (nI x)), (1, .int (nI y))] := hl
  have hown : s.vm.findClass RX2 = some m.cls := hown
  refine lv_bipush (v := 10) hx hb dX2_pair_0 (by decide) ?_
  refine lv_iload_n hx hb dX2_pair_2 rfl (lv_at hl 0 rfl) ?_
  refine lv_imul hx hb dX2_pair_3 ?_
  refine wTop (z := nI (10 * x)) (pk_mul 10 x) ?_
  refine lv_iload_n hx hb dX2_pair_4 rfl (lv_at hl 1 rfl) ?_
  refine lv_iadd hx hb dX2_pair_5 ?_
  refine wTop (z := nI ((10 * x) + y)) (nI_add (10 * x) y) ?_
  exact wRi hQ hx hb hr hlocks hP hD hS dX2_pair_6 () (rfl) rfl
abbrev rmX2_thrown : Room := { frames := 0, cells := 0, slots := 0, locals := 0 }
set_option maxRecDepth 100000 in
set_option maxHeartbeats 4000000 in
theorem mX2_thrown (l : Launch) (D : va_G) (cI : ClassId) (b : Nat → Nat) (g nw kp : Nat → Int32) (sz : Nat) : wCt l yX2_thrown wsX2_thrown rmX2_thrown D [(cI, .int)] [.ref (b 0)] (MC cI b g nw kp) sz 0 0 (wQi D (fun v (_ : Unit) => v = g 0) (fun _ : Unit => MC cI b g nw kp)) := by
  refine wMet cX2_thrown 1 (some .int) (by decide) rfl (Nat.le_of_ble_eq_true rfl) ?_
  intro p e s m args below meth c A Q ls hQ hx hb hr hml hown hlocks hin hts hN hP hK hD hA hS hl
  have hl : lv_has ls 1 [(0, .ref (b 0))] := hl
  have hown : s.vm.findClass RX2 = some m.cls := hown
  have hw2 : ∀ w ∈ wsX20, w.before args s = true := fun w h => hts w (List.mem_cons_of_mem _ (List.mem_append_right _ h))
  have k26 := hts (.fieldLink RX2 26 "PauseLedgerModel" "thrown" "I") (by decide +kernel)
  refine lv_aload_n hx hb dX2_thrown_0 rfl (lv_at hl 0 rfl) ?_
  refine va_get (D := D) (ci := 2) (v := .int (g 0)) (C := RX2) (T := TX2) (N := 7) hx hb hw2 (fun _ h => h) hown hK hP 0 rfl rfl 0 (by decide) k26 (fun _ h9 => h9) rfl dX2_thrown_1 ?_
  exact wRi hQ hx hb hr hlocks hP hD hS dX2_thrown_4 () (rfl) rfl
abbrev rmX2_fail : Room := { frames := 0, cells := 0, slots := 0, locals := 0 }
set_option maxRecDepth 100000 in
set_option maxHeartbeats 4000000 in
theorem mX2_fail (l : Launch) (D : va_G) (cI : ClassId) (b : Nat → Nat) (g nw kp : Nat → Int32) (x : Int32) (sz : Nat) : wCt l yX2_fail wsX2_fail rmX2_fail D [(cI, .int)] [.ref (b 0), .int x] (MC cI b g nw kp) sz 0 0 (wQi D (fun v (_ : Unit) => v = 0) (fun _ : Unit => MC cI b (upd g 0 x) nw kp)) := by
  refine wMet cX2_fail 2 (some .int) (by decide) rfl (Nat.le_of_ble_eq_true rfl) ?_
  intro p e s m args below meth c A Q ls hQ hx hb hr hml hown hlocks hin hts hN hP hK hD hA hS hl
  have hl : lv_has ls 2 [(0, .ref (b 0)), (1, .int x)] := hl
  have hown : s.vm.findClass RX2 = some m.cls := hown
  have hw2 : ∀ w ∈ wsX20, w.before args s = true := fun w h => hts w (List.mem_cons_of_mem _ (List.mem_append_right _ h))
  have k26 := hts (.fieldLink RX2 26 "PauseLedgerModel" "thrown" "I") (by decide +kernel)
  refine lv_aload_n hx hb dX2_fail_0 rfl (lv_at hl 0 rfl) ?_
  refine lv_iload_n hx hb dX2_fail_1 rfl (lv_at hl 1 rfl) ?_
  refine va_put (D := D) (ci := 2) (v := .int x) (ty := .int) (C := RX2) (T := TX2) (N := 7) hx hb hw2 (fun _ h => h) tyX2 tyX2_ok nmX2 hown hK hP hD hS 0 rfl rfl 0 (by decide) k26 (fun _ h9 => h9) rfl (by decide +kernel) rfl rfl (Nat.le_of_ble_eq_true rfl) dX2_fail_2 (fun H locs hP hD hS => ?_)
  have hP : va_P D vwCl (MC cI b (upd g 0 x) nw kp) H := hP
  have hD : va_D A (MC cI b (upd g 0 x) nw kp) := hD
  refine lv_iconst (v := 0) hx hb dX2_fail_5 (by decide) ?_
  exact wRi hQ hx hb hr hlocks hP hD hS dX2_fail_6 () (rfl) rfl
abbrev rmX2_told : Room := { frames := 0, cells := 0, slots := 0, locals := 0 }
set_option maxRecDepth 100000 in
set_option maxHeartbeats 4000000 in
theorem mX2_told (l : Launch) (D : va_G) (cI : ClassId) (b : Nat → Nat) (g nw kp : Nat → Int32) (x : Int32) (sz : Nat) : wCt l yX2_told wsX2_told rmX2_told D [(cI, .int)] [.ref (b 0), .int x] (MC cI b g nw kp) sz 0 0 (wQi D (fun v (_ : Unit) => v = x) (fun _ : Unit => MC cI b (upd g 0 0) nw kp)) := by
  refine wMet cX2_told 2 (some .int) (by decide) rfl (Nat.le_of_ble_eq_true rfl) ?_
  intro p e s m args below meth c A Q ls hQ hx hb hr hml hown hlocks hin hts hN hP hK hD hA hS hl
  have hl : lv_has ls 2 [(0, .ref (b 0)), (1, .int x)] := hl
  have hown : s.vm.findClass RX2 = some m.cls := hown
  have hw2 : ∀ w ∈ wsX20, w.before args s = true := fun w h => hts w (List.mem_cons_of_mem _ (List.mem_append_right _ h))
  have k26 := hts (.fieldLink RX2 26 "PauseLedgerModel" "thrown" "I") (by decide +kernel)
  refine lv_aload_n hx hb dX2_told_0 rfl (lv_at hl 0 rfl) ?_
  refine lv_iconst (v := 0) hx hb dX2_told_1 (by decide) ?_
  refine va_put (D := D) (ci := 2) (v := .int 0) (ty := .int) (C := RX2) (T := TX2) (N := 7) hx hb hw2 (fun _ h => h) tyX2 tyX2_ok nmX2 hown hK hP hD hS 0 rfl rfl 0 (by decide) k26 (fun _ h9 => h9) rfl (by decide +kernel) rfl rfl (Nat.le_of_ble_eq_true rfl) dX2_told_2 (fun H locs hP hD hS => ?_)
  have hP : va_P D vwCl (MC cI b (upd g 0 0) nw kp) H := hP
  have hD : va_D A (MC cI b (upd g 0 0) nw kp) := hD
  refine lv_iload_n hx hb dX2_told_5 rfl (lv_at hl 1 rfl) ?_
  exact wRi hQ hx hb hr hlocks hP hD hS dX2_told_6 () (rfl) rfl
abbrev rmX2_isGuest : Room := { frames := 1, cells := 0, slots := 0, locals := 22 }
set_option maxRecDepth 100000 in
set_option maxHeartbeats 4000000 in
theorem mX2_isGuest (l : Launch) (D : va_G) (cI : ClassId) (b : Nat → Nat) (g nw kp : Nat → Int32) (x : Int32) (sz : Nat) : wCt l yX2_isGuest wsX2_isGuest rmX2_isGuest D [(cI, .int)] [.ref (b 0), .int x] (MC cI b g nw kp) sz 0 0 (wQi D (fun v (_ : Unit) => v = mIn x 0 (g 1 - 1)) (fun _ : Unit => MC cI b g nw kp)) := by
  refine wMet cX2_isGuest 2 (some .boolean) (by decide) rfl (Nat.le_of_ble_eq_true rfl) ?_
  intro p e s m args below meth c A Q ls hQ hx hb hr hml hown hlocks hin hts hN hP hK hD hA hS hl
  have hl : lv_has ls 2 [(0, .ref (b 0)), (1, .int x)] := hl
  have hown : s.vm.findClass RX2 = some m.cls := hown
  have hw2 : ∀ w ∈ wsX20, w.before args s = true := fun w h => hts w (List.mem_cons_of_mem _ (List.mem_append_right _ h))
  have k7 := hts (.fieldLink RX2 7 "PauseLedgerModel" "guests" "I") (by decide +kernel)
  refine lv_iload_n hx hb dX2_isGuest_0 rfl (lv_at hl 1 rfl) ?_
  refine lv_iconst (v := 0) hx hb dX2_isGuest_1 (by decide) ?_
  refine lv_aload_n hx hb dX2_isGuest_2 rfl (lv_at hl 0 rfl) ?_
  refine va_get (D := D) (ci := 2) (v := .int (g 1)) (C := RX2) (T := TX2) (N := 7) hx hb hw2 (fun _ h => h) hown hK hP 0 rfl rfl 1 (by decide) k7 (fun _ h9 => h9) rfl dX2_isGuest_3 ?_
  refine lv_iconst (v := 1) hx hb dX2_isGuest_6 (by decide) ?_
  refine lv_isub hx hb dX2_isGuest_7 ?_
  refine wCSi (pre := ([] : va_W)) (Wc := ([] : va_W)) (suf := MC cI b g nw kp) (As := [.int x, .int 0, .int ((g 1) - 1)]) (rest := []) ⟨hx, hb, hml, hown, hts⟩ (mX2_isIn l D cI x 0 ((g 1) - 1) _) hN hA hK hS hP hD rfl (va_cwS 3 hts gX2_isGuest_X2_isIn rfl rfl rfl (by decide +kernel) ⟨Nat.le_of_ble_eq_true rfl, Nat.le_of_ble_eq_true rfl⟩) rfl hl.1 rfl (Nat.le_of_ble_eq_true rfl) dX2_isGuest_8 ⟨Nat.zero_le _, Nat.zero_le _⟩ (fun r_8 u_8 H locs hw hP hD hS => ?_)
  have hw : r_8 = mIn x 0 ((g 1) - 1) := hw
  subst hw
  have hP : va_P D vwCl (MC cI b g nw kp) H := hP
  have hD : va_D A (MC cI b g nw kp) := hD
  exact wRz hQ hx hb hr hlocks hP hD hS dX2_isGuest_11 (mIn_z _ _ _) () (rfl) rfl
abbrev rmX2_apart : Room := { frames := 1, cells := 0, slots := 0, locals := 21 }
set_option maxRecDepth 100000 in
set_option maxHeartbeats 4000000 in
theorem mX2_apart (l : Launch) (D : va_G) (cI : ClassId) (b : Nat → Nat) (g nw kp : Nat → Int32) (x y : Int32) (sz : Nat) : wCt l yX2_apart wsX2_apart rmX2_apart D [(cI, .int)] [.ref (b 0), .int x, .int y] (MC cI b g nw kp) sz 0 0 (wQi D (fun v (_ : Unit) => v = dSeats (g 1) x y) (fun _ : Unit => MC cI b g nw kp)) := by
  refine wMet cX2_apart 4 (some .int) (by decide) rfl (Nat.le_of_ble_eq_true rfl) ?_
  intro p e s m args below meth c A Q ls hQ hx hb hr hml hown hlocks hin hts hN hP hK hD hA hS hl
  have hl : lv_has ls 4 [(0, .ref (b 0)), (1, .int x), (2, .int y)] := hl
  have hown : s.vm.findClass RX2 = some m.cls := hown
  have hw2 : ∀ w ∈ wsX20, w.before args s = true := fun w h => hts w (List.mem_cons_of_mem _ (List.mem_append_right _ h))
  have k7 := hts (.fieldLink RX2 7 "PauseLedgerModel" "guests" "I") (by decide +kernel)
  refine lv_iload_n hx hb dX2_apart_0 rfl (lv_at hl 1 rfl) ?_
  refine lv_iload_n hx hb dX2_apart_1 rfl (lv_at hl 2 rfl) ?_
  refine lv_isub hx hb dX2_apart_2 ?_
  refine va_mabs hx hb (hml.trans hl.1.symm) hown (hts (.methodLink RX2 39 Lib.Math.abs.name) (by decide +kernel)) (hts (.static Lib.Math.abs.name) (by decide +kernel)) (hts (.initialized "java/lang/Math") (by decide +kernel)) (hts (.code Lib.Math.abs.name Lib.Math.abs.code 1 (some .int)) (by decide +kernel)) (Nat.le_of_ble_eq_true rfl) (Nat.le_of_ble_eq_true rfl) (Nat.zero_le _) (Nat.zero_le _) dX2_apart_3 ?_
  refine lv_istore_n (lv' := [(3, .int (if 0 ≤ (x - y) then (x - y) else 0 - (x - y))), (0, .ref (b 0)), (1, .int x), (2, .int y)]) hx hb dX2_apart_6 rfl hl (by decide) rfl (fun ls hl => ?_)
  refine lv_iload_n hx hb dX2_apart_7 rfl (lv_at hl 0 rfl) ?_
  refine lv_aload_n hx hb dX2_apart_8 rfl (lv_at hl 1 rfl) ?_
  refine va_get (D := D) (ci := 2) (v := .int (g 1)) (C := RX2) (T := TX2) (N := 7) hx hb hw2 (fun _ h => h) hown hK hP 0 rfl rfl 1 (by decide) k7 (fun _ h9 => h9) rfl dX2_apart_9 ?_
  refine lv_iload_n hx hb dX2_apart_12 rfl (lv_at hl 0 rfl) ?_
  refine lv_isub hx hb dX2_apart_13 ?_
  refine va_mmin hx hb (hml.trans hl.1.symm) hown (hts (.methodLink RX2 45 Lib.Math.min.name) (by decide +kernel)) (hts (.static Lib.Math.min.name) (by decide +kernel)) (hts (.initialized "java/lang/Math") (by decide +kernel)) (hts (.code Lib.Math.min.name Lib.Math.min.code 2 (some .int)) (by decide +kernel)) (Nat.le_of_ble_eq_true rfl) (Nat.le_of_ble_eq_true rfl) (Nat.zero_le _) (Nat.zero_le _) dX2_apart_14 ?_
  exact wRi hQ hx hb hr hlocks hP hD hS dX2_apart_17 () (rfl) rfl
abbrev rmX2_keep : Room := { frames := 1, cells := 0, slots := 0, locals := 60 }
set_option maxRecDepth 100000 in
set_option maxHeartbeats 4000000 in
theorem mX2_keep (l : Launch) (D : va_G) (cI : ClassId) (b : Nat → Nat) (g nw kp : Nat → Int32) (sz : Nat) : wCt l yX2_keep wsX2_keep rmX2_keep D [(cI, .int)] [.ref (b 0)] (MC cI b g nw kp) sz 0 0 (wQv D (fun _ : Unit => True) (fun _ : Unit => MC cI b g nw nw)) := by
  refine wMet cX2_keep 1 none (by decide) rfl (Nat.le_of_ble_eq_true rfl) ?_
  intro p e s m args below meth c A Q ls hQ hx hb hr hml hown hlocks hin hts hN hP hK hD hA hS hl
  have hl : lv_has ls 1 [(0, .ref (b 0))] := hl
  have hown : s.vm.findClass RX2 = some m.cls := hown
  have hw2 : ∀ w ∈ wsX20, w.before args s = true := fun w h => hts w (List.mem_cons_of_mem _ (List.mem_append_right _ h))
  have k16 := hts (.fieldLink RX2 16 "PauseLedgerModel" "now" "[I") (by decide +kernel)
  have k20 := hts (.fieldLink RX2 20 "PauseLedgerModel" "kept" "[I") (by decide +kernel)
  refine lv_aload_n hx hb dX2_keep_0 rfl (lv_at hl 0 rfl) ?_
  refine va_get (D := D) (ci := 2) (v := .ref (b 1)) (C := RX2) (T := TX2) (N := 7) hx hb hw2 (fun _ h => h) hown hK hP 0 rfl rfl 3 (by decide) k16 (fun _ h9 => h9) rfl dX2_keep_1 ?_
  refine lv_iconst (v := 0) hx hb dX2_keep_4 (by decide) ?_
  refine lv_aload_n hx hb dX2_keep_5 rfl (lv_at hl 0 rfl) ?_
  refine va_get (D := D) (ci := 2) (v := .ref (b 2)) (C := RX2) (T := TX2) (N := 7) hx hb hw2 (fun _ h => h) hown hK hP 0 rfl rfl 4 (by decide) k20 (fun _ h9 => h9) rfl dX2_keep_6 ?_
  refine lv_iconst (v := 0) hx hb dX2_keep_9 (by decide) ?_
  refine lv_sipush (v := 348) hx hb dX2_keep_10 (by decide) ?_
  refine va_copyi hx hb (hml.trans hl.1.symm) hown (hts (.methodLink RX2 33 arraycopyName) (by decide +kernel)) (hts (.native arraycopyName) (by decide +kernel)) (hts (.static arraycopyName) (by decide +kernel)) (hts (.initialized "java/lang/System") (by decide +kernel)) hK hP hD hS 1 2 0 0 rfl rfl rfl rfl rfl (by decide) (by decide) (by decide) (by decide) (by decide) (fun _ _ => rfl) (Nat.le_of_ble_eq_true rfl) (by decide +kernel) dX2_keep_13 (fun H locs hP hD hS => ?_)
  have hP : va_P D vwCl (MC cI b g nw (va_cpy nw kp 0 0 348)) H := hP
  have hD : va_D A (MC cI b g nw (va_cpy nw kp 0 0 348)) := hD
  have eq9 : wEq D (MC cI b g nw (va_cpy nw kp 0 0 348)) (MC cI b g nw nw) := wEq.cons (fun _ h => h) (wEq.row (fun _ _ => rfl) (wEq.row (fun j hj => wCpy hj) wEq.nil))
  have hP := eq9.P hP
  have hD := eq9.D hD
  exact wRv hQ hx hb hr hlocks hP hD hS dX2_keep_16 () (trivial) rfl
abbrev rmX2_bringBack : Room := { frames := 1, cells := 0, slots := 0, locals := 60 }
set_option maxRecDepth 100000 in
set_option maxHeartbeats 4000000 in
theorem mX2_bringBack (l : Launch) (D : va_G) (cI : ClassId) (b : Nat → Nat) (g nw kp : Nat → Int32) (sz : Nat) : wCt l yX2_bringBack wsX2_bringBack rmX2_bringBack D [(cI, .int)] [.ref (b 0)] (MC cI b g nw kp) sz 0 0 (wQv D (fun _ : Unit => True) (fun _ : Unit => MC cI b g kp kp)) := by
  refine wMet cX2_bringBack 1 none (by decide) rfl (Nat.le_of_ble_eq_true rfl) ?_
  intro p e s m args below meth c A Q ls hQ hx hb hr hml hown hlocks hin hts hN hP hK hD hA hS hl
  have hl : lv_has ls 1 [(0, .ref (b 0))] := hl
  have hown : s.vm.findClass RX2 = some m.cls := hown
  have hw2 : ∀ w ∈ wsX20, w.before args s = true := fun w h => hts w (List.mem_cons_of_mem _ (List.mem_append_right _ h))
  have k16 := hts (.fieldLink RX2 16 "PauseLedgerModel" "now" "[I") (by decide +kernel)
  have k20 := hts (.fieldLink RX2 20 "PauseLedgerModel" "kept" "[I") (by decide +kernel)
  refine lv_aload_n hx hb dX2_bringBack_0 rfl (lv_at hl 0 rfl) ?_
  refine va_get (D := D) (ci := 2) (v := .ref (b 2)) (C := RX2) (T := TX2) (N := 7) hx hb hw2 (fun _ h => h) hown hK hP 0 rfl rfl 4 (by decide) k20 (fun _ h9 => h9) rfl dX2_bringBack_1 ?_
  refine lv_iconst (v := 0) hx hb dX2_bringBack_4 (by decide) ?_
  refine lv_aload_n hx hb dX2_bringBack_5 rfl (lv_at hl 0 rfl) ?_
  refine va_get (D := D) (ci := 2) (v := .ref (b 1)) (C := RX2) (T := TX2) (N := 7) hx hb hw2 (fun _ h => h) hown hK hP 0 rfl rfl 3 (by decide) k16 (fun _ h9 => h9) rfl dX2_bringBack_6 ?_
  refine lv_iconst (v := 0) hx hb dX2_bringBack_9 (by decide) ?_
  refine lv_sipush (v := 348) hx hb dX2_bringBack_10 (by decide) ?_
  refine va_copyi hx hb (hml.trans hl.1.symm) hown (hts (.methodLink RX2 33 arraycopyName) (by decide +kernel)) (hts (.native arraycopyName) (by decide +kernel)) (hts (.static arraycopyName) (by decide +kernel)) (hts (.initialized "java/lang/System") (by decide +kernel)) hK hP hD hS 2 1 0 0 rfl rfl rfl rfl rfl (by decide) (by decide) (by decide) (by decide) (by decide) (fun _ _ => rfl) (Nat.le_of_ble_eq_true rfl) (by decide +kernel) dX2_bringBack_13 (fun H locs hP hD hS => ?_)
  have hP : va_P D vwCl (MC cI b g (va_cpy kp nw 0 0 348) kp) H := hP
  have hD : va_D A (MC cI b g (va_cpy kp nw 0 0 348) kp) := hD
  have eq9 : wEq D (MC cI b g (va_cpy kp nw 0 0 348) kp) (MC cI b g kp kp) := wEq.cons (fun _ h => h) (wEq.row (fun j hj => wCpy hj) (wEq.row (fun _ _ => rfl) wEq.nil))
  have hP := eq9.P hP
  have hD := eq9.D hD
  exact wRv hQ hx hb hr hlocks hP hD hS dX2_bringBack_16 () (trivial) rfl
abbrev rmX2_unsaid : Room := { frames := 0, cells := 0, slots := 0, locals := 0 }
set_option maxRecDepth 100000 in
set_option maxHeartbeats 4000000 in
theorem mX2_unsaid (l : Launch) (D : va_G) (cI : ClassId) (b : Nat → Nat) (g nw kp : Nat → Int32) (gg : Nat) (sz : Nat) (hg : g 1 = nI gg) (hg2 : gg ≤ 10) : wCt l yX2_unsaid wsX2_unsaid rmX2_unsaid D [(cI, .int)] [.ref (b 0)] (MC cI b g nw kp) sz 0 0 (wQi D (fun v (_ : Unit) => v = mSum nw gg) (fun _ : Unit => MC cI b g nw kp)) := by
  refine wMet cX2_unsaid 3 (some .int) (by decide) rfl (Nat.le_of_ble_eq_true rfl) ?_
  intro p e s m args below meth c A Q ls hQ hx hb hr hml hown hlocks hin hts hN hP hK hD hA hS hl
  have hl : lv_has ls 3 [(0, .ref (b 0))] := hl
  have hown : s.vm.findClass RX2 = some m.cls := hown
  have hw2 : ∀ w ∈ wsX20, w.before args s = true := fun w h => hts w (List.mem_cons_of_mem _ (List.mem_append_right _ h))
  have k7 := hts (.fieldLink RX2 7 "PauseLedgerModel" "guests" "I") (by decide +kernel)
  have k16 := hts (.fieldLink RX2 16 "PauseLedgerModel" "now" "[I") (by decide +kernel)
  refine lv_aload_n hx hb dX2_unsaid_0 rfl (lv_at hl 0 rfl) ?_
  refine va_get (D := D) (ci := 2) (v := .ref (b 1)) (C := RX2) (T := TX2) (N := 7) hx hb hw2 (fun _ h => h) hown hK hP 0 rfl rfl 3 (by decide) k16 (fun _ h9 => h9) rfl dX2_unsaid_1 ?_
  refine lv_iconst (v := 4) hx hb dX2_unsaid_4 (by decide) ?_
  refine wIald hx hb hK hP 1 0 rfl rfl 4 rfl (by decide) (by decide) dX2_unsaid_5 ?_
  refine lv_istore_n (lv' := [(1, .int (nw 4)), (0, .ref (b 0))]) hx hb dX2_unsaid_6 rfl hl (by decide) rfl (fun ls hl => ?_)
  refine lv_iconst (v := 0) hx hb dX2_unsaid_7 (by decide) ?_
  refine lv_istore_n (lv' := [(2, .int 0), (1, .int (nw 4)), (0, .ref (b 0))]) hx hb dX2_unsaid_8 rfl hl (by decide) rfl (fun ls hl => ?_)
  have loop9 : ∀ (j i9 : Nat), i9 + j = gg → ∀ (H : Heap) (locs : List Loc) (ls : Array Slot), va_P D vwCl (MC cI b g nw kp) H → va_D A (MC cI b g nw kp) → va_S A s.heap H locs → lv_has ls 3 [(2, .int (nI i9)), (1, .int (mSum nw i9)), (0, .ref (b 0))] → W p l e rmX2_unsaid s m args below meth c H locs 0 0 Q (F0 m 9 ls []) := by
    intro j
    induction j with
    | zero =>
      intro i9 hi9 H locs ls hP hD hS hl
      have ez : gg = i9 := by omega
      subst ez
      refine lv_iload_n hx hb dX2_unsaid_9 rfl (lv_at hl 0 rfl) ?_
      refine lv_aload_n hx hb dX2_unsaid_10 rfl (lv_at hl 2 rfl) ?_
      refine va_get (D := D) (ci := 2) (v := .int (g 1)) (C := RX2) (T := TX2) (N := 7) hx hb hw2 (fun _ h => h) hown hK hP 0 rfl rfl 1 (by decide) k7 (fun _ h9 => h9) rfl dX2_unsaid_11 ?_
      refine lv_icmp_ge (tgt := 35) hx hb dX2_unsaid_14 (by decide) (fun c_14 => ?_) (fun h9 => absurd (by rw [hg]; exact nI_le (by omega) (by omega)) h9)
      refine lv_iload_n hx hb dX2_unsaid_35 rfl (lv_at hl 1 rfl) ?_
      exact wRi hQ hx hb hr hlocks hP hD hS dX2_unsaid_36 () (rfl) rfl
    | succ j ih9 =>
      intro i9 hi9 H locs ls hP hD hS hl
      refine lv_iload_n hx hb dX2_unsaid_9 rfl (lv_at hl 0 rfl) ?_
      refine lv_aload_n hx hb dX2_unsaid_10 rfl (lv_at hl 2 rfl) ?_
      refine va_get (D := D) (ci := 2) (v := .int (g 1)) (C := RX2) (T := TX2) (N := 7) hx hb hw2 (fun _ h => h) hown hK hP 0 rfl rfl 1 (by decide) k7 (fun _ h9 => h9) rfl dX2_unsaid_11 ?_
      refine lv_icmp_ge (tgt := 35) hx hb dX2_unsaid_14 (by decide) (fun h9 => absurd h9 (by rw [hg]; exact nI_ge (by omega) (by omega))) (fun c_14 => ?_)
      refine lv_iload_n hx hb dX2_unsaid_17 rfl (lv_at hl 1 rfl) ?_
      refine lv_aload_n hx hb dX2_unsaid_18 rfl (lv_at hl 2 rfl) ?_
      refine va_get (D := D) (ci := 2) (v := .ref (b 1)) (C := RX2) (T := TX2) (N := 7) hx hb hw2 (fun _ h => h) hown hK hP 0 rfl rfl 3 (by decide) k16 (fun _ h9 => h9) rfl dX2_unsaid_19 ?_
      refine lv_bipush (v := 38) hx hb dX2_unsaid_22 (by decide) ?_
      refine lv_iload_n hx hb dX2_unsaid_24 rfl (lv_at hl 0 rfl) ?_
      refine lv_iadd hx hb dX2_unsaid_25 ?_
      refine wTop (z := nI (38 + i9)) (nI_add 38 i9) ?_
      refine wIald hx hb hK hP 1 0 rfl rfl (38 + i9) rfl (by omega) (by decide) dX2_unsaid_26 ?_
      refine lv_iadd hx hb dX2_unsaid_27 ?_
      refine lv_istore_n (lv' := [(1, .int ((mSum nw i9) + (nw (38 + i9)))), (2, .int (nI i9)), (0, .ref (b 0))]) hx hb dX2_unsaid_28 rfl hl (by decide) rfl (fun ls hl => ?_)
      refine lv_iinc (v := nI (i9 + 1)) (lv' := [(2, .int (nI (i9 + 1))), (1, .int ((mSum nw i9) + (nw (38 + i9)))), (0, .ref (b 0))]) hx hb dX2_unsaid_29 hl (k := 1) rfl (nI_1 i9) (by decide) rfl (fun ls hl => ?_)
      refine lv_goto (tgt := 9) hx hb dX2_unsaid_32 (by decide) ?_
      exact ih9 (i9 + 1) (by omega) _ _ _ hP hD hS (lv_sub hl [0, 1, 2] rfl)
  exact loop9 gg 0 (by omega) _ _ _ hP hD hS (lv_sub hl [0, 1, 2] rfl)
abbrev rmX2_rated : Room := { frames := 1, cells := 0, slots := 0, locals := 22 }
set_option maxRecDepth 100000 in
set_option maxHeartbeats 4000000 in
theorem mX2_rated (l : Launch) (D : va_G) (cI : ClassId) (b : Nat → Nat) (g nw kp : Nat → Int32) (gg : Nat) (sz : Nat) (hg : g 1 = nI gg) (hg2 : gg ≤ 10) (hg0 : 0 < gg) : wCt l yX2_rated wsX2_rated rmX2_rated D [(cI, .int)] [.ref (b 0)] (MC cI b g nw kp) sz 0 0 (wQi D (fun v (_ : Unit) => v = mRate (g 1) nw gg) (fun _ : Unit => MC cI b g nw kp)) := by
  refine wMet cX2_rated 1 (some .int) (by decide) rfl (Nat.le_of_ble_eq_true rfl) ?_
  intro p e s m args below meth c A Q ls hQ hx hb hr hml hown hlocks hin hts hN hP hK hD hA hS hl
  have hl : lv_has ls 1 [(0, .ref (b 0))] := hl
  have hown : s.vm.findClass RX2 = some m.cls := hown
  have hw2 : ∀ w ∈ wsX20, w.before args s = true := fun w h => hts w (List.mem_cons_of_mem _ (List.mem_append_right _ h))
  have k7 := hts (.fieldLink RX2 7 "PauseLedgerModel" "guests" "I") (by decide +kernel)
  refine lv_iconst (v := 0) hx hb dX2_rated_0 (by decide) ?_
  refine lv_bipush (v := 10) hx hb dX2_rated_1 (by decide) ?_
  refine lv_aload_n hx hb dX2_rated_3 rfl (lv_at hl 0 rfl) ?_
  refine wCVi (pre := ([] : va_W)) (Wc := MC cI b g nw kp) (suf := ([] : va_W)) (As := []) (rest := [.int 10, .int 0]) ⟨hx, hb, hml, hown, hts⟩ (mX2_unsaid l D cI b g nw kp gg _ hg hg2) hN hA hK hS hP hD rfl 0 (r := (RX2, TX2, 7)) rfl rfl (cwV 0 hts gX2_rated_X2_unsaid rfl rfl rfl (by decide +kernel) ⟨Nat.le_of_ble_eq_true rfl, Nat.le_of_ble_eq_true rfl⟩) rfl hl.1 rfl (Nat.le_of_ble_eq_true rfl) dX2_rated_4 ⟨Nat.zero_le _, Nat.zero_le _⟩ (fun r_4 u_4 H locs hw hP hD hS => ?_)
  have hw : r_4 = mSum nw gg := hw
  subst hw
  have hP : va_P D vwCl (MC cI b g nw kp) H := hP
  have hD : va_D A (MC cI b g nw kp) := hD
  refine lv_aload_n hx hb dX2_rated_7 rfl (lv_at hl 0 rfl) ?_
  refine va_get (D := D) (ci := 2) (v := .int (g 1)) (C := RX2) (T := TX2) (N := 7) hx hb hw2 (fun _ h => h) hown hK hP 0 rfl rfl 1 (by decide) k7 (fun _ h9 => h9) rfl dX2_rated_8 ?_
  refine lv_idiv hx hb dX2_rated_11 (by rw [hg]; exact nI_ne0 hg0 (by omega)) ?_
  refine lv_iconst (v := 4) hx hb dX2_rated_12 (by decide) ?_
  refine lv_isub hx hb dX2_rated_13 ?_
  refine va_mabs hx hb (hml.trans hl.1.symm) hown (hts (.methodLink RX2 39 Lib.Math.abs.name) (by decide +kernel)) (hts (.static Lib.Math.abs.name) (by decide +kernel)) (hts (.initialized "java/lang/Math") (by decide +kernel)) (hts (.code Lib.Math.abs.name Lib.Math.abs.code 1 (some .int)) (by decide +kernel)) (Nat.le_of_ble_eq_true rfl) (Nat.le_of_ble_eq_true rfl) (Nat.zero_le _) (Nat.zero_le _) dX2_rated_14 ?_
  refine lv_isub hx hb dX2_rated_17 ?_
  refine va_mmax hx hb (hml.trans hl.1.symm) hown (hts (.methodLink RX2 53 Lib.Math.max.name) (by decide +kernel)) (hts (.static Lib.Math.max.name) (by decide +kernel)) (hts (.initialized "java/lang/Math") (by decide +kernel)) (hts (.code Lib.Math.max.name Lib.Math.max.code 2 (some .int)) (by decide +kernel)) (Nat.le_of_ble_eq_true rfl) (Nat.le_of_ble_eq_true rfl) (Nat.zero_le _) (Nat.zero_le _) dX2_rated_18 ?_
  exact wRi hQ hx hb hr hlocks hP hD hS dX2_rated_21 () (rfl) rfl
abbrev rmX2_talk : Room := { frames := 0, cells := 0, slots := 0, locals := 0 }
set_option maxRecDepth 100000 in
set_option maxHeartbeats 4000000 in
theorem mX2_talk (l : Launch) (D : va_G) (cI : ClassId) (b : Nat → Nat) (g nw kp : Nat → Int32) (li : Nat) (sz : Nat) (hl0 : g 2 = nI li) (hl1 : 0 < li) (hl2 : li ≤ 30) (hs : mOk nw) : wCt l yX2_talk wsX2_talk rmX2_talk D [(cI, .int)] [.ref (b 0)] (MC cI b g nw kp) sz 0 0 (wQv D (fun u : Nat → Int32 => u = mTalk (g 2) nw) (fun u : Nat → Int32 => MC cI b g u kp)) := by
  refine wMet cX2_talk 2 none (by decide) rfl (Nat.le_of_ble_eq_true rfl) ?_
  intro p e s m args below meth c A Q ls hQ hx hb hr hml hown hlocks hin hts hN hP hK hD hA hS hl
  have hl : lv_has ls 2 [(0, .ref (b 0))] := hl
  have hown : s.vm.findClass RX2 = some m.cls := hown
  have hw2 : ∀ w ∈ wsX20, w.before args s = true := fun w h => hts w (List.mem_cons_of_mem _ (List.mem_append_right _ h))
  have k13 := hts (.fieldLink RX2 13 "PauseLedgerModel" "limit" "I") (by decide +kernel)
  have k16 := hts (.fieldLink RX2 16 "PauseLedgerModel" "now" "[I") (by decide +kernel)
  refine lv_aload_n hx hb dX2_talk_0 rfl (lv_at hl 0 rfl) ?_
  refine va_get (D := D) (ci := 2) (v := .ref (b 1)) (C := RX2) (T := TX2) (N := 7) hx hb hw2 (fun _ h => h) hown hK hP 0 rfl rfl 3 (by decide) k16 (fun _ h9 => h9) rfl dX2_talk_1 ?_
  refine lv_iconst (v := 1) hx hb dX2_talk_4 (by decide) ?_
  refine wIald hx hb hK hP 1 0 rfl rfl 1 rfl (by decide) (by decide) dX2_talk_5 ?_
  refine lv_istore_n (lv' := [(1, .int (nw 1)), (0, .ref (b 0))]) hx hb dX2_talk_6 rfl hl (by decide) rfl (fun ls hl => ?_)
  refine lv_iload_n hx hb dX2_talk_7 rfl (lv_at hl 0 rfl) ?_
  refine lv_iconst (v := (-1)) hx hb dX2_talk_8 (by decide) ?_
  refine lv_icmp_ne (tgt := 47) hx hb dX2_talk_9 (by decide) (fun c_9 => ?_) (fun c_9 => ?_)
  · obtain ⟨q, hq, eq⟩ := hs.resolve_left c_9
    have en : dN (nw 1) = q := by rw [eq]; exact dN_nI (by omega)
    refine lv_aload_n hx hb dX2_talk_47 rfl (lv_at hl 1 rfl) ?_
    refine va_get (D := D) (ci := 2) (v := .ref (b 1)) (C := RX2) (T := TX2) (N := 7) hx hb hw2 (fun _ h => h) hown hK hP 0 rfl rfl 3 (by decide) k16 (fun _ h9 => h9) rfl dX2_talk_48 ?_
    refine lv_iconst (v := 3) hx hb dX2_talk_51 (by decide) ?_
    refine lv_iconst (v := 0) hx hb dX2_talk_52 (by decide) ?_
    refine wIast hx hb hK hP hD hS 1 0 rfl rfl 3 rfl (by decide) (by decide) dX2_talk_53 (fun H locs hP hD hS => ?_)
    have hP : va_P D vwCl (MC cI b g (upd nw 3 0) kp) H := hP
    have hD : va_D A (MC cI b g (upd nw 3 0) kp) := hD
    refine lv_aload_n hx hb dX2_talk_54 rfl (lv_at hl 1 rfl) ?_
    refine va_get (D := D) (ci := 2) (v := .ref (b 1)) (C := RX2) (T := TX2) (N := 7) hx hb hw2 (fun _ h => h) hown hK hP 0 rfl rfl 3 (by decide) k16 (fun _ h9 => h9) rfl dX2_talk_55 ?_
    refine lv_bipush (v := 8) hx hb dX2_talk_58 (by decide) ?_
    refine lv_iload_n hx hb dX2_talk_60 rfl (lv_at hl 0 rfl) ?_
    refine lv_iadd hx hb dX2_talk_61 ?_
    refine wTop (z := nI (8 + q)) (by rw [eq]; exact nI_add 8 q) ?_
    refine lv_dup2_11 hx hb dX2_talk_62 rfl rfl ?_
    refine wIald hx hb hK hP 1 0 rfl rfl (8 + q) rfl (by omega) (by decide) dX2_talk_63 ?_
    refine lv_iconst (v := 1) hx hb dX2_talk_64 (by decide) ?_
    refine lv_iadd hx hb dX2_talk_65 ?_
    refine wIast hx hb hK hP hD hS 1 0 rfl rfl (8 + q) rfl (by omega) (by decide) dX2_talk_66 (fun H locs hP hD hS => ?_)
    have hP : va_P D vwCl (MC cI b g (mAdd (upd nw 3 0) (8 + q) 1) kp) H := hP
    have hD : va_D A (MC cI b g (mAdd (upd nw 3 0) (8 + q) 1) kp) := hD
    refine lv_aload_n hx hb dX2_talk_67 rfl (lv_at hl 1 rfl) ?_
    refine va_get (D := D) (ci := 2) (v := .ref (b 1)) (C := RX2) (T := TX2) (N := 7) hx hb hw2 (fun _ h => h) hown hK hP 0 rfl rfl 3 (by decide) k16 (fun _ h9 => h9) rfl dX2_talk_68 ?_
    refine lv_iconst (v := 2) hx hb dX2_talk_71 (by decide) ?_
    refine lv_dup2_11 hx hb dX2_talk_72 rfl rfl ?_
    refine wIald hx hb hK hP 1 0 rfl rfl 2 rfl (by decide) (by decide) dX2_talk_73 ?_
    refine lv_iconst (v := 1) hx hb dX2_talk_74 (by decide) ?_
    refine lv_isub hx hb dX2_talk_75 ?_
    refine wIast hx hb hK hP hD hS 1 0 rfl rfl 2 rfl (by decide) (by decide) dX2_talk_76 (fun H locs hP hD hS => ?_)
    have hP : va_P D vwCl (MC cI b g (mSub (mAdd (upd nw 3 0) (8 + q) 1) 2 1) kp) H := hP
    have hD : va_D A (MC cI b g (mSub (mAdd (upd nw 3 0) (8 + q) 1) 2 1) kp) := hD
    refine lv_aload_n hx hb dX2_talk_77 rfl (lv_at hl 1 rfl) ?_
    refine va_get (D := D) (ci := 2) (v := .ref (b 1)) (C := RX2) (T := TX2) (N := 7) hx hb hw2 (fun _ h => h) hown hK hP 0 rfl rfl 3 (by decide) k16 (fun _ h9 => h9) rfl dX2_talk_78 ?_
    refine lv_iconst (v := 2) hx hb dX2_talk_81 (by decide) ?_
    refine wIald hx hb hK hP 1 0 rfl rfl 2 rfl (by decide) (by decide) dX2_talk_82 ?_
    refine lv_if_ne (tgt := 93) hx hb dX2_talk_83 (by decide) (fun c_83 => ?_) (fun c_83 => ?_)
    · exact wRv hQ hx hb hr hlocks hP hD hS dX2_talk_93 (mSub (mAdd (upd nw 3 0) (8 + q) 1) 2 1) (by simp only [mTalk, if_neg c_9, if_neg c_83, en, mTlk]) rfl
    · refine lv_aload_n hx hb dX2_talk_86 rfl (lv_at hl 1 rfl) ?_
      refine va_get (D := D) (ci := 2) (v := .ref (b 1)) (C := RX2) (T := TX2) (N := 7) hx hb hw2 (fun _ h => h) hown hK hP 0 rfl rfl 3 (by decide) k16 (fun _ h9 => h9) rfl dX2_talk_87 ?_
      refine lv_iconst (v := 1) hx hb dX2_talk_90 (by decide) ?_
      refine lv_iconst (v := (-1)) hx hb dX2_talk_91 (by decide) ?_
      refine wIast hx hb hK hP hD hS 1 0 rfl rfl 1 rfl (by decide) (by decide) dX2_talk_92 (fun H locs hP hD hS => ?_)
      have hP : va_P D vwCl (MC cI b g (upd (mSub (mAdd (upd nw 3 0) (8 + q) 1) 2 1) 1 (-1)) kp) H := hP
      have hD : va_D A (MC cI b g (upd (mSub (mAdd (upd nw 3 0) (8 + q) 1) 2 1) 1 (-1)) kp) := hD
      exact wRv hQ hx hb hr hlocks hP hD hS dX2_talk_93 (upd (mSub (mAdd (upd nw 3 0) (8 + q) 1) 2 1) 1 (-1)) (by simp only [mTalk, if_neg c_9, if_pos c_83, en, mTlk]) rfl
  · refine lv_aload_n hx hb dX2_talk_12 rfl (lv_at hl 1 rfl) ?_
    refine va_get (D := D) (ci := 2) (v := .ref (b 1)) (C := RX2) (T := TX2) (N := 7) hx hb hw2 (fun _ h => h) hown hK hP 0 rfl rfl 3 (by decide) k16 (fun _ h9 => h9) rfl dX2_talk_13 ?_
    refine lv_iconst (v := 3) hx hb dX2_talk_16 (by decide) ?_
    refine lv_dup2_11 hx hb dX2_talk_17 rfl rfl ?_
    refine wIald hx hb hK hP 1 0 rfl rfl 3 rfl (by decide) (by decide) dX2_talk_18 ?_
    refine lv_iconst (v := 1) hx hb dX2_talk_19 (by decide) ?_
    refine lv_iadd hx hb dX2_talk_20 ?_
    refine wIast hx hb hK hP hD hS 1 0 rfl rfl 3 rfl (by decide) (by decide) dX2_talk_21 (fun H locs hP hD hS => ?_)
    have hP : va_P D vwCl (MC cI b g (mAdd nw 3 1) kp) H := hP
    have hD : va_D A (MC cI b g (mAdd nw 3 1) kp) := hD
    refine lv_aload_n hx hb dX2_talk_22 rfl (lv_at hl 1 rfl) ?_
    refine va_get (D := D) (ci := 2) (v := .ref (b 1)) (C := RX2) (T := TX2) (N := 7) hx hb hw2 (fun _ h => h) hown hK hP 0 rfl rfl 3 (by decide) k16 (fun _ h9 => h9) rfl dX2_talk_23 ?_
    refine lv_iconst (v := 3) hx hb dX2_talk_26 (by decide) ?_
    refine wIald hx hb hK hP 1 0 rfl rfl 3 rfl (by decide) (by decide) dX2_talk_27 ?_
    refine lv_aload_n hx hb dX2_talk_28 rfl (lv_at hl 1 rfl) ?_
    refine va_get (D := D) (ci := 2) (v := .int (g 2)) (C := RX2) (T := TX2) (N := 7) hx hb hw2 (fun _ h => h) hown hK hP 0 rfl rfl 2 (by decide) k13 (fun _ h9 => h9) rfl dX2_talk_29 ?_
    refine lv_irem hx hb dX2_talk_32 (by rw [hl0]; exact nI_ne0 hl1 (by omega)) ?_
    refine lv_if_ne (tgt := 46) hx hb dX2_talk_33 (by decide) (fun c_33 => ?_) (fun c_33 => ?_)
    · exact wRv hQ hx hb hr hlocks hP hD hS dX2_talk_46 (mAdd nw 3 1) (by simp only [mTalk, if_pos c_9, if_neg c_33]) rfl
    · refine lv_aload_n hx hb dX2_talk_36 rfl (lv_at hl 1 rfl) ?_
      refine va_get (D := D) (ci := 2) (v := .ref (b 1)) (C := RX2) (T := TX2) (N := 7) hx hb hw2 (fun _ h => h) hown hK hP 0 rfl rfl 3 (by decide) k16 (fun _ h9 => h9) rfl dX2_talk_37 ?_
      refine lv_iconst (v := 4) hx hb dX2_talk_40 (by decide) ?_
      refine lv_dup2_11 hx hb dX2_talk_41 rfl rfl ?_
      refine wIald hx hb hK hP 1 0 rfl rfl 4 rfl (by decide) (by decide) dX2_talk_42 ?_
      refine lv_iconst (v := 1) hx hb dX2_talk_43 (by decide) ?_
      refine lv_iadd hx hb dX2_talk_44 ?_
      refine wIast hx hb hK hP hD hS 1 0 rfl rfl 4 rfl (by decide) (by decide) dX2_talk_45 (fun H locs hP hD hS => ?_)
      have hP : va_P D vwCl (MC cI b g (mAdd (mAdd nw 3 1) 4 1) kp) H := hP
      have hD : va_D A (MC cI b g (mAdd (mAdd nw 3 1) 4 1) kp) := hD
      exact wRv hQ hx hb hr hlocks hP hD hS dX2_talk_46 (mAdd (mAdd nw 3 1) 4 1) (by simp only [mTalk, if_pos c_9, if_pos c_33]) rfl
abbrev rmX2_arrives : Room := { frames := 1, cells := 0, slots := 0, locals := 21 }
set_option maxRecDepth 100000 in
set_option maxHeartbeats 4000000 in
/-- arrives -/
theorem mX2_arrives (l : Launch) (D : va_G) (cI : ClassId) (b : Nat → Nat) (g nw kp : Nat → Int32) (x y : Nat) (sz : Nat) (ux : x < 10) (uy : y < 10) : wCt l yX2_arrives wsX2_arrives rmX2_arrives D [(cI, .int)] [.ref (b 0), .int (nI x), .int (nI y)] (MC cI b g nw kp) sz 0 0 (wQv D (fun u : mS => u = (mArr nw x y, mEnd nw (g 5) (g 6) x y)) (fun u : mS => MC cI b (upd g 6 u.2) u.1 kp)) := by
  refine wMet cX2_arrives 5 none (by decide) rfl (Nat.le_of_ble_eq_true rfl) ?_
  intro p e s m args below meth c A Q ls hQ hx hb hr hml hown hlocks hin hts hN hP hK hD hA hS hl
  have hl : lv_has ls 5 [(0, .ref (b 0)), (1, .int (nI x)), (2, .int (nI y))] := hl
  have hown : s.vm.findClass RX2 = some m.cls := hown
  have hw2 : ∀ w ∈ wsX20, w.before args s = true := fun w h => hts w (List.mem_cons_of_mem _ (List.mem_append_right _ h))
  have k16 := hts (.fieldLink RX2 16 "PauseLedgerModel" "now" "[I") (by decide +kernel)
  have k23 := hts (.fieldLink RX2 23 "PauseLedgerModel" "mark" "I") (by decide +kernel)
  have k59 := hts (.fieldLink RX2 59 "PauseLedgerModel" "end" "I") (by decide +kernel)
  refine lv_iload_n hx hb dX2_arrives_0 rfl (lv_at hl 2 rfl) ?_
  refine lv_iload_n hx hb dX2_arrives_1 rfl (lv_at hl 1 rfl) ?_
  refine wCSi (pre := ([] : va_W)) (Wc := ([] : va_W)) (suf := MC cI b g nw kp) (As := [.int (nI y), .int (nI x)]) (rest := []) ⟨hx, hb, hml, hown, hts⟩ (mX2_pair l D cI y x _) hN hA hK hS hP hD rfl (va_cwS 2 hts gX2_arrives_X2_pair rfl rfl rfl (by decide +kernel) ⟨Nat.le_of_ble_eq_true rfl, Nat.le_of_ble_eq_true rfl⟩) rfl hl.1 rfl (Nat.le_of_ble_eq_true rfl) dX2_arrives_2 ⟨Nat.zero_le _, Nat.zero_le _⟩ (fun r_2 u_2 H locs hw hP hD hS => ?_)
  have hw : r_2 = nI (10 * y + x) := hw
  subst hw
  have hP : va_P D vwCl (MC cI b g nw kp) H := hP
  have hD : va_D A (MC cI b g nw kp) := hD
  refine lv_istore_n (lv' := [(3, .int (nI (10 * y + x))), (0, .ref (b 0)), (1, .int (nI x)), (2, .int (nI y))]) hx hb dX2_arrives_5 rfl hl (by decide) rfl (fun ls hl => ?_)
  refine lv_aload_n hx hb dX2_arrives_6 rfl (lv_at hl 1 rfl) ?_
  refine va_get (D := D) (ci := 2) (v := .ref (b 1)) (C := RX2) (T := TX2) (N := 7) hx hb hw2 (fun _ h => h) hown hK hP 0 rfl rfl 3 (by decide) k16 (fun _ h9 => h9) rfl dX2_arrives_7 ?_
  refine lv_sipush (v := 148) hx hb dX2_arrives_10 (by decide) ?_
  refine lv_iload_n hx hb dX2_arrives_13 rfl (lv_at hl 0 rfl) ?_
  refine lv_iadd hx hb dX2_arrives_14 ?_
  refine wTop (z := nI (148 + (10 * y + x))) (nI_add 148 (10 * y + x)) ?_
  refine wIald hx hb hK hP 1 0 rfl rfl (148 + (10 * y + x)) rfl (by omega) (by decide) dX2_arrives_15 ?_
  refine lv_if_le (tgt := 23) hx hb dX2_arrives_16 (by decide) (fun c_16 => ?_) (fun c_16 => ?_)
  · refine lv_iconst (v := 0) hx hb dX2_arrives_23 (by decide) ?_
    refine lv_istore (lv' := [(4, .int 0), (3, .int (nI (10 * y + x))), (0, .ref (b 0)), (1, .int (nI x)), (2, .int (nI y))]) hx hb dX2_arrives_24 hl (by decide) rfl (fun ls hl => ?_)
    refine lv_aload_n hx hb dX2_arrives_26 rfl (lv_at hl 2 rfl) ?_
    refine va_get (D := D) (ci := 2) (v := .ref (b 1)) (C := RX2) (T := TX2) (N := 7) hx hb hw2 (fun _ h => h) hown hK hP 0 rfl rfl 3 (by decide) k16 (fun _ h9 => h9) rfl dX2_arrives_27 ?_
    refine lv_sipush (v := 148) hx hb dX2_arrives_30 (by decide) ?_
    refine lv_iload_n hx hb dX2_arrives_33 rfl (lv_at hl 3 rfl) ?_
    refine lv_iload_n hx hb dX2_arrives_34 rfl (lv_at hl 4 rfl) ?_
    refine wCSi (pre := ([] : va_W)) (Wc := ([] : va_W)) (suf := MC cI b g nw kp) (As := [.int (nI x), .int (nI y)]) (rest := [.int 148, .ref (b 1)]) ⟨hx, hb, hml, hown, hts⟩ (mX2_pair l D cI x y _) hN hA hK hS hP hD rfl (va_cwS 2 hts gX2_arrives_X2_pair rfl rfl rfl (by decide +kernel) ⟨Nat.le_of_ble_eq_true rfl, Nat.le_of_ble_eq_true rfl⟩) rfl hl.1 rfl (Nat.le_of_ble_eq_true rfl) dX2_arrives_35 ⟨Nat.zero_le _, Nat.zero_le _⟩ (fun r_35 u_35 H locs hw hP hD hS => ?_)
    have hw : r_35 = nI (10 * x + y) := hw
    subst hw
    have hP : va_P D vwCl (MC cI b g nw kp) H := hP
    have hD : va_D A (MC cI b g nw kp) := hD
    refine lv_iadd hx hb dX2_arrives_38 ?_
    refine wTop (z := nI (148 + (10 * x + y))) (nI_add 148 (10 * x + y)) ?_
    refine lv_iconst (v := 0) hx hb dX2_arrives_39 (by decide) ?_
    refine wIast hx hb hK hP hD hS 1 0 rfl rfl (148 + (10 * x + y)) rfl (by omega) (by decide) dX2_arrives_40 (fun H locs hP hD hS => ?_)
    have hP : va_P D vwCl (MC cI b g (upd nw (148 + (10 * x + y)) 0) kp) H := hP
    have hD : va_D A (MC cI b g (upd nw (148 + (10 * x + y)) 0) kp) := hD
    refine lv_aload_n hx hb dX2_arrives_41 rfl (lv_at hl 2 rfl) ?_
    refine va_get (D := D) (ci := 2) (v := .int (g 5)) (C := RX2) (T := TX2) (N := 7) hx hb hw2 (fun _ h => h) hown hK hP 0 rfl rfl 5 (by decide) k23 (fun _ h9 => h9) rfl dX2_arrives_42 ?_
    refine lv_iload_n hx hb dX2_arrives_45 rfl (lv_at hl 3 rfl) ?_
    refine lv_iload_n hx hb dX2_arrives_46 rfl (lv_at hl 4 rfl) ?_
    refine wCSi (pre := ([] : va_W)) (Wc := ([] : va_W)) (suf := MC cI b g (upd nw (148 + (10 * x + y)) 0) kp) (As := [.int (nI x), .int (nI y)]) (rest := [.int (g 5)]) ⟨hx, hb, hml, hown, hts⟩ (mX2_pair l D cI x y _) hN hA hK hS hP hD rfl (va_cwS 2 hts gX2_arrives_X2_pair rfl rfl rfl (by decide +kernel) ⟨Nat.le_of_ble_eq_true rfl, Nat.le_of_ble_eq_true rfl⟩) rfl hl.1 rfl (Nat.le_of_ble_eq_true rfl) dX2_arrives_47 ⟨Nat.zero_le _, Nat.zero_le _⟩ (fun r_47 u_47 H locs hw hP hD hS => ?_)
    have hw : r_47 = nI (10 * x + y) := hw
    subst hw
    have hP : va_P D vwCl (MC cI b g (upd nw (148 + (10 * x + y)) 0) kp) H := hP
    have hD : va_D A (MC cI b g (upd nw (148 + (10 * x + y)) 0) kp) := hD
    refine lv_icmp_eq (tgt := 66) hx hb dX2_arrives_50 (by decide) (fun c_50 => ?_) (fun c_50 => ?_)
    · refine lv_aload_n hx hb dX2_arrives_66 rfl (lv_at hl 2 rfl) ?_
      refine lv_iload hx hb dX2_arrives_67 (lv_at hl 0 rfl) ?_
      refine lv_if_eq (tgt := 76) hx hb dX2_arrives_69 (by decide) (fun c_69 => ?_) (fun h9 => absurd (by decide) h9)
      refine lv_aload_n hx hb dX2_arrives_76 rfl (lv_at hl 2 rfl) ?_
      refine va_get (D := D) (ci := 2) (v := .ref (b 1)) (C := RX2) (T := TX2) (N := 7) hx hb hw2 (fun _ h => h) hown hK hP 0 rfl rfl 3 (by decide) k16 (fun _ h9 => h9) rfl dX2_arrives_77 ?_
      refine lv_iconst (v := 1) hx hb dX2_arrives_80 (by decide) ?_
      refine wIald hx hb hK hP 1 0 rfl rfl 1 rfl (by decide) (by decide) dX2_arrives_81 ?_
      refine lv_iload_n hx hb dX2_arrives_82 rfl (lv_at hl 4 rfl) ?_
      refine lv_icmp_ne (tgt := 90) hx hb dX2_arrives_83 (by decide) (fun c_83 => ?_) (fun c_83 => ?_)
      · refine lv_iconst (v := 1) hx hb dX2_arrives_90 (by decide) ?_
        refine va_put (D := D) (ci := 2) (v := .int 1) (ty := .int) (C := RX2) (T := TX2) (N := 7) hx hb hw2 (fun _ h => h) tyX2 tyX2_ok nmX2 hown hK hP hD hS 0 rfl rfl 6 (by decide) k59 (fun _ h9 => h9) rfl (by decide +kernel) rfl rfl (Nat.le_of_ble_eq_true rfl) dX2_arrives_91 (fun H locs hP hD hS => ?_)
        have hP : va_P D vwCl (MC cI b (upd g 6 1) (upd nw (148 + (10 * x + y)) 0) kp) H := hP
        have hD : va_D A (MC cI b (upd g 6 1) (upd nw (148 + (10 * x + y)) 0) kp) := hD
        refine lv_iload hx hb dX2_arrives_94 (lv_at hl 0 rfl) ?_
        refine lv_if_eq (tgt := 159) hx hb dX2_arrives_96 (by decide) (fun c_96 => ?_) (fun h9 => absurd (by decide) h9)
        refine lv_aload_n hx hb dX2_arrives_159 rfl (lv_at hl 2 rfl) ?_
        refine va_get (D := D) (ci := 2) (v := .ref (b 1)) (C := RX2) (T := TX2) (N := 7) hx hb hw2 (fun _ h => h) hown hK hP 0 rfl rfl 3 (by decide) k16 (fun _ h9 => h9) rfl dX2_arrives_160 ?_
        refine lv_iconst (v := 1) hx hb dX2_arrives_163 (by decide) ?_
        refine wIald hx hb hK hP 1 0 rfl rfl 1 rfl (by decide) (by decide) dX2_arrives_164 ?_
        refine lv_iload_n hx hb dX2_arrives_165 rfl (lv_at hl 4 rfl) ?_
        refine lv_icmp_ne (tgt := 183) hx hb dX2_arrives_166 (by decide) (fun c_166 => ?_) (fun h9 => absurd h9 (c_83))
        refine lv_aload_n hx hb dX2_arrives_183 rfl (lv_at hl 2 rfl) ?_
        refine va_get (D := D) (ci := 2) (v := .ref (b 1)) (C := RX2) (T := TX2) (N := 7) hx hb hw2 (fun _ h => h) hown hK hP 0 rfl rfl 3 (by decide) k16 (fun _ h9 => h9) rfl dX2_arrives_184 ?_
        refine lv_sipush (v := 248) hx hb dX2_arrives_187 (by decide) ?_
        refine lv_iload_n hx hb dX2_arrives_190 rfl (lv_at hl 3 rfl) ?_
        refine lv_iload_n hx hb dX2_arrives_191 rfl (lv_at hl 4 rfl) ?_
        refine wCSi (pre := ([] : va_W)) (Wc := ([] : va_W)) (suf := MC cI b (upd g 6 1) (upd nw (148 + (10 * x + y)) 0) kp) (As := [.int (nI x), .int (nI y)]) (rest := [.int 248, .ref (b 1)]) ⟨hx, hb, hml, hown, hts⟩ (mX2_pair l D cI x y _) hN hA hK hS hP hD rfl (va_cwS 2 hts gX2_arrives_X2_pair rfl rfl rfl (by decide +kernel) ⟨Nat.le_of_ble_eq_true rfl, Nat.le_of_ble_eq_true rfl⟩) rfl hl.1 rfl (Nat.le_of_ble_eq_true rfl) dX2_arrives_192 ⟨Nat.zero_le _, Nat.zero_le _⟩ (fun r_192 u_192 H locs hw hP hD hS => ?_)
        have hw : r_192 = nI (10 * x + y) := hw
        subst hw
        have hP : va_P D vwCl (MC cI b (upd g 6 1) (upd nw (148 + (10 * x + y)) 0) kp) H := hP
        have hD : va_D A (MC cI b (upd g 6 1) (upd nw (148 + (10 * x + y)) 0) kp) := hD
        refine lv_iadd hx hb dX2_arrives_195 ?_
        refine wTop (z := nI (248 + (10 * x + y))) (nI_add 248 (10 * x + y)) ?_
        refine lv_dup2_11 hx hb dX2_arrives_196 rfl rfl ?_
        refine wIald hx hb hK hP 1 0 rfl rfl (248 + (10 * x + y)) rfl (by omega) (by decide) dX2_arrives_197 ?_
        refine lv_iconst (v := 1) hx hb dX2_arrives_198 (by decide) ?_
        refine lv_iadd hx hb dX2_arrives_199 ?_
        refine wIast hx hb hK hP hD hS 1 0 rfl rfl (248 + (10 * x + y)) rfl (by omega) (by decide) dX2_arrives_200 (fun H locs hP hD hS => ?_)
        have hP : va_P D vwCl (MC cI b (upd g 6 1) (mAdd (upd nw (148 + (10 * x + y)) 0) (248 + (10 * x + y)) 1) kp) H := hP
        have hD : va_D A (MC cI b (upd g 6 1) (mAdd (upd nw (148 + (10 * x + y)) 0) (248 + (10 * x + y)) 1) kp) := hD
        refine lv_aload_n hx hb dX2_arrives_201 rfl (lv_at hl 2 rfl) ?_
        refine va_get (D := D) (ci := 2) (v := .ref (b 1)) (C := RX2) (T := TX2) (N := 7) hx hb hw2 (fun _ h => h) hown hK hP 0 rfl rfl 3 (by decide) k16 (fun _ h9 => h9) rfl dX2_arrives_202 ?_
        refine lv_bipush (v := 38) hx hb dX2_arrives_205 (by decide) ?_
        refine lv_iload_n hx hb dX2_arrives_207 rfl (lv_at hl 3 rfl) ?_
        refine lv_iadd hx hb dX2_arrives_208 ?_
        refine wTop (z := nI (38 + x)) (nI_add 38 x) ?_
        refine lv_dup2_11 hx hb dX2_arrives_209 rfl rfl ?_
        refine wIald hx hb hK hP 1 0 rfl rfl (38 + x) rfl (by omega) (by decide) dX2_arrives_210 ?_
        refine lv_iconst (v := 1) hx hb dX2_arrives_211 (by decide) ?_
        refine lv_iadd hx hb dX2_arrives_212 ?_
        refine wIast hx hb hK hP hD hS 1 0 rfl rfl (38 + x) rfl (by omega) (by decide) dX2_arrives_213 (fun H locs hP hD hS => ?_)
        have hP : va_P D vwCl (MC cI b (upd g 6 1) (mAdd (mAdd (upd nw (148 + (10 * x + y)) 0) (248 + (10 * x + y)) 1) (38 + x) 1) kp) H := hP
        have hD : va_D A (MC cI b (upd g 6 1) (mAdd (mAdd (upd nw (148 + (10 * x + y)) 0) (248 + (10 * x + y)) 1) (38 + x) 1) kp) := hD
        exact wRv hQ hx hb hr hlocks hP hD hS dX2_arrives_214 (mAdd (mAdd (upd nw (148 + (10 * x + y)) 0) (248 + (10 * x + y)) 1) (38 + x) 1, 1) (by simp only [mArr, mEnd, if_neg (Int32.not_lt.mpr c_16), if_pos c_50, if_pos c_69, if_neg c_83, if_pos c_96, if_neg c_166]) rfl
      · refine lv_iconst (v := 0) hx hb dX2_arrives_86 (by decide) ?_
        refine lv_goto (tgt := 91) hx hb dX2_arrives_87 (by decide) ?_
        refine va_put (D := D) (ci := 2) (v := .int 0) (ty := .int) (C := RX2) (T := TX2) (N := 7) hx hb hw2 (fun _ h => h) tyX2 tyX2_ok nmX2 hown hK hP hD hS 0 rfl rfl 6 (by decide) k59 (fun _ h9 => h9) rfl (by decide +kernel) rfl rfl (Nat.le_of_ble_eq_true rfl) dX2_arrives_91 (fun H locs hP hD hS => ?_)
        have hP : va_P D vwCl (MC cI b (upd g 6 0) (upd nw (148 + (10 * x + y)) 0) kp) H := hP
        have hD : va_D A (MC cI b (upd g 6 0) (upd nw (148 + (10 * x + y)) 0) kp) := hD
        refine lv_iload hx hb dX2_arrives_94 (lv_at hl 0 rfl) ?_
        refine lv_if_eq (tgt := 159) hx hb dX2_arrives_96 (by decide) (fun c_96 => ?_) (fun h9 => absurd (by decide) h9)
        refine lv_aload_n hx hb dX2_arrives_159 rfl (lv_at hl 2 rfl) ?_
        refine va_get (D := D) (ci := 2) (v := .ref (b 1)) (C := RX2) (T := TX2) (N := 7) hx hb hw2 (fun _ h => h) hown hK hP 0 rfl rfl 3 (by decide) k16 (fun _ h9 => h9) rfl dX2_arrives_160 ?_
        refine lv_iconst (v := 1) hx hb dX2_arrives_163 (by decide) ?_
        refine wIald hx hb hK hP 1 0 rfl rfl 1 rfl (by decide) (by decide) dX2_arrives_164 ?_
        refine lv_iload_n hx hb dX2_arrives_165 rfl (lv_at hl 4 rfl) ?_
        refine lv_icmp_ne (tgt := 183) hx hb dX2_arrives_166 (by decide) (fun h9 => absurd (c_83) h9) (fun c_166 => ?_)
        refine lv_aload_n hx hb dX2_arrives_169 rfl (lv_at hl 2 rfl) ?_
        refine va_get (D := D) (ci := 2) (v := .ref (b 1)) (C := RX2) (T := TX2) (N := 7) hx hb hw2 (fun _ h => h) hown hK hP 0 rfl rfl 3 (by decide) k16 (fun _ h9 => h9) rfl dX2_arrives_170 ?_
        refine lv_bipush (v := 6) hx hb dX2_arrives_173 (by decide) ?_
        refine lv_dup2_11 hx hb dX2_arrives_175 rfl rfl ?_
        refine wIald hx hb hK hP 1 0 rfl rfl 6 rfl (by decide) (by decide) dX2_arrives_176 ?_
        refine lv_iconst (v := 1) hx hb dX2_arrives_177 (by decide) ?_
        refine lv_iadd hx hb dX2_arrives_178 ?_
        refine wIast hx hb hK hP hD hS 1 0 rfl rfl 6 rfl (by decide) (by decide) dX2_arrives_179 (fun H locs hP hD hS => ?_)
        have hP : va_P D vwCl (MC cI b (upd g 6 0) (mAdd (upd nw (148 + (10 * x + y)) 0) 6 1) kp) H := hP
        have hD : va_D A (MC cI b (upd g 6 0) (mAdd (upd nw (148 + (10 * x + y)) 0) 6 1) kp) := hD
        refine lv_goto (tgt := 214) hx hb dX2_arrives_180 (by decide) ?_
        exact wRv hQ hx hb hr hlocks hP hD hS dX2_arrives_214 (mAdd (upd nw (148 + (10 * x + y)) 0) 6 1, 0) (by simp only [mArr, mEnd, if_neg (Int32.not_lt.mpr c_16), if_pos c_50, if_pos c_69, if_pos c_83, if_pos c_96, if_pos c_166]) rfl
    · refine lv_iload hx hb dX2_arrives_53 (lv_at hl 0 rfl) ?_
      refine lv_if_eq (tgt := 94) hx hb dX2_arrives_55 (by decide) (fun c_55 => ?_) (fun h9 => absurd (by decide) h9)
      refine lv_iload hx hb dX2_arrives_94 (lv_at hl 0 rfl) ?_
      refine lv_if_eq (tgt := 159) hx hb dX2_arrives_96 (by decide) (fun c_96 => ?_) (fun h9 => absurd (by decide) h9)
      refine lv_aload_n hx hb dX2_arrives_159 rfl (lv_at hl 2 rfl) ?_
      refine va_get (D := D) (ci := 2) (v := .ref (b 1)) (C := RX2) (T := TX2) (N := 7) hx hb hw2 (fun _ h => h) hown hK hP 0 rfl rfl 3 (by decide) k16 (fun _ h9 => h9) rfl dX2_arrives_160 ?_
      refine lv_iconst (v := 1) hx hb dX2_arrives_163 (by decide) ?_
      refine wIald hx hb hK hP 1 0 rfl rfl 1 rfl (by decide) (by decide) dX2_arrives_164 ?_
      refine lv_iload_n hx hb dX2_arrives_165 rfl (lv_at hl 4 rfl) ?_
      refine lv_icmp_ne (tgt := 183) hx hb dX2_arrives_166 (by decide) (fun c_166 => ?_) (fun c_166 => ?_)
      · refine lv_aload_n hx hb dX2_arrives_183 rfl (lv_at hl 2 rfl) ?_
        refine va_get (D := D) (ci := 2) (v := .ref (b 1)) (C := RX2) (T := TX2) (N := 7) hx hb hw2 (fun _ h => h) hown hK hP 0 rfl rfl 3 (by decide) k16 (fun _ h9 => h9) rfl dX2_arrives_184 ?_
        refine lv_sipush (v := 248) hx hb dX2_arrives_187 (by decide) ?_
        refine lv_iload_n hx hb dX2_arrives_190 rfl (lv_at hl 3 rfl) ?_
        refine lv_iload_n hx hb dX2_arrives_191 rfl (lv_at hl 4 rfl) ?_
        refine wCSi (pre := ([] : va_W)) (Wc := ([] : va_W)) (suf := MC cI b g (upd nw (148 + (10 * x + y)) 0) kp) (As := [.int (nI x), .int (nI y)]) (rest := [.int 248, .ref (b 1)]) ⟨hx, hb, hml, hown, hts⟩ (mX2_pair l D cI x y _) hN hA hK hS hP hD rfl (va_cwS 2 hts gX2_arrives_X2_pair rfl rfl rfl (by decide +kernel) ⟨Nat.le_of_ble_eq_true rfl, Nat.le_of_ble_eq_true rfl⟩) rfl hl.1 rfl (Nat.le_of_ble_eq_true rfl) dX2_arrives_192 ⟨Nat.zero_le _, Nat.zero_le _⟩ (fun r_192 u_192 H locs hw hP hD hS => ?_)
        have hw : r_192 = nI (10 * x + y) := hw
        subst hw
        have hP : va_P D vwCl (MC cI b g (upd nw (148 + (10 * x + y)) 0) kp) H := hP
        have hD : va_D A (MC cI b g (upd nw (148 + (10 * x + y)) 0) kp) := hD
        refine lv_iadd hx hb dX2_arrives_195 ?_
        refine wTop (z := nI (248 + (10 * x + y))) (nI_add 248 (10 * x + y)) ?_
        refine lv_dup2_11 hx hb dX2_arrives_196 rfl rfl ?_
        refine wIald hx hb hK hP 1 0 rfl rfl (248 + (10 * x + y)) rfl (by omega) (by decide) dX2_arrives_197 ?_
        refine lv_iconst (v := 1) hx hb dX2_arrives_198 (by decide) ?_
        refine lv_iadd hx hb dX2_arrives_199 ?_
        refine wIast hx hb hK hP hD hS 1 0 rfl rfl (248 + (10 * x + y)) rfl (by omega) (by decide) dX2_arrives_200 (fun H locs hP hD hS => ?_)
        have hP : va_P D vwCl (MC cI b g (mAdd (upd nw (148 + (10 * x + y)) 0) (248 + (10 * x + y)) 1) kp) H := hP
        have hD : va_D A (MC cI b g (mAdd (upd nw (148 + (10 * x + y)) 0) (248 + (10 * x + y)) 1) kp) := hD
        refine lv_aload_n hx hb dX2_arrives_201 rfl (lv_at hl 2 rfl) ?_
        refine va_get (D := D) (ci := 2) (v := .ref (b 1)) (C := RX2) (T := TX2) (N := 7) hx hb hw2 (fun _ h => h) hown hK hP 0 rfl rfl 3 (by decide) k16 (fun _ h9 => h9) rfl dX2_arrives_202 ?_
        refine lv_bipush (v := 38) hx hb dX2_arrives_205 (by decide) ?_
        refine lv_iload_n hx hb dX2_arrives_207 rfl (lv_at hl 3 rfl) ?_
        refine lv_iadd hx hb dX2_arrives_208 ?_
        refine wTop (z := nI (38 + x)) (nI_add 38 x) ?_
        refine lv_dup2_11 hx hb dX2_arrives_209 rfl rfl ?_
        refine wIald hx hb hK hP 1 0 rfl rfl (38 + x) rfl (by omega) (by decide) dX2_arrives_210 ?_
        refine lv_iconst (v := 1) hx hb dX2_arrives_211 (by decide) ?_
        refine lv_iadd hx hb dX2_arrives_212 ?_
        refine wIast hx hb hK hP hD hS 1 0 rfl rfl (38 + x) rfl (by omega) (by decide) dX2_arrives_213 (fun H locs hP hD hS => ?_)
        have hP : va_P D vwCl (MC cI b g (mAdd (mAdd (upd nw (148 + (10 * x + y)) 0) (248 + (10 * x + y)) 1) (38 + x) 1) kp) H := hP
        have hD : va_D A (MC cI b g (mAdd (mAdd (upd nw (148 + (10 * x + y)) 0) (248 + (10 * x + y)) 1) (38 + x) 1) kp) := hD
        exact wRv hQ hx hb hr hlocks hP hD hS dX2_arrives_214 (mAdd (mAdd (upd nw (148 + (10 * x + y)) 0) (248 + (10 * x + y)) 1) (38 + x) 1, g 6) (by simp only [mArr, mEnd, if_neg (Int32.not_lt.mpr c_16), if_neg c_50, if_pos c_55, if_pos c_96, if_neg c_166]) rfl
      · refine lv_aload_n hx hb dX2_arrives_169 rfl (lv_at hl 2 rfl) ?_
        refine va_get (D := D) (ci := 2) (v := .ref (b 1)) (C := RX2) (T := TX2) (N := 7) hx hb hw2 (fun _ h => h) hown hK hP 0 rfl rfl 3 (by decide) k16 (fun _ h9 => h9) rfl dX2_arrives_170 ?_
        refine lv_bipush (v := 6) hx hb dX2_arrives_173 (by decide) ?_
        refine lv_dup2_11 hx hb dX2_arrives_175 rfl rfl ?_
        refine wIald hx hb hK hP 1 0 rfl rfl 6 rfl (by decide) (by decide) dX2_arrives_176 ?_
        refine lv_iconst (v := 1) hx hb dX2_arrives_177 (by decide) ?_
        refine lv_iadd hx hb dX2_arrives_178 ?_
        refine wIast hx hb hK hP hD hS 1 0 rfl rfl 6 rfl (by decide) (by decide) dX2_arrives_179 (fun H locs hP hD hS => ?_)
        have hP : va_P D vwCl (MC cI b g (mAdd (upd nw (148 + (10 * x + y)) 0) 6 1) kp) H := hP
        have hD : va_D A (MC cI b g (mAdd (upd nw (148 + (10 * x + y)) 0) 6 1) kp) := hD
        refine lv_goto (tgt := 214) hx hb dX2_arrives_180 (by decide) ?_
        exact wRv hQ hx hb hr hlocks hP hD hS dX2_arrives_214 (mAdd (upd nw (148 + (10 * x + y)) 0) 6 1, g 6) (by simp only [mArr, mEnd, if_neg (Int32.not_lt.mpr c_16), if_neg c_50, if_pos c_55, if_pos c_96, if_pos c_166]) rfl
  · refine lv_iconst (v := 1) hx hb dX2_arrives_19 (by decide) ?_
    refine lv_goto (tgt := 24) hx hb dX2_arrives_20 (by decide) ?_
    refine lv_istore (lv' := [(4, .int 1), (3, .int (nI (10 * y + x))), (0, .ref (b 0)), (1, .int (nI x)), (2, .int (nI y))]) hx hb dX2_arrives_24 hl (by decide) rfl (fun ls hl => ?_)
    refine lv_aload_n hx hb dX2_arrives_26 rfl (lv_at hl 2 rfl) ?_
    refine va_get (D := D) (ci := 2) (v := .ref (b 1)) (C := RX2) (T := TX2) (N := 7) hx hb hw2 (fun _ h => h) hown hK hP 0 rfl rfl 3 (by decide) k16 (fun _ h9 => h9) rfl dX2_arrives_27 ?_
    refine lv_sipush (v := 148) hx hb dX2_arrives_30 (by decide) ?_
    refine lv_iload_n hx hb dX2_arrives_33 rfl (lv_at hl 3 rfl) ?_
    refine lv_iload_n hx hb dX2_arrives_34 rfl (lv_at hl 4 rfl) ?_
    refine wCSi (pre := ([] : va_W)) (Wc := ([] : va_W)) (suf := MC cI b g nw kp) (As := [.int (nI x), .int (nI y)]) (rest := [.int 148, .ref (b 1)]) ⟨hx, hb, hml, hown, hts⟩ (mX2_pair l D cI x y _) hN hA hK hS hP hD rfl (va_cwS 2 hts gX2_arrives_X2_pair rfl rfl rfl (by decide +kernel) ⟨Nat.le_of_ble_eq_true rfl, Nat.le_of_ble_eq_true rfl⟩) rfl hl.1 rfl (Nat.le_of_ble_eq_true rfl) dX2_arrives_35 ⟨Nat.zero_le _, Nat.zero_le _⟩ (fun r_35 u_35 H locs hw hP hD hS => ?_)
    have hw : r_35 = nI (10 * x + y) := hw
    subst hw
    have hP : va_P D vwCl (MC cI b g nw kp) H := hP
    have hD : va_D A (MC cI b g nw kp) := hD
    refine lv_iadd hx hb dX2_arrives_38 ?_
    refine wTop (z := nI (148 + (10 * x + y))) (nI_add 148 (10 * x + y)) ?_
    refine lv_iconst (v := 0) hx hb dX2_arrives_39 (by decide) ?_
    refine wIast hx hb hK hP hD hS 1 0 rfl rfl (148 + (10 * x + y)) rfl (by omega) (by decide) dX2_arrives_40 (fun H locs hP hD hS => ?_)
    have hP : va_P D vwCl (MC cI b g (upd nw (148 + (10 * x + y)) 0) kp) H := hP
    have hD : va_D A (MC cI b g (upd nw (148 + (10 * x + y)) 0) kp) := hD
    refine lv_aload_n hx hb dX2_arrives_41 rfl (lv_at hl 2 rfl) ?_
    refine va_get (D := D) (ci := 2) (v := .int (g 5)) (C := RX2) (T := TX2) (N := 7) hx hb hw2 (fun _ h => h) hown hK hP 0 rfl rfl 5 (by decide) k23 (fun _ h9 => h9) rfl dX2_arrives_42 ?_
    refine lv_iload_n hx hb dX2_arrives_45 rfl (lv_at hl 3 rfl) ?_
    refine lv_iload_n hx hb dX2_arrives_46 rfl (lv_at hl 4 rfl) ?_
    refine wCSi (pre := ([] : va_W)) (Wc := ([] : va_W)) (suf := MC cI b g (upd nw (148 + (10 * x + y)) 0) kp) (As := [.int (nI x), .int (nI y)]) (rest := [.int (g 5)]) ⟨hx, hb, hml, hown, hts⟩ (mX2_pair l D cI x y _) hN hA hK hS hP hD rfl (va_cwS 2 hts gX2_arrives_X2_pair rfl rfl rfl (by decide +kernel) ⟨Nat.le_of_ble_eq_true rfl, Nat.le_of_ble_eq_true rfl⟩) rfl hl.1 rfl (Nat.le_of_ble_eq_true rfl) dX2_arrives_47 ⟨Nat.zero_le _, Nat.zero_le _⟩ (fun r_47 u_47 H locs hw hP hD hS => ?_)
    have hw : r_47 = nI (10 * x + y) := hw
    subst hw
    have hP : va_P D vwCl (MC cI b g (upd nw (148 + (10 * x + y)) 0) kp) H := hP
    have hD : va_D A (MC cI b g (upd nw (148 + (10 * x + y)) 0) kp) := hD
    refine lv_icmp_eq (tgt := 66) hx hb dX2_arrives_50 (by decide) (fun c_50 => ?_) (fun c_50 => ?_)
    · refine lv_aload_n hx hb dX2_arrives_66 rfl (lv_at hl 2 rfl) ?_
      refine lv_iload hx hb dX2_arrives_67 (lv_at hl 0 rfl) ?_
      refine lv_if_eq (tgt := 76) hx hb dX2_arrives_69 (by decide) (fun h9 => absurd h9 (by decide)) (fun c_69 => ?_)
      refine lv_iconst (v := 3) hx hb dX2_arrives_72 (by decide) ?_
      refine lv_goto (tgt := 91) hx hb dX2_arrives_73 (by decide) ?_
      refine va_put (D := D) (ci := 2) (v := .int 3) (ty := .int) (C := RX2) (T := TX2) (N := 7) hx hb hw2 (fun _ h => h) tyX2 tyX2_ok nmX2 hown hK hP hD hS 0 rfl rfl 6 (by decide) k59 (fun _ h9 => h9) rfl (by decide +kernel) rfl rfl (Nat.le_of_ble_eq_true rfl) dX2_arrives_91 (fun H locs hP hD hS => ?_)
      have hP : va_P D vwCl (MC cI b (upd g 6 3) (upd nw (148 + (10 * x + y)) 0) kp) H := hP
      have hD : va_D A (MC cI b (upd g 6 3) (upd nw (148 + (10 * x + y)) 0) kp) := hD
      refine lv_iload hx hb dX2_arrives_94 (lv_at hl 0 rfl) ?_
      refine lv_if_eq (tgt := 159) hx hb dX2_arrives_96 (by decide) (fun h9 => absurd h9 (by decide)) (fun c_96 => ?_)
      refine lv_aload_n hx hb dX2_arrives_99 rfl (lv_at hl 2 rfl) ?_
      refine va_get (D := D) (ci := 2) (v := .ref (b 1)) (C := RX2) (T := TX2) (N := 7) hx hb hw2 (fun _ h => h) hown hK hP 0 rfl rfl 3 (by decide) k16 (fun _ h9 => h9) rfl dX2_arrives_100 ?_
      refine lv_sipush (v := 148) hx hb dX2_arrives_103 (by decide) ?_
      refine lv_iload_n hx hb dX2_arrives_106 rfl (lv_at hl 1 rfl) ?_
      refine lv_iadd hx hb dX2_arrives_107 ?_
      refine wTop (z := nI (148 + (10 * y + x))) (nI_add 148 (10 * y + x)) ?_
      refine lv_iconst (v := 0) hx hb dX2_arrives_108 (by decide) ?_
      refine wIast hx hb hK hP hD hS 1 0 rfl rfl (148 + (10 * y + x)) rfl (by omega) (by decide) dX2_arrives_109 (fun H locs hP hD hS => ?_)
      have hP : va_P D vwCl (MC cI b (upd g 6 3) (upd (upd nw (148 + (10 * x + y)) 0) (148 + (10 * y + x)) 0) kp) H := hP
      have hD : va_D A (MC cI b (upd g 6 3) (upd (upd nw (148 + (10 * x + y)) 0) (148 + (10 * y + x)) 0) kp) := hD
      refine lv_aload_n hx hb dX2_arrives_110 rfl (lv_at hl 2 rfl) ?_
      refine va_get (D := D) (ci := 2) (v := .ref (b 1)) (C := RX2) (T := TX2) (N := 7) hx hb hw2 (fun _ h => h) hown hK hP 0 rfl rfl 3 (by decide) k16 (fun _ h9 => h9) rfl dX2_arrives_111 ?_
      refine lv_bipush (v := 48) hx hb dX2_arrives_114 (by decide) ?_
      refine lv_iload_n hx hb dX2_arrives_116 rfl (lv_at hl 1 rfl) ?_
      refine lv_iadd hx hb dX2_arrives_117 ?_
      refine wTop (z := nI (48 + (10 * y + x))) (nI_add 48 (10 * y + x)) ?_
      refine lv_iconst (v := 0) hx hb dX2_arrives_118 (by decide) ?_
      refine wIast hx hb hK hP hD hS 1 0 rfl rfl (48 + (10 * y + x)) rfl (by omega) (by decide) dX2_arrives_119 (fun H locs hP hD hS => ?_)
      have hP : va_P D vwCl (MC cI b (upd g 6 3) (upd (upd (upd nw (148 + (10 * x + y)) 0) (148 + (10 * y + x)) 0) (48 + (10 * y + x)) 0) kp) H := hP
      have hD : va_D A (MC cI b (upd g 6 3) (upd (upd (upd nw (148 + (10 * x + y)) 0) (148 + (10 * y + x)) 0) (48 + (10 * y + x)) 0) kp) := hD
      refine lv_aload_n hx hb dX2_arrives_120 rfl (lv_at hl 2 rfl) ?_
      refine va_get (D := D) (ci := 2) (v := .ref (b 1)) (C := RX2) (T := TX2) (N := 7) hx hb hw2 (fun _ h => h) hown hK hP 0 rfl rfl 3 (by decide) k16 (fun _ h9 => h9) rfl dX2_arrives_121 ?_
      refine lv_bipush (v := 38) hx hb dX2_arrives_124 (by decide) ?_
      refine lv_iload_n hx hb dX2_arrives_126 rfl (lv_at hl 3 rfl) ?_
      refine lv_iadd hx hb dX2_arrives_127 ?_
      refine wTop (z := nI (38 + x)) (nI_add 38 x) ?_
      refine lv_dup2_11 hx hb dX2_arrives_128 rfl rfl ?_
      refine wIald hx hb hK hP 1 0 rfl rfl (38 + x) rfl (by omega) (by decide) dX2_arrives_129 ?_
      refine lv_iconst (v := 3) hx hb dX2_arrives_130 (by decide) ?_
      refine lv_iadd hx hb dX2_arrives_131 ?_
      refine wIast hx hb hK hP hD hS 1 0 rfl rfl (38 + x) rfl (by omega) (by decide) dX2_arrives_132 (fun H locs hP hD hS => ?_)
      have hP : va_P D vwCl (MC cI b (upd g 6 3) (mAdd (upd (upd (upd nw (148 + (10 * x + y)) 0) (148 + (10 * y + x)) 0) (48 + (10 * y + x)) 0) (38 + x) 3) kp) H := hP
      have hD : va_D A (MC cI b (upd g 6 3) (mAdd (upd (upd (upd nw (148 + (10 * x + y)) 0) (148 + (10 * y + x)) 0) (48 + (10 * y + x)) 0) (38 + x) 3) kp) := hD
      refine lv_aload_n hx hb dX2_arrives_133 rfl (lv_at hl 2 rfl) ?_
      refine va_get (D := D) (ci := 2) (v := .ref (b 1)) (C := RX2) (T := TX2) (N := 7) hx hb hw2 (fun _ h => h) hown hK hP 0 rfl rfl 3 (by decide) k16 (fun _ h9 => h9) rfl dX2_arrives_134 ?_
      refine lv_bipush (v := 38) hx hb dX2_arrives_137 (by decide) ?_
      refine lv_iload_n hx hb dX2_arrives_139 rfl (lv_at hl 4 rfl) ?_
      refine lv_iadd hx hb dX2_arrives_140 ?_
      refine wTop (z := nI (38 + y)) (nI_add 38 y) ?_
      refine lv_dup2_11 hx hb dX2_arrives_141 rfl rfl ?_
      refine wIald hx hb hK hP 1 0 rfl rfl (38 + y) rfl (by omega) (by decide) dX2_arrives_142 ?_
      refine lv_iconst (v := 3) hx hb dX2_arrives_143 (by decide) ?_
      refine lv_iadd hx hb dX2_arrives_144 ?_
      refine wIast hx hb hK hP hD hS 1 0 rfl rfl (38 + y) rfl (by omega) (by decide) dX2_arrives_145 (fun H locs hP hD hS => ?_)
      have hP : va_P D vwCl (MC cI b (upd g 6 3) (mAdd (mAdd (upd (upd (upd nw (148 + (10 * x + y)) 0) (148 + (10 * y + x)) 0) (48 + (10 * y + x)) 0) (38 + x) 3) (38 + y) 3) kp) H := hP
      have hD : va_D A (MC cI b (upd g 6 3) (mAdd (mAdd (upd (upd (upd nw (148 + (10 * x + y)) 0) (148 + (10 * y + x)) 0) (48 + (10 * y + x)) 0) (38 + x) 3) (38 + y) 3) kp) := hD
      refine lv_aload_n hx hb dX2_arrives_146 rfl (lv_at hl 2 rfl) ?_
      refine va_get (D := D) (ci := 2) (v := .ref (b 1)) (C := RX2) (T := TX2) (N := 7) hx hb hw2 (fun _ h => h) hown hK hP 0 rfl rfl 3 (by decide) k16 (fun _ h9 => h9) rfl dX2_arrives_147 ?_
      refine lv_iconst (v := 5) hx hb dX2_arrives_150 (by decide) ?_
      refine lv_dup2_11 hx hb dX2_arrives_151 rfl rfl ?_
      refine wIald hx hb hK hP 1 0 rfl rfl 5 rfl (by decide) (by decide) dX2_arrives_152 ?_
      refine lv_iconst (v := 1) hx hb dX2_arrives_153 (by decide) ?_
      refine lv_iadd hx hb dX2_arrives_154 ?_
      refine wIast hx hb hK hP hD hS 1 0 rfl rfl 5 rfl (by decide) (by decide) dX2_arrives_155 (fun H locs hP hD hS => ?_)
      have hP : va_P D vwCl (MC cI b (upd g 6 3) (mAdd (mAdd (mAdd (upd (upd (upd nw (148 + (10 * x + y)) 0) (148 + (10 * y + x)) 0) (48 + (10 * y + x)) 0) (38 + x) 3) (38 + y) 3) 5 1) kp) H := hP
      have hD : va_D A (MC cI b (upd g 6 3) (mAdd (mAdd (mAdd (upd (upd (upd nw (148 + (10 * x + y)) 0) (148 + (10 * y + x)) 0) (48 + (10 * y + x)) 0) (38 + x) 3) (38 + y) 3) 5 1) kp) := hD
      refine lv_goto (tgt := 214) hx hb dX2_arrives_156 (by decide) ?_
      exact wRv hQ hx hb hr hlocks hP hD hS dX2_arrives_214 (mAdd (mAdd (mAdd (upd (upd (upd nw (148 + (10 * x + y)) 0) (148 + (10 * y + x)) 0) (48 + (10 * y + x)) 0) (38 + x) 3) (38 + y) 3) 5 1, 3) (by simp only [mArr, mEnd, if_pos (Int32.not_le.mp c_16), if_pos c_50, if_neg c_69, if_neg c_96]) rfl
    · refine lv_iload hx hb dX2_arrives_53 (lv_at hl 0 rfl) ?_
      refine lv_if_eq (tgt := 94) hx hb dX2_arrives_55 (by decide) (fun h9 => absurd h9 (by decide)) (fun c_55 => ?_)
      refine lv_aload_n hx hb dX2_arrives_58 rfl (lv_at hl 2 rfl) ?_
      refine va_get (D := D) (ci := 2) (v := .int (g 5)) (C := RX2) (T := TX2) (N := 7) hx hb hw2 (fun _ h => h) hown hK hP 0 rfl rfl 5 (by decide) k23 (fun _ h9 => h9) rfl dX2_arrives_59 ?_
      refine lv_iload_n hx hb dX2_arrives_62 rfl (lv_at hl 1 rfl) ?_
      refine lv_icmp_ne (tgt := 94) hx hb dX2_arrives_63 (by decide) (fun c_63 => ?_) (fun c_63 => ?_)
      · refine lv_iload hx hb dX2_arrives_94 (lv_at hl 0 rfl) ?_
        refine lv_if_eq (tgt := 159) hx hb dX2_arrives_96 (by decide) (fun h9 => absurd h9 (by decide)) (fun c_96 => ?_)
        refine lv_aload_n hx hb dX2_arrives_99 rfl (lv_at hl 2 rfl) ?_
        refine va_get (D := D) (ci := 2) (v := .ref (b 1)) (C := RX2) (T := TX2) (N := 7) hx hb hw2 (fun _ h => h) hown hK hP 0 rfl rfl 3 (by decide) k16 (fun _ h9 => h9) rfl dX2_arrives_100 ?_
        refine lv_sipush (v := 148) hx hb dX2_arrives_103 (by decide) ?_
        refine lv_iload_n hx hb dX2_arrives_106 rfl (lv_at hl 1 rfl) ?_
        refine lv_iadd hx hb dX2_arrives_107 ?_
        refine wTop (z := nI (148 + (10 * y + x))) (nI_add 148 (10 * y + x)) ?_
        refine lv_iconst (v := 0) hx hb dX2_arrives_108 (by decide) ?_
        refine wIast hx hb hK hP hD hS 1 0 rfl rfl (148 + (10 * y + x)) rfl (by omega) (by decide) dX2_arrives_109 (fun H locs hP hD hS => ?_)
        have hP : va_P D vwCl (MC cI b g (upd (upd nw (148 + (10 * x + y)) 0) (148 + (10 * y + x)) 0) kp) H := hP
        have hD : va_D A (MC cI b g (upd (upd nw (148 + (10 * x + y)) 0) (148 + (10 * y + x)) 0) kp) := hD
        refine lv_aload_n hx hb dX2_arrives_110 rfl (lv_at hl 2 rfl) ?_
        refine va_get (D := D) (ci := 2) (v := .ref (b 1)) (C := RX2) (T := TX2) (N := 7) hx hb hw2 (fun _ h => h) hown hK hP 0 rfl rfl 3 (by decide) k16 (fun _ h9 => h9) rfl dX2_arrives_111 ?_
        refine lv_bipush (v := 48) hx hb dX2_arrives_114 (by decide) ?_
        refine lv_iload_n hx hb dX2_arrives_116 rfl (lv_at hl 1 rfl) ?_
        refine lv_iadd hx hb dX2_arrives_117 ?_
        refine wTop (z := nI (48 + (10 * y + x))) (nI_add 48 (10 * y + x)) ?_
        refine lv_iconst (v := 0) hx hb dX2_arrives_118 (by decide) ?_
        refine wIast hx hb hK hP hD hS 1 0 rfl rfl (48 + (10 * y + x)) rfl (by omega) (by decide) dX2_arrives_119 (fun H locs hP hD hS => ?_)
        have hP : va_P D vwCl (MC cI b g (upd (upd (upd nw (148 + (10 * x + y)) 0) (148 + (10 * y + x)) 0) (48 + (10 * y + x)) 0) kp) H := hP
        have hD : va_D A (MC cI b g (upd (upd (upd nw (148 + (10 * x + y)) 0) (148 + (10 * y + x)) 0) (48 + (10 * y + x)) 0) kp) := hD
        refine lv_aload_n hx hb dX2_arrives_120 rfl (lv_at hl 2 rfl) ?_
        refine va_get (D := D) (ci := 2) (v := .ref (b 1)) (C := RX2) (T := TX2) (N := 7) hx hb hw2 (fun _ h => h) hown hK hP 0 rfl rfl 3 (by decide) k16 (fun _ h9 => h9) rfl dX2_arrives_121 ?_
        refine lv_bipush (v := 38) hx hb dX2_arrives_124 (by decide) ?_
        refine lv_iload_n hx hb dX2_arrives_126 rfl (lv_at hl 3 rfl) ?_
        refine lv_iadd hx hb dX2_arrives_127 ?_
        refine wTop (z := nI (38 + x)) (nI_add 38 x) ?_
        refine lv_dup2_11 hx hb dX2_arrives_128 rfl rfl ?_
        refine wIald hx hb hK hP 1 0 rfl rfl (38 + x) rfl (by omega) (by decide) dX2_arrives_129 ?_
        refine lv_iconst (v := 3) hx hb dX2_arrives_130 (by decide) ?_
        refine lv_iadd hx hb dX2_arrives_131 ?_
        refine wIast hx hb hK hP hD hS 1 0 rfl rfl (38 + x) rfl (by omega) (by decide) dX2_arrives_132 (fun H locs hP hD hS => ?_)
        have hP : va_P D vwCl (MC cI b g (mAdd (upd (upd (upd nw (148 + (10 * x + y)) 0) (148 + (10 * y + x)) 0) (48 + (10 * y + x)) 0) (38 + x) 3) kp) H := hP
        have hD : va_D A (MC cI b g (mAdd (upd (upd (upd nw (148 + (10 * x + y)) 0) (148 + (10 * y + x)) 0) (48 + (10 * y + x)) 0) (38 + x) 3) kp) := hD
        refine lv_aload_n hx hb dX2_arrives_133 rfl (lv_at hl 2 rfl) ?_
        refine va_get (D := D) (ci := 2) (v := .ref (b 1)) (C := RX2) (T := TX2) (N := 7) hx hb hw2 (fun _ h => h) hown hK hP 0 rfl rfl 3 (by decide) k16 (fun _ h9 => h9) rfl dX2_arrives_134 ?_
        refine lv_bipush (v := 38) hx hb dX2_arrives_137 (by decide) ?_
        refine lv_iload_n hx hb dX2_arrives_139 rfl (lv_at hl 4 rfl) ?_
        refine lv_iadd hx hb dX2_arrives_140 ?_
        refine wTop (z := nI (38 + y)) (nI_add 38 y) ?_
        refine lv_dup2_11 hx hb dX2_arrives_141 rfl rfl ?_
        refine wIald hx hb hK hP 1 0 rfl rfl (38 + y) rfl (by omega) (by decide) dX2_arrives_142 ?_
        refine lv_iconst (v := 3) hx hb dX2_arrives_143 (by decide) ?_
        refine lv_iadd hx hb dX2_arrives_144 ?_
        refine wIast hx hb hK hP hD hS 1 0 rfl rfl (38 + y) rfl (by omega) (by decide) dX2_arrives_145 (fun H locs hP hD hS => ?_)
        have hP : va_P D vwCl (MC cI b g (mAdd (mAdd (upd (upd (upd nw (148 + (10 * x + y)) 0) (148 + (10 * y + x)) 0) (48 + (10 * y + x)) 0) (38 + x) 3) (38 + y) 3) kp) H := hP
        have hD : va_D A (MC cI b g (mAdd (mAdd (upd (upd (upd nw (148 + (10 * x + y)) 0) (148 + (10 * y + x)) 0) (48 + (10 * y + x)) 0) (38 + x) 3) (38 + y) 3) kp) := hD
        refine lv_aload_n hx hb dX2_arrives_146 rfl (lv_at hl 2 rfl) ?_
        refine va_get (D := D) (ci := 2) (v := .ref (b 1)) (C := RX2) (T := TX2) (N := 7) hx hb hw2 (fun _ h => h) hown hK hP 0 rfl rfl 3 (by decide) k16 (fun _ h9 => h9) rfl dX2_arrives_147 ?_
        refine lv_iconst (v := 5) hx hb dX2_arrives_150 (by decide) ?_
        refine lv_dup2_11 hx hb dX2_arrives_151 rfl rfl ?_
        refine wIald hx hb hK hP 1 0 rfl rfl 5 rfl (by decide) (by decide) dX2_arrives_152 ?_
        refine lv_iconst (v := 1) hx hb dX2_arrives_153 (by decide) ?_
        refine lv_iadd hx hb dX2_arrives_154 ?_
        refine wIast hx hb hK hP hD hS 1 0 rfl rfl 5 rfl (by decide) (by decide) dX2_arrives_155 (fun H locs hP hD hS => ?_)
        have hP : va_P D vwCl (MC cI b g (mAdd (mAdd (mAdd (upd (upd (upd nw (148 + (10 * x + y)) 0) (148 + (10 * y + x)) 0) (48 + (10 * y + x)) 0) (38 + x) 3) (38 + y) 3) 5 1) kp) H := hP
        have hD : va_D A (MC cI b g (mAdd (mAdd (mAdd (upd (upd (upd nw (148 + (10 * x + y)) 0) (148 + (10 * y + x)) 0) (48 + (10 * y + x)) 0) (38 + x) 3) (38 + y) 3) 5 1) kp) := hD
        refine lv_goto (tgt := 214) hx hb dX2_arrives_156 (by decide) ?_
        exact wRv hQ hx hb hr hlocks hP hD hS dX2_arrives_214 (mAdd (mAdd (mAdd (upd (upd (upd nw (148 + (10 * x + y)) 0) (148 + (10 * y + x)) 0) (48 + (10 * y + x)) 0) (38 + x) 3) (38 + y) 3) 5 1, g 6) (by simp only [mArr, mEnd, if_pos (Int32.not_le.mp c_16), if_neg c_50, if_neg c_55, if_neg c_63, if_neg c_96]) rfl
      · refine lv_aload_n hx hb dX2_arrives_66 rfl (lv_at hl 2 rfl) ?_
        refine lv_iload hx hb dX2_arrives_67 (lv_at hl 0 rfl) ?_
        refine lv_if_eq (tgt := 76) hx hb dX2_arrives_69 (by decide) (fun h9 => absurd h9 (by decide)) (fun c_69 => ?_)
        refine lv_iconst (v := 3) hx hb dX2_arrives_72 (by decide) ?_
        refine lv_goto (tgt := 91) hx hb dX2_arrives_73 (by decide) ?_
        refine va_put (D := D) (ci := 2) (v := .int 3) (ty := .int) (C := RX2) (T := TX2) (N := 7) hx hb hw2 (fun _ h => h) tyX2 tyX2_ok nmX2 hown hK hP hD hS 0 rfl rfl 6 (by decide) k59 (fun _ h9 => h9) rfl (by decide +kernel) rfl rfl (Nat.le_of_ble_eq_true rfl) dX2_arrives_91 (fun H locs hP hD hS => ?_)
        have hP : va_P D vwCl (MC cI b (upd g 6 3) (upd nw (148 + (10 * x + y)) 0) kp) H := hP
        have hD : va_D A (MC cI b (upd g 6 3) (upd nw (148 + (10 * x + y)) 0) kp) := hD
        refine lv_iload hx hb dX2_arrives_94 (lv_at hl 0 rfl) ?_
        refine lv_if_eq (tgt := 159) hx hb dX2_arrives_96 (by decide) (fun h9 => absurd h9 (by decide)) (fun c_96 => ?_)
        refine lv_aload_n hx hb dX2_arrives_99 rfl (lv_at hl 2 rfl) ?_
        refine va_get (D := D) (ci := 2) (v := .ref (b 1)) (C := RX2) (T := TX2) (N := 7) hx hb hw2 (fun _ h => h) hown hK hP 0 rfl rfl 3 (by decide) k16 (fun _ h9 => h9) rfl dX2_arrives_100 ?_
        refine lv_sipush (v := 148) hx hb dX2_arrives_103 (by decide) ?_
        refine lv_iload_n hx hb dX2_arrives_106 rfl (lv_at hl 1 rfl) ?_
        refine lv_iadd hx hb dX2_arrives_107 ?_
        refine wTop (z := nI (148 + (10 * y + x))) (nI_add 148 (10 * y + x)) ?_
        refine lv_iconst (v := 0) hx hb dX2_arrives_108 (by decide) ?_
        refine wIast hx hb hK hP hD hS 1 0 rfl rfl (148 + (10 * y + x)) rfl (by omega) (by decide) dX2_arrives_109 (fun H locs hP hD hS => ?_)
        have hP : va_P D vwCl (MC cI b (upd g 6 3) (upd (upd nw (148 + (10 * x + y)) 0) (148 + (10 * y + x)) 0) kp) H := hP
        have hD : va_D A (MC cI b (upd g 6 3) (upd (upd nw (148 + (10 * x + y)) 0) (148 + (10 * y + x)) 0) kp) := hD
        refine lv_aload_n hx hb dX2_arrives_110 rfl (lv_at hl 2 rfl) ?_
        refine va_get (D := D) (ci := 2) (v := .ref (b 1)) (C := RX2) (T := TX2) (N := 7) hx hb hw2 (fun _ h => h) hown hK hP 0 rfl rfl 3 (by decide) k16 (fun _ h9 => h9) rfl dX2_arrives_111 ?_
        refine lv_bipush (v := 48) hx hb dX2_arrives_114 (by decide) ?_
        refine lv_iload_n hx hb dX2_arrives_116 rfl (lv_at hl 1 rfl) ?_
        refine lv_iadd hx hb dX2_arrives_117 ?_
        refine wTop (z := nI (48 + (10 * y + x))) (nI_add 48 (10 * y + x)) ?_
        refine lv_iconst (v := 0) hx hb dX2_arrives_118 (by decide) ?_
        refine wIast hx hb hK hP hD hS 1 0 rfl rfl (48 + (10 * y + x)) rfl (by omega) (by decide) dX2_arrives_119 (fun H locs hP hD hS => ?_)
        have hP : va_P D vwCl (MC cI b (upd g 6 3) (upd (upd (upd nw (148 + (10 * x + y)) 0) (148 + (10 * y + x)) 0) (48 + (10 * y + x)) 0) kp) H := hP
        have hD : va_D A (MC cI b (upd g 6 3) (upd (upd (upd nw (148 + (10 * x + y)) 0) (148 + (10 * y + x)) 0) (48 + (10 * y + x)) 0) kp) := hD
        refine lv_aload_n hx hb dX2_arrives_120 rfl (lv_at hl 2 rfl) ?_
        refine va_get (D := D) (ci := 2) (v := .ref (b 1)) (C := RX2) (T := TX2) (N := 7) hx hb hw2 (fun _ h => h) hown hK hP 0 rfl rfl 3 (by decide) k16 (fun _ h9 => h9) rfl dX2_arrives_121 ?_
        refine lv_bipush (v := 38) hx hb dX2_arrives_124 (by decide) ?_
        refine lv_iload_n hx hb dX2_arrives_126 rfl (lv_at hl 3 rfl) ?_
        refine lv_iadd hx hb dX2_arrives_127 ?_
        refine wTop (z := nI (38 + x)) (nI_add 38 x) ?_
        refine lv_dup2_11 hx hb dX2_arrives_128 rfl rfl ?_
        refine wIald hx hb hK hP 1 0 rfl rfl (38 + x) rfl (by omega) (by decide) dX2_arrives_129 ?_
        refine lv_iconst (v := 3) hx hb dX2_arrives_130 (by decide) ?_
        refine lv_iadd hx hb dX2_arrives_131 ?_
        refine wIast hx hb hK hP hD hS 1 0 rfl rfl (38 + x) rfl (by omega) (by decide) dX2_arrives_132 (fun H locs hP hD hS => ?_)
        have hP : va_P D vwCl (MC cI b (upd g 6 3) (mAdd (upd (upd (upd nw (148 + (10 * x + y)) 0) (148 + (10 * y + x)) 0) (48 + (10 * y + x)) 0) (38 + x) 3) kp) H := hP
        have hD : va_D A (MC cI b (upd g 6 3) (mAdd (upd (upd (upd nw (148 + (10 * x + y)) 0) (148 + (10 * y + x)) 0) (48 + (10 * y + x)) 0) (38 + x) 3) kp) := hD
        refine lv_aload_n hx hb dX2_arrives_133 rfl (lv_at hl 2 rfl) ?_
        refine va_get (D := D) (ci := 2) (v := .ref (b 1)) (C := RX2) (T := TX2) (N := 7) hx hb hw2 (fun _ h => h) hown hK hP 0 rfl rfl 3 (by decide) k16 (fun _ h9 => h9) rfl dX2_arrives_134 ?_
        refine lv_bipush (v := 38) hx hb dX2_arrives_137 (by decide) ?_
        refine lv_iload_n hx hb dX2_arrives_139 rfl (lv_at hl 4 rfl) ?_
        refine lv_iadd hx hb dX2_arrives_140 ?_
        refine wTop (z := nI (38 + y)) (nI_add 38 y) ?_
        refine lv_dup2_11 hx hb dX2_arrives_141 rfl rfl ?_
        refine wIald hx hb hK hP 1 0 rfl rfl (38 + y) rfl (by omega) (by decide) dX2_arrives_142 ?_
        refine lv_iconst (v := 3) hx hb dX2_arrives_143 (by decide) ?_
        refine lv_iadd hx hb dX2_arrives_144 ?_
        refine wIast hx hb hK hP hD hS 1 0 rfl rfl (38 + y) rfl (by omega) (by decide) dX2_arrives_145 (fun H locs hP hD hS => ?_)
        have hP : va_P D vwCl (MC cI b (upd g 6 3) (mAdd (mAdd (upd (upd (upd nw (148 + (10 * x + y)) 0) (148 + (10 * y + x)) 0) (48 + (10 * y + x)) 0) (38 + x) 3) (38 + y) 3) kp) H := hP
        have hD : va_D A (MC cI b (upd g 6 3) (mAdd (mAdd (upd (upd (upd nw (148 + (10 * x + y)) 0) (148 + (10 * y + x)) 0) (48 + (10 * y + x)) 0) (38 + x) 3) (38 + y) 3) kp) := hD
        refine lv_aload_n hx hb dX2_arrives_146 rfl (lv_at hl 2 rfl) ?_
        refine va_get (D := D) (ci := 2) (v := .ref (b 1)) (C := RX2) (T := TX2) (N := 7) hx hb hw2 (fun _ h => h) hown hK hP 0 rfl rfl 3 (by decide) k16 (fun _ h9 => h9) rfl dX2_arrives_147 ?_
        refine lv_iconst (v := 5) hx hb dX2_arrives_150 (by decide) ?_
        refine lv_dup2_11 hx hb dX2_arrives_151 rfl rfl ?_
        refine wIald hx hb hK hP 1 0 rfl rfl 5 rfl (by decide) (by decide) dX2_arrives_152 ?_
        refine lv_iconst (v := 1) hx hb dX2_arrives_153 (by decide) ?_
        refine lv_iadd hx hb dX2_arrives_154 ?_
        refine wIast hx hb hK hP hD hS 1 0 rfl rfl 5 rfl (by decide) (by decide) dX2_arrives_155 (fun H locs hP hD hS => ?_)
        have hP : va_P D vwCl (MC cI b (upd g 6 3) (mAdd (mAdd (mAdd (upd (upd (upd nw (148 + (10 * x + y)) 0) (148 + (10 * y + x)) 0) (48 + (10 * y + x)) 0) (38 + x) 3) (38 + y) 3) 5 1) kp) H := hP
        have hD : va_D A (MC cI b (upd g 6 3) (mAdd (mAdd (mAdd (upd (upd (upd nw (148 + (10 * x + y)) 0) (148 + (10 * y + x)) 0) (48 + (10 * y + x)) 0) (38 + x) 3) (38 + y) 3) 5 1) kp) := hD
        refine lv_goto (tgt := 214) hx hb dX2_arrives_156 (by decide) ?_
        exact wRv hQ hx hb hr hlocks hP hD hS dX2_arrives_214 (mAdd (mAdd (mAdd (upd (upd (upd nw (148 + (10 * x + y)) 0) (148 + (10 * y + x)) 0) (48 + (10 * y + x)) 0) (38 + x) 3) (38 + y) 3) 5 1, 3) (by simp only [mArr, mEnd, if_pos (Int32.not_le.mp c_16), if_neg c_50, if_neg c_55, if_pos c_63, if_neg c_69, if_neg c_96]) rfl
abbrev rmX2_fly : Room := { frames := 2, cells := 0, slots := 0, locals := 45 }
set_option maxRecDepth 100000 in
set_option maxHeartbeats 4000000 in
/-- fly -/
theorem mX2_fly (l : Launch) (D : va_G) (cI : ClassId) (b : Nat → Nat) (g nw kp : Nat → Int32) (sz : Nat) : wCt l yX2_fly wsX2_fly rmX2_fly D [(cI, .int)] [.ref (b 0)] (MC cI b g nw kp) sz 0 0 (wQv D (fun u : mS => u = mFly (g 5) (nw, g 6)) (fun u : mS => MC cI b (upd g 6 u.2) u.1 kp)) := by
  refine wMet cX2_fly 3 none (by decide) rfl (Nat.le_of_ble_eq_true rfl) ?_
  intro p e s m args below meth c A Q ls hQ hx hb hr hml hown hlocks hin hts hN hP hK hD hA hS hl
  have hl : lv_has ls 3 [(0, .ref (b 0))] := hl
  have hown : s.vm.findClass RX2 = some m.cls := hown
  have hw2 : ∀ w ∈ wsX20, w.before args s = true := fun w h => hts w (List.mem_cons_of_mem _ (List.mem_append_right _ h))
  have k16 := hts (.fieldLink RX2 16 "PauseLedgerModel" "now" "[I") (by decide +kernel)
  refine lv_iconst (v := 0) hx hb dX2_fly_0 (by decide) ?_
  refine lv_istore_n (lv' := [(1, .int 0), (0, .ref (b 0))]) hx hb dX2_fly_1 rfl hl (by decide) rfl (fun ls hl => ?_)
  have loop2 : ∀ (j i2 : Nat), i2 + j = 100 → ∀ (H : Heap) (locs : List Loc) (ls : Array Slot), va_P D vwCl (MC cI b g (mDec nw i2) kp) H → va_D A (MC cI b g (mDec nw i2) kp) → va_S A s.heap H locs → lv_has ls 3 [(1, .int (nI i2)), (0, .ref (b 0))] → W p l e rmX2_fly s m args below meth c H locs 0 0 Q (F0 m 2 ls []) := by
    intro j
    induction j with
    | zero =>
      intro i2 hi2 H locs ls hP hD hS hl
      have ez : 100 = i2 := by omega
      subst ez
      refine lv_iload_n hx hb dX2_fly_2 rfl (lv_at hl 0 rfl) ?_
      refine lv_bipush (v := 100) hx hb dX2_fly_3 (by decide) ?_
      refine lv_icmp_ge (tgt := 40) hx hb dX2_fly_5 (by decide) (fun c_5 => ?_) (fun h9 => absurd (nI_le (a := 100) (b := 100) (by omega) (by omega)) h9)
      have c_5n := (nI_leI (a := 100) (b := 100) (by omega) (by omega)).mp c_5
      refine lv_iconst (v := 0) hx hb dX2_fly_40 (by decide) ?_
      refine lv_istore_n (lv' := [(1, .int 0), (0, .ref (b 0))]) hx hb dX2_fly_41 rfl hl (by decide) rfl (fun ls hl => ?_)
      have wh : ∀ (j : Nat) (s1 : Nat → Int32) (e1 nx : Int32), ¬ nx = -1 → mCnt s1 100 < j → mLoop (g 5) j (s1, e1) = mFly (g 5) (nw, g 6) → ∀ (H : Heap) (locs : List Loc) (ls : Array Slot), va_P D vwCl (MC cI b (upd g 6 e1) s1 kp) H → va_D A (MC cI b (upd g 6 e1) s1 kp) → va_S A s.heap H locs → lv_has ls 3 [(1, .int nx), (0, .ref (b 0))] → W p l e rmX2_fly s m args below meth c H locs 0 0 Q (F0 m 42 ls []) := by
        intro j
        induction j with
        | zero => intro s1 e1 nx _ h; exact absurd h (Nat.not_lt_zero _)
        | succ j ihw =>
          intro s1 e1 nx hnx hc hf H locs ls hP hD hS hl
          refine lv_iload_n hx hb dX2_fly_42 rfl (lv_at hl 0 rfl) ?_
          refine lv_iconst (v := (-1)) hx hb dX2_fly_43 (by decide) ?_
          refine lv_icmp_eq (tgt := 138) hx hb dX2_fly_44 (by decide) (fun h9 => absurd h9 (hnx)) (fun c_44 => ?_)
          refine lv_iconst (v := (-1)) hx hb dX2_fly_47 (by decide) ?_
          refine lv_istore_n (lv' := [(1, .int (-1)), (0, .ref (b 0))]) hx hb dX2_fly_48 rfl hl (by decide) rfl (fun ls hl => ?_)
          refine lv_iconst (v := 0) hx hb dX2_fly_49 (by decide) ?_
          refine lv_istore_n (lv' := [(2, .int 0), (1, .int (-1)), (0, .ref (b 0))]) hx hb dX2_fly_50 rfl hl (by decide) rfl (fun ls hl => ?_)
          have loop51 : ∀ (j i51 : Nat), i51 + j = 100 → ∀ (H : Heap) (locs : List Loc) (ls : Array Slot), va_P D vwCl (MC cI b (upd g 6 e1) s1 kp) H → va_D A (MC cI b (upd g 6 e1) s1 kp) → va_S A s.heap H locs → lv_has ls 3 [(2, .int (nI i51)), (1, .int (mScan s1 i51)), (0, .ref (b 0))] → W p l e rmX2_fly s m args below meth c H locs 0 0 Q (F0 m 51 ls []) := by
            intro j
            induction j with
            | zero =>
              intro i51 hi51 H locs ls hP hD hS hl
              have ez : 100 = i51 := by omega
              subst ez
              refine lv_iload_n hx hb dX2_fly_51 rfl (lv_at hl 0 rfl) ?_
              refine lv_bipush (v := 100) hx hb dX2_fly_52 (by decide) ?_
              refine lv_icmp_ge (tgt := 118) hx hb dX2_fly_54 (by decide) (fun c_54 => ?_) (fun h9 => absurd (nI_le (a := 100) (b := 100) (by omega) (by omega)) h9)
              have c_54n := (nI_leI (a := 100) (b := 100) (by omega) (by omega)).mp c_54
              refine lv_iload_n hx hb dX2_fly_118 rfl (lv_at hl 1 rfl) ?_
              refine lv_iconst (v := (-1)) hx hb dX2_fly_119 (by decide) ?_
              refine lv_icmp_eq (tgt := 42) hx hb dX2_fly_120 (by decide) (fun c_120 => ?_) (fun c_120 => ?_)
              · refine lv_iload_n hx hb dX2_fly_42 rfl (lv_at hl 1 rfl) ?_
                refine lv_iconst (v := (-1)) hx hb dX2_fly_43 (by decide) ?_
                refine lv_icmp_eq (tgt := 138) hx hb dX2_fly_44 (by decide) (fun c_44 => ?_) (fun h9 => absurd (c_120) h9)
                exact wRv hQ hx hb hr hlocks hP hD hS dX2_fly_138 (s1, e1) (by rw [← hf, mLoop, if_pos c_120]) rfl
              · obtain ⟨q, hq, eq, hq1, hq2⟩ := mScan_in c_120
                refine lv_aload_n hx hb dX2_fly_123 rfl (lv_at hl 2 rfl) ?_
                refine lv_iload_n hx hb dX2_fly_124 rfl (lv_at hl 1 rfl) ?_
                refine wTop (z := nI q) (eq) ?_
                refine lv_bipush (v := 10) hx hb dX2_fly_125 (by decide) ?_
                refine lv_idiv hx hb dX2_fly_127 (by decide) ?_
                refine wTop (z := nI (q / 10)) (pk_div (a := q) (d := 10) (by omega) (by decide) (by decide)) ?_
                refine lv_iload_n hx hb dX2_fly_128 rfl (lv_at hl 1 rfl) ?_
                refine wTop (z := nI q) (eq) ?_
                refine lv_bipush (v := 10) hx hb dX2_fly_129 (by decide) ?_
                refine lv_irem hx hb dX2_fly_131 (by decide) ?_
                refine wTop (z := nI (q % 10)) (pk_rem (a := q) (d := 10) (by omega) (by decide) (by decide)) ?_
                refine wCVv (pre := ([] : va_W)) (Wc := MC cI b (upd g 6 e1) s1 kp) (suf := ([] : va_W)) (As := [.int (nI (q / 10)), .int (nI (q % 10))]) (rest := []) ⟨hx, hb, hml, hown, hts⟩ (mX2_arrives l D cI b (upd g 6 e1) s1 kp (q / 10) (q % 10) _ (by omega) (by omega)) hN hA hK hS hP hD rfl 0 (r := (RX2, TX2, 7)) rfl rfl (cwV 2 hts gX2_fly_X2_arrives rfl rfl rfl (by decide +kernel) ⟨Nat.le_of_ble_eq_true rfl, Nat.le_of_ble_eq_true rfl⟩) rfl hl.1 rfl (Nat.le_of_ble_eq_true rfl) dX2_fly_132 ⟨Nat.zero_le _, Nat.zero_le _⟩ (fun u_132 H locs hw hP hD hS => ?_)
                subst hw
                have hP : va_P D vwCl (MC cI b (upd g 6 (mEnd s1 (g 5) e1 (q / 10) (q % 10))) (mArr s1 (q / 10) (q % 10)) kp) H := hP
                have hD : va_D A (MC cI b (upd g 6 (mEnd s1 (g 5) e1 (q / 10) (q % 10))) (mArr s1 (q / 10) (q % 10)) kp) := hD
                refine lv_goto (tgt := 42) hx hb dX2_fly_135 (by decide) ?_
                rw [eq] at hl
                exact ihw _ _ (nI q) (nI_m1 (by omega)) (by have := mArr_cnt hq hq1; omega) (by rw [← hf, mLoop, if_neg c_120]; simp only [mStep, eq, dN_nI (show q < 2 ^ 31 by omega)]) _ _ _ hP hD hS (lv_sub hl [1, 2] rfl)
            | succ j ih51 =>
              intro i51 hi51 H locs ls hP hD hS hl
              refine lv_iload_n hx hb dX2_fly_51 rfl (lv_at hl 0 rfl) ?_
              refine lv_bipush (v := 100) hx hb dX2_fly_52 (by decide) ?_
              refine lv_icmp_ge (tgt := 118) hx hb dX2_fly_54 (by decide) (fun h9 => absurd h9 (nI_ge (b := 100) (by omega) (by omega))) (fun c_54 => ?_)
              have c_54n := mt (nI_leI (a := 100) (b := i51) (by omega) (by omega)).mpr c_54
              refine lv_aload_n hx hb dX2_fly_57 rfl (lv_at hl 2 rfl) ?_
              refine va_get (D := D) (ci := 2) (v := .ref (b 1)) (C := RX2) (T := TX2) (N := 7) hx hb hw2 (fun _ h => h) hown hK hP 0 rfl rfl 3 (by decide) k16 (fun _ h9 => h9) rfl dX2_fly_58 ?_
              refine lv_sipush (v := 148) hx hb dX2_fly_61 (by decide) ?_
              refine lv_iload_n hx hb dX2_fly_64 rfl (lv_at hl 0 rfl) ?_
              refine lv_iadd hx hb dX2_fly_65 ?_
              refine wTop (z := nI (148 + i51)) (nI_add 148 i51) ?_
              refine wIald hx hb hK hP 1 0 rfl rfl (148 + i51) rfl (by omega) (by decide) dX2_fly_66 ?_
              refine lv_if_le (tgt := 112) hx hb dX2_fly_67 (by decide) (fun c_67 => ?_) (fun c_67 => ?_)
              · refine lv_iinc (v := nI (i51 + 1)) (lv' := [(2, .int (nI (i51 + 1))), (1, .int (mScan s1 i51)), (0, .ref (b 0))]) hx hb dX2_fly_112 hl (k := 0) rfl (nI_1 i51) (by decide) rfl (fun ls hl => ?_)
                refine lv_goto (tgt := 51) hx hb dX2_fly_115 (by decide) ?_
                have e51 : mScan s1 (i51 + 1) = mScan s1 i51 := by simp only [mScan, if_neg (Int32.not_lt.mpr c_67)]
                have hl : lv_has ls 3 [(2, .int (nI (i51 + 1))), (1, .int (mScan s1 (i51 + 1))), (0, .ref (b 0))] := by rw [e51]; exact hl
                exact ih51 (i51 + 1) (by omega) _ _ _ hP hD hS (lv_sub hl [0, 1, 2] rfl)
              · refine lv_aload_n hx hb dX2_fly_70 rfl (lv_at hl 2 rfl) ?_
                refine va_get (D := D) (ci := 2) (v := .ref (b 1)) (C := RX2) (T := TX2) (N := 7) hx hb hw2 (fun _ h => h) hown hK hP 0 rfl rfl 3 (by decide) k16 (fun _ h9 => h9) rfl dX2_fly_71 ?_
                refine lv_bipush (v := 48) hx hb dX2_fly_74 (by decide) ?_
                refine lv_iload_n hx hb dX2_fly_76 rfl (lv_at hl 0 rfl) ?_
                refine lv_iadd hx hb dX2_fly_77 ?_
                refine wTop (z := nI (48 + i51)) (nI_add 48 i51) ?_
                refine wIald hx hb hK hP 1 0 rfl rfl (48 + i51) rfl (by omega) (by decide) dX2_fly_78 ?_
                refine lv_if_ne (tgt := 112) hx hb dX2_fly_79 (by decide) (fun c_79 => ?_) (fun c_79 => ?_)
                · refine lv_iinc (v := nI (i51 + 1)) (lv' := [(2, .int (nI (i51 + 1))), (1, .int (mScan s1 i51)), (0, .ref (b 0))]) hx hb dX2_fly_112 hl (k := 0) rfl (nI_1 i51) (by decide) rfl (fun ls hl => ?_)
                  refine lv_goto (tgt := 51) hx hb dX2_fly_115 (by decide) ?_
                  have e51 : mScan s1 (i51 + 1) = mScan s1 i51 := by simp only [mScan, if_pos (Int32.not_le.mp c_67), if_neg c_79]
                  have hl : lv_has ls 3 [(2, .int (nI (i51 + 1))), (1, .int (mScan s1 (i51 + 1))), (0, .ref (b 0))] := by rw [e51]; exact hl
                  exact ih51 (i51 + 1) (by omega) _ _ _ hP hD hS (lv_sub hl [0, 1, 2] rfl)
                · refine lv_iload_n hx hb dX2_fly_82 rfl (lv_at hl 1 rfl) ?_
                  refine lv_iconst (v := (-1)) hx hb dX2_fly_83 (by decide) ?_
                  refine lv_icmp_eq (tgt := 110) hx hb dX2_fly_84 (by decide) (fun c_84 => ?_) (fun c_84 => ?_)
                  · refine lv_iload_n hx hb dX2_fly_110 rfl (lv_at hl 0 rfl) ?_
                    refine lv_istore_n (lv' := [(1, .int (nI i51)), (2, .int (nI i51)), (0, .ref (b 0))]) hx hb dX2_fly_111 rfl hl (by decide) rfl (fun ls hl => ?_)
                    refine lv_iinc (v := nI (i51 + 1)) (lv' := [(2, .int (nI (i51 + 1))), (1, .int (nI i51)), (0, .ref (b 0))]) hx hb dX2_fly_112 hl (k := 1) rfl (nI_1 i51) (by decide) rfl (fun ls hl => ?_)
                    refine lv_goto (tgt := 51) hx hb dX2_fly_115 (by decide) ?_
                    have e51 : mScan s1 (i51 + 1) = nI i51 := by simp only [mScan, if_pos (Int32.not_le.mp c_67), if_pos c_79, if_pos c_84]
                    have hl : lv_has ls 3 [(2, .int (nI (i51 + 1))), (1, .int (mScan s1 (i51 + 1))), (0, .ref (b 0))] := by rw [e51]; exact hl
                    exact ih51 (i51 + 1) (by omega) _ _ _ hP hD hS (lv_sub hl [0, 1, 2] rfl)
                  · obtain ⟨qd, hqd, ed2⟩ := mScan_lt s1 (show i51 ≤ 100 by omega) c_84
                    have ed : dN (mScan s1 i51) = qd := by rw [ed2]; exact dN_nI (by omega)
                    refine lv_aload_n hx hb dX2_fly_87 rfl (lv_at hl 2 rfl) ?_
                    refine va_get (D := D) (ci := 2) (v := .ref (b 1)) (C := RX2) (T := TX2) (N := 7) hx hb hw2 (fun _ h => h) hown hK hP 0 rfl rfl 3 (by decide) k16 (fun _ h9 => h9) rfl dX2_fly_88 ?_
                    refine lv_sipush (v := 148) hx hb dX2_fly_91 (by decide) ?_
                    refine lv_iload_n hx hb dX2_fly_94 rfl (lv_at hl 0 rfl) ?_
                    refine lv_iadd hx hb dX2_fly_95 ?_
                    refine wTop (z := nI (148 + i51)) (nI_add 148 i51) ?_
                    refine wIald hx hb hK hP 1 0 rfl rfl (148 + i51) rfl (by omega) (by decide) dX2_fly_96 ?_
                    refine lv_aload_n hx hb dX2_fly_97 rfl (lv_at hl 2 rfl) ?_
                    refine va_get (D := D) (ci := 2) (v := .ref (b 1)) (C := RX2) (T := TX2) (N := 7) hx hb hw2 (fun _ h => h) hown hK hP 0 rfl rfl 3 (by decide) k16 (fun _ h9 => h9) rfl dX2_fly_98 ?_
                    refine lv_sipush (v := 148) hx hb dX2_fly_101 (by decide) ?_
                    refine lv_iload_n hx hb dX2_fly_104 rfl (lv_at hl 1 rfl) ?_
                    refine lv_iadd hx hb dX2_fly_105 ?_
                    refine wTop (z := nI (148 + qd)) (by rw [ed2]; exact nI_add 148 qd) ?_
                    refine wIald hx hb hK hP 1 0 rfl rfl (148 + qd) rfl (by omega) (by decide) dX2_fly_106 ?_
                    refine lv_icmp_ge (tgt := 112) hx hb dX2_fly_107 (by decide) (fun c_107 => ?_) (fun c_107 => ?_)
                    · refine lv_iinc (v := nI (i51 + 1)) (lv' := [(2, .int (nI (i51 + 1))), (1, .int (mScan s1 i51)), (0, .ref (b 0))]) hx hb dX2_fly_112 hl (k := 0) rfl (nI_1 i51) (by decide) rfl (fun ls hl => ?_)
                      refine lv_goto (tgt := 51) hx hb dX2_fly_115 (by decide) ?_
                      have e51 : mScan s1 (i51 + 1) = mScan s1 i51 := by simp only [mScan, if_pos (Int32.not_le.mp c_67), if_pos c_79, if_neg c_84, if_neg (Int32.not_lt.mpr c_107), ed]
                      have hl : lv_has ls 3 [(2, .int (nI (i51 + 1))), (1, .int (mScan s1 (i51 + 1))), (0, .ref (b 0))] := by rw [e51]; exact hl
                      exact ih51 (i51 + 1) (by omega) _ _ _ hP hD hS (lv_sub hl [0, 1, 2] rfl)
                    · refine lv_iload_n hx hb dX2_fly_110 rfl (lv_at hl 0 rfl) ?_
                      refine lv_istore_n (lv' := [(1, .int (nI i51)), (2, .int (nI i51)), (0, .ref (b 0))]) hx hb dX2_fly_111 rfl hl (by decide) rfl (fun ls hl => ?_)
                      refine lv_iinc (v := nI (i51 + 1)) (lv' := [(2, .int (nI (i51 + 1))), (1, .int (nI i51)), (0, .ref (b 0))]) hx hb dX2_fly_112 hl (k := 1) rfl (nI_1 i51) (by decide) rfl (fun ls hl => ?_)
                      refine lv_goto (tgt := 51) hx hb dX2_fly_115 (by decide) ?_
                      have e51 : mScan s1 (i51 + 1) = nI i51 := by simp only [mScan, if_pos (Int32.not_le.mp c_67), if_pos c_79, if_neg c_84, if_pos (Int32.not_le.mp c_107), ed]
                      have hl : lv_has ls 3 [(2, .int (nI (i51 + 1))), (1, .int (mScan s1 (i51 + 1))), (0, .ref (b 0))] := by rw [e51]; exact hl
                      exact ih51 (i51 + 1) (by omega) _ _ _ hP hD hS (lv_sub hl [0, 1, 2] rfl)
          exact loop51 100 0 (by omega) _ _ _ hP hD hS (lv_sub hl [0, 1, 2] rfl)
      exact wh 101 (mDec nw 100) (g 6) 0 (by decide) (by have := mCnt_100 (mDec nw 100) 100; omega) (mFly_eq (g 5) (nw, g 6)).symm _ _ _ hP hD hS (lv_sub hl [0, 1] rfl)
    | succ j ih2 =>
      intro i2 hi2 H locs ls hP hD hS hl
      refine lv_iload_n hx hb dX2_fly_2 rfl (lv_at hl 0 rfl) ?_
      refine lv_bipush (v := 100) hx hb dX2_fly_3 (by decide) ?_
      refine lv_icmp_ge (tgt := 40) hx hb dX2_fly_5 (by decide) (fun h9 => absurd h9 (nI_ge (b := 100) (by omega) (by omega))) (fun c_5 => ?_)
      have c_5n := mt (nI_leI (a := 100) (b := i2) (by omega) (by omega)).mpr c_5
      refine lv_aload_n hx hb dX2_fly_8 rfl (lv_at hl 1 rfl) ?_
      refine va_get (D := D) (ci := 2) (v := .ref (b 1)) (C := RX2) (T := TX2) (N := 7) hx hb hw2 (fun _ h => h) hown hK hP 0 rfl rfl 3 (by decide) k16 (fun _ h9 => h9) rfl dX2_fly_9 ?_
      refine lv_sipush (v := 148) hx hb dX2_fly_12 (by decide) ?_
      refine lv_iload_n hx hb dX2_fly_15 rfl (lv_at hl 0 rfl) ?_
      refine lv_iadd hx hb dX2_fly_16 ?_
      refine wTop (z := nI (148 + i2)) (nI_add 148 i2) ?_
      refine wIald hx hb hK hP 1 0 rfl rfl (148 + i2) rfl (by omega) (by decide) dX2_fly_17 ?_
      refine lv_if_le (tgt := 34) hx hb dX2_fly_18 (by decide) (fun c_18 => ?_) (fun c_18 => ?_)
      · refine lv_iinc (v := nI (i2 + 1)) (lv' := [(1, .int (nI (i2 + 1))), (0, .ref (b 0))]) hx hb dX2_fly_34 hl (k := 0) rfl (nI_1 i2) (by decide) rfl (fun ls hl => ?_)
        refine lv_goto (tgt := 2) hx hb dX2_fly_37 (by decide) ?_
        have e2 : mDec nw (i2 + 1) = (mDec nw i2) := by simp only [mDec, if_neg (Int32.not_lt.mpr c_18)]
        have hP : va_P D vwCl (MC cI b g (mDec nw (i2 + 1)) kp) H := by rw [e2]; exact hP
        have hD : va_D A (MC cI b g (mDec nw (i2 + 1)) kp) := by rw [e2]; exact hD
        exact ih2 (i2 + 1) (by omega) _ _ _ hP hD hS (lv_sub hl [0, 1] rfl)
      · refine lv_aload_n hx hb dX2_fly_21 rfl (lv_at hl 1 rfl) ?_
        refine va_get (D := D) (ci := 2) (v := .ref (b 1)) (C := RX2) (T := TX2) (N := 7) hx hb hw2 (fun _ h => h) hown hK hP 0 rfl rfl 3 (by decide) k16 (fun _ h9 => h9) rfl dX2_fly_22 ?_
        refine lv_bipush (v := 48) hx hb dX2_fly_25 (by decide) ?_
        refine lv_iload_n hx hb dX2_fly_27 rfl (lv_at hl 0 rfl) ?_
        refine lv_iadd hx hb dX2_fly_28 ?_
        refine wTop (z := nI (48 + i2)) (nI_add 48 i2) ?_
        refine lv_dup2_11 hx hb dX2_fly_29 rfl rfl ?_
        refine wIald hx hb hK hP 1 0 rfl rfl (48 + i2) rfl (by omega) (by decide) dX2_fly_30 ?_
        refine lv_iconst (v := 1) hx hb dX2_fly_31 (by decide) ?_
        refine lv_isub hx hb dX2_fly_32 ?_
        refine wIast hx hb hK hP hD hS 1 0 rfl rfl (48 + i2) rfl (by omega) (by decide) dX2_fly_33 (fun H locs hP hD hS => ?_)
        have hP : va_P D vwCl (MC cI b g (mSub (mDec nw i2) (48 + i2) 1) kp) H := hP
        have hD : va_D A (MC cI b g (mSub (mDec nw i2) (48 + i2) 1) kp) := hD
        refine lv_iinc (v := nI (i2 + 1)) (lv' := [(1, .int (nI (i2 + 1))), (0, .ref (b 0))]) hx hb dX2_fly_34 hl (k := 0) rfl (nI_1 i2) (by decide) rfl (fun ls hl => ?_)
        refine lv_goto (tgt := 2) hx hb dX2_fly_37 (by decide) ?_
        have e2 : mDec nw (i2 + 1) = mSub (mDec nw i2) (48 + i2) 1 := by simp only [mDec, if_pos (Int32.not_le.mp c_18)]
        have hP : va_P D vwCl (MC cI b g (mDec nw (i2 + 1)) kp) H := by rw [e2]; exact hP
        have hD : va_D A (MC cI b g (mDec nw (i2 + 1)) kp) := by rw [e2]; exact hD
        exact ih2 (i2 + 1) (by omega) _ _ _ hP hD hS (lv_sub hl [0, 1] rfl)
  exact loop2 100 0 (by omega) _ _ _ hP hD hS (lv_sub hl [0, 1] rfl)
abbrev rmX2_secondOn : Room := { frames := 3, cells := 0, slots := 0, locals := 67 }
set_option maxRecDepth 100000 in
set_option maxHeartbeats 4000000 in
/-- secondOn -/
theorem mX2_secondOn (l : Launch) (D : va_G) (cI : ClassId) (b : Nat → Nat) (g nw kp : Nat → Int32) (li : Nat) (sz : Nat) (hl0 : g 2 = nI li) (hl1 : 0 < li) (hl2 : li ≤ 30) (hs : mOk nw) : wCt l yX2_secondOn wsX2_secondOn rmX2_secondOn D [(cI, .int)] [.ref (b 0)] (MC cI b g nw kp) sz 0 0 (wQv D (fun u : mS => u = mSec (g 5) (g 2) (nw, g 6)) (fun u : mS => MC cI b (upd g 6 u.2) u.1 kp)) := by
  refine wMet cX2_secondOn 1 none (by decide) rfl (Nat.le_of_ble_eq_true rfl) ?_
  intro p e s m args below meth c A Q ls hQ hx hb hr hml hown hlocks hin hts hN hP hK hD hA hS hl
  have hl : lv_has ls 1 [(0, .ref (b 0))] := hl
  have hown : s.vm.findClass RX2 = some m.cls := hown
  have hw2 : ∀ w ∈ wsX20, w.before args s = true := fun w h => hts w (List.mem_cons_of_mem _ (List.mem_append_right _ h))
  have k16 := hts (.fieldLink RX2 16 "PauseLedgerModel" "now" "[I") (by decide +kernel)
  refine lv_aload_n hx hb dX2_secondOn_0 rfl (lv_at hl 0 rfl) ?_
  refine wCVv (pre := ([] : va_W)) (Wc := MC cI b g nw kp) (suf := ([] : va_W)) (As := []) (rest := []) ⟨hx, hb, hml, hown, hts⟩ (mX2_talk l D cI b g nw kp li _ hl0 hl1 hl2 hs) hN hA hK hS hP hD rfl 0 (r := (RX2, TX2, 7)) rfl rfl (cwV 0 hts gX2_secondOn_X2_talk rfl rfl rfl (by decide +kernel) ⟨Nat.le_of_ble_eq_true rfl, Nat.le_of_ble_eq_true rfl⟩) rfl hl.1 rfl (Nat.le_of_ble_eq_true rfl) dX2_secondOn_1 ⟨Nat.zero_le _, Nat.zero_le _⟩ (fun u_1 H locs hw hP hD hS => ?_)
  subst hw
  have hP : va_P D vwCl (MC cI b g (mTalk (g 2) nw) kp) H := hP
  have hD : va_D A (MC cI b g (mTalk (g 2) nw) kp) := hD
  refine lv_aload_n hx hb dX2_secondOn_4 rfl (lv_at hl 0 rfl) ?_
  refine wCVv (pre := ([] : va_W)) (Wc := MC cI b g (mTalk (g 2) nw) kp) (suf := ([] : va_W)) (As := []) (rest := []) ⟨hx, hb, hml, hown, hts⟩ (mX2_fly l D cI b g (mTalk (g 2) nw) kp _) hN hA hK hS hP hD rfl 0 (r := (RX2, TX2, 7)) rfl rfl (cwV 0 hts gX2_secondOn_X2_fly rfl rfl rfl (by decide +kernel) ⟨Nat.le_of_ble_eq_true rfl, Nat.le_of_ble_eq_true rfl⟩) rfl hl.1 rfl (Nat.le_of_ble_eq_true rfl) dX2_secondOn_5 ⟨Nat.zero_le _, Nat.zero_le _⟩ (fun u_5 H locs hw hP hD hS => ?_)
  subst hw
  have hP : va_P D vwCl (MC cI b (upd g 6 (mFly (g 5) (mTalk (g 2) nw, g 6)).2) (mFly (g 5) (mTalk (g 2) nw, g 6)).1 kp) H := hP
  have hD : va_D A (MC cI b (upd g 6 (mFly (g 5) (mTalk (g 2) nw, g 6)).2) (mFly (g 5) (mTalk (g 2) nw, g 6)).1 kp) := hD
  refine lv_aload_n hx hb dX2_secondOn_8 rfl (lv_at hl 0 rfl) ?_
  refine va_get (D := D) (ci := 2) (v := .ref (b 1)) (C := RX2) (T := TX2) (N := 7) hx hb hw2 (fun _ h => h) hown hK hP 0 rfl rfl 3 (by decide) k16 (fun _ h9 => h9) rfl dX2_secondOn_9 ?_
  refine lv_iconst (v := 0) hx hb dX2_secondOn_12 (by decide) ?_
  refine lv_dup2_11 hx hb dX2_secondOn_13 rfl rfl ?_
  refine wIald hx hb hK hP 1 0 rfl rfl 0 rfl (by decide) (by decide) dX2_secondOn_14 ?_
  refine lv_iconst (v := 1) hx hb dX2_secondOn_15 (by decide) ?_
  refine lv_iadd hx hb dX2_secondOn_16 ?_
  refine wIast hx hb hK hP hD hS 1 0 rfl rfl 0 rfl (by decide) (by decide) dX2_secondOn_17 (fun H locs hP hD hS => ?_)
  have hP : va_P D vwCl (MC cI b (upd g 6 (mFly (g 5) (mTalk (g 2) nw, g 6)).2) (mAdd (mFly (g 5) (mTalk (g 2) nw, g 6)).1 0 1) kp) H := hP
  have hD : va_D A (MC cI b (upd g 6 (mFly (g 5) (mTalk (g 2) nw, g 6)).2) (mAdd (mFly (g 5) (mTalk (g 2) nw, g 6)).1 0 1) kp) := hD
  exact wRv hQ hx hb hr hlocks hP hD hS dX2_secondOn_18 (mAdd (mFly (g 5) (mTalk (g 2) nw, g 6)).1 0 1, (mFly (g 5) (mTalk (g 2) nw, g 6)).2) (rfl) rfl
abbrev rmX2_secondsOn : Room := { frames := 4, cells := 0, slots := 0, locals := 87 }
set_option maxRecDepth 100000 in
set_option maxHeartbeats 4000000 in
/-- secondsOn -/
theorem mX2_secondsOn (l : Launch) (D : va_G) (cI : ClassId) (b : Nat → Nat) (g nw kp : Nat → Int32) (li n : Nat) (sz : Nat) (hl0 : g 2 = nI li) (hl1 : 0 < li) (hl2 : li ≤ 30) (hn : n < 2 ^ 31) (hs : ∀ i, i < n → mOk (mSecs (g 5) (g 2) (nw, g 6) i).1) : wCt l yX2_secondsOn wsX2_secondsOn rmX2_secondsOn D [(cI, .int)] [.ref (b 0), .int (nI n)] (MC cI b g nw kp) sz 0 0 (wQv D (fun u : mS => u = mSecs (g 5) (g 2) (nw, g 6) n) (fun u : mS => MC cI b (upd g 6 u.2) u.1 kp)) := by
  refine wMet cX2_secondsOn 3 none (by decide) rfl (Nat.le_of_ble_eq_true rfl) ?_
  intro p e s m args below meth c A Q ls hQ hx hb hr hml hown hlocks hin hts hN hP hK hD hA hS hl
  have hl : lv_has ls 3 [(0, .ref (b 0)), (1, .int (nI n))] := hl
  have hown : s.vm.findClass RX2 = some m.cls := hown
  refine lv_iconst (v := 0) hx hb dX2_secondsOn_0 (by decide) ?_
  refine lv_istore_n (lv' := [(2, .int 0), (0, .ref (b 0)), (1, .int (nI n))]) hx hb dX2_secondsOn_1 rfl hl (by decide) rfl (fun ls hl => ?_)
  have loop2 : ∀ (j i2 : Nat), i2 + j = n → ∀ (H : Heap) (locs : List Loc) (ls : Array Slot), va_P D vwCl (MC cI b (upd g 6 (mSecs (g 5) (g 2) (nw, g 6) i2).2) (mSecs (g 5) (g 2) (nw, g 6) i2).1 kp) H → va_D A (MC cI b (upd g 6 (mSecs (g 5) (g 2) (nw, g 6) i2).2) (mSecs (g 5) (g 2) (nw, g 6) i2).1 kp) → va_S A s.heap H locs → lv_has ls 3 [(2, .int (nI i2)), (0, .ref (b 0)), (1, .int (nI n))] → W p l e rmX2_secondsOn s m args below meth c H locs 0 0 Q (F0 m 2 ls []) := by
    intro j
    induction j with
    | zero =>
      intro i2 hi2 H locs ls hP hD hS hl
      have ez : n = i2 := by omega
      subst ez
      refine lv_iload_n hx hb dX2_secondsOn_2 rfl (lv_at hl 0 rfl) ?_
      refine lv_iload_n hx hb dX2_secondsOn_3 rfl (lv_at hl 2 rfl) ?_
      refine lv_icmp_ge (tgt := 17) hx hb dX2_secondsOn_4 (by decide) (fun c_4 => ?_) (fun h9 => absurd (nI_le (by omega) (by omega)) h9)
      have c_4n := (nI_leI (a := n) (b := n) (by omega) (by omega)).mp c_4
      exact wRv hQ hx hb hr hlocks hP hD hS dX2_secondsOn_17 ((mSecs (g 5) (g 2) (nw, g 6) n).1, (mSecs (g 5) (g 2) (nw, g 6) n).2) (rfl) rfl
    | succ j ih2 =>
      intro i2 hi2 H locs ls hP hD hS hl
      refine lv_iload_n hx hb dX2_secondsOn_2 rfl (lv_at hl 0 rfl) ?_
      refine lv_iload_n hx hb dX2_secondsOn_3 rfl (lv_at hl 2 rfl) ?_
      refine lv_icmp_ge (tgt := 17) hx hb dX2_secondsOn_4 (by decide) (fun h9 => absurd h9 (nI_ge (by omega) (by omega))) (fun c_4 => ?_)
      have c_4n := mt (nI_leI (a := n) (b := i2) (by omega) (by omega)).mpr c_4
      refine lv_aload_n hx hb dX2_secondsOn_7 rfl (lv_at hl 1 rfl) ?_
      refine wCVv (pre := ([] : va_W)) (Wc := MC cI b (upd g 6 (mSecs (g 5) (g 2) (nw, g 6) i2).2) (mSecs (g 5) (g 2) (nw, g 6) i2).1 kp) (suf := ([] : va_W)) (As := []) (rest := []) ⟨hx, hb, hml, hown, hts⟩ (mX2_secondOn l D cI b (upd g 6 (mSecs (g 5) (g 2) (nw, g 6) i2).2) (mSecs (g 5) (g 2) (nw, g 6) i2).1 kp li _ hl0 hl1 hl2 (hs i2 (by omega))) hN hA hK hS hP hD rfl 0 (r := (RX2, TX2, 7)) rfl rfl (cwV 0 hts gX2_secondsOn_X2_secondOn rfl rfl rfl (by decide +kernel) ⟨Nat.le_of_ble_eq_true rfl, Nat.le_of_ble_eq_true rfl⟩) rfl hl.1 rfl (Nat.le_of_ble_eq_true rfl) dX2_secondsOn_8 ⟨Nat.zero_le _, Nat.zero_le _⟩ (fun u_8 H locs hw hP hD hS => ?_)
      subst hw
      have hP : va_P D vwCl (MC cI b (upd g 6 (mSec (g 5) (g 2) ((mSecs (g 5) (g 2) (nw, g 6) i2).1, (mSecs (g 5) (g 2) (nw, g 6) i2).2)).2) (mSec (g 5) (g 2) ((mSecs (g 5) (g 2) (nw, g 6) i2).1, (mSecs (g 5) (g 2) (nw, g 6) i2).2)).1 kp) H := hP
      have hD : va_D A (MC cI b (upd g 6 (mSec (g 5) (g 2) ((mSecs (g 5) (g 2) (nw, g 6) i2).1, (mSecs (g 5) (g 2) (nw, g 6) i2).2)).2) (mSec (g 5) (g 2) ((mSecs (g 5) (g 2) (nw, g 6) i2).1, (mSecs (g 5) (g 2) (nw, g 6) i2).2)).1 kp) := hD
      refine lv_iinc (v := nI (i2 + 1)) (lv' := [(2, .int (nI (i2 + 1))), (0, .ref (b 0)), (1, .int (nI n))]) hx hb dX2_secondsOn_11 hl (k := 0) rfl (nI_1 i2) (by decide) rfl (fun ls hl => ?_)
      refine lv_goto (tgt := 2) hx hb dX2_secondsOn_14 (by decide) ?_
      exact ih2 (i2 + 1) (by omega) _ _ _ hP hD hS (lv_sub hl [0, 1, 2] rfl)
  exact loop2 n 0 (by omega) _ _ _ hP hD hS (lv_sub hl [0, 1, 2] rfl)
abbrev rmX2_send : Room := { frames := 2, cells := 0, slots := 0, locals := 44 }
set_option maxRecDepth 100000 in
set_option maxHeartbeats 4000000 in
/-- send -/
theorem mX2_send (l : Launch) (D : va_G) (cI : ClassId) (b : Nat → Nat) (g nw kp : Nat → Int32) (x y : Nat) (sz : Nat) (ux : x < 10) (uy : y < 10) : wCt l yX2_send wsX2_send rmX2_send D [(cI, .int)] [.ref (b 0), .int (nI x), .int (nI y)] (MC cI b g nw kp) sz 0 0 (wQi D (fun v (u : Nat → Int32) => v = mSend (g 1) nw x y (48 + (10 * x + y)) ∧ u = mSend (g 1) nw x y) (fun u : Nat → Int32 => MC cI b g u kp)) := by
  refine wMet cX2_send 3 (some .int) (by decide) rfl (Nat.le_of_ble_eq_true rfl) ?_
  intro p e s m args below meth c A Q ls hQ hx hb hr hml hown hlocks hin hts hN hP hK hD hA hS hl
  have hl : lv_has ls 3 [(0, .ref (b 0)), (1, .int (nI x)), (2, .int (nI y))] := hl
  have hown : s.vm.findClass RX2 = some m.cls := hown
  have hw2 : ∀ w ∈ wsX20, w.before args s = true := fun w h => hts w (List.mem_cons_of_mem _ (List.mem_append_right _ h))
  have k16 := hts (.fieldLink RX2 16 "PauseLedgerModel" "now" "[I") (by decide +kernel)
  refine lv_aload_n hx hb dX2_send_0 rfl (lv_at hl 0 rfl) ?_
  refine va_get (D := D) (ci := 2) (v := .ref (b 1)) (C := RX2) (T := TX2) (N := 7) hx hb hw2 (fun _ h => h) hown hK hP 0 rfl rfl 3 (by decide) k16 (fun _ h9 => h9) rfl dX2_send_1 ?_
  refine lv_bipush (v := 7) hx hb dX2_send_4 (by decide) ?_
  refine lv_dup2_11 hx hb dX2_send_6 rfl rfl ?_
  refine wIald hx hb hK hP 1 0 rfl rfl 7 rfl (by decide) (by decide) dX2_send_7 ?_
  refine lv_iconst (v := 1) hx hb dX2_send_8 (by decide) ?_
  refine lv_iadd hx hb dX2_send_9 ?_
  refine wIast hx hb hK hP hD hS 1 0 rfl rfl 7 rfl (by decide) (by decide) dX2_send_10 (fun H locs hP hD hS => ?_)
  have hP : va_P D vwCl (MC cI b g (mAdd nw 7 1) kp) H := hP
  have hD : va_D A (MC cI b g (mAdd nw 7 1) kp) := hD
  refine lv_aload_n hx hb dX2_send_11 rfl (lv_at hl 0 rfl) ?_
  refine va_get (D := D) (ci := 2) (v := .ref (b 1)) (C := RX2) (T := TX2) (N := 7) hx hb hw2 (fun _ h => h) hown hK hP 0 rfl rfl 3 (by decide) k16 (fun _ h9 => h9) rfl dX2_send_12 ?_
  refine lv_sipush (v := 148) hx hb dX2_send_15 (by decide) ?_
  refine lv_iload_n hx hb dX2_send_18 rfl (lv_at hl 1 rfl) ?_
  refine lv_iload_n hx hb dX2_send_19 rfl (lv_at hl 2 rfl) ?_
  refine wCSi (pre := ([] : va_W)) (Wc := ([] : va_W)) (suf := MC cI b g (mAdd nw 7 1) kp) (As := [.int (nI x), .int (nI y)]) (rest := [.int 148, .ref (b 1)]) ⟨hx, hb, hml, hown, hts⟩ (mX2_pair l D cI x y _) hN hA hK hS hP hD rfl (va_cwS 2 hts gX2_send_X2_pair rfl rfl rfl (by decide +kernel) ⟨Nat.le_of_ble_eq_true rfl, Nat.le_of_ble_eq_true rfl⟩) rfl hl.1 rfl (Nat.le_of_ble_eq_true rfl) dX2_send_20 ⟨Nat.zero_le _, Nat.zero_le _⟩ (fun r_20 u_20 H locs hw hP hD hS => ?_)
  have hw : r_20 = nI (10 * x + y) := hw
  subst hw
  have hP : va_P D vwCl (MC cI b g (mAdd nw 7 1) kp) H := hP
  have hD : va_D A (MC cI b g (mAdd nw 7 1) kp) := hD
  refine lv_iadd hx hb dX2_send_23 ?_
  refine wTop (z := nI (148 + (10 * x + y))) (nI_add 148 (10 * x + y)) ?_
  refine lv_aload_n hx hb dX2_send_24 rfl (lv_at hl 0 rfl) ?_
  refine va_get (D := D) (ci := 2) (v := .ref (b 1)) (C := RX2) (T := TX2) (N := 7) hx hb hw2 (fun _ h => h) hown hK hP 0 rfl rfl 3 (by decide) k16 (fun _ h9 => h9) rfl dX2_send_25 ?_
  refine lv_bipush (v := 7) hx hb dX2_send_28 (by decide) ?_
  refine wIald hx hb hK hP 1 0 rfl rfl 7 rfl (by decide) (by decide) dX2_send_30 ?_
  refine wIast hx hb hK hP hD hS 1 0 rfl rfl (148 + (10 * x + y)) rfl (by omega) (by decide) dX2_send_31 (fun H locs hP hD hS => ?_)
  have hP : va_P D vwCl (MC cI b g (upd (mAdd nw 7 1) (148 + (10 * x + y)) ((mAdd nw 7 1) 7)) kp) H := hP
  have hD : va_D A (MC cI b g (upd (mAdd nw 7 1) (148 + (10 * x + y)) ((mAdd nw 7 1) 7)) kp) := hD
  refine lv_aload_n hx hb dX2_send_32 rfl (lv_at hl 0 rfl) ?_
  refine va_get (D := D) (ci := 2) (v := .ref (b 1)) (C := RX2) (T := TX2) (N := 7) hx hb hw2 (fun _ h => h) hown hK hP 0 rfl rfl 3 (by decide) k16 (fun _ h9 => h9) rfl dX2_send_33 ?_
  refine lv_bipush (v := 48) hx hb dX2_send_36 (by decide) ?_
  refine lv_iload_n hx hb dX2_send_38 rfl (lv_at hl 1 rfl) ?_
  refine lv_iload_n hx hb dX2_send_39 rfl (lv_at hl 2 rfl) ?_
  refine wCSi (pre := ([] : va_W)) (Wc := ([] : va_W)) (suf := MC cI b g (upd (mAdd nw 7 1) (148 + (10 * x + y)) ((mAdd nw 7 1) 7)) kp) (As := [.int (nI x), .int (nI y)]) (rest := [.int 48, .ref (b 1)]) ⟨hx, hb, hml, hown, hts⟩ (mX2_pair l D cI x y _) hN hA hK hS hP hD rfl (va_cwS 2 hts gX2_send_X2_pair rfl rfl rfl (by decide +kernel) ⟨Nat.le_of_ble_eq_true rfl, Nat.le_of_ble_eq_true rfl⟩) rfl hl.1 rfl (Nat.le_of_ble_eq_true rfl) dX2_send_40 ⟨Nat.zero_le _, Nat.zero_le _⟩ (fun r_40 u_40 H locs hw hP hD hS => ?_)
  have hw : r_40 = nI (10 * x + y) := hw
  subst hw
  have hP : va_P D vwCl (MC cI b g (upd (mAdd nw 7 1) (148 + (10 * x + y)) ((mAdd nw 7 1) 7)) kp) H := hP
  have hD : va_D A (MC cI b g (upd (mAdd nw 7 1) (148 + (10 * x + y)) ((mAdd nw 7 1) 7)) kp) := hD
  refine lv_iadd hx hb dX2_send_43 ?_
  refine wTop (z := nI (48 + (10 * x + y))) (nI_add 48 (10 * x + y)) ?_
  refine lv_iconst (v := 2) hx hb dX2_send_44 (by decide) ?_
  refine lv_aload_n hx hb dX2_send_45 rfl (lv_at hl 0 rfl) ?_
  refine lv_iload_n hx hb dX2_send_46 rfl (lv_at hl 1 rfl) ?_
  refine lv_iload_n hx hb dX2_send_47 rfl (lv_at hl 2 rfl) ?_
  refine wCVi (pre := ([] : va_W)) (Wc := MC cI b g (upd (mAdd nw 7 1) (148 + (10 * x + y)) ((mAdd nw 7 1) 7)) kp) (suf := ([] : va_W)) (As := [.int (nI x), .int (nI y)]) (rest := [.int 2, .int (nI (48 + (10 * x + y))), .ref (b 1)]) ⟨hx, hb, hml, hown, hts⟩ (mX2_apart l D cI b g (upd (mAdd nw 7 1) (148 + (10 * x + y)) ((mAdd nw 7 1) 7)) kp (nI x) (nI y) _) hN hA hK hS hP hD rfl 0 (r := (RX2, TX2, 7)) rfl rfl (cwV 2 hts gX2_send_X2_apart rfl rfl rfl (by decide +kernel) ⟨Nat.le_of_ble_eq_true rfl, Nat.le_of_ble_eq_true rfl⟩) rfl hl.1 rfl (Nat.le_of_ble_eq_true rfl) dX2_send_48 ⟨Nat.zero_le _, Nat.zero_le _⟩ (fun r_48 u_48 H locs hw hP hD hS => ?_)
  have hw : r_48 = dSeats (g 1) (nI x) (nI y) := hw
  subst hw
  have hP : va_P D vwCl (MC cI b g (upd (mAdd nw 7 1) (148 + (10 * x + y)) ((mAdd nw 7 1) 7)) kp) H := hP
  have hD : va_D A (MC cI b g (upd (mAdd nw 7 1) (148 + (10 * x + y)) ((mAdd nw 7 1) 7)) kp) := hD
  refine lv_imul hx hb dX2_send_51 ?_
  refine wIast hx hb hK hP hD hS 1 0 rfl rfl (48 + (10 * x + y)) rfl (by omega) (by decide) dX2_send_52 (fun H locs hP hD hS => ?_)
  have hP : va_P D vwCl (MC cI b g (upd (upd (mAdd nw 7 1) (148 + (10 * x + y)) ((mAdd nw 7 1) 7)) (48 + (10 * x + y)) (2 * (dSeats (g 1) (nI x) (nI y)))) kp) H := hP
  have hD : va_D A (MC cI b g (upd (upd (mAdd nw 7 1) (148 + (10 * x + y)) ((mAdd nw 7 1) 7)) (48 + (10 * x + y)) (2 * (dSeats (g 1) (nI x) (nI y)))) kp) := hD
  refine lv_aload_n hx hb dX2_send_53 rfl (lv_at hl 0 rfl) ?_
  refine va_get (D := D) (ci := 2) (v := .ref (b 1)) (C := RX2) (T := TX2) (N := 7) hx hb hw2 (fun _ h => h) hown hK hP 0 rfl rfl 3 (by decide) k16 (fun _ h9 => h9) rfl dX2_send_54 ?_
  refine lv_bipush (v := 48) hx hb dX2_send_57 (by decide) ?_
  refine lv_iload_n hx hb dX2_send_59 rfl (lv_at hl 1 rfl) ?_
  refine lv_iload_n hx hb dX2_send_60 rfl (lv_at hl 2 rfl) ?_
  refine wCSi (pre := ([] : va_W)) (Wc := ([] : va_W)) (suf := MC cI b g (upd (upd (mAdd nw 7 1) (148 + (10 * x + y)) ((mAdd nw 7 1) 7)) (48 + (10 * x + y)) (2 * (dSeats (g 1) (nI x) (nI y)))) kp) (As := [.int (nI x), .int (nI y)]) (rest := [.int 48, .ref (b 1)]) ⟨hx, hb, hml, hown, hts⟩ (mX2_pair l D cI x y _) hN hA hK hS hP hD rfl (va_cwS 2 hts gX2_send_X2_pair rfl rfl rfl (by decide +kernel) ⟨Nat.le_of_ble_eq_true rfl, Nat.le_of_ble_eq_true rfl⟩) rfl hl.1 rfl (Nat.le_of_ble_eq_true rfl) dX2_send_61 ⟨Nat.zero_le _, Nat.zero_le _⟩ (fun r_61 u_61 H locs hw hP hD hS => ?_)
  have hw : r_61 = nI (10 * x + y) := hw
  subst hw
  have hP : va_P D vwCl (MC cI b g (upd (upd (mAdd nw 7 1) (148 + (10 * x + y)) ((mAdd nw 7 1) 7)) (48 + (10 * x + y)) (2 * (dSeats (g 1) (nI x) (nI y)))) kp) H := hP
  have hD : va_D A (MC cI b g (upd (upd (mAdd nw 7 1) (148 + (10 * x + y)) ((mAdd nw 7 1) 7)) (48 + (10 * x + y)) (2 * (dSeats (g 1) (nI x) (nI y)))) kp) := hD
  refine lv_iadd hx hb dX2_send_64 ?_
  refine wTop (z := nI (48 + (10 * x + y))) (nI_add 48 (10 * x + y)) ?_
  refine wIald hx hb hK hP 1 0 rfl rfl (48 + (10 * x + y)) rfl (by omega) (by decide) dX2_send_65 ?_
  exact wRi hQ hx hb hr hlocks hP hD hS dX2_send_66 (upd (upd (mAdd nw 7 1) (148 + (10 * x + y)) ((mAdd nw 7 1) 7)) (48 + (10 * x + y)) (2 * (dSeats (g 1) (nI x) (nI y)))) (⟨rfl, rfl⟩) rfl
end
