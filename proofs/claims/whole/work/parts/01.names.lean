-- ===== PART A: goes FIRST, ahead of the names: the tables' words, and 'selects' of the private methods out of them =====
/-- a private method of a class that the tables say can be made, by its rows of tables_1 -/
def lw_okq (q : MethodName × Nat) : Prop := (q.1.cls ≠ "java/lang/invoke/MethodHandle" ∧ q.1.cls ≠ "java/lang/invoke/VarHandle") ∧ Cond.instantiable q.1.cls q.2 ∈ tables_1 ∧ Cond.privateMethod q.1 ∈ tables_1 ∧ Cond.instanceMethod q.1 ∈ tables_1
theorem lw_p0 : lw_okq (⟨"PauseLedger$Dinner", "beyondMultipleOfLimit", "(I)I"⟩, 17) := ⟨⟨by decide +kernel, by decide +kernel⟩, List.mem_of_getElem? (i := 22) (by decide +kernel), List.mem_of_getElem? (i := 189) (by decide +kernel), List.mem_of_getElem? (i := 190) (by decide +kernel)⟩
theorem lw_p1 : lw_okq (⟨"PauseLedger", "digestOfTable", "()J"⟩, 2) := ⟨⟨by decide +kernel, by decide +kernel⟩, List.mem_of_getElem? (i := 14) (by decide +kernel), List.mem_of_getElem? (i := 202) (by decide +kernel), List.mem_of_getElem? (i := 203) (by decide +kernel)⟩
theorem lw_p2 : lw_okq (⟨"PauseLedger", "withGuest", "(JI)J"⟩, 2) := ⟨⟨by decide +kernel, by decide +kernel⟩, List.mem_of_getElem? (i := 14) (by decide +kernel), List.mem_of_getElem? (i := 211) (by decide +kernel), List.mem_of_getElem? (i := 212) (by decide +kernel)⟩
theorem lw_p3 : lw_okq (⟨"java/lang/Throwable", "fillInStackTrace", "(I)Ljava/lang/Throwable;"⟩, 6) := ⟨⟨by decide +kernel, by decide +kernel⟩, List.mem_of_getElem? (i := 275) (by decide +kernel), List.mem_of_getElem? (i := 273) (by decide +kernel), List.mem_of_getElem? (i := 274) (by decide +kernel)⟩
theorem lw_p4 : lw_okq (⟨"PauseLedger", "requireGuest", "(I)V"⟩, 2) := ⟨⟨by decide +kernel, by decide +kernel⟩, List.mem_of_getElem? (i := 14) (by decide +kernel), List.mem_of_getElem? (i := 321) (by decide +kernel), List.mem_of_getElem? (i := 322) (by decide +kernel)⟩
theorem lw_p5 : lw_okq (⟨"PauseLedger$Dinner", "unsaidByCough", "(II)I"⟩, 17) := ⟨⟨by decide +kernel, by decide +kernel⟩, List.mem_of_getElem? (i := 22) (by decide +kernel), List.mem_of_getElem? (i := 356) (by decide +kernel), List.mem_of_getElem? (i := 357) (by decide +kernel)⟩
theorem lw_p6 : lw_okq (⟨"PauseLedger", "requireFreeWay", "(II)V"⟩, 2) := ⟨⟨by decide +kernel, by decide +kernel⟩, List.mem_of_getElem? (i := 14) (by decide +kernel), List.mem_of_getElem? (i := 368) (by decide +kernel), List.mem_of_getElem? (i := 369) (by decide +kernel)⟩
theorem lw_p7 : lw_okq (⟨"PauseLedger$Dinner", "wayOf", "(II)I"⟩, 17) := ⟨⟨by decide +kernel, by decide +kernel⟩, List.mem_of_getElem? (i := 22) (by decide +kernel), List.mem_of_getElem? (i := 395) (by decide +kernel), List.mem_of_getElem? (i := 396) (by decide +kernel)⟩
theorem lw_p8 : lw_okq (⟨"PauseLedger$Dinner", "goOneSecond", "()V"⟩, 17) := ⟨⟨by decide +kernel, by decide +kernel⟩, List.mem_of_getElem? (i := 22) (by decide +kernel), List.mem_of_getElem? (i := 417) (by decide +kernel), List.mem_of_getElem? (i := 418) (by decide +kernel)⟩
theorem lw_p9 : lw_okq (⟨"PauseLedger$Dinner", "speakOrPause", "()V"⟩, 17) := ⟨⟨by decide +kernel, by decide +kernel⟩, List.mem_of_getElem? (i := 22) (by decide +kernel), List.mem_of_getElem? (i := 421) (by decide +kernel), List.mem_of_getElem? (i := 422) (by decide +kernel)⟩
theorem lw_p10 : lw_okq (⟨"PauseLedger$Dinner", "moveGlances", "()V"⟩, 17) := ⟨⟨by decide +kernel, by decide +kernel⟩, List.mem_of_getElem? (i := 22) (by decide +kernel), List.mem_of_getElem? (i := 425) (by decide +kernel), List.mem_of_getElem? (i := 426) (by decide +kernel)⟩
theorem lw_p11 : lw_okq (⟨"PauseLedger$Dinner", "arrive", "(II)V"⟩, 17) := ⟨⟨by decide +kernel, by decide +kernel⟩, List.mem_of_getElem? (i := 22) (by decide +kernel), List.mem_of_getElem? (i := 429) (by decide +kernel), List.mem_of_getElem? (i := 430) (by decide +kernel)⟩
theorem lw_p12 : lw_okq (⟨"PauseLedger$Dinner", "forgetThoseOver", "()V"⟩, 17) := ⟨⟨by decide +kernel, by decide +kernel⟩, List.mem_of_getElem? (i := 22) (by decide +kernel), List.mem_of_getElem? (i := 433) (by decide +kernel), List.mem_of_getElem? (i := 434) (by decide +kernel)⟩
theorem lw_p13 : lw_okq (⟨"PauseLedger", "tryOut", "(I)V"⟩, 2) := ⟨⟨by decide +kernel, by decide +kernel⟩, List.mem_of_getElem? (i := 14) (by decide +kernel), List.mem_of_getElem? (i := 501) (by decide +kernel), List.mem_of_getElem? (i := 502) (by decide +kernel)⟩
theorem lw_p14 : lw_okq (⟨"PauseLedgerModel", "fail", "(I)I"⟩, 7) := ⟨⟨by decide +kernel, by decide +kernel⟩, List.mem_of_getElem? (i := 538) (by decide +kernel), List.mem_of_getElem? (i := 577) (by decide +kernel), List.mem_of_getElem? (i := 578) (by decide +kernel)⟩
theorem lw_p15 : lw_okq (⟨"PauseLedgerModel", "rated", "()I"⟩, 7) := ⟨⟨by decide +kernel, by decide +kernel⟩, List.mem_of_getElem? (i := 538) (by decide +kernel), List.mem_of_getElem? (i := 581) (by decide +kernel), List.mem_of_getElem? (i := 582) (by decide +kernel)⟩
def lw_privs_1 : List (MethodName × Nat) := [(⟨"PauseLedger$Dinner", "beyondMultipleOfLimit", "(I)I"⟩, 17), (⟨"PauseLedger", "digestOfTable", "()J"⟩, 2), (⟨"PauseLedger", "withGuest", "(JI)J"⟩, 2), (⟨"java/lang/Throwable", "fillInStackTrace", "(I)Ljava/lang/Throwable;"⟩, 6), (⟨"PauseLedger", "requireGuest", "(I)V"⟩, 2), (⟨"PauseLedger$Dinner", "unsaidByCough", "(II)I"⟩, 17), (⟨"PauseLedger", "requireFreeWay", "(II)V"⟩, 2), (⟨"PauseLedger$Dinner", "wayOf", "(II)I"⟩, 17), (⟨"PauseLedger$Dinner", "goOneSecond", "()V"⟩, 17), (⟨"PauseLedger$Dinner", "speakOrPause", "()V"⟩, 17), (⟨"PauseLedger$Dinner", "moveGlances", "()V"⟩, 17), (⟨"PauseLedger$Dinner", "arrive", "(II)V"⟩, 17), (⟨"PauseLedger$Dinner", "forgetThoseOver", "()V"⟩, 17), (⟨"PauseLedger", "tryOut", "(I)V"⟩, 2), (⟨"PauseLedgerModel", "fail", "(I)I"⟩, 7), (⟨"PauseLedgerModel", "rated", "()I"⟩, 7)]
theorem lw_r1 : ∀ q ∈ lw_privs_1, lw_okq q := List.forall_mem_cons.mpr ⟨lw_p0, List.forall_mem_cons.mpr ⟨lw_p1, List.forall_mem_cons.mpr ⟨lw_p2, List.forall_mem_cons.mpr ⟨lw_p3, List.forall_mem_cons.mpr ⟨lw_p4, List.forall_mem_cons.mpr ⟨lw_p5, List.forall_mem_cons.mpr ⟨lw_p6, List.forall_mem_cons.mpr ⟨lw_p7, List.forall_mem_cons.mpr ⟨lw_p8, List.forall_mem_cons.mpr ⟨lw_p9, List.forall_mem_cons.mpr ⟨lw_p10, List.forall_mem_cons.mpr ⟨lw_p11, List.forall_mem_cons.mpr ⟨lw_p12, List.forall_mem_cons.mpr ⟨lw_p13, List.forall_mem_cons.mpr ⟨lw_p14, List.forall_mem_cons.mpr ⟨lw_p15, fun _ h => absurd h List.not_mem_nil⟩⟩⟩⟩⟩⟩⟩⟩⟩⟩⟩⟩⟩⟩⟩⟩
theorem lw_p16 : lw_okq (⟨"PauseLedgerModel", "unsaid", "()I"⟩, 7) := ⟨⟨by decide +kernel, by decide +kernel⟩, List.mem_of_getElem? (i := 538) (by decide +kernel), List.mem_of_getElem? (i := 585) (by decide +kernel), List.mem_of_getElem? (i := 586) (by decide +kernel)⟩
theorem lw_p17 : lw_okq (⟨"PauseLedgerModel", "isGuest", "(I)Z"⟩, 7) := ⟨⟨by decide +kernel, by decide +kernel⟩, List.mem_of_getElem? (i := 538) (by decide +kernel), List.mem_of_getElem? (i := 599) (by decide +kernel), List.mem_of_getElem? (i := 600) (by decide +kernel)⟩
theorem lw_p18 : lw_okq (⟨"PauseLedgerModel", "canSend", "(II)Z"⟩, 7) := ⟨⟨by decide +kernel, by decide +kernel⟩, List.mem_of_getElem? (i := 538) (by decide +kernel), List.mem_of_getElem? (i := 611) (by decide +kernel), List.mem_of_getElem? (i := 612) (by decide +kernel)⟩
theorem lw_p19 : lw_okq (⟨"PauseLedgerModel", "send", "(II)I"⟩, 7) := ⟨⟨by decide +kernel, by decide +kernel⟩, List.mem_of_getElem? (i := 538) (by decide +kernel), List.mem_of_getElem? (i := 618) (by decide +kernel), List.mem_of_getElem? (i := 619) (by decide +kernel)⟩
theorem lw_p20 : lw_okq (⟨"PauseLedgerModel", "apart", "(II)I"⟩, 7) := ⟨⟨by decide +kernel, by decide +kernel⟩, List.mem_of_getElem? (i := 538) (by decide +kernel), List.mem_of_getElem? (i := 622) (by decide +kernel), List.mem_of_getElem? (i := 623) (by decide +kernel)⟩
theorem lw_p21 : lw_okq (⟨"PauseLedgerModel", "secondsOn", "(I)V"⟩, 7) := ⟨⟨by decide +kernel, by decide +kernel⟩, List.mem_of_getElem? (i := 538) (by decide +kernel), List.mem_of_getElem? (i := 631) (by decide +kernel), List.mem_of_getElem? (i := 632) (by decide +kernel)⟩
theorem lw_p22 : lw_okq (⟨"PauseLedgerModel", "secondOn", "()V"⟩, 7) := ⟨⟨by decide +kernel, by decide +kernel⟩, List.mem_of_getElem? (i := 538) (by decide +kernel), List.mem_of_getElem? (i := 635) (by decide +kernel), List.mem_of_getElem? (i := 636) (by decide +kernel)⟩
theorem lw_p23 : lw_okq (⟨"PauseLedgerModel", "talk", "()V"⟩, 7) := ⟨⟨by decide +kernel, by decide +kernel⟩, List.mem_of_getElem? (i := 538) (by decide +kernel), List.mem_of_getElem? (i := 639) (by decide +kernel), List.mem_of_getElem? (i := 640) (by decide +kernel)⟩
theorem lw_p24 : lw_okq (⟨"PauseLedgerModel", "fly", "()V"⟩, 7) := ⟨⟨by decide +kernel, by decide +kernel⟩, List.mem_of_getElem? (i := 538) (by decide +kernel), List.mem_of_getElem? (i := 643) (by decide +kernel), List.mem_of_getElem? (i := 644) (by decide +kernel)⟩
theorem lw_p25 : lw_okq (⟨"PauseLedgerModel", "arrives", "(II)V"⟩, 7) := ⟨⟨by decide +kernel, by decide +kernel⟩, List.mem_of_getElem? (i := 538) (by decide +kernel), List.mem_of_getElem? (i := 647) (by decide +kernel), List.mem_of_getElem? (i := 648) (by decide +kernel)⟩
theorem lw_p26 : lw_okq (⟨"PauseLedgerModel", "told", "(I)I"⟩, 7) := ⟨⟨by decide +kernel, by decide +kernel⟩, List.mem_of_getElem? (i := 538) (by decide +kernel), List.mem_of_getElem? (i := 655) (by decide +kernel), List.mem_of_getElem? (i := 656) (by decide +kernel)⟩
theorem lw_p27 : lw_okq (⟨"PauseLedgerModel", "left", "()I"⟩, 7) := ⟨⟨by decide +kernel, by decide +kernel⟩, List.mem_of_getElem? (i := 538) (by decide +kernel), List.mem_of_getElem? (i := 679) (by decide +kernel), List.mem_of_getElem? (i := 680) (by decide +kernel)⟩
theorem lw_p28 : lw_okq (⟨"PauseLedgerModel", "guest", "(II)I"⟩, 7) := ⟨⟨by decide +kernel, by decide +kernel⟩, List.mem_of_getElem? (i := 538) (by decide +kernel), List.mem_of_getElem? (i := 691) (by decide +kernel), List.mem_of_getElem? (i := 692) (by decide +kernel)⟩
theorem lw_p29 : lw_okq (⟨"PauseLedgerModel", "flight", "(III)I"⟩, 7) := ⟨⟨by decide +kernel, by decide +kernel⟩, List.mem_of_getElem? (i := 538) (by decide +kernel), List.mem_of_getElem? (i := 711) (by decide +kernel), List.mem_of_getElem? (i := 712) (by decide +kernel)⟩
theorem lw_p30 : lw_okq (⟨"PauseLedgerModel", "underWay", "()I"⟩, 7) := ⟨⟨by decide +kernel, by decide +kernel⟩, List.mem_of_getElem? (i := 538) (by decide +kernel), List.mem_of_getElem? (i := 735) (by decide +kernel), List.mem_of_getElem? (i := 736) (by decide +kernel)⟩
theorem lw_p31 : lw_okq (⟨"PauseLedgerModel", "keep", "()V"⟩, 7) := ⟨⟨by decide +kernel, by decide +kernel⟩, List.mem_of_getElem? (i := 538) (by decide +kernel), List.mem_of_getElem? (i := 759) (by decide +kernel), List.mem_of_getElem? (i := 760) (by decide +kernel)⟩
def lw_privs_2 : List (MethodName × Nat) := [(⟨"PauseLedgerModel", "unsaid", "()I"⟩, 7), (⟨"PauseLedgerModel", "isGuest", "(I)Z"⟩, 7), (⟨"PauseLedgerModel", "canSend", "(II)Z"⟩, 7), (⟨"PauseLedgerModel", "send", "(II)I"⟩, 7), (⟨"PauseLedgerModel", "apart", "(II)I"⟩, 7), (⟨"PauseLedgerModel", "secondsOn", "(I)V"⟩, 7), (⟨"PauseLedgerModel", "secondOn", "()V"⟩, 7), (⟨"PauseLedgerModel", "talk", "()V"⟩, 7), (⟨"PauseLedgerModel", "fly", "()V"⟩, 7), (⟨"PauseLedgerModel", "arrives", "(II)V"⟩, 7), (⟨"PauseLedgerModel", "told", "(I)I"⟩, 7), (⟨"PauseLedgerModel", "left", "()I"⟩, 7), (⟨"PauseLedgerModel", "guest", "(II)I"⟩, 7), (⟨"PauseLedgerModel", "flight", "(III)I"⟩, 7), (⟨"PauseLedgerModel", "underWay", "()I"⟩, 7), (⟨"PauseLedgerModel", "keep", "()V"⟩, 7)]
theorem lw_r2 : ∀ q ∈ lw_privs_2, lw_okq q := List.forall_mem_cons.mpr ⟨lw_p16, List.forall_mem_cons.mpr ⟨lw_p17, List.forall_mem_cons.mpr ⟨lw_p18, List.forall_mem_cons.mpr ⟨lw_p19, List.forall_mem_cons.mpr ⟨lw_p20, List.forall_mem_cons.mpr ⟨lw_p21, List.forall_mem_cons.mpr ⟨lw_p22, List.forall_mem_cons.mpr ⟨lw_p23, List.forall_mem_cons.mpr ⟨lw_p24, List.forall_mem_cons.mpr ⟨lw_p25, List.forall_mem_cons.mpr ⟨lw_p26, List.forall_mem_cons.mpr ⟨lw_p27, List.forall_mem_cons.mpr ⟨lw_p28, List.forall_mem_cons.mpr ⟨lw_p29, List.forall_mem_cons.mpr ⟨lw_p30, List.forall_mem_cons.mpr ⟨lw_p31, fun _ h => absurd h List.not_mem_nil⟩⟩⟩⟩⟩⟩⟩⟩⟩⟩⟩⟩⟩⟩⟩⟩
theorem lw_p32 : lw_okq (⟨"PauseLedgerModel", "bringBack", "()V"⟩, 7) := ⟨⟨by decide +kernel, by decide +kernel⟩, List.mem_of_getElem? (i := 538) (by decide +kernel), List.mem_of_getElem? (i := 764) (by decide +kernel), List.mem_of_getElem? (i := 765) (by decide +kernel)⟩
theorem lw_p33 : lw_okq (⟨"PauseLedgerModel", "becomes", "(II)I"⟩, 7) := ⟨⟨by decide +kernel, by decide +kernel⟩, List.mem_of_getElem? (i := 538) (by decide +kernel), List.mem_of_getElem? (i := 776) (by decide +kernel), List.mem_of_getElem? (i := 777) (by decide +kernel)⟩
def lw_privs_3 : List (MethodName × Nat) := [(⟨"PauseLedgerModel", "bringBack", "()V"⟩, 7), (⟨"PauseLedgerModel", "becomes", "(II)I"⟩, 7)]
theorem lw_r3 : ∀ q ∈ lw_privs_3, lw_okq q := List.forall_mem_cons.mpr ⟨lw_p32, List.forall_mem_cons.mpr ⟨lw_p33, fun _ h => absurd h List.not_mem_nil⟩⟩
def lw_privs : List (MethodName × Nat) := lw_privs_1 ++ (lw_privs_2 ++ (lw_privs_3))
def lw_tbl : List Cond := k2_sels lw_privs ++ tables_1
theorem lw_privs_ok : ∀ q ∈ lw_privs, lw_okq q := by
  show ∀ q ∈ lw_privs_1 ++ (lw_privs_2 ++ (lw_privs_3)), lw_okq q
  exact List.forall_mem_append.mpr ⟨lw_r1, List.forall_mem_append.mpr ⟨lw_r2, lw_r3⟩⟩
/-- the streams that the claim lets the run draw from -/
abbrev lw_cs : List Choice := [Jvm.Choice.named "NaN.bits"]
theorem lw_bits : nanBits ∈ lw_cs := by first | decide | exact List.mem_cons_self | simp [lw_cs, nanBits]
-- ===== end of PART A; then your names; then what follows =====
/-! ===== BEGIN words of one list among another's, by their places ===== -/
theorem goodIn_r {big : List Cond} (ws : List Cond) (ps : List Nat) (hp : ws = ps.filterMap (fun i => big[i]?)) (h : ws.all goodWord = true) : GoodIn big ws := by
  intro w hw
  have h1 := List.all_eq_true.mp h w hw
  rw [hp] at hw
  obtain ⟨i, -, hi⟩ := List.mem_filterMap.mp hw
  have hm : w ∈ big := by first | exact List.mem_of_getElem? hi | exact List.getElem?_mem hi
  exact ⟨hm, good_of_word h1⟩
theorem goodIn_app {big a b : List Cond} (ha : GoodIn big a) (hb : GoodIn big b) : GoodIn big (a ++ b) := fun w h => (List.mem_append.mp h).elim (ha w) (hb w)
theorem goodIn_ca {big a b : List Cond} {c : Cond} (ha : GoodIn big (c :: a)) (hb : GoodIn big b) : GoodIn big (c :: (a ++ b)) := fun w h => (List.mem_cons.mp h).elim (fun e => ha w (List.mem_cons.mpr (Or.inl e))) (fun h => (List.mem_append.mp h).elim (fun h => ha w (List.mem_cons.mpr (Or.inr h))) (hb w))
theorem goodIn_sub {big ws : List Cond} (hm : ∀ w ∈ ws, w ∈ big) (h : ws.all goodWord = true) : GoodIn big ws := fun w hw => ⟨hm w hw, good_of_word (List.all_eq_true.mp h w hw)⟩
/-! ===== END ===== -/

/-! ===== BEGIN exceptions that leave a method, and their catching by the caller (launches without stack traces) ===== -/
section VXA
/-! The laws vx_back, vx_callV, vx_callS, vx_callSW, vx_throw0, vx_throwS follow proofs of the library, with one case more: JvmDerived/Free/Laws.lean (Back.of_free), Shelf42/LK1.lean (callV, callS), Shelf/KitTraced.lean (throwNew0V, throwNewS). -/
/-- where a method has thrown q: the class by its name, the cell, what was written, the world -/
def vx_T (XC : String → State → State → Prop) (st : State) (q : Addr) (t : State) (mc ms : Nat) (free : Addr → Prop) : Prop :=
  ∃ (E : String) (ce : Cell) (L : List Loc), XC E st t ∧ t.heap[q]? = some ce ∧ ce.vm = .none ∧ st.vm.findClass E = some ce.cls ∧ st.WarmedH t.vm ∧ st.sameButNew ({ t with vm := st.vm } : State) L mc ms ∧ ∀ z ∈ L, free z.base
def vx_Q (Qc : Array Value → State → Outcome → State → Prop) (XC : String → State → State → Prop) (mc ms : Nat) (free : Addr → Prop) : Array Value → State → Outcome → State → Prop := fun a st o t =>
  (Qc a st o t ∧ ∃ L, FrameEnd st o t L mc ms ∧ ∀ q ∈ L, free q.base) ∨ ∃ q, o = .threw q ∧ vx_T XC st q t mc ms free
/-- a callee that returns or throws -/
def vx_Met (l : Launch) (y : MethodName) (ws : List Cond) (rm : Room) (Pc : Array Value → State → Prop) (Qc : Array Value → State → Outcome → State → Prop) (XC : String → State → State → Prop) (mc ms : Nat) (free : Addr → Prop) : Prop :=
  MetFree l y (headSpec ws rm) Pc (fun _ _ _ _ _ => True) (vx_Q Qc XC mc ms free)
def vx_Post (XC : String → State → State → Prop) (mc ms : Nat) (free : Addr → Prop) : Pt → Array Value → Addr → Pt → Prop := fun A a q B =>
  ∃ (g : JFrame) (mk : MethodId) (t : State) (L : List Loc) (E : String) (ce : Cell), B.U.heap = t.heap ∧ B.U.vm = t.vm ∧ XC E (A.U.calling g mk a) t ∧ t.heap[q]? = some ce ∧ ce.vm = .none ∧ A.U.vm.findClass E = some ce.cls ∧ B.locs = A.locs ++ L ∧ (∀ z ∈ L, free z.base) ∧ B.cells = A.cells + mc ∧ B.slots = A.slots + ms
def vx_Back (l : Launch) (R : Room) (p : Program) (e : Env) (below : List Frame) (s : State) (sargs : Array Value) (y : MethodName) (len W9 : Nat)
    (Pre : Pt → Array Value → Prop) (Post : Pt → Array Value → Option Value → Pt → Prop) (PostX : Pt → Array Value → Addr → Pt → Prop) : Prop :=
  ∀ (m : MethodId) (meth : Method) (c : Code) (A : Pt) (g : JFrame) (ig : Instr) (mk : MethodId) (a : Array Value),
    Stand p l e R s m sargs below meth c A.U A.locs A.cells A.slots → g.method = m → g.locals.size = c.maxLocals → decode c.code g.pc = .ok (ig, len) →
    2 * g.monitorRoom + (g.stack.map fun v => v.category).sum ≤ W9 → A.U.methodNamed? y = some mk → Pre A a →
    (∃ (v : Option Value) (B : Pt), Stand p l e R s m sargs below meth c B.U B.locs B.cells B.slots ∧ Post A a v B ∧
      Steps p.tables e below (doInvoke e (A.U.setTop g) [] mk a).1 (B.U.setTop { g with pc := g.pc + len, stack := v.toList ++ g.stack })) ∨
    (∃ (q : Addr) (B : Pt), Stand p l e R s m sargs below meth c B.U B.locs B.cells B.slots ∧ PostX A a q B ∧
      Steps p.tables e below (doInvoke e (A.U.setTop g) [] mk a).1 ((B.U.setTop g).pushFrame (.throwing q)))
section Payer
variable {l : Launch} {R : Room} {p : Program} {e : Env} {below : List Frame} {s : State} {sargs : Array Value} {y : MethodName} {len W9 : Nat}
theorem vx_back {ws : List Cond} {rm : Room} {Pc : Array Value → State → Prop} {Qc : Array Value → State → Outcome → State → Prop} {XC : String → State → State → Prop} {mc ms : Nat} {free : Addr → Prop} {bytes : ByteArray} {maxL : Nat} {ret : Option FieldType}
    (hM : vx_Met l y ws rm Pc Qc XC mc ms free) (hblind : FrameBlind Pc) (hrc : rm.cells = mc) (hrs : rm.slots = ms)
    (hframes : rm.frames + 1 ≤ R.frames) (hlocals : W9 + (maxL + 11) + rm.locals ≤ R.locals)
    (hws : ∀ w ∈ ws, ∀ a' U, s.WarmedH U.vm → w.before a' U = true) (hcode : Cond.code y bytes maxL ret ∈ ws) (hinit : ∀ a' U, s.WarmedH U.vm → (Cond.initialized y.cls).before a' U = true) :
    vx_Back l R p e below s sargs y len W9 (PreOf R mc ms Pc) (PostOf Qc mc ms free) (vx_Post XC mc ms free) := by
  intro m meth c A g ig mk a X hg hsize hdg hW hn hp
  have h1 : (headSpec ws rm).pre.before a A.U = true := atoms_intro fun w hw => hws w hw _ _ X.warmed
  have h2 : (Cond.code y bytes maxL ret).before a A.U = true := hws _ hcode _ _ X.warmed
  have h3 : (Cond.initialized y.cls).before a A.U = true := hinit _ _ X.warmed
  have h4 : A.cells + (headSpec ws rm).room.cells ≤ R.cells := by rw [show (headSpec ws rm).room.cells = mc from hrc]; exact hp.1
  have h5 : A.slots + (headSpec ws rm).room.slots ≤ R.slots := by rw [show (headSpec ws rm).room.slots = ms from hrs]; exact hp.2.1
  have hPc : Pc a (A.U.calling g mk a) := hblind _ _ _ _ hp.2.2
  obtain ⟨U, Ls, c0, s0⟩ := A
  dsimp only [Pt.U, Pt.locs, Pt.cells, Pt.slots] at h1 h2 h3 h4 h5 X hn hPc ⊢
  obtain ⟨methY, cY, hmY, hcY, -, hlY, -, -, -, -⟩ := Cond.code_spec hn h2
  obtain ⟨kY, hkY, -⟩ := className_of_methodNamed hn
  have hinitY : kY.init = .initialized := Cond.initialized_spec (findClass_of_methodNamed hn) hkY h3
  have h : At U g.method c below := by rw [hg]; exact X.here
  have hlocals9 : W9 + (maxL + 11) + (headSpec ws rm).room.locals ≤ R.locals := hlocals
  have happ : (headSpec ws rm).appliesLoose y e.platform (U.calling g mk a) = true :=
    Spec.appliesLoose_calling (g := g) h hdg hn hkY hinitY
      (X.room_calling (g := g) (R' := (headSpec ws rm).room) hsize hmY hcY hframes (by rw [hlY]; omega) h4 h5) h1
  obtain ⟨mid, hmid⟩ := h.above
  have hfr : (U.setTop g).frames = (.java g :: mid) ++ below := by rw [State.frames_setTop' g h.top, hmid]; rfl
  obtain ⟨o, s₂, hsteps, -, hend, hq⟩ := Steps.callFree hM p X.admits X.cas X.clock (acts := []) hfr happ hPc trivial
  have hq' : vx_Q Qc XC mc ms free a (U.calling g mk a) o s₂ := hq
  rw [State.frames_setTop' g h.top] at hend
  obtain ⟨g₀, hg0⟩ := Option.isSome_iff_exists.mp h.top
  obtain ⟨r, hr⟩ := State.topJava?_eq_some.mp hg0
  have hr' : (({ U with heap := s₂.heap, slotsUsed := s₂.slotsUsed } : State).setVm s₂.vm).frames = .java g₀ :: r := hr
  rcases hq' with ⟨hqc, L, hfe, hL⟩ | ⟨q, rfl, E, ce, L, hx, hce, hcv, hcl, hW₂, hsm, hL⟩
  · obtain ⟨⟨v, rfl⟩, hW₂, e2, q2, q3, q4, q5, q6⟩ := id hfe
    have e3 : s₂ = ({ (U.calling g mk a).setFrames s₂.frames with heap := s₂.heap, slotsUsed := s₂.slotsUsed } : State).setVm s₂.vm := by
      have : s₂ = ({ s₂ with vm := (U.calling g mk a).vm } : State).setVm s₂.vm := rfl
      rw [e2] at this
      exact this
    obtain ⟨c₂, i₂, len₂, hc₂, hd₂, hf₂⟩ := hend
    have hW' : U.WarmedH s₂.vm := hW₂
    have hcc : c₂ = c := by
      have h1 : s₂.code? g.method = U.code? g.method := by
        rw [State.code?_eq, State.code?_eq, hW'.alike.method?]
      exact Option.some.inj (hc₂.symm.trans (h1.trans h.code))
    subst hcc
    have hlen : len₂ = len := by rw [hdg] at hd₂; cases hd₂; rfl
    subst hlen
    have hs₂ : s₂ = (({ U with heap := s₂.heap, slotsUsed := s₂.slotsUsed } : State).setVm s₂.vm).setTop { g with pc := g.pc + len₂, stack := v.toList ++ g.stack } := by
      refine e3.trans ?_
      rw [hf₂, State.calling_eq h.top, State.setFrames_setFrames, State.setTop_of_frames _ hr', hr]
      rfl
    have hsame : U.sameButNew ({ U with heap := s₂.heap, slotsUsed := s₂.slotsUsed } : State) L mc ms := by
      refine ⟨?_, q2, q3, q4, q5, q6⟩
      obtain ⟨t, ht, -⟩ := State.frames_cons hr
      show ({ U with heap := s₂.heap, slotsUsed := s₂.slotsUsed } : State) = { U.setFrames U.frames with heap := s₂.heap, slotsUsed := s₂.slotsUsed }
      rw [State.setFrames_self ht]
    subst hg
    refine Or.inl ⟨v, ⟨(({ U with heap := s₂.heap, slotsUsed := s₂.slotsUsed } : State).setVm s₂.vm), Ls ++ L, c0 + mc, s0 + ms⟩,
      ⟨X.admits, X.cas, X.clock, X.frames, X.room, X.hears, X.method, X.code, (X.here.setHeapUsed s₂.heap s₂.slotsUsed).setVm hW'.alike, X.tail, State.WarmedH.trans X.warmed hW', X.limits, X.bytes, X.same.trans (hsame.setVm s.vm)⟩,
      ⟨g, mk, s₂, L, rfl, rfl, hqc, rfl, hL, rfl, rfl⟩, ?_⟩
    show Steps p.tables e below _ ((({ U with heap := s₂.heap, slotsUsed := s₂.slotsUsed } : State).setVm s₂.vm).setTop { g with pc := g.pc + len₂, stack := v.toList ++ g.stack })
    rw [← hs₂]
    exact hsteps
  · obtain ⟨e2, q2, q3, q4, q5, q6⟩ := id hsm
    have e3 : s₂ = ({ (U.calling g mk a).setFrames s₂.frames with heap := s₂.heap, slotsUsed := s₂.slotsUsed } : State).setVm s₂.vm := by
      have : s₂ = ({ s₂ with vm := (U.calling g mk a).vm } : State).setVm s₂.vm := rfl
      rw [e2] at this
      exact this
    have hf₂ : s₂.frames = .throwing q :: .java g :: U.frames.tail := hend
    have hW' : U.WarmedH s₂.vm := hW₂
    have hs₂ : s₂ = ((({ U with heap := s₂.heap, slotsUsed := s₂.slotsUsed } : State).setVm s₂.vm).setTop g).pushFrame (.throwing q) := by
      refine e3.trans ?_
      rw [hf₂, State.calling_eq h.top, State.setFrames_setFrames, State.pushFrame, State.frames_setTop _ hr', State.setTop_of_frames _ hr', State.setFrames_setFrames, hr]
      rfl
    have hsame : U.sameButNew ({ U with heap := s₂.heap, slotsUsed := s₂.slotsUsed } : State) L mc ms := by
      refine ⟨?_, q2, q3, q4, q5, q6⟩
      obtain ⟨t, ht, -⟩ := State.frames_cons hr
      show ({ U with heap := s₂.heap, slotsUsed := s₂.slotsUsed } : State) = { U.setFrames U.frames with heap := s₂.heap, slotsUsed := s₂.slotsUsed }
      rw [State.setFrames_self ht]
    subst hg
    refine Or.inr ⟨q, ⟨(({ U with heap := s₂.heap, slotsUsed := s₂.slotsUsed } : State).setVm s₂.vm), Ls ++ L, c0 + mc, s0 + ms⟩,
      ⟨X.admits, X.cas, X.clock, X.frames, X.room, X.hears, X.method, X.code, (X.here.setHeapUsed s₂.heap s₂.slotsUsed).setVm hW'.alike, X.tail, State.WarmedH.trans X.warmed hW', X.limits, X.bytes, X.same.trans (hsame.setVm s.vm)⟩,
      ⟨g, mk, s₂, L, E, ce, rfl, rfl, hx, hce, hcv, hcl, rfl, hL, rfl, rfl⟩, ?_⟩
    show Steps p.tables e below _ (((({ U with heap := s₂.heap, slotsUsed := s₂.slotsUsed } : State).setVm s₂.vm).setTop g).pushFrame (.throwing q))
    rw [← hs₂]
    exact hsteps
end Payer
section Calls
variable {p : Program} {l : Launch} {e : Env} {R : Room} {s : State} {m : MethodId} {args : Array Value} {below : List Frame} {meth : Method} {c : Code} {T : State} {locs : List Loc} {cells slots : Nat}
theorem vx_callV (X : Stand p l e R s m args below meth c T locs cells slots) (hexec : p.tables.exec = Jvm.exec) {own C : String} {index : Nat} {y : MethodName} {bytes : ByteArray} {maxL : Nat} {ret : Option FieldType}
    (hown : s.vm.findClass own = some m.cls) (hlink : (Cond.methodLink own index y).before args s = true) (hinst : (Cond.instanceMethod y).before args s = true) (hsel : (Cond.selects C y y).before args s = true)
    (hcode : (Cond.code y bytes maxL ret).before args s = true) (hy : y.cls ≠ "java/lang/invoke/MethodHandle" ∧ y.cls ≠ "java/lang/invoke/VarHandle")
    {W9 : Nat} {Pre : Pt → Array Value → Prop} {Post : Pt → Array Value → Option Value → Pt → Prop} {PostX : Pt → Array Value → Addr → Pt → Prop} (hK : vx_Back l R p e below s args y 3 W9 Pre Post PostX)
    {b : Addr} {cellB : Cell} (hcell : T.heap[b]? = some cellB) (hobj : cellB.vm.isStatics = false) (hcls : s.vm.findClass C = some cellB.cls)
    {g : JFrame} (hg : g.method = m) (hsize : g.locals.size = c.maxLocals) {argsL rest : List Value} (hlen : ∀ sig, parseMethodDescriptor y.desc = some sig → argsL.length = sig.parameters.length)
    (hstack : g.stack = argsL.reverse ++ .ref b :: rest) (hW : 2 * g.monitorRoom + (rest.map fun v => v.category).sum ≤ W9) (hdg : decode c.code g.pc = .ok (.invokevirtual index, 3))
    (hpre : ∀ vm₁, s.WarmedH vm₁ → Pre ⟨T.setVm vm₁, locs, cells, slots⟩ (Value.ref b :: argsL).toArray) :
    (∃ (v : Option Value) (vm₁ : Vm) (B : Pt), s.WarmedH vm₁ ∧ Stand p l e R s m args below meth c B.U B.locs B.cells B.slots ∧ Post ⟨T.setVm vm₁, locs, cells, slots⟩ (Value.ref b :: argsL).toArray v B ∧
      ∀ target, Steps p.tables e below (B.U.setTop { g with pc := g.pc + 3, stack := v.toList ++ rest }) target → Steps p.tables e below (T.setTop g) target) ∨
    (∃ (q : Addr) (vm₁ : Vm) (B : Pt), s.WarmedH vm₁ ∧ Stand p l e R s m args below meth c B.U B.locs B.cells B.slots ∧ PostX ⟨T.setVm vm₁, locs, cells, slots⟩ (Value.ref b :: argsL).toArray q B ∧
      Steps p.tables e below (T.setTop g) ((B.U.setTop { g with stack := rest }).pushFrame (.throwing q))) := by
  obtain ⟨mk, methM, hnamed, hmethM, hstM, habM⟩ := Cond.instanceMethod_spec hinst
  obtain ⟨methM', cM, hmethM', -, -, -, -, -, -, hsigM⟩ := Cond.code_spec hnamed hcode
  cases hmethM.symm.trans hmethM'
  obtain ⟨c2, r2, m2, q1, q2, q3, q4, kP, hkP, hkPi⟩ := Cond.selects_spec hsel
  cases hcls.symm.trans q1
  cases (State.methodFound?_of_named hnamed hy).symm.trans q2
  cases hnamed.symm.trans q3
  have hselP : selectMethod e.platform s.vm cellB.cls mk = .method mk := by rw [Launch.admits_selectMethod X.admits]; exact q4
  obtain ⟨vm₁, X₁, hstep₁⟩ := X.invokevirtual hexec hown hlink hnamed hmethM hstM hkP hkPi hy (a := b) (cell := cellB) hcell
    (fun z h => by rw [h] at hobj; cases hobj) hselP hmethM habM hkP hkPi (g := g) hg (argsL := argsL) (rest := rest) (hlen _ hsigM) hstack hdg
  rcases hK m meth c ⟨T.setVm vm₁, locs, cells, slots⟩ { g with stack := rest } (.invokevirtual index) mk (Value.ref b :: argsL).toArray X₁ hg hsize hdg hW (X₁.named hnamed) (hpre vm₁ X₁.warmed) with ⟨v, B, X', hpost, hsteps⟩ | ⟨q, B, X', hpost, hsteps⟩
  · exact Or.inl ⟨v, vm₁, B, X₁.warmed, X', hpost, fun target h => hstep₁ _ fun acts => by rw [doInvoke_state]; exact hsteps.trans h⟩
  · exact Or.inr ⟨q, vm₁, B, X₁.warmed, X', hpost, hstep₁ _ fun acts => by rw [doInvoke_state]; exact hsteps⟩
theorem vx_callS (X : Stand p l e R s m args below meth c T locs cells slots) (hexec : p.tables.exec = Jvm.exec) {own : String} {index : Nat} {y : MethodName} {bytes : ByteArray} {maxL : Nat} {ret : Option FieldType}
    (hown : s.vm.findClass own = some m.cls) (hlink : (Cond.methodLink own index y).before args s = true) (hstat : (Cond.static y).before args s = true) (hinit : (Cond.initialized y.cls).before args s = true)
    (hcode : (Cond.code y bytes maxL ret).before args s = true) (hy : y.cls ≠ "java/lang/invoke/MethodHandle" ∧ y.cls ≠ "java/lang/invoke/VarHandle")
    {W9 : Nat} {Pre : Pt → Array Value → Prop} {Post : Pt → Array Value → Option Value → Pt → Prop} {PostX : Pt → Array Value → Addr → Pt → Prop} (hK : vx_Back l R p e below s args y 3 W9 Pre Post PostX)
    {g : JFrame} (hg : g.method = m) (hsize : g.locals.size = c.maxLocals) {argsL rest : List Value} (hlen : ∀ sig, parseMethodDescriptor y.desc = some sig → argsL.length = sig.parameters.length)
    (hstack : g.stack = argsL.reverse ++ rest) (hW : 2 * g.monitorRoom + (rest.map fun v => v.category).sum ≤ W9) (hdg : decode c.code g.pc = .ok (.invokestatic index, 3))
    (hpre : ∀ vm₁, s.WarmedH vm₁ → Pre ⟨T.setVm vm₁, locs, cells, slots⟩ argsL.toArray) :
    (∃ (v : Option Value) (vm₁ : Vm) (B : Pt), s.WarmedH vm₁ ∧ Stand p l e R s m args below meth c B.U B.locs B.cells B.slots ∧ Post ⟨T.setVm vm₁, locs, cells, slots⟩ argsL.toArray v B ∧
      ∀ target, Steps p.tables e below (B.U.setTop { g with pc := g.pc + 3, stack := v.toList ++ rest }) target → Steps p.tables e below (T.setTop g) target) ∨
    (∃ (q : Addr) (vm₁ : Vm) (B : Pt), s.WarmedH vm₁ ∧ Stand p l e R s m args below meth c B.U B.locs B.cells B.slots ∧ PostX ⟨T.setVm vm₁, locs, cells, slots⟩ argsL.toArray q B ∧
      Steps p.tables e below (T.setTop g) ((B.U.setTop { g with stack := rest }).pushFrame (.throwing q))) := by
  obtain ⟨mk, hnamed⟩ := Cond.code_named hcode
  obtain ⟨methM, cM, hmethM, -, -, -, -, -, -, hsigM⟩ := Cond.code_spec hnamed hcode
  have hstatic : methM.isStatic = true := Cond.static_spec hnamed hmethM hstat
  obtain ⟨kP, hkP, -⟩ := className_of_methodNamed hnamed
  have hinitP : kP.init = .initialized := Cond.initialized_spec (findClass_of_methodNamed hnamed) hkP hinit
  obtain ⟨vm₁, X₁, hstep₁⟩ := X.invokestatic hexec hown hlink hnamed hmethM hstatic hkP hinitP hy (g := g) hg (argsL := argsL) (rest := rest) (hlen _ hsigM) hstack hdg
  rcases hK m meth c ⟨T.setVm vm₁, locs, cells, slots⟩ { g with stack := rest } (.invokestatic index) mk argsL.toArray X₁ hg hsize hdg hW (X₁.named hnamed) (hpre vm₁ X₁.warmed) with ⟨v, B, X', hpost, hsteps⟩ | ⟨q, B, X', hpost, hsteps⟩
  · exact Or.inl ⟨v, vm₁, B, X₁.warmed, X', hpost, fun target h => hstep₁ _ fun acts => by rw [doInvoke_state]; exact hsteps.trans h⟩
  · exact Or.inr ⟨q, vm₁, B, X₁.warmed, X', hpost, hstep₁ _ fun acts => by rw [doInvoke_state]; exact hsteps⟩
end Calls
theorem vx_cls {s : State} {T : State} {vm₁ : Vm} {E : String} {k : ClassId} (hW : s.WarmedH vm₁) (h : (T.setVm vm₁).vm.findClass E = some k) : s.vm.findClass E = some k := by
  have h1 : vm₁.findClass E = some k := h
  rw [hW.alike.findClass] at h1
  exact h1
/-- the method's frame g, with q thrown over it -/
def vx_W (p : Program) (l : Launch) (e : Env) (R : Room) (s : State) (m : MethodId) (args : Array Value) (below : List Frame) (meth : Method) (c : Code) (H : Heap) (locs : List Loc) (cells slots : Nat) (Q : State → Prop) (g : JFrame) (q : Addr) : Prop :=
  ∀ T : State, T.heap = H → Stand p l e R s m args below meth c T locs cells slots → ∃ t, Steps p.tables e below ((T.setTop g).pushFrame (.throwing q)) t ∧ Q t
def vx_Run (p : Program) (l : Launch) (e : Env) (R : Room) (s : State) (m : MethodId) (args : Array Value) (below : List Frame) (meth : Method) (c : Code) (H : Heap) (locs : List Loc) (cells slots mc ms : Nat) (g : JFrame) (rest : List Value) (Qa : State → Outcome → State → Prop) (XC : String → State → State → Prop) (free : Addr → Prop) : Prop :=
  ∀ T : State, T.heap = H → Stand p l e R s m args below meth c T locs cells slots →
    (∃ (v : Option Value) (st₀ t T' : State) (L : List Loc), st₀.heap = H ∧ Stand p l e R s m args below meth c T' (locs ++ L) (cells + mc) (slots + ms) ∧ (∀ q ∈ L, free q.base) ∧ T'.heap = t.heap ∧ T'.vm = t.vm ∧ Qa st₀ (.returned v) t ∧
      Goes p e below T g T' { g with pc := g.pc + 3, stack := v.toList ++ rest }) ∨
    (∃ (q : Addr) (st₀ t T' : State) (L : List Loc) (E : String) (ce : Cell), st₀.heap = H ∧ Stand p l e R s m args below meth c T' (locs ++ L) (cells + mc) (slots + ms) ∧ (∀ z ∈ L, free z.base) ∧ T'.heap = t.heap ∧ T'.vm = t.vm ∧ XC E st₀ t ∧ t.heap[q]? = some ce ∧ ce.vm = .none ∧ s.vm.findClass E = some ce.cls ∧
      Steps p.tables e below (T.setTop g) ((T'.setTop { g with stack := rest }).pushFrame (.throwing q)))
def vx_X {S : Type} (px : S → Prop) (B : String → S → State → Prop) (A : Nat → Prop) : String → State → State → Prop := fun E st t => ∃ u : S, px u ∧ B E u t ∧ va_F A st t
section Runs
variable {p : Program} {l : Launch} {e : Env} {R : Room} {s : State} {m : MethodId} {args : Array Value} {below : List Frame} {meth : Method} {c : Code} {H : Heap} {locs : List Loc} {cells slots : Nat}
variable {y : MethodName} {bytes cc : ByteArray} {maxL nL mc ms n index : Nat} {ret : Option FieldType} {ws : List Cond} {rm : Room} {Pc : Array Value → State → Prop} {Qc : Array Value → State → Outcome → State → Prop} {XC : String → State → State → Prop} {free : Addr → Prop} {Ts : List Cond} {own C : String} {b : Addr} {As rest : List Value} {g : JFrame}
theorem vx_callBack (cb : CallB R s args own index y bytes maxL ret ws rm mc ms n) (hM : vx_Met l y ws rm Pc Qc XC mc ms free) (hbl : FrameBlind Pc) : vx_Back l R p e below s args y 3 8 (PreOf R mc ms Pc) (PostOf Qc mc ms free) (vx_Post XC mc ms free) := by
  obtain ⟨hrc, hrs, hfr, hlo, hws, hcw, -, hini, -⟩ := cb
  exact vx_back (bytes := bytes) (maxL := maxL) (ret := ret) hM hbl hrc hrs hfr hlo hws hcw (fun a' U hW => word_at hW (Or.inl (by first | rfl | simp [Cond.onTables, Cond.keeps, Cond.steady])) hini)
theorem vx_runV (S : CallFix p m c cc nL s args Ts own) (hM : vx_Met l y ws rm Pc Qc XC mc ms free) (cw : CallW R s args own C index y bytes maxL ret ws rm mc ms n) (hp : PreV s H C b Pc As)
    (hg : g.method = m) (hn : As.length = n) (hsize : g.locals.size = nL) (hstack : g.stack = As.reverse ++ .ref b :: rest) (hW : 2 * g.monitorRoom + (rest.map fun v => v.category).sum ≤ 8) (hdg : decode cc g.pc = .ok (.invokevirtual index, 3)) (hf : cells + mc ≤ R.cells ∧ slots + ms ≤ R.slots) :
    vx_Run p l e R s m args below meth c H locs cells slots mc ms g rest (Qc (Value.ref b :: As).toArray) XC free := by
  have hK : vx_Back l R p e below s args y 3 8 (PreOf R mc ms Pc) (PostOf Qc mc ms free) (vx_Post XC mc ms free) := vx_callBack cw.1 hM hp.1
  obtain ⟨⟨-, -, -, -, -, -, hcode, -, hy, hlen, hl⟩, hin, hse⟩ := cw
  obtain ⟨hx, hb, hml, ho, -⟩ := S
  obtain ⟨-, ⟨cellB, hcB, hoB, hclB⟩, hPc⟩ := hp
  intro T hT X
  rcases vx_callV X hx (C := C) (bytes := bytes) (maxL := maxL) (ret := ret) ho hl hin hse hcode hy hK (by rw [hT]; exact hcB) hoB hclB hg (hsize.trans hml.symm) (argsL := As) (rest := rest) (fun sig h => hn.trans (hlen sig h)) hstack hW (by rw [hb]; exact hdg)
    (fun vm₁ hW₁ => ⟨hf.1, hf.2, hPc (T.setVm vm₁) hT hW₁⟩) with ⟨v, vm₁, ⟨U', l2, c2, s2⟩, hW₁, X', ⟨g', mk, t, L, e1, e2, hq, h1, hL, h2, h3⟩, st⟩ | ⟨q, vm₁, ⟨U', l2, c2, s2⟩, hW₁, X', ⟨g', mk, t, L, E, ce, e1, e2, hq, hce, hcv, hcl, h1, hL, h2, h3⟩, st⟩
  · dsimp only [Pt.U, Pt.locs, Pt.cells, Pt.slots] at X' e1 e2 h1 h2 h3 st
    subst h1; subst h2; subst h3
    exact Or.inl ⟨v, (T.setVm vm₁).calling g' mk (Value.ref b :: As).toArray, t, U', L, hT, X', hL, e1, e2, hq, st⟩
  · dsimp only [Pt.U, Pt.locs, Pt.cells, Pt.slots] at X' e1 e2 h1 h2 h3 st hcl
    subst h1; subst h2; subst h3
    exact Or.inr ⟨q, (T.setVm vm₁).calling g' mk (Value.ref b :: As).toArray, t, U', L, E, ce, hT, X', hL, e1, e2, hq, hce, hcv, vx_cls hW₁ hcl, st⟩
theorem vx_runS (S : CallFix p m c cc nL s args Ts own) (hM : vx_Met l y ws rm Pc Qc XC mc ms free) (cw : CallB R s args own index y bytes maxL ret ws rm mc ms n ∧ (Cond.static y).before args s = true) (hp : PreS s H Pc As)
    (hg : g.method = m) (hn : As.length = n) (hsize : g.locals.size = nL) (hstack : g.stack = As.reverse ++ rest) (hW : 2 * g.monitorRoom + (rest.map fun v => v.category).sum ≤ 8) (hdg : decode cc g.pc = .ok (.invokestatic index, 3)) (hf : cells + mc ≤ R.cells ∧ slots + ms ≤ R.slots) :
    vx_Run p l e R s m args below meth c H locs cells slots mc ms g rest (Qc As.toArray) XC free := by
  have hK : vx_Back l R p e below s args y 3 8 (PreOf R mc ms Pc) (PostOf Qc mc ms free) (vx_Post XC mc ms free) := vx_callBack cw.1 hM hp.1
  obtain ⟨⟨-, -, -, -, -, -, hcode, hini, hy, hlen, hl⟩, hstt⟩ := cw
  obtain ⟨hx, hb, hml, ho, -⟩ := S
  intro T hT X
  rcases vx_callS X hx (bytes := bytes) (maxL := maxL) (ret := ret) ho hl hstt hini hcode hy hK hg (hsize.trans hml.symm) (argsL := As) (rest := rest) (fun sig h => hn.trans (hlen sig h)) hstack hW (by rw [hb]; exact hdg)
    (fun vm₁ hW₁ => ⟨hf.1, hf.2, hp.2 (T.setVm vm₁) hT hW₁⟩) with ⟨v, vm₁, ⟨U', l2, c2, s2⟩, hW₁, X', ⟨g', mk, t, L, e1, e2, hq, h1, hL, h2, h3⟩, st⟩ | ⟨q, vm₁, ⟨U', l2, c2, s2⟩, hW₁, X', ⟨g', mk, t, L, E, ce, e1, e2, hq, hce, hcv, hcl, h1, hL, h2, h3⟩, st⟩
  · dsimp only [Pt.U, Pt.locs, Pt.cells, Pt.slots] at X' e1 e2 h1 h2 h3 st
    subst h1; subst h2; subst h3
    exact Or.inl ⟨v, (T.setVm vm₁).calling g' mk As.toArray, t, U', L, hT, X', hL, e1, e2, hq, st⟩
  · dsimp only [Pt.U, Pt.locs, Pt.cells, Pt.slots] at X' e1 e2 h1 h2 h3 st hcl
    subst h1; subst h2; subst h3
    exact Or.inr ⟨q, (T.setVm vm₁).calling g' mk As.toArray, t, U', L, E, ce, hT, X', hL, e1, e2, hq, hce, hcv, vx_cls hW₁ hcl, st⟩
end Runs
section Rows
variable {p : Program} {l : Launch} {e : Env} {R : Room} {s : State} {m : MethodId} {args : Array Value} {below : List Frame} {meth : Method} {c : Code} {H : Heap} {locs : List Loc} {cells slots : Nat} {Q : State → Prop}
variable {mc ms : Nat} {free : Addr → Prop} {A0 A1 : Nat → Prop} {H0 : Heap} {a : Array Value} {pc : Nat} {ls : Array Slot} {st0 rest : List Value}
theorem vx_keep {st₀ t T' : State} {L : List Loc} (h0 : st₀.heap = H) (e1 : T'.heap = t.heap) (hS : va_S A0 H0 H locs) (hA : ∀ q, q < H.size → A1 q → A0 q) (hf : ∀ q, free q → A0 q) (hL : ∀ q ∈ L, free q.base) (hF : va_F A1 st₀ t) :
    H.size ≤ T'.heap.size ∧ (∀ q : Nat, q < H.size → ¬ A1 q → T'.heap[q]? = H[q]?) ∧ va_S A0 H0 T'.heap (locs ++ L) := by
  obtain ⟨hz, hk⟩ := hF
  rw [h0] at hz hk
  exact ⟨by rw [e1]; exact hz, fun q h1 h2 => by rw [e1]; exact hk q h1 h2,
    ⟨Nat.le_trans hS.1 (by rw [e1]; exact hz), fun q h1 h2 => by rw [e1, hk q (Nat.lt_of_lt_of_le h1 hS.1) (fun z => h2 (hA q (Nat.lt_of_lt_of_le h1 hS.1) z))]; exact hS.2.1 q h1 h2, fun q hq => by
      rcases List.mem_append.mp hq with h | h
      · exact hS.2.2 q h
      · exact hf _ (hL q h)⟩⟩
theorem vx_calli {S SX : Type} {post : Int32 → S → Prop} {px : SX → Prop} {B : S → State → Prop} {BX : String → SX → State → Prop} {AX : Nat → Prop} (hr : vx_Run p l e R s m args below meth c H locs cells slots mc ms (F0 m pc ls st0) rest (va_Qi post B A1 a) (vx_X px BX AX) free) (hS : va_S A0 H0 H locs) (hA : ∀ q, q < H.size → A1 q → A0 q) (hf : ∀ q, free q → A0 q) (hAX : ∀ q, q < H.size → AX q → A0 q)
    (kx : ∀ (E : String) (ce : Cell) (q9 : Addr) (u : SX) (t : State) (H1 : Heap) (locs1 : List Loc), t.heap = H1 → s.vm.Alike t.vm → px u → BX E u t → H.size ≤ H1.size → (∀ q : Nat, q < H.size → ¬ AX q → H1[q]? = H[q]?) → va_S A0 H0 H1 locs1 → H1[q9]? = some ce → ce.vm = .none → s.vm.findClass E = some ce.cls → vx_W p l e R s m args below meth c H1 locs1 (cells + mc) (slots + ms) Q (F0 m pc ls rest) q9)
    (kk : ∀ (r : Int32) (u : S) (t : State) (H1 : Heap) (locs1 : List Loc), t.heap = H1 → s.vm.Alike t.vm → post r u → B u t → H.size ≤ H1.size → (∀ q : Nat, q < H.size → ¬ A1 q → H1[q]? = H[q]?) → va_S A0 H0 H1 locs1 → W p l e R s m args below meth c H1 locs1 (cells + mc) (slots + ms) Q (F0 m (pc + 3) ls (.int r :: rest))) : W p l e R s m args below meth c H locs cells slots Q (F0 m pc ls st0) := by
  intro T hT X
  rcases hr T hT X with ⟨v, st₀, t, T', L, h0, X', hL, e1, e2, ⟨⟨r, u, hv, hp, hb⟩, hF⟩, st⟩ | ⟨q, st₀, t, T', L, E, ce, h0, X', hL, e1, e2, ⟨u, hp, hb, hF⟩, hce, hcv, hcl, st⟩
  · cases hv
    obtain ⟨k1, k2, k3⟩ := vx_keep h0 e1 hS hA hf hL hF
    obtain ⟨t2, a1, b1⟩ := kk r u t T'.heap (locs ++ L) e1.symm (by rw [← e2]; exact X'.warmed.alike) hp hb k1 k2 k3 T' rfl X'
    exact ⟨t2, st t2 a1, b1⟩
  · obtain ⟨k1, k2, k3⟩ := vx_keep h0 e1 hS hAX hf hL hF
    obtain ⟨t2, a1, b1⟩ := kx E ce q u t T'.heap (locs ++ L) e1.symm (by rw [← e2]; exact X'.warmed.alike) hp hb k1 k2 k3 (by rw [e1]; exact hce) hcv hcl T' rfl X'
    exact ⟨t2, st.trans a1, b1⟩
theorem vx_calll {S SX : Type} {post : Int64 → S → Prop} {px : SX → Prop} {B : S → State → Prop} {BX : String → SX → State → Prop} {AX : Nat → Prop} (hr : vx_Run p l e R s m args below meth c H locs cells slots mc ms (F0 m pc ls st0) rest (va_Ql post B A1 a) (vx_X px BX AX) free) (hS : va_S A0 H0 H locs) (hA : ∀ q, q < H.size → A1 q → A0 q) (hf : ∀ q, free q → A0 q) (hAX : ∀ q, q < H.size → AX q → A0 q)
    (kx : ∀ (E : String) (ce : Cell) (q9 : Addr) (u : SX) (t : State) (H1 : Heap) (locs1 : List Loc), t.heap = H1 → s.vm.Alike t.vm → px u → BX E u t → H.size ≤ H1.size → (∀ q : Nat, q < H.size → ¬ AX q → H1[q]? = H[q]?) → va_S A0 H0 H1 locs1 → H1[q9]? = some ce → ce.vm = .none → s.vm.findClass E = some ce.cls → vx_W p l e R s m args below meth c H1 locs1 (cells + mc) (slots + ms) Q (F0 m pc ls rest) q9)
    (kk : ∀ (r : Int64) (u : S) (t : State) (H1 : Heap) (locs1 : List Loc), t.heap = H1 → s.vm.Alike t.vm → post r u → B u t → H.size ≤ H1.size → (∀ q : Nat, q < H.size → ¬ A1 q → H1[q]? = H[q]?) → va_S A0 H0 H1 locs1 → W p l e R s m args below meth c H1 locs1 (cells + mc) (slots + ms) Q (F0 m (pc + 3) ls (.long r :: rest))) : W p l e R s m args below meth c H locs cells slots Q (F0 m pc ls st0) := by
  intro T hT X
  rcases hr T hT X with ⟨v, st₀, t, T', L, h0, X', hL, e1, e2, ⟨⟨r, u, hv, hp, hb⟩, hF⟩, st⟩ | ⟨q, st₀, t, T', L, E, ce, h0, X', hL, e1, e2, ⟨u, hp, hb, hF⟩, hce, hcv, hcl, st⟩
  · cases hv
    obtain ⟨k1, k2, k3⟩ := vx_keep h0 e1 hS hA hf hL hF
    obtain ⟨t2, a1, b1⟩ := kk r u t T'.heap (locs ++ L) e1.symm (by rw [← e2]; exact X'.warmed.alike) hp hb k1 k2 k3 T' rfl X'
    exact ⟨t2, st t2 a1, b1⟩
  · obtain ⟨k1, k2, k3⟩ := vx_keep h0 e1 hS hAX hf hL hF
    obtain ⟨t2, a1, b1⟩ := kx E ce q u t T'.heap (locs ++ L) e1.symm (by rw [← e2]; exact X'.warmed.alike) hp hb k1 k2 k3 (by rw [e1]; exact hce) hcv hcl T' rfl X'
    exact ⟨t2, st.trans a1, b1⟩
theorem vx_callf {S SX : Type} {post : UInt32 → S → Prop} {px : SX → Prop} {B : S → State → Prop} {BX : String → SX → State → Prop} {AX : Nat → Prop} (hr : vx_Run p l e R s m args below meth c H locs cells slots mc ms (F0 m pc ls st0) rest (va_Qf post B A1 a) (vx_X px BX AX) free) (hS : va_S A0 H0 H locs) (hA : ∀ q, q < H.size → A1 q → A0 q) (hf : ∀ q, free q → A0 q) (hAX : ∀ q, q < H.size → AX q → A0 q)
    (kx : ∀ (E : String) (ce : Cell) (q9 : Addr) (u : SX) (t : State) (H1 : Heap) (locs1 : List Loc), t.heap = H1 → s.vm.Alike t.vm → px u → BX E u t → H.size ≤ H1.size → (∀ q : Nat, q < H.size → ¬ AX q → H1[q]? = H[q]?) → va_S A0 H0 H1 locs1 → H1[q9]? = some ce → ce.vm = .none → s.vm.findClass E = some ce.cls → vx_W p l e R s m args below meth c H1 locs1 (cells + mc) (slots + ms) Q (F0 m pc ls rest) q9)
    (kk : ∀ (r : UInt32) (u : S) (t : State) (H1 : Heap) (locs1 : List Loc), t.heap = H1 → s.vm.Alike t.vm → post r u → B u t → H.size ≤ H1.size → (∀ q : Nat, q < H.size → ¬ A1 q → H1[q]? = H[q]?) → va_S A0 H0 H1 locs1 → W p l e R s m args below meth c H1 locs1 (cells + mc) (slots + ms) Q (F0 m (pc + 3) ls (.float r :: rest))) : W p l e R s m args below meth c H locs cells slots Q (F0 m pc ls st0) := by
  intro T hT X
  rcases hr T hT X with ⟨v, st₀, t, T', L, h0, X', hL, e1, e2, ⟨⟨r, u, hv, hp, hb⟩, hF⟩, st⟩ | ⟨q, st₀, t, T', L, E, ce, h0, X', hL, e1, e2, ⟨u, hp, hb, hF⟩, hce, hcv, hcl, st⟩
  · cases hv
    obtain ⟨k1, k2, k3⟩ := vx_keep h0 e1 hS hA hf hL hF
    obtain ⟨t2, a1, b1⟩ := kk r u t T'.heap (locs ++ L) e1.symm (by rw [← e2]; exact X'.warmed.alike) hp hb k1 k2 k3 T' rfl X'
    exact ⟨t2, st t2 a1, b1⟩
  · obtain ⟨k1, k2, k3⟩ := vx_keep h0 e1 hS hAX hf hL hF
    obtain ⟨t2, a1, b1⟩ := kx E ce q u t T'.heap (locs ++ L) e1.symm (by rw [← e2]; exact X'.warmed.alike) hp hb k1 k2 k3 (by rw [e1]; exact hce) hcv hcl T' rfl X'
    exact ⟨t2, st.trans a1, b1⟩
theorem vx_calld {S SX : Type} {post : UInt64 → S → Prop} {px : SX → Prop} {B : S → State → Prop} {BX : String → SX → State → Prop} {AX : Nat → Prop} (hr : vx_Run p l e R s m args below meth c H locs cells slots mc ms (F0 m pc ls st0) rest (va_Qd post B A1 a) (vx_X px BX AX) free) (hS : va_S A0 H0 H locs) (hA : ∀ q, q < H.size → A1 q → A0 q) (hf : ∀ q, free q → A0 q) (hAX : ∀ q, q < H.size → AX q → A0 q)
    (kx : ∀ (E : String) (ce : Cell) (q9 : Addr) (u : SX) (t : State) (H1 : Heap) (locs1 : List Loc), t.heap = H1 → s.vm.Alike t.vm → px u → BX E u t → H.size ≤ H1.size → (∀ q : Nat, q < H.size → ¬ AX q → H1[q]? = H[q]?) → va_S A0 H0 H1 locs1 → H1[q9]? = some ce → ce.vm = .none → s.vm.findClass E = some ce.cls → vx_W p l e R s m args below meth c H1 locs1 (cells + mc) (slots + ms) Q (F0 m pc ls rest) q9)
    (kk : ∀ (r : UInt64) (u : S) (t : State) (H1 : Heap) (locs1 : List Loc), t.heap = H1 → s.vm.Alike t.vm → post r u → B u t → H.size ≤ H1.size → (∀ q : Nat, q < H.size → ¬ A1 q → H1[q]? = H[q]?) → va_S A0 H0 H1 locs1 → W p l e R s m args below meth c H1 locs1 (cells + mc) (slots + ms) Q (F0 m (pc + 3) ls (.double r :: rest))) : W p l e R s m args below meth c H locs cells slots Q (F0 m pc ls st0) := by
  intro T hT X
  rcases hr T hT X with ⟨v, st₀, t, T', L, h0, X', hL, e1, e2, ⟨⟨r, u, hv, hp, hb⟩, hF⟩, st⟩ | ⟨q, st₀, t, T', L, E, ce, h0, X', hL, e1, e2, ⟨u, hp, hb, hF⟩, hce, hcv, hcl, st⟩
  · cases hv
    obtain ⟨k1, k2, k3⟩ := vx_keep h0 e1 hS hA hf hL hF
    obtain ⟨t2, a1, b1⟩ := kk r u t T'.heap (locs ++ L) e1.symm (by rw [← e2]; exact X'.warmed.alike) hp hb k1 k2 k3 T' rfl X'
    exact ⟨t2, st t2 a1, b1⟩
  · obtain ⟨k1, k2, k3⟩ := vx_keep h0 e1 hS hAX hf hL hF
    obtain ⟨t2, a1, b1⟩ := kx E ce q u t T'.heap (locs ++ L) e1.symm (by rw [← e2]; exact X'.warmed.alike) hp hb k1 k2 k3 (by rw [e1]; exact hce) hcv hcl T' rfl X'
    exact ⟨t2, st.trans a1, b1⟩
theorem vx_callv {S SX : Type} {post : S → Prop} {px : SX → Prop} {B : S → State → Prop} {BX : String → SX → State → Prop} {AX : Nat → Prop} (hr : vx_Run p l e R s m args below meth c H locs cells slots mc ms (F0 m pc ls st0) rest (va_Qv post B A1 a) (vx_X px BX AX) free) (hS : va_S A0 H0 H locs) (hA : ∀ q, q < H.size → A1 q → A0 q) (hf : ∀ q, free q → A0 q) (hAX : ∀ q, q < H.size → AX q → A0 q)
    (kx : ∀ (E : String) (ce : Cell) (q9 : Addr) (u : SX) (t : State) (H1 : Heap) (locs1 : List Loc), t.heap = H1 → s.vm.Alike t.vm → px u → BX E u t → H.size ≤ H1.size → (∀ q : Nat, q < H.size → ¬ AX q → H1[q]? = H[q]?) → va_S A0 H0 H1 locs1 → H1[q9]? = some ce → ce.vm = .none → s.vm.findClass E = some ce.cls → vx_W p l e R s m args below meth c H1 locs1 (cells + mc) (slots + ms) Q (F0 m pc ls rest) q9)
    (kk : ∀ (u : S) (t : State) (H1 : Heap) (locs1 : List Loc), t.heap = H1 → s.vm.Alike t.vm → post u → B u t → H.size ≤ H1.size → (∀ q : Nat, q < H.size → ¬ A1 q → H1[q]? = H[q]?) → va_S A0 H0 H1 locs1 → W p l e R s m args below meth c H1 locs1 (cells + mc) (slots + ms) Q (F0 m (pc + 3) ls (rest))) : W p l e R s m args below meth c H locs cells slots Q (F0 m pc ls st0) := by
  intro T hT X
  rcases hr T hT X with ⟨v, st₀, t, T', L, h0, X', hL, e1, e2, ⟨⟨u, hv, hp, hb⟩, hF⟩, st⟩ | ⟨q, st₀, t, T', L, E, ce, h0, X', hL, e1, e2, ⟨u, hp, hb, hF⟩, hce, hcv, hcl, st⟩
  · cases hv
    obtain ⟨k1, k2, k3⟩ := vx_keep h0 e1 hS hA hf hL hF
    obtain ⟨t2, a1, b1⟩ := kk u t T'.heap (locs ++ L) e1.symm (by rw [← e2]; exact X'.warmed.alike) hp hb k1 k2 k3 T' rfl X'
    exact ⟨t2, st t2 a1, b1⟩
  · obtain ⟨k1, k2, k3⟩ := vx_keep h0 e1 hS hAX hf hL hF
    obtain ⟨t2, a1, b1⟩ := kx E ce q u t T'.heap (locs ++ L) e1.symm (by rw [← e2]; exact X'.warmed.alike) hp hb k1 k2 k3 (by rw [e1]; exact hce) hcv hcl T' rfl X'
    exact ⟨t2, st.trans a1, b1⟩
/-- caught by the row x of this method's table; the rows ahead don't take it -/
theorem vx_catch {own name : String} {E : String} {ce : Cell} {q : Addr} (hown : s.vm.findClass own = some m.cls) (pre : List ExceptionTableEntry) (x : ExceptionTableEntry) (suf : List ExceptionTableEntry) (hsplit : c.exceptionTable.toList = pre ++ x :: suf)
    (hpass : ∀ z ∈ pre, covers z pc = false ∨ (z.catchType ≠ 0 ∧ ∃ nm : String, (Cond.classLink own z.catchType nm).before args s = true ∧ va_Nc E nm s)) (hx : covers x pc = true) (h0 : x.catchType ≠ 0)
    (hlink : (Cond.classLink own x.catchType name).before args s = true) (hcast : (Cond.castable E name).before args s = true) (hcell : H[q]? = some ce) (hv : ce.vm = .none) (hcl : s.vm.findClass E = some ce.cls)
    (kk : W p l e R s m args below meth c H locs cells slots Q (F0 m x.handlerPc ls [.ref q])) : vx_W p l e R s m args below meth c H locs cells slots Q (F0 m pc ls rest) q := by
  intro T hT X
  have hpl : e.platform.magicAccessors = ({} : Platform).magicAccessors := by rw [X.admits.platform]
  obtain ⟨c3, c4, hc3, hc4, hasg⟩ := Cond.castable_spec hcast
  cases Option.some.inj (hc3.symm.trans hcl)
  obtain ⟨c5, hc5, hcl5⟩ := Cond.classLink_spec hown hlink e.platform hpl
  cases Option.some.inj (hc4.symm.trans hc5)
  obtain ⟨vm', X', st⟩ := X.thenCaughtThrough q (g := F0 m pc ls rest) rfl (Steps.refl _) (by rw [hT]; exact hcell) (by rw [hv]; rfl) (by obtain ⟨k9, h9, -⟩ := Vm.findClass_spec hcl; exact ⟨k9, h9⟩) pre x suf hsplit
    (fun z hz => by
      rcases hpass z hz with h | ⟨hz0, nm, hl1, hn1⟩
      · exact Or.inl h
      · obtain ⟨c6, hc6, hcl6⟩ := Cond.classLink_spec hown hl1 e.platform hpl
        obtain ⟨a8, b8, h1, h2, h3⟩ := hn1
        cases Option.some.inj (h1.symm.trans hcl)
        cases Option.some.inj (h2.symm.trans hc6)
        exact Or.inr ⟨hz0, _, hcl6, h3⟩) hx (Or.inr ⟨h0, c4, hcl5, hasg⟩)
  obtain ⟨t, a1, b1⟩ := kk (T.setVm vm') hT X'
  exact ⟨t, st.trans a1, b1⟩
end Rows
section Ends
variable {p : Program} {l : Launch} {e : Env} {R : Room} {s : State} {m : MethodId} {args : Array Value} {below : List Frame} {meth : Method} {c : Code} {H : Heap} {locs : List Loc} {cells slots : Nat} {Q : State → Prop}
variable {mc ms : Nat} {free : Addr → Prop} {A0 A1 : Nat → Prop} {H0 : Heap} {a : Array Value} {ls : Array Slot} {st0 rest : List Value}
variable {Qc : Array Value → State → Outcome → State → Prop} {XC : String → State → State → Prop}
/-- what a body that may throw owes at its end -/
def vx_MQ (below : List Frame) (Qc : Array Value → State → Outcome → State → Prop) (XC : String → State → State → Prop) (a : Array Value) (s : State) (mc ms : Nat) (free : Addr → Prop) : State → Prop := fun t =>
  ∃ o, t.status = .running ∧ Ended t below o ∧ vx_Q Qc XC mc ms free a s o t
theorem vx_ret {g : JFrame} {mc ms : Nat} (k : W p l e R s m args below meth c H locs cells slots (MQ below Qc args s mc ms free) g) : W p l e R s m args below meth c H locs cells slots (vx_MQ below Qc XC args s mc ms free) g := by
  intro T hT X
  obtain ⟨t, a1, o, b1, b2, b3, b4⟩ := k T hT X
  exact ⟨t, a1, o, b1, b2, Or.inl ⟨b3, b4⟩⟩
/-- not caught here: it goes on to the caller -/
theorem vx_widen {g : JFrame} {q : Addr} {k n : Nat} (h1 : cells ≤ k) (h2 : slots ≤ n) (kk : vx_W p l e R s m args below meth c H locs k n Q g q) : vx_W p l e R s m args below meth c H locs cells slots Q g q := fun T hT X => kk T hT (stand_widen X h1 h2)
theorem vx_out {pc : Nat} {E : String} {ce : Cell} {q : Addr} {mc ms : Nat} (hout : ∀ x ∈ c.exceptionTable.toList, covers x pc = false) (hlocks : meth.locks = false) (hcell : H[q]? = some ce) (hv : ce.vm = .none) (hcl : s.vm.findClass E = some ce.cls)
    (hx : ∀ t : State, t.heap = H → s.vm.Alike t.vm → XC E s t) (hf : ∀ z ∈ locs, free z.base) (hc : cells ≤ mc) (hs : slots ≤ ms) :
    vx_W p l e R s m args below meth c H locs cells slots (vx_MQ below Qc XC args s mc ms free) (F0 m pc ls rest) q := by
  intro T hT X
  obtain ⟨st1, hrun, hend, hW, hsm⟩ := X.leaveThrown q (g := F0 m pc ls rest) rfl rfl rfl hout hlocks
  have hcell9 : (T.setFrames (.throwing q :: below)).heap[q]? = some ce := by
    show T.heap[q]? = some ce
    rw [hT]; exact hcell
  exact ⟨_, st1, .threw q, hrun, hend, Or.inr ⟨q, rfl, E, ce, locs, hx _ hT hW.alike, hcell9, hv, hcl, hW, hsm.mono hc hs, hf⟩⟩
theorem vx_frame {U : State} {k n : Nat} (h : s.sameButNew ({ U with vm := s.vm } : State) locs k n) : s.heap.size ≤ U.heap.size ∧ ∀ q : Nat, q < s.heap.size → (∀ z ∈ locs, z.base ≠ q) → U.heap[q]? = s.heap[q]? := by
  obtain ⟨-, h2, -, -, -, h6⟩ := h
  refine ⟨h2, fun q hq hz => ?_⟩
  obtain ⟨c9, e1, e2, e3, e4⟩ := h6 q _ (Array.getElem?_eq_getElem hq)
  have hs : c9.slots = (s.heap[q]).slots := Array.ext_getElem? fun i => e4 i fun hm => hz _ hm rfl
  have h9 : c9 = s.heap[q] := by
    rw [hs] at e2
    exact e2
  have e5 : U.heap[q]? = some c9 := e1
  rw [e5, h9, Array.getElem?_eq_getElem hq]
/-- the words of a throw but the four that speak of the heap -/
def vx_no (w : Cond) : Bool := decide (w ≠ .isRef (.static Bundle.tN "UNASSIGNED_STACK" Bundle.steD)) && decide (w ≠ .isRef (.static Bundle.tN "SUPPRESSED_SENTINEL" Bundle.listD)) && decide (w ≠ .laysStatic Bundle.tN "UNASSIGNED_STACK" Bundle.steD) && decide (w ≠ .laysStatic Bundle.tN "SUPPRESSED_SENTINEL" Bundle.listD)
def vx_at0 (own : String) (ic : Nat) (X : String) (names : List String) : List Cond := (Bundle.ownAtoms0 own ic X names).filter vx_no
def vx_atS (own : String) (ic : Nat) (X : String) (names : List String) : List Cond := (Bundle.ownAtoms own ic X names).filter vx_no
/-- a word that the tables alone decide, or a good one -/
def vx_ot (w : Cond) : Bool := w.onTables || goodWord w
theorem vx_ot_at {args a' : Array Value} {s U : State} {w : Cond} (hW : s.WarmedH U.vm) (hvm : s.vm = U.vm) (hg : vx_ot w = true) (h : w.before args s = true) : w.before a' U = true := by
  simp only [vx_ot, Bool.or_eq_true] at hg
  rcases hg with hg | hg
  · exact va_tabs hg hvm h
  · exact word_at hW (good_of_word hg) h
/-- a list's words: the good ones out of the method's own list, the others by premises of their own -/
theorem vx_hat {args : Array Value} {s : State} {L B : List Cond} (h1 : ∀ w ∈ L.filter goodWord, w.before args s = true) (h2 : ∀ w ∈ L.filter (fun w => !goodWord w), w ∈ B) (h3 : ∀ w ∈ B, w.before args s = true) : ∀ w ∈ L, w.before args s = true := by
  intro w hw
  by_cases g : goodWord w = true
  · exact h1 w (List.mem_filter.mpr ⟨hw, g⟩)
  · refine h3 w (h2 w (List.mem_filter.mpr ⟨hw, ?_⟩))
    show (!goodWord w) = true
    cases hgw : goodWord w
    · rfl
    · exact absurd hgw g
theorem vx_c {args : Array Value} {s : State} {w : Cond} {B : List Cond} (h : w.before args s = true) (t : ∀ w ∈ B, w.before args s = true) : ∀ w' ∈ w :: B, w'.before args s = true := fun w' h' => (List.mem_cons.mp h').elim (fun e => by rw [e]; exact h) (t w')
theorem vx_n {args : Array Value} {s : State} : ∀ w ∈ ([] : List Cond), w.before args s = true := fun _ h => nomatch h
theorem vx_own {args : Array Value} {s : State} {L : List Cond} (h1 : ∀ w ∈ L.filter vx_no, w.before args s = true)
    (hU : (Cond.isRef (.static Bundle.tN "UNASSIGNED_STACK" Bundle.steD)).before args s = true) (hN : (Cond.isRef (.static Bundle.tN "SUPPRESSED_SENTINEL" Bundle.listD)).before args s = true)
    (lU : (Cond.laysStatic Bundle.tN "UNASSIGNED_STACK" Bundle.steD).before args s = true) (lN : (Cond.laysStatic Bundle.tN "SUPPRESSED_SENTINEL" Bundle.listD).before args s = true) : ∀ w ∈ L, w.before args s = true := by
  intro w hw
  by_cases e1 : w = .isRef (.static Bundle.tN "UNASSIGNED_STACK" Bundle.steD)
  · rw [e1]; exact hU
  · by_cases e2 : w = .isRef (.static Bundle.tN "SUPPRESSED_SENTINEL" Bundle.listD)
    · rw [e2]; exact hN
    · by_cases e3 : w = .laysStatic Bundle.tN "UNASSIGNED_STACK" Bundle.steD
      · rw [e3]; exact lU
      · by_cases e4 : w = .laysStatic Bundle.tN "SUPPRESSED_SENTINEL" Bundle.listD
        · rw [e4]; exact lN
        · exact h1 w (List.mem_filter.mpr ⟨hw, by unfold vx_no; rw [decide_eq_true e1, decide_eq_true e2, decide_eq_true e3, decide_eq_true e4]; rfl⟩)
/-- where a static field lies, its class's statics cell in H -/
def vx_L (C n d : String) (A : Nat → Prop) (U : State) (H : Heap) : Prop := ∃ (c : ClassId) (k : Class) (i : Nat) (f : Field) (a : Nat) (cell : Cell), U.vm.findClass C = some c ∧ U.fieldFound? C n d = some (c, k, i, f) ∧ f.isStatic = true ∧ k.statics = some a ∧ H[a]? = some cell ∧ cell.vm.isStatics = true ∧ cell.cls = c ∧ f.slot < cell.slots.size ∧ k.staticTypes[f.slot]? = some f.type ∧ ¬ A a
theorem vx_L.moved {C n d : String} {A : Nat → Prop} {u U : State} {H : Heap} (hvm : u.vm.Alike U.vm) (h : vx_L C n d A u H) : vx_L C n d A U H := by
  obtain ⟨c, k, i, f, a, cell, h1, h2, h3, h4, h5, h6, h7, h8, h9, h10⟩ := h
  obtain ⟨k', hi', he⟩ := State.fieldFound?_setVm hvm h2
  exact ⟨c, k', i, f, a, cell, by rw [hvm.findClass]; exact h1, hi', h3, by rw [he]; exact h4, h5, h6, h7, h8, by rw [he]; exact h9, h10⟩
theorem vx_L.kept {C n d : String} {A : Nat → Prop} {U : State} {H H1 : Heap} (h : vx_L C n d A U H) (hq : ∀ a : Nat, a < H.size → ¬ A a → H1[a]? = H[a]?) : vx_L C n d A U H1 := by
  obtain ⟨c, k, i, f, a, cell, h1, h2, h3, h4, h5, h6, h7, h8, h9, h10⟩ := h
  exact ⟨c, k, i, f, a, cell, h1, h2, h3, h4, by rw [hq a (Array.getElem?_eq_some_iff.mp h5).1 h10]; exact h5, h6, h7, h8, h9, h10⟩
theorem vx_L.narrow {C n d : String} {A B : Nat → Prop} {U : State} {H : Heap} (h : vx_L C n d A U H) (hAB : ∀ q, B q → A q) : vx_L C n d B U H := by
  obtain ⟨c, k, i, f, a, cell, h1, h2, h3, h4, h5, h6, h7, h8, h9, h10⟩ := h
  exact ⟨c, k, i, f, a, cell, h1, h2, h3, h4, h5, h6, h7, h8, h9, fun z => h10 (hAB _ z)⟩
theorem vx_L.word {C n d : String} {A : Nat → Prop} {s : State} {args : Array Value} (h : vx_L C n d A s s.heap) : (Cond.laysStatic C n d).before args s = true := by
  obtain ⟨c, k, i, f, a, cell, h1, h2, h3, h4, h5, h6, h7, h8, h9, -⟩ := h
  show (Cond.laysStatic C n d).holds args s none s [] = true
  exact Cond.laysStatic_of h1 h2 h3 h4 h5 h6 h7 h8 h9
/-- .. and what it holds: null or some reference -/
def vx_Zq (C n d : String) (A : Nat → Prop) (U : State) (H : Heap) : Prop := va_Zq C n d A U H ∧ vx_L C n d A U H
theorem vx_Zq.moved {C n d : String} {A : Nat → Prop} {u U : State} {H : Heap} (hvm : u.vm.Alike U.vm) (h : vx_Zq C n d A u H) : vx_Zq C n d A U H := ⟨va_Zq.moved hvm h.1, vx_L.moved hvm h.2⟩
theorem vx_Zq.kept {C n d : String} {A : Nat → Prop} {U : State} {H H1 : Heap} (h : vx_Zq C n d A U H) (hq : ∀ a : Nat, a < H.size → ¬ A a → H1[a]? = H[a]?) : vx_Zq C n d A U H1 := ⟨va_Zq.kept h.1 hq, vx_L.kept h.2 hq⟩
theorem vx_Zq.narrow {C n d : String} {A B : Nat → Prop} {U : State} {H : Heap} (h : vx_Zq C n d A U H) (hAB : ∀ q, B q → A q) : vx_Zq C n d B U H := ⟨va_Zq.narrow h.1 hAB, vx_L.narrow h.2 hAB⟩
theorem vx_Zqof {args : Array Value} {s : State} {C n d : String} {A : Nat → Prop} (hl : (Cond.laysStatic C n d).before args s = true) (hini : (Cond.initialized C).before args s = true) (h : (Cond.isRef (.static C n d)).before args s = true) (hA : ∀ a : Nat, a < s.heap.size → ¬ A a) : vx_Zq C n d A s s.heap := by
  refine ⟨va_Zqof hl hini h hA, ?_⟩
  obtain ⟨c, k, i, f, a, cell, h1, h2, h3, h4, h5, h6, h7, h8, h9⟩ := Cond.laysStatic_spec hl
  exact ⟨c, k, i, f, a, cell, h1, h2, h3, h4, h5, h6, h7, h8, h9, hA a (Array.getElem?_eq_some_iff.mp h5).1⟩
theorem vx_isRef {C n d : String} {v : Value} {A : Nat → Prop} {s : State} {args : Array Value} (h : va_Z C n d v A s s.heap) (hv : v.isRef = true) : (Cond.isRef (.static C n d)).before args s = true := by
  obtain ⟨cf, kf, fi, f, a, cell, h1, h2, h3, h4, h5, h6, h7, -⟩ := h
  have he : (Term.static C n d).eval args s none [] s = some v := by
    simp [Term.eval, State.fieldNamed?, h1, h2, h4, h5, h6, h7]
  simp only [Cond.before, Cond.holds, Cond.value, he]
  cases v <;> simp_all [Value.isRef]
theorem vx_isRefq {C n d : String} {A : Nat → Prop} {s : State} {args : Array Value} (h : va_Zq C n d A s s.heap) : (Cond.isRef (.static C n d)).before args s = true := by
  rcases h with h | ⟨t, h⟩
  · exact vx_isRef h rfl
  · exact vx_isRef h rfl
/-- the same frame, seen from here: as if the method were called anew in this heap -/
theorem vx_rebase {T : State} (X : Stand p l e R s m args below meth c T locs cells slots) {R' : Room} (hf : R'.frames ≤ R.frames) (hl : R'.locals ≤ R.locals) (hc : cells + R'.cells ≤ R.cells) (hs : slots + R'.slots ≤ R.slots) :
    Stand p l e R' ((T.setVm s.vm).setFrames (.invoking m args :: below)) m args below meth c T [] 0 0 := by
  have htop : (T.setVm s.vm).topJava?.isSome := X.here.top
  have hF : ((T.setVm s.vm).setFrames (.invoking m args :: below)).frames = .invoking m args :: below := State.frames_setFrames _ (State.cur_lt_of_top htop)
  obtain ⟨g₀, hg0⟩ := Option.isSome_iff_exists.mp htop
  obtain ⟨r, hr⟩ := State.topJava?_eq_some.mp hg0
  have hl9 : e.platform.stackLimits (T.setVm s.vm).me = e.platform.stackLimits s.me := X.limits
  have hb9 : (T.setVm s.vm).me.stackBytes = s.me.stackBytes := X.bytes
  refine ⟨X.admits, X.cas, X.clock, hF, ?_, X.hears, X.method, X.code, X.here, X.tail, X.warmed, ?_, ?_, ?_⟩
  · have h := X.room
    have hU : ((T.setVm s.vm).setFrames (.invoking m args :: below)).localsInUse = s.localsInUse := by
      rw [State.localsInUse_invoking hF (meth := meth) (c := c) X.method X.code, State.localsInUse_invoking X.frames X.method X.code]
    simp only [State.hasRoom, Bool.and_eq_true, decide_eq_true_eq] at h ⊢
    obtain ⟨⟨⟨⟨h1, h2, h3, h4, h5, h6⟩, h7⟩, h8⟩, h9⟩ := h
    rw [X.frames, List.length_cons] at h2 h3
    have q1 := X.heapSize
    have q2 := X.used
    simp only [hF, hU, List.length_cons, State.stackLimits_setFrames, State.stackBytes_setFrames, hl9, hb9]
    refine ⟨⟨⟨⟨by omega, by omega, by omega, by omega, by omega, h6⟩, ?_⟩, ?_⟩, X.book⟩
    · show T.heap.size + R'.cells ≤ e.platform.maxCells
      omega
    · show T.slotsUsed + R'.slots ≤ e.platform.maxSlots
      omega
  · rw [State.stackLimits_setFrames]; rfl
  · rw [State.stackBytes_setFrames]; rfl
  · refine ⟨?_, Nat.le_refl _, Nat.le_refl _, ?_, ?_, fun a c9 h9 => ⟨c9, h9, rfl, rfl, fun _ _ => rfl⟩⟩
    · obtain ⟨t, ht, -⟩ := State.frames_cons hr
      show T.setVm s.vm = { ((T.setVm s.vm).setFrames (.invoking m args :: below)).setFrames (T.setVm s.vm).frames with heap := T.heap, slotsUsed := T.slotsUsed }
      rw [State.setFrames_setFrames, State.setFrames_self ht]
      rfl
    · show T.slotsUsed = T.slotsUsed + ((T.heap.toList.drop T.heap.size).map (·.slots.size)).sum
      rw [List.drop_eq_nil_of_le (Nat.le_of_eq Array.length_toList)]
      rfl
    · show ((T.heap.toList.drop T.heap.size).map (·.slots.size)).sum ≤ 0
      rw [List.drop_eq_nil_of_le (Nat.le_of_eq Array.length_toList)]
      exact Nat.le_refl _
/-- 'throw new E()': new; dup; invokespecial; athrow -/
theorem vx_throw0 {cc : ByteArray} {pc : Nat} (hexec : p.tables.exec = Jvm.exec) (hb : c.code = cc) (hl : l.stackTraces = false) {own cls : String} {names : List String} {ik ic mc ms : Nat} {A : Nat → Prop}
    (hown : s.vm.findClass own = some m.cls) (hcls : Bundle.fit cls = true) (hnames : ∀ n ∈ names, Bundle.fit n = true)
    (hk : (Cond.classLink own ik cls).before args s = true) (hini : (Cond.initialized cls).before args s = true) (hat : ∀ w ∈ vx_at0 own ic cls names, w.before args s = true)
    (hgood : ∀ w ∈ Cond.classLink own ik cls :: Cond.initialized cls :: vx_at0 own ic cls names, vx_ot w = true)
    (hU : vx_Zq Bundle.tN "UNASSIGNED_STACK" Bundle.steD A s s.heap) (hN : vx_Zq Bundle.tN "SUPPRESSED_SENTINEL" Bundle.listD A s s.heap) (hS : va_S A s.heap H locs) (hsize : ls.size = c.maxLocals)
    (d0 : decode cc pc = .ok (.new ik, 3)) (d3 : decode cc (pc + 3) = .ok (.dup, 1)) (d4 : decode cc (pc + 4) = .ok (.invokespecial ic, 3)) (d7 : decode cc (pc + 7) = .ok (.athrow, 1))
    (hout : ∀ x ∈ c.exceptionTable.toList, covers x (pc + 7) = false)
    (hRframes : names.length + 3 < R.frames) (hRlocals : (rest.map fun v => v.category).sum + (13 * (names.length + 1) + 42) ≤ R.locals) (hRcells : cells + 1 ≤ R.cells) (hRslots : slots + 6 ≤ R.slots) (hlocks : meth.locks = false)
    (hx : ∀ t : State, s.vm.Alike t.vm → H.size ≤ t.heap.size → (∀ q : Nat, q < H.size → t.heap[q]? = H[q]?) → XC cls s t)
    (hf : ∀ z ∈ locs, free z.base) (hc : cells + 1 ≤ mc) (hs : slots + 6 ≤ ms) :
    W p l e R s m args below meth c H locs cells slots (vx_MQ below Qc XC args s mc ms free) (F0 m pc ls rest) := by
  intro T hT X
  have htr : e.platform.stackTraces = false := (show e.platform.stackTraces = l.stackTraces by rw [X.admits.platform]).trans hl
  have Y := vx_rebase X (R' := { frames := R.frames, locals := R.locals, cells := 1, slots := 6 }) (Nat.le_refl _) (Nat.le_refl _) hRcells hRslots
  obtain ⟨s', hA⟩ : ∃ z, z = (T.setVm s.vm).setFrames (.invoking m args :: below) := ⟨_, rfl⟩
  rw [← hA] at Y
  have hvm : s'.vm = s.vm := by rw [hA]; rfl
  have hhp : s'.heap = H := by rw [hA]; exact hT
  have hW0 : s.WarmedH s'.vm := by rw [hvm]; exact State.WarmedH.refl s
  have hat' : ∀ w ∈ vx_at0 own ic cls names, w.before args s' = true := fun w hw => vx_ot_at hW0 hvm.symm (hgood w (List.mem_cons_of_mem _ (List.mem_cons_of_mem _ hw))) (hat w hw)
  have hk' : (Cond.classLink own ik cls).before args s' = true := vx_ot_at hW0 hvm.symm (hgood _ List.mem_cons_self) hk
  have hini' : (Cond.initialized cls).before args s' = true := vx_ot_at hW0 hvm.symm (hgood _ (List.mem_cons_of_mem _ List.mem_cons_self)) hini
  have hU' : vx_Zq Bundle.tN "UNASSIGNED_STACK" Bundle.steD A s' s'.heap := by rw [hhp]; exact vx_Zq.moved hW0.alike (hU.kept hS.2.1)
  have hN' : vx_Zq Bundle.tN "SUPPRESSED_SENTINEL" Bundle.listD A s' s'.heap := by rw [hhp]; exact vx_Zq.moved hW0.alike (hN.kept hS.2.1)
  have h : ∀ w ∈ Bundle.ownAtoms0 own ic cls names, w.before args s' = true := vx_own hat' (vx_isRefq hU'.1) (vx_isRefq hN'.1) hU'.2.word hN'.2.word
  have hown' : s'.vm.findClass own = some m.cls := by rw [hvm]; exact hown
  have hins : (Cond.instantiable cls 6).before args s' = true := h _ (by simp [Bundle.ownAtoms0])
  obtain ⟨vm₁, cX, kX, hfX, hkX, -, -, X₁, st1⟩ := Y.newCold hexec (own := own) (C := cls) (index := ik) (n := 6) hown' hk' hins hini'
    (g := F0 m pc ls rest) rfl (by rw [hb]; exact d0) (Nat.le_refl _) (Nat.le_refl _)
  generalize hT1 : (T.setVm vm₁).pushCell { cls := cX, slots := kX.instanceTypes.map defaultValue, vm := .none } = T1 at X₁ st1
  have hcat : (Value.ref T.heap.size).category = 1 := rfl
  have hcellA : T1.heap[T.heap.size]? = some (freshCell cX kX) := by rw [← hT1]; exact State.heap_pushCell_size _ _
  have d3' : decode c.code (pc + 3) = .ok (.dup, 1) := by rw [hb]; exact d3
  obtain ⟨U, hsteps, hrun, hend, hW, hsame, ce, hce, hO⟩ := X₁.ctorThrow0 hexec htr (own := own) (cls := cls) (names := names) (ic := ic) hown' hcls hnames h (fun x hx => nomatch hx) hfX hkX hcellA (by rw [hhp, hT]; exact Nat.le_refl _)
    (g := { method := m, pc := pc + 4, locals := ls, stack := .ref T.heap.size :: .ref T.heap.size :: rest, locked := none }) rfl hsize rfl rfl (rest := rest) rfl
    (by rw [hb]; exact d4) (by rw [hb]; exact d7) hout hRframes (by simp only [List.map_cons, List.sum_cons, hcat]; omega) hlocks
  obtain ⟨f1, f2⟩ := vx_frame hsame
  rw [hhp] at f1 f2
  have hWs : s.WarmedH U.vm := State.WarmedH.trans hW0 hW
  have hcl : s.vm.findClass cls = some ce.cls := by
    have h9 := hO.cls
    rw [hvm] at h9
    exact h9
  have hall : s.sameButNew ({ U with vm := s.vm } : State) locs mc ms := by
    subst hA
    obtain ⟨e1, e2⟩ := hsame
    rw [State.setFrames_setFrames] at e1
    have h2 : (T.setVm s.vm).sameButNew ({ U with vm := s.vm } : State) [] (0 + 1) (0 + 6) := ⟨e1, e2⟩
    have h3 := X.same.trans h2
    rw [List.append_nil] at h3
    exact h3.mono hc hs
  refine ⟨U, ?_, .threw T.heap.size, hrun, hend, Or.inr ⟨T.heap.size, rfl, cls, ce, locs, hx U hWs.alike f1 (fun q hq => f2 q hq (fun z hz => nomatch hz)), hce, hO.vm, hcl, hWs, hall, hf⟩⟩
  refine st1 _ ?_
  show Steps p.tables e below (T1.setTop { method := m, pc := pc + 3, locals := ls, stack := .ref T.heap.size :: rest, locked := none }) _
  jvm_step X₁.here [X₁.here.top, hexec, d3', Value.category]
  exact hsteps
/-- 'throw new E("text")': new; dup; ldc; invokespecial; athrow -/
theorem vx_throwS {cc : ByteArray} {pc : Nat} (hexec : p.tables.exec = Jvm.exec) (hb : c.code = cc) (hl : l.stackTraces = false) {own cls text : String} {names : List String} {ik is ic mc ms sa : Nat} {A : Nat → Prop}
    (hown : s.vm.findClass own = some m.cls) (hcls : Bundle.fit cls = true) (hnames : ∀ n ∈ names, Bundle.fit n = true)
    (hk : (Cond.classLink own ik cls).before args s = true) (hini : (Cond.initialized cls).before args s = true) (hstr : vk_R own is text sa s) (hat : ∀ w ∈ vx_atS own ic cls names, w.before args s = true)
    (hgood : ∀ w ∈ Cond.classLink own ik cls :: Cond.initialized cls :: vx_atS own ic cls names, vx_ot w = true)
    (hU : vx_Zq Bundle.tN "UNASSIGNED_STACK" Bundle.steD A s s.heap) (hN : vx_Zq Bundle.tN "SUPPRESSED_SENTINEL" Bundle.listD A s s.heap) (hS : va_S A s.heap H locs) (hsize : ls.size = c.maxLocals)
    (d0 : decode cc pc = .ok (.new ik, 3)) (d3 : decode cc (pc + 3) = .ok (.dup, 1)) (d4 : decode cc (pc + 4) = .ok (.ldc is, 2)) (d6 : decode cc (pc + 6) = .ok (.invokespecial ic, 3)) (d9 : decode cc (pc + 9) = .ok (.athrow, 1))
    (hout : ∀ x ∈ c.exceptionTable.toList, covers x (pc + 9) = false)
    (hRframes : names.length + 3 < R.frames) (hRlocals : (rest.map fun v => v.category).sum + (13 * (names.length + 1) + 43) ≤ R.locals) (hRcells : cells + 1 ≤ R.cells) (hRslots : slots + 6 ≤ R.slots) (hlocks : meth.locks = false)
    (hx : ∀ t : State, s.vm.Alike t.vm → H.size ≤ t.heap.size → (∀ q : Nat, q < H.size → t.heap[q]? = H[q]?) → XC cls s t)
    (hf : ∀ z ∈ locs, free z.base) (hc : cells + 1 ≤ mc) (hs : slots + 6 ≤ ms) :
    W p l e R s m args below meth c H locs cells slots (vx_MQ below Qc XC args s mc ms free) (F0 m pc ls rest) := by
  intro T hT X
  have htr : e.platform.stackTraces = false := (show e.platform.stackTraces = l.stackTraces by rw [X.admits.platform]).trans hl
  have Y := vx_rebase X (R' := { frames := R.frames, locals := R.locals, cells := 1, slots := 6 }) (Nat.le_refl _) (Nat.le_refl _) hRcells hRslots
  obtain ⟨s', hA⟩ : ∃ z, z = (T.setVm s.vm).setFrames (.invoking m args :: below) := ⟨_, rfl⟩
  rw [← hA] at Y
  have hvm : s'.vm = s.vm := by rw [hA]; rfl
  have hhp : s'.heap = H := by rw [hA]; exact hT
  have hW0 : s.WarmedH s'.vm := by rw [hvm]; exact State.WarmedH.refl s
  have hat' : ∀ w ∈ vx_atS own ic cls names, w.before args s' = true := fun w hw => vx_ot_at hW0 hvm.symm (hgood w (List.mem_cons_of_mem _ (List.mem_cons_of_mem _ hw))) (hat w hw)
  have hk' : (Cond.classLink own ik cls).before args s' = true := vx_ot_at hW0 hvm.symm (hgood _ List.mem_cons_self) hk
  have hini' : (Cond.initialized cls).before args s' = true := vx_ot_at hW0 hvm.symm (hgood _ (List.mem_cons_of_mem _ List.mem_cons_self)) hini
  have hU' : vx_Zq Bundle.tN "UNASSIGNED_STACK" Bundle.steD A s' s'.heap := by rw [hhp]; exact vx_Zq.moved hW0.alike (hU.kept hS.2.1)
  have hN' : vx_Zq Bundle.tN "SUPPRESSED_SENTINEL" Bundle.listD A s' s'.heap := by rw [hhp]; exact vx_Zq.moved hW0.alike (hN.kept hS.2.1)
  have h : ∀ w ∈ Bundle.ownAtoms own ic cls names, w.before args s' = true := vx_own hat' (vx_isRefq hU'.1) (vx_isRefq hN'.1) hU'.2.word hN'.2.word
  have hown' : s'.vm.findClass own = some m.cls := by rw [hvm]; exact hown
  have hins : (Cond.instantiable cls 6).before args s' = true := h _ (by simp [Bundle.ownAtoms])
  obtain ⟨vm₁, cX, kX, hfX, hkX, -, -, X₁, st1⟩ := Y.newCold hexec (own := own) (C := cls) (index := ik) (n := 6) hown' hk' hins hini'
    (g := F0 m pc ls rest) rfl (by rw [hb]; exact d0) (Nat.le_refl _) (Nat.le_refl _)
  generalize hT1 : (T.setVm vm₁).pushCell { cls := cX, slots := kX.instanceTypes.map defaultValue, vm := .none } = T1 at X₁ st1
  have hcat : (Value.ref T.heap.size).category = 1 := rfl
  have hcellA : T1.heap[T.heap.size]? = some (freshCell cX kX) := by rw [← hT1]; exact State.heap_pushCell_size _ _
  have d3' : decode c.code (pc + 3) = .ok (.dup, 1) := by rw [hb]; exact d3
  have d4' : decode c.code (pc + 4) = .ok (.ldc is, 2) := by rw [hb]; exact d4
  have hstr' : vk_R own is text sa s' := vk_R.warm hW0 hstr
  obtain ⟨U, hsteps, hrun, hend, hW, hsame, ce, hce, hO⟩ := X₁.ctorThrowS hexec htr (own := own) (cls := cls) (names := names) (ic := ic) hown' hcls hnames h (fun x hx => nomatch hx) hfX hkX hcellA (by rw [hhp, hT]; exact Nat.le_refl _) (msg := .ref sa) rfl
    (g := { method := m, pc := pc + 6, locals := ls, stack := .ref sa :: .ref T.heap.size :: .ref T.heap.size :: rest, locked := none }) rfl hsize rfl rfl (rest := rest) rfl
    (by rw [hb]; exact d6) (by rw [hb]; exact d9) hout hRframes (by simp only [List.map_cons, List.sum_cons, hcat]; omega) hlocks
  obtain ⟨f1, f2⟩ := vx_frame hsame
  rw [hhp] at f1 f2
  have hWs : s.WarmedH U.vm := State.WarmedH.trans hW0 hW
  have hcl : s.vm.findClass cls = some ce.cls := by
    have h9 := hO.cls
    rw [hvm] at h9
    exact h9
  have hall : s.sameButNew ({ U with vm := s.vm } : State) locs mc ms := by
    subst hA
    obtain ⟨e1, e2⟩ := hsame
    rw [State.setFrames_setFrames] at e1
    have h2 : (T.setVm s.vm).sameButNew ({ U with vm := s.vm } : State) [] (0 + 1) (0 + 6) := ⟨e1, e2⟩
    have h3 := X.same.trans h2
    rw [List.append_nil] at h3
    exact h3.mono hc hs
  refine ⟨U, ?_, .threw T.heap.size, hrun, hend, Or.inr ⟨T.heap.size, rfl, cls, ce, locs, hx U hWs.alike f1 (fun q hq => f2 q hq (fun z hz => nomatch hz)), hce, hO.vm, hcl, hWs, hall, hf⟩⟩
  refine st1 _ ?_
  show Steps p.tables e below (T1.setTop { method := m, pc := pc + 3, locals := ls, stack := .ref T.heap.size :: rest, locked := none }) _
  jvm_step X₁.here [X₁.here.top, hexec, d3', Value.category]
  exact X₁.ldcString hexec (own := own) (text := text) (index := is) (a := sa) hown' hstr'.1 hstr'.2
    (g := { method := m, pc := pc + 4, locals := ls, stack := .ref T.heap.size :: .ref T.heap.size :: rest, locked := none }) rfl d4' _ hsteps
/-- 'throw new E("text")', the text by a wide index -/
theorem vx_throwSW {cc : ByteArray} {pc : Nat} (hexec : p.tables.exec = Jvm.exec) (hb : c.code = cc) (hl : l.stackTraces = false) {own cls text : String} {names : List String} {ik is ic mc ms sa : Nat} {A : Nat → Prop}
    (hown : s.vm.findClass own = some m.cls) (hcls : Bundle.fit cls = true) (hnames : ∀ n ∈ names, Bundle.fit n = true)
    (hk : (Cond.classLink own ik cls).before args s = true) (hini : (Cond.initialized cls).before args s = true) (hstr : vk_R own is text sa s) (hat : ∀ w ∈ vx_atS own ic cls names, w.before args s = true)
    (hgood : ∀ w ∈ Cond.classLink own ik cls :: Cond.initialized cls :: vx_atS own ic cls names, vx_ot w = true)
    (hU : vx_Zq Bundle.tN "UNASSIGNED_STACK" Bundle.steD A s s.heap) (hN : vx_Zq Bundle.tN "SUPPRESSED_SENTINEL" Bundle.listD A s s.heap) (hS : va_S A s.heap H locs) (hsize : ls.size = c.maxLocals)
    (d0 : decode cc pc = .ok (.new ik, 3)) (d3 : decode cc (pc + 3) = .ok (.dup, 1)) (d4 : decode cc (pc + 4) = .ok (.ldc_w is, 3)) (d7 : decode cc (pc + 7) = .ok (.invokespecial ic, 3)) (d10 : decode cc (pc + 10) = .ok (.athrow, 1))
    (hout : ∀ x ∈ c.exceptionTable.toList, covers x (pc + 10) = false)
    (hRframes : names.length + 3 < R.frames) (hRlocals : (rest.map fun v => v.category).sum + (13 * (names.length + 1) + 43) ≤ R.locals) (hRcells : cells + 1 ≤ R.cells) (hRslots : slots + 6 ≤ R.slots) (hlocks : meth.locks = false)
    (hx : ∀ t : State, s.vm.Alike t.vm → H.size ≤ t.heap.size → (∀ q : Nat, q < H.size → t.heap[q]? = H[q]?) → XC cls s t)
    (hf : ∀ z ∈ locs, free z.base) (hc : cells + 1 ≤ mc) (hs : slots + 6 ≤ ms) :
    W p l e R s m args below meth c H locs cells slots (vx_MQ below Qc XC args s mc ms free) (F0 m pc ls rest) := by
  intro T hT X
  have htr : e.platform.stackTraces = false := (show e.platform.stackTraces = l.stackTraces by rw [X.admits.platform]).trans hl
  have Y := vx_rebase X (R' := { frames := R.frames, locals := R.locals, cells := 1, slots := 6 }) (Nat.le_refl _) (Nat.le_refl _) hRcells hRslots
  obtain ⟨s', hA⟩ : ∃ z, z = (T.setVm s.vm).setFrames (.invoking m args :: below) := ⟨_, rfl⟩
  rw [← hA] at Y
  have hvm : s'.vm = s.vm := by rw [hA]; rfl
  have hhp : s'.heap = H := by rw [hA]; exact hT
  have hW0 : s.WarmedH s'.vm := by rw [hvm]; exact State.WarmedH.refl s
  have hat' : ∀ w ∈ vx_atS own ic cls names, w.before args s' = true := fun w hw => vx_ot_at hW0 hvm.symm (hgood w (List.mem_cons_of_mem _ (List.mem_cons_of_mem _ hw))) (hat w hw)
  have hk' : (Cond.classLink own ik cls).before args s' = true := vx_ot_at hW0 hvm.symm (hgood _ List.mem_cons_self) hk
  have hini' : (Cond.initialized cls).before args s' = true := vx_ot_at hW0 hvm.symm (hgood _ (List.mem_cons_of_mem _ List.mem_cons_self)) hini
  have hU' : vx_Zq Bundle.tN "UNASSIGNED_STACK" Bundle.steD A s' s'.heap := by rw [hhp]; exact vx_Zq.moved hW0.alike (hU.kept hS.2.1)
  have hN' : vx_Zq Bundle.tN "SUPPRESSED_SENTINEL" Bundle.listD A s' s'.heap := by rw [hhp]; exact vx_Zq.moved hW0.alike (hN.kept hS.2.1)
  have h : ∀ w ∈ Bundle.ownAtoms own ic cls names, w.before args s' = true := vx_own hat' (vx_isRefq hU'.1) (vx_isRefq hN'.1) hU'.2.word hN'.2.word
  have hown' : s'.vm.findClass own = some m.cls := by rw [hvm]; exact hown
  have hins : (Cond.instantiable cls 6).before args s' = true := h _ (by simp [Bundle.ownAtoms])
  obtain ⟨vm₁, cX, kX, hfX, hkX, -, -, X₁, st1⟩ := Y.newCold hexec (own := own) (C := cls) (index := ik) (n := 6) hown' hk' hins hini'
    (g := F0 m pc ls rest) rfl (by rw [hb]; exact d0) (Nat.le_refl _) (Nat.le_refl _)
  generalize hT1 : (T.setVm vm₁).pushCell { cls := cX, slots := kX.instanceTypes.map defaultValue, vm := .none } = T1 at X₁ st1
  have hcat : (Value.ref T.heap.size).category = 1 := rfl
  have hcellA : T1.heap[T.heap.size]? = some (freshCell cX kX) := by rw [← hT1]; exact State.heap_pushCell_size _ _
  have d3' : decode c.code (pc + 3) = .ok (.dup, 1) := by rw [hb]; exact d3
  have d4' : decode c.code (pc + 4) = .ok (.ldc_w is, 3) := by rw [hb]; exact d4
  have hstr' : vk_R own is text sa s' := vk_R.warm hW0 hstr
  obtain ⟨U, hsteps, hrun, hend, hW, hsame, ce, hce, hO⟩ := X₁.ctorThrowS hexec htr (own := own) (cls := cls) (names := names) (ic := ic) hown' hcls hnames h (fun x hx => nomatch hx) hfX hkX hcellA (by rw [hhp, hT]; exact Nat.le_refl _) (msg := .ref sa) rfl
    (g := { method := m, pc := pc + 7, locals := ls, stack := .ref sa :: .ref T.heap.size :: .ref T.heap.size :: rest, locked := none }) rfl hsize rfl rfl (rest := rest) rfl
    (by rw [hb]; exact d7) (by rw [hb]; exact d10) hout hRframes (by simp only [List.map_cons, List.sum_cons, hcat]; omega) hlocks
  obtain ⟨f1, f2⟩ := vx_frame hsame
  rw [hhp] at f1 f2
  have hWs : s.WarmedH U.vm := State.WarmedH.trans hW0 hW
  have hcl : s.vm.findClass cls = some ce.cls := by
    have h9 := hO.cls
    rw [hvm] at h9
    exact h9
  have hall : s.sameButNew ({ U with vm := s.vm } : State) locs mc ms := by
    subst hA
    obtain ⟨e1, e2⟩ := hsame
    rw [State.setFrames_setFrames] at e1
    have h2 : (T.setVm s.vm).sameButNew ({ U with vm := s.vm } : State) [] (0 + 1) (0 + 6) := ⟨e1, e2⟩
    have h3 := X.same.trans h2
    rw [List.append_nil] at h3
    exact h3.mono hc hs
  refine ⟨U, ?_, .threw T.heap.size, hrun, hend, Or.inr ⟨T.heap.size, rfl, cls, ce, locs, hx U hWs.alike f1 (fun q hq => f2 q hq (fun z hz => nomatch hz)), hce, hO.vm, hcl, hWs, hall, hf⟩⟩
  refine st1 _ ?_
  show Steps p.tables e below (T1.setTop { method := m, pc := pc + 3, locals := ls, stack := .ref T.heap.size :: rest, locked := none }) _
  jvm_step X₁.here [X₁.here.top, hexec, d3', Value.category]
  exact X₁.ldcStringW hexec (own := own) (text := text) (index := is) (a := sa) hown' hstr'.1 hstr'.2
    (g := { method := m, pc := pc + 4, locals := ls, stack := .ref T.heap.size :: .ref T.heap.size :: rest, locked := none }) rfl d4' _ hsteps
end Ends
section Bodies
variable {l : Launch}
theorem vx_ofW {y : MethodName} {ws ws' : List Cond} {rm : Room} {Pc : Array Value → State → Prop} {Qc : Array Value → State → Outcome → State → Prop} {XC : String → State → State → Prop} {mc ms : Nat} {free : Addr → Prop} {cc : ByteArray} {maxL : Nat} {ret : Option FieldType}
    (hy : plainName y.cls = true) (hw : ws = Cond.code y cc maxL ret :: ws')
    (body : ∀ p e s m args below meth c s₁, BodyLoose p l y (headSpec ws rm) cc maxL ret e s m args below meth c s₁ → c.maxLocals = maxL → (∀ x ∈ c.exceptionTable.toList, False) → Pc args s →
      W p l e (headSpec ws rm).room s m args below meth c s.heap [] 0 0 (vx_MQ below Qc XC args s mc ms free) (entryFrame m args maxL)) : vx_Met l y ws rm Pc Qc XC mc ms free := by
  refine MetFree.of_bodyS (code := cc) (maxLocals := maxL) (ret := ret) hy ?_ ?_
  · intro args s m h hn
    obtain ⟨meth, c, h1, h2, h3, h4, h5, h6, -, -⟩ := Cond.code_spec hn (atoms_spec (ws := ws) h _ (by rw [hw]; exact List.mem_cons_self))
    exact ⟨meth, c, h1, h2, h3, h4, h5, h6⟩
  · intro p e s m args below meth c s₁ B hml hP _
    have hh0 : s₁.heap = s.heap := by rw [B.state]; rfl
    have ht : ∀ x ∈ c.exceptionTable.toList, False := by
      obtain ⟨meth9, c9, h1, h2, -, -, -, -, h7, -⟩ := Cond.code_spec B.named (atoms_spec (ws := ws) B.pre _ (by rw [hw]; exact List.mem_cons_self))
      cases Option.some.inj (h1.symm.trans B.method)
      cases Option.some.inj (h2.symm.trans (Stand.of_body B).code)
      intro x hx
      rw [Array.isEmpty_iff.mp h7] at hx
      cases hx
    obtain ⟨t, a1, o, b1, b2, b3⟩ := body p e s m args below meth c s₁ B hml ht hP s₁ hh0 (Stand.of_body B)
    exact ⟨t, o, a1, b1, b2, b3⟩
/-- the table of a body with handlers -/
theorem vx_table {p : Program} {x y : MethodName} {S : Spec} {cc bytes : ByteArray} {maxL maxL' : Nat} {ret ret' : Option FieldType} {e : Env} {s s₁ : State} {m : MethodId} {args : Array Value} {below : List Frame} {meth : Method} {c : Code} {hh : List (Nat × Nat × Nat × Nat)}
    (B : BodyLoose p l y S cc maxL ret e s m args below meth c s₁) (h : (Cond.codeWith y bytes maxL' ret' hh).before args s = true) : c.exceptionTable.toList = tableOf hh := by
  obtain ⟨m9, meth9, c9, hn9, h1, h2, -, -, h6, -⟩ := Cond.codeWith_spec h
  cases Option.some.inj (hn9.symm.trans B.named)
  cases Option.some.inj (h1.symm.trans B.method)
  cases Option.some.inj (h2.symm.trans (Stand.of_body B).code)
  rw [← h6, table_eq]
end Bodies
end VXA
/-! ===== END ===== -/
/-! ===== BEGIN a static call of a method with an exception table ===== -/
section VXS
variable {p : Program} {l : Launch} {e : Env} {R : Room} {s : State} {m : MethodId} {args : Array Value} {below : List Frame} {meth : Method} {c : Code} {T : State} {H : Heap} {locs : List Loc} {cells slots : Nat}
abbrev vx_CSW (R : Room) (s : State) (args : Array Value) (own : String) (index : Nat) (y : MethodName) (bytes : ByteArray) (maxL : Nat) (ret : Option FieldType) (hh : List (Nat × Nat × Nat × Nat)) (ws : List Cond) (rm : Room) (mc ms n : Nat) : Prop :=
  (rm.cells = mc ∧ rm.slots = ms ∧ rm.frames + 1 ≤ R.frames ∧ 8 + (maxL + 11) + rm.locals ≤ R.locals ∧ (∀ w ∈ ws, ∀ (a' : Array Value) (U : State), s.WarmedH U.vm → w.before a' U = true) ∧ Cond.codeWith y bytes maxL ret hh ∈ ws) ∧
  (Cond.codeWith y bytes maxL ret hh).before args s = true ∧ (Cond.initialized y.cls).before args s = true ∧ (y.cls ≠ "java/lang/invoke/MethodHandle" ∧ y.cls ≠ "java/lang/invoke/VarHandle") ∧
  (∀ sig, parseMethodDescriptor y.desc = some sig → n = sig.parameters.length) ∧ (Cond.methodLink own index y).before args s = true ∧ (Cond.static y).before args s = true
theorem vx_cwSW {own : String} {index maxL mc ms : Nat} {y : MethodName} {bytes : ByteArray} {ret : Option FieldType} {hh : List (Nat × Nat × Nat × Nat)} {Ts ws ws' : List Cond} {rm : Room} (n : Nat) (ht : ∀ w ∈ Ts, w.before args s = true) (hT : GoodIn Ts (va_wsS own index y ws)) (hw : ws = Cond.codeWith y bytes maxL ret hh :: ws') (hrc : rm.cells = mc) (hrs : rm.slots = ms)
    (hd : y.cls ≠ "java/lang/invoke/MethodHandle" ∧ y.cls ≠ "java/lang/invoke/VarHandle" ∧ (parseMethodDescriptor y.desc).map (fun d => d.parameters.length) = some n) (hR : rm.frames + 1 ≤ R.frames ∧ 8 + (maxL + 11) + rm.locals ≤ R.locals) :
    vx_CSW R s args own index y bytes maxL ret hh ws rm mc ms n := by
  have ok : ∀ w ∈ va_wsS own index y ws, w.before args s = true := fun w h => ht w (hT w h).1
  have hG : GoodIn Ts ws := fun w h => hT w (by unfold va_wsS; exact List.mem_append_right _ h)
  have hc : Cond.codeWith y bytes maxL ret hh ∈ ws := by rw [hw]; exact List.mem_cons_self
  refine ⟨⟨hrc, hrs, hR.1, hR.2, pay_in ht hG, hc⟩, ht _ (hG _ hc).1, ok _ (by simp [va_wsS]), ⟨hd.1, hd.2.1⟩, fun sig h => ?_, ok _ (by simp [va_wsS]), ok _ (by simp [va_wsS])⟩
  have h2 := hd.2.2
  rw [h] at h2
  exact (Option.some.inj h2).symm
theorem vx_callSW (X : Stand p l e R s m args below meth c T locs cells slots) (hexec : p.tables.exec = Jvm.exec) {own : String} {index : Nat} {y : MethodName} {bytes : ByteArray} {maxL : Nat} {ret : Option FieldType} {hh : List (Nat × Nat × Nat × Nat)}
    (hown : s.vm.findClass own = some m.cls) (hlink : (Cond.methodLink own index y).before args s = true) (hstat : (Cond.static y).before args s = true) (hinit : (Cond.initialized y.cls).before args s = true)
    (hcode : (Cond.codeWith y bytes maxL ret hh).before args s = true) (hy : y.cls ≠ "java/lang/invoke/MethodHandle" ∧ y.cls ≠ "java/lang/invoke/VarHandle")
    {W9 : Nat} {Pre : Pt → Array Value → Prop} {Post : Pt → Array Value → Option Value → Pt → Prop} (hK : Back l R p e below s args y 3 W9 Pre Post)
    {g : JFrame} (hg : g.method = m) (hsize : g.locals.size = c.maxLocals) {argsL rest : List Value} (hlen : ∀ sig, parseMethodDescriptor y.desc = some sig → argsL.length = sig.parameters.length)
    (hstack : g.stack = argsL.reverse ++ rest) (hW : 2 * g.monitorRoom + (rest.map fun v => v.category).sum ≤ W9) (hdg : decode c.code g.pc = .ok (.invokestatic index, 3))
    (hpre : ∀ vm₁, s.WarmedH vm₁ → Pre ⟨T.setVm vm₁, locs, cells, slots⟩ argsL.toArray) :
    ∃ (v : Option Value) (vm₁ : Vm) (B : Pt), s.WarmedH vm₁ ∧ Stand p l e R s m args below meth c B.U B.locs B.cells B.slots ∧ Post ⟨T.setVm vm₁, locs, cells, slots⟩ argsL.toArray v B ∧
      ∀ target, Steps p.tables e below (B.U.setTop { g with pc := g.pc + 3, stack := v.toList ++ rest }) target → Steps p.tables e below (T.setTop g) target := by
  obtain ⟨mk, methM, cM, hnamed, hmethM, -, -, -, -, -, -, hsigM⟩ := Cond.codeWith_spec hcode
  have hstatic : methM.isStatic = true := Cond.static_spec hnamed hmethM hstat
  obtain ⟨kP, hkP, -⟩ := className_of_methodNamed hnamed
  have hinitP : kP.init = .initialized := Cond.initialized_spec (findClass_of_methodNamed hnamed) hkP hinit
  obtain ⟨vm₁, X₁, hstep₁⟩ := X.invokestatic hexec hown hlink hnamed hmethM hstatic hkP hinitP hy (g := g) hg (argsL := argsL) (rest := rest) (hlen _ hsigM) hstack hdg
  obtain ⟨v, B, X', hpost, hsteps⟩ := hK m meth c ⟨T.setVm vm₁, locs, cells, slots⟩ { g with stack := rest } (.invokestatic index) mk argsL.toArray X₁ hg hsize hdg hW (X₁.named hnamed) (hpre vm₁ X₁.warmed)
  exact ⟨v, vm₁, B, X₁.warmed, X', hpost, fun target h => hstep₁ _ fun acts => by rw [doInvoke_state]; exact hsteps.trans h⟩
theorem vx_runSW {y : MethodName} {bytes cc : ByteArray} {maxL nL mc ms n index : Nat} {ret : Option FieldType} {hh : List (Nat × Nat × Nat × Nat)} {ws : List Cond} {rm : Room} {Pc : Array Value → State → Prop} {Qc : Array Value → State → Outcome → State → Prop} {free : Addr → Prop} {Ts : List Cond} {own : String} {As rest : List Value} {g : JFrame}
    (S : CallFix p m c cc nL s args Ts own) (hM : Met l y ws rm Pc Qc mc ms free) (cw : vx_CSW R s args own index y bytes maxL ret hh ws rm mc ms n) (hp : PreS s H Pc As)
    (hg : g.method = m) (hn : As.length = n) (hsize : g.locals.size = nL) (hstack : g.stack = As.reverse ++ rest) (hW : 2 * g.monitorRoom + (rest.map fun v => v.category).sum ≤ 8) (hdg : decode cc g.pc = .ok (.invokestatic index, 3)) (hf : cells + mc ≤ R.cells ∧ slots + ms ≤ R.slots) :
    va_Run p l e R s m args below meth c H locs cells slots mc ms g rest (Qc As.toArray) (free) := by
  obtain ⟨⟨hrc, hrs, hfr, hlo, hws, hcw⟩, hcode, hini, hy, hlen, hl, hstt⟩ := cw
  have hK : Back l R p e below s args y 3 8 (PreOf R mc ms Pc) (PostOf Qc mc ms free) := va_backW (hh := hh) (bytes := bytes) (maxL := maxL) (ret := ret) hM hp.1 hrc hrs hfr hlo hws hcw (fun a' U hW => word_at hW (Or.inl (by first | rfl | simp [Cond.onTables, Cond.keeps, Cond.steady])) hini)
  obtain ⟨hx, hb, hml, ho, -⟩ := S
  intro T hT X
  obtain ⟨v, vm₁, ⟨U', l2, c2, s2⟩, hW₁, X', ⟨g', mk, t, L, e1, e2, hq, h1, hL, h2, h3⟩, st⟩ := vx_callSW X hx (hh := hh) (bytes := bytes) (maxL := maxL) (ret := ret) ho hl hstt hini hcode hy hK hg (hsize.trans hml.symm) (argsL := As) (rest := rest) (fun sig h => hn.trans (hlen sig h)) hstack hW (by rw [hb]; exact hdg)
    (fun vm₁ hW₁ => ⟨hf.1, hf.2, hp.2 (T.setVm vm₁) hT hW₁⟩)
  dsimp only [Pt.U, Pt.locs, Pt.cells, Pt.slots] at X' e1 e2 h1 h2 h3 st
  subst h1; subst h2; subst h3
  exact ⟨v, (T.setVm vm₁).calling g' mk As.toArray, t, U', L, hT, X', hL, e1, e2, hq, st⟩
/-- not caught here, past rows that name other classes: it goes on to the caller -/
theorem vx_outP {p : Program} {l : Launch} {e : Env} {R : Room} {s : State} {m : MethodId} {args : Array Value} {below : List Frame} {meth : Method} {c : Code} {H : Heap} {locs : List Loc} {cells slots : Nat} {free : Addr → Prop} {ls : Array Slot} {rest : List Value} {Qc : Array Value → State → Outcome → State → Prop} {XC : String → State → State → Prop}
    {pc : Nat} {own E : String} {ce : Cell} {q : Addr} {mc ms : Nat} (hown : s.vm.findClass own = some m.cls) (hlocks : meth.locks = false)
    (hpass : ∀ z ∈ c.exceptionTable.toList, covers z pc = false ∨ (z.catchType ≠ 0 ∧ ∃ nm : String, (Cond.classLink own z.catchType nm).before args s = true ∧ va_Nc E nm s)) (hcell : H[q]? = some ce) (hv : ce.vm = .none) (hcl : s.vm.findClass E = some ce.cls)
    (hx : ∀ t : State, t.heap = H → s.vm.Alike t.vm → XC E s t) (hf : ∀ z ∈ locs, free z.base) (hc : cells ≤ mc) (hs : slots ≤ ms) :
    vx_W p l e R s m args below meth c H locs cells slots (vx_MQ below Qc XC args s mc ms free) (F0 m pc ls rest) q := by
  intro T hT X
  have hpl : e.platform.magicAccessors = ({} : Platform).magicAccessors := by rw [X.admits.platform]
  obtain ⟨vm', hW', X', st⟩ := X.outThrough hlocks q (g := F0 m pc ls rest) rfl rfl rfl (cell := ce) (by rw [hT]; exact hcell) (by rw [hv]; rfl)
    (by obtain ⟨k9, h9, -⟩ := Vm.findClass_spec hcl; exact ⟨k9, h9⟩) (fun z hz => by
      rcases hpass z hz with h | ⟨hz0, nm, hl1, hn1⟩
      · exact Or.inl h
      · obtain ⟨c6, hc6, hcl6⟩ := Cond.classLink_spec hown hl1 e.platform hpl
        obtain ⟨a8, b8, h1, h2, h3⟩ := hn1
        cases Option.some.inj (h1.symm.trans hcl)
        cases Option.some.inj (h2.symm.trans hc6)
        exact Or.inr ⟨hz0, _, hcl6, h3⟩)
  obtain ⟨g₀, hfr⟩ := X'.frames_eq
  have hcell9 : ((T.setVm vm').setFrames (.throwing q :: below)).heap[q]? = some ce := by
    show T.heap[q]? = some ce
    rw [hT]; exact hcell
  have hend : Ended ((T.setVm vm').setFrames (.throwing q :: below)) below (.threw q) := State.frames_setFrames _ (State.cur_lt_of_frames hfr)
  refine ⟨(T.setVm vm').setFrames (.throwing q :: below), ?_, .threw q, X'.here.running, hend, Or.inr ⟨q, rfl, E, ce, locs, hx _ hT (X'.ends _).1.alike, hcell9, hv, hcl, (X'.ends _).1, (X'.ends _).2.mono hc hs, hf⟩⟩
  rw [X.pushThrowing_eq]
  exact st
/-- a thing of a world lies in the heap -/
theorem vx_lt {D : va_G} {cl : List vw_C} {ws : va_W} {H1 : Heap} (h : va_P D cl ws H1) {k : Nat} {q : Nat × va_E} (hk : ws[k]? = some q) : q.1 < H1.size := (h k q hk).lt
end VXS
/-! ===== END ===== -/
/-! ===== BEGIN methods with a table of their own: called by a name, returning or throwing ===== -/
section VXH
/-! vx_backW, vx_callVX, vx_callSX, vx_callVW, vx_runVW, vx_runVX, vx_runSX, vx_ofWH follow the same proofs as their sisters above (Free/Laws.lean, Shelf42/LK1.lean); vx_outP calls Shelf42/NT130.lean (outThrough). -/
section
variable {l : Launch} {R : Room} {p : Program} {e : Env} {below : List Frame} {s : State} {sargs : Array Value} {y : MethodName} {len W9 : Nat}
theorem vx_backW {ws : List Cond} {rm : Room} {Pc : Array Value → State → Prop} {Qc : Array Value → State → Outcome → State → Prop} {XC : String → State → State → Prop} {mc ms : Nat} {free : Addr → Prop} {bytes : ByteArray} {maxL : Nat} {ret : Option FieldType} {hh : List (Nat × Nat × Nat × Nat)}
    (hM : vx_Met l y ws rm Pc Qc XC mc ms free) (hblind : FrameBlind Pc) (hrc : rm.cells = mc) (hrs : rm.slots = ms)
    (hframes : rm.frames + 1 ≤ R.frames) (hlocals : W9 + (maxL + 11) + rm.locals ≤ R.locals)
    (hws : ∀ w ∈ ws, ∀ a' U, s.WarmedH U.vm → w.before a' U = true) (hcode : Cond.codeWith y bytes maxL ret hh ∈ ws) (hinit : ∀ a' U, s.WarmedH U.vm → (Cond.initialized y.cls).before a' U = true) :
    vx_Back l R p e below s sargs y len W9 (PreOf R mc ms Pc) (PostOf Qc mc ms free) (vx_Post XC mc ms free) := by
  intro m meth c A g ig mk a X hg hsize hdg hW hn hp
  have h1 : (headSpec ws rm).pre.before a A.U = true := atoms_intro fun w hw => hws w hw _ _ X.warmed
  have h2 : (Cond.codeWith y bytes maxL ret hh).before a A.U = true := hws _ hcode _ _ X.warmed
  have h3 : (Cond.initialized y.cls).before a A.U = true := hinit _ _ X.warmed
  have h4 : A.cells + (headSpec ws rm).room.cells ≤ R.cells := by rw [show (headSpec ws rm).room.cells = mc from hrc]; exact hp.1
  have h5 : A.slots + (headSpec ws rm).room.slots ≤ R.slots := by rw [show (headSpec ws rm).room.slots = ms from hrs]; exact hp.2.1
  have hPc : Pc a (A.U.calling g mk a) := hblind _ _ _ _ hp.2.2
  obtain ⟨U, Ls, c0, s0⟩ := A
  dsimp only [Pt.U, Pt.locs, Pt.cells, Pt.slots] at h1 h2 h3 h4 h5 X hn hPc ⊢
  obtain ⟨m9, methY, cY, hn9, hmY, hcY, -, hlY, -⟩ := Cond.codeWith_spec h2
  cases Option.some.inj (hn9.symm.trans hn)
  obtain ⟨kY, hkY, -⟩ := className_of_methodNamed hn
  have hinitY : kY.init = .initialized := Cond.initialized_spec (findClass_of_methodNamed hn) hkY h3
  have h : At U g.method c below := by rw [hg]; exact X.here
  have hlocals9 : W9 + (maxL + 11) + (headSpec ws rm).room.locals ≤ R.locals := hlocals
  have happ : (headSpec ws rm).appliesLoose y e.platform (U.calling g mk a) = true :=
    Spec.appliesLoose_calling (g := g) h hdg hn hkY hinitY
      (X.room_calling (g := g) (R' := (headSpec ws rm).room) hsize hmY hcY hframes (by rw [hlY]; omega) h4 h5) h1
  obtain ⟨mid, hmid⟩ := h.above
  have hfr : (U.setTop g).frames = (.java g :: mid) ++ below := by rw [State.frames_setTop' g h.top, hmid]; rfl
  obtain ⟨o, s₂, hsteps, -, hend, hq⟩ := Steps.callFree hM p X.admits X.cas X.clock (acts := []) hfr happ hPc trivial
  have hq' : vx_Q Qc XC mc ms free a (U.calling g mk a) o s₂ := hq
  rw [State.frames_setTop' g h.top] at hend
  obtain ⟨g₀, hg0⟩ := Option.isSome_iff_exists.mp h.top
  obtain ⟨r, hr⟩ := State.topJava?_eq_some.mp hg0
  have hr' : (({ U with heap := s₂.heap, slotsUsed := s₂.slotsUsed } : State).setVm s₂.vm).frames = .java g₀ :: r := hr
  rcases hq' with ⟨hqc, L, hfe, hL⟩ | ⟨q, rfl, E, ce, L, hx, hce, hcv, hcl, hW₂, hsm, hL⟩
  · obtain ⟨⟨v, rfl⟩, hW₂, e2, q2, q3, q4, q5, q6⟩ := id hfe
    have e3 : s₂ = ({ (U.calling g mk a).setFrames s₂.frames with heap := s₂.heap, slotsUsed := s₂.slotsUsed } : State).setVm s₂.vm := by
      have : s₂ = ({ s₂ with vm := (U.calling g mk a).vm } : State).setVm s₂.vm := rfl
      rw [e2] at this
      exact this
    obtain ⟨c₂, i₂, len₂, hc₂, hd₂, hf₂⟩ := hend
    have hW' : U.WarmedH s₂.vm := hW₂
    have hcc : c₂ = c := by
      have h1 : s₂.code? g.method = U.code? g.method := by
        rw [State.code?_eq, State.code?_eq, hW'.alike.method?]
      exact Option.some.inj (hc₂.symm.trans (h1.trans h.code))
    subst hcc
    have hlen : len₂ = len := by rw [hdg] at hd₂; cases hd₂; rfl
    subst hlen
    have hs₂ : s₂ = (({ U with heap := s₂.heap, slotsUsed := s₂.slotsUsed } : State).setVm s₂.vm).setTop { g with pc := g.pc + len₂, stack := v.toList ++ g.stack } := by
      refine e3.trans ?_
      rw [hf₂, State.calling_eq h.top, State.setFrames_setFrames, State.setTop_of_frames _ hr', hr]
      rfl
    have hsame : U.sameButNew ({ U with heap := s₂.heap, slotsUsed := s₂.slotsUsed } : State) L mc ms := by
      refine ⟨?_, q2, q3, q4, q5, q6⟩
      obtain ⟨t, ht, -⟩ := State.frames_cons hr
      show ({ U with heap := s₂.heap, slotsUsed := s₂.slotsUsed } : State) = { U.setFrames U.frames with heap := s₂.heap, slotsUsed := s₂.slotsUsed }
      rw [State.setFrames_self ht]
    subst hg
    refine Or.inl ⟨v, ⟨(({ U with heap := s₂.heap, slotsUsed := s₂.slotsUsed } : State).setVm s₂.vm), Ls ++ L, c0 + mc, s0 + ms⟩,
      ⟨X.admits, X.cas, X.clock, X.frames, X.room, X.hears, X.method, X.code, (X.here.setHeapUsed s₂.heap s₂.slotsUsed).setVm hW'.alike, X.tail, State.WarmedH.trans X.warmed hW', X.limits, X.bytes, X.same.trans (hsame.setVm s.vm)⟩,
      ⟨g, mk, s₂, L, rfl, rfl, hqc, rfl, hL, rfl, rfl⟩, ?_⟩
    show Steps p.tables e below _ ((({ U with heap := s₂.heap, slotsUsed := s₂.slotsUsed } : State).setVm s₂.vm).setTop { g with pc := g.pc + len₂, stack := v.toList ++ g.stack })
    rw [← hs₂]
    exact hsteps
  · obtain ⟨e2, q2, q3, q4, q5, q6⟩ := id hsm
    have e3 : s₂ = ({ (U.calling g mk a).setFrames s₂.frames with heap := s₂.heap, slotsUsed := s₂.slotsUsed } : State).setVm s₂.vm := by
      have : s₂ = ({ s₂ with vm := (U.calling g mk a).vm } : State).setVm s₂.vm := rfl
      rw [e2] at this
      exact this
    have hf₂ : s₂.frames = .throwing q :: .java g :: U.frames.tail := hend
    have hW' : U.WarmedH s₂.vm := hW₂
    have hs₂ : s₂ = ((({ U with heap := s₂.heap, slotsUsed := s₂.slotsUsed } : State).setVm s₂.vm).setTop g).pushFrame (.throwing q) := by
      refine e3.trans ?_
      rw [hf₂, State.calling_eq h.top, State.setFrames_setFrames, State.pushFrame, State.frames_setTop _ hr', State.setTop_of_frames _ hr', State.setFrames_setFrames, hr]
      rfl
    have hsame : U.sameButNew ({ U with heap := s₂.heap, slotsUsed := s₂.slotsUsed } : State) L mc ms := by
      refine ⟨?_, q2, q3, q4, q5, q6⟩
      obtain ⟨t, ht, -⟩ := State.frames_cons hr
      show ({ U with heap := s₂.heap, slotsUsed := s₂.slotsUsed } : State) = { U.setFrames U.frames with heap := s₂.heap, slotsUsed := s₂.slotsUsed }
      rw [State.setFrames_self ht]
    subst hg
    refine Or.inr ⟨q, ⟨(({ U with heap := s₂.heap, slotsUsed := s₂.slotsUsed } : State).setVm s₂.vm), Ls ++ L, c0 + mc, s0 + ms⟩,
      ⟨X.admits, X.cas, X.clock, X.frames, X.room, X.hears, X.method, X.code, (X.here.setHeapUsed s₂.heap s₂.slotsUsed).setVm hW'.alike, X.tail, State.WarmedH.trans X.warmed hW', X.limits, X.bytes, X.same.trans (hsame.setVm s.vm)⟩,
      ⟨g, mk, s₂, L, E, ce, rfl, rfl, hx, hce, hcv, hcl, rfl, hL, rfl, rfl⟩, ?_⟩
    show Steps p.tables e below _ (((({ U with heap := s₂.heap, slotsUsed := s₂.slotsUsed } : State).setVm s₂.vm).setTop g).pushFrame (.throwing q))
    rw [← hs₂]
    exact hsteps
end
variable {p : Program} {l : Launch} {e : Env} {R : Room} {s : State} {m : MethodId} {args : Array Value} {below : List Frame} {meth : Method} {c : Code} {T : State} {H : Heap} {locs : List Loc} {cells slots : Nat}
theorem vx_callVX (X : Stand p l e R s m args below meth c T locs cells slots) (hexec : p.tables.exec = Jvm.exec) {own C : String} {index : Nat} {y : MethodName} {bytes : ByteArray} {maxL : Nat} {ret : Option FieldType} {hh : List (Nat × Nat × Nat × Nat)}
    (hown : s.vm.findClass own = some m.cls) (hlink : (Cond.methodLink own index y).before args s = true) (hinst : (Cond.instanceMethod y).before args s = true) (hsel : (Cond.selects C y y).before args s = true)
    (hcode : (Cond.codeWith y bytes maxL ret hh).before args s = true) (hy : y.cls ≠ "java/lang/invoke/MethodHandle" ∧ y.cls ≠ "java/lang/invoke/VarHandle")
    {W9 : Nat} {Pre : Pt → Array Value → Prop} {Post : Pt → Array Value → Option Value → Pt → Prop} {PostX : Pt → Array Value → Addr → Pt → Prop} (hK : vx_Back l R p e below s args y 3 W9 Pre Post PostX)
    {b : Addr} {cellB : Cell} (hcell : T.heap[b]? = some cellB) (hobj : cellB.vm.isStatics = false) (hcls : s.vm.findClass C = some cellB.cls)
    {g : JFrame} (hg : g.method = m) (hsize : g.locals.size = c.maxLocals) {argsL rest : List Value} (hlen : ∀ sig, parseMethodDescriptor y.desc = some sig → argsL.length = sig.parameters.length)
    (hstack : g.stack = argsL.reverse ++ .ref b :: rest) (hW : 2 * g.monitorRoom + (rest.map fun v => v.category).sum ≤ W9) (hdg : decode c.code g.pc = .ok (.invokevirtual index, 3))
    (hpre : ∀ vm₁, s.WarmedH vm₁ → Pre ⟨T.setVm vm₁, locs, cells, slots⟩ (Value.ref b :: argsL).toArray) :
    (∃ (v : Option Value) (vm₁ : Vm) (B : Pt), s.WarmedH vm₁ ∧ Stand p l e R s m args below meth c B.U B.locs B.cells B.slots ∧ Post ⟨T.setVm vm₁, locs, cells, slots⟩ (Value.ref b :: argsL).toArray v B ∧
      ∀ target, Steps p.tables e below (B.U.setTop { g with pc := g.pc + 3, stack := v.toList ++ rest }) target → Steps p.tables e below (T.setTop g) target) ∨
    (∃ (q : Addr) (vm₁ : Vm) (B : Pt), s.WarmedH vm₁ ∧ Stand p l e R s m args below meth c B.U B.locs B.cells B.slots ∧ PostX ⟨T.setVm vm₁, locs, cells, slots⟩ (Value.ref b :: argsL).toArray q B ∧
      Steps p.tables e below (T.setTop g) ((B.U.setTop { g with stack := rest }).pushFrame (.throwing q))) := by
  obtain ⟨mk, methM, hnamed, hmethM, hstM, habM⟩ := Cond.instanceMethod_spec hinst
  obtain ⟨m8, methM', cM, hn8, hmethM', -, -, -, -, -, -, hsigM⟩ := Cond.codeWith_spec hcode
  cases Option.some.inj (hn8.symm.trans hnamed)
  cases hmethM.symm.trans hmethM'
  obtain ⟨c2, r2, m2, q1, q2, q3, q4, kP, hkP, hkPi⟩ := Cond.selects_spec hsel
  cases hcls.symm.trans q1
  cases (State.methodFound?_of_named hnamed hy).symm.trans q2
  cases hnamed.symm.trans q3
  have hselP : selectMethod e.platform s.vm cellB.cls mk = .method mk := by rw [Launch.admits_selectMethod X.admits]; exact q4
  obtain ⟨vm₁, X₁, hstep₁⟩ := X.invokevirtual hexec hown hlink hnamed hmethM hstM hkP hkPi hy (a := b) (cell := cellB) hcell
    (fun z h => by rw [h] at hobj; cases hobj) hselP hmethM habM hkP hkPi (g := g) hg (argsL := argsL) (rest := rest) (hlen _ hsigM) hstack hdg
  rcases hK m meth c ⟨T.setVm vm₁, locs, cells, slots⟩ { g with stack := rest } (.invokevirtual index) mk (Value.ref b :: argsL).toArray X₁ hg hsize hdg hW (X₁.named hnamed) (hpre vm₁ X₁.warmed) with ⟨v, B, X', hpost, hsteps⟩ | ⟨q, B, X', hpost, hsteps⟩
  · exact Or.inl ⟨v, vm₁, B, X₁.warmed, X', hpost, fun target h => hstep₁ _ fun acts => by rw [doInvoke_state]; exact hsteps.trans h⟩
  · exact Or.inr ⟨q, vm₁, B, X₁.warmed, X', hpost, hstep₁ _ fun acts => by rw [doInvoke_state]; exact hsteps⟩
theorem vx_callSX (X : Stand p l e R s m args below meth c T locs cells slots) (hexec : p.tables.exec = Jvm.exec) {own : String} {index : Nat} {y : MethodName} {bytes : ByteArray} {maxL : Nat} {ret : Option FieldType} {hh : List (Nat × Nat × Nat × Nat)}
    (hown : s.vm.findClass own = some m.cls) (hlink : (Cond.methodLink own index y).before args s = true) (hstat : (Cond.static y).before args s = true) (hinit : (Cond.initialized y.cls).before args s = true)
    (hcode : (Cond.codeWith y bytes maxL ret hh).before args s = true) (hy : y.cls ≠ "java/lang/invoke/MethodHandle" ∧ y.cls ≠ "java/lang/invoke/VarHandle")
    {W9 : Nat} {Pre : Pt → Array Value → Prop} {Post : Pt → Array Value → Option Value → Pt → Prop} {PostX : Pt → Array Value → Addr → Pt → Prop} (hK : vx_Back l R p e below s args y 3 W9 Pre Post PostX)
    {g : JFrame} (hg : g.method = m) (hsize : g.locals.size = c.maxLocals) {argsL rest : List Value} (hlen : ∀ sig, parseMethodDescriptor y.desc = some sig → argsL.length = sig.parameters.length)
    (hstack : g.stack = argsL.reverse ++ rest) (hW : 2 * g.monitorRoom + (rest.map fun v => v.category).sum ≤ W9) (hdg : decode c.code g.pc = .ok (.invokestatic index, 3))
    (hpre : ∀ vm₁, s.WarmedH vm₁ → Pre ⟨T.setVm vm₁, locs, cells, slots⟩ argsL.toArray) :
    (∃ (v : Option Value) (vm₁ : Vm) (B : Pt), s.WarmedH vm₁ ∧ Stand p l e R s m args below meth c B.U B.locs B.cells B.slots ∧ Post ⟨T.setVm vm₁, locs, cells, slots⟩ argsL.toArray v B ∧
      ∀ target, Steps p.tables e below (B.U.setTop { g with pc := g.pc + 3, stack := v.toList ++ rest }) target → Steps p.tables e below (T.setTop g) target) ∨
    (∃ (q : Addr) (vm₁ : Vm) (B : Pt), s.WarmedH vm₁ ∧ Stand p l e R s m args below meth c B.U B.locs B.cells B.slots ∧ PostX ⟨T.setVm vm₁, locs, cells, slots⟩ argsL.toArray q B ∧
      Steps p.tables e below (T.setTop g) ((B.U.setTop { g with stack := rest }).pushFrame (.throwing q))) := by
  obtain ⟨mk, methM, cM, hnamed, hmethM, -, -, -, -, -, -, hsigM⟩ := Cond.codeWith_spec hcode
  have hstatic : methM.isStatic = true := Cond.static_spec hnamed hmethM hstat
  obtain ⟨kP, hkP, -⟩ := className_of_methodNamed hnamed
  have hinitP : kP.init = .initialized := Cond.initialized_spec (findClass_of_methodNamed hnamed) hkP hinit
  obtain ⟨vm₁, X₁, hstep₁⟩ := X.invokestatic hexec hown hlink hnamed hmethM hstatic hkP hinitP hy (g := g) hg (argsL := argsL) (rest := rest) (hlen _ hsigM) hstack hdg
  rcases hK m meth c ⟨T.setVm vm₁, locs, cells, slots⟩ { g with stack := rest } (.invokestatic index) mk argsL.toArray X₁ hg hsize hdg hW (X₁.named hnamed) (hpre vm₁ X₁.warmed) with ⟨v, B, X', hpost, hsteps⟩ | ⟨q, B, X', hpost, hsteps⟩
  · exact Or.inl ⟨v, vm₁, B, X₁.warmed, X', hpost, fun target h => hstep₁ _ fun acts => by rw [doInvoke_state]; exact hsteps.trans h⟩
  · exact Or.inr ⟨q, vm₁, B, X₁.warmed, X', hpost, hstep₁ _ fun acts => by rw [doInvoke_state]; exact hsteps⟩
theorem vx_callVW (X : Stand p l e R s m args below meth c T locs cells slots) (hexec : p.tables.exec = Jvm.exec) {own C : String} {index : Nat} {y : MethodName} {bytes : ByteArray} {maxL : Nat} {ret : Option FieldType} {hh : List (Nat × Nat × Nat × Nat)}
    (hown : s.vm.findClass own = some m.cls) (hlink : (Cond.methodLink own index y).before args s = true) (hinst : (Cond.instanceMethod y).before args s = true) (hsel : (Cond.selects C y y).before args s = true)
    (hcode : (Cond.codeWith y bytes maxL ret hh).before args s = true) (hy : y.cls ≠ "java/lang/invoke/MethodHandle" ∧ y.cls ≠ "java/lang/invoke/VarHandle")
    {W9 : Nat} {Pre : Pt → Array Value → Prop} {Post : Pt → Array Value → Option Value → Pt → Prop} (hK : Back l R p e below s args y 3 W9 Pre Post)
    {b : Addr} {cellB : Cell} (hcell : T.heap[b]? = some cellB) (hobj : cellB.vm.isStatics = false) (hcls : s.vm.findClass C = some cellB.cls)
    {g : JFrame} (hg : g.method = m) (hsize : g.locals.size = c.maxLocals) {argsL rest : List Value} (hlen : ∀ sig, parseMethodDescriptor y.desc = some sig → argsL.length = sig.parameters.length)
    (hstack : g.stack = argsL.reverse ++ .ref b :: rest) (hW : 2 * g.monitorRoom + (rest.map fun v => v.category).sum ≤ W9) (hdg : decode c.code g.pc = .ok (.invokevirtual index, 3))
    (hpre : ∀ vm₁, s.WarmedH vm₁ → Pre ⟨T.setVm vm₁, locs, cells, slots⟩ (Value.ref b :: argsL).toArray) :
    ∃ (v : Option Value) (vm₁ : Vm) (B : Pt), s.WarmedH vm₁ ∧ Stand p l e R s m args below meth c B.U B.locs B.cells B.slots ∧ Post ⟨T.setVm vm₁, locs, cells, slots⟩ (Value.ref b :: argsL).toArray v B ∧
      ∀ target, Steps p.tables e below (B.U.setTop { g with pc := g.pc + 3, stack := v.toList ++ rest }) target → Steps p.tables e below (T.setTop g) target := by
  obtain ⟨mk, methM, hnamed, hmethM, hstM, habM⟩ := Cond.instanceMethod_spec hinst
  obtain ⟨m8, methM', cM, hn8, hmethM', -, -, -, -, -, -, hsigM⟩ := Cond.codeWith_spec hcode
  cases Option.some.inj (hn8.symm.trans hnamed)
  cases hmethM.symm.trans hmethM'
  obtain ⟨c2, r2, m2, q1, q2, q3, q4, kP, hkP, hkPi⟩ := Cond.selects_spec hsel
  cases hcls.symm.trans q1
  cases (State.methodFound?_of_named hnamed hy).symm.trans q2
  cases hnamed.symm.trans q3
  have hselP : selectMethod e.platform s.vm cellB.cls mk = .method mk := by rw [Launch.admits_selectMethod X.admits]; exact q4
  obtain ⟨vm₁, X₁, hstep₁⟩ := X.invokevirtual hexec hown hlink hnamed hmethM hstM hkP hkPi hy (a := b) (cell := cellB) hcell
    (fun z h => by rw [h] at hobj; cases hobj) hselP hmethM habM hkP hkPi (g := g) hg (argsL := argsL) (rest := rest) (hlen _ hsigM) hstack hdg
  obtain ⟨v, B, X', hpost, hsteps⟩ := hK m meth c ⟨T.setVm vm₁, locs, cells, slots⟩ { g with stack := rest } (.invokevirtual index) mk (Value.ref b :: argsL).toArray X₁ hg hsize hdg hW (X₁.named hnamed) (hpre vm₁ X₁.warmed)
  exact ⟨v, vm₁, B, X₁.warmed, X', hpost, fun target h => hstep₁ _ fun acts => by rw [doInvoke_state]; exact hsteps.trans h⟩
abbrev vx_CVW (R : Room) (s : State) (args : Array Value) (own C : String) (index : Nat) (y : MethodName) (bytes : ByteArray) (maxL : Nat) (ret : Option FieldType) (hh : List (Nat × Nat × Nat × Nat)) (ws : List Cond) (rm : Room) (mc ms n : Nat) : Prop :=
  (rm.cells = mc ∧ rm.slots = ms ∧ rm.frames + 1 ≤ R.frames ∧ 8 + (maxL + 11) + rm.locals ≤ R.locals ∧ (∀ w ∈ ws, ∀ (a' : Array Value) (U : State), s.WarmedH U.vm → w.before a' U = true) ∧ Cond.codeWith y bytes maxL ret hh ∈ ws) ∧
  (Cond.codeWith y bytes maxL ret hh).before args s = true ∧ (Cond.initialized y.cls).before args s = true ∧ (y.cls ≠ "java/lang/invoke/MethodHandle" ∧ y.cls ≠ "java/lang/invoke/VarHandle") ∧
  (∀ sig, parseMethodDescriptor y.desc = some sig → n = sig.parameters.length) ∧ (Cond.methodLink own index y).before args s = true ∧ (Cond.instanceMethod y).before args s = true ∧ (Cond.selects C y y).before args s = true
theorem vx_cwVW {own C : String} {index maxL mc ms : Nat} {y : MethodName} {bytes : ByteArray} {ret : Option FieldType} {hh : List (Nat × Nat × Nat × Nat)} {Ts ws ws' : List Cond} {rm : Room} (n : Nat) (ht : ∀ w ∈ Ts, w.before args s = true) (hT : GoodIn Ts (wsV own index C y ws)) (hw : ws = Cond.codeWith y bytes maxL ret hh :: ws') (hrc : rm.cells = mc) (hrs : rm.slots = ms)
    (hd : y.cls = C ∧ y.cls ≠ "java/lang/invoke/MethodHandle" ∧ y.cls ≠ "java/lang/invoke/VarHandle" ∧ (parseMethodDescriptor y.desc).map (fun d => d.parameters.length) = some n) (hR : rm.frames + 1 ≤ R.frames ∧ 8 + (maxL + 11) + rm.locals ≤ R.locals) :
    vx_CVW R s args own C index y bytes maxL ret hh ws rm mc ms n := by
  obtain ⟨hC, hd⟩ := hd
  subst hC
  have ok : ∀ w ∈ wsV own index y.cls y ws, w.before args s = true := fun w h => ht w (hT w h).1
  have hG : GoodIn Ts ws := fun w h => hT w (by unfold wsV; exact List.mem_append_right _ h)
  have hc : Cond.codeWith y bytes maxL ret hh ∈ ws := by rw [hw]; exact List.mem_cons_self
  refine ⟨⟨hrc, hrs, hR.1, hR.2, pay_in ht hG, hc⟩, ht _ (hG _ hc).1, ok _ (by simp [wsV]), ⟨hd.1, hd.2.1⟩, fun sig h => ?_, ok _ (by simp [wsV]), ok _ (by simp [wsV]), ok _ (by simp [wsV])⟩
  have h2 := hd.2.2
  rw [h] at h2
  exact (Option.some.inj h2).symm
theorem vx_runVW {y : MethodName} {bytes cc : ByteArray} {maxL nL mc ms n index : Nat} {ret : Option FieldType} {hh : List (Nat × Nat × Nat × Nat)} {ws : List Cond} {rm : Room} {Pc : Array Value → State → Prop} {Qc : Array Value → State → Outcome → State → Prop} {free : Addr → Prop} {Ts : List Cond} {own C : String} {b : Addr} {As rest : List Value} {g : JFrame}
    (S : CallFix p m c cc nL s args Ts own) (hM : Met l y ws rm Pc Qc mc ms free) (cw : vx_CVW R s args own C index y bytes maxL ret hh ws rm mc ms n) (hp : PreV s H C b Pc As)
    (hg : g.method = m) (hn : As.length = n) (hsize : g.locals.size = nL) (hstack : g.stack = As.reverse ++ .ref b :: rest) (hW : 2 * g.monitorRoom + (rest.map fun v => v.category).sum ≤ 8) (hdg : decode cc g.pc = .ok (.invokevirtual index, 3)) (hf : cells + mc ≤ R.cells ∧ slots + ms ≤ R.slots) :
    va_Run p l e R s m args below meth c H locs cells slots mc ms g rest (Qc (Value.ref b :: As).toArray) free := by
  obtain ⟨⟨hrc, hrs, hfr, hlo, hws, hcw⟩, hcode, hini, hy, hlen, hl, hin, hse⟩ := cw
  have hK : Back l R p e below s args y 3 8 (PreOf R mc ms Pc) (PostOf Qc mc ms free) := va_backW (hh := hh) (bytes := bytes) (maxL := maxL) (ret := ret) hM hp.1 hrc hrs hfr hlo hws hcw (fun a' U hW => word_at hW (Or.inl (by first | rfl | simp [Cond.onTables, Cond.keeps, Cond.steady])) hini)
  obtain ⟨hx, hb, hml, ho, -⟩ := S
  obtain ⟨-, ⟨cellB, hcB, hoB, hclB⟩, hPc⟩ := hp
  intro T hT X
  obtain ⟨v, vm₁, ⟨U', l2, c2, s2⟩, hW₁, X', ⟨g', mk, t, L, e1, e2, hq, h1, hL, h2, h3⟩, st⟩ := vx_callVW X hx (C := C) (hh := hh) (bytes := bytes) (maxL := maxL) (ret := ret) ho hl hin hse hcode hy hK (by rw [hT]; exact hcB) hoB hclB hg (hsize.trans hml.symm) (argsL := As) (rest := rest) (fun sig h => hn.trans (hlen sig h)) hstack hW (by rw [hb]; exact hdg)
    (fun vm₁ hW₁ => ⟨hf.1, hf.2, hPc (T.setVm vm₁) hT hW₁⟩)
  dsimp only [Pt.U, Pt.locs, Pt.cells, Pt.slots] at X' e1 e2 h1 h2 h3 st
  subst h1; subst h2; subst h3
  exact ⟨v, (T.setVm vm₁).calling g' mk (Value.ref b :: As).toArray, t, U', L, hT, X', hL, e1, e2, hq, st⟩
section
variable {y : MethodName} {bytes cc : ByteArray} {maxL nL mc ms n index : Nat} {ret : Option FieldType} {ws : List Cond} {rm : Room} {Pc : Array Value → State → Prop} {Qc : Array Value → State → Outcome → State → Prop} {XC : String → State → State → Prop} {free : Addr → Prop} {Ts : List Cond} {own C : String} {b : Addr} {As rest : List Value} {g : JFrame}
theorem vx_runVX {hh : List (Nat × Nat × Nat × Nat)} (S : CallFix p m c cc nL s args Ts own) (hM : vx_Met l y ws rm Pc Qc XC mc ms free) (cw : vx_CVW R s args own C index y bytes maxL ret hh ws rm mc ms n) (hp : PreV s H C b Pc As)
    (hg : g.method = m) (hn : As.length = n) (hsize : g.locals.size = nL) (hstack : g.stack = As.reverse ++ .ref b :: rest) (hW : 2 * g.monitorRoom + (rest.map fun v => v.category).sum ≤ 8) (hdg : decode cc g.pc = .ok (.invokevirtual index, 3)) (hf : cells + mc ≤ R.cells ∧ slots + ms ≤ R.slots) :
    vx_Run p l e R s m args below meth c H locs cells slots mc ms g rest (Qc (Value.ref b :: As).toArray) XC free := by
  obtain ⟨⟨hrc, hrs, hfr, hlo, hws, hcw⟩, hcode, hini, hy, hlen, hl, hin, hse⟩ := cw
  have hK : vx_Back l R p e below s args y 3 8 (PreOf R mc ms Pc) (PostOf Qc mc ms free) (vx_Post XC mc ms free) := vx_backW (hh := hh) (bytes := bytes) (maxL := maxL) (ret := ret) hM hp.1 hrc hrs hfr hlo hws hcw (fun a' U hW => word_at hW (Or.inl (by first | rfl | simp [Cond.onTables, Cond.keeps, Cond.steady])) hini)
  obtain ⟨hx, hb, hml, ho, -⟩ := S
  obtain ⟨-, ⟨cellB, hcB, hoB, hclB⟩, hPc⟩ := hp
  intro T hT X
  rcases vx_callVX X hx (C := C) (hh := hh) (bytes := bytes) (maxL := maxL) (ret := ret) ho hl hin hse hcode hy hK (by rw [hT]; exact hcB) hoB hclB hg (hsize.trans hml.symm) (argsL := As) (rest := rest) (fun sig h => hn.trans (hlen sig h)) hstack hW (by rw [hb]; exact hdg)
    (fun vm₁ hW₁ => ⟨hf.1, hf.2, hPc (T.setVm vm₁) hT hW₁⟩) with ⟨v, vm₁, ⟨U', l2, c2, s2⟩, hW₁, X', ⟨g', mk, t, L, e1, e2, hq, h1, hL, h2, h3⟩, st⟩ | ⟨q, vm₁, ⟨U', l2, c2, s2⟩, hW₁, X', ⟨g', mk, t, L, E, ce, e1, e2, hq, hce, hcv, hcl, h1, hL, h2, h3⟩, st⟩
  · dsimp only [Pt.U, Pt.locs, Pt.cells, Pt.slots] at X' e1 e2 h1 h2 h3 st
    subst h1; subst h2; subst h3
    exact Or.inl ⟨v, (T.setVm vm₁).calling g' mk (Value.ref b :: As).toArray, t, U', L, hT, X', hL, e1, e2, hq, st⟩
  · dsimp only [Pt.U, Pt.locs, Pt.cells, Pt.slots] at X' e1 e2 h1 h2 h3 st hcl
    subst h1; subst h2; subst h3
    exact Or.inr ⟨q, (T.setVm vm₁).calling g' mk (Value.ref b :: As).toArray, t, U', L, E, ce, hT, X', hL, e1, e2, hq, hce, hcv, vx_cls hW₁ hcl, st⟩
theorem vx_runSX {hh : List (Nat × Nat × Nat × Nat)} (S : CallFix p m c cc nL s args Ts own) (hM : vx_Met l y ws rm Pc Qc XC mc ms free) (cw : vx_CSW R s args own index y bytes maxL ret hh ws rm mc ms n) (hp : PreS s H Pc As)
    (hg : g.method = m) (hn : As.length = n) (hsize : g.locals.size = nL) (hstack : g.stack = As.reverse ++ rest) (hW : 2 * g.monitorRoom + (rest.map fun v => v.category).sum ≤ 8) (hdg : decode cc g.pc = .ok (.invokestatic index, 3)) (hf : cells + mc ≤ R.cells ∧ slots + ms ≤ R.slots) :
    vx_Run p l e R s m args below meth c H locs cells slots mc ms g rest (Qc As.toArray) XC free := by
  obtain ⟨⟨hrc, hrs, hfr, hlo, hws, hcw⟩, hcode, hini, hy, hlen, hl, hstt⟩ := cw
  have hK : vx_Back l R p e below s args y 3 8 (PreOf R mc ms Pc) (PostOf Qc mc ms free) (vx_Post XC mc ms free) := vx_backW (hh := hh) (bytes := bytes) (maxL := maxL) (ret := ret) hM hp.1 hrc hrs hfr hlo hws hcw (fun a' U hW => word_at hW (Or.inl (by first | rfl | simp [Cond.onTables, Cond.keeps, Cond.steady])) hini)
  obtain ⟨hx, hb, hml, ho, -⟩ := S
  intro T hT X
  rcases vx_callSX X hx (hh := hh) (bytes := bytes) (maxL := maxL) (ret := ret) ho hl hstt hini hcode hy hK hg (hsize.trans hml.symm) (argsL := As) (rest := rest) (fun sig h => hn.trans (hlen sig h)) hstack hW (by rw [hb]; exact hdg)
    (fun vm₁ hW₁ => ⟨hf.1, hf.2, hp.2 (T.setVm vm₁) hT hW₁⟩) with ⟨v, vm₁, ⟨U', l2, c2, s2⟩, hW₁, X', ⟨g', mk, t, L, e1, e2, hq, h1, hL, h2, h3⟩, st⟩ | ⟨q, vm₁, ⟨U', l2, c2, s2⟩, hW₁, X', ⟨g', mk, t, L, E, ce, e1, e2, hq, hce, hcv, hcl, h1, hL, h2, h3⟩, st⟩
  · dsimp only [Pt.U, Pt.locs, Pt.cells, Pt.slots] at X' e1 e2 h1 h2 h3 st
    subst h1; subst h2; subst h3
    exact Or.inl ⟨v, (T.setVm vm₁).calling g' mk As.toArray, t, U', L, hT, X', hL, e1, e2, hq, st⟩
  · dsimp only [Pt.U, Pt.locs, Pt.cells, Pt.slots] at X' e1 e2 h1 h2 h3 st hcl
    subst h1; subst h2; subst h3
    exact Or.inr ⟨q, (T.setVm vm₁).calling g' mk As.toArray, t, U', L, E, ce, hT, X', hL, e1, e2, hq, hce, hcv, vx_cls hW₁ hcl, st⟩
end
end VXH
theorem vx_ofWH {l : Launch} {y : MethodName} {ws ws' : List Cond} {rm : Room} {Pc : Array Value → State → Prop} {Qc : Array Value → State → Outcome → State → Prop} {XC : String → State → State → Prop} {mc ms : Nat} {free : Addr → Prop} {cc : ByteArray} {maxL : Nat} {ret : Option FieldType} {hh : List (Nat × Nat × Nat × Nat)}
    (hy : plainName y.cls = true) (hw : ws = Cond.codeWith y cc maxL ret hh :: ws')
    (body : ∀ p e s m args below meth c s₁, BodyLoose p l y (headSpec ws rm) cc maxL ret e s m args below meth c s₁ → c.maxLocals = maxL → Pc args s →
      W p l e (headSpec ws rm).room s m args below meth c s.heap [] 0 0 (vx_MQ below Qc XC args s mc ms free) (entryFrame m args maxL)) : vx_Met l y ws rm Pc Qc XC mc ms free := by
  refine MetFree.of_bodyS (code := cc) (maxLocals := maxL) (ret := ret) hy ?_ ?_
  · intro args s m h hn
    obtain ⟨m9, meth, c, hn9, h1, h2, h3, h4, -, h5, h6, -⟩ := Cond.codeWith_spec (atoms_spec (ws := ws) h _ (by rw [hw]; exact List.mem_cons_self))
    cases hn.symm.trans hn9
    exact ⟨meth, c, h1, h2, h3, h4, h5, h6⟩
  · intro p e s m args below meth c s₁ B hml hP _
    have hh0 : s₁.heap = s.heap := by rw [B.state]; rfl
    obtain ⟨t, a1, o, b1, b2, b3⟩ := body p e s m args below meth c s₁ B hml hP s₁ hh0 (Stand.of_body B)
    exact ⟨t, o, a1, b1, b2, b3⟩
/-! ===== END ===== -/

/-! ===== BEGIN printed: names, fields, word lists, decode rows ===== -/
def RX0 : String := "PauseLedger$Dinner"
def TX0 : u_T := fun k => match k with
  | 0 => ("PauseLedger$Dinner", "guests", "I", false)
  | 1 => ("PauseLedger$Dinner", "seconds", "I", false)
  | 2 => ("PauseLedger$Dinner", "limit", "I", false)
  | 3 => ("PauseLedger$Dinner", "speaker", "I", false)
  | 4 => ("PauseLedger$Dinner", "toSpeak", "I", false)
  | 5 => ("PauseLedger$Dinner", "pause", "I", false)
  | 6 => ("PauseLedger$Dinner", "unsaidInPauses", "I", false)
  | 7 => ("PauseLedger$Dinner", "meetings", "I", false)
  | 8 => ("PauseLedger$Dinner", "lost", "I", false)
  | 9 => ("PauseLedger$Dinner", "sent", "I", false)
  | 10 => ("PauseLedger$Dinner", "spoken", "[I", true)
  | 11 => ("PauseLedger$Dinner", "interruptions", "[I", true)
  | 12 => ("PauseLedger$Dinner", "coughs", "[I", true)
  | 13 => ("PauseLedger$Dinner", "unsaid", "[I", true)
  | 14 => ("PauseLedger$Dinner", "toGo", "[I", true)
  | 15 => ("PauseLedger$Dinner", "caught", "[I", true)
  | _ => ("PauseLedger$Dinner", "order", "[I", true)
def tyX0 : Nat → FieldType := fun k => match k with
  | 0 => .int
  | 1 => .int
  | 2 => .int
  | 3 => .int
  | 4 => .int
  | 5 => .int
  | 6 => .int
  | 7 => .int
  | 8 => .int
  | 9 => .int
  | 10 => .array .int
  | 11 => .array .int
  | 12 => .array .int
  | 13 => .array .int
  | 14 => .array .int
  | 15 => .array .int
  | _ => .array .int
abbrev wsX00 : List Cond := u_ws RX0 TX0 17
theorem nmX0 : ∀ a, a < 17 → ∀ b, b < 17 → a ≠ b → (TX0 a).2.1 ≠ (TX0 b).2.1 := by decide +kernel
theorem tyX0_ok : ∀ k, k < 17 → parseFieldDescriptor (TX0 k).2.2.1 = some (tyX0 k) := by decide +kernel
abbrev cX0_init : ByteArray := prog_2_method_1_code
def yX0_init : MethodName := ⟨RX0, "<init>", "()V"⟩
abbrev cX0_begin : ByteArray := prog_2_method_2_code
def yX0_begin : MethodName := ⟨RX0, "begin", "(I)V"⟩
abbrev cX0_copyOf : ByteArray := prog_2_method_3_code
def yX0_copyOf : MethodName := ⟨RX0, "copyOf", "(LPauseLedger$Dinner;)V"⟩
abbrev cX0_letSpeak : ByteArray := prog_2_method_4_code
def yX0_letSpeak : MethodName := ⟨RX0, "letSpeak", "(II)I"⟩
abbrev cX0_letCough : ByteArray := prog_2_method_5_code
def yX0_letCough : MethodName := ⟨RX0, "letCough", "(II)I"⟩
abbrev cX0_unsaidByCough : ByteArray := prog_2_method_6_code
def yX0_unsaidByCough : MethodName := ⟨RX0, "unsaidByCough", "(II)I"⟩
abbrev cX0_send : ByteArray := prog_2_method_7_code
def yX0_send : MethodName := ⟨RX0, "send", "(II)I"⟩
abbrev cX0_goBy : ByteArray := prog_2_method_8_code
def yX0_goBy : MethodName := ⟨RX0, "goBy", "(I)V"⟩
abbrev cX0_goOneSecond : ByteArray := prog_2_method_9_code
def yX0_goOneSecond : MethodName := ⟨RX0, "goOneSecond", "()V"⟩
abbrev cX0_speakOrPause : ByteArray := prog_2_method_10_code
def yX0_speakOrPause : MethodName := ⟨RX0, "speakOrPause", "()V"⟩
abbrev cX0_moveGlances : ByteArray := prog_2_method_11_code
def yX0_moveGlances : MethodName := ⟨RX0, "moveGlances", "()V"⟩
abbrev cX0_arrive : ByteArray := prog_2_method_12_code
def yX0_arrive : MethodName := ⟨RX0, "arrive", "(II)V"⟩
abbrev cX0_forgetThoseOver : ByteArray := prog_2_method_13_code
def yX0_forgetThoseOver : MethodName := ⟨RX0, "forgetThoseOver", "()V"⟩
abbrev cX0_isOnItsWay : ByteArray := prog_2_method_14_code
def yX0_isOnItsWay : MethodName := ⟨RX0, "isOnItsWay", "(I)Z"⟩
abbrev cX0_timeToGo : ByteArray := prog_2_method_15_code
def yX0_timeToGo : MethodName := ⟨RX0, "timeToGo", "(I)I"⟩
abbrev cX0_seatsBetween : ByteArray := prog_2_method_16_code
def yX0_seatsBetween : MethodName := ⟨RX0, "seatsBetween", "(II)I"⟩
abbrev cX0_wayOf : ByteArray := prog_2_method_17_code
def yX0_wayOf : MethodName := ⟨RX0, "wayOf", "(II)I"⟩
abbrev cX0_fateOf : ByteArray := prog_2_method_18_code
def yX0_fateOf : MethodName := ⟨RX0, "fateOf", "(III)I"⟩
abbrev cX0_untilPauseCounts : ByteArray := prog_2_method_19_code
def yX0_untilPauseCounts : MethodName := ⟨RX0, "untilPauseCounts", "()I"⟩
abbrev cX0_beyondMultipleOfLimit : ByteArray := prog_2_method_20_code
def yX0_beyondMultipleOfLimit : MethodName := ⟨RX0, "beyondMultipleOfLimit", "(I)I"⟩
abbrev cX0_sumUnsaidByGuests : ByteArray := prog_2_method_21_code
def yX0_sumUnsaidByGuests : MethodName := ⟨RX0, "sumUnsaidByGuests", "()I"⟩
abbrev cX0_sumUnsaid : ByteArray := prog_2_method_22_code
def yX0_sumUnsaid : MethodName := ⟨RX0, "sumUnsaid", "()I"⟩
abbrev cX0_rate : ByteArray := prog_2_method_23_code
def yX0_rate : MethodName := ⟨RX0, "rate", "()I"⟩
def RX1 : String := "PauseLedger"
def TX1 : u_T := fun k => match k with
  | 0 => ("PauseLedger", "dinner", "LPauseLedger$Dinner;", true)
  | _ => ("PauseLedger", "trial", "LPauseLedger$Dinner;", true)
def tyX1 : Nat → FieldType := fun k => match k with
  | 0 => .object "PauseLedger$Dinner"
  | _ => .object "PauseLedger$Dinner"
abbrev wsX10 : List Cond := u_ws RX1 TX1 2
theorem nmX1 : ∀ a, a < 2 → ∀ b, b < 2 → a ≠ b → (TX1 a).2.1 ≠ (TX1 b).2.1 := by decide +kernel
theorem tyX1_ok : ∀ k, k < 2 → parseFieldDescriptor (TX1 k).2.2.1 = some (tyX1 k) := by decide +kernel
abbrev cX1_init : ByteArray := prog_1_method_1_code
def yX1_init : MethodName := ⟨RX1, "<init>", "()V"⟩
abbrev cX1_newDinner : ByteArray := prog_1_method_2_code
def yX1_newDinner : MethodName := ⟨RX1, "newDinner", "(I)I"⟩
abbrev cX1_setLimit : ByteArray := prog_1_method_3_code
def yX1_setLimit : MethodName := ⟨RX1, "setLimit", "(I)I"⟩
abbrev cX1_speak : ByteArray := prog_1_method_4_code
def yX1_speak : MethodName := ⟨RX1, "speak", "(II)I"⟩
abbrev cX1_cough : ByteArray := prog_1_method_5_code
def yX1_cough : MethodName := ⟨RX1, "cough", "(II)I"⟩
abbrev cX1_glance : ByteArray := prog_1_method_6_code
def yX1_glance : MethodName := ⟨RX1, "glance", "(II)I"⟩
abbrev cX1_pass : ByteArray := prog_1_method_7_code
def yX1_pass : MethodName := ⟨RX1, "pass", "(I)I"⟩
abbrev cX1_guests : ByteArray := prog_1_method_8_code
def yX1_guests : MethodName := ⟨RX1, "guests", "()I"⟩
abbrev cX1_seconds : ByteArray := prog_1_method_9_code
def yX1_seconds : MethodName := ⟨RX1, "seconds", "()I"⟩
abbrev cX1_limit : ByteArray := prog_1_method_10_code
def yX1_limit : MethodName := ⟨RX1, "limit", "()I"⟩
abbrev cX1_seatsApart : ByteArray := prog_1_method_11_code
def yX1_seatsApart : MethodName := ⟨RX1, "seatsApart", "(II)I"⟩
abbrev cX1_speaker : ByteArray := prog_1_method_12_code
def yX1_speaker : MethodName := ⟨RX1, "speaker", "()I"⟩
abbrev cX1_secondsToSpeak : ByteArray := prog_1_method_13_code
def yX1_secondsToSpeak : MethodName := ⟨RX1, "secondsToSpeak", "()I"⟩
abbrev cX1_pause : ByteArray := prog_1_method_14_code
def yX1_pause : MethodName := ⟨RX1, "pause", "()I"⟩
abbrev cX1_spokenBy : ByteArray := prog_1_method_15_code
def yX1_spokenBy : MethodName := ⟨RX1, "spokenBy", "(I)I"⟩
abbrev cX1_interruptionsBy : ByteArray := prog_1_method_16_code
def yX1_interruptionsBy : MethodName := ⟨RX1, "interruptionsBy", "(I)I"⟩
abbrev cX1_coughsOf : ByteArray := prog_1_method_17_code
def yX1_coughsOf : MethodName := ⟨RX1, "coughsOf", "(I)I"⟩
abbrev cX1_unsaidBy : ByteArray := prog_1_method_18_code
def yX1_unsaidBy : MethodName := ⟨RX1, "unsaidBy", "(I)I"⟩
abbrev cX1_isUnderWay : ByteArray := prog_1_method_19_code
def yX1_isUnderWay : MethodName := ⟨RX1, "isUnderWay", "(II)Z"⟩
abbrev cX1_secondsToGo : ByteArray := prog_1_method_20_code
def yX1_secondsToGo : MethodName := ⟨RX1, "secondsToGo", "(II)I"⟩
abbrev cX1_caughtBy : ByteArray := prog_1_method_21_code
def yX1_caughtBy : MethodName := ⟨RX1, "caughtBy", "(II)I"⟩
abbrev cX1_unsaidInPauses : ByteArray := prog_1_method_22_code
def yX1_unsaidInPauses : MethodName := ⟨RX1, "unsaidInPauses", "()I"⟩
abbrev cX1_allUnsaid : ByteArray := prog_1_method_23_code
def yX1_allUnsaid : MethodName := ⟨RX1, "allUnsaid", "()I"⟩
abbrev cX1_glancesUnderWay : ByteArray := prog_1_method_24_code
def yX1_glancesUnderWay : MethodName := ⟨RX1, "glancesUnderWay", "()I"⟩
abbrev cX1_meetings : ByteArray := prog_1_method_25_code
def yX1_meetings : MethodName := ⟨RX1, "meetings", "()I"⟩
abbrev cX1_lostGlances : ByteArray := prog_1_method_26_code
def yX1_lostGlances : MethodName := ⟨RX1, "lostGlances", "()I"⟩
abbrev cX1_quietest : ByteArray := prog_1_method_27_code
def yX1_quietest : MethodName := ⟨RX1, "quietest", "()I"⟩
abbrev cX1_rating : ByteArray := prog_1_method_28_code
def yX1_rating : MethodName := ⟨RX1, "rating", "()I"⟩
abbrev cX1_allUnsaidIn : ByteArray := prog_1_method_29_code
def yX1_allUnsaidIn : MethodName := ⟨RX1, "allUnsaidIn", "(I)I"⟩
abbrev cX1_secondsUntilPauseCounts : ByteArray := prog_1_method_30_code
def yX1_secondsUntilPauseCounts : MethodName := ⟨RX1, "secondsUntilPauseCounts", "()I"⟩
abbrev cX1_wouldLeave : ByteArray := prog_1_method_31_code
def yX1_wouldLeave : MethodName := ⟨RX1, "wouldLeave", "(II)I"⟩
abbrev cX1_bestMoment : ByteArray := prog_1_method_32_code
def yX1_bestMoment : MethodName := ⟨RX1, "bestMoment", "(II)I"⟩
abbrev cX1_ratingIn : ByteArray := prog_1_method_33_code
def yX1_ratingIn : MethodName := ⟨RX1, "ratingIn", "(I)I"⟩
abbrev cX1_meanUnsaid : ByteArray := prog_1_method_34_code
def yX1_meanUnsaid : MethodName := ⟨RX1, "meanUnsaid", "()D"⟩
abbrev cX1_digest : ByteArray := prog_1_method_35_code
def yX1_digest : MethodName := ⟨RX1, "digest", "()J"⟩
abbrev cX1_digestOfTable : ByteArray := prog_1_method_36_code
def yX1_digestOfTable : MethodName := ⟨RX1, "digestOfTable", "()J"⟩
abbrev cX1_withGuest : ByteArray := prog_1_method_37_code
def yX1_withGuest : MethodName := ⟨RX1, "withGuest", "(JI)J"⟩
abbrev cX1_followedBy : ByteArray := prog_1_method_38_code
def yX1_followedBy : MethodName := ⟨RX1, "followedBy", "(JI)J"⟩
abbrev cX1_tryOut : ByteArray := prog_1_method_39_code
def yX1_tryOut : MethodName := ⟨RX1, "tryOut", "(I)V"⟩
abbrev cX1_requireGuest : ByteArray := prog_1_method_40_code
def yX1_requireGuest : MethodName := ⟨RX1, "requireGuest", "(I)V"⟩
abbrev cX1_requireWithin : ByteArray := prog_1_method_41_code
def yX1_requireWithin : MethodName := ⟨RX1, "requireWithin", "(III)V"⟩
abbrev cX1_requireFreeWay : ByteArray := prog_1_method_42_code
def yX1_requireFreeWay : MethodName := ⟨RX1, "requireFreeWay", "(II)V"⟩
abbrev cX1_pairOf : ByteArray := prog_1_method_43_code
def yX1_pairOf : MethodName := ⟨RX1, "pairOf", "(II)I"⟩
def RX2 : String := "PauseLedgerModel"
def TX2 : u_T := fun k => match k with
  | 0 => ("PauseLedgerModel", "thrown", "I", false)
  | 1 => ("PauseLedgerModel", "guests", "I", false)
  | 2 => ("PauseLedgerModel", "limit", "I", false)
  | 3 => ("PauseLedgerModel", "now", "[I", true)
  | 4 => ("PauseLedgerModel", "kept", "[I", true)
  | 5 => ("PauseLedgerModel", "mark", "I", false)
  | _ => ("PauseLedgerModel", "end", "I", false)
def tyX2 : Nat → FieldType := fun k => match k with
  | 0 => .int
  | 1 => .int
  | 2 => .int
  | 3 => .array .int
  | 4 => .array .int
  | 5 => .int
  | _ => .int
abbrev wsX20 : List Cond := u_ws RX2 TX2 7
theorem nmX2 : ∀ a, a < 7 → ∀ b, b < 7 → a ≠ b → (TX2 a).2.1 ≠ (TX2 b).2.1 := by decide +kernel
theorem tyX2_ok : ∀ k, k < 7 → parseFieldDescriptor (TX2 k).2.2.1 = some (tyX2 k) := by decide +kernel
abbrev cX2_init : ByteArray := prog_4_method_1_code
def yX2_init : MethodName := ⟨RX2, "<init>", "()V"⟩
abbrev cX2_thrown : ByteArray := prog_4_method_2_code
def yX2_thrown : MethodName := ⟨RX2, "thrown", "()I"⟩
abbrev cX2_fail : ByteArray := prog_4_method_3_code
def yX2_fail : MethodName := ⟨RX2, "fail", "(I)I"⟩
abbrev cX2_told : ByteArray := prog_4_method_4_code
def yX2_told : MethodName := ⟨RX2, "told", "(I)I"⟩
abbrev cX2_isIn : ByteArray := prog_4_method_5_code
def yX2_isIn : MethodName := ⟨RX2, "isIn", "(III)Z"⟩
abbrev cX2_isGuest : ByteArray := prog_4_method_6_code
def yX2_isGuest : MethodName := ⟨RX2, "isGuest", "(I)Z"⟩
abbrev cX2_keep : ByteArray := prog_4_method_7_code
def yX2_keep : MethodName := ⟨RX2, "keep", "()V"⟩
abbrev cX2_bringBack : ByteArray := prog_4_method_8_code
def yX2_bringBack : MethodName := ⟨RX2, "bringBack", "()V"⟩
abbrev cX2_pair : ByteArray := prog_4_method_9_code
def yX2_pair : MethodName := ⟨RX2, "pair", "(II)I"⟩
abbrev cX2_apart : ByteArray := prog_4_method_10_code
def yX2_apart : MethodName := ⟨RX2, "apart", "(II)I"⟩
abbrev cX2_unsaid : ByteArray := prog_4_method_11_code
def yX2_unsaid : MethodName := ⟨RX2, "unsaid", "()I"⟩
abbrev cX2_rated : ByteArray := prog_4_method_12_code
def yX2_rated : MethodName := ⟨RX2, "rated", "()I"⟩
abbrev cX2_talk : ByteArray := prog_4_method_13_code
def yX2_talk : MethodName := ⟨RX2, "talk", "()V"⟩
abbrev cX2_arrives : ByteArray := prog_4_method_14_code
def yX2_arrives : MethodName := ⟨RX2, "arrives", "(II)V"⟩
abbrev cX2_fly : ByteArray := prog_4_method_15_code
def yX2_fly : MethodName := ⟨RX2, "fly", "()V"⟩
abbrev cX2_secondOn : ByteArray := prog_4_method_16_code
def yX2_secondOn : MethodName := ⟨RX2, "secondOn", "()V"⟩
abbrev cX2_secondsOn : ByteArray := prog_4_method_17_code
def yX2_secondsOn : MethodName := ⟨RX2, "secondsOn", "(I)V"⟩
abbrev cX2_newDinner : ByteArray := prog_4_method_18_code
def yX2_newDinner : MethodName := ⟨RX2, "newDinner", "(I)I"⟩
abbrev cX2_setLimit : ByteArray := prog_4_method_19_code
def yX2_setLimit : MethodName := ⟨RX2, "setLimit", "(I)I"⟩
abbrev cX2_speak : ByteArray := prog_4_method_20_code
def yX2_speak : MethodName := ⟨RX2, "speak", "(II)I"⟩
abbrev cX2_cough : ByteArray := prog_4_method_21_code
def yX2_cough : MethodName := ⟨RX2, "cough", "(II)I"⟩
abbrev cX2_send : ByteArray := prog_4_method_22_code
def yX2_send : MethodName := ⟨RX2, "send", "(II)I"⟩
abbrev cX2_canSend : ByteArray := prog_4_method_23_code
def yX2_canSend : MethodName := ⟨RX2, "canSend", "(II)Z"⟩
abbrev cX2_glance : ByteArray := prog_4_method_24_code
def yX2_glance : MethodName := ⟨RX2, "glance", "(II)I"⟩
abbrev cX2_pass : ByteArray := prog_4_method_25_code
def yX2_pass : MethodName := ⟨RX2, "pass", "(I)I"⟩
abbrev cX2_guests : ByteArray := prog_4_method_26_code
def yX2_guests : MethodName := ⟨RX2, "guests", "()I"⟩
abbrev cX2_seconds : ByteArray := prog_4_method_27_code
def yX2_seconds : MethodName := ⟨RX2, "seconds", "()I"⟩
abbrev cX2_limit : ByteArray := prog_4_method_28_code
def yX2_limit : MethodName := ⟨RX2, "limit", "()I"⟩
abbrev cX2_seatsApart : ByteArray := prog_4_method_29_code
def yX2_seatsApart : MethodName := ⟨RX2, "seatsApart", "(II)I"⟩
abbrev cX2_speaker : ByteArray := prog_4_method_30_code
def yX2_speaker : MethodName := ⟨RX2, "speaker", "()I"⟩
abbrev cX2_left : ByteArray := prog_4_method_31_code
def yX2_left : MethodName := ⟨RX2, "left", "()I"⟩
abbrev cX2_secondsToSpeak : ByteArray := prog_4_method_32_code
def yX2_secondsToSpeak : MethodName := ⟨RX2, "secondsToSpeak", "()I"⟩
abbrev cX2_pause : ByteArray := prog_4_method_33_code
def yX2_pause : MethodName := ⟨RX2, "pause", "()I"⟩
abbrev cX2_guest : ByteArray := prog_4_method_34_code
def yX2_guest : MethodName := ⟨RX2, "guest", "(II)I"⟩
abbrev cX2_spokenBy : ByteArray := prog_4_method_35_code
def yX2_spokenBy : MethodName := ⟨RX2, "spokenBy", "(I)I"⟩
abbrev cX2_interruptionsBy : ByteArray := prog_4_method_36_code
def yX2_interruptionsBy : MethodName := ⟨RX2, "interruptionsBy", "(I)I"⟩
abbrev cX2_coughsOf : ByteArray := prog_4_method_37_code
def yX2_coughsOf : MethodName := ⟨RX2, "coughsOf", "(I)I"⟩
abbrev cX2_unsaidBy : ByteArray := prog_4_method_38_code
def yX2_unsaidBy : MethodName := ⟨RX2, "unsaidBy", "(I)I"⟩
abbrev cX2_flight : ByteArray := prog_4_method_39_code
def yX2_flight : MethodName := ⟨RX2, "flight", "(III)I"⟩
abbrev cX2_isUnderWay : ByteArray := prog_4_method_40_code
def yX2_isUnderWay : MethodName := ⟨RX2, "isUnderWay", "(II)Z"⟩
abbrev cX2_secondsToGo : ByteArray := prog_4_method_41_code
def yX2_secondsToGo : MethodName := ⟨RX2, "secondsToGo", "(II)I"⟩
abbrev cX2_caughtBy : ByteArray := prog_4_method_42_code
def yX2_caughtBy : MethodName := ⟨RX2, "caughtBy", "(II)I"⟩
abbrev cX2_unsaidInPauses : ByteArray := prog_4_method_43_code
def yX2_unsaidInPauses : MethodName := ⟨RX2, "unsaidInPauses", "()I"⟩
abbrev cX2_allUnsaid : ByteArray := prog_4_method_44_code
def yX2_allUnsaid : MethodName := ⟨RX2, "allUnsaid", "()I"⟩
abbrev cX2_underWay : ByteArray := prog_4_method_45_code
def yX2_underWay : MethodName := ⟨RX2, "underWay", "()I"⟩
abbrev cX2_glancesUnderWay : ByteArray := prog_4_method_46_code
def yX2_glancesUnderWay : MethodName := ⟨RX2, "glancesUnderWay", "()I"⟩
abbrev cX2_meetings : ByteArray := prog_4_method_47_code
def yX2_meetings : MethodName := ⟨RX2, "meetings", "()I"⟩
abbrev cX2_lostGlances : ByteArray := prog_4_method_48_code
def yX2_lostGlances : MethodName := ⟨RX2, "lostGlances", "()I"⟩
abbrev cX2_quietest : ByteArray := prog_4_method_49_code
def yX2_quietest : MethodName := ⟨RX2, "quietest", "()I"⟩
abbrev cX2_rating : ByteArray := prog_4_method_50_code
def yX2_rating : MethodName := ⟨RX2, "rating", "()I"⟩
abbrev cX2_allUnsaidIn : ByteArray := prog_4_method_51_code
def yX2_allUnsaidIn : MethodName := ⟨RX2, "allUnsaidIn", "(I)I"⟩
abbrev cX2_secondsUntilPauseCounts : ByteArray := prog_4_method_52_code
def yX2_secondsUntilPauseCounts : MethodName := ⟨RX2, "secondsUntilPauseCounts", "()I"⟩
abbrev cX2_becomes : ByteArray := prog_4_method_53_code
def yX2_becomes : MethodName := ⟨RX2, "becomes", "(II)I"⟩
abbrev cX2_wouldLeave : ByteArray := prog_4_method_54_code
def yX2_wouldLeave : MethodName := ⟨RX2, "wouldLeave", "(II)I"⟩
abbrev cX2_bestMoment : ByteArray := prog_4_method_55_code
def yX2_bestMoment : MethodName := ⟨RX2, "bestMoment", "(II)I"⟩
abbrev cX2_ratingIn : ByteArray := prog_4_method_56_code
def yX2_ratingIn : MethodName := ⟨RX2, "ratingIn", "(I)I"⟩
abbrev cX2_meanUnsaid : ByteArray := prog_4_method_57_code
def yX2_meanUnsaid : MethodName := ⟨RX2, "meanUnsaid", "()D"⟩
abbrev cX2_digest : ByteArray := prog_4_method_58_code
def yX2_digest : MethodName := ⟨RX2, "digest", "()J"⟩
def RJx145de : String := "java/io/Serializable"
def TJx145de : u_T := fun k => match k with
  | _ => ("", "", "", false)
def tyJx145de : Nat → FieldType := fun k => match k with
  | _ => .int
abbrev wsJx145de0 : List Cond := u_ws RJx145de TJx145de 0
theorem nmJx145de : ∀ a, a < 0 → ∀ b, b < 0 → a ≠ b → (TJx145de a).2.1 ≠ (TJx145de b).2.1 := by decide +kernel
theorem tyJx145de_ok : ∀ k, k < 0 → parseFieldDescriptor (TJx145de k).2.2.1 = some (tyJx145de k) := by decide +kernel
def RJ9 : String := "java/lang/Math"
def TJ9 : u_T := fun k => match k with
  | _ => ("", "", "", false)
def tyJ9 : Nat → FieldType := fun k => match k with
  | _ => .int
abbrev wsJ90 : List Cond := u_ws RJ9 TJ9 0
theorem nmJ9 : ∀ a, a < 0 → ∀ b, b < 0 → a ≠ b → (TJ9 a).2.1 ≠ (TJ9 b).2.1 := by decide +kernel
theorem tyJ9_ok : ∀ k, k < 0 → parseFieldDescriptor (TJ9 k).2.2.1 = some (tyJ9 k) := by decide +kernel
abbrev cJ9_abs_0f7a4 : ByteArray := prog_9_method_59_code
def yJ9_abs_0f7a4 : MethodName := ⟨RJ9, "abs", "(I)I"⟩
abbrev cJ9_max_7cf53 : ByteArray := prog_9_method_65_code
def yJ9_max_7cf53 : MethodName := ⟨RJ9, "max", "(II)I"⟩
abbrev cJ9_min_7cf53 : ByteArray := prog_9_method_69_code
def yJ9_min_7cf53 : MethodName := ⟨RJ9, "min", "(II)I"⟩
def RJ0 : String := "java/lang/String"
def TJ0 : u_T := fun k => match k with
  | _ => ("", "", "", false)
def tyJ0 : Nat → FieldType := fun k => match k with
  | _ => .int
abbrev wsJ00 : List Cond := u_ws RJ0 TJ0 0
theorem nmJ0 : ∀ a, a < 0 → ∀ b, b < 0 → a ≠ b → (TJ0 a).2.1 ≠ (TJ0 b).2.1 := by decide +kernel
theorem tyJ0_ok : ∀ k, k < 0 → parseFieldDescriptor (TJ0 k).2.2.1 = some (tyJ0 k) := by decide +kernel
def RJ10 : String := "java/lang/System"
def TJ10 : u_T := fun k => match k with
  | _ => ("", "", "", false)
def tyJ10 : Nat → FieldType := fun k => match k with
  | _ => .int
abbrev wsJ100 : List Cond := u_ws RJ10 TJ10 0
theorem nmJ10 : ∀ a, a < 0 → ∀ b, b < 0 → a ≠ b → (TJ10 a).2.1 ≠ (TJ10 b).2.1 := by decide +kernel
theorem tyJ10_ok : ∀ k, k < 0 → parseFieldDescriptor (TJ10 k).2.2.1 = some (tyJ10 k) := by decide +kernel
def RJ7 : String := "java/util/Arrays"
def TJ7 : u_T := fun k => match k with
  | _ => ("", "", "", false)
def tyJ7 : Nat → FieldType := fun k => match k with
  | _ => .int
abbrev wsJ70 : List Cond := u_ws RJ7 TJ7 0
theorem nmJ7 : ∀ a, a < 0 → ∀ b, b < 0 → a ≠ b → (TJ7 a).2.1 ≠ (TJ7 b).2.1 := by decide +kernel
theorem tyJ7_ok : ∀ k, k < 0 → parseFieldDescriptor (TJ7 k).2.2.1 = some (tyJ7 k) := by decide +kernel
abbrev cJ7_fill_53178 : ByteArray := prog_14_method_103_code
def yJ7_fill_53178 : MethodName := ⟨RJ7, "fill", "([II)V"⟩
def RL : String := "PauseLedgerLaw"
abbrev cL_newDinner : ByteArray := method_3_code
def yL_newDinner : MethodName := ⟨RL, "newDinner", "(LPauseLedger;I[J)I"⟩
abbrev cL_setLimit : ByteArray := method_4_code
def yL_setLimit : MethodName := ⟨RL, "setLimit", "(LPauseLedger;I[J)I"⟩
abbrev cL_speak : ByteArray := method_5_code
def yL_speak : MethodName := ⟨RL, "speak", "(LPauseLedger;II[J)I"⟩
abbrev cL_cough : ByteArray := method_6_code
def yL_cough : MethodName := ⟨RL, "cough", "(LPauseLedger;II[J)I"⟩
abbrev cL_glance : ByteArray := method_7_code
def yL_glance : MethodName := ⟨RL, "glance", "(LPauseLedger;II[J)I"⟩
abbrev cL_pass : ByteArray := method_8_code
def yL_pass : MethodName := ⟨RL, "pass", "(LPauseLedger;I[J)I"⟩
abbrev cL_seatsApart : ByteArray := method_9_code
def yL_seatsApart : MethodName := ⟨RL, "seatsApart", "(LPauseLedger;II[J)I"⟩
abbrev cL_spokenBy : ByteArray := method_10_code
def yL_spokenBy : MethodName := ⟨RL, "spokenBy", "(LPauseLedger;I[J)I"⟩
abbrev cL_interruptionsBy : ByteArray := method_11_code
def yL_interruptionsBy : MethodName := ⟨RL, "interruptionsBy", "(LPauseLedger;I[J)I"⟩
abbrev cL_coughsOf : ByteArray := method_12_code
def yL_coughsOf : MethodName := ⟨RL, "coughsOf", "(LPauseLedger;I[J)I"⟩
abbrev cL_unsaidBy : ByteArray := method_13_code
def yL_unsaidBy : MethodName := ⟨RL, "unsaidBy", "(LPauseLedger;I[J)I"⟩
abbrev cL_isUnderWay : ByteArray := method_14_code
def yL_isUnderWay : MethodName := ⟨RL, "isUnderWay", "(LPauseLedger;II[J)I"⟩
abbrev cL_secondsToGo : ByteArray := method_15_code
def yL_secondsToGo : MethodName := ⟨RL, "secondsToGo", "(LPauseLedger;II[J)I"⟩
abbrev cL_caughtBy : ByteArray := method_16_code
def yL_caughtBy : MethodName := ⟨RL, "caughtBy", "(LPauseLedger;II[J)I"⟩
abbrev cL_allUnsaidIn : ByteArray := method_17_code
def yL_allUnsaidIn : MethodName := ⟨RL, "allUnsaidIn", "(LPauseLedger;I[J)I"⟩
abbrev cL_wouldLeave : ByteArray := method_18_code
def yL_wouldLeave : MethodName := ⟨RL, "wouldLeave", "(LPauseLedger;II[J)I"⟩
abbrev cL_bestMoment : ByteArray := method_19_code
def yL_bestMoment : MethodName := ⟨RL, "bestMoment", "(LPauseLedger;II[J)I"⟩
abbrev cL_ratingIn : ByteArray := method_20_code
def yL_ratingIn : MethodName := ⟨RL, "ratingIn", "(LPauseLedger;I[J)I"⟩
abbrev cL_law : ByteArray := code
def yL_law : MethodName := ⟨RL, "law", "([I)Z"⟩
def wsJ7_fill_53178 : List Cond := .code yJ7_fill_53178 cJ7_fill_53178 4 none :: ([])
def wsX0_begin : List Cond := .code yX0_begin cX0_begin 2 none :: ([.fieldLink RX0 41 "PauseLedger$Dinner" "guests" "I", .fieldLink RX0 44 "PauseLedger$Dinner" "seconds" "I", .fieldLink RX0 47 "PauseLedger$Dinner" "speaker" "I", .fieldLink RX0 50 "PauseLedger$Dinner" "toSpeak" "I", .fieldLink RX0 53 "PauseLedger$Dinner" "pause" "I", .fieldLink RX0 56 "PauseLedger$Dinner" "unsaidInPauses" "I", .fieldLink RX0 59 "PauseLedger$Dinner" "meetings" "I", .fieldLink RX0 62 "PauseLedger$Dinner" "lost" "I", .fieldLink RX0 65 "PauseLedger$Dinner" "sent" "I", .fieldLink RX0 9 "PauseLedger$Dinner" "spoken" "[I", .fieldLink RX0 15 "PauseLedger$Dinner" "interruptions" "[I", .fieldLink RX0 18 "PauseLedger$Dinner" "coughs" "[I", .fieldLink RX0 21 "PauseLedger$Dinner" "unsaid" "[I", .fieldLink RX0 24 "PauseLedger$Dinner" "toGo" "[I", .fieldLink RX0 27 "PauseLedger$Dinner" "caught" "[I", .methodLink RX0 68 yJ7_fill_53178, .static yJ7_fill_53178, .initialized RJ7, .code yJ7_fill_53178 cJ7_fill_53178 4 none] ++ wsX00)
def wsX0_init_r1 : List Cond := [Cond.methodLink RX0 3 objectInit, Cond.instanceMethod objectInit, Cond.code objectInit ⟨#[0xb1]⟩ 1 none, Cond.arrayClass .int, Cond.fieldLink RX0 9 "PauseLedger$Dinner" "spoken" "[I", Cond.fieldLink RX0 15 "PauseLedger$Dinner" "interruptions" "[I", Cond.fieldLink RX0 18 "PauseLedger$Dinner" "coughs" "[I", Cond.fieldLink RX0 21 "PauseLedger$Dinner" "unsaid" "[I", Cond.fieldLink RX0 24 "PauseLedger$Dinner" "toGo" "[I", Cond.fieldLink RX0 27 "PauseLedger$Dinner" "caught" "[I", Cond.fieldLink RX0 30 "PauseLedger$Dinner" "order" "[I", Cond.fieldLink RX0 33 "PauseLedger$Dinner" "limit" "I", Cond.methodLink RX0 37 yX0_begin, Cond.instanceMethod yX0_begin, Cond.selects RX0 yX0_begin yX0_begin, Cond.initialized RX0, Cond.code yX0_begin cX0_begin 2 none, Cond.fieldLink RX0 41 "PauseLedger$Dinner" "guests" "I", Cond.fieldLink RX0 44 "PauseLedger$Dinner" "seconds" "I", Cond.fieldLink RX0 47 "PauseLedger$Dinner" "speaker" "I", Cond.fieldLink RX0 50 "PauseLedger$Dinner" "toSpeak" "I", Cond.fieldLink RX0 53 "PauseLedger$Dinner" "pause" "I", Cond.fieldLink RX0 56 "PauseLedger$Dinner" "unsaidInPauses" "I", Cond.fieldLink RX0 59 "PauseLedger$Dinner" "meetings" "I"]
def wsX0_init_r2 : List Cond := [Cond.fieldLink RX0 62 "PauseLedger$Dinner" "lost" "I", Cond.fieldLink RX0 65 "PauseLedger$Dinner" "sent" "I", Cond.methodLink RX0 68 yJ7_fill_53178, Cond.static yJ7_fill_53178, Cond.initialized RJ7, Cond.code yJ7_fill_53178 cJ7_fill_53178 4 none]
def wsX0_init : List Cond := .code yX0_init cX0_init 1 none :: ((wsX0_init_r1 ++ wsX0_init_r2) ++ wsX00)
def wsX0_copyOf : List Cond := .code yX0_copyOf cX0_copyOf 2 none :: ([.fieldLink RX0 41 "PauseLedger$Dinner" "guests" "I", .fieldLink RX0 44 "PauseLedger$Dinner" "seconds" "I", .fieldLink RX0 33 "PauseLedger$Dinner" "limit" "I", .fieldLink RX0 47 "PauseLedger$Dinner" "speaker" "I", .fieldLink RX0 50 "PauseLedger$Dinner" "toSpeak" "I", .fieldLink RX0 53 "PauseLedger$Dinner" "pause" "I", .fieldLink RX0 56 "PauseLedger$Dinner" "unsaidInPauses" "I", .fieldLink RX0 59 "PauseLedger$Dinner" "meetings" "I", .fieldLink RX0 62 "PauseLedger$Dinner" "lost" "I", .fieldLink RX0 65 "PauseLedger$Dinner" "sent" "I", .fieldLink RX0 9 "PauseLedger$Dinner" "spoken" "[I", .methodLink RX0 74 arraycopyName, .native arraycopyName, .static arraycopyName, .initialized "java/lang/System", .fieldLink RX0 15 "PauseLedger$Dinner" "interruptions" "[I", .fieldLink RX0 18 "PauseLedger$Dinner" "coughs" "[I", .fieldLink RX0 21 "PauseLedger$Dinner" "unsaid" "[I", .fieldLink RX0 24 "PauseLedger$Dinner" "toGo" "[I", .fieldLink RX0 27 "PauseLedger$Dinner" "caught" "[I", .fieldLink RX0 30 "PauseLedger$Dinner" "order" "[I"] ++ wsX00)
def wsX0_letSpeak : List Cond := .code yX0_letSpeak cX0_letSpeak 4 (some .int) :: ([.fieldLink RX0 47 "PauseLedger$Dinner" "speaker" "I", .fieldLink RX0 15 "PauseLedger$Dinner" "interruptions" "[I", .fieldLink RX0 50 "PauseLedger$Dinner" "toSpeak" "I"] ++ wsX00)
def wsX0_unsaidByCough : List Cond := .code yX0_unsaidByCough cX0_unsaidByCough 3 (some .int) :: ([.fieldLink RX0 47 "PauseLedger$Dinner" "speaker" "I"] ++ wsX00)
def wsX0_letCough : List Cond := .code yX0_letCough cX0_letCough 4 (some .int) :: ([.fieldLink RX0 18 "PauseLedger$Dinner" "coughs" "[I", .fieldLink RX0 21 "PauseLedger$Dinner" "unsaid" "[I", .methodLink RX0 80 yX0_unsaidByCough, .instanceMethod yX0_unsaidByCough, .selects RX0 yX0_unsaidByCough yX0_unsaidByCough, .initialized RX0, .code yX0_unsaidByCough cX0_unsaidByCough 3 (some .int), .fieldLink RX0 47 "PauseLedger$Dinner" "speaker" "I"] ++ wsX00)
def wsX1_pairOf : List Cond := .code yX1_pairOf cX1_pairOf 2 (some .int) :: ([])
def wsX0_seatsBetween : List Cond := .code yX0_seatsBetween cX0_seatsBetween 4 (some .int) :: ([.methodLink RX0 114 Lib.Math.abs.name, .static Lib.Math.abs.name, .initialized "java/lang/Math", .code Lib.Math.abs.name Lib.Math.abs.code 1 (some .int), .fieldLink RX0 41 "PauseLedger$Dinner" "guests" "I", .methodLink RX0 119 Lib.Math.min.name, .static Lib.Math.min.name, .code Lib.Math.min.name Lib.Math.min.code 2 (some .int)] ++ wsX00)
def wsX0_wayOf : List Cond := .code yX0_wayOf cX0_wayOf 3 (some .int) :: ([.methodLink RX0 122 yX0_seatsBetween, .instanceMethod yX0_seatsBetween, .selects RX0 yX0_seatsBetween yX0_seatsBetween, .initialized RX0, .code yX0_seatsBetween cX0_seatsBetween 4 (some .int), .methodLink RX0 114 Lib.Math.abs.name, .static Lib.Math.abs.name, .initialized "java/lang/Math", .code Lib.Math.abs.name Lib.Math.abs.code 1 (some .int), .fieldLink RX0 41 "PauseLedger$Dinner" "guests" "I", .methodLink RX0 119 Lib.Math.min.name, .static Lib.Math.min.name, .code Lib.Math.min.name Lib.Math.min.code 2 (some .int)] ++ wsX00)
def wsX0_send : List Cond := .code yX0_send cX0_send 4 (some .int) :: ([.fieldLink RX0 65 "PauseLedger$Dinner" "sent" "I", .fieldLink RX0 30 "PauseLedger$Dinner" "order" "[I", .fieldLink RX0 24 "PauseLedger$Dinner" "toGo" "[I", .static yX1_pairOf, .initialized RX1, .code yX1_pairOf cX1_pairOf 2 (some .int), .methodLink RX0 87 yX0_wayOf, .instanceMethod yX0_wayOf, .selects RX0 yX0_wayOf yX0_wayOf, .initialized RX0, .code yX0_wayOf cX0_wayOf 3 (some .int), .methodLink RX0 122 yX0_seatsBetween, .instanceMethod yX0_seatsBetween, .selects RX0 yX0_seatsBetween yX0_seatsBetween, .code yX0_seatsBetween cX0_seatsBetween 4 (some .int), .methodLink RX0 114 Lib.Math.abs.name, .static Lib.Math.abs.name, .initialized "java/lang/Math", .code Lib.Math.abs.name Lib.Math.abs.code 1 (some .int), .fieldLink RX0 41 "PauseLedger$Dinner" "guests" "I", .methodLink RX0 119 Lib.Math.min.name, .static Lib.Math.min.name, .code Lib.Math.min.name Lib.Math.min.code 2 (some .int)] ++ wsX00)
def wsX0_beyondMultipleOfLimit : List Cond := .code yX0_beyondMultipleOfLimit cX0_beyondMultipleOfLimit 2 (some .int) :: ([.fieldLink RX0 33 "PauseLedger$Dinner" "limit" "I"] ++ wsX00)
def wsX0_speakOrPause : List Cond := .code yX0_speakOrPause cX0_speakOrPause 1 none :: ([.fieldLink RX0 47 "PauseLedger$Dinner" "speaker" "I", .fieldLink RX0 53 "PauseLedger$Dinner" "pause" "I", .fieldLink RX0 56 "PauseLedger$Dinner" "unsaidInPauses" "I", .fieldLink RX0 9 "PauseLedger$Dinner" "spoken" "[I", .fieldLink RX0 50 "PauseLedger$Dinner" "toSpeak" "I", .methodLink RX0 99 yX0_beyondMultipleOfLimit, .instanceMethod yX0_beyondMultipleOfLimit, .selects RX0 yX0_beyondMultipleOfLimit yX0_beyondMultipleOfLimit, .initialized RX0, .code yX0_beyondMultipleOfLimit cX0_beyondMultipleOfLimit 2 (some .int), .fieldLink RX0 33 "PauseLedger$Dinner" "limit" "I"] ++ wsX00)
def wsX0_isOnItsWay : List Cond := .code yX0_isOnItsWay cX0_isOnItsWay 2 (some .boolean) :: ([.fieldLink RX0 24 "PauseLedger$Dinner" "toGo" "[I"] ++ wsX00)
def wsX0_arrive : List Cond := .code yX0_arrive cX0_arrive 5 none :: ([.fieldLink RX0 59 "PauseLedger$Dinner" "meetings" "I", .fieldLink RX0 21 "PauseLedger$Dinner" "unsaid" "[I", .fieldLink RX0 24 "PauseLedger$Dinner" "toGo" "[I", .fieldLink RX0 47 "PauseLedger$Dinner" "speaker" "I", .fieldLink RX0 62 "PauseLedger$Dinner" "lost" "I", .fieldLink RX0 27 "PauseLedger$Dinner" "caught" "[I", .static yX1_pairOf, .initialized RX1, .code yX1_pairOf cX1_pairOf 2 (some .int), .methodLink RX0 110 yX0_isOnItsWay, .instanceMethod yX0_isOnItsWay, .selects RX0 yX0_isOnItsWay yX0_isOnItsWay, .initialized RX0, .code yX0_isOnItsWay cX0_isOnItsWay 2 (some .boolean)] ++ wsX00)
def wsX0_forgetThoseOver : List Cond := .code yX0_forgetThoseOver cX0_forgetThoseOver 4 none :: ([.fieldLink RX0 65 "PauseLedger$Dinner" "sent" "I", .fieldLink RX0 30 "PauseLedger$Dinner" "order" "[I", .methodLink RX0 110 yX0_isOnItsWay, .instanceMethod yX0_isOnItsWay, .selects RX0 yX0_isOnItsWay yX0_isOnItsWay, .initialized RX0, .code yX0_isOnItsWay cX0_isOnItsWay 2 (some .boolean), .fieldLink RX0 24 "PauseLedger$Dinner" "toGo" "[I"] ++ wsX00)
def wsX0_moveGlances : List Cond := .code yX0_moveGlances cX0_moveGlances 3 none :: ([.fieldLink RX0 65 "PauseLedger$Dinner" "sent" "I", .fieldLink RX0 24 "PauseLedger$Dinner" "toGo" "[I", .fieldLink RX0 30 "PauseLedger$Dinner" "order" "[I", .methodLink RX0 103 yX0_arrive, .instanceMethod yX0_arrive, .selects RX0 yX0_arrive yX0_arrive, .initialized RX0, .code yX0_arrive cX0_arrive 5 none, .fieldLink RX0 59 "PauseLedger$Dinner" "meetings" "I", .fieldLink RX0 21 "PauseLedger$Dinner" "unsaid" "[I", .fieldLink RX0 47 "PauseLedger$Dinner" "speaker" "I", .fieldLink RX0 62 "PauseLedger$Dinner" "lost" "I", .fieldLink RX0 27 "PauseLedger$Dinner" "caught" "[I", .static yX1_pairOf, .initialized RX1, .code yX1_pairOf cX1_pairOf 2 (some .int), .methodLink RX0 110 yX0_isOnItsWay, .instanceMethod yX0_isOnItsWay, .selects RX0 yX0_isOnItsWay yX0_isOnItsWay, .code yX0_isOnItsWay cX0_isOnItsWay 2 (some .boolean), .methodLink RX0 107 yX0_forgetThoseOver, .instanceMethod yX0_forgetThoseOver, .selects RX0 yX0_forgetThoseOver yX0_forgetThoseOver, .code yX0_forgetThoseOver cX0_forgetThoseOver 4 none] ++ wsX00)
def wsX0_goOneSecond_r1 : List Cond := [Cond.fieldLink RX0 44 "PauseLedger$Dinner" "seconds" "I", Cond.methodLink RX0 93 yX0_speakOrPause, Cond.instanceMethod yX0_speakOrPause, Cond.selects RX0 yX0_speakOrPause yX0_speakOrPause, Cond.initialized RX0, Cond.code yX0_speakOrPause cX0_speakOrPause 1 none, Cond.fieldLink RX0 47 "PauseLedger$Dinner" "speaker" "I", Cond.fieldLink RX0 53 "PauseLedger$Dinner" "pause" "I", Cond.fieldLink RX0 56 "PauseLedger$Dinner" "unsaidInPauses" "I", Cond.fieldLink RX0 9 "PauseLedger$Dinner" "spoken" "[I", Cond.fieldLink RX0 50 "PauseLedger$Dinner" "toSpeak" "I", Cond.methodLink RX0 99 yX0_beyondMultipleOfLimit, Cond.instanceMethod yX0_beyondMultipleOfLimit, Cond.selects RX0 yX0_beyondMultipleOfLimit yX0_beyondMultipleOfLimit, Cond.code yX0_beyondMultipleOfLimit cX0_beyondMultipleOfLimit 2 (some .int), Cond.fieldLink RX0 33 "PauseLedger$Dinner" "limit" "I", Cond.methodLink RX0 96 yX0_moveGlances, Cond.instanceMethod yX0_moveGlances, Cond.selects RX0 yX0_moveGlances yX0_moveGlances, Cond.code yX0_moveGlances cX0_moveGlances 3 none, Cond.fieldLink RX0 65 "PauseLedger$Dinner" "sent" "I", Cond.fieldLink RX0 24 "PauseLedger$Dinner" "toGo" "[I", Cond.fieldLink RX0 30 "PauseLedger$Dinner" "order" "[I", Cond.methodLink RX0 103 yX0_arrive]
def wsX0_goOneSecond_r2 : List Cond := [Cond.instanceMethod yX0_arrive, Cond.selects RX0 yX0_arrive yX0_arrive, Cond.code yX0_arrive cX0_arrive 5 none, Cond.fieldLink RX0 59 "PauseLedger$Dinner" "meetings" "I", Cond.fieldLink RX0 21 "PauseLedger$Dinner" "unsaid" "[I", Cond.fieldLink RX0 62 "PauseLedger$Dinner" "lost" "I", Cond.fieldLink RX0 27 "PauseLedger$Dinner" "caught" "[I", Cond.static yX1_pairOf, Cond.initialized RX1, Cond.code yX1_pairOf cX1_pairOf 2 (some .int), Cond.methodLink RX0 110 yX0_isOnItsWay, Cond.instanceMethod yX0_isOnItsWay, Cond.selects RX0 yX0_isOnItsWay yX0_isOnItsWay, Cond.code yX0_isOnItsWay cX0_isOnItsWay 2 (some .boolean), Cond.methodLink RX0 107 yX0_forgetThoseOver, Cond.instanceMethod yX0_forgetThoseOver, Cond.selects RX0 yX0_forgetThoseOver yX0_forgetThoseOver, Cond.code yX0_forgetThoseOver cX0_forgetThoseOver 4 none]
def wsX0_goOneSecond : List Cond := .code yX0_goOneSecond cX0_goOneSecond 1 none :: ((wsX0_goOneSecond_r1 ++ wsX0_goOneSecond_r2) ++ wsX00)
def wsX0_goBy_r1 : List Cond := [Cond.methodLink RX0 90 yX0_goOneSecond, Cond.instanceMethod yX0_goOneSecond, Cond.selects RX0 yX0_goOneSecond yX0_goOneSecond, Cond.initialized RX0, Cond.code yX0_goOneSecond cX0_goOneSecond 1 none, Cond.fieldLink RX0 44 "PauseLedger$Dinner" "seconds" "I", Cond.methodLink RX0 93 yX0_speakOrPause, Cond.instanceMethod yX0_speakOrPause, Cond.selects RX0 yX0_speakOrPause yX0_speakOrPause, Cond.code yX0_speakOrPause cX0_speakOrPause 1 none, Cond.fieldLink RX0 47 "PauseLedger$Dinner" "speaker" "I", Cond.fieldLink RX0 53 "PauseLedger$Dinner" "pause" "I", Cond.fieldLink RX0 56 "PauseLedger$Dinner" "unsaidInPauses" "I", Cond.fieldLink RX0 9 "PauseLedger$Dinner" "spoken" "[I", Cond.fieldLink RX0 50 "PauseLedger$Dinner" "toSpeak" "I", Cond.methodLink RX0 99 yX0_beyondMultipleOfLimit, Cond.instanceMethod yX0_beyondMultipleOfLimit, Cond.selects RX0 yX0_beyondMultipleOfLimit yX0_beyondMultipleOfLimit, Cond.code yX0_beyondMultipleOfLimit cX0_beyondMultipleOfLimit 2 (some .int), Cond.fieldLink RX0 33 "PauseLedger$Dinner" "limit" "I", Cond.methodLink RX0 96 yX0_moveGlances, Cond.instanceMethod yX0_moveGlances, Cond.selects RX0 yX0_moveGlances yX0_moveGlances, Cond.code yX0_moveGlances cX0_moveGlances 3 none]
def wsX0_goBy_r2 : List Cond := [Cond.fieldLink RX0 65 "PauseLedger$Dinner" "sent" "I", Cond.fieldLink RX0 24 "PauseLedger$Dinner" "toGo" "[I", Cond.fieldLink RX0 30 "PauseLedger$Dinner" "order" "[I", Cond.methodLink RX0 103 yX0_arrive, Cond.instanceMethod yX0_arrive, Cond.selects RX0 yX0_arrive yX0_arrive, Cond.code yX0_arrive cX0_arrive 5 none, Cond.fieldLink RX0 59 "PauseLedger$Dinner" "meetings" "I", Cond.fieldLink RX0 21 "PauseLedger$Dinner" "unsaid" "[I", Cond.fieldLink RX0 62 "PauseLedger$Dinner" "lost" "I", Cond.fieldLink RX0 27 "PauseLedger$Dinner" "caught" "[I", Cond.static yX1_pairOf, Cond.initialized RX1, Cond.code yX1_pairOf cX1_pairOf 2 (some .int), Cond.methodLink RX0 110 yX0_isOnItsWay, Cond.instanceMethod yX0_isOnItsWay, Cond.selects RX0 yX0_isOnItsWay yX0_isOnItsWay, Cond.code yX0_isOnItsWay cX0_isOnItsWay 2 (some .boolean), Cond.methodLink RX0 107 yX0_forgetThoseOver, Cond.instanceMethod yX0_forgetThoseOver, Cond.selects RX0 yX0_forgetThoseOver yX0_forgetThoseOver, Cond.code yX0_forgetThoseOver cX0_forgetThoseOver 4 none]
def wsX0_goBy : List Cond := .code yX0_goBy cX0_goBy 3 none :: ((wsX0_goBy_r1 ++ wsX0_goBy_r2) ++ wsX00)
def wsX0_timeToGo : List Cond := .code yX0_timeToGo cX0_timeToGo 2 (some .int) :: ([.fieldLink RX0 24 "PauseLedger$Dinner" "toGo" "[I", .methodLink RX0 110 yX0_isOnItsWay, .instanceMethod yX0_isOnItsWay, .selects RX0 yX0_isOnItsWay yX0_isOnItsWay, .initialized RX0, .code yX0_isOnItsWay cX0_isOnItsWay 2 (some .boolean)] ++ wsX00)
def wsX0_fateOf_r1 : List Cond := [Cond.fieldLink RX0 47 "PauseLedger$Dinner" "speaker" "I", Cond.fieldLink RX0 50 "PauseLedger$Dinner" "toSpeak" "I", Cond.static yX1_pairOf, Cond.initialized RX1, Cond.code yX1_pairOf cX1_pairOf 2 (some .int), Cond.methodLink RX0 125 yX0_timeToGo, Cond.instanceMethod yX0_timeToGo, Cond.selects RX0 yX0_timeToGo yX0_timeToGo, Cond.initialized RX0, Cond.code yX0_timeToGo cX0_timeToGo 2 (some .int), Cond.fieldLink RX0 24 "PauseLedger$Dinner" "toGo" "[I", Cond.methodLink RX0 110 yX0_isOnItsWay, Cond.instanceMethod yX0_isOnItsWay, Cond.selects RX0 yX0_isOnItsWay yX0_isOnItsWay, Cond.code yX0_isOnItsWay cX0_isOnItsWay 2 (some .boolean), Cond.methodLink RX0 87 yX0_wayOf, Cond.instanceMethod yX0_wayOf, Cond.selects RX0 yX0_wayOf yX0_wayOf, Cond.code yX0_wayOf cX0_wayOf 3 (some .int), Cond.methodLink RX0 122 yX0_seatsBetween, Cond.instanceMethod yX0_seatsBetween, Cond.selects RX0 yX0_seatsBetween yX0_seatsBetween, Cond.code yX0_seatsBetween cX0_seatsBetween 4 (some .int), Cond.methodLink RX0 114 Lib.Math.abs.name]
def wsX0_fateOf_r2 : List Cond := [Cond.static Lib.Math.abs.name, Cond.initialized "java/lang/Math", Cond.code Lib.Math.abs.name Lib.Math.abs.code 1 (some .int), Cond.fieldLink RX0 41 "PauseLedger$Dinner" "guests" "I", Cond.methodLink RX0 119 Lib.Math.min.name, Cond.static Lib.Math.min.name, Cond.code Lib.Math.min.name Lib.Math.min.code 2 (some .int)]
def wsX0_fateOf : List Cond := .code yX0_fateOf cX0_fateOf 5 (some .int) :: ((wsX0_fateOf_r1 ++ wsX0_fateOf_r2) ++ wsX00)
def wsX0_untilPauseCounts : List Cond := .code yX0_untilPauseCounts cX0_untilPauseCounts 1 (some .int) :: ([.fieldLink RX0 47 "PauseLedger$Dinner" "speaker" "I", .fieldLink RX0 33 "PauseLedger$Dinner" "limit" "I", .fieldLink RX0 53 "PauseLedger$Dinner" "pause" "I", .fieldLink RX0 50 "PauseLedger$Dinner" "toSpeak" "I", .methodLink RX0 99 yX0_beyondMultipleOfLimit, .instanceMethod yX0_beyondMultipleOfLimit, .selects RX0 yX0_beyondMultipleOfLimit yX0_beyondMultipleOfLimit, .initialized RX0, .code yX0_beyondMultipleOfLimit cX0_beyondMultipleOfLimit 2 (some .int)] ++ wsX00)
def wsX0_sumUnsaidByGuests : List Cond := .code yX0_sumUnsaidByGuests cX0_sumUnsaidByGuests 3 (some .int) :: ([.fieldLink RX0 41 "PauseLedger$Dinner" "guests" "I", .fieldLink RX0 21 "PauseLedger$Dinner" "unsaid" "[I"] ++ wsX00)
def wsX0_sumUnsaid : List Cond := .code yX0_sumUnsaid cX0_sumUnsaid 1 (some .int) :: ([.fieldLink RX0 56 "PauseLedger$Dinner" "unsaidInPauses" "I", .methodLink RX0 128 yX0_sumUnsaidByGuests, .instanceMethod yX0_sumUnsaidByGuests, .selects RX0 yX0_sumUnsaidByGuests yX0_sumUnsaidByGuests, .initialized RX0, .code yX0_sumUnsaidByGuests cX0_sumUnsaidByGuests 3 (some .int), .fieldLink RX0 41 "PauseLedger$Dinner" "guests" "I", .fieldLink RX0 21 "PauseLedger$Dinner" "unsaid" "[I"] ++ wsX00)
def wsX0_rate : List Cond := .code yX0_rate cX0_rate 2 (some .int) :: ([.fieldLink RX0 41 "PauseLedger$Dinner" "guests" "I", .methodLink RX0 114 Lib.Math.abs.name, .static Lib.Math.abs.name, .initialized "java/lang/Math", .code Lib.Math.abs.name Lib.Math.abs.code 1 (some .int), .methodLink RX0 135 Lib.Math.max.name, .static Lib.Math.max.name, .code Lib.Math.max.name Lib.Math.max.code 2 (some .int), .methodLink RX0 132 yX0_sumUnsaid, .instanceMethod yX0_sumUnsaid, .selects RX0 yX0_sumUnsaid yX0_sumUnsaid, .initialized RX0, .code yX0_sumUnsaid cX0_sumUnsaid 1 (some .int), .fieldLink RX0 56 "PauseLedger$Dinner" "unsaidInPauses" "I", .methodLink RX0 128 yX0_sumUnsaidByGuests, .instanceMethod yX0_sumUnsaidByGuests, .selects RX0 yX0_sumUnsaidByGuests yX0_sumUnsaidByGuests, .code yX0_sumUnsaidByGuests cX0_sumUnsaidByGuests 3 (some .int), .fieldLink RX0 21 "PauseLedger$Dinner" "unsaid" "[I"] ++ wsX00)
def wsX1_init_r1 : List Cond := [Cond.methodLink RX1 3 objectInit, Cond.instanceMethod objectInit, Cond.code objectInit ⟨#[0xb1]⟩ 1 none, Cond.classLink RX1 9 RX0, Cond.instantiable RX0 17, Cond.initialized RX0, Cond.fieldLink RX1 12 "PauseLedger" "dinner" "LPauseLedger$Dinner;", Cond.fieldLink RX1 16 "PauseLedger" "trial" "LPauseLedger$Dinner;", Cond.methodLink RX1 11 yX0_init, Cond.instanceMethod yX0_init, Cond.code yX0_init cX0_init 1 none, Cond.methodLink RX0 3 objectInit, Cond.arrayClass .int, Cond.fieldLink RX0 9 "PauseLedger$Dinner" "spoken" "[I", Cond.fieldLink RX0 15 "PauseLedger$Dinner" "interruptions" "[I", Cond.fieldLink RX0 18 "PauseLedger$Dinner" "coughs" "[I", Cond.fieldLink RX0 21 "PauseLedger$Dinner" "unsaid" "[I", Cond.fieldLink RX0 24 "PauseLedger$Dinner" "toGo" "[I", Cond.fieldLink RX0 27 "PauseLedger$Dinner" "caught" "[I", Cond.fieldLink RX0 30 "PauseLedger$Dinner" "order" "[I", Cond.fieldLink RX0 33 "PauseLedger$Dinner" "limit" "I", Cond.methodLink RX0 37 yX0_begin, Cond.instanceMethod yX0_begin, Cond.selects RX0 yX0_begin yX0_begin]
def wsX1_init_r2 : List Cond := [Cond.code yX0_begin cX0_begin 2 none, Cond.fieldLink RX0 41 "PauseLedger$Dinner" "guests" "I", Cond.fieldLink RX0 44 "PauseLedger$Dinner" "seconds" "I", Cond.fieldLink RX0 47 "PauseLedger$Dinner" "speaker" "I", Cond.fieldLink RX0 50 "PauseLedger$Dinner" "toSpeak" "I", Cond.fieldLink RX0 53 "PauseLedger$Dinner" "pause" "I", Cond.fieldLink RX0 56 "PauseLedger$Dinner" "unsaidInPauses" "I", Cond.fieldLink RX0 59 "PauseLedger$Dinner" "meetings" "I", Cond.fieldLink RX0 62 "PauseLedger$Dinner" "lost" "I", Cond.fieldLink RX0 65 "PauseLedger$Dinner" "sent" "I", Cond.methodLink RX0 68 yJ7_fill_53178, Cond.static yJ7_fill_53178, Cond.initialized RJ7, Cond.code yJ7_fill_53178 cJ7_fill_53178 4 none]
def wsX1_init : List Cond := .code yX1_init cX1_init 1 none :: ((wsX1_init_r1 ++ wsX1_init_r2) ++ wsX00 ++ wsX10)
def wsX1_requireWithin : List Cond := .code yX1_requireWithin cX1_requireWithin 3 none :: ([.classLink RX1 154 "java/lang/IllegalArgumentException", .initialized "java/lang/IllegalArgumentException"] ++ (vx_atS RX1 158 "java/lang/IllegalArgumentException" ["java/lang/RuntimeException", "java/lang/Exception"]).filter goodWord)
def wsX1_newDinner_r1 : List Cond := [Cond.fieldLink RX1 12 "PauseLedger" "dinner" "LPauseLedger$Dinner;", Cond.methodLink RX1 19 yX1_requireWithin, Cond.static yX1_requireWithin, Cond.initialized RX1, Cond.code yX1_requireWithin cX1_requireWithin 3 none, Cond.classLink RX1 154 "java/lang/IllegalArgumentException", Cond.initialized "java/lang/IllegalArgumentException", Cond.methodLink RX1 23 yX0_rate, Cond.instanceMethod yX0_rate, Cond.selects RX0 yX0_rate yX0_rate, Cond.initialized RX0, Cond.code yX0_rate cX0_rate 2 (some .int), Cond.fieldLink RX0 41 "PauseLedger$Dinner" "guests" "I", Cond.methodLink RX0 114 Lib.Math.abs.name, Cond.static Lib.Math.abs.name, Cond.initialized "java/lang/Math", Cond.code Lib.Math.abs.name Lib.Math.abs.code 1 (some .int), Cond.methodLink RX0 135 Lib.Math.max.name, Cond.static Lib.Math.max.name, Cond.code Lib.Math.max.name Lib.Math.max.code 2 (some .int), Cond.methodLink RX0 132 yX0_sumUnsaid, Cond.instanceMethod yX0_sumUnsaid, Cond.selects RX0 yX0_sumUnsaid yX0_sumUnsaid, Cond.code yX0_sumUnsaid cX0_sumUnsaid 1 (some .int)]
def wsX1_newDinner_r2 : List Cond := [Cond.fieldLink RX0 56 "PauseLedger$Dinner" "unsaidInPauses" "I", Cond.methodLink RX0 128 yX0_sumUnsaidByGuests, Cond.instanceMethod yX0_sumUnsaidByGuests, Cond.selects RX0 yX0_sumUnsaidByGuests yX0_sumUnsaidByGuests, Cond.code yX0_sumUnsaidByGuests cX0_sumUnsaidByGuests 3 (some .int), Cond.fieldLink RX0 21 "PauseLedger$Dinner" "unsaid" "[I", Cond.methodLink RX1 27 yX0_begin, Cond.instanceMethod yX0_begin, Cond.selects RX0 yX0_begin yX0_begin, Cond.code yX0_begin cX0_begin 2 none, Cond.fieldLink RX0 44 "PauseLedger$Dinner" "seconds" "I", Cond.fieldLink RX0 47 "PauseLedger$Dinner" "speaker" "I", Cond.fieldLink RX0 50 "PauseLedger$Dinner" "toSpeak" "I", Cond.fieldLink RX0 53 "PauseLedger$Dinner" "pause" "I", Cond.fieldLink RX0 59 "PauseLedger$Dinner" "meetings" "I", Cond.fieldLink RX0 62 "PauseLedger$Dinner" "lost" "I", Cond.fieldLink RX0 65 "PauseLedger$Dinner" "sent" "I", Cond.fieldLink RX0 9 "PauseLedger$Dinner" "spoken" "[I", Cond.fieldLink RX0 15 "PauseLedger$Dinner" "interruptions" "[I", Cond.fieldLink RX0 18 "PauseLedger$Dinner" "coughs" "[I", Cond.fieldLink RX0 24 "PauseLedger$Dinner" "toGo" "[I", Cond.fieldLink RX0 27 "PauseLedger$Dinner" "caught" "[I", Cond.methodLink RX0 68 yJ7_fill_53178, Cond.static yJ7_fill_53178]
def wsX1_newDinner_r3 : List Cond := [Cond.initialized RJ7, Cond.code yJ7_fill_53178 cJ7_fill_53178 4 none]
def wsX1_newDinner : List Cond := .code yX1_newDinner cX1_newDinner 3 (some .int) :: ((wsX1_newDinner_r1 ++ (wsX1_newDinner_r2 ++ wsX1_newDinner_r3)) ++ wsX10 ++ wsX00 ++ (vx_atS RX1 158 "java/lang/IllegalArgumentException" ["java/lang/RuntimeException", "java/lang/Exception"]).filter goodWord)
def wsX1_setLimit : List Cond := .code yX1_setLimit cX1_setLimit 3 (some .int) :: ([.fieldLink RX1 12 "PauseLedger" "dinner" "LPauseLedger$Dinner;", .fieldLink RX1 31 "PauseLedger$Dinner" "limit" "I", .methodLink RX1 19 yX1_requireWithin, .static yX1_requireWithin, .initialized RX1, .code yX1_requireWithin cX1_requireWithin 3 none, .classLink RX1 154 "java/lang/IllegalArgumentException", .initialized "java/lang/IllegalArgumentException"] ++ wsX10 ++ wsX00 ++ (vx_atS RX1 158 "java/lang/IllegalArgumentException" ["java/lang/RuntimeException", "java/lang/Exception"]).filter goodWord)
def wsX1_requireGuest : List Cond := .code yX1_requireGuest cX1_requireGuest 2 none :: ([.classLink RX1 147 "java/lang/IndexOutOfBoundsException", .initialized "java/lang/IndexOutOfBoundsException", .fieldLink RX1 12 "PauseLedger" "dinner" "LPauseLedger$Dinner;", .fieldLink RX1 58 "PauseLedger$Dinner" "guests" "I"] ++ wsX10 ++ wsX00 ++ (vx_atS RX1 151 "java/lang/IndexOutOfBoundsException" ["java/lang/RuntimeException", "java/lang/Exception"]).filter goodWord)
def wsX1_speak : List Cond := .code yX1_speak cX1_speak 3 (some .int) :: ([.fieldLink RX1 12 "PauseLedger" "dinner" "LPauseLedger$Dinner;", .methodLink RX1 35 yX1_requireGuest, .instanceMethod yX1_requireGuest, .selects RX1 yX1_requireGuest yX1_requireGuest, .initialized RX1, .code yX1_requireGuest cX1_requireGuest 2 none, .classLink RX1 147 "java/lang/IndexOutOfBoundsException", .initialized "java/lang/IndexOutOfBoundsException", .fieldLink RX1 58 "PauseLedger$Dinner" "guests" "I", .methodLink RX1 19 yX1_requireWithin, .static yX1_requireWithin, .code yX1_requireWithin cX1_requireWithin 3 none, .classLink RX1 154 "java/lang/IllegalArgumentException", .initialized "java/lang/IllegalArgumentException", .methodLink RX1 38 yX0_letSpeak, .instanceMethod yX0_letSpeak, .selects RX0 yX0_letSpeak yX0_letSpeak, .initialized RX0, .code yX0_letSpeak cX0_letSpeak 4 (some .int), .fieldLink RX0 47 "PauseLedger$Dinner" "speaker" "I", .fieldLink RX0 15 "PauseLedger$Dinner" "interruptions" "[I", .fieldLink RX0 50 "PauseLedger$Dinner" "toSpeak" "I"] ++ wsX10 ++ wsX00 ++ (vx_atS RX1 151 "java/lang/IndexOutOfBoundsException" ["java/lang/RuntimeException", "java/lang/Exception"]).filter goodWord ++ (vx_atS RX1 158 "java/lang/IllegalArgumentException" ["java/lang/RuntimeException", "java/lang/Exception"]).filter goodWord)
def wsX1_cough_r1 : List Cond := [Cond.fieldLink RX1 12 "PauseLedger" "dinner" "LPauseLedger$Dinner;", Cond.methodLink RX1 35 yX1_requireGuest, Cond.instanceMethod yX1_requireGuest, Cond.selects RX1 yX1_requireGuest yX1_requireGuest, Cond.initialized RX1, Cond.code yX1_requireGuest cX1_requireGuest 2 none, Cond.classLink RX1 147 "java/lang/IndexOutOfBoundsException", Cond.initialized "java/lang/IndexOutOfBoundsException", Cond.fieldLink RX1 58 "PauseLedger$Dinner" "guests" "I", Cond.methodLink RX1 19 yX1_requireWithin, Cond.static yX1_requireWithin, Cond.code yX1_requireWithin cX1_requireWithin 3 none, Cond.classLink RX1 154 "java/lang/IllegalArgumentException", Cond.initialized "java/lang/IllegalArgumentException", Cond.methodLink RX1 42 yX0_letCough, Cond.instanceMethod yX0_letCough, Cond.selects RX0 yX0_letCough yX0_letCough, Cond.initialized RX0, Cond.code yX0_letCough cX0_letCough 4 (some .int), Cond.fieldLink RX0 18 "PauseLedger$Dinner" "coughs" "[I", Cond.fieldLink RX0 21 "PauseLedger$Dinner" "unsaid" "[I", Cond.methodLink RX0 80 yX0_unsaidByCough, Cond.instanceMethod yX0_unsaidByCough, Cond.selects RX0 yX0_unsaidByCough yX0_unsaidByCough]
def wsX1_cough_r2 : List Cond := [Cond.code yX0_unsaidByCough cX0_unsaidByCough 3 (some .int), Cond.fieldLink RX0 47 "PauseLedger$Dinner" "speaker" "I"]
def wsX1_cough : List Cond := .code yX1_cough cX1_cough 3 (some .int) :: ((wsX1_cough_r1 ++ wsX1_cough_r2) ++ wsX10 ++ wsX00 ++ (vx_atS RX1 151 "java/lang/IndexOutOfBoundsException" ["java/lang/RuntimeException", "java/lang/Exception"]).filter goodWord ++ (vx_atS RX1 158 "java/lang/IllegalArgumentException" ["java/lang/RuntimeException", "java/lang/Exception"]).filter goodWord)
def wsX1_requireFreeWay : List Cond := .code yX1_requireFreeWay cX1_requireFreeWay 3 none :: ([.classLink RX1 154 "java/lang/IllegalArgumentException", .initialized "java/lang/IllegalArgumentException", .classLink RX1 161 "java/lang/IllegalStateException", .initialized "java/lang/IllegalStateException", .fieldLink RX1 12 "PauseLedger" "dinner" "LPauseLedger$Dinner;", .methodLink RX1 35 yX1_requireGuest, .instanceMethod yX1_requireGuest, .selects RX1 yX1_requireGuest yX1_requireGuest, .initialized RX1, .code yX1_requireGuest cX1_requireGuest 2 none, .classLink RX1 147 "java/lang/IndexOutOfBoundsException", .initialized "java/lang/IndexOutOfBoundsException", .fieldLink RX1 58 "PauseLedger$Dinner" "guests" "I", .methodLink RX1 89 yX1_pairOf, .static yX1_pairOf, .code yX1_pairOf cX1_pairOf 2 (some .int), .methodLink RX1 92 yX0_isOnItsWay, .instanceMethod yX0_isOnItsWay, .selects RX0 yX0_isOnItsWay yX0_isOnItsWay, .initialized RX0, .code yX0_isOnItsWay cX0_isOnItsWay 2 (some .boolean), .fieldLink RX0 24 "PauseLedger$Dinner" "toGo" "[I"] ++ wsX10 ++ wsX00 ++ (vx_atS RX1 158 "java/lang/IllegalArgumentException" ["java/lang/RuntimeException", "java/lang/Exception"]).filter goodWord ++ (vx_atS RX1 165 "java/lang/IllegalStateException" ["java/lang/RuntimeException", "java/lang/Exception"]).filter goodWord ++ (vx_atS RX1 151 "java/lang/IndexOutOfBoundsException" ["java/lang/RuntimeException", "java/lang/Exception"]).filter goodWord)
def wsX1_glance_r1 : List Cond := [Cond.fieldLink RX1 12 "PauseLedger" "dinner" "LPauseLedger$Dinner;", Cond.methodLink RX1 45 yX1_requireFreeWay, Cond.instanceMethod yX1_requireFreeWay, Cond.selects RX1 yX1_requireFreeWay yX1_requireFreeWay, Cond.initialized RX1, Cond.code yX1_requireFreeWay cX1_requireFreeWay 3 none, Cond.classLink RX1 154 "java/lang/IllegalArgumentException", Cond.initialized "java/lang/IllegalArgumentException", Cond.classLink RX1 161 "java/lang/IllegalStateException", Cond.initialized "java/lang/IllegalStateException", Cond.methodLink RX1 35 yX1_requireGuest, Cond.instanceMethod yX1_requireGuest, Cond.selects RX1 yX1_requireGuest yX1_requireGuest, Cond.code yX1_requireGuest cX1_requireGuest 2 none, Cond.classLink RX1 147 "java/lang/IndexOutOfBoundsException", Cond.initialized "java/lang/IndexOutOfBoundsException", Cond.fieldLink RX1 58 "PauseLedger$Dinner" "guests" "I", Cond.methodLink RX1 89 yX1_pairOf, Cond.static yX1_pairOf, Cond.code yX1_pairOf cX1_pairOf 2 (some .int), Cond.methodLink RX1 92 yX0_isOnItsWay, Cond.instanceMethod yX0_isOnItsWay, Cond.selects RX0 yX0_isOnItsWay yX0_isOnItsWay, Cond.initialized RX0]
def wsX1_glance_r2 : List Cond := [Cond.code yX0_isOnItsWay cX0_isOnItsWay 2 (some .boolean), Cond.fieldLink RX0 24 "PauseLedger$Dinner" "toGo" "[I", Cond.methodLink RX1 49 yX0_send, Cond.instanceMethod yX0_send, Cond.selects RX0 yX0_send yX0_send, Cond.code yX0_send cX0_send 4 (some .int), Cond.fieldLink RX0 65 "PauseLedger$Dinner" "sent" "I", Cond.fieldLink RX0 30 "PauseLedger$Dinner" "order" "[I", Cond.methodLink RX0 87 yX0_wayOf, Cond.instanceMethod yX0_wayOf, Cond.selects RX0 yX0_wayOf yX0_wayOf, Cond.code yX0_wayOf cX0_wayOf 3 (some .int), Cond.methodLink RX0 122 yX0_seatsBetween, Cond.instanceMethod yX0_seatsBetween, Cond.selects RX0 yX0_seatsBetween yX0_seatsBetween, Cond.code yX0_seatsBetween cX0_seatsBetween 4 (some .int), Cond.methodLink RX0 114 Lib.Math.abs.name, Cond.static Lib.Math.abs.name, Cond.initialized "java/lang/Math", Cond.code Lib.Math.abs.name Lib.Math.abs.code 1 (some .int), Cond.fieldLink RX0 41 "PauseLedger$Dinner" "guests" "I", Cond.methodLink RX0 119 Lib.Math.min.name, Cond.static Lib.Math.min.name, Cond.code Lib.Math.min.name Lib.Math.min.code 2 (some .int)]
def wsX1_glance : List Cond := .code yX1_glance cX1_glance 3 (some .int) :: ((wsX1_glance_r1 ++ wsX1_glance_r2) ++ wsX10 ++ wsX00 ++ (vx_atS RX1 158 "java/lang/IllegalArgumentException" ["java/lang/RuntimeException", "java/lang/Exception"]).filter goodWord ++ (vx_atS RX1 165 "java/lang/IllegalStateException" ["java/lang/RuntimeException", "java/lang/Exception"]).filter goodWord ++ (vx_atS RX1 151 "java/lang/IndexOutOfBoundsException" ["java/lang/RuntimeException", "java/lang/Exception"]).filter goodWord)
def wsX1_pass_r1 : List Cond := [Cond.fieldLink RX1 12 "PauseLedger" "dinner" "LPauseLedger$Dinner;", Cond.methodLink RX1 19 yX1_requireWithin, Cond.static yX1_requireWithin, Cond.initialized RX1, Cond.code yX1_requireWithin cX1_requireWithin 3 none, Cond.classLink RX1 154 "java/lang/IllegalArgumentException", Cond.initialized "java/lang/IllegalArgumentException", Cond.methodLink RX1 52 yX0_sumUnsaid, Cond.instanceMethod yX0_sumUnsaid, Cond.selects RX0 yX0_sumUnsaid yX0_sumUnsaid, Cond.initialized RX0, Cond.code yX0_sumUnsaid cX0_sumUnsaid 1 (some .int), Cond.fieldLink RX0 56 "PauseLedger$Dinner" "unsaidInPauses" "I", Cond.methodLink RX0 128 yX0_sumUnsaidByGuests, Cond.instanceMethod yX0_sumUnsaidByGuests, Cond.selects RX0 yX0_sumUnsaidByGuests yX0_sumUnsaidByGuests, Cond.code yX0_sumUnsaidByGuests cX0_sumUnsaidByGuests 3 (some .int), Cond.fieldLink RX0 41 "PauseLedger$Dinner" "guests" "I", Cond.fieldLink RX0 21 "PauseLedger$Dinner" "unsaid" "[I", Cond.methodLink RX1 55 yX0_goBy, Cond.instanceMethod yX0_goBy, Cond.selects RX0 yX0_goBy yX0_goBy, Cond.code yX0_goBy cX0_goBy 3 none, Cond.methodLink RX0 90 yX0_goOneSecond]
def wsX1_pass_r2 : List Cond := [Cond.instanceMethod yX0_goOneSecond, Cond.selects RX0 yX0_goOneSecond yX0_goOneSecond, Cond.code yX0_goOneSecond cX0_goOneSecond 1 none, Cond.fieldLink RX0 44 "PauseLedger$Dinner" "seconds" "I", Cond.methodLink RX0 93 yX0_speakOrPause, Cond.instanceMethod yX0_speakOrPause, Cond.selects RX0 yX0_speakOrPause yX0_speakOrPause, Cond.code yX0_speakOrPause cX0_speakOrPause 1 none, Cond.fieldLink RX0 47 "PauseLedger$Dinner" "speaker" "I", Cond.fieldLink RX0 53 "PauseLedger$Dinner" "pause" "I", Cond.fieldLink RX0 9 "PauseLedger$Dinner" "spoken" "[I", Cond.fieldLink RX0 50 "PauseLedger$Dinner" "toSpeak" "I", Cond.methodLink RX0 99 yX0_beyondMultipleOfLimit, Cond.instanceMethod yX0_beyondMultipleOfLimit, Cond.selects RX0 yX0_beyondMultipleOfLimit yX0_beyondMultipleOfLimit, Cond.code yX0_beyondMultipleOfLimit cX0_beyondMultipleOfLimit 2 (some .int), Cond.fieldLink RX0 33 "PauseLedger$Dinner" "limit" "I", Cond.methodLink RX0 96 yX0_moveGlances, Cond.instanceMethod yX0_moveGlances, Cond.selects RX0 yX0_moveGlances yX0_moveGlances, Cond.code yX0_moveGlances cX0_moveGlances 3 none, Cond.fieldLink RX0 65 "PauseLedger$Dinner" "sent" "I", Cond.fieldLink RX0 24 "PauseLedger$Dinner" "toGo" "[I", Cond.fieldLink RX0 30 "PauseLedger$Dinner" "order" "[I"]
def wsX1_pass_r3 : List Cond := [Cond.methodLink RX0 103 yX0_arrive, Cond.instanceMethod yX0_arrive, Cond.selects RX0 yX0_arrive yX0_arrive, Cond.code yX0_arrive cX0_arrive 5 none, Cond.fieldLink RX0 59 "PauseLedger$Dinner" "meetings" "I", Cond.fieldLink RX0 62 "PauseLedger$Dinner" "lost" "I", Cond.fieldLink RX0 27 "PauseLedger$Dinner" "caught" "[I", Cond.static yX1_pairOf, Cond.code yX1_pairOf cX1_pairOf 2 (some .int), Cond.methodLink RX0 110 yX0_isOnItsWay, Cond.instanceMethod yX0_isOnItsWay, Cond.selects RX0 yX0_isOnItsWay yX0_isOnItsWay, Cond.code yX0_isOnItsWay cX0_isOnItsWay 2 (some .boolean), Cond.methodLink RX0 107 yX0_forgetThoseOver, Cond.instanceMethod yX0_forgetThoseOver, Cond.selects RX0 yX0_forgetThoseOver yX0_forgetThoseOver, Cond.code yX0_forgetThoseOver cX0_forgetThoseOver 4 none]
def wsX1_pass : List Cond := .code yX1_pass cX1_pass 3 (some .int) :: ((wsX1_pass_r1 ++ (wsX1_pass_r2 ++ wsX1_pass_r3)) ++ wsX10 ++ wsX00 ++ (vx_atS RX1 158 "java/lang/IllegalArgumentException" ["java/lang/RuntimeException", "java/lang/Exception"]).filter goodWord)
def wsX1_guests : List Cond := .code yX1_guests cX1_guests 1 (some .int) :: ([.fieldLink RX1 12 "PauseLedger" "dinner" "LPauseLedger$Dinner;", .fieldLink RX1 58 "PauseLedger$Dinner" "guests" "I"] ++ wsX10 ++ wsX00)
def wsX1_seconds : List Cond := .code yX1_seconds cX1_seconds 1 (some .int) :: ([.fieldLink RX1 12 "PauseLedger" "dinner" "LPauseLedger$Dinner;", .fieldLink RX1 61 "PauseLedger$Dinner" "seconds" "I"] ++ wsX10 ++ wsX00)
def wsX1_limit : List Cond := .code yX1_limit cX1_limit 1 (some .int) :: ([.fieldLink RX1 12 "PauseLedger" "dinner" "LPauseLedger$Dinner;", .fieldLink RX1 31 "PauseLedger$Dinner" "limit" "I"] ++ wsX10 ++ wsX00)
def wsX1_seatsApart : List Cond := .code yX1_seatsApart cX1_seatsApart 3 (some .int) :: ([.fieldLink RX1 12 "PauseLedger" "dinner" "LPauseLedger$Dinner;", .methodLink RX1 35 yX1_requireGuest, .instanceMethod yX1_requireGuest, .selects RX1 yX1_requireGuest yX1_requireGuest, .initialized RX1, .code yX1_requireGuest cX1_requireGuest 2 none, .classLink RX1 147 "java/lang/IndexOutOfBoundsException", .initialized "java/lang/IndexOutOfBoundsException", .fieldLink RX1 58 "PauseLedger$Dinner" "guests" "I", .methodLink RX1 64 yX0_seatsBetween, .instanceMethod yX0_seatsBetween, .selects RX0 yX0_seatsBetween yX0_seatsBetween, .initialized RX0, .code yX0_seatsBetween cX0_seatsBetween 4 (some .int), .methodLink RX0 114 Lib.Math.abs.name, .static Lib.Math.abs.name, .initialized "java/lang/Math", .code Lib.Math.abs.name Lib.Math.abs.code 1 (some .int), .fieldLink RX0 41 "PauseLedger$Dinner" "guests" "I", .methodLink RX0 119 Lib.Math.min.name, .static Lib.Math.min.name, .code Lib.Math.min.name Lib.Math.min.code 2 (some .int)] ++ wsX10 ++ wsX00 ++ (vx_atS RX1 151 "java/lang/IndexOutOfBoundsException" ["java/lang/RuntimeException", "java/lang/Exception"]).filter goodWord)
def wsX1_speaker : List Cond := .code yX1_speaker cX1_speaker 1 (some .int) :: ([.fieldLink RX1 12 "PauseLedger" "dinner" "LPauseLedger$Dinner;", .fieldLink RX1 67 "PauseLedger$Dinner" "speaker" "I"] ++ wsX10 ++ wsX00)
def wsX1_secondsToSpeak : List Cond := .code yX1_secondsToSpeak cX1_secondsToSpeak 1 (some .int) :: ([.fieldLink RX1 12 "PauseLedger" "dinner" "LPauseLedger$Dinner;", .fieldLink RX1 70 "PauseLedger$Dinner" "toSpeak" "I"] ++ wsX10 ++ wsX00)
def wsX1_pause : List Cond := .code yX1_pause cX1_pause 1 (some .int) :: ([.fieldLink RX1 12 "PauseLedger" "dinner" "LPauseLedger$Dinner;", .fieldLink RX1 73 "PauseLedger$Dinner" "pause" "I"] ++ wsX10 ++ wsX00)
def wsX1_spokenBy : List Cond := .code yX1_spokenBy cX1_spokenBy 2 (some .int) :: ([.fieldLink RX1 12 "PauseLedger" "dinner" "LPauseLedger$Dinner;", .fieldLink RX1 76 "PauseLedger$Dinner" "spoken" "[I", .methodLink RX1 35 yX1_requireGuest, .instanceMethod yX1_requireGuest, .selects RX1 yX1_requireGuest yX1_requireGuest, .initialized RX1, .code yX1_requireGuest cX1_requireGuest 2 none, .classLink RX1 147 "java/lang/IndexOutOfBoundsException", .initialized "java/lang/IndexOutOfBoundsException", .fieldLink RX1 58 "PauseLedger$Dinner" "guests" "I"] ++ wsX10 ++ wsX00 ++ (vx_atS RX1 151 "java/lang/IndexOutOfBoundsException" ["java/lang/RuntimeException", "java/lang/Exception"]).filter goodWord)
def wsX1_interruptionsBy : List Cond := .code yX1_interruptionsBy cX1_interruptionsBy 2 (some .int) :: ([.fieldLink RX1 12 "PauseLedger" "dinner" "LPauseLedger$Dinner;", .fieldLink RX1 80 "PauseLedger$Dinner" "interruptions" "[I", .methodLink RX1 35 yX1_requireGuest, .instanceMethod yX1_requireGuest, .selects RX1 yX1_requireGuest yX1_requireGuest, .initialized RX1, .code yX1_requireGuest cX1_requireGuest 2 none, .classLink RX1 147 "java/lang/IndexOutOfBoundsException", .initialized "java/lang/IndexOutOfBoundsException", .fieldLink RX1 58 "PauseLedger$Dinner" "guests" "I"] ++ wsX10 ++ wsX00 ++ (vx_atS RX1 151 "java/lang/IndexOutOfBoundsException" ["java/lang/RuntimeException", "java/lang/Exception"]).filter goodWord)
def wsX1_coughsOf : List Cond := .code yX1_coughsOf cX1_coughsOf 2 (some .int) :: ([.fieldLink RX1 12 "PauseLedger" "dinner" "LPauseLedger$Dinner;", .fieldLink RX1 83 "PauseLedger$Dinner" "coughs" "[I", .methodLink RX1 35 yX1_requireGuest, .instanceMethod yX1_requireGuest, .selects RX1 yX1_requireGuest yX1_requireGuest, .initialized RX1, .code yX1_requireGuest cX1_requireGuest 2 none, .classLink RX1 147 "java/lang/IndexOutOfBoundsException", .initialized "java/lang/IndexOutOfBoundsException", .fieldLink RX1 58 "PauseLedger$Dinner" "guests" "I"] ++ wsX10 ++ wsX00 ++ (vx_atS RX1 151 "java/lang/IndexOutOfBoundsException" ["java/lang/RuntimeException", "java/lang/Exception"]).filter goodWord)
def wsX1_unsaidBy : List Cond := .code yX1_unsaidBy cX1_unsaidBy 2 (some .int) :: ([.fieldLink RX1 12 "PauseLedger" "dinner" "LPauseLedger$Dinner;", .fieldLink RX1 86 "PauseLedger$Dinner" "unsaid" "[I", .methodLink RX1 35 yX1_requireGuest, .instanceMethod yX1_requireGuest, .selects RX1 yX1_requireGuest yX1_requireGuest, .initialized RX1, .code yX1_requireGuest cX1_requireGuest 2 none, .classLink RX1 147 "java/lang/IndexOutOfBoundsException", .initialized "java/lang/IndexOutOfBoundsException", .fieldLink RX1 58 "PauseLedger$Dinner" "guests" "I"] ++ wsX10 ++ wsX00 ++ (vx_atS RX1 151 "java/lang/IndexOutOfBoundsException" ["java/lang/RuntimeException", "java/lang/Exception"]).filter goodWord)
def wsX1_isUnderWay : List Cond := .code yX1_isUnderWay cX1_isUnderWay 3 (some .boolean) :: ([.fieldLink RX1 12 "PauseLedger" "dinner" "LPauseLedger$Dinner;", .methodLink RX1 35 yX1_requireGuest, .instanceMethod yX1_requireGuest, .selects RX1 yX1_requireGuest yX1_requireGuest, .initialized RX1, .code yX1_requireGuest cX1_requireGuest 2 none, .classLink RX1 147 "java/lang/IndexOutOfBoundsException", .initialized "java/lang/IndexOutOfBoundsException", .fieldLink RX1 58 "PauseLedger$Dinner" "guests" "I", .methodLink RX1 89 yX1_pairOf, .static yX1_pairOf, .code yX1_pairOf cX1_pairOf 2 (some .int), .methodLink RX1 92 yX0_isOnItsWay, .instanceMethod yX0_isOnItsWay, .selects RX0 yX0_isOnItsWay yX0_isOnItsWay, .initialized RX0, .code yX0_isOnItsWay cX0_isOnItsWay 2 (some .boolean), .fieldLink RX0 24 "PauseLedger$Dinner" "toGo" "[I"] ++ wsX10 ++ wsX00 ++ (vx_atS RX1 151 "java/lang/IndexOutOfBoundsException" ["java/lang/RuntimeException", "java/lang/Exception"]).filter goodWord)
def wsX1_secondsToGo : List Cond := .code yX1_secondsToGo cX1_secondsToGo 3 (some .int) :: ([.fieldLink RX1 12 "PauseLedger" "dinner" "LPauseLedger$Dinner;", .methodLink RX1 35 yX1_requireGuest, .instanceMethod yX1_requireGuest, .selects RX1 yX1_requireGuest yX1_requireGuest, .initialized RX1, .code yX1_requireGuest cX1_requireGuest 2 none, .classLink RX1 147 "java/lang/IndexOutOfBoundsException", .initialized "java/lang/IndexOutOfBoundsException", .fieldLink RX1 58 "PauseLedger$Dinner" "guests" "I", .methodLink RX1 89 yX1_pairOf, .static yX1_pairOf, .code yX1_pairOf cX1_pairOf 2 (some .int), .methodLink RX1 96 yX0_timeToGo, .instanceMethod yX0_timeToGo, .selects RX0 yX0_timeToGo yX0_timeToGo, .initialized RX0, .code yX0_timeToGo cX0_timeToGo 2 (some .int), .fieldLink RX0 24 "PauseLedger$Dinner" "toGo" "[I", .methodLink RX0 110 yX0_isOnItsWay, .instanceMethod yX0_isOnItsWay, .selects RX0 yX0_isOnItsWay yX0_isOnItsWay, .code yX0_isOnItsWay cX0_isOnItsWay 2 (some .boolean)] ++ wsX10 ++ wsX00 ++ (vx_atS RX1 151 "java/lang/IndexOutOfBoundsException" ["java/lang/RuntimeException", "java/lang/Exception"]).filter goodWord)
def wsX1_caughtBy : List Cond := .code yX1_caughtBy cX1_caughtBy 3 (some .int) :: ([.fieldLink RX1 12 "PauseLedger" "dinner" "LPauseLedger$Dinner;", .fieldLink RX1 100 "PauseLedger$Dinner" "caught" "[I", .methodLink RX1 35 yX1_requireGuest, .instanceMethod yX1_requireGuest, .selects RX1 yX1_requireGuest yX1_requireGuest, .initialized RX1, .code yX1_requireGuest cX1_requireGuest 2 none, .classLink RX1 147 "java/lang/IndexOutOfBoundsException", .initialized "java/lang/IndexOutOfBoundsException", .fieldLink RX1 58 "PauseLedger$Dinner" "guests" "I", .methodLink RX1 89 yX1_pairOf, .static yX1_pairOf, .code yX1_pairOf cX1_pairOf 2 (some .int)] ++ wsX10 ++ wsX00 ++ (vx_atS RX1 151 "java/lang/IndexOutOfBoundsException" ["java/lang/RuntimeException", "java/lang/Exception"]).filter goodWord)
def wsX1_unsaidInPauses : List Cond := .code yX1_unsaidInPauses cX1_unsaidInPauses 1 (some .int) :: ([.fieldLink RX1 12 "PauseLedger" "dinner" "LPauseLedger$Dinner;", .fieldLink RX1 103 "PauseLedger$Dinner" "unsaidInPauses" "I"] ++ wsX10 ++ wsX00)
def wsX1_allUnsaid : List Cond := .code yX1_allUnsaid cX1_allUnsaid 1 (some .int) :: ([.fieldLink RX1 12 "PauseLedger" "dinner" "LPauseLedger$Dinner;", .methodLink RX1 52 yX0_sumUnsaid, .instanceMethod yX0_sumUnsaid, .selects RX0 yX0_sumUnsaid yX0_sumUnsaid, .initialized RX0, .code yX0_sumUnsaid cX0_sumUnsaid 1 (some .int), .fieldLink RX0 56 "PauseLedger$Dinner" "unsaidInPauses" "I", .methodLink RX0 128 yX0_sumUnsaidByGuests, .instanceMethod yX0_sumUnsaidByGuests, .selects RX0 yX0_sumUnsaidByGuests yX0_sumUnsaidByGuests, .code yX0_sumUnsaidByGuests cX0_sumUnsaidByGuests 3 (some .int), .fieldLink RX0 41 "PauseLedger$Dinner" "guests" "I", .fieldLink RX0 21 "PauseLedger$Dinner" "unsaid" "[I"] ++ wsX10 ++ wsX00)
def wsX1_glancesUnderWay : List Cond := .code yX1_glancesUnderWay cX1_glancesUnderWay 1 (some .int) :: ([.fieldLink RX1 12 "PauseLedger" "dinner" "LPauseLedger$Dinner;", .fieldLink RX1 106 "PauseLedger$Dinner" "sent" "I"] ++ wsX10 ++ wsX00)
def wsX1_meetings : List Cond := .code yX1_meetings cX1_meetings 1 (some .int) :: ([.fieldLink RX1 12 "PauseLedger" "dinner" "LPauseLedger$Dinner;", .fieldLink RX1 109 "PauseLedger$Dinner" "meetings" "I"] ++ wsX10 ++ wsX00)
def wsX1_lostGlances : List Cond := .code yX1_lostGlances cX1_lostGlances 1 (some .int) :: ([.fieldLink RX1 12 "PauseLedger" "dinner" "LPauseLedger$Dinner;", .fieldLink RX1 112 "PauseLedger$Dinner" "lost" "I"] ++ wsX10 ++ wsX00)
def wsX1_quietest : List Cond := .code yX1_quietest cX1_quietest 3 (some .int) :: ([.fieldLink RX1 12 "PauseLedger" "dinner" "LPauseLedger$Dinner;", .fieldLink RX1 58 "PauseLedger$Dinner" "guests" "I", .fieldLink RX1 86 "PauseLedger$Dinner" "unsaid" "[I"] ++ wsX10 ++ wsX00)
def wsX1_rating : List Cond := .code yX1_rating cX1_rating 1 (some .int) :: ([.fieldLink RX1 12 "PauseLedger" "dinner" "LPauseLedger$Dinner;", .methodLink RX1 23 yX0_rate, .instanceMethod yX0_rate, .selects RX0 yX0_rate yX0_rate, .initialized RX0, .code yX0_rate cX0_rate 2 (some .int), .fieldLink RX0 41 "PauseLedger$Dinner" "guests" "I", .methodLink RX0 114 Lib.Math.abs.name, .static Lib.Math.abs.name, .initialized "java/lang/Math", .code Lib.Math.abs.name Lib.Math.abs.code 1 (some .int), .methodLink RX0 135 Lib.Math.max.name, .static Lib.Math.max.name, .code Lib.Math.max.name Lib.Math.max.code 2 (some .int), .methodLink RX0 132 yX0_sumUnsaid, .instanceMethod yX0_sumUnsaid, .selects RX0 yX0_sumUnsaid yX0_sumUnsaid, .code yX0_sumUnsaid cX0_sumUnsaid 1 (some .int), .fieldLink RX0 56 "PauseLedger$Dinner" "unsaidInPauses" "I", .methodLink RX0 128 yX0_sumUnsaidByGuests, .instanceMethod yX0_sumUnsaidByGuests, .selects RX0 yX0_sumUnsaidByGuests yX0_sumUnsaidByGuests, .code yX0_sumUnsaidByGuests cX0_sumUnsaidByGuests 3 (some .int), .fieldLink RX0 21 "PauseLedger$Dinner" "unsaid" "[I"] ++ wsX10 ++ wsX00)
def wsX1_tryOut_r1 : List Cond := [Cond.fieldLink RX1 16 "PauseLedger" "trial" "LPauseLedger$Dinner;", Cond.fieldLink RX1 12 "PauseLedger" "dinner" "LPauseLedger$Dinner;", Cond.methodLink RX1 143 yX0_copyOf, Cond.instanceMethod yX0_copyOf, Cond.selects RX0 yX0_copyOf yX0_copyOf, Cond.initialized RX0, Cond.code yX0_copyOf cX0_copyOf 2 none, Cond.fieldLink RX0 41 "PauseLedger$Dinner" "guests" "I", Cond.fieldLink RX0 44 "PauseLedger$Dinner" "seconds" "I", Cond.fieldLink RX0 33 "PauseLedger$Dinner" "limit" "I", Cond.fieldLink RX0 47 "PauseLedger$Dinner" "speaker" "I", Cond.fieldLink RX0 50 "PauseLedger$Dinner" "toSpeak" "I", Cond.fieldLink RX0 53 "PauseLedger$Dinner" "pause" "I", Cond.fieldLink RX0 56 "PauseLedger$Dinner" "unsaidInPauses" "I", Cond.fieldLink RX0 59 "PauseLedger$Dinner" "meetings" "I", Cond.fieldLink RX0 62 "PauseLedger$Dinner" "lost" "I", Cond.fieldLink RX0 65 "PauseLedger$Dinner" "sent" "I", Cond.fieldLink RX0 9 "PauseLedger$Dinner" "spoken" "[I", Cond.methodLink RX0 74 arraycopyName, Cond.native arraycopyName, Cond.static arraycopyName, Cond.initialized "java/lang/System", Cond.fieldLink RX0 15 "PauseLedger$Dinner" "interruptions" "[I", Cond.fieldLink RX0 18 "PauseLedger$Dinner" "coughs" "[I"]
def wsX1_tryOut_r2 : List Cond := [Cond.fieldLink RX0 21 "PauseLedger$Dinner" "unsaid" "[I", Cond.fieldLink RX0 24 "PauseLedger$Dinner" "toGo" "[I", Cond.fieldLink RX0 27 "PauseLedger$Dinner" "caught" "[I", Cond.fieldLink RX0 30 "PauseLedger$Dinner" "order" "[I", Cond.methodLink RX1 55 yX0_goBy, Cond.instanceMethod yX0_goBy, Cond.selects RX0 yX0_goBy yX0_goBy, Cond.code yX0_goBy cX0_goBy 3 none, Cond.methodLink RX0 90 yX0_goOneSecond, Cond.instanceMethod yX0_goOneSecond, Cond.selects RX0 yX0_goOneSecond yX0_goOneSecond, Cond.code yX0_goOneSecond cX0_goOneSecond 1 none, Cond.methodLink RX0 93 yX0_speakOrPause, Cond.instanceMethod yX0_speakOrPause, Cond.selects RX0 yX0_speakOrPause yX0_speakOrPause, Cond.code yX0_speakOrPause cX0_speakOrPause 1 none, Cond.methodLink RX0 99 yX0_beyondMultipleOfLimit, Cond.instanceMethod yX0_beyondMultipleOfLimit, Cond.selects RX0 yX0_beyondMultipleOfLimit yX0_beyondMultipleOfLimit, Cond.code yX0_beyondMultipleOfLimit cX0_beyondMultipleOfLimit 2 (some .int), Cond.methodLink RX0 96 yX0_moveGlances, Cond.instanceMethod yX0_moveGlances, Cond.selects RX0 yX0_moveGlances yX0_moveGlances, Cond.code yX0_moveGlances cX0_moveGlances 3 none]
def wsX1_tryOut_r3 : List Cond := [Cond.methodLink RX0 103 yX0_arrive, Cond.instanceMethod yX0_arrive, Cond.selects RX0 yX0_arrive yX0_arrive, Cond.code yX0_arrive cX0_arrive 5 none, Cond.static yX1_pairOf, Cond.initialized RX1, Cond.code yX1_pairOf cX1_pairOf 2 (some .int), Cond.methodLink RX0 110 yX0_isOnItsWay, Cond.instanceMethod yX0_isOnItsWay, Cond.selects RX0 yX0_isOnItsWay yX0_isOnItsWay, Cond.code yX0_isOnItsWay cX0_isOnItsWay 2 (some .boolean), Cond.methodLink RX0 107 yX0_forgetThoseOver, Cond.instanceMethod yX0_forgetThoseOver, Cond.selects RX0 yX0_forgetThoseOver yX0_forgetThoseOver, Cond.code yX0_forgetThoseOver cX0_forgetThoseOver 4 none]
def wsX1_tryOut : List Cond := .code yX1_tryOut cX1_tryOut 2 none :: ((wsX1_tryOut_r1 ++ (wsX1_tryOut_r2 ++ wsX1_tryOut_r3)) ++ wsX10 ++ wsX00)
def wsX1_allUnsaidIn_r1 : List Cond := [Cond.fieldLink RX1 16 "PauseLedger" "trial" "LPauseLedger$Dinner;", Cond.methodLink RX1 19 yX1_requireWithin, Cond.static yX1_requireWithin, Cond.initialized RX1, Cond.code yX1_requireWithin cX1_requireWithin 3 none, Cond.classLink RX1 154 "java/lang/IllegalArgumentException", Cond.initialized "java/lang/IllegalArgumentException", Cond.methodLink RX1 115 yX1_tryOut, Cond.instanceMethod yX1_tryOut, Cond.selects RX1 yX1_tryOut yX1_tryOut, Cond.code yX1_tryOut cX1_tryOut 2 none, Cond.fieldLink RX1 12 "PauseLedger" "dinner" "LPauseLedger$Dinner;", Cond.methodLink RX1 143 yX0_copyOf, Cond.instanceMethod yX0_copyOf, Cond.selects RX0 yX0_copyOf yX0_copyOf, Cond.initialized RX0, Cond.code yX0_copyOf cX0_copyOf 2 none, Cond.fieldLink RX0 41 "PauseLedger$Dinner" "guests" "I", Cond.fieldLink RX0 44 "PauseLedger$Dinner" "seconds" "I", Cond.fieldLink RX0 33 "PauseLedger$Dinner" "limit" "I", Cond.fieldLink RX0 47 "PauseLedger$Dinner" "speaker" "I", Cond.fieldLink RX0 50 "PauseLedger$Dinner" "toSpeak" "I", Cond.fieldLink RX0 53 "PauseLedger$Dinner" "pause" "I", Cond.fieldLink RX0 56 "PauseLedger$Dinner" "unsaidInPauses" "I"]
def wsX1_allUnsaidIn_r2 : List Cond := [Cond.fieldLink RX0 59 "PauseLedger$Dinner" "meetings" "I", Cond.fieldLink RX0 62 "PauseLedger$Dinner" "lost" "I", Cond.fieldLink RX0 65 "PauseLedger$Dinner" "sent" "I", Cond.fieldLink RX0 9 "PauseLedger$Dinner" "spoken" "[I", Cond.methodLink RX0 74 arraycopyName, Cond.native arraycopyName, Cond.static arraycopyName, Cond.initialized "java/lang/System", Cond.fieldLink RX0 15 "PauseLedger$Dinner" "interruptions" "[I", Cond.fieldLink RX0 18 "PauseLedger$Dinner" "coughs" "[I", Cond.fieldLink RX0 21 "PauseLedger$Dinner" "unsaid" "[I", Cond.fieldLink RX0 24 "PauseLedger$Dinner" "toGo" "[I", Cond.fieldLink RX0 27 "PauseLedger$Dinner" "caught" "[I", Cond.fieldLink RX0 30 "PauseLedger$Dinner" "order" "[I", Cond.methodLink RX1 55 yX0_goBy, Cond.instanceMethod yX0_goBy, Cond.selects RX0 yX0_goBy yX0_goBy, Cond.code yX0_goBy cX0_goBy 3 none, Cond.methodLink RX0 90 yX0_goOneSecond, Cond.instanceMethod yX0_goOneSecond, Cond.selects RX0 yX0_goOneSecond yX0_goOneSecond, Cond.code yX0_goOneSecond cX0_goOneSecond 1 none, Cond.methodLink RX0 93 yX0_speakOrPause, Cond.instanceMethod yX0_speakOrPause]
def wsX1_allUnsaidIn_r3 : List Cond := [Cond.selects RX0 yX0_speakOrPause yX0_speakOrPause, Cond.code yX0_speakOrPause cX0_speakOrPause 1 none, Cond.methodLink RX0 99 yX0_beyondMultipleOfLimit, Cond.instanceMethod yX0_beyondMultipleOfLimit, Cond.selects RX0 yX0_beyondMultipleOfLimit yX0_beyondMultipleOfLimit, Cond.code yX0_beyondMultipleOfLimit cX0_beyondMultipleOfLimit 2 (some .int), Cond.methodLink RX0 96 yX0_moveGlances, Cond.instanceMethod yX0_moveGlances, Cond.selects RX0 yX0_moveGlances yX0_moveGlances, Cond.code yX0_moveGlances cX0_moveGlances 3 none, Cond.methodLink RX0 103 yX0_arrive, Cond.instanceMethod yX0_arrive, Cond.selects RX0 yX0_arrive yX0_arrive, Cond.code yX0_arrive cX0_arrive 5 none, Cond.static yX1_pairOf, Cond.code yX1_pairOf cX1_pairOf 2 (some .int), Cond.methodLink RX0 110 yX0_isOnItsWay, Cond.instanceMethod yX0_isOnItsWay, Cond.selects RX0 yX0_isOnItsWay yX0_isOnItsWay, Cond.code yX0_isOnItsWay cX0_isOnItsWay 2 (some .boolean), Cond.methodLink RX0 107 yX0_forgetThoseOver, Cond.instanceMethod yX0_forgetThoseOver, Cond.selects RX0 yX0_forgetThoseOver yX0_forgetThoseOver, Cond.code yX0_forgetThoseOver cX0_forgetThoseOver 4 none]
def wsX1_allUnsaidIn_r4 : List Cond := [Cond.methodLink RX1 52 yX0_sumUnsaid, Cond.instanceMethod yX0_sumUnsaid, Cond.selects RX0 yX0_sumUnsaid yX0_sumUnsaid, Cond.code yX0_sumUnsaid cX0_sumUnsaid 1 (some .int), Cond.methodLink RX0 128 yX0_sumUnsaidByGuests, Cond.instanceMethod yX0_sumUnsaidByGuests, Cond.selects RX0 yX0_sumUnsaidByGuests yX0_sumUnsaidByGuests, Cond.code yX0_sumUnsaidByGuests cX0_sumUnsaidByGuests 3 (some .int)]
def wsX1_allUnsaidIn : List Cond := .code yX1_allUnsaidIn cX1_allUnsaidIn 2 (some .int) :: ((wsX1_allUnsaidIn_r1 ++ (wsX1_allUnsaidIn_r2 ++ (wsX1_allUnsaidIn_r3 ++ wsX1_allUnsaidIn_r4))) ++ wsX10 ++ wsX00 ++ (vx_atS RX1 158 "java/lang/IllegalArgumentException" ["java/lang/RuntimeException", "java/lang/Exception"]).filter goodWord)
def wsX1_secondsUntilPauseCounts : List Cond := .code yX1_secondsUntilPauseCounts cX1_secondsUntilPauseCounts 1 (some .int) :: ([.fieldLink RX1 12 "PauseLedger" "dinner" "LPauseLedger$Dinner;", .methodLink RX1 118 yX0_untilPauseCounts, .instanceMethod yX0_untilPauseCounts, .selects RX0 yX0_untilPauseCounts yX0_untilPauseCounts, .initialized RX0, .code yX0_untilPauseCounts cX0_untilPauseCounts 1 (some .int), .fieldLink RX0 47 "PauseLedger$Dinner" "speaker" "I", .fieldLink RX0 33 "PauseLedger$Dinner" "limit" "I", .fieldLink RX0 53 "PauseLedger$Dinner" "pause" "I", .fieldLink RX0 50 "PauseLedger$Dinner" "toSpeak" "I", .methodLink RX0 99 yX0_beyondMultipleOfLimit, .instanceMethod yX0_beyondMultipleOfLimit, .selects RX0 yX0_beyondMultipleOfLimit yX0_beyondMultipleOfLimit, .code yX0_beyondMultipleOfLimit cX0_beyondMultipleOfLimit 2 (some .int)] ++ wsX10 ++ wsX00)
def wsX1_wouldLeave_r1 : List Cond := [Cond.fieldLink RX1 12 "PauseLedger" "dinner" "LPauseLedger$Dinner;", Cond.methodLink RX1 45 yX1_requireFreeWay, Cond.instanceMethod yX1_requireFreeWay, Cond.selects RX1 yX1_requireFreeWay yX1_requireFreeWay, Cond.initialized RX1, Cond.code yX1_requireFreeWay cX1_requireFreeWay 3 none, Cond.classLink RX1 154 "java/lang/IllegalArgumentException", Cond.initialized "java/lang/IllegalArgumentException", Cond.classLink RX1 161 "java/lang/IllegalStateException", Cond.initialized "java/lang/IllegalStateException", Cond.methodLink RX1 35 yX1_requireGuest, Cond.instanceMethod yX1_requireGuest, Cond.selects RX1 yX1_requireGuest yX1_requireGuest, Cond.code yX1_requireGuest cX1_requireGuest 2 none, Cond.classLink RX1 147 "java/lang/IndexOutOfBoundsException", Cond.initialized "java/lang/IndexOutOfBoundsException", Cond.fieldLink RX1 58 "PauseLedger$Dinner" "guests" "I", Cond.methodLink RX1 89 yX1_pairOf, Cond.static yX1_pairOf, Cond.code yX1_pairOf cX1_pairOf 2 (some .int), Cond.methodLink RX1 92 yX0_isOnItsWay, Cond.instanceMethod yX0_isOnItsWay, Cond.selects RX0 yX0_isOnItsWay yX0_isOnItsWay, Cond.initialized RX0]
def wsX1_wouldLeave_r2 : List Cond := [Cond.code yX0_isOnItsWay cX0_isOnItsWay 2 (some .boolean), Cond.fieldLink RX0 24 "PauseLedger$Dinner" "toGo" "[I", Cond.methodLink RX1 121 yX0_fateOf, Cond.instanceMethod yX0_fateOf, Cond.selects RX0 yX0_fateOf yX0_fateOf, Cond.code yX0_fateOf cX0_fateOf 5 (some .int), Cond.fieldLink RX0 47 "PauseLedger$Dinner" "speaker" "I", Cond.fieldLink RX0 50 "PauseLedger$Dinner" "toSpeak" "I", Cond.methodLink RX0 125 yX0_timeToGo, Cond.instanceMethod yX0_timeToGo, Cond.selects RX0 yX0_timeToGo yX0_timeToGo, Cond.code yX0_timeToGo cX0_timeToGo 2 (some .int), Cond.methodLink RX0 110 yX0_isOnItsWay, Cond.methodLink RX0 87 yX0_wayOf, Cond.instanceMethod yX0_wayOf, Cond.selects RX0 yX0_wayOf yX0_wayOf, Cond.code yX0_wayOf cX0_wayOf 3 (some .int), Cond.methodLink RX0 122 yX0_seatsBetween, Cond.instanceMethod yX0_seatsBetween, Cond.selects RX0 yX0_seatsBetween yX0_seatsBetween, Cond.code yX0_seatsBetween cX0_seatsBetween 4 (some .int), Cond.methodLink RX0 114 Lib.Math.abs.name, Cond.static Lib.Math.abs.name, Cond.initialized "java/lang/Math"]
def wsX1_wouldLeave_r3 : List Cond := [Cond.code Lib.Math.abs.name Lib.Math.abs.code 1 (some .int), Cond.fieldLink RX0 41 "PauseLedger$Dinner" "guests" "I", Cond.methodLink RX0 119 Lib.Math.min.name, Cond.static Lib.Math.min.name, Cond.code Lib.Math.min.name Lib.Math.min.code 2 (some .int)]
def wsX1_wouldLeave : List Cond := .code yX1_wouldLeave cX1_wouldLeave 3 (some .int) :: ((wsX1_wouldLeave_r1 ++ (wsX1_wouldLeave_r2 ++ wsX1_wouldLeave_r3)) ++ wsX10 ++ wsX00 ++ (vx_atS RX1 158 "java/lang/IllegalArgumentException" ["java/lang/RuntimeException", "java/lang/Exception"]).filter goodWord ++ (vx_atS RX1 165 "java/lang/IllegalStateException" ["java/lang/RuntimeException", "java/lang/Exception"]).filter goodWord ++ (vx_atS RX1 151 "java/lang/IndexOutOfBoundsException" ["java/lang/RuntimeException", "java/lang/Exception"]).filter goodWord)
def wsX1_bestMoment_r1 : List Cond := [Cond.fieldLink RX1 12 "PauseLedger" "dinner" "LPauseLedger$Dinner;", Cond.methodLink RX1 45 yX1_requireFreeWay, Cond.instanceMethod yX1_requireFreeWay, Cond.selects RX1 yX1_requireFreeWay yX1_requireFreeWay, Cond.initialized RX1, Cond.code yX1_requireFreeWay cX1_requireFreeWay 3 none, Cond.classLink RX1 154 "java/lang/IllegalArgumentException", Cond.initialized "java/lang/IllegalArgumentException", Cond.classLink RX1 161 "java/lang/IllegalStateException", Cond.initialized "java/lang/IllegalStateException", Cond.methodLink RX1 35 yX1_requireGuest, Cond.instanceMethod yX1_requireGuest, Cond.selects RX1 yX1_requireGuest yX1_requireGuest, Cond.code yX1_requireGuest cX1_requireGuest 2 none, Cond.classLink RX1 147 "java/lang/IndexOutOfBoundsException", Cond.initialized "java/lang/IndexOutOfBoundsException", Cond.fieldLink RX1 58 "PauseLedger$Dinner" "guests" "I", Cond.methodLink RX1 89 yX1_pairOf, Cond.static yX1_pairOf, Cond.code yX1_pairOf cX1_pairOf 2 (some .int), Cond.methodLink RX1 92 yX0_isOnItsWay, Cond.instanceMethod yX0_isOnItsWay, Cond.selects RX0 yX0_isOnItsWay yX0_isOnItsWay, Cond.initialized RX0]
def wsX1_bestMoment_r2 : List Cond := [Cond.code yX0_isOnItsWay cX0_isOnItsWay 2 (some .boolean), Cond.fieldLink RX0 24 "PauseLedger$Dinner" "toGo" "[I", Cond.methodLink RX1 121 yX0_fateOf, Cond.instanceMethod yX0_fateOf, Cond.selects RX0 yX0_fateOf yX0_fateOf, Cond.code yX0_fateOf cX0_fateOf 5 (some .int), Cond.fieldLink RX0 47 "PauseLedger$Dinner" "speaker" "I", Cond.fieldLink RX0 50 "PauseLedger$Dinner" "toSpeak" "I", Cond.methodLink RX0 125 yX0_timeToGo, Cond.instanceMethod yX0_timeToGo, Cond.selects RX0 yX0_timeToGo yX0_timeToGo, Cond.code yX0_timeToGo cX0_timeToGo 2 (some .int), Cond.methodLink RX0 110 yX0_isOnItsWay, Cond.methodLink RX0 87 yX0_wayOf, Cond.instanceMethod yX0_wayOf, Cond.selects RX0 yX0_wayOf yX0_wayOf, Cond.code yX0_wayOf cX0_wayOf 3 (some .int), Cond.methodLink RX0 122 yX0_seatsBetween, Cond.instanceMethod yX0_seatsBetween, Cond.selects RX0 yX0_seatsBetween yX0_seatsBetween, Cond.code yX0_seatsBetween cX0_seatsBetween 4 (some .int), Cond.methodLink RX0 114 Lib.Math.abs.name, Cond.static Lib.Math.abs.name, Cond.initialized "java/lang/Math"]
def wsX1_bestMoment_r3 : List Cond := [Cond.code Lib.Math.abs.name Lib.Math.abs.code 1 (some .int), Cond.fieldLink RX0 41 "PauseLedger$Dinner" "guests" "I", Cond.methodLink RX0 119 Lib.Math.min.name, Cond.static Lib.Math.min.name, Cond.code Lib.Math.min.name Lib.Math.min.code 2 (some .int)]
def wsX1_bestMoment : List Cond := .code yX1_bestMoment cX1_bestMoment 4 (some .int) :: ((wsX1_bestMoment_r1 ++ (wsX1_bestMoment_r2 ++ wsX1_bestMoment_r3)) ++ wsX10 ++ wsX00 ++ (vx_atS RX1 158 "java/lang/IllegalArgumentException" ["java/lang/RuntimeException", "java/lang/Exception"]).filter goodWord ++ (vx_atS RX1 165 "java/lang/IllegalStateException" ["java/lang/RuntimeException", "java/lang/Exception"]).filter goodWord ++ (vx_atS RX1 151 "java/lang/IndexOutOfBoundsException" ["java/lang/RuntimeException", "java/lang/Exception"]).filter goodWord)
def wsX1_ratingIn_r1 : List Cond := [Cond.fieldLink RX1 16 "PauseLedger" "trial" "LPauseLedger$Dinner;", Cond.methodLink RX1 19 yX1_requireWithin, Cond.static yX1_requireWithin, Cond.initialized RX1, Cond.code yX1_requireWithin cX1_requireWithin 3 none, Cond.classLink RX1 154 "java/lang/IllegalArgumentException", Cond.initialized "java/lang/IllegalArgumentException", Cond.methodLink RX1 115 yX1_tryOut, Cond.instanceMethod yX1_tryOut, Cond.selects RX1 yX1_tryOut yX1_tryOut, Cond.code yX1_tryOut cX1_tryOut 2 none, Cond.fieldLink RX1 12 "PauseLedger" "dinner" "LPauseLedger$Dinner;", Cond.methodLink RX1 143 yX0_copyOf, Cond.instanceMethod yX0_copyOf, Cond.selects RX0 yX0_copyOf yX0_copyOf, Cond.initialized RX0, Cond.code yX0_copyOf cX0_copyOf 2 none, Cond.fieldLink RX0 41 "PauseLedger$Dinner" "guests" "I", Cond.fieldLink RX0 44 "PauseLedger$Dinner" "seconds" "I", Cond.fieldLink RX0 33 "PauseLedger$Dinner" "limit" "I", Cond.fieldLink RX0 47 "PauseLedger$Dinner" "speaker" "I", Cond.fieldLink RX0 50 "PauseLedger$Dinner" "toSpeak" "I", Cond.fieldLink RX0 53 "PauseLedger$Dinner" "pause" "I", Cond.fieldLink RX0 56 "PauseLedger$Dinner" "unsaidInPauses" "I"]
def wsX1_ratingIn_r2 : List Cond := [Cond.fieldLink RX0 59 "PauseLedger$Dinner" "meetings" "I", Cond.fieldLink RX0 62 "PauseLedger$Dinner" "lost" "I", Cond.fieldLink RX0 65 "PauseLedger$Dinner" "sent" "I", Cond.fieldLink RX0 9 "PauseLedger$Dinner" "spoken" "[I", Cond.methodLink RX0 74 arraycopyName, Cond.native arraycopyName, Cond.static arraycopyName, Cond.initialized "java/lang/System", Cond.fieldLink RX0 15 "PauseLedger$Dinner" "interruptions" "[I", Cond.fieldLink RX0 18 "PauseLedger$Dinner" "coughs" "[I", Cond.fieldLink RX0 21 "PauseLedger$Dinner" "unsaid" "[I", Cond.fieldLink RX0 24 "PauseLedger$Dinner" "toGo" "[I", Cond.fieldLink RX0 27 "PauseLedger$Dinner" "caught" "[I", Cond.fieldLink RX0 30 "PauseLedger$Dinner" "order" "[I", Cond.methodLink RX1 55 yX0_goBy, Cond.instanceMethod yX0_goBy, Cond.selects RX0 yX0_goBy yX0_goBy, Cond.code yX0_goBy cX0_goBy 3 none, Cond.methodLink RX0 90 yX0_goOneSecond, Cond.instanceMethod yX0_goOneSecond, Cond.selects RX0 yX0_goOneSecond yX0_goOneSecond, Cond.code yX0_goOneSecond cX0_goOneSecond 1 none, Cond.methodLink RX0 93 yX0_speakOrPause, Cond.instanceMethod yX0_speakOrPause]
def wsX1_ratingIn_r3 : List Cond := [Cond.selects RX0 yX0_speakOrPause yX0_speakOrPause, Cond.code yX0_speakOrPause cX0_speakOrPause 1 none, Cond.methodLink RX0 99 yX0_beyondMultipleOfLimit, Cond.instanceMethod yX0_beyondMultipleOfLimit, Cond.selects RX0 yX0_beyondMultipleOfLimit yX0_beyondMultipleOfLimit, Cond.code yX0_beyondMultipleOfLimit cX0_beyondMultipleOfLimit 2 (some .int), Cond.methodLink RX0 96 yX0_moveGlances, Cond.instanceMethod yX0_moveGlances, Cond.selects RX0 yX0_moveGlances yX0_moveGlances, Cond.code yX0_moveGlances cX0_moveGlances 3 none, Cond.methodLink RX0 103 yX0_arrive, Cond.instanceMethod yX0_arrive, Cond.selects RX0 yX0_arrive yX0_arrive, Cond.code yX0_arrive cX0_arrive 5 none, Cond.static yX1_pairOf, Cond.code yX1_pairOf cX1_pairOf 2 (some .int), Cond.methodLink RX0 110 yX0_isOnItsWay, Cond.instanceMethod yX0_isOnItsWay, Cond.selects RX0 yX0_isOnItsWay yX0_isOnItsWay, Cond.code yX0_isOnItsWay cX0_isOnItsWay 2 (some .boolean), Cond.methodLink RX0 107 yX0_forgetThoseOver, Cond.instanceMethod yX0_forgetThoseOver, Cond.selects RX0 yX0_forgetThoseOver yX0_forgetThoseOver, Cond.code yX0_forgetThoseOver cX0_forgetThoseOver 4 none]
def wsX1_ratingIn_r4 : List Cond := [Cond.methodLink RX1 23 yX0_rate, Cond.instanceMethod yX0_rate, Cond.selects RX0 yX0_rate yX0_rate, Cond.code yX0_rate cX0_rate 2 (some .int), Cond.methodLink RX0 114 Lib.Math.abs.name, Cond.static Lib.Math.abs.name, Cond.initialized "java/lang/Math", Cond.code Lib.Math.abs.name Lib.Math.abs.code 1 (some .int), Cond.methodLink RX0 135 Lib.Math.max.name, Cond.static Lib.Math.max.name, Cond.code Lib.Math.max.name Lib.Math.max.code 2 (some .int), Cond.methodLink RX0 132 yX0_sumUnsaid, Cond.instanceMethod yX0_sumUnsaid, Cond.selects RX0 yX0_sumUnsaid yX0_sumUnsaid, Cond.code yX0_sumUnsaid cX0_sumUnsaid 1 (some .int), Cond.methodLink RX0 128 yX0_sumUnsaidByGuests, Cond.instanceMethod yX0_sumUnsaidByGuests, Cond.selects RX0 yX0_sumUnsaidByGuests yX0_sumUnsaidByGuests, Cond.code yX0_sumUnsaidByGuests cX0_sumUnsaidByGuests 3 (some .int)]
def wsX1_ratingIn : List Cond := .code yX1_ratingIn cX1_ratingIn 2 (some .int) :: ((wsX1_ratingIn_r1 ++ (wsX1_ratingIn_r2 ++ (wsX1_ratingIn_r3 ++ wsX1_ratingIn_r4))) ++ wsX10 ++ wsX00 ++ (vx_atS RX1 158 "java/lang/IllegalArgumentException" ["java/lang/RuntimeException", "java/lang/Exception"]).filter goodWord)
def wsX1_meanUnsaid : List Cond := .code yX1_meanUnsaid cX1_meanUnsaid 1 (some .double) :: ([.fieldLink RX1 12 "PauseLedger" "dinner" "LPauseLedger$Dinner;", .fieldLink RX1 58 "PauseLedger$Dinner" "guests" "I", .methodLink RX1 125 yX0_sumUnsaidByGuests, .instanceMethod yX0_sumUnsaidByGuests, .selects RX0 yX0_sumUnsaidByGuests yX0_sumUnsaidByGuests, .initialized RX0, .code yX0_sumUnsaidByGuests cX0_sumUnsaidByGuests 3 (some .int), .fieldLink RX0 41 "PauseLedger$Dinner" "guests" "I", .fieldLink RX0 21 "PauseLedger$Dinner" "unsaid" "[I"] ++ wsX10 ++ wsX00)
def wsX1_followedBy : List Cond := .code yX1_followedBy cX1_followedBy 3 (some .long) :: ([.constantLong RX1 141 (31)])
def wsX1_digestOfTable_r1 : List Cond := [Cond.constantLong RX1 136 (1973), Cond.fieldLink RX1 12 "PauseLedger" "dinner" "LPauseLedger$Dinner;", Cond.fieldLink RX1 58 "PauseLedger$Dinner" "guests" "I", Cond.fieldLink RX1 61 "PauseLedger$Dinner" "seconds" "I", Cond.fieldLink RX1 31 "PauseLedger$Dinner" "limit" "I", Cond.fieldLink RX1 67 "PauseLedger$Dinner" "speaker" "I", Cond.fieldLink RX1 70 "PauseLedger$Dinner" "toSpeak" "I", Cond.fieldLink RX1 73 "PauseLedger$Dinner" "pause" "I", Cond.fieldLink RX1 103 "PauseLedger$Dinner" "unsaidInPauses" "I", Cond.fieldLink RX1 106 "PauseLedger$Dinner" "sent" "I", Cond.fieldLink RX1 109 "PauseLedger$Dinner" "meetings" "I", Cond.fieldLink RX1 112 "PauseLedger$Dinner" "lost" "I", Cond.methodLink RX1 138 yX1_followedBy, Cond.static yX1_followedBy, Cond.initialized RX1, Cond.code yX1_followedBy cX1_followedBy 3 (some .long), Cond.constantLong RX1 141 (31), Cond.methodLink RX1 23 yX0_rate, Cond.instanceMethod yX0_rate, Cond.selects RX0 yX0_rate yX0_rate, Cond.initialized RX0, Cond.code yX0_rate cX0_rate 2 (some .int), Cond.fieldLink RX0 41 "PauseLedger$Dinner" "guests" "I", Cond.methodLink RX0 114 Lib.Math.abs.name]
def wsX1_digestOfTable_r2 : List Cond := [Cond.static Lib.Math.abs.name, Cond.initialized "java/lang/Math", Cond.code Lib.Math.abs.name Lib.Math.abs.code 1 (some .int), Cond.methodLink RX0 135 Lib.Math.max.name, Cond.static Lib.Math.max.name, Cond.code Lib.Math.max.name Lib.Math.max.code 2 (some .int), Cond.methodLink RX0 132 yX0_sumUnsaid, Cond.instanceMethod yX0_sumUnsaid, Cond.selects RX0 yX0_sumUnsaid yX0_sumUnsaid, Cond.code yX0_sumUnsaid cX0_sumUnsaid 1 (some .int), Cond.fieldLink RX0 56 "PauseLedger$Dinner" "unsaidInPauses" "I", Cond.methodLink RX0 128 yX0_sumUnsaidByGuests, Cond.instanceMethod yX0_sumUnsaidByGuests, Cond.selects RX0 yX0_sumUnsaidByGuests yX0_sumUnsaidByGuests, Cond.code yX0_sumUnsaidByGuests cX0_sumUnsaidByGuests 3 (some .int), Cond.fieldLink RX0 21 "PauseLedger$Dinner" "unsaid" "[I"]
def wsX1_digestOfTable : List Cond := .code yX1_digestOfTable cX1_digestOfTable 3 (some .long) :: ((wsX1_digestOfTable_r1 ++ wsX1_digestOfTable_r2) ++ wsX10 ++ wsX00)
def wsX1_withGuest_r1 : List Cond := [Cond.fieldLink RX1 12 "PauseLedger" "dinner" "LPauseLedger$Dinner;", Cond.fieldLink RX1 76 "PauseLedger$Dinner" "spoken" "[I", Cond.fieldLink RX1 80 "PauseLedger$Dinner" "interruptions" "[I", Cond.fieldLink RX1 83 "PauseLedger$Dinner" "coughs" "[I", Cond.fieldLink RX1 86 "PauseLedger$Dinner" "unsaid" "[I", Cond.fieldLink RX1 58 "PauseLedger$Dinner" "guests" "I", Cond.fieldLink RX1 100 "PauseLedger$Dinner" "caught" "[I", Cond.methodLink RX1 138 yX1_followedBy, Cond.static yX1_followedBy, Cond.initialized RX1, Cond.code yX1_followedBy cX1_followedBy 3 (some .long), Cond.constantLong RX1 141 (31), Cond.methodLink RX1 89 yX1_pairOf, Cond.static yX1_pairOf, Cond.code yX1_pairOf cX1_pairOf 2 (some .int), Cond.methodLink RX1 96 yX0_timeToGo, Cond.instanceMethod yX0_timeToGo, Cond.selects RX0 yX0_timeToGo yX0_timeToGo, Cond.initialized RX0, Cond.code yX0_timeToGo cX0_timeToGo 2 (some .int), Cond.fieldLink RX0 24 "PauseLedger$Dinner" "toGo" "[I", Cond.methodLink RX0 110 yX0_isOnItsWay, Cond.instanceMethod yX0_isOnItsWay, Cond.selects RX0 yX0_isOnItsWay yX0_isOnItsWay]
def wsX1_withGuest_r2 : List Cond := [Cond.code yX0_isOnItsWay cX0_isOnItsWay 2 (some .boolean)]
def wsX1_withGuest : List Cond := .code yX1_withGuest cX1_withGuest 8 (some .long) :: ((wsX1_withGuest_r1 ++ wsX1_withGuest_r2) ++ wsX10 ++ wsX00)
def wsX1_digest_r1 : List Cond := [Cond.fieldLink RX1 12 "PauseLedger" "dinner" "LPauseLedger$Dinner;", Cond.fieldLink RX1 58 "PauseLedger$Dinner" "guests" "I", Cond.methodLink RX1 128 yX1_digestOfTable, Cond.instanceMethod yX1_digestOfTable, Cond.selects RX1 yX1_digestOfTable yX1_digestOfTable, Cond.initialized RX1, Cond.code yX1_digestOfTable cX1_digestOfTable 3 (some .long), Cond.constantLong RX1 136 (1973), Cond.fieldLink RX1 61 "PauseLedger$Dinner" "seconds" "I", Cond.fieldLink RX1 31 "PauseLedger$Dinner" "limit" "I", Cond.fieldLink RX1 67 "PauseLedger$Dinner" "speaker" "I", Cond.fieldLink RX1 70 "PauseLedger$Dinner" "toSpeak" "I", Cond.fieldLink RX1 73 "PauseLedger$Dinner" "pause" "I", Cond.fieldLink RX1 103 "PauseLedger$Dinner" "unsaidInPauses" "I", Cond.fieldLink RX1 106 "PauseLedger$Dinner" "sent" "I", Cond.fieldLink RX1 109 "PauseLedger$Dinner" "meetings" "I", Cond.fieldLink RX1 112 "PauseLedger$Dinner" "lost" "I", Cond.methodLink RX1 138 yX1_followedBy, Cond.static yX1_followedBy, Cond.code yX1_followedBy cX1_followedBy 3 (some .long), Cond.constantLong RX1 141 (31), Cond.methodLink RX1 23 yX0_rate, Cond.instanceMethod yX0_rate, Cond.selects RX0 yX0_rate yX0_rate]
def wsX1_digest_r2 : List Cond := [Cond.initialized RX0, Cond.code yX0_rate cX0_rate 2 (some .int), Cond.fieldLink RX0 41 "PauseLedger$Dinner" "guests" "I", Cond.methodLink RX0 114 Lib.Math.abs.name, Cond.static Lib.Math.abs.name, Cond.initialized "java/lang/Math", Cond.code Lib.Math.abs.name Lib.Math.abs.code 1 (some .int), Cond.methodLink RX0 135 Lib.Math.max.name, Cond.static Lib.Math.max.name, Cond.code Lib.Math.max.name Lib.Math.max.code 2 (some .int), Cond.methodLink RX0 132 yX0_sumUnsaid, Cond.instanceMethod yX0_sumUnsaid, Cond.selects RX0 yX0_sumUnsaid yX0_sumUnsaid, Cond.code yX0_sumUnsaid cX0_sumUnsaid 1 (some .int), Cond.fieldLink RX0 56 "PauseLedger$Dinner" "unsaidInPauses" "I", Cond.methodLink RX0 128 yX0_sumUnsaidByGuests, Cond.instanceMethod yX0_sumUnsaidByGuests, Cond.selects RX0 yX0_sumUnsaidByGuests yX0_sumUnsaidByGuests, Cond.code yX0_sumUnsaidByGuests cX0_sumUnsaidByGuests 3 (some .int), Cond.fieldLink RX0 21 "PauseLedger$Dinner" "unsaid" "[I", Cond.methodLink RX1 132 yX1_withGuest, Cond.instanceMethod yX1_withGuest, Cond.selects RX1 yX1_withGuest yX1_withGuest, Cond.code yX1_withGuest cX1_withGuest 8 (some .long)]
def wsX1_digest_r3 : List Cond := [Cond.fieldLink RX1 76 "PauseLedger$Dinner" "spoken" "[I", Cond.fieldLink RX1 80 "PauseLedger$Dinner" "interruptions" "[I", Cond.fieldLink RX1 83 "PauseLedger$Dinner" "coughs" "[I", Cond.fieldLink RX1 86 "PauseLedger$Dinner" "unsaid" "[I", Cond.fieldLink RX1 100 "PauseLedger$Dinner" "caught" "[I", Cond.methodLink RX1 89 yX1_pairOf, Cond.static yX1_pairOf, Cond.code yX1_pairOf cX1_pairOf 2 (some .int), Cond.methodLink RX1 96 yX0_timeToGo, Cond.instanceMethod yX0_timeToGo, Cond.selects RX0 yX0_timeToGo yX0_timeToGo, Cond.code yX0_timeToGo cX0_timeToGo 2 (some .int), Cond.fieldLink RX0 24 "PauseLedger$Dinner" "toGo" "[I", Cond.methodLink RX0 110 yX0_isOnItsWay, Cond.instanceMethod yX0_isOnItsWay, Cond.selects RX0 yX0_isOnItsWay yX0_isOnItsWay, Cond.code yX0_isOnItsWay cX0_isOnItsWay 2 (some .boolean)]
def wsX1_digest : List Cond := .code yX1_digest cX1_digest 4 (some .long) :: ((wsX1_digest_r1 ++ (wsX1_digest_r2 ++ wsX1_digest_r3)) ++ wsX10 ++ wsX00)
def wsX2_init : List Cond := .code yX2_init cX2_init 1 none :: ([.methodLink RX2 1 objectInit, .instanceMethod objectInit, .code objectInit ⟨#[0xb1]⟩ 1 none, .fieldLink RX2 7 "PauseLedgerModel" "guests" "I", .fieldLink RX2 13 "PauseLedgerModel" "limit" "I", .arrayClass .int, .fieldLink RX2 16 "PauseLedgerModel" "now" "[I", .fieldLink RX2 20 "PauseLedgerModel" "kept" "[I", .fieldLink RX2 23 "PauseLedgerModel" "mark" "I"] ++ wsX20)
def wsX2_thrown : List Cond := .code yX2_thrown cX2_thrown 1 (some .int) :: ([.fieldLink RX2 26 "PauseLedgerModel" "thrown" "I"] ++ wsX20)
def wsX2_fail : List Cond := .code yX2_fail cX2_fail 2 (some .int) :: ([.fieldLink RX2 26 "PauseLedgerModel" "thrown" "I"] ++ wsX20)
def wsX2_told : List Cond := .code yX2_told cX2_told 2 (some .int) :: ([.fieldLink RX2 26 "PauseLedgerModel" "thrown" "I"] ++ wsX20)
def wsX2_isIn : List Cond := .code yX2_isIn cX2_isIn 3 (some .boolean) :: ([])
def wsX2_isGuest : List Cond := .code yX2_isGuest cX2_isGuest 2 (some .boolean) :: ([.fieldLink RX2 7 "PauseLedgerModel" "guests" "I", .methodLink RX2 29 yX2_isIn, .static yX2_isIn, .initialized RX2, .code yX2_isIn cX2_isIn 3 (some .boolean)] ++ wsX20)
def wsX2_keep : List Cond := .code yX2_keep cX2_keep 1 none :: ([.fieldLink RX2 16 "PauseLedgerModel" "now" "[I", .fieldLink RX2 20 "PauseLedgerModel" "kept" "[I", .methodLink RX2 33 arraycopyName, .native arraycopyName, .static arraycopyName, .initialized "java/lang/System"] ++ wsX20)
def wsX2_bringBack : List Cond := .code yX2_bringBack cX2_bringBack 1 none :: ([.fieldLink RX2 20 "PauseLedgerModel" "kept" "[I", .fieldLink RX2 16 "PauseLedgerModel" "now" "[I", .methodLink RX2 33 arraycopyName, .native arraycopyName, .static arraycopyName, .initialized "java/lang/System"] ++ wsX20)
def wsX2_pair : List Cond := .code yX2_pair cX2_pair 2 (some .int) :: ([])
def wsX2_apart : List Cond := .code yX2_apart cX2_apart 4 (some .int) :: ([.methodLink RX2 39 Lib.Math.abs.name, .static Lib.Math.abs.name, .initialized "java/lang/Math", .code Lib.Math.abs.name Lib.Math.abs.code 1 (some .int), .fieldLink RX2 7 "PauseLedgerModel" "guests" "I", .methodLink RX2 45 Lib.Math.min.name, .static Lib.Math.min.name, .code Lib.Math.min.name Lib.Math.min.code 2 (some .int)] ++ wsX20)
def wsX2_unsaid : List Cond := .code yX2_unsaid cX2_unsaid 3 (some .int) :: ([.fieldLink RX2 16 "PauseLedgerModel" "now" "[I", .fieldLink RX2 7 "PauseLedgerModel" "guests" "I"] ++ wsX20)
def wsX2_rated : List Cond := .code yX2_rated cX2_rated 1 (some .int) :: ([.fieldLink RX2 7 "PauseLedgerModel" "guests" "I", .methodLink RX2 39 Lib.Math.abs.name, .static Lib.Math.abs.name, .initialized "java/lang/Math", .code Lib.Math.abs.name Lib.Math.abs.code 1 (some .int), .methodLink RX2 53 Lib.Math.max.name, .static Lib.Math.max.name, .code Lib.Math.max.name Lib.Math.max.code 2 (some .int), .methodLink RX2 49 yX2_unsaid, .instanceMethod yX2_unsaid, .selects RX2 yX2_unsaid yX2_unsaid, .initialized RX2, .code yX2_unsaid cX2_unsaid 3 (some .int), .fieldLink RX2 16 "PauseLedgerModel" "now" "[I"] ++ wsX20)
def wsX2_talk : List Cond := .code yX2_talk cX2_talk 2 none :: ([.fieldLink RX2 16 "PauseLedgerModel" "now" "[I", .fieldLink RX2 13 "PauseLedgerModel" "limit" "I"] ++ wsX20)
def wsX2_arrives : List Cond := .code yX2_arrives cX2_arrives 5 none :: ([.fieldLink RX2 16 "PauseLedgerModel" "now" "[I", .fieldLink RX2 23 "PauseLedgerModel" "mark" "I", .fieldLink RX2 59 "PauseLedgerModel" "end" "I", .methodLink RX2 56 yX2_pair, .static yX2_pair, .initialized RX2, .code yX2_pair cX2_pair 2 (some .int)] ++ wsX20)
def wsX2_fly : List Cond := .code yX2_fly cX2_fly 3 none :: ([.fieldLink RX2 16 "PauseLedgerModel" "now" "[I", .methodLink RX2 62 yX2_arrives, .instanceMethod yX2_arrives, .selects RX2 yX2_arrives yX2_arrives, .initialized RX2, .code yX2_arrives cX2_arrives 5 none, .fieldLink RX2 23 "PauseLedgerModel" "mark" "I", .fieldLink RX2 59 "PauseLedgerModel" "end" "I", .methodLink RX2 56 yX2_pair, .static yX2_pair, .code yX2_pair cX2_pair 2 (some .int)] ++ wsX20)
def wsX2_secondOn : List Cond := .code yX2_secondOn cX2_secondOn 1 none :: ([.fieldLink RX2 16 "PauseLedgerModel" "now" "[I", .methodLink RX2 66 yX2_talk, .instanceMethod yX2_talk, .selects RX2 yX2_talk yX2_talk, .initialized RX2, .code yX2_talk cX2_talk 2 none, .fieldLink RX2 13 "PauseLedgerModel" "limit" "I", .methodLink RX2 69 yX2_fly, .instanceMethod yX2_fly, .selects RX2 yX2_fly yX2_fly, .code yX2_fly cX2_fly 3 none, .methodLink RX2 62 yX2_arrives, .instanceMethod yX2_arrives, .selects RX2 yX2_arrives yX2_arrives, .code yX2_arrives cX2_arrives 5 none, .fieldLink RX2 23 "PauseLedgerModel" "mark" "I", .fieldLink RX2 59 "PauseLedgerModel" "end" "I", .methodLink RX2 56 yX2_pair, .static yX2_pair, .code yX2_pair cX2_pair 2 (some .int)] ++ wsX20)
def wsX2_secondsOn : List Cond := .code yX2_secondsOn cX2_secondsOn 3 none :: ([.methodLink RX2 72 yX2_secondOn, .instanceMethod yX2_secondOn, .selects RX2 yX2_secondOn yX2_secondOn, .initialized RX2, .code yX2_secondOn cX2_secondOn 1 none, .fieldLink RX2 16 "PauseLedgerModel" "now" "[I", .methodLink RX2 66 yX2_talk, .instanceMethod yX2_talk, .selects RX2 yX2_talk yX2_talk, .code yX2_talk cX2_talk 2 none, .fieldLink RX2 13 "PauseLedgerModel" "limit" "I", .methodLink RX2 69 yX2_fly, .instanceMethod yX2_fly, .selects RX2 yX2_fly yX2_fly, .code yX2_fly cX2_fly 3 none, .methodLink RX2 62 yX2_arrives, .instanceMethod yX2_arrives, .selects RX2 yX2_arrives yX2_arrives, .code yX2_arrives cX2_arrives 5 none, .fieldLink RX2 23 "PauseLedgerModel" "mark" "I", .fieldLink RX2 59 "PauseLedgerModel" "end" "I", .methodLink RX2 56 yX2_pair, .static yX2_pair, .code yX2_pair cX2_pair 2 (some .int)] ++ wsX20)
def wsX2_newDinner_r1 : List Cond := [Cond.fieldLink RX2 26 "PauseLedgerModel" "thrown" "I", Cond.fieldLink RX2 16 "PauseLedgerModel" "now" "[I", Cond.fieldLink RX2 7 "PauseLedgerModel" "guests" "I", Cond.methodLink RX2 29 yX2_isIn, Cond.static yX2_isIn, Cond.initialized RX2, Cond.code yX2_isIn cX2_isIn 3 (some .boolean), Cond.methodLink RX2 75 yX2_fail, Cond.instanceMethod yX2_fail, Cond.selects RX2 yX2_fail yX2_fail, Cond.code yX2_fail cX2_fail 2 (some .int), Cond.methodLink RX2 78 yX2_rated, Cond.instanceMethod yX2_rated, Cond.selects RX2 yX2_rated yX2_rated, Cond.code yX2_rated cX2_rated 1 (some .int), Cond.methodLink RX2 39 Lib.Math.abs.name, Cond.static Lib.Math.abs.name, Cond.initialized "java/lang/Math", Cond.code Lib.Math.abs.name Lib.Math.abs.code 1 (some .int), Cond.methodLink RX2 53 Lib.Math.max.name, Cond.static Lib.Math.max.name, Cond.code Lib.Math.max.name Lib.Math.max.code 2 (some .int), Cond.methodLink RX2 49 yX2_unsaid, Cond.instanceMethod yX2_unsaid]
def wsX2_newDinner_r2 : List Cond := [Cond.selects RX2 yX2_unsaid yX2_unsaid, Cond.code yX2_unsaid cX2_unsaid 3 (some .int)]
def wsX2_newDinner : List Cond := .code yX2_newDinner cX2_newDinner 4 (some .int) :: ((wsX2_newDinner_r1 ++ wsX2_newDinner_r2) ++ wsX20)
def wsX2_setLimit : List Cond := .code yX2_setLimit cX2_setLimit 3 (some .int) :: ([.fieldLink RX2 26 "PauseLedgerModel" "thrown" "I", .fieldLink RX2 13 "PauseLedgerModel" "limit" "I", .methodLink RX2 29 yX2_isIn, .static yX2_isIn, .initialized RX2, .code yX2_isIn cX2_isIn 3 (some .boolean), .methodLink RX2 75 yX2_fail, .instanceMethod yX2_fail, .selects RX2 yX2_fail yX2_fail, .code yX2_fail cX2_fail 2 (some .int)] ++ wsX20)
def wsX2_speak : List Cond := .code yX2_speak cX2_speak 4 (some .int) :: ([.fieldLink RX2 26 "PauseLedgerModel" "thrown" "I", .fieldLink RX2 16 "PauseLedgerModel" "now" "[I", .methodLink RX2 81 yX2_isGuest, .instanceMethod yX2_isGuest, .selects RX2 yX2_isGuest yX2_isGuest, .initialized RX2, .code yX2_isGuest cX2_isGuest 2 (some .boolean), .fieldLink RX2 7 "PauseLedgerModel" "guests" "I", .methodLink RX2 29 yX2_isIn, .static yX2_isIn, .code yX2_isIn cX2_isIn 3 (some .boolean), .methodLink RX2 75 yX2_fail, .instanceMethod yX2_fail, .selects RX2 yX2_fail yX2_fail, .code yX2_fail cX2_fail 2 (some .int)] ++ wsX20)
def wsX2_cough : List Cond := .code yX2_cough cX2_cough 4 (some .int) :: ([.fieldLink RX2 26 "PauseLedgerModel" "thrown" "I", .fieldLink RX2 16 "PauseLedgerModel" "now" "[I", .methodLink RX2 81 yX2_isGuest, .instanceMethod yX2_isGuest, .selects RX2 yX2_isGuest yX2_isGuest, .initialized RX2, .code yX2_isGuest cX2_isGuest 2 (some .boolean), .fieldLink RX2 7 "PauseLedgerModel" "guests" "I", .methodLink RX2 29 yX2_isIn, .static yX2_isIn, .code yX2_isIn cX2_isIn 3 (some .boolean), .methodLink RX2 75 yX2_fail, .instanceMethod yX2_fail, .selects RX2 yX2_fail yX2_fail, .code yX2_fail cX2_fail 2 (some .int)] ++ wsX20)
def wsX2_send : List Cond := .code yX2_send cX2_send 3 (some .int) :: ([.fieldLink RX2 16 "PauseLedgerModel" "now" "[I", .methodLink RX2 56 yX2_pair, .static yX2_pair, .initialized RX2, .code yX2_pair cX2_pair 2 (some .int), .methodLink RX2 85 yX2_apart, .instanceMethod yX2_apart, .selects RX2 yX2_apart yX2_apart, .code yX2_apart cX2_apart 4 (some .int), .methodLink RX2 39 Lib.Math.abs.name, .static Lib.Math.abs.name, .initialized "java/lang/Math", .code Lib.Math.abs.name Lib.Math.abs.code 1 (some .int), .fieldLink RX2 7 "PauseLedgerModel" "guests" "I", .methodLink RX2 45 Lib.Math.min.name, .static Lib.Math.min.name, .code Lib.Math.min.name Lib.Math.min.code 2 (some .int)] ++ wsX20)
def wsX2_canSend : List Cond := .code yX2_canSend cX2_canSend 3 (some .boolean) :: ([.fieldLink RX2 16 "PauseLedgerModel" "now" "[I", .fieldLink RX2 26 "PauseLedgerModel" "thrown" "I", .methodLink RX2 81 yX2_isGuest, .instanceMethod yX2_isGuest, .selects RX2 yX2_isGuest yX2_isGuest, .initialized RX2, .code yX2_isGuest cX2_isGuest 2 (some .boolean), .fieldLink RX2 7 "PauseLedgerModel" "guests" "I", .methodLink RX2 29 yX2_isIn, .static yX2_isIn, .code yX2_isIn cX2_isIn 3 (some .boolean), .methodLink RX2 56 yX2_pair, .static yX2_pair, .code yX2_pair cX2_pair 2 (some .int)] ++ wsX20)
def wsX2_glance_r1 : List Cond := [Cond.methodLink RX2 88 yX2_canSend, Cond.instanceMethod yX2_canSend, Cond.selects RX2 yX2_canSend yX2_canSend, Cond.initialized RX2, Cond.code yX2_canSend cX2_canSend 3 (some .boolean), Cond.fieldLink RX2 16 "PauseLedgerModel" "now" "[I", Cond.fieldLink RX2 26 "PauseLedgerModel" "thrown" "I", Cond.methodLink RX2 81 yX2_isGuest, Cond.instanceMethod yX2_isGuest, Cond.selects RX2 yX2_isGuest yX2_isGuest, Cond.code yX2_isGuest cX2_isGuest 2 (some .boolean), Cond.fieldLink RX2 7 "PauseLedgerModel" "guests" "I", Cond.methodLink RX2 29 yX2_isIn, Cond.static yX2_isIn, Cond.code yX2_isIn cX2_isIn 3 (some .boolean), Cond.methodLink RX2 56 yX2_pair, Cond.static yX2_pair, Cond.code yX2_pair cX2_pair 2 (some .int), Cond.methodLink RX2 92 yX2_send, Cond.instanceMethod yX2_send, Cond.selects RX2 yX2_send yX2_send, Cond.code yX2_send cX2_send 3 (some .int), Cond.methodLink RX2 85 yX2_apart, Cond.instanceMethod yX2_apart]
def wsX2_glance_r2 : List Cond := [Cond.selects RX2 yX2_apart yX2_apart, Cond.code yX2_apart cX2_apart 4 (some .int), Cond.methodLink RX2 39 Lib.Math.abs.name, Cond.static Lib.Math.abs.name, Cond.initialized "java/lang/Math", Cond.code Lib.Math.abs.name Lib.Math.abs.code 1 (some .int), Cond.methodLink RX2 45 Lib.Math.min.name, Cond.static Lib.Math.min.name, Cond.code Lib.Math.min.name Lib.Math.min.code 2 (some .int)]
def wsX2_glance : List Cond := .code yX2_glance cX2_glance 3 (some .int) :: ((wsX2_glance_r1 ++ wsX2_glance_r2) ++ wsX20)
def wsX2_pass_r1 : List Cond := [Cond.fieldLink RX2 26 "PauseLedgerModel" "thrown" "I", Cond.methodLink RX2 29 yX2_isIn, Cond.static yX2_isIn, Cond.initialized RX2, Cond.code yX2_isIn cX2_isIn 3 (some .boolean), Cond.methodLink RX2 75 yX2_fail, Cond.instanceMethod yX2_fail, Cond.selects RX2 yX2_fail yX2_fail, Cond.code yX2_fail cX2_fail 2 (some .int), Cond.methodLink RX2 49 yX2_unsaid, Cond.instanceMethod yX2_unsaid, Cond.selects RX2 yX2_unsaid yX2_unsaid, Cond.code yX2_unsaid cX2_unsaid 3 (some .int), Cond.fieldLink RX2 16 "PauseLedgerModel" "now" "[I", Cond.fieldLink RX2 7 "PauseLedgerModel" "guests" "I", Cond.methodLink RX2 95 yX2_secondsOn, Cond.instanceMethod yX2_secondsOn, Cond.selects RX2 yX2_secondsOn yX2_secondsOn, Cond.code yX2_secondsOn cX2_secondsOn 3 none, Cond.methodLink RX2 72 yX2_secondOn, Cond.instanceMethod yX2_secondOn, Cond.selects RX2 yX2_secondOn yX2_secondOn, Cond.code yX2_secondOn cX2_secondOn 1 none, Cond.methodLink RX2 66 yX2_talk]
def wsX2_pass_r2 : List Cond := [Cond.instanceMethod yX2_talk, Cond.selects RX2 yX2_talk yX2_talk, Cond.code yX2_talk cX2_talk 2 none, Cond.fieldLink RX2 13 "PauseLedgerModel" "limit" "I", Cond.methodLink RX2 69 yX2_fly, Cond.instanceMethod yX2_fly, Cond.selects RX2 yX2_fly yX2_fly, Cond.code yX2_fly cX2_fly 3 none, Cond.methodLink RX2 62 yX2_arrives, Cond.instanceMethod yX2_arrives, Cond.selects RX2 yX2_arrives yX2_arrives, Cond.code yX2_arrives cX2_arrives 5 none, Cond.fieldLink RX2 23 "PauseLedgerModel" "mark" "I", Cond.fieldLink RX2 59 "PauseLedgerModel" "end" "I", Cond.methodLink RX2 56 yX2_pair, Cond.static yX2_pair, Cond.code yX2_pair cX2_pair 2 (some .int)]
def wsX2_pass : List Cond := .code yX2_pass cX2_pass 3 (some .int) :: ((wsX2_pass_r1 ++ wsX2_pass_r2) ++ wsX20)
def wsX2_guests : List Cond := .code yX2_guests cX2_guests 1 (some .int) :: ([.fieldLink RX2 7 "PauseLedgerModel" "guests" "I", .methodLink RX2 99 yX2_told, .instanceMethod yX2_told, .selects RX2 yX2_told yX2_told, .initialized RX2, .code yX2_told cX2_told 2 (some .int), .fieldLink RX2 26 "PauseLedgerModel" "thrown" "I"] ++ wsX20)
def wsX2_seconds : List Cond := .code yX2_seconds cX2_seconds 1 (some .int) :: ([.fieldLink RX2 16 "PauseLedgerModel" "now" "[I", .methodLink RX2 99 yX2_told, .instanceMethod yX2_told, .selects RX2 yX2_told yX2_told, .initialized RX2, .code yX2_told cX2_told 2 (some .int), .fieldLink RX2 26 "PauseLedgerModel" "thrown" "I"] ++ wsX20)
def wsX2_limit : List Cond := .code yX2_limit cX2_limit 1 (some .int) :: ([.fieldLink RX2 13 "PauseLedgerModel" "limit" "I", .methodLink RX2 99 yX2_told, .instanceMethod yX2_told, .selects RX2 yX2_told yX2_told, .initialized RX2, .code yX2_told cX2_told 2 (some .int), .fieldLink RX2 26 "PauseLedgerModel" "thrown" "I"] ++ wsX20)
def wsX2_seatsApart_r1 : List Cond := [Cond.fieldLink RX2 26 "PauseLedgerModel" "thrown" "I", Cond.methodLink RX2 81 yX2_isGuest, Cond.instanceMethod yX2_isGuest, Cond.selects RX2 yX2_isGuest yX2_isGuest, Cond.initialized RX2, Cond.code yX2_isGuest cX2_isGuest 2 (some .boolean), Cond.fieldLink RX2 7 "PauseLedgerModel" "guests" "I", Cond.methodLink RX2 29 yX2_isIn, Cond.static yX2_isIn, Cond.code yX2_isIn cX2_isIn 3 (some .boolean), Cond.methodLink RX2 85 yX2_apart, Cond.instanceMethod yX2_apart, Cond.selects RX2 yX2_apart yX2_apart, Cond.code yX2_apart cX2_apart 4 (some .int), Cond.methodLink RX2 39 Lib.Math.abs.name, Cond.static Lib.Math.abs.name, Cond.initialized "java/lang/Math", Cond.code Lib.Math.abs.name Lib.Math.abs.code 1 (some .int), Cond.methodLink RX2 45 Lib.Math.min.name, Cond.static Lib.Math.min.name, Cond.code Lib.Math.min.name Lib.Math.min.code 2 (some .int), Cond.methodLink RX2 75 yX2_fail, Cond.instanceMethod yX2_fail, Cond.selects RX2 yX2_fail yX2_fail]
def wsX2_seatsApart_r2 : List Cond := [Cond.code yX2_fail cX2_fail 2 (some .int)]
def wsX2_seatsApart : List Cond := .code yX2_seatsApart cX2_seatsApart 3 (some .int) :: ((wsX2_seatsApart_r1 ++ wsX2_seatsApart_r2) ++ wsX20)
def wsX2_speaker : List Cond := .code yX2_speaker cX2_speaker 1 (some .int) :: ([.fieldLink RX2 16 "PauseLedgerModel" "now" "[I", .methodLink RX2 99 yX2_told, .instanceMethod yX2_told, .selects RX2 yX2_told yX2_told, .initialized RX2, .code yX2_told cX2_told 2 (some .int), .fieldLink RX2 26 "PauseLedgerModel" "thrown" "I"] ++ wsX20)
def wsX2_left : List Cond := .code yX2_left cX2_left 1 (some .int) :: ([.fieldLink RX2 16 "PauseLedgerModel" "now" "[I"] ++ wsX20)
def wsX2_secondsToSpeak : List Cond := .code yX2_secondsToSpeak cX2_secondsToSpeak 1 (some .int) :: ([.methodLink RX2 102 yX2_left, .instanceMethod yX2_left, .selects RX2 yX2_left yX2_left, .initialized RX2, .code yX2_left cX2_left 1 (some .int), .fieldLink RX2 16 "PauseLedgerModel" "now" "[I", .methodLink RX2 99 yX2_told, .instanceMethod yX2_told, .selects RX2 yX2_told yX2_told, .code yX2_told cX2_told 2 (some .int), .fieldLink RX2 26 "PauseLedgerModel" "thrown" "I"] ++ wsX20)
def wsX2_pause : List Cond := .code yX2_pause cX2_pause 1 (some .int) :: ([.fieldLink RX2 16 "PauseLedgerModel" "now" "[I", .methodLink RX2 99 yX2_told, .instanceMethod yX2_told, .selects RX2 yX2_told yX2_told, .initialized RX2, .code yX2_told cX2_told 2 (some .int), .fieldLink RX2 26 "PauseLedgerModel" "thrown" "I"] ++ wsX20)
def wsX2_guest : List Cond := .code yX2_guest cX2_guest 3 (some .int) :: ([.fieldLink RX2 26 "PauseLedgerModel" "thrown" "I", .fieldLink RX2 16 "PauseLedgerModel" "now" "[I", .methodLink RX2 81 yX2_isGuest, .instanceMethod yX2_isGuest, .selects RX2 yX2_isGuest yX2_isGuest, .initialized RX2, .code yX2_isGuest cX2_isGuest 2 (some .boolean), .fieldLink RX2 7 "PauseLedgerModel" "guests" "I", .methodLink RX2 29 yX2_isIn, .static yX2_isIn, .code yX2_isIn cX2_isIn 3 (some .boolean), .methodLink RX2 75 yX2_fail, .instanceMethod yX2_fail, .selects RX2 yX2_fail yX2_fail, .code yX2_fail cX2_fail 2 (some .int)] ++ wsX20)
def wsX2_spokenBy : List Cond := .code yX2_spokenBy cX2_spokenBy 2 (some .int) :: ([.methodLink RX2 105 yX2_guest, .instanceMethod yX2_guest, .selects RX2 yX2_guest yX2_guest, .initialized RX2, .code yX2_guest cX2_guest 3 (some .int), .fieldLink RX2 26 "PauseLedgerModel" "thrown" "I", .fieldLink RX2 16 "PauseLedgerModel" "now" "[I", .methodLink RX2 81 yX2_isGuest, .instanceMethod yX2_isGuest, .selects RX2 yX2_isGuest yX2_isGuest, .code yX2_isGuest cX2_isGuest 2 (some .boolean), .fieldLink RX2 7 "PauseLedgerModel" "guests" "I", .methodLink RX2 29 yX2_isIn, .static yX2_isIn, .code yX2_isIn cX2_isIn 3 (some .boolean), .methodLink RX2 75 yX2_fail, .instanceMethod yX2_fail, .selects RX2 yX2_fail yX2_fail, .code yX2_fail cX2_fail 2 (some .int)] ++ wsX20)
def wsX2_interruptionsBy : List Cond := .code yX2_interruptionsBy cX2_interruptionsBy 2 (some .int) :: ([.methodLink RX2 105 yX2_guest, .instanceMethod yX2_guest, .selects RX2 yX2_guest yX2_guest, .initialized RX2, .code yX2_guest cX2_guest 3 (some .int), .fieldLink RX2 26 "PauseLedgerModel" "thrown" "I", .fieldLink RX2 16 "PauseLedgerModel" "now" "[I", .methodLink RX2 81 yX2_isGuest, .instanceMethod yX2_isGuest, .selects RX2 yX2_isGuest yX2_isGuest, .code yX2_isGuest cX2_isGuest 2 (some .boolean), .fieldLink RX2 7 "PauseLedgerModel" "guests" "I", .methodLink RX2 29 yX2_isIn, .static yX2_isIn, .code yX2_isIn cX2_isIn 3 (some .boolean), .methodLink RX2 75 yX2_fail, .instanceMethod yX2_fail, .selects RX2 yX2_fail yX2_fail, .code yX2_fail cX2_fail 2 (some .int)] ++ wsX20)
def wsX2_coughsOf : List Cond := .code yX2_coughsOf cX2_coughsOf 2 (some .int) :: ([.methodLink RX2 105 yX2_guest, .instanceMethod yX2_guest, .selects RX2 yX2_guest yX2_guest, .initialized RX2, .code yX2_guest cX2_guest 3 (some .int), .fieldLink RX2 26 "PauseLedgerModel" "thrown" "I", .fieldLink RX2 16 "PauseLedgerModel" "now" "[I", .methodLink RX2 81 yX2_isGuest, .instanceMethod yX2_isGuest, .selects RX2 yX2_isGuest yX2_isGuest, .code yX2_isGuest cX2_isGuest 2 (some .boolean), .fieldLink RX2 7 "PauseLedgerModel" "guests" "I", .methodLink RX2 29 yX2_isIn, .static yX2_isIn, .code yX2_isIn cX2_isIn 3 (some .boolean), .methodLink RX2 75 yX2_fail, .instanceMethod yX2_fail, .selects RX2 yX2_fail yX2_fail, .code yX2_fail cX2_fail 2 (some .int)] ++ wsX20)
def wsX2_unsaidBy : List Cond := .code yX2_unsaidBy cX2_unsaidBy 2 (some .int) :: ([.methodLink RX2 105 yX2_guest, .instanceMethod yX2_guest, .selects RX2 yX2_guest yX2_guest, .initialized RX2, .code yX2_guest cX2_guest 3 (some .int), .fieldLink RX2 26 "PauseLedgerModel" "thrown" "I", .fieldLink RX2 16 "PauseLedgerModel" "now" "[I", .methodLink RX2 81 yX2_isGuest, .instanceMethod yX2_isGuest, .selects RX2 yX2_isGuest yX2_isGuest, .code yX2_isGuest cX2_isGuest 2 (some .boolean), .fieldLink RX2 7 "PauseLedgerModel" "guests" "I", .methodLink RX2 29 yX2_isIn, .static yX2_isIn, .code yX2_isIn cX2_isIn 3 (some .boolean), .methodLink RX2 75 yX2_fail, .instanceMethod yX2_fail, .selects RX2 yX2_fail yX2_fail, .code yX2_fail cX2_fail 2 (some .int)] ++ wsX20)
def wsX2_flight : List Cond := .code yX2_flight cX2_flight 4 (some .int) :: ([.fieldLink RX2 26 "PauseLedgerModel" "thrown" "I", .fieldLink RX2 16 "PauseLedgerModel" "now" "[I", .methodLink RX2 81 yX2_isGuest, .instanceMethod yX2_isGuest, .selects RX2 yX2_isGuest yX2_isGuest, .initialized RX2, .code yX2_isGuest cX2_isGuest 2 (some .boolean), .fieldLink RX2 7 "PauseLedgerModel" "guests" "I", .methodLink RX2 29 yX2_isIn, .static yX2_isIn, .code yX2_isIn cX2_isIn 3 (some .boolean), .methodLink RX2 56 yX2_pair, .static yX2_pair, .code yX2_pair cX2_pair 2 (some .int), .methodLink RX2 75 yX2_fail, .instanceMethod yX2_fail, .selects RX2 yX2_fail yX2_fail, .code yX2_fail cX2_fail 2 (some .int)] ++ wsX20)
def wsX2_isUnderWay : List Cond := .code yX2_isUnderWay cX2_isUnderWay 3 (some .boolean) :: ([.methodLink RX2 108 yX2_flight, .instanceMethod yX2_flight, .selects RX2 yX2_flight yX2_flight, .initialized RX2, .code yX2_flight cX2_flight 4 (some .int), .fieldLink RX2 26 "PauseLedgerModel" "thrown" "I", .fieldLink RX2 16 "PauseLedgerModel" "now" "[I", .methodLink RX2 81 yX2_isGuest, .instanceMethod yX2_isGuest, .selects RX2 yX2_isGuest yX2_isGuest, .code yX2_isGuest cX2_isGuest 2 (some .boolean), .fieldLink RX2 7 "PauseLedgerModel" "guests" "I", .methodLink RX2 29 yX2_isIn, .static yX2_isIn, .code yX2_isIn cX2_isIn 3 (some .boolean), .methodLink RX2 56 yX2_pair, .static yX2_pair, .code yX2_pair cX2_pair 2 (some .int), .methodLink RX2 75 yX2_fail, .instanceMethod yX2_fail, .selects RX2 yX2_fail yX2_fail, .code yX2_fail cX2_fail 2 (some .int)] ++ wsX20)
def wsX2_secondsToGo : List Cond := .code yX2_secondsToGo cX2_secondsToGo 3 (some .int) :: ([.methodLink RX2 108 yX2_flight, .instanceMethod yX2_flight, .selects RX2 yX2_flight yX2_flight, .initialized RX2, .code yX2_flight cX2_flight 4 (some .int), .fieldLink RX2 26 "PauseLedgerModel" "thrown" "I", .fieldLink RX2 16 "PauseLedgerModel" "now" "[I", .methodLink RX2 81 yX2_isGuest, .instanceMethod yX2_isGuest, .selects RX2 yX2_isGuest yX2_isGuest, .code yX2_isGuest cX2_isGuest 2 (some .boolean), .fieldLink RX2 7 "PauseLedgerModel" "guests" "I", .methodLink RX2 29 yX2_isIn, .static yX2_isIn, .code yX2_isIn cX2_isIn 3 (some .boolean), .methodLink RX2 56 yX2_pair, .static yX2_pair, .code yX2_pair cX2_pair 2 (some .int), .methodLink RX2 75 yX2_fail, .instanceMethod yX2_fail, .selects RX2 yX2_fail yX2_fail, .code yX2_fail cX2_fail 2 (some .int)] ++ wsX20)
def wsX2_caughtBy : List Cond := .code yX2_caughtBy cX2_caughtBy 3 (some .int) :: ([.methodLink RX2 108 yX2_flight, .instanceMethod yX2_flight, .selects RX2 yX2_flight yX2_flight, .initialized RX2, .code yX2_flight cX2_flight 4 (some .int), .fieldLink RX2 26 "PauseLedgerModel" "thrown" "I", .fieldLink RX2 16 "PauseLedgerModel" "now" "[I", .methodLink RX2 81 yX2_isGuest, .instanceMethod yX2_isGuest, .selects RX2 yX2_isGuest yX2_isGuest, .code yX2_isGuest cX2_isGuest 2 (some .boolean), .fieldLink RX2 7 "PauseLedgerModel" "guests" "I", .methodLink RX2 29 yX2_isIn, .static yX2_isIn, .code yX2_isIn cX2_isIn 3 (some .boolean), .methodLink RX2 56 yX2_pair, .static yX2_pair, .code yX2_pair cX2_pair 2 (some .int), .methodLink RX2 75 yX2_fail, .instanceMethod yX2_fail, .selects RX2 yX2_fail yX2_fail, .code yX2_fail cX2_fail 2 (some .int)] ++ wsX20)
def wsX2_unsaidInPauses : List Cond := .code yX2_unsaidInPauses cX2_unsaidInPauses 1 (some .int) :: ([.fieldLink RX2 16 "PauseLedgerModel" "now" "[I", .methodLink RX2 99 yX2_told, .instanceMethod yX2_told, .selects RX2 yX2_told yX2_told, .initialized RX2, .code yX2_told cX2_told 2 (some .int), .fieldLink RX2 26 "PauseLedgerModel" "thrown" "I"] ++ wsX20)
def wsX2_allUnsaid : List Cond := .code yX2_allUnsaid cX2_allUnsaid 1 (some .int) :: ([.methodLink RX2 49 yX2_unsaid, .instanceMethod yX2_unsaid, .selects RX2 yX2_unsaid yX2_unsaid, .initialized RX2, .code yX2_unsaid cX2_unsaid 3 (some .int), .fieldLink RX2 16 "PauseLedgerModel" "now" "[I", .fieldLink RX2 7 "PauseLedgerModel" "guests" "I", .methodLink RX2 99 yX2_told, .instanceMethod yX2_told, .selects RX2 yX2_told yX2_told, .code yX2_told cX2_told 2 (some .int), .fieldLink RX2 26 "PauseLedgerModel" "thrown" "I"] ++ wsX20)
def wsX2_underWay : List Cond := .code yX2_underWay cX2_underWay 3 (some .int) :: ([.fieldLink RX2 16 "PauseLedgerModel" "now" "[I"] ++ wsX20)
def wsX2_glancesUnderWay : List Cond := .code yX2_glancesUnderWay cX2_glancesUnderWay 1 (some .int) :: ([.methodLink RX2 112 yX2_underWay, .instanceMethod yX2_underWay, .selects RX2 yX2_underWay yX2_underWay, .initialized RX2, .code yX2_underWay cX2_underWay 3 (some .int), .fieldLink RX2 16 "PauseLedgerModel" "now" "[I", .methodLink RX2 99 yX2_told, .instanceMethod yX2_told, .selects RX2 yX2_told yX2_told, .code yX2_told cX2_told 2 (some .int), .fieldLink RX2 26 "PauseLedgerModel" "thrown" "I"] ++ wsX20)
def wsX2_meetings : List Cond := .code yX2_meetings cX2_meetings 1 (some .int) :: ([.fieldLink RX2 16 "PauseLedgerModel" "now" "[I", .methodLink RX2 99 yX2_told, .instanceMethod yX2_told, .selects RX2 yX2_told yX2_told, .initialized RX2, .code yX2_told cX2_told 2 (some .int), .fieldLink RX2 26 "PauseLedgerModel" "thrown" "I"] ++ wsX20)
def wsX2_lostGlances : List Cond := .code yX2_lostGlances cX2_lostGlances 1 (some .int) :: ([.fieldLink RX2 16 "PauseLedgerModel" "now" "[I", .methodLink RX2 99 yX2_told, .instanceMethod yX2_told, .selects RX2 yX2_told yX2_told, .initialized RX2, .code yX2_told cX2_told 2 (some .int), .fieldLink RX2 26 "PauseLedgerModel" "thrown" "I"] ++ wsX20)
def wsX2_quietest : List Cond := .code yX2_quietest cX2_quietest 3 (some .int) :: ([.fieldLink RX2 26 "PauseLedgerModel" "thrown" "I", .fieldLink RX2 7 "PauseLedgerModel" "guests" "I", .fieldLink RX2 16 "PauseLedgerModel" "now" "[I"] ++ wsX20)
def wsX2_rating : List Cond := .code yX2_rating cX2_rating 1 (some .int) :: ([.methodLink RX2 78 yX2_rated, .instanceMethod yX2_rated, .selects RX2 yX2_rated yX2_rated, .initialized RX2, .code yX2_rated cX2_rated 1 (some .int), .fieldLink RX2 7 "PauseLedgerModel" "guests" "I", .methodLink RX2 39 Lib.Math.abs.name, .static Lib.Math.abs.name, .initialized "java/lang/Math", .code Lib.Math.abs.name Lib.Math.abs.code 1 (some .int), .methodLink RX2 53 Lib.Math.max.name, .static Lib.Math.max.name, .code Lib.Math.max.name Lib.Math.max.code 2 (some .int), .methodLink RX2 49 yX2_unsaid, .instanceMethod yX2_unsaid, .selects RX2 yX2_unsaid yX2_unsaid, .code yX2_unsaid cX2_unsaid 3 (some .int), .fieldLink RX2 16 "PauseLedgerModel" "now" "[I", .methodLink RX2 99 yX2_told, .instanceMethod yX2_told, .selects RX2 yX2_told yX2_told, .code yX2_told cX2_told 2 (some .int), .fieldLink RX2 26 "PauseLedgerModel" "thrown" "I"] ++ wsX20)
def wsX2_allUnsaidIn_r1 : List Cond := [Cond.fieldLink RX2 26 "PauseLedgerModel" "thrown" "I", Cond.methodLink RX2 29 yX2_isIn, Cond.static yX2_isIn, Cond.initialized RX2, Cond.code yX2_isIn cX2_isIn 3 (some .boolean), Cond.methodLink RX2 75 yX2_fail, Cond.instanceMethod yX2_fail, Cond.selects RX2 yX2_fail yX2_fail, Cond.code yX2_fail cX2_fail 2 (some .int), Cond.methodLink RX2 115 yX2_keep, Cond.instanceMethod yX2_keep, Cond.selects RX2 yX2_keep yX2_keep, Cond.code yX2_keep cX2_keep 1 none, Cond.fieldLink RX2 16 "PauseLedgerModel" "now" "[I", Cond.fieldLink RX2 20 "PauseLedgerModel" "kept" "[I", Cond.methodLink RX2 33 arraycopyName, Cond.native arraycopyName, Cond.static arraycopyName, Cond.initialized "java/lang/System", Cond.methodLink RX2 95 yX2_secondsOn, Cond.instanceMethod yX2_secondsOn, Cond.selects RX2 yX2_secondsOn yX2_secondsOn, Cond.code yX2_secondsOn cX2_secondsOn 3 none, Cond.methodLink RX2 72 yX2_secondOn]
def wsX2_allUnsaidIn_r2 : List Cond := [Cond.instanceMethod yX2_secondOn, Cond.selects RX2 yX2_secondOn yX2_secondOn, Cond.code yX2_secondOn cX2_secondOn 1 none, Cond.methodLink RX2 66 yX2_talk, Cond.instanceMethod yX2_talk, Cond.selects RX2 yX2_talk yX2_talk, Cond.code yX2_talk cX2_talk 2 none, Cond.fieldLink RX2 13 "PauseLedgerModel" "limit" "I", Cond.methodLink RX2 69 yX2_fly, Cond.instanceMethod yX2_fly, Cond.selects RX2 yX2_fly yX2_fly, Cond.code yX2_fly cX2_fly 3 none, Cond.methodLink RX2 62 yX2_arrives, Cond.instanceMethod yX2_arrives, Cond.selects RX2 yX2_arrives yX2_arrives, Cond.code yX2_arrives cX2_arrives 5 none, Cond.fieldLink RX2 23 "PauseLedgerModel" "mark" "I", Cond.fieldLink RX2 59 "PauseLedgerModel" "end" "I", Cond.methodLink RX2 56 yX2_pair, Cond.static yX2_pair, Cond.code yX2_pair cX2_pair 2 (some .int), Cond.methodLink RX2 49 yX2_unsaid, Cond.instanceMethod yX2_unsaid, Cond.selects RX2 yX2_unsaid yX2_unsaid]
def wsX2_allUnsaidIn_r3 : List Cond := [Cond.code yX2_unsaid cX2_unsaid 3 (some .int), Cond.fieldLink RX2 7 "PauseLedgerModel" "guests" "I", Cond.methodLink RX2 118 yX2_bringBack, Cond.instanceMethod yX2_bringBack, Cond.selects RX2 yX2_bringBack yX2_bringBack, Cond.code yX2_bringBack cX2_bringBack 1 none]
def wsX2_allUnsaidIn : List Cond := .code yX2_allUnsaidIn cX2_allUnsaidIn 3 (some .int) :: ((wsX2_allUnsaidIn_r1 ++ (wsX2_allUnsaidIn_r2 ++ wsX2_allUnsaidIn_r3)) ++ wsX20)
def wsX2_secondsUntilPauseCounts : List Cond := .code yX2_secondsUntilPauseCounts cX2_secondsUntilPauseCounts 1 (some .int) :: ([.fieldLink RX2 16 "PauseLedgerModel" "now" "[I", .fieldLink RX2 13 "PauseLedgerModel" "limit" "I", .methodLink RX2 99 yX2_told, .instanceMethod yX2_told, .selects RX2 yX2_told yX2_told, .initialized RX2, .code yX2_told cX2_told 2 (some .int), .fieldLink RX2 26 "PauseLedgerModel" "thrown" "I"] ++ wsX20)
def wsX2_becomes_r1 : List Cond := [Cond.fieldLink RX2 23 "PauseLedgerModel" "mark" "I", Cond.fieldLink RX2 16 "PauseLedgerModel" "now" "[I", Cond.fieldLink RX2 59 "PauseLedgerModel" "end" "I", Cond.methodLink RX2 92 yX2_send, Cond.instanceMethod yX2_send, Cond.selects RX2 yX2_send yX2_send, Cond.initialized RX2, Cond.code yX2_send cX2_send 3 (some .int), Cond.methodLink RX2 56 yX2_pair, Cond.static yX2_pair, Cond.code yX2_pair cX2_pair 2 (some .int), Cond.methodLink RX2 85 yX2_apart, Cond.instanceMethod yX2_apart, Cond.selects RX2 yX2_apart yX2_apart, Cond.code yX2_apart cX2_apart 4 (some .int), Cond.methodLink RX2 39 Lib.Math.abs.name, Cond.static Lib.Math.abs.name, Cond.initialized "java/lang/Math", Cond.code Lib.Math.abs.name Lib.Math.abs.code 1 (some .int), Cond.fieldLink RX2 7 "PauseLedgerModel" "guests" "I", Cond.methodLink RX2 45 Lib.Math.min.name, Cond.static Lib.Math.min.name, Cond.code Lib.Math.min.name Lib.Math.min.code 2 (some .int), Cond.methodLink RX2 72 yX2_secondOn]
def wsX2_becomes_r2 : List Cond := [Cond.instanceMethod yX2_secondOn, Cond.selects RX2 yX2_secondOn yX2_secondOn, Cond.code yX2_secondOn cX2_secondOn 1 none, Cond.methodLink RX2 66 yX2_talk, Cond.instanceMethod yX2_talk, Cond.selects RX2 yX2_talk yX2_talk, Cond.code yX2_talk cX2_talk 2 none, Cond.fieldLink RX2 13 "PauseLedgerModel" "limit" "I", Cond.methodLink RX2 69 yX2_fly, Cond.instanceMethod yX2_fly, Cond.selects RX2 yX2_fly yX2_fly, Cond.code yX2_fly cX2_fly 3 none, Cond.methodLink RX2 62 yX2_arrives, Cond.instanceMethod yX2_arrives, Cond.selects RX2 yX2_arrives yX2_arrives, Cond.code yX2_arrives cX2_arrives 5 none, Cond.methodLink RX2 118 yX2_bringBack, Cond.instanceMethod yX2_bringBack, Cond.selects RX2 yX2_bringBack yX2_bringBack, Cond.code yX2_bringBack cX2_bringBack 1 none, Cond.fieldLink RX2 20 "PauseLedgerModel" "kept" "[I", Cond.methodLink RX2 33 arraycopyName, Cond.native arraycopyName, Cond.static arraycopyName]
def wsX2_becomes_r3 : List Cond := [Cond.initialized "java/lang/System"]
def wsX2_becomes : List Cond := .code yX2_becomes cX2_becomes 4 (some .int) :: ((wsX2_becomes_r1 ++ (wsX2_becomes_r2 ++ wsX2_becomes_r3)) ++ wsX20)
def wsX2_wouldLeave_r1 : List Cond := [Cond.methodLink RX2 88 yX2_canSend, Cond.instanceMethod yX2_canSend, Cond.selects RX2 yX2_canSend yX2_canSend, Cond.initialized RX2, Cond.code yX2_canSend cX2_canSend 3 (some .boolean), Cond.fieldLink RX2 16 "PauseLedgerModel" "now" "[I", Cond.fieldLink RX2 26 "PauseLedgerModel" "thrown" "I", Cond.methodLink RX2 81 yX2_isGuest, Cond.instanceMethod yX2_isGuest, Cond.selects RX2 yX2_isGuest yX2_isGuest, Cond.code yX2_isGuest cX2_isGuest 2 (some .boolean), Cond.fieldLink RX2 7 "PauseLedgerModel" "guests" "I", Cond.methodLink RX2 29 yX2_isIn, Cond.static yX2_isIn, Cond.code yX2_isIn cX2_isIn 3 (some .boolean), Cond.methodLink RX2 56 yX2_pair, Cond.static yX2_pair, Cond.code yX2_pair cX2_pair 2 (some .int), Cond.methodLink RX2 115 yX2_keep, Cond.instanceMethod yX2_keep, Cond.selects RX2 yX2_keep yX2_keep, Cond.code yX2_keep cX2_keep 1 none, Cond.fieldLink RX2 20 "PauseLedgerModel" "kept" "[I", Cond.methodLink RX2 33 arraycopyName]
def wsX2_wouldLeave_r2 : List Cond := [Cond.native arraycopyName, Cond.static arraycopyName, Cond.initialized "java/lang/System", Cond.methodLink RX2 121 yX2_becomes, Cond.instanceMethod yX2_becomes, Cond.selects RX2 yX2_becomes yX2_becomes, Cond.code yX2_becomes cX2_becomes 4 (some .int), Cond.fieldLink RX2 23 "PauseLedgerModel" "mark" "I", Cond.fieldLink RX2 59 "PauseLedgerModel" "end" "I", Cond.methodLink RX2 92 yX2_send, Cond.instanceMethod yX2_send, Cond.selects RX2 yX2_send yX2_send, Cond.code yX2_send cX2_send 3 (some .int), Cond.methodLink RX2 85 yX2_apart, Cond.instanceMethod yX2_apart, Cond.selects RX2 yX2_apart yX2_apart, Cond.code yX2_apart cX2_apart 4 (some .int), Cond.methodLink RX2 39 Lib.Math.abs.name, Cond.static Lib.Math.abs.name, Cond.initialized "java/lang/Math", Cond.code Lib.Math.abs.name Lib.Math.abs.code 1 (some .int), Cond.methodLink RX2 45 Lib.Math.min.name, Cond.static Lib.Math.min.name, Cond.code Lib.Math.min.name Lib.Math.min.code 2 (some .int)]
def wsX2_wouldLeave_r3 : List Cond := [Cond.methodLink RX2 72 yX2_secondOn, Cond.instanceMethod yX2_secondOn, Cond.selects RX2 yX2_secondOn yX2_secondOn, Cond.code yX2_secondOn cX2_secondOn 1 none, Cond.methodLink RX2 66 yX2_talk, Cond.instanceMethod yX2_talk, Cond.selects RX2 yX2_talk yX2_talk, Cond.code yX2_talk cX2_talk 2 none, Cond.fieldLink RX2 13 "PauseLedgerModel" "limit" "I", Cond.methodLink RX2 69 yX2_fly, Cond.instanceMethod yX2_fly, Cond.selects RX2 yX2_fly yX2_fly, Cond.code yX2_fly cX2_fly 3 none, Cond.methodLink RX2 62 yX2_arrives, Cond.instanceMethod yX2_arrives, Cond.selects RX2 yX2_arrives yX2_arrives, Cond.code yX2_arrives cX2_arrives 5 none, Cond.methodLink RX2 118 yX2_bringBack, Cond.instanceMethod yX2_bringBack, Cond.selects RX2 yX2_bringBack yX2_bringBack, Cond.code yX2_bringBack cX2_bringBack 1 none]
def wsX2_wouldLeave : List Cond := .code yX2_wouldLeave cX2_wouldLeave 3 (some .int) :: ((wsX2_wouldLeave_r1 ++ (wsX2_wouldLeave_r2 ++ wsX2_wouldLeave_r3)) ++ wsX20)
def wsX2_bestMoment_r1 : List Cond := [Cond.methodLink RX2 88 yX2_canSend, Cond.instanceMethod yX2_canSend, Cond.selects RX2 yX2_canSend yX2_canSend, Cond.initialized RX2, Cond.code yX2_canSend cX2_canSend 3 (some .boolean), Cond.fieldLink RX2 16 "PauseLedgerModel" "now" "[I", Cond.fieldLink RX2 26 "PauseLedgerModel" "thrown" "I", Cond.methodLink RX2 81 yX2_isGuest, Cond.instanceMethod yX2_isGuest, Cond.selects RX2 yX2_isGuest yX2_isGuest, Cond.code yX2_isGuest cX2_isGuest 2 (some .boolean), Cond.fieldLink RX2 7 "PauseLedgerModel" "guests" "I", Cond.methodLink RX2 29 yX2_isIn, Cond.static yX2_isIn, Cond.code yX2_isIn cX2_isIn 3 (some .boolean), Cond.methodLink RX2 56 yX2_pair, Cond.static yX2_pair, Cond.code yX2_pair cX2_pair 2 (some .int), Cond.methodLink RX2 115 yX2_keep, Cond.instanceMethod yX2_keep, Cond.selects RX2 yX2_keep yX2_keep, Cond.code yX2_keep cX2_keep 1 none, Cond.fieldLink RX2 20 "PauseLedgerModel" "kept" "[I", Cond.methodLink RX2 33 arraycopyName]
def wsX2_bestMoment_r2 : List Cond := [Cond.native arraycopyName, Cond.static arraycopyName, Cond.initialized "java/lang/System", Cond.methodLink RX2 95 yX2_secondsOn, Cond.instanceMethod yX2_secondsOn, Cond.selects RX2 yX2_secondsOn yX2_secondsOn, Cond.code yX2_secondsOn cX2_secondsOn 3 none, Cond.methodLink RX2 72 yX2_secondOn, Cond.instanceMethod yX2_secondOn, Cond.selects RX2 yX2_secondOn yX2_secondOn, Cond.code yX2_secondOn cX2_secondOn 1 none, Cond.methodLink RX2 66 yX2_talk, Cond.instanceMethod yX2_talk, Cond.selects RX2 yX2_talk yX2_talk, Cond.code yX2_talk cX2_talk 2 none, Cond.fieldLink RX2 13 "PauseLedgerModel" "limit" "I", Cond.methodLink RX2 69 yX2_fly, Cond.instanceMethod yX2_fly, Cond.selects RX2 yX2_fly yX2_fly, Cond.code yX2_fly cX2_fly 3 none, Cond.methodLink RX2 62 yX2_arrives, Cond.instanceMethod yX2_arrives, Cond.selects RX2 yX2_arrives yX2_arrives, Cond.code yX2_arrives cX2_arrives 5 none]
def wsX2_bestMoment_r3 : List Cond := [Cond.fieldLink RX2 23 "PauseLedgerModel" "mark" "I", Cond.fieldLink RX2 59 "PauseLedgerModel" "end" "I", Cond.methodLink RX2 121 yX2_becomes, Cond.instanceMethod yX2_becomes, Cond.selects RX2 yX2_becomes yX2_becomes, Cond.code yX2_becomes cX2_becomes 4 (some .int), Cond.methodLink RX2 92 yX2_send, Cond.instanceMethod yX2_send, Cond.selects RX2 yX2_send yX2_send, Cond.code yX2_send cX2_send 3 (some .int), Cond.methodLink RX2 85 yX2_apart, Cond.instanceMethod yX2_apart, Cond.selects RX2 yX2_apart yX2_apart, Cond.code yX2_apart cX2_apart 4 (some .int), Cond.methodLink RX2 39 Lib.Math.abs.name, Cond.static Lib.Math.abs.name, Cond.initialized "java/lang/Math", Cond.code Lib.Math.abs.name Lib.Math.abs.code 1 (some .int), Cond.methodLink RX2 45 Lib.Math.min.name, Cond.static Lib.Math.min.name, Cond.code Lib.Math.min.name Lib.Math.min.code 2 (some .int), Cond.methodLink RX2 118 yX2_bringBack, Cond.instanceMethod yX2_bringBack, Cond.selects RX2 yX2_bringBack yX2_bringBack]
def wsX2_bestMoment_r4 : List Cond := [Cond.code yX2_bringBack cX2_bringBack 1 none]
def wsX2_bestMoment : List Cond := .code yX2_bestMoment cX2_bestMoment 4 (some .int) :: ((wsX2_bestMoment_r1 ++ (wsX2_bestMoment_r2 ++ (wsX2_bestMoment_r3 ++ wsX2_bestMoment_r4))) ++ wsX20)
def wsX2_ratingIn_r1 : List Cond := [Cond.fieldLink RX2 26 "PauseLedgerModel" "thrown" "I", Cond.methodLink RX2 29 yX2_isIn, Cond.static yX2_isIn, Cond.initialized RX2, Cond.code yX2_isIn cX2_isIn 3 (some .boolean), Cond.methodLink RX2 75 yX2_fail, Cond.instanceMethod yX2_fail, Cond.selects RX2 yX2_fail yX2_fail, Cond.code yX2_fail cX2_fail 2 (some .int), Cond.methodLink RX2 115 yX2_keep, Cond.instanceMethod yX2_keep, Cond.selects RX2 yX2_keep yX2_keep, Cond.code yX2_keep cX2_keep 1 none, Cond.fieldLink RX2 16 "PauseLedgerModel" "now" "[I", Cond.fieldLink RX2 20 "PauseLedgerModel" "kept" "[I", Cond.methodLink RX2 33 arraycopyName, Cond.native arraycopyName, Cond.static arraycopyName, Cond.initialized "java/lang/System", Cond.methodLink RX2 95 yX2_secondsOn, Cond.instanceMethod yX2_secondsOn, Cond.selects RX2 yX2_secondsOn yX2_secondsOn, Cond.code yX2_secondsOn cX2_secondsOn 3 none, Cond.methodLink RX2 72 yX2_secondOn]
def wsX2_ratingIn_r2 : List Cond := [Cond.instanceMethod yX2_secondOn, Cond.selects RX2 yX2_secondOn yX2_secondOn, Cond.code yX2_secondOn cX2_secondOn 1 none, Cond.methodLink RX2 66 yX2_talk, Cond.instanceMethod yX2_talk, Cond.selects RX2 yX2_talk yX2_talk, Cond.code yX2_talk cX2_talk 2 none, Cond.fieldLink RX2 13 "PauseLedgerModel" "limit" "I", Cond.methodLink RX2 69 yX2_fly, Cond.instanceMethod yX2_fly, Cond.selects RX2 yX2_fly yX2_fly, Cond.code yX2_fly cX2_fly 3 none, Cond.methodLink RX2 62 yX2_arrives, Cond.instanceMethod yX2_arrives, Cond.selects RX2 yX2_arrives yX2_arrives, Cond.code yX2_arrives cX2_arrives 5 none, Cond.fieldLink RX2 23 "PauseLedgerModel" "mark" "I", Cond.fieldLink RX2 59 "PauseLedgerModel" "end" "I", Cond.methodLink RX2 56 yX2_pair, Cond.static yX2_pair, Cond.code yX2_pair cX2_pair 2 (some .int), Cond.methodLink RX2 78 yX2_rated, Cond.instanceMethod yX2_rated, Cond.selects RX2 yX2_rated yX2_rated]
def wsX2_ratingIn_r3 : List Cond := [Cond.code yX2_rated cX2_rated 1 (some .int), Cond.fieldLink RX2 7 "PauseLedgerModel" "guests" "I", Cond.methodLink RX2 39 Lib.Math.abs.name, Cond.static Lib.Math.abs.name, Cond.initialized "java/lang/Math", Cond.code Lib.Math.abs.name Lib.Math.abs.code 1 (some .int), Cond.methodLink RX2 53 Lib.Math.max.name, Cond.static Lib.Math.max.name, Cond.code Lib.Math.max.name Lib.Math.max.code 2 (some .int), Cond.methodLink RX2 49 yX2_unsaid, Cond.instanceMethod yX2_unsaid, Cond.selects RX2 yX2_unsaid yX2_unsaid, Cond.code yX2_unsaid cX2_unsaid 3 (some .int), Cond.methodLink RX2 118 yX2_bringBack, Cond.instanceMethod yX2_bringBack, Cond.selects RX2 yX2_bringBack yX2_bringBack, Cond.code yX2_bringBack cX2_bringBack 1 none]
def wsX2_ratingIn : List Cond := .code yX2_ratingIn cX2_ratingIn 3 (some .int) :: ((wsX2_ratingIn_r1 ++ (wsX2_ratingIn_r2 ++ wsX2_ratingIn_r3)) ++ wsX20)
def wsX2_meanUnsaid : List Cond := .code yX2_meanUnsaid cX2_meanUnsaid 1 (some .double) :: ([.fieldLink RX2 26 "PauseLedgerModel" "thrown" "I", .fieldLink RX2 16 "PauseLedgerModel" "now" "[I", .fieldLink RX2 7 "PauseLedgerModel" "guests" "I", .methodLink RX2 49 yX2_unsaid, .instanceMethod yX2_unsaid, .selects RX2 yX2_unsaid yX2_unsaid, .initialized RX2, .code yX2_unsaid cX2_unsaid 3 (some .int)] ++ wsX20)
def wsX2_digest_r1 : List Cond := [Cond.fieldLink RX2 26 "PauseLedgerModel" "thrown" "I", Cond.arrayClass .int, Cond.fieldLink RX2 7 "PauseLedgerModel" "guests" "I", Cond.fieldLink RX2 16 "PauseLedgerModel" "now" "[I", Cond.fieldLink RX2 13 "PauseLedgerModel" "limit" "I", Cond.constantLong RX2 124 (1973), Cond.constantLong RX2 126 (31), Cond.methodLink RX2 102 yX2_left, Cond.instanceMethod yX2_left, Cond.selects RX2 yX2_left yX2_left, Cond.initialized RX2, Cond.code yX2_left cX2_left 1 (some .int), Cond.methodLink RX2 112 yX2_underWay, Cond.instanceMethod yX2_underWay, Cond.selects RX2 yX2_underWay yX2_underWay, Cond.code yX2_underWay cX2_underWay 3 (some .int), Cond.methodLink RX2 78 yX2_rated, Cond.instanceMethod yX2_rated, Cond.selects RX2 yX2_rated yX2_rated, Cond.code yX2_rated cX2_rated 1 (some .int), Cond.methodLink RX2 39 Lib.Math.abs.name, Cond.static Lib.Math.abs.name, Cond.initialized "java/lang/Math", Cond.code Lib.Math.abs.name Lib.Math.abs.code 1 (some .int)]
def wsX2_digest_r2 : List Cond := [Cond.methodLink RX2 53 Lib.Math.max.name, Cond.static Lib.Math.max.name, Cond.code Lib.Math.max.name Lib.Math.max.code 2 (some .int), Cond.methodLink RX2 49 yX2_unsaid, Cond.instanceMethod yX2_unsaid, Cond.selects RX2 yX2_unsaid yX2_unsaid, Cond.code yX2_unsaid cX2_unsaid 3 (some .int), Cond.methodLink RX2 56 yX2_pair, Cond.static yX2_pair, Cond.code yX2_pair cX2_pair 2 (some .int)]
def wsX2_digest : List Cond := .code yX2_digest cX2_digest 8 (some .long) :: ((wsX2_digest_r1 ++ wsX2_digest_r2) ++ wsX20)
def wsJ9_abs_0f7a4 : List Cond := .code yJ9_abs_0f7a4 cJ9_abs_0f7a4 1 (some .int) :: ([])
def wsJ9_max_7cf53 : List Cond := .code yJ9_max_7cf53 cJ9_max_7cf53 2 (some .int) :: ([])
def wsJ9_min_7cf53 : List Cond := .code yJ9_min_7cf53 cJ9_min_7cf53 2 (some .int) :: ([])
def wsL_newDinner_r1 : List Cond := [Cond.classLink RL 13 "java/lang/IllegalArgumentException", Cond.methodLink RL 7 yX1_newDinner, Cond.instanceMethod yX1_newDinner, Cond.selects RX1 yX1_newDinner yX1_newDinner, Cond.initialized RX1, Cond.code yX1_newDinner cX1_newDinner 3 (some .int), Cond.fieldLink RX1 12 "PauseLedger" "dinner" "LPauseLedger$Dinner;", Cond.methodLink RX1 19 yX1_requireWithin, Cond.static yX1_requireWithin, Cond.code yX1_requireWithin cX1_requireWithin 3 none, Cond.classLink RX1 154 "java/lang/IllegalArgumentException", Cond.initialized "java/lang/IllegalArgumentException", Cond.methodLink RX1 23 yX0_rate, Cond.instanceMethod yX0_rate, Cond.selects RX0 yX0_rate yX0_rate, Cond.initialized RX0, Cond.code yX0_rate cX0_rate 2 (some .int), Cond.fieldLink RX0 41 "PauseLedger$Dinner" "guests" "I", Cond.methodLink RX0 114 Lib.Math.abs.name, Cond.static Lib.Math.abs.name, Cond.initialized "java/lang/Math", Cond.code Lib.Math.abs.name Lib.Math.abs.code 1 (some .int), Cond.methodLink RX0 135 Lib.Math.max.name, Cond.static Lib.Math.max.name]
def wsL_newDinner_r2 : List Cond := [Cond.code Lib.Math.max.name Lib.Math.max.code 2 (some .int), Cond.methodLink RX0 132 yX0_sumUnsaid, Cond.instanceMethod yX0_sumUnsaid, Cond.selects RX0 yX0_sumUnsaid yX0_sumUnsaid, Cond.code yX0_sumUnsaid cX0_sumUnsaid 1 (some .int), Cond.fieldLink RX0 56 "PauseLedger$Dinner" "unsaidInPauses" "I", Cond.methodLink RX0 128 yX0_sumUnsaidByGuests, Cond.instanceMethod yX0_sumUnsaidByGuests, Cond.selects RX0 yX0_sumUnsaidByGuests yX0_sumUnsaidByGuests, Cond.code yX0_sumUnsaidByGuests cX0_sumUnsaidByGuests 3 (some .int), Cond.fieldLink RX0 21 "PauseLedger$Dinner" "unsaid" "[I", Cond.methodLink RX1 27 yX0_begin, Cond.instanceMethod yX0_begin, Cond.selects RX0 yX0_begin yX0_begin, Cond.code yX0_begin cX0_begin 2 none, Cond.fieldLink RX0 44 "PauseLedger$Dinner" "seconds" "I", Cond.fieldLink RX0 47 "PauseLedger$Dinner" "speaker" "I", Cond.fieldLink RX0 50 "PauseLedger$Dinner" "toSpeak" "I", Cond.fieldLink RX0 53 "PauseLedger$Dinner" "pause" "I", Cond.fieldLink RX0 59 "PauseLedger$Dinner" "meetings" "I", Cond.fieldLink RX0 62 "PauseLedger$Dinner" "lost" "I", Cond.fieldLink RX0 65 "PauseLedger$Dinner" "sent" "I", Cond.fieldLink RX0 9 "PauseLedger$Dinner" "spoken" "[I", Cond.fieldLink RX0 15 "PauseLedger$Dinner" "interruptions" "[I"]
def wsL_newDinner_r3 : List Cond := [Cond.fieldLink RX0 18 "PauseLedger$Dinner" "coughs" "[I", Cond.fieldLink RX0 24 "PauseLedger$Dinner" "toGo" "[I", Cond.fieldLink RX0 27 "PauseLedger$Dinner" "caught" "[I", Cond.methodLink RX0 68 yJ7_fill_53178, Cond.static yJ7_fill_53178, Cond.initialized RJ7, Cond.code yJ7_fill_53178 cJ7_fill_53178 4 none]
def wsL_newDinner : List Cond := .codeWith yL_newDinner cL_newDinner 4 (some .int) [(0, 9, 12, 13)] :: ((wsL_newDinner_r1 ++ (wsL_newDinner_r2 ++ wsL_newDinner_r3)) ++ wsX10 ++ wsX00 ++ (vx_atS RX1 158 "java/lang/IllegalArgumentException" ["java/lang/RuntimeException", "java/lang/Exception"]).filter goodWord)
def wsL_setLimit : List Cond := .codeWith yL_setLimit cL_setLimit 4 (some .int) [(0, 9, 12, 13)] :: ([.classLink RL 13 "java/lang/IllegalArgumentException", .methodLink RL 15 yX1_setLimit, .instanceMethod yX1_setLimit, .selects RX1 yX1_setLimit yX1_setLimit, .initialized RX1, .code yX1_setLimit cX1_setLimit 3 (some .int), .fieldLink RX1 12 "PauseLedger" "dinner" "LPauseLedger$Dinner;", .fieldLink RX1 31 "PauseLedger$Dinner" "limit" "I", .methodLink RX1 19 yX1_requireWithin, .static yX1_requireWithin, .code yX1_requireWithin cX1_requireWithin 3 none, .classLink RX1 154 "java/lang/IllegalArgumentException", .initialized "java/lang/IllegalArgumentException"] ++ wsX10 ++ wsX00 ++ (vx_atS RX1 158 "java/lang/IllegalArgumentException" ["java/lang/RuntimeException", "java/lang/Exception"]).filter goodWord)
def wsL_speak_r1 : List Cond := [Cond.classLink RL 22 "java/lang/IndexOutOfBoundsException", Cond.classLink RL 13 "java/lang/IllegalArgumentException", Cond.methodLink RL 18 yX1_speak, Cond.instanceMethod yX1_speak, Cond.selects RX1 yX1_speak yX1_speak, Cond.initialized RX1, Cond.code yX1_speak cX1_speak 3 (some .int), Cond.fieldLink RX1 12 "PauseLedger" "dinner" "LPauseLedger$Dinner;", Cond.methodLink RX1 35 yX1_requireGuest, Cond.instanceMethod yX1_requireGuest, Cond.selects RX1 yX1_requireGuest yX1_requireGuest, Cond.code yX1_requireGuest cX1_requireGuest 2 none, Cond.classLink RX1 147 "java/lang/IndexOutOfBoundsException", Cond.initialized "java/lang/IndexOutOfBoundsException", Cond.fieldLink RX1 58 "PauseLedger$Dinner" "guests" "I", Cond.methodLink RX1 19 yX1_requireWithin, Cond.static yX1_requireWithin, Cond.code yX1_requireWithin cX1_requireWithin 3 none, Cond.classLink RX1 154 "java/lang/IllegalArgumentException", Cond.initialized "java/lang/IllegalArgumentException", Cond.methodLink RX1 38 yX0_letSpeak, Cond.instanceMethod yX0_letSpeak, Cond.selects RX0 yX0_letSpeak yX0_letSpeak, Cond.initialized RX0]
def wsL_speak_r2 : List Cond := [Cond.code yX0_letSpeak cX0_letSpeak 4 (some .int), Cond.fieldLink RX0 47 "PauseLedger$Dinner" "speaker" "I", Cond.fieldLink RX0 15 "PauseLedger$Dinner" "interruptions" "[I", Cond.fieldLink RX0 50 "PauseLedger$Dinner" "toSpeak" "I"]
def wsL_speak : List Cond := .codeWith yL_speak cL_speak 5 (some .int) [(0, 10, 13, 22), (0, 10, 17, 13)] :: ((wsL_speak_r1 ++ wsL_speak_r2) ++ wsX10 ++ wsX00 ++ (vx_atS RX1 151 "java/lang/IndexOutOfBoundsException" ["java/lang/RuntimeException", "java/lang/Exception"]).filter goodWord ++ (vx_atS RX1 158 "java/lang/IllegalArgumentException" ["java/lang/RuntimeException", "java/lang/Exception"]).filter goodWord)
def wsL_cough_r1 : List Cond := [Cond.classLink RL 22 "java/lang/IndexOutOfBoundsException", Cond.classLink RL 13 "java/lang/IllegalArgumentException", Cond.methodLink RL 24 yX1_cough, Cond.instanceMethod yX1_cough, Cond.selects RX1 yX1_cough yX1_cough, Cond.initialized RX1, Cond.code yX1_cough cX1_cough 3 (some .int), Cond.fieldLink RX1 12 "PauseLedger" "dinner" "LPauseLedger$Dinner;", Cond.methodLink RX1 35 yX1_requireGuest, Cond.instanceMethod yX1_requireGuest, Cond.selects RX1 yX1_requireGuest yX1_requireGuest, Cond.code yX1_requireGuest cX1_requireGuest 2 none, Cond.classLink RX1 147 "java/lang/IndexOutOfBoundsException", Cond.initialized "java/lang/IndexOutOfBoundsException", Cond.fieldLink RX1 58 "PauseLedger$Dinner" "guests" "I", Cond.methodLink RX1 19 yX1_requireWithin, Cond.static yX1_requireWithin, Cond.code yX1_requireWithin cX1_requireWithin 3 none, Cond.classLink RX1 154 "java/lang/IllegalArgumentException", Cond.initialized "java/lang/IllegalArgumentException", Cond.methodLink RX1 42 yX0_letCough, Cond.instanceMethod yX0_letCough, Cond.selects RX0 yX0_letCough yX0_letCough, Cond.initialized RX0]
def wsL_cough_r2 : List Cond := [Cond.code yX0_letCough cX0_letCough 4 (some .int), Cond.fieldLink RX0 18 "PauseLedger$Dinner" "coughs" "[I", Cond.fieldLink RX0 21 "PauseLedger$Dinner" "unsaid" "[I", Cond.methodLink RX0 80 yX0_unsaidByCough, Cond.instanceMethod yX0_unsaidByCough, Cond.selects RX0 yX0_unsaidByCough yX0_unsaidByCough, Cond.code yX0_unsaidByCough cX0_unsaidByCough 3 (some .int), Cond.fieldLink RX0 47 "PauseLedger$Dinner" "speaker" "I"]
def wsL_cough : List Cond := .codeWith yL_cough cL_cough 5 (some .int) [(0, 10, 13, 22), (0, 10, 17, 13)] :: ((wsL_cough_r1 ++ wsL_cough_r2) ++ wsX10 ++ wsX00 ++ (vx_atS RX1 151 "java/lang/IndexOutOfBoundsException" ["java/lang/RuntimeException", "java/lang/Exception"]).filter goodWord ++ (vx_atS RX1 158 "java/lang/IllegalArgumentException" ["java/lang/RuntimeException", "java/lang/Exception"]).filter goodWord)
def wsL_glance_r1 : List Cond := [Cond.classLink RL 22 "java/lang/IndexOutOfBoundsException", Cond.classLink RL 13 "java/lang/IllegalArgumentException", Cond.classLink RL 30 "java/lang/IllegalStateException", Cond.methodLink RL 27 yX1_glance, Cond.instanceMethod yX1_glance, Cond.selects RX1 yX1_glance yX1_glance, Cond.initialized RX1, Cond.code yX1_glance cX1_glance 3 (some .int), Cond.fieldLink RX1 12 "PauseLedger" "dinner" "LPauseLedger$Dinner;", Cond.methodLink RX1 45 yX1_requireFreeWay, Cond.instanceMethod yX1_requireFreeWay, Cond.selects RX1 yX1_requireFreeWay yX1_requireFreeWay, Cond.code yX1_requireFreeWay cX1_requireFreeWay 3 none, Cond.classLink RX1 154 "java/lang/IllegalArgumentException", Cond.initialized "java/lang/IllegalArgumentException", Cond.classLink RX1 161 "java/lang/IllegalStateException", Cond.initialized "java/lang/IllegalStateException", Cond.methodLink RX1 35 yX1_requireGuest, Cond.instanceMethod yX1_requireGuest, Cond.selects RX1 yX1_requireGuest yX1_requireGuest, Cond.code yX1_requireGuest cX1_requireGuest 2 none, Cond.classLink RX1 147 "java/lang/IndexOutOfBoundsException", Cond.initialized "java/lang/IndexOutOfBoundsException", Cond.fieldLink RX1 58 "PauseLedger$Dinner" "guests" "I"]
def wsL_glance_r2 : List Cond := [Cond.methodLink RX1 89 yX1_pairOf, Cond.static yX1_pairOf, Cond.code yX1_pairOf cX1_pairOf 2 (some .int), Cond.methodLink RX1 92 yX0_isOnItsWay, Cond.instanceMethod yX0_isOnItsWay, Cond.selects RX0 yX0_isOnItsWay yX0_isOnItsWay, Cond.initialized RX0, Cond.code yX0_isOnItsWay cX0_isOnItsWay 2 (some .boolean), Cond.fieldLink RX0 24 "PauseLedger$Dinner" "toGo" "[I", Cond.methodLink RX1 49 yX0_send, Cond.instanceMethod yX0_send, Cond.selects RX0 yX0_send yX0_send, Cond.code yX0_send cX0_send 4 (some .int), Cond.fieldLink RX0 65 "PauseLedger$Dinner" "sent" "I", Cond.fieldLink RX0 30 "PauseLedger$Dinner" "order" "[I", Cond.methodLink RX0 87 yX0_wayOf, Cond.instanceMethod yX0_wayOf, Cond.selects RX0 yX0_wayOf yX0_wayOf, Cond.code yX0_wayOf cX0_wayOf 3 (some .int), Cond.methodLink RX0 122 yX0_seatsBetween, Cond.instanceMethod yX0_seatsBetween, Cond.selects RX0 yX0_seatsBetween yX0_seatsBetween, Cond.code yX0_seatsBetween cX0_seatsBetween 4 (some .int), Cond.methodLink RX0 114 Lib.Math.abs.name]
def wsL_glance_r3 : List Cond := [Cond.static Lib.Math.abs.name, Cond.initialized "java/lang/Math", Cond.code Lib.Math.abs.name Lib.Math.abs.code 1 (some .int), Cond.fieldLink RX0 41 "PauseLedger$Dinner" "guests" "I", Cond.methodLink RX0 119 Lib.Math.min.name, Cond.static Lib.Math.min.name, Cond.code Lib.Math.min.name Lib.Math.min.code 2 (some .int)]
def wsL_glance : List Cond := .codeWith yL_glance cL_glance 5 (some .int) [(0, 10, 13, 22), (0, 10, 17, 13), (0, 10, 21, 30)] :: ((wsL_glance_r1 ++ (wsL_glance_r2 ++ wsL_glance_r3)) ++ wsX10 ++ wsX00 ++ (vx_atS RX1 158 "java/lang/IllegalArgumentException" ["java/lang/RuntimeException", "java/lang/Exception"]).filter goodWord ++ (vx_atS RX1 165 "java/lang/IllegalStateException" ["java/lang/RuntimeException", "java/lang/Exception"]).filter goodWord ++ (vx_atS RX1 151 "java/lang/IndexOutOfBoundsException" ["java/lang/RuntimeException", "java/lang/Exception"]).filter goodWord)
def wsL_pass_r1 : List Cond := [Cond.classLink RL 13 "java/lang/IllegalArgumentException", Cond.methodLink RL 32 yX1_pass, Cond.instanceMethod yX1_pass, Cond.selects RX1 yX1_pass yX1_pass, Cond.initialized RX1, Cond.code yX1_pass cX1_pass 3 (some .int), Cond.fieldLink RX1 12 "PauseLedger" "dinner" "LPauseLedger$Dinner;", Cond.methodLink RX1 19 yX1_requireWithin, Cond.static yX1_requireWithin, Cond.code yX1_requireWithin cX1_requireWithin 3 none, Cond.classLink RX1 154 "java/lang/IllegalArgumentException", Cond.initialized "java/lang/IllegalArgumentException", Cond.methodLink RX1 52 yX0_sumUnsaid, Cond.instanceMethod yX0_sumUnsaid, Cond.selects RX0 yX0_sumUnsaid yX0_sumUnsaid, Cond.initialized RX0, Cond.code yX0_sumUnsaid cX0_sumUnsaid 1 (some .int), Cond.fieldLink RX0 56 "PauseLedger$Dinner" "unsaidInPauses" "I", Cond.methodLink RX0 128 yX0_sumUnsaidByGuests, Cond.instanceMethod yX0_sumUnsaidByGuests, Cond.selects RX0 yX0_sumUnsaidByGuests yX0_sumUnsaidByGuests, Cond.code yX0_sumUnsaidByGuests cX0_sumUnsaidByGuests 3 (some .int), Cond.fieldLink RX0 41 "PauseLedger$Dinner" "guests" "I", Cond.fieldLink RX0 21 "PauseLedger$Dinner" "unsaid" "[I"]
def wsL_pass_r2 : List Cond := [Cond.methodLink RX1 55 yX0_goBy, Cond.instanceMethod yX0_goBy, Cond.selects RX0 yX0_goBy yX0_goBy, Cond.code yX0_goBy cX0_goBy 3 none, Cond.methodLink RX0 90 yX0_goOneSecond, Cond.instanceMethod yX0_goOneSecond, Cond.selects RX0 yX0_goOneSecond yX0_goOneSecond, Cond.code yX0_goOneSecond cX0_goOneSecond 1 none, Cond.fieldLink RX0 44 "PauseLedger$Dinner" "seconds" "I", Cond.methodLink RX0 93 yX0_speakOrPause, Cond.instanceMethod yX0_speakOrPause, Cond.selects RX0 yX0_speakOrPause yX0_speakOrPause, Cond.code yX0_speakOrPause cX0_speakOrPause 1 none, Cond.fieldLink RX0 47 "PauseLedger$Dinner" "speaker" "I", Cond.fieldLink RX0 53 "PauseLedger$Dinner" "pause" "I", Cond.fieldLink RX0 9 "PauseLedger$Dinner" "spoken" "[I", Cond.fieldLink RX0 50 "PauseLedger$Dinner" "toSpeak" "I", Cond.methodLink RX0 99 yX0_beyondMultipleOfLimit, Cond.instanceMethod yX0_beyondMultipleOfLimit, Cond.selects RX0 yX0_beyondMultipleOfLimit yX0_beyondMultipleOfLimit, Cond.code yX0_beyondMultipleOfLimit cX0_beyondMultipleOfLimit 2 (some .int), Cond.fieldLink RX0 33 "PauseLedger$Dinner" "limit" "I", Cond.methodLink RX0 96 yX0_moveGlances, Cond.instanceMethod yX0_moveGlances]
def wsL_pass_r3 : List Cond := [Cond.selects RX0 yX0_moveGlances yX0_moveGlances, Cond.code yX0_moveGlances cX0_moveGlances 3 none, Cond.fieldLink RX0 65 "PauseLedger$Dinner" "sent" "I", Cond.fieldLink RX0 24 "PauseLedger$Dinner" "toGo" "[I", Cond.fieldLink RX0 30 "PauseLedger$Dinner" "order" "[I", Cond.methodLink RX0 103 yX0_arrive, Cond.instanceMethod yX0_arrive, Cond.selects RX0 yX0_arrive yX0_arrive, Cond.code yX0_arrive cX0_arrive 5 none, Cond.fieldLink RX0 59 "PauseLedger$Dinner" "meetings" "I", Cond.fieldLink RX0 62 "PauseLedger$Dinner" "lost" "I", Cond.fieldLink RX0 27 "PauseLedger$Dinner" "caught" "[I", Cond.static yX1_pairOf, Cond.code yX1_pairOf cX1_pairOf 2 (some .int), Cond.methodLink RX0 110 yX0_isOnItsWay, Cond.instanceMethod yX0_isOnItsWay, Cond.selects RX0 yX0_isOnItsWay yX0_isOnItsWay, Cond.code yX0_isOnItsWay cX0_isOnItsWay 2 (some .boolean), Cond.methodLink RX0 107 yX0_forgetThoseOver, Cond.instanceMethod yX0_forgetThoseOver, Cond.selects RX0 yX0_forgetThoseOver yX0_forgetThoseOver, Cond.code yX0_forgetThoseOver cX0_forgetThoseOver 4 none]
def wsL_pass : List Cond := .codeWith yL_pass cL_pass 4 (some .int) [(0, 9, 12, 13)] :: ((wsL_pass_r1 ++ (wsL_pass_r2 ++ wsL_pass_r3)) ++ wsX10 ++ wsX00 ++ (vx_atS RX1 158 "java/lang/IllegalArgumentException" ["java/lang/RuntimeException", "java/lang/Exception"]).filter goodWord)
def wsL_seatsApart_r1 : List Cond := [Cond.classLink RL 22 "java/lang/IndexOutOfBoundsException", Cond.methodLink RL 35 yX1_seatsApart, Cond.instanceMethod yX1_seatsApart, Cond.selects RX1 yX1_seatsApart yX1_seatsApart, Cond.initialized RX1, Cond.code yX1_seatsApart cX1_seatsApart 3 (some .int), Cond.fieldLink RX1 12 "PauseLedger" "dinner" "LPauseLedger$Dinner;", Cond.methodLink RX1 35 yX1_requireGuest, Cond.instanceMethod yX1_requireGuest, Cond.selects RX1 yX1_requireGuest yX1_requireGuest, Cond.code yX1_requireGuest cX1_requireGuest 2 none, Cond.classLink RX1 147 "java/lang/IndexOutOfBoundsException", Cond.initialized "java/lang/IndexOutOfBoundsException", Cond.fieldLink RX1 58 "PauseLedger$Dinner" "guests" "I", Cond.methodLink RX1 64 yX0_seatsBetween, Cond.instanceMethod yX0_seatsBetween, Cond.selects RX0 yX0_seatsBetween yX0_seatsBetween, Cond.initialized RX0, Cond.code yX0_seatsBetween cX0_seatsBetween 4 (some .int), Cond.methodLink RX0 114 Lib.Math.abs.name, Cond.static Lib.Math.abs.name, Cond.initialized "java/lang/Math", Cond.code Lib.Math.abs.name Lib.Math.abs.code 1 (some .int), Cond.fieldLink RX0 41 "PauseLedger$Dinner" "guests" "I"]
def wsL_seatsApart_r2 : List Cond := [Cond.methodLink RX0 119 Lib.Math.min.name, Cond.static Lib.Math.min.name, Cond.code Lib.Math.min.name Lib.Math.min.code 2 (some .int)]
def wsL_seatsApart : List Cond := .codeWith yL_seatsApart cL_seatsApart 5 (some .int) [(0, 10, 13, 22)] :: ((wsL_seatsApart_r1 ++ wsL_seatsApart_r2) ++ wsX10 ++ wsX00 ++ (vx_atS RX1 151 "java/lang/IndexOutOfBoundsException" ["java/lang/RuntimeException", "java/lang/Exception"]).filter goodWord)
def wsL_spokenBy : List Cond := .codeWith yL_spokenBy cL_spokenBy 4 (some .int) [(0, 9, 12, 22)] :: ([.classLink RL 22 "java/lang/IndexOutOfBoundsException", .methodLink RL 38 yX1_spokenBy, .instanceMethod yX1_spokenBy, .selects RX1 yX1_spokenBy yX1_spokenBy, .initialized RX1, .code yX1_spokenBy cX1_spokenBy 2 (some .int), .fieldLink RX1 12 "PauseLedger" "dinner" "LPauseLedger$Dinner;", .fieldLink RX1 76 "PauseLedger$Dinner" "spoken" "[I", .methodLink RX1 35 yX1_requireGuest, .instanceMethod yX1_requireGuest, .selects RX1 yX1_requireGuest yX1_requireGuest, .code yX1_requireGuest cX1_requireGuest 2 none, .classLink RX1 147 "java/lang/IndexOutOfBoundsException", .initialized "java/lang/IndexOutOfBoundsException", .fieldLink RX1 58 "PauseLedger$Dinner" "guests" "I"] ++ wsX10 ++ wsX00 ++ (vx_atS RX1 151 "java/lang/IndexOutOfBoundsException" ["java/lang/RuntimeException", "java/lang/Exception"]).filter goodWord)
def wsL_interruptionsBy : List Cond := .codeWith yL_interruptionsBy cL_interruptionsBy 4 (some .int) [(0, 9, 12, 22)] :: ([.classLink RL 22 "java/lang/IndexOutOfBoundsException", .methodLink RL 41 yX1_interruptionsBy, .instanceMethod yX1_interruptionsBy, .selects RX1 yX1_interruptionsBy yX1_interruptionsBy, .initialized RX1, .code yX1_interruptionsBy cX1_interruptionsBy 2 (some .int), .fieldLink RX1 12 "PauseLedger" "dinner" "LPauseLedger$Dinner;", .fieldLink RX1 80 "PauseLedger$Dinner" "interruptions" "[I", .methodLink RX1 35 yX1_requireGuest, .instanceMethod yX1_requireGuest, .selects RX1 yX1_requireGuest yX1_requireGuest, .code yX1_requireGuest cX1_requireGuest 2 none, .classLink RX1 147 "java/lang/IndexOutOfBoundsException", .initialized "java/lang/IndexOutOfBoundsException", .fieldLink RX1 58 "PauseLedger$Dinner" "guests" "I"] ++ wsX10 ++ wsX00 ++ (vx_atS RX1 151 "java/lang/IndexOutOfBoundsException" ["java/lang/RuntimeException", "java/lang/Exception"]).filter goodWord)
def wsL_coughsOf : List Cond := .codeWith yL_coughsOf cL_coughsOf 4 (some .int) [(0, 9, 12, 22)] :: ([.classLink RL 22 "java/lang/IndexOutOfBoundsException", .methodLink RL 44 yX1_coughsOf, .instanceMethod yX1_coughsOf, .selects RX1 yX1_coughsOf yX1_coughsOf, .initialized RX1, .code yX1_coughsOf cX1_coughsOf 2 (some .int), .fieldLink RX1 12 "PauseLedger" "dinner" "LPauseLedger$Dinner;", .fieldLink RX1 83 "PauseLedger$Dinner" "coughs" "[I", .methodLink RX1 35 yX1_requireGuest, .instanceMethod yX1_requireGuest, .selects RX1 yX1_requireGuest yX1_requireGuest, .code yX1_requireGuest cX1_requireGuest 2 none, .classLink RX1 147 "java/lang/IndexOutOfBoundsException", .initialized "java/lang/IndexOutOfBoundsException", .fieldLink RX1 58 "PauseLedger$Dinner" "guests" "I"] ++ wsX10 ++ wsX00 ++ (vx_atS RX1 151 "java/lang/IndexOutOfBoundsException" ["java/lang/RuntimeException", "java/lang/Exception"]).filter goodWord)
def wsL_unsaidBy : List Cond := .codeWith yL_unsaidBy cL_unsaidBy 4 (some .int) [(0, 9, 12, 22)] :: ([.classLink RL 22 "java/lang/IndexOutOfBoundsException", .methodLink RL 47 yX1_unsaidBy, .instanceMethod yX1_unsaidBy, .selects RX1 yX1_unsaidBy yX1_unsaidBy, .initialized RX1, .code yX1_unsaidBy cX1_unsaidBy 2 (some .int), .fieldLink RX1 12 "PauseLedger" "dinner" "LPauseLedger$Dinner;", .fieldLink RX1 86 "PauseLedger$Dinner" "unsaid" "[I", .methodLink RX1 35 yX1_requireGuest, .instanceMethod yX1_requireGuest, .selects RX1 yX1_requireGuest yX1_requireGuest, .code yX1_requireGuest cX1_requireGuest 2 none, .classLink RX1 147 "java/lang/IndexOutOfBoundsException", .initialized "java/lang/IndexOutOfBoundsException", .fieldLink RX1 58 "PauseLedger$Dinner" "guests" "I"] ++ wsX10 ++ wsX00 ++ (vx_atS RX1 151 "java/lang/IndexOutOfBoundsException" ["java/lang/RuntimeException", "java/lang/Exception"]).filter goodWord)
def wsL_isUnderWay : List Cond := .codeWith yL_isUnderWay cL_isUnderWay 5 (some .int) [(0, 17, 20, 22)] :: ([.classLink RL 22 "java/lang/IndexOutOfBoundsException", .methodLink RL 50 yX1_isUnderWay, .instanceMethod yX1_isUnderWay, .selects RX1 yX1_isUnderWay yX1_isUnderWay, .initialized RX1, .code yX1_isUnderWay cX1_isUnderWay 3 (some .boolean), .fieldLink RX1 12 "PauseLedger" "dinner" "LPauseLedger$Dinner;", .methodLink RX1 35 yX1_requireGuest, .instanceMethod yX1_requireGuest, .selects RX1 yX1_requireGuest yX1_requireGuest, .code yX1_requireGuest cX1_requireGuest 2 none, .classLink RX1 147 "java/lang/IndexOutOfBoundsException", .initialized "java/lang/IndexOutOfBoundsException", .fieldLink RX1 58 "PauseLedger$Dinner" "guests" "I", .methodLink RX1 89 yX1_pairOf, .static yX1_pairOf, .code yX1_pairOf cX1_pairOf 2 (some .int), .methodLink RX1 92 yX0_isOnItsWay, .instanceMethod yX0_isOnItsWay, .selects RX0 yX0_isOnItsWay yX0_isOnItsWay, .initialized RX0, .code yX0_isOnItsWay cX0_isOnItsWay 2 (some .boolean), .fieldLink RX0 24 "PauseLedger$Dinner" "toGo" "[I"] ++ wsX10 ++ wsX00 ++ (vx_atS RX1 151 "java/lang/IndexOutOfBoundsException" ["java/lang/RuntimeException", "java/lang/Exception"]).filter goodWord)
def wsL_secondsToGo_r1 : List Cond := [Cond.classLink RL 22 "java/lang/IndexOutOfBoundsException", Cond.methodLink RL 54 yX1_secondsToGo, Cond.instanceMethod yX1_secondsToGo, Cond.selects RX1 yX1_secondsToGo yX1_secondsToGo, Cond.initialized RX1, Cond.code yX1_secondsToGo cX1_secondsToGo 3 (some .int), Cond.fieldLink RX1 12 "PauseLedger" "dinner" "LPauseLedger$Dinner;", Cond.methodLink RX1 35 yX1_requireGuest, Cond.instanceMethod yX1_requireGuest, Cond.selects RX1 yX1_requireGuest yX1_requireGuest, Cond.code yX1_requireGuest cX1_requireGuest 2 none, Cond.classLink RX1 147 "java/lang/IndexOutOfBoundsException", Cond.initialized "java/lang/IndexOutOfBoundsException", Cond.fieldLink RX1 58 "PauseLedger$Dinner" "guests" "I", Cond.methodLink RX1 89 yX1_pairOf, Cond.static yX1_pairOf, Cond.code yX1_pairOf cX1_pairOf 2 (some .int), Cond.methodLink RX1 96 yX0_timeToGo, Cond.instanceMethod yX0_timeToGo, Cond.selects RX0 yX0_timeToGo yX0_timeToGo, Cond.initialized RX0, Cond.code yX0_timeToGo cX0_timeToGo 2 (some .int), Cond.fieldLink RX0 24 "PauseLedger$Dinner" "toGo" "[I", Cond.methodLink RX0 110 yX0_isOnItsWay]
def wsL_secondsToGo_r2 : List Cond := [Cond.instanceMethod yX0_isOnItsWay, Cond.selects RX0 yX0_isOnItsWay yX0_isOnItsWay, Cond.code yX0_isOnItsWay cX0_isOnItsWay 2 (some .boolean)]
def wsL_secondsToGo : List Cond := .codeWith yL_secondsToGo cL_secondsToGo 5 (some .int) [(0, 10, 13, 22)] :: ((wsL_secondsToGo_r1 ++ wsL_secondsToGo_r2) ++ wsX10 ++ wsX00 ++ (vx_atS RX1 151 "java/lang/IndexOutOfBoundsException" ["java/lang/RuntimeException", "java/lang/Exception"]).filter goodWord)
def wsL_caughtBy : List Cond := .codeWith yL_caughtBy cL_caughtBy 5 (some .int) [(0, 10, 13, 22)] :: ([.classLink RL 22 "java/lang/IndexOutOfBoundsException", .methodLink RL 57 yX1_caughtBy, .instanceMethod yX1_caughtBy, .selects RX1 yX1_caughtBy yX1_caughtBy, .initialized RX1, .code yX1_caughtBy cX1_caughtBy 3 (some .int), .fieldLink RX1 12 "PauseLedger" "dinner" "LPauseLedger$Dinner;", .fieldLink RX1 100 "PauseLedger$Dinner" "caught" "[I", .methodLink RX1 35 yX1_requireGuest, .instanceMethod yX1_requireGuest, .selects RX1 yX1_requireGuest yX1_requireGuest, .code yX1_requireGuest cX1_requireGuest 2 none, .classLink RX1 147 "java/lang/IndexOutOfBoundsException", .initialized "java/lang/IndexOutOfBoundsException", .fieldLink RX1 58 "PauseLedger$Dinner" "guests" "I", .methodLink RX1 89 yX1_pairOf, .static yX1_pairOf, .code yX1_pairOf cX1_pairOf 2 (some .int)] ++ wsX10 ++ wsX00 ++ (vx_atS RX1 151 "java/lang/IndexOutOfBoundsException" ["java/lang/RuntimeException", "java/lang/Exception"]).filter goodWord)
def wsL_allUnsaidIn_r1 : List Cond := [Cond.classLink RL 13 "java/lang/IllegalArgumentException", Cond.methodLink RL 60 yX1_allUnsaidIn, Cond.instanceMethod yX1_allUnsaidIn, Cond.selects RX1 yX1_allUnsaidIn yX1_allUnsaidIn, Cond.initialized RX1, Cond.code yX1_allUnsaidIn cX1_allUnsaidIn 2 (some .int), Cond.fieldLink RX1 16 "PauseLedger" "trial" "LPauseLedger$Dinner;", Cond.methodLink RX1 19 yX1_requireWithin, Cond.static yX1_requireWithin, Cond.code yX1_requireWithin cX1_requireWithin 3 none, Cond.classLink RX1 154 "java/lang/IllegalArgumentException", Cond.initialized "java/lang/IllegalArgumentException", Cond.methodLink RX1 115 yX1_tryOut, Cond.instanceMethod yX1_tryOut, Cond.selects RX1 yX1_tryOut yX1_tryOut, Cond.code yX1_tryOut cX1_tryOut 2 none, Cond.fieldLink RX1 12 "PauseLedger" "dinner" "LPauseLedger$Dinner;", Cond.methodLink RX1 143 yX0_copyOf, Cond.instanceMethod yX0_copyOf, Cond.selects RX0 yX0_copyOf yX0_copyOf, Cond.initialized RX0, Cond.code yX0_copyOf cX0_copyOf 2 none, Cond.fieldLink RX0 41 "PauseLedger$Dinner" "guests" "I", Cond.fieldLink RX0 44 "PauseLedger$Dinner" "seconds" "I"]
def wsL_allUnsaidIn_r2 : List Cond := [Cond.fieldLink RX0 33 "PauseLedger$Dinner" "limit" "I", Cond.fieldLink RX0 47 "PauseLedger$Dinner" "speaker" "I", Cond.fieldLink RX0 50 "PauseLedger$Dinner" "toSpeak" "I", Cond.fieldLink RX0 53 "PauseLedger$Dinner" "pause" "I", Cond.fieldLink RX0 56 "PauseLedger$Dinner" "unsaidInPauses" "I", Cond.fieldLink RX0 59 "PauseLedger$Dinner" "meetings" "I", Cond.fieldLink RX0 62 "PauseLedger$Dinner" "lost" "I", Cond.fieldLink RX0 65 "PauseLedger$Dinner" "sent" "I", Cond.fieldLink RX0 9 "PauseLedger$Dinner" "spoken" "[I", Cond.methodLink RX0 74 arraycopyName, Cond.native arraycopyName, Cond.static arraycopyName, Cond.initialized "java/lang/System", Cond.fieldLink RX0 15 "PauseLedger$Dinner" "interruptions" "[I", Cond.fieldLink RX0 18 "PauseLedger$Dinner" "coughs" "[I", Cond.fieldLink RX0 21 "PauseLedger$Dinner" "unsaid" "[I", Cond.fieldLink RX0 24 "PauseLedger$Dinner" "toGo" "[I", Cond.fieldLink RX0 27 "PauseLedger$Dinner" "caught" "[I", Cond.fieldLink RX0 30 "PauseLedger$Dinner" "order" "[I", Cond.methodLink RX1 55 yX0_goBy, Cond.instanceMethod yX0_goBy, Cond.selects RX0 yX0_goBy yX0_goBy, Cond.code yX0_goBy cX0_goBy 3 none, Cond.methodLink RX0 90 yX0_goOneSecond]
def wsL_allUnsaidIn_r3 : List Cond := [Cond.instanceMethod yX0_goOneSecond, Cond.selects RX0 yX0_goOneSecond yX0_goOneSecond, Cond.code yX0_goOneSecond cX0_goOneSecond 1 none, Cond.methodLink RX0 93 yX0_speakOrPause, Cond.instanceMethod yX0_speakOrPause, Cond.selects RX0 yX0_speakOrPause yX0_speakOrPause, Cond.code yX0_speakOrPause cX0_speakOrPause 1 none, Cond.methodLink RX0 99 yX0_beyondMultipleOfLimit, Cond.instanceMethod yX0_beyondMultipleOfLimit, Cond.selects RX0 yX0_beyondMultipleOfLimit yX0_beyondMultipleOfLimit, Cond.code yX0_beyondMultipleOfLimit cX0_beyondMultipleOfLimit 2 (some .int), Cond.methodLink RX0 96 yX0_moveGlances, Cond.instanceMethod yX0_moveGlances, Cond.selects RX0 yX0_moveGlances yX0_moveGlances, Cond.code yX0_moveGlances cX0_moveGlances 3 none, Cond.methodLink RX0 103 yX0_arrive, Cond.instanceMethod yX0_arrive, Cond.selects RX0 yX0_arrive yX0_arrive, Cond.code yX0_arrive cX0_arrive 5 none, Cond.static yX1_pairOf, Cond.code yX1_pairOf cX1_pairOf 2 (some .int), Cond.methodLink RX0 110 yX0_isOnItsWay, Cond.instanceMethod yX0_isOnItsWay, Cond.selects RX0 yX0_isOnItsWay yX0_isOnItsWay]
def wsL_allUnsaidIn_r4 : List Cond := [Cond.code yX0_isOnItsWay cX0_isOnItsWay 2 (some .boolean), Cond.methodLink RX0 107 yX0_forgetThoseOver, Cond.instanceMethod yX0_forgetThoseOver, Cond.selects RX0 yX0_forgetThoseOver yX0_forgetThoseOver, Cond.code yX0_forgetThoseOver cX0_forgetThoseOver 4 none, Cond.methodLink RX1 52 yX0_sumUnsaid, Cond.instanceMethod yX0_sumUnsaid, Cond.selects RX0 yX0_sumUnsaid yX0_sumUnsaid, Cond.code yX0_sumUnsaid cX0_sumUnsaid 1 (some .int), Cond.methodLink RX0 128 yX0_sumUnsaidByGuests, Cond.instanceMethod yX0_sumUnsaidByGuests, Cond.selects RX0 yX0_sumUnsaidByGuests yX0_sumUnsaidByGuests, Cond.code yX0_sumUnsaidByGuests cX0_sumUnsaidByGuests 3 (some .int)]
def wsL_allUnsaidIn : List Cond := .codeWith yL_allUnsaidIn cL_allUnsaidIn 4 (some .int) [(0, 9, 12, 13)] :: ((wsL_allUnsaidIn_r1 ++ (wsL_allUnsaidIn_r2 ++ (wsL_allUnsaidIn_r3 ++ wsL_allUnsaidIn_r4))) ++ wsX10 ++ wsX00 ++ (vx_atS RX1 158 "java/lang/IllegalArgumentException" ["java/lang/RuntimeException", "java/lang/Exception"]).filter goodWord)
def wsL_wouldLeave_r1 : List Cond := [Cond.classLink RL 22 "java/lang/IndexOutOfBoundsException", Cond.classLink RL 13 "java/lang/IllegalArgumentException", Cond.classLink RL 30 "java/lang/IllegalStateException", Cond.methodLink RL 63 yX1_wouldLeave, Cond.instanceMethod yX1_wouldLeave, Cond.selects RX1 yX1_wouldLeave yX1_wouldLeave, Cond.initialized RX1, Cond.code yX1_wouldLeave cX1_wouldLeave 3 (some .int), Cond.fieldLink RX1 12 "PauseLedger" "dinner" "LPauseLedger$Dinner;", Cond.methodLink RX1 45 yX1_requireFreeWay, Cond.instanceMethod yX1_requireFreeWay, Cond.selects RX1 yX1_requireFreeWay yX1_requireFreeWay, Cond.code yX1_requireFreeWay cX1_requireFreeWay 3 none, Cond.classLink RX1 154 "java/lang/IllegalArgumentException", Cond.initialized "java/lang/IllegalArgumentException", Cond.classLink RX1 161 "java/lang/IllegalStateException", Cond.initialized "java/lang/IllegalStateException", Cond.methodLink RX1 35 yX1_requireGuest, Cond.instanceMethod yX1_requireGuest, Cond.selects RX1 yX1_requireGuest yX1_requireGuest, Cond.code yX1_requireGuest cX1_requireGuest 2 none, Cond.classLink RX1 147 "java/lang/IndexOutOfBoundsException", Cond.initialized "java/lang/IndexOutOfBoundsException", Cond.fieldLink RX1 58 "PauseLedger$Dinner" "guests" "I"]
def wsL_wouldLeave_r2 : List Cond := [Cond.methodLink RX1 89 yX1_pairOf, Cond.static yX1_pairOf, Cond.code yX1_pairOf cX1_pairOf 2 (some .int), Cond.methodLink RX1 92 yX0_isOnItsWay, Cond.instanceMethod yX0_isOnItsWay, Cond.selects RX0 yX0_isOnItsWay yX0_isOnItsWay, Cond.initialized RX0, Cond.code yX0_isOnItsWay cX0_isOnItsWay 2 (some .boolean), Cond.fieldLink RX0 24 "PauseLedger$Dinner" "toGo" "[I", Cond.methodLink RX1 121 yX0_fateOf, Cond.instanceMethod yX0_fateOf, Cond.selects RX0 yX0_fateOf yX0_fateOf, Cond.code yX0_fateOf cX0_fateOf 5 (some .int), Cond.fieldLink RX0 47 "PauseLedger$Dinner" "speaker" "I", Cond.fieldLink RX0 50 "PauseLedger$Dinner" "toSpeak" "I", Cond.methodLink RX0 125 yX0_timeToGo, Cond.instanceMethod yX0_timeToGo, Cond.selects RX0 yX0_timeToGo yX0_timeToGo, Cond.code yX0_timeToGo cX0_timeToGo 2 (some .int), Cond.methodLink RX0 110 yX0_isOnItsWay, Cond.methodLink RX0 87 yX0_wayOf, Cond.instanceMethod yX0_wayOf, Cond.selects RX0 yX0_wayOf yX0_wayOf, Cond.code yX0_wayOf cX0_wayOf 3 (some .int)]
def wsL_wouldLeave_r3 : List Cond := [Cond.methodLink RX0 122 yX0_seatsBetween, Cond.instanceMethod yX0_seatsBetween, Cond.selects RX0 yX0_seatsBetween yX0_seatsBetween, Cond.code yX0_seatsBetween cX0_seatsBetween 4 (some .int), Cond.methodLink RX0 114 Lib.Math.abs.name, Cond.static Lib.Math.abs.name, Cond.initialized "java/lang/Math", Cond.code Lib.Math.abs.name Lib.Math.abs.code 1 (some .int), Cond.fieldLink RX0 41 "PauseLedger$Dinner" "guests" "I", Cond.methodLink RX0 119 Lib.Math.min.name, Cond.static Lib.Math.min.name, Cond.code Lib.Math.min.name Lib.Math.min.code 2 (some .int)]
def wsL_wouldLeave : List Cond := .codeWith yL_wouldLeave cL_wouldLeave 5 (some .int) [(0, 10, 13, 22), (0, 10, 17, 13), (0, 10, 21, 30)] :: ((wsL_wouldLeave_r1 ++ (wsL_wouldLeave_r2 ++ wsL_wouldLeave_r3)) ++ wsX10 ++ wsX00 ++ (vx_atS RX1 158 "java/lang/IllegalArgumentException" ["java/lang/RuntimeException", "java/lang/Exception"]).filter goodWord ++ (vx_atS RX1 165 "java/lang/IllegalStateException" ["java/lang/RuntimeException", "java/lang/Exception"]).filter goodWord ++ (vx_atS RX1 151 "java/lang/IndexOutOfBoundsException" ["java/lang/RuntimeException", "java/lang/Exception"]).filter goodWord)
def wsL_bestMoment_r1 : List Cond := [Cond.classLink RL 22 "java/lang/IndexOutOfBoundsException", Cond.classLink RL 13 "java/lang/IllegalArgumentException", Cond.classLink RL 30 "java/lang/IllegalStateException", Cond.methodLink RL 66 yX1_bestMoment, Cond.instanceMethod yX1_bestMoment, Cond.selects RX1 yX1_bestMoment yX1_bestMoment, Cond.initialized RX1, Cond.code yX1_bestMoment cX1_bestMoment 4 (some .int), Cond.fieldLink RX1 12 "PauseLedger" "dinner" "LPauseLedger$Dinner;", Cond.methodLink RX1 45 yX1_requireFreeWay, Cond.instanceMethod yX1_requireFreeWay, Cond.selects RX1 yX1_requireFreeWay yX1_requireFreeWay, Cond.code yX1_requireFreeWay cX1_requireFreeWay 3 none, Cond.classLink RX1 154 "java/lang/IllegalArgumentException", Cond.initialized "java/lang/IllegalArgumentException", Cond.classLink RX1 161 "java/lang/IllegalStateException", Cond.initialized "java/lang/IllegalStateException", Cond.methodLink RX1 35 yX1_requireGuest, Cond.instanceMethod yX1_requireGuest, Cond.selects RX1 yX1_requireGuest yX1_requireGuest, Cond.code yX1_requireGuest cX1_requireGuest 2 none, Cond.classLink RX1 147 "java/lang/IndexOutOfBoundsException", Cond.initialized "java/lang/IndexOutOfBoundsException", Cond.fieldLink RX1 58 "PauseLedger$Dinner" "guests" "I"]
def wsL_bestMoment_r2 : List Cond := [Cond.methodLink RX1 89 yX1_pairOf, Cond.static yX1_pairOf, Cond.code yX1_pairOf cX1_pairOf 2 (some .int), Cond.methodLink RX1 92 yX0_isOnItsWay, Cond.instanceMethod yX0_isOnItsWay, Cond.selects RX0 yX0_isOnItsWay yX0_isOnItsWay, Cond.initialized RX0, Cond.code yX0_isOnItsWay cX0_isOnItsWay 2 (some .boolean), Cond.fieldLink RX0 24 "PauseLedger$Dinner" "toGo" "[I", Cond.methodLink RX1 121 yX0_fateOf, Cond.instanceMethod yX0_fateOf, Cond.selects RX0 yX0_fateOf yX0_fateOf, Cond.code yX0_fateOf cX0_fateOf 5 (some .int), Cond.fieldLink RX0 47 "PauseLedger$Dinner" "speaker" "I", Cond.fieldLink RX0 50 "PauseLedger$Dinner" "toSpeak" "I", Cond.methodLink RX0 125 yX0_timeToGo, Cond.instanceMethod yX0_timeToGo, Cond.selects RX0 yX0_timeToGo yX0_timeToGo, Cond.code yX0_timeToGo cX0_timeToGo 2 (some .int), Cond.methodLink RX0 110 yX0_isOnItsWay, Cond.methodLink RX0 87 yX0_wayOf, Cond.instanceMethod yX0_wayOf, Cond.selects RX0 yX0_wayOf yX0_wayOf, Cond.code yX0_wayOf cX0_wayOf 3 (some .int)]
def wsL_bestMoment_r3 : List Cond := [Cond.methodLink RX0 122 yX0_seatsBetween, Cond.instanceMethod yX0_seatsBetween, Cond.selects RX0 yX0_seatsBetween yX0_seatsBetween, Cond.code yX0_seatsBetween cX0_seatsBetween 4 (some .int), Cond.methodLink RX0 114 Lib.Math.abs.name, Cond.static Lib.Math.abs.name, Cond.initialized "java/lang/Math", Cond.code Lib.Math.abs.name Lib.Math.abs.code 1 (some .int), Cond.fieldLink RX0 41 "PauseLedger$Dinner" "guests" "I", Cond.methodLink RX0 119 Lib.Math.min.name, Cond.static Lib.Math.min.name, Cond.code Lib.Math.min.name Lib.Math.min.code 2 (some .int)]
def wsL_bestMoment : List Cond := .codeWith yL_bestMoment cL_bestMoment 5 (some .int) [(0, 10, 13, 22), (0, 10, 17, 13), (0, 10, 21, 30)] :: ((wsL_bestMoment_r1 ++ (wsL_bestMoment_r2 ++ wsL_bestMoment_r3)) ++ wsX10 ++ wsX00 ++ (vx_atS RX1 158 "java/lang/IllegalArgumentException" ["java/lang/RuntimeException", "java/lang/Exception"]).filter goodWord ++ (vx_atS RX1 165 "java/lang/IllegalStateException" ["java/lang/RuntimeException", "java/lang/Exception"]).filter goodWord ++ (vx_atS RX1 151 "java/lang/IndexOutOfBoundsException" ["java/lang/RuntimeException", "java/lang/Exception"]).filter goodWord)
def wsL_ratingIn_r1 : List Cond := [Cond.classLink RL 13 "java/lang/IllegalArgumentException", Cond.methodLink RL 69 yX1_ratingIn, Cond.instanceMethod yX1_ratingIn, Cond.selects RX1 yX1_ratingIn yX1_ratingIn, Cond.initialized RX1, Cond.code yX1_ratingIn cX1_ratingIn 2 (some .int), Cond.fieldLink RX1 16 "PauseLedger" "trial" "LPauseLedger$Dinner;", Cond.methodLink RX1 19 yX1_requireWithin, Cond.static yX1_requireWithin, Cond.code yX1_requireWithin cX1_requireWithin 3 none, Cond.classLink RX1 154 "java/lang/IllegalArgumentException", Cond.initialized "java/lang/IllegalArgumentException", Cond.methodLink RX1 115 yX1_tryOut, Cond.instanceMethod yX1_tryOut, Cond.selects RX1 yX1_tryOut yX1_tryOut, Cond.code yX1_tryOut cX1_tryOut 2 none, Cond.fieldLink RX1 12 "PauseLedger" "dinner" "LPauseLedger$Dinner;", Cond.methodLink RX1 143 yX0_copyOf, Cond.instanceMethod yX0_copyOf, Cond.selects RX0 yX0_copyOf yX0_copyOf, Cond.initialized RX0, Cond.code yX0_copyOf cX0_copyOf 2 none, Cond.fieldLink RX0 41 "PauseLedger$Dinner" "guests" "I", Cond.fieldLink RX0 44 "PauseLedger$Dinner" "seconds" "I"]
def wsL_ratingIn_r2 : List Cond := [Cond.fieldLink RX0 33 "PauseLedger$Dinner" "limit" "I", Cond.fieldLink RX0 47 "PauseLedger$Dinner" "speaker" "I", Cond.fieldLink RX0 50 "PauseLedger$Dinner" "toSpeak" "I", Cond.fieldLink RX0 53 "PauseLedger$Dinner" "pause" "I", Cond.fieldLink RX0 56 "PauseLedger$Dinner" "unsaidInPauses" "I", Cond.fieldLink RX0 59 "PauseLedger$Dinner" "meetings" "I", Cond.fieldLink RX0 62 "PauseLedger$Dinner" "lost" "I", Cond.fieldLink RX0 65 "PauseLedger$Dinner" "sent" "I", Cond.fieldLink RX0 9 "PauseLedger$Dinner" "spoken" "[I", Cond.methodLink RX0 74 arraycopyName, Cond.native arraycopyName, Cond.static arraycopyName, Cond.initialized "java/lang/System", Cond.fieldLink RX0 15 "PauseLedger$Dinner" "interruptions" "[I", Cond.fieldLink RX0 18 "PauseLedger$Dinner" "coughs" "[I", Cond.fieldLink RX0 21 "PauseLedger$Dinner" "unsaid" "[I", Cond.fieldLink RX0 24 "PauseLedger$Dinner" "toGo" "[I", Cond.fieldLink RX0 27 "PauseLedger$Dinner" "caught" "[I", Cond.fieldLink RX0 30 "PauseLedger$Dinner" "order" "[I", Cond.methodLink RX1 55 yX0_goBy, Cond.instanceMethod yX0_goBy, Cond.selects RX0 yX0_goBy yX0_goBy, Cond.code yX0_goBy cX0_goBy 3 none, Cond.methodLink RX0 90 yX0_goOneSecond]
def wsL_ratingIn_r3 : List Cond := [Cond.instanceMethod yX0_goOneSecond, Cond.selects RX0 yX0_goOneSecond yX0_goOneSecond, Cond.code yX0_goOneSecond cX0_goOneSecond 1 none, Cond.methodLink RX0 93 yX0_speakOrPause, Cond.instanceMethod yX0_speakOrPause, Cond.selects RX0 yX0_speakOrPause yX0_speakOrPause, Cond.code yX0_speakOrPause cX0_speakOrPause 1 none, Cond.methodLink RX0 99 yX0_beyondMultipleOfLimit, Cond.instanceMethod yX0_beyondMultipleOfLimit, Cond.selects RX0 yX0_beyondMultipleOfLimit yX0_beyondMultipleOfLimit, Cond.code yX0_beyondMultipleOfLimit cX0_beyondMultipleOfLimit 2 (some .int), Cond.methodLink RX0 96 yX0_moveGlances, Cond.instanceMethod yX0_moveGlances, Cond.selects RX0 yX0_moveGlances yX0_moveGlances, Cond.code yX0_moveGlances cX0_moveGlances 3 none, Cond.methodLink RX0 103 yX0_arrive, Cond.instanceMethod yX0_arrive, Cond.selects RX0 yX0_arrive yX0_arrive, Cond.code yX0_arrive cX0_arrive 5 none, Cond.static yX1_pairOf, Cond.code yX1_pairOf cX1_pairOf 2 (some .int), Cond.methodLink RX0 110 yX0_isOnItsWay, Cond.instanceMethod yX0_isOnItsWay, Cond.selects RX0 yX0_isOnItsWay yX0_isOnItsWay]
def wsL_ratingIn_r4 : List Cond := [Cond.code yX0_isOnItsWay cX0_isOnItsWay 2 (some .boolean), Cond.methodLink RX0 107 yX0_forgetThoseOver, Cond.instanceMethod yX0_forgetThoseOver, Cond.selects RX0 yX0_forgetThoseOver yX0_forgetThoseOver, Cond.code yX0_forgetThoseOver cX0_forgetThoseOver 4 none, Cond.methodLink RX1 23 yX0_rate, Cond.instanceMethod yX0_rate, Cond.selects RX0 yX0_rate yX0_rate, Cond.code yX0_rate cX0_rate 2 (some .int), Cond.methodLink RX0 114 Lib.Math.abs.name, Cond.static Lib.Math.abs.name, Cond.initialized "java/lang/Math", Cond.code Lib.Math.abs.name Lib.Math.abs.code 1 (some .int), Cond.methodLink RX0 135 Lib.Math.max.name, Cond.static Lib.Math.max.name, Cond.code Lib.Math.max.name Lib.Math.max.code 2 (some .int), Cond.methodLink RX0 132 yX0_sumUnsaid, Cond.instanceMethod yX0_sumUnsaid, Cond.selects RX0 yX0_sumUnsaid yX0_sumUnsaid, Cond.code yX0_sumUnsaid cX0_sumUnsaid 1 (some .int), Cond.methodLink RX0 128 yX0_sumUnsaidByGuests, Cond.instanceMethod yX0_sumUnsaidByGuests, Cond.selects RX0 yX0_sumUnsaidByGuests yX0_sumUnsaidByGuests, Cond.code yX0_sumUnsaidByGuests cX0_sumUnsaidByGuests 3 (some .int)]
def wsL_ratingIn : List Cond := .codeWith yL_ratingIn cL_ratingIn 4 (some .int) [(0, 9, 12, 13)] :: ((wsL_ratingIn_r1 ++ (wsL_ratingIn_r2 ++ (wsL_ratingIn_r3 ++ wsL_ratingIn_r4))) ++ wsX10 ++ wsX00 ++ (vx_atS RX1 158 "java/lang/IllegalArgumentException" ["java/lang/RuntimeException", "java/lang/Exception"]).filter goodWord)
def wsL_law0_r1 : List Cond := [Cond.classLink RL 8 RX1, Cond.instantiable RX1 2, Cond.initialized RX1, Cond.classLink RL 73 RX2, Cond.instantiable RX2 7, Cond.initialized RX2, Cond.arrayClass .long, Cond.methodLink RL 72 yX1_init, Cond.instanceMethod yX1_init, Cond.code yX1_init cX1_init 1 none, Cond.methodLink RX1 3 objectInit, Cond.instanceMethod objectInit, Cond.code objectInit ⟨#[0xb1]⟩ 1 none, Cond.classLink RX1 9 RX0, Cond.instantiable RX0 17, Cond.initialized RX0, Cond.fieldLink RX1 12 "PauseLedger" "dinner" "LPauseLedger$Dinner;", Cond.fieldLink RX1 16 "PauseLedger" "trial" "LPauseLedger$Dinner;", Cond.methodLink RX1 11 yX0_init, Cond.instanceMethod yX0_init, Cond.code yX0_init cX0_init 1 none, Cond.methodLink RX0 3 objectInit, Cond.arrayClass .int, Cond.fieldLink RX0 9 "PauseLedger$Dinner" "spoken" "[I"]
def wsL_law0_r2 : List Cond := [Cond.fieldLink RX0 15 "PauseLedger$Dinner" "interruptions" "[I", Cond.fieldLink RX0 18 "PauseLedger$Dinner" "coughs" "[I", Cond.fieldLink RX0 21 "PauseLedger$Dinner" "unsaid" "[I", Cond.fieldLink RX0 24 "PauseLedger$Dinner" "toGo" "[I", Cond.fieldLink RX0 27 "PauseLedger$Dinner" "caught" "[I", Cond.fieldLink RX0 30 "PauseLedger$Dinner" "order" "[I", Cond.fieldLink RX0 33 "PauseLedger$Dinner" "limit" "I", Cond.methodLink RX0 37 yX0_begin, Cond.instanceMethod yX0_begin, Cond.selects RX0 yX0_begin yX0_begin, Cond.code yX0_begin cX0_begin 2 none, Cond.fieldLink RX0 41 "PauseLedger$Dinner" "guests" "I", Cond.fieldLink RX0 44 "PauseLedger$Dinner" "seconds" "I", Cond.fieldLink RX0 47 "PauseLedger$Dinner" "speaker" "I", Cond.fieldLink RX0 50 "PauseLedger$Dinner" "toSpeak" "I", Cond.fieldLink RX0 53 "PauseLedger$Dinner" "pause" "I", Cond.fieldLink RX0 56 "PauseLedger$Dinner" "unsaidInPauses" "I", Cond.fieldLink RX0 59 "PauseLedger$Dinner" "meetings" "I", Cond.fieldLink RX0 62 "PauseLedger$Dinner" "lost" "I", Cond.fieldLink RX0 65 "PauseLedger$Dinner" "sent" "I", Cond.methodLink RX0 68 yJ7_fill_53178, Cond.static yJ7_fill_53178, Cond.initialized RJ7, Cond.code yJ7_fill_53178 cJ7_fill_53178 4 none]
def wsL_law0_r3 : List Cond := [Cond.methodLink RL 75 yX2_init, Cond.instanceMethod yX2_init, Cond.code yX2_init cX2_init 1 none, Cond.methodLink RX2 1 objectInit, Cond.fieldLink RX2 7 "PauseLedgerModel" "guests" "I", Cond.fieldLink RX2 13 "PauseLedgerModel" "limit" "I", Cond.fieldLink RX2 16 "PauseLedgerModel" "now" "[I", Cond.fieldLink RX2 20 "PauseLedgerModel" "kept" "[I", Cond.fieldLink RX2 23 "PauseLedgerModel" "mark" "I", Cond.methodLink RL 76 yL_newDinner, Cond.static yL_newDinner, Cond.initialized RL, Cond.codeWith yL_newDinner cL_newDinner 4 (some .int) [(0, 9, 12, 13)], Cond.classLink RL 13 "java/lang/IllegalArgumentException", Cond.methodLink RL 7 yX1_newDinner, Cond.instanceMethod yX1_newDinner, Cond.selects RX1 yX1_newDinner yX1_newDinner, Cond.code yX1_newDinner cX1_newDinner 3 (some .int), Cond.methodLink RX1 19 yX1_requireWithin, Cond.static yX1_requireWithin, Cond.code yX1_requireWithin cX1_requireWithin 3 none, Cond.classLink RX1 154 "java/lang/IllegalArgumentException", Cond.initialized "java/lang/IllegalArgumentException", Cond.methodLink RX1 23 yX0_rate]
def wsL_law0_r4 : List Cond := [Cond.instanceMethod yX0_rate, Cond.selects RX0 yX0_rate yX0_rate, Cond.code yX0_rate cX0_rate 2 (some .int), Cond.methodLink RX0 114 Lib.Math.abs.name, Cond.static Lib.Math.abs.name, Cond.initialized "java/lang/Math", Cond.code Lib.Math.abs.name Lib.Math.abs.code 1 (some .int), Cond.methodLink RX0 135 Lib.Math.max.name, Cond.static Lib.Math.max.name, Cond.code Lib.Math.max.name Lib.Math.max.code 2 (some .int), Cond.methodLink RX0 132 yX0_sumUnsaid, Cond.instanceMethod yX0_sumUnsaid, Cond.selects RX0 yX0_sumUnsaid yX0_sumUnsaid, Cond.code yX0_sumUnsaid cX0_sumUnsaid 1 (some .int), Cond.methodLink RX0 128 yX0_sumUnsaidByGuests, Cond.instanceMethod yX0_sumUnsaidByGuests, Cond.selects RX0 yX0_sumUnsaidByGuests yX0_sumUnsaidByGuests, Cond.code yX0_sumUnsaidByGuests cX0_sumUnsaidByGuests 3 (some .int), Cond.methodLink RX1 27 yX0_begin, Cond.methodLink RL 81 yX2_newDinner, Cond.instanceMethod yX2_newDinner, Cond.selects RX2 yX2_newDinner yX2_newDinner, Cond.code yX2_newDinner cX2_newDinner 4 (some .int), Cond.fieldLink RX2 26 "PauseLedgerModel" "thrown" "I"]
def wsL_law0_r5 : List Cond := [Cond.methodLink RX2 29 yX2_isIn, Cond.static yX2_isIn, Cond.code yX2_isIn cX2_isIn 3 (some .boolean), Cond.methodLink RX2 75 yX2_fail, Cond.instanceMethod yX2_fail, Cond.selects RX2 yX2_fail yX2_fail, Cond.code yX2_fail cX2_fail 2 (some .int), Cond.methodLink RX2 78 yX2_rated, Cond.instanceMethod yX2_rated, Cond.selects RX2 yX2_rated yX2_rated, Cond.code yX2_rated cX2_rated 1 (some .int), Cond.methodLink RX2 39 Lib.Math.abs.name, Cond.methodLink RX2 53 Lib.Math.max.name, Cond.methodLink RX2 49 yX2_unsaid, Cond.instanceMethod yX2_unsaid, Cond.selects RX2 yX2_unsaid yX2_unsaid, Cond.code yX2_unsaid cX2_unsaid 3 (some .int), Cond.methodLink RL 82 yX2_thrown, Cond.instanceMethod yX2_thrown, Cond.selects RX2 yX2_thrown yX2_thrown, Cond.code yX2_thrown cX2_thrown 1 (some .int), Cond.methodLink RL 86 yL_setLimit, Cond.static yL_setLimit, Cond.codeWith yL_setLimit cL_setLimit 4 (some .int) [(0, 9, 12, 13)]]
def wsL_law0_r6 : List Cond := [Cond.methodLink RL 15 yX1_setLimit, Cond.instanceMethod yX1_setLimit, Cond.selects RX1 yX1_setLimit yX1_setLimit, Cond.code yX1_setLimit cX1_setLimit 3 (some .int), Cond.fieldLink RX1 31 "PauseLedger$Dinner" "limit" "I", Cond.methodLink RL 88 yX2_setLimit, Cond.instanceMethod yX2_setLimit, Cond.selects RX2 yX2_setLimit yX2_setLimit, Cond.code yX2_setLimit cX2_setLimit 3 (some .int), Cond.methodLink RL 89 yL_speak, Cond.static yL_speak, Cond.codeWith yL_speak cL_speak 5 (some .int) [(0, 10, 13, 22), (0, 10, 17, 13)], Cond.classLink RL 22 "java/lang/IndexOutOfBoundsException", Cond.methodLink RL 18 yX1_speak, Cond.instanceMethod yX1_speak, Cond.selects RX1 yX1_speak yX1_speak, Cond.code yX1_speak cX1_speak 3 (some .int), Cond.methodLink RX1 35 yX1_requireGuest, Cond.instanceMethod yX1_requireGuest, Cond.selects RX1 yX1_requireGuest yX1_requireGuest, Cond.code yX1_requireGuest cX1_requireGuest 2 none, Cond.classLink RX1 147 "java/lang/IndexOutOfBoundsException", Cond.initialized "java/lang/IndexOutOfBoundsException", Cond.fieldLink RX1 58 "PauseLedger$Dinner" "guests" "I"]
def wsL_law0_r7 : List Cond := [Cond.methodLink RX1 38 yX0_letSpeak, Cond.instanceMethod yX0_letSpeak, Cond.selects RX0 yX0_letSpeak yX0_letSpeak, Cond.code yX0_letSpeak cX0_letSpeak 4 (some .int), Cond.methodLink RL 92 yX2_speak, Cond.instanceMethod yX2_speak, Cond.selects RX2 yX2_speak yX2_speak, Cond.code yX2_speak cX2_speak 4 (some .int), Cond.methodLink RX2 81 yX2_isGuest, Cond.instanceMethod yX2_isGuest, Cond.selects RX2 yX2_isGuest yX2_isGuest, Cond.code yX2_isGuest cX2_isGuest 2 (some .boolean), Cond.methodLink RL 93 yL_cough, Cond.static yL_cough, Cond.codeWith yL_cough cL_cough 5 (some .int) [(0, 10, 13, 22), (0, 10, 17, 13)], Cond.methodLink RL 24 yX1_cough, Cond.instanceMethod yX1_cough, Cond.selects RX1 yX1_cough yX1_cough, Cond.code yX1_cough cX1_cough 3 (some .int), Cond.methodLink RX1 42 yX0_letCough, Cond.instanceMethod yX0_letCough, Cond.selects RX0 yX0_letCough yX0_letCough, Cond.code yX0_letCough cX0_letCough 4 (some .int), Cond.methodLink RX0 80 yX0_unsaidByCough]
def wsL_law0_r8 : List Cond := [Cond.instanceMethod yX0_unsaidByCough, Cond.selects RX0 yX0_unsaidByCough yX0_unsaidByCough, Cond.code yX0_unsaidByCough cX0_unsaidByCough 3 (some .int), Cond.methodLink RL 95 yX2_cough, Cond.instanceMethod yX2_cough, Cond.selects RX2 yX2_cough yX2_cough, Cond.code yX2_cough cX2_cough 4 (some .int), Cond.methodLink RL 96 yL_glance, Cond.static yL_glance, Cond.codeWith yL_glance cL_glance 5 (some .int) [(0, 10, 13, 22), (0, 10, 17, 13), (0, 10, 21, 30)], Cond.classLink RL 30 "java/lang/IllegalStateException", Cond.methodLink RL 27 yX1_glance, Cond.instanceMethod yX1_glance, Cond.selects RX1 yX1_glance yX1_glance, Cond.code yX1_glance cX1_glance 3 (some .int), Cond.methodLink RX1 45 yX1_requireFreeWay, Cond.instanceMethod yX1_requireFreeWay, Cond.selects RX1 yX1_requireFreeWay yX1_requireFreeWay, Cond.code yX1_requireFreeWay cX1_requireFreeWay 3 none, Cond.classLink RX1 161 "java/lang/IllegalStateException", Cond.initialized "java/lang/IllegalStateException", Cond.methodLink RX1 89 yX1_pairOf, Cond.static yX1_pairOf, Cond.code yX1_pairOf cX1_pairOf 2 (some .int)]
def wsL_law0_r9 : List Cond := [Cond.methodLink RX1 92 yX0_isOnItsWay, Cond.instanceMethod yX0_isOnItsWay, Cond.selects RX0 yX0_isOnItsWay yX0_isOnItsWay, Cond.code yX0_isOnItsWay cX0_isOnItsWay 2 (some .boolean), Cond.methodLink RX1 49 yX0_send, Cond.instanceMethod yX0_send, Cond.selects RX0 yX0_send yX0_send, Cond.code yX0_send cX0_send 4 (some .int), Cond.methodLink RX0 87 yX0_wayOf, Cond.instanceMethod yX0_wayOf, Cond.selects RX0 yX0_wayOf yX0_wayOf, Cond.code yX0_wayOf cX0_wayOf 3 (some .int), Cond.methodLink RX0 122 yX0_seatsBetween, Cond.instanceMethod yX0_seatsBetween, Cond.selects RX0 yX0_seatsBetween yX0_seatsBetween, Cond.code yX0_seatsBetween cX0_seatsBetween 4 (some .int), Cond.methodLink RX0 119 Lib.Math.min.name, Cond.static Lib.Math.min.name, Cond.code Lib.Math.min.name Lib.Math.min.code 2 (some .int), Cond.methodLink RL 98 yX2_glance, Cond.instanceMethod yX2_glance, Cond.selects RX2 yX2_glance yX2_glance, Cond.code yX2_glance cX2_glance 3 (some .int), Cond.methodLink RX2 88 yX2_canSend]
def wsL_law0_r10 : List Cond := [Cond.instanceMethod yX2_canSend, Cond.selects RX2 yX2_canSend yX2_canSend, Cond.code yX2_canSend cX2_canSend 3 (some .boolean), Cond.methodLink RX2 56 yX2_pair, Cond.static yX2_pair, Cond.code yX2_pair cX2_pair 2 (some .int), Cond.methodLink RX2 92 yX2_send, Cond.instanceMethod yX2_send, Cond.selects RX2 yX2_send yX2_send, Cond.code yX2_send cX2_send 3 (some .int), Cond.methodLink RX2 85 yX2_apart, Cond.instanceMethod yX2_apart, Cond.selects RX2 yX2_apart yX2_apart, Cond.code yX2_apart cX2_apart 4 (some .int), Cond.methodLink RX2 45 Lib.Math.min.name, Cond.methodLink RL 99 yL_pass, Cond.static yL_pass, Cond.codeWith yL_pass cL_pass 4 (some .int) [(0, 9, 12, 13)], Cond.methodLink RL 32 yX1_pass, Cond.instanceMethod yX1_pass, Cond.selects RX1 yX1_pass yX1_pass, Cond.code yX1_pass cX1_pass 3 (some .int), Cond.methodLink RX1 52 yX0_sumUnsaid, Cond.methodLink RX1 55 yX0_goBy]
def wsL_law0_r11 : List Cond := [Cond.instanceMethod yX0_goBy, Cond.selects RX0 yX0_goBy yX0_goBy, Cond.code yX0_goBy cX0_goBy 3 none, Cond.methodLink RX0 90 yX0_goOneSecond, Cond.instanceMethod yX0_goOneSecond, Cond.selects RX0 yX0_goOneSecond yX0_goOneSecond, Cond.code yX0_goOneSecond cX0_goOneSecond 1 none, Cond.methodLink RX0 93 yX0_speakOrPause, Cond.instanceMethod yX0_speakOrPause, Cond.selects RX0 yX0_speakOrPause yX0_speakOrPause, Cond.code yX0_speakOrPause cX0_speakOrPause 1 none, Cond.methodLink RX0 99 yX0_beyondMultipleOfLimit, Cond.instanceMethod yX0_beyondMultipleOfLimit, Cond.selects RX0 yX0_beyondMultipleOfLimit yX0_beyondMultipleOfLimit, Cond.code yX0_beyondMultipleOfLimit cX0_beyondMultipleOfLimit 2 (some .int), Cond.methodLink RX0 96 yX0_moveGlances, Cond.instanceMethod yX0_moveGlances, Cond.selects RX0 yX0_moveGlances yX0_moveGlances, Cond.code yX0_moveGlances cX0_moveGlances 3 none, Cond.methodLink RX0 103 yX0_arrive, Cond.instanceMethod yX0_arrive, Cond.selects RX0 yX0_arrive yX0_arrive, Cond.code yX0_arrive cX0_arrive 5 none, Cond.methodLink RX0 110 yX0_isOnItsWay]
def wsL_law0_r12 : List Cond := [Cond.methodLink RX0 107 yX0_forgetThoseOver, Cond.instanceMethod yX0_forgetThoseOver, Cond.selects RX0 yX0_forgetThoseOver yX0_forgetThoseOver, Cond.code yX0_forgetThoseOver cX0_forgetThoseOver 4 none, Cond.methodLink RL 101 yX2_pass, Cond.instanceMethod yX2_pass, Cond.selects RX2 yX2_pass yX2_pass, Cond.code yX2_pass cX2_pass 3 (some .int), Cond.methodLink RX2 95 yX2_secondsOn, Cond.instanceMethod yX2_secondsOn, Cond.selects RX2 yX2_secondsOn yX2_secondsOn, Cond.code yX2_secondsOn cX2_secondsOn 3 none, Cond.methodLink RX2 72 yX2_secondOn, Cond.instanceMethod yX2_secondOn, Cond.selects RX2 yX2_secondOn yX2_secondOn, Cond.code yX2_secondOn cX2_secondOn 1 none, Cond.methodLink RX2 66 yX2_talk, Cond.instanceMethod yX2_talk, Cond.selects RX2 yX2_talk yX2_talk, Cond.code yX2_talk cX2_talk 2 none, Cond.methodLink RX2 69 yX2_fly, Cond.instanceMethod yX2_fly, Cond.selects RX2 yX2_fly yX2_fly, Cond.code yX2_fly cX2_fly 3 none]
def wsL_law0_r13 : List Cond := [Cond.methodLink RX2 62 yX2_arrives, Cond.instanceMethod yX2_arrives, Cond.selects RX2 yX2_arrives yX2_arrives, Cond.code yX2_arrives cX2_arrives 5 none, Cond.fieldLink RX2 59 "PauseLedgerModel" "end" "I", Cond.methodLink RL 102 yX1_guests, Cond.instanceMethod yX1_guests, Cond.selects RX1 yX1_guests yX1_guests, Cond.code yX1_guests cX1_guests 1 (some .int), Cond.methodLink RL 105 yX2_guests, Cond.instanceMethod yX2_guests, Cond.selects RX2 yX2_guests yX2_guests, Cond.code yX2_guests cX2_guests 1 (some .int), Cond.methodLink RX2 99 yX2_told, Cond.instanceMethod yX2_told, Cond.selects RX2 yX2_told yX2_told, Cond.code yX2_told cX2_told 2 (some .int), Cond.methodLink RL 106 yX1_seconds, Cond.instanceMethod yX1_seconds, Cond.selects RX1 yX1_seconds yX1_seconds, Cond.code yX1_seconds cX1_seconds 1 (some .int), Cond.fieldLink RX1 61 "PauseLedger$Dinner" "seconds" "I", Cond.methodLink RL 109 yX2_seconds, Cond.instanceMethod yX2_seconds]
def wsL_law0_r14 : List Cond := [Cond.selects RX2 yX2_seconds yX2_seconds, Cond.code yX2_seconds cX2_seconds 1 (some .int), Cond.methodLink RL 110 yX1_limit, Cond.instanceMethod yX1_limit, Cond.selects RX1 yX1_limit yX1_limit, Cond.code yX1_limit cX1_limit 1 (some .int), Cond.methodLink RL 113 yX2_limit, Cond.instanceMethod yX2_limit, Cond.selects RX2 yX2_limit yX2_limit, Cond.code yX2_limit cX2_limit 1 (some .int), Cond.methodLink RL 114 yL_seatsApart, Cond.static yL_seatsApart, Cond.codeWith yL_seatsApart cL_seatsApart 5 (some .int) [(0, 10, 13, 22)], Cond.methodLink RL 35 yX1_seatsApart, Cond.instanceMethod yX1_seatsApart, Cond.selects RX1 yX1_seatsApart yX1_seatsApart, Cond.code yX1_seatsApart cX1_seatsApart 3 (some .int), Cond.methodLink RX1 64 yX0_seatsBetween, Cond.methodLink RL 116 yX2_seatsApart, Cond.instanceMethod yX2_seatsApart, Cond.selects RX2 yX2_seatsApart yX2_seatsApart, Cond.code yX2_seatsApart cX2_seatsApart 3 (some .int), Cond.methodLink RL 117 yX1_speaker, Cond.instanceMethod yX1_speaker]
def wsL_law0_r15 : List Cond := [Cond.selects RX1 yX1_speaker yX1_speaker, Cond.code yX1_speaker cX1_speaker 1 (some .int), Cond.fieldLink RX1 67 "PauseLedger$Dinner" "speaker" "I", Cond.methodLink RL 120 yX2_speaker, Cond.instanceMethod yX2_speaker, Cond.selects RX2 yX2_speaker yX2_speaker, Cond.code yX2_speaker cX2_speaker 1 (some .int), Cond.methodLink RL 121 yX1_secondsToSpeak, Cond.instanceMethod yX1_secondsToSpeak, Cond.selects RX1 yX1_secondsToSpeak yX1_secondsToSpeak, Cond.code yX1_secondsToSpeak cX1_secondsToSpeak 1 (some .int), Cond.fieldLink RX1 70 "PauseLedger$Dinner" "toSpeak" "I", Cond.methodLink RL 124 yX2_secondsToSpeak, Cond.instanceMethod yX2_secondsToSpeak, Cond.selects RX2 yX2_secondsToSpeak yX2_secondsToSpeak, Cond.code yX2_secondsToSpeak cX2_secondsToSpeak 1 (some .int), Cond.methodLink RX2 102 yX2_left, Cond.instanceMethod yX2_left, Cond.selects RX2 yX2_left yX2_left, Cond.code yX2_left cX2_left 1 (some .int), Cond.methodLink RL 125 yX1_pause, Cond.instanceMethod yX1_pause, Cond.selects RX1 yX1_pause yX1_pause, Cond.code yX1_pause cX1_pause 1 (some .int)]
def wsL_law0_r16 : List Cond := [Cond.fieldLink RX1 73 "PauseLedger$Dinner" "pause" "I", Cond.methodLink RL 128 yX2_pause, Cond.instanceMethod yX2_pause, Cond.selects RX2 yX2_pause yX2_pause, Cond.code yX2_pause cX2_pause 1 (some .int), Cond.methodLink RL 129 yL_spokenBy, Cond.static yL_spokenBy, Cond.codeWith yL_spokenBy cL_spokenBy 4 (some .int) [(0, 9, 12, 22)], Cond.methodLink RL 38 yX1_spokenBy, Cond.instanceMethod yX1_spokenBy, Cond.selects RX1 yX1_spokenBy yX1_spokenBy, Cond.code yX1_spokenBy cX1_spokenBy 2 (some .int), Cond.fieldLink RX1 76 "PauseLedger$Dinner" "spoken" "[I", Cond.methodLink RL 131 yX2_spokenBy, Cond.instanceMethod yX2_spokenBy, Cond.selects RX2 yX2_spokenBy yX2_spokenBy, Cond.code yX2_spokenBy cX2_spokenBy 2 (some .int), Cond.methodLink RX2 105 yX2_guest, Cond.instanceMethod yX2_guest, Cond.selects RX2 yX2_guest yX2_guest, Cond.code yX2_guest cX2_guest 3 (some .int), Cond.methodLink RL 132 yL_interruptionsBy, Cond.static yL_interruptionsBy, Cond.codeWith yL_interruptionsBy cL_interruptionsBy 4 (some .int) [(0, 9, 12, 22)]]
def wsL_law0_r17 : List Cond := [Cond.methodLink RL 41 yX1_interruptionsBy, Cond.instanceMethod yX1_interruptionsBy, Cond.selects RX1 yX1_interruptionsBy yX1_interruptionsBy, Cond.code yX1_interruptionsBy cX1_interruptionsBy 2 (some .int), Cond.fieldLink RX1 80 "PauseLedger$Dinner" "interruptions" "[I", Cond.methodLink RL 134 yX2_interruptionsBy, Cond.instanceMethod yX2_interruptionsBy, Cond.selects RX2 yX2_interruptionsBy yX2_interruptionsBy, Cond.code yX2_interruptionsBy cX2_interruptionsBy 2 (some .int), Cond.methodLink RL 135 yL_coughsOf, Cond.static yL_coughsOf, Cond.codeWith yL_coughsOf cL_coughsOf 4 (some .int) [(0, 9, 12, 22)], Cond.methodLink RL 44 yX1_coughsOf, Cond.instanceMethod yX1_coughsOf, Cond.selects RX1 yX1_coughsOf yX1_coughsOf, Cond.code yX1_coughsOf cX1_coughsOf 2 (some .int), Cond.fieldLink RX1 83 "PauseLedger$Dinner" "coughs" "[I", Cond.methodLink RL 137 yX2_coughsOf, Cond.instanceMethod yX2_coughsOf, Cond.selects RX2 yX2_coughsOf yX2_coughsOf, Cond.code yX2_coughsOf cX2_coughsOf 2 (some .int), Cond.methodLink RL 138 yL_unsaidBy, Cond.static yL_unsaidBy, Cond.codeWith yL_unsaidBy cL_unsaidBy 4 (some .int) [(0, 9, 12, 22)]]
def wsL_law0_r18 : List Cond := [Cond.methodLink RL 47 yX1_unsaidBy, Cond.instanceMethod yX1_unsaidBy, Cond.selects RX1 yX1_unsaidBy yX1_unsaidBy, Cond.code yX1_unsaidBy cX1_unsaidBy 2 (some .int), Cond.fieldLink RX1 86 "PauseLedger$Dinner" "unsaid" "[I", Cond.methodLink RL 140 yX2_unsaidBy, Cond.instanceMethod yX2_unsaidBy, Cond.selects RX2 yX2_unsaidBy yX2_unsaidBy, Cond.code yX2_unsaidBy cX2_unsaidBy 2 (some .int), Cond.methodLink RL 141 yL_isUnderWay, Cond.static yL_isUnderWay, Cond.codeWith yL_isUnderWay cL_isUnderWay 5 (some .int) [(0, 17, 20, 22)], Cond.methodLink RL 50 yX1_isUnderWay, Cond.instanceMethod yX1_isUnderWay, Cond.selects RX1 yX1_isUnderWay yX1_isUnderWay, Cond.code yX1_isUnderWay cX1_isUnderWay 3 (some .boolean), Cond.methodLink RL 143 yX2_isUnderWay, Cond.instanceMethod yX2_isUnderWay, Cond.selects RX2 yX2_isUnderWay yX2_isUnderWay, Cond.code yX2_isUnderWay cX2_isUnderWay 3 (some .boolean), Cond.methodLink RX2 108 yX2_flight, Cond.instanceMethod yX2_flight, Cond.selects RX2 yX2_flight yX2_flight, Cond.code yX2_flight cX2_flight 4 (some .int)]
def wsL_law0_r19 : List Cond := [Cond.methodLink RL 144 yL_secondsToGo, Cond.static yL_secondsToGo, Cond.codeWith yL_secondsToGo cL_secondsToGo 5 (some .int) [(0, 10, 13, 22)], Cond.methodLink RL 54 yX1_secondsToGo, Cond.instanceMethod yX1_secondsToGo, Cond.selects RX1 yX1_secondsToGo yX1_secondsToGo, Cond.code yX1_secondsToGo cX1_secondsToGo 3 (some .int), Cond.methodLink RX1 96 yX0_timeToGo, Cond.instanceMethod yX0_timeToGo, Cond.selects RX0 yX0_timeToGo yX0_timeToGo, Cond.code yX0_timeToGo cX0_timeToGo 2 (some .int), Cond.methodLink RL 146 yX2_secondsToGo, Cond.instanceMethod yX2_secondsToGo, Cond.selects RX2 yX2_secondsToGo yX2_secondsToGo, Cond.code yX2_secondsToGo cX2_secondsToGo 3 (some .int), Cond.methodLink RL 147 yL_caughtBy, Cond.static yL_caughtBy, Cond.codeWith yL_caughtBy cL_caughtBy 5 (some .int) [(0, 10, 13, 22)], Cond.methodLink RL 57 yX1_caughtBy, Cond.instanceMethod yX1_caughtBy, Cond.selects RX1 yX1_caughtBy yX1_caughtBy, Cond.code yX1_caughtBy cX1_caughtBy 3 (some .int), Cond.fieldLink RX1 100 "PauseLedger$Dinner" "caught" "[I", Cond.methodLink RL 149 yX2_caughtBy]
def wsL_law0_r20 : List Cond := [Cond.instanceMethod yX2_caughtBy, Cond.selects RX2 yX2_caughtBy yX2_caughtBy, Cond.code yX2_caughtBy cX2_caughtBy 3 (some .int), Cond.methodLink RL 150 yX1_unsaidInPauses, Cond.instanceMethod yX1_unsaidInPauses, Cond.selects RX1 yX1_unsaidInPauses yX1_unsaidInPauses, Cond.code yX1_unsaidInPauses cX1_unsaidInPauses 1 (some .int), Cond.fieldLink RX1 103 "PauseLedger$Dinner" "unsaidInPauses" "I", Cond.methodLink RL 153 yX2_unsaidInPauses, Cond.instanceMethod yX2_unsaidInPauses, Cond.selects RX2 yX2_unsaidInPauses yX2_unsaidInPauses, Cond.code yX2_unsaidInPauses cX2_unsaidInPauses 1 (some .int), Cond.methodLink RL 154 yX1_allUnsaid, Cond.instanceMethod yX1_allUnsaid, Cond.selects RX1 yX1_allUnsaid yX1_allUnsaid, Cond.code yX1_allUnsaid cX1_allUnsaid 1 (some .int), Cond.methodLink RL 157 yX2_allUnsaid, Cond.instanceMethod yX2_allUnsaid, Cond.selects RX2 yX2_allUnsaid yX2_allUnsaid, Cond.code yX2_allUnsaid cX2_allUnsaid 1 (some .int), Cond.methodLink RL 158 yX1_glancesUnderWay, Cond.instanceMethod yX1_glancesUnderWay, Cond.selects RX1 yX1_glancesUnderWay yX1_glancesUnderWay, Cond.code yX1_glancesUnderWay cX1_glancesUnderWay 1 (some .int)]
def wsL_law0_r21 : List Cond := [Cond.fieldLink RX1 106 "PauseLedger$Dinner" "sent" "I", Cond.methodLink RL 161 yX2_glancesUnderWay, Cond.instanceMethod yX2_glancesUnderWay, Cond.selects RX2 yX2_glancesUnderWay yX2_glancesUnderWay, Cond.code yX2_glancesUnderWay cX2_glancesUnderWay 1 (some .int), Cond.methodLink RX2 112 yX2_underWay, Cond.instanceMethod yX2_underWay, Cond.selects RX2 yX2_underWay yX2_underWay, Cond.code yX2_underWay cX2_underWay 3 (some .int), Cond.methodLink RL 162 yX1_meetings, Cond.instanceMethod yX1_meetings, Cond.selects RX1 yX1_meetings yX1_meetings, Cond.code yX1_meetings cX1_meetings 1 (some .int), Cond.fieldLink RX1 109 "PauseLedger$Dinner" "meetings" "I", Cond.methodLink RL 165 yX2_meetings, Cond.instanceMethod yX2_meetings, Cond.selects RX2 yX2_meetings yX2_meetings, Cond.code yX2_meetings cX2_meetings 1 (some .int), Cond.methodLink RL 166 yX1_lostGlances, Cond.instanceMethod yX1_lostGlances, Cond.selects RX1 yX1_lostGlances yX1_lostGlances, Cond.code yX1_lostGlances cX1_lostGlances 1 (some .int), Cond.fieldLink RX1 112 "PauseLedger$Dinner" "lost" "I", Cond.methodLink RL 169 yX2_lostGlances]
def wsL_law0_r22 : List Cond := [Cond.instanceMethod yX2_lostGlances, Cond.selects RX2 yX2_lostGlances yX2_lostGlances, Cond.code yX2_lostGlances cX2_lostGlances 1 (some .int), Cond.methodLink RL 170 yX1_quietest, Cond.instanceMethod yX1_quietest, Cond.selects RX1 yX1_quietest yX1_quietest, Cond.code yX1_quietest cX1_quietest 3 (some .int), Cond.methodLink RL 173 yX2_quietest, Cond.instanceMethod yX2_quietest, Cond.selects RX2 yX2_quietest yX2_quietest, Cond.code yX2_quietest cX2_quietest 3 (some .int), Cond.methodLink RL 174 yX1_rating, Cond.instanceMethod yX1_rating, Cond.selects RX1 yX1_rating yX1_rating, Cond.code yX1_rating cX1_rating 1 (some .int), Cond.methodLink RL 177 yX2_rating, Cond.instanceMethod yX2_rating, Cond.selects RX2 yX2_rating yX2_rating, Cond.code yX2_rating cX2_rating 1 (some .int), Cond.methodLink RL 178 yL_allUnsaidIn, Cond.static yL_allUnsaidIn, Cond.codeWith yL_allUnsaidIn cL_allUnsaidIn 4 (some .int) [(0, 9, 12, 13)], Cond.methodLink RL 60 yX1_allUnsaidIn, Cond.instanceMethod yX1_allUnsaidIn]
def wsL_law0_r23 : List Cond := [Cond.selects RX1 yX1_allUnsaidIn yX1_allUnsaidIn, Cond.code yX1_allUnsaidIn cX1_allUnsaidIn 2 (some .int), Cond.methodLink RX1 115 yX1_tryOut, Cond.instanceMethod yX1_tryOut, Cond.selects RX1 yX1_tryOut yX1_tryOut, Cond.code yX1_tryOut cX1_tryOut 2 none, Cond.methodLink RX1 143 yX0_copyOf, Cond.instanceMethod yX0_copyOf, Cond.selects RX0 yX0_copyOf yX0_copyOf, Cond.code yX0_copyOf cX0_copyOf 2 none, Cond.methodLink RX0 74 arraycopyName, Cond.native arraycopyName, Cond.static arraycopyName, Cond.initialized "java/lang/System", Cond.methodLink RL 180 yX2_allUnsaidIn, Cond.instanceMethod yX2_allUnsaidIn, Cond.selects RX2 yX2_allUnsaidIn yX2_allUnsaidIn, Cond.code yX2_allUnsaidIn cX2_allUnsaidIn 3 (some .int), Cond.methodLink RX2 115 yX2_keep, Cond.instanceMethod yX2_keep, Cond.selects RX2 yX2_keep yX2_keep, Cond.code yX2_keep cX2_keep 1 none, Cond.methodLink RX2 33 arraycopyName, Cond.methodLink RX2 118 yX2_bringBack]
def wsL_law0_r24 : List Cond := [Cond.instanceMethod yX2_bringBack, Cond.selects RX2 yX2_bringBack yX2_bringBack, Cond.code yX2_bringBack cX2_bringBack 1 none, Cond.methodLink RL 181 yX1_secondsUntilPauseCounts, Cond.instanceMethod yX1_secondsUntilPauseCounts, Cond.selects RX1 yX1_secondsUntilPauseCounts yX1_secondsUntilPauseCounts, Cond.code yX1_secondsUntilPauseCounts cX1_secondsUntilPauseCounts 1 (some .int), Cond.methodLink RX1 118 yX0_untilPauseCounts, Cond.instanceMethod yX0_untilPauseCounts, Cond.selects RX0 yX0_untilPauseCounts yX0_untilPauseCounts, Cond.code yX0_untilPauseCounts cX0_untilPauseCounts 1 (some .int), Cond.methodLink RL 184 yX2_secondsUntilPauseCounts, Cond.instanceMethod yX2_secondsUntilPauseCounts, Cond.selects RX2 yX2_secondsUntilPauseCounts yX2_secondsUntilPauseCounts, Cond.code yX2_secondsUntilPauseCounts cX2_secondsUntilPauseCounts 1 (some .int), Cond.methodLink RL 185 yL_wouldLeave, Cond.static yL_wouldLeave, Cond.codeWith yL_wouldLeave cL_wouldLeave 5 (some .int) [(0, 10, 13, 22), (0, 10, 17, 13), (0, 10, 21, 30)], Cond.methodLink RL 63 yX1_wouldLeave, Cond.instanceMethod yX1_wouldLeave, Cond.selects RX1 yX1_wouldLeave yX1_wouldLeave, Cond.code yX1_wouldLeave cX1_wouldLeave 3 (some .int), Cond.methodLink RX1 121 yX0_fateOf, Cond.instanceMethod yX0_fateOf]
def wsL_law0_r25 : List Cond := [Cond.selects RX0 yX0_fateOf yX0_fateOf, Cond.code yX0_fateOf cX0_fateOf 5 (some .int), Cond.methodLink RX0 125 yX0_timeToGo, Cond.methodLink RL 187 yX2_wouldLeave, Cond.instanceMethod yX2_wouldLeave, Cond.selects RX2 yX2_wouldLeave yX2_wouldLeave, Cond.code yX2_wouldLeave cX2_wouldLeave 3 (some .int), Cond.methodLink RX2 121 yX2_becomes, Cond.instanceMethod yX2_becomes, Cond.selects RX2 yX2_becomes yX2_becomes, Cond.code yX2_becomes cX2_becomes 4 (some .int), Cond.methodLink RL 188 yL_bestMoment, Cond.static yL_bestMoment, Cond.codeWith yL_bestMoment cL_bestMoment 5 (some .int) [(0, 10, 13, 22), (0, 10, 17, 13), (0, 10, 21, 30)], Cond.methodLink RL 66 yX1_bestMoment, Cond.instanceMethod yX1_bestMoment, Cond.selects RX1 yX1_bestMoment yX1_bestMoment, Cond.code yX1_bestMoment cX1_bestMoment 4 (some .int), Cond.methodLink RL 190 yX2_bestMoment, Cond.instanceMethod yX2_bestMoment, Cond.selects RX2 yX2_bestMoment yX2_bestMoment, Cond.code yX2_bestMoment cX2_bestMoment 4 (some .int), Cond.methodLink RL 191 yL_ratingIn, Cond.static yL_ratingIn]
def wsL_law0_r26 : List Cond := [Cond.codeWith yL_ratingIn cL_ratingIn 4 (some .int) [(0, 9, 12, 13)], Cond.methodLink RL 69 yX1_ratingIn, Cond.instanceMethod yX1_ratingIn, Cond.selects RX1 yX1_ratingIn yX1_ratingIn, Cond.code yX1_ratingIn cX1_ratingIn 2 (some .int), Cond.methodLink RL 193 yX2_ratingIn, Cond.instanceMethod yX2_ratingIn, Cond.selects RX2 yX2_ratingIn yX2_ratingIn, Cond.code yX2_ratingIn cX2_ratingIn 3 (some .int), Cond.methodLink RL 194 yX1_meanUnsaid, Cond.instanceMethod yX1_meanUnsaid, Cond.selects RX1 yX1_meanUnsaid yX1_meanUnsaid, Cond.code yX1_meanUnsaid cX1_meanUnsaid 1 (some .double), Cond.methodLink RX1 125 yX0_sumUnsaidByGuests, Cond.methodLink RL 198 yX2_meanUnsaid, Cond.instanceMethod yX2_meanUnsaid, Cond.selects RX2 yX2_meanUnsaid yX2_meanUnsaid, Cond.code yX2_meanUnsaid cX2_meanUnsaid 1 (some .double), Cond.methodLink RL 199 yX1_digest, Cond.instanceMethod yX1_digest, Cond.selects RX1 yX1_digest yX1_digest, Cond.code yX1_digest cX1_digest 4 (some .long), Cond.methodLink RX1 128 yX1_digestOfTable, Cond.instanceMethod yX1_digestOfTable]
def wsL_law0_r27 : List Cond := [Cond.selects RX1 yX1_digestOfTable yX1_digestOfTable, Cond.code yX1_digestOfTable cX1_digestOfTable 3 (some .long), Cond.constantLong RX1 136 (1973), Cond.methodLink RX1 138 yX1_followedBy, Cond.static yX1_followedBy, Cond.code yX1_followedBy cX1_followedBy 3 (some .long), Cond.constantLong RX1 141 (31), Cond.methodLink RX1 132 yX1_withGuest, Cond.instanceMethod yX1_withGuest, Cond.selects RX1 yX1_withGuest yX1_withGuest, Cond.code yX1_withGuest cX1_withGuest 8 (some .long), Cond.methodLink RL 203 yX2_digest, Cond.instanceMethod yX2_digest, Cond.selects RX2 yX2_digest yX2_digest, Cond.code yX2_digest cX2_digest 8 (some .long), Cond.constantLong RX2 124 (1973), Cond.constantLong RX2 126 (31)]
def wsL_law0 : List Cond := (wsL_law0_r1 ++ (wsL_law0_r2 ++ (wsL_law0_r3 ++ (wsL_law0_r4 ++ (wsL_law0_r5 ++ (wsL_law0_r6 ++ (wsL_law0_r7 ++ (wsL_law0_r8 ++ (wsL_law0_r9 ++ (wsL_law0_r10 ++ (wsL_law0_r11 ++ (wsL_law0_r12 ++ (wsL_law0_r13 ++ (wsL_law0_r14 ++ (wsL_law0_r15 ++ (wsL_law0_r16 ++ (wsL_law0_r17 ++ (wsL_law0_r18 ++ (wsL_law0_r19 ++ (wsL_law0_r20 ++ (wsL_law0_r21 ++ (wsL_law0_r22 ++ (wsL_law0_r23 ++ (wsL_law0_r24 ++ (wsL_law0_r25 ++ (wsL_law0_r26 ++ wsL_law0_r27)))))))))))))))))))))))))) ++ wsX10 ++ wsX20 ++ wsX00 ++ ([] : List Cond)
def wsL_law : List Cond := wsL_law0 ++ (vx_atS RX1 158 "java/lang/IllegalArgumentException" ["java/lang/RuntimeException", "java/lang/Exception"]).filter goodWord ++ (vx_atS RX1 151 "java/lang/IndexOutOfBoundsException" ["java/lang/RuntimeException", "java/lang/Exception"]).filter goodWord ++ (vx_atS RX1 165 "java/lang/IllegalStateException" ["java/lang/RuntimeException", "java/lang/Exception"]).filter goodWord
abbrev vwCl : List vw_C := [(RX0, TX0, 17), (RX1, TX1, 2), (RX2, TX2, 7)]
