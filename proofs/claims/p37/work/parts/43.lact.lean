abbrev rmL_act : Room := { frames := 6, cells := 17, slots := 175, locals := 131 }
set_option maxRecDepth 100000 in
set_option maxHeartbeats 4000000 in
/-- act -/
theorem mL_act (l : Launch) (D : va_G) (cI cR : ClassId) (x0 : Nat) (pa pb : Nat → Nat) (f2 : Nat → Int32) (r2 : Nat → Nat → Int32) (a ca ga : Nat → Nat) (n k : Nat) (f : Nat → Int32) (r G : Nat → Nat → Int32) (li : Nat) (L : List Nat) (K : Nat) (x : Int32) (sz : Nat) (hI : InvC n li f r L K) (hT : InvT n k (r 4) L G) (hK9 : K ≤ 9000000) : wCt l yL_act wsL_act rmL_act D [(cI, .int), (cR, .array .int)] [.ref x0, .ref (a 0), .int x] (XO x0 pa pb ++ (DC cI pa f r ++ (DC cI pb f2 r2 ++ (SC cI cR a ca ga n k f r ++ (CW cI ca n (r 5) ++ RW cI ga k 3 G))))) sz 17 175 (wQr D (fun u : aS => aInv (K + 24000) u) (fun u : aS => XO x0 pa pb ++ (DC cI pa u.2.1.1 u.2.1.2.1 ++ (DC cI pb f2 r2 ++ (SC cI cR u.2.2.1 u.2.2.2.1 u.2.2.2.2 u.1.1 u.1.2.2 u.2.1.1 u.2.1.2.1 ++ (CW cI u.2.2.2.1 u.1.1 (u.2.1.2.1 5) ++ RW cI u.2.2.2.2 u.1.2.2 3 u.2.1.2.2.1))))) (fun u : aS => u.2.2.1 0)) := by
  refine wMet cL_act 13 (some (.object "PauseLedgerLaw$Sim")) (by decide) rfl (Nat.le_of_ble_eq_true rfl) ?_
  intro p e s m args below meth c A Q ls hQ hx hb hr hml hown hlocks hin hts hN hP hK hD hA hS hl
  have hK1 : va_K D vwCl [(cI, .int)] s := hK.sub [0] rfl
  have hl : lv_has ls 13 [(0, .ref x0), (1, .ref (a 0)), (2, .int x)] := hl
  have hown : s.vm.findClass RL = some m.cls := hown
  have hw2 : ∀ w ∈ wsX20, w.before args s = true := fun w h => hts w (List.mem_cons_of_mem _ (List.mem_append_left _ (List.mem_append_left _ (List.mem_append_left _ (List.mem_append_left _ (List.mem_append_left _ (List.mem_append_right _ h)))))))
  have k9 := hts (.fieldLink RL 9 "PauseLedgerLaw$Sim" "guests" "I") (by decide +kernel)
  have k24 := hts (.fieldLink RL 24 "PauseLedgerLaw$Sim" "limit" "I") (by decide +kernel)
  have k40 := hts (.fieldLink RL 40 "PauseLedgerLaw$Sim" "speaker" "I") (by decide +kernel)
  have k43 := hts (.fieldLink RL 43 "PauseLedgerLaw$Sim" "cut" "[I") (by decide +kernel)
  have k47 := hts (.fieldLink RL 47 "PauseLedgerLaw$Sim" "left" "I") (by decide +kernel)
  have k53 := hts (.fieldLink RL 53 "PauseLedgerLaw$Sim" "coughs" "[I") (by decide +kernel)
  have k56 := hts (.fieldLink RL 56 "PauseLedgerLaw$Sim" "unsaid" "[I") (by decide +kernel)
  have hg : f 0 = nI n := hI.1.2.2.2.2.1
  have hn0 : 2 ≤ n := hI.1.1
  have hn1 : n ≤ 10 := hI.1.2.1
  have hk : k ≤ 100 := hT.1
  have join458 : ∀ (u9 : Nat) (c11 : Nat), (u9 < n) → (1 ≤ c11) → (c11 ≤ 60) → ∀ (H : Heap) (locs : List Loc) (ls : Array Slot), va_P D vwCl (XO x0 pa pb ++ (DC cI pa f r ++ (DC cI pb f2 r2 ++ (SC cI cR a ca ga n k f r ++ (CW cI ca n (r 5) ++ RW cI ga k 3 G))))) H → va_D A (XO x0 pa pb ++ (DC cI pa f r ++ (DC cI pb f2 r2 ++ (SC cI cR a ca ga n k f r ++ (CW cI ca n (r 5) ++ RW cI ga k 3 G))))) → va_S A s.heap H locs → lv_has ls 13 [(11, .int (nI c11)), (4, .int (nI u9)), (3, .int (nI n)), (0, .ref x0), (1, .ref (a 0)), (2, .int x)] → W p l e rmL_act s m args below meth c H locs 0 0 Q (F0 m 458 ls []) := by
    intro u9 c11 hu9 hc1 hc2 H locs ls hP hD hS hl
    refine lv_aload_n hx hb dL_act_458 rfl (lv_at hl 4 rfl) ?_
    refine wCVi (pre := XO x0 pa pb ++ (DC cI pa f r ++ DC cI pb f2 r2)) (Wc := SC cI cR a ca ga n k f r ++ (CW cI ca n (r 5) ++ RW cI ga k 3 G)) (suf := ([] : va_W)) (As := []) (rest := []) ⟨hx, hb, hml, hown, hts⟩ (mX2_all l D cI cR a ca ga n k f r G _ hg hn0 hn1 hk) hN hA hK hS hP hD (by simp only [List.append_assoc, List.append_nil, List.nil_append]) 0 (r := (RX2, TX2, 15)) rfl rfl (cwV 0 hts gL_act_X2_all rfl rfl rfl (by decide +kernel) ⟨Nat.le_of_ble_eq_true rfl, Nat.le_of_ble_eq_true rfl⟩) rfl hl.1 rfl (Nat.le_of_ble_eq_true rfl) dL_act_459 ⟨by show 0 ≤ 17; omega, by show 0 ≤ 175; omega⟩ (fun r_459 u_459 H locs hw hP hD hS => ?_)
    have hw : r_459 = dSum (r 3) n + (f 6) := hw
    subst hw
    have hP : va_P D vwCl (XO x0 pa pb ++ (DC cI pa f r ++ (DC cI pb f2 r2 ++ (SC cI cR a ca ga n k f r ++ (CW cI ca n (r 5) ++ RW cI ga k 3 G))))) H := by simpa only [List.append_assoc, List.append_nil, List.nil_append] using hP
    have hD : va_D A (XO x0 pa pb ++ (DC cI pa f r ++ (DC cI pb f2 r2 ++ (SC cI cR a ca ga n k f r ++ (CW cI ca n (r 5) ++ RW cI ga k 3 G))))) := by simpa only [List.append_assoc, List.append_nil, List.nil_append] using hD
    refine lv_istore (lv' := [(12, .int (dSum (r 3) n + (f 6))), (11, .int (nI c11)), (4, .int (nI u9)), (3, .int (nI n)), (0, .ref x0), (1, .ref (a 0)), (2, .int x)]) hx hb dL_act_462 hl (by decide) rfl (fun ls hl => ?_)
    refine lv_aload_n hx hb dL_act_464 rfl (lv_at hl 4 rfl) ?_
    refine lv_iload hx hb dL_act_465 (lv_at hl 1 rfl) ?_
    refine wCVi (pre := ([] : va_W)) (Wc := XO x0 pa pb ++ (DC cI pa f r ++ DC cI pb f2 r2)) (suf := SC cI cR a ca ga n k f r ++ (CW cI ca n (r 5) ++ RW cI ga k 3 G)) (As := [.int (nI c11)]) (rest := []) ⟨hx, hb, hml, hown, hts⟩ (mX1_pass l D cI x0 pa pb f f2 r r2 n c11 L _ hg hn1 (by omega) hc1 (by omega) (fun i _ => (inv_go hI i).dok) (inv_go hI c11).1.2.2.2.2.1) hN hA hK1 hS hP hD (by simp only [List.append_assoc, List.append_nil, List.nil_append]) 0 (r := (RX1, TX1, 2)) rfl rfl (cwV 1 hts gL_act_X1_pass rfl rfl rfl (by decide +kernel) ⟨Nat.le_of_ble_eq_true rfl, Nat.le_of_ble_eq_true rfl⟩) rfl hl.1 rfl (Nat.le_of_ble_eq_true rfl) dL_act_467 ⟨by show 0 ≤ 17; omega, by show 0 ≤ 175; omega⟩ (fun r_467 u_467 H locs hw hP hD hS => ?_)
    have hw : r_467 = dSum ((dGo (f, r) L c11).1.2 3) n + (dGo (f, r) L c11).1.1 6 - (dSum (r 3) n + f 6) := hw
    subst hw
    have hP : va_P D vwCl (XO x0 pa pb ++ (DC cI pa (dGo (f, r) L c11).1.1 (dGo (f, r) L c11).1.2 ++ (DC cI pb f2 r2 ++ (SC cI cR a ca ga n k f r ++ (CW cI ca n (r 5) ++ RW cI ga k 3 G))))) H := by simpa only [List.append_assoc, List.append_nil, List.nil_append] using hP
    have hD : va_D A (XO x0 pa pb ++ (DC cI pa (dGo (f, r) L c11).1.1 (dGo (f, r) L c11).1.2 ++ (DC cI pb f2 r2 ++ (SC cI cR a ca ga n k f r ++ (CW cI ca n (r 5) ++ RW cI ga k 3 G))))) := by simpa only [List.append_assoc, List.append_nil, List.nil_append] using hD
    refine lv_aload_n hx hb dL_act_470 rfl (lv_at hl 5 rfl) ?_
    refine lv_iload hx hb dL_act_471 (lv_at hl 1 rfl) ?_
    refine wCVrm (pre := XO x0 pa pb ++ (DC cI pa (dGo (f, r) L c11).1.1 (dGo (f, r) L c11).1.2 ++ DC cI pb f2 r2)) (Wc := SC cI cR a ca ga n k f r ++ (CW cI ca n (r 5) ++ RW cI ga k 3 G)) (suf := ([] : va_W)) (As := [.int (nI c11)]) (rest := [.int (dSum ((dGo (f, r) L c11).1.2 3) n + (dGo (f, r) L c11).1.1 6 - (dSum (r 3) n + f 6))]) ⟨hx, hb, hml, hown, hts⟩ (mX2_behind l D cI cR a ca ga n k f r G c11 _ hg hn0 hn1 hk (by omega) (fun i _ => pok_go hI hT Same.rf i)) hN hA hK hS hP hD (by simp only [List.append_assoc, List.append_nil, List.nil_append]) 0 (r := (RX2, TX2, 15)) rfl rfl (cwV 1 hts gL_act_X2_behind rfl rfl rfl (by decide +kernel) ⟨Nat.le_of_ble_eq_true rfl, Nat.le_of_ble_eq_true rfl⟩) rfl hl.1 rfl (Nat.le_of_ble_eq_true rfl) dL_act_473 ⟨by show 0 + 0 ≤ 17; omega, by show 0 + 0 ≤ 175; omega⟩ (fun u_473 H locs hw hP hD hS => ?_)
    subst hw
    have hP : va_P D vwCl (XO x0 pa pb ++ (DC cI pa (dGo (f, r) L c11).1.1 (dGo (f, r) L c11).1.2 ++ (DC cI pb f2 r2 ++ (SC cI cR a ca ga n k (sGo k (f, r, G) c11).1 (sGo k (f, r, G) c11).2.1 ++ (CW cI ca n ((sGo k (f, r, G) c11).2.1 5) ++ RW cI ga k 3 (sGo k (f, r, G) c11).2.2))))) H := by simpa only [List.append_assoc, List.append_nil, List.nil_append] using hP
    have hD : va_D A (XO x0 pa pb ++ (DC cI pa (dGo (f, r) L c11).1.1 (dGo (f, r) L c11).1.2 ++ (DC cI pb f2 r2 ++ (SC cI cR a ca ga n k (sGo k (f, r, G) c11).1 (sGo k (f, r, G) c11).2.1 ++ (CW cI ca n ((sGo k (f, r, G) c11).2.1 5) ++ RW cI ga k 3 (sGo k (f, r, G) c11).2.2))))) := by simpa only [List.append_assoc, List.append_nil, List.nil_append] using hD
    refine wCVi (pre := XO x0 pa pb ++ (DC cI pa (dGo (f, r) L c11).1.1 (dGo (f, r) L c11).1.2 ++ DC cI pb f2 r2)) (Wc := SC cI cR a ca ga n k (sGo k (f, r, G) c11).1 (sGo k (f, r, G) c11).2.1 ++ (CW cI ca n ((sGo k (f, r, G) c11).2.1 5) ++ RW cI ga k 3 (sGo k (f, r, G) c11).2.2)) (suf := ([] : va_W)) (As := []) (rest := [.int (dSum ((dGo (f, r) L c11).1.2 3) n + (dGo (f, r) L c11).1.1 6 - (dSum (r 3) n + f 6))]) ⟨hx, hb, hml, hown, hts⟩ (mX2_all l D cI cR a ca ga n k (sGo k (f, r, G) c11).1 (sGo k (f, r, G) c11).2.1 (sGo k (f, r, G) c11).2.2 _ (((both_go hI hT Same.rf c11).1.1 0 (by decide)).trans (inv_go hI c11).1.2.2.2.2.1) hn0 hn1 hk) hN hA hK hS hP hD (by simp only [List.append_assoc, List.append_nil, List.nil_append]) 0 (r := (RX2, TX2, 15)) rfl rfl (cwV 0 hts gL_act_X2_all rfl rfl rfl (by decide +kernel) ⟨Nat.le_of_ble_eq_true rfl, Nat.le_of_ble_eq_true rfl⟩) rfl hl.1 rfl (Nat.le_of_ble_eq_true rfl) dL_act_476 ⟨by show (0 + 0) ≤ 17; omega, by show (0 + 0) ≤ 175; omega⟩ (fun r_476 u_476 H locs hw hP hD hS => ?_)
    have hw : r_476 = dSum ((sGo k (f, r, G) c11).2.1 3) n + ((sGo k (f, r, G) c11).1 6) := hw
    subst hw
    have hP : va_P D vwCl (XO x0 pa pb ++ (DC cI pa (dGo (f, r) L c11).1.1 (dGo (f, r) L c11).1.2 ++ (DC cI pb f2 r2 ++ (SC cI cR a ca ga n k (sGo k (f, r, G) c11).1 (sGo k (f, r, G) c11).2.1 ++ (CW cI ca n ((sGo k (f, r, G) c11).2.1 5) ++ RW cI ga k 3 (sGo k (f, r, G) c11).2.2))))) H := by simpa only [List.append_assoc, List.append_nil, List.nil_append] using hP
    have hD : va_D A (XO x0 pa pb ++ (DC cI pa (dGo (f, r) L c11).1.1 (dGo (f, r) L c11).1.2 ++ (DC cI pb f2 r2 ++ (SC cI cR a ca ga n k (sGo k (f, r, G) c11).1 (sGo k (f, r, G) c11).2.1 ++ (CW cI ca n ((sGo k (f, r, G) c11).2.1 5) ++ RW cI ga k 3 (sGo k (f, r, G) c11).2.2))))) := by simpa only [List.append_assoc, List.append_nil, List.nil_append] using hD
    refine lv_iload hx hb dL_act_479 (lv_at hl 0 rfl) ?_
    refine lv_isub hx hb dL_act_481 ?_
    refine lv_icmp_ne (tgt := 489) hx hb dL_act_482 (by decide) (fun h9 => absurd (by rw [(both_go hI hT Same.rf c11).1.2 3 (by decide) (by decide), (both_go hI hT Same.rf c11).1.1 6 (by decide)]) h9) (fun c_482 => ?_)
    refine lv_aload_n hx hb dL_act_485 rfl (lv_at hl 5 rfl) ?_
    refine lv_goto (tgt := 490) hx hb dL_act_486 (by decide) ?_
    have eS := SCsame (cI := cI) (cR := cR) (a := a) (ca := ca) (ga := ga) (n := n) (k := k) (X := RW cI ga k 3 (sGo k (f, r, G) c11).2.2) (both_go hI hT Same.rf c11).1
    rw [eS] at hP hD
    refine W.widen (k := 17) (n := 175) (by omega) (by omega) ?_
    exact wRr hQ hx hb hr (Or.inl ⟨_, rfl⟩) hlocks hP hD hS dL_act_490 ((n, li, k), ((dGo (f, r) L c11).1.1, (dGo (f, r) L c11).1.2, (sGo k (f, r, G) c11).2.2, (dGo (f, r) L c11).2), (a, ca, ga)) (⟨(inv_go hI c11).mono (by omega), (both_go hI hT Same.rf c11).2⟩) rfl rfl
  have join433 : ∀ (u9 : Nat), (u9 < n) → ∀ (H : Heap) (locs : List Loc) (ls : Array Slot), va_P D vwCl (XO x0 pa pb ++ (DC cI pa f r ++ (DC cI pb f2 r2 ++ (SC cI cR a ca ga n k f r ++ (CW cI ca n (r 5) ++ RW cI ga k 3 G))))) H → va_D A (XO x0 pa pb ++ (DC cI pa f r ++ (DC cI pb f2 r2 ++ (SC cI cR a ca ga n k f r ++ (CW cI ca n (r 5) ++ RW cI ga k 3 G))))) → va_S A s.heap H locs → lv_has ls 13 [(4, .int (nI u9)), (3, .int (nI n)), (0, .ref x0), (1, .ref (a 0)), (2, .int x)] → W p l e rmL_act s m args below meth c H locs 0 0 Q (F0 m 433 ls []) := by
    intro u9 hu9 H locs ls hP hD hS hl
    refine lv_iconst (v := 1) hx hb dL_act_433 (by decide) ?_
    refine lv_iload_n hx hb dL_act_434 rfl (lv_at hl 4 rfl) ?_
    refine lv_iconst (v := 2) hx hb dL_act_435 (by decide) ?_
    refine lv_ishr hx hb dL_act_436 ?_
    refine lv_topi (fun x436 ex436 => ?_)
    refine lv_iload_n hx hb dL_act_437 rfl (lv_at hl 4 rfl) ?_
    refine lv_bipush (v := 6) hx hb dL_act_438 (by decide) ?_
    refine wCSi (pre := ([] : va_W)) (Wc := ([] : va_W)) (suf := XO x0 pa pb ++ (DC cI pa f r ++ (DC cI pb f2 r2 ++ (SC cI cR a ca ga n k f r ++ (CW cI ca n (r 5) ++ RW cI ga k 3 G))))) (As := [.int x, .int 6]) (rest := [.int x436, .int 1]) ⟨hx, hb, hml, hown, hts⟩ (mL_below l D cI cR x 6 _ (by omega) (by omega)) hN hA hK hS hP hD (by simp only [List.append_assoc, List.append_nil, List.nil_append]) (va_cwS 2 hts gL_act_L_below rfl rfl rfl (by decide +kernel) ⟨Nat.le_of_ble_eq_true rfl, Nat.le_of_ble_eq_true rfl⟩) rfl hl.1 rfl (Nat.le_of_ble_eq_true rfl) dL_act_440 ⟨by show 0 ≤ 17; omega, by show 0 ≤ 175; omega⟩ (fun r_440 u_440 H locs hw hP hD hS => ?_)
    obtain ⟨hw, hlt_440⟩ := hw
    have hw : r_440 = nI u_440 := hw
    subst hw
    have hP : va_P D vwCl (XO x0 pa pb ++ (DC cI pa f r ++ (DC cI pb f2 r2 ++ (SC cI cR a ca ga n k f r ++ (CW cI ca n (r 5) ++ RW cI ga k 3 G))))) H := by simpa only [List.append_assoc, List.append_nil, List.nil_append] using hP
    have hD : va_D A (XO x0 pa pb ++ (DC cI pa f r ++ (DC cI pb f2 r2 ++ (SC cI cR a ca ga n k f r ++ (CW cI ca n (r 5) ++ RW cI ga k 3 G))))) := by simpa only [List.append_assoc, List.append_nil, List.nil_append] using hD
    refine lv_if_ne (tgt := 451) hx hb dL_act_443 (by decide) (fun c_443 => ?_) (fun c_443 => ?_)
    · refine lv_iconst (v := 4) hx hb dL_act_451 (by decide) ?_
      refine wCSi (pre := ([] : va_W)) (Wc := ([] : va_W)) (suf := XO x0 pa pb ++ (DC cI pa f r ++ (DC cI pb f2 r2 ++ (SC cI cR a ca ga n k f r ++ (CW cI ca n (r 5) ++ RW cI ga k 3 G))))) (As := [.int x436, .int 4]) (rest := [.int 1]) ⟨hx, hb, hml, hown, hts⟩ (mL_below l D cI cR x436 4 _ (by omega) (by omega)) hN hA hK hS hP hD (by simp only [List.append_assoc, List.append_nil, List.nil_append]) (va_cwS 2 hts gL_act_L_below rfl rfl rfl (by decide +kernel) ⟨Nat.le_of_ble_eq_true rfl, Nat.le_of_ble_eq_true rfl⟩) rfl hl.1 rfl (Nat.le_of_ble_eq_true rfl) dL_act_452 ⟨by show 0 ≤ 17; omega, by show 0 ≤ 175; omega⟩ (fun r_452 u_452 H locs hw hP hD hS => ?_)
      obtain ⟨hw, hlt_452⟩ := hw
      have hw : r_452 = nI u_452 := hw
      subst hw
      have hP : va_P D vwCl (XO x0 pa pb ++ (DC cI pa f r ++ (DC cI pb f2 r2 ++ (SC cI cR a ca ga n k f r ++ (CW cI ca n (r 5) ++ RW cI ga k 3 G))))) H := by simpa only [List.append_assoc, List.append_nil, List.nil_append] using hP
      have hD : va_D A (XO x0 pa pb ++ (DC cI pa f r ++ (DC cI pb f2 r2 ++ (SC cI cR a ca ga n k f r ++ (CW cI ca n (r 5) ++ RW cI ga k 3 G))))) := by simpa only [List.append_assoc, List.append_nil, List.nil_append] using hD
      refine lv_iadd hx hb dL_act_455 ?_
      refine wTop (z := nI (1 + u_452)) (nI_add 1 u_452) ?_
      refine lv_istore (lv' := [(11, .int (nI (1 + u_452))), (4, .int (nI u9)), (3, .int (nI n)), (0, .ref x0), (1, .ref (a 0)), (2, .int x)]) hx hb dL_act_456 hl (by decide) rfl (fun ls hl => ?_)
      exact join458 u9 (1 + u_452) hu9 (by omega) (by omega) _ _ _ hP hD hS (lv_sub hl [0, 1, 2, 3, 4, 5] rfl)
    · refine lv_bipush (v := 60) hx hb dL_act_446 (by decide) ?_
      refine lv_goto (tgt := 452) hx hb dL_act_448 (by decide) ?_
      refine wCSi (pre := ([] : va_W)) (Wc := ([] : va_W)) (suf := XO x0 pa pb ++ (DC cI pa f r ++ (DC cI pb f2 r2 ++ (SC cI cR a ca ga n k f r ++ (CW cI ca n (r 5) ++ RW cI ga k 3 G))))) (As := [.int x436, .int 60]) (rest := [.int 1]) ⟨hx, hb, hml, hown, hts⟩ (mL_below l D cI cR x436 60 _ (by omega) (by omega)) hN hA hK hS hP hD (by simp only [List.append_assoc, List.append_nil, List.nil_append]) (va_cwS 2 hts gL_act_L_below rfl rfl rfl (by decide +kernel) ⟨Nat.le_of_ble_eq_true rfl, Nat.le_of_ble_eq_true rfl⟩) rfl hl.1 rfl (Nat.le_of_ble_eq_true rfl) dL_act_452 ⟨by show 0 ≤ 17; omega, by show 0 ≤ 175; omega⟩ (fun r_452 u_452 H locs hw hP hD hS => ?_)
      obtain ⟨hw, hlt_452⟩ := hw
      have hw : r_452 = nI u_452 := hw
      subst hw
      have hP : va_P D vwCl (XO x0 pa pb ++ (DC cI pa f r ++ (DC cI pb f2 r2 ++ (SC cI cR a ca ga n k f r ++ (CW cI ca n (r 5) ++ RW cI ga k 3 G))))) H := by simpa only [List.append_assoc, List.append_nil, List.nil_append] using hP
      have hD : va_D A (XO x0 pa pb ++ (DC cI pa f r ++ (DC cI pb f2 r2 ++ (SC cI cR a ca ga n k f r ++ (CW cI ca n (r 5) ++ RW cI ga k 3 G))))) := by simpa only [List.append_assoc, List.append_nil, List.nil_append] using hD
      refine lv_iadd hx hb dL_act_455 ?_
      refine wTop (z := nI (1 + u_452)) (nI_add 1 u_452) ?_
      refine lv_istore (lv' := [(11, .int (nI (1 + u_452))), (4, .int (nI u9)), (3, .int (nI n)), (0, .ref x0), (1, .ref (a 0)), (2, .int x)]) hx hb dL_act_456 hl (by decide) rfl (fun ls hl => ?_)
      exact join458 u9 (1 + u_452) hu9 (by omega) (by omega) _ _ _ hP hD hS (lv_sub hl [0, 1, 2, 3, 4, 5] rfl)
  have join395 : ∀ (u9 : Nat) (t10 : Nat), (u9 < n) → (t10 < n) → (u9 ≠ t10) → ∀ (H : Heap) (locs : List Loc) (ls : Array Slot), va_P D vwCl (XO x0 pa pb ++ (DC cI pa f r ++ (DC cI pb f2 r2 ++ (SC cI cR a ca ga n k f r ++ (CW cI ca n (r 5) ++ RW cI ga k 3 G))))) H → va_D A (XO x0 pa pb ++ (DC cI pa f r ++ (DC cI pb f2 r2 ++ (SC cI cR a ca ga n k f r ++ (CW cI ca n (r 5) ++ RW cI ga k 3 G))))) → va_S A s.heap H locs → lv_has ls 13 [(10, .int (nI t10)), (4, .int (nI u9)), (3, .int (nI n)), (0, .ref x0), (1, .ref (a 0)), (2, .int x)] → W p l e rmL_act s m args below meth c H locs 0 0 Q (F0 m 395 ls []) := by
    intro u9 t10 hu9 ht10 hne10 H locs ls hP hD hS hl
    refine lv_aload_n hx hb dL_act_395 rfl (lv_at hl 4 rfl) ?_
    refine lv_iload hx hb dL_act_396 (lv_at hl 1 rfl) ?_
    refine lv_iload hx hb dL_act_398 (lv_at hl 0 rfl) ?_
    refine wCVi (pre := XO x0 pa pb ++ (DC cI pa f r ++ DC cI pb f2 r2)) (Wc := SC cI cR a ca ga n k f r ++ (CW cI ca n (r 5) ++ RW cI ga k 3 G)) (suf := ([] : va_W)) (As := [.int (nI u9), .int (nI t10)]) (rest := []) ⟨hx, hb, hml, hown, hts⟩ (mX2_find l D cI cR a ca ga n k f r G (nI u9) (nI t10) _ hg hn0 hn1 hk) hN hA hK hS hP hD (by simp only [List.append_assoc, List.append_nil, List.nil_append]) 0 (r := (RX2, TX2, 15)) rfl rfl (cwV 2 hts gL_act_X2_find rfl rfl rfl (by decide +kernel) ⟨Nat.le_of_ble_eq_true rfl, Nat.le_of_ble_eq_true rfl⟩) rfl hl.1 rfl (Nat.le_of_ble_eq_true rfl) dL_act_400 ⟨by show 0 ≤ 17; omega, by show 0 ≤ 175; omega⟩ (fun r_400 u_400 H locs hw hP hD hS => ?_)
    have hw : r_400 = sFind G (nI u9) (nI t10) k 0 := hw
    subst hw
    have hP : va_P D vwCl (XO x0 pa pb ++ (DC cI pa f r ++ (DC cI pb f2 r2 ++ (SC cI cR a ca ga n k f r ++ (CW cI ca n (r 5) ++ RW cI ga k 3 G))))) H := by simpa only [List.append_assoc, List.append_nil, List.nil_append] using hP
    have hD : va_D A (XO x0 pa pb ++ (DC cI pa f r ++ (DC cI pb f2 r2 ++ (SC cI cR a ca ga n k f r ++ (CW cI ca n (r 5) ++ RW cI ga k 3 G))))) := by simpa only [List.append_assoc, List.append_nil, List.nil_append] using hD
    refine lv_if_lt (tgt := 408) hx hb dL_act_403 (by decide) (fun c_403 => ?_) (fun c_403 => ?_)
    · have hfr : u9 * 10 + t10 ∉ L := (hI.free (by omega)).mp (find_A hI hT u9 t10 hu9 ht10 c_403)
      refine lv_aload_n hx hb dL_act_408 rfl (lv_at hl 3 rfl) ?_
      refine lv_iload hx hb dL_act_409 (lv_at hl 1 rfl) ?_
      refine lv_iload hx hb dL_act_411 (lv_at hl 0 rfl) ?_
      refine wCVi (pre := ([] : va_W)) (Wc := XO x0 pa pb ++ (DC cI pa f r ++ DC cI pb f2 r2)) (suf := SC cI cR a ca ga n k f r ++ (CW cI ca n (r 5) ++ RW cI ga k 3 G)) (As := [.int (nI u9), .int (nI t10)]) (rest := []) ⟨hx, hb, hml, hown, hts⟩ (mX1_glance l D cI x0 pa pb f f2 r r2 n u9 t10 L.length _ hg hn1 (by omega) hu9 ht10 (mt (nI_eq (by omega) (by omega)).mp hne10) (find_A hI hT u9 t10 hu9 ht10 c_403) hI.2.1 (inv_send hI hu9 ht10 hne10 hfr).2) hN hA hK1 hS hP hD (by simp only [List.append_assoc, List.append_nil, List.nil_append]) 0 (r := (RX1, TX1, 2)) rfl rfl (cwV 2 hts gL_act_X1_glance rfl rfl rfl (by decide +kernel) ⟨Nat.le_of_ble_eq_true rfl, Nat.le_of_ble_eq_true rfl⟩) rfl hl.1 rfl (Nat.le_of_ble_eq_true rfl) dL_act_413 ⟨by show 0 ≤ 17; omega, by show 0 ≤ 175; omega⟩ (fun r_413 u_413 H locs hw hP hD hS => ?_)
      have hw : r_413 = 2 * dSeats (f 0) (nI u9) (nI t10) := hw
      subst hw
      have hP : va_P D vwCl (XO x0 pa pb ++ (DC cI pa (dSend f r u9 t10 L.length).1 (dSend f r u9 t10 L.length).2 ++ (DC cI pb f2 r2 ++ (SC cI cR a ca ga n k f r ++ (CW cI ca n (r 5) ++ RW cI ga k 3 G))))) H := by simpa only [List.append_assoc, List.append_nil, List.nil_append] using hP
      have hD : va_D A (XO x0 pa pb ++ (DC cI pa (dSend f r u9 t10 L.length).1 (dSend f r u9 t10 L.length).2 ++ (DC cI pb f2 r2 ++ (SC cI cR a ca ga n k f r ++ (CW cI ca n (r 5) ++ RW cI ga k 3 G))))) := by simpa only [List.append_assoc, List.append_nil, List.nil_append] using hD
      refine lv_aload_n hx hb dL_act_416 rfl (lv_at hl 4 rfl) ?_
      refine lv_iload hx hb dL_act_417 (lv_at hl 1 rfl) ?_
      refine lv_iload hx hb dL_act_419 (lv_at hl 0 rfl) ?_
      refine wCVim (pre := XO x0 pa pb ++ (DC cI pa (dSend f r u9 t10 L.length).1 (dSend f r u9 t10 L.length).2 ++ DC cI pb f2 r2)) (Wc := SC cI cR a ca ga n k f r ++ (CW cI ca n (r 5) ++ RW cI ga k 3 G)) (suf := ([] : va_W)) (As := [.int (nI u9), .int (nI t10)]) (rest := [.int (2 * dSeats (f 0) (nI u9) (nI t10))]) ⟨hx, hb, hml, hown, hts⟩ (mX2_send l D cI cR a ca ga n k f r G u9 t10 _ hg hn0 hn1 hk hu9 ht10) hN hA hK hS hP hD (by simp only [List.append_assoc, List.append_nil, List.nil_append]) 0 (r := (RX2, TX2, 15)) rfl rfl (cwV 2 hts gL_act_X2_send rfl rfl rfl (by decide +kernel) ⟨Nat.le_of_ble_eq_true rfl, Nat.le_of_ble_eq_true rfl⟩) rfl hl.1 rfl (Nat.le_of_ble_eq_true rfl) dL_act_421 ⟨by show 0 + 2 ≤ 17; omega, by show 0 + 110 ≤ 175; omega⟩ (fun r_421 u_421 H locs hw hP hD hS => ?_)
      have hw : r_421 = nI (2 * sN n u9 t10) := hw
      subst hw
      have hP : va_P D vwCl (XO x0 pa pb ++ (DC cI pa (dSend f r u9 t10 L.length).1 (dSend f r u9 t10 L.length).2 ++ (DC cI pb f2 r2 ++ (SC cI cR (va_up a 6 u_421.1) ca (sGa ga G k u_421.2) n (sCnt G k + 1) f r ++ (CW cI ca n (r 5) ++ RW cI (sGa ga G k u_421.2) (sCnt G k + 1) 3 (sGn G k (nI u9) (nI t10) (nI (2 * sN n u9 t10)))))))) H := by simpa only [List.append_assoc, List.append_nil, List.nil_append] using hP
      have hD : va_D A (XO x0 pa pb ++ (DC cI pa (dSend f r u9 t10 L.length).1 (dSend f r u9 t10 L.length).2 ++ (DC cI pb f2 r2 ++ (SC cI cR (va_up a 6 u_421.1) ca (sGa ga G k u_421.2) n (sCnt G k + 1) f r ++ (CW cI ca n (r 5) ++ RW cI (sGa ga G k u_421.2) (sCnt G k + 1) 3 (sGn G k (nI u9) (nI t10) (nI (2 * sN n u9 t10)))))))) := by simpa only [List.append_assoc, List.append_nil, List.nil_append] using hD
      refine lv_icmp_ne (tgt := 431) hx hb dL_act_424 (by decide) (fun h9 => absurd (by rw [hg, sN_eq hn1 hu9 ht10]; exact pk_mul 2 _) h9) (fun c_424 => ?_)
      refine lv_aload_n hx hb dL_act_427 rfl (lv_at hl 4 rfl) ?_
      refine lv_goto (tgt := 432) hx hb dL_act_428 (by decide) ?_
      refine W.widen (k := 17) (n := 175) (by omega) (by omega) ?_
      exact wRr hQ hx hb hr (Or.inl ⟨_, rfl⟩) hlocks hP hD hS dL_act_432 ((n, li, sCnt G k + 1), ((dSend f r u9 t10 L.length).1, (dSend f r u9 t10 L.length).2, sGn G k (nI u9) (nI t10) (nI (2 * sN n u9 t10)), L ++ [u9 * 10 + t10]), (va_up a 6 u_421.1, ca, sGa ga G k u_421.2)) (⟨(inv_send hI hu9 ht10 hne10 hfr).1.mono (by omega), invT_send hI hT hu9 ht10 hne10 hfr⟩) rfl rfl
    · refine lv_aload_n hx hb dL_act_406 rfl (lv_at hl 4 rfl) ?_
      refine W.widen (k := 17) (n := 175) (by omega) (by omega) ?_
      exact wRr hQ hx hb hr (Or.inl ⟨_, rfl⟩) hlocks hP hD hS dL_act_407 ((n, li, k), (f, r, G, L), (a, ca, ga)) (⟨hI.mono (by omega), hT⟩) rfl rfl
  have join377 : ∀ (u9 : Nat), (u9 < n) → ∀ (H : Heap) (locs : List Loc) (ls : Array Slot), va_P D vwCl (XO x0 pa pb ++ (DC cI pa f r ++ (DC cI pb f2 r2 ++ (SC cI cR a ca ga n k f r ++ (CW cI ca n (r 5) ++ RW cI ga k 3 G))))) H → va_D A (XO x0 pa pb ++ (DC cI pa f r ++ (DC cI pb f2 r2 ++ (SC cI cR a ca ga n k f r ++ (CW cI ca n (r 5) ++ RW cI ga k 3 G))))) → va_S A s.heap H locs → lv_has ls 13 [(4, .int (nI u9)), (3, .int (nI n)), (0, .ref x0), (1, .ref (a 0)), (2, .int x)] → W p l e rmL_act s m args below meth c H locs 0 0 Q (F0 m 377 ls []) := by
    intro u9 hu9 H locs ls hP hD hS hl
    refine lv_iload hx hb dL_act_377 (lv_at hl 0 rfl) ?_
    refine lv_iconst (v := 1) hx hb dL_act_379 (by decide) ?_
    refine lv_iadd hx hb dL_act_380 ?_
    refine wTop (z := nI (u9 + 1)) (nI_add u9 1) ?_
    refine lv_iload_n hx hb dL_act_381 rfl (lv_at hl 4 rfl) ?_
    refine lv_iconst (v := 4) hx hb dL_act_382 (by decide) ?_
    refine lv_ishr hx hb dL_act_383 ?_
    refine lv_topi (fun x383 ex383 => ?_)
    refine lv_iload_n hx hb dL_act_384 rfl (lv_at hl 1 rfl) ?_
    refine lv_iconst (v := 1) hx hb dL_act_385 (by decide) ?_
    refine lv_isub hx hb dL_act_386 ?_
    refine wTop (z := nI (n - 1)) (nI_m1' (by omega)) ?_
    refine wCSi (pre := ([] : va_W)) (Wc := ([] : va_W)) (suf := XO x0 pa pb ++ (DC cI pa f r ++ (DC cI pb f2 r2 ++ (SC cI cR a ca ga n k f r ++ (CW cI ca n (r 5) ++ RW cI ga k 3 G))))) (As := [.int x383, .int (nI (n - 1))]) (rest := [.int (nI (u9 + 1))]) ⟨hx, hb, hml, hown, hts⟩ (mL_below l D cI cR x383 (n - 1) _ (by omega) (by omega)) hN hA hK hS hP hD (by simp only [List.append_assoc, List.append_nil, List.nil_append]) (va_cwS 2 hts gL_act_L_below rfl rfl rfl (by decide +kernel) ⟨Nat.le_of_ble_eq_true rfl, Nat.le_of_ble_eq_true rfl⟩) rfl hl.1 rfl (Nat.le_of_ble_eq_true rfl) dL_act_387 ⟨by show 0 ≤ 17; omega, by show 0 ≤ 175; omega⟩ (fun r_387 u_387 H locs hw hP hD hS => ?_)
    obtain ⟨hw, hlt_387⟩ := hw
    have hw : r_387 = nI u_387 := hw
    subst hw
    have hP : va_P D vwCl (XO x0 pa pb ++ (DC cI pa f r ++ (DC cI pb f2 r2 ++ (SC cI cR a ca ga n k f r ++ (CW cI ca n (r 5) ++ RW cI ga k 3 G))))) H := by simpa only [List.append_assoc, List.append_nil, List.nil_append] using hP
    have hD : va_D A (XO x0 pa pb ++ (DC cI pa f r ++ (DC cI pb f2 r2 ++ (SC cI cR a ca ga n k f r ++ (CW cI ca n (r 5) ++ RW cI ga k 3 G))))) := by simpa only [List.append_assoc, List.append_nil, List.nil_append] using hD
    refine lv_iadd hx hb dL_act_390 ?_
    refine wTop (z := nI ((u9 + 1) + u_387)) (nI_add (u9 + 1) u_387) ?_
    refine lv_iload_n hx hb dL_act_391 rfl (lv_at hl 1 rfl) ?_
    refine lv_irem hx hb dL_act_392 (nI_ne0 (by omega) (by omega)) ?_
    refine wTop (z := nI (((u9 + 1) + u_387) % n)) (pk_rem (a := ((u9 + 1) + u_387)) (d := n) (by omega) (by omega) (by omega)) ?_
    refine lv_istore (lv' := [(10, .int (nI (((u9 + 1) + u_387) % n))), (4, .int (nI u9)), (3, .int (nI n)), (0, .ref x0), (1, .ref (a 0)), (2, .int x)]) hx hb dL_act_393 hl (by decide) rfl (fun ls hl => ?_)
    exact join395 u9 (((u9 + 1) + u_387) % n) hu9 (Nat.mod_lt _ (by omega)) (to_ne hu9 hlt_387) _ _ _ hP hD hS (lv_sub hl [0, 1, 2, 3, 4, 5] rfl)
  have join335 : ∀ (u9 : Nat) (w8 : Nat) (m9 : Int32), (u9 < n) → (1 ≤ w8) → (w8 ≤ 9) → (m9 = dCough f (nI u9) (nI w8)) → ∀ (H : Heap) (locs : List Loc) (ls : Array Slot), va_P D vwCl (XO x0 pa pb ++ (DC cI pa f r ++ (DC cI pb f2 r2 ++ (SC cI cR a ca ga n k f r ++ (CW cI ca n (r 5) ++ RW cI ga k 3 G))))) H → va_D A (XO x0 pa pb ++ (DC cI pa f r ++ (DC cI pb f2 r2 ++ (SC cI cR a ca ga n k f r ++ (CW cI ca n (r 5) ++ RW cI ga k 3 G))))) → va_S A s.heap H locs → lv_has ls 13 [(8, .int (nI w8)), (9, .int m9), (4, .int (nI u9)), (3, .int (nI n)), (0, .ref x0), (1, .ref (a 0)), (2, .int x)] → W p l e rmL_act s m args below meth c H locs 0 0 Q (F0 m 335 ls []) := by
    intro u9 w8 m9 hu9 hw81 hw82 hm9 H locs ls hP hD hS hl
    refine lv_aload_n hx hb dL_act_335 rfl (lv_at hl 5 rfl) ?_
    refine va_get (D := D) (ci := 2) (v := .ref (a 3)) (C := RX2) (T := TX2) (N := 15) hx hb hw2 (fun _ h => h) hown hK hP 17 rfl rfl 11 (by decide) k53 (fun _ h9 => h9) rfl dL_act_336 ?_
    refine lv_iload hx hb dL_act_339 (lv_at hl 2 rfl) ?_
    refine lv_dup2_11 hx hb dL_act_341 rfl rfl ?_
    refine wIald hx hb hK hP 21 0 rfl rfl u9 rfl (by omega) (by omega) dL_act_342 ?_
    refine lv_iconst (v := 1) hx hb dL_act_343 (by decide) ?_
    refine lv_iadd hx hb dL_act_344 ?_
    refine wIast hx hb hK hP hD hS 21 0 rfl rfl u9 rfl (by omega) (by omega) dL_act_345 (fun H locs hP hD hS => ?_)
    have hP : va_P D vwCl (XO x0 pa pb ++ (DC cI pa f r ++ (DC cI pb f2 r2 ++ (SC cI cR a ca ga n k f (va_up r 2 (upd (r 2) u9 (((r 2) u9) + 1))) ++ (CW cI ca n (r 5) ++ RW cI ga k 3 G))))) H := hP
    have hD : va_D A (XO x0 pa pb ++ (DC cI pa f r ++ (DC cI pb f2 r2 ++ (SC cI cR a ca ga n k f (va_up r 2 (upd (r 2) u9 (((r 2) u9) + 1))) ++ (CW cI ca n (r 5) ++ RW cI ga k 3 G))))) := hD
    refine lv_aload_n hx hb dL_act_346 rfl (lv_at hl 5 rfl) ?_
    refine va_get (D := D) (ci := 2) (v := .ref (a 4)) (C := RX2) (T := TX2) (N := 15) hx hb hw2 (fun _ h => h) hown hK hP 17 rfl rfl 12 (by decide) k56 (fun _ h9 => h9) rfl dL_act_347 ?_
    refine lv_iload hx hb dL_act_350 (lv_at hl 2 rfl) ?_
    refine lv_dup2_11 hx hb dL_act_352 rfl rfl ?_
    refine wIald hx hb hK hP 22 0 rfl rfl u9 rfl (by omega) (by omega) dL_act_353 ?_
    refine lv_iload hx hb dL_act_354 (lv_at hl 1 rfl) ?_
    refine lv_iadd hx hb dL_act_356 ?_
    refine wIast hx hb hK hP hD hS 22 0 rfl rfl u9 rfl (by omega) (by omega) dL_act_357 (fun H locs hP hD hS => ?_)
    have hP : va_P D vwCl (XO x0 pa pb ++ (DC cI pa f r ++ (DC cI pb f2 r2 ++ (SC cI cR a ca ga n k f (va_up (va_up r 2 (upd (r 2) u9 (((r 2) u9) + 1))) 3 (upd (r 3) u9 (((r 3) u9) + m9))) ++ (CW cI ca n (r 5) ++ RW cI ga k 3 G))))) H := hP
    have hD : va_D A (XO x0 pa pb ++ (DC cI pa f r ++ (DC cI pb f2 r2 ++ (SC cI cR a ca ga n k f (va_up (va_up r 2 (upd (r 2) u9 (((r 2) u9) + 1))) 3 (upd (r 3) u9 (((r 3) u9) + m9))) ++ (CW cI ca n (r 5) ++ RW cI ga k 3 G))))) := hD
    refine lv_aload_n hx hb dL_act_358 rfl (lv_at hl 4 rfl) ?_
    refine lv_iload hx hb dL_act_359 (lv_at hl 2 rfl) ?_
    refine lv_iload hx hb dL_act_361 (lv_at hl 0 rfl) ?_
    refine wCVi (pre := ([] : va_W)) (Wc := XO x0 pa pb ++ (DC cI pa f r ++ DC cI pb f2 r2)) (suf := SC cI cR a ca ga n k f (va_up (va_up r 2 (upd (r 2) u9 (((r 2) u9) + 1))) 3 (upd (r 3) u9 (((r 3) u9) + m9))) ++ (CW cI ca n (r 5) ++ RW cI ga k 3 G)) (As := [.int (nI u9), .int (nI w8)]) (rest := []) ⟨hx, hb, hml, hown, hts⟩ (mX1_cough l D cI x0 pa pb f f2 r r2 n u9 w8 _ hg hn1 (by omega) hu9 hw81 hw82) hN hA hK1 hS hP hD (by simp only [List.append_assoc, List.append_nil, List.nil_append]) 0 (r := (RX1, TX1, 2)) rfl rfl (cwV 2 hts gL_act_X1_cough rfl rfl rfl (by decide +kernel) ⟨Nat.le_of_ble_eq_true rfl, Nat.le_of_ble_eq_true rfl⟩) rfl hl.1 rfl (Nat.le_of_ble_eq_true rfl) dL_act_363 ⟨by show 0 ≤ 17; omega, by show 0 ≤ 175; omega⟩ (fun r_363 u_363 H locs hw hP hD hS => ?_)
    have hw : r_363 = dCough f (nI u9) (nI w8) := hw
    subst hw
    have hP : va_P D vwCl (XO x0 pa pb ++ (DC cI pa (dLetCough f r u9 (nI w8)).1 (dLetCough f r u9 (nI w8)).2 ++ (DC cI pb f2 r2 ++ (SC cI cR a ca ga n k f (va_up (va_up r 2 (upd (r 2) u9 (((r 2) u9) + 1))) 3 (upd (r 3) u9 (((r 3) u9) + m9))) ++ (CW cI ca n (r 5) ++ RW cI ga k 3 G))))) H := by simpa only [List.append_assoc, List.append_nil, List.nil_append] using hP
    have hD : va_D A (XO x0 pa pb ++ (DC cI pa (dLetCough f r u9 (nI w8)).1 (dLetCough f r u9 (nI w8)).2 ++ (DC cI pb f2 r2 ++ (SC cI cR a ca ga n k f (va_up (va_up r 2 (upd (r 2) u9 (((r 2) u9) + 1))) 3 (upd (r 3) u9 (((r 3) u9) + m9))) ++ (CW cI ca n (r 5) ++ RW cI ga k 3 G))))) := by simpa only [List.append_assoc, List.append_nil, List.nil_append] using hD
    refine lv_iload hx hb dL_act_366 (lv_at hl 1 rfl) ?_
    refine lv_icmp_ne (tgt := 375) hx hb dL_act_368 (by decide) (fun h9 => absurd (hm9.symm) h9) (fun c_368 => ?_)
    refine lv_aload_n hx hb dL_act_371 rfl (lv_at hl 5 rfl) ?_
    refine lv_goto (tgt := 376) hx hb dL_act_372 (by decide) ?_
    subst hm9
    refine W.widen (k := 17) (n := 175) (by omega) (by omega) ?_
    exact wRr hQ hx hb hr (Or.inl ⟨_, rfl⟩) hlocks hP hD hS dL_act_376 ((n, li, k), ((dLetCough f r u9 (nI w8)).1, (dLetCough f r u9 (nI w8)).2, G, L), (a, ca, ga)) (⟨(inv_cough hI hu9 hw82).mono (by omega), hT⟩) rfl rfl
  have join292 : ∀ (u9 : Nat), (u9 < n) → ∀ (H : Heap) (locs : List Loc) (ls : Array Slot), va_P D vwCl (XO x0 pa pb ++ (DC cI pa f r ++ (DC cI pb f2 r2 ++ (SC cI cR a ca ga n k f r ++ (CW cI ca n (r 5) ++ RW cI ga k 3 G))))) H → va_D A (XO x0 pa pb ++ (DC cI pa f r ++ (DC cI pb f2 r2 ++ (SC cI cR a ca ga n k f r ++ (CW cI ca n (r 5) ++ RW cI ga k 3 G))))) → va_S A s.heap H locs → lv_has ls 13 [(4, .int (nI u9)), (3, .int (nI n)), (0, .ref x0), (1, .ref (a 0)), (2, .int x)] → W p l e rmL_act s m args below meth c H locs 0 0 Q (F0 m 292 ls []) := by
    intro u9 hu9 H locs ls hP hD hS hl
    refine lv_iconst (v := 1) hx hb dL_act_292 (by decide) ?_
    refine lv_iload_n hx hb dL_act_293 rfl (lv_at hl 4 rfl) ?_
    refine lv_iconst (v := 4) hx hb dL_act_294 (by decide) ?_
    refine lv_ishr hx hb dL_act_295 ?_
    refine lv_topi (fun x295 ex295 => ?_)
    refine lv_bipush (v := 9) hx hb dL_act_296 (by decide) ?_
    refine wCSi (pre := ([] : va_W)) (Wc := ([] : va_W)) (suf := XO x0 pa pb ++ (DC cI pa f r ++ (DC cI pb f2 r2 ++ (SC cI cR a ca ga n k f r ++ (CW cI ca n (r 5) ++ RW cI ga k 3 G))))) (As := [.int x295, .int 9]) (rest := [.int 1]) ⟨hx, hb, hml, hown, hts⟩ (mL_below l D cI cR x295 9 _ (by omega) (by omega)) hN hA hK hS hP hD (by simp only [List.append_assoc, List.append_nil, List.nil_append]) (va_cwS 2 hts gL_act_L_below rfl rfl rfl (by decide +kernel) ⟨Nat.le_of_ble_eq_true rfl, Nat.le_of_ble_eq_true rfl⟩) rfl hl.1 rfl (Nat.le_of_ble_eq_true rfl) dL_act_298 ⟨by show 0 ≤ 17; omega, by show 0 ≤ 175; omega⟩ (fun r_298 u_298 H locs hw hP hD hS => ?_)
    obtain ⟨hw, hlt_298⟩ := hw
    have hw : r_298 = nI u_298 := hw
    subst hw
    have hP : va_P D vwCl (XO x0 pa pb ++ (DC cI pa f r ++ (DC cI pb f2 r2 ++ (SC cI cR a ca ga n k f r ++ (CW cI ca n (r 5) ++ RW cI ga k 3 G))))) H := by simpa only [List.append_assoc, List.append_nil, List.nil_append] using hP
    have hD : va_D A (XO x0 pa pb ++ (DC cI pa f r ++ (DC cI pb f2 r2 ++ (SC cI cR a ca ga n k f r ++ (CW cI ca n (r 5) ++ RW cI ga k 3 G))))) := by simpa only [List.append_assoc, List.append_nil, List.nil_append] using hD
    refine lv_iadd hx hb dL_act_301 ?_
    refine wTop (z := nI (1 + u_298)) (nI_add 1 u_298) ?_
    refine lv_istore (lv' := [(8, .int (nI (1 + u_298))), (4, .int (nI u9)), (3, .int (nI n)), (0, .ref x0), (1, .ref (a 0)), (2, .int x)]) hx hb dL_act_302 hl (by decide) rfl (fun ls hl => ?_)
    refine lv_aload_n hx hb dL_act_304 rfl (lv_at hl 4 rfl) ?_
    refine va_get (D := D) (ci := 2) (v := .int (f 3)) (C := RX2) (T := TX2) (N := 15) hx hb hw2 (fun _ h => h) hown hK hP 17 rfl rfl 3 (by decide) k40 (fun _ h9 => h9) rfl dL_act_305 ?_
    refine lv_iload hx hb dL_act_308 (lv_at hl 1 rfl) ?_
    refine lv_icmp_ne (tgt := 317) hx hb dL_act_310 (by decide) (fun c_310 => ?_) (fun c_310 => ?_)
    · refine lv_aload_n hx hb dL_act_317 rfl (lv_at hl 4 rfl) ?_
      refine va_get (D := D) (ci := 2) (v := .int (f 3)) (C := RX2) (T := TX2) (N := 15) hx hb hw2 (fun _ h => h) hown hK hP 17 rfl rfl 3 (by decide) k40 (fun _ h9 => h9) rfl dL_act_318 ?_
      refine lv_if_ge (tgt := 329) hx hb dL_act_321 (by decide) (fun c_321 => ?_) (fun c_321 => ?_)
      · refine lv_iload hx hb dL_act_329 (lv_at hl 0 rfl) ?_
        refine lv_iconst (v := 2) hx hb dL_act_331 (by decide) ?_
        refine lv_idiv hx hb dL_act_332 (by decide) ?_
        refine lv_istore (lv' := [(9, .int ((nI (1 + u_298)) / 2)), (8, .int (nI (1 + u_298))), (4, .int (nI u9)), (3, .int (nI n)), (0, .ref x0), (1, .ref (a 0)), (2, .int x)]) hx hb dL_act_333 hl (by decide) rfl (fun ls hl => ?_)
        exact join335 u9 (1 + u_298) ((nI (1 + u_298)) / 2) hu9 (by omega) (by omega) (by rw [dCough, if_neg (q_some c_321), if_neg c_310]) _ _ _ hP hD hS (lv_sub hl [1, 0, 2, 3, 4, 5, 6] rfl)
      · refine lv_iload hx hb dL_act_324 (lv_at hl 0 rfl) ?_
        refine lv_goto (tgt := 333) hx hb dL_act_326 (by decide) ?_
        refine lv_istore (lv' := [(9, .int (nI (1 + u_298))), (8, .int (nI (1 + u_298))), (4, .int (nI u9)), (3, .int (nI n)), (0, .ref x0), (1, .ref (a 0)), (2, .int x)]) hx hb dL_act_333 hl (by decide) rfl (fun ls hl => ?_)
        exact join335 u9 (1 + u_298) (nI (1 + u_298)) hu9 (by omega) (by omega) (by rw [dCough, if_pos (q_none hI c_321)]) _ _ _ hP hD hS (lv_sub hl [1, 0, 2, 3, 4, 5, 6] rfl)
    · refine lv_iconst (v := 0) hx hb dL_act_313 (by decide) ?_
      refine lv_goto (tgt := 333) hx hb dL_act_314 (by decide) ?_
      refine lv_istore (lv' := [(9, .int 0), (8, .int (nI (1 + u_298))), (4, .int (nI u9)), (3, .int (nI n)), (0, .ref x0), (1, .ref (a 0)), (2, .int x)]) hx hb dL_act_333 hl (by decide) rfl (fun ls hl => ?_)
      exact join335 u9 (1 + u_298) 0 hu9 (by omega) (by omega) (by rw [dCough, if_neg (by rw [c_310]; exact nI_m1 (by omega)), if_pos c_310]) _ _ _ hP hD hS (lv_sub hl [1, 0, 2, 3, 4, 5, 6] rfl)
  have join238 : ∀ (u9 : Nat) (w7 : Int32) (r1 : Nat → Nat → Int32), (u9 < n) → (w7 = dInt f u9) → (r1 = if dInt f u9 = -1 then r else va_up r 1 (upd (r 1) u9 (r 1 u9 + 1))) → ∀ (H : Heap) (locs : List Loc) (ls : Array Slot), va_P D vwCl (XO x0 pa pb ++ (DC cI pa f r ++ (DC cI pb f2 r2 ++ (SC cI cR a ca ga n k f r1 ++ (CW cI ca n (r1 5) ++ RW cI ga k 3 G))))) H → va_D A (XO x0 pa pb ++ (DC cI pa f r ++ (DC cI pb f2 r2 ++ (SC cI cR a ca ga n k f r1 ++ (CW cI ca n (r1 5) ++ RW cI ga k 3 G))))) → va_S A s.heap H locs → lv_has ls 13 [(7, .int w7), (4, .int (nI u9)), (3, .int (nI n)), (0, .ref x0), (1, .ref (a 0)), (2, .int x)] → W p l e rmL_act s m args below meth c H locs 0 0 Q (F0 m 238 ls []) := by
    intro u9 w7 r1 hu9 h7 hr1 H locs ls hP hD hS hl
    refine lv_aload_n hx hb dL_act_238 rfl (lv_at hl 4 rfl) ?_
    refine lv_iload hx hb dL_act_239 (lv_at hl 1 rfl) ?_
    refine va_put (D := D) (ci := 2) (v := .int (nI u9)) (ty := .int) (C := RX2) (T := TX2) (N := 15) hx hb hw2 (fun _ h => h) tyX2 tyX2_ok nmX2 hown hK hP hD hS 17 rfl rfl 3 (by decide) k40 (fun _ h9 => h9) rfl (by decide +kernel) rfl rfl (Nat.le_of_ble_eq_true rfl) dL_act_241 (fun H locs hP hD hS => ?_)
    have hP : va_P D vwCl (XO x0 pa pb ++ (DC cI pa f r ++ (DC cI pb f2 r2 ++ (SC cI cR a ca ga n k (upd f 3 (nI u9)) r1 ++ (CW cI ca n (r1 5) ++ RW cI ga k 3 G))))) H := hP
    have hD : va_D A (XO x0 pa pb ++ (DC cI pa f r ++ (DC cI pb f2 r2 ++ (SC cI cR a ca ga n k (upd f 3 (nI u9)) r1 ++ (CW cI ca n (r1 5) ++ RW cI ga k 3 G))))) := hD
    refine lv_aload_n hx hb dL_act_244 rfl (lv_at hl 4 rfl) ?_
    refine lv_iconst (v := 1) hx hb dL_act_245 (by decide) ?_
    refine lv_iload_n hx hb dL_act_246 rfl (lv_at hl 5 rfl) ?_
    refine lv_iconst (v := 4) hx hb dL_act_247 (by decide) ?_
    refine lv_ishr hx hb dL_act_248 ?_
    refine lv_topi (fun x248 ex248 => ?_)
    refine lv_iload_n hx hb dL_act_249 rfl (lv_at hl 5 rfl) ?_
    refine lv_iconst (v := 3) hx hb dL_act_250 (by decide) ?_
    refine wCSi (pre := ([] : va_W)) (Wc := ([] : va_W)) (suf := XO x0 pa pb ++ (DC cI pa f r ++ (DC cI pb f2 r2 ++ (SC cI cR a ca ga n k (upd f 3 (nI u9)) r1 ++ (CW cI ca n (r1 5) ++ RW cI ga k 3 G))))) (As := [.int x, .int 3]) (rest := [.int x248, .int 1, .ref (a 0)]) ⟨hx, hb, hml, hown, hts⟩ (mL_below l D cI cR x 3 _ (by omega) (by omega)) hN hA hK hS hP hD (by simp only [List.append_assoc, List.append_nil, List.nil_append]) (va_cwS 2 hts gL_act_L_below rfl rfl rfl (by decide +kernel) ⟨Nat.le_of_ble_eq_true rfl, Nat.le_of_ble_eq_true rfl⟩) rfl hl.1 rfl (Nat.le_of_ble_eq_true rfl) dL_act_251 ⟨by show 0 ≤ 17; omega, by show 0 ≤ 175; omega⟩ (fun r_251 u_251 H locs hw hP hD hS => ?_)
    obtain ⟨hw, hlt_251⟩ := hw
    have hw : r_251 = nI u_251 := hw
    subst hw
    have hP : va_P D vwCl (XO x0 pa pb ++ (DC cI pa f r ++ (DC cI pb f2 r2 ++ (SC cI cR a ca ga n k (upd f 3 (nI u9)) r1 ++ (CW cI ca n (r1 5) ++ RW cI ga k 3 G))))) H := by simpa only [List.append_assoc, List.append_nil, List.nil_append] using hP
    have hD : va_D A (XO x0 pa pb ++ (DC cI pa f r ++ (DC cI pb f2 r2 ++ (SC cI cR a ca ga n k (upd f 3 (nI u9)) r1 ++ (CW cI ca n (r1 5) ++ RW cI ga k 3 G))))) := by simpa only [List.append_assoc, List.append_nil, List.nil_append] using hD
    refine lv_if_ne (tgt := 262) hx hb dL_act_254 (by decide) (fun c_254 => ?_) (fun c_254 => ?_)
    · refine lv_bipush (v := 6) hx hb dL_act_262 (by decide) ?_
      refine wCSi (pre := ([] : va_W)) (Wc := ([] : va_W)) (suf := XO x0 pa pb ++ (DC cI pa f r ++ (DC cI pb f2 r2 ++ (SC cI cR a ca ga n k (upd f 3 (nI u9)) r1 ++ (CW cI ca n (r1 5) ++ RW cI ga k 3 G))))) (As := [.int x248, .int 6]) (rest := [.int 1, .ref (a 0)]) ⟨hx, hb, hml, hown, hts⟩ (mL_below l D cI cR x248 6 _ (by omega) (by omega)) hN hA hK hS hP hD (by simp only [List.append_assoc, List.append_nil, List.nil_append]) (va_cwS 2 hts gL_act_L_below rfl rfl rfl (by decide +kernel) ⟨Nat.le_of_ble_eq_true rfl, Nat.le_of_ble_eq_true rfl⟩) rfl hl.1 rfl (Nat.le_of_ble_eq_true rfl) dL_act_264 ⟨by show 0 ≤ 17; omega, by show 0 ≤ 175; omega⟩ (fun r_264 u_264 H locs hw hP hD hS => ?_)
      obtain ⟨hw, hlt_264⟩ := hw
      have hw : r_264 = nI u_264 := hw
      subst hw
      have hP : va_P D vwCl (XO x0 pa pb ++ (DC cI pa f r ++ (DC cI pb f2 r2 ++ (SC cI cR a ca ga n k (upd f 3 (nI u9)) r1 ++ (CW cI ca n (r1 5) ++ RW cI ga k 3 G))))) H := by simpa only [List.append_assoc, List.append_nil, List.nil_append] using hP
      have hD : va_D A (XO x0 pa pb ++ (DC cI pa f r ++ (DC cI pb f2 r2 ++ (SC cI cR a ca ga n k (upd f 3 (nI u9)) r1 ++ (CW cI ca n (r1 5) ++ RW cI ga k 3 G))))) := by simpa only [List.append_assoc, List.append_nil, List.nil_append] using hD
      refine lv_iadd hx hb dL_act_267 ?_
      refine wTop (z := nI (1 + u_264)) (nI_add 1 u_264) ?_
      refine va_put (D := D) (ci := 2) (v := .int (nI (1 + u_264))) (ty := .int) (C := RX2) (T := TX2) (N := 15) hx hb hw2 (fun _ h => h) tyX2 tyX2_ok nmX2 hown hK hP hD hS 17 rfl rfl 4 (by decide) k47 (fun _ h9 => h9) rfl (by decide +kernel) rfl rfl (Nat.le_of_ble_eq_true rfl) dL_act_268 (fun H locs hP hD hS => ?_)
      have hP : va_P D vwCl (XO x0 pa pb ++ (DC cI pa f r ++ (DC cI pb f2 r2 ++ (SC cI cR a ca ga n k (upd (upd f 3 (nI u9)) 4 (nI (1 + u_264))) r1 ++ (CW cI ca n (r1 5) ++ RW cI ga k 3 G))))) H := hP
      have hD : va_D A (XO x0 pa pb ++ (DC cI pa f r ++ (DC cI pb f2 r2 ++ (SC cI cR a ca ga n k (upd (upd f 3 (nI u9)) 4 (nI (1 + u_264))) r1 ++ (CW cI ca n (r1 5) ++ RW cI ga k 3 G))))) := hD
      refine lv_aload_n hx hb dL_act_271 rfl (lv_at hl 3 rfl) ?_
      refine lv_iload hx hb dL_act_272 (lv_at hl 1 rfl) ?_
      refine lv_aload_n hx hb dL_act_274 rfl (lv_at hl 4 rfl) ?_
      refine va_get (D := D) (ci := 2) (v := .int (nI (1 + u_264))) (C := RX2) (T := TX2) (N := 15) hx hb hw2 (fun _ h => h) hown hK hP 17 rfl rfl 4 (by decide) k47 (fun _ h9 => h9) rfl dL_act_275 ?_
      refine wCVi (pre := ([] : va_W)) (Wc := XO x0 pa pb ++ (DC cI pa f r ++ DC cI pb f2 r2)) (suf := SC cI cR a ca ga n k (upd (upd f 3 (nI u9)) 4 (nI (1 + u_264))) r1 ++ (CW cI ca n (r1 5) ++ RW cI ga k 3 G)) (As := [.int (nI u9), .int (nI (1 + u_264))]) (rest := []) ⟨hx, hb, hml, hown, hts⟩ (mX1_speak l D cI x0 pa pb f f2 r r2 n u9 (1 + u_264) _ hg hn1 (by omega) hu9 (by omega) (by omega)) hN hA hK1 hS hP hD (by simp only [List.append_assoc, List.append_nil, List.nil_append]) 0 (r := (RX1, TX1, 2)) rfl rfl (cwV 2 hts gL_act_X1_speak rfl rfl rfl (by decide +kernel) ⟨Nat.le_of_ble_eq_true rfl, Nat.le_of_ble_eq_true rfl⟩) rfl hl.1 rfl (Nat.le_of_ble_eq_true rfl) dL_act_278 ⟨by show 0 ≤ 17; omega, by show 0 ≤ 175; omega⟩ (fun r_278 u_278 H locs hw hP hD hS => ?_)
      have hw : r_278 = dInt f u9 := hw
      subst hw
      have hP : va_P D vwCl (XO x0 pa pb ++ (DC cI pa (dSpeak f r u9 (nI (1 + u_264))).1 (dSpeak f r u9 (nI (1 + u_264))).2 ++ (DC cI pb f2 r2 ++ (SC cI cR a ca ga n k (upd (upd f 3 (nI u9)) 4 (nI (1 + u_264))) r1 ++ (CW cI ca n (r1 5) ++ RW cI ga k 3 G))))) H := by simpa only [List.append_assoc, List.append_nil, List.nil_append] using hP
      have hD : va_D A (XO x0 pa pb ++ (DC cI pa (dSpeak f r u9 (nI (1 + u_264))).1 (dSpeak f r u9 (nI (1 + u_264))).2 ++ (DC cI pb f2 r2 ++ (SC cI cR a ca ga n k (upd (upd f 3 (nI u9)) 4 (nI (1 + u_264))) r1 ++ (CW cI ca n (r1 5) ++ RW cI ga k 3 G))))) := by simpa only [List.append_assoc, List.append_nil, List.nil_append] using hD
      refine lv_iload hx hb dL_act_281 (lv_at hl 0 rfl) ?_
      refine lv_icmp_ne (tgt := 290) hx hb dL_act_283 (by decide) (fun h9 => absurd (h7.symm) h9) (fun c_283 => ?_)
      refine lv_aload_n hx hb dL_act_286 rfl (lv_at hl 4 rfl) ?_
      refine lv_goto (tgt := 291) hx hb dL_act_287 (by decide) ?_
      subst hr1
      refine W.widen (k := 17) (n := 175) (by omega) (by omega) ?_
      exact wRr hQ hx hb hr (Or.inl ⟨_, rfl⟩) hlocks hP hD hS dL_act_291 ((n, li, k), ((dSpeak f r u9 (nI (1 + u_264))).1, (dSpeak f r u9 (nI (1 + u_264))).2, G, L), (a, ca, ga)) (⟨(inv_speak (x := u9) (w := 1 + u_264) hI hu9 (by omega) (by omega)).mono (by omega), (show InvT n k ((dSpeak f r u9 (nI (1 + u_264))).2 4) L G by rw [speak_r (by decide)]; exact hT)⟩) rfl rfl
    · refine lv_bipush (v := 60) hx hb dL_act_257 (by decide) ?_
      refine lv_goto (tgt := 264) hx hb dL_act_259 (by decide) ?_
      refine wCSi (pre := ([] : va_W)) (Wc := ([] : va_W)) (suf := XO x0 pa pb ++ (DC cI pa f r ++ (DC cI pb f2 r2 ++ (SC cI cR a ca ga n k (upd f 3 (nI u9)) r1 ++ (CW cI ca n (r1 5) ++ RW cI ga k 3 G))))) (As := [.int x248, .int 60]) (rest := [.int 1, .ref (a 0)]) ⟨hx, hb, hml, hown, hts⟩ (mL_below l D cI cR x248 60 _ (by omega) (by omega)) hN hA hK hS hP hD (by simp only [List.append_assoc, List.append_nil, List.nil_append]) (va_cwS 2 hts gL_act_L_below rfl rfl rfl (by decide +kernel) ⟨Nat.le_of_ble_eq_true rfl, Nat.le_of_ble_eq_true rfl⟩) rfl hl.1 rfl (Nat.le_of_ble_eq_true rfl) dL_act_264 ⟨by show 0 ≤ 17; omega, by show 0 ≤ 175; omega⟩ (fun r_264 u_264 H locs hw hP hD hS => ?_)
      obtain ⟨hw, hlt_264⟩ := hw
      have hw : r_264 = nI u_264 := hw
      subst hw
      have hP : va_P D vwCl (XO x0 pa pb ++ (DC cI pa f r ++ (DC cI pb f2 r2 ++ (SC cI cR a ca ga n k (upd f 3 (nI u9)) r1 ++ (CW cI ca n (r1 5) ++ RW cI ga k 3 G))))) H := by simpa only [List.append_assoc, List.append_nil, List.nil_append] using hP
      have hD : va_D A (XO x0 pa pb ++ (DC cI pa f r ++ (DC cI pb f2 r2 ++ (SC cI cR a ca ga n k (upd f 3 (nI u9)) r1 ++ (CW cI ca n (r1 5) ++ RW cI ga k 3 G))))) := by simpa only [List.append_assoc, List.append_nil, List.nil_append] using hD
      refine lv_iadd hx hb dL_act_267 ?_
      refine wTop (z := nI (1 + u_264)) (nI_add 1 u_264) ?_
      refine va_put (D := D) (ci := 2) (v := .int (nI (1 + u_264))) (ty := .int) (C := RX2) (T := TX2) (N := 15) hx hb hw2 (fun _ h => h) tyX2 tyX2_ok nmX2 hown hK hP hD hS 17 rfl rfl 4 (by decide) k47 (fun _ h9 => h9) rfl (by decide +kernel) rfl rfl (Nat.le_of_ble_eq_true rfl) dL_act_268 (fun H locs hP hD hS => ?_)
      have hP : va_P D vwCl (XO x0 pa pb ++ (DC cI pa f r ++ (DC cI pb f2 r2 ++ (SC cI cR a ca ga n k (upd (upd f 3 (nI u9)) 4 (nI (1 + u_264))) r1 ++ (CW cI ca n (r1 5) ++ RW cI ga k 3 G))))) H := hP
      have hD : va_D A (XO x0 pa pb ++ (DC cI pa f r ++ (DC cI pb f2 r2 ++ (SC cI cR a ca ga n k (upd (upd f 3 (nI u9)) 4 (nI (1 + u_264))) r1 ++ (CW cI ca n (r1 5) ++ RW cI ga k 3 G))))) := hD
      refine lv_aload_n hx hb dL_act_271 rfl (lv_at hl 3 rfl) ?_
      refine lv_iload hx hb dL_act_272 (lv_at hl 1 rfl) ?_
      refine lv_aload_n hx hb dL_act_274 rfl (lv_at hl 4 rfl) ?_
      refine va_get (D := D) (ci := 2) (v := .int (nI (1 + u_264))) (C := RX2) (T := TX2) (N := 15) hx hb hw2 (fun _ h => h) hown hK hP 17 rfl rfl 4 (by decide) k47 (fun _ h9 => h9) rfl dL_act_275 ?_
      refine wCVi (pre := ([] : va_W)) (Wc := XO x0 pa pb ++ (DC cI pa f r ++ DC cI pb f2 r2)) (suf := SC cI cR a ca ga n k (upd (upd f 3 (nI u9)) 4 (nI (1 + u_264))) r1 ++ (CW cI ca n (r1 5) ++ RW cI ga k 3 G)) (As := [.int (nI u9), .int (nI (1 + u_264))]) (rest := []) ⟨hx, hb, hml, hown, hts⟩ (mX1_speak l D cI x0 pa pb f f2 r r2 n u9 (1 + u_264) _ hg hn1 (by omega) hu9 (by omega) (by omega)) hN hA hK1 hS hP hD (by simp only [List.append_assoc, List.append_nil, List.nil_append]) 0 (r := (RX1, TX1, 2)) rfl rfl (cwV 2 hts gL_act_X1_speak rfl rfl rfl (by decide +kernel) ⟨Nat.le_of_ble_eq_true rfl, Nat.le_of_ble_eq_true rfl⟩) rfl hl.1 rfl (Nat.le_of_ble_eq_true rfl) dL_act_278 ⟨by show 0 ≤ 17; omega, by show 0 ≤ 175; omega⟩ (fun r_278 u_278 H locs hw hP hD hS => ?_)
      have hw : r_278 = dInt f u9 := hw
      subst hw
      have hP : va_P D vwCl (XO x0 pa pb ++ (DC cI pa (dSpeak f r u9 (nI (1 + u_264))).1 (dSpeak f r u9 (nI (1 + u_264))).2 ++ (DC cI pb f2 r2 ++ (SC cI cR a ca ga n k (upd (upd f 3 (nI u9)) 4 (nI (1 + u_264))) r1 ++ (CW cI ca n (r1 5) ++ RW cI ga k 3 G))))) H := by simpa only [List.append_assoc, List.append_nil, List.nil_append] using hP
      have hD : va_D A (XO x0 pa pb ++ (DC cI pa (dSpeak f r u9 (nI (1 + u_264))).1 (dSpeak f r u9 (nI (1 + u_264))).2 ++ (DC cI pb f2 r2 ++ (SC cI cR a ca ga n k (upd (upd f 3 (nI u9)) 4 (nI (1 + u_264))) r1 ++ (CW cI ca n (r1 5) ++ RW cI ga k 3 G))))) := by simpa only [List.append_assoc, List.append_nil, List.nil_append] using hD
      refine lv_iload hx hb dL_act_281 (lv_at hl 0 rfl) ?_
      refine lv_icmp_ne (tgt := 290) hx hb dL_act_283 (by decide) (fun h9 => absurd (h7.symm) h9) (fun c_283 => ?_)
      refine lv_aload_n hx hb dL_act_286 rfl (lv_at hl 4 rfl) ?_
      refine lv_goto (tgt := 291) hx hb dL_act_287 (by decide) ?_
      subst hr1
      refine W.widen (k := 17) (n := 175) (by omega) (by omega) ?_
      exact wRr hQ hx hb hr (Or.inl ⟨_, rfl⟩) hlocks hP hD hS dL_act_291 ((n, li, k), ((dSpeak f r u9 (nI (1 + u_264))).1, (dSpeak f r u9 (nI (1 + u_264))).2, G, L), (a, ca, ga)) (⟨(inv_speak (x := u9) (w := 1 + u_264) hI hu9 (by omega) (by omega)).mono (by omega), (show InvT n k ((dSpeak f r u9 (nI (1 + u_264))).2 4) L G by rw [speak_r (by decide)]; exact hT)⟩) rfl rfl
  have join218 : ∀ (u9 : Nat) (w7 : Int32), (u9 < n) → (w7 = dInt f u9) → ∀ (H : Heap) (locs : List Loc) (ls : Array Slot), va_P D vwCl (XO x0 pa pb ++ (DC cI pa f r ++ (DC cI pb f2 r2 ++ (SC cI cR a ca ga n k f r ++ (CW cI ca n (r 5) ++ RW cI ga k 3 G))))) H → va_D A (XO x0 pa pb ++ (DC cI pa f r ++ (DC cI pb f2 r2 ++ (SC cI cR a ca ga n k f r ++ (CW cI ca n (r 5) ++ RW cI ga k 3 G))))) → va_S A s.heap H locs → lv_has ls 13 [(7, .int w7), (4, .int (nI u9)), (3, .int (nI n)), (0, .ref x0), (1, .ref (a 0)), (2, .int x)] → W p l e rmL_act s m args below meth c H locs 0 0 Q (F0 m 218 ls []) := by
    intro u9 w7 hu9 h7 H locs ls hP hD hS hl
    refine lv_aload_n hx hb dL_act_218 rfl (lv_at hl 4 rfl) ?_
    refine va_get (D := D) (ci := 2) (v := .ref (a 2)) (C := RX2) (T := TX2) (N := 15) hx hb hw2 (fun _ h => h) hown hK hP 17 rfl rfl 10 (by decide) k43 (fun _ h9 => h9) rfl dL_act_219 ?_
    refine lv_iload hx hb dL_act_222 (lv_at hl 1 rfl) ?_
    refine lv_dup2_11 hx hb dL_act_224 rfl rfl ?_
    refine wIald hx hb hK hP 20 0 rfl rfl u9 rfl (by omega) (by omega) dL_act_225 ?_
    refine lv_iload hx hb dL_act_226 (lv_at hl 0 rfl) ?_
    refine lv_if_ge (tgt := 235) hx hb dL_act_228 (by decide) (fun c_228 => ?_) (fun c_228 => ?_)
    · refine lv_iconst (v := 1) hx hb dL_act_235 (by decide) ?_
      refine lv_iadd hx hb dL_act_236 ?_
      refine wIast hx hb hK hP hD hS 20 0 rfl rfl u9 rfl (by omega) (by omega) dL_act_237 (fun H locs hP hD hS => ?_)
      have hP : va_P D vwCl (XO x0 pa pb ++ (DC cI pa f r ++ (DC cI pb f2 r2 ++ (SC cI cR a ca ga n k f (va_up r 1 (upd (r 1) u9 (((r 1) u9) + 1))) ++ (CW cI ca n (r 5) ++ RW cI ga k 3 G))))) H := hP
      have hD : va_D A (XO x0 pa pb ++ (DC cI pa f r ++ (DC cI pb f2 r2 ++ (SC cI cR a ca ga n k f (va_up r 1 (upd (r 1) u9 (((r 1) u9) + 1))) ++ (CW cI ca n (r 5) ++ RW cI ga k 3 G))))) := hD
      exact join238 u9 w7 (va_up r 1 (upd (r 1) u9 (((r 1) u9) + 1))) hu9 h7 (by rw [if_neg (dInt_pos (h7 ▸ c_228))]) _ _ _ hP hD hS (lv_sub hl [0, 1, 2, 3, 4, 5] rfl)
    · refine lv_iconst (v := 0) hx hb dL_act_231 (by decide) ?_
      refine lv_goto (tgt := 236) hx hb dL_act_232 (by decide) ?_
      refine lv_iadd hx hb dL_act_236 ?_
      refine wIast hx hb hK hP hD hS 20 0 rfl rfl u9 rfl (by omega) (by omega) dL_act_237 (fun H locs hP hD hS => ?_)
      have hP : va_P D vwCl (XO x0 pa pb ++ (DC cI pa f r ++ (DC cI pb f2 r2 ++ (SC cI cR a ca ga n k f (va_up r 1 (upd (r 1) u9 (((r 1) u9) + 0))) ++ (CW cI ca n (r 5) ++ RW cI ga k 3 G))))) H := hP
      have hD : va_D A (XO x0 pa pb ++ (DC cI pa f r ++ (DC cI pb f2 r2 ++ (SC cI cR a ca ga n k f (va_up r 1 (upd (r 1) u9 (((r 1) u9) + 0))) ++ (CW cI ca n (r 5) ++ RW cI ga k 3 G))))) := hD
      exact join238 u9 w7 (va_up r 1 (upd (r 1) u9 (((r 1) u9) + 0))) hu9 h7 (by rw [if_pos (dInt_neg hn1 hI.spk (h7 ▸ c_228)), upd_self, row_self]) _ _ _ hP hD hS (lv_sub hl [0, 1, 2, 3, 4, 5] rfl)
  have join192 : ∀ (u9 : Nat), (u9 < n) → ∀ (H : Heap) (locs : List Loc) (ls : Array Slot), va_P D vwCl (XO x0 pa pb ++ (DC cI pa f r ++ (DC cI pb f2 r2 ++ (SC cI cR a ca ga n k f r ++ (CW cI ca n (r 5) ++ RW cI ga k 3 G))))) H → va_D A (XO x0 pa pb ++ (DC cI pa f r ++ (DC cI pb f2 r2 ++ (SC cI cR a ca ga n k f r ++ (CW cI ca n (r 5) ++ RW cI ga k 3 G))))) → va_S A s.heap H locs → lv_has ls 13 [(4, .int (nI u9)), (3, .int (nI n)), (0, .ref x0), (1, .ref (a 0)), (2, .int x)] → W p l e rmL_act s m args below meth c H locs 0 0 Q (F0 m 192 ls []) := by
    intro u9 hu9 H locs ls hP hD hS hl
    refine lv_aload_n hx hb dL_act_192 rfl (lv_at hl 3 rfl) ?_
    refine va_get (D := D) (ci := 2) (v := .int (f 3)) (C := RX2) (T := TX2) (N := 15) hx hb hw2 (fun _ h => h) hown hK hP 17 rfl rfl 3 (by decide) k40 (fun _ h9 => h9) rfl dL_act_193 ?_
    refine lv_if_lt (tgt := 208) hx hb dL_act_196 (by decide) (fun c_196 => ?_) (fun c_196 => ?_)
    · refine lv_iconst (v := (-1)) hx hb dL_act_208 (by decide) ?_
      refine lv_goto (tgt := 216) hx hb dL_act_209 (by decide) ?_
      refine lv_istore (lv' := [(7, .int (-1)), (4, .int (nI u9)), (3, .int (nI n)), (0, .ref x0), (1, .ref (a 0)), (2, .int x)]) hx hb dL_act_216 hl (by decide) rfl (fun ls hl => ?_)
      exact join218 u9 (-1) hu9 (by rw [dInt, q_none hI (Int32.not_le.mpr c_196)]; split <;> rfl) _ _ _ hP hD hS (lv_sub hl [0, 1, 2, 3, 4, 5] rfl)
    · refine lv_aload_n hx hb dL_act_199 rfl (lv_at hl 3 rfl) ?_
      refine va_get (D := D) (ci := 2) (v := .int (f 3)) (C := RX2) (T := TX2) (N := 15) hx hb hw2 (fun _ h => h) hown hK hP 17 rfl rfl 3 (by decide) k40 (fun _ h9 => h9) rfl dL_act_200 ?_
      refine lv_iload hx hb dL_act_203 (lv_at hl 0 rfl) ?_
      refine lv_icmp_ne (tgt := 212) hx hb dL_act_205 (by decide) (fun c_205 => ?_) (fun c_205 => ?_)
      · refine lv_aload_n hx hb dL_act_212 rfl (lv_at hl 3 rfl) ?_
        refine va_get (D := D) (ci := 2) (v := .int (f 3)) (C := RX2) (T := TX2) (N := 15) hx hb hw2 (fun _ h => h) hown hK hP 17 rfl rfl 3 (by decide) k40 (fun _ h9 => h9) rfl dL_act_213 ?_
        refine lv_istore (lv' := [(7, .int (f 3)), (4, .int (nI u9)), (3, .int (nI n)), (0, .ref x0), (1, .ref (a 0)), (2, .int x)]) hx hb dL_act_216 hl (by decide) rfl (fun ls hl => ?_)
        exact join218 u9 (f 3) hu9 ((if_neg c_205).symm) _ _ _ hP hD hS (lv_sub hl [0, 1, 2, 3, 4, 5] rfl)
      · refine lv_iconst (v := (-1)) hx hb dL_act_208 (by decide) ?_
        refine lv_goto (tgt := 216) hx hb dL_act_209 (by decide) ?_
        refine lv_istore (lv' := [(7, .int (-1)), (4, .int (nI u9)), (3, .int (nI n)), (0, .ref x0), (1, .ref (a 0)), (2, .int x)]) hx hb dL_act_216 hl (by decide) rfl (fun ls hl => ?_)
        exact join218 u9 (-1) hu9 ((if_pos c_205).symm) _ _ _ hP hD hS (lv_sub hl [0, 1, 2, 3, 4, 5] rfl)
  have join153 : ∀ (u9 : Nat), (u9 < n) → ∀ (H : Heap) (locs : List Loc) (ls : Array Slot), va_P D vwCl (XO x0 pa pb ++ (DC cI pa f r ++ (DC cI pb f2 r2 ++ (SC cI cR a ca ga n k f r ++ (CW cI ca n (r 5) ++ RW cI ga k 3 G))))) H → va_D A (XO x0 pa pb ++ (DC cI pa f r ++ (DC cI pb f2 r2 ++ (SC cI cR a ca ga n k f r ++ (CW cI ca n (r 5) ++ RW cI ga k 3 G))))) → va_S A s.heap H locs → lv_has ls 13 [(4, .int (nI u9)), (3, .int (nI n)), (0, .ref x0), (1, .ref (a 0)), (2, .int x)] → W p l e rmL_act s m args below meth c H locs 0 0 Q (F0 m 153 ls []) := by
    intro u9 hu9 H locs ls hP hD hS hl
    refine lv_aload_n hx hb dL_act_153 rfl (lv_at hl 3 rfl) ?_
    refine va_get (D := D) (ci := 2) (v := .int (f 2)) (C := RX2) (T := TX2) (N := 15) hx hb hw2 (fun _ h => h) hown hK hP 17 rfl rfl 1 (by decide) k24 (fun _ h9 => h9) rfl dL_act_154 ?_
    refine lv_istore (lv' := [(6, .int (f 2)), (4, .int (nI u9)), (3, .int (nI n)), (0, .ref x0), (1, .ref (a 0)), (2, .int x)]) hx hb dL_act_157 hl (by decide) rfl (fun ls hl => ?_)
    refine lv_aload_n hx hb dL_act_159 rfl (lv_at hl 4 rfl) ?_
    refine lv_iconst (v := 1) hx hb dL_act_160 (by decide) ?_
    refine lv_iload_n hx hb dL_act_161 rfl (lv_at hl 5 rfl) ?_
    refine lv_iconst (v := 2) hx hb dL_act_162 (by decide) ?_
    refine lv_ishr hx hb dL_act_163 ?_
    refine lv_topi (fun x163 ex163 => ?_)
    refine lv_bipush (v := 30) hx hb dL_act_164 (by decide) ?_
    refine wCSi (pre := ([] : va_W)) (Wc := ([] : va_W)) (suf := XO x0 pa pb ++ (DC cI pa f r ++ (DC cI pb f2 r2 ++ (SC cI cR a ca ga n k f r ++ (CW cI ca n (r 5) ++ RW cI ga k 3 G))))) (As := [.int x163, .int 30]) (rest := [.int 1, .ref (a 0)]) ⟨hx, hb, hml, hown, hts⟩ (mL_below l D cI cR x163 30 _ (by omega) (by omega)) hN hA hK hS hP hD (by simp only [List.append_assoc, List.append_nil, List.nil_append]) (va_cwS 2 hts gL_act_L_below rfl rfl rfl (by decide +kernel) ⟨Nat.le_of_ble_eq_true rfl, Nat.le_of_ble_eq_true rfl⟩) rfl hl.1 rfl (Nat.le_of_ble_eq_true rfl) dL_act_166 ⟨by show 0 ≤ 17; omega, by show 0 ≤ 175; omega⟩ (fun r_166 u_166 H locs hw hP hD hS => ?_)
    obtain ⟨hw, hlt_166⟩ := hw
    have hw : r_166 = nI u_166 := hw
    subst hw
    have hP : va_P D vwCl (XO x0 pa pb ++ (DC cI pa f r ++ (DC cI pb f2 r2 ++ (SC cI cR a ca ga n k f r ++ (CW cI ca n (r 5) ++ RW cI ga k 3 G))))) H := by simpa only [List.append_assoc, List.append_nil, List.nil_append] using hP
    have hD : va_D A (XO x0 pa pb ++ (DC cI pa f r ++ (DC cI pb f2 r2 ++ (SC cI cR a ca ga n k f r ++ (CW cI ca n (r 5) ++ RW cI ga k 3 G))))) := by simpa only [List.append_assoc, List.append_nil, List.nil_append] using hD
    refine lv_iadd hx hb dL_act_169 ?_
    refine wTop (z := nI (1 + u_166)) (nI_add 1 u_166) ?_
    refine va_put (D := D) (ci := 2) (v := .int (nI (1 + u_166))) (ty := .int) (C := RX2) (T := TX2) (N := 15) hx hb hw2 (fun _ h => h) tyX2 tyX2_ok nmX2 hown hK hP hD hS 17 rfl rfl 1 (by decide) k24 (fun _ h9 => h9) rfl (by decide +kernel) rfl rfl (Nat.le_of_ble_eq_true rfl) dL_act_170 (fun H locs hP hD hS => ?_)
    have hP : va_P D vwCl (XO x0 pa pb ++ (DC cI pa f r ++ (DC cI pb f2 r2 ++ (SC cI cR a ca ga n k (upd f 2 (nI (1 + u_166))) r ++ (CW cI ca n (r 5) ++ RW cI ga k 3 G))))) H := hP
    have hD : va_D A (XO x0 pa pb ++ (DC cI pa f r ++ (DC cI pb f2 r2 ++ (SC cI cR a ca ga n k (upd f 2 (nI (1 + u_166))) r ++ (CW cI ca n (r 5) ++ RW cI ga k 3 G))))) := hD
    refine lv_aload_n hx hb dL_act_173 rfl (lv_at hl 3 rfl) ?_
    refine lv_aload_n hx hb dL_act_174 rfl (lv_at hl 4 rfl) ?_
    refine va_get (D := D) (ci := 2) (v := .int (nI (1 + u_166))) (C := RX2) (T := TX2) (N := 15) hx hb hw2 (fun _ h => h) hown hK hP 17 rfl rfl 1 (by decide) k24 (fun _ h9 => h9) rfl dL_act_175 ?_
    refine wCVi (pre := ([] : va_W)) (Wc := XO x0 pa pb ++ (DC cI pa f r ++ DC cI pb f2 r2)) (suf := SC cI cR a ca ga n k (upd f 2 (nI (1 + u_166))) r ++ (CW cI ca n (r 5) ++ RW cI ga k 3 G)) (As := [.int (nI (1 + u_166))]) (rest := []) ⟨hx, hb, hml, hown, hts⟩ (mX1_setLimit l D cI x0 pa pb f f2 r r2 (1 + u_166) _ (by omega) (by omega)) hN hA hK1 hS hP hD (by simp only [List.append_assoc, List.append_nil, List.nil_append]) 0 (r := (RX1, TX1, 2)) rfl rfl (cwV 1 hts gL_act_X1_setLimit rfl rfl rfl (by decide +kernel) ⟨Nat.le_of_ble_eq_true rfl, Nat.le_of_ble_eq_true rfl⟩) rfl hl.1 rfl (Nat.le_of_ble_eq_true rfl) dL_act_178 ⟨by show 0 ≤ 17; omega, by show 0 ≤ 175; omega⟩ (fun r_178 u_178 H locs hw hP hD hS => ?_)
    have hw : r_178 = f 2 := hw
    subst hw
    have hP : va_P D vwCl (XO x0 pa pb ++ (DC cI pa (upd f 2 (nI (1 + u_166))) r ++ (DC cI pb f2 r2 ++ (SC cI cR a ca ga n k (upd f 2 (nI (1 + u_166))) r ++ (CW cI ca n (r 5) ++ RW cI ga k 3 G))))) H := by simpa only [List.append_assoc, List.append_nil, List.nil_append] using hP
    have hD : va_D A (XO x0 pa pb ++ (DC cI pa (upd f 2 (nI (1 + u_166))) r ++ (DC cI pb f2 r2 ++ (SC cI cR a ca ga n k (upd f 2 (nI (1 + u_166))) r ++ (CW cI ca n (r 5) ++ RW cI ga k 3 G))))) := by simpa only [List.append_assoc, List.append_nil, List.nil_append] using hD
    refine lv_iload hx hb dL_act_181 (lv_at hl 0 rfl) ?_
    refine lv_icmp_ne (tgt := 190) hx hb dL_act_183 (by decide) (fun h9 => absurd (rfl) h9) (fun c_183 => ?_)
    refine lv_aload_n hx hb dL_act_186 rfl (lv_at hl 4 rfl) ?_
    refine lv_goto (tgt := 191) hx hb dL_act_187 (by decide) ?_
    refine W.widen (k := 17) (n := 175) (by omega) (by omega) ?_
    exact wRr hQ hx hb hr (Or.inl ⟨_, rfl⟩) hlocks hP hD hS dL_act_191 ((n, 1 + u_166, k), (upd f 2 (nI (1 + u_166)), r, G, L), (a, ca, ga)) (⟨(inv_limit (w := 1 + u_166) hI (by omega) (by omega)).mono (by omega), hT⟩) rfl rfl
  have join92 : ∀ (u9 : Nat), (u9 < n) → ∀ (H : Heap) (locs : List Loc) (ls : Array Slot), va_P D vwCl (XO x0 pa pb ++ (DC cI pa f r ++ (DC cI pb f2 r2 ++ (SC cI cR a ca ga n k f r ++ (CW cI ca n (r 5) ++ RW cI ga k 3 G))))) H → va_D A (XO x0 pa pb ++ (DC cI pa f r ++ (DC cI pb f2 r2 ++ (SC cI cR a ca ga n k f r ++ (CW cI ca n (r 5) ++ RW cI ga k 3 G))))) → va_S A s.heap H locs → lv_has ls 13 [(4, .int (nI u9)), (3, .int (nI n)), (0, .ref x0), (1, .ref (a 0)), (2, .int x)] → W p l e rmL_act s m args below meth c H locs 0 0 Q (F0 m 92 ls []) := by
    intro u9 hu9 H locs ls hP hD hS hl
    refine lv_iload_n hx hb dL_act_92 rfl (lv_at hl 4 rfl) ?_
    refine lv_iconst (v := 3) hx hb dL_act_93 (by decide) ?_
    refine wCSi (pre := ([] : va_W)) (Wc := ([] : va_W)) (suf := XO x0 pa pb ++ (DC cI pa f r ++ (DC cI pb f2 r2 ++ (SC cI cR a ca ga n k f r ++ (CW cI ca n (r 5) ++ RW cI ga k 3 G))))) (As := [.int x, .int 3]) (rest := []) ⟨hx, hb, hml, hown, hts⟩ (mL_below l D cI cR x 3 _ (by omega) (by omega)) hN hA hK hS hP hD (by simp only [List.append_assoc, List.append_nil, List.nil_append]) (va_cwS 2 hts gL_act_L_below rfl rfl rfl (by decide +kernel) ⟨Nat.le_of_ble_eq_true rfl, Nat.le_of_ble_eq_true rfl⟩) rfl hl.1 rfl (Nat.le_of_ble_eq_true rfl) dL_act_94 ⟨by show 0 ≤ 17; omega, by show 0 ≤ 175; omega⟩ (fun r_94 u_94 H locs hw hP hD hS => ?_)
    obtain ⟨hw, hlt_94⟩ := hw
    have hw : r_94 = nI u_94 := hw
    subst hw
    have hP : va_P D vwCl (XO x0 pa pb ++ (DC cI pa f r ++ (DC cI pb f2 r2 ++ (SC cI cR a ca ga n k f r ++ (CW cI ca n (r 5) ++ RW cI ga k 3 G))))) H := by simpa only [List.append_assoc, List.append_nil, List.nil_append] using hP
    have hD : va_D A (XO x0 pa pb ++ (DC cI pa f r ++ (DC cI pb f2 r2 ++ (SC cI cR a ca ga n k f r ++ (CW cI ca n (r 5) ++ RW cI ga k 3 G))))) := by simpa only [List.append_assoc, List.append_nil, List.nil_append] using hD
    refine lv_if_le (tgt := 102) hx hb dL_act_97 (by decide) (fun c_97 => ?_) (fun c_97 => ?_)
    · refine va_new (ci := 2) (fs := [.int 0, .int 0, .int 0, .int 0, .int 0, .int 0, .int 0, .int 0, .int 0, .null, .null, .null, .null, .null, .null]) (C := RX2) (T := TX2) (N := 15) hx hb hw2 (fun _ h => h) tyX2 tyX2_ok hown (hts (.classLink RL 10 RX2) (by decide +kernel)) (hts (.instantiable RX2 15) (by decide +kernel)) (hts (.initialized RX2) (by decide +kernel)) hK hP hD hS hA rfl (fun j hj => by exact newDefX2 j hj) (by show 0 + 1 ≤ 17; omega) (by show 0 + 15 ≤ 175; omega) dL_act_102 (fun q102 H hP hD hS => ?_)
      have hP := wRotP hP
      have hD := wRotD hD
      have hP : va_P D vwCl ([(q102, .inr (2, [.int 0, .int 0, .int 0, .int 0, .int 0, .int 0, .int 0, .int 0, .int 0, .null, .null, .null, .null, .null, .null]))] ++ (XO x0 pa pb ++ (DC cI pa f r ++ (DC cI pb f2 r2 ++ (SC cI cR a ca ga n k f r ++ (CW cI ca n (r 5) ++ RW cI ga k 3 G)))))) H := hP
      have hD : va_D A ([(q102, .inr (2, [.int 0, .int 0, .int 0, .int 0, .int 0, .int 0, .int 0, .int 0, .int 0, .null, .null, .null, .null, .null, .null]))] ++ (XO x0 pa pb ++ (DC cI pa f r ++ (DC cI pb f2 r2 ++ (SC cI cR a ca ga n k f r ++ (CW cI ca n (r 5) ++ RW cI ga k 3 G)))))) := hD
      refine lv_dup hx hb dL_act_105 rfl ?_
      refine lv_iconst (v := 2) hx hb dL_act_106 (by decide) ?_
      refine lv_iload_n hx hb dL_act_107 rfl (lv_at hl 4 rfl) ?_
      refine lv_iconst (v := 2) hx hb dL_act_108 (by decide) ?_
      refine lv_ishr hx hb dL_act_109 ?_
      refine lv_topi (fun x109 ex109 => ?_)
      refine lv_bipush (v := 9) hx hb dL_act_110 (by decide) ?_
      refine wCSi (pre := ([] : va_W)) (Wc := ([] : va_W)) (suf := [(q102, .inr (2, [.int 0, .int 0, .int 0, .int 0, .int 0, .int 0, .int 0, .int 0, .int 0, .null, .null, .null, .null, .null, .null]))] ++ (XO x0 pa pb ++ (DC cI pa f r ++ (DC cI pb f2 r2 ++ (SC cI cR a ca ga n k f r ++ (CW cI ca n (r 5) ++ RW cI ga k 3 G)))))) (As := [.int x109, .int 9]) (rest := [.int 2, .ref q102, .ref q102]) ⟨hx, hb, hml, hown, hts⟩ (mL_below l D cI cR x109 9 _ (by omega) (by omega)) hN hA hK hS hP hD (by simp only [List.append_assoc, List.append_nil, List.nil_append]) (va_cwS 2 hts gL_act_L_below rfl rfl rfl (by decide +kernel) ⟨Nat.le_of_ble_eq_true rfl, Nat.le_of_ble_eq_true rfl⟩) rfl hl.1 rfl (Nat.le_of_ble_eq_true rfl) dL_act_112 ⟨by show (0 + 1) ≤ 17; omega, by show (0 + 15) ≤ 175; omega⟩ (fun r_112 u_112 H locs hw hP hD hS => ?_)
      obtain ⟨hw, hlt_112⟩ := hw
      have hw : r_112 = nI u_112 := hw
      subst hw
      have hP : va_P D vwCl ([(q102, .inr (2, [.int 0, .int 0, .int 0, .int 0, .int 0, .int 0, .int 0, .int 0, .int 0, .null, .null, .null, .null, .null, .null]))] ++ (XO x0 pa pb ++ (DC cI pa f r ++ (DC cI pb f2 r2 ++ (SC cI cR a ca ga n k f r ++ (CW cI ca n (r 5) ++ RW cI ga k 3 G)))))) H := by simpa only [List.append_assoc, List.append_nil, List.nil_append] using hP
      have hD : va_D A ([(q102, .inr (2, [.int 0, .int 0, .int 0, .int 0, .int 0, .int 0, .int 0, .int 0, .int 0, .null, .null, .null, .null, .null, .null]))] ++ (XO x0 pa pb ++ (DC cI pa f r ++ (DC cI pb f2 r2 ++ (SC cI cR a ca ga n k f r ++ (CW cI ca n (r 5) ++ RW cI ga k 3 G)))))) := by simpa only [List.append_assoc, List.append_nil, List.nil_append] using hD
      refine lv_iadd hx hb dL_act_115 ?_
      refine wTop (z := nI (2 + u_112)) (nI_add 2 u_112) ?_
      refine wCIv (pre := ([] : va_W)) (Wc := [(q102, .inr (2, [.int 0, .int 0, .int 0, .int 0, .int 0, .int 0, .int 0, .int 0, .int 0, .null, .null, .null, .null, .null, .null]))]) (suf := XO x0 pa pb ++ (DC cI pa f r ++ (DC cI pb f2 r2 ++ (SC cI cR a ca ga n k f r ++ (CW cI ca n (r 5) ++ RW cI ga k 3 G))))) (As := [.int (nI (2 + u_112))]) (rest := [.ref q102]) ⟨hx, hb, hml, hown, hts⟩ (mX2_init l D cI cR q102 (2 + u_112) _ (by omega) (by omega)) hN hA hK hS hP hD (by simp only [List.append_assoc, List.append_nil, List.nil_append]) (cwI 1 hts gL_act_X2_init rfl rfl rfl (hts (.initialized RX2) (by decide +kernel)) (hts (.methodLink RL 21 yX2_init) (by decide +kernel)) (hts (.instanceMethod yX2_init) (by decide +kernel)) rfl (by decide +kernel) ⟨Nat.le_of_ble_eq_true rfl, Nat.le_of_ble_eq_true rfl⟩) rfl hl.1 rfl (Nat.le_of_ble_eq_true rfl) dL_act_116 ⟨by show (0 + 1) + 16 ≤ 17; omega, by show (0 + 15) + 160 ≤ 175; omega⟩ (fun u_116 H9 locs9 hw hP9 hD9 hS9 => ?_)
      have hw : u_116.1 0 = q102 := hw
      subst hw
      have hP := hP9
      have hD := hD9
      have hS := hS9
      revert hP hD hS
      clear hP9 hD9 hS9
      generalize H9 = H
      generalize locs9 = locs
      intro hP hD hS
      have hP : va_P D vwCl (SC cI cR u_116.1 u_116.2 (fun _ => 0) (2 + u_112) 0 (sF0 (2 + u_112)) (fun _ _ => 0) ++ (CW cI u_116.2 (2 + u_112) (fun _ => 0) ++ (RW cI (fun _ => 0) 0 3 (fun _ _ => 0) ++ (XO x0 pa pb ++ (DC cI pa f r ++ (DC cI pb f2 r2 ++ (SC cI cR a ca ga n k f r ++ (CW cI ca n (r 5) ++ RW cI ga k 3 G)))))))) H := by simpa only [List.append_assoc, List.append_nil, List.nil_append] using hP
      have hD : va_D A (SC cI cR u_116.1 u_116.2 (fun _ => 0) (2 + u_112) 0 (sF0 (2 + u_112)) (fun _ _ => 0) ++ (CW cI u_116.2 (2 + u_112) (fun _ => 0) ++ (RW cI (fun _ => 0) 0 3 (fun _ _ => 0) ++ (XO x0 pa pb ++ (DC cI pa f r ++ (DC cI pb f2 r2 ++ (SC cI cR a ca ga n k f r ++ (CW cI ca n (r 5) ++ RW cI ga k 3 G)))))))) := by simpa only [List.append_assoc, List.append_nil, List.nil_append] using hD
      have hP := wMovP (X := SC cI cR u_116.1 u_116.2 (fun _ => 0) (2 + u_112) 0 (sF0 (2 + u_112)) (fun _ _ => 0)) (Y := CW cI u_116.2 (2 + u_112) (fun _ => 0) ++ RW cI (fun _ => 0) 0 3 (fun _ _ => 0)) (Z := XO x0 pa pb ++ (DC cI pa f r ++ (DC cI pb f2 r2 ++ (SC cI cR a ca ga n k f r ++ (CW cI ca n (r 5) ++ RW cI ga k 3 G))))) (by simpa only [List.append_assoc] using hP)
      have hD := wMovD (X := SC cI cR u_116.1 u_116.2 (fun _ => 0) (2 + u_112) 0 (sF0 (2 + u_112)) (fun _ _ => 0)) (Y := CW cI u_116.2 (2 + u_112) (fun _ => 0) ++ RW cI (fun _ => 0) 0 3 (fun _ _ => 0)) (Z := XO x0 pa pb ++ (DC cI pa f r ++ (DC cI pb f2 r2 ++ (SC cI cR a ca ga n k f r ++ (CW cI ca n (r 5) ++ RW cI ga k 3 G))))) (by simpa only [List.append_assoc] using hD)
      have hP : va_P D vwCl (SC cI cR u_116.1 u_116.2 (fun _ => 0) (2 + u_112) 0 (sF0 (2 + u_112)) (fun _ _ => 0) ++ (XO x0 pa pb ++ (DC cI pa f r ++ (DC cI pb f2 r2 ++ (SC cI cR a ca ga n k f r ++ (CW cI ca n (r 5) ++ (RW cI ga k 3 G ++ (CW cI u_116.2 (2 + u_112) (fun _ => 0) ++ RW cI (fun _ => 0) 0 3 (fun _ _ => 0))))))))) H := by simpa only [List.append_assoc, List.append_nil, List.nil_append] using hP
      have hD : va_D A (SC cI cR u_116.1 u_116.2 (fun _ => 0) (2 + u_112) 0 (sF0 (2 + u_112)) (fun _ _ => 0) ++ (XO x0 pa pb ++ (DC cI pa f r ++ (DC cI pb f2 r2 ++ (SC cI cR a ca ga n k f r ++ (CW cI ca n (r 5) ++ (RW cI ga k 3 G ++ (CW cI u_116.2 (2 + u_112) (fun _ => 0) ++ RW cI (fun _ => 0) 0 3 (fun _ _ => 0))))))))) := by simpa only [List.append_assoc, List.append_nil, List.nil_append] using hD
      refine lv_astore (lv' := [(5, .ref (u_116.1 0)), (4, .int (nI u9)), (3, .int (nI n)), (0, .ref x0), (1, .ref (a 0)), (2, .int x)]) hx hb dL_act_119 hl (by decide) rfl (fun ls hl => ?_)
      refine lv_aload hx hb dL_act_121 (lv_at hl 0 rfl) ?_
      refine lv_aload_n hx hb dL_act_123 rfl (lv_at hl 4 rfl) ?_
      refine va_get (D := D) (ci := 2) (v := .int (f 2)) (C := RX2) (T := TX2) (N := 15) hx hb hw2 (fun _ h => h) hown hK hP 24 rfl rfl 1 (by decide) k24 (fun _ h9 => h9) rfl dL_act_124 ?_
      refine va_put (D := D) (ci := 2) (v := .int (f 2)) (ty := .int) (C := RX2) (T := TX2) (N := 15) hx hb hw2 (fun _ h => h) tyX2 tyX2_ok nmX2 hown hK hP hD hS 0 rfl rfl 1 (by decide) k24 (fun _ h9 => h9) rfl (by decide +kernel) rfl rfl (Nat.le_of_ble_eq_true rfl) dL_act_127 (fun H locs hP hD hS => ?_)
      have hP : va_P D vwCl (SC cI cR u_116.1 u_116.2 (fun _ => 0) (2 + u_112) 0 (upd (sF0 (2 + u_112)) 2 (f 2)) (fun _ _ => 0) ++ (XO x0 pa pb ++ (DC cI pa f r ++ (DC cI pb f2 r2 ++ (SC cI cR a ca ga n k f r ++ (CW cI ca n (r 5) ++ (RW cI ga k 3 G ++ (CW cI u_116.2 (2 + u_112) (fun _ => 0) ++ RW cI (fun _ => 0) 0 3 (fun _ _ => 0))))))))) H := hP
      have hD : va_D A (SC cI cR u_116.1 u_116.2 (fun _ => 0) (2 + u_112) 0 (upd (sF0 (2 + u_112)) 2 (f 2)) (fun _ _ => 0) ++ (XO x0 pa pb ++ (DC cI pa f r ++ (DC cI pb f2 r2 ++ (SC cI cR a ca ga n k f r ++ (CW cI ca n (r 5) ++ (RW cI ga k 3 G ++ (CW cI u_116.2 (2 + u_112) (fun _ => 0) ++ RW cI (fun _ => 0) 0 3 (fun _ _ => 0))))))))) := hD
      refine lv_aload_n hx hb dL_act_130 rfl (lv_at hl 3 rfl) ?_
      refine lv_aload hx hb dL_act_131 (lv_at hl 0 rfl) ?_
      refine va_get (D := D) (ci := 2) (v := .int ((sF0 (2 + u_112)) 0)) (C := RX2) (T := TX2) (N := 15) hx hb hw2 (fun _ h => h) hown hK hP 0 rfl rfl 0 (by decide) k9 (fun _ h9 => h9) rfl dL_act_133 ?_
      refine wTop (z := nI (2 + u_112)) (sF0_0 _) ?_
      refine wCVi (pre := SC cI cR u_116.1 u_116.2 (fun _ => 0) (2 + u_112) 0 (upd (sF0 (2 + u_112)) 2 (f 2)) (fun _ _ => 0)) (Wc := XO x0 pa pb ++ (DC cI pa f r ++ DC cI pb f2 r2)) (suf := SC cI cR a ca ga n k f r ++ (CW cI ca n (r 5) ++ (RW cI ga k 3 G ++ (CW cI u_116.2 (2 + u_112) (fun _ => 0) ++ RW cI (fun _ => 0) 0 3 (fun _ _ => 0))))) (As := [.int (nI (2 + u_112))]) (rest := []) ⟨hx, hb, hml, hown, hts⟩ (mX1_newDinner l D cI x0 pa pb f f2 r r2 n (2 + u_112) _ hg hn1 (by omega) (by omega) (by omega)) hN hA hK1 hS hP hD (by simp only [List.append_assoc, List.append_nil, List.nil_append]) 0 (r := (RX1, TX1, 2)) rfl rfl (cwV 1 hts gL_act_X1_newDinner rfl rfl rfl (by decide +kernel) ⟨Nat.le_of_ble_eq_true rfl, Nat.le_of_ble_eq_true rfl⟩) rfl hl.1 rfl (Nat.le_of_ble_eq_true rfl) dL_act_136 ⟨by show ((0 + 1) + 16) ≤ 17; omega, by show ((0 + 15) + 160) ≤ 175; omega⟩ (fun r_136 u_136 H locs hw hP hD hS => ?_)
      have hw : r_136 = dRate (f 0) (f 6) (r 3) n := hw
      subst hw
      have hP : va_P D vwCl (SC cI cR u_116.1 u_116.2 (fun _ => 0) (2 + u_112) 0 (upd (sF0 (2 + u_112)) 2 (f 2)) (fun _ _ => 0) ++ (XO x0 pa pb ++ (DC cI pa (dBeginF f (nI (2 + u_112))) (dBeginR r) ++ (DC cI pb f2 r2 ++ (SC cI cR a ca ga n k f r ++ (CW cI ca n (r 5) ++ (RW cI ga k 3 G ++ (CW cI u_116.2 (2 + u_112) (fun _ => 0) ++ RW cI (fun _ => 0) 0 3 (fun _ _ => 0))))))))) H := by simpa only [List.append_assoc, List.append_nil, List.nil_append] using hP
      have hD : va_D A (SC cI cR u_116.1 u_116.2 (fun _ => 0) (2 + u_112) 0 (upd (sF0 (2 + u_112)) 2 (f 2)) (fun _ _ => 0) ++ (XO x0 pa pb ++ (DC cI pa (dBeginF f (nI (2 + u_112))) (dBeginR r) ++ (DC cI pb f2 r2 ++ (SC cI cR a ca ga n k f r ++ (CW cI ca n (r 5) ++ (RW cI ga k 3 G ++ (CW cI u_116.2 (2 + u_112) (fun _ => 0) ++ RW cI (fun _ => 0) 0 3 (fun _ _ => 0))))))))) := by simpa only [List.append_assoc, List.append_nil, List.nil_append] using hD
      refine lv_aload_n hx hb dL_act_139 rfl (lv_at hl 4 rfl) ?_
      refine wCVi (pre := SC cI cR u_116.1 u_116.2 (fun _ => 0) (2 + u_112) 0 (upd (sF0 (2 + u_112)) 2 (f 2)) (fun _ _ => 0) ++ (XO x0 pa pb ++ (DC cI pa (dBeginF f (nI (2 + u_112))) (dBeginR r) ++ DC cI pb f2 r2))) (Wc := SC cI cR a ca ga n k f r ++ (CW cI ca n (r 5) ++ RW cI ga k 3 G)) (suf := CW cI u_116.2 (2 + u_112) (fun _ => 0) ++ RW cI (fun _ => 0) 0 3 (fun _ _ => 0)) (As := []) (rest := [.int (dRate (f 0) (f 6) (r 3) n)]) ⟨hx, hb, hml, hown, hts⟩ (mX2_rated l D cI cR a ca ga n k f r G _ hg hn0 hn1 hk) hN hA hK hS hP hD (by simp only [List.append_assoc, List.append_nil, List.nil_append]) 0 (r := (RX2, TX2, 15)) rfl rfl (cwV 0 hts gL_act_X2_rated rfl rfl rfl (by decide +kernel) ⟨Nat.le_of_ble_eq_true rfl, Nat.le_of_ble_eq_true rfl⟩) rfl hl.1 rfl (Nat.le_of_ble_eq_true rfl) dL_act_140 ⟨by show ((0 + 1) + 16) ≤ 17; omega, by show ((0 + 15) + 160) ≤ 175; omega⟩ (fun r_140 u_140 H locs hw hP hD hS => ?_)
      have hw : r_140 = sRated ((dSum (r 3) n + (f 6)) / (f 0)) := hw
      subst hw
      have hP : va_P D vwCl (SC cI cR u_116.1 u_116.2 (fun _ => 0) (2 + u_112) 0 (upd (sF0 (2 + u_112)) 2 (f 2)) (fun _ _ => 0) ++ (XO x0 pa pb ++ (DC cI pa (dBeginF f (nI (2 + u_112))) (dBeginR r) ++ (DC cI pb f2 r2 ++ (SC cI cR a ca ga n k f r ++ (CW cI ca n (r 5) ++ (RW cI ga k 3 G ++ (CW cI u_116.2 (2 + u_112) (fun _ => 0) ++ RW cI (fun _ => 0) 0 3 (fun _ _ => 0))))))))) H := by simpa only [List.append_assoc, List.append_nil, List.nil_append] using hP
      have hD : va_D A (SC cI cR u_116.1 u_116.2 (fun _ => 0) (2 + u_112) 0 (upd (sF0 (2 + u_112)) 2 (f 2)) (fun _ _ => 0) ++ (XO x0 pa pb ++ (DC cI pa (dBeginF f (nI (2 + u_112))) (dBeginR r) ++ (DC cI pb f2 r2 ++ (SC cI cR a ca ga n k f r ++ (CW cI ca n (r 5) ++ (RW cI ga k 3 G ++ (CW cI u_116.2 (2 + u_112) (fun _ => 0) ++ RW cI (fun _ => 0) 0 3 (fun _ _ => 0))))))))) := by simpa only [List.append_assoc, List.append_nil, List.nil_append] using hD
      refine lv_icmp_ne (tgt := 151) hx hb dL_act_143 (by decide) (fun h9 => absurd (rate_eq hI (by omega)) h9) (fun c_143 => ?_)
      refine lv_aload hx hb dL_act_146 (lv_at hl 0 rfl) ?_
      refine lv_goto (tgt := 152) hx hb dL_act_148 (by decide) ?_
      have hP := wNewP (X := SC cI cR u_116.1 u_116.2 (fun _ => 0) (2 + u_112) 0 (upd (sF0 (2 + u_112)) 2 (f 2)) (fun _ _ => 0)) (P9 := XO x0 pa pb ++ (DC cI pa (dBeginF f (nI (2 + u_112))) (dBeginR r) ++ DC cI pb f2 r2)) (O := SC cI cR a ca ga n k f r ++ (CW cI ca n (r 5) ++ RW cI ga k 3 G)) (Y := CW cI u_116.2 (2 + u_112) (fun _ => 0) ++ RW cI (fun _ => 0) 0 3 (fun _ _ => 0)) (by simpa only [List.append_assoc] using hP)
      have hD := wNewD (X := SC cI cR u_116.1 u_116.2 (fun _ => 0) (2 + u_112) 0 (upd (sF0 (2 + u_112)) 2 (f 2)) (fun _ _ => 0)) (P9 := XO x0 pa pb ++ (DC cI pa (dBeginF f (nI (2 + u_112))) (dBeginR r) ++ DC cI pb f2 r2)) (O := SC cI cR a ca ga n k f r ++ (CW cI ca n (r 5) ++ RW cI ga k 3 G)) (Y := CW cI u_116.2 (2 + u_112) (fun _ => 0) ++ RW cI (fun _ => 0) 0 3 (fun _ _ => 0)) (by simpa only [List.append_assoc] using hD)
      have hP : va_P D vwCl (XO x0 pa pb ++ (DC cI pa (dBeginF f (nI (2 + u_112))) (dBeginR r) ++ (DC cI pb f2 r2 ++ (SC cI cR u_116.1 u_116.2 (fun _ => 0) (2 + u_112) 0 (upd (sF0 (2 + u_112)) 2 (f 2)) (fun _ _ => 0) ++ (CW cI u_116.2 (2 + u_112) (fun _ => 0) ++ RW cI (fun _ => 0) 0 3 (fun _ _ => 0)))))) H := by simpa only [List.append_assoc] using hP
      have hD : va_D A (XO x0 pa pb ++ (DC cI pa (dBeginF f (nI (2 + u_112))) (dBeginR r) ++ (DC cI pb f2 r2 ++ (SC cI cR u_116.1 u_116.2 (fun _ => 0) (2 + u_112) 0 (upd (sF0 (2 + u_112)) 2 (f 2)) (fun _ _ => 0) ++ (CW cI u_116.2 (2 + u_112) (fun _ => 0) ++ RW cI (fun _ => 0) 0 3 (fun _ _ => 0)))))) := by simpa only [List.append_assoc] using hD
      have hP : va_P D vwCl (XO x0 pa pb ++ (DC cI pa (dBeginF f (nI (2 + u_112))) (dBeginR r) ++ (DC cI pb f2 r2 ++ (SC cI cR u_116.1 u_116.2 (fun _ => 0) (2 + u_112) 0 (dBeginF f (nI (2 + u_112))) (dBeginR r) ++ (CW cI u_116.2 (2 + u_112) ((dBeginR r) 5) ++ RW cI (fun _ => 0) 0 3 (fun _ _ => 0)))))) H := hP
      have hD : va_D A (XO x0 pa pb ++ (DC cI pa (dBeginF f (nI (2 + u_112))) (dBeginR r) ++ (DC cI pb f2 r2 ++ (SC cI cR u_116.1 u_116.2 (fun _ => 0) (2 + u_112) 0 (dBeginF f (nI (2 + u_112))) (dBeginR r) ++ (CW cI u_116.2 (2 + u_112) ((dBeginR r) 5) ++ RW cI (fun _ => 0) 0 3 (fun _ _ => 0)))))) := hD
      refine W.widen (k := 17) (n := 175) (by omega) (by omega) ?_
      exact wRr hQ hx hb hr (Or.inl ⟨_, rfl⟩) hlocks hP hD hS dL_act_152 ((2 + u_112, li, 0), (dBeginF f (nI (2 + u_112)), dBeginR r, (fun _ _ => 0), []), (u_116.1, u_116.2, (fun _ => 0))) (⟨(inv_begin (w := 2 + u_112) hI.1.2.2.1 hI.1.2.2.2.1 hI.1.2.2.2.2.2 (by omega) (by omega)).mono (by omega), invT_begin⟩) rfl rfl
    · refine lv_aload_n hx hb dL_act_100 rfl (lv_at hl 3 rfl) ?_
      refine W.widen (k := 17) (n := 175) (by omega) (by omega) ?_
      exact wRr hQ hx hb hr (Or.inl ⟨_, rfl⟩) hlocks hP hD hS dL_act_101 ((n, li, k), (f, r, G, L), (a, ca, ga)) (⟨hI.mono (by omega), hT⟩) rfl rfl
  refine lv_aload_n hx hb dL_act_0 rfl (lv_at hl 1 rfl) ?_
  refine va_get (D := D) (ci := 2) (v := .int (f 0)) (C := RX2) (T := TX2) (N := 15) hx hb hw2 (fun _ h => h) hown hK hP 17 rfl rfl 0 (by decide) k9 (fun _ h9 => h9) rfl dL_act_1 ?_
  refine wTop (z := nI n) (hg) ?_
  refine lv_istore_n (lv' := [(3, .int (nI n)), (0, .ref x0), (1, .ref (a 0)), (2, .int x)]) hx hb dL_act_4 rfl hl (by decide) rfl (fun ls hl => ?_)
  refine lv_iload_n hx hb dL_act_5 rfl (lv_at hl 3 rfl) ?_
  refine lv_iconst (v := 1) hx hb dL_act_6 (by decide) ?_
  refine lv_ishr hx hb dL_act_7 ?_
  refine lv_topi (fun x7 ex7 => ?_)
  refine lv_iload_n hx hb dL_act_8 rfl (lv_at hl 0 rfl) ?_
  refine wCSi (pre := ([] : va_W)) (Wc := ([] : va_W)) (suf := XO x0 pa pb ++ (DC cI pa f r ++ (DC cI pb f2 r2 ++ (SC cI cR a ca ga n k f r ++ (CW cI ca n (r 5) ++ RW cI ga k 3 G))))) (As := [.int x7, .int (nI n)]) (rest := []) ⟨hx, hb, hml, hown, hts⟩ (mL_below l D cI cR x7 n _ (by omega) (by omega)) hN hA hK hS hP hD (by simp only [List.append_assoc, List.append_nil, List.nil_append]) (va_cwS 2 hts gL_act_L_below rfl rfl rfl (by decide +kernel) ⟨Nat.le_of_ble_eq_true rfl, Nat.le_of_ble_eq_true rfl⟩) rfl hl.1 rfl (Nat.le_of_ble_eq_true rfl) dL_act_9 ⟨by show 0 ≤ 17; omega, by show 0 ≤ 175; omega⟩ (fun r_9 u_9 H locs hw hP hD hS => ?_)
  obtain ⟨hw, hlt_9⟩ := hw
  have hw : r_9 = nI u_9 := hw
  subst hw
  have hP : va_P D vwCl (XO x0 pa pb ++ (DC cI pa f r ++ (DC cI pb f2 r2 ++ (SC cI cR a ca ga n k f r ++ (CW cI ca n (r 5) ++ RW cI ga k 3 G))))) H := by simpa only [List.append_assoc, List.append_nil, List.nil_append] using hP
  have hD : va_D A (XO x0 pa pb ++ (DC cI pa f r ++ (DC cI pb f2 r2 ++ (SC cI cR a ca ga n k f r ++ (CW cI ca n (r 5) ++ RW cI ga k 3 G))))) := by simpa only [List.append_assoc, List.append_nil, List.nil_append] using hD
  refine lv_istore (lv' := [(4, .int (nI u_9)), (3, .int (nI n)), (0, .ref x0), (1, .ref (a 0)), (2, .int x)]) hx hb dL_act_12 hl (by decide) rfl (fun ls hl => ?_)
  refine lv_iload_n hx hb dL_act_14 rfl (lv_at hl 4 rfl) ?_
  refine lv_bipush (v := 9) hx hb dL_act_15 (by decide) ?_
  refine lv_ishr hx hb dL_act_17 ?_
  refine lv_topi (fun x17 ex17 => ?_)
  refine lv_bipush (v := 20) hx hb dL_act_18 (by decide) ?_
  refine wCSi (pre := ([] : va_W)) (Wc := ([] : va_W)) (suf := XO x0 pa pb ++ (DC cI pa f r ++ (DC cI pb f2 r2 ++ (SC cI cR a ca ga n k f r ++ (CW cI ca n (r 5) ++ RW cI ga k 3 G))))) (As := [.int x17, .int 20]) (rest := []) ⟨hx, hb, hml, hown, hts⟩ (mL_below l D cI cR x17 20 _ (by omega) (by omega)) hN hA hK hS hP hD (by simp only [List.append_assoc, List.append_nil, List.nil_append]) (va_cwS 2 hts gL_act_L_below rfl rfl rfl (by decide +kernel) ⟨Nat.le_of_ble_eq_true rfl, Nat.le_of_ble_eq_true rfl⟩) rfl hl.1 rfl (Nat.le_of_ble_eq_true rfl) dL_act_20 ⟨by show 0 ≤ 17; omega, by show 0 ≤ 175; omega⟩ (fun r_20 u_20 H locs hw hP hD hS => ?_)
  obtain ⟨hw, hlt_20⟩ := hw
  have hw : r_20 = nI u_20 := hw
  subst hw
  have hP : va_P D vwCl (XO x0 pa pb ++ (DC cI pa f r ++ (DC cI pb f2 r2 ++ (SC cI cR a ca ga n k f r ++ (CW cI ca n (r 5) ++ RW cI ga k 3 G))))) H := by simpa only [List.append_assoc, List.append_nil, List.nil_append] using hP
  have hD : va_D A (XO x0 pa pb ++ (DC cI pa f r ++ (DC cI pb f2 r2 ++ (SC cI cR a ca ga n k f r ++ (CW cI ca n (r 5) ++ RW cI ga k 3 G))))) := by simpa only [List.append_assoc, List.append_nil, List.nil_append] using hD
  rcases (show u_20 = 0 ∨ u_20 = 1 ∨ u_20 = 2 ∨ u_20 = 3 ∨ u_20 = 4 ∨ u_20 = 5 ∨ u_20 = 6 ∨ u_20 = 7 ∨ u_20 = 8 ∨ u_20 = 9 ∨ u_20 = 10 ∨ u_20 = 11 ∨ u_20 = 12 ∨ u_20 = 13 ∨ 14 ≤ u_20 by omega) with e9 | e9 | e9 | e9 | e9 | e9 | e9 | e9 | e9 | e9 | e9 | e9 | e9 | e9 | e9
  · subst e9
    refine lv_tableIn (off := 69) (tgt := 92) hx hb dL_act_23 (by decide) (by decide) (by decide) (by decide) ?_
    exact join92 u_9 hlt_9 _ _ _ hP hD hS (lv_sub hl [0, 1, 2, 3, 4] rfl)
  · subst e9
    refine lv_tableIn (off := 130) (tgt := 153) hx hb dL_act_23 (by decide) (by decide) (by decide) (by decide) ?_
    exact join153 u_9 hlt_9 _ _ _ hP hD hS (lv_sub hl [0, 1, 2, 3, 4] rfl)
  · subst e9
    refine lv_tableIn (off := 169) (tgt := 192) hx hb dL_act_23 (by decide) (by decide) (by decide) (by decide) ?_
    exact join192 u_9 hlt_9 _ _ _ hP hD hS (lv_sub hl [0, 1, 2, 3, 4] rfl)
  · subst e9
    refine lv_tableIn (off := 169) (tgt := 192) hx hb dL_act_23 (by decide) (by decide) (by decide) (by decide) ?_
    exact join192 u_9 hlt_9 _ _ _ hP hD hS (lv_sub hl [0, 1, 2, 3, 4] rfl)
  · subst e9
    refine lv_tableIn (off := 169) (tgt := 192) hx hb dL_act_23 (by decide) (by decide) (by decide) (by decide) ?_
    exact join192 u_9 hlt_9 _ _ _ hP hD hS (lv_sub hl [0, 1, 2, 3, 4] rfl)
  · subst e9
    refine lv_tableIn (off := 269) (tgt := 292) hx hb dL_act_23 (by decide) (by decide) (by decide) (by decide) ?_
    exact join292 u_9 hlt_9 _ _ _ hP hD hS (lv_sub hl [0, 1, 2, 3, 4] rfl)
  · subst e9
    refine lv_tableIn (off := 269) (tgt := 292) hx hb dL_act_23 (by decide) (by decide) (by decide) (by decide) ?_
    exact join292 u_9 hlt_9 _ _ _ hP hD hS (lv_sub hl [0, 1, 2, 3, 4] rfl)
  · subst e9
    refine lv_tableIn (off := 269) (tgt := 292) hx hb dL_act_23 (by decide) (by decide) (by decide) (by decide) ?_
    exact join292 u_9 hlt_9 _ _ _ hP hD hS (lv_sub hl [0, 1, 2, 3, 4] rfl)
  · subst e9
    refine lv_tableIn (off := 354) (tgt := 377) hx hb dL_act_23 (by decide) (by decide) (by decide) (by decide) ?_
    exact join377 u_9 hlt_9 _ _ _ hP hD hS (lv_sub hl [0, 1, 2, 3, 4] rfl)
  · subst e9
    refine lv_tableIn (off := 354) (tgt := 377) hx hb dL_act_23 (by decide) (by decide) (by decide) (by decide) ?_
    exact join377 u_9 hlt_9 _ _ _ hP hD hS (lv_sub hl [0, 1, 2, 3, 4] rfl)
  · subst e9
    refine lv_tableIn (off := 354) (tgt := 377) hx hb dL_act_23 (by decide) (by decide) (by decide) (by decide) ?_
    exact join377 u_9 hlt_9 _ _ _ hP hD hS (lv_sub hl [0, 1, 2, 3, 4] rfl)
  · subst e9
    refine lv_tableIn (off := 354) (tgt := 377) hx hb dL_act_23 (by decide) (by decide) (by decide) (by decide) ?_
    exact join377 u_9 hlt_9 _ _ _ hP hD hS (lv_sub hl [0, 1, 2, 3, 4] rfl)
  · subst e9
    refine lv_tableIn (off := 354) (tgt := 377) hx hb dL_act_23 (by decide) (by decide) (by decide) (by decide) ?_
    exact join377 u_9 hlt_9 _ _ _ hP hD hS (lv_sub hl [0, 1, 2, 3, 4] rfl)
  · subst e9
    refine lv_tableIn (off := 354) (tgt := 377) hx hb dL_act_23 (by decide) (by decide) (by decide) (by decide) ?_
    exact join377 u_9 hlt_9 _ _ _ hP hD hS (lv_sub hl [0, 1, 2, 3, 4] rfl)
  · refine lv_tableOut (tgt := 433) hx hb dL_act_23 (Or.inr (by rw [nI_toInt (by omega)]; omega)) (by decide) ?_
    exact join433 u_9 hlt_9 _ _ _ hP hD hS (lv_sub hl [0, 1, 2, 3, 4] rfl)
