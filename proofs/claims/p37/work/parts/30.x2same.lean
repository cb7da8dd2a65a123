abbrev rmX2_isSame : Room := { frames := 4, cells := 0, slots := 0, locals := 83 }
set_option maxRecDepth 100000 in
set_option maxHeartbeats 4000000 in
/-- isSame -/
theorem mX2_isSame (l : Launch) (D : va_G) (cI cR : ClassId) (x0 : Nat) (pa pb : Nat → Nat) (f2 : Nat → Int32) (r2 : Nat → Nat → Int32) (a ca ga : Nat → Nat) (n k : Nat) (f : Nat → Int32) (r G : Nat → Nat → Int32) (sz : Nat) (hg : f 0 = nI n) (hn0 : 2 ≤ n) (hn1 : n ≤ 10) (hk : k ≤ 100) (h34 : ¬ 0 ≤ f 3 → f 4 = 0) (hsent : f 9 = nI (sCnt G k)) (hrt : dRate (f 0) (f 6) (r 3) n = sRated ((dSum (r 3) n + f 6) / f 0)) (hA1 : ∀ x y, x < n → y < n → sFind G (nI x) (nI y) k 0 < 0 → r 4 (x * 10 + y) = -1) (hB1 : ∀ x y, x < n → y < n → ¬ sFind G (nI x) (nI y) k 0 < 0 → ∃ q, q < k ∧ sFind G (nI x) (nI y) k 0 = nI q ∧ G q 2 = r 4 (x * 10 + y) ∧ ¬ r 4 (x * 10 + y) = -1) (hnn : vf_n64 (FP.ddiv (FP.i2d (dSum (r 3) n)) (FP.i2d (f 0)))) : wCt l yX2_isSame wsX2_isSame rmX2_isSame D [(cI, .int), (cR, .array .int)] [.ref (a 0), .ref x0] (XO x0 pa pb ++ (DC cI pa f r ++ (DC cI pb f2 r2 ++ (SC cI cR a ca ga n k f r ++ (CW cI ca n (r 5) ++ RW cI ga k 3 G))))) sz 0 0 (wQi D (fun v (_ : Unit) => v = 1) (fun _ : Unit => XO x0 pa pb ++ (DC cI pa f r ++ (DC cI pb f2 r2 ++ (SC cI cR a ca ga n k f r ++ (CW cI ca n (r 5) ++ RW cI ga k 3 G)))))) := by
  refine wMet cX2_isSame 7 (some .boolean) (by decide) rfl (Nat.le_of_ble_eq_true rfl) ?_
  intro p e s m args below meth c A Q ls hQ hx hb hr hml hown hlocks hin hts hN hP hK hD hA hS hl
  have hK1 : va_K D vwCl [(cI, .int)] s := hK.sub [0] rfl
  have hl : lv_has ls 7 [(0, .ref (a 0)), (1, .ref x0)] := hl
  have hown : s.vm.findClass RX2 = some m.cls := hown
  have hw2 : ∀ w ∈ wsX20, w.before args s = true := fun w h => hts w (List.mem_cons_of_mem _ (List.mem_append_left _ (List.mem_append_left _ (List.mem_append_left _ (List.mem_append_right _ h)))))
  have k7 := hts (.fieldLink RX2 7 "PauseLedgerLaw$Sim" "limit" "I") (by decide +kernel)
  have k13 := hts (.fieldLink RX2 13 "PauseLedgerLaw$Sim" "speaker" "I") (by decide +kernel)
  have k18 := hts (.fieldLink RX2 18 "PauseLedgerLaw$Sim" "glances" "[[I") (by decide +kernel)
  have k22 := hts (.fieldLink RX2 22 "PauseLedgerLaw$Sim" "guests" "I") (by decide +kernel)
  have k25 := hts (.fieldLink RX2 25 "PauseLedgerLaw$Sim" "spoken" "[I") (by decide +kernel)
  have k28 := hts (.fieldLink RX2 28 "PauseLedgerLaw$Sim" "cut" "[I") (by decide +kernel)
  have k31 := hts (.fieldLink RX2 31 "PauseLedgerLaw$Sim" "coughs" "[I") (by decide +kernel)
  have k34 := hts (.fieldLink RX2 34 "PauseLedgerLaw$Sim" "unsaid" "[I") (by decide +kernel)
  have k38 := hts (.fieldLink RX2 38 "PauseLedgerLaw$Sim" "caught" "[[I") (by decide +kernel)
  have k44 := hts (.fieldLink RX2 44 "PauseLedgerLaw$Sim" "second" "I") (by decide +kernel)
  have k47 := hts (.fieldLink RX2 47 "PauseLedgerLaw$Sim" "left" "I") (by decide +kernel)
  have k50 := hts (.fieldLink RX2 50 "PauseLedgerLaw$Sim" "pause" "I") (by decide +kernel)
  have k53 := hts (.fieldLink RX2 53 "PauseLedgerLaw$Sim" "quiet" "I") (by decide +kernel)
  have k56 := hts (.fieldLink RX2 56 "PauseLedgerLaw$Sim" "met" "I") (by decide +kernel)
  have k59 := hts (.fieldLink RX2 59 "PauseLedgerLaw$Sim" "lost" "I") (by decide +kernel)
  refine lv_iconst (v := 0) hx hb dX2_isSame_0 (by decide) ?_
  refine lv_istore_n (lv' := [(2, .int 0), (0, .ref (a 0)), (1, .ref x0)]) hx hb dX2_isSame_1 rfl hl (by decide) rfl (fun ls hl => ?_)
  refine lv_aload_n hx hb dX2_isSame_2 rfl (lv_at hl 1 rfl) ?_
  refine va_get (D := D) (ci := 2) (v := .ref (a 6)) (C := RX2) (T := TX2) (N := 15) hx hb hw2 (fun _ h => h) hown hK hP 17 rfl rfl 14 (by decide) k18 (fun _ h9 => h9) rfl dX2_isSame_3 ?_
  refine lv_astore_n (lv' := [(3, .ref (a 6)), (2, .int 0), (0, .ref (a 0)), (1, .ref x0)]) hx hb dX2_isSame_6 rfl hl (by decide) rfl (fun ls hl => ?_)
  refine lv_aload_n hx hb dX2_isSame_7 rfl (lv_at hl 0 rfl) ?_
  refine va_alen (v := nI k) hx hb hK hP 18 1 rfl rfl rfl dX2_isSame_8 ?_
  refine lv_istore (lv' := [(4, .int (nI k)), (3, .ref (a 6)), (2, .int 0), (0, .ref (a 0)), (1, .ref x0)]) hx hb dX2_isSame_9 hl (by decide) rfl (fun ls hl => ?_)
  refine lv_iconst (v := 0) hx hb dX2_isSame_11 (by decide) ?_
  refine lv_istore (lv' := [(5, .int 0), (4, .int (nI k)), (3, .ref (a 6)), (2, .int 0), (0, .ref (a 0)), (1, .ref x0)]) hx hb dX2_isSame_12 hl (by decide) rfl (fun ls hl => ?_)
  have loop14 : ∀ (j i14 : Nat), i14 + j = k → ∀ (H : Heap) (locs : List Loc) (ls : Array Slot), va_P D vwCl (XO x0 pa pb ++ (DC cI pa f r ++ (DC cI pb f2 r2 ++ (SC cI cR a ca ga n k f r ++ (CW cI ca n (r 5) ++ RW cI ga k 3 G))))) H → va_D A (XO x0 pa pb ++ (DC cI pa f r ++ (DC cI pb f2 r2 ++ (SC cI cR a ca ga n k f r ++ (CW cI ca n (r 5) ++ RW cI ga k 3 G))))) → va_S A s.heap H locs → lv_has ls 7 [(5, .int (nI i14)), (2, .int (nI (sCnt G i14))), (0, .ref (a 0)), (1, .ref x0), (3, .ref (a 6)), (4, .int (nI k))] → W p l e rmX2_isSame s m args below meth c H locs 0 0 Q (F0 m 14 ls []) := by
    intro j
    induction j with
    | zero =>
      intro i14 hi14 H locs ls hP hD hS hl
      have ez : k = i14 := by omega
      subst ez
      have hcs := sCnt_le G k
      refine lv_iload hx hb dX2_isSame_14 (lv_at hl 0 rfl) ?_
      refine lv_iload hx hb dX2_isSame_16 (lv_at hl 5 rfl) ?_
      refine lv_icmp_ge (tgt := 48) hx hb dX2_isSame_18 (by decide) (fun c_18 => ?_) (fun h9 => absurd (nI_le (Nat.le_refl _) (by omega)) h9)
      have c_18n := (nI_leI (a := k) (b := k) (by omega) (by omega)).mp c_18
      refine lv_aload_n hx hb dX2_isSame_48 rfl (lv_at hl 3 rfl) ?_
      refine wCVi (pre := ([] : va_W)) (Wc := XO x0 pa pb ++ (DC cI pa f r ++ DC cI pb f2 r2)) (suf := SC cI cR a ca ga n k f r ++ (CW cI ca n (r 5) ++ RW cI ga k 3 G)) (As := []) (rest := []) ⟨hx, hb, hml, hown, hts⟩ (mX1_guests l D cI x0 pa pb f f2 r r2 _) hN hA hK1 hS hP hD (by simp only [List.append_assoc, List.append_nil, List.nil_append]) 0 (r := (RX1, TX1, 2)) rfl rfl (cwV 0 hts gX2_isSame_X1_guests rfl rfl rfl (by decide +kernel) ⟨Nat.le_of_ble_eq_true rfl, Nat.le_of_ble_eq_true rfl⟩) rfl hl.1 rfl (Nat.le_of_ble_eq_true rfl) dX2_isSame_49 ⟨by show 0 ≤ 0; omega, by show 0 ≤ 0; omega⟩ (fun r_49 u_49 H locs hw hP hD hS => ?_)
      have hw : r_49 = f 0 := hw
      subst hw
      have hP : va_P D vwCl (XO x0 pa pb ++ (DC cI pa f r ++ (DC cI pb f2 r2 ++ (SC cI cR a ca ga n k f r ++ (CW cI ca n (r 5) ++ RW cI ga k 3 G))))) H := by simpa only [List.append_assoc, List.append_nil, List.nil_append] using hP
      have hD : va_D A (XO x0 pa pb ++ (DC cI pa f r ++ (DC cI pb f2 r2 ++ (SC cI cR a ca ga n k f r ++ (CW cI ca n (r 5) ++ RW cI ga k 3 G))))) := by simpa only [List.append_assoc, List.append_nil, List.nil_append] using hD
      refine lv_aload_n hx hb dX2_isSame_52 rfl (lv_at hl 2 rfl) ?_
      refine va_get (D := D) (ci := 2) (v := .int (f 0)) (C := RX2) (T := TX2) (N := 15) hx hb hw2 (fun _ h => h) hown hK hP 17 rfl rfl 0 (by decide) k22 (fun _ h9 => h9) rfl dX2_isSame_53 ?_
      refine lv_icmp_ne (tgt := 188) hx hb dX2_isSame_56 (by decide) (fun h9 => absurd (rfl) h9) (fun c_56 => ?_)
      refine lv_aload_n hx hb dX2_isSame_59 rfl (lv_at hl 3 rfl) ?_
      refine wCVi (pre := ([] : va_W)) (Wc := XO x0 pa pb ++ (DC cI pa f r ++ DC cI pb f2 r2)) (suf := SC cI cR a ca ga n k f r ++ (CW cI ca n (r 5) ++ RW cI ga k 3 G)) (As := []) (rest := []) ⟨hx, hb, hml, hown, hts⟩ (mX1_seconds l D cI x0 pa pb f f2 r r2 _) hN hA hK1 hS hP hD (by simp only [List.append_assoc, List.append_nil, List.nil_append]) 0 (r := (RX1, TX1, 2)) rfl rfl (cwV 0 hts gX2_isSame_X1_seconds rfl rfl rfl (by decide +kernel) ⟨Nat.le_of_ble_eq_true rfl, Nat.le_of_ble_eq_true rfl⟩) rfl hl.1 rfl (Nat.le_of_ble_eq_true rfl) dX2_isSame_60 ⟨by show 0 ≤ 0; omega, by show 0 ≤ 0; omega⟩ (fun r_60 u_60 H locs hw hP hD hS => ?_)
      have hw : r_60 = f 1 := hw
      subst hw
      have hP : va_P D vwCl (XO x0 pa pb ++ (DC cI pa f r ++ (DC cI pb f2 r2 ++ (SC cI cR a ca ga n k f r ++ (CW cI ca n (r 5) ++ RW cI ga k 3 G))))) H := by simpa only [List.append_assoc, List.append_nil, List.nil_append] using hP
      have hD : va_D A (XO x0 pa pb ++ (DC cI pa f r ++ (DC cI pb f2 r2 ++ (SC cI cR a ca ga n k f r ++ (CW cI ca n (r 5) ++ RW cI ga k 3 G))))) := by simpa only [List.append_assoc, List.append_nil, List.nil_append] using hD
      refine lv_aload_n hx hb dX2_isSame_63 rfl (lv_at hl 2 rfl) ?_
      refine va_get (D := D) (ci := 2) (v := .int (f 1)) (C := RX2) (T := TX2) (N := 15) hx hb hw2 (fun _ h => h) hown hK hP 17 rfl rfl 2 (by decide) k44 (fun _ h9 => h9) rfl dX2_isSame_64 ?_
      refine lv_icmp_ne (tgt := 188) hx hb dX2_isSame_67 (by decide) (fun h9 => absurd (rfl) h9) (fun c_67 => ?_)
      refine lv_aload_n hx hb dX2_isSame_70 rfl (lv_at hl 3 rfl) ?_
      refine wCVi (pre := ([] : va_W)) (Wc := XO x0 pa pb ++ (DC cI pa f r ++ DC cI pb f2 r2)) (suf := SC cI cR a ca ga n k f r ++ (CW cI ca n (r 5) ++ RW cI ga k 3 G)) (As := []) (rest := []) ⟨hx, hb, hml, hown, hts⟩ (mX1_limit l D cI x0 pa pb f f2 r r2 _) hN hA hK1 hS hP hD (by simp only [List.append_assoc, List.append_nil, List.nil_append]) 0 (r := (RX1, TX1, 2)) rfl rfl (cwV 0 hts gX2_isSame_X1_limit rfl rfl rfl (by decide +kernel) ⟨Nat.le_of_ble_eq_true rfl, Nat.le_of_ble_eq_true rfl⟩) rfl hl.1 rfl (Nat.le_of_ble_eq_true rfl) dX2_isSame_71 ⟨by show 0 ≤ 0; omega, by show 0 ≤ 0; omega⟩ (fun r_71 u_71 H locs hw hP hD hS => ?_)
      have hw : r_71 = f 2 := hw
      subst hw
      have hP : va_P D vwCl (XO x0 pa pb ++ (DC cI pa f r ++ (DC cI pb f2 r2 ++ (SC cI cR a ca ga n k f r ++ (CW cI ca n (r 5) ++ RW cI ga k 3 G))))) H := by simpa only [List.append_assoc, List.append_nil, List.nil_append] using hP
      have hD : va_D A (XO x0 pa pb ++ (DC cI pa f r ++ (DC cI pb f2 r2 ++ (SC cI cR a ca ga n k f r ++ (CW cI ca n (r 5) ++ RW cI ga k 3 G))))) := by simpa only [List.append_assoc, List.append_nil, List.nil_append] using hD
      refine lv_aload_n hx hb dX2_isSame_74 rfl (lv_at hl 2 rfl) ?_
      refine va_get (D := D) (ci := 2) (v := .int (f 2)) (C := RX2) (T := TX2) (N := 15) hx hb hw2 (fun _ h => h) hown hK hP 17 rfl rfl 1 (by decide) k7 (fun _ h9 => h9) rfl dX2_isSame_75 ?_
      refine lv_icmp_ne (tgt := 188) hx hb dX2_isSame_78 (by decide) (fun h9 => absurd (rfl) h9) (fun c_78 => ?_)
      refine lv_aload_n hx hb dX2_isSame_81 rfl (lv_at hl 3 rfl) ?_
      refine wCVi (pre := ([] : va_W)) (Wc := XO x0 pa pb ++ (DC cI pa f r ++ DC cI pb f2 r2)) (suf := SC cI cR a ca ga n k f r ++ (CW cI ca n (r 5) ++ RW cI ga k 3 G)) (As := []) (rest := []) ⟨hx, hb, hml, hown, hts⟩ (mX1_speaker l D cI x0 pa pb f f2 r r2 _) hN hA hK1 hS hP hD (by simp only [List.append_assoc, List.append_nil, List.nil_append]) 0 (r := (RX1, TX1, 2)) rfl rfl (cwV 0 hts gX2_isSame_X1_speaker rfl rfl rfl (by decide +kernel) ⟨Nat.le_of_ble_eq_true rfl, Nat.le_of_ble_eq_true rfl⟩) rfl hl.1 rfl (Nat.le_of_ble_eq_true rfl) dX2_isSame_82 ⟨by show 0 ≤ 0; omega, by show 0 ≤ 0; omega⟩ (fun r_82 u_82 H locs hw hP hD hS => ?_)
      have hw : r_82 = f 3 := hw
      subst hw
      have hP : va_P D vwCl (XO x0 pa pb ++ (DC cI pa f r ++ (DC cI pb f2 r2 ++ (SC cI cR a ca ga n k f r ++ (CW cI ca n (r 5) ++ RW cI ga k 3 G))))) H := by simpa only [List.append_assoc, List.append_nil, List.nil_append] using hP
      have hD : va_D A (XO x0 pa pb ++ (DC cI pa f r ++ (DC cI pb f2 r2 ++ (SC cI cR a ca ga n k f r ++ (CW cI ca n (r 5) ++ RW cI ga k 3 G))))) := by simpa only [List.append_assoc, List.append_nil, List.nil_append] using hD
      refine lv_aload_n hx hb dX2_isSame_85 rfl (lv_at hl 2 rfl) ?_
      refine va_get (D := D) (ci := 2) (v := .int (f 3)) (C := RX2) (T := TX2) (N := 15) hx hb hw2 (fun _ h => h) hown hK hP 17 rfl rfl 3 (by decide) k13 (fun _ h9 => h9) rfl dX2_isSame_86 ?_
      refine lv_icmp_ne (tgt := 188) hx hb dX2_isSame_89 (by decide) (fun h9 => absurd (rfl) h9) (fun c_89 => ?_)
      refine lv_aload_n hx hb dX2_isSame_92 rfl (lv_at hl 3 rfl) ?_
      refine wCVi (pre := ([] : va_W)) (Wc := XO x0 pa pb ++ (DC cI pa f r ++ DC cI pb f2 r2)) (suf := SC cI cR a ca ga n k f r ++ (CW cI ca n (r 5) ++ RW cI ga k 3 G)) (As := []) (rest := []) ⟨hx, hb, hml, hown, hts⟩ (mX1_secondsToSpeak l D cI x0 pa pb f f2 r r2 _) hN hA hK1 hS hP hD (by simp only [List.append_assoc, List.append_nil, List.nil_append]) 0 (r := (RX1, TX1, 2)) rfl rfl (cwV 0 hts gX2_isSame_X1_secondsToSpeak rfl rfl rfl (by decide +kernel) ⟨Nat.le_of_ble_eq_true rfl, Nat.le_of_ble_eq_true rfl⟩) rfl hl.1 rfl (Nat.le_of_ble_eq_true rfl) dX2_isSame_93 ⟨by show 0 ≤ 0; omega, by show 0 ≤ 0; omega⟩ (fun r_93 u_93 H locs hw hP hD hS => ?_)
      have hw : r_93 = f 4 := hw
      subst hw
      have hP : va_P D vwCl (XO x0 pa pb ++ (DC cI pa f r ++ (DC cI pb f2 r2 ++ (SC cI cR a ca ga n k f r ++ (CW cI ca n (r 5) ++ RW cI ga k 3 G))))) H := by simpa only [List.append_assoc, List.append_nil, List.nil_append] using hP
      have hD : va_D A (XO x0 pa pb ++ (DC cI pa f r ++ (DC cI pb f2 r2 ++ (SC cI cR a ca ga n k f r ++ (CW cI ca n (r 5) ++ RW cI ga k 3 G))))) := by simpa only [List.append_assoc, List.append_nil, List.nil_append] using hD
      refine lv_aload_n hx hb dX2_isSame_96 rfl (lv_at hl 2 rfl) ?_
      refine va_get (D := D) (ci := 2) (v := .int (f 3)) (C := RX2) (T := TX2) (N := 15) hx hb hw2 (fun _ h => h) hown hK hP 17 rfl rfl 3 (by decide) k13 (fun _ h9 => h9) rfl dX2_isSame_97 ?_
      refine lv_if_ge (tgt := 107) hx hb dX2_isSame_100 (by decide) (fun c_100 => ?_) (fun c_100 => ?_)
      · refine lv_aload_n hx hb dX2_isSame_107 rfl (lv_at hl 2 rfl) ?_
        refine va_get (D := D) (ci := 2) (v := .int (f 4)) (C := RX2) (T := TX2) (N := 15) hx hb hw2 (fun _ h => h) hown hK hP 17 rfl rfl 4 (by decide) k47 (fun _ h9 => h9) rfl dX2_isSame_108 ?_
        refine lv_icmp_ne (tgt := 188) hx hb dX2_isSame_111 (by decide) (fun h9 => absurd (rfl) h9) (fun c_111 => ?_)
        refine lv_aload_n hx hb dX2_isSame_114 rfl (lv_at hl 3 rfl) ?_
        refine wCVi (pre := ([] : va_W)) (Wc := XO x0 pa pb ++ (DC cI pa f r ++ DC cI pb f2 r2)) (suf := SC cI cR a ca ga n k f r ++ (CW cI ca n (r 5) ++ RW cI ga k 3 G)) (As := []) (rest := []) ⟨hx, hb, hml, hown, hts⟩ (mX1_pause l D cI x0 pa pb f f2 r r2 _) hN hA hK1 hS hP hD (by simp only [List.append_assoc, List.append_nil, List.nil_append]) 0 (r := (RX1, TX1, 2)) rfl rfl (cwV 0 hts gX2_isSame_X1_pause rfl rfl rfl (by decide +kernel) ⟨Nat.le_of_ble_eq_true rfl, Nat.le_of_ble_eq_true rfl⟩) rfl hl.1 rfl (Nat.le_of_ble_eq_true rfl) dX2_isSame_115 ⟨by show 0 ≤ 0; omega, by show 0 ≤ 0; omega⟩ (fun r_115 u_115 H locs hw hP hD hS => ?_)
        have hw : r_115 = f 5 := hw
        subst hw
        have hP : va_P D vwCl (XO x0 pa pb ++ (DC cI pa f r ++ (DC cI pb f2 r2 ++ (SC cI cR a ca ga n k f r ++ (CW cI ca n (r 5) ++ RW cI ga k 3 G))))) H := by simpa only [List.append_assoc, List.append_nil, List.nil_append] using hP
        have hD : va_D A (XO x0 pa pb ++ (DC cI pa f r ++ (DC cI pb f2 r2 ++ (SC cI cR a ca ga n k f r ++ (CW cI ca n (r 5) ++ RW cI ga k 3 G))))) := by simpa only [List.append_assoc, List.append_nil, List.nil_append] using hD
        refine lv_aload_n hx hb dX2_isSame_118 rfl (lv_at hl 2 rfl) ?_
        refine va_get (D := D) (ci := 2) (v := .int (f 5)) (C := RX2) (T := TX2) (N := 15) hx hb hw2 (fun _ h => h) hown hK hP 17 rfl rfl 5 (by decide) k50 (fun _ h9 => h9) rfl dX2_isSame_119 ?_
        refine lv_icmp_ne (tgt := 188) hx hb dX2_isSame_122 (by decide) (fun h9 => absurd (rfl) h9) (fun c_122 => ?_)
        refine lv_aload_n hx hb dX2_isSame_125 rfl (lv_at hl 3 rfl) ?_
        refine wCVi (pre := ([] : va_W)) (Wc := XO x0 pa pb ++ (DC cI pa f r ++ DC cI pb f2 r2)) (suf := SC cI cR a ca ga n k f r ++ (CW cI ca n (r 5) ++ RW cI ga k 3 G)) (As := []) (rest := []) ⟨hx, hb, hml, hown, hts⟩ (mX1_unsaidInPauses l D cI x0 pa pb f f2 r r2 _) hN hA hK1 hS hP hD (by simp only [List.append_assoc, List.append_nil, List.nil_append]) 0 (r := (RX1, TX1, 2)) rfl rfl (cwV 0 hts gX2_isSame_X1_unsaidInPauses rfl rfl rfl (by decide +kernel) ⟨Nat.le_of_ble_eq_true rfl, Nat.le_of_ble_eq_true rfl⟩) rfl hl.1 rfl (Nat.le_of_ble_eq_true rfl) dX2_isSame_126 ⟨by show 0 ≤ 0; omega, by show 0 ≤ 0; omega⟩ (fun r_126 u_126 H locs hw hP hD hS => ?_)
        have hw : r_126 = f 6 := hw
        subst hw
        have hP : va_P D vwCl (XO x0 pa pb ++ (DC cI pa f r ++ (DC cI pb f2 r2 ++ (SC cI cR a ca ga n k f r ++ (CW cI ca n (r 5) ++ RW cI ga k 3 G))))) H := by simpa only [List.append_assoc, List.append_nil, List.nil_append] using hP
        have hD : va_D A (XO x0 pa pb ++ (DC cI pa f r ++ (DC cI pb f2 r2 ++ (SC cI cR a ca ga n k f r ++ (CW cI ca n (r 5) ++ RW cI ga k 3 G))))) := by simpa only [List.append_assoc, List.append_nil, List.nil_append] using hD
        refine lv_aload_n hx hb dX2_isSame_129 rfl (lv_at hl 2 rfl) ?_
        refine va_get (D := D) (ci := 2) (v := .int (f 6)) (C := RX2) (T := TX2) (N := 15) hx hb hw2 (fun _ h => h) hown hK hP 17 rfl rfl 6 (by decide) k53 (fun _ h9 => h9) rfl dX2_isSame_130 ?_
        refine lv_icmp_ne (tgt := 188) hx hb dX2_isSame_133 (by decide) (fun h9 => absurd (rfl) h9) (fun c_133 => ?_)
        refine lv_aload_n hx hb dX2_isSame_136 rfl (lv_at hl 3 rfl) ?_
        refine wCVi (pre := ([] : va_W)) (Wc := XO x0 pa pb ++ (DC cI pa f r ++ DC cI pb f2 r2)) (suf := SC cI cR a ca ga n k f r ++ (CW cI ca n (r 5) ++ RW cI ga k 3 G)) (As := []) (rest := []) ⟨hx, hb, hml, hown, hts⟩ (mX1_allUnsaid l D cI x0 pa pb f f2 r r2 n _ hg hn1 (by omega)) hN hA hK1 hS hP hD (by simp only [List.append_assoc, List.append_nil, List.nil_append]) 0 (r := (RX1, TX1, 2)) rfl rfl (cwV 0 hts gX2_isSame_X1_allUnsaid rfl rfl rfl (by decide +kernel) ⟨Nat.le_of_ble_eq_true rfl, Nat.le_of_ble_eq_true rfl⟩) rfl hl.1 rfl (Nat.le_of_ble_eq_true rfl) dX2_isSame_137 ⟨by show 0 ≤ 0; omega, by show 0 ≤ 0; omega⟩ (fun r_137 u_137 H locs hw hP hD hS => ?_)
        have hw : r_137 = dSum (r 3) n + f 6 := hw
        subst hw
        have hP : va_P D vwCl (XO x0 pa pb ++ (DC cI pa f r ++ (DC cI pb f2 r2 ++ (SC cI cR a ca ga n k f r ++ (CW cI ca n (r 5) ++ RW cI ga k 3 G))))) H := by simpa only [List.append_assoc, List.append_nil, List.nil_append] using hP
        have hD : va_D A (XO x0 pa pb ++ (DC cI pa f r ++ (DC cI pb f2 r2 ++ (SC cI cR a ca ga n k f r ++ (CW cI ca n (r 5) ++ RW cI ga k 3 G))))) := by simpa only [List.append_assoc, List.append_nil, List.nil_append] using hD
        refine lv_aload_n hx hb dX2_isSame_140 rfl (lv_at hl 2 rfl) ?_
        refine wCVi (pre := XO x0 pa pb ++ (DC cI pa f r ++ DC cI pb f2 r2)) (Wc := SC cI cR a ca ga n k f r ++ (CW cI ca n (r 5) ++ RW cI ga k 3 G)) (suf := ([] : va_W)) (As := []) (rest := [.int (dSum (r 3) n + f 6)]) ⟨hx, hb, hml, hown, hts⟩ (mX2_all l D cI cR a ca ga n k f r G _ hg hn0 hn1 hk) hN hA hK hS hP hD (by simp only [List.append_assoc, List.append_nil, List.nil_append]) 0 (r := (RX2, TX2, 15)) rfl rfl (cwV 0 hts gX2_isSame_X2_all rfl rfl rfl (by decide +kernel) ⟨Nat.le_of_ble_eq_true rfl, Nat.le_of_ble_eq_true rfl⟩) rfl hl.1 rfl (Nat.le_of_ble_eq_true rfl) dX2_isSame_141 ⟨by show 0 ≤ 0; omega, by show 0 ≤ 0; omega⟩ (fun r_141 u_141 H locs hw hP hD hS => ?_)
        have hw : r_141 = dSum (r 3) n + (f 6) := hw
        subst hw
        have hP : va_P D vwCl (XO x0 pa pb ++ (DC cI pa f r ++ (DC cI pb f2 r2 ++ (SC cI cR a ca ga n k f r ++ (CW cI ca n (r 5) ++ RW cI ga k 3 G))))) H := by simpa only [List.append_assoc, List.append_nil, List.nil_append] using hP
        have hD : va_D A (XO x0 pa pb ++ (DC cI pa f r ++ (DC cI pb f2 r2 ++ (SC cI cR a ca ga n k f r ++ (CW cI ca n (r 5) ++ RW cI ga k 3 G))))) := by simpa only [List.append_assoc, List.append_nil, List.nil_append] using hD
        refine lv_icmp_ne (tgt := 188) hx hb dX2_isSame_144 (by decide) (fun h9 => absurd (rfl) h9) (fun c_144 => ?_)
        refine lv_aload_n hx hb dX2_isSame_147 rfl (lv_at hl 3 rfl) ?_
        refine wCVi (pre := ([] : va_W)) (Wc := XO x0 pa pb ++ (DC cI pa f r ++ DC cI pb f2 r2)) (suf := SC cI cR a ca ga n k f r ++ (CW cI ca n (r 5) ++ RW cI ga k 3 G)) (As := []) (rest := []) ⟨hx, hb, hml, hown, hts⟩ (mX1_glancesUnderWay l D cI x0 pa pb f f2 r r2 _) hN hA hK1 hS hP hD (by simp only [List.append_assoc, List.append_nil, List.nil_append]) 0 (r := (RX1, TX1, 2)) rfl rfl (cwV 0 hts gX2_isSame_X1_glancesUnderWay rfl rfl rfl (by decide +kernel) ⟨Nat.le_of_ble_eq_true rfl, Nat.le_of_ble_eq_true rfl⟩) rfl hl.1 rfl (Nat.le_of_ble_eq_true rfl) dX2_isSame_148 ⟨by show 0 ≤ 0; omega, by show 0 ≤ 0; omega⟩ (fun r_148 u_148 H locs hw hP hD hS => ?_)
        have hw : r_148 = f 9 := hw
        subst hw
        have hP : va_P D vwCl (XO x0 pa pb ++ (DC cI pa f r ++ (DC cI pb f2 r2 ++ (SC cI cR a ca ga n k f r ++ (CW cI ca n (r 5) ++ RW cI ga k 3 G))))) H := by simpa only [List.append_assoc, List.append_nil, List.nil_append] using hP
        have hD : va_D A (XO x0 pa pb ++ (DC cI pa f r ++ (DC cI pb f2 r2 ++ (SC cI cR a ca ga n k f r ++ (CW cI ca n (r 5) ++ RW cI ga k 3 G))))) := by simpa only [List.append_assoc, List.append_nil, List.nil_append] using hD
        refine lv_iload_n hx hb dX2_isSame_151 rfl (lv_at hl 1 rfl) ?_
        refine lv_icmp_ne (tgt := 188) hx hb dX2_isSame_152 (by decide) (fun h9 => absurd (hsent) h9) (fun c_152 => ?_)
        refine lv_aload_n hx hb dX2_isSame_155 rfl (lv_at hl 3 rfl) ?_
        refine wCVi (pre := ([] : va_W)) (Wc := XO x0 pa pb ++ (DC cI pa f r ++ DC cI pb f2 r2)) (suf := SC cI cR a ca ga n k f r ++ (CW cI ca n (r 5) ++ RW cI ga k 3 G)) (As := []) (rest := []) ⟨hx, hb, hml, hown, hts⟩ (mX1_meetings l D cI x0 pa pb f f2 r r2 _) hN hA hK1 hS hP hD (by simp only [List.append_assoc, List.append_nil, List.nil_append]) 0 (r := (RX1, TX1, 2)) rfl rfl (cwV 0 hts gX2_isSame_X1_meetings rfl rfl rfl (by decide +kernel) ⟨Nat.le_of_ble_eq_true rfl, Nat.le_of_ble_eq_true rfl⟩) rfl hl.1 rfl (Nat.le_of_ble_eq_true rfl) dX2_isSame_156 ⟨by show 0 ≤ 0; omega, by show 0 ≤ 0; omega⟩ (fun r_156 u_156 H locs hw hP hD hS => ?_)
        have hw : r_156 = f 7 := hw
        subst hw
        have hP : va_P D vwCl (XO x0 pa pb ++ (DC cI pa f r ++ (DC cI pb f2 r2 ++ (SC cI cR a ca ga n k f r ++ (CW cI ca n (r 5) ++ RW cI ga k 3 G))))) H := by simpa only [List.append_assoc, List.append_nil, List.nil_append] using hP
        have hD : va_D A (XO x0 pa pb ++ (DC cI pa f r ++ (DC cI pb f2 r2 ++ (SC cI cR a ca ga n k f r ++ (CW cI ca n (r 5) ++ RW cI ga k 3 G))))) := by simpa only [List.append_assoc, List.append_nil, List.nil_append] using hD
        refine lv_aload_n hx hb dX2_isSame_159 rfl (lv_at hl 2 rfl) ?_
        refine va_get (D := D) (ci := 2) (v := .int (f 7)) (C := RX2) (T := TX2) (N := 15) hx hb hw2 (fun _ h => h) hown hK hP 17 rfl rfl 7 (by decide) k56 (fun _ h9 => h9) rfl dX2_isSame_160 ?_
        refine lv_icmp_ne (tgt := 188) hx hb dX2_isSame_163 (by decide) (fun h9 => absurd (rfl) h9) (fun c_163 => ?_)
        refine lv_aload_n hx hb dX2_isSame_166 rfl (lv_at hl 3 rfl) ?_
        refine wCVi (pre := ([] : va_W)) (Wc := XO x0 pa pb ++ (DC cI pa f r ++ DC cI pb f2 r2)) (suf := SC cI cR a ca ga n k f r ++ (CW cI ca n (r 5) ++ RW cI ga k 3 G)) (As := []) (rest := []) ⟨hx, hb, hml, hown, hts⟩ (mX1_lostGlances l D cI x0 pa pb f f2 r r2 _) hN hA hK1 hS hP hD (by simp only [List.append_assoc, List.append_nil, List.nil_append]) 0 (r := (RX1, TX1, 2)) rfl rfl (cwV 0 hts gX2_isSame_X1_lostGlances rfl rfl rfl (by decide +kernel) ⟨Nat.le_of_ble_eq_true rfl, Nat.le_of_ble_eq_true rfl⟩) rfl hl.1 rfl (Nat.le_of_ble_eq_true rfl) dX2_isSame_167 ⟨by show 0 ≤ 0; omega, by show 0 ≤ 0; omega⟩ (fun r_167 u_167 H locs hw hP hD hS => ?_)
        have hw : r_167 = f 8 := hw
        subst hw
        have hP : va_P D vwCl (XO x0 pa pb ++ (DC cI pa f r ++ (DC cI pb f2 r2 ++ (SC cI cR a ca ga n k f r ++ (CW cI ca n (r 5) ++ RW cI ga k 3 G))))) H := by simpa only [List.append_assoc, List.append_nil, List.nil_append] using hP
        have hD : va_D A (XO x0 pa pb ++ (DC cI pa f r ++ (DC cI pb f2 r2 ++ (SC cI cR a ca ga n k f r ++ (CW cI ca n (r 5) ++ RW cI ga k 3 G))))) := by simpa only [List.append_assoc, List.append_nil, List.nil_append] using hD
        refine lv_aload_n hx hb dX2_isSame_170 rfl (lv_at hl 2 rfl) ?_
        refine va_get (D := D) (ci := 2) (v := .int (f 8)) (C := RX2) (T := TX2) (N := 15) hx hb hw2 (fun _ h => h) hown hK hP 17 rfl rfl 8 (by decide) k59 (fun _ h9 => h9) rfl dX2_isSame_171 ?_
        refine lv_icmp_ne (tgt := 188) hx hb dX2_isSame_174 (by decide) (fun h9 => absurd (rfl) h9) (fun c_174 => ?_)
        refine lv_aload_n hx hb dX2_isSame_177 rfl (lv_at hl 3 rfl) ?_
        refine wCVi (pre := ([] : va_W)) (Wc := XO x0 pa pb ++ (DC cI pa f r ++ DC cI pb f2 r2)) (suf := SC cI cR a ca ga n k f r ++ (CW cI ca n (r 5) ++ RW cI ga k 3 G)) (As := []) (rest := []) ⟨hx, hb, hml, hown, hts⟩ (mX1_rating l D cI x0 pa pb f f2 r r2 n _ hg hn1 (by omega)) hN hA hK1 hS hP hD (by simp only [List.append_assoc, List.append_nil, List.nil_append]) 0 (r := (RX1, TX1, 2)) rfl rfl (cwV 0 hts gX2_isSame_X1_rating rfl rfl rfl (by decide +kernel) ⟨Nat.le_of_ble_eq_true rfl, Nat.le_of_ble_eq_true rfl⟩) rfl hl.1 rfl (Nat.le_of_ble_eq_true rfl) dX2_isSame_178 ⟨by show 0 ≤ 0; omega, by show 0 ≤ 0; omega⟩ (fun r_178 u_178 H locs hw hP hD hS => ?_)
        have hw : r_178 = dRate (f 0) (f 6) (r 3) n := hw
        subst hw
        have hP : va_P D vwCl (XO x0 pa pb ++ (DC cI pa f r ++ (DC cI pb f2 r2 ++ (SC cI cR a ca ga n k f r ++ (CW cI ca n (r 5) ++ RW cI ga k 3 G))))) H := by simpa only [List.append_assoc, List.append_nil, List.nil_append] using hP
        have hD : va_D A (XO x0 pa pb ++ (DC cI pa f r ++ (DC cI pb f2 r2 ++ (SC cI cR a ca ga n k f r ++ (CW cI ca n (r 5) ++ RW cI ga k 3 G))))) := by simpa only [List.append_assoc, List.append_nil, List.nil_append] using hD
        refine lv_aload_n hx hb dX2_isSame_181 rfl (lv_at hl 2 rfl) ?_
        refine wCVi (pre := XO x0 pa pb ++ (DC cI pa f r ++ DC cI pb f2 r2)) (Wc := SC cI cR a ca ga n k f r ++ (CW cI ca n (r 5) ++ RW cI ga k 3 G)) (suf := ([] : va_W)) (As := []) (rest := [.int (dRate (f 0) (f 6) (r 3) n)]) ⟨hx, hb, hml, hown, hts⟩ (mX2_rated l D cI cR a ca ga n k f r G _ hg hn0 hn1 hk) hN hA hK hS hP hD (by simp only [List.append_assoc, List.append_nil, List.nil_append]) 0 (r := (RX2, TX2, 15)) rfl rfl (cwV 0 hts gX2_isSame_X2_rated rfl rfl rfl (by decide +kernel) ⟨Nat.le_of_ble_eq_true rfl, Nat.le_of_ble_eq_true rfl⟩) rfl hl.1 rfl (Nat.le_of_ble_eq_true rfl) dX2_isSame_182 ⟨by show 0 ≤ 0; omega, by show 0 ≤ 0; omega⟩ (fun r_182 u_182 H locs hw hP hD hS => ?_)
        have hw : r_182 = sRated ((dSum (r 3) n + (f 6)) / (f 0)) := hw
        subst hw
        have hP : va_P D vwCl (XO x0 pa pb ++ (DC cI pa f r ++ (DC cI pb f2 r2 ++ (SC cI cR a ca ga n k f r ++ (CW cI ca n (r 5) ++ RW cI ga k 3 G))))) H := by simpa only [List.append_assoc, List.append_nil, List.nil_append] using hP
        have hD : va_D A (XO x0 pa pb ++ (DC cI pa f r ++ (DC cI pb f2 r2 ++ (SC cI cR a ca ga n k f r ++ (CW cI ca n (r 5) ++ RW cI ga k 3 G))))) := by simpa only [List.append_assoc, List.append_nil, List.nil_append] using hD
        refine lv_icmp_eq (tgt := 190) hx hb dX2_isSame_185 (by decide) (fun c_185 => ?_) (fun h9 => absurd (hrt) h9)
        refine lv_iconst (v := 0) hx hb dX2_isSame_190 (by decide) ?_
        refine lv_istore_n (lv' := [(3, .int 0), (5, .int (nI k)), (2, .int (nI (sCnt G k))), (0, .ref (a 0)), (1, .ref x0), (4, .int (nI k))]) hx hb dX2_isSame_191 rfl hl (by decide) rfl (fun ls hl => ?_)
        refine lv_iconst (v := 0) hx hb dX2_isSame_192 (by decide) ?_
        refine lv_istore (lv' := [(4, .int 0), (3, .int 0), (5, .int (nI k)), (2, .int (nI (sCnt G k))), (0, .ref (a 0)), (1, .ref x0)]) hx hb dX2_isSame_193 hl (by decide) rfl (fun ls hl => ?_)
        have loop195 : ∀ (j i195 : Nat), i195 + j = n → ∀ (H : Heap) (locs : List Loc) (ls : Array Slot), va_P D vwCl (XO x0 pa pb ++ (DC cI pa f r ++ (DC cI pb f2 r2 ++ (SC cI cR a ca ga n k f r ++ (CW cI ca n (r 5) ++ RW cI ga k 3 G))))) H → va_D A (XO x0 pa pb ++ (DC cI pa f r ++ (DC cI pb f2 r2 ++ (SC cI cR a ca ga n k f r ++ (CW cI ca n (r 5) ++ RW cI ga k 3 G))))) → va_S A s.heap H locs → lv_has ls 7 [(4, .int (nI i195)), (3, .int (nI (dQuiet (r 3) (i195 - 1)))), (0, .ref (a 0)), (1, .ref x0)] → W p l e rmX2_isSame s m args below meth c H locs 0 0 Q (F0 m 195 ls []) := by
          intro j
          induction j with
          | zero =>
            intro i195 hi195 H locs ls hP hD hS hl
            have ez : n = i195 := by omega
            subst ez
            have hq9 := dQuiet_le (r 3) (n - 1)
            refine lv_iload hx hb dX2_isSame_195 (lv_at hl 0 rfl) ?_
            refine lv_aload_n hx hb dX2_isSame_197 rfl (lv_at hl 2 rfl) ?_
            refine va_get (D := D) (ci := 2) (v := .int (f 0)) (C := RX2) (T := TX2) (N := 15) hx hb hw2 (fun _ h => h) hown hK hP 17 rfl rfl 0 (by decide) k22 (fun _ h9 => h9) rfl dX2_isSame_198 ?_
            refine lv_icmp_ge (tgt := 396) hx hb dX2_isSame_201 (by decide) (fun c_201 => ?_) (fun h9 => absurd (by rw [hg]; exact nI_le (Nat.le_refl _) (by omega)) h9)
            refine lv_aload_n hx hb dX2_isSame_396 rfl (lv_at hl 3 rfl) ?_
            refine wCVi (pre := ([] : va_W)) (Wc := XO x0 pa pb ++ (DC cI pa f r ++ DC cI pb f2 r2)) (suf := SC cI cR a ca ga n k f r ++ (CW cI ca n (r 5) ++ RW cI ga k 3 G)) (As := []) (rest := []) ⟨hx, hb, hml, hown, hts⟩ (mX1_quietest l D cI x0 pa pb f f2 r r2 n _ hg hn1 (by omega)) hN hA hK1 hS hP hD (by simp only [List.append_assoc, List.append_nil, List.nil_append]) 0 (r := (RX1, TX1, 2)) rfl rfl (cwV 0 hts gX2_isSame_X1_quietest rfl rfl rfl (by decide +kernel) ⟨Nat.le_of_ble_eq_true rfl, Nat.le_of_ble_eq_true rfl⟩) rfl hl.1 rfl (Nat.le_of_ble_eq_true rfl) dX2_isSame_397 ⟨by show 0 ≤ 0; omega, by show 0 ≤ 0; omega⟩ (fun r_397 u_397 H locs hw hP hD hS => ?_)
            have hw : r_397 = nI (dQuiet (r 3) (n - 1)) := hw
            subst hw
            have hP : va_P D vwCl (XO x0 pa pb ++ (DC cI pa f r ++ (DC cI pb f2 r2 ++ (SC cI cR a ca ga n k f r ++ (CW cI ca n (r 5) ++ RW cI ga k 3 G))))) H := by simpa only [List.append_assoc, List.append_nil, List.nil_append] using hP
            have hD : va_D A (XO x0 pa pb ++ (DC cI pa f r ++ (DC cI pb f2 r2 ++ (SC cI cR a ca ga n k f r ++ (CW cI ca n (r 5) ++ RW cI ga k 3 G))))) := by simpa only [List.append_assoc, List.append_nil, List.nil_append] using hD
            refine lv_iload_n hx hb dX2_isSame_400 rfl (lv_at hl 1 rfl) ?_
            refine lv_icmp_ne (tgt := 432) hx hb dX2_isSame_401 (by decide) (fun h9 => absurd (rfl) h9) (fun c_401 => ?_)
            have c_401n := (nI_eq (a := (dQuiet (r 3) (n - 1))) (b := (dQuiet (r 3) (n - 1))) (by omega) (by omega)).mp c_401
            refine lv_aload_n hx hb dX2_isSame_404 rfl (lv_at hl 3 rfl) ?_
            refine wCVd (pre := ([] : va_W)) (Wc := XO x0 pa pb ++ (DC cI pa f r ++ DC cI pb f2 r2)) (suf := SC cI cR a ca ga n k f r ++ (CW cI ca n (r 5) ++ RW cI ga k 3 G)) (As := []) (rest := []) ⟨hx, hb, hml, hown, hts⟩ (mX1_meanUnsaid l D cI x0 pa pb f f2 r r2 n _ hg hn1 (by omega) hnn) hN hA hK1 hS hP hD (by simp only [List.append_assoc, List.append_nil, List.nil_append]) 0 (r := (RX1, TX1, 2)) rfl rfl (cwV 0 hts gX2_isSame_X1_meanUnsaid rfl rfl rfl (by decide +kernel) ⟨Nat.le_of_ble_eq_true rfl, Nat.le_of_ble_eq_true rfl⟩) rfl hl.1 rfl (Nat.le_of_ble_eq_true rfl) dX2_isSame_405 ⟨by show 0 ≤ 0; omega, by show 0 ≤ 0; omega⟩ (fun r_405 u_405 H locs hw hP hD hS => ?_)
            have hw : r_405 = FP.ddiv (FP.i2d (dSum (r 3) n)) (FP.i2d (f 0)) := hw
            subst hw
            have hP : va_P D vwCl (XO x0 pa pb ++ (DC cI pa f r ++ (DC cI pb f2 r2 ++ (SC cI cR a ca ga n k f r ++ (CW cI ca n (r 5) ++ RW cI ga k 3 G))))) H := by simpa only [List.append_assoc, List.append_nil, List.nil_append] using hP
            have hD : va_D A (XO x0 pa pb ++ (DC cI pa f r ++ (DC cI pb f2 r2 ++ (SC cI cR a ca ga n k f r ++ (CW cI ca n (r 5) ++ RW cI ga k 3 G))))) := by simpa only [List.append_assoc, List.append_nil, List.nil_append] using hD
            refine lv_aload_n hx hb dX2_isSame_408 rfl (lv_at hl 2 rfl) ?_
            refine wCVi (pre := XO x0 pa pb ++ (DC cI pa f r ++ DC cI pb f2 r2)) (Wc := SC cI cR a ca ga n k f r ++ (CW cI ca n (r 5) ++ RW cI ga k 3 G)) (suf := ([] : va_W)) (As := []) (rest := [.double (FP.ddiv (FP.i2d (dSum (r 3) n)) (FP.i2d (f 0)))]) ⟨hx, hb, hml, hown, hts⟩ (mX2_all l D cI cR a ca ga n k f r G _ hg hn0 hn1 hk) hN hA hK hS hP hD (by simp only [List.append_assoc, List.append_nil, List.nil_append]) 0 (r := (RX2, TX2, 15)) rfl rfl (cwV 0 hts gX2_isSame_X2_all rfl rfl rfl (by decide +kernel) ⟨Nat.le_of_ble_eq_true rfl, Nat.le_of_ble_eq_true rfl⟩) rfl hl.1 rfl (Nat.le_of_ble_eq_true rfl) dX2_isSame_409 ⟨by show 0 ≤ 0; omega, by show 0 ≤ 0; omega⟩ (fun r_409 u_409 H locs hw hP hD hS => ?_)
            have hw : r_409 = dSum (r 3) n + (f 6) := hw
            subst hw
            have hP : va_P D vwCl (XO x0 pa pb ++ (DC cI pa f r ++ (DC cI pb f2 r2 ++ (SC cI cR a ca ga n k f r ++ (CW cI ca n (r 5) ++ RW cI ga k 3 G))))) H := by simpa only [List.append_assoc, List.append_nil, List.nil_append] using hP
            have hD : va_D A (XO x0 pa pb ++ (DC cI pa f r ++ (DC cI pb f2 r2 ++ (SC cI cR a ca ga n k f r ++ (CW cI ca n (r 5) ++ RW cI ga k 3 G))))) := by simpa only [List.append_assoc, List.append_nil, List.nil_append] using hD
            refine lv_aload_n hx hb dX2_isSame_412 rfl (lv_at hl 2 rfl) ?_
            refine va_get (D := D) (ci := 2) (v := .int (f 6)) (C := RX2) (T := TX2) (N := 15) hx hb hw2 (fun _ h => h) hown hK hP 17 rfl rfl 6 (by decide) k53 (fun _ h9 => h9) rfl dX2_isSame_413 ?_
            refine lv_isub hx hb dX2_isSame_416 ?_
            refine wTop (z := dSum (r 3) n) (Int32.add_sub_cancel _ _) ?_
            refine lv_i2d hx hb dX2_isSame_417 ?_
            refine lv_aload_n hx hb dX2_isSame_418 rfl (lv_at hl 2 rfl) ?_
            refine va_get (D := D) (ci := 2) (v := .int (f 0)) (C := RX2) (T := TX2) (N := 15) hx hb hw2 (fun _ h => h) hown hK hP 17 rfl rfl 0 (by decide) k22 (fun _ h9 => h9) rfl dX2_isSame_419 ?_
            refine lv_i2d hx hb dX2_isSame_422 ?_
            refine lv_ddiv hx hb dX2_isSame_423 (hnn) ?_
            refine lv_dcmp hx hb dX2_isSame_424 ?_
            refine lv_if_ne (tgt := 432) hx hb dX2_isSame_425 (by decide) (fun h9 => absurd (dcmp_self' hnn) h9) (fun c_425 => ?_)
            refine lv_iconst (v := 1) hx hb dX2_isSame_428 (by decide) ?_
            refine lv_goto (tgt := 433) hx hb dX2_isSame_429 (by decide) ?_
            exact wRz hQ hx hb hr hlocks hP hD hS dX2_isSame_433 (rfl) () (rfl) rfl
          | succ j ih195 =>
            intro i195 hi195 H locs ls hP hD hS hl
            have hq9 := dQuiet_le (r 3) (i195 - 1)
            refine lv_iload hx hb dX2_isSame_195 (lv_at hl 0 rfl) ?_
            refine lv_aload_n hx hb dX2_isSame_197 rfl (lv_at hl 2 rfl) ?_
            refine va_get (D := D) (ci := 2) (v := .int (f 0)) (C := RX2) (T := TX2) (N := 15) hx hb hw2 (fun _ h => h) hown hK hP 17 rfl rfl 0 (by decide) k22 (fun _ h9 => h9) rfl dX2_isSame_198 ?_
            refine lv_icmp_ge (tgt := 396) hx hb dX2_isSame_201 (by decide) (fun h9 => absurd h9 (by rw [hg]; exact nI_ge (by omega) (by omega))) (fun c_201 => ?_)
            refine lv_aload_n hx hb dX2_isSame_204 rfl (lv_at hl 3 rfl) ?_
            refine lv_iload hx hb dX2_isSame_205 (lv_at hl 0 rfl) ?_
            refine wCVi (pre := ([] : va_W)) (Wc := XO x0 pa pb ++ (DC cI pa f r ++ DC cI pb f2 r2)) (suf := SC cI cR a ca ga n k f r ++ (CW cI ca n (r 5) ++ RW cI ga k 3 G)) (As := [.int (nI i195)]) (rest := []) ⟨hx, hb, hml, hown, hts⟩ (mX1_spokenBy l D cI x0 pa pb f f2 r r2 n i195 _ hg hn1 (by omega) (by omega)) hN hA hK1 hS hP hD (by simp only [List.append_assoc, List.append_nil, List.nil_append]) 0 (r := (RX1, TX1, 2)) rfl rfl (cwV 1 hts gX2_isSame_X1_spokenBy rfl rfl rfl (by decide +kernel) ⟨Nat.le_of_ble_eq_true rfl, Nat.le_of_ble_eq_true rfl⟩) rfl hl.1 rfl (Nat.le_of_ble_eq_true rfl) dX2_isSame_207 ⟨by show 0 ≤ 0; omega, by show 0 ≤ 0; omega⟩ (fun r_207 u_207 H locs hw hP hD hS => ?_)
            have hw : r_207 = r 0 i195 := hw
            subst hw
            have hP : va_P D vwCl (XO x0 pa pb ++ (DC cI pa f r ++ (DC cI pb f2 r2 ++ (SC cI cR a ca ga n k f r ++ (CW cI ca n (r 5) ++ RW cI ga k 3 G))))) H := by simpa only [List.append_assoc, List.append_nil, List.nil_append] using hP
            have hD : va_D A (XO x0 pa pb ++ (DC cI pa f r ++ (DC cI pb f2 r2 ++ (SC cI cR a ca ga n k f r ++ (CW cI ca n (r 5) ++ RW cI ga k 3 G))))) := by simpa only [List.append_assoc, List.append_nil, List.nil_append] using hD
            refine lv_aload_n hx hb dX2_isSame_210 rfl (lv_at hl 2 rfl) ?_
            refine va_get (D := D) (ci := 2) (v := .ref (a 1)) (C := RX2) (T := TX2) (N := 15) hx hb hw2 (fun _ h => h) hown hK hP 17 rfl rfl 9 (by decide) k25 (fun _ h9 => h9) rfl dX2_isSame_211 ?_
            refine lv_iload hx hb dX2_isSame_214 (lv_at hl 0 rfl) ?_
            refine wIald hx hb hK hP 19 0 rfl rfl i195 rfl (by omega) (by omega) dX2_isSame_216 ?_
            refine lv_icmp_ne (tgt := 268) hx hb dX2_isSame_217 (by decide) (fun h9 => absurd (rfl) h9) (fun c_217 => ?_)
            refine lv_aload_n hx hb dX2_isSame_220 rfl (lv_at hl 3 rfl) ?_
            refine lv_iload hx hb dX2_isSame_221 (lv_at hl 0 rfl) ?_
            refine wCVi (pre := ([] : va_W)) (Wc := XO x0 pa pb ++ (DC cI pa f r ++ DC cI pb f2 r2)) (suf := SC cI cR a ca ga n k f r ++ (CW cI ca n (r 5) ++ RW cI ga k 3 G)) (As := [.int (nI i195)]) (rest := []) ⟨hx, hb, hml, hown, hts⟩ (mX1_interruptionsBy l D cI x0 pa pb f f2 r r2 n i195 _ hg hn1 (by omega) (by omega)) hN hA hK1 hS hP hD (by simp only [List.append_assoc, List.append_nil, List.nil_append]) 0 (r := (RX1, TX1, 2)) rfl rfl (cwV 1 hts gX2_isSame_X1_interruptionsBy rfl rfl rfl (by decide +kernel) ⟨Nat.le_of_ble_eq_true rfl, Nat.le_of_ble_eq_true rfl⟩) rfl hl.1 rfl (Nat.le_of_ble_eq_true rfl) dX2_isSame_223 ⟨by show 0 ≤ 0; omega, by show 0 ≤ 0; omega⟩ (fun r_223 u_223 H locs hw hP hD hS => ?_)
            have hw : r_223 = r 1 i195 := hw
            subst hw
            have hP : va_P D vwCl (XO x0 pa pb ++ (DC cI pa f r ++ (DC cI pb f2 r2 ++ (SC cI cR a ca ga n k f r ++ (CW cI ca n (r 5) ++ RW cI ga k 3 G))))) H := by simpa only [List.append_assoc, List.append_nil, List.nil_append] using hP
            have hD : va_D A (XO x0 pa pb ++ (DC cI pa f r ++ (DC cI pb f2 r2 ++ (SC cI cR a ca ga n k f r ++ (CW cI ca n (r 5) ++ RW cI ga k 3 G))))) := by simpa only [List.append_assoc, List.append_nil, List.nil_append] using hD
            refine lv_aload_n hx hb dX2_isSame_226 rfl (lv_at hl 2 rfl) ?_
            refine va_get (D := D) (ci := 2) (v := .ref (a 2)) (C := RX2) (T := TX2) (N := 15) hx hb hw2 (fun _ h => h) hown hK hP 17 rfl rfl 10 (by decide) k28 (fun _ h9 => h9) rfl dX2_isSame_227 ?_
            refine lv_iload hx hb dX2_isSame_230 (lv_at hl 0 rfl) ?_
            refine wIald hx hb hK hP 20 0 rfl rfl i195 rfl (by omega) (by omega) dX2_isSame_232 ?_
            refine lv_icmp_ne (tgt := 268) hx hb dX2_isSame_233 (by decide) (fun h9 => absurd (rfl) h9) (fun c_233 => ?_)
            refine lv_aload_n hx hb dX2_isSame_236 rfl (lv_at hl 3 rfl) ?_
            refine lv_iload hx hb dX2_isSame_237 (lv_at hl 0 rfl) ?_
            refine wCVi (pre := ([] : va_W)) (Wc := XO x0 pa pb ++ (DC cI pa f r ++ DC cI pb f2 r2)) (suf := SC cI cR a ca ga n k f r ++ (CW cI ca n (r 5) ++ RW cI ga k 3 G)) (As := [.int (nI i195)]) (rest := []) ⟨hx, hb, hml, hown, hts⟩ (mX1_coughsOf l D cI x0 pa pb f f2 r r2 n i195 _ hg hn1 (by omega) (by omega)) hN hA hK1 hS hP hD (by simp only [List.append_assoc, List.append_nil, List.nil_append]) 0 (r := (RX1, TX1, 2)) rfl rfl (cwV 1 hts gX2_isSame_X1_coughsOf rfl rfl rfl (by decide +kernel) ⟨Nat.le_of_ble_eq_true rfl, Nat.le_of_ble_eq_true rfl⟩) rfl hl.1 rfl (Nat.le_of_ble_eq_true rfl) dX2_isSame_239 ⟨by show 0 ≤ 0; omega, by show 0 ≤ 0; omega⟩ (fun r_239 u_239 H locs hw hP hD hS => ?_)
            have hw : r_239 = r 2 i195 := hw
            subst hw
            have hP : va_P D vwCl (XO x0 pa pb ++ (DC cI pa f r ++ (DC cI pb f2 r2 ++ (SC cI cR a ca ga n k f r ++ (CW cI ca n (r 5) ++ RW cI ga k 3 G))))) H := by simpa only [List.append_assoc, List.append_nil, List.nil_append] using hP
            have hD : va_D A (XO x0 pa pb ++ (DC cI pa f r ++ (DC cI pb f2 r2 ++ (SC cI cR a ca ga n k f r ++ (CW cI ca n (r 5) ++ RW cI ga k 3 G))))) := by simpa only [List.append_assoc, List.append_nil, List.nil_append] using hD
            refine lv_aload_n hx hb dX2_isSame_242 rfl (lv_at hl 2 rfl) ?_
            refine va_get (D := D) (ci := 2) (v := .ref (a 3)) (C := RX2) (T := TX2) (N := 15) hx hb hw2 (fun _ h => h) hown hK hP 17 rfl rfl 11 (by decide) k31 (fun _ h9 => h9) rfl dX2_isSame_243 ?_
            refine lv_iload hx hb dX2_isSame_246 (lv_at hl 0 rfl) ?_
            refine wIald hx hb hK hP 21 0 rfl rfl i195 rfl (by omega) (by omega) dX2_isSame_248 ?_
            refine lv_icmp_ne (tgt := 268) hx hb dX2_isSame_249 (by decide) (fun h9 => absurd (rfl) h9) (fun c_249 => ?_)
            refine lv_aload_n hx hb dX2_isSame_252 rfl (lv_at hl 3 rfl) ?_
            refine lv_iload hx hb dX2_isSame_253 (lv_at hl 0 rfl) ?_
            refine wCVi (pre := ([] : va_W)) (Wc := XO x0 pa pb ++ (DC cI pa f r ++ DC cI pb f2 r2)) (suf := SC cI cR a ca ga n k f r ++ (CW cI ca n (r 5) ++ RW cI ga k 3 G)) (As := [.int (nI i195)]) (rest := []) ⟨hx, hb, hml, hown, hts⟩ (mX1_unsaidBy l D cI x0 pa pb f f2 r r2 n i195 _ hg hn1 (by omega) (by omega)) hN hA hK1 hS hP hD (by simp only [List.append_assoc, List.append_nil, List.nil_append]) 0 (r := (RX1, TX1, 2)) rfl rfl (cwV 1 hts gX2_isSame_X1_unsaidBy rfl rfl rfl (by decide +kernel) ⟨Nat.le_of_ble_eq_true rfl, Nat.le_of_ble_eq_true rfl⟩) rfl hl.1 rfl (Nat.le_of_ble_eq_true rfl) dX2_isSame_255 ⟨by show 0 ≤ 0; omega, by show 0 ≤ 0; omega⟩ (fun r_255 u_255 H locs hw hP hD hS => ?_)
            have hw : r_255 = r 3 i195 := hw
            subst hw
            have hP : va_P D vwCl (XO x0 pa pb ++ (DC cI pa f r ++ (DC cI pb f2 r2 ++ (SC cI cR a ca ga n k f r ++ (CW cI ca n (r 5) ++ RW cI ga k 3 G))))) H := by simpa only [List.append_assoc, List.append_nil, List.nil_append] using hP
            have hD : va_D A (XO x0 pa pb ++ (DC cI pa f r ++ (DC cI pb f2 r2 ++ (SC cI cR a ca ga n k f r ++ (CW cI ca n (r 5) ++ RW cI ga k 3 G))))) := by simpa only [List.append_assoc, List.append_nil, List.nil_append] using hD
            refine lv_aload_n hx hb dX2_isSame_258 rfl (lv_at hl 2 rfl) ?_
            refine va_get (D := D) (ci := 2) (v := .ref (a 4)) (C := RX2) (T := TX2) (N := 15) hx hb hw2 (fun _ h => h) hown hK hP 17 rfl rfl 12 (by decide) k34 (fun _ h9 => h9) rfl dX2_isSame_259 ?_
            refine lv_iload hx hb dX2_isSame_262 (lv_at hl 0 rfl) ?_
            refine wIald hx hb hK hP 22 0 rfl rfl i195 rfl (by omega) (by omega) dX2_isSame_264 ?_
            refine lv_icmp_eq (tgt := 270) hx hb dX2_isSame_265 (by decide) (fun c_265 => ?_) (fun h9 => absurd (rfl) h9)
            refine lv_aload_n hx hb dX2_isSame_270 rfl (lv_at hl 2 rfl) ?_
            refine va_get (D := D) (ci := 2) (v := .ref (a 4)) (C := RX2) (T := TX2) (N := 15) hx hb hw2 (fun _ h => h) hown hK hP 17 rfl rfl 12 (by decide) k34 (fun _ h9 => h9) rfl dX2_isSame_271 ?_
            refine lv_iload hx hb dX2_isSame_274 (lv_at hl 0 rfl) ?_
            refine wIald hx hb hK hP 22 0 rfl rfl i195 rfl (by omega) (by omega) dX2_isSame_276 ?_
            refine lv_aload_n hx hb dX2_isSame_277 rfl (lv_at hl 2 rfl) ?_
            refine va_get (D := D) (ci := 2) (v := .ref (a 4)) (C := RX2) (T := TX2) (N := 15) hx hb hw2 (fun _ h => h) hown hK hP 17 rfl rfl 12 (by decide) k34 (fun _ h9 => h9) rfl dX2_isSame_278 ?_
            refine lv_iload_n hx hb dX2_isSame_281 rfl (lv_at hl 1 rfl) ?_
            refine wIald hx hb hK hP 22 0 rfl rfl (dQuiet (r 3) (i195 - 1)) rfl (by omega) (by omega) dX2_isSame_282 ?_
            refine lv_icmp_le (tgt := 289) hx hb dX2_isSame_283 (by decide) (fun c_283 => ?_) (fun c_283 => ?_)
            · have e3 : dQuiet (r 3) (i195 - 1) = dQuiet (r 3) i195 := by rw [← dQ_s (r 3) i195, if_neg (Int32.not_lt.mpr c_283)]
              have hl : lv_has ls 7 [(4, .int (nI i195)), (3, .int (nI (dQuiet (r 3) i195))), (0, .ref (a 0)), (1, .ref x0)] := (congrArg (fun z9 => lv_has ls 7 [(4, .int (nI i195)), (3, .int (nI z9)), (0, .ref (a 0)), (1, .ref x0)]) e3).mp hl
              refine lv_iconst (v := 0) hx hb dX2_isSame_289 (by decide) ?_
              refine lv_istore (lv' := [(5, .int 0), (4, .int (nI i195)), (3, .int (nI (dQuiet (r 3) i195))), (0, .ref (a 0)), (1, .ref x0)]) hx hb dX2_isSame_290 hl (by decide) rfl (fun ls hl => ?_)
              have loop292 : ∀ (j i292 : Nat), i292 + j = n → ∀ (H : Heap) (locs : List Loc) (ls : Array Slot), va_P D vwCl (XO x0 pa pb ++ (DC cI pa f r ++ (DC cI pb f2 r2 ++ (SC cI cR a ca ga n k f r ++ (CW cI ca n (r 5) ++ RW cI ga k 3 G))))) H → va_D A (XO x0 pa pb ++ (DC cI pa f r ++ (DC cI pb f2 r2 ++ (SC cI cR a ca ga n k f r ++ (CW cI ca n (r 5) ++ RW cI ga k 3 G))))) → va_S A s.heap H locs → lv_has ls 7 [(5, .int (nI i292)), (4, .int (nI i195)), (3, .int (nI (dQuiet (r 3) i195))), (0, .ref (a 0)), (1, .ref x0)] → W p l e rmX2_isSame s m args below meth c H locs 0 0 Q (F0 m 292 ls []) := by
                intro j
                induction j with
                | zero =>
                  intro i292 hi292 H locs ls hP hD hS hl
                  have ez : n = i292 := by omega
                  subst ez
                  refine lv_iload hx hb dX2_isSame_292 (lv_at hl 0 rfl) ?_
                  refine lv_aload_n hx hb dX2_isSame_294 rfl (lv_at hl 3 rfl) ?_
                  refine va_get (D := D) (ci := 2) (v := .int (f 0)) (C := RX2) (T := TX2) (N := 15) hx hb hw2 (fun _ h => h) hown hK hP 17 rfl rfl 0 (by decide) k22 (fun _ h9 => h9) rfl dX2_isSame_295 ?_
                  refine lv_icmp_ge (tgt := 390) hx hb dX2_isSame_298 (by decide) (fun c_298 => ?_) (fun h9 => absurd (by rw [hg]; exact nI_le (Nat.le_refl _) (by omega)) h9)
                  refine lv_iinc (v := nI (i195 + 1)) (lv' := [(4, .int (nI (i195 + 1))), (5, .int (nI n)), (3, .int (nI (dQuiet (r 3) i195))), (0, .ref (a 0)), (1, .ref x0)]) hx hb dX2_isSame_390 hl (k := 1) rfl (nI_1 i195) (by decide) rfl (fun ls hl => ?_)
                  refine lv_goto (tgt := 195) hx hb dX2_isSame_393 (by decide) ?_
                  exact ih195 (i195 + 1) (by omega) _ _ _ hP hD hS (lv_sub hl [0, 2, 3, 4] rfl)
                | succ j ih292 =>
                  intro i292 hi292 H locs ls hP hD hS hl
                  refine lv_iload hx hb dX2_isSame_292 (lv_at hl 0 rfl) ?_
                  refine lv_aload_n hx hb dX2_isSame_294 rfl (lv_at hl 3 rfl) ?_
                  refine va_get (D := D) (ci := 2) (v := .int (f 0)) (C := RX2) (T := TX2) (N := 15) hx hb hw2 (fun _ h => h) hown hK hP 17 rfl rfl 0 (by decide) k22 (fun _ h9 => h9) rfl dX2_isSame_295 ?_
                  refine lv_icmp_ge (tgt := 390) hx hb dX2_isSame_298 (by decide) (fun h9 => absurd h9 (by rw [hg]; exact nI_ge (by omega) (by omega))) (fun c_298 => ?_)
                  refine lv_aload_n hx hb dX2_isSame_301 rfl (lv_at hl 3 rfl) ?_
                  refine lv_iload hx hb dX2_isSame_302 (lv_at hl 1 rfl) ?_
                  refine lv_iload hx hb dX2_isSame_304 (lv_at hl 0 rfl) ?_
                  refine wCVi (pre := XO x0 pa pb ++ (DC cI pa f r ++ DC cI pb f2 r2)) (Wc := SC cI cR a ca ga n k f r ++ (CW cI ca n (r 5) ++ RW cI ga k 3 G)) (suf := ([] : va_W)) (As := [.int (nI i195), .int (nI i292)]) (rest := []) ⟨hx, hb, hml, hown, hts⟩ (mX2_find l D cI cR a ca ga n k f r G (nI i195) (nI i292) _ hg hn0 hn1 hk) hN hA hK hS hP hD (by simp only [List.append_assoc, List.append_nil, List.nil_append]) 0 (r := (RX2, TX2, 15)) rfl rfl (cwV 2 hts gX2_isSame_X2_find rfl rfl rfl (by decide +kernel) ⟨Nat.le_of_ble_eq_true rfl, Nat.le_of_ble_eq_true rfl⟩) rfl hl.1 rfl (Nat.le_of_ble_eq_true rfl) dX2_isSame_306 ⟨by show 0 ≤ 0; omega, by show 0 ≤ 0; omega⟩ (fun r_306 u_306 H locs hw hP hD hS => ?_)
                  have hw : r_306 = sFind G (nI i195) (nI i292) k 0 := hw
                  subst hw
                  have hP : va_P D vwCl (XO x0 pa pb ++ (DC cI pa f r ++ (DC cI pb f2 r2 ++ (SC cI cR a ca ga n k f r ++ (CW cI ca n (r 5) ++ RW cI ga k 3 G))))) H := by simpa only [List.append_assoc, List.append_nil, List.nil_append] using hP
                  have hD : va_D A (XO x0 pa pb ++ (DC cI pa f r ++ (DC cI pb f2 r2 ++ (SC cI cR a ca ga n k f r ++ (CW cI ca n (r 5) ++ RW cI ga k 3 G))))) := by simpa only [List.append_assoc, List.append_nil, List.nil_append] using hD
                  refine lv_istore (lv' := [(6, .int (sFind G (nI i195) (nI i292) k 0)), (5, .int (nI i292)), (4, .int (nI i195)), (3, .int (nI (dQuiet (r 3) i195))), (0, .ref (a 0)), (1, .ref x0)]) hx hb dX2_isSame_309 hl (by decide) rfl (fun ls hl => ?_)
                  refine lv_aload_n hx hb dX2_isSame_311 rfl (lv_at hl 5 rfl) ?_
                  refine lv_iload hx hb dX2_isSame_312 (lv_at hl 2 rfl) ?_
                  refine lv_iload hx hb dX2_isSame_314 (lv_at hl 1 rfl) ?_
                  refine wCVi (pre := ([] : va_W)) (Wc := XO x0 pa pb ++ (DC cI pa f r ++ DC cI pb f2 r2)) (suf := SC cI cR a ca ga n k f r ++ (CW cI ca n (r 5) ++ RW cI ga k 3 G)) (As := [.int (nI i195), .int (nI i292)]) (rest := []) ⟨hx, hb, hml, hown, hts⟩ (mX1_isUnderWay l D cI x0 pa pb f f2 r r2 n i195 i292 _ hg hn1 (by omega) (by omega) (by omega)) hN hA hK1 hS hP hD (by simp only [List.append_assoc, List.append_nil, List.nil_append]) 0 (r := (RX1, TX1, 2)) rfl rfl (cwV 2 hts gX2_isSame_X1_isUnderWay rfl rfl rfl (by decide +kernel) ⟨Nat.le_of_ble_eq_true rfl, Nat.le_of_ble_eq_true rfl⟩) rfl hl.1 rfl (Nat.le_of_ble_eq_true rfl) dX2_isSame_316 ⟨by show 0 ≤ 0; omega, by show 0 ≤ 0; omega⟩ (fun r_316 u_316 H locs hw hP hD hS => ?_)
                  have hw : r_316 = if r 4 (i195 * 10 + i292) = -1 then 0 else 1 := hw
                  subst hw
                  have hP : va_P D vwCl (XO x0 pa pb ++ (DC cI pa f r ++ (DC cI pb f2 r2 ++ (SC cI cR a ca ga n k f r ++ (CW cI ca n (r 5) ++ RW cI ga k 3 G))))) H := by simpa only [List.append_assoc, List.append_nil, List.nil_append] using hP
                  have hD : va_D A (XO x0 pa pb ++ (DC cI pa f r ++ (DC cI pb f2 r2 ++ (SC cI cR a ca ga n k f r ++ (CW cI ca n (r 5) ++ RW cI ga k 3 G))))) := by simpa only [List.append_assoc, List.append_nil, List.nil_append] using hD
                  refine lv_iload hx hb dX2_isSame_319 (lv_at hl 0 rfl) ?_
                  refine lv_if_lt (tgt := 328) hx hb dX2_isSame_321 (by decide) (fun c_321 => ?_) (fun c_321 => ?_)
                  · have ht := hA1 i195 i292 (by omega) (by omega) c_321
                    refine lv_iconst (v := 0) hx hb dX2_isSame_328 (by decide) ?_
                    refine lv_icmp_ne (tgt := 382) hx hb dX2_isSame_329 (by decide) (fun h9 => absurd (if_pos ht) h9) (fun c_329 => ?_)
                    refine lv_aload_n hx hb dX2_isSame_332 rfl (lv_at hl 5 rfl) ?_
                    refine lv_iload hx hb dX2_isSame_333 (lv_at hl 2 rfl) ?_
                    refine lv_iload hx hb dX2_isSame_335 (lv_at hl 1 rfl) ?_
                    refine wCVi (pre := ([] : va_W)) (Wc := XO x0 pa pb ++ (DC cI pa f r ++ DC cI pb f2 r2)) (suf := SC cI cR a ca ga n k f r ++ (CW cI ca n (r 5) ++ RW cI ga k 3 G)) (As := [.int (nI i195), .int (nI i292)]) (rest := []) ⟨hx, hb, hml, hown, hts⟩ (mX1_secondsToGo l D cI x0 pa pb f f2 r r2 n i195 i292 _ hg hn1 (by omega) (by omega) (by omega)) hN hA hK1 hS hP hD (by simp only [List.append_assoc, List.append_nil, List.nil_append]) 0 (r := (RX1, TX1, 2)) rfl rfl (cwV 2 hts gX2_isSame_X1_secondsToGo rfl rfl rfl (by decide +kernel) ⟨Nat.le_of_ble_eq_true rfl, Nat.le_of_ble_eq_true rfl⟩) rfl hl.1 rfl (Nat.le_of_ble_eq_true rfl) dX2_isSame_337 ⟨by show 0 ≤ 0; omega, by show 0 ≤ 0; omega⟩ (fun r_337 u_337 H locs hw hP hD hS => ?_)
                    have hw : r_337 = dToGo (r 4) (i195 * 10 + i292) := hw
                    subst hw
                    have hP : va_P D vwCl (XO x0 pa pb ++ (DC cI pa f r ++ (DC cI pb f2 r2 ++ (SC cI cR a ca ga n k f r ++ (CW cI ca n (r 5) ++ RW cI ga k 3 G))))) H := by simpa only [List.append_assoc, List.append_nil, List.nil_append] using hP
                    have hD : va_D A (XO x0 pa pb ++ (DC cI pa f r ++ (DC cI pb f2 r2 ++ (SC cI cR a ca ga n k f r ++ (CW cI ca n (r 5) ++ RW cI ga k 3 G))))) := by simpa only [List.append_assoc, List.append_nil, List.nil_append] using hD
                    refine lv_iload hx hb dX2_isSame_340 (lv_at hl 0 rfl) ?_
                    refine lv_if_ge (tgt := 349) hx hb dX2_isSame_342 (by decide) (fun h9 => absurd h9 (Int32.not_le.mpr c_321)) (fun c_342 => ?_)
                    refine lv_iconst (v := 0) hx hb dX2_isSame_345 (by decide) ?_
                    refine lv_goto (tgt := 358) hx hb dX2_isSame_346 (by decide) ?_
                    refine lv_icmp_ne (tgt := 382) hx hb dX2_isSame_358 (by decide) (fun h9 => absurd (if_pos ht) h9) (fun c_358 => ?_)
                    refine lv_aload_n hx hb dX2_isSame_361 rfl (lv_at hl 5 rfl) ?_
                    refine lv_iload hx hb dX2_isSame_362 (lv_at hl 2 rfl) ?_
                    refine lv_iload hx hb dX2_isSame_364 (lv_at hl 1 rfl) ?_
                    refine wCVi (pre := ([] : va_W)) (Wc := XO x0 pa pb ++ (DC cI pa f r ++ DC cI pb f2 r2)) (suf := SC cI cR a ca ga n k f r ++ (CW cI ca n (r 5) ++ RW cI ga k 3 G)) (As := [.int (nI i195), .int (nI i292)]) (rest := []) ⟨hx, hb, hml, hown, hts⟩ (mX1_caughtBy l D cI x0 pa pb f f2 r r2 n i195 i292 _ hg hn1 (by omega) (by omega) (by omega)) hN hA hK1 hS hP hD (by simp only [List.append_assoc, List.append_nil, List.nil_append]) 0 (r := (RX1, TX1, 2)) rfl rfl (cwV 2 hts gX2_isSame_X1_caughtBy rfl rfl rfl (by decide +kernel) ⟨Nat.le_of_ble_eq_true rfl, Nat.le_of_ble_eq_true rfl⟩) rfl hl.1 rfl (Nat.le_of_ble_eq_true rfl) dX2_isSame_366 ⟨by show 0 ≤ 0; omega, by show 0 ≤ 0; omega⟩ (fun r_366 u_366 H locs hw hP hD hS => ?_)
                    have hw : r_366 = r 5 (i195 * 10 + i292) := hw
                    subst hw
                    have hP : va_P D vwCl (XO x0 pa pb ++ (DC cI pa f r ++ (DC cI pb f2 r2 ++ (SC cI cR a ca ga n k f r ++ (CW cI ca n (r 5) ++ RW cI ga k 3 G))))) H := by simpa only [List.append_assoc, List.append_nil, List.nil_append] using hP
                    have hD : va_D A (XO x0 pa pb ++ (DC cI pa f r ++ (DC cI pb f2 r2 ++ (SC cI cR a ca ga n k f r ++ (CW cI ca n (r 5) ++ RW cI ga k 3 G))))) := by simpa only [List.append_assoc, List.append_nil, List.nil_append] using hD
                    refine lv_aload_n hx hb dX2_isSame_369 rfl (lv_at hl 4 rfl) ?_
                    refine va_get (D := D) (ci := 2) (v := .ref (a 5)) (C := RX2) (T := TX2) (N := 15) hx hb hw2 (fun _ h => h) hown hK hP 17 rfl rfl 13 (by decide) k38 (fun _ h9 => h9) rfl dX2_isSame_370 ?_
                    refine lv_iload hx hb dX2_isSame_373 (lv_at hl 2 rfl) ?_
                    refine wAald hx hb hK hP 23 1 rfl rfl i195 rfl (by omega) (by omega) (RF_in (by omega)) dX2_isSame_375 ?_
                    refine lv_iload hx hb dX2_isSame_376 (lv_at hl 1 rfl) ?_
                    refine wIaldR (pre := XO x0 pa pb ++ (DC cI pa f r ++ (DC cI pb f2 r2 ++ SC cI cR a ca ga n k f r))) (suf := RW cI ga k 3 G) (bb := ca) (N := n) (len := n) (v := fun i j => (r 5) (i * 10 + j)) hx hb hK hP 0 (by simp only [CW, List.append_assoc, List.append_nil, List.nil_append]) rfl i195 (by omega) i292 rfl (by omega) (by omega) dX2_isSame_378 ?_
                    refine lv_icmp_eq (tgt := 384) hx hb dX2_isSame_379 (by decide) (fun c_379 => ?_) (fun h9 => absurd (rfl) h9)
                    refine lv_iinc (v := nI (i292 + 1)) (lv' := [(5, .int (nI (i292 + 1))), (6, .int (sFind G (nI i195) (nI i292) k 0)), (4, .int (nI i195)), (3, .int (nI (dQuiet (r 3) i195))), (0, .ref (a 0)), (1, .ref x0)]) hx hb dX2_isSame_384 hl (k := 1) rfl (nI_1 i292) (by decide) rfl (fun ls hl => ?_)
                    refine lv_goto (tgt := 292) hx hb dX2_isSame_387 (by decide) ?_
                    exact ih292 (i292 + 1) (by omega) _ _ _ hP hD hS (lv_sub hl [0, 2, 3, 4, 5] rfl)
                  · obtain ⟨q, hq, eb, eG, ht⟩ := hB1 i195 i292 (by omega) (by omega) c_321
                    refine lv_iconst (v := 1) hx hb dX2_isSame_324 (by decide) ?_
                    refine lv_goto (tgt := 329) hx hb dX2_isSame_325 (by decide) ?_
                    refine lv_icmp_ne (tgt := 382) hx hb dX2_isSame_329 (by decide) (fun h9 => absurd (if_neg ht) h9) (fun c_329 => ?_)
                    refine lv_aload_n hx hb dX2_isSame_332 rfl (lv_at hl 5 rfl) ?_
                    refine lv_iload hx hb dX2_isSame_333 (lv_at hl 2 rfl) ?_
                    refine lv_iload hx hb dX2_isSame_335 (lv_at hl 1 rfl) ?_
                    refine wCVi (pre := ([] : va_W)) (Wc := XO x0 pa pb ++ (DC cI pa f r ++ DC cI pb f2 r2)) (suf := SC cI cR a ca ga n k f r ++ (CW cI ca n (r 5) ++ RW cI ga k 3 G)) (As := [.int (nI i195), .int (nI i292)]) (rest := []) ⟨hx, hb, hml, hown, hts⟩ (mX1_secondsToGo l D cI x0 pa pb f f2 r r2 n i195 i292 _ hg hn1 (by omega) (by omega) (by omega)) hN hA hK1 hS hP hD (by simp only [List.append_assoc, List.append_nil, List.nil_append]) 0 (r := (RX1, TX1, 2)) rfl rfl (cwV 2 hts gX2_isSame_X1_secondsToGo rfl rfl rfl (by decide +kernel) ⟨Nat.le_of_ble_eq_true rfl, Nat.le_of_ble_eq_true rfl⟩) rfl hl.1 rfl (Nat.le_of_ble_eq_true rfl) dX2_isSame_337 ⟨by show 0 ≤ 0; omega, by show 0 ≤ 0; omega⟩ (fun r_337 u_337 H locs hw hP hD hS => ?_)
                    have hw : r_337 = dToGo (r 4) (i195 * 10 + i292) := hw
                    subst hw
                    have hP : va_P D vwCl (XO x0 pa pb ++ (DC cI pa f r ++ (DC cI pb f2 r2 ++ (SC cI cR a ca ga n k f r ++ (CW cI ca n (r 5) ++ RW cI ga k 3 G))))) H := by simpa only [List.append_assoc, List.append_nil, List.nil_append] using hP
                    have hD : va_D A (XO x0 pa pb ++ (DC cI pa f r ++ (DC cI pb f2 r2 ++ (SC cI cR a ca ga n k f r ++ (CW cI ca n (r 5) ++ RW cI ga k 3 G))))) := by simpa only [List.append_assoc, List.append_nil, List.nil_append] using hD
                    refine lv_iload hx hb dX2_isSame_340 (lv_at hl 0 rfl) ?_
                    refine lv_if_ge (tgt := 349) hx hb dX2_isSame_342 (by decide) (fun c_342 => ?_) (fun h9 => absurd (Int32.not_lt.mp c_321) h9)
                    refine lv_aload_n hx hb dX2_isSame_349 rfl (lv_at hl 4 rfl) ?_
                    refine va_get (D := D) (ci := 2) (v := .ref (a 6)) (C := RX2) (T := TX2) (N := 15) hx hb hw2 (fun _ h => h) hown hK hP 17 rfl rfl 14 (by decide) k18 (fun _ h9 => h9) rfl dX2_isSame_350 ?_
                    refine lv_iload hx hb dX2_isSame_353 (lv_at hl 0 rfl) ?_
                    refine wAald hx hb hK hP 18 1 rfl rfl q eb (hq) (by omega) (RF_in (hq)) dX2_isSame_355 ?_
                    refine lv_iconst (v := 2) hx hb dX2_isSame_356 (by decide) ?_
                    refine wIaldR (pre := XO x0 pa pb ++ (DC cI pa f r ++ (DC cI pb f2 r2 ++ (SC cI cR a ca ga n k f r ++ CW cI ca n (r 5))))) (suf := ([] : va_W)) (bb := ga) (N := k) (len := 3) (v := G) hx hb hK hP 0 (by simp only [List.append_assoc, List.append_nil, List.nil_append]) rfl q (by omega) 2 rfl (by decide) (by decide) dX2_isSame_357 ?_
                    refine lv_icmp_ne (tgt := 382) hx hb dX2_isSame_358 (by decide) (fun h9 => absurd ((if_neg ht).trans eG.symm) h9) (fun c_358 => ?_)
                    refine lv_aload_n hx hb dX2_isSame_361 rfl (lv_at hl 5 rfl) ?_
                    refine lv_iload hx hb dX2_isSame_362 (lv_at hl 2 rfl) ?_
                    refine lv_iload hx hb dX2_isSame_364 (lv_at hl 1 rfl) ?_
                    refine wCVi (pre := ([] : va_W)) (Wc := XO x0 pa pb ++ (DC cI pa f r ++ DC cI pb f2 r2)) (suf := SC cI cR a ca ga n k f r ++ (CW cI ca n (r 5) ++ RW cI ga k 3 G)) (As := [.int (nI i195), .int (nI i292)]) (rest := []) ⟨hx, hb, hml, hown, hts⟩ (mX1_caughtBy l D cI x0 pa pb f f2 r r2 n i195 i292 _ hg hn1 (by omega) (by omega) (by omega)) hN hA hK1 hS hP hD (by simp only [List.append_assoc, List.append_nil, List.nil_append]) 0 (r := (RX1, TX1, 2)) rfl rfl (cwV 2 hts gX2_isSame_X1_caughtBy rfl rfl rfl (by decide +kernel) ⟨Nat.le_of_ble_eq_true rfl, Nat.le_of_ble_eq_true rfl⟩) rfl hl.1 rfl (Nat.le_of_ble_eq_true rfl) dX2_isSame_366 ⟨by show 0 ≤ 0; omega, by show 0 ≤ 0; omega⟩ (fun r_366 u_366 H locs hw hP hD hS => ?_)
                    have hw : r_366 = r 5 (i195 * 10 + i292) := hw
                    subst hw
                    have hP : va_P D vwCl (XO x0 pa pb ++ (DC cI pa f r ++ (DC cI pb f2 r2 ++ (SC cI cR a ca ga n k f r ++ (CW cI ca n (r 5) ++ RW cI ga k 3 G))))) H := by simpa only [List.append_assoc, List.append_nil, List.nil_append] using hP
                    have hD : va_D A (XO x0 pa pb ++ (DC cI pa f r ++ (DC cI pb f2 r2 ++ (SC cI cR a ca ga n k f r ++ (CW cI ca n (r 5) ++ RW cI ga k 3 G))))) := by simpa only [List.append_assoc, List.append_nil, List.nil_append] using hD
                    refine lv_aload_n hx hb dX2_isSame_369 rfl (lv_at hl 4 rfl) ?_
                    refine va_get (D := D) (ci := 2) (v := .ref (a 5)) (C := RX2) (T := TX2) (N := 15) hx hb hw2 (fun _ h => h) hown hK hP 17 rfl rfl 13 (by decide) k38 (fun _ h9 => h9) rfl dX2_isSame_370 ?_
                    refine lv_iload hx hb dX2_isSame_373 (lv_at hl 2 rfl) ?_
                    refine wAald hx hb hK hP 23 1 rfl rfl i195 rfl (by omega) (by omega) (RF_in (by omega)) dX2_isSame_375 ?_
                    refine lv_iload hx hb dX2_isSame_376 (lv_at hl 1 rfl) ?_
                    refine wIaldR (pre := XO x0 pa pb ++ (DC cI pa f r ++ (DC cI pb f2 r2 ++ SC cI cR a ca ga n k f r))) (suf := RW cI ga k 3 G) (bb := ca) (N := n) (len := n) (v := fun i j => (r 5) (i * 10 + j)) hx hb hK hP 0 (by simp only [CW, List.append_assoc, List.append_nil, List.nil_append]) rfl i195 (by omega) i292 rfl (by omega) (by omega) dX2_isSame_378 ?_
                    refine lv_icmp_eq (tgt := 384) hx hb dX2_isSame_379 (by decide) (fun c_379 => ?_) (fun h9 => absurd (rfl) h9)
                    refine lv_iinc (v := nI (i292 + 1)) (lv' := [(5, .int (nI (i292 + 1))), (6, .int (sFind G (nI i195) (nI i292) k 0)), (4, .int (nI i195)), (3, .int (nI (dQuiet (r 3) i195))), (0, .ref (a 0)), (1, .ref x0)]) hx hb dX2_isSame_384 hl (k := 1) rfl (nI_1 i292) (by decide) rfl (fun ls hl => ?_)
                    refine lv_goto (tgt := 292) hx hb dX2_isSame_387 (by decide) ?_
                    exact ih292 (i292 + 1) (by omega) _ _ _ hP hD hS (lv_sub hl [0, 2, 3, 4, 5] rfl)
              exact loop292 n 0 (by omega) _ _ _ hP hD hS (lv_sub hl [0, 1, 2, 3, 4] rfl)
            · refine lv_iload hx hb dX2_isSame_286 (lv_at hl 0 rfl) ?_
              refine lv_istore_n (lv' := [(3, .int (nI i195)), (4, .int (nI i195)), (0, .ref (a 0)), (1, .ref x0)]) hx hb dX2_isSame_288 rfl hl (by decide) rfl (fun ls hl => ?_)
              have e3 : i195 = dQuiet (r 3) i195 := ((dQ_s (r 3) i195).symm.trans (if_pos (Int32.not_le.mp c_283))).symm
              have hl : lv_has ls 7 [(3, .int (nI (dQuiet (r 3) i195))), (4, .int (nI i195)), (0, .ref (a 0)), (1, .ref x0)] := (congrArg (fun z9 => lv_has ls 7 [(3, .int (nI z9)), (4, .int (nI i195)), (0, .ref (a 0)), (1, .ref x0)]) e3).mp hl
              refine lv_iconst (v := 0) hx hb dX2_isSame_289 (by decide) ?_
              refine lv_istore (lv' := [(5, .int 0), (3, .int (nI (dQuiet (r 3) i195))), (4, .int (nI i195)), (0, .ref (a 0)), (1, .ref x0)]) hx hb dX2_isSame_290 hl (by decide) rfl (fun ls hl => ?_)
              have loop292 : ∀ (j i292 : Nat), i292 + j = n → ∀ (H : Heap) (locs : List Loc) (ls : Array Slot), va_P D vwCl (XO x0 pa pb ++ (DC cI pa f r ++ (DC cI pb f2 r2 ++ (SC cI cR a ca ga n k f r ++ (CW cI ca n (r 5) ++ RW cI ga k 3 G))))) H → va_D A (XO x0 pa pb ++ (DC cI pa f r ++ (DC cI pb f2 r2 ++ (SC cI cR a ca ga n k f r ++ (CW cI ca n (r 5) ++ RW cI ga k 3 G))))) → va_S A s.heap H locs → lv_has ls 7 [(5, .int (nI i292)), (4, .int (nI i195)), (3, .int (nI (dQuiet (r 3) i195))), (0, .ref (a 0)), (1, .ref x0)] → W p l e rmX2_isSame s m args below meth c H locs 0 0 Q (F0 m 292 ls []) := by
                intro j
                induction j with
                | zero =>
                  intro i292 hi292 H locs ls hP hD hS hl
                  have ez : n = i292 := by omega
                  subst ez
                  refine lv_iload hx hb dX2_isSame_292 (lv_at hl 0 rfl) ?_
                  refine lv_aload_n hx hb dX2_isSame_294 rfl (lv_at hl 3 rfl) ?_
                  refine va_get (D := D) (ci := 2) (v := .int (f 0)) (C := RX2) (T := TX2) (N := 15) hx hb hw2 (fun _ h => h) hown hK hP 17 rfl rfl 0 (by decide) k22 (fun _ h9 => h9) rfl dX2_isSame_295 ?_
                  refine lv_icmp_ge (tgt := 390) hx hb dX2_isSame_298 (by decide) (fun c_298 => ?_) (fun h9 => absurd (by rw [hg]; exact nI_le (Nat.le_refl _) (by omega)) h9)
                  refine lv_iinc (v := nI (i195 + 1)) (lv' := [(4, .int (nI (i195 + 1))), (5, .int (nI n)), (3, .int (nI (dQuiet (r 3) i195))), (0, .ref (a 0)), (1, .ref x0)]) hx hb dX2_isSame_390 hl (k := 1) rfl (nI_1 i195) (by decide) rfl (fun ls hl => ?_)
                  refine lv_goto (tgt := 195) hx hb dX2_isSame_393 (by decide) ?_
                  exact ih195 (i195 + 1) (by omega) _ _ _ hP hD hS (lv_sub hl [0, 2, 3, 4] rfl)
                | succ j ih292 =>
                  intro i292 hi292 H locs ls hP hD hS hl
                  refine lv_iload hx hb dX2_isSame_292 (lv_at hl 0 rfl) ?_
                  refine lv_aload_n hx hb dX2_isSame_294 rfl (lv_at hl 3 rfl) ?_
                  refine va_get (D := D) (ci := 2) (v := .int (f 0)) (C := RX2) (T := TX2) (N := 15) hx hb hw2 (fun _ h => h) hown hK hP 17 rfl rfl 0 (by decide) k22 (fun _ h9 => h9) rfl dX2_isSame_295 ?_
                  refine lv_icmp_ge (tgt := 390) hx hb dX2_isSame_298 (by decide) (fun h9 => absurd h9 (by rw [hg]; exact nI_ge (by omega) (by omega))) (fun c_298 => ?_)
                  refine lv_aload_n hx hb dX2_isSame_301 rfl (lv_at hl 3 rfl) ?_
                  refine lv_iload hx hb dX2_isSame_302 (lv_at hl 1 rfl) ?_
                  refine lv_iload hx hb dX2_isSame_304 (lv_at hl 0 rfl) ?_
                  refine wCVi (pre := XO x0 pa pb ++ (DC cI pa f r ++ DC cI pb f2 r2)) (Wc := SC cI cR a ca ga n k f r ++ (CW cI ca n (r 5) ++ RW cI ga k 3 G)) (suf := ([] : va_W)) (As := [.int (nI i195), .int (nI i292)]) (rest := []) ⟨hx, hb, hml, hown, hts⟩ (mX2_find l D cI cR a ca ga n k f r G (nI i195) (nI i292) _ hg hn0 hn1 hk) hN hA hK hS hP hD (by simp only [List.append_assoc, List.append_nil, List.nil_append]) 0 (r := (RX2, TX2, 15)) rfl rfl (cwV 2 hts gX2_isSame_X2_find rfl rfl rfl (by decide +kernel) ⟨Nat.le_of_ble_eq_true rfl, Nat.le_of_ble_eq_true rfl⟩) rfl hl.1 rfl (Nat.le_of_ble_eq_true rfl) dX2_isSame_306 ⟨by show 0 ≤ 0; omega, by show 0 ≤ 0; omega⟩ (fun r_306 u_306 H locs hw hP hD hS => ?_)
                  have hw : r_306 = sFind G (nI i195) (nI i292) k 0 := hw
                  subst hw
                  have hP : va_P D vwCl (XO x0 pa pb ++ (DC cI pa f r ++ (DC cI pb f2 r2 ++ (SC cI cR a ca ga n k f r ++ (CW cI ca n (r 5) ++ RW cI ga k 3 G))))) H := by simpa only [List.append_assoc, List.append_nil, List.nil_append] using hP
                  have hD : va_D A (XO x0 pa pb ++ (DC cI pa f r ++ (DC cI pb f2 r2 ++ (SC cI cR a ca ga n k f r ++ (CW cI ca n (r 5) ++ RW cI ga k 3 G))))) := by simpa only [List.append_assoc, List.append_nil, List.nil_append] using hD
                  refine lv_istore (lv' := [(6, .int (sFind G (nI i195) (nI i292) k 0)), (5, .int (nI i292)), (4, .int (nI i195)), (3, .int (nI (dQuiet (r 3) i195))), (0, .ref (a 0)), (1, .ref x0)]) hx hb dX2_isSame_309 hl (by decide) rfl (fun ls hl => ?_)
                  refine lv_aload_n hx hb dX2_isSame_311 rfl (lv_at hl 5 rfl) ?_
                  refine lv_iload hx hb dX2_isSame_312 (lv_at hl 2 rfl) ?_
                  refine lv_iload hx hb dX2_isSame_314 (lv_at hl 1 rfl) ?_
                  refine wCVi (pre := ([] : va_W)) (Wc := XO x0 pa pb ++ (DC cI pa f r ++ DC cI pb f2 r2)) (suf := SC cI cR a ca ga n k f r ++ (CW cI ca n (r 5) ++ RW cI ga k 3 G)) (As := [.int (nI i195), .int (nI i292)]) (rest := []) ⟨hx, hb, hml, hown, hts⟩ (mX1_isUnderWay l D cI x0 pa pb f f2 r r2 n i195 i292 _ hg hn1 (by omega) (by omega) (by omega)) hN hA hK1 hS hP hD (by simp only [List.append_assoc, List.append_nil, List.nil_append]) 0 (r := (RX1, TX1, 2)) rfl rfl (cwV 2 hts gX2_isSame_X1_isUnderWay rfl rfl rfl (by decide +kernel) ⟨Nat.le_of_ble_eq_true rfl, Nat.le_of_ble_eq_true rfl⟩) rfl hl.1 rfl (Nat.le_of_ble_eq_true rfl) dX2_isSame_316 ⟨by show 0 ≤ 0; omega, by show 0 ≤ 0; omega⟩ (fun r_316 u_316 H locs hw hP hD hS => ?_)
                  have hw : r_316 = if r 4 (i195 * 10 + i292) = -1 then 0 else 1 := hw
                  subst hw
                  have hP : va_P D vwCl (XO x0 pa pb ++ (DC cI pa f r ++ (DC cI pb f2 r2 ++ (SC cI cR a ca ga n k f r ++ (CW cI ca n (r 5) ++ RW cI ga k 3 G))))) H := by simpa only [List.append_assoc, List.append_nil, List.nil_append] using hP
                  have hD : va_D A (XO x0 pa pb ++ (DC cI pa f r ++ (DC cI pb f2 r2 ++ (SC cI cR a ca ga n k f r ++ (CW cI ca n (r 5) ++ RW cI ga k 3 G))))) := by simpa only [List.append_assoc, List.append_nil, List.nil_append] using hD
                  refine lv_iload hx hb dX2_isSame_319 (lv_at hl 0 rfl) ?_
                  refine lv_if_lt (tgt := 328) hx hb dX2_isSame_321 (by decide) (fun c_321 => ?_) (fun c_321 => ?_)
                  · have ht := hA1 i195 i292 (by omega) (by omega) c_321
                    refine lv_iconst (v := 0) hx hb dX2_isSame_328 (by decide) ?_
                    refine lv_icmp_ne (tgt := 382) hx hb dX2_isSame_329 (by decide) (fun h9 => absurd (if_pos ht) h9) (fun c_329 => ?_)
                    refine lv_aload_n hx hb dX2_isSame_332 rfl (lv_at hl 5 rfl) ?_
                    refine lv_iload hx hb dX2_isSame_333 (lv_at hl 2 rfl) ?_
                    refine lv_iload hx hb dX2_isSame_335 (lv_at hl 1 rfl) ?_
                    refine wCVi (pre := ([] : va_W)) (Wc := XO x0 pa pb ++ (DC cI pa f r ++ DC cI pb f2 r2)) (suf := SC cI cR a ca ga n k f r ++ (CW cI ca n (r 5) ++ RW cI ga k 3 G)) (As := [.int (nI i195), .int (nI i292)]) (rest := []) ⟨hx, hb, hml, hown, hts⟩ (mX1_secondsToGo l D cI x0 pa pb f f2 r r2 n i195 i292 _ hg hn1 (by omega) (by omega) (by omega)) hN hA hK1 hS hP hD (by simp only [List.append_assoc, List.append_nil, List.nil_append]) 0 (r := (RX1, TX1, 2)) rfl rfl (cwV 2 hts gX2_isSame_X1_secondsToGo rfl rfl rfl (by decide +kernel) ⟨Nat.le_of_ble_eq_true rfl, Nat.le_of_ble_eq_true rfl⟩) rfl hl.1 rfl (Nat.le_of_ble_eq_true rfl) dX2_isSame_337 ⟨by show 0 ≤ 0; omega, by show 0 ≤ 0; omega⟩ (fun r_337 u_337 H locs hw hP hD hS => ?_)
                    have hw : r_337 = dToGo (r 4) (i195 * 10 + i292) := hw
                    subst hw
                    have hP : va_P D vwCl (XO x0 pa pb ++ (DC cI pa f r ++ (DC cI pb f2 r2 ++ (SC cI cR a ca ga n k f r ++ (CW cI ca n (r 5) ++ RW cI ga k 3 G))))) H := by simpa only [List.append_assoc, List.append_nil, List.nil_append] using hP
                    have hD : va_D A (XO x0 pa pb ++ (DC cI pa f r ++ (DC cI pb f2 r2 ++ (SC cI cR a ca ga n k f r ++ (CW cI ca n (r 5) ++ RW cI ga k 3 G))))) := by simpa only [List.append_assoc, List.append_nil, List.nil_append] using hD
                    refine lv_iload hx hb dX2_isSame_340 (lv_at hl 0 rfl) ?_
                    refine lv_if_ge (tgt := 349) hx hb dX2_isSame_342 (by decide) (fun h9 => absurd h9 (Int32.not_le.mpr c_321)) (fun c_342 => ?_)
                    refine lv_iconst (v := 0) hx hb dX2_isSame_345 (by decide) ?_
                    refine lv_goto (tgt := 358) hx hb dX2_isSame_346 (by decide) ?_
                    refine lv_icmp_ne (tgt := 382) hx hb dX2_isSame_358 (by decide) (fun h9 => absurd (if_pos ht) h9) (fun c_358 => ?_)
                    refine lv_aload_n hx hb dX2_isSame_361 rfl (lv_at hl 5 rfl) ?_
                    refine lv_iload hx hb dX2_isSame_362 (lv_at hl 2 rfl) ?_
                    refine lv_iload hx hb dX2_isSame_364 (lv_at hl 1 rfl) ?_
                    refine wCVi (pre := ([] : va_W)) (Wc := XO x0 pa pb ++ (DC cI pa f r ++ DC cI pb f2 r2)) (suf := SC cI cR a ca ga n k f r ++ (CW cI ca n (r 5) ++ RW cI ga k 3 G)) (As := [.int (nI i195), .int (nI i292)]) (rest := []) ⟨hx, hb, hml, hown, hts⟩ (mX1_caughtBy l D cI x0 pa pb f f2 r r2 n i195 i292 _ hg hn1 (by omega) (by omega) (by omega)) hN hA hK1 hS hP hD (by simp only [List.append_assoc, List.append_nil, List.nil_append]) 0 (r := (RX1, TX1, 2)) rfl rfl (cwV 2 hts gX2_isSame_X1_caughtBy rfl rfl rfl (by decide +kernel) ⟨Nat.le_of_ble_eq_true rfl, Nat.le_of_ble_eq_true rfl⟩) rfl hl.1 rfl (Nat.le_of_ble_eq_true rfl) dX2_isSame_366 ⟨by show 0 ≤ 0; omega, by show 0 ≤ 0; omega⟩ (fun r_366 u_366 H locs hw hP hD hS => ?_)
                    have hw : r_366 = r 5 (i195 * 10 + i292) := hw
                    subst hw
                    have hP : va_P D vwCl (XO x0 pa pb ++ (DC cI pa f r ++ (DC cI pb f2 r2 ++ (SC cI cR a ca ga n k f r ++ (CW cI ca n (r 5) ++ RW cI ga k 3 G))))) H := by simpa only [List.append_assoc, List.append_nil, List.nil_append] using hP
                    have hD : va_D A (XO x0 pa pb ++ (DC cI pa f r ++ (DC cI pb f2 r2 ++ (SC cI cR a ca ga n k f r ++ (CW cI ca n (r 5) ++ RW cI ga k 3 G))))) := by simpa only [List.append_assoc, List.append_nil, List.nil_append] using hD
                    refine lv_aload_n hx hb dX2_isSame_369 rfl (lv_at hl 4 rfl) ?_
                    refine va_get (D := D) (ci := 2) (v := .ref (a 5)) (C := RX2) (T := TX2) (N := 15) hx hb hw2 (fun _ h => h) hown hK hP 17 rfl rfl 13 (by decide) k38 (fun _ h9 => h9) rfl dX2_isSame_370 ?_
                    refine lv_iload hx hb dX2_isSame_373 (lv_at hl 2 rfl) ?_
                    refine wAald hx hb hK hP 23 1 rfl rfl i195 rfl (by omega) (by omega) (RF_in (by omega)) dX2_isSame_375 ?_
                    refine lv_iload hx hb dX2_isSame_376 (lv_at hl 1 rfl) ?_
                    refine wIaldR (pre := XO x0 pa pb ++ (DC cI pa f r ++ (DC cI pb f2 r2 ++ SC cI cR a ca ga n k f r))) (suf := RW cI ga k 3 G) (bb := ca) (N := n) (len := n) (v := fun i j => (r 5) (i * 10 + j)) hx hb hK hP 0 (by simp only [CW, List.append_assoc, List.append_nil, List.nil_append]) rfl i195 (by omega) i292 rfl (by omega) (by omega) dX2_isSame_378 ?_
                    refine lv_icmp_eq (tgt := 384) hx hb dX2_isSame_379 (by decide) (fun c_379 => ?_) (fun h9 => absurd (rfl) h9)
                    refine lv_iinc (v := nI (i292 + 1)) (lv' := [(5, .int (nI (i292 + 1))), (6, .int (sFind G (nI i195) (nI i292) k 0)), (4, .int (nI i195)), (3, .int (nI (dQuiet (r 3) i195))), (0, .ref (a 0)), (1, .ref x0)]) hx hb dX2_isSame_384 hl (k := 1) rfl (nI_1 i292) (by decide) rfl (fun ls hl => ?_)
                    refine lv_goto (tgt := 292) hx hb dX2_isSame_387 (by decide) ?_
                    exact ih292 (i292 + 1) (by omega) _ _ _ hP hD hS (lv_sub hl [0, 2, 3, 4, 5] rfl)
                  · obtain ⟨q, hq, eb, eG, ht⟩ := hB1 i195 i292 (by omega) (by omega) c_321
                    refine lv_iconst (v := 1) hx hb dX2_isSame_324 (by decide) ?_
                    refine lv_goto (tgt := 329) hx hb dX2_isSame_325 (by decide) ?_
                    refine lv_icmp_ne (tgt := 382) hx hb dX2_isSame_329 (by decide) (fun h9 => absurd (if_neg ht) h9) (fun c_329 => ?_)
                    refine lv_aload_n hx hb dX2_isSame_332 rfl (lv_at hl 5 rfl) ?_
                    refine lv_iload hx hb dX2_isSame_333 (lv_at hl 2 rfl) ?_
                    refine lv_iload hx hb dX2_isSame_335 (lv_at hl 1 rfl) ?_
                    refine wCVi (pre := ([] : va_W)) (Wc := XO x0 pa pb ++ (DC cI pa f r ++ DC cI pb f2 r2)) (suf := SC cI cR a ca ga n k f r ++ (CW cI ca n (r 5) ++ RW cI ga k 3 G)) (As := [.int (nI i195), .int (nI i292)]) (rest := []) ⟨hx, hb, hml, hown, hts⟩ (mX1_secondsToGo l D cI x0 pa pb f f2 r r2 n i195 i292 _ hg hn1 (by omega) (by omega) (by omega)) hN hA hK1 hS hP hD (by simp only [List.append_assoc, List.append_nil, List.nil_append]) 0 (r := (RX1, TX1, 2)) rfl rfl (cwV 2 hts gX2_isSame_X1_secondsToGo rfl rfl rfl (by decide +kernel) ⟨Nat.le_of_ble_eq_true rfl, Nat.le_of_ble_eq_true rfl⟩) rfl hl.1 rfl (Nat.le_of_ble_eq_true rfl) dX2_isSame_337 ⟨by show 0 ≤ 0; omega, by show 0 ≤ 0; omega⟩ (fun r_337 u_337 H locs hw hP hD hS => ?_)
                    have hw : r_337 = dToGo (r 4) (i195 * 10 + i292) := hw
                    subst hw
                    have hP : va_P D vwCl (XO x0 pa pb ++ (DC cI pa f r ++ (DC cI pb f2 r2 ++ (SC cI cR a ca ga n k f r ++ (CW cI ca n (r 5) ++ RW cI ga k 3 G))))) H := by simpa only [List.append_assoc, List.append_nil, List.nil_append] using hP
                    have hD : va_D A (XO x0 pa pb ++ (DC cI pa f r ++ (DC cI pb f2 r2 ++ (SC cI cR a ca ga n k f r ++ (CW cI ca n (r 5) ++ RW cI ga k 3 G))))) := by simpa only [List.append_assoc, List.append_nil, List.nil_append] using hD
                    refine lv_iload hx hb dX2_isSame_340 (lv_at hl 0 rfl) ?_
                    refine lv_if_ge (tgt := 349) hx hb dX2_isSame_342 (by decide) (fun c_342 => ?_) (fun h9 => absurd (Int32.not_lt.mp c_321) h9)
                    refine lv_aload_n hx hb dX2_isSame_349 rfl (lv_at hl 4 rfl) ?_
                    refine va_get (D := D) (ci := 2) (v := .ref (a 6)) (C := RX2) (T := TX2) (N := 15) hx hb hw2 (fun _ h => h) hown hK hP 17 rfl rfl 14 (by decide) k18 (fun _ h9 => h9) rfl dX2_isSame_350 ?_
                    refine lv_iload hx hb dX2_isSame_353 (lv_at hl 0 rfl) ?_
                    refine wAald hx hb hK hP 18 1 rfl rfl q eb (hq) (by omega) (RF_in (hq)) dX2_isSame_355 ?_
                    refine lv_iconst (v := 2) hx hb dX2_isSame_356 (by decide) ?_
                    refine wIaldR (pre := XO x0 pa pb ++ (DC cI pa f r ++ (DC cI pb f2 r2 ++ (SC cI cR a ca ga n k f r ++ CW cI ca n (r 5))))) (suf := ([] : va_W)) (bb := ga) (N := k) (len := 3) (v := G) hx hb hK hP 0 (by simp only [List.append_assoc, List.append_nil, List.nil_append]) rfl q (by omega) 2 rfl (by decide) (by decide) dX2_isSame_357 ?_
                    refine lv_icmp_ne (tgt := 382) hx hb dX2_isSame_358 (by decide) (fun h9 => absurd ((if_neg ht).trans eG.symm) h9) (fun c_358 => ?_)
                    refine lv_aload_n hx hb dX2_isSame_361 rfl (lv_at hl 5 rfl) ?_
                    refine lv_iload hx hb dX2_isSame_362 (lv_at hl 2 rfl) ?_
                    refine lv_iload hx hb dX2_isSame_364 (lv_at hl 1 rfl) ?_
                    refine wCVi (pre := ([] : va_W)) (Wc := XO x0 pa pb ++ (DC cI pa f r ++ DC cI pb f2 r2)) (suf := SC cI cR a ca ga n k f r ++ (CW cI ca n (r 5) ++ RW cI ga k 3 G)) (As := [.int (nI i195), .int (nI i292)]) (rest := []) ⟨hx, hb, hml, hown, hts⟩ (mX1_caughtBy l D cI x0 pa pb f f2 r r2 n i195 i292 _ hg hn1 (by omega) (by omega) (by omega)) hN hA hK1 hS hP hD (by simp only [List.append_assoc, List.append_nil, List.nil_append]) 0 (r := (RX1, TX1, 2)) rfl rfl (cwV 2 hts gX2_isSame_X1_caughtBy rfl rfl rfl (by decide +kernel) ⟨Nat.le_of_ble_eq_true rfl, Nat.le_of_ble_eq_true rfl⟩) rfl hl.1 rfl (Nat.le_of_ble_eq_true rfl) dX2_isSame_366 ⟨by show 0 ≤ 0; omega, by show 0 ≤ 0; omega⟩ (fun r_366 u_366 H locs hw hP hD hS => ?_)
                    have hw : r_366 = r 5 (i195 * 10 + i292) := hw
                    subst hw
                    have hP : va_P D vwCl (XO x0 pa pb ++ (DC cI pa f r ++ (DC cI pb f2 r2 ++ (SC cI cR a ca ga n k f r ++ (CW cI ca n (r 5) ++ RW cI ga k 3 G))))) H := by simpa only [List.append_assoc, List.append_nil, List.nil_append] using hP
                    have hD : va_D A (XO x0 pa pb ++ (DC cI pa f r ++ (DC cI pb f2 r2 ++ (SC cI cR a ca ga n k f r ++ (CW cI ca n (r 5) ++ RW cI ga k 3 G))))) := by simpa only [List.append_assoc, List.append_nil, List.nil_append] using hD
                    refine lv_aload_n hx hb dX2_isSame_369 rfl (lv_at hl 4 rfl) ?_
                    refine va_get (D := D) (ci := 2) (v := .ref (a 5)) (C := RX2) (T := TX2) (N := 15) hx hb hw2 (fun _ h => h) hown hK hP 17 rfl rfl 13 (by decide) k38 (fun _ h9 => h9) rfl dX2_isSame_370 ?_
                    refine lv_iload hx hb dX2_isSame_373 (lv_at hl 2 rfl) ?_
                    refine wAald hx hb hK hP 23 1 rfl rfl i195 rfl (by omega) (by omega) (RF_in (by omega)) dX2_isSame_375 ?_
                    refine lv_iload hx hb dX2_isSame_376 (lv_at hl 1 rfl) ?_
                    refine wIaldR (pre := XO x0 pa pb ++ (DC cI pa f r ++ (DC cI pb f2 r2 ++ SC cI cR a ca ga n k f r))) (suf := RW cI ga k 3 G) (bb := ca) (N := n) (len := n) (v := fun i j => (r 5) (i * 10 + j)) hx hb hK hP 0 (by simp only [CW, List.append_assoc, List.append_nil, List.nil_append]) rfl i195 (by omega) i292 rfl (by omega) (by omega) dX2_isSame_378 ?_
                    refine lv_icmp_eq (tgt := 384) hx hb dX2_isSame_379 (by decide) (fun c_379 => ?_) (fun h9 => absurd (rfl) h9)
                    refine lv_iinc (v := nI (i292 + 1)) (lv' := [(5, .int (nI (i292 + 1))), (6, .int (sFind G (nI i195) (nI i292) k 0)), (4, .int (nI i195)), (3, .int (nI (dQuiet (r 3) i195))), (0, .ref (a 0)), (1, .ref x0)]) hx hb dX2_isSame_384 hl (k := 1) rfl (nI_1 i292) (by decide) rfl (fun ls hl => ?_)
                    refine lv_goto (tgt := 292) hx hb dX2_isSame_387 (by decide) ?_
                    exact ih292 (i292 + 1) (by omega) _ _ _ hP hD hS (lv_sub hl [0, 2, 3, 4, 5] rfl)
              exact loop292 n 0 (by omega) _ _ _ hP hD hS (lv_sub hl [0, 2, 1, 3, 4] rfl)
        exact loop195 n 0 (by omega) _ _ _ hP hD hS (lv_sub hl [0, 1, 4, 5] rfl)
      · refine lv_iconst (v := 0) hx hb dX2_isSame_103 (by decide) ?_
        refine lv_goto (tgt := 111) hx hb dX2_isSame_104 (by decide) ?_
        refine lv_icmp_ne (tgt := 188) hx hb dX2_isSame_111 (by decide) (fun h9 => absurd (h34 c_100) h9) (fun c_111 => ?_)
        refine lv_aload_n hx hb dX2_isSame_114 rfl (lv_at hl 3 rfl) ?_
        refine wCVi (pre := ([] : va_W)) (Wc := XO x0 pa pb ++ (DC cI pa f r ++ DC cI pb f2 r2)) (suf := SC cI cR a ca ga n k f r ++ (CW cI ca n (r 5) ++ RW cI ga k 3 G)) (As := []) (rest := []) ⟨hx, hb, hml, hown, hts⟩ (mX1_pause l D cI x0 pa pb f f2 r r2 _) hN hA hK1 hS hP hD (by simp only [List.append_assoc, List.append_nil, List.nil_append]) 0 (r := (RX1, TX1, 2)) rfl rfl (cwV 0 hts gX2_isSame_X1_pause rfl rfl rfl (by decide +kernel) ⟨Nat.le_of_ble_eq_true rfl, Nat.le_of_ble_eq_true rfl⟩) rfl hl.1 rfl (Nat.le_of_ble_eq_true rfl) dX2_isSame_115 ⟨by show 0 ≤ 0; omega, by show 0 ≤ 0; omega⟩ (fun r_115 u_115 H locs hw hP hD hS => ?_)
        have hw : r_115 = f 5 := hw
        subst hw
        have hP : va_P D vwCl (XO x0 pa pb ++ (DC cI pa f r ++ (DC cI pb f2 r2 ++ (SC cI cR a ca ga n k f r ++ (CW cI ca n (r 5) ++ RW cI ga k 3 G))))) H := by simpa only [List.append_assoc, List.append_nil, List.nil_append] using hP
        have hD : va_D A (XO x0 pa pb ++ (DC cI pa f r ++ (DC cI pb f2 r2 ++ (SC cI cR a ca ga n k f r ++ (CW cI ca n (r 5) ++ RW cI ga k 3 G))))) := by simpa only [List.append_assoc, List.append_nil, List.nil_append] using hD
        refine lv_aload_n hx hb dX2_isSame_118 rfl (lv_at hl 2 rfl) ?_
        refine va_get (D := D) (ci := 2) (v := .int (f 5)) (C := RX2) (T := TX2) (N := 15) hx hb hw2 (fun _ h => h) hown hK hP 17 rfl rfl 5 (by decide) k50 (fun _ h9 => h9) rfl dX2_isSame_119 ?_
        refine lv_icmp_ne (tgt := 188) hx hb dX2_isSame_122 (by decide) (fun h9 => absurd (rfl) h9) (fun c_122 => ?_)
        refine lv_aload_n hx hb dX2_isSame_125 rfl (lv_at hl 3 rfl) ?_
        refine wCVi (pre := ([] : va_W)) (Wc := XO x0 pa pb ++ (DC cI pa f r ++ DC cI pb f2 r2)) (suf := SC cI cR a ca ga n k f r ++ (CW cI ca n (r 5) ++ RW cI ga k 3 G)) (As := []) (rest := []) ⟨hx, hb, hml, hown, hts⟩ (mX1_unsaidInPauses l D cI x0 pa pb f f2 r r2 _) hN hA hK1 hS hP hD (by simp only [List.append_assoc, List.append_nil, List.nil_append]) 0 (r := (RX1, TX1, 2)) rfl rfl (cwV 0 hts gX2_isSame_X1_unsaidInPauses rfl rfl rfl (by decide +kernel) ⟨Nat.le_of_ble_eq_true rfl, Nat.le_of_ble_eq_true rfl⟩) rfl hl.1 rfl (Nat.le_of_ble_eq_true rfl) dX2_isSame_126 ⟨by show 0 ≤ 0; omega, by show 0 ≤ 0; omega⟩ (fun r_126 u_126 H locs hw hP hD hS => ?_)
        have hw : r_126 = f 6 := hw
        subst hw
        have hP : va_P D vwCl (XO x0 pa pb ++ (DC cI pa f r ++ (DC cI pb f2 r2 ++ (SC cI cR a ca ga n k f r ++ (CW cI ca n (r 5) ++ RW cI ga k 3 G))))) H := by simpa only [List.append_assoc, List.append_nil, List.nil_append] using hP
        have hD : va_D A (XO x0 pa pb ++ (DC cI pa f r ++ (DC cI pb f2 r2 ++ (SC cI cR a ca ga n k f r ++ (CW cI ca n (r 5) ++ RW cI ga k 3 G))))) := by simpa only [List.append_assoc, List.append_nil, List.nil_append] using hD
        refine lv_aload_n hx hb dX2_isSame_129 rfl (lv_at hl 2 rfl) ?_
        refine va_get (D := D) (ci := 2) (v := .int (f 6)) (C := RX2) (T := TX2) (N := 15) hx hb hw2 (fun _ h => h) hown hK hP 17 rfl rfl 6 (by decide) k53 (fun _ h9 => h9) rfl dX2_isSame_130 ?_
        refine lv_icmp_ne (tgt := 188) hx hb dX2_isSame_133 (by decide) (fun h9 => absurd (rfl) h9) (fun c_133 => ?_)
        refine lv_aload_n hx hb dX2_isSame_136 rfl (lv_at hl 3 rfl) ?_
        refine wCVi (pre := ([] : va_W)) (Wc := XO x0 pa pb ++ (DC cI pa f r ++ DC cI pb f2 r2)) (suf := SC cI cR a ca ga n k f r ++ (CW cI ca n (r 5) ++ RW cI ga k 3 G)) (As := []) (rest := []) ⟨hx, hb, hml, hown, hts⟩ (mX1_allUnsaid l D cI x0 pa pb f f2 r r2 n _ hg hn1 (by omega)) hN hA hK1 hS hP hD (by simp only [List.append_assoc, List.append_nil, List.nil_append]) 0 (r := (RX1, TX1, 2)) rfl rfl (cwV 0 hts gX2_isSame_X1_allUnsaid rfl rfl rfl (by decide +kernel) ⟨Nat.le_of_ble_eq_true rfl, Nat.le_of_ble_eq_true rfl⟩) rfl hl.1 rfl (Nat.le_of_ble_eq_true rfl) dX2_isSame_137 ⟨by show 0 ≤ 0; omega, by show 0 ≤ 0; omega⟩ (fun r_137 u_137 H locs hw hP hD hS => ?_)
        have hw : r_137 = dSum (r 3) n + f 6 := hw
        subst hw
        have hP : va_P D vwCl (XO x0 pa pb ++ (DC cI pa f r ++ (DC cI pb f2 r2 ++ (SC cI cR a ca ga n k f r ++ (CW cI ca n (r 5) ++ RW cI ga k 3 G))))) H := by simpa only [List.append_assoc, List.append_nil, List.nil_append] using hP
        have hD : va_D A (XO x0 pa pb ++ (DC cI pa f r ++ (DC cI pb f2 r2 ++ (SC cI cR a ca ga n k f r ++ (CW cI ca n (r 5) ++ RW cI ga k 3 G))))) := by simpa only [List.append_assoc, List.append_nil, List.nil_append] using hD
        refine lv_aload_n hx hb dX2_isSame_140 rfl (lv_at hl 2 rfl) ?_
        refine wCVi (pre := XO x0 pa pb ++ (DC cI pa f r ++ DC cI pb f2 r2)) (Wc := SC cI cR a ca ga n k f r ++ (CW cI ca n (r 5) ++ RW cI ga k 3 G)) (suf := ([] : va_W)) (As := []) (rest := [.int (dSum (r 3) n + f 6)]) ⟨hx, hb, hml, hown, hts⟩ (mX2_all l D cI cR a ca ga n k f r G _ hg hn0 hn1 hk) hN hA hK hS hP hD (by simp only [List.append_assoc, List.append_nil, List.nil_append]) 0 (r := (RX2, TX2, 15)) rfl rfl (cwV 0 hts gX2_isSame_X2_all rfl rfl rfl (by decide +kernel) ⟨Nat.le_of_ble_eq_true rfl, Nat.le_of_ble_eq_true rfl⟩) rfl hl.1 rfl (Nat.le_of_ble_eq_true rfl) dX2_isSame_141 ⟨by show 0 ≤ 0; omega, by show 0 ≤ 0; omega⟩ (fun r_141 u_141 H locs hw hP hD hS => ?_)
        have hw : r_141 = dSum (r 3) n + (f 6) := hw
        subst hw
        have hP : va_P D vwCl (XO x0 pa pb ++ (DC cI pa f r ++ (DC cI pb f2 r2 ++ (SC cI cR a ca ga n k f r ++ (CW cI ca n (r 5) ++ RW cI ga k 3 G))))) H := by simpa only [List.append_assoc, List.append_nil, List.nil_append] using hP
        have hD : va_D A (XO x0 pa pb ++ (DC cI pa f r ++ (DC cI pb f2 r2 ++ (SC cI cR a ca ga n k f r ++ (CW cI ca n (r 5) ++ RW cI ga k 3 G))))) := by simpa only [List.append_assoc, List.append_nil, List.nil_append] using hD
        refine lv_icmp_ne (tgt := 188) hx hb dX2_isSame_144 (by decide) (fun h9 => absurd (rfl) h9) (fun c_144 => ?_)
        refine lv_aload_n hx hb dX2_isSame_147 rfl (lv_at hl 3 rfl) ?_
        refine wCVi (pre := ([] : va_W)) (Wc := XO x0 pa pb ++ (DC cI pa f r ++ DC cI pb f2 r2)) (suf := SC cI cR a ca ga n k f r ++ (CW cI ca n (r 5) ++ RW cI ga k 3 G)) (As := []) (rest := []) ⟨hx, hb, hml, hown, hts⟩ (mX1_glancesUnderWay l D cI x0 pa pb f f2 r r2 _) hN hA hK1 hS hP hD (by simp only [List.append_assoc, List.append_nil, List.nil_append]) 0 (r := (RX1, TX1, 2)) rfl rfl (cwV 0 hts gX2_isSame_X1_glancesUnderWay rfl rfl rfl (by decide +kernel) ⟨Nat.le_of_ble_eq_true rfl, Nat.le_of_ble_eq_true rfl⟩) rfl hl.1 rfl (Nat.le_of_ble_eq_true rfl) dX2_isSame_148 ⟨by show 0 ≤ 0; omega, by show 0 ≤ 0; omega⟩ (fun r_148 u_148 H locs hw hP hD hS => ?_)
        have hw : r_148 = f 9 := hw
        subst hw
        have hP : va_P D vwCl (XO x0 pa pb ++ (DC cI pa f r ++ (DC cI pb f2 r2 ++ (SC cI cR a ca ga n k f r ++ (CW cI ca n (r 5) ++ RW cI ga k 3 G))))) H := by simpa only [List.append_assoc, List.append_nil, List.nil_append] using hP
        have hD : va_D A (XO x0 pa pb ++ (DC cI pa f r ++ (DC cI pb f2 r2 ++ (SC cI cR a ca ga n k f r ++ (CW cI ca n (r 5) ++ RW cI ga k 3 G))))) := by simpa only [List.append_assoc, List.append_nil, List.nil_append] using hD
        refine lv_iload_n hx hb dX2_isSame_151 rfl (lv_at hl 1 rfl) ?_
        refine lv_icmp_ne (tgt := 188) hx hb dX2_isSame_152 (by decide) (fun h9 => absurd (hsent) h9) (fun c_152 => ?_)
        refine lv_aload_n hx hb dX2_isSame_155 rfl (lv_at hl 3 rfl) ?_
        refine wCVi (pre := ([] : va_W)) (Wc := XO x0 pa pb ++ (DC cI pa f r ++ DC cI pb f2 r2)) (suf := SC cI cR a ca ga n k f r ++ (CW cI ca n (r 5) ++ RW cI ga k 3 G)) (As := []) (rest := []) ⟨hx, hb, hml, hown, hts⟩ (mX1_meetings l D cI x0 pa pb f f2 r r2 _) hN hA hK1 hS hP hD (by simp only [List.append_assoc, List.append_nil, List.nil_append]) 0 (r := (RX1, TX1, 2)) rfl rfl (cwV 0 hts gX2_isSame_X1_meetings rfl rfl rfl (by decide +kernel) ⟨Nat.le_of_ble_eq_true rfl, Nat.le_of_ble_eq_true rfl⟩) rfl hl.1 rfl (Nat.le_of_ble_eq_true rfl) dX2_isSame_156 ⟨by show 0 ≤ 0; omega, by show 0 ≤ 0; omega⟩ (fun r_156 u_156 H locs hw hP hD hS => ?_)
        have hw : r_156 = f 7 := hw
        subst hw
        have hP : va_P D vwCl (XO x0 pa pb ++ (DC cI pa f r ++ (DC cI pb f2 r2 ++ (SC cI cR a ca ga n k f r ++ (CW cI ca n (r 5) ++ RW cI ga k 3 G))))) H := by simpa only [List.append_assoc, List.append_nil, List.nil_append] using hP
        have hD : va_D A (XO x0 pa pb ++ (DC cI pa f r ++ (DC cI pb f2 r2 ++ (SC cI cR a ca ga n k f r ++ (CW cI ca n (r 5) ++ RW cI ga k 3 G))))) := by simpa only [List.append_assoc, List.append_nil, List.nil_append] using hD
        refine lv_aload_n hx hb dX2_isSame_159 rfl (lv_at hl 2 rfl) ?_
        refine va_get (D := D) (ci := 2) (v := .int (f 7)) (C := RX2) (T := TX2) (N := 15) hx hb hw2 (fun _ h => h) hown hK hP 17 rfl rfl 7 (by decide) k56 (fun _ h9 => h9) rfl dX2_isSame_160 ?_
        refine lv_icmp_ne (tgt := 188) hx hb dX2_isSame_163 (by decide) (fun h9 => absurd (rfl) h9) (fun c_163 => ?_)
        refine lv_aload_n hx hb dX2_isSame_166 rfl (lv_at hl 3 rfl) ?_
        refine wCVi (pre := ([] : va_W)) (Wc := XO x0 pa pb ++ (DC cI pa f r ++ DC cI pb f2 r2)) (suf := SC cI cR a ca ga n k f r ++ (CW cI ca n (r 5) ++ RW cI ga k 3 G)) (As := []) (rest := []) ⟨hx, hb, hml, hown, hts⟩ (mX1_lostGlances l D cI x0 pa pb f f2 r r2 _) hN hA hK1 hS hP hD (by simp only [List.append_assoc, List.append_nil, List.nil_append]) 0 (r := (RX1, TX1, 2)) rfl rfl (cwV 0 hts gX2_isSame_X1_lostGlances rfl rfl rfl (by decide +kernel) ⟨Nat.le_of_ble_eq_true rfl, Nat.le_of_ble_eq_true rfl⟩) rfl hl.1 rfl (Nat.le_of_ble_eq_true rfl) dX2_isSame_167 ⟨by show 0 ≤ 0; omega, by show 0 ≤ 0; omega⟩ (fun r_167 u_167 H locs hw hP hD hS => ?_)
        have hw : r_167 = f 8 := hw
        subst hw
        have hP : va_P D vwCl (XO x0 pa pb ++ (DC cI pa f r ++ (DC cI pb f2 r2 ++ (SC cI cR a ca ga n k f r ++ (CW cI ca n (r 5) ++ RW cI ga k 3 G))))) H := by simpa only [List.append_assoc, List.append_nil, List.nil_append] using hP
        have hD : va_D A (XO x0 pa pb ++ (DC cI pa f r ++ (DC cI pb f2 r2 ++ (SC cI cR a ca ga n k f r ++ (CW cI ca n (r 5) ++ RW cI ga k 3 G))))) := by simpa only [List.append_assoc, List.append_nil, List.nil_append] using hD
        refine lv_aload_n hx hb dX2_isSame_170 rfl (lv_at hl 2 rfl) ?_
        refine va_get (D := D) (ci := 2) (v := .int (f 8)) (C := RX2) (T := TX2) (N := 15) hx hb hw2 (fun _ h => h) hown hK hP 17 rfl rfl 8 (by decide) k59 (fun _ h9 => h9) rfl dX2_isSame_171 ?_
        refine lv_icmp_ne (tgt := 188) hx hb dX2_isSame_174 (by decide) (fun h9 => absurd (rfl) h9) (fun c_174 => ?_)
        refine lv_aload_n hx hb dX2_isSame_177 rfl (lv_at hl 3 rfl) ?_
        refine wCVi (pre := ([] : va_W)) (Wc := XO x0 pa pb ++ (DC cI pa f r ++ DC cI pb f2 r2)) (suf := SC cI cR a ca ga n k f r ++ (CW cI ca n (r 5) ++ RW cI ga k 3 G)) (As := []) (rest := []) ⟨hx, hb, hml, hown, hts⟩ (mX1_rating l D cI x0 pa pb f f2 r r2 n _ hg hn1 (by omega)) hN hA hK1 hS hP hD (by simp only [List.append_assoc, List.append_nil, List.nil_append]) 0 (r := (RX1, TX1, 2)) rfl rfl (cwV 0 hts gX2_isSame_X1_rating rfl rfl rfl (by decide +kernel) ⟨Nat.le_of_ble_eq_true rfl, Nat.le_of_ble_eq_true rfl⟩) rfl hl.1 rfl (Nat.le_of_ble_eq_true rfl) dX2_isSame_178 ⟨by show 0 ≤ 0; omega, by show 0 ≤ 0; omega⟩ (fun r_178 u_178 H locs hw hP hD hS => ?_)
        have hw : r_178 = dRate (f 0) (f 6) (r 3) n := hw
        subst hw
        have hP : va_P D vwCl (XO x0 pa pb ++ (DC cI pa f r ++ (DC cI pb f2 r2 ++ (SC cI cR a ca ga n k f r ++ (CW cI ca n (r 5) ++ RW cI ga k 3 G))))) H := by simpa only [List.append_assoc, List.append_nil, List.nil_append] using hP
        have hD : va_D A (XO x0 pa pb ++ (DC cI pa f r ++ (DC cI pb f2 r2 ++ (SC cI cR a ca ga n k f r ++ (CW cI ca n (r 5) ++ RW cI ga k 3 G))))) := by simpa only [List.append_assoc, List.append_nil, List.nil_append] using hD
        refine lv_aload_n hx hb dX2_isSame_181 rfl (lv_at hl 2 rfl) ?_
        refine wCVi (pre := XO x0 pa pb ++ (DC cI pa f r ++ DC cI pb f2 r2)) (Wc := SC cI cR a ca ga n k f r ++ (CW cI ca n (r 5) ++ RW cI ga k 3 G)) (suf := ([] : va_W)) (As := []) (rest := [.int (dRate (f 0) (f 6) (r 3) n)]) ⟨hx, hb, hml, hown, hts⟩ (mX2_rated l D cI cR a ca ga n k f r G _ hg hn0 hn1 hk) hN hA hK hS hP hD (by simp only [List.append_assoc, List.append_nil, List.nil_append]) 0 (r := (RX2, TX2, 15)) rfl rfl (cwV 0 hts gX2_isSame_X2_rated rfl rfl rfl (by decide +kernel) ⟨Nat.le_of_ble_eq_true rfl, Nat.le_of_ble_eq_true rfl⟩) rfl hl.1 rfl (Nat.le_of_ble_eq_true rfl) dX2_isSame_182 ⟨by show 0 ≤ 0; omega, by show 0 ≤ 0; omega⟩ (fun r_182 u_182 H locs hw hP hD hS => ?_)
        have hw : r_182 = sRated ((dSum (r 3) n + (f 6)) / (f 0)) := hw
        subst hw
        have hP : va_P D vwCl (XO x0 pa pb ++ (DC cI pa f r ++ (DC cI pb f2 r2 ++ (SC cI cR a ca ga n k f r ++ (CW cI ca n (r 5) ++ RW cI ga k 3 G))))) H := by simpa only [List.append_assoc, List.append_nil, List.nil_append] using hP
        have hD : va_D A (XO x0 pa pb ++ (DC cI pa f r ++ (DC cI pb f2 r2 ++ (SC cI cR a ca ga n k f r ++ (CW cI ca n (r 5) ++ RW cI ga k 3 G))))) := by simpa only [List.append_assoc, List.append_nil, List.nil_append] using hD
        refine lv_icmp_eq (tgt := 190) hx hb dX2_isSame_185 (by decide) (fun c_185 => ?_) (fun h9 => absurd (hrt) h9)
        refine lv_iconst (v := 0) hx hb dX2_isSame_190 (by decide) ?_
        refine lv_istore_n (lv' := [(3, .int 0), (5, .int (nI k)), (2, .int (nI (sCnt G k))), (0, .ref (a 0)), (1, .ref x0), (4, .int (nI k))]) hx hb dX2_isSame_191 rfl hl (by decide) rfl (fun ls hl => ?_)
        refine lv_iconst (v := 0) hx hb dX2_isSame_192 (by decide) ?_
        refine lv_istore (lv' := [(4, .int 0), (3, .int 0), (5, .int (nI k)), (2, .int (nI (sCnt G k))), (0, .ref (a 0)), (1, .ref x0)]) hx hb dX2_isSame_193 hl (by decide) rfl (fun ls hl => ?_)
        have loop195 : ∀ (j i195 : Nat), i195 + j = n → ∀ (H : Heap) (locs : List Loc) (ls : Array Slot), va_P D vwCl (XO x0 pa pb ++ (DC cI pa f r ++ (DC cI pb f2 r2 ++ (SC cI cR a ca ga n k f r ++ (CW cI ca n (r 5) ++ RW cI ga k 3 G))))) H → va_D A (XO x0 pa pb ++ (DC cI pa f r ++ (DC cI pb f2 r2 ++ (SC cI cR a ca ga n k f r ++ (CW cI ca n (r 5) ++ RW cI ga k 3 G))))) → va_S A s.heap H locs → lv_has ls 7 [(4, .int (nI i195)), (3, .int (nI (dQuiet (r 3) (i195 - 1)))), (0, .ref (a 0)), (1, .ref x0)] → W p l e rmX2_isSame s m args below meth c H locs 0 0 Q (F0 m 195 ls []) := by
          intro j
          induction j with
          | zero =>
            intro i195 hi195 H locs ls hP hD hS hl
            have ez : n = i195 := by omega
            subst ez
            have hq9 := dQuiet_le (r 3) (n - 1)
            refine lv_iload hx hb dX2_isSame_195 (lv_at hl 0 rfl) ?_
            refine lv_aload_n hx hb dX2_isSame_197 rfl (lv_at hl 2 rfl) ?_
            refine va_get (D := D) (ci := 2) (v := .int (f 0)) (C := RX2) (T := TX2) (N := 15) hx hb hw2 (fun _ h => h) hown hK hP 17 rfl rfl 0 (by decide) k22 (fun _ h9 => h9) rfl dX2_isSame_198 ?_
            refine lv_icmp_ge (tgt := 396) hx hb dX2_isSame_201 (by decide) (fun c_201 => ?_) (fun h9 => absurd (by rw [hg]; exact nI_le (Nat.le_refl _) (by omega)) h9)
            refine lv_aload_n hx hb dX2_isSame_396 rfl (lv_at hl 3 rfl) ?_
            refine wCVi (pre := ([] : va_W)) (Wc := XO x0 pa pb ++ (DC cI pa f r ++ DC cI pb f2 r2)) (suf := SC cI cR a ca ga n k f r ++ (CW cI ca n (r 5) ++ RW cI ga k 3 G)) (As := []) (rest := []) ⟨hx, hb, hml, hown, hts⟩ (mX1_quietest l D cI x0 pa pb f f2 r r2 n _ hg hn1 (by omega)) hN hA hK1 hS hP hD (by simp only [List.append_assoc, List.append_nil, List.nil_append]) 0 (r := (RX1, TX1, 2)) rfl rfl (cwV 0 hts gX2_isSame_X1_quietest rfl rfl rfl (by decide +kernel) ⟨Nat.le_of_ble_eq_true rfl, Nat.le_of_ble_eq_true rfl⟩) rfl hl.1 rfl (Nat.le_of_ble_eq_true rfl) dX2_isSame_397 ⟨by show 0 ≤ 0; omega, by show 0 ≤ 0; omega⟩ (fun r_397 u_397 H locs hw hP hD hS => ?_)
            have hw : r_397 = nI (dQuiet (r 3) (n - 1)) := hw
            subst hw
            have hP : va_P D vwCl (XO x0 pa pb ++ (DC cI pa f r ++ (DC cI pb f2 r2 ++ (SC cI cR a ca ga n k f r ++ (CW cI ca n (r 5) ++ RW cI ga k 3 G))))) H := by simpa only [List.append_assoc, List.append_nil, List.nil_append] using hP
            have hD : va_D A (XO x0 pa pb ++ (DC cI pa f r ++ (DC cI pb f2 r2 ++ (SC cI cR a ca ga n k f r ++ (CW cI ca n (r 5) ++ RW cI ga k 3 G))))) := by simpa only [List.append_assoc, List.append_nil, List.nil_append] using hD
            refine lv_iload_n hx hb dX2_isSame_400 rfl (lv_at hl 1 rfl) ?_
            refine lv_icmp_ne (tgt := 432) hx hb dX2_isSame_401 (by decide) (fun h9 => absurd (rfl) h9) (fun c_401 => ?_)
            have c_401n := (nI_eq (a := (dQuiet (r 3) (n - 1))) (b := (dQuiet (r 3) (n - 1))) (by omega) (by omega)).mp c_401
            refine lv_aload_n hx hb dX2_isSame_404 rfl (lv_at hl 3 rfl) ?_
            refine wCVd (pre := ([] : va_W)) (Wc := XO x0 pa pb ++ (DC cI pa f r ++ DC cI pb f2 r2)) (suf := SC cI cR a ca ga n k f r ++ (CW cI ca n (r 5) ++ RW cI ga k 3 G)) (As := []) (rest := []) ⟨hx, hb, hml, hown, hts⟩ (mX1_meanUnsaid l D cI x0 pa pb f f2 r r2 n _ hg hn1 (by omega) hnn) hN hA hK1 hS hP hD (by simp only [List.append_assoc, List.append_nil, List.nil_append]) 0 (r := (RX1, TX1, 2)) rfl rfl (cwV 0 hts gX2_isSame_X1_meanUnsaid rfl rfl rfl (by decide +kernel) ⟨Nat.le_of_ble_eq_true rfl, Nat.le_of_ble_eq_true rfl⟩) rfl hl.1 rfl (Nat.le_of_ble_eq_true rfl) dX2_isSame_405 ⟨by show 0 ≤ 0; omega, by show 0 ≤ 0; omega⟩ (fun r_405 u_405 H locs hw hP hD hS => ?_)
            have hw : r_405 = FP.ddiv (FP.i2d (dSum (r 3) n)) (FP.i2d (f 0)) := hw
            subst hw
            have hP : va_P D vwCl (XO x0 pa pb ++ (DC cI pa f r ++ (DC cI pb f2 r2 ++ (SC cI cR a ca ga n k f r ++ (CW cI ca n (r 5) ++ RW cI ga k 3 G))))) H := by simpa only [List.append_assoc, List.append_nil, List.nil_append] using hP
            have hD : va_D A (XO x0 pa pb ++ (DC cI pa f r ++ (DC cI pb f2 r2 ++ (SC cI cR a ca ga n k f r ++ (CW cI ca n (r 5) ++ RW cI ga k 3 G))))) := by simpa only [List.append_assoc, List.append_nil, List.nil_append] using hD
            refine lv_aload_n hx hb dX2_isSame_408 rfl (lv_at hl 2 rfl) ?_
            refine wCVi (pre := XO x0 pa pb ++ (DC cI pa f r ++ DC cI pb f2 r2)) (Wc := SC cI cR a ca ga n k f r ++ (CW cI ca n (r 5) ++ RW cI ga k 3 G)) (suf := ([] : va_W)) (As := []) (rest := [.double (FP.ddiv (FP.i2d (dSum (r 3) n)) (FP.i2d (f 0)))]) ⟨hx, hb, hml, hown, hts⟩ (mX2_all l D cI cR a ca ga n k f r G _ hg hn0 hn1 hk) hN hA hK hS hP hD (by simp only [List.append_assoc, List.append_nil, List.nil_append]) 0 (r := (RX2, TX2, 15)) rfl rfl (cwV 0 hts gX2_isSame_X2_all rfl rfl rfl (by decide +kernel) ⟨Nat.le_of_ble_eq_true rfl, Nat.le_of_ble_eq_true rfl⟩) rfl hl.1 rfl (Nat.le_of_ble_eq_true rfl) dX2_isSame_409 ⟨by show 0 ≤ 0; omega, by show 0 ≤ 0; omega⟩ (fun r_409 u_409 H locs hw hP hD hS => ?_)
            have hw : r_409 = dSum (r 3) n + (f 6) := hw
            subst hw
            have hP : va_P D vwCl (XO x0 pa pb ++ (DC cI pa f r ++ (DC cI pb f2 r2 ++ (SC cI cR a ca ga n k f r ++ (CW cI ca n (r 5) ++ RW cI ga k 3 G))))) H := by simpa only [List.append_assoc, List.append_nil, List.nil_append] using hP
            have hD : va_D A (XO x0 pa pb ++ (DC cI pa f r ++ (DC cI pb f2 r2 ++ (SC cI cR a ca ga n k f r ++ (CW cI ca n (r 5) ++ RW cI ga k 3 G))))) := by simpa only [List.append_assoc, List.append_nil, List.nil_append] using hD
            refine lv_aload_n hx hb dX2_isSame_412 rfl (lv_at hl 2 rfl) ?_
            refine va_get (D := D) (ci := 2) (v := .int (f 6)) (C := RX2) (T := TX2) (N := 15) hx hb hw2 (fun _ h => h) hown hK hP 17 rfl rfl 6 (by decide) k53 (fun _ h9 => h9) rfl dX2_isSame_413 ?_
            refine lv_isub hx hb dX2_isSame_416 ?_
            refine wTop (z := dSum (r 3) n) (Int32.add_sub_cancel _ _) ?_
            refine lv_i2d hx hb dX2_isSame_417 ?_
            refine lv_aload_n hx hb dX2_isSame_418 rfl (lv_at hl 2 rfl) ?_
            refine va_get (D := D) (ci := 2) (v := .int (f 0)) (C := RX2) (T := TX2) (N := 15) hx hb hw2 (fun _ h => h) hown hK hP 17 rfl rfl 0 (by decide) k22 (fun _ h9 => h9) rfl dX2_isSame_419 ?_
            refine lv_i2d hx hb dX2_isSame_422 ?_
            refine lv_ddiv hx hb dX2_isSame_423 (hnn) ?_
            refine lv_dcmp hx hb dX2_isSame_424 ?_
            refine lv_if_ne (tgt := 432) hx hb dX2_isSame_425 (by decide) (fun h9 => absurd (dcmp_self' hnn) h9) (fun c_425 => ?_)
            refine lv_iconst (v := 1) hx hb dX2_isSame_428 (by decide) ?_
            refine lv_goto (tgt := 433) hx hb dX2_isSame_429 (by decide) ?_
            exact wRz hQ hx hb hr hlocks hP hD hS dX2_isSame_433 (rfl) () (rfl) rfl
          | succ j ih195 =>
            intro i195 hi195 H locs ls hP hD hS hl
            have hq9 := dQuiet_le (r 3) (i195 - 1)
            refine lv_iload hx hb dX2_isSame_195 (lv_at hl 0 rfl) ?_
            refine lv_aload_n hx hb dX2_isSame_197 rfl (lv_at hl 2 rfl) ?_
            refine va_get (D := D) (ci := 2) (v := .int (f 0)) (C := RX2) (T := TX2) (N := 15) hx hb hw2 (fun _ h => h) hown hK hP 17 rfl rfl 0 (by decide) k22 (fun _ h9 => h9) rfl dX2_isSame_198 ?_
            refine lv_icmp_ge (tgt := 396) hx hb dX2_isSame_201 (by decide) (fun h9 => absurd h9 (by rw [hg]; exact nI_ge (by omega) (by omega))) (fun c_201 => ?_)
            refine lv_aload_n hx hb dX2_isSame_204 rfl (lv_at hl 3 rfl) ?_
            refine lv_iload hx hb dX2_isSame_205 (lv_at hl 0 rfl) ?_
            refine wCVi (pre := ([] : va_W)) (Wc := XO x0 pa pb ++ (DC cI pa f r ++ DC cI pb f2 r2)) (suf := SC cI cR a ca ga n k f r ++ (CW cI ca n (r 5) ++ RW cI ga k 3 G)) (As := [.int (nI i195)]) (rest := []) ⟨hx, hb, hml, hown, hts⟩ (mX1_spokenBy l D cI x0 pa pb f f2 r r2 n i195 _ hg hn1 (by omega) (by omega)) hN hA hK1 hS hP hD (by simp only [List.append_assoc, List.append_nil, List.nil_append]) 0 (r := (RX1, TX1, 2)) rfl rfl (cwV 1 hts gX2_isSame_X1_spokenBy rfl rfl rfl (by decide +kernel) ⟨Nat.le_of_ble_eq_true rfl, Nat.le_of_ble_eq_true rfl⟩) rfl hl.1 rfl (Nat.le_of_ble_eq_true rfl) dX2_isSame_207 ⟨by show 0 ≤ 0; omega, by show 0 ≤ 0; omega⟩ (fun r_207 u_207 H locs hw hP hD hS => ?_)
            have hw : r_207 = r 0 i195 := hw
            subst hw
            have hP : va_P D vwCl (XO x0 pa pb ++ (DC cI pa f r ++ (DC cI pb f2 r2 ++ (SC cI cR a ca ga n k f r ++ (CW cI ca n (r 5) ++ RW cI ga k 3 G))))) H := by simpa only [List.append_assoc, List.append_nil, List.nil_append] using hP
            have hD : va_D A (XO x0 pa pb ++ (DC cI pa f r ++ (DC cI pb f2 r2 ++ (SC cI cR a ca ga n k f r ++ (CW cI ca n (r 5) ++ RW cI ga k 3 G))))) := by simpa only [List.append_assoc, List.append_nil, List.nil_append] using hD
            refine lv_aload_n hx hb dX2_isSame_210 rfl (lv_at hl 2 rfl) ?_
            refine va_get (D := D) (ci := 2) (v := .ref (a 1)) (C := RX2) (T := TX2) (N := 15) hx hb hw2 (fun _ h => h) hown hK hP 17 rfl rfl 9 (by decide) k25 (fun _ h9 => h9) rfl dX2_isSame_211 ?_
            refine lv_iload hx hb dX2_isSame_214 (lv_at hl 0 rfl) ?_
            refine wIald hx hb hK hP 19 0 rfl rfl i195 rfl (by omega) (by omega) dX2_isSame_216 ?_
            refine lv_icmp_ne (tgt := 268) hx hb dX2_isSame_217 (by decide) (fun h9 => absurd (rfl) h9) (fun c_217 => ?_)
            refine lv_aload_n hx hb dX2_isSame_220 rfl (lv_at hl 3 rfl) ?_
            refine lv_iload hx hb dX2_isSame_221 (lv_at hl 0 rfl) ?_
            refine wCVi (pre := ([] : va_W)) (Wc := XO x0 pa pb ++ (DC cI pa f r ++ DC cI pb f2 r2)) (suf := SC cI cR a ca ga n k f r ++ (CW cI ca n (r 5) ++ RW cI ga k 3 G)) (As := [.int (nI i195)]) (rest := []) ⟨hx, hb, hml, hown, hts⟩ (mX1_interruptionsBy l D cI x0 pa pb f f2 r r2 n i195 _ hg hn1 (by omega) (by omega)) hN hA hK1 hS hP hD (by simp only [List.append_assoc, List.append_nil, List.nil_append]) 0 (r := (RX1, TX1, 2)) rfl rfl (cwV 1 hts gX2_isSame_X1_interruptionsBy rfl rfl rfl (by decide +kernel) ⟨Nat.le_of_ble_eq_true rfl, Nat.le_of_ble_eq_true rfl⟩) rfl hl.1 rfl (Nat.le_of_ble_eq_true rfl) dX2_isSame_223 ⟨by show 0 ≤ 0; omega, by show 0 ≤ 0; omega⟩ (fun r_223 u_223 H locs hw hP hD hS => ?_)
            have hw : r_223 = r 1 i195 := hw
            subst hw
            have hP : va_P D vwCl (XO x0 pa pb ++ (DC cI pa f r ++ (DC cI pb f2 r2 ++ (SC cI cR a ca ga n k f r ++ (CW cI ca n (r 5) ++ RW cI ga k 3 G))))) H := by simpa only [List.append_assoc, List.append_nil, List.nil_append] using hP
            have hD : va_D A (XO x0 pa pb ++ (DC cI pa f r ++ (DC cI pb f2 r2 ++ (SC cI cR a ca ga n k f r ++ (CW cI ca n (r 5) ++ RW cI ga k 3 G))))) := by simpa only [List.append_assoc, List.append_nil, List.nil_append] using hD
            refine lv_aload_n hx hb dX2_isSame_226 rfl (lv_at hl 2 rfl) ?_
            refine va_get (D := D) (ci := 2) (v := .ref (a 2)) (C := RX2) (T := TX2) (N := 15) hx hb hw2 (fun _ h => h) hown hK hP 17 rfl rfl 10 (by decide) k28 (fun _ h9 => h9) rfl dX2_isSame_227 ?_
            refine lv_iload hx hb dX2_isSame_230 (lv_at hl 0 rfl) ?_
            refine wIald hx hb hK hP 20 0 rfl rfl i195 rfl (by omega) (by omega) dX2_isSame_232 ?_
            refine lv_icmp_ne (tgt := 268) hx hb dX2_isSame_233 (by decide) (fun h9 => absurd (rfl) h9) (fun c_233 => ?_)
            refine lv_aload_n hx hb dX2_isSame_236 rfl (lv_at hl 3 rfl) ?_
            refine lv_iload hx hb dX2_isSame_237 (lv_at hl 0 rfl) ?_
            refine wCVi (pre := ([] : va_W)) (Wc := XO x0 pa pb ++ (DC cI pa f r ++ DC cI pb f2 r2)) (suf := SC cI cR a ca ga n k f r ++ (CW cI ca n (r 5) ++ RW cI ga k 3 G)) (As := [.int (nI i195)]) (rest := []) ⟨hx, hb, hml, hown, hts⟩ (mX1_coughsOf l D cI x0 pa pb f f2 r r2 n i195 _ hg hn1 (by omega) (by omega)) hN hA hK1 hS hP hD (by simp only [List.append_assoc, List.append_nil, List.nil_append]) 0 (r := (RX1, TX1, 2)) rfl rfl (cwV 1 hts gX2_isSame_X1_coughsOf rfl rfl rfl (by decide +kernel) ⟨Nat.le_of_ble_eq_true rfl, Nat.le_of_ble_eq_true rfl⟩) rfl hl.1 rfl (Nat.le_of_ble_eq_true rfl) dX2_isSame_239 ⟨by show 0 ≤ 0; omega, by show 0 ≤ 0; omega⟩ (fun r_239 u_239 H locs hw hP hD hS => ?_)
            have hw : r_239 = r 2 i195 := hw
            subst hw
            have hP : va_P D vwCl (XO x0 pa pb ++ (DC cI pa f r ++ (DC cI pb f2 r2 ++ (SC cI cR a ca ga n k f r ++ (CW cI ca n (r 5) ++ RW cI ga k 3 G))))) H := by simpa only [List.append_assoc, List.append_nil, List.nil_append] using hP
            have hD : va_D A (XO x0 pa pb ++ (DC cI pa f r ++ (DC cI pb f2 r2 ++ (SC cI cR a ca ga n k f r ++ (CW cI ca n (r 5) ++ RW cI ga k 3 G))))) := by simpa only [List.append_assoc, List.append_nil, List.nil_append] using hD
            refine lv_aload_n hx hb dX2_isSame_242 rfl (lv_at hl 2 rfl) ?_
            refine va_get (D := D) (ci := 2) (v := .ref (a 3)) (C := RX2) (T := TX2) (N := 15) hx hb hw2 (fun _ h => h) hown hK hP 17 rfl rfl 11 (by decide) k31 (fun _ h9 => h9) rfl dX2_isSame_243 ?_
            refine lv_iload hx hb dX2_isSame_246 (lv_at hl 0 rfl) ?_
            refine wIald hx hb hK hP 21 0 rfl rfl i195 rfl (by omega) (by omega) dX2_isSame_248 ?_
            refine lv_icmp_ne (tgt := 268) hx hb dX2_isSame_249 (by decide) (fun h9 => absurd (rfl) h9) (fun c_249 => ?_)
            refine lv_aload_n hx hb dX2_isSame_252 rfl (lv_at hl 3 rfl) ?_
            refine lv_iload hx hb dX2_isSame_253 (lv_at hl 0 rfl) ?_
            refine wCVi (pre := ([] : va_W)) (Wc := XO x0 pa pb ++ (DC cI pa f r ++ DC cI pb f2 r2)) (suf := SC cI cR a ca ga n k f r ++ (CW cI ca n (r 5) ++ RW cI ga k 3 G)) (As := [.int (nI i195)]) (rest := []) ⟨hx, hb, hml, hown, hts⟩ (mX1_unsaidBy l D cI x0 pa pb f f2 r r2 n i195 _ hg hn1 (by omega) (by omega)) hN hA hK1 hS hP hD (by simp only [List.append_assoc, List.append_nil, List.nil_append]) 0 (r := (RX1, TX1, 2)) rfl rfl (cwV 1 hts gX2_isSame_X1_unsaidBy rfl rfl rfl (by decide +kernel) ⟨Nat.le_of_ble_eq_true rfl, Nat.le_of_ble_eq_true rfl⟩) rfl hl.1 rfl (Nat.le_of_ble_eq_true rfl) dX2_isSame_255 ⟨by show 0 ≤ 0; omega, by show 0 ≤ 0; omega⟩ (fun r_255 u_255 H locs hw hP hD hS => ?_)
            have hw : r_255 = r 3 i195 := hw
            subst hw
            have hP : va_P D vwCl (XO x0 pa pb ++ (DC cI pa f r ++ (DC cI pb f2 r2 ++ (SC cI cR a ca ga n k f r ++ (CW cI ca n (r 5) ++ RW cI ga k 3 G))))) H := by simpa only [List.append_assoc, List.append_nil, List.nil_append] using hP
            have hD : va_D A (XO x0 pa pb ++ (DC cI pa f r ++ (DC cI pb f2 r2 ++ (SC cI cR a ca ga n k f r ++ (CW cI ca n (r 5) ++ RW cI ga k 3 G))))) := by simpa only [List.append_assoc, List.append_nil, List.nil_append] using hD
            refine lv_aload_n hx hb dX2_isSame_258 rfl (lv_at hl 2 rfl) ?_
            refine va_get (D := D) (ci := 2) (v := .ref (a 4)) (C := RX2) (T := TX2) (N := 15) hx hb hw2 (fun _ h => h) hown hK hP 17 rfl rfl 12 (by decide) k34 (fun _ h9 => h9) rfl dX2_isSame_259 ?_
            refine lv_iload hx hb dX2_isSame_262 (lv_at hl 0 rfl) ?_
            refine wIald hx hb hK hP 22 0 rfl rfl i195 rfl (by omega) (by omega) dX2_isSame_264 ?_
            refine lv_icmp_eq (tgt := 270) hx hb dX2_isSame_265 (by decide) (fun c_265 => ?_) (fun h9 => absurd (rfl) h9)
            refine lv_aload_n hx hb dX2_isSame_270 rfl (lv_at hl 2 rfl) ?_
            refine va_get (D := D) (ci := 2) (v := .ref (a 4)) (C := RX2) (T := TX2) (N := 15) hx hb hw2 (fun _ h => h) hown hK hP 17 rfl rfl 12 (by decide) k34 (fun _ h9 => h9) rfl dX2_isSame_271 ?_
            refine lv_iload hx hb dX2_isSame_274 (lv_at hl 0 rfl) ?_
            refine wIald hx hb hK hP 22 0 rfl rfl i195 rfl (by omega) (by omega) dX2_isSame_276 ?_
            refine lv_aload_n hx hb dX2_isSame_277 rfl (lv_at hl 2 rfl) ?_
            refine va_get (D := D) (ci := 2) (v := .ref (a 4)) (C := RX2) (T := TX2) (N := 15) hx hb hw2 (fun _ h => h) hown hK hP 17 rfl rfl 12 (by decide) k34 (fun _ h9 => h9) rfl dX2_isSame_278 ?_
            refine lv_iload_n hx hb dX2_isSame_281 rfl (lv_at hl 1 rfl) ?_
            refine wIald hx hb hK hP 22 0 rfl rfl (dQuiet (r 3) (i195 - 1)) rfl (by omega) (by omega) dX2_isSame_282 ?_
            refine lv_icmp_le (tgt := 289) hx hb dX2_isSame_283 (by decide) (fun c_283 => ?_) (fun c_283 => ?_)
            · have e3 : dQuiet (r 3) (i195 - 1) = dQuiet (r 3) i195 := by rw [← dQ_s (r 3) i195, if_neg (Int32.not_lt.mpr c_283)]
              have hl : lv_has ls 7 [(4, .int (nI i195)), (3, .int (nI (dQuiet (r 3) i195))), (0, .ref (a 0)), (1, .ref x0)] := (congrArg (fun z9 => lv_has ls 7 [(4, .int (nI i195)), (3, .int (nI z9)), (0, .ref (a 0)), (1, .ref x0)]) e3).mp hl
              refine lv_iconst (v := 0) hx hb dX2_isSame_289 (by decide) ?_
              refine lv_istore (lv' := [(5, .int 0), (4, .int (nI i195)), (3, .int (nI (dQuiet (r 3) i195))), (0, .ref (a 0)), (1, .ref x0)]) hx hb dX2_isSame_290 hl (by decide) rfl (fun ls hl => ?_)
              have loop292 : ∀ (j i292 : Nat), i292 + j = n → ∀ (H : Heap) (locs : List Loc) (ls : Array Slot), va_P D vwCl (XO x0 pa pb ++ (DC cI pa f r ++ (DC cI pb f2 r2 ++ (SC cI cR a ca ga n k f r ++ (CW cI ca n (r 5) ++ RW cI ga k 3 G))))) H → va_D A (XO x0 pa pb ++ (DC cI pa f r ++ (DC cI pb f2 r2 ++ (SC cI cR a ca ga n k f r ++ (CW cI ca n (r 5) ++ RW cI ga k 3 G))))) → va_S A s.heap H locs → lv_has ls 7 [(5, .int (nI i292)), (4, .int (nI i195)), (3, .int (nI (dQuiet (r 3) i195))), (0, .ref (a 0)), (1, .ref x0)] → W p l e rmX2_isSame s m args below meth c H locs 0 0 Q (F0 m 292 ls []) := by
                intro j
                induction j with
                | zero =>
                  intro i292 hi292 H locs ls hP hD hS hl
                  have ez : n = i292 := by omega
                  subst ez
                  refine lv_iload hx hb dX2_isSame_292 (lv_at hl 0 rfl) ?_
                  refine lv_aload_n hx hb dX2_isSame_294 rfl (lv_at hl 3 rfl) ?_
                  refine va_get (D := D) (ci := 2) (v := .int (f 0)) (C := RX2) (T := TX2) (N := 15) hx hb hw2 (fun _ h => h) hown hK hP 17 rfl rfl 0 (by decide) k22 (fun _ h9 => h9) rfl dX2_isSame_295 ?_
                  refine lv_icmp_ge (tgt := 390) hx hb dX2_isSame_298 (by decide) (fun c_298 => ?_) (fun h9 => absurd (by rw [hg]; exact nI_le (Nat.le_refl _) (by omega)) h9)
                  refine lv_iinc (v := nI (i195 + 1)) (lv' := [(4, .int (nI (i195 + 1))), (5, .int (nI n)), (3, .int (nI (dQuiet (r 3) i195))), (0, .ref (a 0)), (1, .ref x0)]) hx hb dX2_isSame_390 hl (k := 1) rfl (nI_1 i195) (by decide) rfl (fun ls hl => ?_)
                  refine lv_goto (tgt := 195) hx hb dX2_isSame_393 (by decide) ?_
                  exact ih195 (i195 + 1) (by omega) _ _ _ hP hD hS (lv_sub hl [0, 2, 3, 4] rfl)
                | succ j ih292 =>
                  intro i292 hi292 H locs ls hP hD hS hl
                  refine lv_iload hx hb dX2_isSame_292 (lv_at hl 0 rfl) ?_
                  refine lv_aload_n hx hb dX2_isSame_294 rfl (lv_at hl 3 rfl) ?_
                  refine va_get (D := D) (ci := 2) (v := .int (f 0)) (C := RX2) (T := TX2) (N := 15) hx hb hw2 (fun _ h => h) hown hK hP 17 rfl rfl 0 (by decide) k22 (fun _ h9 => h9) rfl dX2_isSame_295 ?_
                  refine lv_icmp_ge (tgt := 390) hx hb dX2_isSame_298 (by decide) (fun h9 => absurd h9 (by rw [hg]; exact nI_ge (by omega) (by omega))) (fun c_298 => ?_)
                  refine lv_aload_n hx hb dX2_isSame_301 rfl (lv_at hl 3 rfl) ?_
                  refine lv_iload hx hb dX2_isSame_302 (lv_at hl 1 rfl) ?_
                  refine lv_iload hx hb dX2_isSame_304 (lv_at hl 0 rfl) ?_
                  refine wCVi (pre := XO x0 pa pb ++ (DC cI pa f r ++ DC cI pb f2 r2)) (Wc := SC cI cR a ca ga n k f r ++ (CW cI ca n (r 5) ++ RW cI ga k 3 G)) (suf := ([] : va_W)) (As := [.int (nI i195), .int (nI i292)]) (rest := []) ⟨hx, hb, hml, hown, hts⟩ (mX2_find l D cI cR a ca ga n k f r G (nI i195) (nI i292) _ hg hn0 hn1 hk) hN hA hK hS hP hD (by simp only [List.append_assoc, List.append_nil, List.nil_append]) 0 (r := (RX2, TX2, 15)) rfl rfl (cwV 2 hts gX2_isSame_X2_find rfl rfl rfl (by decide +kernel) ⟨Nat.le_of_ble_eq_true rfl, Nat.le_of_ble_eq_true rfl⟩) rfl hl.1 rfl (Nat.le_of_ble_eq_true rfl) dX2_isSame_306 ⟨by show 0 ≤ 0; omega, by show 0 ≤ 0; omega⟩ (fun r_306 u_306 H locs hw hP hD hS => ?_)
                  have hw : r_306 = sFind G (nI i195) (nI i292) k 0 := hw
                  subst hw
                  have hP : va_P D vwCl (XO x0 pa pb ++ (DC cI pa f r ++ (DC cI pb f2 r2 ++ (SC cI cR a ca ga n k f r ++ (CW cI ca n (r 5) ++ RW cI ga k 3 G))))) H := by simpa only [List.append_assoc, List.append_nil, List.nil_append] using hP
                  have hD : va_D A (XO x0 pa pb ++ (DC cI pa f r ++ (DC cI pb f2 r2 ++ (SC cI cR a ca ga n k f r ++ (CW cI ca n (r 5) ++ RW cI ga k 3 G))))) := by simpa only [List.append_assoc, List.append_nil, List.nil_append] using hD
                  refine lv_istore (lv' := [(6, .int (sFind G (nI i195) (nI i292) k 0)), (5, .int (nI i292)), (4, .int (nI i195)), (3, .int (nI (dQuiet (r 3) i195))), (0, .ref (a 0)), (1, .ref x0)]) hx hb dX2_isSame_309 hl (by decide) rfl (fun ls hl => ?_)
                  refine lv_aload_n hx hb dX2_isSame_311 rfl (lv_at hl 5 rfl) ?_
                  refine lv_iload hx hb dX2_isSame_312 (lv_at hl 2 rfl) ?_
                  refine lv_iload hx hb dX2_isSame_314 (lv_at hl 1 rfl) ?_
                  refine wCVi (pre := ([] : va_W)) (Wc := XO x0 pa pb ++ (DC cI pa f r ++ DC cI pb f2 r2)) (suf := SC cI cR a ca ga n k f r ++ (CW cI ca n (r 5) ++ RW cI ga k 3 G)) (As := [.int (nI i195), .int (nI i292)]) (rest := []) ⟨hx, hb, hml, hown, hts⟩ (mX1_isUnderWay l D cI x0 pa pb f f2 r r2 n i195 i292 _ hg hn1 (by omega) (by omega) (by omega)) hN hA hK1 hS hP hD (by simp only [List.append_assoc, List.append_nil, List.nil_append]) 0 (r := (RX1, TX1, 2)) rfl rfl (cwV 2 hts gX2_isSame_X1_isUnderWay rfl rfl rfl (by decide +kernel) ⟨Nat.le_of_ble_eq_true rfl, Nat.le_of_ble_eq_true rfl⟩) rfl hl.1 rfl (Nat.le_of_ble_eq_true rfl) dX2_isSame_316 ⟨by show 0 ≤ 0; omega, by show 0 ≤ 0; omega⟩ (fun r_316 u_316 H locs hw hP hD hS => ?_)
                  have hw : r_316 = if r 4 (i195 * 10 + i292) = -1 then 0 else 1 := hw
                  subst hw
                  have hP : va_P D vwCl (XO x0 pa pb ++ (DC cI pa f r ++ (DC cI pb f2 r2 ++ (SC cI cR a ca ga n k f r ++ (CW cI ca n (r 5) ++ RW cI ga k 3 G))))) H := by simpa only [List.append_assoc, List.append_nil, List.nil_append] using hP
                  have hD : va_D A (XO x0 pa pb ++ (DC cI pa f r ++ (DC cI pb f2 r2 ++ (SC cI cR a ca ga n k f r ++ (CW cI ca n (r 5) ++ RW cI ga k 3 G))))) := by simpa only [List.append_assoc, List.append_nil, List.nil_append] using hD
                  refine lv_iload hx hb dX2_isSame_319 (lv_at hl 0 rfl) ?_
                  refine lv_if_lt (tgt := 328) hx hb dX2_isSame_321 (by decide) (fun c_321 => ?_) (fun c_321 => ?_)
                  · have ht := hA1 i195 i292 (by omega) (by omega) c_321
                    refine lv_iconst (v := 0) hx hb dX2_isSame_328 (by decide) ?_
                    refine lv_icmp_ne (tgt := 382) hx hb dX2_isSame_329 (by decide) (fun h9 => absurd (if_pos ht) h9) (fun c_329 => ?_)
                    refine lv_aload_n hx hb dX2_isSame_332 rfl (lv_at hl 5 rfl) ?_
                    refine lv_iload hx hb dX2_isSame_333 (lv_at hl 2 rfl) ?_
                    refine lv_iload hx hb dX2_isSame_335 (lv_at hl 1 rfl) ?_
                    refine wCVi (pre := ([] : va_W)) (Wc := XO x0 pa pb ++ (DC cI pa f r ++ DC cI pb f2 r2)) (suf := SC cI cR a ca ga n k f r ++ (CW cI ca n (r 5) ++ RW cI ga k 3 G)) (As := [.int (nI i195), .int (nI i292)]) (rest := []) ⟨hx, hb, hml, hown, hts⟩ (mX1_secondsToGo l D cI x0 pa pb f f2 r r2 n i195 i292 _ hg hn1 (by omega) (by omega) (by omega)) hN hA hK1 hS hP hD (by simp only [List.append_assoc, List.append_nil, List.nil_append]) 0 (r := (RX1, TX1, 2)) rfl rfl (cwV 2 hts gX2_isSame_X1_secondsToGo rfl rfl rfl (by decide +kernel) ⟨Nat.le_of_ble_eq_true rfl, Nat.le_of_ble_eq_true rfl⟩) rfl hl.1 rfl (Nat.le_of_ble_eq_true rfl) dX2_isSame_337 ⟨by show 0 ≤ 0; omega, by show 0 ≤ 0; omega⟩ (fun r_337 u_337 H locs hw hP hD hS => ?_)
                    have hw : r_337 = dToGo (r 4) (i195 * 10 + i292) := hw
                    subst hw
                    have hP : va_P D vwCl (XO x0 pa pb ++ (DC cI pa f r ++ (DC cI pb f2 r2 ++ (SC cI cR a ca ga n k f r ++ (CW cI ca n (r 5) ++ RW cI ga k 3 G))))) H := by simpa only [List.append_assoc, List.append_nil, List.nil_append] using hP
                    have hD : va_D A (XO x0 pa pb ++ (DC cI pa f r ++ (DC cI pb f2 r2 ++ (SC cI cR a ca ga n k f r ++ (CW cI ca n (r 5) ++ RW cI ga k 3 G))))) := by simpa only [List.append_assoc, List.append_nil, List.nil_append] using hD
                    refine lv_iload hx hb dX2_isSame_340 (lv_at hl 0 rfl) ?_
                    refine lv_if_ge (tgt := 349) hx hb dX2_isSame_342 (by decide) (fun h9 => absurd h9 (Int32.not_le.mpr c_321)) (fun c_342 => ?_)
                    refine lv_iconst (v := 0) hx hb dX2_isSame_345 (by decide) ?_
                    refine lv_goto (tgt := 358) hx hb dX2_isSame_346 (by decide) ?_
                    refine lv_icmp_ne (tgt := 382) hx hb dX2_isSame_358 (by decide) (fun h9 => absurd (if_pos ht) h9) (fun c_358 => ?_)
                    refine lv_aload_n hx hb dX2_isSame_361 rfl (lv_at hl 5 rfl) ?_
                    refine lv_iload hx hb dX2_isSame_362 (lv_at hl 2 rfl) ?_
                    refine lv_iload hx hb dX2_isSame_364 (lv_at hl 1 rfl) ?_
                    refine wCVi (pre := ([] : va_W)) (Wc := XO x0 pa pb ++ (DC cI pa f r ++ DC cI pb f2 r2)) (suf := SC cI cR a ca ga n k f r ++ (CW cI ca n (r 5) ++ RW cI ga k 3 G)) (As := [.int (nI i195), .int (nI i292)]) (rest := []) ⟨hx, hb, hml, hown, hts⟩ (mX1_caughtBy l D cI x0 pa pb f f2 r r2 n i195 i292 _ hg hn1 (by omega) (by omega) (by omega)) hN hA hK1 hS hP hD (by simp only [List.append_assoc, List.append_nil, List.nil_append]) 0 (r := (RX1, TX1, 2)) rfl rfl (cwV 2 hts gX2_isSame_X1_caughtBy rfl rfl rfl (by decide +kernel) ⟨Nat.le_of_ble_eq_true rfl, Nat.le_of_ble_eq_true rfl⟩) rfl hl.1 rfl (Nat.le_of_ble_eq_true rfl) dX2_isSame_366 ⟨by show 0 ≤ 0; omega, by show 0 ≤ 0; omega⟩ (fun r_366 u_366 H locs hw hP hD hS => ?_)
                    have hw : r_366 = r 5 (i195 * 10 + i292) := hw
                    subst hw
                    have hP : va_P D vwCl (XO x0 pa pb ++ (DC cI pa f r ++ (DC cI pb f2 r2 ++ (SC cI cR a ca ga n k f r ++ (CW cI ca n (r 5) ++ RW cI ga k 3 G))))) H := by simpa only [List.append_assoc, List.append_nil, List.nil_append] using hP
                    have hD : va_D A (XO x0 pa pb ++ (DC cI pa f r ++ (DC cI pb f2 r2 ++ (SC cI cR a ca ga n k f r ++ (CW cI ca n (r 5) ++ RW cI ga k 3 G))))) := by simpa only [List.append_assoc, List.append_nil, List.nil_append] using hD
                    refine lv_aload_n hx hb dX2_isSame_369 rfl (lv_at hl 4 rfl) ?_
                    refine va_get (D := D) (ci := 2) (v := .ref (a 5)) (C := RX2) (T := TX2) (N := 15) hx hb hw2 (fun _ h => h) hown hK hP 17 rfl rfl 13 (by decide) k38 (fun _ h9 => h9) rfl dX2_isSame_370 ?_
                    refine lv_iload hx hb dX2_isSame_373 (lv_at hl 2 rfl) ?_
                    refine wAald hx hb hK hP 23 1 rfl rfl i195 rfl (by omega) (by omega) (RF_in (by omega)) dX2_isSame_375 ?_
                    refine lv_iload hx hb dX2_isSame_376 (lv_at hl 1 rfl) ?_
                    refine wIaldR (pre := XO x0 pa pb ++ (DC cI pa f r ++ (DC cI pb f2 r2 ++ SC cI cR a ca ga n k f r))) (suf := RW cI ga k 3 G) (bb := ca) (N := n) (len := n) (v := fun i j => (r 5) (i * 10 + j)) hx hb hK hP 0 (by simp only [CW, List.append_assoc, List.append_nil, List.nil_append]) rfl i195 (by omega) i292 rfl (by omega) (by omega) dX2_isSame_378 ?_
                    refine lv_icmp_eq (tgt := 384) hx hb dX2_isSame_379 (by decide) (fun c_379 => ?_) (fun h9 => absurd (rfl) h9)
                    refine lv_iinc (v := nI (i292 + 1)) (lv' := [(5, .int (nI (i292 + 1))), (6, .int (sFind G (nI i195) (nI i292) k 0)), (4, .int (nI i195)), (3, .int (nI (dQuiet (r 3) i195))), (0, .ref (a 0)), (1, .ref x0)]) hx hb dX2_isSame_384 hl (k := 1) rfl (nI_1 i292) (by decide) rfl (fun ls hl => ?_)
                    refine lv_goto (tgt := 292) hx hb dX2_isSame_387 (by decide) ?_
                    exact ih292 (i292 + 1) (by omega) _ _ _ hP hD hS (lv_sub hl [0, 2, 3, 4, 5] rfl)
                  · obtain ⟨q, hq, eb, eG, ht⟩ := hB1 i195 i292 (by omega) (by omega) c_321
                    refine lv_iconst (v := 1) hx hb dX2_isSame_324 (by decide) ?_
                    refine lv_goto (tgt := 329) hx hb dX2_isSame_325 (by decide) ?_
                    refine lv_icmp_ne (tgt := 382) hx hb dX2_isSame_329 (by decide) (fun h9 => absurd (if_neg ht) h9) (fun c_329 => ?_)
                    refine lv_aload_n hx hb dX2_isSame_332 rfl (lv_at hl 5 rfl) ?_
                    refine lv_iload hx hb dX2_isSame_333 (lv_at hl 2 rfl) ?_
                    refine lv_iload hx hb dX2_isSame_335 (lv_at hl 1 rfl) ?_
                    refine wCVi (pre := ([] : va_W)) (Wc := XO x0 pa pb ++ (DC cI pa f r ++ DC cI pb f2 r2)) (suf := SC cI cR a ca ga n k f r ++ (CW cI ca n (r 5) ++ RW cI ga k 3 G)) (As := [.int (nI i195), .int (nI i292)]) (rest := []) ⟨hx, hb, hml, hown, hts⟩ (mX1_secondsToGo l D cI x0 pa pb f f2 r r2 n i195 i292 _ hg hn1 (by omega) (by omega) (by omega)) hN hA hK1 hS hP hD (by simp only [List.append_assoc, List.append_nil, List.nil_append]) 0 (r := (RX1, TX1, 2)) rfl rfl (cwV 2 hts gX2_isSame_X1_secondsToGo rfl rfl rfl (by decide +kernel) ⟨Nat.le_of_ble_eq_true rfl, Nat.le_of_ble_eq_true rfl⟩) rfl hl.1 rfl (Nat.le_of_ble_eq_true rfl) dX2_isSame_337 ⟨by show 0 ≤ 0; omega, by show 0 ≤ 0; omega⟩ (fun r_337 u_337 H locs hw hP hD hS => ?_)
                    have hw : r_337 = dToGo (r 4) (i195 * 10 + i292) := hw
                    subst hw
                    have hP : va_P D vwCl (XO x0 pa pb ++ (DC cI pa f r ++ (DC cI pb f2 r2 ++ (SC cI cR a ca ga n k f r ++ (CW cI ca n (r 5) ++ RW cI ga k 3 G))))) H := by simpa only [List.append_assoc, List.append_nil, List.nil_append] using hP
                    have hD : va_D A (XO x0 pa pb ++ (DC cI pa f r ++ (DC cI pb f2 r2 ++ (SC cI cR a ca ga n k f r ++ (CW cI ca n (r 5) ++ RW cI ga k 3 G))))) := by simpa only [List.append_assoc, List.append_nil, List.nil_append] using hD
                    refine lv_iload hx hb dX2_isSame_340 (lv_at hl 0 rfl) ?_
                    refine lv_if_ge (tgt := 349) hx hb dX2_isSame_342 (by decide) (fun c_342 => ?_) (fun h9 => absurd (Int32.not_lt.mp c_321) h9)
                    refine lv_aload_n hx hb dX2_isSame_349 rfl (lv_at hl 4 rfl) ?_
                    refine va_get (D := D) (ci := 2) (v := .ref (a 6)) (C := RX2) (T := TX2) (N := 15) hx hb hw2 (fun _ h => h) hown hK hP 17 rfl rfl 14 (by decide) k18 (fun _ h9 => h9) rfl dX2_isSame_350 ?_
                    refine lv_iload hx hb dX2_isSame_353 (lv_at hl 0 rfl) ?_
                    refine wAald hx hb hK hP 18 1 rfl rfl q eb (hq) (by omega) (RF_in (hq)) dX2_isSame_355 ?_
                    refine lv_iconst (v := 2) hx hb dX2_isSame_356 (by decide) ?_
                    refine wIaldR (pre := XO x0 pa pb ++ (DC cI pa f r ++ (DC cI pb f2 r2 ++ (SC cI cR a ca ga n k f r ++ CW cI ca n (r 5))))) (suf := ([] : va_W)) (bb := ga) (N := k) (len := 3) (v := G) hx hb hK hP 0 (by simp only [List.append_assoc, List.append_nil, List.nil_append]) rfl q (by omega) 2 rfl (by decide) (by decide) dX2_isSame_357 ?_
                    refine lv_icmp_ne (tgt := 382) hx hb dX2_isSame_358 (by decide) (fun h9 => absurd ((if_neg ht).trans eG.symm) h9) (fun c_358 => ?_)
                    refine lv_aload_n hx hb dX2_isSame_361 rfl (lv_at hl 5 rfl) ?_
                    refine lv_iload hx hb dX2_isSame_362 (lv_at hl 2 rfl) ?_
                    refine lv_iload hx hb dX2_isSame_364 (lv_at hl 1 rfl) ?_
                    refine wCVi (pre := ([] : va_W)) (Wc := XO x0 pa pb ++ (DC cI pa f r ++ DC cI pb f2 r2)) (suf := SC cI cR a ca ga n k f r ++ (CW cI ca n (r 5) ++ RW cI ga k 3 G)) (As := [.int (nI i195), .int (nI i292)]) (rest := []) ⟨hx, hb, hml, hown, hts⟩ (mX1_caughtBy l D cI x0 pa pb f f2 r r2 n i195 i292 _ hg hn1 (by omega) (by omega) (by omega)) hN hA hK1 hS hP hD (by simp only [List.append_assoc, List.append_nil, List.nil_append]) 0 (r := (RX1, TX1, 2)) rfl rfl (cwV 2 hts gX2_isSame_X1_caughtBy rfl rfl rfl (by decide +kernel) ⟨Nat.le_of_ble_eq_true rfl, Nat.le_of_ble_eq_true rfl⟩) rfl hl.1 rfl (Nat.le_of_ble_eq_true rfl) dX2_isSame_366 ⟨by show 0 ≤ 0; omega, by show 0 ≤ 0; omega⟩ (fun r_366 u_366 H locs hw hP hD hS => ?_)
                    have hw : r_366 = r 5 (i195 * 10 + i292) := hw
                    subst hw
                    have hP : va_P D vwCl (XO x0 pa pb ++ (DC cI pa f r ++ (DC cI pb f2 r2 ++ (SC cI cR a ca ga n k f r ++ (CW cI ca n (r 5) ++ RW cI ga k 3 G))))) H := by simpa only [List.append_assoc, List.append_nil, List.nil_append] using hP
                    have hD : va_D A (XO x0 pa pb ++ (DC cI pa f r ++ (DC cI pb f2 r2 ++ (SC cI cR a ca ga n k f r ++ (CW cI ca n (r 5) ++ RW cI ga k 3 G))))) := by simpa only [List.append_assoc, List.append_nil, List.nil_append] using hD
                    refine lv_aload_n hx hb dX2_isSame_369 rfl (lv_at hl 4 rfl) ?_
                    refine va_get (D := D) (ci := 2) (v := .ref (a 5)) (C := RX2) (T := TX2) (N := 15) hx hb hw2 (fun _ h => h) hown hK hP 17 rfl rfl 13 (by decide) k38 (fun _ h9 => h9) rfl dX2_isSame_370 ?_
                    refine lv_iload hx hb dX2_isSame_373 (lv_at hl 2 rfl) ?_
                    refine wAald hx hb hK hP 23 1 rfl rfl i195 rfl (by omega) (by omega) (RF_in (by omega)) dX2_isSame_375 ?_
                    refine lv_iload hx hb dX2_isSame_376 (lv_at hl 1 rfl) ?_
                    refine wIaldR (pre := XO x0 pa pb ++ (DC cI pa f r ++ (DC cI pb f2 r2 ++ SC cI cR a ca ga n k f r))) (suf := RW cI ga k 3 G) (bb := ca) (N := n) (len := n) (v := fun i j => (r 5) (i * 10 + j)) hx hb hK hP 0 (by simp only [CW, List.append_assoc, List.append_nil, List.nil_append]) rfl i195 (by omega) i292 rfl (by omega) (by omega) dX2_isSame_378 ?_
                    refine lv_icmp_eq (tgt := 384) hx hb dX2_isSame_379 (by decide) (fun c_379 => ?_) (fun h9 => absurd (rfl) h9)
                    refine lv_iinc (v := nI (i292 + 1)) (lv' := [(5, .int (nI (i292 + 1))), (6, .int (sFind G (nI i195) (nI i292) k 0)), (4, .int (nI i195)), (3, .int (nI (dQuiet (r 3) i195))), (0, .ref (a 0)), (1, .ref x0)]) hx hb dX2_isSame_384 hl (k := 1) rfl (nI_1 i292) (by decide) rfl (fun ls hl => ?_)
                    refine lv_goto (tgt := 292) hx hb dX2_isSame_387 (by decide) ?_
                    exact ih292 (i292 + 1) (by omega) _ _ _ hP hD hS (lv_sub hl [0, 2, 3, 4, 5] rfl)
              exact loop292 n 0 (by omega) _ _ _ hP hD hS (lv_sub hl [0, 1, 2, 3, 4] rfl)
            · refine lv_iload hx hb dX2_isSame_286 (lv_at hl 0 rfl) ?_
              refine lv_istore_n (lv' := [(3, .int (nI i195)), (4, .int (nI i195)), (0, .ref (a 0)), (1, .ref x0)]) hx hb dX2_isSame_288 rfl hl (by decide) rfl (fun ls hl => ?_)
              have e3 : i195 = dQuiet (r 3) i195 := ((dQ_s (r 3) i195).symm.trans (if_pos (Int32.not_le.mp c_283))).symm
              have hl : lv_has ls 7 [(3, .int (nI (dQuiet (r 3) i195))), (4, .int (nI i195)), (0, .ref (a 0)), (1, .ref x0)] := (congrArg (fun z9 => lv_has ls 7 [(3, .int (nI z9)), (4, .int (nI i195)), (0, .ref (a 0)), (1, .ref x0)]) e3).mp hl
              refine lv_iconst (v := 0) hx hb dX2_isSame_289 (by decide) ?_
              refine lv_istore (lv' := [(5, .int 0), (3, .int (nI (dQuiet (r 3) i195))), (4, .int (nI i195)), (0, .ref (a 0)), (1, .ref x0)]) hx hb dX2_isSame_290 hl (by decide) rfl (fun ls hl => ?_)
              have loop292 : ∀ (j i292 : Nat), i292 + j = n → ∀ (H : Heap) (locs : List Loc) (ls : Array Slot), va_P D vwCl (XO x0 pa pb ++ (DC cI pa f r ++ (DC cI pb f2 r2 ++ (SC cI cR a ca ga n k f r ++ (CW cI ca n (r 5) ++ RW cI ga k 3 G))))) H → va_D A (XO x0 pa pb ++ (DC cI pa f r ++ (DC cI pb f2 r2 ++ (SC cI cR a ca ga n k f r ++ (CW cI ca n (r 5) ++ RW cI ga k 3 G))))) → va_S A s.heap H locs → lv_has ls 7 [(5, .int (nI i292)), (4, .int (nI i195)), (3, .int (nI (dQuiet (r 3) i195))), (0, .ref (a 0)), (1, .ref x0)] → W p l e rmX2_isSame s m args below meth c H locs 0 0 Q (F0 m 292 ls []) := by
                intro j
                induction j with
                | zero =>
                  intro i292 hi292 H locs ls hP hD hS hl
                  have ez : n = i292 := by omega
                  subst ez
                  refine lv_iload hx hb dX2_isSame_292 (lv_at hl 0 rfl) ?_
                  refine lv_aload_n hx hb dX2_isSame_294 rfl (lv_at hl 3 rfl) ?_
                  refine va_get (D := D) (ci := 2) (v := .int (f 0)) (C := RX2) (T := TX2) (N := 15) hx hb hw2 (fun _ h => h) hown hK hP 17 rfl rfl 0 (by decide) k22 (fun _ h9 => h9) rfl dX2_isSame_295 ?_
                  refine lv_icmp_ge (tgt := 390) hx hb dX2_isSame_298 (by decide) (fun c_298 => ?_) (fun h9 => absurd (by rw [hg]; exact nI_le (Nat.le_refl _) (by omega)) h9)
                  refine lv_iinc (v := nI (i195 + 1)) (lv' := [(4, .int (nI (i195 + 1))), (5, .int (nI n)), (3, .int (nI (dQuiet (r 3) i195))), (0, .ref (a 0)), (1, .ref x0)]) hx hb dX2_isSame_390 hl (k := 1) rfl (nI_1 i195) (by decide) rfl (fun ls hl => ?_)
                  refine lv_goto (tgt := 195) hx hb dX2_isSame_393 (by decide) ?_
                  exact ih195 (i195 + 1) (by omega) _ _ _ hP hD hS (lv_sub hl [0, 2, 3, 4] rfl)
                | succ j ih292 =>
                  intro i292 hi292 H locs ls hP hD hS hl
                  refine lv_iload hx hb dX2_isSame_292 (lv_at hl 0 rfl) ?_
                  refine lv_aload_n hx hb dX2_isSame_294 rfl (lv_at hl 3 rfl) ?_
                  refine va_get (D := D) (ci := 2) (v := .int (f 0)) (C := RX2) (T := TX2) (N := 15) hx hb hw2 (fun _ h => h) hown hK hP 17 rfl rfl 0 (by decide) k22 (fun _ h9 => h9) rfl dX2_isSame_295 ?_
                  refine lv_icmp_ge (tgt := 390) hx hb dX2_isSame_298 (by decide) (fun h9 => absurd h9 (by rw [hg]; exact nI_ge (by omega) (by omega))) (fun c_298 => ?_)
                  refine lv_aload_n hx hb dX2_isSame_301 rfl (lv_at hl 3 rfl) ?_
                  refine lv_iload hx hb dX2_isSame_302 (lv_at hl 1 rfl) ?_
                  refine lv_iload hx hb dX2_isSame_304 (lv_at hl 0 rfl) ?_
                  refine wCVi (pre := XO x0 pa pb ++ (DC cI pa f r ++ DC cI pb f2 r2)) (Wc := SC cI cR a ca ga n k f r ++ (CW cI ca n (r 5) ++ RW cI ga k 3 G)) (suf := ([] : va_W)) (As := [.int (nI i195), .int (nI i292)]) (rest := []) ⟨hx, hb, hml, hown, hts⟩ (mX2_find l D cI cR a ca ga n k f r G (nI i195) (nI i292) _ hg hn0 hn1 hk) hN hA hK hS hP hD (by simp only [List.append_assoc, List.append_nil, List.nil_append]) 0 (r := (RX2, TX2, 15)) rfl rfl (cwV 2 hts gX2_isSame_X2_find rfl rfl rfl (by decide +kernel) ⟨Nat.le_of_ble_eq_true rfl, Nat.le_of_ble_eq_true rfl⟩) rfl hl.1 rfl (Nat.le_of_ble_eq_true rfl) dX2_isSame_306 ⟨by show 0 ≤ 0; omega, by show 0 ≤ 0; omega⟩ (fun r_306 u_306 H locs hw hP hD hS => ?_)
                  have hw : r_306 = sFind G (nI i195) (nI i292) k 0 := hw
                  subst hw
                  have hP : va_P D vwCl (XO x0 pa pb ++ (DC cI pa f r ++ (DC cI pb f2 r2 ++ (SC cI cR a ca ga n k f r ++ (CW cI ca n (r 5) ++ RW cI ga k 3 G))))) H := by simpa only [List.append_assoc, List.append_nil, List.nil_append] using hP
                  have hD : va_D A (XO x0 pa pb ++ (DC cI pa f r ++ (DC cI pb f2 r2 ++ (SC cI cR a ca ga n k f r ++ (CW cI ca n (r 5) ++ RW cI ga k 3 G))))) := by simpa only [List.append_assoc, List.append_nil, List.nil_append] using hD
                  refine lv_istore (lv' := [(6, .int (sFind G (nI i195) (nI i292) k 0)), (5, .int (nI i292)), (4, .int (nI i195)), (3, .int (nI (dQuiet (r 3) i195))), (0, .ref (a 0)), (1, .ref x0)]) hx hb dX2_isSame_309 hl (by decide) rfl (fun ls hl => ?_)
                  refine lv_aload_n hx hb dX2_isSame_311 rfl (lv_at hl 5 rfl) ?_
                  refine lv_iload hx hb dX2_isSame_312 (lv_at hl 2 rfl) ?_
                  refine lv_iload hx hb dX2_isSame_314 (lv_at hl 1 rfl) ?_
                  refine wCVi (pre := ([] : va_W)) (Wc := XO x0 pa pb ++ (DC cI pa f r ++ DC cI pb f2 r2)) (suf := SC cI cR a ca ga n k f r ++ (CW cI ca n (r 5) ++ RW cI ga k 3 G)) (As := [.int (nI i195), .int (nI i292)]) (rest := []) ⟨hx, hb, hml, hown, hts⟩ (mX1_isUnderWay l D cI x0 pa pb f f2 r r2 n i195 i292 _ hg hn1 (by omega) (by omega) (by omega)) hN hA hK1 hS hP hD (by simp only [List.append_assoc, List.append_nil, List.nil_append]) 0 (r := (RX1, TX1, 2)) rfl rfl (cwV 2 hts gX2_isSame_X1_isUnderWay rfl rfl rfl (by decide +kernel) ⟨Nat.le_of_ble_eq_true rfl, Nat.le_of_ble_eq_true rfl⟩) rfl hl.1 rfl (Nat.le_of_ble_eq_true rfl) dX2_isSame_316 ⟨by show 0 ≤ 0; omega, by show 0 ≤ 0; omega⟩ (fun r_316 u_316 H locs hw hP hD hS => ?_)
                  have hw : r_316 = if r 4 (i195 * 10 + i292) = -1 then 0 else 1 := hw
                  subst hw
                  have hP : va_P D vwCl (XO x0 pa pb ++ (DC cI pa f r ++ (DC cI pb f2 r2 ++ (SC cI cR a ca ga n k f r ++ (CW cI ca n (r 5) ++ RW cI ga k 3 G))))) H := by simpa only [List.append_assoc, List.append_nil, List.nil_append] using hP
                  have hD : va_D A (XO x0 pa pb ++ (DC cI pa f r ++ (DC cI pb f2 r2 ++ (SC cI cR a ca ga n k f r ++ (CW cI ca n (r 5) ++ RW cI ga k 3 G))))) := by simpa only [List.append_assoc, List.append_nil, List.nil_append] using hD
                  refine lv_iload hx hb dX2_isSame_319 (lv_at hl 0 rfl) ?_
                  refine lv_if_lt (tgt := 328) hx hb dX2_isSame_321 (by decide) (fun c_321 => ?_) (fun c_321 => ?_)
                  · have ht := hA1 i195 i292 (by omega) (by omega) c_321
                    refine lv_iconst (v := 0) hx hb dX2_isSame_328 (by decide) ?_
                    refine lv_icmp_ne (tgt := 382) hx hb dX2_isSame_329 (by decide) (fun h9 => absurd (if_pos ht) h9) (fun c_329 => ?_)
                    refine lv_aload_n hx hb dX2_isSame_332 rfl (lv_at hl 5 rfl) ?_
                    refine lv_iload hx hb dX2_isSame_333 (lv_at hl 2 rfl) ?_
                    refine lv_iload hx hb dX2_isSame_335 (lv_at hl 1 rfl) ?_
                    refine wCVi (pre := ([] : va_W)) (Wc := XO x0 pa pb ++ (DC cI pa f r ++ DC cI pb f2 r2)) (suf := SC cI cR a ca ga n k f r ++ (CW cI ca n (r 5) ++ RW cI ga k 3 G)) (As := [.int (nI i195), .int (nI i292)]) (rest := []) ⟨hx, hb, hml, hown, hts⟩ (mX1_secondsToGo l D cI x0 pa pb f f2 r r2 n i195 i292 _ hg hn1 (by omega) (by omega) (by omega)) hN hA hK1 hS hP hD (by simp only [List.append_assoc, List.append_nil, List.nil_append]) 0 (r := (RX1, TX1, 2)) rfl rfl (cwV 2 hts gX2_isSame_X1_secondsToGo rfl rfl rfl (by decide +kernel) ⟨Nat.le_of_ble_eq_true rfl, Nat.le_of_ble_eq_true rfl⟩) rfl hl.1 rfl (Nat.le_of_ble_eq_true rfl) dX2_isSame_337 ⟨by show 0 ≤ 0; omega, by show 0 ≤ 0; omega⟩ (fun r_337 u_337 H locs hw hP hD hS => ?_)
                    have hw : r_337 = dToGo (r 4) (i195 * 10 + i292) := hw
                    subst hw
                    have hP : va_P D vwCl (XO x0 pa pb ++ (DC cI pa f r ++ (DC cI pb f2 r2 ++ (SC cI cR a ca ga n k f r ++ (CW cI ca n (r 5) ++ RW cI ga k 3 G))))) H := by simpa only [List.append_assoc, List.append_nil, List.nil_append] using hP
                    have hD : va_D A (XO x0 pa pb ++ (DC cI pa f r ++ (DC cI pb f2 r2 ++ (SC cI cR a ca ga n k f r ++ (CW cI ca n (r 5) ++ RW cI ga k 3 G))))) := by simpa only [List.append_assoc, List.append_nil, List.nil_append] using hD
                    refine lv_iload hx hb dX2_isSame_340 (lv_at hl 0 rfl) ?_
                    refine lv_if_ge (tgt := 349) hx hb dX2_isSame_342 (by decide) (fun h9 => absurd h9 (Int32.not_le.mpr c_321)) (fun c_342 => ?_)
                    refine lv_iconst (v := 0) hx hb dX2_isSame_345 (by decide) ?_
                    refine lv_goto (tgt := 358) hx hb dX2_isSame_346 (by decide) ?_
                    refine lv_icmp_ne (tgt := 382) hx hb dX2_isSame_358 (by decide) (fun h9 => absurd (if_pos ht) h9) (fun c_358 => ?_)
                    refine lv_aload_n hx hb dX2_isSame_361 rfl (lv_at hl 5 rfl) ?_
                    refine lv_iload hx hb dX2_isSame_362 (lv_at hl 2 rfl) ?_
                    refine lv_iload hx hb dX2_isSame_364 (lv_at hl 1 rfl) ?_
                    refine wCVi (pre := ([] : va_W)) (Wc := XO x0 pa pb ++ (DC cI pa f r ++ DC cI pb f2 r2)) (suf := SC cI cR a ca ga n k f r ++ (CW cI ca n (r 5) ++ RW cI ga k 3 G)) (As := [.int (nI i195), .int (nI i292)]) (rest := []) ⟨hx, hb, hml, hown, hts⟩ (mX1_caughtBy l D cI x0 pa pb f f2 r r2 n i195 i292 _ hg hn1 (by omega) (by omega) (by omega)) hN hA hK1 hS hP hD (by simp only [List.append_assoc, List.append_nil, List.nil_append]) 0 (r := (RX1, TX1, 2)) rfl rfl (cwV 2 hts gX2_isSame_X1_caughtBy rfl rfl rfl (by decide +kernel) ⟨Nat.le_of_ble_eq_true rfl, Nat.le_of_ble_eq_true rfl⟩) rfl hl.1 rfl (Nat.le_of_ble_eq_true rfl) dX2_isSame_366 ⟨by show 0 ≤ 0; omega, by show 0 ≤ 0; omega⟩ (fun r_366 u_366 H locs hw hP hD hS => ?_)
                    have hw : r_366 = r 5 (i195 * 10 + i292) := hw
                    subst hw
                    have hP : va_P D vwCl (XO x0 pa pb ++ (DC cI pa f r ++ (DC cI pb f2 r2 ++ (SC cI cR a ca ga n k f r ++ (CW cI ca n (r 5) ++ RW cI ga k 3 G))))) H := by simpa only [List.append_assoc, List.append_nil, List.nil_append] using hP
                    have hD : va_D A (XO x0 pa pb ++ (DC cI pa f r ++ (DC cI pb f2 r2 ++ (SC cI cR a ca ga n k f r ++ (CW cI ca n (r 5) ++ RW cI ga k 3 G))))) := by simpa only [List.append_assoc, List.append_nil, List.nil_append] using hD
                    refine lv_aload_n hx hb dX2_isSame_369 rfl (lv_at hl 4 rfl) ?_
                    refine va_get (D := D) (ci := 2) (v := .ref (a 5)) (C := RX2) (T := TX2) (N := 15) hx hb hw2 (fun _ h => h) hown hK hP 17 rfl rfl 13 (by decide) k38 (fun _ h9 => h9) rfl dX2_isSame_370 ?_
                    refine lv_iload hx hb dX2_isSame_373 (lv_at hl 2 rfl) ?_
                    refine wAald hx hb hK hP 23 1 rfl rfl i195 rfl (by omega) (by omega) (RF_in (by omega)) dX2_isSame_375 ?_
                    refine lv_iload hx hb dX2_isSame_376 (lv_at hl 1 rfl) ?_
                    refine wIaldR (pre := XO x0 pa pb ++ (DC cI pa f r ++ (DC cI pb f2 r2 ++ SC cI cR a ca ga n k f r))) (suf := RW cI ga k 3 G) (bb := ca) (N := n) (len := n) (v := fun i j => (r 5) (i * 10 + j)) hx hb hK hP 0 (by simp only [CW, List.append_assoc, List.append_nil, List.nil_append]) rfl i195 (by omega) i292 rfl (by omega) (by omega) dX2_isSame_378 ?_
                    refine lv_icmp_eq (tgt := 384) hx hb dX2_isSame_379 (by decide) (fun c_379 => ?_) (fun h9 => absurd (rfl) h9)
                    refine lv_iinc (v := nI (i292 + 1)) (lv' := [(5, .int (nI (i292 + 1))), (6, .int (sFind G (nI i195) (nI i292) k 0)), (4, .int (nI i195)), (3, .int (nI (dQuiet (r 3) i195))), (0, .ref (a 0)), (1, .ref x0)]) hx hb dX2_isSame_384 hl (k := 1) rfl (nI_1 i292) (by decide) rfl (fun ls hl => ?_)
                    refine lv_goto (tgt := 292) hx hb dX2_isSame_387 (by decide) ?_
                    exact ih292 (i292 + 1) (by omega) _ _ _ hP hD hS (lv_sub hl [0, 2, 3, 4, 5] rfl)
                  · obtain ⟨q, hq, eb, eG, ht⟩ := hB1 i195 i292 (by omega) (by omega) c_321
                    refine lv_iconst (v := 1) hx hb dX2_isSame_324 (by decide) ?_
                    refine lv_goto (tgt := 329) hx hb dX2_isSame_325 (by decide) ?_
                    refine lv_icmp_ne (tgt := 382) hx hb dX2_isSame_329 (by decide) (fun h9 => absurd (if_neg ht) h9) (fun c_329 => ?_)
                    refine lv_aload_n hx hb dX2_isSame_332 rfl (lv_at hl 5 rfl) ?_
                    refine lv_iload hx hb dX2_isSame_333 (lv_at hl 2 rfl) ?_
                    refine lv_iload hx hb dX2_isSame_335 (lv_at hl 1 rfl) ?_
                    refine wCVi (pre := ([] : va_W)) (Wc := XO x0 pa pb ++ (DC cI pa f r ++ DC cI pb f2 r2)) (suf := SC cI cR a ca ga n k f r ++ (CW cI ca n (r 5) ++ RW cI ga k 3 G)) (As := [.int (nI i195), .int (nI i292)]) (rest := []) ⟨hx, hb, hml, hown, hts⟩ (mX1_secondsToGo l D cI x0 pa pb f f2 r r2 n i195 i292 _ hg hn1 (by omega) (by omega) (by omega)) hN hA hK1 hS hP hD (by simp only [List.append_assoc, List.append_nil, List.nil_append]) 0 (r := (RX1, TX1, 2)) rfl rfl (cwV 2 hts gX2_isSame_X1_secondsToGo rfl rfl rfl (by decide +kernel) ⟨Nat.le_of_ble_eq_true rfl, Nat.le_of_ble_eq_true rfl⟩) rfl hl.1 rfl (Nat.le_of_ble_eq_true rfl) dX2_isSame_337 ⟨by show 0 ≤ 0; omega, by show 0 ≤ 0; omega⟩ (fun r_337 u_337 H locs hw hP hD hS => ?_)
                    have hw : r_337 = dToGo (r 4) (i195 * 10 + i292) := hw
                    subst hw
                    have hP : va_P D vwCl (XO x0 pa pb ++ (DC cI pa f r ++ (DC cI pb f2 r2 ++ (SC cI cR a ca ga n k f r ++ (CW cI ca n (r 5) ++ RW cI ga k 3 G))))) H := by simpa only [List.append_assoc, List.append_nil, List.nil_append] using hP
                    have hD : va_D A (XO x0 pa pb ++ (DC cI pa f r ++ (DC cI pb f2 r2 ++ (SC cI cR a ca ga n k f r ++ (CW cI ca n (r 5) ++ RW cI ga k 3 G))))) := by simpa only [List.append_assoc, List.append_nil, List.nil_append] using hD
                    refine lv_iload hx hb dX2_isSame_340 (lv_at hl 0 rfl) ?_
                    refine lv_if_ge (tgt := 349) hx hb dX2_isSame_342 (by decide) (fun c_342 => ?_) (fun h9 => absurd (Int32.not_lt.mp c_321) h9)
                    refine lv_aload_n hx hb dX2_isSame_349 rfl (lv_at hl 4 rfl) ?_
                    refine va_get (D := D) (ci := 2) (v := .ref (a 6)) (C := RX2) (T := TX2) (N := 15) hx hb hw2 (fun _ h => h) hown hK hP 17 rfl rfl 14 (by decide) k18 (fun _ h9 => h9) rfl dX2_isSame_350 ?_
                    refine lv_iload hx hb dX2_isSame_353 (lv_at hl 0 rfl) ?_
                    refine wAald hx hb hK hP 18 1 rfl rfl q eb (hq) (by omega) (RF_in (hq)) dX2_isSame_355 ?_
                    refine lv_iconst (v := 2) hx hb dX2_isSame_356 (by decide) ?_
                    refine wIaldR (pre := XO x0 pa pb ++ (DC cI pa f r ++ (DC cI pb f2 r2 ++ (SC cI cR a ca ga n k f r ++ CW cI ca n (r 5))))) (suf := ([] : va_W)) (bb := ga) (N := k) (len := 3) (v := G) hx hb hK hP 0 (by simp only [List.append_assoc, List.append_nil, List.nil_append]) rfl q (by omega) 2 rfl (by decide) (by decide) dX2_isSame_357 ?_
                    refine lv_icmp_ne (tgt := 382) hx hb dX2_isSame_358 (by decide) (fun h9 => absurd ((if_neg ht).trans eG.symm) h9) (fun c_358 => ?_)
                    refine lv_aload_n hx hb dX2_isSame_361 rfl (lv_at hl 5 rfl) ?_
                    refine lv_iload hx hb dX2_isSame_362 (lv_at hl 2 rfl) ?_
                    refine lv_iload hx hb dX2_isSame_364 (lv_at hl 1 rfl) ?_
                    refine wCVi (pre := ([] : va_W)) (Wc := XO x0 pa pb ++ (DC cI pa f r ++ DC cI pb f2 r2)) (suf := SC cI cR a ca ga n k f r ++ (CW cI ca n (r 5) ++ RW cI ga k 3 G)) (As := [.int (nI i195), .int (nI i292)]) (rest := []) ⟨hx, hb, hml, hown, hts⟩ (mX1_caughtBy l D cI x0 pa pb f f2 r r2 n i195 i292 _ hg hn1 (by omega) (by omega) (by omega)) hN hA hK1 hS hP hD (by simp only [List.append_assoc, List.append_nil, List.nil_append]) 0 (r := (RX1, TX1, 2)) rfl rfl (cwV 2 hts gX2_isSame_X1_caughtBy rfl rfl rfl (by decide +kernel) ⟨Nat.le_of_ble_eq_true rfl, Nat.le_of_ble_eq_true rfl⟩) rfl hl.1 rfl (Nat.le_of_ble_eq_true rfl) dX2_isSame_366 ⟨by show 0 ≤ 0; omega, by show 0 ≤ 0; omega⟩ (fun r_366 u_366 H locs hw hP hD hS => ?_)
                    have hw : r_366 = r 5 (i195 * 10 + i292) := hw
                    subst hw
                    have hP : va_P D vwCl (XO x0 pa pb ++ (DC cI pa f r ++ (DC cI pb f2 r2 ++ (SC cI cR a ca ga n k f r ++ (CW cI ca n (r 5) ++ RW cI ga k 3 G))))) H := by simpa only [List.append_assoc, List.append_nil, List.nil_append] using hP
                    have hD : va_D A (XO x0 pa pb ++ (DC cI pa f r ++ (DC cI pb f2 r2 ++ (SC cI cR a ca ga n k f r ++ (CW cI ca n (r 5) ++ RW cI ga k 3 G))))) := by simpa only [List.append_assoc, List.append_nil, List.nil_append] using hD
                    refine lv_aload_n hx hb dX2_isSame_369 rfl (lv_at hl 4 rfl) ?_
                    refine va_get (D := D) (ci := 2) (v := .ref (a 5)) (C := RX2) (T := TX2) (N := 15) hx hb hw2 (fun _ h => h) hown hK hP 17 rfl rfl 13 (by decide) k38 (fun _ h9 => h9) rfl dX2_isSame_370 ?_
                    refine lv_iload hx hb dX2_isSame_373 (lv_at hl 2 rfl) ?_
                    refine wAald hx hb hK hP 23 1 rfl rfl i195 rfl (by omega) (by omega) (RF_in (by omega)) dX2_isSame_375 ?_
                    refine lv_iload hx hb dX2_isSame_376 (lv_at hl 1 rfl) ?_
                    refine wIaldR (pre := XO x0 pa pb ++ (DC cI pa f r ++ (DC cI pb f2 r2 ++ SC cI cR a ca ga n k f r))) (suf := RW cI ga k 3 G) (bb := ca) (N := n) (len := n) (v := fun i j => (r 5) (i * 10 + j)) hx hb hK hP 0 (by simp only [CW, List.append_assoc, List.append_nil, List.nil_append]) rfl i195 (by omega) i292 rfl (by omega) (by omega) dX2_isSame_378 ?_
                    refine lv_icmp_eq (tgt := 384) hx hb dX2_isSame_379 (by decide) (fun c_379 => ?_) (fun h9 => absurd (rfl) h9)
                    refine lv_iinc (v := nI (i292 + 1)) (lv' := [(5, .int (nI (i292 + 1))), (6, .int (sFind G (nI i195) (nI i292) k 0)), (4, .int (nI i195)), (3, .int (nI (dQuiet (r 3) i195))), (0, .ref (a 0)), (1, .ref x0)]) hx hb dX2_isSame_384 hl (k := 1) rfl (nI_1 i292) (by decide) rfl (fun ls hl => ?_)
                    refine lv_goto (tgt := 292) hx hb dX2_isSame_387 (by decide) ?_
                    exact ih292 (i292 + 1) (by omega) _ _ _ hP hD hS (lv_sub hl [0, 2, 3, 4, 5] rfl)
              exact loop292 n 0 (by omega) _ _ _ hP hD hS (lv_sub hl [0, 2, 1, 3, 4] rfl)
        exact loop195 n 0 (by omega) _ _ _ hP hD hS (lv_sub hl [0, 1, 4, 5] rfl)
    | succ j ih14 =>
      intro i14 hi14 H locs ls hP hD hS hl
      have hcs := sCnt_le G i14
      refine lv_iload hx hb dX2_isSame_14 (lv_at hl 0 rfl) ?_
      refine lv_iload hx hb dX2_isSame_16 (lv_at hl 5 rfl) ?_
      refine lv_icmp_ge (tgt := 48) hx hb dX2_isSame_18 (by decide) (fun h9 => absurd h9 (nI_ge (by omega) (by omega))) (fun c_18 => ?_)
      have c_18n := mt (nI_leI (a := k) (b := i14) (by omega) (by omega)).mpr c_18
      refine lv_aload_n hx hb dX2_isSame_21 rfl (lv_at hl 4 rfl) ?_
      refine lv_iload hx hb dX2_isSame_22 (lv_at hl 0 rfl) ?_
      refine wAald hx hb hK hP 18 1 rfl rfl i14 rfl (by omega) (by omega) (RF_in (by omega)) dX2_isSame_24 ?_
      refine lv_astore (lv' := [(6, .ref (ga i14)), (5, .int (nI i14)), (2, .int (nI (sCnt G i14))), (0, .ref (a 0)), (1, .ref x0), (3, .ref (a 6)), (4, .int (nI k))]) hx hb dX2_isSame_25 hl (by decide) rfl (fun ls hl => ?_)
      refine lv_iload_n hx hb dX2_isSame_27 rfl (lv_at hl 2 rfl) ?_
      refine lv_aload hx hb dX2_isSame_28 (lv_at hl 0 rfl) ?_
      refine lv_iconst (v := 2) hx hb dX2_isSame_30 (by decide) ?_
      refine wIaldR (pre := XO x0 pa pb ++ (DC cI pa f r ++ (DC cI pb f2 r2 ++ (SC cI cR a ca ga n k f r ++ CW cI ca n (r 5))))) (suf := ([] : va_W)) (bb := ga) (N := k) (len := 3) (v := G) hx hb hK hP 0 (by simp only [List.append_assoc, List.append_nil, List.nil_append]) rfl i14 (by omega) 2 rfl (by decide) (by decide) dX2_isSame_31 ?_
      refine lv_if_lt (tgt := 39) hx hb dX2_isSame_32 (by decide) (fun c_32 => ?_) (fun c_32 => ?_)
      · refine lv_iconst (v := 0) hx hb dX2_isSame_39 (by decide) ?_
        refine lv_iadd hx hb dX2_isSame_40 ?_
        refine wTop (z := nI ((sCnt G i14) + 0)) (nI_add (sCnt G i14) 0) ?_
        refine lv_istore_n (lv' := [(2, .int (nI ((sCnt G i14) + 0))), (6, .ref (ga i14)), (5, .int (nI i14)), (0, .ref (a 0)), (1, .ref x0), (3, .ref (a 6)), (4, .int (nI k))]) hx hb dX2_isSame_41 rfl hl (by decide) rfl (fun ls hl => ?_)
        refine lv_iinc (v := nI (i14 + 1)) (lv' := [(5, .int (nI (i14 + 1))), (2, .int (nI ((sCnt G i14) + 0))), (6, .ref (ga i14)), (0, .ref (a 0)), (1, .ref x0), (3, .ref (a 6)), (4, .int (nI k))]) hx hb dX2_isSame_42 hl (k := 2) rfl (nI_1 i14) (by decide) rfl (fun ls hl => ?_)
        refine lv_goto (tgt := 14) hx hb dX2_isSame_45 (by decide) ?_
        have e14 : sCnt G (i14 + 1) = sCnt G i14 + 0 := sCnt_f (Int32.not_le.mpr c_32)
        have hl : lv_has ls 7 [(5, .int (nI (i14 + 1))), (2, .int (nI (sCnt G (i14 + 1)))), (6, .ref (ga i14)), (0, .ref (a 0)), (1, .ref x0), (3, .ref (a 6)), (4, .int (nI k))] := by rw [e14]; exact hl
        exact ih14 (i14 + 1) (by omega) _ _ _ hP hD hS (lv_sub hl [0, 1, 3, 4, 5, 6] rfl)
      · refine lv_iconst (v := 1) hx hb dX2_isSame_35 (by decide) ?_
        refine lv_goto (tgt := 40) hx hb dX2_isSame_36 (by decide) ?_
        refine lv_iadd hx hb dX2_isSame_40 ?_
        refine wTop (z := nI ((sCnt G i14) + 1)) (nI_add (sCnt G i14) 1) ?_
        refine lv_istore_n (lv' := [(2, .int (nI ((sCnt G i14) + 1))), (6, .ref (ga i14)), (5, .int (nI i14)), (0, .ref (a 0)), (1, .ref x0), (3, .ref (a 6)), (4, .int (nI k))]) hx hb dX2_isSame_41 rfl hl (by decide) rfl (fun ls hl => ?_)
        refine lv_iinc (v := nI (i14 + 1)) (lv' := [(5, .int (nI (i14 + 1))), (2, .int (nI ((sCnt G i14) + 1))), (6, .ref (ga i14)), (0, .ref (a 0)), (1, .ref x0), (3, .ref (a 6)), (4, .int (nI k))]) hx hb dX2_isSame_42 hl (k := 2) rfl (nI_1 i14) (by decide) rfl (fun ls hl => ?_)
        refine lv_goto (tgt := 14) hx hb dX2_isSame_45 (by decide) ?_
        have e14 : sCnt G (i14 + 1) = sCnt G i14 + 1 := sCnt_t (Int32.not_lt.mp c_32)
        have hl : lv_has ls 7 [(5, .int (nI (i14 + 1))), (2, .int (nI (sCnt G (i14 + 1)))), (6, .ref (ga i14)), (0, .ref (a 0)), (1, .ref x0), (3, .ref (a 6)), (4, .int (nI k))] := by rw [e14]; exact hl
        exact ih14 (i14 + 1) (by omega) _ _ _ hP hD hS (lv_sub hl [0, 1, 3, 4, 5, 6] rfl)
  exact loop14 k 0 (by omega) _ _ _ hP hD hS (lv_sub hl [0, 3, 4, 5, 2, 1] rfl)
