abbrev rmX1_digestOfTable : Room := { frames := 3, cells := 0, slots := 0, locals := 63 }
set_option maxRecDepth 100000 in
set_option maxHeartbeats 4000000 in
theorem mX1_digestOfTable (l : Launch) (D : va_G) (cI : ClassId) (x0 : Nat) (a b : Nat → Nat) (f f2 : Nat → Int32) (r r2 : Nat → Nat → Int32) (gg : Nat) (sz : Nat) (hg : f 0 = nI gg) (hg2 : gg ≤ 10) (hg0 : 0 < gg) : wCt l yX1_digestOfTable wsX1_digestOfTable rmX1_digestOfTable D [(cI, .int)] [.ref x0] (XO x0 a b ++ (DC cI a f r ++ DC cI b f2 r2)) sz 0 0 (wQl D (fun v (_ : Unit) => v = dHead f (dRate (f 0) (f 6) (r 3) gg)) (fun _ : Unit => XO x0 a b ++ (DC cI a f r ++ DC cI b f2 r2))) := by
  refine wMet cX1_digestOfTable 3 (some .long) (by decide) rfl (Nat.le_of_ble_eq_true rfl) ?_
  intro p e s m args below meth c A Q ls hQ hx hb hr hml hown hlocks hin hts hN hP hK hD hA hS hl
  have hl : lv_has ls 3 [(0, .ref x0)] := hl
  have hown : s.vm.findClass RX1 = some m.cls := hown
  have hw0 : ∀ w ∈ wsX00, w.before args s = true := fun w h => hts w (List.mem_cons_of_mem _ (List.mem_append_right _ h))
  have hw1 : ∀ w ∈ wsX10, w.before args s = true := fun w h => hts w (List.mem_cons_of_mem _ (List.mem_append_left _ (List.mem_append_right _ h)))
  have k12 := hts (.fieldLink RX1 12 "PauseLedger" "dinner" "LPauseLedger$Dinner;") (by decide +kernel)
  have k31 := hts (.fieldLink RX1 31 "PauseLedger$Dinner" "limit" "I") (by decide +kernel)
  have k58 := hts (.fieldLink RX1 58 "PauseLedger$Dinner" "guests" "I") (by decide +kernel)
  have k61 := hts (.fieldLink RX1 61 "PauseLedger$Dinner" "seconds" "I") (by decide +kernel)
  have k67 := hts (.fieldLink RX1 67 "PauseLedger$Dinner" "speaker" "I") (by decide +kernel)
  have k70 := hts (.fieldLink RX1 70 "PauseLedger$Dinner" "toSpeak" "I") (by decide +kernel)
  have k73 := hts (.fieldLink RX1 73 "PauseLedger$Dinner" "pause" "I") (by decide +kernel)
  have k103 := hts (.fieldLink RX1 103 "PauseLedger$Dinner" "unsaidInPauses" "I") (by decide +kernel)
  have k106 := hts (.fieldLink RX1 106 "PauseLedger$Dinner" "sent" "I") (by decide +kernel)
  have k109 := hts (.fieldLink RX1 109 "PauseLedger$Dinner" "meetings" "I") (by decide +kernel)
  have k112 := hts (.fieldLink RX1 112 "PauseLedger$Dinner" "lost" "I") (by decide +kernel)
  refine lv_ldc2 hx hb hown (hts (.constantLong RX1 136 (1973)) (by decide +kernel)) dX1_digestOfTable_0 ?_
  refine lv_lstore_n (lv' := [(1, .long 1973), (0, .ref x0)]) hx hb dX1_digestOfTable_3 rfl hl (by decide) rfl (fun ls hl => ?_)
  refine lv_lload_n hx hb dX1_digestOfTable_4 rfl (lv_at hl 0 rfl) ?_
  refine lv_aload_n hx hb dX1_digestOfTable_5 rfl (lv_at hl 1 rfl) ?_
  refine va_get (D := D) (ci := 1) (v := .ref (a 0)) (C := RX1) (T := TX1) (N := 2) hx hb hw1 (fun _ h => h) hown hK hP 0 rfl rfl 0 (by decide) k12 (fun _ h9 => h9) rfl dX1_digestOfTable_6 ?_
  refine va_get (D := D) (ci := 0) (v := .int (f 0)) (C := RX0) (T := TX0) (N := 17) hx hb hw0 (fun _ h => h) hown hK hP 1 rfl rfl 0 (by decide) k58 (fun _ h9 => h9) rfl dX1_digestOfTable_9 ?_
  refine wCSl (pre := ([] : va_W)) (Wc := ([] : va_W)) (suf := XO x0 a b ++ (DC cI a f r ++ DC cI b f2 r2)) (As := [.long 1973, .int (f 0)]) (rest := []) ⟨hx, hb, hml, hown, hts⟩ (mX1_followedBy l D cI 1973 (f 0) _) hN hA hK hS hP hD rfl (va_cwS 2 hts gX1_digestOfTable_X1_followedBy rfl rfl rfl (by decide +kernel) ⟨Nat.le_of_ble_eq_true rfl, Nat.le_of_ble_eq_true rfl⟩) rfl hl.1 rfl (Nat.le_of_ble_eq_true rfl) dX1_digestOfTable_12 ⟨Nat.zero_le _, Nat.zero_le _⟩ (fun r_12 u_12 H locs hw hP hD hS => ?_)
  have hw : r_12 = 1973 * 31 + (f 0).toInt64 := hw
  subst hw
  have hP : va_P D vwCl (XO x0 a b ++ (DC cI a f r ++ DC cI b f2 r2)) H := hP
  have hD : va_D A (XO x0 a b ++ (DC cI a f r ++ DC cI b f2 r2)) := hD
  refine lv_lstore_n (lv' := [(1, .long (1973 * 31 + (f 0).toInt64)), (0, .ref x0)]) hx hb dX1_digestOfTable_15 rfl hl (by decide) rfl (fun ls hl => ?_)
  refine lv_lload_n hx hb dX1_digestOfTable_16 rfl (lv_at hl 0 rfl) ?_
  refine lv_aload_n hx hb dX1_digestOfTable_17 rfl (lv_at hl 1 rfl) ?_
  refine va_get (D := D) (ci := 1) (v := .ref (a 0)) (C := RX1) (T := TX1) (N := 2) hx hb hw1 (fun _ h => h) hown hK hP 0 rfl rfl 0 (by decide) k12 (fun _ h9 => h9) rfl dX1_digestOfTable_18 ?_
  refine va_get (D := D) (ci := 0) (v := .int (f 1)) (C := RX0) (T := TX0) (N := 17) hx hb hw0 (fun _ h => h) hown hK hP 1 rfl rfl 1 (by decide) k61 (fun _ h9 => h9) rfl dX1_digestOfTable_21 ?_
  refine wCSl (pre := ([] : va_W)) (Wc := ([] : va_W)) (suf := XO x0 a b ++ (DC cI a f r ++ DC cI b f2 r2)) (As := [.long (1973 * 31 + (f 0).toInt64), .int (f 1)]) (rest := []) ⟨hx, hb, hml, hown, hts⟩ (mX1_followedBy l D cI (1973 * 31 + (f 0).toInt64) (f 1) _) hN hA hK hS hP hD rfl (va_cwS 2 hts gX1_digestOfTable_X1_followedBy rfl rfl rfl (by decide +kernel) ⟨Nat.le_of_ble_eq_true rfl, Nat.le_of_ble_eq_true rfl⟩) rfl hl.1 rfl (Nat.le_of_ble_eq_true rfl) dX1_digestOfTable_24 ⟨Nat.zero_le _, Nat.zero_le _⟩ (fun r_24 u_24 H locs hw hP hD hS => ?_)
  have hw : r_24 = (1973 * 31 + (f 0).toInt64) * 31 + (f 1).toInt64 := hw
  subst hw
  have hP : va_P D vwCl (XO x0 a b ++ (DC cI a f r ++ DC cI b f2 r2)) H := hP
  have hD : va_D A (XO x0 a b ++ (DC cI a f r ++ DC cI b f2 r2)) := hD
  refine lv_lstore_n (lv' := [(1, .long ((1973 * 31 + (f 0).toInt64) * 31 + (f 1).toInt64)), (0, .ref x0)]) hx hb dX1_digestOfTable_27 rfl hl (by decide) rfl (fun ls hl => ?_)
  refine lv_lload_n hx hb dX1_digestOfTable_28 rfl (lv_at hl 0 rfl) ?_
  refine lv_aload_n hx hb dX1_digestOfTable_29 rfl (lv_at hl 1 rfl) ?_
  refine va_get (D := D) (ci := 1) (v := .ref (a 0)) (C := RX1) (T := TX1) (N := 2) hx hb hw1 (fun _ h => h) hown hK hP 0 rfl rfl 0 (by decide) k12 (fun _ h9 => h9) rfl dX1_digestOfTable_30 ?_
  refine va_get (D := D) (ci := 0) (v := .int (f 2)) (C := RX0) (T := TX0) (N := 17) hx hb hw0 (fun _ h => h) hown hK hP 1 rfl rfl 2 (by decide) k31 (fun _ h9 => h9) rfl dX1_digestOfTable_33 ?_
  refine wCSl (pre := ([] : va_W)) (Wc := ([] : va_W)) (suf := XO x0 a b ++ (DC cI a f r ++ DC cI b f2 r2)) (As := [.long ((1973 * 31 + (f 0).toInt64) * 31 + (f 1).toInt64), .int (f 2)]) (rest := []) ⟨hx, hb, hml, hown, hts⟩ (mX1_followedBy l D cI ((1973 * 31 + (f 0).toInt64) * 31 + (f 1).toInt64) (f 2) _) hN hA hK hS hP hD rfl (va_cwS 2 hts gX1_digestOfTable_X1_followedBy rfl rfl rfl (by decide +kernel) ⟨Nat.le_of_ble_eq_true rfl, Nat.le_of_ble_eq_true rfl⟩) rfl hl.1 rfl (Nat.le_of_ble_eq_true rfl) dX1_digestOfTable_36 ⟨Nat.zero_le _, Nat.zero_le _⟩ (fun r_36 u_36 H locs hw hP hD hS => ?_)
  have hw : r_36 = ((1973 * 31 + (f 0).toInt64) * 31 + (f 1).toInt64) * 31 + (f 2).toInt64 := hw
  subst hw
  have hP : va_P D vwCl (XO x0 a b ++ (DC cI a f r ++ DC cI b f2 r2)) H := hP
  have hD : va_D A (XO x0 a b ++ (DC cI a f r ++ DC cI b f2 r2)) := hD
  refine lv_lstore_n (lv' := [(1, .long (((1973 * 31 + (f 0).toInt64) * 31 + (f 1).toInt64) * 31 + (f 2).toInt64)), (0, .ref x0)]) hx hb dX1_digestOfTable_39 rfl hl (by decide) rfl (fun ls hl => ?_)
  refine lv_lload_n hx hb dX1_digestOfTable_40 rfl (lv_at hl 0 rfl) ?_
  refine lv_aload_n hx hb dX1_digestOfTable_41 rfl (lv_at hl 1 rfl) ?_
  refine va_get (D := D) (ci := 1) (v := .ref (a 0)) (C := RX1) (T := TX1) (N := 2) hx hb hw1 (fun _ h => h) hown hK hP 0 rfl rfl 0 (by decide) k12 (fun _ h9 => h9) rfl dX1_digestOfTable_42 ?_
  refine va_get (D := D) (ci := 0) (v := .int (f 3)) (C := RX0) (T := TX0) (N := 17) hx hb hw0 (fun _ h => h) hown hK hP 1 rfl rfl 3 (by decide) k67 (fun _ h9 => h9) rfl dX1_digestOfTable_45 ?_
  refine wCSl (pre := ([] : va_W)) (Wc := ([] : va_W)) (suf := XO x0 a b ++ (DC cI a f r ++ DC cI b f2 r2)) (As := [.long (((1973 * 31 + (f 0).toInt64) * 31 + (f 1).toInt64) * 31 + (f 2).toInt64), .int (f 3)]) (rest := []) ⟨hx, hb, hml, hown, hts⟩ (mX1_followedBy l D cI (((1973 * 31 + (f 0).toInt64) * 31 + (f 1).toInt64) * 31 + (f 2).toInt64) (f 3) _) hN hA hK hS hP hD rfl (va_cwS 2 hts gX1_digestOfTable_X1_followedBy rfl rfl rfl (by decide +kernel) ⟨Nat.le_of_ble_eq_true rfl, Nat.le_of_ble_eq_true rfl⟩) rfl hl.1 rfl (Nat.le_of_ble_eq_true rfl) dX1_digestOfTable_48 ⟨Nat.zero_le _, Nat.zero_le _⟩ (fun r_48 u_48 H locs hw hP hD hS => ?_)
  have hw : r_48 = (((1973 * 31 + (f 0).toInt64) * 31 + (f 1).toInt64) * 31 + (f 2).toInt64) * 31 + (f 3).toInt64 := hw
  subst hw
  have hP : va_P D vwCl (XO x0 a b ++ (DC cI a f r ++ DC cI b f2 r2)) H := hP
  have hD : va_D A (XO x0 a b ++ (DC cI a f r ++ DC cI b f2 r2)) := hD
  refine lv_lstore_n (lv' := [(1, .long ((((1973 * 31 + (f 0).toInt64) * 31 + (f 1).toInt64) * 31 + (f 2).toInt64) * 31 + (f 3).toInt64)), (0, .ref x0)]) hx hb dX1_digestOfTable_51 rfl hl (by decide) rfl (fun ls hl => ?_)
  refine lv_lload_n hx hb dX1_digestOfTable_52 rfl (lv_at hl 0 rfl) ?_
  refine lv_aload_n hx hb dX1_digestOfTable_53 rfl (lv_at hl 1 rfl) ?_
  refine va_get (D := D) (ci := 1) (v := .ref (a 0)) (C := RX1) (T := TX1) (N := 2) hx hb hw1 (fun _ h => h) hown hK hP 0 rfl rfl 0 (by decide) k12 (fun _ h9 => h9) rfl dX1_digestOfTable_54 ?_
  refine va_get (D := D) (ci := 0) (v := .int (f 4)) (C := RX0) (T := TX0) (N := 17) hx hb hw0 (fun _ h => h) hown hK hP 1 rfl rfl 4 (by decide) k70 (fun _ h9 => h9) rfl dX1_digestOfTable_57 ?_
  refine wCSl (pre := ([] : va_W)) (Wc := ([] : va_W)) (suf := XO x0 a b ++ (DC cI a f r ++ DC cI b f2 r2)) (As := [.long ((((1973 * 31 + (f 0).toInt64) * 31 + (f 1).toInt64) * 31 + (f 2).toInt64) * 31 + (f 3).toInt64), .int (f 4)]) (rest := []) ⟨hx, hb, hml, hown, hts⟩ (mX1_followedBy l D cI ((((1973 * 31 + (f 0).toInt64) * 31 + (f 1).toInt64) * 31 + (f 2).toInt64) * 31 + (f 3).toInt64) (f 4) _) hN hA hK hS hP hD rfl (va_cwS 2 hts gX1_digestOfTable_X1_followedBy rfl rfl rfl (by decide +kernel) ⟨Nat.le_of_ble_eq_true rfl, Nat.le_of_ble_eq_true rfl⟩) rfl hl.1 rfl (Nat.le_of_ble_eq_true rfl) dX1_digestOfTable_60 ⟨Nat.zero_le _, Nat.zero_le _⟩ (fun r_60 u_60 H locs hw hP hD hS => ?_)
  have hw : r_60 = ((((1973 * 31 + (f 0).toInt64) * 31 + (f 1).toInt64) * 31 + (f 2).toInt64) * 31 + (f 3).toInt64) * 31 + (f 4).toInt64 := hw
  subst hw
  have hP : va_P D vwCl (XO x0 a b ++ (DC cI a f r ++ DC cI b f2 r2)) H := hP
  have hD : va_D A (XO x0 a b ++ (DC cI a f r ++ DC cI b f2 r2)) := hD
  refine lv_lstore_n (lv' := [(1, .long (((((1973 * 31 + (f 0).toInt64) * 31 + (f 1).toInt64) * 31 + (f 2).toInt64) * 31 + (f 3).toInt64) * 31 + (f 4).toInt64)), (0, .ref x0)]) hx hb dX1_digestOfTable_63 rfl hl (by decide) rfl (fun ls hl => ?_)
  refine lv_lload_n hx hb dX1_digestOfTable_64 rfl (lv_at hl 0 rfl) ?_
  refine lv_aload_n hx hb dX1_digestOfTable_65 rfl (lv_at hl 1 rfl) ?_
  refine va_get (D := D) (ci := 1) (v := .ref (a 0)) (C := RX1) (T := TX1) (N := 2) hx hb hw1 (fun _ h => h) hown hK hP 0 rfl rfl 0 (by decide) k12 (fun _ h9 => h9) rfl dX1_digestOfTable_66 ?_
  refine va_get (D := D) (ci := 0) (v := .int (f 5)) (C := RX0) (T := TX0) (N := 17) hx hb hw0 (fun _ h => h) hown hK hP 1 rfl rfl 5 (by decide) k73 (fun _ h9 => h9) rfl dX1_digestOfTable_69 ?_
  refine wCSl (pre := ([] : va_W)) (Wc := ([] : va_W)) (suf := XO x0 a b ++ (DC cI a f r ++ DC cI b f2 r2)) (As := [.long (((((1973 * 31 + (f 0).toInt64) * 31 + (f 1).toInt64) * 31 + (f 2).toInt64) * 31 + (f 3).toInt64) * 31 + (f 4).toInt64), .int (f 5)]) (rest := []) ⟨hx, hb, hml, hown, hts⟩ (mX1_followedBy l D cI (((((1973 * 31 + (f 0).toInt64) * 31 + (f 1).toInt64) * 31 + (f 2).toInt64) * 31 + (f 3).toInt64) * 31 + (f 4).toInt64) (f 5) _) hN hA hK hS hP hD rfl (va_cwS 2 hts gX1_digestOfTable_X1_followedBy rfl rfl rfl (by decide +kernel) ⟨Nat.le_of_ble_eq_true rfl, Nat.le_of_ble_eq_true rfl⟩) rfl hl.1 rfl (Nat.le_of_ble_eq_true rfl) dX1_digestOfTable_72 ⟨Nat.zero_le _, Nat.zero_le _⟩ (fun r_72 u_72 H locs hw hP hD hS => ?_)
  have hw : r_72 = (((((1973 * 31 + (f 0).toInt64) * 31 + (f 1).toInt64) * 31 + (f 2).toInt64) * 31 + (f 3).toInt64) * 31 + (f 4).toInt64) * 31 + (f 5).toInt64 := hw
  subst hw
  have hP : va_P D vwCl (XO x0 a b ++ (DC cI a f r ++ DC cI b f2 r2)) H := hP
  have hD : va_D A (XO x0 a b ++ (DC cI a f r ++ DC cI b f2 r2)) := hD
  refine lv_lstore_n (lv' := [(1, .long ((((((1973 * 31 + (f 0).toInt64) * 31 + (f 1).toInt64) * 31 + (f 2).toInt64) * 31 + (f 3).toInt64) * 31 + (f 4).toInt64) * 31 + (f 5).toInt64)), (0, .ref x0)]) hx hb dX1_digestOfTable_75 rfl hl (by decide) rfl (fun ls hl => ?_)
  refine lv_lload_n hx hb dX1_digestOfTable_76 rfl (lv_at hl 0 rfl) ?_
  refine lv_aload_n hx hb dX1_digestOfTable_77 rfl (lv_at hl 1 rfl) ?_
  refine va_get (D := D) (ci := 1) (v := .ref (a 0)) (C := RX1) (T := TX1) (N := 2) hx hb hw1 (fun _ h => h) hown hK hP 0 rfl rfl 0 (by decide) k12 (fun _ h9 => h9) rfl dX1_digestOfTable_78 ?_
  refine va_get (D := D) (ci := 0) (v := .int (f 6)) (C := RX0) (T := TX0) (N := 17) hx hb hw0 (fun _ h => h) hown hK hP 1 rfl rfl 6 (by decide) k103 (fun _ h9 => h9) rfl dX1_digestOfTable_81 ?_
  refine wCSl (pre := ([] : va_W)) (Wc := ([] : va_W)) (suf := XO x0 a b ++ (DC cI a f r ++ DC cI b f2 r2)) (As := [.long ((((((1973 * 31 + (f 0).toInt64) * 31 + (f 1).toInt64) * 31 + (f 2).toInt64) * 31 + (f 3).toInt64) * 31 + (f 4).toInt64) * 31 + (f 5).toInt64), .int (f 6)]) (rest := []) ⟨hx, hb, hml, hown, hts⟩ (mX1_followedBy l D cI ((((((1973 * 31 + (f 0).toInt64) * 31 + (f 1).toInt64) * 31 + (f 2).toInt64) * 31 + (f 3).toInt64) * 31 + (f 4).toInt64) * 31 + (f 5).toInt64) (f 6) _) hN hA hK hS hP hD rfl (va_cwS 2 hts gX1_digestOfTable_X1_followedBy rfl rfl rfl (by decide +kernel) ⟨Nat.le_of_ble_eq_true rfl, Nat.le_of_ble_eq_true rfl⟩) rfl hl.1 rfl (Nat.le_of_ble_eq_true rfl) dX1_digestOfTable_84 ⟨Nat.zero_le _, Nat.zero_le _⟩ (fun r_84 u_84 H locs hw hP hD hS => ?_)
  have hw : r_84 = ((((((1973 * 31 + (f 0).toInt64) * 31 + (f 1).toInt64) * 31 + (f 2).toInt64) * 31 + (f 3).toInt64) * 31 + (f 4).toInt64) * 31 + (f 5).toInt64) * 31 + (f 6).toInt64 := hw
  subst hw
  have hP : va_P D vwCl (XO x0 a b ++ (DC cI a f r ++ DC cI b f2 r2)) H := hP
  have hD : va_D A (XO x0 a b ++ (DC cI a f r ++ DC cI b f2 r2)) := hD
  refine lv_lstore_n (lv' := [(1, .long (((((((1973 * 31 + (f 0).toInt64) * 31 + (f 1).toInt64) * 31 + (f 2).toInt64) * 31 + (f 3).toInt64) * 31 + (f 4).toInt64) * 31 + (f 5).toInt64) * 31 + (f 6).toInt64)), (0, .ref x0)]) hx hb dX1_digestOfTable_87 rfl hl (by decide) rfl (fun ls hl => ?_)
  refine lv_lload_n hx hb dX1_digestOfTable_88 rfl (lv_at hl 0 rfl) ?_
  refine lv_aload_n hx hb dX1_digestOfTable_89 rfl (lv_at hl 1 rfl) ?_
  refine va_get (D := D) (ci := 1) (v := .ref (a 0)) (C := RX1) (T := TX1) (N := 2) hx hb hw1 (fun _ h => h) hown hK hP 0 rfl rfl 0 (by decide) k12 (fun _ h9 => h9) rfl dX1_digestOfTable_90 ?_
  refine va_get (D := D) (ci := 0) (v := .int (f 9)) (C := RX0) (T := TX0) (N := 17) hx hb hw0 (fun _ h => h) hown hK hP 1 rfl rfl 9 (by decide) k106 (fun _ h9 => h9) rfl dX1_digestOfTable_93 ?_
  refine wCSl (pre := ([] : va_W)) (Wc := ([] : va_W)) (suf := XO x0 a b ++ (DC cI a f r ++ DC cI b f2 r2)) (As := [.long (((((((1973 * 31 + (f 0).toInt64) * 31 + (f 1).toInt64) * 31 + (f 2).toInt64) * 31 + (f 3).toInt64) * 31 + (f 4).toInt64) * 31 + (f 5).toInt64) * 31 + (f 6).toInt64), .int (f 9)]) (rest := []) ⟨hx, hb, hml, hown, hts⟩ (mX1_followedBy l D cI (((((((1973 * 31 + (f 0).toInt64) * 31 + (f 1).toInt64) * 31 + (f 2).toInt64) * 31 + (f 3).toInt64) * 31 + (f 4).toInt64) * 31 + (f 5).toInt64) * 31 + (f 6).toInt64) (f 9) _) hN hA hK hS hP hD rfl (va_cwS 2 hts gX1_digestOfTable_X1_followedBy rfl rfl rfl (by decide +kernel) ⟨Nat.le_of_ble_eq_true rfl, Nat.le_of_ble_eq_true rfl⟩) rfl hl.1 rfl (Nat.le_of_ble_eq_true rfl) dX1_digestOfTable_96 ⟨Nat.zero_le _, Nat.zero_le _⟩ (fun r_96 u_96 H locs hw hP hD hS => ?_)
  have hw : r_96 = (((((((1973 * 31 + (f 0).toInt64) * 31 + (f 1).toInt64) * 31 + (f 2).toInt64) * 31 + (f 3).toInt64) * 31 + (f 4).toInt64) * 31 + (f 5).toInt64) * 31 + (f 6).toInt64) * 31 + (f 9).toInt64 := hw
  subst hw
  have hP : va_P D vwCl (XO x0 a b ++ (DC cI a f r ++ DC cI b f2 r2)) H := hP
  have hD : va_D A (XO x0 a b ++ (DC cI a f r ++ DC cI b f2 r2)) := hD
  refine lv_lstore_n (lv' := [(1, .long ((((((((1973 * 31 + (f 0).toInt64) * 31 + (f 1).toInt64) * 31 + (f 2).toInt64) * 31 + (f 3).toInt64) * 31 + (f 4).toInt64) * 31 + (f 5).toInt64) * 31 + (f 6).toInt64) * 31 + (f 9).toInt64)), (0, .ref x0)]) hx hb dX1_digestOfTable_99 rfl hl (by decide) rfl (fun ls hl => ?_)
  refine lv_lload_n hx hb dX1_digestOfTable_100 rfl (lv_at hl 0 rfl) ?_
  refine lv_aload_n hx hb dX1_digestOfTable_101 rfl (lv_at hl 1 rfl) ?_
  refine va_get (D := D) (ci := 1) (v := .ref (a 0)) (C := RX1) (T := TX1) (N := 2) hx hb hw1 (fun _ h => h) hown hK hP 0 rfl rfl 0 (by decide) k12 (fun _ h9 => h9) rfl dX1_digestOfTable_102 ?_
  refine va_get (D := D) (ci := 0) (v := .int (f 7)) (C := RX0) (T := TX0) (N := 17) hx hb hw0 (fun _ h => h) hown hK hP 1 rfl rfl 7 (by decide) k109 (fun _ h9 => h9) rfl dX1_digestOfTable_105 ?_
  refine wCSl (pre := ([] : va_W)) (Wc := ([] : va_W)) (suf := XO x0 a b ++ (DC cI a f r ++ DC cI b f2 r2)) (As := [.long ((((((((1973 * 31 + (f 0).toInt64) * 31 + (f 1).toInt64) * 31 + (f 2).toInt64) * 31 + (f 3).toInt64) * 31 + (f 4).toInt64) * 31 + (f 5).toInt64) * 31 + (f 6).toInt64) * 31 + (f 9).toInt64), .int (f 7)]) (rest := []) ⟨hx, hb, hml, hown, hts⟩ (mX1_followedBy l D cI ((((((((1973 * 31 + (f 0).toInt64) * 31 + (f 1).toInt64) * 31 + (f 2).toInt64) * 31 + (f 3).toInt64) * 31 + (f 4).toInt64) * 31 + (f 5).toInt64) * 31 + (f 6).toInt64) * 31 + (f 9).toInt64) (f 7) _) hN hA hK hS hP hD rfl (va_cwS 2 hts gX1_digestOfTable_X1_followedBy rfl rfl rfl (by decide +kernel) ⟨Nat.le_of_ble_eq_true rfl, Nat.le_of_ble_eq_true rfl⟩) rfl hl.1 rfl (Nat.le_of_ble_eq_true rfl) dX1_digestOfTable_108 ⟨Nat.zero_le _, Nat.zero_le _⟩ (fun r_108 u_108 H locs hw hP hD hS => ?_)
  have hw : r_108 = ((((((((1973 * 31 + (f 0).toInt64) * 31 + (f 1).toInt64) * 31 + (f 2).toInt64) * 31 + (f 3).toInt64) * 31 + (f 4).toInt64) * 31 + (f 5).toInt64) * 31 + (f 6).toInt64) * 31 + (f 9).toInt64) * 31 + (f 7).toInt64 := hw
  subst hw
  have hP : va_P D vwCl (XO x0 a b ++ (DC cI a f r ++ DC cI b f2 r2)) H := hP
  have hD : va_D A (XO x0 a b ++ (DC cI a f r ++ DC cI b f2 r2)) := hD
  refine lv_lstore_n (lv' := [(1, .long (((((((((1973 * 31 + (f 0).toInt64) * 31 + (f 1).toInt64) * 31 + (f 2).toInt64) * 31 + (f 3).toInt64) * 31 + (f 4).toInt64) * 31 + (f 5).toInt64) * 31 + (f 6).toInt64) * 31 + (f 9).toInt64) * 31 + (f 7).toInt64)), (0, .ref x0)]) hx hb dX1_digestOfTable_111 rfl hl (by decide) rfl (fun ls hl => ?_)
  refine lv_lload_n hx hb dX1_digestOfTable_112 rfl (lv_at hl 0 rfl) ?_
  refine lv_aload_n hx hb dX1_digestOfTable_113 rfl (lv_at hl 1 rfl) ?_
  refine va_get (D := D) (ci := 1) (v := .ref (a 0)) (C := RX1) (T := TX1) (N := 2) hx hb hw1 (fun _ h => h) hown hK hP 0 rfl rfl 0 (by decide) k12 (fun _ h9 => h9) rfl dX1_digestOfTable_114 ?_
  refine va_get (D := D) (ci := 0) (v := .int (f 8)) (C := RX0) (T := TX0) (N := 17) hx hb hw0 (fun _ h => h) hown hK hP 1 rfl rfl 8 (by decide) k112 (fun _ h9 => h9) rfl dX1_digestOfTable_117 ?_
  refine wCSl (pre := ([] : va_W)) (Wc := ([] : va_W)) (suf := XO x0 a b ++ (DC cI a f r ++ DC cI b f2 r2)) (As := [.long (((((((((1973 * 31 + (f 0).toInt64) * 31 + (f 1).toInt64) * 31 + (f 2).toInt64) * 31 + (f 3).toInt64) * 31 + (f 4).toInt64) * 31 + (f 5).toInt64) * 31 + (f 6).toInt64) * 31 + (f 9).toInt64) * 31 + (f 7).toInt64), .int (f 8)]) (rest := []) ⟨hx, hb, hml, hown, hts⟩ (mX1_followedBy l D cI (((((((((1973 * 31 + (f 0).toInt64) * 31 + (f 1).toInt64) * 31 + (f 2).toInt64) * 31 + (f 3).toInt64) * 31 + (f 4).toInt64) * 31 + (f 5).toInt64) * 31 + (f 6).toInt64) * 31 + (f 9).toInt64) * 31 + (f 7).toInt64) (f 8) _) hN hA hK hS hP hD rfl (va_cwS 2 hts gX1_digestOfTable_X1_followedBy rfl rfl rfl (by decide +kernel) ⟨Nat.le_of_ble_eq_true rfl, Nat.le_of_ble_eq_true rfl⟩) rfl hl.1 rfl (Nat.le_of_ble_eq_true rfl) dX1_digestOfTable_120 ⟨Nat.zero_le _, Nat.zero_le _⟩ (fun r_120 u_120 H locs hw hP hD hS => ?_)
  have hw : r_120 = (((((((((1973 * 31 + (f 0).toInt64) * 31 + (f 1).toInt64) * 31 + (f 2).toInt64) * 31 + (f 3).toInt64) * 31 + (f 4).toInt64) * 31 + (f 5).toInt64) * 31 + (f 6).toInt64) * 31 + (f 9).toInt64) * 31 + (f 7).toInt64) * 31 + (f 8).toInt64 := hw
  subst hw
  have hP : va_P D vwCl (XO x0 a b ++ (DC cI a f r ++ DC cI b f2 r2)) H := hP
  have hD : va_D A (XO x0 a b ++ (DC cI a f r ++ DC cI b f2 r2)) := hD
  refine lv_lstore_n (lv' := [(1, .long ((((((((((1973 * 31 + (f 0).toInt64) * 31 + (f 1).toInt64) * 31 + (f 2).toInt64) * 31 + (f 3).toInt64) * 31 + (f 4).toInt64) * 31 + (f 5).toInt64) * 31 + (f 6).toInt64) * 31 + (f 9).toInt64) * 31 + (f 7).toInt64) * 31 + (f 8).toInt64)), (0, .ref x0)]) hx hb dX1_digestOfTable_123 rfl hl (by decide) rfl (fun ls hl => ?_)
  refine lv_lload_n hx hb dX1_digestOfTable_124 rfl (lv_at hl 0 rfl) ?_
  refine lv_aload_n hx hb dX1_digestOfTable_125 rfl (lv_at hl 1 rfl) ?_
  refine va_get (D := D) (ci := 1) (v := .ref (a 0)) (C := RX1) (T := TX1) (N := 2) hx hb hw1 (fun _ h => h) hown hK hP 0 rfl rfl 0 (by decide) k12 (fun _ h9 => h9) rfl dX1_digestOfTable_126 ?_
  refine wCVi (pre := XO x0 a b) (Wc := DC cI a f r) (suf := DC cI b f2 r2) (As := []) (rest := [.long ((((((((((1973 * 31 + (f 0).toInt64) * 31 + (f 1).toInt64) * 31 + (f 2).toInt64) * 31 + (f 3).toInt64) * 31 + (f 4).toInt64) * 31 + (f 5).toInt64) * 31 + (f 6).toInt64) * 31 + (f 9).toInt64) * 31 + (f 7).toInt64) * 31 + (f 8).toInt64)]) ⟨hx, hb, hml, hown, hts⟩ (mX0_rate l D cI a f r gg _ hg hg2 hg0) hN hA hK hS hP hD rfl 0 (r := (RX0, TX0, 17)) rfl rfl (cwV 0 hts gX1_digestOfTable_X0_rate rfl rfl rfl (by decide +kernel) ⟨Nat.le_of_ble_eq_true rfl, Nat.le_of_ble_eq_true rfl⟩) rfl hl.1 rfl (Nat.le_of_ble_eq_true rfl) dX1_digestOfTable_129 ⟨Nat.zero_le _, Nat.zero_le _⟩ (fun r_129 u_129 H locs hw hP hD hS => ?_)
  have hw : r_129 = dRate (f 0) (f 6) (r 3) gg := hw
  subst hw
  have hP : va_P D vwCl (XO x0 a b ++ (DC cI a f r ++ DC cI b f2 r2)) H := hP
  have hD : va_D A (XO x0 a b ++ (DC cI a f r ++ DC cI b f2 r2)) := hD
  refine wCSl (pre := ([] : va_W)) (Wc := ([] : va_W)) (suf := XO x0 a b ++ (DC cI a f r ++ DC cI b f2 r2)) (As := [.long ((((((((((1973 * 31 + (f 0).toInt64) * 31 + (f 1).toInt64) * 31 + (f 2).toInt64) * 31 + (f 3).toInt64) * 31 + (f 4).toInt64) * 31 + (f 5).toInt64) * 31 + (f 6).toInt64) * 31 + (f 9).toInt64) * 31 + (f 7).toInt64) * 31 + (f 8).toInt64), .int (dRate (f 0) (f 6) (r 3) gg)]) (rest := []) ⟨hx, hb, hml, hown, hts⟩ (mX1_followedBy l D cI ((((((((((1973 * 31 + (f 0).toInt64) * 31 + (f 1).toInt64) * 31 + (f 2).toInt64) * 31 + (f 3).toInt64) * 31 + (f 4).toInt64) * 31 + (f 5).toInt64) * 31 + (f 6).toInt64) * 31 + (f 9).toInt64) * 31 + (f 7).toInt64) * 31 + (f 8).toInt64) (dRate (f 0) (f 6) (r 3) gg) _) hN hA hK hS hP hD rfl (va_cwS 2 hts gX1_digestOfTable_X1_followedBy rfl rfl rfl (by decide +kernel) ⟨Nat.le_of_ble_eq_true rfl, Nat.le_of_ble_eq_true rfl⟩) rfl hl.1 rfl (Nat.le_of_ble_eq_true rfl) dX1_digestOfTable_132 ⟨Nat.zero_le _, Nat.zero_le _⟩ (fun r_132 u_132 H locs hw hP hD hS => ?_)
  have hw : r_132 = ((((((((((1973 * 31 + (f 0).toInt64) * 31 + (f 1).toInt64) * 31 + (f 2).toInt64) * 31 + (f 3).toInt64) * 31 + (f 4).toInt64) * 31 + (f 5).toInt64) * 31 + (f 6).toInt64) * 31 + (f 9).toInt64) * 31 + (f 7).toInt64) * 31 + (f 8).toInt64) * 31 + (dRate (f 0) (f 6) (r 3) gg).toInt64 := hw
  subst hw
  have hP : va_P D vwCl (XO x0 a b ++ (DC cI a f r ++ DC cI b f2 r2)) H := hP
  have hD : va_D A (XO x0 a b ++ (DC cI a f r ++ DC cI b f2 r2)) := hD
  exact wRl hQ hx hb hr hlocks hP hD hS dX1_digestOfTable_135 () (rfl) rfl
abbrev rmX1_withGuest : Room := { frames := 2, cells := 0, slots := 0, locals := 42 }
set_option maxRecDepth 100000 in
set_option maxHeartbeats 4000000 in
theorem mX1_withGuest (l : Launch) (D : va_G) (cI : ClassId) (x0 : Nat) (a b : Nat → Nat) (f f2 : Nat → Int32) (r r2 : Nat → Nat → Int32) (gg : Nat) (d : Int64) (x : Nat) (sz : Nat) (hg : f 0 = nI gg) (hg2 : gg ≤ 10) (hg0 : 0 < gg) (ux : x < gg) : wCt l yX1_withGuest wsX1_withGuest rmX1_withGuest D [(cI, .int)] [.ref x0, .long d, .int (nI x)] (XO x0 a b ++ (DC cI a f r ++ DC cI b f2 r2)) sz 0 0 (wQl D (fun v (_ : Unit) => v = dTo r x (dFour r x d) gg) (fun _ : Unit => XO x0 a b ++ (DC cI a f r ++ DC cI b f2 r2))) := by
  refine wMet cX1_withGuest 8 (some .long) (by decide) rfl (Nat.le_of_ble_eq_true rfl) ?_
  intro p e s m args below meth c A Q ls hQ hx hb hr hml hown hlocks hin hts hN hP hK hD hA hS hl
  have hl : lv_has ls 8 [(0, .ref x0), (1, .long d), (3, .int (nI x))] := hl
  have hown : s.vm.findClass RX1 = some m.cls := hown
  have hw0 : ∀ w ∈ wsX00, w.before args s = true := fun w h => hts w (List.mem_cons_of_mem _ (List.mem_append_right _ h))
  have hw1 : ∀ w ∈ wsX10, w.before args s = true := fun w h => hts w (List.mem_cons_of_mem _ (List.mem_append_left _ (List.mem_append_right _ h)))
  have k12 := hts (.fieldLink RX1 12 "PauseLedger" "dinner" "LPauseLedger$Dinner;") (by decide +kernel)
  have k58 := hts (.fieldLink RX1 58 "PauseLedger$Dinner" "guests" "I") (by decide +kernel)
  have k76 := hts (.fieldLink RX1 76 "PauseLedger$Dinner" "spoken" "[I") (by decide +kernel)
  have k80 := hts (.fieldLink RX1 80 "PauseLedger$Dinner" "interruptions" "[I") (by decide +kernel)
  have k83 := hts (.fieldLink RX1 83 "PauseLedger$Dinner" "coughs" "[I") (by decide +kernel)
  have k86 := hts (.fieldLink RX1 86 "PauseLedger$Dinner" "unsaid" "[I") (by decide +kernel)
  have k100 := hts (.fieldLink RX1 100 "PauseLedger$Dinner" "caught" "[I") (by decide +kernel)
  refine lv_lload_n hx hb dX1_withGuest_0 rfl (lv_at hl 1 rfl) ?_
  refine lv_lstore (lv' := [(4, .long d), (0, .ref x0), (1, .long d), (3, .int (nI x))]) hx hb dX1_withGuest_1 hl (by decide) rfl (fun ls hl => ?_)
  refine lv_lload hx hb dX1_withGuest_3 (lv_at hl 0 rfl) ?_
  refine lv_aload_n hx hb dX1_withGuest_5 rfl (lv_at hl 1 rfl) ?_
  refine va_get (D := D) (ci := 1) (v := .ref (a 0)) (C := RX1) (T := TX1) (N := 2) hx hb hw1 (fun _ h => h) hown hK hP 0 rfl rfl 0 (by decide) k12 (fun _ h9 => h9) rfl dX1_withGuest_6 ?_
  refine va_get (D := D) (ci := 0) (v := .ref (a 1)) (C := RX0) (T := TX0) (N := 17) hx hb hw0 (fun _ h => h) hown hK hP 1 rfl rfl 10 (by decide) k76 (fun _ h9 => h9) rfl dX1_withGuest_9 ?_
  refine lv_iload_n hx hb dX1_withGuest_12 rfl (lv_at hl 3 rfl) ?_
  refine wIald hx hb hK hP 2 0 rfl rfl x rfl (by omega) (by decide) dX1_withGuest_13 ?_
  refine wCSl (pre := ([] : va_W)) (Wc := ([] : va_W)) (suf := XO x0 a b ++ (DC cI a f r ++ DC cI b f2 r2)) (As := [.long d, .int ((r 0) x)]) (rest := []) ⟨hx, hb, hml, hown, hts⟩ (mX1_followedBy l D cI d ((r 0) x) _) hN hA hK hS hP hD rfl (va_cwS 2 hts gX1_withGuest_X1_followedBy rfl rfl rfl (by decide +kernel) ⟨Nat.le_of_ble_eq_true rfl, Nat.le_of_ble_eq_true rfl⟩) rfl hl.1 rfl (Nat.le_of_ble_eq_true rfl) dX1_withGuest_14 ⟨Nat.zero_le _, Nat.zero_le _⟩ (fun r_14 u_14 H locs hw hP hD hS => ?_)
  have hw : r_14 = d * 31 + ((r 0) x).toInt64 := hw
  subst hw
  have hP : va_P D vwCl (XO x0 a b ++ (DC cI a f r ++ DC cI b f2 r2)) H := hP
  have hD : va_D A (XO x0 a b ++ (DC cI a f r ++ DC cI b f2 r2)) := hD
  refine lv_lstore (lv' := [(4, .long (d * 31 + ((r 0) x).toInt64)), (0, .ref x0), (1, .long d), (3, .int (nI x))]) hx hb dX1_withGuest_17 hl (by decide) rfl (fun ls hl => ?_)
  refine lv_lload hx hb dX1_withGuest_19 (lv_at hl 0 rfl) ?_
  refine lv_aload_n hx hb dX1_withGuest_21 rfl (lv_at hl 1 rfl) ?_
  refine va_get (D := D) (ci := 1) (v := .ref (a 0)) (C := RX1) (T := TX1) (N := 2) hx hb hw1 (fun _ h => h) hown hK hP 0 rfl rfl 0 (by decide) k12 (fun _ h9 => h9) rfl dX1_withGuest_22 ?_
  refine va_get (D := D) (ci := 0) (v := .ref (a 2)) (C := RX0) (T := TX0) (N := 17) hx hb hw0 (fun _ h => h) hown hK hP 1 rfl rfl 11 (by decide) k80 (fun _ h9 => h9) rfl dX1_withGuest_25 ?_
  refine lv_iload_n hx hb dX1_withGuest_28 rfl (lv_at hl 3 rfl) ?_
  refine wIald hx hb hK hP 3 0 rfl rfl x rfl (by omega) (by decide) dX1_withGuest_29 ?_
  refine wCSl (pre := ([] : va_W)) (Wc := ([] : va_W)) (suf := XO x0 a b ++ (DC cI a f r ++ DC cI b f2 r2)) (As := [.long (d * 31 + ((r 0) x).toInt64), .int ((r 1) x)]) (rest := []) ⟨hx, hb, hml, hown, hts⟩ (mX1_followedBy l D cI (d * 31 + ((r 0) x).toInt64) ((r 1) x) _) hN hA hK hS hP hD rfl (va_cwS 2 hts gX1_withGuest_X1_followedBy rfl rfl rfl (by decide +kernel) ⟨Nat.le_of_ble_eq_true rfl, Nat.le_of_ble_eq_true rfl⟩) rfl hl.1 rfl (Nat.le_of_ble_eq_true rfl) dX1_withGuest_30 ⟨Nat.zero_le _, Nat.zero_le _⟩ (fun r_30 u_30 H locs hw hP hD hS => ?_)
  have hw : r_30 = (d * 31 + ((r 0) x).toInt64) * 31 + ((r 1) x).toInt64 := hw
  subst hw
  have hP : va_P D vwCl (XO x0 a b ++ (DC cI a f r ++ DC cI b f2 r2)) H := hP
  have hD : va_D A (XO x0 a b ++ (DC cI a f r ++ DC cI b f2 r2)) := hD
  refine lv_lstore (lv' := [(4, .long ((d * 31 + ((r 0) x).toInt64) * 31 + ((r 1) x).toInt64)), (0, .ref x0), (1, .long d), (3, .int (nI x))]) hx hb dX1_withGuest_33 hl (by decide) rfl (fun ls hl => ?_)
  refine lv_lload hx hb dX1_withGuest_35 (lv_at hl 0 rfl) ?_
  refine lv_aload_n hx hb dX1_withGuest_37 rfl (lv_at hl 1 rfl) ?_
  refine va_get (D := D) (ci := 1) (v := .ref (a 0)) (C := RX1) (T := TX1) (N := 2) hx hb hw1 (fun _ h => h) hown hK hP 0 rfl rfl 0 (by decide) k12 (fun _ h9 => h9) rfl dX1_withGuest_38 ?_
  refine va_get (D := D) (ci := 0) (v := .ref (a 3)) (C := RX0) (T := TX0) (N := 17) hx hb hw0 (fun _ h => h) hown hK hP 1 rfl rfl 12 (by decide) k83 (fun _ h9 => h9) rfl dX1_withGuest_41 ?_
  refine lv_iload_n hx hb dX1_withGuest_44 rfl (lv_at hl 3 rfl) ?_
  refine wIald hx hb hK hP 4 0 rfl rfl x rfl (by omega) (by decide) dX1_withGuest_45 ?_
  refine wCSl (pre := ([] : va_W)) (Wc := ([] : va_W)) (suf := XO x0 a b ++ (DC cI a f r ++ DC cI b f2 r2)) (As := [.long ((d * 31 + ((r 0) x).toInt64) * 31 + ((r 1) x).toInt64), .int ((r 2) x)]) (rest := []) ⟨hx, hb, hml, hown, hts⟩ (mX1_followedBy l D cI ((d * 31 + ((r 0) x).toInt64) * 31 + ((r 1) x).toInt64) ((r 2) x) _) hN hA hK hS hP hD rfl (va_cwS 2 hts gX1_withGuest_X1_followedBy rfl rfl rfl (by decide +kernel) ⟨Nat.le_of_ble_eq_true rfl, Nat.le_of_ble_eq_true rfl⟩) rfl hl.1 rfl (Nat.le_of_ble_eq_true rfl) dX1_withGuest_46 ⟨Nat.zero_le _, Nat.zero_le _⟩ (fun r_46 u_46 H locs hw hP hD hS => ?_)
  have hw : r_46 = ((d * 31 + ((r 0) x).toInt64) * 31 + ((r 1) x).toInt64) * 31 + ((r 2) x).toInt64 := hw
  subst hw
  have hP : va_P D vwCl (XO x0 a b ++ (DC cI a f r ++ DC cI b f2 r2)) H := hP
  have hD : va_D A (XO x0 a b ++ (DC cI a f r ++ DC cI b f2 r2)) := hD
  refine lv_lstore (lv' := [(4, .long (((d * 31 + ((r 0) x).toInt64) * 31 + ((r 1) x).toInt64) * 31 + ((r 2) x).toInt64)), (0, .ref x0), (1, .long d), (3, .int (nI x))]) hx hb dX1_withGuest_49 hl (by decide) rfl (fun ls hl => ?_)
  refine lv_lload hx hb dX1_withGuest_51 (lv_at hl 0 rfl) ?_
  refine lv_aload_n hx hb dX1_withGuest_53 rfl (lv_at hl 1 rfl) ?_
  refine va_get (D := D) (ci := 1) (v := .ref (a 0)) (C := RX1) (T := TX1) (N := 2) hx hb hw1 (fun _ h => h) hown hK hP 0 rfl rfl 0 (by decide) k12 (fun _ h9 => h9) rfl dX1_withGuest_54 ?_
  refine va_get (D := D) (ci := 0) (v := .ref (a 4)) (C := RX0) (T := TX0) (N := 17) hx hb hw0 (fun _ h => h) hown hK hP 1 rfl rfl 13 (by decide) k86 (fun _ h9 => h9) rfl dX1_withGuest_57 ?_
  refine lv_iload_n hx hb dX1_withGuest_60 rfl (lv_at hl 3 rfl) ?_
  refine wIald hx hb hK hP 5 0 rfl rfl x rfl (by omega) (by decide) dX1_withGuest_61 ?_
  refine wCSl (pre := ([] : va_W)) (Wc := ([] : va_W)) (suf := XO x0 a b ++ (DC cI a f r ++ DC cI b f2 r2)) (As := [.long (((d * 31 + ((r 0) x).toInt64) * 31 + ((r 1) x).toInt64) * 31 + ((r 2) x).toInt64), .int ((r 3) x)]) (rest := []) ⟨hx, hb, hml, hown, hts⟩ (mX1_followedBy l D cI (((d * 31 + ((r 0) x).toInt64) * 31 + ((r 1) x).toInt64) * 31 + ((r 2) x).toInt64) ((r 3) x) _) hN hA hK hS hP hD rfl (va_cwS 2 hts gX1_withGuest_X1_followedBy rfl rfl rfl (by decide +kernel) ⟨Nat.le_of_ble_eq_true rfl, Nat.le_of_ble_eq_true rfl⟩) rfl hl.1 rfl (Nat.le_of_ble_eq_true rfl) dX1_withGuest_62 ⟨Nat.zero_le _, Nat.zero_le _⟩ (fun r_62 u_62 H locs hw hP hD hS => ?_)
  have hw : r_62 = (((d * 31 + ((r 0) x).toInt64) * 31 + ((r 1) x).toInt64) * 31 + ((r 2) x).toInt64) * 31 + ((r 3) x).toInt64 := hw
  subst hw
  have hP : va_P D vwCl (XO x0 a b ++ (DC cI a f r ++ DC cI b f2 r2)) H := hP
  have hD : va_D A (XO x0 a b ++ (DC cI a f r ++ DC cI b f2 r2)) := hD
  refine lv_lstore (lv' := [(4, .long ((((d * 31 + ((r 0) x).toInt64) * 31 + ((r 1) x).toInt64) * 31 + ((r 2) x).toInt64) * 31 + ((r 3) x).toInt64)), (0, .ref x0), (1, .long d), (3, .int (nI x))]) hx hb dX1_withGuest_65 hl (by decide) rfl (fun ls hl => ?_)
  refine lv_iconst (v := 0) hx hb dX1_withGuest_67 (by decide) ?_
  refine lv_istore (lv' := [(6, .int 0), (4, .long ((((d * 31 + ((r 0) x).toInt64) * 31 + ((r 1) x).toInt64) * 31 + ((r 2) x).toInt64) * 31 + ((r 3) x).toInt64)), (0, .ref x0), (1, .long d), (3, .int (nI x))]) hx hb dX1_withGuest_68 hl (by decide) rfl (fun ls hl => ?_)
  have loop70 : ∀ (j i70 : Nat), i70 + j = gg → ∀ (H : Heap) (locs : List Loc) (ls : Array Slot), va_P D vwCl (XO x0 a b ++ (DC cI a f r ++ DC cI b f2 r2)) H → va_D A (XO x0 a b ++ (DC cI a f r ++ DC cI b f2 r2)) → va_S A s.heap H locs → lv_has ls 8 [(6, .int (nI i70)), (4, .long (dTo r x (dFour r x d) i70)), (0, .ref x0), (3, .int (nI x))] → W p l e rmX1_withGuest s m args below meth c H locs 0 0 Q (F0 m 70 ls []) := by
    intro j
    induction j with
    | zero =>
      intro i70 hi70 H locs ls hP hD hS hl
      have ez : gg = i70 := by omega
      subst ez
      refine lv_iload hx hb dX1_withGuest_70 (lv_at hl 0 rfl) ?_
      refine lv_aload_n hx hb dX1_withGuest_72 rfl (lv_at hl 2 rfl) ?_
      refine va_get (D := D) (ci := 1) (v := .ref (a 0)) (C := RX1) (T := TX1) (N := 2) hx hb hw1 (fun _ h => h) hown hK hP 0 rfl rfl 0 (by decide) k12 (fun _ h9 => h9) rfl dX1_withGuest_73 ?_
      refine va_get (D := D) (ci := 0) (v := .int (f 0)) (C := RX0) (T := TX0) (N := 17) hx hb hw0 (fun _ h => h) hown hK hP 1 rfl rfl 0 (by decide) k58 (fun _ h9 => h9) rfl dX1_withGuest_76 ?_
      refine lv_icmp_ge (tgt := 129) hx hb dX1_withGuest_79 (by decide) (fun c_79 => ?_) (fun h9 => absurd (by rw [hg]; exact nI_le (by omega) (by omega)) h9)
      refine lv_lload hx hb dX1_withGuest_129 (lv_at hl 1 rfl) ?_
      exact wRl hQ hx hb hr hlocks hP hD hS dX1_withGuest_131 () (rfl) rfl
    | succ j ih70 =>
      intro i70 hi70 H locs ls hP hD hS hl
      refine lv_iload hx hb dX1_withGuest_70 (lv_at hl 0 rfl) ?_
      refine lv_aload_n hx hb dX1_withGuest_72 rfl (lv_at hl 2 rfl) ?_
      refine va_get (D := D) (ci := 1) (v := .ref (a 0)) (C := RX1) (T := TX1) (N := 2) hx hb hw1 (fun _ h => h) hown hK hP 0 rfl rfl 0 (by decide) k12 (fun _ h9 => h9) rfl dX1_withGuest_73 ?_
      refine va_get (D := D) (ci := 0) (v := .int (f 0)) (C := RX0) (T := TX0) (N := 17) hx hb hw0 (fun _ h => h) hown hK hP 1 rfl rfl 0 (by decide) k58 (fun _ h9 => h9) rfl dX1_withGuest_76 ?_
      refine lv_icmp_ge (tgt := 129) hx hb dX1_withGuest_79 (by decide) (fun h9 => absurd h9 (by rw [hg]; exact nI_ge (by omega) (by omega))) (fun c_79 => ?_)
      refine lv_iload_n hx hb dX1_withGuest_82 rfl (lv_at hl 3 rfl) ?_
      refine lv_iload hx hb dX1_withGuest_83 (lv_at hl 0 rfl) ?_
      refine wCSi (pre := ([] : va_W)) (Wc := ([] : va_W)) (suf := XO x0 a b ++ (DC cI a f r ++ DC cI b f2 r2)) (As := [.int (nI x), .int (nI i70)]) (rest := []) ⟨hx, hb, hml, hown, hts⟩ (mX1_pairOf l D cI x i70 _) hN hA hK hS hP hD rfl (va_cwS 2 hts gX1_withGuest_X1_pairOf rfl rfl rfl (by decide +kernel) ⟨Nat.le_of_ble_eq_true rfl, Nat.le_of_ble_eq_true rfl⟩) rfl hl.1 rfl (Nat.le_of_ble_eq_true rfl) dX1_withGuest_85 ⟨Nat.zero_le _, Nat.zero_le _⟩ (fun r_85 u_85 H locs hw hP hD hS => ?_)
      have hw : r_85 = nI (x * 10 + i70) := hw
      subst hw
      have hP : va_P D vwCl (XO x0 a b ++ (DC cI a f r ++ DC cI b f2 r2)) H := hP
      have hD : va_D A (XO x0 a b ++ (DC cI a f r ++ DC cI b f2 r2)) := hD
      refine lv_istore (lv' := [(7, .int (nI (x * 10 + i70))), (6, .int (nI i70)), (4, .long (dTo r x (dFour r x d) i70)), (0, .ref x0), (3, .int (nI x))]) hx hb dX1_withGuest_88 hl (by decide) rfl (fun ls hl => ?_)
      refine lv_lload hx hb dX1_withGuest_90 (lv_at hl 2 rfl) ?_
      refine lv_aload_n hx hb dX1_withGuest_92 rfl (lv_at hl 3 rfl) ?_
      refine va_get (D := D) (ci := 1) (v := .ref (a 0)) (C := RX1) (T := TX1) (N := 2) hx hb hw1 (fun _ h => h) hown hK hP 0 rfl rfl 0 (by decide) k12 (fun _ h9 => h9) rfl dX1_withGuest_93 ?_
      refine lv_iload hx hb dX1_withGuest_96 (lv_at hl 0 rfl) ?_
      refine wCVi (pre := XO x0 a b) (Wc := DC cI a f r) (suf := DC cI b f2 r2) (As := [.int (nI (x * 10 + i70))]) (rest := [.long (dTo r x (dFour r x d) i70)]) ⟨hx, hb, hml, hown, hts⟩ (mX0_timeToGo l D cI a f r (x * 10 + i70) _ (by omega)) hN hA hK hS hP hD rfl 0 (r := (RX0, TX0, 17)) rfl rfl (cwV 1 hts gX1_withGuest_X0_timeToGo rfl rfl rfl (by decide +kernel) ⟨Nat.le_of_ble_eq_true rfl, Nat.le_of_ble_eq_true rfl⟩) rfl hl.1 rfl (Nat.le_of_ble_eq_true rfl) dX1_withGuest_98 ⟨Nat.zero_le _, Nat.zero_le _⟩ (fun r_98 u_98 H locs hw hP hD hS => ?_)
      have hw : r_98 = dToGo (r 4) (x * 10 + i70) := hw
      subst hw
      have hP : va_P D vwCl (XO x0 a b ++ (DC cI a f r ++ DC cI b f2 r2)) H := hP
      have hD : va_D A (XO x0 a b ++ (DC cI a f r ++ DC cI b f2 r2)) := hD
      refine wCSl (pre := ([] : va_W)) (Wc := ([] : va_W)) (suf := XO x0 a b ++ (DC cI a f r ++ DC cI b f2 r2)) (As := [.long (dTo r x (dFour r x d) i70), .int (dToGo (r 4) (x * 10 + i70))]) (rest := []) ⟨hx, hb, hml, hown, hts⟩ (mX1_followedBy l D cI (dTo r x (dFour r x d) i70) (dToGo (r 4) (x * 10 + i70)) _) hN hA hK hS hP hD rfl (va_cwS 2 hts gX1_withGuest_X1_followedBy rfl rfl rfl (by decide +kernel) ⟨Nat.le_of_ble_eq_true rfl, Nat.le_of_ble_eq_true rfl⟩) rfl hl.1 rfl (Nat.le_of_ble_eq_true rfl) dX1_withGuest_101 ⟨Nat.zero_le _, Nat.zero_le _⟩ (fun r_101 u_101 H locs hw hP hD hS => ?_)
      have hw : r_101 = (dTo r x (dFour r x d) i70) * 31 + (dToGo (r 4) (x * 10 + i70)).toInt64 := hw
      subst hw
      have hP : va_P D vwCl (XO x0 a b ++ (DC cI a f r ++ DC cI b f2 r2)) H := hP
      have hD : va_D A (XO x0 a b ++ (DC cI a f r ++ DC cI b f2 r2)) := hD
      refine lv_lstore (lv' := [(4, .long ((dTo r x (dFour r x d) i70) * 31 + (dToGo (r 4) (x * 10 + i70)).toInt64)), (7, .int (nI (x * 10 + i70))), (6, .int (nI i70)), (0, .ref x0), (3, .int (nI x))]) hx hb dX1_withGuest_104 hl (by decide) rfl (fun ls hl => ?_)
      refine lv_lload hx hb dX1_withGuest_106 (lv_at hl 0 rfl) ?_
      refine lv_aload_n hx hb dX1_withGuest_108 rfl (lv_at hl 3 rfl) ?_
      refine va_get (D := D) (ci := 1) (v := .ref (a 0)) (C := RX1) (T := TX1) (N := 2) hx hb hw1 (fun _ h => h) hown hK hP 0 rfl rfl 0 (by decide) k12 (fun _ h9 => h9) rfl dX1_withGuest_109 ?_
      refine va_get (D := D) (ci := 0) (v := .ref (a 6)) (C := RX0) (T := TX0) (N := 17) hx hb hw0 (fun _ h => h) hown hK hP 1 rfl rfl 15 (by decide) k100 (fun _ h9 => h9) rfl dX1_withGuest_112 ?_
      refine lv_iload hx hb dX1_withGuest_115 (lv_at hl 1 rfl) ?_
      refine wIald hx hb hK hP 7 0 rfl rfl (x * 10 + i70) rfl (by omega) (by decide) dX1_withGuest_117 ?_
      refine wCSl (pre := ([] : va_W)) (Wc := ([] : va_W)) (suf := XO x0 a b ++ (DC cI a f r ++ DC cI b f2 r2)) (As := [.long ((dTo r x (dFour r x d) i70) * 31 + (dToGo (r 4) (x * 10 + i70)).toInt64), .int ((r 5) (x * 10 + i70))]) (rest := []) ⟨hx, hb, hml, hown, hts⟩ (mX1_followedBy l D cI ((dTo r x (dFour r x d) i70) * 31 + (dToGo (r 4) (x * 10 + i70)).toInt64) ((r 5) (x * 10 + i70)) _) hN hA hK hS hP hD rfl (va_cwS 2 hts gX1_withGuest_X1_followedBy rfl rfl rfl (by decide +kernel) ⟨Nat.le_of_ble_eq_true rfl, Nat.le_of_ble_eq_true rfl⟩) rfl hl.1 rfl (Nat.le_of_ble_eq_true rfl) dX1_withGuest_118 ⟨Nat.zero_le _, Nat.zero_le _⟩ (fun r_118 u_118 H locs hw hP hD hS => ?_)
      have hw : r_118 = ((dTo r x (dFour r x d) i70) * 31 + (dToGo (r 4) (x * 10 + i70)).toInt64) * 31 + ((r 5) (x * 10 + i70)).toInt64 := hw
      subst hw
      have hP : va_P D vwCl (XO x0 a b ++ (DC cI a f r ++ DC cI b f2 r2)) H := hP
      have hD : va_D A (XO x0 a b ++ (DC cI a f r ++ DC cI b f2 r2)) := hD
      refine lv_lstore (lv' := [(4, .long (((dTo r x (dFour r x d) i70) * 31 + (dToGo (r 4) (x * 10 + i70)).toInt64) * 31 + ((r 5) (x * 10 + i70)).toInt64)), (7, .int (nI (x * 10 + i70))), (6, .int (nI i70)), (0, .ref x0), (3, .int (nI x))]) hx hb dX1_withGuest_121 hl (by decide) rfl (fun ls hl => ?_)
      refine lv_iinc (v := nI (i70 + 1)) (lv' := [(6, .int (nI (i70 + 1))), (4, .long (((dTo r x (dFour r x d) i70) * 31 + (dToGo (r 4) (x * 10 + i70)).toInt64) * 31 + ((r 5) (x * 10 + i70)).toInt64)), (7, .int (nI (x * 10 + i70))), (0, .ref x0), (3, .int (nI x))]) hx hb dX1_withGuest_123 hl (k := 2) rfl (nI_1 i70) (by decide) rfl (fun ls hl => ?_)
      refine lv_goto (tgt := 70) hx hb dX1_withGuest_126 (by decide) ?_
      exact ih70 (i70 + 1) (by omega) _ _ _ hP hD hS (lv_sub hl [0, 1, 3, 4] rfl)
  exact loop70 gg 0 (by omega) _ _ _ hP hD hS (lv_sub hl [0, 1, 2, 4] rfl)
abbrev rmX1_digest : Room := { frames := 4, cells := 0, slots := 0, locals := 85 }
set_option maxRecDepth 100000 in
set_option maxHeartbeats 4000000 in
theorem mX1_digest (l : Launch) (D : va_G) (cI : ClassId) (x0 : Nat) (a b : Nat → Nat) (f f2 : Nat → Int32) (r r2 : Nat → Nat → Int32) (gg : Nat) (sz : Nat) (hg : f 0 = nI gg) (hg2 : gg ≤ 10) (hg0 : 0 < gg) : wCt l yX1_digest wsX1_digest rmX1_digest D [(cI, .int)] [.ref x0] (XO x0 a b ++ (DC cI a f r ++ DC cI b f2 r2)) sz 0 0 (wQl D (fun v (_ : Unit) => v = dGs r gg (dHead f (dRate (f 0) (f 6) (r 3) gg)) gg) (fun _ : Unit => XO x0 a b ++ (DC cI a f r ++ DC cI b f2 r2))) := by
  refine wMet cX1_digest 4 (some .long) (by decide) rfl (Nat.le_of_ble_eq_true rfl) ?_
  intro p e s m args below meth c A Q ls hQ hx hb hr hml hown hlocks hin hts hN hP hK hD hA hS hl
  have hl : lv_has ls 4 [(0, .ref x0)] := hl
  have hown : s.vm.findClass RX1 = some m.cls := hown
  have hw0 : ∀ w ∈ wsX00, w.before args s = true := fun w h => hts w (List.mem_cons_of_mem _ (List.mem_append_right _ h))
  have hw1 : ∀ w ∈ wsX10, w.before args s = true := fun w h => hts w (List.mem_cons_of_mem _ (List.mem_append_left _ (List.mem_append_right _ h)))
  have k12 := hts (.fieldLink RX1 12 "PauseLedger" "dinner" "LPauseLedger$Dinner;") (by decide +kernel)
  have k58 := hts (.fieldLink RX1 58 "PauseLedger$Dinner" "guests" "I") (by decide +kernel)
  refine lv_aload_n hx hb dX1_digest_0 rfl (lv_at hl 0 rfl) ?_
  refine wCVl (pre := ([] : va_W)) (Wc := XO x0 a b ++ (DC cI a f r ++ DC cI b f2 r2)) (suf := ([] : va_W)) (As := []) (rest := []) ⟨hx, hb, hml, hown, hts⟩ (mX1_digestOfTable l D cI x0 a b f f2 r r2 gg _ hg hg2 hg0) hN hA hK hS hP hD rfl 0 (r := (RX1, TX1, 2)) rfl rfl (cwV 0 hts gX1_digest_X1_digestOfTable rfl rfl rfl (by decide +kernel) ⟨Nat.le_of_ble_eq_true rfl, Nat.le_of_ble_eq_true rfl⟩) rfl hl.1 rfl (Nat.le_of_ble_eq_true rfl) dX1_digest_1 ⟨Nat.zero_le _, Nat.zero_le _⟩ (fun r_1 u_1 H locs hw hP hD hS => ?_)
  have hw : r_1 = dHead f (dRate (f 0) (f 6) (r 3) gg) := hw
  subst hw
  have hP : va_P D vwCl (XO x0 a b ++ (DC cI a f r ++ DC cI b f2 r2)) H := hP
  have hD : va_D A (XO x0 a b ++ (DC cI a f r ++ DC cI b f2 r2)) := hD
  refine lv_lstore_n (lv' := [(1, .long (dHead f (dRate (f 0) (f 6) (r 3) gg))), (0, .ref x0)]) hx hb dX1_digest_4 rfl hl (by decide) rfl (fun ls hl => ?_)
  refine lv_iconst (v := 0) hx hb dX1_digest_5 (by decide) ?_
  refine lv_istore_n (lv' := [(3, .int 0), (1, .long (dHead f (dRate (f 0) (f 6) (r 3) gg))), (0, .ref x0)]) hx hb dX1_digest_6 rfl hl (by decide) rfl (fun ls hl => ?_)
  have loop7 : ∀ (j i7 : Nat), i7 + j = gg → ∀ (H : Heap) (locs : List Loc) (ls : Array Slot), va_P D vwCl (XO x0 a b ++ (DC cI a f r ++ DC cI b f2 r2)) H → va_D A (XO x0 a b ++ (DC cI a f r ++ DC cI b f2 r2)) → va_S A s.heap H locs → lv_has ls 4 [(3, .int (nI i7)), (1, .long (dGs r gg (dHead f (dRate (f 0) (f 6) (r 3) gg)) i7)), (0, .ref x0)] → W p l e rmX1_digest s m args below meth c H locs 0 0 Q (F0 m 7 ls []) := by
    intro j
    induction j with
    | zero =>
      intro i7 hi7 H locs ls hP hD hS hl
      have ez : gg = i7 := by omega
      subst ez
      refine lv_iload_n hx hb dX1_digest_7 rfl (lv_at hl 0 rfl) ?_
      refine lv_aload_n hx hb dX1_digest_8 rfl (lv_at hl 2 rfl) ?_
      refine va_get (D := D) (ci := 1) (v := .ref (a 0)) (C := RX1) (T := TX1) (N := 2) hx hb hw1 (fun _ h => h) hown hK hP 0 rfl rfl 0 (by decide) k12 (fun _ h9 => h9) rfl dX1_digest_9 ?_
      refine va_get (D := D) (ci := 0) (v := .int (f 0)) (C := RX0) (T := TX0) (N := 17) hx hb hw0 (fun _ h => h) hown hK hP 1 rfl rfl 0 (by decide) k58 (fun _ h9 => h9) rfl dX1_digest_12 ?_
      refine lv_icmp_ge (tgt := 31) hx hb dX1_digest_15 (by decide) (fun c_15 => ?_) (fun h9 => absurd (by rw [hg]; exact nI_le (by omega) (by omega)) h9)
      refine lv_lload_n hx hb dX1_digest_31 rfl (lv_at hl 1 rfl) ?_
      exact wRl hQ hx hb hr hlocks hP hD hS dX1_digest_32 () (rfl) rfl
    | succ j ih7 =>
      intro i7 hi7 H locs ls hP hD hS hl
      refine lv_iload_n hx hb dX1_digest_7 rfl (lv_at hl 0 rfl) ?_
      refine lv_aload_n hx hb dX1_digest_8 rfl (lv_at hl 2 rfl) ?_
      refine va_get (D := D) (ci := 1) (v := .ref (a 0)) (C := RX1) (T := TX1) (N := 2) hx hb hw1 (fun _ h => h) hown hK hP 0 rfl rfl 0 (by decide) k12 (fun _ h9 => h9) rfl dX1_digest_9 ?_
      refine va_get (D := D) (ci := 0) (v := .int (f 0)) (C := RX0) (T := TX0) (N := 17) hx hb hw0 (fun _ h => h) hown hK hP 1 rfl rfl 0 (by decide) k58 (fun _ h9 => h9) rfl dX1_digest_12 ?_
      refine lv_icmp_ge (tgt := 31) hx hb dX1_digest_15 (by decide) (fun h9 => absurd h9 (by rw [hg]; exact nI_ge (by omega) (by omega))) (fun c_15 => ?_)
      refine lv_aload_n hx hb dX1_digest_18 rfl (lv_at hl 2 rfl) ?_
      refine lv_lload_n hx hb dX1_digest_19 rfl (lv_at hl 1 rfl) ?_
      refine lv_iload_n hx hb dX1_digest_20 rfl (lv_at hl 0 rfl) ?_
      refine wCVl (pre := ([] : va_W)) (Wc := XO x0 a b ++ (DC cI a f r ++ DC cI b f2 r2)) (suf := ([] : va_W)) (As := [.long (dGs r gg (dHead f (dRate (f 0) (f 6) (r 3) gg)) i7), .int (nI i7)]) (rest := []) ⟨hx, hb, hml, hown, hts⟩ (mX1_withGuest l D cI x0 a b f f2 r r2 gg (dGs r gg (dHead f (dRate (f 0) (f 6) (r 3) gg)) i7) i7 _ hg hg2 hg0 (by omega)) hN hA hK hS hP hD rfl 0 (r := (RX1, TX1, 2)) rfl rfl (cwV 2 hts gX1_digest_X1_withGuest rfl rfl rfl (by decide +kernel) ⟨Nat.le_of_ble_eq_true rfl, Nat.le_of_ble_eq_true rfl⟩) rfl hl.1 rfl (Nat.le_of_ble_eq_true rfl) dX1_digest_21 ⟨Nat.zero_le _, Nat.zero_le _⟩ (fun r_21 u_21 H locs hw hP hD hS => ?_)
      have hw : r_21 = dTo r i7 (dFour r i7 (dGs r gg (dHead f (dRate (f 0) (f 6) (r 3) gg)) i7)) gg := hw
      subst hw
      have hP : va_P D vwCl (XO x0 a b ++ (DC cI a f r ++ DC cI b f2 r2)) H := hP
      have hD : va_D A (XO x0 a b ++ (DC cI a f r ++ DC cI b f2 r2)) := hD
      refine lv_lstore_n (lv' := [(1, .long (dTo r i7 (dFour r i7 (dGs r gg (dHead f (dRate (f 0) (f 6) (r 3) gg)) i7)) gg)), (3, .int (nI i7)), (0, .ref x0)]) hx hb dX1_digest_24 rfl hl (by decide) rfl (fun ls hl => ?_)
      refine lv_iinc (v := nI (i7 + 1)) (lv' := [(3, .int (nI (i7 + 1))), (1, .long (dTo r i7 (dFour r i7 (dGs r gg (dHead f (dRate (f 0) (f 6) (r 3) gg)) i7)) gg)), (0, .ref x0)]) hx hb dX1_digest_25 hl (k := 1) rfl (nI_1 i7) (by decide) rfl (fun ls hl => ?_)
      refine lv_goto (tgt := 7) hx hb dX1_digest_28 (by decide) ?_
      exact ih7 (i7 + 1) (by omega) _ _ _ hP hD hS (lv_sub hl [0, 1, 2] rfl)
  exact loop7 gg 0 (by omega) _ _ _ hP hD hS (lv_sub hl [0, 1, 2] rfl)
