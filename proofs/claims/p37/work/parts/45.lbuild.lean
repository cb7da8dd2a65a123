abbrev rmL_build : Room := { frames := 7, cells := 1105, slots := 11375, locals := 163 }
set_option maxRecDepth 100000 in
set_option maxHeartbeats 4000000 in
/-- build -/
theorem mL_build (l : Launch) (D : va_G) (cI cR : ClassId) (x0 : Nat) (pa pb : Nat → Nat) (f2 : Nat → Int32) (r2 : Nat → Nat → Int32) (sz sb LN : Nat) (xs : Nat → Int32) (hLN : LN < 2 ^ 31) : wCc l yL_build wsL_build rmL_build D [(cI, .int), (cR, .array .int)] [.ref x0, .ref sb] (XO x0 pa pb ++ (DC cI pa dF0 dR0 ++ DC cI pb f2 r2)) sz 1105 11375 sb LN xs (wQr D (fun u : aS => aInv 1512000 u) (fun u : aS => XO x0 pa pb ++ (DC cI pa u.2.1.1 u.2.1.2.1 ++ (DC cI pb f2 r2 ++ (SC cI cR u.2.2.1 u.2.2.2.1 u.2.2.2.2 u.1.1 u.1.2.2 u.2.1.1 u.2.1.2.1 ++ (CW cI u.2.2.2.1 u.1.1 (u.2.1.2.1 5) ++ RW cI u.2.2.2.2 u.1.2.2 3 u.2.1.2.2.1))))) (fun u : aS => u.2.2.1 0)) := by
  refine wMetC cL_build 5 (some (.object "PauseLedgerLaw$Sim")) (by decide) rfl (Nat.le_of_ble_eq_true rfl) ?_
  intro p e s m args below meth c A Q ls hQ hx hb hr hml hown hlocks hin hts hN hP hK hD hA hS hl hX hbl hbA
  have hK1 : va_K D vwCl [(cI, .int)] s := hK.sub [0] rfl
  have hl : lv_has ls 5 [(0, .ref x0), (1, .ref sb)] := hl
  have hown : s.vm.findClass RL = some m.cls := hown
  have hw2 : ∀ w ∈ wsX20, w.before args s = true := fun w h => hts w (List.mem_cons_of_mem _ (List.mem_append_left _ (List.mem_append_left _ (List.mem_append_left _ (List.mem_append_left _ (List.mem_append_left _ (List.mem_append_right _ h)))))))
  have k9 := hts (.fieldLink RL 9 "PauseLedgerLaw$Sim" "guests" "I") (by decide +kernel)
  refine va_new (ci := 2) (fs := [.int 0, .int 0, .int 0, .int 0, .int 0, .int 0, .int 0, .int 0, .int 0, .null, .null, .null, .null, .null, .null]) (C := RX2) (T := TX2) (N := 15) hx hb hw2 (fun _ h => h) tyX2 tyX2_ok hown (hts (.classLink RL 10 RX2) (by decide +kernel)) (hts (.instantiable RX2 15) (by decide +kernel)) (hts (.initialized RX2) (by decide +kernel)) hK hP hD hS hA rfl (fun j hj => by exact newDefX2 j hj) (by show 0 + 1 ≤ 1105; omega) (by show 0 + 15 ≤ 11375; omega) dL_build_0 (fun q0 H hP hD hS => ?_)
  have hP := wRotP hP
  have hD := wRotD hD
  have hP : va_P D vwCl ([(q0, .inr (2, [.int 0, .int 0, .int 0, .int 0, .int 0, .int 0, .int 0, .int 0, .int 0, .null, .null, .null, .null, .null, .null]))] ++ (XO x0 pa pb ++ (DC cI pa dF0 dR0 ++ DC cI pb f2 r2))) H := hP
  have hD : va_D A ([(q0, .inr (2, [.int 0, .int 0, .int 0, .int 0, .int 0, .int 0, .int 0, .int 0, .int 0, .null, .null, .null, .null, .null, .null]))] ++ (XO x0 pa pb ++ (DC cI pa dF0 dR0 ++ DC cI pb f2 r2))) := hD
  refine lv_dup hx hb dL_build_3 rfl ?_
  refine lv_iconst (v := 2) hx hb dL_build_4 (by decide) ?_
  refine lv_aload_n hx hb dL_build_5 rfl (lv_at hl 1 rfl) ?_
  refine lv_iconst (v := 0) hx hb dL_build_6 (by decide) ?_
  refine wCSic (pre := ([] : va_W)) (Wc := ([] : va_W)) (suf := [(q0, .inr (2, [.int 0, .int 0, .int 0, .int 0, .int 0, .int 0, .int 0, .int 0, .int 0, .null, .null, .null, .null, .null, .null]))] ++ (XO x0 pa pb ++ (DC cI pa dF0 dR0 ++ DC cI pb f2 r2))) (As := [.ref sb, .int 0]) (rest := [.int 2, .ref q0, .ref q0]) ⟨hx, hb, hml, hown, hts⟩ (mL_cell l D cI cR 0 _ sb LN xs (by omega) hLN) hN hA hX hbl hbA hK hS hP hD (rfl) (va_cwS 2 hts gL_build_L_cell rfl rfl rfl (by decide +kernel) ⟨Nat.le_of_ble_eq_true rfl, Nat.le_of_ble_eq_true rfl⟩) rfl hl.1 rfl (Nat.le_of_ble_eq_true rfl) dL_build_7 ⟨by show (0 + 1) + 0 ≤ 1105; omega, by show (0 + 15) + 0 ≤ 11375; omega⟩ (fun r_7 u_7 H locs hw hP hD hS => ?_)
  have hP : va_P D vwCl ([(q0, .inr (2, [.int 0, .int 0, .int 0, .int 0, .int 0, .int 0, .int 0, .int 0, .int 0, .null, .null, .null, .null, .null, .null]))] ++ (XO x0 pa pb ++ (DC cI pa dF0 dR0 ++ DC cI pb f2 r2))) H := hP
  have hD : va_D A ([(q0, .inr (2, [.int 0, .int 0, .int 0, .int 0, .int 0, .int 0, .int 0, .int 0, .int 0, .null, .null, .null, .null, .null, .null]))] ++ (XO x0 pa pb ++ (DC cI pa dF0 dR0 ++ DC cI pb f2 r2))) := hD
  refine lv_bipush (v := 9) hx hb dL_build_10 (by decide) ?_
  refine wCSi (pre := ([] : va_W)) (Wc := ([] : va_W)) (suf := [(q0, .inr (2, [.int 0, .int 0, .int 0, .int 0, .int 0, .int 0, .int 0, .int 0, .int 0, .null, .null, .null, .null, .null, .null]))] ++ (XO x0 pa pb ++ (DC cI pa dF0 dR0 ++ DC cI pb f2 r2))) (As := [.int r_7, .int 9]) (rest := [.int 2, .ref q0, .ref q0]) ⟨hx, hb, hml, hown, hts⟩ (mL_below l D cI cR r_7 9 _ (by omega) (by omega)) hN hA hK hS hP hD (rfl) (va_cwS 2 hts gL_build_L_below rfl rfl rfl (by decide +kernel) ⟨Nat.le_of_ble_eq_true rfl, Nat.le_of_ble_eq_true rfl⟩) rfl hl.1 rfl (Nat.le_of_ble_eq_true rfl) dL_build_12 ⟨by show ((0 + 1) + 0) ≤ 1105; omega, by show ((0 + 15) + 0) ≤ 11375; omega⟩ (fun r_12 u_12 H locs hw hP hD hS => ?_)
  obtain ⟨hw, hlt_12⟩ := hw
  have hw : r_12 = nI u_12 := hw
  subst hw
  have hP : va_P D vwCl ([(q0, .inr (2, [.int 0, .int 0, .int 0, .int 0, .int 0, .int 0, .int 0, .int 0, .int 0, .null, .null, .null, .null, .null, .null]))] ++ (XO x0 pa pb ++ (DC cI pa dF0 dR0 ++ DC cI pb f2 r2))) H := hP
  have hD : va_D A ([(q0, .inr (2, [.int 0, .int 0, .int 0, .int 0, .int 0, .int 0, .int 0, .int 0, .int 0, .null, .null, .null, .null, .null, .null]))] ++ (XO x0 pa pb ++ (DC cI pa dF0 dR0 ++ DC cI pb f2 r2))) := hD
  refine lv_iadd hx hb dL_build_15 ?_
  refine wTop (z := nI (2 + u_12)) (nI_add 2 u_12) ?_
  refine wCIv (pre := ([] : va_W)) (Wc := [(q0, .inr (2, [.int 0, .int 0, .int 0, .int 0, .int 0, .int 0, .int 0, .int 0, .int 0, .null, .null, .null, .null, .null, .null]))]) (suf := XO x0 pa pb ++ (DC cI pa dF0 dR0 ++ DC cI pb f2 r2)) (As := [.int (nI (2 + u_12))]) (rest := [.ref q0]) ⟨hx, hb, hml, hown, hts⟩ (mX2_init l D cI cR q0 (2 + u_12) _ (by omega) (by omega)) hN hA hK hS hP hD (rfl) (cwI 1 hts gL_build_X2_init rfl rfl rfl (hts (.initialized RX2) (by decide +kernel)) (hts (.methodLink RL 21 yX2_init) (by decide +kernel)) (hts (.instanceMethod yX2_init) (by decide +kernel)) rfl (by decide +kernel) ⟨Nat.le_of_ble_eq_true rfl, Nat.le_of_ble_eq_true rfl⟩) rfl hl.1 rfl (Nat.le_of_ble_eq_true rfl) dL_build_16 ⟨by show ((0 + 1) + 0) + 16 ≤ 1105; omega, by show ((0 + 15) + 0) + 160 ≤ 11375; omega⟩ (fun u_16 H9 locs9 hw hP9 hD9 hS9 => ?_)
  have hw : u_16.1 0 = q0 := hw
  subst hw
  have hP := hP9
  have hD := hD9
  have hS := hS9
  revert hP hD hS
  clear hP9 hD9 hS9
  generalize H9 = H
  generalize locs9 = locs
  intro hP hD hS
  have hP : va_P D vwCl (SC cI cR u_16.1 u_16.2 (fun _ => 0) (2 + u_12) 0 (sF0 (2 + u_12)) (fun _ _ => 0) ++ (CW cI u_16.2 (2 + u_12) (fun _ => 0) ++ (RW cI (fun _ => 0) 0 3 (fun _ _ => 0) ++ (XO x0 pa pb ++ (DC cI pa dF0 dR0 ++ DC cI pb f2 r2))))) H := by simpa only [List.append_assoc, List.append_nil, List.nil_append] using hP
  have hD : va_D A (SC cI cR u_16.1 u_16.2 (fun _ => 0) (2 + u_12) 0 (sF0 (2 + u_12)) (fun _ _ => 0) ++ (CW cI u_16.2 (2 + u_12) (fun _ => 0) ++ (RW cI (fun _ => 0) 0 3 (fun _ _ => 0) ++ (XO x0 pa pb ++ (DC cI pa dF0 dR0 ++ DC cI pb f2 r2))))) := by simpa only [List.append_assoc, List.append_nil, List.nil_append] using hD
  have hP := wRotP (X := SC cI cR u_16.1 u_16.2 (fun _ => 0) (2 + u_12) 0 (sF0 (2 + u_12)) (fun _ _ => 0) ++ (CW cI u_16.2 (2 + u_12) (fun _ => 0) ++ RW cI (fun _ => 0) 0 3 (fun _ _ => 0))) (Y := XO x0 pa pb ++ (DC cI pa dF0 dR0 ++ DC cI pb f2 r2)) (by simpa only [List.append_assoc] using hP)
  have hD := wRotD (X := SC cI cR u_16.1 u_16.2 (fun _ => 0) (2 + u_12) 0 (sF0 (2 + u_12)) (fun _ _ => 0) ++ (CW cI u_16.2 (2 + u_12) (fun _ => 0) ++ RW cI (fun _ => 0) 0 3 (fun _ _ => 0))) (Y := XO x0 pa pb ++ (DC cI pa dF0 dR0 ++ DC cI pb f2 r2)) (by simpa only [List.append_assoc] using hD)
  have hP : va_P D vwCl (XO x0 pa pb ++ (DC cI pa dF0 dR0 ++ (DC cI pb f2 r2 ++ (SC cI cR u_16.1 u_16.2 (fun _ => 0) (2 + u_12) 0 (sF0 (2 + u_12)) (fun _ _ => 0) ++ (CW cI u_16.2 (2 + u_12) (fun _ => 0) ++ RW cI (fun _ => 0) 0 3 (fun _ _ => 0)))))) H := by simpa only [List.append_assoc, List.append_nil, List.nil_append] using hP
  have hD : va_D A (XO x0 pa pb ++ (DC cI pa dF0 dR0 ++ (DC cI pb f2 r2 ++ (SC cI cR u_16.1 u_16.2 (fun _ => 0) (2 + u_12) 0 (sF0 (2 + u_12)) (fun _ _ => 0) ++ (CW cI u_16.2 (2 + u_12) (fun _ => 0) ++ RW cI (fun _ => 0) 0 3 (fun _ _ => 0)))))) := by simpa only [List.append_assoc, List.append_nil, List.nil_append] using hD
  refine lv_astore_n (lv' := [(2, .ref (u_16.1 0)), (0, .ref x0), (1, .ref sb)]) hx hb dL_build_19 rfl hl (by decide) rfl (fun ls hl => ?_)
  refine lv_aload_n hx hb dL_build_20 rfl (lv_at hl 1 rfl) ?_
  refine lv_aload_n hx hb dL_build_21 rfl (lv_at hl 0 rfl) ?_
  refine va_get (D := D) (ci := 2) (v := .int ((sF0 (2 + u_12)) 0)) (C := RX2) (T := TX2) (N := 15) hx hb hw2 (fun _ h => h) hown hK hP 17 rfl rfl 0 (by decide) k9 (fun _ h9 => h9) rfl dL_build_22 ?_
  refine wTop (z := nI (2 + u_12)) (sF0_0 _) ?_
  refine wCVi (pre := ([] : va_W)) (Wc := XO x0 pa pb ++ (DC cI pa dF0 dR0 ++ DC cI pb f2 r2)) (suf := SC cI cR u_16.1 u_16.2 (fun _ => 0) (2 + u_12) 0 (sF0 (2 + u_12)) (fun _ _ => 0) ++ (CW cI u_16.2 (2 + u_12) (fun _ => 0) ++ RW cI (fun _ => 0) 0 3 (fun _ _ => 0))) (As := [.int (nI (2 + u_12))]) (rest := []) ⟨hx, hb, hml, hown, hts⟩ (mX1_newDinner l D cI x0 pa pb dF0 f2 dR0 r2 4 (2 + u_12) _ rfl (by omega) (by omega) (by omega) (by omega)) hN hA hK1 hS hP hD (by simp only [List.append_assoc, List.append_nil, List.nil_append]) 0 (r := (RX1, TX1, 2)) rfl rfl (cwV 1 hts gL_build_X1_newDinner rfl rfl rfl (by decide +kernel) ⟨Nat.le_of_ble_eq_true rfl, Nat.le_of_ble_eq_true rfl⟩) rfl hl.1 rfl (Nat.le_of_ble_eq_true rfl) dL_build_25 ⟨by show (((0 + 1) + 0) + 16) ≤ 1105; omega, by show (((0 + 15) + 0) + 160) ≤ 11375; omega⟩ (fun r_25 u_25 H locs hw hP hD hS => ?_)
  have hw : r_25 = dRate (dF0 0) (dF0 6) (dR0 3) 4 := hw
  subst hw
  have hP : va_P D vwCl (XO x0 pa pb ++ (DC cI pa (dBeginF dF0 (nI (2 + u_12))) (dBeginR dR0) ++ (DC cI pb f2 r2 ++ (SC cI cR u_16.1 u_16.2 (fun _ => 0) (2 + u_12) 0 (sF0 (2 + u_12)) (fun _ _ => 0) ++ (CW cI u_16.2 (2 + u_12) (fun _ => 0) ++ RW cI (fun _ => 0) 0 3 (fun _ _ => 0)))))) H := by simpa only [List.append_assoc, List.append_nil, List.nil_append] using hP
  have hD : va_D A (XO x0 pa pb ++ (DC cI pa (dBeginF dF0 (nI (2 + u_12))) (dBeginR dR0) ++ (DC cI pb f2 r2 ++ (SC cI cR u_16.1 u_16.2 (fun _ => 0) (2 + u_12) 0 (sF0 (2 + u_12)) (fun _ _ => 0) ++ (CW cI u_16.2 (2 + u_12) (fun _ => 0) ++ RW cI (fun _ => 0) 0 3 (fun _ _ => 0)))))) := by simpa only [List.append_assoc, List.append_nil, List.nil_append] using hD
  refine lv_bipush (v := 6) hx hb dL_build_28 (by decide) ?_
  refine lv_icmp_eq (tgt := 35) hx hb dL_build_30 (by decide) (fun c_30 => ?_) (fun h9 => absurd (by decide) h9)
  refine lv_bipush (v := 20) hx hb dL_build_35 (by decide) ?_
  refine lv_aload_n hx hb dL_build_37 rfl (lv_at hl 2 rfl) ?_
  refine lv_iconst (v := 1) hx hb dL_build_38 (by decide) ?_
  refine wCSic (pre := ([] : va_W)) (Wc := ([] : va_W)) (suf := XO x0 pa pb ++ (DC cI pa (dBeginF dF0 (nI (2 + u_12))) (dBeginR dR0) ++ (DC cI pb f2 r2 ++ (SC cI cR u_16.1 u_16.2 (fun _ => 0) (2 + u_12) 0 (sF0 (2 + u_12)) (fun _ _ => 0) ++ (CW cI u_16.2 (2 + u_12) (fun _ => 0) ++ RW cI (fun _ => 0) 0 3 (fun _ _ => 0)))))) (As := [.ref sb, .int 1]) (rest := [.int 20]) ⟨hx, hb, hml, hown, hts⟩ (mL_cell l D cI cR 1 _ sb LN xs (by omega) hLN) hN hA hX hbl hbA hK hS hP hD (by simp only [List.append_assoc, List.append_nil, List.nil_append]) (va_cwS 2 hts gL_build_L_cell rfl rfl rfl (by decide +kernel) ⟨Nat.le_of_ble_eq_true rfl, Nat.le_of_ble_eq_true rfl⟩) rfl hl.1 rfl (Nat.le_of_ble_eq_true rfl) dL_build_39 ⟨by show (((0 + 1) + 0) + 16) + 0 ≤ 1105; omega, by show (((0 + 15) + 0) + 160) + 0 ≤ 11375; omega⟩ (fun r_39 u_39 H locs hw hP hD hS => ?_)
  have hP : va_P D vwCl (XO x0 pa pb ++ (DC cI pa (dBeginF dF0 (nI (2 + u_12))) (dBeginR dR0) ++ (DC cI pb f2 r2 ++ (SC cI cR u_16.1 u_16.2 (fun _ => 0) (2 + u_12) 0 (sF0 (2 + u_12)) (fun _ _ => 0) ++ (CW cI u_16.2 (2 + u_12) (fun _ => 0) ++ RW cI (fun _ => 0) 0 3 (fun _ _ => 0)))))) H := by simpa only [List.append_assoc, List.append_nil, List.nil_append] using hP
  have hD : va_D A (XO x0 pa pb ++ (DC cI pa (dBeginF dF0 (nI (2 + u_12))) (dBeginR dR0) ++ (DC cI pb f2 r2 ++ (SC cI cR u_16.1 u_16.2 (fun _ => 0) (2 + u_12) 0 (sF0 (2 + u_12)) (fun _ _ => 0) ++ (CW cI u_16.2 (2 + u_12) (fun _ => 0) ++ RW cI (fun _ => 0) 0 3 (fun _ _ => 0)))))) := by simpa only [List.append_assoc, List.append_nil, List.nil_append] using hD
  refine lv_bipush (v := 44) hx hb dL_build_42 (by decide) ?_
  refine wCSi (pre := ([] : va_W)) (Wc := ([] : va_W)) (suf := XO x0 pa pb ++ (DC cI pa (dBeginF dF0 (nI (2 + u_12))) (dBeginR dR0) ++ (DC cI pb f2 r2 ++ (SC cI cR u_16.1 u_16.2 (fun _ => 0) (2 + u_12) 0 (sF0 (2 + u_12)) (fun _ _ => 0) ++ (CW cI u_16.2 (2 + u_12) (fun _ => 0) ++ RW cI (fun _ => 0) 0 3 (fun _ _ => 0)))))) (As := [.int r_39, .int 44]) (rest := [.int 20]) ⟨hx, hb, hml, hown, hts⟩ (mL_below l D cI cR r_39 44 _ (by omega) (by omega)) hN hA hK hS hP hD (by simp only [List.append_assoc, List.append_nil, List.nil_append]) (va_cwS 2 hts gL_build_L_below rfl rfl rfl (by decide +kernel) ⟨Nat.le_of_ble_eq_true rfl, Nat.le_of_ble_eq_true rfl⟩) rfl hl.1 rfl (Nat.le_of_ble_eq_true rfl) dL_build_44 ⟨by show ((((0 + 1) + 0) + 16) + 0) ≤ 1105; omega, by show ((((0 + 15) + 0) + 160) + 0) ≤ 11375; omega⟩ (fun r_44 u_44 H locs hw hP hD hS => ?_)
  obtain ⟨hw, hlt_44⟩ := hw
  have hw : r_44 = nI u_44 := hw
  subst hw
  have hP : va_P D vwCl (XO x0 pa pb ++ (DC cI pa (dBeginF dF0 (nI (2 + u_12))) (dBeginR dR0) ++ (DC cI pb f2 r2 ++ (SC cI cR u_16.1 u_16.2 (fun _ => 0) (2 + u_12) 0 (sF0 (2 + u_12)) (fun _ _ => 0) ++ (CW cI u_16.2 (2 + u_12) (fun _ => 0) ++ RW cI (fun _ => 0) 0 3 (fun _ _ => 0)))))) H := by simpa only [List.append_assoc, List.append_nil, List.nil_append] using hP
  have hD : va_D A (XO x0 pa pb ++ (DC cI pa (dBeginF dF0 (nI (2 + u_12))) (dBeginR dR0) ++ (DC cI pb f2 r2 ++ (SC cI cR u_16.1 u_16.2 (fun _ => 0) (2 + u_12) 0 (sF0 (2 + u_12)) (fun _ _ => 0) ++ (CW cI u_16.2 (2 + u_12) (fun _ => 0) ++ RW cI (fun _ => 0) 0 3 (fun _ _ => 0)))))) := by simpa only [List.append_assoc, List.append_nil, List.nil_append] using hD
  refine lv_iadd hx hb dL_build_47 ?_
  refine wTop (z := nI (20 + u_44)) (nI_add 20 u_44) ?_
  refine lv_istore_n (lv' := [(3, .int (nI (20 + u_44))), (2, .ref (u_16.1 0)), (0, .ref x0), (1, .ref sb)]) hx hb dL_build_48 rfl hl (by decide) rfl (fun ls hl => ?_)
  refine lv_iconst (v := 0) hx hb dL_build_49 (by decide) ?_
  refine lv_istore (lv' := [(4, .int 0), (3, .int (nI (20 + u_44))), (2, .ref (u_16.1 0)), (0, .ref x0), (1, .ref sb)]) hx hb dL_build_50 hl (by decide) rfl (fun ls hl => ?_)
  refine W.widen (k := (17 + 17 * 0)) (n := (175 + 175 * 0)) (by omega) (by omega) ?_
  have loop52 : ∀ (j i52 : Nat) (v9 : aS), i52 + j = (20 + u_44) → aInv (24000 * i52) v9 → ∀ (H : Heap) (locs : List Loc) (ls : Array Slot), va_P D vwCl (XO x0 pa pb ++ (DC cI pa v9.2.1.1 v9.2.1.2.1 ++ (DC cI pb f2 r2 ++ (SC cI cR v9.2.2.1 v9.2.2.2.1 v9.2.2.2.2 v9.1.1 v9.1.2.2 v9.2.1.1 v9.2.1.2.1 ++ (CW cI v9.2.2.2.1 v9.1.1 (v9.2.1.2.1 5) ++ RW cI v9.2.2.2.2 v9.1.2.2 3 v9.2.1.2.2.1))))) H → va_D A (XO x0 pa pb ++ (DC cI pa v9.2.1.1 v9.2.1.2.1 ++ (DC cI pb f2 r2 ++ (SC cI cR v9.2.2.1 v9.2.2.2.1 v9.2.2.2.2 v9.1.1 v9.1.2.2 v9.2.1.1 v9.2.1.2.1 ++ (CW cI v9.2.2.2.1 v9.1.1 (v9.2.1.2.1 5) ++ RW cI v9.2.2.2.2 v9.1.2.2 3 v9.2.1.2.2.1))))) → va_S A s.heap H locs → lv_has ls 5 [(4, .int (nI i52)), (3, .int (nI (20 + u_44))), (2, .ref (v9.2.2.1 0)), (0, .ref x0), (1, .ref sb)] → W p l e rmL_build s m args below meth c H locs (17 + 17 * i52) (175 + 175 * i52) Q (F0 m 52 ls []) := by
    intro j
    induction j with
    | zero =>
      intro i52 v9 hi52 hV H locs ls hP hD hS hl
      have ez : (20 + u_44) = i52 := by omega
      subst ez
      refine lv_iload hx hb dL_build_52 (lv_at hl 0 rfl) ?_
      refine lv_iload_n hx hb dL_build_54 rfl (lv_at hl 1 rfl) ?_
      refine lv_icmp_ge (tgt := 98) hx hb dL_build_55 (by decide) (fun c_55 => ?_) (fun h9 => absurd (nI_le (by omega) (by omega)) h9)
      have c_55n := (nI_leI (a := (20 + u_44)) (b := (20 + u_44)) (by omega) (by omega)).mp c_55
      refine lv_aload_n hx hb dL_build_98 rfl (lv_at hl 2 rfl) ?_
      refine W.widen (k := 1105) (n := 11375) (by omega) (by omega) ?_
      exact wRr hQ hx hb hr (Or.inl ⟨_, rfl⟩) hlocks hP hD hS dL_build_99 v9 (hV.mono (by omega)) rfl rfl
    | succ j ih52 =>
      intro i52 v9 hi52 hV H locs ls hP hD hS hl
      refine lv_iload hx hb dL_build_52 (lv_at hl 0 rfl) ?_
      refine lv_iload_n hx hb dL_build_54 rfl (lv_at hl 1 rfl) ?_
      refine lv_icmp_ge (tgt := 98) hx hb dL_build_55 (by decide) (fun h9 => absurd h9 (nI_ge (by omega) (by omega))) (fun c_55 => ?_)
      have c_55n := mt (nI_leI (a := (20 + u_44)) (b := i52) (by omega) (by omega)).mpr c_55
      refine lv_aload_n hx hb dL_build_58 rfl (lv_at hl 2 rfl) ?_
      refine lv_ifnull hx hb dL_build_59 ?_
      refine lv_aload_n hx hb dL_build_62 rfl (lv_at hl 3 rfl) ?_
      refine lv_aload_n hx hb dL_build_63 rfl (lv_at hl 2 rfl) ?_
      refine lv_aload_n hx hb dL_build_64 rfl (lv_at hl 4 rfl) ?_
      refine lv_iload hx hb dL_build_65 (lv_at hl 0 rfl) ?_
      refine lv_bipush (v := 16) hx hb dL_build_67 (by decide) ?_
      refine lv_irem hx hb dL_build_69 (by decide) ?_
      refine wTop (z := nI (i52 % 16)) (pk_rem (a := i52) (d := 16) (by omega) (by decide) (by decide)) ?_
      refine wCSic (pre := ([] : va_W)) (Wc := ([] : va_W)) (suf := XO x0 pa pb ++ (DC cI pa v9.2.1.1 v9.2.1.2.1 ++ (DC cI pb f2 r2 ++ (SC cI cR v9.2.2.1 v9.2.2.2.1 v9.2.2.2.2 v9.1.1 v9.1.2.2 v9.2.1.1 v9.2.1.2.1 ++ (CW cI v9.2.2.2.1 v9.1.1 (v9.2.1.2.1 5) ++ RW cI v9.2.2.2.2 v9.1.2.2 3 v9.2.1.2.2.1))))) (As := [.ref sb, .int (nI (i52 % 16))]) (rest := [.ref (v9.2.2.1 0), .ref x0]) ⟨hx, hb, hml, hown, hts⟩ (mL_cell l D cI cR (i52 % 16) _ sb LN xs (by omega) hLN) hN hA hX hbl hbA hK hS hP hD (by simp only [List.append_assoc, List.append_nil, List.nil_append]) (va_cwS 2 hts gL_build_L_cell rfl rfl rfl (by decide +kernel) ⟨Nat.le_of_ble_eq_true rfl, Nat.le_of_ble_eq_true rfl⟩) rfl hl.1 rfl (Nat.le_of_ble_eq_true rfl) dL_build_70 ⟨by show (17 + 17 * i52) + 0 ≤ 1105; omega, by show (175 + 175 * i52) + 0 ≤ 11375; omega⟩ (fun r_70 u_70 H locs hw hP hD hS => ?_)
      have hP : va_P D vwCl (XO x0 pa pb ++ (DC cI pa v9.2.1.1 v9.2.1.2.1 ++ (DC cI pb f2 r2 ++ (SC cI cR v9.2.2.1 v9.2.2.2.1 v9.2.2.2.2 v9.1.1 v9.1.2.2 v9.2.1.1 v9.2.1.2.1 ++ (CW cI v9.2.2.2.1 v9.1.1 (v9.2.1.2.1 5) ++ RW cI v9.2.2.2.2 v9.1.2.2 3 v9.2.1.2.2.1))))) H := by simpa only [List.append_assoc, List.append_nil, List.nil_append] using hP
      have hD : va_D A (XO x0 pa pb ++ (DC cI pa v9.2.1.1 v9.2.1.2.1 ++ (DC cI pb f2 r2 ++ (SC cI cR v9.2.2.1 v9.2.2.2.1 v9.2.2.2.2 v9.1.1 v9.1.2.2 v9.2.1.1 v9.2.1.2.1 ++ (CW cI v9.2.2.2.1 v9.1.1 (v9.2.1.2.1 5) ++ RW cI v9.2.2.2.2 v9.1.2.2 3 v9.2.1.2.2.1))))) := by simpa only [List.append_assoc, List.append_nil, List.nil_append] using hD
      refine lv_iload hx hb dL_build_73 (lv_at hl 0 rfl) ?_
      refine lv_bipush (v := 16) hx hb dL_build_75 (by decide) ?_
      refine lv_idiv hx hb dL_build_77 (by decide) ?_
      refine wTop (z := nI (i52 / 16)) (pk_div (a := i52) (d := 16) (by omega) (by decide) (by decide)) ?_
      refine lv_iconst (v := 3) hx hb dL_build_78 (by decide) ?_
      refine lv_imul hx hb dL_build_79 ?_
      refine wTop (z := nI ((i52 / 16) * 3)) (pk_mul (i52 / 16) 3) ?_
      refine lv_ishr hx hb dL_build_80 ?_
      refine lv_topi (fun x80 ex80 => ?_)
      refine lv_sipush (v := 571) hx hb dL_build_81 (by decide) ?_
      refine lv_iload hx hb dL_build_84 (lv_at hl 0 rfl) ?_
      refine lv_imul hx hb dL_build_86 ?_
      refine wTop (z := nI (571 * i52)) (pk_mul 571 i52) ?_
      refine lv_iadd hx hb dL_build_87 ?_
      refine wCSrm (pre := ([] : va_W)) (Wc := XO x0 pa pb ++ (DC cI pa v9.2.1.1 v9.2.1.2.1 ++ (DC cI pb f2 r2 ++ (SC cI cR v9.2.2.1 v9.2.2.2.1 v9.2.2.2.2 v9.1.1 v9.1.2.2 v9.2.1.1 v9.2.1.2.1 ++ (CW cI v9.2.2.2.1 v9.1.1 (v9.2.1.2.1 5) ++ RW cI v9.2.2.2.2 v9.1.2.2 3 v9.2.1.2.2.1))))) (suf := ([] : va_W)) (As := [.ref x0, .ref (v9.2.2.1 0), .int (x80 + (nI (571 * i52)))]) (rest := []) ⟨hx, hb, hml, hown, hts⟩ (mL_act l D cI cR x0 pa pb f2 r2 v9.2.2.1 v9.2.2.2.1 v9.2.2.2.2 v9.1.1 v9.1.2.2 v9.2.1.1 v9.2.1.2.1 v9.2.1.2.2.1 v9.1.2.1 v9.2.1.2.2.2 (24000 * i52) (x80 + (nI (571 * i52))) _ hV.1 hV.2 (by omega)) hN hA hK hS hP hD (by simp only [List.append_assoc, List.append_nil, List.nil_append]) (va_cwS 3 hts gL_build_L_act rfl rfl rfl (by decide +kernel) ⟨Nat.le_of_ble_eq_true rfl, Nat.le_of_ble_eq_true rfl⟩) rfl hl.1 rfl (Nat.le_of_ble_eq_true rfl) dL_build_88 ⟨by show ((17 + 17 * i52) + 0) + 17 ≤ 1105; omega, by show ((175 + 175 * i52) + 0) + 175 ≤ 11375; omega⟩ (fun u_88 H locs hw hP hD hS => ?_)
      have hP : va_P D vwCl (XO x0 pa pb ++ (DC cI pa u_88.2.1.1 u_88.2.1.2.1 ++ (DC cI pb f2 r2 ++ (SC cI cR u_88.2.2.1 u_88.2.2.2.1 u_88.2.2.2.2 u_88.1.1 u_88.1.2.2 u_88.2.1.1 u_88.2.1.2.1 ++ (CW cI u_88.2.2.2.1 u_88.1.1 (u_88.2.1.2.1 5) ++ RW cI u_88.2.2.2.2 u_88.1.2.2 3 u_88.2.1.2.2.1))))) H := by simpa only [List.append_assoc, List.append_nil, List.nil_append] using hP
      have hD : va_D A (XO x0 pa pb ++ (DC cI pa u_88.2.1.1 u_88.2.1.2.1 ++ (DC cI pb f2 r2 ++ (SC cI cR u_88.2.2.1 u_88.2.2.2.1 u_88.2.2.2.2 u_88.1.1 u_88.1.2.2 u_88.2.1.1 u_88.2.1.2.1 ++ (CW cI u_88.2.2.2.1 u_88.1.1 (u_88.2.1.2.1 5) ++ RW cI u_88.2.2.2.2 u_88.1.2.2 3 u_88.2.1.2.2.1))))) := by simpa only [List.append_assoc, List.append_nil, List.nil_append] using hD
      refine lv_astore_n (lv' := [(2, .ref (u_88.2.2.1 0)), (4, .int (nI i52)), (3, .int (nI (20 + u_44))), (0, .ref x0), (1, .ref sb)]) hx hb dL_build_91 rfl hl (by decide) rfl (fun ls hl => ?_)
      refine lv_iinc (v := nI (i52 + 1)) (lv' := [(4, .int (nI (i52 + 1))), (2, .ref (u_88.2.2.1 0)), (3, .int (nI (20 + u_44))), (0, .ref x0), (1, .ref sb)]) hx hb dL_build_92 hl (k := 1) rfl (nI_1 i52) (by decide) rfl (fun ls hl => ?_)
      refine lv_goto (tgt := 52) hx hb dL_build_95 (by decide) ?_
      refine W.widen (k := (17 + 17 * (i52 + 1))) (n := (175 + 175 * (i52 + 1))) (by omega) (by omega) ?_
      exact ih52 (i52 + 1) u_88 (by omega) (by rw [show 24000 * (i52 + 1) = 24000 * i52 + 24000 by omega]; exact hw) _ _ _ hP hD hS (lv_sub hl [0, 2, 1, 3, 4] rfl)
  have hP : va_P D vwCl (XO x0 pa pb ++ (DC cI pa (((2 + u_12, 5, 0), (dBeginF dF0 (nI (2 + u_12)), dBeginR dR0, (fun _ _ => 0), []), (u_16.1, u_16.2, (fun _ => 0))) : aS).2.1.1 (((2 + u_12, 5, 0), (dBeginF dF0 (nI (2 + u_12)), dBeginR dR0, (fun _ _ => 0), []), (u_16.1, u_16.2, (fun _ => 0))) : aS).2.1.2.1 ++ (DC cI pb f2 r2 ++ (SC cI cR (((2 + u_12, 5, 0), (dBeginF dF0 (nI (2 + u_12)), dBeginR dR0, (fun _ _ => 0), []), (u_16.1, u_16.2, (fun _ => 0))) : aS).2.2.1 (((2 + u_12, 5, 0), (dBeginF dF0 (nI (2 + u_12)), dBeginR dR0, (fun _ _ => 0), []), (u_16.1, u_16.2, (fun _ => 0))) : aS).2.2.2.1 (((2 + u_12, 5, 0), (dBeginF dF0 (nI (2 + u_12)), dBeginR dR0, (fun _ _ => 0), []), (u_16.1, u_16.2, (fun _ => 0))) : aS).2.2.2.2 (((2 + u_12, 5, 0), (dBeginF dF0 (nI (2 + u_12)), dBeginR dR0, (fun _ _ => 0), []), (u_16.1, u_16.2, (fun _ => 0))) : aS).1.1 (((2 + u_12, 5, 0), (dBeginF dF0 (nI (2 + u_12)), dBeginR dR0, (fun _ _ => 0), []), (u_16.1, u_16.2, (fun _ => 0))) : aS).1.2.2 (((2 + u_12, 5, 0), (dBeginF dF0 (nI (2 + u_12)), dBeginR dR0, (fun _ _ => 0), []), (u_16.1, u_16.2, (fun _ => 0))) : aS).2.1.1 (((2 + u_12, 5, 0), (dBeginF dF0 (nI (2 + u_12)), dBeginR dR0, (fun _ _ => 0), []), (u_16.1, u_16.2, (fun _ => 0))) : aS).2.1.2.1 ++ (CW cI (((2 + u_12, 5, 0), (dBeginF dF0 (nI (2 + u_12)), dBeginR dR0, (fun _ _ => 0), []), (u_16.1, u_16.2, (fun _ => 0))) : aS).2.2.2.1 (((2 + u_12, 5, 0), (dBeginF dF0 (nI (2 + u_12)), dBeginR dR0, (fun _ _ => 0), []), (u_16.1, u_16.2, (fun _ => 0))) : aS).1.1 ((((2 + u_12, 5, 0), (dBeginF dF0 (nI (2 + u_12)), dBeginR dR0, (fun _ _ => 0), []), (u_16.1, u_16.2, (fun _ => 0))) : aS).2.1.2.1 5) ++ RW cI (((2 + u_12, 5, 0), (dBeginF dF0 (nI (2 + u_12)), dBeginR dR0, (fun _ _ => 0), []), (u_16.1, u_16.2, (fun _ => 0))) : aS).2.2.2.2 (((2 + u_12, 5, 0), (dBeginF dF0 (nI (2 + u_12)), dBeginR dR0, (fun _ _ => 0), []), (u_16.1, u_16.2, (fun _ => 0))) : aS).1.2.2 3 (((2 + u_12, 5, 0), (dBeginF dF0 (nI (2 + u_12)), dBeginR dR0, (fun _ _ => 0), []), (u_16.1, u_16.2, (fun _ => 0))) : aS).2.1.2.2.1))))) H := hP
  have hD : va_D A (XO x0 pa pb ++ (DC cI pa (((2 + u_12, 5, 0), (dBeginF dF0 (nI (2 + u_12)), dBeginR dR0, (fun _ _ => 0), []), (u_16.1, u_16.2, (fun _ => 0))) : aS).2.1.1 (((2 + u_12, 5, 0), (dBeginF dF0 (nI (2 + u_12)), dBeginR dR0, (fun _ _ => 0), []), (u_16.1, u_16.2, (fun _ => 0))) : aS).2.1.2.1 ++ (DC cI pb f2 r2 ++ (SC cI cR (((2 + u_12, 5, 0), (dBeginF dF0 (nI (2 + u_12)), dBeginR dR0, (fun _ _ => 0), []), (u_16.1, u_16.2, (fun _ => 0))) : aS).2.2.1 (((2 + u_12, 5, 0), (dBeginF dF0 (nI (2 + u_12)), dBeginR dR0, (fun _ _ => 0), []), (u_16.1, u_16.2, (fun _ => 0))) : aS).2.2.2.1 (((2 + u_12, 5, 0), (dBeginF dF0 (nI (2 + u_12)), dBeginR dR0, (fun _ _ => 0), []), (u_16.1, u_16.2, (fun _ => 0))) : aS).2.2.2.2 (((2 + u_12, 5, 0), (dBeginF dF0 (nI (2 + u_12)), dBeginR dR0, (fun _ _ => 0), []), (u_16.1, u_16.2, (fun _ => 0))) : aS).1.1 (((2 + u_12, 5, 0), (dBeginF dF0 (nI (2 + u_12)), dBeginR dR0, (fun _ _ => 0), []), (u_16.1, u_16.2, (fun _ => 0))) : aS).1.2.2 (((2 + u_12, 5, 0), (dBeginF dF0 (nI (2 + u_12)), dBeginR dR0, (fun _ _ => 0), []), (u_16.1, u_16.2, (fun _ => 0))) : aS).2.1.1 (((2 + u_12, 5, 0), (dBeginF dF0 (nI (2 + u_12)), dBeginR dR0, (fun _ _ => 0), []), (u_16.1, u_16.2, (fun _ => 0))) : aS).2.1.2.1 ++ (CW cI (((2 + u_12, 5, 0), (dBeginF dF0 (nI (2 + u_12)), dBeginR dR0, (fun _ _ => 0), []), (u_16.1, u_16.2, (fun _ => 0))) : aS).2.2.2.1 (((2 + u_12, 5, 0), (dBeginF dF0 (nI (2 + u_12)), dBeginR dR0, (fun _ _ => 0), []), (u_16.1, u_16.2, (fun _ => 0))) : aS).1.1 ((((2 + u_12, 5, 0), (dBeginF dF0 (nI (2 + u_12)), dBeginR dR0, (fun _ _ => 0), []), (u_16.1, u_16.2, (fun _ => 0))) : aS).2.1.2.1 5) ++ RW cI (((2 + u_12, 5, 0), (dBeginF dF0 (nI (2 + u_12)), dBeginR dR0, (fun _ _ => 0), []), (u_16.1, u_16.2, (fun _ => 0))) : aS).2.2.2.2 (((2 + u_12, 5, 0), (dBeginF dF0 (nI (2 + u_12)), dBeginR dR0, (fun _ _ => 0), []), (u_16.1, u_16.2, (fun _ => 0))) : aS).1.2.2 3 (((2 + u_12, 5, 0), (dBeginF dF0 (nI (2 + u_12)), dBeginR dR0, (fun _ _ => 0), []), (u_16.1, u_16.2, (fun _ => 0))) : aS).2.1.2.2.1))))) := hD
  exact loop52 (20 + u_44) 0 (((2 + u_12, 5, 0), (dBeginF dF0 (nI (2 + u_12)), dBeginR dR0, (fun _ _ => 0), []), (u_16.1, u_16.2, (fun _ => 0))) : aS) (by omega) (⟨(inv_begin (li := 5) (w := 2 + u_12) (by omega) (by omega) rfl (by omega) (by omega)).mono (by omega), invT_begin⟩) _ _ _ hP hD hS (lv_sub hl [0, 1, 2, 3, 4] rfl)
