theorem newDefX0 : ∀ j, j < 17 → defaultValue (tyX0 j) = vp_V [.int 0, .int 0, .int 0, .int 0, .int 0, .int 0, .int 0, .int 0, .int 0, .int 0, .null, .null, .null, .null, .null, .null, .null] j := by decide +kernel
theorem newDefX1 : ∀ j, j < 2 → defaultValue (tyX1 j) = vp_V [.null, .null] j := by decide +kernel
theorem newDefX2 : ∀ j, j < 15 → defaultValue (tyX2 j) = vp_V [.int 0, .int 0, .int 0, .int 0, .int 0, .int 0, .int 0, .int 0, .int 0, .null, .null, .null, .null, .null, .null] j := by decide +kernel
abbrev rmX0_init : Room := { frames := 2, cells := 7, slots := 340, locals := 44 }
set_option maxRecDepth 100000 in
set_option maxHeartbeats 4000000 in
theorem mX0_init (l : Launch) (D : va_G) (h0 : Nat) (sz : Nat) : wCt l yX0_init wsX0_init rmX0_init D [] [.ref h0] ([(h0, .inr (0, [.int 0, .int 0, .int 0, .int 0, .int 0, .int 0, .int 0, .int 0, .int 0, .int 0, .null, .null, .null, .null, .null, .null, .null]))]) sz 7 340 (wQk D (fun u : ClassId × (Nat → Nat) => u.2 0 = h0) (fun u => DC u.1 u.2 dF0 dR0) (fun u => [(u.1, .int)])) := by
  refine wMet cX0_init 1 none (by decide) rfl (Nat.le_of_ble_eq_true rfl) ?_
  intro p e s m args below meth c A Q ls hQ hx hb hr hml hown hlocks hin hts hN hP hK hD hA hS hl
  have hl : lv_has ls 1 [(0, .ref h0)] := hl
  have hown : s.vm.findClass RX0 = some m.cls := hown
  have hw0 : ∀ w ∈ wsX00, w.before args s = true := fun w h => hts w (List.mem_cons_of_mem _ (List.mem_append_right _ h))
  have k9 := hts (.fieldLink RX0 9 "PauseLedger$Dinner" "spoken" "[I") (by decide +kernel)
  have k15 := hts (.fieldLink RX0 15 "PauseLedger$Dinner" "interruptions" "[I") (by decide +kernel)
  have k18 := hts (.fieldLink RX0 18 "PauseLedger$Dinner" "coughs" "[I") (by decide +kernel)
  have k21 := hts (.fieldLink RX0 21 "PauseLedger$Dinner" "unsaid" "[I") (by decide +kernel)
  have k24 := hts (.fieldLink RX0 24 "PauseLedger$Dinner" "toGo" "[I") (by decide +kernel)
  have k27 := hts (.fieldLink RX0 27 "PauseLedger$Dinner" "caught" "[I") (by decide +kernel)
  have k30 := hts (.fieldLink RX0 30 "PauseLedger$Dinner" "order" "[I") (by decide +kernel)
  have k33 := hts (.fieldLink RX0 33 "PauseLedger$Dinner" "limit" "I") (by decide +kernel)
  refine lv_aload_n hx hb dX0_init_0 rfl (lv_at hl 0 rfl) ?_
  refine W.objInit hx hb hown (hts (.methodLink RX0 3 objectInit) (by decide +kernel)) (hts (.instanceMethod objectInit) (by decide +kernel)) (hts _ (List.mem_cons_of_mem _ (List.mem_append_left _ (List.mem_append_left _ (List.mem_of_getElem? (i := 2) rfl))))) rfl (by rw [hml]; exact hl.1) rfl dX0_init_1 (Nat.le_of_ble_eq_true rfl) (Nat.le_of_ble_eq_true rfl) ?_
  refine W.eq (g2 := F0 m 4 ls []) rfl ?_
  refine lv_aload_n hx hb dX0_init_4 rfl (lv_at hl 0 rfl) ?_
  refine lv_bipush (v := 10) hx hb dX0_init_5 (by decide) ?_
  refine va_newa (atype := .int) (ty := .int) (N' := 10) (a0 := (10, .inl (fun _ => 0))) hx hb (hts (.arrayClass .int) (by decide +kernel)) rfl hK hP hD hS hA (fun _ => rfl) (by decide) (by decide) (by decide) (Nat.le_of_ble_eq_true rfl) (Nat.le_of_ble_eq_true rfl) dX0_init_7 (fun q7 cI H hK hP hD hS => ?_)
  have hK : va_K D vwCl [(cI, .int)] s := hK
  have hP : va_P D vwCl ([(h0, .inr (0, [.int 0, .int 0, .int 0, .int 0, .int 0, .int 0, .int 0, .int 0, .int 0, .int 0, .null, .null, .null, .null, .null, .null, .null]))] ++ [(q7, .inl (cI, 10, .inl (fun _ => 0)))]) H := hP
  have hD : va_D A ([(h0, .inr (0, [.int 0, .int 0, .int 0, .int 0, .int 0, .int 0, .int 0, .int 0, .int 0, .int 0, .null, .null, .null, .null, .null, .null, .null]))] ++ [(q7, .inl (cI, 10, .inl (fun _ => 0)))]) := hD
  refine va_putF (D := D) (ci := 0) (v := .ref q7) (ty := .array .int) (C := RX0) (T := TX0) (N := 17) hx hb hw0 (fun _ h => h) tyX0 tyX0_ok nmX0 hown hK hP hD hS 0 rfl rfl 10 (by decide) k9 (fun _ h9 => h9) rfl hin rfl (by decide +kernel) rfl rfl (Nat.le_of_ble_eq_true rfl) dX0_init_9 (fun H locs hP hD hS => ?_)
  have hP : va_P D vwCl ([(h0, .inr (0, [.int 0, .int 0, .int 0, .int 0, .int 0, .int 0, .int 0, .int 0, .int 0, .int 0, .ref q7, .null, .null, .null, .null, .null, .null]))] ++ [(q7, .inl (cI, 10, .inl (fun _ => 0)))]) H := hP
  have hD : va_D A ([(h0, .inr (0, [.int 0, .int 0, .int 0, .int 0, .int 0, .int 0, .int 0, .int 0, .int 0, .int 0, .ref q7, .null, .null, .null, .null, .null, .null]))] ++ [(q7, .inl (cI, 10, .inl (fun _ => 0)))]) := hD
  refine lv_aload_n hx hb dX0_init_12 rfl (lv_at hl 0 rfl) ?_
  refine lv_bipush (v := 10) hx hb dX0_init_13 (by decide) ?_
  refine va_newa (atype := .int) (ty := .int) (N' := 10) (a0 := (10, .inl (fun _ => 0))) hx hb (hts (.arrayClass .int) (by decide +kernel)) rfl hK hP hD hS hA (fun _ => rfl) (by decide) (by decide) (by decide) (Nat.le_of_ble_eq_true rfl) (Nat.le_of_ble_eq_true rfl) dX0_init_15 (fun q15 cA H hK2 hP hD hS => ?_)
  have ecA : cI = cA := wTys hK2 (i := 0) (j := 1) rfl rfl
  subst ecA
  have hP : va_P D vwCl ([(h0, .inr (0, [.int 0, .int 0, .int 0, .int 0, .int 0, .int 0, .int 0, .int 0, .int 0, .int 0, .ref q7, .null, .null, .null, .null, .null, .null]))] ++ ([(q7, .inl (cI, 10, .inl (fun _ => 0)))] ++ [(q15, .inl (cI, 10, .inl (fun _ => 0)))])) H := hP
  have hD : va_D A ([(h0, .inr (0, [.int 0, .int 0, .int 0, .int 0, .int 0, .int 0, .int 0, .int 0, .int 0, .int 0, .ref q7, .null, .null, .null, .null, .null, .null]))] ++ ([(q7, .inl (cI, 10, .inl (fun _ => 0)))] ++ [(q15, .inl (cI, 10, .inl (fun _ => 0)))])) := hD
  refine va_putF (D := D) (ci := 0) (v := .ref q15) (ty := .array .int) (C := RX0) (T := TX0) (N := 17) hx hb hw0 (fun _ h => h) tyX0 tyX0_ok nmX0 hown hK hP hD hS 0 rfl rfl 11 (by decide) k15 (fun _ h9 => h9) rfl hin rfl (by decide +kernel) rfl rfl (Nat.le_of_ble_eq_true rfl) dX0_init_17 (fun H locs hP hD hS => ?_)
  have hP : va_P D vwCl ([(h0, .inr (0, [.int 0, .int 0, .int 0, .int 0, .int 0, .int 0, .int 0, .int 0, .int 0, .int 0, .ref q7, .ref q15, .null, .null, .null, .null, .null]))] ++ ([(q7, .inl (cI, 10, .inl (fun _ => 0)))] ++ [(q15, .inl (cI, 10, .inl (fun _ => 0)))])) H := hP
  have hD : va_D A ([(h0, .inr (0, [.int 0, .int 0, .int 0, .int 0, .int 0, .int 0, .int 0, .int 0, .int 0, .int 0, .ref q7, .ref q15, .null, .null, .null, .null, .null]))] ++ ([(q7, .inl (cI, 10, .inl (fun _ => 0)))] ++ [(q15, .inl (cI, 10, .inl (fun _ => 0)))])) := hD
  refine lv_aload_n hx hb dX0_init_20 rfl (lv_at hl 0 rfl) ?_
  refine lv_bipush (v := 10) hx hb dX0_init_21 (by decide) ?_
  refine va_newa (atype := .int) (ty := .int) (N' := 10) (a0 := (10, .inl (fun _ => 0))) hx hb (hts (.arrayClass .int) (by decide +kernel)) rfl hK hP hD hS hA (fun _ => rfl) (by decide) (by decide) (by decide) (Nat.le_of_ble_eq_true rfl) (Nat.le_of_ble_eq_true rfl) dX0_init_23 (fun q23 cA H hK2 hP hD hS => ?_)
  have ecA : cI = cA := wTys hK2 (i := 0) (j := 1) rfl rfl
  subst ecA
  have hP : va_P D vwCl ([(h0, .inr (0, [.int 0, .int 0, .int 0, .int 0, .int 0, .int 0, .int 0, .int 0, .int 0, .int 0, .ref q7, .ref q15, .null, .null, .null, .null, .null]))] ++ ([(q7, .inl (cI, 10, .inl (fun _ => 0)))] ++ ([(q15, .inl (cI, 10, .inl (fun _ => 0)))] ++ [(q23, .inl (cI, 10, .inl (fun _ => 0)))]))) H := hP
  have hD : va_D A ([(h0, .inr (0, [.int 0, .int 0, .int 0, .int 0, .int 0, .int 0, .int 0, .int 0, .int 0, .int 0, .ref q7, .ref q15, .null, .null, .null, .null, .null]))] ++ ([(q7, .inl (cI, 10, .inl (fun _ => 0)))] ++ ([(q15, .inl (cI, 10, .inl (fun _ => 0)))] ++ [(q23, .inl (cI, 10, .inl (fun _ => 0)))]))) := hD
  refine va_putF (D := D) (ci := 0) (v := .ref q23) (ty := .array .int) (C := RX0) (T := TX0) (N := 17) hx hb hw0 (fun _ h => h) tyX0 tyX0_ok nmX0 hown hK hP hD hS 0 rfl rfl 12 (by decide) k18 (fun _ h9 => h9) rfl hin rfl (by decide +kernel) rfl rfl (Nat.le_of_ble_eq_true rfl) dX0_init_25 (fun H locs hP hD hS => ?_)
  have hP : va_P D vwCl ([(h0, .inr (0, [.int 0, .int 0, .int 0, .int 0, .int 0, .int 0, .int 0, .int 0, .int 0, .int 0, .ref q7, .ref q15, .ref q23, .null, .null, .null, .null]))] ++ ([(q7, .inl (cI, 10, .inl (fun _ => 0)))] ++ ([(q15, .inl (cI, 10, .inl (fun _ => 0)))] ++ [(q23, .inl (cI, 10, .inl (fun _ => 0)))]))) H := hP
  have hD : va_D A ([(h0, .inr (0, [.int 0, .int 0, .int 0, .int 0, .int 0, .int 0, .int 0, .int 0, .int 0, .int 0, .ref q7, .ref q15, .ref q23, .null, .null, .null, .null]))] ++ ([(q7, .inl (cI, 10, .inl (fun _ => 0)))] ++ ([(q15, .inl (cI, 10, .inl (fun _ => 0)))] ++ [(q23, .inl (cI, 10, .inl (fun _ => 0)))]))) := hD
  refine lv_aload_n hx hb dX0_init_28 rfl (lv_at hl 0 rfl) ?_
  refine lv_bipush (v := 10) hx hb dX0_init_29 (by decide) ?_
  refine va_newa (atype := .int) (ty := .int) (N' := 10) (a0 := (10, .inl (fun _ => 0))) hx hb (hts (.arrayClass .int) (by decide +kernel)) rfl hK hP hD hS hA (fun _ => rfl) (by decide) (by decide) (by decide) (Nat.le_of_ble_eq_true rfl) (Nat.le_of_ble_eq_true rfl) dX0_init_31 (fun q31 cA H hK2 hP hD hS => ?_)
  have ecA : cI = cA := wTys hK2 (i := 0) (j := 1) rfl rfl
  subst ecA
  have hP : va_P D vwCl ([(h0, .inr (0, [.int 0, .int 0, .int 0, .int 0, .int 0, .int 0, .int 0, .int 0, .int 0, .int 0, .ref q7, .ref q15, .ref q23, .null, .null, .null, .null]))] ++ ([(q7, .inl (cI, 10, .inl (fun _ => 0)))] ++ ([(q15, .inl (cI, 10, .inl (fun _ => 0)))] ++ ([(q23, .inl (cI, 10, .inl (fun _ => 0)))] ++ [(q31, .inl (cI, 10, .inl (fun _ => 0)))])))) H := hP
  have hD : va_D A ([(h0, .inr (0, [.int 0, .int 0, .int 0, .int 0, .int 0, .int 0, .int 0, .int 0, .int 0, .int 0, .ref q7, .ref q15, .ref q23, .null, .null, .null, .null]))] ++ ([(q7, .inl (cI, 10, .inl (fun _ => 0)))] ++ ([(q15, .inl (cI, 10, .inl (fun _ => 0)))] ++ ([(q23, .inl (cI, 10, .inl (fun _ => 0)))] ++ [(q31, .inl (cI, 10, .inl (fun _ => 0)))])))) := hD
  refine va_putF (D := D) (ci := 0) (v := .ref q31) (ty := .array .int) (C := RX0) (T := TX0) (N := 17) hx hb hw0 (fun _ h => h) tyX0 tyX0_ok nmX0 hown hK hP hD hS 0 rfl rfl 13 (by decide) k21 (fun _ h9 => h9) rfl hin rfl (by decide +kernel) rfl rfl (Nat.le_of_ble_eq_true rfl) dX0_init_33 (fun H locs hP hD hS => ?_)
  have hP : va_P D vwCl ([(h0, .inr (0, [.int 0, .int 0, .int 0, .int 0, .int 0, .int 0, .int 0, .int 0, .int 0, .int 0, .ref q7, .ref q15, .ref q23, .ref q31, .null, .null, .null]))] ++ ([(q7, .inl (cI, 10, .inl (fun _ => 0)))] ++ ([(q15, .inl (cI, 10, .inl (fun _ => 0)))] ++ ([(q23, .inl (cI, 10, .inl (fun _ => 0)))] ++ [(q31, .inl (cI, 10, .inl (fun _ => 0)))])))) H := hP
  have hD : va_D A ([(h0, .inr (0, [.int 0, .int 0, .int 0, .int 0, .int 0, .int 0, .int 0, .int 0, .int 0, .int 0, .ref q7, .ref q15, .ref q23, .ref q31, .null, .null, .null]))] ++ ([(q7, .inl (cI, 10, .inl (fun _ => 0)))] ++ ([(q15, .inl (cI, 10, .inl (fun _ => 0)))] ++ ([(q23, .inl (cI, 10, .inl (fun _ => 0)))] ++ [(q31, .inl (cI, 10, .inl (fun _ => 0)))])))) := hD
  refine lv_aload_n hx hb dX0_init_36 rfl (lv_at hl 0 rfl) ?_
  refine lv_bipush (v := 100) hx hb dX0_init_37 (by decide) ?_
  refine va_newa (atype := .int) (ty := .int) (N' := 100) (a0 := (100, .inl (fun _ => 0))) hx hb (hts (.arrayClass .int) (by decide +kernel)) rfl hK hP hD hS hA (fun _ => rfl) (by decide) (by decide) (by decide) (Nat.le_of_ble_eq_true rfl) (Nat.le_of_ble_eq_true rfl) dX0_init_39 (fun q39 cA H hK2 hP hD hS => ?_)
  have ecA : cI = cA := wTys hK2 (i := 0) (j := 1) rfl rfl
  subst ecA
  have hP : va_P D vwCl ([(h0, .inr (0, [.int 0, .int 0, .int 0, .int 0, .int 0, .int 0, .int 0, .int 0, .int 0, .int 0, .ref q7, .ref q15, .ref q23, .ref q31, .null, .null, .null]))] ++ ([(q7, .inl (cI, 10, .inl (fun _ => 0)))] ++ ([(q15, .inl (cI, 10, .inl (fun _ => 0)))] ++ ([(q23, .inl (cI, 10, .inl (fun _ => 0)))] ++ ([(q31, .inl (cI, 10, .inl (fun _ => 0)))] ++ [(q39, .inl (cI, 100, .inl (fun _ => 0)))]))))) H := hP
  have hD : va_D A ([(h0, .inr (0, [.int 0, .int 0, .int 0, .int 0, .int 0, .int 0, .int 0, .int 0, .int 0, .int 0, .ref q7, .ref q15, .ref q23, .ref q31, .null, .null, .null]))] ++ ([(q7, .inl (cI, 10, .inl (fun _ => 0)))] ++ ([(q15, .inl (cI, 10, .inl (fun _ => 0)))] ++ ([(q23, .inl (cI, 10, .inl (fun _ => 0)))] ++ ([(q31, .inl (cI, 10, .inl (fun _ => 0)))] ++ [(q39, .inl (cI, 100, .inl (fun _ => 0)))]))))) := hD
  refine va_putF (D := D) (ci := 0) (v := .ref q39) (ty := .array .int) (C := RX0) (T := TX0) (N := 17) hx hb hw0 (fun _ h => h) tyX0 tyX0_ok nmX0 hown hK hP hD hS 0 rfl rfl 14 (by decide) k24 (fun _ h9 => h9) rfl hin rfl (by decide +kernel) rfl rfl (Nat.le_of_ble_eq_true rfl) dX0_init_41 (fun H locs hP hD hS => ?_)
  have hP : va_P D vwCl ([(h0, .inr (0, [.int 0, .int 0, .int 0, .int 0, .int 0, .int 0, .int 0, .int 0, .int 0, .int 0, .ref q7, .ref q15, .ref q23, .ref q31, .ref q39, .null, .null]))] ++ ([(q7, .inl (cI, 10, .inl (fun _ => 0)))] ++ ([(q15, .inl (cI, 10, .inl (fun _ => 0)))] ++ ([(q23, .inl (cI, 10, .inl (fun _ => 0)))] ++ ([(q31, .inl (cI, 10, .inl (fun _ => 0)))] ++ [(q39, .inl (cI, 100, .inl (fun _ => 0)))]))))) H := hP
  have hD : va_D A ([(h0, .inr (0, [.int 0, .int 0, .int 0, .int 0, .int 0, .int 0, .int 0, .int 0, .int 0, .int 0, .ref q7, .ref q15, .ref q23, .ref q31, .ref q39, .null, .null]))] ++ ([(q7, .inl (cI, 10, .inl (fun _ => 0)))] ++ ([(q15, .inl (cI, 10, .inl (fun _ => 0)))] ++ ([(q23, .inl (cI, 10, .inl (fun _ => 0)))] ++ ([(q31, .inl (cI, 10, .inl (fun _ => 0)))] ++ [(q39, .inl (cI, 100, .inl (fun _ => 0)))]))))) := hD
  refine lv_aload_n hx hb dX0_init_44 rfl (lv_at hl 0 rfl) ?_
  refine lv_bipush (v := 100) hx hb dX0_init_45 (by decide) ?_
  refine va_newa (atype := .int) (ty := .int) (N' := 100) (a0 := (100, .inl (fun _ => 0))) hx hb (hts (.arrayClass .int) (by decide +kernel)) rfl hK hP hD hS hA (fun _ => rfl) (by decide) (by decide) (by decide) (Nat.le_of_ble_eq_true rfl) (Nat.le_of_ble_eq_true rfl) dX0_init_47 (fun q47 cA H hK2 hP hD hS => ?_)
  have ecA : cI = cA := wTys hK2 (i := 0) (j := 1) rfl rfl
  subst ecA
  have hP : va_P D vwCl ([(h0, .inr (0, [.int 0, .int 0, .int 0, .int 0, .int 0, .int 0, .int 0, .int 0, .int 0, .int 0, .ref q7, .ref q15, .ref q23, .ref q31, .ref q39, .null, .null]))] ++ ([(q7, .inl (cI, 10, .inl (fun _ => 0)))] ++ ([(q15, .inl (cI, 10, .inl (fun _ => 0)))] ++ ([(q23, .inl (cI, 10, .inl (fun _ => 0)))] ++ ([(q31, .inl (cI, 10, .inl (fun _ => 0)))] ++ ([(q39, .inl (cI, 100, .inl (fun _ => 0)))] ++ [(q47, .inl (cI, 100, .inl (fun _ => 0)))])))))) H := hP
  have hD : va_D A ([(h0, .inr (0, [.int 0, .int 0, .int 0, .int 0, .int 0, .int 0, .int 0, .int 0, .int 0, .int 0, .ref q7, .ref q15, .ref q23, .ref q31, .ref q39, .null, .null]))] ++ ([(q7, .inl (cI, 10, .inl (fun _ => 0)))] ++ ([(q15, .inl (cI, 10, .inl (fun _ => 0)))] ++ ([(q23, .inl (cI, 10, .inl (fun _ => 0)))] ++ ([(q31, .inl (cI, 10, .inl (fun _ => 0)))] ++ ([(q39, .inl (cI, 100, .inl (fun _ => 0)))] ++ [(q47, .inl (cI, 100, .inl (fun _ => 0)))])))))) := hD
  refine va_putF (D := D) (ci := 0) (v := .ref q47) (ty := .array .int) (C := RX0) (T := TX0) (N := 17) hx hb hw0 (fun _ h => h) tyX0 tyX0_ok nmX0 hown hK hP hD hS 0 rfl rfl 15 (by decide) k27 (fun _ h9 => h9) rfl hin rfl (by decide +kernel) rfl rfl (Nat.le_of_ble_eq_true rfl) dX0_init_49 (fun H locs hP hD hS => ?_)
  have hP : va_P D vwCl ([(h0, .inr (0, [.int 0, .int 0, .int 0, .int 0, .int 0, .int 0, .int 0, .int 0, .int 0, .int 0, .ref q7, .ref q15, .ref q23, .ref q31, .ref q39, .ref q47, .null]))] ++ ([(q7, .inl (cI, 10, .inl (fun _ => 0)))] ++ ([(q15, .inl (cI, 10, .inl (fun _ => 0)))] ++ ([(q23, .inl (cI, 10, .inl (fun _ => 0)))] ++ ([(q31, .inl (cI, 10, .inl (fun _ => 0)))] ++ ([(q39, .inl (cI, 100, .inl (fun _ => 0)))] ++ [(q47, .inl (cI, 100, .inl (fun _ => 0)))])))))) H := hP
  have hD : va_D A ([(h0, .inr (0, [.int 0, .int 0, .int 0, .int 0, .int 0, .int 0, .int 0, .int 0, .int 0, .int 0, .ref q7, .ref q15, .ref q23, .ref q31, .ref q39, .ref q47, .null]))] ++ ([(q7, .inl (cI, 10, .inl (fun _ => 0)))] ++ ([(q15, .inl (cI, 10, .inl (fun _ => 0)))] ++ ([(q23, .inl (cI, 10, .inl (fun _ => 0)))] ++ ([(q31, .inl (cI, 10, .inl (fun _ => 0)))] ++ ([(q39, .inl (cI, 100, .inl (fun _ => 0)))] ++ [(q47, .inl (cI, 100, .inl (fun _ => 0)))])))))) := hD
  refine lv_aload_n hx hb dX0_init_52 rfl (lv_at hl 0 rfl) ?_
  refine lv_bipush (v := 100) hx hb dX0_init_53 (by decide) ?_
  refine va_newa (atype := .int) (ty := .int) (N' := 100) (a0 := (100, .inl (fun _ => 0))) hx hb (hts (.arrayClass .int) (by decide +kernel)) rfl hK hP hD hS hA (fun _ => rfl) (by decide) (by decide) (by decide) (Nat.le_of_ble_eq_true rfl) (Nat.le_of_ble_eq_true rfl) dX0_init_55 (fun q55 cA H hK2 hP hD hS => ?_)
  have ecA : cI = cA := wTys hK2 (i := 0) (j := 1) rfl rfl
  subst ecA
  have hP : va_P D vwCl ([(h0, .inr (0, [.int 0, .int 0, .int 0, .int 0, .int 0, .int 0, .int 0, .int 0, .int 0, .int 0, .ref q7, .ref q15, .ref q23, .ref q31, .ref q39, .ref q47, .null]))] ++ ([(q7, .inl (cI, 10, .inl (fun _ => 0)))] ++ ([(q15, .inl (cI, 10, .inl (fun _ => 0)))] ++ ([(q23, .inl (cI, 10, .inl (fun _ => 0)))] ++ ([(q31, .inl (cI, 10, .inl (fun _ => 0)))] ++ ([(q39, .inl (cI, 100, .inl (fun _ => 0)))] ++ ([(q47, .inl (cI, 100, .inl (fun _ => 0)))] ++ [(q55, .inl (cI, 100, .inl (fun _ => 0)))]))))))) H := hP
  have hD : va_D A ([(h0, .inr (0, [.int 0, .int 0, .int 0, .int 0, .int 0, .int 0, .int 0, .int 0, .int 0, .int 0, .ref q7, .ref q15, .ref q23, .ref q31, .ref q39, .ref q47, .null]))] ++ ([(q7, .inl (cI, 10, .inl (fun _ => 0)))] ++ ([(q15, .inl (cI, 10, .inl (fun _ => 0)))] ++ ([(q23, .inl (cI, 10, .inl (fun _ => 0)))] ++ ([(q31, .inl (cI, 10, .inl (fun _ => 0)))] ++ ([(q39, .inl (cI, 100, .inl (fun _ => 0)))] ++ ([(q47, .inl (cI, 100, .inl (fun _ => 0)))] ++ [(q55, .inl (cI, 100, .inl (fun _ => 0)))]))))))) := hD
  refine va_putF (D := D) (ci := 0) (v := .ref q55) (ty := .array .int) (C := RX0) (T := TX0) (N := 17) hx hb hw0 (fun _ h => h) tyX0 tyX0_ok nmX0 hown hK hP hD hS 0 rfl rfl 16 (by decide) k30 (fun _ h9 => h9) rfl hin rfl (by decide +kernel) rfl rfl (Nat.le_of_ble_eq_true rfl) dX0_init_57 (fun H locs hP hD hS => ?_)
  have hP : va_P D vwCl ([(h0, .inr (0, [.int 0, .int 0, .int 0, .int 0, .int 0, .int 0, .int 0, .int 0, .int 0, .int 0, .ref q7, .ref q15, .ref q23, .ref q31, .ref q39, .ref q47, .ref q55]))] ++ ([(q7, .inl (cI, 10, .inl (fun _ => 0)))] ++ ([(q15, .inl (cI, 10, .inl (fun _ => 0)))] ++ ([(q23, .inl (cI, 10, .inl (fun _ => 0)))] ++ ([(q31, .inl (cI, 10, .inl (fun _ => 0)))] ++ ([(q39, .inl (cI, 100, .inl (fun _ => 0)))] ++ ([(q47, .inl (cI, 100, .inl (fun _ => 0)))] ++ [(q55, .inl (cI, 100, .inl (fun _ => 0)))]))))))) H := hP
  have hD : va_D A ([(h0, .inr (0, [.int 0, .int 0, .int 0, .int 0, .int 0, .int 0, .int 0, .int 0, .int 0, .int 0, .ref q7, .ref q15, .ref q23, .ref q31, .ref q39, .ref q47, .ref q55]))] ++ ([(q7, .inl (cI, 10, .inl (fun _ => 0)))] ++ ([(q15, .inl (cI, 10, .inl (fun _ => 0)))] ++ ([(q23, .inl (cI, 10, .inl (fun _ => 0)))] ++ ([(q31, .inl (cI, 10, .inl (fun _ => 0)))] ++ ([(q39, .inl (cI, 100, .inl (fun _ => 0)))] ++ ([(q47, .inl (cI, 100, .inl (fun _ => 0)))] ++ [(q55, .inl (cI, 100, .inl (fun _ => 0)))]))))))) := hD
  have hP : va_P D vwCl (DC cI (wA8 h0 q7 q15 q23 q31 q39 q47 q55) (fun _ => 0) (fun _ _ => 0)) H := hP
  have hD : va_D A (DC cI (wA8 h0 q7 q15 q23 q31 q39 q47 q55) (fun _ => 0) (fun _ _ => 0)) := hD
  have hl : lv_has ls 1 [(0, .ref ((wA8 h0 q7 q15 q23 q31 q39 q47 q55) 0))] := hl
  refine lv_aload_n hx hb dX0_init_60 rfl (lv_at hl 0 rfl) ?_
  refine lv_iconst (v := 5) hx hb dX0_init_61 (by decide) ?_
  refine va_put (D := D) (ci := 0) (v := .int 5) (ty := .int) (C := RX0) (T := TX0) (N := 17) hx hb hw0 (fun _ h => h) tyX0 tyX0_ok nmX0 hown hK hP hD hS 0 rfl rfl 2 (by decide) k33 (fun _ h9 => h9) rfl (by decide +kernel) rfl rfl (Nat.le_of_ble_eq_true rfl) dX0_init_62 (fun H locs hP hD hS => ?_)
  have hP : va_P D vwCl (DC cI (wA8 h0 q7 q15 q23 q31 q39 q47 q55) (upd (fun _ => 0) 2 5) (fun _ _ => 0)) H := hP
  have hD : va_D A (DC cI (wA8 h0 q7 q15 q23 q31 q39 q47 q55) (upd (fun _ => 0) 2 5) (fun _ _ => 0)) := hD
  refine lv_aload_n hx hb dX0_init_65 rfl (lv_at hl 0 rfl) ?_
  refine lv_iconst (v := 4) hx hb dX0_init_66 (by decide) ?_
  refine wCVv (pre := ([] : va_W)) (Wc := DC cI (wA8 h0 q7 q15 q23 q31 q39 q47 q55) (upd (fun _ => 0) 2 5) (fun _ _ => 0)) (suf := ([] : va_W)) (As := [.int 4]) (rest := []) ⟨hx, hb, hml, hown, hts⟩ (mX0_begin l D cI (wA8 h0 q7 q15 q23 q31 q39 q47 q55) (upd (fun _ => 0) 2 5) (fun _ _ => 0) 4 _) hN hA hK hS hP hD rfl 0 (r := (RX0, TX0, 17)) rfl rfl (cwV 1 hts gX0_init_X0_begin rfl rfl rfl (by decide +kernel) ⟨Nat.le_of_ble_eq_true rfl, Nat.le_of_ble_eq_true rfl⟩) rfl hl.1 rfl (Nat.le_of_ble_eq_true rfl) dX0_init_67 ⟨Nat.le_of_ble_eq_true rfl, Nat.le_of_ble_eq_true rfl⟩ (fun u_67 H locs hw hP hD hS => ?_)
  subst hw
  have hP : va_P D vwCl (DC cI (wA8 h0 q7 q15 q23 q31 q39 q47 q55) (dBeginF (upd (fun _ => 0) 2 5) 4, dBeginR (fun _ _ => 0)).1 (dBeginF (upd (fun _ => 0) 2 5) 4, dBeginR (fun _ _ => 0)).2) H := hP
  have hD : va_D A (DC cI (wA8 h0 q7 q15 q23 q31 q39 q47 q55) (dBeginF (upd (fun _ => 0) 2 5) 4, dBeginR (fun _ _ => 0)).1 (dBeginF (upd (fun _ => 0) 2 5) 4, dBeginR (fun _ _ => 0)).2) := hD
  exact wRk hQ hx hb hr hlocks hK hP hD hS dX0_init_70 (cI, (wA8 h0 q7 q15 q23 q31 q39 q47 q55)) (rfl) rfl rfl
abbrev rmX1_init : Room := { frames := 3, cells := 16, slots := 714, locals := 64 }
set_option maxRecDepth 100000 in
set_option maxHeartbeats 4000000 in
theorem mX1_init (l : Launch) (D : va_G) (h0 : Nat) (sz : Nat) : wCt l yX1_init wsX1_init rmX1_init D [] [.ref h0] ([(h0, .inr (1, [.null, .null]))]) sz 16 714 (wQk D (fun _ : (ClassId × (Nat → Nat)) × (Nat → Nat) => True) (fun u => XO h0 u.1.2 u.2 ++ (DC u.1.1 u.1.2 dF0 dR0 ++ DC u.1.1 u.2 dF0 dR0)) (fun u => [(u.1.1, .int)])) := by
  refine wMet cX1_init 1 none (by decide) rfl (Nat.le_of_ble_eq_true rfl) ?_
  intro p e s m args below meth c A Q ls hQ hx hb hr hml hown hlocks hin hts hN hP hK hD hA hS hl
  have hl : lv_has ls 1 [(0, .ref h0)] := hl
  have hown : s.vm.findClass RX1 = some m.cls := hown
  have hw0 : ∀ w ∈ wsX00, w.before args s = true := fun w h => hts w (List.mem_cons_of_mem _ (List.mem_append_left _ (List.mem_append_right _ h)))
  have hw1 : ∀ w ∈ wsX10, w.before args s = true := fun w h => hts w (List.mem_cons_of_mem _ (List.mem_append_right _ h))
  have k12 := hts (.fieldLink RX1 12 "PauseLedger" "dinner" "LPauseLedger$Dinner;") (by decide +kernel)
  have k16 := hts (.fieldLink RX1 16 "PauseLedger" "trial" "LPauseLedger$Dinner;") (by decide +kernel)
  refine lv_aload_n hx hb dX1_init_0 rfl (lv_at hl 0 rfl) ?_
  refine W.objInit hx hb hown (hts (.methodLink RX1 3 objectInit) (by decide +kernel)) (hts (.instanceMethod objectInit) (by decide +kernel)) (hts _ (List.mem_cons_of_mem _ (List.mem_append_left _ (List.mem_append_left _ (List.mem_append_left _ (List.mem_of_getElem? (i := 2) rfl)))))) rfl (by rw [hml]; exact hl.1) rfl dX1_init_1 (Nat.le_of_ble_eq_true rfl) (Nat.le_of_ble_eq_true rfl) ?_
  refine W.eq (g2 := F0 m 4 ls []) rfl ?_
  refine lv_aload_n hx hb dX1_init_4 rfl (lv_at hl 0 rfl) ?_
  refine va_new (ci := 0) (fs := [.int 0, .int 0, .int 0, .int 0, .int 0, .int 0, .int 0, .int 0, .int 0, .int 0, .null, .null, .null, .null, .null, .null, .null]) (C := RX0) (T := TX0) (N := 17) hx hb hw0 (fun _ h => h) tyX0 tyX0_ok hown (hts (.classLink RX1 9 RX0) (by decide +kernel)) (hts (.instantiable RX0 17) (by decide +kernel)) (hts (.initialized RX0) (by decide +kernel)) hK hP hD hS hA rfl (fun j hj => by exact newDefX0 j hj) (Nat.le_of_ble_eq_true rfl) (Nat.le_of_ble_eq_true rfl) dX1_init_5 (fun q5 H hP hD hS => ?_)
  have hP : va_P D vwCl ([(h0, .inr (1, [.null, .null]))] ++ [(q5, .inr (0, [.int 0, .int 0, .int 0, .int 0, .int 0, .int 0, .int 0, .int 0, .int 0, .int 0, .null, .null, .null, .null, .null, .null, .null]))]) H := hP
  have hD : va_D A ([(h0, .inr (1, [.null, .null]))] ++ [(q5, .inr (0, [.int 0, .int 0, .int 0, .int 0, .int 0, .int 0, .int 0, .int 0, .int 0, .int 0, .null, .null, .null, .null, .null, .null, .null]))]) := hD
  refine lv_dup hx hb dX1_init_8 rfl ?_
  refine wCIk (pre := [(h0, .inr (1, [.null, .null]))]) (Wc := [(q5, .inr (0, [.int 0, .int 0, .int 0, .int 0, .int 0, .int 0, .int 0, .int 0, .int 0, .int 0, .null, .null, .null, .null, .null, .null, .null]))]) (suf := ([] : va_W)) (As := []) (rest := [.ref q5, .ref h0]) ⟨hx, hb, hml, hown, hts⟩ (mX0_init l D q5 _) hN hA hK hS hP hD rfl (cwI 0 hts gX1_init_X0_init rfl rfl rfl (hts (.initialized RX0) (by decide +kernel)) (hts (.methodLink RX1 11 yX0_init) (by decide +kernel)) (hts (.instanceMethod yX0_init) (by decide +kernel)) rfl (by decide +kernel) ⟨Nat.le_of_ble_eq_true rfl, Nat.le_of_ble_eq_true rfl⟩) rfl hl.1 rfl (Nat.le_of_ble_eq_true rfl) dX1_init_9 ⟨Nat.le_of_ble_eq_true rfl, Nat.le_of_ble_eq_true rfl⟩ (fun ⟨c9, a9⟩ H9 locs9 hw hKn hP9 hD9 hS9 => ?_)
  have hw : a9 0 = q5 := hw
  subst hw
  have hKc : va_K D vwCl [(c9, .int)] s := hKn
  have hP := hP9
  have hD := hD9
  have hS := hS9
  revert hP hD hS
  clear hP9 hD9 hS9
  generalize H9 = H
  generalize locs9 = locs
  intro hP hD hS
  have hP : va_P D vwCl ([(h0, .inr (1, [.null, .null]))] ++ DC c9 a9 dF0 dR0) H := hP
  have hD : va_D A ([(h0, .inr (1, [.null, .null]))] ++ DC c9 a9 dF0 dR0) := hD
  refine va_putF (D := D) (ci := 1) (v := .ref (a9 0)) (ty := .object "PauseLedger$Dinner") (C := RX1) (T := TX1) (N := 2) hx hb hw1 (fun _ h => h) tyX1 tyX1_ok nmX1 hown hK hP hD hS 0 rfl rfl 0 (by decide) k12 (fun _ h9 => h9) rfl hin rfl (by decide +kernel) rfl rfl (Nat.le_of_ble_eq_true rfl) dX1_init_12 (fun H locs hP hD hS => ?_)
  have hP : va_P D vwCl ([(h0, .inr (1, [.ref (a9 0), .null]))] ++ DC c9 a9 dF0 dR0) H := hP
  have hD : va_D A ([(h0, .inr (1, [.ref (a9 0), .null]))] ++ DC c9 a9 dF0 dR0) := hD
  refine lv_aload_n hx hb dX1_init_15 rfl (lv_at hl 0 rfl) ?_
  refine va_new (ci := 0) (fs := [.int 0, .int 0, .int 0, .int 0, .int 0, .int 0, .int 0, .int 0, .int 0, .int 0, .null, .null, .null, .null, .null, .null, .null]) (C := RX0) (T := TX0) (N := 17) hx hb hw0 (fun _ h => h) tyX0 tyX0_ok hown (hts (.classLink RX1 9 RX0) (by decide +kernel)) (hts (.instantiable RX0 17) (by decide +kernel)) (hts (.initialized RX0) (by decide +kernel)) hK hP hD hS hA rfl (fun j hj => by exact newDefX0 j hj) (Nat.le_of_ble_eq_true rfl) (Nat.le_of_ble_eq_true rfl) dX1_init_16 (fun q16 H hP hD hS => ?_)
  have hP : va_P D vwCl ([(h0, .inr (1, [.ref (a9 0), .null]))] ++ (DC c9 a9 dF0 dR0 ++ [(q16, .inr (0, [.int 0, .int 0, .int 0, .int 0, .int 0, .int 0, .int 0, .int 0, .int 0, .int 0, .null, .null, .null, .null, .null, .null, .null]))])) H := hP
  have hD : va_D A ([(h0, .inr (1, [.ref (a9 0), .null]))] ++ (DC c9 a9 dF0 dR0 ++ [(q16, .inr (0, [.int 0, .int 0, .int 0, .int 0, .int 0, .int 0, .int 0, .int 0, .int 0, .int 0, .null, .null, .null, .null, .null, .null, .null]))])) := hD
  refine lv_dup hx hb dX1_init_19 rfl ?_
  refine wCIk (pre := [(h0, .inr (1, [.ref (a9 0), .null]))] ++ DC c9 a9 dF0 dR0) (Wc := [(q16, .inr (0, [.int 0, .int 0, .int 0, .int 0, .int 0, .int 0, .int 0, .int 0, .int 0, .int 0, .null, .null, .null, .null, .null, .null, .null]))]) (suf := ([] : va_W)) (As := []) (rest := [.ref q16, .ref h0]) ⟨hx, hb, hml, hown, hts⟩ (mX0_init l D q16 _) hN hA hK hS hP hD rfl (cwI 0 hts gX1_init_X0_init rfl rfl rfl (hts (.initialized RX0) (by decide +kernel)) (hts (.methodLink RX1 11 yX0_init) (by decide +kernel)) (hts (.instanceMethod yX0_init) (by decide +kernel)) rfl (by decide +kernel) ⟨Nat.le_of_ble_eq_true rfl, Nat.le_of_ble_eq_true rfl⟩) rfl hl.1 rfl (Nat.le_of_ble_eq_true rfl) dX1_init_20 ⟨Nat.le_of_ble_eq_true rfl, Nat.le_of_ble_eq_true rfl⟩ (fun ⟨c20, a20⟩ H9 locs9 hw hKn hP9 hD9 hS9 => ?_)
  have hw : a20 0 = q16 := hw
  subst hw
  have ecA : c9 = c20 := wTy2 hKc hKn
  subst ecA
  have hP := hP9
  have hD := hD9
  have hS := hS9
  revert hP hD hS
  clear hP9 hD9 hS9
  generalize H9 = H
  generalize locs9 = locs
  intro hP hD hS
  have hP : va_P D vwCl ([(h0, .inr (1, [.ref (a9 0), .null]))] ++ (DC c9 a9 dF0 dR0 ++ DC c9 a20 dF0 dR0)) H := hP
  have hD : va_D A ([(h0, .inr (1, [.ref (a9 0), .null]))] ++ (DC c9 a9 dF0 dR0 ++ DC c9 a20 dF0 dR0)) := hD
  refine va_putF (D := D) (ci := 1) (v := .ref (a20 0)) (ty := .object "PauseLedger$Dinner") (C := RX1) (T := TX1) (N := 2) hx hb hw1 (fun _ h => h) tyX1 tyX1_ok nmX1 hown hK hP hD hS 0 rfl rfl 1 (by decide) k16 (fun _ h9 => h9) rfl hin rfl (by decide +kernel) rfl rfl (Nat.le_of_ble_eq_true rfl) dX1_init_23 (fun H locs hP hD hS => ?_)
  have hP : va_P D vwCl ([(h0, .inr (1, [.ref (a9 0), .ref (a20 0)]))] ++ (DC c9 a9 dF0 dR0 ++ DC c9 a20 dF0 dR0)) H := hP
  have hD : va_D A ([(h0, .inr (1, [.ref (a9 0), .ref (a20 0)]))] ++ (DC c9 a9 dF0 dR0 ++ DC c9 a20 dF0 dR0)) := hD
  have hK := hKc
  exact wRk hQ hx hb hr hlocks hK hP hD hS dX1_init_26 ((c9, a9), a20) (trivial) rfl rfl
