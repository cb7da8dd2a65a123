abbrev rmX2_init : Room := { frames := 1, cells := 16, slots := 160, locals := 12 }
set_option maxRecDepth 100000 in
set_option maxHeartbeats 4000000 in
/-- new -/
theorem mX2_init (l : Launch) (D : va_G) (cI cR : ClassId) (h0 n : Nat) (sz : Nat) (hn0 : 2 ≤ n) (hn1 : n ≤ 10) : wCt l yX2_init wsX2_init rmX2_init D [(cI, .int), (cR, .array .int)] [.ref h0, .int (nI n)] ([(h0, .inr (2, [.int 0, .int 0, .int 0, .int 0, .int 0, .int 0, .int 0, .int 0, .int 0, .null, .null, .null, .null, .null, .null]))]) sz 16 160 (wQv D (fun u : (Nat → Nat) × (Nat → Nat) => u.1 0 = h0) (fun u : (Nat → Nat) × (Nat → Nat) => SC cI cR u.1 u.2 (fun _ => 0) n 0 (sF0 n) (fun _ _ => 0) ++ (CW cI u.2 n (fun _ => 0) ++ RW cI (fun _ => 0) 0 3 (fun _ _ => 0)))) := by
  refine wMet cX2_init 2 none (by decide) rfl (Nat.le_of_ble_eq_true rfl) ?_
  intro p e s m args below meth c A Q ls hQ hx hb hr hml hown hlocks hin hts hN hP hK hD hA hS hl
  have hK1 : va_K D vwCl [(cI, .int)] s := hK.sub [0] rfl
  have hl : lv_has ls 2 [(0, .ref h0), (1, .int (nI n))] := hl
  have hown : s.vm.findClass RX2 = some m.cls := hown
  have hw2 : ∀ w ∈ wsX20, w.before args s = true := fun w h => hts w (List.mem_cons_of_mem _ (List.mem_append_right _ h))
  have k7 := hts (.fieldLink RX2 7 "PauseLedgerLaw$Sim" "limit" "I") (by decide +kernel)
  have k13 := hts (.fieldLink RX2 13 "PauseLedgerLaw$Sim" "speaker" "I") (by decide +kernel)
  have k18 := hts (.fieldLink RX2 18 "PauseLedgerLaw$Sim" "glances" "[[I") (by decide +kernel)
  have k22 := hts (.fieldLink RX2 22 "PauseLedgerLaw$Sim" "guests" "I") (by decide +kernel)
  have k25 := hts (.fieldLink RX2 25 "PauseLedgerLaw$Sim" "spoken" "[I") (by decide +kernel)
  have k28 := hts (.fieldLink RX2 28 "PauseLedgerLaw$Sim" "cut" "[I") (by decide +kernel)
  have k31 := hts (.fieldLink RX2 31 "PauseLedgerLaw$Sim" "coughs" "[I") (by decide +kernel)
  have k34 := hts (.fieldLink RX2 34 "PauseLedgerLaw$Sim" "unsaid" "[I") (by decide +kernel)
  have k38 := hts (.fieldLink RX2 38 "PauseLedgerLaw$Sim" "caught" "[[I") (by decide +kernel)
  refine lv_aload_n hx hb dX2_init_0 rfl (lv_at hl 0 rfl) ?_
  refine W.objInit hx hb hown (hts (.methodLink RX2 1 objectInit) (by decide +kernel)) (hts (.instanceMethod objectInit) (by decide +kernel)) (hts _ (List.mem_cons_of_mem _ (List.mem_append_left _ (List.mem_of_getElem? (i := 2) rfl)))) rfl (by rw [hml]; exact hl.1) rfl dX2_init_1 (Nat.le_of_ble_eq_true rfl) (Nat.le_of_ble_eq_true rfl) ?_
  refine W.eq (g2 := F0 m 4 ls []) rfl ?_
  refine lv_aload_n hx hb dX2_init_4 rfl (lv_at hl 0 rfl) ?_
  refine lv_iconst (v := 5) hx hb dX2_init_5 (by decide) ?_
  refine va_put (D := D) (ci := 2) (v := .int 5) (ty := .int) (C := RX2) (T := TX2) (N := 15) hx hb hw2 (fun _ h => h) tyX2 tyX2_ok nmX2 hown hK hP hD hS 0 rfl rfl 1 (by decide) k7 (fun _ h9 => h9) rfl (by decide +kernel) rfl rfl (Nat.le_of_ble_eq_true rfl) dX2_init_6 (fun H locs hP hD hS => ?_)
  have hP : va_P D vwCl ([(h0, .inr (2, [.int 0, .int 5, .int 0, .int 0, .int 0, .int 0, .int 0, .int 0, .int 0, .null, .null, .null, .null, .null, .null]))]) H := hP
  have hD : va_D A ([(h0, .inr (2, [.int 0, .int 5, .int 0, .int 0, .int 0, .int 0, .int 0, .int 0, .int 0, .null, .null, .null, .null, .null, .null]))]) := hD
  refine lv_aload_n hx hb dX2_init_9 rfl (lv_at hl 0 rfl) ?_
  refine lv_iconst (v := (-1)) hx hb dX2_init_10 (by decide) ?_
  refine va_put (D := D) (ci := 2) (v := .int (-1)) (ty := .int) (C := RX2) (T := TX2) (N := 15) hx hb hw2 (fun _ h => h) tyX2 tyX2_ok nmX2 hown hK hP hD hS 0 rfl rfl 3 (by decide) k13 (fun _ h9 => h9) rfl (by decide +kernel) rfl rfl (Nat.le_of_ble_eq_true rfl) dX2_init_11 (fun H locs hP hD hS => ?_)
  have hP : va_P D vwCl ([(h0, .inr (2, [.int 0, .int 5, .int 0, .int (-1), .int 0, .int 0, .int 0, .int 0, .int 0, .null, .null, .null, .null, .null, .null]))]) H := hP
  have hD : va_D A ([(h0, .inr (2, [.int 0, .int 5, .int 0, .int (-1), .int 0, .int 0, .int 0, .int 0, .int 0, .null, .null, .null, .null, .null, .null]))]) := hD
  refine lv_aload_n hx hb dX2_init_14 rfl (lv_at hl 0 rfl) ?_
  refine lv_iconst (v := 0) hx hb dX2_init_15 (by decide) ?_
  refine wAnew hx hb hown (hts (.classLink RX2 16 "[I") (by decide +kernel)) hN hK hP hD hS hA 1 rfl 0 rfl (by omega) ⟨by show 0 + (1) ≤ 16; omega, by show 0 + (0) ≤ 160; omega⟩ dX2_init_16 (fun q16 H hP hD hS => ?_)
  have hP : va_P D vwCl ([(h0, .inr (2, [.int 0, .int 5, .int 0, .int (-1), .int 0, .int 0, .int 0, .int 0, .int 0, .null, .null, .null, .null, .null, .null]))] ++ [QA cR q16 0 (fun _ => none)]) H := hP
  have hD : va_D A ([(h0, .inr (2, [.int 0, .int 5, .int 0, .int (-1), .int 0, .int 0, .int 0, .int 0, .int 0, .null, .null, .null, .null, .null, .null]))] ++ [QA cR q16 0 (fun _ => none)]) := hD
  refine va_put (D := D) (ci := 2) (v := .ref q16) (ty := .array (.array .int)) (C := RX2) (T := TX2) (N := 15) hx hb hw2 (fun _ h => h) tyX2 tyX2_ok nmX2 hown hK hP hD hS 0 rfl rfl 14 (by decide) k18 (fun _ h9 => h9) rfl (by decide +kernel) rfl rfl (Nat.le_of_ble_eq_true rfl) dX2_init_19 (fun H locs hP hD hS => ?_)
  have hP : va_P D vwCl ([(h0, .inr (2, [.int 0, .int 5, .int 0, .int (-1), .int 0, .int 0, .int 0, .int 0, .int 0, .null, .null, .null, .null, .null, .ref q16]))] ++ [QA cR q16 0 (fun _ => none)]) H := hP
  have hD : va_D A ([(h0, .inr (2, [.int 0, .int 5, .int 0, .int (-1), .int 0, .int 0, .int 0, .int 0, .int 0, .null, .null, .null, .null, .null, .ref q16]))] ++ [QA cR q16 0 (fun _ => none)]) := hD
  refine lv_aload_n hx hb dX2_init_22 rfl (lv_at hl 0 rfl) ?_
  refine lv_iload_n hx hb dX2_init_23 rfl (lv_at hl 1 rfl) ?_
  refine va_put (D := D) (ci := 2) (v := .int (nI n)) (ty := .int) (C := RX2) (T := TX2) (N := 15) hx hb hw2 (fun _ h => h) tyX2 tyX2_ok nmX2 hown hK hP hD hS 0 rfl rfl 0 (by decide) k22 (fun _ h9 => h9) rfl (by decide +kernel) rfl rfl (Nat.le_of_ble_eq_true rfl) dX2_init_24 (fun H locs hP hD hS => ?_)
  have hP : va_P D vwCl ([(h0, .inr (2, [.int (nI n), .int 5, .int 0, .int (-1), .int 0, .int 0, .int 0, .int 0, .int 0, .null, .null, .null, .null, .null, .ref q16]))] ++ [QA cR q16 0 (fun _ => none)]) H := hP
  have hD : va_D A ([(h0, .inr (2, [.int (nI n), .int 5, .int 0, .int (-1), .int 0, .int 0, .int 0, .int 0, .int 0, .null, .null, .null, .null, .null, .ref q16]))] ++ [QA cR q16 0 (fun _ => none)]) := hD
  refine lv_aload_n hx hb dX2_init_27 rfl (lv_at hl 0 rfl) ?_
  refine lv_iload_n hx hb dX2_init_28 rfl (lv_at hl 1 rfl) ?_
  refine wNewi hx hb (hts (.arrayClass .int) (by decide +kernel)) hK hP hD hS hA 0 rfl n rfl (by omega) ⟨by show (0 + 1) + (1) ≤ 16; omega, by show (0 + 0) + (n) ≤ 160; omega⟩ dX2_init_29 (fun q29 H hP hD hS => ?_)
  have hP : va_P D vwCl ([(h0, .inr (2, [.int (nI n), .int 5, .int 0, .int (-1), .int 0, .int 0, .int 0, .int 0, .int 0, .null, .null, .null, .null, .null, .ref q16]))] ++ ([QA cR q16 0 (fun _ => none)] ++ [(q29, .inl (cI, n, .inl (fun _ => 0)))])) H := hP
  have hD : va_D A ([(h0, .inr (2, [.int (nI n), .int 5, .int 0, .int (-1), .int 0, .int 0, .int 0, .int 0, .int 0, .null, .null, .null, .null, .null, .ref q16]))] ++ ([QA cR q16 0 (fun _ => none)] ++ [(q29, .inl (cI, n, .inl (fun _ => 0)))])) := hD
  refine va_putF (D := D) (ci := 2) (v := .ref q29) (ty := .array .int) (C := RX2) (T := TX2) (N := 15) hx hb hw2 (fun _ h => h) tyX2 tyX2_ok nmX2 hown hK hP hD hS 0 rfl rfl 9 (by decide) k25 (fun _ h9 => h9) rfl hin rfl (by decide +kernel) rfl rfl (Nat.le_of_ble_eq_true rfl) dX2_init_31 (fun H locs hP hD hS => ?_)
  have hP : va_P D vwCl ([(h0, .inr (2, [.int (nI n), .int 5, .int 0, .int (-1), .int 0, .int 0, .int 0, .int 0, .int 0, .ref q29, .null, .null, .null, .null, .ref q16]))] ++ ([QA cR q16 0 (fun _ => none)] ++ [(q29, .inl (cI, n, .inl (fun _ => 0)))])) H := hP
  have hD : va_D A ([(h0, .inr (2, [.int (nI n), .int 5, .int 0, .int (-1), .int 0, .int 0, .int 0, .int 0, .int 0, .ref q29, .null, .null, .null, .null, .ref q16]))] ++ ([QA cR q16 0 (fun _ => none)] ++ [(q29, .inl (cI, n, .inl (fun _ => 0)))])) := hD
  refine lv_aload_n hx hb dX2_init_34 rfl (lv_at hl 0 rfl) ?_
  refine lv_iload_n hx hb dX2_init_35 rfl (lv_at hl 1 rfl) ?_
  refine wNewi hx hb (hts (.arrayClass .int) (by decide +kernel)) hK hP hD hS hA 0 rfl n rfl (by omega) ⟨by show ((0 + 1) + 1) + (1) ≤ 16; omega, by show ((0 + 0) + n) + (n) ≤ 160; omega⟩ dX2_init_36 (fun q36 H hP hD hS => ?_)
  have hP : va_P D vwCl ([(h0, .inr (2, [.int (nI n), .int 5, .int 0, .int (-1), .int 0, .int 0, .int 0, .int 0, .int 0, .ref q29, .null, .null, .null, .null, .ref q16]))] ++ ([QA cR q16 0 (fun _ => none)] ++ ([(q29, .inl (cI, n, .inl (fun _ => 0)))] ++ [(q36, .inl (cI, n, .inl (fun _ => 0)))]))) H := hP
  have hD : va_D A ([(h0, .inr (2, [.int (nI n), .int 5, .int 0, .int (-1), .int 0, .int 0, .int 0, .int 0, .int 0, .ref q29, .null, .null, .null, .null, .ref q16]))] ++ ([QA cR q16 0 (fun _ => none)] ++ ([(q29, .inl (cI, n, .inl (fun _ => 0)))] ++ [(q36, .inl (cI, n, .inl (fun _ => 0)))]))) := hD
  refine va_putF (D := D) (ci := 2) (v := .ref q36) (ty := .array .int) (C := RX2) (T := TX2) (N := 15) hx hb hw2 (fun _ h => h) tyX2 tyX2_ok nmX2 hown hK hP hD hS 0 rfl rfl 10 (by decide) k28 (fun _ h9 => h9) rfl hin rfl (by decide +kernel) rfl rfl (Nat.le_of_ble_eq_true rfl) dX2_init_38 (fun H locs hP hD hS => ?_)
  have hP : va_P D vwCl ([(h0, .inr (2, [.int (nI n), .int 5, .int 0, .int (-1), .int 0, .int 0, .int 0, .int 0, .int 0, .ref q29, .ref q36, .null, .null, .null, .ref q16]))] ++ ([QA cR q16 0 (fun _ => none)] ++ ([(q29, .inl (cI, n, .inl (fun _ => 0)))] ++ [(q36, .inl (cI, n, .inl (fun _ => 0)))]))) H := hP
  have hD : va_D A ([(h0, .inr (2, [.int (nI n), .int 5, .int 0, .int (-1), .int 0, .int 0, .int 0, .int 0, .int 0, .ref q29, .ref q36, .null, .null, .null, .ref q16]))] ++ ([QA cR q16 0 (fun _ => none)] ++ ([(q29, .inl (cI, n, .inl (fun _ => 0)))] ++ [(q36, .inl (cI, n, .inl (fun _ => 0)))]))) := hD
  refine lv_aload_n hx hb dX2_init_41 rfl (lv_at hl 0 rfl) ?_
  refine lv_iload_n hx hb dX2_init_42 rfl (lv_at hl 1 rfl) ?_
  refine wNewi hx hb (hts (.arrayClass .int) (by decide +kernel)) hK hP hD hS hA 0 rfl n rfl (by omega) ⟨by show (((0 + 1) + 1) + 1) + (1) ≤ 16; omega, by show (((0 + 0) + n) + n) + (n) ≤ 160; omega⟩ dX2_init_43 (fun q43 H hP hD hS => ?_)
  have hP : va_P D vwCl ([(h0, .inr (2, [.int (nI n), .int 5, .int 0, .int (-1), .int 0, .int 0, .int 0, .int 0, .int 0, .ref q29, .ref q36, .null, .null, .null, .ref q16]))] ++ ([QA cR q16 0 (fun _ => none)] ++ ([(q29, .inl (cI, n, .inl (fun _ => 0)))] ++ ([(q36, .inl (cI, n, .inl (fun _ => 0)))] ++ [(q43, .inl (cI, n, .inl (fun _ => 0)))])))) H := hP
  have hD : va_D A ([(h0, .inr (2, [.int (nI n), .int 5, .int 0, .int (-1), .int 0, .int 0, .int 0, .int 0, .int 0, .ref q29, .ref q36, .null, .null, .null, .ref q16]))] ++ ([QA cR q16 0 (fun _ => none)] ++ ([(q29, .inl (cI, n, .inl (fun _ => 0)))] ++ ([(q36, .inl (cI, n, .inl (fun _ => 0)))] ++ [(q43, .inl (cI, n, .inl (fun _ => 0)))])))) := hD
  refine va_putF (D := D) (ci := 2) (v := .ref q43) (ty := .array .int) (C := RX2) (T := TX2) (N := 15) hx hb hw2 (fun _ h => h) tyX2 tyX2_ok nmX2 hown hK hP hD hS 0 rfl rfl 11 (by decide) k31 (fun _ h9 => h9) rfl hin rfl (by decide +kernel) rfl rfl (Nat.le_of_ble_eq_true rfl) dX2_init_45 (fun H locs hP hD hS => ?_)
  have hP : va_P D vwCl ([(h0, .inr (2, [.int (nI n), .int 5, .int 0, .int (-1), .int 0, .int 0, .int 0, .int 0, .int 0, .ref q29, .ref q36, .ref q43, .null, .null, .ref q16]))] ++ ([QA cR q16 0 (fun _ => none)] ++ ([(q29, .inl (cI, n, .inl (fun _ => 0)))] ++ ([(q36, .inl (cI, n, .inl (fun _ => 0)))] ++ [(q43, .inl (cI, n, .inl (fun _ => 0)))])))) H := hP
  have hD : va_D A ([(h0, .inr (2, [.int (nI n), .int 5, .int 0, .int (-1), .int 0, .int 0, .int 0, .int 0, .int 0, .ref q29, .ref q36, .ref q43, .null, .null, .ref q16]))] ++ ([QA cR q16 0 (fun _ => none)] ++ ([(q29, .inl (cI, n, .inl (fun _ => 0)))] ++ ([(q36, .inl (cI, n, .inl (fun _ => 0)))] ++ [(q43, .inl (cI, n, .inl (fun _ => 0)))])))) := hD
  refine lv_aload_n hx hb dX2_init_48 rfl (lv_at hl 0 rfl) ?_
  refine lv_iload_n hx hb dX2_init_49 rfl (lv_at hl 1 rfl) ?_
  refine wNewi hx hb (hts (.arrayClass .int) (by decide +kernel)) hK hP hD hS hA 0 rfl n rfl (by omega) ⟨by show ((((0 + 1) + 1) + 1) + 1) + (1) ≤ 16; omega, by show ((((0 + 0) + n) + n) + n) + (n) ≤ 160; omega⟩ dX2_init_50 (fun q50 H hP hD hS => ?_)
  have hP : va_P D vwCl ([(h0, .inr (2, [.int (nI n), .int 5, .int 0, .int (-1), .int 0, .int 0, .int 0, .int 0, .int 0, .ref q29, .ref q36, .ref q43, .null, .null, .ref q16]))] ++ ([QA cR q16 0 (fun _ => none)] ++ ([(q29, .inl (cI, n, .inl (fun _ => 0)))] ++ ([(q36, .inl (cI, n, .inl (fun _ => 0)))] ++ ([(q43, .inl (cI, n, .inl (fun _ => 0)))] ++ [(q50, .inl (cI, n, .inl (fun _ => 0)))]))))) H := hP
  have hD : va_D A ([(h0, .inr (2, [.int (nI n), .int 5, .int 0, .int (-1), .int 0, .int 0, .int 0, .int 0, .int 0, .ref q29, .ref q36, .ref q43, .null, .null, .ref q16]))] ++ ([QA cR q16 0 (fun _ => none)] ++ ([(q29, .inl (cI, n, .inl (fun _ => 0)))] ++ ([(q36, .inl (cI, n, .inl (fun _ => 0)))] ++ ([(q43, .inl (cI, n, .inl (fun _ => 0)))] ++ [(q50, .inl (cI, n, .inl (fun _ => 0)))]))))) := hD
  refine va_putF (D := D) (ci := 2) (v := .ref q50) (ty := .array .int) (C := RX2) (T := TX2) (N := 15) hx hb hw2 (fun _ h => h) tyX2 tyX2_ok nmX2 hown hK hP hD hS 0 rfl rfl 12 (by decide) k34 (fun _ h9 => h9) rfl hin rfl (by decide +kernel) rfl rfl (Nat.le_of_ble_eq_true rfl) dX2_init_52 (fun H locs hP hD hS => ?_)
  have hP : va_P D vwCl ([(h0, .inr (2, [.int (nI n), .int 5, .int 0, .int (-1), .int 0, .int 0, .int 0, .int 0, .int 0, .ref q29, .ref q36, .ref q43, .ref q50, .null, .ref q16]))] ++ ([QA cR q16 0 (fun _ => none)] ++ ([(q29, .inl (cI, n, .inl (fun _ => 0)))] ++ ([(q36, .inl (cI, n, .inl (fun _ => 0)))] ++ ([(q43, .inl (cI, n, .inl (fun _ => 0)))] ++ [(q50, .inl (cI, n, .inl (fun _ => 0)))]))))) H := hP
  have hD : va_D A ([(h0, .inr (2, [.int (nI n), .int 5, .int 0, .int (-1), .int 0, .int 0, .int 0, .int 0, .int 0, .ref q29, .ref q36, .ref q43, .ref q50, .null, .ref q16]))] ++ ([QA cR q16 0 (fun _ => none)] ++ ([(q29, .inl (cI, n, .inl (fun _ => 0)))] ++ ([(q36, .inl (cI, n, .inl (fun _ => 0)))] ++ ([(q43, .inl (cI, n, .inl (fun _ => 0)))] ++ [(q50, .inl (cI, n, .inl (fun _ => 0)))]))))) := hD
  refine lv_aload_n hx hb dX2_init_55 rfl (lv_at hl 0 rfl) ?_
  refine lv_iload_n hx hb dX2_init_56 rfl (lv_at hl 1 rfl) ?_
  refine lv_iload_n hx hb dX2_init_57 rfl (lv_at hl 1 rfl) ?_
  have hn2 : n * n ≤ 10 * 10 := Nat.mul_le_mul hn1 hn1
  refine wMna hx hb hown (hts (.classLink RX2 37 "[[I") (by decide +kernel)) (hts (.arrayClass .int) (by decide +kernel)) hN hK hP hD hS hA 1 0 rfl rfl n n rfl rfl (by omega) (by omega) ⟨by show (((((0 + 1) + 1) + 1) + 1) + 1) + (1 + n) ≤ 16; omega, by show (((((0 + 0) + n) + n) + n) + n) + (n + n * n) ≤ 160; omega⟩ dX2_init_58 (fun q58 r58 H hP hD hS => ?_)
  have hP : va_P D vwCl ([(h0, .inr (2, [.int (nI n), .int 5, .int 0, .int (-1), .int 0, .int 0, .int 0, .int 0, .int 0, .ref q29, .ref q36, .ref q43, .ref q50, .null, .ref q16]))] ++ ([QA cR q16 0 (fun _ => none)] ++ ([(q29, .inl (cI, n, .inl (fun _ => 0)))] ++ ([(q36, .inl (cI, n, .inl (fun _ => 0)))] ++ ([(q43, .inl (cI, n, .inl (fun _ => 0)))] ++ ([(q50, .inl (cI, n, .inl (fun _ => 0)))] ++ ([QA cR q58 n (RF n r58)] ++ RW cI r58 n n (fun _ _ => 0)))))))) H := hP
  have hD : va_D A ([(h0, .inr (2, [.int (nI n), .int 5, .int 0, .int (-1), .int 0, .int 0, .int 0, .int 0, .int 0, .ref q29, .ref q36, .ref q43, .ref q50, .null, .ref q16]))] ++ ([QA cR q16 0 (fun _ => none)] ++ ([(q29, .inl (cI, n, .inl (fun _ => 0)))] ++ ([(q36, .inl (cI, n, .inl (fun _ => 0)))] ++ ([(q43, .inl (cI, n, .inl (fun _ => 0)))] ++ ([(q50, .inl (cI, n, .inl (fun _ => 0)))] ++ ([QA cR q58 n (RF n r58)] ++ RW cI r58 n n (fun _ _ => 0)))))))) := hD
  refine va_putF (D := D) (ci := 2) (v := .ref q58) (ty := .array (.array .int)) (C := RX2) (T := TX2) (N := 15) hx hb hw2 (fun _ h => h) tyX2 tyX2_ok nmX2 hown hK hP hD hS 0 rfl rfl 13 (by decide) k38 (fun _ h9 => h9) rfl hin rfl (by decide +kernel) rfl rfl (Nat.le_of_ble_eq_true rfl) dX2_init_62 (fun H locs hP hD hS => ?_)
  have hP : va_P D vwCl ([(h0, .inr (2, [.int (nI n), .int 5, .int 0, .int (-1), .int 0, .int 0, .int 0, .int 0, .int 0, .ref q29, .ref q36, .ref q43, .ref q50, .ref q58, .ref q16]))] ++ ([QA cR q16 0 (fun _ => none)] ++ ([(q29, .inl (cI, n, .inl (fun _ => 0)))] ++ ([(q36, .inl (cI, n, .inl (fun _ => 0)))] ++ ([(q43, .inl (cI, n, .inl (fun _ => 0)))] ++ ([(q50, .inl (cI, n, .inl (fun _ => 0)))] ++ ([QA cR q58 n (RF n r58)] ++ RW cI r58 n n (fun _ _ => 0)))))))) H := hP
  have hD : va_D A ([(h0, .inr (2, [.int (nI n), .int 5, .int 0, .int (-1), .int 0, .int 0, .int 0, .int 0, .int 0, .ref q29, .ref q36, .ref q43, .ref q50, .ref q58, .ref q16]))] ++ ([QA cR q16 0 (fun _ => none)] ++ ([(q29, .inl (cI, n, .inl (fun _ => 0)))] ++ ([(q36, .inl (cI, n, .inl (fun _ => 0)))] ++ ([(q43, .inl (cI, n, .inl (fun _ => 0)))] ++ ([(q50, .inl (cI, n, .inl (fun _ => 0)))] ++ ([QA cR q58 n (RF n r58)] ++ RW cI r58 n n (fun _ _ => 0)))))))) := hD
  have eq9 : wEq D ([(h0, .inr (2, [.int (nI n), .int 5, .int 0, .int (-1), .int 0, .int 0, .int 0, .int 0, .int 0, .ref q29, .ref q36, .ref q43, .ref q50, .ref q58, .ref q16]))] ++ ([QA cR q16 0 (fun _ => none)] ++ ([(q29, .inl (cI, n, .inl (fun _ => 0)))] ++ ([(q36, .inl (cI, n, .inl (fun _ => 0)))] ++ ([(q43, .inl (cI, n, .inl (fun _ => 0)))] ++ ([(q50, .inl (cI, n, .inl (fun _ => 0)))] ++ ([QA cR q58 n (RF n r58)] ++ RW cI r58 n n (fun _ _ => 0)))))))) (SC cI cR (wA8 h0 q29 q36 q43 q50 q58 q16 0) r58 (fun _ => 0) n 0 (sF0 n) (fun _ _ => 0) ++ (CW cI r58 n (fun _ => 0) ++ RW cI (fun _ => 0) 0 3 (fun _ _ => 0))) := by
    have e0 : (RW cI (fun _ => 0) 0 3 (fun _ _ => 0)) = [] := rfl
    rw [e0, List.append_nil]
    exact wEq.cons (fun _ h => h) (wEq.rowq (fun j hj => absurd hj (by omega)) wEq.rf)
  have hP := eq9.P hP
  have hD := eq9.D hD
  refine W.widen (k := 16) (n := 160) (by omega) (by omega) ?_
  exact wRv hQ hx hb hr hlocks hP hD hS dX2_init_65 ((wA8 h0 q29 q36 q43 q50 q58 q16 0), r58) (rfl) rfl
