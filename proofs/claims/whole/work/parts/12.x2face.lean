abbrev rmX2_newDinner : Room := { frames := 2, cells := 0, slots := 0, locals := 42 }
set_option maxRecDepth 100000 in
set_option maxHeartbeats 4000000 in
theorem mX2_newDinner (l : Launch) (D : va_G) (cI : ClassId) (b : Nat → Nat) (g nw kp : Nat → Int32) (gg w : Nat) (sz : Nat) (hg : g 1 = nI gg) (hg2 : gg ≤ 10) (hg0 : 0 < gg) (w1 : 2 ≤ w) (w2 : w ≤ 10) : wCt l yX2_newDinner wsX2_newDinner rmX2_newDinner D [(cI, .int)] [.ref (b 0), .int (nI w)] (MC cI b g nw kp) sz 0 0 (wQi D (fun v (_ : Unit) => v = mRate (g 1) nw gg) (fun _ : Unit => MC cI b (upd (upd g 0 0) 1 (nI w)) (upd (fun _ => 0) 1 (-1)) kp)) := by
  refine wMet cX2_newDinner 4 (some .int) (by decide) rfl (Nat.le_of_ble_eq_true rfl) ?_
  intro p e s m args below meth c A Q ls hQ hx hb hr hml hown hlocks hin hts hN hP hK hD hA hS hl
  have hl : lv_has ls 4 [(0, .ref (b 0)), (1, .int (nI w))] := hl
  have hown : s.vm.findClass RX2 = some m.cls := hown
  have hw2 : ∀ w ∈ wsX20, w.before args s = true := fun w h => hts w (List.mem_cons_of_mem _ (List.mem_append_right _ h))
  have k7 := hts (.fieldLink RX2 7 "PauseLedgerModel" "guests" "I") (by decide +kernel)
  have k16 := hts (.fieldLink RX2 16 "PauseLedgerModel" "now" "[I") (by decide +kernel)
  have k26 := hts (.fieldLink RX2 26 "PauseLedgerModel" "thrown" "I") (by decide +kernel)
  refine lv_aload_n hx hb dX2_newDinner_0 rfl (lv_at hl 0 rfl) ?_
  refine lv_iconst (v := 0) hx hb dX2_newDinner_1 (by decide) ?_
  refine va_put (D := D) (ci := 2) (v := .int 0) (ty := .int) (C := RX2) (T := TX2) (N := 7) hx hb hw2 (fun _ h => h) tyX2 tyX2_ok nmX2 hown hK hP hD hS 0 rfl rfl 0 (by decide) k26 (fun _ h9 => h9) rfl (by decide +kernel) rfl rfl (Nat.le_of_ble_eq_true rfl) dX2_newDinner_2 (fun H locs hP hD hS => ?_)
  have hP : va_P D vwCl (MC cI b (upd g 0 0) nw kp) H := hP
  have hD : va_D A (MC cI b (upd g 0 0) nw kp) := hD
  refine lv_iload_n hx hb dX2_newDinner_5 rfl (lv_at hl 1 rfl) ?_
  refine lv_iconst (v := 2) hx hb dX2_newDinner_6 (by decide) ?_
  refine lv_bipush (v := 10) hx hb dX2_newDinner_7 (by decide) ?_
  refine wCSi (pre := ([] : va_W)) (Wc := ([] : va_W)) (suf := MC cI b (upd g 0 0) nw kp) (As := [.int (nI w), .int 2, .int 10]) (rest := []) ⟨hx, hb, hml, hown, hts⟩ (mX2_isIn l D cI (nI w) 2 10 _) hN hA hK hS hP hD rfl (va_cwS 3 hts gX2_newDinner_X2_isIn rfl rfl rfl (by decide +kernel) ⟨Nat.le_of_ble_eq_true rfl, Nat.le_of_ble_eq_true rfl⟩) rfl hl.1 rfl (Nat.le_of_ble_eq_true rfl) dX2_newDinner_9 ⟨Nat.zero_le _, Nat.zero_le _⟩ (fun r_9 u_9 H locs hw hP hD hS => ?_)
  have hw : r_9 = mIn (nI w) 2 10 := hw
  subst hw
  have hP : va_P D vwCl (MC cI b (upd g 0 0) nw kp) H := hP
  have hD : va_D A (MC cI b (upd g 0 0) nw kp) := hD
  refine lv_if_ne (tgt := 21) hx hb dX2_newDinner_12 (by decide) (fun c_12 => ?_) (fun h9 => absurd h9 (mInT (lo := 2) (hi := 10) w1 w2 (by decide)))
  refine lv_aload_n hx hb dX2_newDinner_21 rfl (lv_at hl 0 rfl) ?_
  refine wCVi (pre := ([] : va_W)) (Wc := MC cI b (upd g 0 0) nw kp) (suf := ([] : va_W)) (As := []) (rest := []) ⟨hx, hb, hml, hown, hts⟩ (mX2_rated l D cI b (upd g 0 0) nw kp gg _ hg hg2 hg0) hN hA hK hS hP hD rfl 0 (r := (RX2, TX2, 7)) rfl rfl (cwV 0 hts gX2_newDinner_X2_rated rfl rfl rfl (by decide +kernel) ⟨Nat.le_of_ble_eq_true rfl, Nat.le_of_ble_eq_true rfl⟩) rfl hl.1 rfl (Nat.le_of_ble_eq_true rfl) dX2_newDinner_22 ⟨Nat.zero_le _, Nat.zero_le _⟩ (fun r_22 u_22 H locs hw hP hD hS => ?_)
  have hw : r_22 = mRate (g 1) nw gg := hw
  subst hw
  have hP : va_P D vwCl (MC cI b (upd g 0 0) nw kp) H := hP
  have hD : va_D A (MC cI b (upd g 0 0) nw kp) := hD
  refine lv_istore_n (lv' := [(2, .int (mRate (g 1) nw gg)), (0, .ref (b 0)), (1, .int (nI w))]) hx hb dX2_newDinner_25 rfl hl (by decide) rfl (fun ls hl => ?_)
  refine lv_iconst (v := 0) hx hb dX2_newDinner_26 (by decide) ?_
  refine lv_istore_n (lv' := [(3, .int 0), (2, .int (mRate (g 1) nw gg)), (0, .ref (b 0)), (1, .int (nI w))]) hx hb dX2_newDinner_27 rfl hl (by decide) rfl (fun ls hl => ?_)
  have loop28 : ∀ (j i28 : Nat), i28 + j = 348 → ∀ (H : Heap) (locs : List Loc) (ls : Array Slot), va_P D vwCl (MC cI b (upd g 0 0) (dFill nw 0 i28) kp) H → va_D A (MC cI b (upd g 0 0) (dFill nw 0 i28) kp) → va_S A s.heap H locs → lv_has ls 4 [(3, .int (nI i28)), (2, .int (mRate (g 1) nw gg)), (0, .ref (b 0)), (1, .int (nI w))] → W p l e rmX2_newDinner s m args below meth c H locs 0 0 Q (F0 m 28 ls []) := by
    intro j
    induction j with
    | zero =>
      intro i28 hi28 H locs ls hP hD hS hl
      have ez : 348 = i28 := by omega
      subst ez
      refine lv_iload_n hx hb dX2_newDinner_28 rfl (lv_at hl 0 rfl) ?_
      refine lv_sipush (v := 348) hx hb dX2_newDinner_29 (by decide) ?_
      refine lv_icmp_ge (tgt := 48) hx hb dX2_newDinner_32 (by decide) (fun c_32 => ?_) (fun h9 => absurd (nI_le (a := 348) (b := 348) (by omega) (by omega)) h9)
      have c_32n := (nI_leI (a := 348) (b := 348) (by omega) (by omega)).mp c_32
      refine lv_aload_n hx hb dX2_newDinner_48 rfl (lv_at hl 2 rfl) ?_
      refine va_get (D := D) (ci := 2) (v := .ref (b 1)) (C := RX2) (T := TX2) (N := 7) hx hb hw2 (fun _ h => h) hown hK hP 0 rfl rfl 3 (by decide) k16 (fun _ h9 => h9) rfl dX2_newDinner_49 ?_
      refine lv_iconst (v := 1) hx hb dX2_newDinner_52 (by decide) ?_
      refine lv_iconst (v := (-1)) hx hb dX2_newDinner_53 (by decide) ?_
      refine wIast hx hb hK hP hD hS 1 0 rfl rfl 1 rfl (by decide) (by decide) dX2_newDinner_54 (fun H locs hP hD hS => ?_)
      have hP : va_P D vwCl (MC cI b (upd g 0 0) (upd (dFill nw 0 348) 1 (-1)) kp) H := hP
      have hD : va_D A (MC cI b (upd g 0 0) (upd (dFill nw 0 348) 1 (-1)) kp) := hD
      refine lv_aload_n hx hb dX2_newDinner_55 rfl (lv_at hl 2 rfl) ?_
      refine lv_iload_n hx hb dX2_newDinner_56 rfl (lv_at hl 3 rfl) ?_
      refine va_put (D := D) (ci := 2) (v := .int (nI w)) (ty := .int) (C := RX2) (T := TX2) (N := 7) hx hb hw2 (fun _ h => h) tyX2 tyX2_ok nmX2 hown hK hP hD hS 0 rfl rfl 1 (by decide) k7 (fun _ h9 => h9) rfl (by decide +kernel) rfl rfl (Nat.le_of_ble_eq_true rfl) dX2_newDinner_57 (fun H locs hP hD hS => ?_)
      have hP : va_P D vwCl (MC cI b (upd (upd g 0 0) 1 (nI w)) (upd (dFill nw 0 348) 1 (-1)) kp) H := hP
      have hD : va_D A (MC cI b (upd (upd g 0 0) 1 (nI w)) (upd (dFill nw 0 348) 1 (-1)) kp) := hD
      have eq9 : wEq D (MC cI b (upd (upd g 0 0) 1 (nI w)) (upd (dFill nw 0 348) 1 (-1)) kp) (MC cI b (upd (upd g 0 0) 1 (nI w)) (upd (fun _ => 0) 1 (-1)) kp) := wEq.cons (fun _ h => h) (wEq.row (fun j hj => by simp only [upd, dFill]; split <;> simp [hj]) wEq.rf)
      have hP := eq9.P hP
      have hD := eq9.D hD
      refine lv_iload_n hx hb dX2_newDinner_60 rfl (lv_at hl 1 rfl) ?_
      exact wRi hQ hx hb hr hlocks hP hD hS dX2_newDinner_61 () (rfl) rfl
    | succ j ih28 =>
      intro i28 hi28 H locs ls hP hD hS hl
      refine lv_iload_n hx hb dX2_newDinner_28 rfl (lv_at hl 0 rfl) ?_
      refine lv_sipush (v := 348) hx hb dX2_newDinner_29 (by decide) ?_
      refine lv_icmp_ge (tgt := 48) hx hb dX2_newDinner_32 (by decide) (fun h9 => absurd h9 (nI_ge (b := 348) (by omega) (by omega))) (fun c_32 => ?_)
      have c_32n := mt (nI_leI (a := 348) (b := i28) (by omega) (by omega)).mpr c_32
      refine lv_aload_n hx hb dX2_newDinner_35 rfl (lv_at hl 2 rfl) ?_
      refine va_get (D := D) (ci := 2) (v := .ref (b 1)) (C := RX2) (T := TX2) (N := 7) hx hb hw2 (fun _ h => h) hown hK hP 0 rfl rfl 3 (by decide) k16 (fun _ h9 => h9) rfl dX2_newDinner_36 ?_
      refine lv_iload_n hx hb dX2_newDinner_39 rfl (lv_at hl 0 rfl) ?_
      refine lv_iconst (v := 0) hx hb dX2_newDinner_40 (by decide) ?_
      refine wIast hx hb hK hP hD hS 1 0 rfl rfl i28 rfl (by omega) (by decide) dX2_newDinner_41 (fun H locs hP hD hS => ?_)
      have hP : va_P D vwCl (MC cI b (upd g 0 0) (upd (dFill nw 0 i28) i28 0) kp) H := hP
      have hD : va_D A (MC cI b (upd g 0 0) (upd (dFill nw 0 i28) i28 0) kp) := hD
      refine lv_iinc (v := nI (i28 + 1)) (lv' := [(3, .int (nI (i28 + 1))), (2, .int (mRate (g 1) nw gg)), (0, .ref (b 0)), (1, .int (nI w))]) hx hb dX2_newDinner_42 hl (k := 0) rfl (nI_1 i28) (by decide) rfl (fun ls hl => ?_)
      refine lv_goto (tgt := 28) hx hb dX2_newDinner_45 (by decide) ?_
      have hP : va_P D vwCl (MC cI b (upd g 0 0) (dFill nw 0 (i28 + 1)) kp) H := by rw [← dFill_s]; exact hP
      have hD : va_D A (MC cI b (upd g 0 0) (dFill nw 0 (i28 + 1)) kp) := by rw [← dFill_s]; exact hD
      exact ih28 (i28 + 1) (by omega) _ _ _ hP hD hS (lv_sub hl [0, 1, 2, 3] rfl)
  have hP : va_P D vwCl (MC cI b (upd g 0 0) (dFill nw 0 0) kp) H := by rw [dFill_0]; exact hP
  have hD : va_D A (MC cI b (upd g 0 0) (dFill nw 0 0) kp) := by rw [dFill_0]; exact hD
  exact loop28 348 0 (by omega) _ _ _ hP hD hS (lv_sub hl [0, 1, 2, 3] rfl)
abbrev rmX2_newDinner1 : Room := { frames := 1, cells := 0, slots := 0, locals := 22 }
set_option maxRecDepth 100000 in
set_option maxHeartbeats 4000000 in
theorem mX2_newDinner1 (l : Launch) (D : va_G) (cI : ClassId) (b : Nat → Nat) (g nw kp : Nat → Int32) (x : Int32) (sz : Nat) (hbad : ¬ (2 ≤ x ∧ x ≤ 10)) : wCt l yX2_newDinner wsX2_newDinner rmX2_newDinner1 D [(cI, .int)] [.ref (b 0), .int x] (MC cI b g nw kp) sz 0 0 (wQi D (fun v (_ : Unit) => v = 0) (fun _ : Unit => MC cI b (upd g 0 1) nw kp)) := by
  refine wMet cX2_newDinner 4 (some .int) (by decide) rfl (Nat.le_of_ble_eq_true rfl) ?_
  intro p e s m args below meth c A Q ls hQ hx hb hr hml hown hlocks hin hts hN hP hK hD hA hS hl
  have hl : lv_has ls 4 [(0, .ref (b 0)), (1, .int x)] := hl
  have hown : s.vm.findClass RX2 = some m.cls := hown
  have hw2 : ∀ w ∈ wsX20, w.before args s = true := fun w h => hts w (List.mem_cons_of_mem _ (List.mem_append_right _ h))
  have k26 := hts (.fieldLink RX2 26 "PauseLedgerModel" "thrown" "I") (by decide +kernel)
  refine lv_aload_n hx hb dX2_newDinner_0 rfl (lv_at hl 0 rfl) ?_
  refine lv_iconst (v := 0) hx hb dX2_newDinner_1 (by decide) ?_
  refine va_put (D := D) (ci := 2) (v := .int 0) (ty := .int) (C := RX2) (T := TX2) (N := 7) hx hb hw2 (fun _ h => h) tyX2 tyX2_ok nmX2 hown hK hP hD hS 0 rfl rfl 0 (by decide) k26 (fun _ h9 => h9) rfl (by decide +kernel) rfl rfl (Nat.le_of_ble_eq_true rfl) dX2_newDinner_2 (fun H locs hP hD hS => ?_)
  have hP : va_P D vwCl (MC cI b (upd g 0 0) nw kp) H := hP
  have hD : va_D A (MC cI b (upd g 0 0) nw kp) := hD
  refine lv_iload_n hx hb dX2_newDinner_5 rfl (lv_at hl 1 rfl) ?_
  refine lv_iconst (v := 2) hx hb dX2_newDinner_6 (by decide) ?_
  refine lv_bipush (v := 10) hx hb dX2_newDinner_7 (by decide) ?_
  refine wCSi (pre := ([] : va_W)) (Wc := ([] : va_W)) (suf := MC cI b (upd g 0 0) nw kp) (As := [.int x, .int 2, .int 10]) (rest := []) ⟨hx, hb, hml, hown, hts⟩ (mX2_isIn l D cI x 2 10 _) hN hA hK hS hP hD rfl (va_cwS 3 hts gX2_newDinner_X2_isIn rfl rfl rfl (by decide +kernel) ⟨Nat.le_of_ble_eq_true rfl, Nat.le_of_ble_eq_true rfl⟩) rfl hl.1 rfl (Nat.le_of_ble_eq_true rfl) dX2_newDinner_9 ⟨Nat.zero_le _, Nat.zero_le _⟩ (fun r_9 u_9 H locs hw hP hD hS => ?_)
  have hw : r_9 = mIn x 2 10 := hw
  subst hw
  have hP : va_P D vwCl (MC cI b (upd g 0 0) nw kp) H := hP
  have hD : va_D A (MC cI b (upd g 0 0) nw kp) := hD
  refine lv_if_ne (tgt := 21) hx hb dX2_newDinner_12 (by decide) (fun h9 => absurd (mInF hbad) h9) (fun c_12 => ?_)
  refine lv_aload_n hx hb dX2_newDinner_15 rfl (lv_at hl 0 rfl) ?_
  refine lv_iconst (v := 1) hx hb dX2_newDinner_16 (by decide) ?_
  refine wCVi (pre := ([] : va_W)) (Wc := MC cI b (upd g 0 0) nw kp) (suf := ([] : va_W)) (As := [.int 1]) (rest := []) ⟨hx, hb, hml, hown, hts⟩ (mX2_fail l D cI b (upd g 0 0) nw kp 1 _) hN hA hK hS hP hD rfl 0 (r := (RX2, TX2, 7)) rfl rfl (cwV 1 hts gX2_newDinner_X2_fail rfl rfl rfl (by decide +kernel) ⟨Nat.le_of_ble_eq_true rfl, Nat.le_of_ble_eq_true rfl⟩) rfl hl.1 rfl (Nat.le_of_ble_eq_true rfl) dX2_newDinner_17 ⟨Nat.zero_le _, Nat.zero_le _⟩ (fun r_17 u_17 H locs hw hP hD hS => ?_)
  have hw : r_17 = 0 := hw
  subst hw
  have hP : va_P D vwCl (MC cI b (upd g 0 1) nw kp) H := hP
  have hD : va_D A (MC cI b (upd g 0 1) nw kp) := hD
  exact wRi hQ hx hb hr hlocks hP hD hS dX2_newDinner_20 () (rfl) rfl
abbrev rmX2_setLimit : Room := { frames := 1, cells := 0, slots := 0, locals := 22 }
set_option maxRecDepth 100000 in
set_option maxHeartbeats 4000000 in
theorem mX2_setLimit (l : Launch) (D : va_G) (cI : ClassId) (b : Nat → Nat) (g nw kp : Nat → Int32) (w : Nat) (sz : Nat) (w1 : 1 ≤ w) (w2 : w ≤ 30) : wCt l yX2_setLimit wsX2_setLimit rmX2_setLimit D [(cI, .int)] [.ref (b 0), .int (nI w)] (MC cI b g nw kp) sz 0 0 (wQi D (fun v (_ : Unit) => v = g 2) (fun _ : Unit => MC cI b (upd (upd g 0 0) 2 (nI w)) nw kp)) := by
  refine wMet cX2_setLimit 3 (some .int) (by decide) rfl (Nat.le_of_ble_eq_true rfl) ?_
  intro p e s m args below meth c A Q ls hQ hx hb hr hml hown hlocks hin hts hN hP hK hD hA hS hl
  have hl : lv_has ls 3 [(0, .ref (b 0)), (1, .int (nI w))] := hl
  have hown : s.vm.findClass RX2 = some m.cls := hown
  have hw2 : ∀ w ∈ wsX20, w.before args s = true := fun w h => hts w (List.mem_cons_of_mem _ (List.mem_append_right _ h))
  have k13 := hts (.fieldLink RX2 13 "PauseLedgerModel" "limit" "I") (by decide +kernel)
  have k26 := hts (.fieldLink RX2 26 "PauseLedgerModel" "thrown" "I") (by decide +kernel)
  refine lv_aload_n hx hb dX2_setLimit_0 rfl (lv_at hl 0 rfl) ?_
  refine lv_iconst (v := 0) hx hb dX2_setLimit_1 (by decide) ?_
  refine va_put (D := D) (ci := 2) (v := .int 0) (ty := .int) (C := RX2) (T := TX2) (N := 7) hx hb hw2 (fun _ h => h) tyX2 tyX2_ok nmX2 hown hK hP hD hS 0 rfl rfl 0 (by decide) k26 (fun _ h9 => h9) rfl (by decide +kernel) rfl rfl (Nat.le_of_ble_eq_true rfl) dX2_setLimit_2 (fun H locs hP hD hS => ?_)
  have hP : va_P D vwCl (MC cI b (upd g 0 0) nw kp) H := hP
  have hD : va_D A (MC cI b (upd g 0 0) nw kp) := hD
  refine lv_iload_n hx hb dX2_setLimit_5 rfl (lv_at hl 1 rfl) ?_
  refine lv_iconst (v := 1) hx hb dX2_setLimit_6 (by decide) ?_
  refine lv_bipush (v := 30) hx hb dX2_setLimit_7 (by decide) ?_
  refine wCSi (pre := ([] : va_W)) (Wc := ([] : va_W)) (suf := MC cI b (upd g 0 0) nw kp) (As := [.int (nI w), .int 1, .int 30]) (rest := []) ⟨hx, hb, hml, hown, hts⟩ (mX2_isIn l D cI (nI w) 1 30 _) hN hA hK hS hP hD rfl (va_cwS 3 hts gX2_setLimit_X2_isIn rfl rfl rfl (by decide +kernel) ⟨Nat.le_of_ble_eq_true rfl, Nat.le_of_ble_eq_true rfl⟩) rfl hl.1 rfl (Nat.le_of_ble_eq_true rfl) dX2_setLimit_9 ⟨Nat.zero_le _, Nat.zero_le _⟩ (fun r_9 u_9 H locs hw hP hD hS => ?_)
  have hw : r_9 = mIn (nI w) 1 30 := hw
  subst hw
  have hP : va_P D vwCl (MC cI b (upd g 0 0) nw kp) H := hP
  have hD : va_D A (MC cI b (upd g 0 0) nw kp) := hD
  refine lv_if_ne (tgt := 21) hx hb dX2_setLimit_12 (by decide) (fun c_12 => ?_) (fun h9 => absurd h9 (mInT (lo := 1) (hi := 30) w1 w2 (by decide)))
  refine lv_aload_n hx hb dX2_setLimit_21 rfl (lv_at hl 0 rfl) ?_
  refine va_get (D := D) (ci := 2) (v := .int (g 2)) (C := RX2) (T := TX2) (N := 7) hx hb hw2 (fun _ h => h) hown hK hP 0 rfl rfl 2 (by decide) k13 (fun _ h9 => h9) rfl dX2_setLimit_22 ?_
  refine lv_istore_n (lv' := [(2, .int (g 2)), (0, .ref (b 0)), (1, .int (nI w))]) hx hb dX2_setLimit_25 rfl hl (by decide) rfl (fun ls hl => ?_)
  refine lv_aload_n hx hb dX2_setLimit_26 rfl (lv_at hl 1 rfl) ?_
  refine lv_iload_n hx hb dX2_setLimit_27 rfl (lv_at hl 2 rfl) ?_
  refine va_put (D := D) (ci := 2) (v := .int (nI w)) (ty := .int) (C := RX2) (T := TX2) (N := 7) hx hb hw2 (fun _ h => h) tyX2 tyX2_ok nmX2 hown hK hP hD hS 0 rfl rfl 2 (by decide) k13 (fun _ h9 => h9) rfl (by decide +kernel) rfl rfl (Nat.le_of_ble_eq_true rfl) dX2_setLimit_28 (fun H locs hP hD hS => ?_)
  have hP : va_P D vwCl (MC cI b (upd (upd g 0 0) 2 (nI w)) nw kp) H := hP
  have hD : va_D A (MC cI b (upd (upd g 0 0) 2 (nI w)) nw kp) := hD
  refine lv_iload_n hx hb dX2_setLimit_31 rfl (lv_at hl 0 rfl) ?_
  exact wRi hQ hx hb hr hlocks hP hD hS dX2_setLimit_32 () (rfl) rfl
abbrev rmX2_setLimit1 : Room := { frames := 1, cells := 0, slots := 0, locals := 22 }
set_option maxRecDepth 100000 in
set_option maxHeartbeats 4000000 in
theorem mX2_setLimit1 (l : Launch) (D : va_G) (cI : ClassId) (b : Nat → Nat) (g nw kp : Nat → Int32) (x : Int32) (sz : Nat) (hbad : ¬ (1 ≤ x ∧ x ≤ 30)) : wCt l yX2_setLimit wsX2_setLimit rmX2_setLimit1 D [(cI, .int)] [.ref (b 0), .int x] (MC cI b g nw kp) sz 0 0 (wQi D (fun v (_ : Unit) => v = 0) (fun _ : Unit => MC cI b (upd g 0 1) nw kp)) := by
  refine wMet cX2_setLimit 3 (some .int) (by decide) rfl (Nat.le_of_ble_eq_true rfl) ?_
  intro p e s m args below meth c A Q ls hQ hx hb hr hml hown hlocks hin hts hN hP hK hD hA hS hl
  have hl : lv_has ls 3 [(0, .ref (b 0)), (1, .int x)] := hl
  have hown : s.vm.findClass RX2 = some m.cls := hown
  have hw2 : ∀ w ∈ wsX20, w.before args s = true := fun w h => hts w (List.mem_cons_of_mem _ (List.mem_append_right _ h))
  have k26 := hts (.fieldLink RX2 26 "PauseLedgerModel" "thrown" "I") (by decide +kernel)
  refine lv_aload_n hx hb dX2_setLimit_0 rfl (lv_at hl 0 rfl) ?_
  refine lv_iconst (v := 0) hx hb dX2_setLimit_1 (by decide) ?_
  refine va_put (D := D) (ci := 2) (v := .int 0) (ty := .int) (C := RX2) (T := TX2) (N := 7) hx hb hw2 (fun _ h => h) tyX2 tyX2_ok nmX2 hown hK hP hD hS 0 rfl rfl 0 (by decide) k26 (fun _ h9 => h9) rfl (by decide +kernel) rfl rfl (Nat.le_of_ble_eq_true rfl) dX2_setLimit_2 (fun H locs hP hD hS => ?_)
  have hP : va_P D vwCl (MC cI b (upd g 0 0) nw kp) H := hP
  have hD : va_D A (MC cI b (upd g 0 0) nw kp) := hD
  refine lv_iload_n hx hb dX2_setLimit_5 rfl (lv_at hl 1 rfl) ?_
  refine lv_iconst (v := 1) hx hb dX2_setLimit_6 (by decide) ?_
  refine lv_bipush (v := 30) hx hb dX2_setLimit_7 (by decide) ?_
  refine wCSi (pre := ([] : va_W)) (Wc := ([] : va_W)) (suf := MC cI b (upd g 0 0) nw kp) (As := [.int x, .int 1, .int 30]) (rest := []) ⟨hx, hb, hml, hown, hts⟩ (mX2_isIn l D cI x 1 30 _) hN hA hK hS hP hD rfl (va_cwS 3 hts gX2_setLimit_X2_isIn rfl rfl rfl (by decide +kernel) ⟨Nat.le_of_ble_eq_true rfl, Nat.le_of_ble_eq_true rfl⟩) rfl hl.1 rfl (Nat.le_of_ble_eq_true rfl) dX2_setLimit_9 ⟨Nat.zero_le _, Nat.zero_le _⟩ (fun r_9 u_9 H locs hw hP hD hS => ?_)
  have hw : r_9 = mIn x 1 30 := hw
  subst hw
  have hP : va_P D vwCl (MC cI b (upd g 0 0) nw kp) H := hP
  have hD : va_D A (MC cI b (upd g 0 0) nw kp) := hD
  refine lv_if_ne (tgt := 21) hx hb dX2_setLimit_12 (by decide) (fun h9 => absurd (mInF hbad) h9) (fun c_12 => ?_)
  refine lv_aload_n hx hb dX2_setLimit_15 rfl (lv_at hl 0 rfl) ?_
  refine lv_iconst (v := 1) hx hb dX2_setLimit_16 (by decide) ?_
  refine wCVi (pre := ([] : va_W)) (Wc := MC cI b (upd g 0 0) nw kp) (suf := ([] : va_W)) (As := [.int 1]) (rest := []) ⟨hx, hb, hml, hown, hts⟩ (mX2_fail l D cI b (upd g 0 0) nw kp 1 _) hN hA hK hS hP hD rfl 0 (r := (RX2, TX2, 7)) rfl rfl (cwV 1 hts gX2_setLimit_X2_fail rfl rfl rfl (by decide +kernel) ⟨Nat.le_of_ble_eq_true rfl, Nat.le_of_ble_eq_true rfl⟩) rfl hl.1 rfl (Nat.le_of_ble_eq_true rfl) dX2_setLimit_17 ⟨Nat.zero_le _, Nat.zero_le _⟩ (fun r_17 u_17 H locs hw hP hD hS => ?_)
  have hw : r_17 = 0 := hw
  subst hw
  have hP : va_P D vwCl (MC cI b (upd g 0 1) nw kp) H := hP
  have hD : va_D A (MC cI b (upd g 0 1) nw kp) := hD
  exact wRi hQ hx hb hr hlocks hP hD hS dX2_setLimit_20 () (rfl) rfl
abbrev rmX2_speak : Room := { frames := 2, cells := 0, slots := 0, locals := 43 }
set_option maxRecDepth 100000 in
set_option maxHeartbeats 4000000 in
theorem mX2_speak (l : Launch) (D : va_G) (cI : ClassId) (b : Nat → Nat) (g nw kp : Nat → Int32) (gg x w : Nat) (sz : Nat) (hg : g 1 = nI gg) (hg2 : gg ≤ 10) (hg0 : 0 < gg) (ux : x < gg) (w1 : 1 ≤ w) (w2 : w ≤ 60) : wCt l yX2_speak wsX2_speak rmX2_speak D [(cI, .int)] [.ref (b 0), .int (nI x), .int (nI w)] (MC cI b g nw kp) sz 0 0 (wQi D (fun v (_ : Unit) => v = mInt nw x) (fun _ : Unit => MC cI b (upd g 0 0) (mSpeak nw x (nI w)) kp)) := by
  refine wMet cX2_speak 4 (some .int) (by decide) rfl (Nat.le_of_ble_eq_true rfl) ?_
  intro p e s m args below meth c A Q ls hQ hx hb hr hml hown hlocks hin hts hN hP hK hD hA hS hl
  have hl : lv_has ls 4 [(0, .ref (b 0)), (1, .int (nI x)), (2, .int (nI w))] := hl
  have hown : s.vm.findClass RX2 = some m.cls := hown
  have hw2 : ∀ w ∈ wsX20, w.before args s = true := fun w h => hts w (List.mem_cons_of_mem _ (List.mem_append_right _ h))
  have k16 := hts (.fieldLink RX2 16 "PauseLedgerModel" "now" "[I") (by decide +kernel)
  have k26 := hts (.fieldLink RX2 26 "PauseLedgerModel" "thrown" "I") (by decide +kernel)
  refine lv_aload_n hx hb dX2_speak_0 rfl (lv_at hl 0 rfl) ?_
  refine lv_iconst (v := 0) hx hb dX2_speak_1 (by decide) ?_
  refine va_put (D := D) (ci := 2) (v := .int 0) (ty := .int) (C := RX2) (T := TX2) (N := 7) hx hb hw2 (fun _ h => h) tyX2 tyX2_ok nmX2 hown hK hP hD hS 0 rfl rfl 0 (by decide) k26 (fun _ h9 => h9) rfl (by decide +kernel) rfl rfl (Nat.le_of_ble_eq_true rfl) dX2_speak_2 (fun H locs hP hD hS => ?_)
  have hP : va_P D vwCl (MC cI b (upd g 0 0) nw kp) H := hP
  have hD : va_D A (MC cI b (upd g 0 0) nw kp) := hD
  refine lv_aload_n hx hb dX2_speak_5 rfl (lv_at hl 0 rfl) ?_
  refine lv_iload_n hx hb dX2_speak_6 rfl (lv_at hl 1 rfl) ?_
  refine wCVi (pre := ([] : va_W)) (Wc := MC cI b (upd g 0 0) nw kp) (suf := ([] : va_W)) (As := [.int (nI x)]) (rest := []) ⟨hx, hb, hml, hown, hts⟩ (mX2_isGuest l D cI b (upd g 0 0) nw kp (nI x) _) hN hA hK hS hP hD rfl 0 (r := (RX2, TX2, 7)) rfl rfl (cwV 1 hts gX2_speak_X2_isGuest rfl rfl rfl (by decide +kernel) ⟨Nat.le_of_ble_eq_true rfl, Nat.le_of_ble_eq_true rfl⟩) rfl hl.1 rfl (Nat.le_of_ble_eq_true rfl) dX2_speak_7 ⟨Nat.zero_le _, Nat.zero_le _⟩ (fun r_7 u_7 H locs hw hP hD hS => ?_)
  have hw : r_7 = mIn (nI x) 0 (g 1 - 1) := hw
  subst hw
  have hP : va_P D vwCl (MC cI b (upd g 0 0) nw kp) H := hP
  have hD : va_D A (MC cI b (upd g 0 0) nw kp) := hD
  refine lv_if_ne (tgt := 19) hx hb dX2_speak_10 (by decide) (fun c_10 => ?_) (fun h9 => absurd h9 (mGT hg ux hg2))
  refine lv_iload_n hx hb dX2_speak_19 rfl (lv_at hl 2 rfl) ?_
  refine lv_iconst (v := 1) hx hb dX2_speak_20 (by decide) ?_
  refine lv_bipush (v := 60) hx hb dX2_speak_21 (by decide) ?_
  refine wCSi (pre := ([] : va_W)) (Wc := ([] : va_W)) (suf := MC cI b (upd g 0 0) nw kp) (As := [.int (nI w), .int 1, .int 60]) (rest := []) ⟨hx, hb, hml, hown, hts⟩ (mX2_isIn l D cI (nI w) 1 60 _) hN hA hK hS hP hD rfl (va_cwS 3 hts gX2_speak_X2_isIn rfl rfl rfl (by decide +kernel) ⟨Nat.le_of_ble_eq_true rfl, Nat.le_of_ble_eq_true rfl⟩) rfl hl.1 rfl (Nat.le_of_ble_eq_true rfl) dX2_speak_23 ⟨Nat.zero_le _, Nat.zero_le _⟩ (fun r_23 u_23 H locs hw hP hD hS => ?_)
  have hw : r_23 = mIn (nI w) 1 60 := hw
  subst hw
  have hP : va_P D vwCl (MC cI b (upd g 0 0) nw kp) H := hP
  have hD : va_D A (MC cI b (upd g 0 0) nw kp) := hD
  refine lv_if_ne (tgt := 35) hx hb dX2_speak_26 (by decide) (fun c_26 => ?_) (fun h9 => absurd h9 (mInT (lo := 1) (hi := 60) w1 w2 (by decide)))
  refine lv_aload_n hx hb dX2_speak_35 rfl (lv_at hl 0 rfl) ?_
  refine va_get (D := D) (ci := 2) (v := .ref (b 1)) (C := RX2) (T := TX2) (N := 7) hx hb hw2 (fun _ h => h) hown hK hP 0 rfl rfl 3 (by decide) k16 (fun _ h9 => h9) rfl dX2_speak_36 ?_
  refine lv_iconst (v := 1) hx hb dX2_speak_39 (by decide) ?_
  refine wIald hx hb hK hP 1 0 rfl rfl 1 rfl (by decide) (by decide) dX2_speak_40 ?_
  refine lv_istore_n (lv' := [(3, .int (nw 1)), (0, .ref (b 0)), (1, .int (nI x)), (2, .int (nI w))]) hx hb dX2_speak_41 rfl hl (by decide) rfl (fun ls hl => ?_)
  refine lv_aload_n hx hb dX2_speak_42 rfl (lv_at hl 1 rfl) ?_
  refine va_get (D := D) (ci := 2) (v := .ref (b 1)) (C := RX2) (T := TX2) (N := 7) hx hb hw2 (fun _ h => h) hown hK hP 0 rfl rfl 3 (by decide) k16 (fun _ h9 => h9) rfl dX2_speak_43 ?_
  refine lv_iconst (v := 1) hx hb dX2_speak_46 (by decide) ?_
  refine lv_iload_n hx hb dX2_speak_47 rfl (lv_at hl 2 rfl) ?_
  refine wIast hx hb hK hP hD hS 1 0 rfl rfl 1 rfl (by decide) (by decide) dX2_speak_48 (fun H locs hP hD hS => ?_)
  have hP : va_P D vwCl (MC cI b (upd g 0 0) (upd nw 1 (nI x)) kp) H := hP
  have hD : va_D A (MC cI b (upd g 0 0) (upd nw 1 (nI x)) kp) := hD
  refine lv_aload_n hx hb dX2_speak_49 rfl (lv_at hl 1 rfl) ?_
  refine va_get (D := D) (ci := 2) (v := .ref (b 1)) (C := RX2) (T := TX2) (N := 7) hx hb hw2 (fun _ h => h) hown hK hP 0 rfl rfl 3 (by decide) k16 (fun _ h9 => h9) rfl dX2_speak_50 ?_
  refine lv_iconst (v := 2) hx hb dX2_speak_53 (by decide) ?_
  refine lv_iload_n hx hb dX2_speak_54 rfl (lv_at hl 3 rfl) ?_
  refine wIast hx hb hK hP hD hS 1 0 rfl rfl 2 rfl (by decide) (by decide) dX2_speak_55 (fun H locs hP hD hS => ?_)
  have hP : va_P D vwCl (MC cI b (upd g 0 0) (upd (upd nw 1 (nI x)) 2 (nI w)) kp) H := hP
  have hD : va_D A (MC cI b (upd g 0 0) (upd (upd nw 1 (nI x)) 2 (nI w)) kp) := hD
  refine lv_iload_n hx hb dX2_speak_56 rfl (lv_at hl 0 rfl) ?_
  refine lv_iconst (v := (-1)) hx hb dX2_speak_57 (by decide) ?_
  refine lv_icmp_eq (tgt := 66) hx hb dX2_speak_58 (by decide) (fun c_58 => ?_) (fun c_58 => ?_)
  · refine lv_iconst (v := (-1)) hx hb dX2_speak_66 (by decide) ?_
    have ew : (mSpeak nw x (nI w)) = upd (upd nw 1 (nI x)) 2 (nI w) := by simp only [mSpeak, if_neg c_10, if_neg c_26, if_pos c_58]
    have hP : va_P D vwCl (MC cI b (upd g 0 0) (mSpeak nw x (nI w)) kp) H := by rw [ew]; exact hP
    have hD : va_D A (MC cI b (upd g 0 0) (mSpeak nw x (nI w)) kp) := by rw [ew]; exact hD
    exact wRi hQ hx hb hr hlocks hP hD hS dX2_speak_67 () (by simp only [mInt, if_neg c_10, if_neg c_26, if_pos c_58]) rfl
  · refine lv_iload_n hx hb dX2_speak_61 rfl (lv_at hl 0 rfl) ?_
    refine lv_iload_n hx hb dX2_speak_62 rfl (lv_at hl 2 rfl) ?_
    refine lv_icmp_ne (tgt := 68) hx hb dX2_speak_63 (by decide) (fun c_63 => ?_) (fun c_63 => ?_)
    · refine lv_aload_n hx hb dX2_speak_68 rfl (lv_at hl 1 rfl) ?_
      refine va_get (D := D) (ci := 2) (v := .ref (b 1)) (C := RX2) (T := TX2) (N := 7) hx hb hw2 (fun _ h => h) hown hK hP 0 rfl rfl 3 (by decide) k16 (fun _ h9 => h9) rfl dX2_speak_69 ?_
      refine lv_bipush (v := 18) hx hb dX2_speak_72 (by decide) ?_
      refine lv_iload_n hx hb dX2_speak_74 rfl (lv_at hl 2 rfl) ?_
      refine lv_iadd hx hb dX2_speak_75 ?_
      refine wTop (z := nI (18 + x)) (nI_add 18 x) ?_
      refine lv_dup2_11 hx hb dX2_speak_76 rfl rfl ?_
      refine wIald hx hb hK hP 1 0 rfl rfl (18 + x) rfl (by omega) (by decide) dX2_speak_77 ?_
      refine lv_iconst (v := 1) hx hb dX2_speak_78 (by decide) ?_
      refine lv_iadd hx hb dX2_speak_79 ?_
      refine wIast hx hb hK hP hD hS 1 0 rfl rfl (18 + x) rfl (by omega) (by decide) dX2_speak_80 (fun H locs hP hD hS => ?_)
      have hP : va_P D vwCl (MC cI b (upd g 0 0) (mAdd (upd (upd nw 1 (nI x)) 2 (nI w)) (18 + x) 1) kp) H := hP
      have hD : va_D A (MC cI b (upd g 0 0) (mAdd (upd (upd nw 1 (nI x)) 2 (nI w)) (18 + x) 1) kp) := hD
      refine lv_iload_n hx hb dX2_speak_81 rfl (lv_at hl 0 rfl) ?_
      have ew : (mSpeak nw x (nI w)) = mAdd (upd (upd nw 1 (nI x)) 2 (nI w)) (18 + x) 1 := by simp only [mSpeak, if_neg c_10, if_neg c_26, if_neg c_58, if_neg c_63]
      have hP : va_P D vwCl (MC cI b (upd g 0 0) (mSpeak nw x (nI w)) kp) H := by rw [ew]; exact hP
      have hD : va_D A (MC cI b (upd g 0 0) (mSpeak nw x (nI w)) kp) := by rw [ew]; exact hD
      exact wRi hQ hx hb hr hlocks hP hD hS dX2_speak_82 () (by simp only [mInt, if_neg c_10, if_neg c_26, if_neg c_58, if_neg c_63]) rfl
    · refine lv_iconst (v := (-1)) hx hb dX2_speak_66 (by decide) ?_
      have ew : (mSpeak nw x (nI w)) = upd (upd nw 1 (nI x)) 2 (nI w) := by simp only [mSpeak, if_neg c_10, if_neg c_26, if_neg c_58, if_pos c_63]
      have hP : va_P D vwCl (MC cI b (upd g 0 0) (mSpeak nw x (nI w)) kp) H := by rw [ew]; exact hP
      have hD : va_D A (MC cI b (upd g 0 0) (mSpeak nw x (nI w)) kp) := by rw [ew]; exact hD
      exact wRi hQ hx hb hr hlocks hP hD hS dX2_speak_67 () (by simp only [mInt, if_neg c_10, if_neg c_26, if_neg c_58, if_pos c_63]) rfl
abbrev rmX2_speak1 : Room := { frames := 2, cells := 0, slots := 0, locals := 43 }
set_option maxRecDepth 100000 in
set_option maxHeartbeats 4000000 in
theorem mX2_speak1 (l : Launch) (D : va_G) (cI : ClassId) (b : Nat → Nat) (g nw kp : Nat → Int32) (gg : Nat) (x y : Int32) (sz : Nat) (hg : g 1 = nI gg) (hg2 : gg ≤ 10) (hg0 : 0 < gg) (hbad : ¬ (0 ≤ x ∧ x < nI gg)) : wCt l yX2_speak wsX2_speak rmX2_speak1 D [(cI, .int)] [.ref (b 0), .int x, .int y] (MC cI b g nw kp) sz 0 0 (wQi D (fun v (_ : Unit) => v = 0) (fun _ : Unit => MC cI b (upd g 0 1) nw kp)) := by
  refine wMet cX2_speak 4 (some .int) (by decide) rfl (Nat.le_of_ble_eq_true rfl) ?_
  intro p e s m args below meth c A Q ls hQ hx hb hr hml hown hlocks hin hts hN hP hK hD hA hS hl
  have hl : lv_has ls 4 [(0, .ref (b 0)), (1, .int x), (2, .int y)] := hl
  have hown : s.vm.findClass RX2 = some m.cls := hown
  have hw2 : ∀ w ∈ wsX20, w.before args s = true := fun w h => hts w (List.mem_cons_of_mem _ (List.mem_append_right _ h))
  have k26 := hts (.fieldLink RX2 26 "PauseLedgerModel" "thrown" "I") (by decide +kernel)
  refine lv_aload_n hx hb dX2_speak_0 rfl (lv_at hl 0 rfl) ?_
  refine lv_iconst (v := 0) hx hb dX2_speak_1 (by decide) ?_
  refine va_put (D := D) (ci := 2) (v := .int 0) (ty := .int) (C := RX2) (T := TX2) (N := 7) hx hb hw2 (fun _ h => h) tyX2 tyX2_ok nmX2 hown hK hP hD hS 0 rfl rfl 0 (by decide) k26 (fun _ h9 => h9) rfl (by decide +kernel) rfl rfl (Nat.le_of_ble_eq_true rfl) dX2_speak_2 (fun H locs hP hD hS => ?_)
  have hP : va_P D vwCl (MC cI b (upd g 0 0) nw kp) H := hP
  have hD : va_D A (MC cI b (upd g 0 0) nw kp) := hD
  refine lv_aload_n hx hb dX2_speak_5 rfl (lv_at hl 0 rfl) ?_
  refine lv_iload_n hx hb dX2_speak_6 rfl (lv_at hl 1 rfl) ?_
  refine wCVi (pre := ([] : va_W)) (Wc := MC cI b (upd g 0 0) nw kp) (suf := ([] : va_W)) (As := [.int x]) (rest := []) ⟨hx, hb, hml, hown, hts⟩ (mX2_isGuest l D cI b (upd g 0 0) nw kp x _) hN hA hK hS hP hD rfl 0 (r := (RX2, TX2, 7)) rfl rfl (cwV 1 hts gX2_speak_X2_isGuest rfl rfl rfl (by decide +kernel) ⟨Nat.le_of_ble_eq_true rfl, Nat.le_of_ble_eq_true rfl⟩) rfl hl.1 rfl (Nat.le_of_ble_eq_true rfl) dX2_speak_7 ⟨Nat.zero_le _, Nat.zero_le _⟩ (fun r_7 u_7 H locs hw hP hD hS => ?_)
  have hw : r_7 = mIn x 0 (g 1 - 1) := hw
  subst hw
  have hP : va_P D vwCl (MC cI b (upd g 0 0) nw kp) H := hP
  have hD : va_D A (MC cI b (upd g 0 0) nw kp) := hD
  refine lv_if_ne (tgt := 19) hx hb dX2_speak_10 (by decide) (fun h9 => absurd (mGF hg hg0 hg2 hbad) h9) (fun c_10 => ?_)
  refine lv_aload_n hx hb dX2_speak_13 rfl (lv_at hl 0 rfl) ?_
  refine lv_iconst (v := 1) hx hb dX2_speak_14 (by decide) ?_
  refine wCVi (pre := ([] : va_W)) (Wc := MC cI b (upd g 0 0) nw kp) (suf := ([] : va_W)) (As := [.int 1]) (rest := []) ⟨hx, hb, hml, hown, hts⟩ (mX2_fail l D cI b (upd g 0 0) nw kp 1 _) hN hA hK hS hP hD rfl 0 (r := (RX2, TX2, 7)) rfl rfl (cwV 1 hts gX2_speak_X2_fail rfl rfl rfl (by decide +kernel) ⟨Nat.le_of_ble_eq_true rfl, Nat.le_of_ble_eq_true rfl⟩) rfl hl.1 rfl (Nat.le_of_ble_eq_true rfl) dX2_speak_15 ⟨Nat.zero_le _, Nat.zero_le _⟩ (fun r_15 u_15 H locs hw hP hD hS => ?_)
  have hw : r_15 = 0 := hw
  subst hw
  have hP : va_P D vwCl (MC cI b (upd g 0 1) nw kp) H := hP
  have hD : va_D A (MC cI b (upd g 0 1) nw kp) := hD
  exact wRi hQ hx hb hr hlocks hP hD hS dX2_speak_18 () (rfl) rfl
abbrev rmX2_speak2 : Room := { frames := 2, cells := 0, slots := 0, locals := 43 }
set_option maxRecDepth 100000 in
set_option maxHeartbeats 4000000 in
theorem mX2_speak2 (l : Launch) (D : va_G) (cI : ClassId) (b : Nat → Nat) (g nw kp : Nat → Int32) (gg x : Nat) (y : Int32) (sz : Nat) (hg : g 1 = nI gg) (hg2 : gg ≤ 10) (hg0 : 0 < gg) (ux : x < gg) (hbad : ¬ (1 ≤ y ∧ y ≤ 60)) : wCt l yX2_speak wsX2_speak rmX2_speak2 D [(cI, .int)] [.ref (b 0), .int (nI x), .int y] (MC cI b g nw kp) sz 0 0 (wQi D (fun v (_ : Unit) => v = 0) (fun _ : Unit => MC cI b (upd g 0 2) nw kp)) := by
  refine wMet cX2_speak 4 (some .int) (by decide) rfl (Nat.le_of_ble_eq_true rfl) ?_
  intro p e s m args below meth c A Q ls hQ hx hb hr hml hown hlocks hin hts hN hP hK hD hA hS hl
  have hl : lv_has ls 4 [(0, .ref (b 0)), (1, .int (nI x)), (2, .int y)] := hl
  have hown : s.vm.findClass RX2 = some m.cls := hown
  have hw2 : ∀ w ∈ wsX20, w.before args s = true := fun w h => hts w (List.mem_cons_of_mem _ (List.mem_append_right _ h))
  have k26 := hts (.fieldLink RX2 26 "PauseLedgerModel" "thrown" "I") (by decide +kernel)
  refine lv_aload_n hx hb dX2_speak_0 rfl (lv_at hl 0 rfl) ?_
  refine lv_iconst (v := 0) hx hb dX2_speak_1 (by decide) ?_
  refine va_put (D := D) (ci := 2) (v := .int 0) (ty := .int) (C := RX2) (T := TX2) (N := 7) hx hb hw2 (fun _ h => h) tyX2 tyX2_ok nmX2 hown hK hP hD hS 0 rfl rfl 0 (by decide) k26 (fun _ h9 => h9) rfl (by decide +kernel) rfl rfl (Nat.le_of_ble_eq_true rfl) dX2_speak_2 (fun H locs hP hD hS => ?_)
  have hP : va_P D vwCl (MC cI b (upd g 0 0) nw kp) H := hP
  have hD : va_D A (MC cI b (upd g 0 0) nw kp) := hD
  refine lv_aload_n hx hb dX2_speak_5 rfl (lv_at hl 0 rfl) ?_
  refine lv_iload_n hx hb dX2_speak_6 rfl (lv_at hl 1 rfl) ?_
  refine wCVi (pre := ([] : va_W)) (Wc := MC cI b (upd g 0 0) nw kp) (suf := ([] : va_W)) (As := [.int (nI x)]) (rest := []) ⟨hx, hb, hml, hown, hts⟩ (mX2_isGuest l D cI b (upd g 0 0) nw kp (nI x) _) hN hA hK hS hP hD rfl 0 (r := (RX2, TX2, 7)) rfl rfl (cwV 1 hts gX2_speak_X2_isGuest rfl rfl rfl (by decide +kernel) ⟨Nat.le_of_ble_eq_true rfl, Nat.le_of_ble_eq_true rfl⟩) rfl hl.1 rfl (Nat.le_of_ble_eq_true rfl) dX2_speak_7 ⟨Nat.zero_le _, Nat.zero_le _⟩ (fun r_7 u_7 H locs hw hP hD hS => ?_)
  have hw : r_7 = mIn (nI x) 0 (g 1 - 1) := hw
  subst hw
  have hP : va_P D vwCl (MC cI b (upd g 0 0) nw kp) H := hP
  have hD : va_D A (MC cI b (upd g 0 0) nw kp) := hD
  refine lv_if_ne (tgt := 19) hx hb dX2_speak_10 (by decide) (fun c_10 => ?_) (fun h9 => absurd h9 (mGT hg ux hg2))
  refine lv_iload_n hx hb dX2_speak_19 rfl (lv_at hl 2 rfl) ?_
  refine lv_iconst (v := 1) hx hb dX2_speak_20 (by decide) ?_
  refine lv_bipush (v := 60) hx hb dX2_speak_21 (by decide) ?_
  refine wCSi (pre := ([] : va_W)) (Wc := ([] : va_W)) (suf := MC cI b (upd g 0 0) nw kp) (As := [.int y, .int 1, .int 60]) (rest := []) ⟨hx, hb, hml, hown, hts⟩ (mX2_isIn l D cI y 1 60 _) hN hA hK hS hP hD rfl (va_cwS 3 hts gX2_speak_X2_isIn rfl rfl rfl (by decide +kernel) ⟨Nat.le_of_ble_eq_true rfl, Nat.le_of_ble_eq_true rfl⟩) rfl hl.1 rfl (Nat.le_of_ble_eq_true rfl) dX2_speak_23 ⟨Nat.zero_le _, Nat.zero_le _⟩ (fun r_23 u_23 H locs hw hP hD hS => ?_)
  have hw : r_23 = mIn y 1 60 := hw
  subst hw
  have hP : va_P D vwCl (MC cI b (upd g 0 0) nw kp) H := hP
  have hD : va_D A (MC cI b (upd g 0 0) nw kp) := hD
  refine lv_if_ne (tgt := 35) hx hb dX2_speak_26 (by decide) (fun h9 => absurd (mInF hbad) h9) (fun c_26 => ?_)
  refine lv_aload_n hx hb dX2_speak_29 rfl (lv_at hl 0 rfl) ?_
  refine lv_iconst (v := 2) hx hb dX2_speak_30 (by decide) ?_
  refine wCVi (pre := ([] : va_W)) (Wc := MC cI b (upd g 0 0) nw kp) (suf := ([] : va_W)) (As := [.int 2]) (rest := []) ⟨hx, hb, hml, hown, hts⟩ (mX2_fail l D cI b (upd g 0 0) nw kp 2 _) hN hA hK hS hP hD rfl 0 (r := (RX2, TX2, 7)) rfl rfl (cwV 1 hts gX2_speak_X2_fail rfl rfl rfl (by decide +kernel) ⟨Nat.le_of_ble_eq_true rfl, Nat.le_of_ble_eq_true rfl⟩) rfl hl.1 rfl (Nat.le_of_ble_eq_true rfl) dX2_speak_31 ⟨Nat.zero_le _, Nat.zero_le _⟩ (fun r_31 u_31 H locs hw hP hD hS => ?_)
  have hw : r_31 = 0 := hw
  subst hw
  have hP : va_P D vwCl (MC cI b (upd g 0 2) nw kp) H := hP
  have hD : va_D A (MC cI b (upd g 0 2) nw kp) := hD
  exact wRi hQ hx hb hr hlocks hP hD hS dX2_speak_34 () (rfl) rfl
abbrev rmX2_cough : Room := { frames := 2, cells := 0, slots := 0, locals := 43 }
set_option maxRecDepth 100000 in
set_option maxHeartbeats 4000000 in
theorem mX2_cough (l : Launch) (D : va_G) (cI : ClassId) (b : Nat → Nat) (g nw kp : Nat → Int32) (gg x w : Nat) (sz : Nat) (hg : g 1 = nI gg) (hg2 : gg ≤ 10) (hg0 : 0 < gg) (ux : x < gg) (w1 : 1 ≤ w) (w2 : w ≤ 9) : wCt l yX2_cough wsX2_cough rmX2_cough D [(cI, .int)] [.ref (b 0), .int (nI x), .int (nI w)] (MC cI b g nw kp) sz 0 0 (wQi D (fun v (_ : Unit) => v = mCgh nw (nI x) (nI w)) (fun _ : Unit => MC cI b (upd g 0 0) (mCough nw x (nI w)) kp)) := by
  refine wMet cX2_cough 4 (some .int) (by decide) rfl (Nat.le_of_ble_eq_true rfl) ?_
  intro p e s m args below meth c A Q ls hQ hx hb hr hml hown hlocks hin hts hN hP hK hD hA hS hl
  have hl : lv_has ls 4 [(0, .ref (b 0)), (1, .int (nI x)), (2, .int (nI w))] := hl
  have hown : s.vm.findClass RX2 = some m.cls := hown
  have hw2 : ∀ w ∈ wsX20, w.before args s = true := fun w h => hts w (List.mem_cons_of_mem _ (List.mem_append_right _ h))
  have k16 := hts (.fieldLink RX2 16 "PauseLedgerModel" "now" "[I") (by decide +kernel)
  have k26 := hts (.fieldLink RX2 26 "PauseLedgerModel" "thrown" "I") (by decide +kernel)
  refine lv_aload_n hx hb dX2_cough_0 rfl (lv_at hl 0 rfl) ?_
  refine lv_iconst (v := 0) hx hb dX2_cough_1 (by decide) ?_
  refine va_put (D := D) (ci := 2) (v := .int 0) (ty := .int) (C := RX2) (T := TX2) (N := 7) hx hb hw2 (fun _ h => h) tyX2 tyX2_ok nmX2 hown hK hP hD hS 0 rfl rfl 0 (by decide) k26 (fun _ h9 => h9) rfl (by decide +kernel) rfl rfl (Nat.le_of_ble_eq_true rfl) dX2_cough_2 (fun H locs hP hD hS => ?_)
  have hP : va_P D vwCl (MC cI b (upd g 0 0) nw kp) H := hP
  have hD : va_D A (MC cI b (upd g 0 0) nw kp) := hD
  refine lv_aload_n hx hb dX2_cough_5 rfl (lv_at hl 0 rfl) ?_
  refine lv_iload_n hx hb dX2_cough_6 rfl (lv_at hl 1 rfl) ?_
  refine wCVi (pre := ([] : va_W)) (Wc := MC cI b (upd g 0 0) nw kp) (suf := ([] : va_W)) (As := [.int (nI x)]) (rest := []) ⟨hx, hb, hml, hown, hts⟩ (mX2_isGuest l D cI b (upd g 0 0) nw kp (nI x) _) hN hA hK hS hP hD rfl 0 (r := (RX2, TX2, 7)) rfl rfl (cwV 1 hts gX2_cough_X2_isGuest rfl rfl rfl (by decide +kernel) ⟨Nat.le_of_ble_eq_true rfl, Nat.le_of_ble_eq_true rfl⟩) rfl hl.1 rfl (Nat.le_of_ble_eq_true rfl) dX2_cough_7 ⟨Nat.zero_le _, Nat.zero_le _⟩ (fun r_7 u_7 H locs hw hP hD hS => ?_)
  have hw : r_7 = mIn (nI x) 0 (g 1 - 1) := hw
  subst hw
  have hP : va_P D vwCl (MC cI b (upd g 0 0) nw kp) H := hP
  have hD : va_D A (MC cI b (upd g 0 0) nw kp) := hD
  refine lv_if_ne (tgt := 19) hx hb dX2_cough_10 (by decide) (fun c_10 => ?_) (fun h9 => absurd h9 (mGT hg ux hg2))
  refine lv_iload_n hx hb dX2_cough_19 rfl (lv_at hl 2 rfl) ?_
  refine lv_iconst (v := 1) hx hb dX2_cough_20 (by decide) ?_
  refine lv_bipush (v := 9) hx hb dX2_cough_21 (by decide) ?_
  refine wCSi (pre := ([] : va_W)) (Wc := ([] : va_W)) (suf := MC cI b (upd g 0 0) nw kp) (As := [.int (nI w), .int 1, .int 9]) (rest := []) ⟨hx, hb, hml, hown, hts⟩ (mX2_isIn l D cI (nI w) 1 9 _) hN hA hK hS hP hD rfl (va_cwS 3 hts gX2_cough_X2_isIn rfl rfl rfl (by decide +kernel) ⟨Nat.le_of_ble_eq_true rfl, Nat.le_of_ble_eq_true rfl⟩) rfl hl.1 rfl (Nat.le_of_ble_eq_true rfl) dX2_cough_23 ⟨Nat.zero_le _, Nat.zero_le _⟩ (fun r_23 u_23 H locs hw hP hD hS => ?_)
  have hw : r_23 = mIn (nI w) 1 9 := hw
  subst hw
  have hP : va_P D vwCl (MC cI b (upd g 0 0) nw kp) H := hP
  have hD : va_D A (MC cI b (upd g 0 0) nw kp) := hD
  refine lv_if_ne (tgt := 35) hx hb dX2_cough_26 (by decide) (fun c_26 => ?_) (fun h9 => absurd h9 (mInT (lo := 1) (hi := 9) w1 w2 (by decide)))
  refine lv_aload_n hx hb dX2_cough_35 rfl (lv_at hl 0 rfl) ?_
  refine va_get (D := D) (ci := 2) (v := .ref (b 1)) (C := RX2) (T := TX2) (N := 7) hx hb hw2 (fun _ h => h) hown hK hP 0 rfl rfl 3 (by decide) k16 (fun _ h9 => h9) rfl dX2_cough_36 ?_
  refine lv_iconst (v := 1) hx hb dX2_cough_39 (by decide) ?_
  refine wIald hx hb hK hP 1 0 rfl rfl 1 rfl (by decide) (by decide) dX2_cough_40 ?_
  refine lv_iconst (v := (-1)) hx hb dX2_cough_41 (by decide) ?_
  refine lv_icmp_ne (tgt := 49) hx hb dX2_cough_42 (by decide) (fun c_42 => ?_) (fun c_42 => ?_)
  · refine lv_aload_n hx hb dX2_cough_49 rfl (lv_at hl 0 rfl) ?_
    refine va_get (D := D) (ci := 2) (v := .ref (b 1)) (C := RX2) (T := TX2) (N := 7) hx hb hw2 (fun _ h => h) hown hK hP 0 rfl rfl 3 (by decide) k16 (fun _ h9 => h9) rfl dX2_cough_50 ?_
    refine lv_iconst (v := 1) hx hb dX2_cough_53 (by decide) ?_
    refine wIald hx hb hK hP 1 0 rfl rfl 1 rfl (by decide) (by decide) dX2_cough_54 ?_
    refine lv_iload_n hx hb dX2_cough_55 rfl (lv_at hl 1 rfl) ?_
    refine lv_icmp_ne (tgt := 63) hx hb dX2_cough_56 (by decide) (fun c_56 => ?_) (fun c_56 => ?_)
    · refine lv_iload_n hx hb dX2_cough_63 rfl (lv_at hl 2 rfl) ?_
      refine lv_iconst (v := 2) hx hb dX2_cough_64 (by decide) ?_
      refine lv_idiv hx hb dX2_cough_65 (by decide) ?_
      refine lv_istore_n (lv' := [(3, .int ((nI w) / 2)), (0, .ref (b 0)), (1, .int (nI x)), (2, .int (nI w))]) hx hb dX2_cough_66 rfl hl (by decide) rfl (fun ls hl => ?_)
      refine lv_aload_n hx hb dX2_cough_67 rfl (lv_at hl 1 rfl) ?_
      refine va_get (D := D) (ci := 2) (v := .ref (b 1)) (C := RX2) (T := TX2) (N := 7) hx hb hw2 (fun _ h => h) hown hK hP 0 rfl rfl 3 (by decide) k16 (fun _ h9 => h9) rfl dX2_cough_68 ?_
      refine lv_bipush (v := 28) hx hb dX2_cough_71 (by decide) ?_
      refine lv_iload_n hx hb dX2_cough_73 rfl (lv_at hl 2 rfl) ?_
      refine lv_iadd hx hb dX2_cough_74 ?_
      refine wTop (z := nI (28 + x)) (nI_add 28 x) ?_
      refine lv_dup2_11 hx hb dX2_cough_75 rfl rfl ?_
      refine wIald hx hb hK hP 1 0 rfl rfl (28 + x) rfl (by omega) (by decide) dX2_cough_76 ?_
      refine lv_iconst (v := 1) hx hb dX2_cough_77 (by decide) ?_
      refine lv_iadd hx hb dX2_cough_78 ?_
      refine wIast hx hb hK hP hD hS 1 0 rfl rfl (28 + x) rfl (by omega) (by decide) dX2_cough_79 (fun H locs hP hD hS => ?_)
      have hP : va_P D vwCl (MC cI b (upd g 0 0) (mAdd nw (28 + x) 1) kp) H := hP
      have hD : va_D A (MC cI b (upd g 0 0) (mAdd nw (28 + x) 1) kp) := hD
      refine lv_aload_n hx hb dX2_cough_80 rfl (lv_at hl 1 rfl) ?_
      refine va_get (D := D) (ci := 2) (v := .ref (b 1)) (C := RX2) (T := TX2) (N := 7) hx hb hw2 (fun _ h => h) hown hK hP 0 rfl rfl 3 (by decide) k16 (fun _ h9 => h9) rfl dX2_cough_81 ?_
      refine lv_bipush (v := 38) hx hb dX2_cough_84 (by decide) ?_
      refine lv_iload_n hx hb dX2_cough_86 rfl (lv_at hl 2 rfl) ?_
      refine lv_iadd hx hb dX2_cough_87 ?_
      refine wTop (z := nI (38 + x)) (nI_add 38 x) ?_
      refine lv_dup2_11 hx hb dX2_cough_88 rfl rfl ?_
      refine wIald hx hb hK hP 1 0 rfl rfl (38 + x) rfl (by omega) (by decide) dX2_cough_89 ?_
      refine lv_iload_n hx hb dX2_cough_90 rfl (lv_at hl 0 rfl) ?_
      refine lv_iadd hx hb dX2_cough_91 ?_
      refine wIast hx hb hK hP hD hS 1 0 rfl rfl (38 + x) rfl (by omega) (by decide) dX2_cough_92 (fun H locs hP hD hS => ?_)
      have hP : va_P D vwCl (MC cI b (upd g 0 0) (mAdd (mAdd nw (28 + x) 1) (38 + x) ((nI w) / 2)) kp) H := hP
      have hD : va_D A (MC cI b (upd g 0 0) (mAdd (mAdd nw (28 + x) 1) (38 + x) ((nI w) / 2)) kp) := hD
      refine lv_iload_n hx hb dX2_cough_93 rfl (lv_at hl 0 rfl) ?_
      have ew : (mCough nw x (nI w)) = mAdd (mAdd nw (28 + x) 1) (38 + x) ((nI w) / 2) := by simp only [mCough, mCgh, if_neg c_10, if_neg c_26, if_neg c_42, if_neg c_56]
      have hP : va_P D vwCl (MC cI b (upd g 0 0) (mCough nw x (nI w)) kp) H := by rw [ew]; exact hP
      have hD : va_D A (MC cI b (upd g 0 0) (mCough nw x (nI w)) kp) := by rw [ew]; exact hD
      exact wRi hQ hx hb hr hlocks hP hD hS dX2_cough_94 () (by simp only [mCgh, if_neg c_10, if_neg c_26, if_neg c_42, if_neg c_56]) rfl
    · refine lv_iconst (v := 0) hx hb dX2_cough_59 (by decide) ?_
      refine lv_goto (tgt := 66) hx hb dX2_cough_60 (by decide) ?_
      refine lv_istore_n (lv' := [(3, .int 0), (0, .ref (b 0)), (1, .int (nI x)), (2, .int (nI w))]) hx hb dX2_cough_66 rfl hl (by decide) rfl (fun ls hl => ?_)
      refine lv_aload_n hx hb dX2_cough_67 rfl (lv_at hl 1 rfl) ?_
      refine va_get (D := D) (ci := 2) (v := .ref (b 1)) (C := RX2) (T := TX2) (N := 7) hx hb hw2 (fun _ h => h) hown hK hP 0 rfl rfl 3 (by decide) k16 (fun _ h9 => h9) rfl dX2_cough_68 ?_
      refine lv_bipush (v := 28) hx hb dX2_cough_71 (by decide) ?_
      refine lv_iload_n hx hb dX2_cough_73 rfl (lv_at hl 2 rfl) ?_
      refine lv_iadd hx hb dX2_cough_74 ?_
      refine wTop (z := nI (28 + x)) (nI_add 28 x) ?_
      refine lv_dup2_11 hx hb dX2_cough_75 rfl rfl ?_
      refine wIald hx hb hK hP 1 0 rfl rfl (28 + x) rfl (by omega) (by decide) dX2_cough_76 ?_
      refine lv_iconst (v := 1) hx hb dX2_cough_77 (by decide) ?_
      refine lv_iadd hx hb dX2_cough_78 ?_
      refine wIast hx hb hK hP hD hS 1 0 rfl rfl (28 + x) rfl (by omega) (by decide) dX2_cough_79 (fun H locs hP hD hS => ?_)
      have hP : va_P D vwCl (MC cI b (upd g 0 0) (mAdd nw (28 + x) 1) kp) H := hP
      have hD : va_D A (MC cI b (upd g 0 0) (mAdd nw (28 + x) 1) kp) := hD
      refine lv_aload_n hx hb dX2_cough_80 rfl (lv_at hl 1 rfl) ?_
      refine va_get (D := D) (ci := 2) (v := .ref (b 1)) (C := RX2) (T := TX2) (N := 7) hx hb hw2 (fun _ h => h) hown hK hP 0 rfl rfl 3 (by decide) k16 (fun _ h9 => h9) rfl dX2_cough_81 ?_
      refine lv_bipush (v := 38) hx hb dX2_cough_84 (by decide) ?_
      refine lv_iload_n hx hb dX2_cough_86 rfl (lv_at hl 2 rfl) ?_
      refine lv_iadd hx hb dX2_cough_87 ?_
      refine wTop (z := nI (38 + x)) (nI_add 38 x) ?_
      refine lv_dup2_11 hx hb dX2_cough_88 rfl rfl ?_
      refine wIald hx hb hK hP 1 0 rfl rfl (38 + x) rfl (by omega) (by decide) dX2_cough_89 ?_
      refine lv_iload_n hx hb dX2_cough_90 rfl (lv_at hl 0 rfl) ?_
      refine lv_iadd hx hb dX2_cough_91 ?_
      refine wIast hx hb hK hP hD hS 1 0 rfl rfl (38 + x) rfl (by omega) (by decide) dX2_cough_92 (fun H locs hP hD hS => ?_)
      have hP : va_P D vwCl (MC cI b (upd g 0 0) (mAdd (mAdd nw (28 + x) 1) (38 + x) 0) kp) H := hP
      have hD : va_D A (MC cI b (upd g 0 0) (mAdd (mAdd nw (28 + x) 1) (38 + x) 0) kp) := hD
      refine lv_iload_n hx hb dX2_cough_93 rfl (lv_at hl 0 rfl) ?_
      have ew : (mCough nw x (nI w)) = mAdd (mAdd nw (28 + x) 1) (38 + x) 0 := by simp only [mCough, mCgh, if_neg c_10, if_neg c_26, if_neg c_42, if_pos c_56]
      have hP : va_P D vwCl (MC cI b (upd g 0 0) (mCough nw x (nI w)) kp) H := by rw [ew]; exact hP
      have hD : va_D A (MC cI b (upd g 0 0) (mCough nw x (nI w)) kp) := by rw [ew]; exact hD
      exact wRi hQ hx hb hr hlocks hP hD hS dX2_cough_94 () (by simp only [mCgh, if_neg c_10, if_neg c_26, if_neg c_42, if_pos c_56]) rfl
  · refine lv_iload_n hx hb dX2_cough_45 rfl (lv_at hl 2 rfl) ?_
    refine lv_goto (tgt := 66) hx hb dX2_cough_46 (by decide) ?_
    refine lv_istore_n (lv' := [(3, .int (nI w)), (0, .ref (b 0)), (1, .int (nI x)), (2, .int (nI w))]) hx hb dX2_cough_66 rfl hl (by decide) rfl (fun ls hl => ?_)
    refine lv_aload_n hx hb dX2_cough_67 rfl (lv_at hl 1 rfl) ?_
    refine va_get (D := D) (ci := 2) (v := .ref (b 1)) (C := RX2) (T := TX2) (N := 7) hx hb hw2 (fun _ h => h) hown hK hP 0 rfl rfl 3 (by decide) k16 (fun _ h9 => h9) rfl dX2_cough_68 ?_
    refine lv_bipush (v := 28) hx hb dX2_cough_71 (by decide) ?_
    refine lv_iload_n hx hb dX2_cough_73 rfl (lv_at hl 2 rfl) ?_
    refine lv_iadd hx hb dX2_cough_74 ?_
    refine wTop (z := nI (28 + x)) (nI_add 28 x) ?_
    refine lv_dup2_11 hx hb dX2_cough_75 rfl rfl ?_
    refine wIald hx hb hK hP 1 0 rfl rfl (28 + x) rfl (by omega) (by decide) dX2_cough_76 ?_
    refine lv_iconst (v := 1) hx hb dX2_cough_77 (by decide) ?_
    refine lv_iadd hx hb dX2_cough_78 ?_
    refine wIast hx hb hK hP hD hS 1 0 rfl rfl (28 + x) rfl (by omega) (by decide) dX2_cough_79 (fun H locs hP hD hS => ?_)
    have hP : va_P D vwCl (MC cI b (upd g 0 0) (mAdd nw (28 + x) 1) kp) H := hP
    have hD : va_D A (MC cI b (upd g 0 0) (mAdd nw (28 + x) 1) kp) := hD
    refine lv_aload_n hx hb dX2_cough_80 rfl (lv_at hl 1 rfl) ?_
    refine va_get (D := D) (ci := 2) (v := .ref (b 1)) (C := RX2) (T := TX2) (N := 7) hx hb hw2 (fun _ h => h) hown hK hP 0 rfl rfl 3 (by decide) k16 (fun _ h9 => h9) rfl dX2_cough_81 ?_
    refine lv_bipush (v := 38) hx hb dX2_cough_84 (by decide) ?_
    refine lv_iload_n hx hb dX2_cough_86 rfl (lv_at hl 2 rfl) ?_
    refine lv_iadd hx hb dX2_cough_87 ?_
    refine wTop (z := nI (38 + x)) (nI_add 38 x) ?_
    refine lv_dup2_11 hx hb dX2_cough_88 rfl rfl ?_
    refine wIald hx hb hK hP 1 0 rfl rfl (38 + x) rfl (by omega) (by decide) dX2_cough_89 ?_
    refine lv_iload_n hx hb dX2_cough_90 rfl (lv_at hl 0 rfl) ?_
    refine lv_iadd hx hb dX2_cough_91 ?_
    refine wIast hx hb hK hP hD hS 1 0 rfl rfl (38 + x) rfl (by omega) (by decide) dX2_cough_92 (fun H locs hP hD hS => ?_)
    have hP : va_P D vwCl (MC cI b (upd g 0 0) (mAdd (mAdd nw (28 + x) 1) (38 + x) (nI w)) kp) H := hP
    have hD : va_D A (MC cI b (upd g 0 0) (mAdd (mAdd nw (28 + x) 1) (38 + x) (nI w)) kp) := hD
    refine lv_iload_n hx hb dX2_cough_93 rfl (lv_at hl 0 rfl) ?_
    have ew : (mCough nw x (nI w)) = mAdd (mAdd nw (28 + x) 1) (38 + x) (nI w) := by simp only [mCough, mCgh, if_neg c_10, if_neg c_26, if_pos c_42]
    have hP : va_P D vwCl (MC cI b (upd g 0 0) (mCough nw x (nI w)) kp) H := by rw [ew]; exact hP
    have hD : va_D A (MC cI b (upd g 0 0) (mCough nw x (nI w)) kp) := by rw [ew]; exact hD
    exact wRi hQ hx hb hr hlocks hP hD hS dX2_cough_94 () (by simp only [mCgh, if_neg c_10, if_neg c_26, if_pos c_42]) rfl
abbrev rmX2_cough1 : Room := { frames := 2, cells := 0, slots := 0, locals := 43 }
set_option maxRecDepth 100000 in
set_option maxHeartbeats 4000000 in
theorem mX2_cough1 (l : Launch) (D : va_G) (cI : ClassId) (b : Nat → Nat) (g nw kp : Nat → Int32) (gg : Nat) (x y : Int32) (sz : Nat) (hg : g 1 = nI gg) (hg2 : gg ≤ 10) (hg0 : 0 < gg) (hbad : ¬ (0 ≤ x ∧ x < nI gg)) : wCt l yX2_cough wsX2_cough rmX2_cough1 D [(cI, .int)] [.ref (b 0), .int x, .int y] (MC cI b g nw kp) sz 0 0 (wQi D (fun v (_ : Unit) => v = 0) (fun _ : Unit => MC cI b (upd g 0 1) nw kp)) := by
  refine wMet cX2_cough 4 (some .int) (by decide) rfl (Nat.le_of_ble_eq_true rfl) ?_
  intro p e s m args below meth c A Q ls hQ hx hb hr hml hown hlocks hin hts hN hP hK hD hA hS hl
  have hl : lv_has ls 4 [(0, .ref (b 0)), (1, .int x), (2, .int y)] := hl
  have hown : s.vm.findClass RX2 = some m.cls := hown
  have hw2 : ∀ w ∈ wsX20, w.before args s = true := fun w h => hts w (List.mem_cons_of_mem _ (List.mem_append_right _ h))
  have k26 := hts (.fieldLink RX2 26 "PauseLedgerModel" "thrown" "I") (by decide +kernel)
  refine lv_aload_n hx hb dX2_cough_0 rfl (lv_at hl 0 rfl) ?_
  refine lv_iconst (v := 0) hx hb dX2_cough_1 (by decide) ?_
  refine va_put (D := D) (ci := 2) (v := .int 0) (ty := .int) (C := RX2) (T := TX2) (N := 7) hx hb hw2 (fun _ h => h) tyX2 tyX2_ok nmX2 hown hK hP hD hS 0 rfl rfl 0 (by decide) k26 (fun _ h9 => h9) rfl (by decide +kernel) rfl rfl (Nat.le_of_ble_eq_true rfl) dX2_cough_2 (fun H locs hP hD hS => ?_)
  have hP : va_P D vwCl (MC cI b (upd g 0 0) nw kp) H := hP
  have hD : va_D A (MC cI b (upd g 0 0) nw kp) := hD
  refine lv_aload_n hx hb dX2_cough_5 rfl (lv_at hl 0 rfl) ?_
  refine lv_iload_n hx hb dX2_cough_6 rfl (lv_at hl 1 rfl) ?_
  refine wCVi (pre := ([] : va_W)) (Wc := MC cI b (upd g 0 0) nw kp) (suf := ([] : va_W)) (As := [.int x]) (rest := []) ⟨hx, hb, hml, hown, hts⟩ (mX2_isGuest l D cI b (upd g 0 0) nw kp x _) hN hA hK hS hP hD rfl 0 (r := (RX2, TX2, 7)) rfl rfl (cwV 1 hts gX2_cough_X2_isGuest rfl rfl rfl (by decide +kernel) ⟨Nat.le_of_ble_eq_true rfl, Nat.le_of_ble_eq_true rfl⟩) rfl hl.1 rfl (Nat.le_of_ble_eq_true rfl) dX2_cough_7 ⟨Nat.zero_le _, Nat.zero_le _⟩ (fun r_7 u_7 H locs hw hP hD hS => ?_)
  have hw : r_7 = mIn x 0 (g 1 - 1) := hw
  subst hw
  have hP : va_P D vwCl (MC cI b (upd g 0 0) nw kp) H := hP
  have hD : va_D A (MC cI b (upd g 0 0) nw kp) := hD
  refine lv_if_ne (tgt := 19) hx hb dX2_cough_10 (by decide) (fun h9 => absurd (mGF hg hg0 hg2 hbad) h9) (fun c_10 => ?_)
  refine lv_aload_n hx hb dX2_cough_13 rfl (lv_at hl 0 rfl) ?_
  refine lv_iconst (v := 1) hx hb dX2_cough_14 (by decide) ?_
  refine wCVi (pre := ([] : va_W)) (Wc := MC cI b (upd g 0 0) nw kp) (suf := ([] : va_W)) (As := [.int 1]) (rest := []) ⟨hx, hb, hml, hown, hts⟩ (mX2_fail l D cI b (upd g 0 0) nw kp 1 _) hN hA hK hS hP hD rfl 0 (r := (RX2, TX2, 7)) rfl rfl (cwV 1 hts gX2_cough_X2_fail rfl rfl rfl (by decide +kernel) ⟨Nat.le_of_ble_eq_true rfl, Nat.le_of_ble_eq_true rfl⟩) rfl hl.1 rfl (Nat.le_of_ble_eq_true rfl) dX2_cough_15 ⟨Nat.zero_le _, Nat.zero_le _⟩ (fun r_15 u_15 H locs hw hP hD hS => ?_)
  have hw : r_15 = 0 := hw
  subst hw
  have hP : va_P D vwCl (MC cI b (upd g 0 1) nw kp) H := hP
  have hD : va_D A (MC cI b (upd g 0 1) nw kp) := hD
  exact wRi hQ hx hb hr hlocks hP hD hS dX2_cough_18 () (rfl) rfl
abbrev rmX2_cough2 : Room := { frames := 2, cells := 0, slots := 0, locals := 43 }
set_option maxRecDepth 100000 in
set_option maxHeartbeats 4000000 in
theorem mX2_cough2 (l : Launch) (D : va_G) (cI : ClassId) (b : Nat → Nat) (g nw kp : Nat → Int32) (gg x : Nat) (y : Int32) (sz : Nat) (hg : g 1 = nI gg) (hg2 : gg ≤ 10) (hg0 : 0 < gg) (ux : x < gg) (hbad : ¬ (1 ≤ y ∧ y ≤ 9)) : wCt l yX2_cough wsX2_cough rmX2_cough2 D [(cI, .int)] [.ref (b 0), .int (nI x), .int y] (MC cI b g nw kp) sz 0 0 (wQi D (fun v (_ : Unit) => v = 0) (fun _ : Unit => MC cI b (upd g 0 2) nw kp)) := by
  refine wMet cX2_cough 4 (some .int) (by decide) rfl (Nat.le_of_ble_eq_true rfl) ?_
  intro p e s m args below meth c A Q ls hQ hx hb hr hml hown hlocks hin hts hN hP hK hD hA hS hl
  have hl : lv_has ls 4 [(0, .ref (b 0)), (1, .int (nI x)), (2, .int y)] := hl
  have hown : s.vm.findClass RX2 = some m.cls := hown
  have hw2 : ∀ w ∈ wsX20, w.before args s = true := fun w h => hts w (List.mem_cons_of_mem _ (List.mem_append_right _ h))
  have k26 := hts (.fieldLink RX2 26 "PauseLedgerModel" "thrown" "I") (by decide +kernel)
  refine lv_aload_n hx hb dX2_cough_0 rfl (lv_at hl 0 rfl) ?_
  refine lv_iconst (v := 0) hx hb dX2_cough_1 (by decide) ?_
  refine va_put (D := D) (ci := 2) (v := .int 0) (ty := .int) (C := RX2) (T := TX2) (N := 7) hx hb hw2 (fun _ h => h) tyX2 tyX2_ok nmX2 hown hK hP hD hS 0 rfl rfl 0 (by decide) k26 (fun _ h9 => h9) rfl (by decide +kernel) rfl rfl (Nat.le_of_ble_eq_true rfl) dX2_cough_2 (fun H locs hP hD hS => ?_)
  have hP : va_P D vwCl (MC cI b (upd g 0 0) nw kp) H := hP
  have hD : va_D A (MC cI b (upd g 0 0) nw kp) := hD
  refine lv_aload_n hx hb dX2_cough_5 rfl (lv_at hl 0 rfl) ?_
  refine lv_iload_n hx hb dX2_cough_6 rfl (lv_at hl 1 rfl) ?_
  refine wCVi (pre := ([] : va_W)) (Wc := MC cI b (upd g 0 0) nw kp) (suf := ([] : va_W)) (As := [.int (nI x)]) (rest := []) ⟨hx, hb, hml, hown, hts⟩ (mX2_isGuest l D cI b (upd g 0 0) nw kp (nI x) _) hN hA hK hS hP hD rfl 0 (r := (RX2, TX2, 7)) rfl rfl (cwV 1 hts gX2_cough_X2_isGuest rfl rfl rfl (by decide +kernel) ⟨Nat.le_of_ble_eq_true rfl, Nat.le_of_ble_eq_true rfl⟩) rfl hl.1 rfl (Nat.le_of_ble_eq_true rfl) dX2_cough_7 ⟨Nat.zero_le _, Nat.zero_le _⟩ (fun r_7 u_7 H locs hw hP hD hS => ?_)
  have hw : r_7 = mIn (nI x) 0 (g 1 - 1) := hw
  subst hw
  have hP : va_P D vwCl (MC cI b (upd g 0 0) nw kp) H := hP
  have hD : va_D A (MC cI b (upd g 0 0) nw kp) := hD
  refine lv_if_ne (tgt := 19) hx hb dX2_cough_10 (by decide) (fun c_10 => ?_) (fun h9 => absurd h9 (mGT hg ux hg2))
  refine lv_iload_n hx hb dX2_cough_19 rfl (lv_at hl 2 rfl) ?_
  refine lv_iconst (v := 1) hx hb dX2_cough_20 (by decide) ?_
  refine lv_bipush (v := 9) hx hb dX2_cough_21 (by decide) ?_
  refine wCSi (pre := ([] : va_W)) (Wc := ([] : va_W)) (suf := MC cI b (upd g 0 0) nw kp) (As := [.int y, .int 1, .int 9]) (rest := []) ⟨hx, hb, hml, hown, hts⟩ (mX2_isIn l D cI y 1 9 _) hN hA hK hS hP hD rfl (va_cwS 3 hts gX2_cough_X2_isIn rfl rfl rfl (by decide +kernel) ⟨Nat.le_of_ble_eq_true rfl, Nat.le_of_ble_eq_true rfl⟩) rfl hl.1 rfl (Nat.le_of_ble_eq_true rfl) dX2_cough_23 ⟨Nat.zero_le _, Nat.zero_le _⟩ (fun r_23 u_23 H locs hw hP hD hS => ?_)
  have hw : r_23 = mIn y 1 9 := hw
  subst hw
  have hP : va_P D vwCl (MC cI b (upd g 0 0) nw kp) H := hP
  have hD : va_D A (MC cI b (upd g 0 0) nw kp) := hD
  refine lv_if_ne (tgt := 35) hx hb dX2_cough_26 (by decide) (fun h9 => absurd (mInF hbad) h9) (fun c_26 => ?_)
  refine lv_aload_n hx hb dX2_cough_29 rfl (lv_at hl 0 rfl) ?_
  refine lv_iconst (v := 2) hx hb dX2_cough_30 (by decide) ?_
  refine wCVi (pre := ([] : va_W)) (Wc := MC cI b (upd g 0 0) nw kp) (suf := ([] : va_W)) (As := [.int 2]) (rest := []) ⟨hx, hb, hml, hown, hts⟩ (mX2_fail l D cI b (upd g 0 0) nw kp 2 _) hN hA hK hS hP hD rfl 0 (r := (RX2, TX2, 7)) rfl rfl (cwV 1 hts gX2_cough_X2_fail rfl rfl rfl (by decide +kernel) ⟨Nat.le_of_ble_eq_true rfl, Nat.le_of_ble_eq_true rfl⟩) rfl hl.1 rfl (Nat.le_of_ble_eq_true rfl) dX2_cough_31 ⟨Nat.zero_le _, Nat.zero_le _⟩ (fun r_31 u_31 H locs hw hP hD hS => ?_)
  have hw : r_31 = 0 := hw
  subst hw
  have hP : va_P D vwCl (MC cI b (upd g 0 2) nw kp) H := hP
  have hD : va_D A (MC cI b (upd g 0 2) nw kp) := hD
  exact wRi hQ hx hb hr hlocks hP hD hS dX2_cough_34 () (rfl) rfl
abbrev rmX2_canSend1 : Room := { frames := 2, cells := 0, slots := 0, locals := 43 }
set_option maxRecDepth 100000 in
set_option maxHeartbeats 4000000 in
theorem mX2_canSend1 (l : Launch) (D : va_G) (cI : ClassId) (b : Nat → Nat) (g nw kp : Nat → Int32) (gg : Nat) (x y : Int32) (sz : Nat) (hg : g 1 = nI gg) (hg2 : gg ≤ 10) (hg0 : 0 < gg) (hbad : ¬ (0 ≤ x ∧ x < nI gg) ∨ ¬ (0 ≤ y ∧ y < nI gg)) : wCt l yX2_canSend wsX2_canSend rmX2_canSend1 D [(cI, .int)] [.ref (b 0), .int x, .int y] (MC cI b g nw kp) sz 0 0 (wQi D (fun v (_ : Unit) => v = 0) (fun _ : Unit => MC cI b (upd g 0 1) nw kp)) := by
  refine wMet cX2_canSend 3 (some .boolean) (by decide) rfl (Nat.le_of_ble_eq_true rfl) ?_
  intro p e s m args below meth c A Q ls hQ hx hb hr hml hown hlocks hin hts hN hP hK hD hA hS hl
  have hl : lv_has ls 3 [(0, .ref (b 0)), (1, .int x), (2, .int y)] := hl
  have hown : s.vm.findClass RX2 = some m.cls := hown
  have hw2 : ∀ w ∈ wsX20, w.before args s = true := fun w h => hts w (List.mem_cons_of_mem _ (List.mem_append_right _ h))
  have k26 := hts (.fieldLink RX2 26 "PauseLedgerModel" "thrown" "I") (by decide +kernel)
  refine lv_aload_n hx hb dX2_canSend_0 rfl (lv_at hl 0 rfl) ?_
  refine lv_aload_n hx hb dX2_canSend_1 rfl (lv_at hl 0 rfl) ?_
  refine lv_iload_n hx hb dX2_canSend_2 rfl (lv_at hl 1 rfl) ?_
  refine wCVi (pre := ([] : va_W)) (Wc := MC cI b g nw kp) (suf := ([] : va_W)) (As := [.int x]) (rest := [.ref (b 0)]) ⟨hx, hb, hml, hown, hts⟩ (mX2_isGuest l D cI b g nw kp x _) hN hA hK hS hP hD rfl 0 (r := (RX2, TX2, 7)) rfl rfl (cwV 1 hts gX2_canSend_X2_isGuest rfl rfl rfl (by decide +kernel) ⟨Nat.le_of_ble_eq_true rfl, Nat.le_of_ble_eq_true rfl⟩) rfl hl.1 rfl (Nat.le_of_ble_eq_true rfl) dX2_canSend_3 ⟨Nat.zero_le _, Nat.zero_le _⟩ (fun r_3 u_3 H locs hw hP hD hS => ?_)
  have hw : r_3 = mIn x 0 (g 1 - 1) := hw
  subst hw
  have hP : va_P D vwCl (MC cI b g nw kp) H := hP
  have hD : va_D A (MC cI b g nw kp) := hD
  refine lv_if_eq (tgt := 17) hx hb dX2_canSend_6 (by decide) (fun c_6 => ?_) (fun c_6 => ?_)
  · refine lv_iconst (v := 1) hx hb dX2_canSend_17 (by decide) ?_
    refine lv_goto (tgt := 52) hx hb dX2_canSend_18 (by decide) ?_
    refine va_put (D := D) (ci := 2) (v := .int 1) (ty := .int) (C := RX2) (T := TX2) (N := 7) hx hb hw2 (fun _ h => h) tyX2 tyX2_ok nmX2 hown hK hP hD hS 0 rfl rfl 0 (by decide) k26 (fun _ h9 => h9) rfl (by decide +kernel) rfl rfl (Nat.le_of_ble_eq_true rfl) dX2_canSend_52 (fun H locs hP hD hS => ?_)
    have hP : va_P D vwCl (MC cI b (upd g 0 1) nw kp) H := hP
    have hD : va_D A (MC cI b (upd g 0 1) nw kp) := hD
    refine lv_aload_n hx hb dX2_canSend_55 rfl (lv_at hl 0 rfl) ?_
    refine va_get (D := D) (ci := 2) (v := .int 1) (C := RX2) (T := TX2) (N := 7) hx hb hw2 (fun _ h => h) hown hK hP 0 rfl rfl 0 (by decide) k26 (fun _ h9 => h9) rfl dX2_canSend_56 ?_
    refine lv_if_ne (tgt := 66) hx hb dX2_canSend_59 (by decide) (fun c_59 => ?_) (fun h9 => absurd h9 (by decide))
    refine lv_iconst (v := 0) hx hb dX2_canSend_66 (by decide) ?_
    exact wRz hQ hx hb hr hlocks hP hD hS dX2_canSend_67 (rfl) () (rfl) rfl
  · refine lv_aload_n hx hb dX2_canSend_9 rfl (lv_at hl 0 rfl) ?_
    refine lv_iload_n hx hb dX2_canSend_10 rfl (lv_at hl 2 rfl) ?_
    refine wCVi (pre := ([] : va_W)) (Wc := MC cI b g nw kp) (suf := ([] : va_W)) (As := [.int y]) (rest := [.ref (b 0)]) ⟨hx, hb, hml, hown, hts⟩ (mX2_isGuest l D cI b g nw kp y _) hN hA hK hS hP hD rfl 0 (r := (RX2, TX2, 7)) rfl rfl (cwV 1 hts gX2_canSend_X2_isGuest rfl rfl rfl (by decide +kernel) ⟨Nat.le_of_ble_eq_true rfl, Nat.le_of_ble_eq_true rfl⟩) rfl hl.1 rfl (Nat.le_of_ble_eq_true rfl) dX2_canSend_11 ⟨Nat.zero_le _, Nat.zero_le _⟩ (fun r_11 u_11 H locs hw hP hD hS => ?_)
    have hw : r_11 = mIn y 0 (g 1 - 1) := hw
    subst hw
    have hP : va_P D vwCl (MC cI b g nw kp) H := hP
    have hD : va_D A (MC cI b g nw kp) := hD
    refine lv_if_ne (tgt := 21) hx hb dX2_canSend_14 (by decide) (fun h9 => absurd (mGF hg hg0 hg2 (hbad.resolve_left (fun h => c_6 (mGF hg hg0 hg2 h)))) h9) (fun c_14 => ?_)
    refine lv_iconst (v := 1) hx hb dX2_canSend_17 (by decide) ?_
    refine lv_goto (tgt := 52) hx hb dX2_canSend_18 (by decide) ?_
    refine va_put (D := D) (ci := 2) (v := .int 1) (ty := .int) (C := RX2) (T := TX2) (N := 7) hx hb hw2 (fun _ h => h) tyX2 tyX2_ok nmX2 hown hK hP hD hS 0 rfl rfl 0 (by decide) k26 (fun _ h9 => h9) rfl (by decide +kernel) rfl rfl (Nat.le_of_ble_eq_true rfl) dX2_canSend_52 (fun H locs hP hD hS => ?_)
    have hP : va_P D vwCl (MC cI b (upd g 0 1) nw kp) H := hP
    have hD : va_D A (MC cI b (upd g 0 1) nw kp) := hD
    refine lv_aload_n hx hb dX2_canSend_55 rfl (lv_at hl 0 rfl) ?_
    refine va_get (D := D) (ci := 2) (v := .int 1) (C := RX2) (T := TX2) (N := 7) hx hb hw2 (fun _ h => h) hown hK hP 0 rfl rfl 0 (by decide) k26 (fun _ h9 => h9) rfl dX2_canSend_56 ?_
    refine lv_if_ne (tgt := 66) hx hb dX2_canSend_59 (by decide) (fun c_59 => ?_) (fun h9 => absurd h9 (by decide))
    refine lv_iconst (v := 0) hx hb dX2_canSend_66 (by decide) ?_
    exact wRz hQ hx hb hr hlocks hP hD hS dX2_canSend_67 (rfl) () (rfl) rfl
abbrev rmX2_canSend : Room := { frames := 2, cells := 0, slots := 0, locals := 43 }
set_option maxRecDepth 100000 in
set_option maxHeartbeats 4000000 in
theorem mX2_canSend (l : Launch) (D : va_G) (cI : ClassId) (b : Nat → Nat) (g nw kp : Nat → Int32) (gg x y : Nat) (sz : Nat) (hg : g 1 = nI gg) (hg2 : gg ≤ 10) (hg0 : 0 < gg) (ux : x < gg) (uy : y < gg) : wCt l yX2_canSend wsX2_canSend rmX2_canSend D [(cI, .int)] [.ref (b 0), .int (nI x), .int (nI y)] (MC cI b g nw kp) sz 0 0 (wQi D (fun v (_ : Unit) => v = if mCode nw x y = 0 then 1 else 0) (fun _ : Unit => MC cI b (upd g 0 (mCode nw x y)) nw kp)) := by
  refine wMet cX2_canSend 3 (some .boolean) (by decide) rfl (Nat.le_of_ble_eq_true rfl) ?_
  intro p e s m args below meth c A Q ls hQ hx hb hr hml hown hlocks hin hts hN hP hK hD hA hS hl
  have hl : lv_has ls 3 [(0, .ref (b 0)), (1, .int (nI x)), (2, .int (nI y))] := hl
  have hown : s.vm.findClass RX2 = some m.cls := hown
  have hw2 : ∀ w ∈ wsX20, w.before args s = true := fun w h => hts w (List.mem_cons_of_mem _ (List.mem_append_right _ h))
  have k16 := hts (.fieldLink RX2 16 "PauseLedgerModel" "now" "[I") (by decide +kernel)
  have k26 := hts (.fieldLink RX2 26 "PauseLedgerModel" "thrown" "I") (by decide +kernel)
  refine lv_aload_n hx hb dX2_canSend_0 rfl (lv_at hl 0 rfl) ?_
  refine lv_aload_n hx hb dX2_canSend_1 rfl (lv_at hl 0 rfl) ?_
  refine lv_iload_n hx hb dX2_canSend_2 rfl (lv_at hl 1 rfl) ?_
  refine wCVi (pre := ([] : va_W)) (Wc := MC cI b g nw kp) (suf := ([] : va_W)) (As := [.int (nI x)]) (rest := [.ref (b 0)]) ⟨hx, hb, hml, hown, hts⟩ (mX2_isGuest l D cI b g nw kp (nI x) _) hN hA hK hS hP hD rfl 0 (r := (RX2, TX2, 7)) rfl rfl (cwV 1 hts gX2_canSend_X2_isGuest rfl rfl rfl (by decide +kernel) ⟨Nat.le_of_ble_eq_true rfl, Nat.le_of_ble_eq_true rfl⟩) rfl hl.1 rfl (Nat.le_of_ble_eq_true rfl) dX2_canSend_3 ⟨Nat.zero_le _, Nat.zero_le _⟩ (fun r_3 u_3 H locs hw hP hD hS => ?_)
  have hw : r_3 = mIn (nI x) 0 (g 1 - 1) := hw
  subst hw
  have hP : va_P D vwCl (MC cI b g nw kp) H := hP
  have hD : va_D A (MC cI b g nw kp) := hD
  refine lv_if_eq (tgt := 17) hx hb dX2_canSend_6 (by decide) (fun h9 => absurd h9 (mGT hg ux hg2)) (fun c_6 => ?_)
  refine lv_aload_n hx hb dX2_canSend_9 rfl (lv_at hl 0 rfl) ?_
  refine lv_iload_n hx hb dX2_canSend_10 rfl (lv_at hl 2 rfl) ?_
  refine wCVi (pre := ([] : va_W)) (Wc := MC cI b g nw kp) (suf := ([] : va_W)) (As := [.int (nI y)]) (rest := [.ref (b 0)]) ⟨hx, hb, hml, hown, hts⟩ (mX2_isGuest l D cI b g nw kp (nI y) _) hN hA hK hS hP hD rfl 0 (r := (RX2, TX2, 7)) rfl rfl (cwV 1 hts gX2_canSend_X2_isGuest rfl rfl rfl (by decide +kernel) ⟨Nat.le_of_ble_eq_true rfl, Nat.le_of_ble_eq_true rfl⟩) rfl hl.1 rfl (Nat.le_of_ble_eq_true rfl) dX2_canSend_11 ⟨Nat.zero_le _, Nat.zero_le _⟩ (fun r_11 u_11 H locs hw hP hD hS => ?_)
  have hw : r_11 = mIn (nI y) 0 (g 1 - 1) := hw
  subst hw
  have hP : va_P D vwCl (MC cI b g nw kp) H := hP
  have hD : va_D A (MC cI b g nw kp) := hD
  refine lv_if_ne (tgt := 21) hx hb dX2_canSend_14 (by decide) (fun c_14 => ?_) (fun h9 => absurd h9 (mGT hg uy hg2))
  refine lv_iload_n hx hb dX2_canSend_21 rfl (lv_at hl 1 rfl) ?_
  refine lv_iload_n hx hb dX2_canSend_22 rfl (lv_at hl 2 rfl) ?_
  refine lv_icmp_ne (tgt := 30) hx hb dX2_canSend_23 (by decide) (fun c_23 => ?_) (fun c_23 => ?_)
  · have c_23n := mt (nI_eq (a := x) (b := y) (by omega) (by omega)).mpr c_23
    refine lv_aload_n hx hb dX2_canSend_30 rfl (lv_at hl 0 rfl) ?_
    refine va_get (D := D) (ci := 2) (v := .ref (b 1)) (C := RX2) (T := TX2) (N := 7) hx hb hw2 (fun _ h => h) hown hK hP 0 rfl rfl 3 (by decide) k16 (fun _ h9 => h9) rfl dX2_canSend_31 ?_
    refine lv_sipush (v := 148) hx hb dX2_canSend_34 (by decide) ?_
    refine lv_iload_n hx hb dX2_canSend_37 rfl (lv_at hl 1 rfl) ?_
    refine lv_iload_n hx hb dX2_canSend_38 rfl (lv_at hl 2 rfl) ?_
    refine wCSi (pre := ([] : va_W)) (Wc := ([] : va_W)) (suf := MC cI b g nw kp) (As := [.int (nI x), .int (nI y)]) (rest := [.int 148, .ref (b 1), .ref (b 0)]) ⟨hx, hb, hml, hown, hts⟩ (mX2_pair l D cI x y _) hN hA hK hS hP hD rfl (va_cwS 2 hts gX2_canSend_X2_pair rfl rfl rfl (by decide +kernel) ⟨Nat.le_of_ble_eq_true rfl, Nat.le_of_ble_eq_true rfl⟩) rfl hl.1 rfl (Nat.le_of_ble_eq_true rfl) dX2_canSend_39 ⟨Nat.zero_le _, Nat.zero_le _⟩ (fun r_39 u_39 H locs hw hP hD hS => ?_)
    have hw : r_39 = nI (10 * x + y) := hw
    subst hw
    have hP : va_P D vwCl (MC cI b g nw kp) H := hP
    have hD : va_D A (MC cI b g nw kp) := hD
    refine lv_iadd hx hb dX2_canSend_42 ?_
    refine wTop (z := nI (148 + (10 * x + y))) (nI_add 148 (10 * x + y)) ?_
    refine wIald hx hb hK hP 1 0 rfl rfl (148 + (10 * x + y)) rfl (by omega) (by decide) dX2_canSend_43 ?_
    refine lv_if_le (tgt := 51) hx hb dX2_canSend_44 (by decide) (fun c_44 => ?_) (fun c_44 => ?_)
    · refine lv_iconst (v := 0) hx hb dX2_canSend_51 (by decide) ?_
      have ew : mCode nw x y = 0 := by simp only [mCode, if_neg c_6, if_neg c_14, if_neg c_23, if_neg (Int32.not_lt.mpr c_44)]
      refine wTop (z := mCode nw x y) ew.symm ?_
      refine va_put (D := D) (ci := 2) (v := .int (mCode nw x y)) (ty := .int) (C := RX2) (T := TX2) (N := 7) hx hb hw2 (fun _ h => h) tyX2 tyX2_ok nmX2 hown hK hP hD hS 0 rfl rfl 0 (by decide) k26 (fun _ h9 => h9) rfl (by decide +kernel) rfl rfl (Nat.le_of_ble_eq_true rfl) dX2_canSend_52 (fun H locs hP hD hS => ?_)
      have hP : va_P D vwCl (MC cI b (upd g 0 (mCode nw x y)) nw kp) H := hP
      have hD : va_D A (MC cI b (upd g 0 (mCode nw x y)) nw kp) := hD
      refine lv_aload_n hx hb dX2_canSend_55 rfl (lv_at hl 0 rfl) ?_
      refine va_get (D := D) (ci := 2) (v := .int (mCode nw x y)) (C := RX2) (T := TX2) (N := 7) hx hb hw2 (fun _ h => h) hown hK hP 0 rfl rfl 0 (by decide) k26 (fun _ h9 => h9) rfl dX2_canSend_56 ?_
      refine lv_if_ne (tgt := 66) hx hb dX2_canSend_59 (by decide) (fun h9 => absurd (ew) h9) (fun c_59 => ?_)
      refine lv_iconst (v := 1) hx hb dX2_canSend_62 (by decide) ?_
      refine lv_goto (tgt := 67) hx hb dX2_canSend_63 (by decide) ?_
      exact wRz hQ hx hb hr hlocks hP hD hS dX2_canSend_67 (rfl) () (by rw [ew]; decide) rfl
    · refine lv_iconst (v := 3) hx hb dX2_canSend_47 (by decide) ?_
      refine lv_goto (tgt := 52) hx hb dX2_canSend_48 (by decide) ?_
      have ew : mCode nw x y = 3 := by simp only [mCode, if_neg c_6, if_neg c_14, if_neg c_23, if_pos (Int32.not_le.mp c_44)]
      refine wTop (z := mCode nw x y) ew.symm ?_
      refine va_put (D := D) (ci := 2) (v := .int (mCode nw x y)) (ty := .int) (C := RX2) (T := TX2) (N := 7) hx hb hw2 (fun _ h => h) tyX2 tyX2_ok nmX2 hown hK hP hD hS 0 rfl rfl 0 (by decide) k26 (fun _ h9 => h9) rfl (by decide +kernel) rfl rfl (Nat.le_of_ble_eq_true rfl) dX2_canSend_52 (fun H locs hP hD hS => ?_)
      have hP : va_P D vwCl (MC cI b (upd g 0 (mCode nw x y)) nw kp) H := hP
      have hD : va_D A (MC cI b (upd g 0 (mCode nw x y)) nw kp) := hD
      refine lv_aload_n hx hb dX2_canSend_55 rfl (lv_at hl 0 rfl) ?_
      refine va_get (D := D) (ci := 2) (v := .int (mCode nw x y)) (C := RX2) (T := TX2) (N := 7) hx hb hw2 (fun _ h => h) hown hK hP 0 rfl rfl 0 (by decide) k26 (fun _ h9 => h9) rfl dX2_canSend_56 ?_
      refine lv_if_ne (tgt := 66) hx hb dX2_canSend_59 (by decide) (fun c_59 => ?_) (fun h9 => absurd h9 (by rw [ew]; decide))
      refine lv_iconst (v := 0) hx hb dX2_canSend_66 (by decide) ?_
      exact wRz hQ hx hb hr hlocks hP hD hS dX2_canSend_67 (rfl) () (by rw [ew]; decide) rfl
  · have c_23n := (nI_eq (a := x) (b := y) (by omega) (by omega)).mp c_23
    refine lv_iconst (v := 2) hx hb dX2_canSend_26 (by decide) ?_
    refine lv_goto (tgt := 52) hx hb dX2_canSend_27 (by decide) ?_
    have ew : mCode nw x y = 2 := by simp only [mCode, if_neg c_6, if_neg c_14, if_pos c_23]
    refine wTop (z := mCode nw x y) ew.symm ?_
    refine va_put (D := D) (ci := 2) (v := .int (mCode nw x y)) (ty := .int) (C := RX2) (T := TX2) (N := 7) hx hb hw2 (fun _ h => h) tyX2 tyX2_ok nmX2 hown hK hP hD hS 0 rfl rfl 0 (by decide) k26 (fun _ h9 => h9) rfl (by decide +kernel) rfl rfl (Nat.le_of_ble_eq_true rfl) dX2_canSend_52 (fun H locs hP hD hS => ?_)
    have hP : va_P D vwCl (MC cI b (upd g 0 (mCode nw x y)) nw kp) H := hP
    have hD : va_D A (MC cI b (upd g 0 (mCode nw x y)) nw kp) := hD
    refine lv_aload_n hx hb dX2_canSend_55 rfl (lv_at hl 0 rfl) ?_
    refine va_get (D := D) (ci := 2) (v := .int (mCode nw x y)) (C := RX2) (T := TX2) (N := 7) hx hb hw2 (fun _ h => h) hown hK hP 0 rfl rfl 0 (by decide) k26 (fun _ h9 => h9) rfl dX2_canSend_56 ?_
    refine lv_if_ne (tgt := 66) hx hb dX2_canSend_59 (by decide) (fun c_59 => ?_) (fun h9 => absurd h9 (by rw [ew]; decide))
    refine lv_iconst (v := 0) hx hb dX2_canSend_66 (by decide) ?_
    exact wRz hQ hx hb hr hlocks hP hD hS dX2_canSend_67 (rfl) () (by rw [ew]; decide) rfl
abbrev rmX2_glance1 : Room := { frames := 3, cells := 0, slots := 0, locals := 65 }
set_option maxRecDepth 100000 in
set_option maxHeartbeats 4000000 in
theorem mX2_glance1 (l : Launch) (D : va_G) (cI : ClassId) (b : Nat → Nat) (g nw kp : Nat → Int32) (gg : Nat) (x y : Int32) (sz : Nat) (hg : g 1 = nI gg) (hg2 : gg ≤ 10) (hg0 : 0 < gg) (hbad : ¬ (0 ≤ x ∧ x < nI gg) ∨ ¬ (0 ≤ y ∧ y < nI gg)) : wCt l yX2_glance wsX2_glance rmX2_glance1 D [(cI, .int)] [.ref (b 0), .int x, .int y] (MC cI b g nw kp) sz 0 0 (wQi D (fun v (_ : Unit) => v = 0) (fun _ : Unit => MC cI b (upd g 0 1) nw kp)) := by
  refine wMet cX2_glance 3 (some .int) (by decide) rfl (Nat.le_of_ble_eq_true rfl) ?_
  intro p e s m args below meth c A Q ls hQ hx hb hr hml hown hlocks hin hts hN hP hK hD hA hS hl
  have hl : lv_has ls 3 [(0, .ref (b 0)), (1, .int x), (2, .int y)] := hl
  have hown : s.vm.findClass RX2 = some m.cls := hown
  refine lv_aload_n hx hb dX2_glance_0 rfl (lv_at hl 0 rfl) ?_
  refine lv_iload_n hx hb dX2_glance_1 rfl (lv_at hl 1 rfl) ?_
  refine lv_iload_n hx hb dX2_glance_2 rfl (lv_at hl 2 rfl) ?_
  refine wCVi (pre := ([] : va_W)) (Wc := MC cI b g nw kp) (suf := ([] : va_W)) (As := [.int x, .int y]) (rest := []) ⟨hx, hb, hml, hown, hts⟩ (mX2_canSend1 l D cI b g nw kp gg x y _ hg hg2 hg0 hbad) hN hA hK hS hP hD rfl 0 (r := (RX2, TX2, 7)) rfl rfl (cwV 2 hts gX2_glance_X2_canSend rfl rfl rfl (by decide +kernel) ⟨Nat.le_of_ble_eq_true rfl, Nat.le_of_ble_eq_true rfl⟩) rfl hl.1 rfl (Nat.le_of_ble_eq_true rfl) dX2_glance_3 ⟨Nat.zero_le _, Nat.zero_le _⟩ (fun r_3 u_3 H locs hw hP hD hS => ?_)
  have hw : r_3 = 0 := hw
  subst hw
  have hP : va_P D vwCl (MC cI b (upd g 0 1) nw kp) H := hP
  have hD : va_D A (MC cI b (upd g 0 1) nw kp) := hD
  refine lv_if_eq (tgt := 18) hx hb dX2_glance_6 (by decide) (fun c_6 => ?_) (fun h9 => absurd (rfl) h9)
  refine lv_iconst (v := 0) hx hb dX2_glance_18 (by decide) ?_
  exact wRi hQ hx hb hr hlocks hP hD hS dX2_glance_19 () (rfl) rfl
abbrev rmX2_glance2 : Room := { frames := 3, cells := 0, slots := 0, locals := 65 }
set_option maxRecDepth 100000 in
set_option maxHeartbeats 4000000 in
theorem mX2_glance2 (l : Launch) (D : va_G) (cI : ClassId) (b : Nat → Nat) (g nw kp : Nat → Int32) (gg x y : Nat) (sz : Nat) (hg : g 1 = nI gg) (hg2 : gg ≤ 10) (hg0 : 0 < gg) (ux : x < gg) (uy : y < gg) (hcode : ¬ mCode nw x y = 0) : wCt l yX2_glance wsX2_glance rmX2_glance2 D [(cI, .int)] [.ref (b 0), .int (nI x), .int (nI y)] (MC cI b g nw kp) sz 0 0 (wQi D (fun v (_ : Unit) => v = 0) (fun _ : Unit => MC cI b (upd g 0 (mCode nw x y)) nw kp)) := by
  refine wMet cX2_glance 3 (some .int) (by decide) rfl (Nat.le_of_ble_eq_true rfl) ?_
  intro p e s m args below meth c A Q ls hQ hx hb hr hml hown hlocks hin hts hN hP hK hD hA hS hl
  have hl : lv_has ls 3 [(0, .ref (b 0)), (1, .int (nI x)), (2, .int (nI y))] := hl
  have hown : s.vm.findClass RX2 = some m.cls := hown
  refine lv_aload_n hx hb dX2_glance_0 rfl (lv_at hl 0 rfl) ?_
  refine lv_iload_n hx hb dX2_glance_1 rfl (lv_at hl 1 rfl) ?_
  refine lv_iload_n hx hb dX2_glance_2 rfl (lv_at hl 2 rfl) ?_
  refine wCVi (pre := ([] : va_W)) (Wc := MC cI b g nw kp) (suf := ([] : va_W)) (As := [.int (nI x), .int (nI y)]) (rest := []) ⟨hx, hb, hml, hown, hts⟩ (mX2_canSend l D cI b g nw kp gg x y _ hg hg2 hg0 ux uy) hN hA hK hS hP hD rfl 0 (r := (RX2, TX2, 7)) rfl rfl (cwV 2 hts gX2_glance_X2_canSend rfl rfl rfl (by decide +kernel) ⟨Nat.le_of_ble_eq_true rfl, Nat.le_of_ble_eq_true rfl⟩) rfl hl.1 rfl (Nat.le_of_ble_eq_true rfl) dX2_glance_3 ⟨Nat.zero_le _, Nat.zero_le _⟩ (fun r_3 u_3 H locs hw hP hD hS => ?_)
  have hw : r_3 = if mCode nw x y = 0 then 1 else 0 := hw
  subst hw
  have hP : va_P D vwCl (MC cI b (upd g 0 (mCode nw x y)) nw kp) H := hP
  have hD : va_D A (MC cI b (upd g 0 (mCode nw x y)) nw kp) := hD
  refine lv_if_eq (tgt := 18) hx hb dX2_glance_6 (by decide) (fun c_6 => ?_) (fun h9 => absurd (if_neg hcode) h9)
  refine lv_iconst (v := 0) hx hb dX2_glance_18 (by decide) ?_
  exact wRi hQ hx hb hr hlocks hP hD hS dX2_glance_19 () (rfl) rfl
abbrev rmX2_glance : Room := { frames := 3, cells := 0, slots := 0, locals := 66 }
set_option maxRecDepth 100000 in
set_option maxHeartbeats 4000000 in
theorem mX2_glance (l : Launch) (D : va_G) (cI : ClassId) (b : Nat → Nat) (g nw kp : Nat → Int32) (gg x y : Nat) (sz : Nat) (hg : g 1 = nI gg) (hg2 : gg ≤ 10) (hg0 : 0 < gg) (ux : x < gg) (uy : y < gg) (hcode : mCode nw x y = 0) : wCt l yX2_glance wsX2_glance rmX2_glance D [(cI, .int)] [.ref (b 0), .int (nI x), .int (nI y)] (MC cI b g nw kp) sz 0 0 (wQi D (fun v (_ : Unit) => v = mSend (g 1) nw x y (48 + (10 * x + y))) (fun _ : Unit => MC cI b (upd g 0 (mCode nw x y)) (mSend (g 1) nw x y) kp)) := by
  refine wMet cX2_glance 3 (some .int) (by decide) rfl (Nat.le_of_ble_eq_true rfl) ?_
  intro p e s m args below meth c A Q ls hQ hx hb hr hml hown hlocks hin hts hN hP hK hD hA hS hl
  have hl : lv_has ls 3 [(0, .ref (b 0)), (1, .int (nI x)), (2, .int (nI y))] := hl
  have hown : s.vm.findClass RX2 = some m.cls := hown
  refine lv_aload_n hx hb dX2_glance_0 rfl (lv_at hl 0 rfl) ?_
  refine lv_iload_n hx hb dX2_glance_1 rfl (lv_at hl 1 rfl) ?_
  refine lv_iload_n hx hb dX2_glance_2 rfl (lv_at hl 2 rfl) ?_
  refine wCVi (pre := ([] : va_W)) (Wc := MC cI b g nw kp) (suf := ([] : va_W)) (As := [.int (nI x), .int (nI y)]) (rest := []) ⟨hx, hb, hml, hown, hts⟩ (mX2_canSend l D cI b g nw kp gg x y _ hg hg2 hg0 ux uy) hN hA hK hS hP hD rfl 0 (r := (RX2, TX2, 7)) rfl rfl (cwV 2 hts gX2_glance_X2_canSend rfl rfl rfl (by decide +kernel) ⟨Nat.le_of_ble_eq_true rfl, Nat.le_of_ble_eq_true rfl⟩) rfl hl.1 rfl (Nat.le_of_ble_eq_true rfl) dX2_glance_3 ⟨Nat.zero_le _, Nat.zero_le _⟩ (fun r_3 u_3 H locs hw hP hD hS => ?_)
  have hw : r_3 = if mCode nw x y = 0 then 1 else 0 := hw
  subst hw
  have hP : va_P D vwCl (MC cI b (upd g 0 (mCode nw x y)) nw kp) H := hP
  have hD : va_D A (MC cI b (upd g 0 (mCode nw x y)) nw kp) := hD
  refine lv_if_eq (tgt := 18) hx hb dX2_glance_6 (by decide) (fun h9 => absurd h9 (by rw [if_pos hcode]; decide)) (fun c_6 => ?_)
  refine lv_aload_n hx hb dX2_glance_9 rfl (lv_at hl 0 rfl) ?_
  refine lv_iload_n hx hb dX2_glance_10 rfl (lv_at hl 1 rfl) ?_
  refine lv_iload_n hx hb dX2_glance_11 rfl (lv_at hl 2 rfl) ?_
  refine wCVi (pre := ([] : va_W)) (Wc := MC cI b (upd g 0 (mCode nw x y)) nw kp) (suf := ([] : va_W)) (As := [.int (nI x), .int (nI y)]) (rest := []) ⟨hx, hb, hml, hown, hts⟩ (mX2_send l D cI b (upd g 0 (mCode nw x y)) nw kp x y _ (by omega) (by omega)) hN hA hK hS hP hD rfl 0 (r := (RX2, TX2, 7)) rfl rfl (cwV 2 hts gX2_glance_X2_send rfl rfl rfl (by decide +kernel) ⟨Nat.le_of_ble_eq_true rfl, Nat.le_of_ble_eq_true rfl⟩) rfl hl.1 rfl (Nat.le_of_ble_eq_true rfl) dX2_glance_12 ⟨Nat.zero_le _, Nat.zero_le _⟩ (fun r_12 u_12 H locs hw hP hD hS => ?_)
  obtain ⟨hw, rfl⟩ := hw
  have hw : r_12 = mSend (g 1) nw x y (48 + (10 * x + y)) := hw
  subst hw
  have hP : va_P D vwCl (MC cI b (upd g 0 (mCode nw x y)) (mSend (g 1) nw x y) kp) H := hP
  have hD : va_D A (MC cI b (upd g 0 (mCode nw x y)) (mSend (g 1) nw x y) kp) := hD
  refine lv_goto (tgt := 19) hx hb dX2_glance_15 (by decide) ?_
  exact wRi hQ hx hb hr hlocks hP hD hS dX2_glance_19 () (rfl) rfl
abbrev rmX2_pass : Room := { frames := 5, cells := 0, slots := 0, locals := 109 }
set_option maxRecDepth 100000 in
set_option maxHeartbeats 4000000 in
theorem mX2_pass (l : Launch) (D : va_G) (cI : ClassId) (b : Nat → Nat) (g nw kp : Nat → Int32) (gg li n : Nat) (sz : Nat) (hg : g 1 = nI gg) (hg2 : gg ≤ 10) (hg0 : 0 < gg) (hl0 : g 2 = nI li) (hl1 : 0 < li) (hl2 : li ≤ 30) (n1 : 1 ≤ n) (n2 : n ≤ 120) (hs : ∀ i, i < n → mOk (mSecs (g 5) (g 2) (nw, g 6) i).1) : wCt l yX2_pass wsX2_pass rmX2_pass D [(cI, .int)] [.ref (b 0), .int (nI n)] (MC cI b g nw kp) sz 0 0 (wQi D (fun v (_ : Int32) => v = mSum (mSecs (g 5) (g 2) (nw, g 6) n).1 gg - mSum nw gg) (fun u : Int32 => MC cI b (upd (upd g 0 0) 6 u) (mSecs (g 5) (g 2) (nw, g 6) n).1 kp)) := by
  refine wMet cX2_pass 3 (some .int) (by decide) rfl (Nat.le_of_ble_eq_true rfl) ?_
  intro p e s m args below meth c A Q ls hQ hx hb hr hml hown hlocks hin hts hN hP hK hD hA hS hl
  have hl : lv_has ls 3 [(0, .ref (b 0)), (1, .int (nI n))] := hl
  have hown : s.vm.findClass RX2 = some m.cls := hown
  have hw2 : ∀ w ∈ wsX20, w.before args s = true := fun w h => hts w (List.mem_cons_of_mem _ (List.mem_append_right _ h))
  have k26 := hts (.fieldLink RX2 26 "PauseLedgerModel" "thrown" "I") (by decide +kernel)
  refine lv_aload_n hx hb dX2_pass_0 rfl (lv_at hl 0 rfl) ?_
  refine lv_iconst (v := 0) hx hb dX2_pass_1 (by decide) ?_
  refine va_put (D := D) (ci := 2) (v := .int 0) (ty := .int) (C := RX2) (T := TX2) (N := 7) hx hb hw2 (fun _ h => h) tyX2 tyX2_ok nmX2 hown hK hP hD hS 0 rfl rfl 0 (by decide) k26 (fun _ h9 => h9) rfl (by decide +kernel) rfl rfl (Nat.le_of_ble_eq_true rfl) dX2_pass_2 (fun H locs hP hD hS => ?_)
  have hP : va_P D vwCl (MC cI b (upd g 0 0) nw kp) H := hP
  have hD : va_D A (MC cI b (upd g 0 0) nw kp) := hD
  refine lv_iload_n hx hb dX2_pass_5 rfl (lv_at hl 1 rfl) ?_
  refine lv_iconst (v := 1) hx hb dX2_pass_6 (by decide) ?_
  refine lv_bipush (v := 120) hx hb dX2_pass_7 (by decide) ?_
  refine wCSi (pre := ([] : va_W)) (Wc := ([] : va_W)) (suf := MC cI b (upd g 0 0) nw kp) (As := [.int (nI n), .int 1, .int 120]) (rest := []) ⟨hx, hb, hml, hown, hts⟩ (mX2_isIn l D cI (nI n) 1 120 _) hN hA hK hS hP hD rfl (va_cwS 3 hts gX2_pass_X2_isIn rfl rfl rfl (by decide +kernel) ⟨Nat.le_of_ble_eq_true rfl, Nat.le_of_ble_eq_true rfl⟩) rfl hl.1 rfl (Nat.le_of_ble_eq_true rfl) dX2_pass_9 ⟨Nat.zero_le _, Nat.zero_le _⟩ (fun r_9 u_9 H locs hw hP hD hS => ?_)
  have hw : r_9 = mIn (nI n) 1 120 := hw
  subst hw
  have hP : va_P D vwCl (MC cI b (upd g 0 0) nw kp) H := hP
  have hD : va_D A (MC cI b (upd g 0 0) nw kp) := hD
  refine lv_if_ne (tgt := 21) hx hb dX2_pass_12 (by decide) (fun c_12 => ?_) (fun h9 => absurd h9 (mInT (lo := 1) (hi := 120) n1 n2 (by decide)))
  refine lv_aload_n hx hb dX2_pass_21 rfl (lv_at hl 0 rfl) ?_
  refine wCVi (pre := ([] : va_W)) (Wc := MC cI b (upd g 0 0) nw kp) (suf := ([] : va_W)) (As := []) (rest := []) ⟨hx, hb, hml, hown, hts⟩ (mX2_unsaid l D cI b (upd g 0 0) nw kp gg _ hg hg2) hN hA hK hS hP hD rfl 0 (r := (RX2, TX2, 7)) rfl rfl (cwV 0 hts gX2_pass_X2_unsaid rfl rfl rfl (by decide +kernel) ⟨Nat.le_of_ble_eq_true rfl, Nat.le_of_ble_eq_true rfl⟩) rfl hl.1 rfl (Nat.le_of_ble_eq_true rfl) dX2_pass_22 ⟨Nat.zero_le _, Nat.zero_le _⟩ (fun r_22 u_22 H locs hw hP hD hS => ?_)
  have hw : r_22 = mSum nw gg := hw
  subst hw
  have hP : va_P D vwCl (MC cI b (upd g 0 0) nw kp) H := hP
  have hD : va_D A (MC cI b (upd g 0 0) nw kp) := hD
  refine lv_istore_n (lv' := [(2, .int (mSum nw gg)), (0, .ref (b 0)), (1, .int (nI n))]) hx hb dX2_pass_25 rfl hl (by decide) rfl (fun ls hl => ?_)
  refine lv_aload_n hx hb dX2_pass_26 rfl (lv_at hl 1 rfl) ?_
  refine lv_iload_n hx hb dX2_pass_27 rfl (lv_at hl 2 rfl) ?_
  refine wCVv (pre := ([] : va_W)) (Wc := MC cI b (upd g 0 0) nw kp) (suf := ([] : va_W)) (As := [.int (nI n)]) (rest := []) ⟨hx, hb, hml, hown, hts⟩ (mX2_secondsOn l D cI b (upd g 0 0) nw kp li n _ hl0 hl1 hl2 (by omega) hs) hN hA hK hS hP hD rfl 0 (r := (RX2, TX2, 7)) rfl rfl (cwV 1 hts gX2_pass_X2_secondsOn rfl rfl rfl (by decide +kernel) ⟨Nat.le_of_ble_eq_true rfl, Nat.le_of_ble_eq_true rfl⟩) rfl hl.1 rfl (Nat.le_of_ble_eq_true rfl) dX2_pass_28 ⟨Nat.zero_le _, Nat.zero_le _⟩ (fun u_28 H locs hw hP hD hS => ?_)
  subst hw
  have hP : va_P D vwCl (MC cI b (upd (upd g 0 0) 6 (mSecs (g 5) (g 2) (nw, g 6) n).2) (mSecs (g 5) (g 2) (nw, g 6) n).1 kp) H := hP
  have hD : va_D A (MC cI b (upd (upd g 0 0) 6 (mSecs (g 5) (g 2) (nw, g 6) n).2) (mSecs (g 5) (g 2) (nw, g 6) n).1 kp) := hD
  refine lv_aload_n hx hb dX2_pass_31 rfl (lv_at hl 1 rfl) ?_
  refine wCVi (pre := ([] : va_W)) (Wc := MC cI b (upd (upd g 0 0) 6 (mSecs (g 5) (g 2) (nw, g 6) n).2) (mSecs (g 5) (g 2) (nw, g 6) n).1 kp) (suf := ([] : va_W)) (As := []) (rest := []) ⟨hx, hb, hml, hown, hts⟩ (mX2_unsaid l D cI b (upd (upd g 0 0) 6 (mSecs (g 5) (g 2) (nw, g 6) n).2) (mSecs (g 5) (g 2) (nw, g 6) n).1 kp gg _ hg hg2) hN hA hK hS hP hD rfl 0 (r := (RX2, TX2, 7)) rfl rfl (cwV 0 hts gX2_pass_X2_unsaid rfl rfl rfl (by decide +kernel) ⟨Nat.le_of_ble_eq_true rfl, Nat.le_of_ble_eq_true rfl⟩) rfl hl.1 rfl (Nat.le_of_ble_eq_true rfl) dX2_pass_32 ⟨Nat.zero_le _, Nat.zero_le _⟩ (fun r_32 u_32 H locs hw hP hD hS => ?_)
  have hw : r_32 = mSum (mSecs (g 5) (g 2) (nw, g 6) n).1 gg := hw
  subst hw
  have hP : va_P D vwCl (MC cI b (upd (upd g 0 0) 6 (mSecs (g 5) (g 2) (nw, g 6) n).2) (mSecs (g 5) (g 2) (nw, g 6) n).1 kp) H := hP
  have hD : va_D A (MC cI b (upd (upd g 0 0) 6 (mSecs (g 5) (g 2) (nw, g 6) n).2) (mSecs (g 5) (g 2) (nw, g 6) n).1 kp) := hD
  refine lv_iload_n hx hb dX2_pass_35 rfl (lv_at hl 0 rfl) ?_
  refine lv_isub hx hb dX2_pass_36 ?_
  exact wRi hQ hx hb hr hlocks hP hD hS dX2_pass_37 (mSecs (g 5) (g 2) (nw, g 6) n).2 (rfl) rfl
abbrev rmX2_pass1 : Room := { frames := 1, cells := 0, slots := 0, locals := 22 }
set_option maxRecDepth 100000 in
set_option maxHeartbeats 4000000 in
theorem mX2_pass1 (l : Launch) (D : va_G) (cI : ClassId) (b : Nat → Nat) (g nw kp : Nat → Int32) (x : Int32) (sz : Nat) (hbad : ¬ (1 ≤ x ∧ x ≤ 120)) : wCt l yX2_pass wsX2_pass rmX2_pass1 D [(cI, .int)] [.ref (b 0), .int x] (MC cI b g nw kp) sz 0 0 (wQi D (fun v (_ : Unit) => v = 0) (fun _ : Unit => MC cI b (upd g 0 1) nw kp)) := by
  refine wMet cX2_pass 3 (some .int) (by decide) rfl (Nat.le_of_ble_eq_true rfl) ?_
  intro p e s m args below meth c A Q ls hQ hx hb hr hml hown hlocks hin hts hN hP hK hD hA hS hl
  have hl : lv_has ls 3 [(0, .ref (b 0)), (1, .int x)] := hl
  have hown : s.vm.findClass RX2 = some m.cls := hown
  have hw2 : ∀ w ∈ wsX20, w.before args s = true := fun w h => hts w (List.mem_cons_of_mem _ (List.mem_append_right _ h))
  have k26 := hts (.fieldLink RX2 26 "PauseLedgerModel" "thrown" "I") (by decide +kernel)
  refine lv_aload_n hx hb dX2_pass_0 rfl (lv_at hl 0 rfl) ?_
  refine lv_iconst (v := 0) hx hb dX2_pass_1 (by decide) ?_
  refine va_put (D := D) (ci := 2) (v := .int 0) (ty := .int) (C := RX2) (T := TX2) (N := 7) hx hb hw2 (fun _ h => h) tyX2 tyX2_ok nmX2 hown hK hP hD hS 0 rfl rfl 0 (by decide) k26 (fun _ h9 => h9) rfl (by decide +kernel) rfl rfl (Nat.le_of_ble_eq_true rfl) dX2_pass_2 (fun H locs hP hD hS => ?_)
  have hP : va_P D vwCl (MC cI b (upd g 0 0) nw kp) H := hP
  have hD : va_D A (MC cI b (upd g 0 0) nw kp) := hD
  refine lv_iload_n hx hb dX2_pass_5 rfl (lv_at hl 1 rfl) ?_
  refine lv_iconst (v := 1) hx hb dX2_pass_6 (by decide) ?_
  refine lv_bipush (v := 120) hx hb dX2_pass_7 (by decide) ?_
  refine wCSi (pre := ([] : va_W)) (Wc := ([] : va_W)) (suf := MC cI b (upd g 0 0) nw kp) (As := [.int x, .int 1, .int 120]) (rest := []) ⟨hx, hb, hml, hown, hts⟩ (mX2_isIn l D cI x 1 120 _) hN hA hK hS hP hD rfl (va_cwS 3 hts gX2_pass_X2_isIn rfl rfl rfl (by decide +kernel) ⟨Nat.le_of_ble_eq_true rfl, Nat.le_of_ble_eq_true rfl⟩) rfl hl.1 rfl (Nat.le_of_ble_eq_true rfl) dX2_pass_9 ⟨Nat.zero_le _, Nat.zero_le _⟩ (fun r_9 u_9 H locs hw hP hD hS => ?_)
  have hw : r_9 = mIn x 1 120 := hw
  subst hw
  have hP : va_P D vwCl (MC cI b (upd g 0 0) nw kp) H := hP
  have hD : va_D A (MC cI b (upd g 0 0) nw kp) := hD
  refine lv_if_ne (tgt := 21) hx hb dX2_pass_12 (by decide) (fun h9 => absurd (mInF hbad) h9) (fun c_12 => ?_)
  refine lv_aload_n hx hb dX2_pass_15 rfl (lv_at hl 0 rfl) ?_
  refine lv_iconst (v := 1) hx hb dX2_pass_16 (by decide) ?_
  refine wCVi (pre := ([] : va_W)) (Wc := MC cI b (upd g 0 0) nw kp) (suf := ([] : va_W)) (As := [.int 1]) (rest := []) ⟨hx, hb, hml, hown, hts⟩ (mX2_fail l D cI b (upd g 0 0) nw kp 1 _) hN hA hK hS hP hD rfl 0 (r := (RX2, TX2, 7)) rfl rfl (cwV 1 hts gX2_pass_X2_fail rfl rfl rfl (by decide +kernel) ⟨Nat.le_of_ble_eq_true rfl, Nat.le_of_ble_eq_true rfl⟩) rfl hl.1 rfl (Nat.le_of_ble_eq_true rfl) dX2_pass_17 ⟨Nat.zero_le _, Nat.zero_le _⟩ (fun r_17 u_17 H locs hw hP hD hS => ?_)
  have hw : r_17 = 0 := hw
  subst hw
  have hP : va_P D vwCl (MC cI b (upd g 0 1) nw kp) H := hP
  have hD : va_D A (MC cI b (upd g 0 1) nw kp) := hD
  exact wRi hQ hx hb hr hlocks hP hD hS dX2_pass_20 () (rfl) rfl
abbrev rmX2_guests : Room := { frames := 1, cells := 0, slots := 0, locals := 21 }
set_option maxRecDepth 100000 in
set_option maxHeartbeats 4000000 in
theorem mX2_guests (l : Launch) (D : va_G) (cI : ClassId) (b : Nat → Nat) (g nw kp : Nat → Int32) (sz : Nat) : wCt l yX2_guests wsX2_guests rmX2_guests D [(cI, .int)] [.ref (b 0)] (MC cI b g nw kp) sz 0 0 (wQi D (fun v (_ : Unit) => v = g 1) (fun _ : Unit => MC cI b (upd g 0 0) nw kp)) := by
  refine wMet cX2_guests 1 (some .int) (by decide) rfl (Nat.le_of_ble_eq_true rfl) ?_
  intro p e s m args below meth c A Q ls hQ hx hb hr hml hown hlocks hin hts hN hP hK hD hA hS hl
  have hl : lv_has ls 1 [(0, .ref (b 0))] := hl
  have hown : s.vm.findClass RX2 = some m.cls := hown
  have hw2 : ∀ w ∈ wsX20, w.before args s = true := fun w h => hts w (List.mem_cons_of_mem _ (List.mem_append_right _ h))
  have k7 := hts (.fieldLink RX2 7 "PauseLedgerModel" "guests" "I") (by decide +kernel)
  refine lv_aload_n hx hb dX2_guests_0 rfl (lv_at hl 0 rfl) ?_
  refine lv_aload_n hx hb dX2_guests_1 rfl (lv_at hl 0 rfl) ?_
  refine va_get (D := D) (ci := 2) (v := .int (g 1)) (C := RX2) (T := TX2) (N := 7) hx hb hw2 (fun _ h => h) hown hK hP 0 rfl rfl 1 (by decide) k7 (fun _ h9 => h9) rfl dX2_guests_2 ?_
  refine wCVi (pre := ([] : va_W)) (Wc := MC cI b g nw kp) (suf := ([] : va_W)) (As := [.int (g 1)]) (rest := []) ⟨hx, hb, hml, hown, hts⟩ (mX2_told l D cI b g nw kp (g 1) _) hN hA hK hS hP hD rfl 0 (r := (RX2, TX2, 7)) rfl rfl (cwV 1 hts gX2_guests_X2_told rfl rfl rfl (by decide +kernel) ⟨Nat.le_of_ble_eq_true rfl, Nat.le_of_ble_eq_true rfl⟩) rfl hl.1 rfl (Nat.le_of_ble_eq_true rfl) dX2_guests_5 ⟨Nat.zero_le _, Nat.zero_le _⟩ (fun r_5 u_5 H locs hw hP hD hS => ?_)
  have hw : r_5 = g 1 := hw
  subst hw
  have hP : va_P D vwCl (MC cI b (upd g 0 0) nw kp) H := hP
  have hD : va_D A (MC cI b (upd g 0 0) nw kp) := hD
  exact wRi hQ hx hb hr hlocks hP hD hS dX2_guests_8 () (rfl) rfl
abbrev rmX2_seconds : Room := { frames := 1, cells := 0, slots := 0, locals := 21 }
set_option maxRecDepth 100000 in
set_option maxHeartbeats 4000000 in
theorem mX2_seconds (l : Launch) (D : va_G) (cI : ClassId) (b : Nat → Nat) (g nw kp : Nat → Int32) (sz : Nat) : wCt l yX2_seconds wsX2_seconds rmX2_seconds D [(cI, .int)] [.ref (b 0)] (MC cI b g nw kp) sz 0 0 (wQi D (fun v (_ : Unit) => v = nw 0) (fun _ : Unit => MC cI b (upd g 0 0) nw kp)) := by
  refine wMet cX2_seconds 1 (some .int) (by decide) rfl (Nat.le_of_ble_eq_true rfl) ?_
  intro p e s m args below meth c A Q ls hQ hx hb hr hml hown hlocks hin hts hN hP hK hD hA hS hl
  have hl : lv_has ls 1 [(0, .ref (b 0))] := hl
  have hown : s.vm.findClass RX2 = some m.cls := hown
  have hw2 : ∀ w ∈ wsX20, w.before args s = true := fun w h => hts w (List.mem_cons_of_mem _ (List.mem_append_right _ h))
  have k16 := hts (.fieldLink RX2 16 "PauseLedgerModel" "now" "[I") (by decide +kernel)
  refine lv_aload_n hx hb dX2_seconds_0 rfl (lv_at hl 0 rfl) ?_
  refine lv_aload_n hx hb dX2_seconds_1 rfl (lv_at hl 0 rfl) ?_
  refine va_get (D := D) (ci := 2) (v := .ref (b 1)) (C := RX2) (T := TX2) (N := 7) hx hb hw2 (fun _ h => h) hown hK hP 0 rfl rfl 3 (by decide) k16 (fun _ h9 => h9) rfl dX2_seconds_2 ?_
  refine lv_iconst (v := 0) hx hb dX2_seconds_5 (by decide) ?_
  refine wIald hx hb hK hP 1 0 rfl rfl 0 rfl (by decide) (by decide) dX2_seconds_6 ?_
  refine wCVi (pre := ([] : va_W)) (Wc := MC cI b g nw kp) (suf := ([] : va_W)) (As := [.int (nw 0)]) (rest := []) ⟨hx, hb, hml, hown, hts⟩ (mX2_told l D cI b g nw kp (nw 0) _) hN hA hK hS hP hD rfl 0 (r := (RX2, TX2, 7)) rfl rfl (cwV 1 hts gX2_seconds_X2_told rfl rfl rfl (by decide +kernel) ⟨Nat.le_of_ble_eq_true rfl, Nat.le_of_ble_eq_true rfl⟩) rfl hl.1 rfl (Nat.le_of_ble_eq_true rfl) dX2_seconds_7 ⟨Nat.zero_le _, Nat.zero_le _⟩ (fun r_7 u_7 H locs hw hP hD hS => ?_)
  have hw : r_7 = nw 0 := hw
  subst hw
  have hP : va_P D vwCl (MC cI b (upd g 0 0) nw kp) H := hP
  have hD : va_D A (MC cI b (upd g 0 0) nw kp) := hD
  exact wRi hQ hx hb hr hlocks hP hD hS dX2_seconds_10 () (rfl) rfl
abbrev rmX2_limit : Room := { frames := 1, cells := 0, slots := 0, locals := 21 }
set_option maxRecDepth 100000 in
set_option maxHeartbeats 4000000 in
theorem mX2_limit (l : Launch) (D : va_G) (cI : ClassId) (b : Nat → Nat) (g nw kp : Nat → Int32) (sz : Nat) : wCt l yX2_limit wsX2_limit rmX2_limit D [(cI, .int)] [.ref (b 0)] (MC cI b g nw kp) sz 0 0 (wQi D (fun v (_ : Unit) => v = g 2) (fun _ : Unit => MC cI b (upd g 0 0) nw kp)) := by
  refine wMet cX2_limit 1 (some .int) (by decide) rfl (Nat.le_of_ble_eq_true rfl) ?_
  intro p e s m args below meth c A Q ls hQ hx hb hr hml hown hlocks hin hts hN hP hK hD hA hS hl
  have hl : lv_has ls 1 [(0, .ref (b 0))] := hl
  have hown : s.vm.findClass RX2 = some m.cls := hown
  have hw2 : ∀ w ∈ wsX20, w.before args s = true := fun w h => hts w (List.mem_cons_of_mem _ (List.mem_append_right _ h))
  have k13 := hts (.fieldLink RX2 13 "PauseLedgerModel" "limit" "I") (by decide +kernel)
  refine lv_aload_n hx hb dX2_limit_0 rfl (lv_at hl 0 rfl) ?_
  refine lv_aload_n hx hb dX2_limit_1 rfl (lv_at hl 0 rfl) ?_
  refine va_get (D := D) (ci := 2) (v := .int (g 2)) (C := RX2) (T := TX2) (N := 7) hx hb hw2 (fun _ h => h) hown hK hP 0 rfl rfl 2 (by decide) k13 (fun _ h9 => h9) rfl dX2_limit_2 ?_
  refine wCVi (pre := ([] : va_W)) (Wc := MC cI b g nw kp) (suf := ([] : va_W)) (As := [.int (g 2)]) (rest := []) ⟨hx, hb, hml, hown, hts⟩ (mX2_told l D cI b g nw kp (g 2) _) hN hA hK hS hP hD rfl 0 (r := (RX2, TX2, 7)) rfl rfl (cwV 1 hts gX2_limit_X2_told rfl rfl rfl (by decide +kernel) ⟨Nat.le_of_ble_eq_true rfl, Nat.le_of_ble_eq_true rfl⟩) rfl hl.1 rfl (Nat.le_of_ble_eq_true rfl) dX2_limit_5 ⟨Nat.zero_le _, Nat.zero_le _⟩ (fun r_5 u_5 H locs hw hP hD hS => ?_)
  have hw : r_5 = g 2 := hw
  subst hw
  have hP : va_P D vwCl (MC cI b (upd g 0 0) nw kp) H := hP
  have hD : va_D A (MC cI b (upd g 0 0) nw kp) := hD
  exact wRi hQ hx hb hr hlocks hP hD hS dX2_limit_8 () (rfl) rfl
abbrev rmX2_speaker : Room := { frames := 1, cells := 0, slots := 0, locals := 21 }
set_option maxRecDepth 100000 in
set_option maxHeartbeats 4000000 in
theorem mX2_speaker (l : Launch) (D : va_G) (cI : ClassId) (b : Nat → Nat) (g nw kp : Nat → Int32) (sz : Nat) : wCt l yX2_speaker wsX2_speaker rmX2_speaker D [(cI, .int)] [.ref (b 0)] (MC cI b g nw kp) sz 0 0 (wQi D (fun v (_ : Unit) => v = nw 1) (fun _ : Unit => MC cI b (upd g 0 0) nw kp)) := by
  refine wMet cX2_speaker 1 (some .int) (by decide) rfl (Nat.le_of_ble_eq_true rfl) ?_
  intro p e s m args below meth c A Q ls hQ hx hb hr hml hown hlocks hin hts hN hP hK hD hA hS hl
  have hl : lv_has ls 1 [(0, .ref (b 0))] := hl
  have hown : s.vm.findClass RX2 = some m.cls := hown
  have hw2 : ∀ w ∈ wsX20, w.before args s = true := fun w h => hts w (List.mem_cons_of_mem _ (List.mem_append_right _ h))
  have k16 := hts (.fieldLink RX2 16 "PauseLedgerModel" "now" "[I") (by decide +kernel)
  refine lv_aload_n hx hb dX2_speaker_0 rfl (lv_at hl 0 rfl) ?_
  refine lv_aload_n hx hb dX2_speaker_1 rfl (lv_at hl 0 rfl) ?_
  refine va_get (D := D) (ci := 2) (v := .ref (b 1)) (C := RX2) (T := TX2) (N := 7) hx hb hw2 (fun _ h => h) hown hK hP 0 rfl rfl 3 (by decide) k16 (fun _ h9 => h9) rfl dX2_speaker_2 ?_
  refine lv_iconst (v := 1) hx hb dX2_speaker_5 (by decide) ?_
  refine wIald hx hb hK hP 1 0 rfl rfl 1 rfl (by decide) (by decide) dX2_speaker_6 ?_
  refine wCVi (pre := ([] : va_W)) (Wc := MC cI b g nw kp) (suf := ([] : va_W)) (As := [.int (nw 1)]) (rest := []) ⟨hx, hb, hml, hown, hts⟩ (mX2_told l D cI b g nw kp (nw 1) _) hN hA hK hS hP hD rfl 0 (r := (RX2, TX2, 7)) rfl rfl (cwV 1 hts gX2_speaker_X2_told rfl rfl rfl (by decide +kernel) ⟨Nat.le_of_ble_eq_true rfl, Nat.le_of_ble_eq_true rfl⟩) rfl hl.1 rfl (Nat.le_of_ble_eq_true rfl) dX2_speaker_7 ⟨Nat.zero_le _, Nat.zero_le _⟩ (fun r_7 u_7 H locs hw hP hD hS => ?_)
  have hw : r_7 = nw 1 := hw
  subst hw
  have hP : va_P D vwCl (MC cI b (upd g 0 0) nw kp) H := hP
  have hD : va_D A (MC cI b (upd g 0 0) nw kp) := hD
  exact wRi hQ hx hb hr hlocks hP hD hS dX2_speaker_10 () (rfl) rfl
abbrev rmX2_left : Room := { frames := 0, cells := 0, slots := 0, locals := 0 }
set_option maxRecDepth 100000 in
set_option maxHeartbeats 4000000 in
theorem mX2_left (l : Launch) (D : va_G) (cI : ClassId) (b : Nat → Nat) (g nw kp : Nat → Int32) (sz : Nat) : wCt l yX2_left wsX2_left rmX2_left D [(cI, .int)] [.ref (b 0)] (MC cI b g nw kp) sz 0 0 (wQi D (fun v (_ : Unit) => v = mLeft nw) (fun _ : Unit => MC cI b g nw kp)) := by
  refine wMet cX2_left 1 (some .int) (by decide) rfl (Nat.le_of_ble_eq_true rfl) ?_
  intro p e s m args below meth c A Q ls hQ hx hb hr hml hown hlocks hin hts hN hP hK hD hA hS hl
  have hl : lv_has ls 1 [(0, .ref (b 0))] := hl
  have hown : s.vm.findClass RX2 = some m.cls := hown
  have hw2 : ∀ w ∈ wsX20, w.before args s = true := fun w h => hts w (List.mem_cons_of_mem _ (List.mem_append_right _ h))
  have k16 := hts (.fieldLink RX2 16 "PauseLedgerModel" "now" "[I") (by decide +kernel)
  refine lv_aload_n hx hb dX2_left_0 rfl (lv_at hl 0 rfl) ?_
  refine va_get (D := D) (ci := 2) (v := .ref (b 1)) (C := RX2) (T := TX2) (N := 7) hx hb hw2 (fun _ h => h) hown hK hP 0 rfl rfl 3 (by decide) k16 (fun _ h9 => h9) rfl dX2_left_1 ?_
  refine lv_iconst (v := 1) hx hb dX2_left_4 (by decide) ?_
  refine wIald hx hb hK hP 1 0 rfl rfl 1 rfl (by decide) (by decide) dX2_left_5 ?_
  refine lv_iconst (v := (-1)) hx hb dX2_left_6 (by decide) ?_
  refine lv_icmp_ne (tgt := 14) hx hb dX2_left_7 (by decide) (fun c_7 => ?_) (fun c_7 => ?_)
  · refine lv_aload_n hx hb dX2_left_14 rfl (lv_at hl 0 rfl) ?_
    refine va_get (D := D) (ci := 2) (v := .ref (b 1)) (C := RX2) (T := TX2) (N := 7) hx hb hw2 (fun _ h => h) hown hK hP 0 rfl rfl 3 (by decide) k16 (fun _ h9 => h9) rfl dX2_left_15 ?_
    refine lv_iconst (v := 2) hx hb dX2_left_18 (by decide) ?_
    refine wIald hx hb hK hP 1 0 rfl rfl 2 rfl (by decide) (by decide) dX2_left_19 ?_
    exact wRi hQ hx hb hr hlocks hP hD hS dX2_left_20 () (by simp only [mLeft, if_neg c_7]) rfl
  · refine lv_iconst (v := 0) hx hb dX2_left_10 (by decide) ?_
    refine lv_goto (tgt := 20) hx hb dX2_left_11 (by decide) ?_
    exact wRi hQ hx hb hr hlocks hP hD hS dX2_left_20 () (by simp only [mLeft, if_pos c_7]) rfl
abbrev rmX2_secondsToSpeak : Room := { frames := 1, cells := 0, slots := 0, locals := 21 }
set_option maxRecDepth 100000 in
set_option maxHeartbeats 4000000 in
theorem mX2_secondsToSpeak (l : Launch) (D : va_G) (cI : ClassId) (b : Nat → Nat) (g nw kp : Nat → Int32) (sz : Nat) : wCt l yX2_secondsToSpeak wsX2_secondsToSpeak rmX2_secondsToSpeak D [(cI, .int)] [.ref (b 0)] (MC cI b g nw kp) sz 0 0 (wQi D (fun v (_ : Unit) => v = mLeft nw) (fun _ : Unit => MC cI b (upd g 0 0) nw kp)) := by
  refine wMet cX2_secondsToSpeak 1 (some .int) (by decide) rfl (Nat.le_of_ble_eq_true rfl) ?_
  intro p e s m args below meth c A Q ls hQ hx hb hr hml hown hlocks hin hts hN hP hK hD hA hS hl
  have hl : lv_has ls 1 [(0, .ref (b 0))] := hl
  have hown : s.vm.findClass RX2 = some m.cls := hown
  refine lv_aload_n hx hb dX2_secondsToSpeak_0 rfl (lv_at hl 0 rfl) ?_
  refine lv_aload_n hx hb dX2_secondsToSpeak_1 rfl (lv_at hl 0 rfl) ?_
  refine wCVi (pre := ([] : va_W)) (Wc := MC cI b g nw kp) (suf := ([] : va_W)) (As := []) (rest := [.ref (b 0)]) ⟨hx, hb, hml, hown, hts⟩ (mX2_left l D cI b g nw kp _) hN hA hK hS hP hD rfl 0 (r := (RX2, TX2, 7)) rfl rfl (cwV 0 hts gX2_secondsToSpeak_X2_left rfl rfl rfl (by decide +kernel) ⟨Nat.le_of_ble_eq_true rfl, Nat.le_of_ble_eq_true rfl⟩) rfl hl.1 rfl (Nat.le_of_ble_eq_true rfl) dX2_secondsToSpeak_2 ⟨Nat.zero_le _, Nat.zero_le _⟩ (fun r_2 u_2 H locs hw hP hD hS => ?_)
  have hw : r_2 = mLeft nw := hw
  subst hw
  have hP : va_P D vwCl (MC cI b g nw kp) H := hP
  have hD : va_D A (MC cI b g nw kp) := hD
  refine wCVi (pre := ([] : va_W)) (Wc := MC cI b g nw kp) (suf := ([] : va_W)) (As := [.int (mLeft nw)]) (rest := []) ⟨hx, hb, hml, hown, hts⟩ (mX2_told l D cI b g nw kp (mLeft nw) _) hN hA hK hS hP hD rfl 0 (r := (RX2, TX2, 7)) rfl rfl (cwV 1 hts gX2_secondsToSpeak_X2_told rfl rfl rfl (by decide +kernel) ⟨Nat.le_of_ble_eq_true rfl, Nat.le_of_ble_eq_true rfl⟩) rfl hl.1 rfl (Nat.le_of_ble_eq_true rfl) dX2_secondsToSpeak_5 ⟨Nat.zero_le _, Nat.zero_le _⟩ (fun r_5 u_5 H locs hw hP hD hS => ?_)
  have hw : r_5 = mLeft nw := hw
  subst hw
  have hP : va_P D vwCl (MC cI b (upd g 0 0) nw kp) H := hP
  have hD : va_D A (MC cI b (upd g 0 0) nw kp) := hD
  exact wRi hQ hx hb hr hlocks hP hD hS dX2_secondsToSpeak_8 () (rfl) rfl
abbrev rmX2_pause : Room := { frames := 1, cells := 0, slots := 0, locals := 21 }
set_option maxRecDepth 100000 in
set_option maxHeartbeats 4000000 in
theorem mX2_pause (l : Launch) (D : va_G) (cI : ClassId) (b : Nat → Nat) (g nw kp : Nat → Int32) (sz : Nat) : wCt l yX2_pause wsX2_pause rmX2_pause D [(cI, .int)] [.ref (b 0)] (MC cI b g nw kp) sz 0 0 (wQi D (fun v (_ : Unit) => v = nw 3) (fun _ : Unit => MC cI b (upd g 0 0) nw kp)) := by
  refine wMet cX2_pause 1 (some .int) (by decide) rfl (Nat.le_of_ble_eq_true rfl) ?_
  intro p e s m args below meth c A Q ls hQ hx hb hr hml hown hlocks hin hts hN hP hK hD hA hS hl
  have hl : lv_has ls 1 [(0, .ref (b 0))] := hl
  have hown : s.vm.findClass RX2 = some m.cls := hown
  have hw2 : ∀ w ∈ wsX20, w.before args s = true := fun w h => hts w (List.mem_cons_of_mem _ (List.mem_append_right _ h))
  have k16 := hts (.fieldLink RX2 16 "PauseLedgerModel" "now" "[I") (by decide +kernel)
  refine lv_aload_n hx hb dX2_pause_0 rfl (lv_at hl 0 rfl) ?_
  refine lv_aload_n hx hb dX2_pause_1 rfl (lv_at hl 0 rfl) ?_
  refine va_get (D := D) (ci := 2) (v := .ref (b 1)) (C := RX2) (T := TX2) (N := 7) hx hb hw2 (fun _ h => h) hown hK hP 0 rfl rfl 3 (by decide) k16 (fun _ h9 => h9) rfl dX2_pause_2 ?_
  refine lv_iconst (v := 3) hx hb dX2_pause_5 (by decide) ?_
  refine wIald hx hb hK hP 1 0 rfl rfl 3 rfl (by decide) (by decide) dX2_pause_6 ?_
  refine wCVi (pre := ([] : va_W)) (Wc := MC cI b g nw kp) (suf := ([] : va_W)) (As := [.int (nw 3)]) (rest := []) ⟨hx, hb, hml, hown, hts⟩ (mX2_told l D cI b g nw kp (nw 3) _) hN hA hK hS hP hD rfl 0 (r := (RX2, TX2, 7)) rfl rfl (cwV 1 hts gX2_pause_X2_told rfl rfl rfl (by decide +kernel) ⟨Nat.le_of_ble_eq_true rfl, Nat.le_of_ble_eq_true rfl⟩) rfl hl.1 rfl (Nat.le_of_ble_eq_true rfl) dX2_pause_7 ⟨Nat.zero_le _, Nat.zero_le _⟩ (fun r_7 u_7 H locs hw hP hD hS => ?_)
  have hw : r_7 = nw 3 := hw
  subst hw
  have hP : va_P D vwCl (MC cI b (upd g 0 0) nw kp) H := hP
  have hD : va_D A (MC cI b (upd g 0 0) nw kp) := hD
  exact wRi hQ hx hb hr hlocks hP hD hS dX2_pause_10 () (rfl) rfl
abbrev rmX2_unsaidInPauses : Room := { frames := 1, cells := 0, slots := 0, locals := 21 }
set_option maxRecDepth 100000 in
set_option maxHeartbeats 4000000 in
theorem mX2_unsaidInPauses (l : Launch) (D : va_G) (cI : ClassId) (b : Nat → Nat) (g nw kp : Nat → Int32) (sz : Nat) : wCt l yX2_unsaidInPauses wsX2_unsaidInPauses rmX2_unsaidInPauses D [(cI, .int)] [.ref (b 0)] (MC cI b g nw kp) sz 0 0 (wQi D (fun v (_ : Unit) => v = nw 4) (fun _ : Unit => MC cI b (upd g 0 0) nw kp)) := by
  refine wMet cX2_unsaidInPauses 1 (some .int) (by decide) rfl (Nat.le_of_ble_eq_true rfl) ?_
  intro p e s m args below meth c A Q ls hQ hx hb hr hml hown hlocks hin hts hN hP hK hD hA hS hl
  have hl : lv_has ls 1 [(0, .ref (b 0))] := hl
  have hown : s.vm.findClass RX2 = some m.cls := hown
  have hw2 : ∀ w ∈ wsX20, w.before args s = true := fun w h => hts w (List.mem_cons_of_mem _ (List.mem_append_right _ h))
  have k16 := hts (.fieldLink RX2 16 "PauseLedgerModel" "now" "[I") (by decide +kernel)
  refine lv_aload_n hx hb dX2_unsaidInPauses_0 rfl (lv_at hl 0 rfl) ?_
  refine lv_aload_n hx hb dX2_unsaidInPauses_1 rfl (lv_at hl 0 rfl) ?_
  refine va_get (D := D) (ci := 2) (v := .ref (b 1)) (C := RX2) (T := TX2) (N := 7) hx hb hw2 (fun _ h => h) hown hK hP 0 rfl rfl 3 (by decide) k16 (fun _ h9 => h9) rfl dX2_unsaidInPauses_2 ?_
  refine lv_iconst (v := 4) hx hb dX2_unsaidInPauses_5 (by decide) ?_
  refine wIald hx hb hK hP 1 0 rfl rfl 4 rfl (by decide) (by decide) dX2_unsaidInPauses_6 ?_
  refine wCVi (pre := ([] : va_W)) (Wc := MC cI b g nw kp) (suf := ([] : va_W)) (As := [.int (nw 4)]) (rest := []) ⟨hx, hb, hml, hown, hts⟩ (mX2_told l D cI b g nw kp (nw 4) _) hN hA hK hS hP hD rfl 0 (r := (RX2, TX2, 7)) rfl rfl (cwV 1 hts gX2_unsaidInPauses_X2_told rfl rfl rfl (by decide +kernel) ⟨Nat.le_of_ble_eq_true rfl, Nat.le_of_ble_eq_true rfl⟩) rfl hl.1 rfl (Nat.le_of_ble_eq_true rfl) dX2_unsaidInPauses_7 ⟨Nat.zero_le _, Nat.zero_le _⟩ (fun r_7 u_7 H locs hw hP hD hS => ?_)
  have hw : r_7 = nw 4 := hw
  subst hw
  have hP : va_P D vwCl (MC cI b (upd g 0 0) nw kp) H := hP
  have hD : va_D A (MC cI b (upd g 0 0) nw kp) := hD
  exact wRi hQ hx hb hr hlocks hP hD hS dX2_unsaidInPauses_10 () (rfl) rfl
abbrev rmX2_allUnsaid : Room := { frames := 1, cells := 0, slots := 0, locals := 22 }
set_option maxRecDepth 100000 in
set_option maxHeartbeats 4000000 in
theorem mX2_allUnsaid (l : Launch) (D : va_G) (cI : ClassId) (b : Nat → Nat) (g nw kp : Nat → Int32) (gg : Nat) (sz : Nat) (hg : g 1 = nI gg) (hg2 : gg ≤ 10) : wCt l yX2_allUnsaid wsX2_allUnsaid rmX2_allUnsaid D [(cI, .int)] [.ref (b 0)] (MC cI b g nw kp) sz 0 0 (wQi D (fun v (_ : Unit) => v = mSum nw gg) (fun _ : Unit => MC cI b (upd g 0 0) nw kp)) := by
  refine wMet cX2_allUnsaid 1 (some .int) (by decide) rfl (Nat.le_of_ble_eq_true rfl) ?_
  intro p e s m args below meth c A Q ls hQ hx hb hr hml hown hlocks hin hts hN hP hK hD hA hS hl
  have hl : lv_has ls 1 [(0, .ref (b 0))] := hl
  have hown : s.vm.findClass RX2 = some m.cls := hown
  refine lv_aload_n hx hb dX2_allUnsaid_0 rfl (lv_at hl 0 rfl) ?_
  refine lv_aload_n hx hb dX2_allUnsaid_1 rfl (lv_at hl 0 rfl) ?_
  refine wCVi (pre := ([] : va_W)) (Wc := MC cI b g nw kp) (suf := ([] : va_W)) (As := []) (rest := [.ref (b 0)]) ⟨hx, hb, hml, hown, hts⟩ (mX2_unsaid l D cI b g nw kp gg _ hg hg2) hN hA hK hS hP hD rfl 0 (r := (RX2, TX2, 7)) rfl rfl (cwV 0 hts gX2_allUnsaid_X2_unsaid rfl rfl rfl (by decide +kernel) ⟨Nat.le_of_ble_eq_true rfl, Nat.le_of_ble_eq_true rfl⟩) rfl hl.1 rfl (Nat.le_of_ble_eq_true rfl) dX2_allUnsaid_2 ⟨Nat.zero_le _, Nat.zero_le _⟩ (fun r_2 u_2 H locs hw hP hD hS => ?_)
  have hw : r_2 = mSum nw gg := hw
  subst hw
  have hP : va_P D vwCl (MC cI b g nw kp) H := hP
  have hD : va_D A (MC cI b g nw kp) := hD
  refine wCVi (pre := ([] : va_W)) (Wc := MC cI b g nw kp) (suf := ([] : va_W)) (As := [.int (mSum nw gg)]) (rest := []) ⟨hx, hb, hml, hown, hts⟩ (mX2_told l D cI b g nw kp (mSum nw gg) _) hN hA hK hS hP hD rfl 0 (r := (RX2, TX2, 7)) rfl rfl (cwV 1 hts gX2_allUnsaid_X2_told rfl rfl rfl (by decide +kernel) ⟨Nat.le_of_ble_eq_true rfl, Nat.le_of_ble_eq_true rfl⟩) rfl hl.1 rfl (Nat.le_of_ble_eq_true rfl) dX2_allUnsaid_5 ⟨Nat.zero_le _, Nat.zero_le _⟩ (fun r_5 u_5 H locs hw hP hD hS => ?_)
  have hw : r_5 = mSum nw gg := hw
  subst hw
  have hP : va_P D vwCl (MC cI b (upd g 0 0) nw kp) H := hP
  have hD : va_D A (MC cI b (upd g 0 0) nw kp) := hD
  exact wRi hQ hx hb hr hlocks hP hD hS dX2_allUnsaid_8 () (rfl) rfl
abbrev rmX2_meetings : Room := { frames := 1, cells := 0, slots := 0, locals := 21 }
set_option maxRecDepth 100000 in
set_option maxHeartbeats 4000000 in
theorem mX2_meetings (l : Launch) (D : va_G) (cI : ClassId) (b : Nat → Nat) (g nw kp : Nat → Int32) (sz : Nat) : wCt l yX2_meetings wsX2_meetings rmX2_meetings D [(cI, .int)] [.ref (b 0)] (MC cI b g nw kp) sz 0 0 (wQi D (fun v (_ : Unit) => v = nw 5) (fun _ : Unit => MC cI b (upd g 0 0) nw kp)) := by
  refine wMet cX2_meetings 1 (some .int) (by decide) rfl (Nat.le_of_ble_eq_true rfl) ?_
  intro p e s m args below meth c A Q ls hQ hx hb hr hml hown hlocks hin hts hN hP hK hD hA hS hl
  have hl : lv_has ls 1 [(0, .ref (b 0))] := hl
  have hown : s.vm.findClass RX2 = some m.cls := hown
  have hw2 : ∀ w ∈ wsX20, w.before args s = true := fun w h => hts w (List.mem_cons_of_mem _ (List.mem_append_right _ h))
  have k16 := hts (.fieldLink RX2 16 "PauseLedgerModel" "now" "[I") (by decide +kernel)
  refine lv_aload_n hx hb dX2_meetings_0 rfl (lv_at hl 0 rfl) ?_
  refine lv_aload_n hx hb dX2_meetings_1 rfl (lv_at hl 0 rfl) ?_
  refine va_get (D := D) (ci := 2) (v := .ref (b 1)) (C := RX2) (T := TX2) (N := 7) hx hb hw2 (fun _ h => h) hown hK hP 0 rfl rfl 3 (by decide) k16 (fun _ h9 => h9) rfl dX2_meetings_2 ?_
  refine lv_iconst (v := 5) hx hb dX2_meetings_5 (by decide) ?_
  refine wIald hx hb hK hP 1 0 rfl rfl 5 rfl (by decide) (by decide) dX2_meetings_6 ?_
  refine wCVi (pre := ([] : va_W)) (Wc := MC cI b g nw kp) (suf := ([] : va_W)) (As := [.int (nw 5)]) (rest := []) ⟨hx, hb, hml, hown, hts⟩ (mX2_told l D cI b g nw kp (nw 5) _) hN hA hK hS hP hD rfl 0 (r := (RX2, TX2, 7)) rfl rfl (cwV 1 hts gX2_meetings_X2_told rfl rfl rfl (by decide +kernel) ⟨Nat.le_of_ble_eq_true rfl, Nat.le_of_ble_eq_true rfl⟩) rfl hl.1 rfl (Nat.le_of_ble_eq_true rfl) dX2_meetings_7 ⟨Nat.zero_le _, Nat.zero_le _⟩ (fun r_7 u_7 H locs hw hP hD hS => ?_)
  have hw : r_7 = nw 5 := hw
  subst hw
  have hP : va_P D vwCl (MC cI b (upd g 0 0) nw kp) H := hP
  have hD : va_D A (MC cI b (upd g 0 0) nw kp) := hD
  exact wRi hQ hx hb hr hlocks hP hD hS dX2_meetings_10 () (rfl) rfl
abbrev rmX2_lostGlances : Room := { frames := 1, cells := 0, slots := 0, locals := 21 }
set_option maxRecDepth 100000 in
set_option maxHeartbeats 4000000 in
theorem mX2_lostGlances (l : Launch) (D : va_G) (cI : ClassId) (b : Nat → Nat) (g nw kp : Nat → Int32) (sz : Nat) : wCt l yX2_lostGlances wsX2_lostGlances rmX2_lostGlances D [(cI, .int)] [.ref (b 0)] (MC cI b g nw kp) sz 0 0 (wQi D (fun v (_ : Unit) => v = nw 6) (fun _ : Unit => MC cI b (upd g 0 0) nw kp)) := by
  refine wMet cX2_lostGlances 1 (some .int) (by decide) rfl (Nat.le_of_ble_eq_true rfl) ?_
  intro p e s m args below meth c A Q ls hQ hx hb hr hml hown hlocks hin hts hN hP hK hD hA hS hl
  have hl : lv_has ls 1 [(0, .ref (b 0))] := hl
  have hown : s.vm.findClass RX2 = some m.cls := hown
  have hw2 : ∀ w ∈ wsX20, w.before args s = true := fun w h => hts w (List.mem_cons_of_mem _ (List.mem_append_right _ h))
  have k16 := hts (.fieldLink RX2 16 "PauseLedgerModel" "now" "[I") (by decide +kernel)
  refine lv_aload_n hx hb dX2_lostGlances_0 rfl (lv_at hl 0 rfl) ?_
  refine lv_aload_n hx hb dX2_lostGlances_1 rfl (lv_at hl 0 rfl) ?_
  refine va_get (D := D) (ci := 2) (v := .ref (b 1)) (C := RX2) (T := TX2) (N := 7) hx hb hw2 (fun _ h => h) hown hK hP 0 rfl rfl 3 (by decide) k16 (fun _ h9 => h9) rfl dX2_lostGlances_2 ?_
  refine lv_bipush (v := 6) hx hb dX2_lostGlances_5 (by decide) ?_
  refine wIald hx hb hK hP 1 0 rfl rfl 6 rfl (by decide) (by decide) dX2_lostGlances_7 ?_
  refine wCVi (pre := ([] : va_W)) (Wc := MC cI b g nw kp) (suf := ([] : va_W)) (As := [.int (nw 6)]) (rest := []) ⟨hx, hb, hml, hown, hts⟩ (mX2_told l D cI b g nw kp (nw 6) _) hN hA hK hS hP hD rfl 0 (r := (RX2, TX2, 7)) rfl rfl (cwV 1 hts gX2_lostGlances_X2_told rfl rfl rfl (by decide +kernel) ⟨Nat.le_of_ble_eq_true rfl, Nat.le_of_ble_eq_true rfl⟩) rfl hl.1 rfl (Nat.le_of_ble_eq_true rfl) dX2_lostGlances_8 ⟨Nat.zero_le _, Nat.zero_le _⟩ (fun r_8 u_8 H locs hw hP hD hS => ?_)
  have hw : r_8 = nw 6 := hw
  subst hw
  have hP : va_P D vwCl (MC cI b (upd g 0 0) nw kp) H := hP
  have hD : va_D A (MC cI b (upd g 0 0) nw kp) := hD
  exact wRi hQ hx hb hr hlocks hP hD hS dX2_lostGlances_11 () (rfl) rfl
abbrev rmX2_rating : Room := { frames := 2, cells := 0, slots := 0, locals := 42 }
set_option maxRecDepth 100000 in
set_option maxHeartbeats 4000000 in
theorem mX2_rating (l : Launch) (D : va_G) (cI : ClassId) (b : Nat → Nat) (g nw kp : Nat → Int32) (gg : Nat) (sz : Nat) (hg : g 1 = nI gg) (hg2 : gg ≤ 10) (hg0 : 0 < gg) : wCt l yX2_rating wsX2_rating rmX2_rating D [(cI, .int)] [.ref (b 0)] (MC cI b g nw kp) sz 0 0 (wQi D (fun v (_ : Unit) => v = mRate (g 1) nw gg) (fun _ : Unit => MC cI b (upd g 0 0) nw kp)) := by
  refine wMet cX2_rating 1 (some .int) (by decide) rfl (Nat.le_of_ble_eq_true rfl) ?_
  intro p e s m args below meth c A Q ls hQ hx hb hr hml hown hlocks hin hts hN hP hK hD hA hS hl
  have hl : lv_has ls 1 [(0, .ref (b 0))] := hl
  have hown : s.vm.findClass RX2 = some m.cls := hown
  refine lv_aload_n hx hb dX2_rating_0 rfl (lv_at hl 0 rfl) ?_
  refine lv_aload_n hx hb dX2_rating_1 rfl (lv_at hl 0 rfl) ?_
  refine wCVi (pre := ([] : va_W)) (Wc := MC cI b g nw kp) (suf := ([] : va_W)) (As := []) (rest := [.ref (b 0)]) ⟨hx, hb, hml, hown, hts⟩ (mX2_rated l D cI b g nw kp gg _ hg hg2 hg0) hN hA hK hS hP hD rfl 0 (r := (RX2, TX2, 7)) rfl rfl (cwV 0 hts gX2_rating_X2_rated rfl rfl rfl (by decide +kernel) ⟨Nat.le_of_ble_eq_true rfl, Nat.le_of_ble_eq_true rfl⟩) rfl hl.1 rfl (Nat.le_of_ble_eq_true rfl) dX2_rating_2 ⟨Nat.zero_le _, Nat.zero_le _⟩ (fun r_2 u_2 H locs hw hP hD hS => ?_)
  have hw : r_2 = mRate (g 1) nw gg := hw
  subst hw
  have hP : va_P D vwCl (MC cI b g nw kp) H := hP
  have hD : va_D A (MC cI b g nw kp) := hD
  refine wCVi (pre := ([] : va_W)) (Wc := MC cI b g nw kp) (suf := ([] : va_W)) (As := [.int (mRate (g 1) nw gg)]) (rest := []) ⟨hx, hb, hml, hown, hts⟩ (mX2_told l D cI b g nw kp (mRate (g 1) nw gg) _) hN hA hK hS hP hD rfl 0 (r := (RX2, TX2, 7)) rfl rfl (cwV 1 hts gX2_rating_X2_told rfl rfl rfl (by decide +kernel) ⟨Nat.le_of_ble_eq_true rfl, Nat.le_of_ble_eq_true rfl⟩) rfl hl.1 rfl (Nat.le_of_ble_eq_true rfl) dX2_rating_5 ⟨Nat.zero_le _, Nat.zero_le _⟩ (fun r_5 u_5 H locs hw hP hD hS => ?_)
  have hw : r_5 = mRate (g 1) nw gg := hw
  subst hw
  have hP : va_P D vwCl (MC cI b (upd g 0 0) nw kp) H := hP
  have hD : va_D A (MC cI b (upd g 0 0) nw kp) := hD
  exact wRi hQ hx hb hr hlocks hP hD hS dX2_rating_8 () (rfl) rfl
abbrev rmX2_underWay : Room := { frames := 0, cells := 0, slots := 0, locals := 0 }
set_option maxRecDepth 100000 in
set_option maxHeartbeats 4000000 in
theorem mX2_underWay (l : Launch) (D : va_G) (cI : ClassId) (b : Nat → Nat) (g nw kp : Nat → Int32) (sz : Nat) : wCt l yX2_underWay wsX2_underWay rmX2_underWay D [(cI, .int)] [.ref (b 0)] (MC cI b g nw kp) sz 0 0 (wQi D (fun v (_ : Unit) => v = mWay nw 100) (fun _ : Unit => MC cI b g nw kp)) := by
  refine wMet cX2_underWay 3 (some .int) (by decide) rfl (Nat.le_of_ble_eq_true rfl) ?_
  intro p e s m args below meth c A Q ls hQ hx hb hr hml hown hlocks hin hts hN hP hK hD hA hS hl
  have hl : lv_has ls 3 [(0, .ref (b 0))] := hl
  have hown : s.vm.findClass RX2 = some m.cls := hown
  have hw2 : ∀ w ∈ wsX20, w.before args s = true := fun w h => hts w (List.mem_cons_of_mem _ (List.mem_append_right _ h))
  have k16 := hts (.fieldLink RX2 16 "PauseLedgerModel" "now" "[I") (by decide +kernel)
  refine lv_iconst (v := 0) hx hb dX2_underWay_0 (by decide) ?_
  refine lv_istore_n (lv' := [(1, .int 0), (0, .ref (b 0))]) hx hb dX2_underWay_1 rfl hl (by decide) rfl (fun ls hl => ?_)
  refine lv_iconst (v := 0) hx hb dX2_underWay_2 (by decide) ?_
  refine lv_istore_n (lv' := [(2, .int 0), (1, .int 0), (0, .ref (b 0))]) hx hb dX2_underWay_3 rfl hl (by decide) rfl (fun ls hl => ?_)
  have loop4 : ∀ (j i4 : Nat), i4 + j = 100 → ∀ (H : Heap) (locs : List Loc) (ls : Array Slot), va_P D vwCl (MC cI b g nw kp) H → va_D A (MC cI b g nw kp) → va_S A s.heap H locs → lv_has ls 3 [(2, .int (nI i4)), (1, .int (mWay nw i4)), (0, .ref (b 0))] → W p l e rmX2_underWay s m args below meth c H locs 0 0 Q (F0 m 4 ls []) := by
    intro j
    induction j with
    | zero =>
      intro i4 hi4 H locs ls hP hD hS hl
      have ez : 100 = i4 := by omega
      subst ez
      refine lv_iload_n hx hb dX2_underWay_4 rfl (lv_at hl 0 rfl) ?_
      refine lv_bipush (v := 100) hx hb dX2_underWay_5 (by decide) ?_
      refine lv_icmp_ge (tgt := 37) hx hb dX2_underWay_7 (by decide) (fun c_7 => ?_) (fun h9 => absurd (nI_le (a := 100) (b := 100) (by omega) (by omega)) h9)
      have c_7n := (nI_leI (a := 100) (b := 100) (by omega) (by omega)).mp c_7
      refine lv_iload_n hx hb dX2_underWay_37 rfl (lv_at hl 1 rfl) ?_
      exact wRi hQ hx hb hr hlocks hP hD hS dX2_underWay_38 () (rfl) rfl
    | succ j ih4 =>
      intro i4 hi4 H locs ls hP hD hS hl
      refine lv_iload_n hx hb dX2_underWay_4 rfl (lv_at hl 0 rfl) ?_
      refine lv_bipush (v := 100) hx hb dX2_underWay_5 (by decide) ?_
      refine lv_icmp_ge (tgt := 37) hx hb dX2_underWay_7 (by decide) (fun h9 => absurd h9 (nI_ge (b := 100) (by omega) (by omega))) (fun c_7 => ?_)
      have c_7n := mt (nI_leI (a := 100) (b := i4) (by omega) (by omega)).mpr c_7
      refine lv_iload_n hx hb dX2_underWay_10 rfl (lv_at hl 1 rfl) ?_
      refine lv_aload_n hx hb dX2_underWay_11 rfl (lv_at hl 2 rfl) ?_
      refine va_get (D := D) (ci := 2) (v := .ref (b 1)) (C := RX2) (T := TX2) (N := 7) hx hb hw2 (fun _ h => h) hown hK hP 0 rfl rfl 3 (by decide) k16 (fun _ h9 => h9) rfl dX2_underWay_12 ?_
      refine lv_sipush (v := 148) hx hb dX2_underWay_15 (by decide) ?_
      refine lv_iload_n hx hb dX2_underWay_18 rfl (lv_at hl 0 rfl) ?_
      refine lv_iadd hx hb dX2_underWay_19 ?_
      refine wTop (z := nI (148 + i4)) (nI_add 148 i4) ?_
      refine wIald hx hb hK hP 1 0 rfl rfl (148 + i4) rfl (by omega) (by decide) dX2_underWay_20 ?_
      refine lv_if_le (tgt := 28) hx hb dX2_underWay_21 (by decide) (fun c_21 => ?_) (fun c_21 => ?_)
      · refine lv_iconst (v := 0) hx hb dX2_underWay_28 (by decide) ?_
        refine lv_iadd hx hb dX2_underWay_29 ?_
        refine lv_istore_n (lv' := [(1, .int ((mWay nw i4) + 0)), (2, .int (nI i4)), (0, .ref (b 0))]) hx hb dX2_underWay_30 rfl hl (by decide) rfl (fun ls hl => ?_)
        refine lv_iinc (v := nI (i4 + 1)) (lv' := [(2, .int (nI (i4 + 1))), (1, .int ((mWay nw i4) + 0)), (0, .ref (b 0))]) hx hb dX2_underWay_31 hl (k := 1) rfl (nI_1 i4) (by decide) rfl (fun ls hl => ?_)
        refine lv_goto (tgt := 4) hx hb dX2_underWay_34 (by decide) ?_
        have e4 : mWay nw (i4 + 1) = (mWay nw i4) + 0 := by simp only [mWay, if_neg (Int32.not_lt.mpr c_21)]
        have hl : lv_has ls 3 [(2, .int (nI (i4 + 1))), (1, .int (mWay nw (i4 + 1))), (0, .ref (b 0))] := by rw [e4]; exact hl
        exact ih4 (i4 + 1) (by omega) _ _ _ hP hD hS (lv_sub hl [0, 1, 2] rfl)
      · refine lv_iconst (v := 1) hx hb dX2_underWay_24 (by decide) ?_
        refine lv_goto (tgt := 29) hx hb dX2_underWay_25 (by decide) ?_
        refine lv_iadd hx hb dX2_underWay_29 ?_
        refine lv_istore_n (lv' := [(1, .int ((mWay nw i4) + 1)), (2, .int (nI i4)), (0, .ref (b 0))]) hx hb dX2_underWay_30 rfl hl (by decide) rfl (fun ls hl => ?_)
        refine lv_iinc (v := nI (i4 + 1)) (lv' := [(2, .int (nI (i4 + 1))), (1, .int ((mWay nw i4) + 1)), (0, .ref (b 0))]) hx hb dX2_underWay_31 hl (k := 1) rfl (nI_1 i4) (by decide) rfl (fun ls hl => ?_)
        refine lv_goto (tgt := 4) hx hb dX2_underWay_34 (by decide) ?_
        have e4 : mWay nw (i4 + 1) = (mWay nw i4) + 1 := by simp only [mWay, if_pos (Int32.not_le.mp c_21)]
        have hl : lv_has ls 3 [(2, .int (nI (i4 + 1))), (1, .int (mWay nw (i4 + 1))), (0, .ref (b 0))] := by rw [e4]; exact hl
        exact ih4 (i4 + 1) (by omega) _ _ _ hP hD hS (lv_sub hl [0, 1, 2] rfl)
  exact loop4 100 0 (by omega) _ _ _ hP hD hS (lv_sub hl [0, 1, 2] rfl)
abbrev rmX2_glancesUnderWay : Room := { frames := 1, cells := 0, slots := 0, locals := 22 }
set_option maxRecDepth 100000 in
set_option maxHeartbeats 4000000 in
theorem mX2_glancesUnderWay (l : Launch) (D : va_G) (cI : ClassId) (b : Nat → Nat) (g nw kp : Nat → Int32) (sz : Nat) : wCt l yX2_glancesUnderWay wsX2_glancesUnderWay rmX2_glancesUnderWay D [(cI, .int)] [.ref (b 0)] (MC cI b g nw kp) sz 0 0 (wQi D (fun v (_ : Unit) => v = mWay nw 100) (fun _ : Unit => MC cI b (upd g 0 0) nw kp)) := by
  refine wMet cX2_glancesUnderWay 1 (some .int) (by decide) rfl (Nat.le_of_ble_eq_true rfl) ?_
  intro p e s m args below meth c A Q ls hQ hx hb hr hml hown hlocks hin hts hN hP hK hD hA hS hl
  have hl : lv_has ls 1 [(0, .ref (b 0))] := hl
  have hown : s.vm.findClass RX2 = some m.cls := hown
  refine lv_aload_n hx hb dX2_glancesUnderWay_0 rfl (lv_at hl 0 rfl) ?_
  refine lv_aload_n hx hb dX2_glancesUnderWay_1 rfl (lv_at hl 0 rfl) ?_
  refine wCVi (pre := ([] : va_W)) (Wc := MC cI b g nw kp) (suf := ([] : va_W)) (As := []) (rest := [.ref (b 0)]) ⟨hx, hb, hml, hown, hts⟩ (mX2_underWay l D cI b g nw kp _) hN hA hK hS hP hD rfl 0 (r := (RX2, TX2, 7)) rfl rfl (cwV 0 hts gX2_glancesUnderWay_X2_underWay rfl rfl rfl (by decide +kernel) ⟨Nat.le_of_ble_eq_true rfl, Nat.le_of_ble_eq_true rfl⟩) rfl hl.1 rfl (Nat.le_of_ble_eq_true rfl) dX2_glancesUnderWay_2 ⟨Nat.zero_le _, Nat.zero_le _⟩ (fun r_2 u_2 H locs hw hP hD hS => ?_)
  have hw : r_2 = mWay nw 100 := hw
  subst hw
  have hP : va_P D vwCl (MC cI b g nw kp) H := hP
  have hD : va_D A (MC cI b g nw kp) := hD
  refine wCVi (pre := ([] : va_W)) (Wc := MC cI b g nw kp) (suf := ([] : va_W)) (As := [.int (mWay nw 100)]) (rest := []) ⟨hx, hb, hml, hown, hts⟩ (mX2_told l D cI b g nw kp (mWay nw 100) _) hN hA hK hS hP hD rfl 0 (r := (RX2, TX2, 7)) rfl rfl (cwV 1 hts gX2_glancesUnderWay_X2_told rfl rfl rfl (by decide +kernel) ⟨Nat.le_of_ble_eq_true rfl, Nat.le_of_ble_eq_true rfl⟩) rfl hl.1 rfl (Nat.le_of_ble_eq_true rfl) dX2_glancesUnderWay_5 ⟨Nat.zero_le _, Nat.zero_le _⟩ (fun r_5 u_5 H locs hw hP hD hS => ?_)
  have hw : r_5 = mWay nw 100 := hw
  subst hw
  have hP : va_P D vwCl (MC cI b (upd g 0 0) nw kp) H := hP
  have hD : va_D A (MC cI b (upd g 0 0) nw kp) := hD
  exact wRi hQ hx hb hr hlocks hP hD hS dX2_glancesUnderWay_8 () (rfl) rfl
abbrev rmX2_quietest : Room := { frames := 0, cells := 0, slots := 0, locals := 0 }
set_option maxRecDepth 100000 in
set_option maxHeartbeats 4000000 in
theorem mX2_quietest (l : Launch) (D : va_G) (cI : ClassId) (b : Nat → Nat) (g nw kp : Nat → Int32) (gg : Nat) (sz : Nat) (hg : g 1 = nI gg) (hg2 : gg ≤ 10) (hg0 : 0 < gg) : wCt l yX2_quietest wsX2_quietest rmX2_quietest D [(cI, .int)] [.ref (b 0)] (MC cI b g nw kp) sz 0 0 (wQi D (fun v (_ : Unit) => v = nI (mQuiet nw (gg - 1))) (fun _ : Unit => MC cI b (upd g 0 0) nw kp)) := by
  refine wMet cX2_quietest 3 (some .int) (by decide) rfl (Nat.le_of_ble_eq_true rfl) ?_
  intro p e s m args below meth c A Q ls hQ hx hb hr hml hown hlocks hin hts hN hP hK hD hA hS hl
  have hl : lv_has ls 3 [(0, .ref (b 0))] := hl
  have hown : s.vm.findClass RX2 = some m.cls := hown
  have hw2 : ∀ w ∈ wsX20, w.before args s = true := fun w h => hts w (List.mem_cons_of_mem _ (List.mem_append_right _ h))
  have k7 := hts (.fieldLink RX2 7 "PauseLedgerModel" "guests" "I") (by decide +kernel)
  have k16 := hts (.fieldLink RX2 16 "PauseLedgerModel" "now" "[I") (by decide +kernel)
  have k26 := hts (.fieldLink RX2 26 "PauseLedgerModel" "thrown" "I") (by decide +kernel)
  refine lv_aload_n hx hb dX2_quietest_0 rfl (lv_at hl 0 rfl) ?_
  refine lv_iconst (v := 0) hx hb dX2_quietest_1 (by decide) ?_
  refine va_put (D := D) (ci := 2) (v := .int 0) (ty := .int) (C := RX2) (T := TX2) (N := 7) hx hb hw2 (fun _ h => h) tyX2 tyX2_ok nmX2 hown hK hP hD hS 0 rfl rfl 0 (by decide) k26 (fun _ h9 => h9) rfl (by decide +kernel) rfl rfl (Nat.le_of_ble_eq_true rfl) dX2_quietest_2 (fun H locs hP hD hS => ?_)
  have hP : va_P D vwCl (MC cI b (upd g 0 0) nw kp) H := hP
  have hD : va_D A (MC cI b (upd g 0 0) nw kp) := hD
  refine lv_iconst (v := 0) hx hb dX2_quietest_5 (by decide) ?_
  refine lv_istore_n (lv' := [(1, .int 0), (0, .ref (b 0))]) hx hb dX2_quietest_6 rfl hl (by decide) rfl (fun ls hl => ?_)
  refine lv_iconst (v := 1) hx hb dX2_quietest_7 (by decide) ?_
  refine lv_istore_n (lv' := [(2, .int 1), (1, .int 0), (0, .ref (b 0))]) hx hb dX2_quietest_8 rfl hl (by decide) rfl (fun ls hl => ?_)
  have loop9 : ∀ (j i9 : Nat), i9 + j = (gg - 1) → ∀ (H : Heap) (locs : List Loc) (ls : Array Slot), va_P D vwCl (MC cI b (upd g 0 0) nw kp) H → va_D A (MC cI b (upd g 0 0) nw kp) → va_S A s.heap H locs → lv_has ls 3 [(2, .int (nI (i9 + 1))), (1, .int (nI (mQuiet nw i9))), (0, .ref (b 0))] → W p l e rmX2_quietest s m args below meth c H locs 0 0 Q (F0 m 9 ls []) := by
    intro j
    induction j with
    | zero =>
      intro i9 hi9 H locs ls hP hD hS hl
      have ez : (gg - 1) = i9 := by omega
      subst ez
      refine lv_iload_n hx hb dX2_quietest_9 rfl (lv_at hl 0 rfl) ?_
      refine lv_aload_n hx hb dX2_quietest_10 rfl (lv_at hl 2 rfl) ?_
      refine va_get (D := D) (ci := 2) (v := .int (g 1)) (C := RX2) (T := TX2) (N := 7) hx hb hw2 (fun _ h => h) hown hK hP 0 rfl rfl 1 (by decide) k7 (fun _ h9 => h9) rfl dX2_quietest_11 ?_
      refine lv_icmp_ge (tgt := 46) hx hb dX2_quietest_14 (by decide) (fun c_14 => ?_) (fun h9 => absurd (by rw [hg]; exact nI_le (by omega) (by omega)) h9)
      refine lv_iload_n hx hb dX2_quietest_46 rfl (lv_at hl 1 rfl) ?_
      exact wRi hQ hx hb hr hlocks hP hD hS dX2_quietest_47 () (rfl) rfl
    | succ j ih9 =>
      intro i9 hi9 H locs ls hP hD hS hl
      have hq9 := mQuiet_le nw i9
      refine lv_iload_n hx hb dX2_quietest_9 rfl (lv_at hl 0 rfl) ?_
      refine lv_aload_n hx hb dX2_quietest_10 rfl (lv_at hl 2 rfl) ?_
      refine va_get (D := D) (ci := 2) (v := .int (g 1)) (C := RX2) (T := TX2) (N := 7) hx hb hw2 (fun _ h => h) hown hK hP 0 rfl rfl 1 (by decide) k7 (fun _ h9 => h9) rfl dX2_quietest_11 ?_
      refine lv_icmp_ge (tgt := 46) hx hb dX2_quietest_14 (by decide) (fun h9 => absurd h9 (by rw [hg]; exact nI_ge (by omega) (by omega))) (fun c_14 => ?_)
      refine lv_aload_n hx hb dX2_quietest_17 rfl (lv_at hl 2 rfl) ?_
      refine va_get (D := D) (ci := 2) (v := .ref (b 1)) (C := RX2) (T := TX2) (N := 7) hx hb hw2 (fun _ h => h) hown hK hP 0 rfl rfl 3 (by decide) k16 (fun _ h9 => h9) rfl dX2_quietest_18 ?_
      refine lv_bipush (v := 38) hx hb dX2_quietest_21 (by decide) ?_
      refine lv_iload_n hx hb dX2_quietest_23 rfl (lv_at hl 0 rfl) ?_
      refine lv_iadd hx hb dX2_quietest_24 ?_
      refine wTop (z := nI (38 + (i9 + 1))) (nI_add 38 (i9 + 1)) ?_
      refine wIald hx hb hK hP 1 0 rfl rfl (38 + (i9 + 1)) rfl (by omega) (by decide) dX2_quietest_25 ?_
      refine lv_aload_n hx hb dX2_quietest_26 rfl (lv_at hl 2 rfl) ?_
      refine va_get (D := D) (ci := 2) (v := .ref (b 1)) (C := RX2) (T := TX2) (N := 7) hx hb hw2 (fun _ h => h) hown hK hP 0 rfl rfl 3 (by decide) k16 (fun _ h9 => h9) rfl dX2_quietest_27 ?_
      refine lv_bipush (v := 38) hx hb dX2_quietest_30 (by decide) ?_
      refine lv_iload_n hx hb dX2_quietest_32 rfl (lv_at hl 1 rfl) ?_
      refine lv_iadd hx hb dX2_quietest_33 ?_
      refine wTop (z := nI (38 + (mQuiet nw i9))) (nI_add 38 (mQuiet nw i9)) ?_
      refine wIald hx hb hK hP 1 0 rfl rfl (38 + (mQuiet nw i9)) rfl (by omega) (by decide) dX2_quietest_34 ?_
      refine lv_icmp_le (tgt := 40) hx hb dX2_quietest_35 (by decide) (fun c_35 => ?_) (fun c_35 => ?_)
      · refine lv_iinc (v := nI ((i9 + 1) + 1)) (lv' := [(2, .int (nI ((i9 + 1) + 1))), (1, .int (nI (mQuiet nw i9))), (0, .ref (b 0))]) hx hb dX2_quietest_40 hl (k := 0) rfl (nI_1 (i9 + 1)) (by decide) rfl (fun ls hl => ?_)
        refine lv_goto (tgt := 9) hx hb dX2_quietest_43 (by decide) ?_
        have e9 : mQuiet nw (i9 + 1) = (mQuiet nw i9) := by simp only [mQuiet, if_neg (Int32.not_lt.mpr c_35)]
        have hl : lv_has ls 3 [(2, .int (nI ((i9 + 1) + 1))), (1, .int (nI (mQuiet nw (i9 + 1)))), (0, .ref (b 0))] := by rw [e9]; exact hl
        exact ih9 (i9 + 1) (by omega) _ _ _ hP hD hS (lv_sub hl [0, 1, 2] rfl)
      · refine lv_iload_n hx hb dX2_quietest_38 rfl (lv_at hl 0 rfl) ?_
        refine lv_istore_n (lv' := [(1, .int (nI (i9 + 1))), (2, .int (nI (i9 + 1))), (0, .ref (b 0))]) hx hb dX2_quietest_39 rfl hl (by decide) rfl (fun ls hl => ?_)
        refine lv_iinc (v := nI ((i9 + 1) + 1)) (lv' := [(2, .int (nI ((i9 + 1) + 1))), (1, .int (nI (i9 + 1))), (0, .ref (b 0))]) hx hb dX2_quietest_40 hl (k := 1) rfl (nI_1 (i9 + 1)) (by decide) rfl (fun ls hl => ?_)
        refine lv_goto (tgt := 9) hx hb dX2_quietest_43 (by decide) ?_
        have e9 : mQuiet nw (i9 + 1) = (i9 + 1) := by simp only [mQuiet, if_pos (Int32.not_le.mp c_35)]
        have hl : lv_has ls 3 [(2, .int (nI ((i9 + 1) + 1))), (1, .int (nI (mQuiet nw (i9 + 1)))), (0, .ref (b 0))] := by rw [e9]; exact hl
        exact ih9 (i9 + 1) (by omega) _ _ _ hP hD hS (lv_sub hl [0, 1, 2] rfl)
  exact loop9 (gg - 1) 0 (by omega) _ _ _ hP hD hS (lv_sub hl [0, 1, 2] rfl)
abbrev rmX2_secondsUntilPauseCounts : Room := { frames := 1, cells := 0, slots := 0, locals := 21 }
set_option maxRecDepth 100000 in
set_option maxHeartbeats 4000000 in
theorem mX2_secondsUntilPauseCounts (l : Launch) (D : va_G) (cI : ClassId) (b : Nat → Nat) (g nw kp : Nat → Int32) (li : Nat) (sz : Nat) (hl0 : g 2 = nI li) (hl1 : 0 < li) (hl2 : li ≤ 30) : wCt l yX2_secondsUntilPauseCounts wsX2_secondsUntilPauseCounts rmX2_secondsUntilPauseCounts D [(cI, .int)] [.ref (b 0)] (MC cI b g nw kp) sz 0 0 (wQi D (fun v (_ : Unit) => v = mUntil (g 2) nw) (fun _ : Unit => MC cI b (upd g 0 0) nw kp)) := by
  refine wMet cX2_secondsUntilPauseCounts 1 (some .int) (by decide) rfl (Nat.le_of_ble_eq_true rfl) ?_
  intro p e s m args below meth c A Q ls hQ hx hb hr hml hown hlocks hin hts hN hP hK hD hA hS hl
  have hl : lv_has ls 1 [(0, .ref (b 0))] := hl
  have hown : s.vm.findClass RX2 = some m.cls := hown
  have hw2 : ∀ w ∈ wsX20, w.before args s = true := fun w h => hts w (List.mem_cons_of_mem _ (List.mem_append_right _ h))
  have k13 := hts (.fieldLink RX2 13 "PauseLedgerModel" "limit" "I") (by decide +kernel)
  have k16 := hts (.fieldLink RX2 16 "PauseLedgerModel" "now" "[I") (by decide +kernel)
  refine lv_aload_n hx hb dX2_secondsUntilPauseCounts_0 rfl (lv_at hl 0 rfl) ?_
  refine lv_aload_n hx hb dX2_secondsUntilPauseCounts_1 rfl (lv_at hl 0 rfl) ?_
  refine va_get (D := D) (ci := 2) (v := .ref (b 1)) (C := RX2) (T := TX2) (N := 7) hx hb hw2 (fun _ h => h) hown hK hP 0 rfl rfl 3 (by decide) k16 (fun _ h9 => h9) rfl dX2_secondsUntilPauseCounts_2 ?_
  refine lv_iconst (v := 1) hx hb dX2_secondsUntilPauseCounts_5 (by decide) ?_
  refine wIald hx hb hK hP 1 0 rfl rfl 1 rfl (by decide) (by decide) dX2_secondsUntilPauseCounts_6 ?_
  refine lv_iconst (v := (-1)) hx hb dX2_secondsUntilPauseCounts_7 (by decide) ?_
  refine lv_icmp_ne (tgt := 30) hx hb dX2_secondsUntilPauseCounts_8 (by decide) (fun c_8 => ?_) (fun c_8 => ?_)
  · refine lv_aload_n hx hb dX2_secondsUntilPauseCounts_30 rfl (lv_at hl 0 rfl) ?_
    refine va_get (D := D) (ci := 2) (v := .ref (b 1)) (C := RX2) (T := TX2) (N := 7) hx hb hw2 (fun _ h => h) hown hK hP 0 rfl rfl 3 (by decide) k16 (fun _ h9 => h9) rfl dX2_secondsUntilPauseCounts_31 ?_
    refine lv_iconst (v := 2) hx hb dX2_secondsUntilPauseCounts_34 (by decide) ?_
    refine wIald hx hb hK hP 1 0 rfl rfl 2 rfl (by decide) (by decide) dX2_secondsUntilPauseCounts_35 ?_
    refine lv_aload_n hx hb dX2_secondsUntilPauseCounts_36 rfl (lv_at hl 0 rfl) ?_
    refine va_get (D := D) (ci := 2) (v := .int (g 2)) (C := RX2) (T := TX2) (N := 7) hx hb hw2 (fun _ h => h) hown hK hP 0 rfl rfl 2 (by decide) k13 (fun _ h9 => h9) rfl dX2_secondsUntilPauseCounts_37 ?_
    refine lv_iadd hx hb dX2_secondsUntilPauseCounts_40 ?_
    refine wCVi (pre := ([] : va_W)) (Wc := MC cI b g nw kp) (suf := ([] : va_W)) (As := [.int ((nw 2) + (g 2))]) (rest := []) ⟨hx, hb, hml, hown, hts⟩ (mX2_told l D cI b g nw kp ((nw 2) + (g 2)) _) hN hA hK hS hP hD rfl 0 (r := (RX2, TX2, 7)) rfl rfl (cwV 1 hts gX2_secondsUntilPauseCounts_X2_told rfl rfl rfl (by decide +kernel) ⟨Nat.le_of_ble_eq_true rfl, Nat.le_of_ble_eq_true rfl⟩) rfl hl.1 rfl (Nat.le_of_ble_eq_true rfl) dX2_secondsUntilPauseCounts_41 ⟨Nat.zero_le _, Nat.zero_le _⟩ (fun r_41 u_41 H locs hw hP hD hS => ?_)
    have hw : r_41 = (nw 2) + (g 2) := hw
    subst hw
    have hP : va_P D vwCl (MC cI b (upd g 0 0) nw kp) H := hP
    have hD : va_D A (MC cI b (upd g 0 0) nw kp) := hD
    exact wRi hQ hx hb hr hlocks hP hD hS dX2_secondsUntilPauseCounts_44 () (by simp only [mUntil, if_neg c_8]) rfl
  · refine lv_aload_n hx hb dX2_secondsUntilPauseCounts_11 rfl (lv_at hl 0 rfl) ?_
    refine va_get (D := D) (ci := 2) (v := .int (g 2)) (C := RX2) (T := TX2) (N := 7) hx hb hw2 (fun _ h => h) hown hK hP 0 rfl rfl 2 (by decide) k13 (fun _ h9 => h9) rfl dX2_secondsUntilPauseCounts_12 ?_
    refine lv_aload_n hx hb dX2_secondsUntilPauseCounts_15 rfl (lv_at hl 0 rfl) ?_
    refine va_get (D := D) (ci := 2) (v := .ref (b 1)) (C := RX2) (T := TX2) (N := 7) hx hb hw2 (fun _ h => h) hown hK hP 0 rfl rfl 3 (by decide) k16 (fun _ h9 => h9) rfl dX2_secondsUntilPauseCounts_16 ?_
    refine lv_iconst (v := 3) hx hb dX2_secondsUntilPauseCounts_19 (by decide) ?_
    refine wIald hx hb hK hP 1 0 rfl rfl 3 rfl (by decide) (by decide) dX2_secondsUntilPauseCounts_20 ?_
    refine lv_aload_n hx hb dX2_secondsUntilPauseCounts_21 rfl (lv_at hl 0 rfl) ?_
    refine va_get (D := D) (ci := 2) (v := .int (g 2)) (C := RX2) (T := TX2) (N := 7) hx hb hw2 (fun _ h => h) hown hK hP 0 rfl rfl 2 (by decide) k13 (fun _ h9 => h9) rfl dX2_secondsUntilPauseCounts_22 ?_
    refine lv_irem hx hb dX2_secondsUntilPauseCounts_25 (by rw [hl0]; exact nI_ne0 hl1 (by omega)) ?_
    refine lv_isub hx hb dX2_secondsUntilPauseCounts_26 ?_
    refine lv_goto (tgt := 41) hx hb dX2_secondsUntilPauseCounts_27 (by decide) ?_
    refine wCVi (pre := ([] : va_W)) (Wc := MC cI b g nw kp) (suf := ([] : va_W)) (As := [.int ((g 2) - ((nw 3) - (nw 3) / (g 2) * (g 2)))]) (rest := []) ⟨hx, hb, hml, hown, hts⟩ (mX2_told l D cI b g nw kp ((g 2) - ((nw 3) - (nw 3) / (g 2) * (g 2))) _) hN hA hK hS hP hD rfl 0 (r := (RX2, TX2, 7)) rfl rfl (cwV 1 hts gX2_secondsUntilPauseCounts_X2_told rfl rfl rfl (by decide +kernel) ⟨Nat.le_of_ble_eq_true rfl, Nat.le_of_ble_eq_true rfl⟩) rfl hl.1 rfl (Nat.le_of_ble_eq_true rfl) dX2_secondsUntilPauseCounts_41 ⟨Nat.zero_le _, Nat.zero_le _⟩ (fun r_41 u_41 H locs hw hP hD hS => ?_)
    have hw : r_41 = (g 2) - ((nw 3) - (nw 3) / (g 2) * (g 2)) := hw
    subst hw
    have hP : va_P D vwCl (MC cI b (upd g 0 0) nw kp) H := hP
    have hD : va_D A (MC cI b (upd g 0 0) nw kp) := hD
    exact wRi hQ hx hb hr hlocks hP hD hS dX2_secondsUntilPauseCounts_44 () (by simp only [mUntil, if_pos c_8]) rfl
abbrev rmX2_guest : Room := { frames := 2, cells := 0, slots := 0, locals := 43 }
set_option maxRecDepth 100000 in
set_option maxHeartbeats 4000000 in
theorem mX2_guest (l : Launch) (D : va_G) (cI : ClassId) (b : Nat → Nat) (g nw kp : Nat → Int32) (gg x wt : Nat) (sz : Nat) (hg : g 1 = nI gg) (hg2 : gg ≤ 10) (hg0 : 0 < gg) (ux : x < gg) (hw : wt + 10 ≤ 348) : wCt l yX2_guest wsX2_guest rmX2_guest D [(cI, .int)] [.ref (b 0), .int (nI x), .int (nI wt)] (MC cI b g nw kp) sz 0 0 (wQi D (fun v (_ : Unit) => v = nw (wt + x)) (fun _ : Unit => MC cI b (upd g 0 0) nw kp)) := by
  refine wMet cX2_guest 3 (some .int) (by decide) rfl (Nat.le_of_ble_eq_true rfl) ?_
  intro p e s m args below meth c A Q ls hQ hx hb hr hml hown hlocks hin hts hN hP hK hD hA hS hl
  have hl : lv_has ls 3 [(0, .ref (b 0)), (1, .int (nI x)), (2, .int (nI wt))] := hl
  have hown : s.vm.findClass RX2 = some m.cls := hown
  have hw2 : ∀ w ∈ wsX20, w.before args s = true := fun w h => hts w (List.mem_cons_of_mem _ (List.mem_append_right _ h))
  have k16 := hts (.fieldLink RX2 16 "PauseLedgerModel" "now" "[I") (by decide +kernel)
  have k26 := hts (.fieldLink RX2 26 "PauseLedgerModel" "thrown" "I") (by decide +kernel)
  refine lv_aload_n hx hb dX2_guest_0 rfl (lv_at hl 0 rfl) ?_
  refine lv_iconst (v := 0) hx hb dX2_guest_1 (by decide) ?_
  refine va_put (D := D) (ci := 2) (v := .int 0) (ty := .int) (C := RX2) (T := TX2) (N := 7) hx hb hw2 (fun _ h => h) tyX2 tyX2_ok nmX2 hown hK hP hD hS 0 rfl rfl 0 (by decide) k26 (fun _ h9 => h9) rfl (by decide +kernel) rfl rfl (Nat.le_of_ble_eq_true rfl) dX2_guest_2 (fun H locs hP hD hS => ?_)
  have hP : va_P D vwCl (MC cI b (upd g 0 0) nw kp) H := hP
  have hD : va_D A (MC cI b (upd g 0 0) nw kp) := hD
  refine lv_aload_n hx hb dX2_guest_5 rfl (lv_at hl 0 rfl) ?_
  refine lv_iload_n hx hb dX2_guest_6 rfl (lv_at hl 1 rfl) ?_
  refine wCVi (pre := ([] : va_W)) (Wc := MC cI b (upd g 0 0) nw kp) (suf := ([] : va_W)) (As := [.int (nI x)]) (rest := []) ⟨hx, hb, hml, hown, hts⟩ (mX2_isGuest l D cI b (upd g 0 0) nw kp (nI x) _) hN hA hK hS hP hD rfl 0 (r := (RX2, TX2, 7)) rfl rfl (cwV 1 hts gX2_guest_X2_isGuest rfl rfl rfl (by decide +kernel) ⟨Nat.le_of_ble_eq_true rfl, Nat.le_of_ble_eq_true rfl⟩) rfl hl.1 rfl (Nat.le_of_ble_eq_true rfl) dX2_guest_7 ⟨Nat.zero_le _, Nat.zero_le _⟩ (fun r_7 u_7 H locs hw hP hD hS => ?_)
  have hw : r_7 = mIn (nI x) 0 (g 1 - 1) := hw
  subst hw
  have hP : va_P D vwCl (MC cI b (upd g 0 0) nw kp) H := hP
  have hD : va_D A (MC cI b (upd g 0 0) nw kp) := hD
  refine lv_if_eq (tgt := 24) hx hb dX2_guest_10 (by decide) (fun h9 => absurd h9 (mGT hg ux hg2)) (fun c_10 => ?_)
  refine lv_aload_n hx hb dX2_guest_13 rfl (lv_at hl 0 rfl) ?_
  refine va_get (D := D) (ci := 2) (v := .ref (b 1)) (C := RX2) (T := TX2) (N := 7) hx hb hw2 (fun _ h => h) hown hK hP 0 rfl rfl 3 (by decide) k16 (fun _ h9 => h9) rfl dX2_guest_14 ?_
  refine lv_iload_n hx hb dX2_guest_17 rfl (lv_at hl 2 rfl) ?_
  refine lv_iload_n hx hb dX2_guest_18 rfl (lv_at hl 1 rfl) ?_
  refine lv_iadd hx hb dX2_guest_19 ?_
  refine wTop (z := nI (wt + x)) (nI_add wt x) ?_
  refine wIald hx hb hK hP 1 0 rfl rfl (wt + x) rfl (by omega) (by decide) dX2_guest_20 ?_
  refine lv_goto (tgt := 29) hx hb dX2_guest_21 (by decide) ?_
  exact wRi hQ hx hb hr hlocks hP hD hS dX2_guest_29 () (rfl) rfl
abbrev rmX2_guest1 : Room := { frames := 2, cells := 0, slots := 0, locals := 43 }
set_option maxRecDepth 100000 in
set_option maxHeartbeats 4000000 in
theorem mX2_guest1 (l : Launch) (D : va_G) (cI : ClassId) (b : Nat → Nat) (g nw kp : Nat → Int32) (gg : Nat) (x wt : Int32) (sz : Nat) (hg : g 1 = nI gg) (hg2 : gg ≤ 10) (hg0 : 0 < gg) (hbad : ¬ (0 ≤ x ∧ x < nI gg)) : wCt l yX2_guest wsX2_guest rmX2_guest1 D [(cI, .int)] [.ref (b 0), .int x, .int wt] (MC cI b g nw kp) sz 0 0 (wQi D (fun v (_ : Unit) => v = 0) (fun _ : Unit => MC cI b (upd g 0 1) nw kp)) := by
  refine wMet cX2_guest 3 (some .int) (by decide) rfl (Nat.le_of_ble_eq_true rfl) ?_
  intro p e s m args below meth c A Q ls hQ hx hb hr hml hown hlocks hin hts hN hP hK hD hA hS hl
  have hl : lv_has ls 3 [(0, .ref (b 0)), (1, .int x), (2, .int wt)] := hl
  have hown : s.vm.findClass RX2 = some m.cls := hown
  have hw2 : ∀ w ∈ wsX20, w.before args s = true := fun w h => hts w (List.mem_cons_of_mem _ (List.mem_append_right _ h))
  have k26 := hts (.fieldLink RX2 26 "PauseLedgerModel" "thrown" "I") (by decide +kernel)
  refine lv_aload_n hx hb dX2_guest_0 rfl (lv_at hl 0 rfl) ?_
  refine lv_iconst (v := 0) hx hb dX2_guest_1 (by decide) ?_
  refine va_put (D := D) (ci := 2) (v := .int 0) (ty := .int) (C := RX2) (T := TX2) (N := 7) hx hb hw2 (fun _ h => h) tyX2 tyX2_ok nmX2 hown hK hP hD hS 0 rfl rfl 0 (by decide) k26 (fun _ h9 => h9) rfl (by decide +kernel) rfl rfl (Nat.le_of_ble_eq_true rfl) dX2_guest_2 (fun H locs hP hD hS => ?_)
  have hP : va_P D vwCl (MC cI b (upd g 0 0) nw kp) H := hP
  have hD : va_D A (MC cI b (upd g 0 0) nw kp) := hD
  refine lv_aload_n hx hb dX2_guest_5 rfl (lv_at hl 0 rfl) ?_
  refine lv_iload_n hx hb dX2_guest_6 rfl (lv_at hl 1 rfl) ?_
  refine wCVi (pre := ([] : va_W)) (Wc := MC cI b (upd g 0 0) nw kp) (suf := ([] : va_W)) (As := [.int x]) (rest := []) ⟨hx, hb, hml, hown, hts⟩ (mX2_isGuest l D cI b (upd g 0 0) nw kp x _) hN hA hK hS hP hD rfl 0 (r := (RX2, TX2, 7)) rfl rfl (cwV 1 hts gX2_guest_X2_isGuest rfl rfl rfl (by decide +kernel) ⟨Nat.le_of_ble_eq_true rfl, Nat.le_of_ble_eq_true rfl⟩) rfl hl.1 rfl (Nat.le_of_ble_eq_true rfl) dX2_guest_7 ⟨Nat.zero_le _, Nat.zero_le _⟩ (fun r_7 u_7 H locs hw hP hD hS => ?_)
  have hw : r_7 = mIn x 0 (g 1 - 1) := hw
  subst hw
  have hP : va_P D vwCl (MC cI b (upd g 0 0) nw kp) H := hP
  have hD : va_D A (MC cI b (upd g 0 0) nw kp) := hD
  refine lv_if_eq (tgt := 24) hx hb dX2_guest_10 (by decide) (fun c_10 => ?_) (fun h9 => absurd (mGF hg hg0 hg2 hbad) h9)
  refine lv_aload_n hx hb dX2_guest_24 rfl (lv_at hl 0 rfl) ?_
  refine lv_iconst (v := 1) hx hb dX2_guest_25 (by decide) ?_
  refine wCVi (pre := ([] : va_W)) (Wc := MC cI b (upd g 0 0) nw kp) (suf := ([] : va_W)) (As := [.int 1]) (rest := []) ⟨hx, hb, hml, hown, hts⟩ (mX2_fail l D cI b (upd g 0 0) nw kp 1 _) hN hA hK hS hP hD rfl 0 (r := (RX2, TX2, 7)) rfl rfl (cwV 1 hts gX2_guest_X2_fail rfl rfl rfl (by decide +kernel) ⟨Nat.le_of_ble_eq_true rfl, Nat.le_of_ble_eq_true rfl⟩) rfl hl.1 rfl (Nat.le_of_ble_eq_true rfl) dX2_guest_26 ⟨Nat.zero_le _, Nat.zero_le _⟩ (fun r_26 u_26 H locs hw hP hD hS => ?_)
  have hw : r_26 = 0 := hw
  subst hw
  have hP : va_P D vwCl (MC cI b (upd g 0 1) nw kp) H := hP
  have hD : va_D A (MC cI b (upd g 0 1) nw kp) := hD
  exact wRi hQ hx hb hr hlocks hP hD hS dX2_guest_29 () (rfl) rfl
abbrev rmX2_spokenBy : Room := { frames := 3, cells := 0, slots := 0, locals := 65 }
set_option maxRecDepth 100000 in
set_option maxHeartbeats 4000000 in
theorem mX2_spokenBy (l : Launch) (D : va_G) (cI : ClassId) (b : Nat → Nat) (g nw kp : Nat → Int32) (gg x : Nat) (sz : Nat) (hg : g 1 = nI gg) (hg2 : gg ≤ 10) (hg0 : 0 < gg) (ux : x < gg) : wCt l yX2_spokenBy wsX2_spokenBy rmX2_spokenBy D [(cI, .int)] [.ref (b 0), .int (nI x)] (MC cI b g nw kp) sz 0 0 (wQi D (fun v (_ : Unit) => v = nw (8 + x)) (fun _ : Unit => MC cI b (upd g 0 0) nw kp)) := by
  refine wMet cX2_spokenBy 2 (some .int) (by decide) rfl (Nat.le_of_ble_eq_true rfl) ?_
  intro p e s m args below meth c A Q ls hQ hx hb hr hml hown hlocks hin hts hN hP hK hD hA hS hl
  have hl : lv_has ls 2 [(0, .ref (b 0)), (1, .int (nI x))] := hl
  have hown : s.vm.findClass RX2 = some m.cls := hown
  refine lv_aload_n hx hb dX2_spokenBy_0 rfl (lv_at hl 0 rfl) ?_
  refine lv_iload_n hx hb dX2_spokenBy_1 rfl (lv_at hl 1 rfl) ?_
  refine lv_bipush (v := 8) hx hb dX2_spokenBy_2 (by decide) ?_
  refine wCVi (pre := ([] : va_W)) (Wc := MC cI b g nw kp) (suf := ([] : va_W)) (As := [.int (nI x), .int 8]) (rest := []) ⟨hx, hb, hml, hown, hts⟩ (mX2_guest l D cI b g nw kp gg x 8 _ hg hg2 hg0 ux (by decide)) hN hA hK hS hP hD rfl 0 (r := (RX2, TX2, 7)) rfl rfl (cwV 2 hts gX2_spokenBy_X2_guest rfl rfl rfl (by decide +kernel) ⟨Nat.le_of_ble_eq_true rfl, Nat.le_of_ble_eq_true rfl⟩) rfl hl.1 rfl (Nat.le_of_ble_eq_true rfl) dX2_spokenBy_4 ⟨Nat.zero_le _, Nat.zero_le _⟩ (fun r_4 u_4 H locs hw hP hD hS => ?_)
  have hw : r_4 = nw (8 + x) := hw
  subst hw
  have hP : va_P D vwCl (MC cI b (upd g 0 0) nw kp) H := hP
  have hD : va_D A (MC cI b (upd g 0 0) nw kp) := hD
  exact wRi hQ hx hb hr hlocks hP hD hS dX2_spokenBy_7 () (rfl) rfl
abbrev rmX2_spokenBy1 : Room := { frames := 3, cells := 0, slots := 0, locals := 65 }
set_option maxRecDepth 100000 in
set_option maxHeartbeats 4000000 in
theorem mX2_spokenBy1 (l : Launch) (D : va_G) (cI : ClassId) (b : Nat → Nat) (g nw kp : Nat → Int32) (gg : Nat) (x : Int32) (sz : Nat) (hg : g 1 = nI gg) (hg2 : gg ≤ 10) (hg0 : 0 < gg) (hbad : ¬ (0 ≤ x ∧ x < nI gg)) : wCt l yX2_spokenBy wsX2_spokenBy rmX2_spokenBy1 D [(cI, .int)] [.ref (b 0), .int x] (MC cI b g nw kp) sz 0 0 (wQi D (fun v (_ : Unit) => v = 0) (fun _ : Unit => MC cI b (upd g 0 1) nw kp)) := by
  refine wMet cX2_spokenBy 2 (some .int) (by decide) rfl (Nat.le_of_ble_eq_true rfl) ?_
  intro p e s m args below meth c A Q ls hQ hx hb hr hml hown hlocks hin hts hN hP hK hD hA hS hl
  have hl : lv_has ls 2 [(0, .ref (b 0)), (1, .int x)] := hl
  have hown : s.vm.findClass RX2 = some m.cls := hown
  refine lv_aload_n hx hb dX2_spokenBy_0 rfl (lv_at hl 0 rfl) ?_
  refine lv_iload_n hx hb dX2_spokenBy_1 rfl (lv_at hl 1 rfl) ?_
  refine lv_bipush (v := 8) hx hb dX2_spokenBy_2 (by decide) ?_
  refine wCVi (pre := ([] : va_W)) (Wc := MC cI b g nw kp) (suf := ([] : va_W)) (As := [.int x, .int 8]) (rest := []) ⟨hx, hb, hml, hown, hts⟩ (mX2_guest1 l D cI b g nw kp gg x 8 _ hg hg2 hg0 hbad) hN hA hK hS hP hD rfl 0 (r := (RX2, TX2, 7)) rfl rfl (cwV 2 hts gX2_spokenBy_X2_guest rfl rfl rfl (by decide +kernel) ⟨Nat.le_of_ble_eq_true rfl, Nat.le_of_ble_eq_true rfl⟩) rfl hl.1 rfl (Nat.le_of_ble_eq_true rfl) dX2_spokenBy_4 ⟨Nat.zero_le _, Nat.zero_le _⟩ (fun r_4 u_4 H locs hw hP hD hS => ?_)
  have hw : r_4 = 0 := hw
  subst hw
  have hP : va_P D vwCl (MC cI b (upd g 0 1) nw kp) H := hP
  have hD : va_D A (MC cI b (upd g 0 1) nw kp) := hD
  exact wRi hQ hx hb hr hlocks hP hD hS dX2_spokenBy_7 () (rfl) rfl
abbrev rmX2_interruptionsBy : Room := { frames := 3, cells := 0, slots := 0, locals := 65 }
set_option maxRecDepth 100000 in
set_option maxHeartbeats 4000000 in
theorem mX2_interruptionsBy (l : Launch) (D : va_G) (cI : ClassId) (b : Nat → Nat) (g nw kp : Nat → Int32) (gg x : Nat) (sz : Nat) (hg : g 1 = nI gg) (hg2 : gg ≤ 10) (hg0 : 0 < gg) (ux : x < gg) : wCt l yX2_interruptionsBy wsX2_interruptionsBy rmX2_interruptionsBy D [(cI, .int)] [.ref (b 0), .int (nI x)] (MC cI b g nw kp) sz 0 0 (wQi D (fun v (_ : Unit) => v = nw (18 + x)) (fun _ : Unit => MC cI b (upd g 0 0) nw kp)) := by
  refine wMet cX2_interruptionsBy 2 (some .int) (by decide) rfl (Nat.le_of_ble_eq_true rfl) ?_
  intro p e s m args below meth c A Q ls hQ hx hb hr hml hown hlocks hin hts hN hP hK hD hA hS hl
  have hl : lv_has ls 2 [(0, .ref (b 0)), (1, .int (nI x))] := hl
  have hown : s.vm.findClass RX2 = some m.cls := hown
  refine lv_aload_n hx hb dX2_interruptionsBy_0 rfl (lv_at hl 0 rfl) ?_
  refine lv_iload_n hx hb dX2_interruptionsBy_1 rfl (lv_at hl 1 rfl) ?_
  refine lv_bipush (v := 18) hx hb dX2_interruptionsBy_2 (by decide) ?_
  refine wCVi (pre := ([] : va_W)) (Wc := MC cI b g nw kp) (suf := ([] : va_W)) (As := [.int (nI x), .int 18]) (rest := []) ⟨hx, hb, hml, hown, hts⟩ (mX2_guest l D cI b g nw kp gg x 18 _ hg hg2 hg0 ux (by decide)) hN hA hK hS hP hD rfl 0 (r := (RX2, TX2, 7)) rfl rfl (cwV 2 hts gX2_interruptionsBy_X2_guest rfl rfl rfl (by decide +kernel) ⟨Nat.le_of_ble_eq_true rfl, Nat.le_of_ble_eq_true rfl⟩) rfl hl.1 rfl (Nat.le_of_ble_eq_true rfl) dX2_interruptionsBy_4 ⟨Nat.zero_le _, Nat.zero_le _⟩ (fun r_4 u_4 H locs hw hP hD hS => ?_)
  have hw : r_4 = nw (18 + x) := hw
  subst hw
  have hP : va_P D vwCl (MC cI b (upd g 0 0) nw kp) H := hP
  have hD : va_D A (MC cI b (upd g 0 0) nw kp) := hD
  exact wRi hQ hx hb hr hlocks hP hD hS dX2_interruptionsBy_7 () (rfl) rfl
abbrev rmX2_interruptionsBy1 : Room := { frames := 3, cells := 0, slots := 0, locals := 65 }
set_option maxRecDepth 100000 in
set_option maxHeartbeats 4000000 in
theorem mX2_interruptionsBy1 (l : Launch) (D : va_G) (cI : ClassId) (b : Nat → Nat) (g nw kp : Nat → Int32) (gg : Nat) (x : Int32) (sz : Nat) (hg : g 1 = nI gg) (hg2 : gg ≤ 10) (hg0 : 0 < gg) (hbad : ¬ (0 ≤ x ∧ x < nI gg)) : wCt l yX2_interruptionsBy wsX2_interruptionsBy rmX2_interruptionsBy1 D [(cI, .int)] [.ref (b 0), .int x] (MC cI b g nw kp) sz 0 0 (wQi D (fun v (_ : Unit) => v = 0) (fun _ : Unit => MC cI b (upd g 0 1) nw kp)) := by
  refine wMet cX2_interruptionsBy 2 (some .int) (by decide) rfl (Nat.le_of_ble_eq_true rfl) ?_
  intro p e s m args below meth c A Q ls hQ hx hb hr hml hown hlocks hin hts hN hP hK hD hA hS hl
  have hl : lv_has ls 2 [(0, .ref (b 0)), (1, .int x)] := hl
  have hown : s.vm.findClass RX2 = some m.cls := hown
  refine lv_aload_n hx hb dX2_interruptionsBy_0 rfl (lv_at hl 0 rfl) ?_
  refine lv_iload_n hx hb dX2_interruptionsBy_1 rfl (lv_at hl 1 rfl) ?_
  refine lv_bipush (v := 18) hx hb dX2_interruptionsBy_2 (by decide) ?_
  refine wCVi (pre := ([] : va_W)) (Wc := MC cI b g nw kp) (suf := ([] : va_W)) (As := [.int x, .int 18]) (rest := []) ⟨hx, hb, hml, hown, hts⟩ (mX2_guest1 l D cI b g nw kp gg x 18 _ hg hg2 hg0 hbad) hN hA hK hS hP hD rfl 0 (r := (RX2, TX2, 7)) rfl rfl (cwV 2 hts gX2_interruptionsBy_X2_guest rfl rfl rfl (by decide +kernel) ⟨Nat.le_of_ble_eq_true rfl, Nat.le_of_ble_eq_true rfl⟩) rfl hl.1 rfl (Nat.le_of_ble_eq_true rfl) dX2_interruptionsBy_4 ⟨Nat.zero_le _, Nat.zero_le _⟩ (fun r_4 u_4 H locs hw hP hD hS => ?_)
  have hw : r_4 = 0 := hw
  subst hw
  have hP : va_P D vwCl (MC cI b (upd g 0 1) nw kp) H := hP
  have hD : va_D A (MC cI b (upd g 0 1) nw kp) := hD
  exact wRi hQ hx hb hr hlocks hP hD hS dX2_interruptionsBy_7 () (rfl) rfl
abbrev rmX2_coughsOf : Room := { frames := 3, cells := 0, slots := 0, locals := 65 }
set_option maxRecDepth 100000 in
set_option maxHeartbeats 4000000 in
theorem mX2_coughsOf (l : Launch) (D : va_G) (cI : ClassId) (b : Nat → Nat) (g nw kp : Nat → Int32) (gg x : Nat) (sz : Nat) (hg : g 1 = nI gg) (hg2 : gg ≤ 10) (hg0 : 0 < gg) (ux : x < gg) : wCt l yX2_coughsOf wsX2_coughsOf rmX2_coughsOf D [(cI, .int)] [.ref (b 0), .int (nI x)] (MC cI b g nw kp) sz 0 0 (wQi D (fun v (_ : Unit) => v = nw (28 + x)) (fun _ : Unit => MC cI b (upd g 0 0) nw kp)) := by
  refine wMet cX2_coughsOf 2 (some .int) (by decide) rfl (Nat.le_of_ble_eq_true rfl) ?_
  intro p e s m args below meth c A Q ls hQ hx hb hr hml hown hlocks hin hts hN hP hK hD hA hS hl
  have hl : lv_has ls 2 [(0, .ref (b 0)), (1, .int (nI x))] := hl
  have hown : s.vm.findClass RX2 = some m.cls := hown
  refine lv_aload_n hx hb dX2_coughsOf_0 rfl (lv_at hl 0 rfl) ?_
  refine lv_iload_n hx hb dX2_coughsOf_1 rfl (lv_at hl 1 rfl) ?_
  refine lv_bipush (v := 28) hx hb dX2_coughsOf_2 (by decide) ?_
  refine wCVi (pre := ([] : va_W)) (Wc := MC cI b g nw kp) (suf := ([] : va_W)) (As := [.int (nI x), .int 28]) (rest := []) ⟨hx, hb, hml, hown, hts⟩ (mX2_guest l D cI b g nw kp gg x 28 _ hg hg2 hg0 ux (by decide)) hN hA hK hS hP hD rfl 0 (r := (RX2, TX2, 7)) rfl rfl (cwV 2 hts gX2_coughsOf_X2_guest rfl rfl rfl (by decide +kernel) ⟨Nat.le_of_ble_eq_true rfl, Nat.le_of_ble_eq_true rfl⟩) rfl hl.1 rfl (Nat.le_of_ble_eq_true rfl) dX2_coughsOf_4 ⟨Nat.zero_le _, Nat.zero_le _⟩ (fun r_4 u_4 H locs hw hP hD hS => ?_)
  have hw : r_4 = nw (28 + x) := hw
  subst hw
  have hP : va_P D vwCl (MC cI b (upd g 0 0) nw kp) H := hP
  have hD : va_D A (MC cI b (upd g 0 0) nw kp) := hD
  exact wRi hQ hx hb hr hlocks hP hD hS dX2_coughsOf_7 () (rfl) rfl
abbrev rmX2_coughsOf1 : Room := { frames := 3, cells := 0, slots := 0, locals := 65 }
set_option maxRecDepth 100000 in
set_option maxHeartbeats 4000000 in
theorem mX2_coughsOf1 (l : Launch) (D : va_G) (cI : ClassId) (b : Nat → Nat) (g nw kp : Nat → Int32) (gg : Nat) (x : Int32) (sz : Nat) (hg : g 1 = nI gg) (hg2 : gg ≤ 10) (hg0 : 0 < gg) (hbad : ¬ (0 ≤ x ∧ x < nI gg)) : wCt l yX2_coughsOf wsX2_coughsOf rmX2_coughsOf1 D [(cI, .int)] [.ref (b 0), .int x] (MC cI b g nw kp) sz 0 0 (wQi D (fun v (_ : Unit) => v = 0) (fun _ : Unit => MC cI b (upd g 0 1) nw kp)) := by
  refine wMet cX2_coughsOf 2 (some .int) (by decide) rfl (Nat.le_of_ble_eq_true rfl) ?_
  intro p e s m args below meth c A Q ls hQ hx hb hr hml hown hlocks hin hts hN hP hK hD hA hS hl
  have hl : lv_has ls 2 [(0, .ref (b 0)), (1, .int x)] := hl
  have hown : s.vm.findClass RX2 = some m.cls := hown
  refine lv_aload_n hx hb dX2_coughsOf_0 rfl (lv_at hl 0 rfl) ?_
  refine lv_iload_n hx hb dX2_coughsOf_1 rfl (lv_at hl 1 rfl) ?_
  refine lv_bipush (v := 28) hx hb dX2_coughsOf_2 (by decide) ?_
  refine wCVi (pre := ([] : va_W)) (Wc := MC cI b g nw kp) (suf := ([] : va_W)) (As := [.int x, .int 28]) (rest := []) ⟨hx, hb, hml, hown, hts⟩ (mX2_guest1 l D cI b g nw kp gg x 28 _ hg hg2 hg0 hbad) hN hA hK hS hP hD rfl 0 (r := (RX2, TX2, 7)) rfl rfl (cwV 2 hts gX2_coughsOf_X2_guest rfl rfl rfl (by decide +kernel) ⟨Nat.le_of_ble_eq_true rfl, Nat.le_of_ble_eq_true rfl⟩) rfl hl.1 rfl (Nat.le_of_ble_eq_true rfl) dX2_coughsOf_4 ⟨Nat.zero_le _, Nat.zero_le _⟩ (fun r_4 u_4 H locs hw hP hD hS => ?_)
  have hw : r_4 = 0 := hw
  subst hw
  have hP : va_P D vwCl (MC cI b (upd g 0 1) nw kp) H := hP
  have hD : va_D A (MC cI b (upd g 0 1) nw kp) := hD
  exact wRi hQ hx hb hr hlocks hP hD hS dX2_coughsOf_7 () (rfl) rfl
abbrev rmX2_unsaidBy : Room := { frames := 3, cells := 0, slots := 0, locals := 65 }
set_option maxRecDepth 100000 in
set_option maxHeartbeats 4000000 in
theorem mX2_unsaidBy (l : Launch) (D : va_G) (cI : ClassId) (b : Nat → Nat) (g nw kp : Nat → Int32) (gg x : Nat) (sz : Nat) (hg : g 1 = nI gg) (hg2 : gg ≤ 10) (hg0 : 0 < gg) (ux : x < gg) : wCt l yX2_unsaidBy wsX2_unsaidBy rmX2_unsaidBy D [(cI, .int)] [.ref (b 0), .int (nI x)] (MC cI b g nw kp) sz 0 0 (wQi D (fun v (_ : Unit) => v = nw (38 + x)) (fun _ : Unit => MC cI b (upd g 0 0) nw kp)) := by
  refine wMet cX2_unsaidBy 2 (some .int) (by decide) rfl (Nat.le_of_ble_eq_true rfl) ?_
  intro p e s m args below meth c A Q ls hQ hx hb hr hml hown hlocks hin hts hN hP hK hD hA hS hl
  have hl : lv_has ls 2 [(0, .ref (b 0)), (1, .int (nI x))] := hl
  have hown : s.vm.findClass RX2 = some m.cls := hown
  refine lv_aload_n hx hb dX2_unsaidBy_0 rfl (lv_at hl 0 rfl) ?_
  refine lv_iload_n hx hb dX2_unsaidBy_1 rfl (lv_at hl 1 rfl) ?_
  refine lv_bipush (v := 38) hx hb dX2_unsaidBy_2 (by decide) ?_
  refine wCVi (pre := ([] : va_W)) (Wc := MC cI b g nw kp) (suf := ([] : va_W)) (As := [.int (nI x), .int 38]) (rest := []) ⟨hx, hb, hml, hown, hts⟩ (mX2_guest l D cI b g nw kp gg x 38 _ hg hg2 hg0 ux (by decide)) hN hA hK hS hP hD rfl 0 (r := (RX2, TX2, 7)) rfl rfl (cwV 2 hts gX2_unsaidBy_X2_guest rfl rfl rfl (by decide +kernel) ⟨Nat.le_of_ble_eq_true rfl, Nat.le_of_ble_eq_true rfl⟩) rfl hl.1 rfl (Nat.le_of_ble_eq_true rfl) dX2_unsaidBy_4 ⟨Nat.zero_le _, Nat.zero_le _⟩ (fun r_4 u_4 H locs hw hP hD hS => ?_)
  have hw : r_4 = nw (38 + x) := hw
  subst hw
  have hP : va_P D vwCl (MC cI b (upd g 0 0) nw kp) H := hP
  have hD : va_D A (MC cI b (upd g 0 0) nw kp) := hD
  exact wRi hQ hx hb hr hlocks hP hD hS dX2_unsaidBy_7 () (rfl) rfl
abbrev rmX2_unsaidBy1 : Room := { frames := 3, cells := 0, slots := 0, locals := 65 }
set_option maxRecDepth 100000 in
set_option maxHeartbeats 4000000 in
theorem mX2_unsaidBy1 (l : Launch) (D : va_G) (cI : ClassId) (b : Nat → Nat) (g nw kp : Nat → Int32) (gg : Nat) (x : Int32) (sz : Nat) (hg : g 1 = nI gg) (hg2 : gg ≤ 10) (hg0 : 0 < gg) (hbad : ¬ (0 ≤ x ∧ x < nI gg)) : wCt l yX2_unsaidBy wsX2_unsaidBy rmX2_unsaidBy1 D [(cI, .int)] [.ref (b 0), .int x] (MC cI b g nw kp) sz 0 0 (wQi D (fun v (_ : Unit) => v = 0) (fun _ : Unit => MC cI b (upd g 0 1) nw kp)) := by
  refine wMet cX2_unsaidBy 2 (some .int) (by decide) rfl (Nat.le_of_ble_eq_true rfl) ?_
  intro p e s m args below meth c A Q ls hQ hx hb hr hml hown hlocks hin hts hN hP hK hD hA hS hl
  have hl : lv_has ls 2 [(0, .ref (b 0)), (1, .int x)] := hl
  have hown : s.vm.findClass RX2 = some m.cls := hown
  refine lv_aload_n hx hb dX2_unsaidBy_0 rfl (lv_at hl 0 rfl) ?_
  refine lv_iload_n hx hb dX2_unsaidBy_1 rfl (lv_at hl 1 rfl) ?_
  refine lv_bipush (v := 38) hx hb dX2_unsaidBy_2 (by decide) ?_
  refine wCVi (pre := ([] : va_W)) (Wc := MC cI b g nw kp) (suf := ([] : va_W)) (As := [.int x, .int 38]) (rest := []) ⟨hx, hb, hml, hown, hts⟩ (mX2_guest1 l D cI b g nw kp gg x 38 _ hg hg2 hg0 hbad) hN hA hK hS hP hD rfl 0 (r := (RX2, TX2, 7)) rfl rfl (cwV 2 hts gX2_unsaidBy_X2_guest rfl rfl rfl (by decide +kernel) ⟨Nat.le_of_ble_eq_true rfl, Nat.le_of_ble_eq_true rfl⟩) rfl hl.1 rfl (Nat.le_of_ble_eq_true rfl) dX2_unsaidBy_4 ⟨Nat.zero_le _, Nat.zero_le _⟩ (fun r_4 u_4 H locs hw hP hD hS => ?_)
  have hw : r_4 = 0 := hw
  subst hw
  have hP : va_P D vwCl (MC cI b (upd g 0 1) nw kp) H := hP
  have hD : va_D A (MC cI b (upd g 0 1) nw kp) := hD
  exact wRi hQ hx hb hr hlocks hP hD hS dX2_unsaidBy_7 () (rfl) rfl
abbrev rmX2_seatsApart : Room := { frames := 2, cells := 0, slots := 0, locals := 44 }
set_option maxRecDepth 100000 in
set_option maxHeartbeats 4000000 in
theorem mX2_seatsApart (l : Launch) (D : va_G) (cI : ClassId) (b : Nat → Nat) (g nw kp : Nat → Int32) (gg x y : Nat) (sz : Nat) (hg : g 1 = nI gg) (hg2 : gg ≤ 10) (hg0 : 0 < gg) (ux : x < gg) (uy : y < gg) : wCt l yX2_seatsApart wsX2_seatsApart rmX2_seatsApart D [(cI, .int)] [.ref (b 0), .int (nI x), .int (nI y)] (MC cI b g nw kp) sz 0 0 (wQi D (fun v (_ : Unit) => v = dSeats (g 1) (nI x) (nI y)) (fun _ : Unit => MC cI b (upd g 0 0) nw kp)) := by
  refine wMet cX2_seatsApart 3 (some .int) (by decide) rfl (Nat.le_of_ble_eq_true rfl) ?_
  intro p e s m args below meth c A Q ls hQ hx hb hr hml hown hlocks hin hts hN hP hK hD hA hS hl
  have hl : lv_has ls 3 [(0, .ref (b 0)), (1, .int (nI x)), (2, .int (nI y))] := hl
  have hown : s.vm.findClass RX2 = some m.cls := hown
  have hw2 : ∀ w ∈ wsX20, w.before args s = true := fun w h => hts w (List.mem_cons_of_mem _ (List.mem_append_right _ h))
  have k26 := hts (.fieldLink RX2 26 "PauseLedgerModel" "thrown" "I") (by decide +kernel)
  refine lv_aload_n hx hb dX2_seatsApart_0 rfl (lv_at hl 0 rfl) ?_
  refine lv_iconst (v := 0) hx hb dX2_seatsApart_1 (by decide) ?_
  refine va_put (D := D) (ci := 2) (v := .int 0) (ty := .int) (C := RX2) (T := TX2) (N := 7) hx hb hw2 (fun _ h => h) tyX2 tyX2_ok nmX2 hown hK hP hD hS 0 rfl rfl 0 (by decide) k26 (fun _ h9 => h9) rfl (by decide +kernel) rfl rfl (Nat.le_of_ble_eq_true rfl) dX2_seatsApart_2 (fun H locs hP hD hS => ?_)
  have hP : va_P D vwCl (MC cI b (upd g 0 0) nw kp) H := hP
  have hD : va_D A (MC cI b (upd g 0 0) nw kp) := hD
  refine lv_aload_n hx hb dX2_seatsApart_5 rfl (lv_at hl 0 rfl) ?_
  refine lv_iload_n hx hb dX2_seatsApart_6 rfl (lv_at hl 1 rfl) ?_
  refine wCVi (pre := ([] : va_W)) (Wc := MC cI b (upd g 0 0) nw kp) (suf := ([] : va_W)) (As := [.int (nI x)]) (rest := []) ⟨hx, hb, hml, hown, hts⟩ (mX2_isGuest l D cI b (upd g 0 0) nw kp (nI x) _) hN hA hK hS hP hD rfl 0 (r := (RX2, TX2, 7)) rfl rfl (cwV 1 hts gX2_seatsApart_X2_isGuest rfl rfl rfl (by decide +kernel) ⟨Nat.le_of_ble_eq_true rfl, Nat.le_of_ble_eq_true rfl⟩) rfl hl.1 rfl (Nat.le_of_ble_eq_true rfl) dX2_seatsApart_7 ⟨Nat.zero_le _, Nat.zero_le _⟩ (fun r_7 u_7 H locs hw hP hD hS => ?_)
  have hw : r_7 = mIn (nI x) 0 (g 1 - 1) := hw
  subst hw
  have hP : va_P D vwCl (MC cI b (upd g 0 0) nw kp) H := hP
  have hD : va_D A (MC cI b (upd g 0 0) nw kp) := hD
  refine lv_if_eq (tgt := 30) hx hb dX2_seatsApart_10 (by decide) (fun h9 => absurd h9 (mGT hg ux hg2)) (fun c_10 => ?_)
  refine lv_aload_n hx hb dX2_seatsApart_13 rfl (lv_at hl 0 rfl) ?_
  refine lv_iload_n hx hb dX2_seatsApart_14 rfl (lv_at hl 2 rfl) ?_
  refine wCVi (pre := ([] : va_W)) (Wc := MC cI b (upd g 0 0) nw kp) (suf := ([] : va_W)) (As := [.int (nI y)]) (rest := []) ⟨hx, hb, hml, hown, hts⟩ (mX2_isGuest l D cI b (upd g 0 0) nw kp (nI y) _) hN hA hK hS hP hD rfl 0 (r := (RX2, TX2, 7)) rfl rfl (cwV 1 hts gX2_seatsApart_X2_isGuest rfl rfl rfl (by decide +kernel) ⟨Nat.le_of_ble_eq_true rfl, Nat.le_of_ble_eq_true rfl⟩) rfl hl.1 rfl (Nat.le_of_ble_eq_true rfl) dX2_seatsApart_15 ⟨Nat.zero_le _, Nat.zero_le _⟩ (fun r_15 u_15 H locs hw hP hD hS => ?_)
  have hw : r_15 = mIn (nI y) 0 (g 1 - 1) := hw
  subst hw
  have hP : va_P D vwCl (MC cI b (upd g 0 0) nw kp) H := hP
  have hD : va_D A (MC cI b (upd g 0 0) nw kp) := hD
  refine lv_if_eq (tgt := 30) hx hb dX2_seatsApart_18 (by decide) (fun h9 => absurd h9 (mGT hg uy hg2)) (fun c_18 => ?_)
  refine lv_aload_n hx hb dX2_seatsApart_21 rfl (lv_at hl 0 rfl) ?_
  refine lv_iload_n hx hb dX2_seatsApart_22 rfl (lv_at hl 1 rfl) ?_
  refine lv_iload_n hx hb dX2_seatsApart_23 rfl (lv_at hl 2 rfl) ?_
  refine wCVi (pre := ([] : va_W)) (Wc := MC cI b (upd g 0 0) nw kp) (suf := ([] : va_W)) (As := [.int (nI x), .int (nI y)]) (rest := []) ⟨hx, hb, hml, hown, hts⟩ (mX2_apart l D cI b (upd g 0 0) nw kp (nI x) (nI y) _) hN hA hK hS hP hD rfl 0 (r := (RX2, TX2, 7)) rfl rfl (cwV 2 hts gX2_seatsApart_X2_apart rfl rfl rfl (by decide +kernel) ⟨Nat.le_of_ble_eq_true rfl, Nat.le_of_ble_eq_true rfl⟩) rfl hl.1 rfl (Nat.le_of_ble_eq_true rfl) dX2_seatsApart_24 ⟨Nat.zero_le _, Nat.zero_le _⟩ (fun r_24 u_24 H locs hw hP hD hS => ?_)
  have hw : r_24 = dSeats (g 1) (nI x) (nI y) := hw
  subst hw
  have hP : va_P D vwCl (MC cI b (upd g 0 0) nw kp) H := hP
  have hD : va_D A (MC cI b (upd g 0 0) nw kp) := hD
  refine lv_goto (tgt := 35) hx hb dX2_seatsApart_27 (by decide) ?_
  exact wRi hQ hx hb hr hlocks hP hD hS dX2_seatsApart_35 () (rfl) rfl
abbrev rmX2_seatsApart1 : Room := { frames := 2, cells := 0, slots := 0, locals := 43 }
set_option maxRecDepth 100000 in
set_option maxHeartbeats 4000000 in
theorem mX2_seatsApart1 (l : Launch) (D : va_G) (cI : ClassId) (b : Nat → Nat) (g nw kp : Nat → Int32) (gg : Nat) (x y : Int32) (sz : Nat) (hg : g 1 = nI gg) (hg2 : gg ≤ 10) (hg0 : 0 < gg) (hbad : ¬ (0 ≤ x ∧ x < nI gg) ∨ ¬ (0 ≤ y ∧ y < nI gg)) : wCt l yX2_seatsApart wsX2_seatsApart rmX2_seatsApart1 D [(cI, .int)] [.ref (b 0), .int x, .int y] (MC cI b g nw kp) sz 0 0 (wQi D (fun v (_ : Unit) => v = 0) (fun _ : Unit => MC cI b (upd g 0 1) nw kp)) := by
  refine wMet cX2_seatsApart 3 (some .int) (by decide) rfl (Nat.le_of_ble_eq_true rfl) ?_
  intro p e s m args below meth c A Q ls hQ hx hb hr hml hown hlocks hin hts hN hP hK hD hA hS hl
  have hl : lv_has ls 3 [(0, .ref (b 0)), (1, .int x), (2, .int y)] := hl
  have hown : s.vm.findClass RX2 = some m.cls := hown
  have hw2 : ∀ w ∈ wsX20, w.before args s = true := fun w h => hts w (List.mem_cons_of_mem _ (List.mem_append_right _ h))
  have k26 := hts (.fieldLink RX2 26 "PauseLedgerModel" "thrown" "I") (by decide +kernel)
  refine lv_aload_n hx hb dX2_seatsApart_0 rfl (lv_at hl 0 rfl) ?_
  refine lv_iconst (v := 0) hx hb dX2_seatsApart_1 (by decide) ?_
  refine va_put (D := D) (ci := 2) (v := .int 0) (ty := .int) (C := RX2) (T := TX2) (N := 7) hx hb hw2 (fun _ h => h) tyX2 tyX2_ok nmX2 hown hK hP hD hS 0 rfl rfl 0 (by decide) k26 (fun _ h9 => h9) rfl (by decide +kernel) rfl rfl (Nat.le_of_ble_eq_true rfl) dX2_seatsApart_2 (fun H locs hP hD hS => ?_)
  have hP : va_P D vwCl (MC cI b (upd g 0 0) nw kp) H := hP
  have hD : va_D A (MC cI b (upd g 0 0) nw kp) := hD
  refine lv_aload_n hx hb dX2_seatsApart_5 rfl (lv_at hl 0 rfl) ?_
  refine lv_iload_n hx hb dX2_seatsApart_6 rfl (lv_at hl 1 rfl) ?_
  refine wCVi (pre := ([] : va_W)) (Wc := MC cI b (upd g 0 0) nw kp) (suf := ([] : va_W)) (As := [.int x]) (rest := []) ⟨hx, hb, hml, hown, hts⟩ (mX2_isGuest l D cI b (upd g 0 0) nw kp x _) hN hA hK hS hP hD rfl 0 (r := (RX2, TX2, 7)) rfl rfl (cwV 1 hts gX2_seatsApart_X2_isGuest rfl rfl rfl (by decide +kernel) ⟨Nat.le_of_ble_eq_true rfl, Nat.le_of_ble_eq_true rfl⟩) rfl hl.1 rfl (Nat.le_of_ble_eq_true rfl) dX2_seatsApart_7 ⟨Nat.zero_le _, Nat.zero_le _⟩ (fun r_7 u_7 H locs hw hP hD hS => ?_)
  have hw : r_7 = mIn x 0 (g 1 - 1) := hw
  subst hw
  have hP : va_P D vwCl (MC cI b (upd g 0 0) nw kp) H := hP
  have hD : va_D A (MC cI b (upd g 0 0) nw kp) := hD
  refine lv_if_eq (tgt := 30) hx hb dX2_seatsApart_10 (by decide) (fun c_10 => ?_) (fun c_10 => ?_)
  · refine lv_aload_n hx hb dX2_seatsApart_30 rfl (lv_at hl 0 rfl) ?_
    refine lv_iconst (v := 1) hx hb dX2_seatsApart_31 (by decide) ?_
    refine wCVi (pre := ([] : va_W)) (Wc := MC cI b (upd g 0 0) nw kp) (suf := ([] : va_W)) (As := [.int 1]) (rest := []) ⟨hx, hb, hml, hown, hts⟩ (mX2_fail l D cI b (upd g 0 0) nw kp 1 _) hN hA hK hS hP hD rfl 0 (r := (RX2, TX2, 7)) rfl rfl (cwV 1 hts gX2_seatsApart_X2_fail rfl rfl rfl (by decide +kernel) ⟨Nat.le_of_ble_eq_true rfl, Nat.le_of_ble_eq_true rfl⟩) rfl hl.1 rfl (Nat.le_of_ble_eq_true rfl) dX2_seatsApart_32 ⟨Nat.zero_le _, Nat.zero_le _⟩ (fun r_32 u_32 H locs hw hP hD hS => ?_)
    have hw : r_32 = 0 := hw
    subst hw
    have hP : va_P D vwCl (MC cI b (upd g 0 1) nw kp) H := hP
    have hD : va_D A (MC cI b (upd g 0 1) nw kp) := hD
    exact wRi hQ hx hb hr hlocks hP hD hS dX2_seatsApart_35 () (rfl) rfl
  · refine lv_aload_n hx hb dX2_seatsApart_13 rfl (lv_at hl 0 rfl) ?_
    refine lv_iload_n hx hb dX2_seatsApart_14 rfl (lv_at hl 2 rfl) ?_
    refine wCVi (pre := ([] : va_W)) (Wc := MC cI b (upd g 0 0) nw kp) (suf := ([] : va_W)) (As := [.int y]) (rest := []) ⟨hx, hb, hml, hown, hts⟩ (mX2_isGuest l D cI b (upd g 0 0) nw kp y _) hN hA hK hS hP hD rfl 0 (r := (RX2, TX2, 7)) rfl rfl (cwV 1 hts gX2_seatsApart_X2_isGuest rfl rfl rfl (by decide +kernel) ⟨Nat.le_of_ble_eq_true rfl, Nat.le_of_ble_eq_true rfl⟩) rfl hl.1 rfl (Nat.le_of_ble_eq_true rfl) dX2_seatsApart_15 ⟨Nat.zero_le _, Nat.zero_le _⟩ (fun r_15 u_15 H locs hw hP hD hS => ?_)
    have hw : r_15 = mIn y 0 (g 1 - 1) := hw
    subst hw
    have hP : va_P D vwCl (MC cI b (upd g 0 0) nw kp) H := hP
    have hD : va_D A (MC cI b (upd g 0 0) nw kp) := hD
    refine lv_if_eq (tgt := 30) hx hb dX2_seatsApart_18 (by decide) (fun c_18 => ?_) (fun h9 => absurd (mGF hg hg0 hg2 (hbad.resolve_left (fun h => c_10 (mGF hg hg0 hg2 h)))) h9)
    refine lv_aload_n hx hb dX2_seatsApart_30 rfl (lv_at hl 0 rfl) ?_
    refine lv_iconst (v := 1) hx hb dX2_seatsApart_31 (by decide) ?_
    refine wCVi (pre := ([] : va_W)) (Wc := MC cI b (upd g 0 0) nw kp) (suf := ([] : va_W)) (As := [.int 1]) (rest := []) ⟨hx, hb, hml, hown, hts⟩ (mX2_fail l D cI b (upd g 0 0) nw kp 1 _) hN hA hK hS hP hD rfl 0 (r := (RX2, TX2, 7)) rfl rfl (cwV 1 hts gX2_seatsApart_X2_fail rfl rfl rfl (by decide +kernel) ⟨Nat.le_of_ble_eq_true rfl, Nat.le_of_ble_eq_true rfl⟩) rfl hl.1 rfl (Nat.le_of_ble_eq_true rfl) dX2_seatsApart_32 ⟨Nat.zero_le _, Nat.zero_le _⟩ (fun r_32 u_32 H locs hw hP hD hS => ?_)
    have hw : r_32 = 0 := hw
    subst hw
    have hP : va_P D vwCl (MC cI b (upd g 0 1) nw kp) H := hP
    have hD : va_D A (MC cI b (upd g 0 1) nw kp) := hD
    exact wRi hQ hx hb hr hlocks hP hD hS dX2_seatsApart_35 () (rfl) rfl
abbrev rmX2_flight : Room := { frames := 2, cells := 0, slots := 0, locals := 43 }
set_option maxRecDepth 100000 in
set_option maxHeartbeats 4000000 in
theorem mX2_flight (l : Launch) (D : va_G) (cI : ClassId) (b : Nat → Nat) (g nw kp : Nat → Int32) (gg x y wt : Nat) (sz : Nat) (hg : g 1 = nI gg) (hg2 : gg ≤ 10) (hg0 : 0 < gg) (ux : x < gg) (uy : y < gg) (hw : wt + 100 ≤ 348) : wCt l yX2_flight wsX2_flight rmX2_flight D [(cI, .int)] [.ref (b 0), .int (nI x), .int (nI y), .int (nI wt)] (MC cI b g nw kp) sz 0 0 (wQi D (fun v (_ : Unit) => v = nw (wt + (10 * x + y))) (fun _ : Unit => MC cI b (upd g 0 0) nw kp)) := by
  refine wMet cX2_flight 4 (some .int) (by decide) rfl (Nat.le_of_ble_eq_true rfl) ?_
  intro p e s m args below meth c A Q ls hQ hx hb hr hml hown hlocks hin hts hN hP hK hD hA hS hl
  have hl : lv_has ls 4 [(0, .ref (b 0)), (1, .int (nI x)), (2, .int (nI y)), (3, .int (nI wt))] := hl
  have hown : s.vm.findClass RX2 = some m.cls := hown
  have hw2 : ∀ w ∈ wsX20, w.before args s = true := fun w h => hts w (List.mem_cons_of_mem _ (List.mem_append_right _ h))
  have k16 := hts (.fieldLink RX2 16 "PauseLedgerModel" "now" "[I") (by decide +kernel)
  have k26 := hts (.fieldLink RX2 26 "PauseLedgerModel" "thrown" "I") (by decide +kernel)
  refine lv_aload_n hx hb dX2_flight_0 rfl (lv_at hl 0 rfl) ?_
  refine lv_iconst (v := 0) hx hb dX2_flight_1 (by decide) ?_
  refine va_put (D := D) (ci := 2) (v := .int 0) (ty := .int) (C := RX2) (T := TX2) (N := 7) hx hb hw2 (fun _ h => h) tyX2 tyX2_ok nmX2 hown hK hP hD hS 0 rfl rfl 0 (by decide) k26 (fun _ h9 => h9) rfl (by decide +kernel) rfl rfl (Nat.le_of_ble_eq_true rfl) dX2_flight_2 (fun H locs hP hD hS => ?_)
  have hP : va_P D vwCl (MC cI b (upd g 0 0) nw kp) H := hP
  have hD : va_D A (MC cI b (upd g 0 0) nw kp) := hD
  refine lv_aload_n hx hb dX2_flight_5 rfl (lv_at hl 0 rfl) ?_
  refine lv_iload_n hx hb dX2_flight_6 rfl (lv_at hl 1 rfl) ?_
  refine wCVi (pre := ([] : va_W)) (Wc := MC cI b (upd g 0 0) nw kp) (suf := ([] : va_W)) (As := [.int (nI x)]) (rest := []) ⟨hx, hb, hml, hown, hts⟩ (mX2_isGuest l D cI b (upd g 0 0) nw kp (nI x) _) hN hA hK hS hP hD rfl 0 (r := (RX2, TX2, 7)) rfl rfl (cwV 1 hts gX2_flight_X2_isGuest rfl rfl rfl (by decide +kernel) ⟨Nat.le_of_ble_eq_true rfl, Nat.le_of_ble_eq_true rfl⟩) rfl hl.1 rfl (Nat.le_of_ble_eq_true rfl) dX2_flight_7 ⟨Nat.zero_le _, Nat.zero_le _⟩ (fun r_7 u_7 H locs hw hP hD hS => ?_)
  have hw : r_7 = mIn (nI x) 0 (g 1 - 1) := hw
  subst hw
  have hP : va_P D vwCl (MC cI b (upd g 0 0) nw kp) H := hP
  have hD : va_D A (MC cI b (upd g 0 0) nw kp) := hD
  refine lv_if_eq (tgt := 36) hx hb dX2_flight_10 (by decide) (fun h9 => absurd h9 (mGT hg ux hg2)) (fun c_10 => ?_)
  refine lv_aload_n hx hb dX2_flight_13 rfl (lv_at hl 0 rfl) ?_
  refine lv_iload_n hx hb dX2_flight_14 rfl (lv_at hl 2 rfl) ?_
  refine wCVi (pre := ([] : va_W)) (Wc := MC cI b (upd g 0 0) nw kp) (suf := ([] : va_W)) (As := [.int (nI y)]) (rest := []) ⟨hx, hb, hml, hown, hts⟩ (mX2_isGuest l D cI b (upd g 0 0) nw kp (nI y) _) hN hA hK hS hP hD rfl 0 (r := (RX2, TX2, 7)) rfl rfl (cwV 1 hts gX2_flight_X2_isGuest rfl rfl rfl (by decide +kernel) ⟨Nat.le_of_ble_eq_true rfl, Nat.le_of_ble_eq_true rfl⟩) rfl hl.1 rfl (Nat.le_of_ble_eq_true rfl) dX2_flight_15 ⟨Nat.zero_le _, Nat.zero_le _⟩ (fun r_15 u_15 H locs hw hP hD hS => ?_)
  have hw : r_15 = mIn (nI y) 0 (g 1 - 1) := hw
  subst hw
  have hP : va_P D vwCl (MC cI b (upd g 0 0) nw kp) H := hP
  have hD : va_D A (MC cI b (upd g 0 0) nw kp) := hD
  refine lv_if_eq (tgt := 36) hx hb dX2_flight_18 (by decide) (fun h9 => absurd h9 (mGT hg uy hg2)) (fun c_18 => ?_)
  refine lv_aload_n hx hb dX2_flight_21 rfl (lv_at hl 0 rfl) ?_
  refine va_get (D := D) (ci := 2) (v := .ref (b 1)) (C := RX2) (T := TX2) (N := 7) hx hb hw2 (fun _ h => h) hown hK hP 0 rfl rfl 3 (by decide) k16 (fun _ h9 => h9) rfl dX2_flight_22 ?_
  refine lv_iload_n hx hb dX2_flight_25 rfl (lv_at hl 3 rfl) ?_
  refine lv_iload_n hx hb dX2_flight_26 rfl (lv_at hl 1 rfl) ?_
  refine lv_iload_n hx hb dX2_flight_27 rfl (lv_at hl 2 rfl) ?_
  refine wCSi (pre := ([] : va_W)) (Wc := ([] : va_W)) (suf := MC cI b (upd g 0 0) nw kp) (As := [.int (nI x), .int (nI y)]) (rest := [.int (nI wt), .ref (b 1)]) ⟨hx, hb, hml, hown, hts⟩ (mX2_pair l D cI x y _) hN hA hK hS hP hD rfl (va_cwS 2 hts gX2_flight_X2_pair rfl rfl rfl (by decide +kernel) ⟨Nat.le_of_ble_eq_true rfl, Nat.le_of_ble_eq_true rfl⟩) rfl hl.1 rfl (Nat.le_of_ble_eq_true rfl) dX2_flight_28 ⟨Nat.zero_le _, Nat.zero_le _⟩ (fun r_28 u_28 H locs hw hP hD hS => ?_)
  have hw : r_28 = nI (10 * x + y) := hw
  subst hw
  have hP : va_P D vwCl (MC cI b (upd g 0 0) nw kp) H := hP
  have hD : va_D A (MC cI b (upd g 0 0) nw kp) := hD
  refine lv_iadd hx hb dX2_flight_31 ?_
  refine wTop (z := nI (wt + (10 * x + y))) (nI_add wt (10 * x + y)) ?_
  refine wIald hx hb hK hP 1 0 rfl rfl (wt + (10 * x + y)) rfl (by omega) (by decide) dX2_flight_32 ?_
  refine lv_goto (tgt := 41) hx hb dX2_flight_33 (by decide) ?_
  exact wRi hQ hx hb hr hlocks hP hD hS dX2_flight_41 () (rfl) rfl
abbrev rmX2_flight1 : Room := { frames := 2, cells := 0, slots := 0, locals := 43 }
set_option maxRecDepth 100000 in
set_option maxHeartbeats 4000000 in
theorem mX2_flight1 (l : Launch) (D : va_G) (cI : ClassId) (b : Nat → Nat) (g nw kp : Nat → Int32) (gg : Nat) (x y wt : Int32) (sz : Nat) (hg : g 1 = nI gg) (hg2 : gg ≤ 10) (hg0 : 0 < gg) (hbad : ¬ (0 ≤ x ∧ x < nI gg) ∨ ¬ (0 ≤ y ∧ y < nI gg)) : wCt l yX2_flight wsX2_flight rmX2_flight1 D [(cI, .int)] [.ref (b 0), .int x, .int y, .int wt] (MC cI b g nw kp) sz 0 0 (wQi D (fun v (_ : Unit) => v = 0) (fun _ : Unit => MC cI b (upd g 0 1) nw kp)) := by
  refine wMet cX2_flight 4 (some .int) (by decide) rfl (Nat.le_of_ble_eq_true rfl) ?_
  intro p e s m args below meth c A Q ls hQ hx hb hr hml hown hlocks hin hts hN hP hK hD hA hS hl
  have hl : lv_has ls 4 [(0, .ref (b 0)), (1, .int x), (2, .int y), (3, .int wt)] := hl
  have hown : s.vm.findClass RX2 = some m.cls := hown
  have hw2 : ∀ w ∈ wsX20, w.before args s = true := fun w h => hts w (List.mem_cons_of_mem _ (List.mem_append_right _ h))
  have k26 := hts (.fieldLink RX2 26 "PauseLedgerModel" "thrown" "I") (by decide +kernel)
  refine lv_aload_n hx hb dX2_flight_0 rfl (lv_at hl 0 rfl) ?_
  refine lv_iconst (v := 0) hx hb dX2_flight_1 (by decide) ?_
  refine va_put (D := D) (ci := 2) (v := .int 0) (ty := .int) (C := RX2) (T := TX2) (N := 7) hx hb hw2 (fun _ h => h) tyX2 tyX2_ok nmX2 hown hK hP hD hS 0 rfl rfl 0 (by decide) k26 (fun _ h9 => h9) rfl (by decide +kernel) rfl rfl (Nat.le_of_ble_eq_true rfl) dX2_flight_2 (fun H locs hP hD hS => ?_)
  have hP : va_P D vwCl (MC cI b (upd g 0 0) nw kp) H := hP
  have hD : va_D A (MC cI b (upd g 0 0) nw kp) := hD
  refine lv_aload_n hx hb dX2_flight_5 rfl (lv_at hl 0 rfl) ?_
  refine lv_iload_n hx hb dX2_flight_6 rfl (lv_at hl 1 rfl) ?_
  refine wCVi (pre := ([] : va_W)) (Wc := MC cI b (upd g 0 0) nw kp) (suf := ([] : va_W)) (As := [.int x]) (rest := []) ⟨hx, hb, hml, hown, hts⟩ (mX2_isGuest l D cI b (upd g 0 0) nw kp x _) hN hA hK hS hP hD rfl 0 (r := (RX2, TX2, 7)) rfl rfl (cwV 1 hts gX2_flight_X2_isGuest rfl rfl rfl (by decide +kernel) ⟨Nat.le_of_ble_eq_true rfl, Nat.le_of_ble_eq_true rfl⟩) rfl hl.1 rfl (Nat.le_of_ble_eq_true rfl) dX2_flight_7 ⟨Nat.zero_le _, Nat.zero_le _⟩ (fun r_7 u_7 H locs hw hP hD hS => ?_)
  have hw : r_7 = mIn x 0 (g 1 - 1) := hw
  subst hw
  have hP : va_P D vwCl (MC cI b (upd g 0 0) nw kp) H := hP
  have hD : va_D A (MC cI b (upd g 0 0) nw kp) := hD
  refine lv_if_eq (tgt := 36) hx hb dX2_flight_10 (by decide) (fun c_10 => ?_) (fun c_10 => ?_)
  · refine lv_aload_n hx hb dX2_flight_36 rfl (lv_at hl 0 rfl) ?_
    refine lv_iconst (v := 1) hx hb dX2_flight_37 (by decide) ?_
    refine wCVi (pre := ([] : va_W)) (Wc := MC cI b (upd g 0 0) nw kp) (suf := ([] : va_W)) (As := [.int 1]) (rest := []) ⟨hx, hb, hml, hown, hts⟩ (mX2_fail l D cI b (upd g 0 0) nw kp 1 _) hN hA hK hS hP hD rfl 0 (r := (RX2, TX2, 7)) rfl rfl (cwV 1 hts gX2_flight_X2_fail rfl rfl rfl (by decide +kernel) ⟨Nat.le_of_ble_eq_true rfl, Nat.le_of_ble_eq_true rfl⟩) rfl hl.1 rfl (Nat.le_of_ble_eq_true rfl) dX2_flight_38 ⟨Nat.zero_le _, Nat.zero_le _⟩ (fun r_38 u_38 H locs hw hP hD hS => ?_)
    have hw : r_38 = 0 := hw
    subst hw
    have hP : va_P D vwCl (MC cI b (upd g 0 1) nw kp) H := hP
    have hD : va_D A (MC cI b (upd g 0 1) nw kp) := hD
    exact wRi hQ hx hb hr hlocks hP hD hS dX2_flight_41 () (rfl) rfl
  · refine lv_aload_n hx hb dX2_flight_13 rfl (lv_at hl 0 rfl) ?_
    refine lv_iload_n hx hb dX2_flight_14 rfl (lv_at hl 2 rfl) ?_
    refine wCVi (pre := ([] : va_W)) (Wc := MC cI b (upd g 0 0) nw kp) (suf := ([] : va_W)) (As := [.int y]) (rest := []) ⟨hx, hb, hml, hown, hts⟩ (mX2_isGuest l D cI b (upd g 0 0) nw kp y _) hN hA hK hS hP hD rfl 0 (r := (RX2, TX2, 7)) rfl rfl (cwV 1 hts gX2_flight_X2_isGuest rfl rfl rfl (by decide +kernel) ⟨Nat.le_of_ble_eq_true rfl, Nat.le_of_ble_eq_true rfl⟩) rfl hl.1 rfl (Nat.le_of_ble_eq_true rfl) dX2_flight_15 ⟨Nat.zero_le _, Nat.zero_le _⟩ (fun r_15 u_15 H locs hw hP hD hS => ?_)
    have hw : r_15 = mIn y 0 (g 1 - 1) := hw
    subst hw
    have hP : va_P D vwCl (MC cI b (upd g 0 0) nw kp) H := hP
    have hD : va_D A (MC cI b (upd g 0 0) nw kp) := hD
    refine lv_if_eq (tgt := 36) hx hb dX2_flight_18 (by decide) (fun c_18 => ?_) (fun h9 => absurd (mGF hg hg0 hg2 (hbad.resolve_left (fun h => c_10 (mGF hg hg0 hg2 h)))) h9)
    refine lv_aload_n hx hb dX2_flight_36 rfl (lv_at hl 0 rfl) ?_
    refine lv_iconst (v := 1) hx hb dX2_flight_37 (by decide) ?_
    refine wCVi (pre := ([] : va_W)) (Wc := MC cI b (upd g 0 0) nw kp) (suf := ([] : va_W)) (As := [.int 1]) (rest := []) ⟨hx, hb, hml, hown, hts⟩ (mX2_fail l D cI b (upd g 0 0) nw kp 1 _) hN hA hK hS hP hD rfl 0 (r := (RX2, TX2, 7)) rfl rfl (cwV 1 hts gX2_flight_X2_fail rfl rfl rfl (by decide +kernel) ⟨Nat.le_of_ble_eq_true rfl, Nat.le_of_ble_eq_true rfl⟩) rfl hl.1 rfl (Nat.le_of_ble_eq_true rfl) dX2_flight_38 ⟨Nat.zero_le _, Nat.zero_le _⟩ (fun r_38 u_38 H locs hw hP hD hS => ?_)
    have hw : r_38 = 0 := hw
    subst hw
    have hP : va_P D vwCl (MC cI b (upd g 0 1) nw kp) H := hP
    have hD : va_D A (MC cI b (upd g 0 1) nw kp) := hD
    exact wRi hQ hx hb hr hlocks hP hD hS dX2_flight_41 () (rfl) rfl
abbrev rmX2_secondsToGo : Room := { frames := 3, cells := 0, slots := 0, locals := 66 }
set_option maxRecDepth 100000 in
set_option maxHeartbeats 4000000 in
theorem mX2_secondsToGo (l : Launch) (D : va_G) (cI : ClassId) (b : Nat → Nat) (g nw kp : Nat → Int32) (gg x y : Nat) (sz : Nat) (hg : g 1 = nI gg) (hg2 : gg ≤ 10) (hg0 : 0 < gg) (ux : x < gg) (uy : y < gg) : wCt l yX2_secondsToGo wsX2_secondsToGo rmX2_secondsToGo D [(cI, .int)] [.ref (b 0), .int (nI x), .int (nI y)] (MC cI b g nw kp) sz 0 0 (wQi D (fun v (_ : Unit) => v = nw (48 + (10 * x + y))) (fun _ : Unit => MC cI b (upd g 0 0) nw kp)) := by
  refine wMet cX2_secondsToGo 3 (some .int) (by decide) rfl (Nat.le_of_ble_eq_true rfl) ?_
  intro p e s m args below meth c A Q ls hQ hx hb hr hml hown hlocks hin hts hN hP hK hD hA hS hl
  have hl : lv_has ls 3 [(0, .ref (b 0)), (1, .int (nI x)), (2, .int (nI y))] := hl
  have hown : s.vm.findClass RX2 = some m.cls := hown
  refine lv_aload_n hx hb dX2_secondsToGo_0 rfl (lv_at hl 0 rfl) ?_
  refine lv_iload_n hx hb dX2_secondsToGo_1 rfl (lv_at hl 1 rfl) ?_
  refine lv_iload_n hx hb dX2_secondsToGo_2 rfl (lv_at hl 2 rfl) ?_
  refine lv_bipush (v := 48) hx hb dX2_secondsToGo_3 (by decide) ?_
  refine wCVi (pre := ([] : va_W)) (Wc := MC cI b g nw kp) (suf := ([] : va_W)) (As := [.int (nI x), .int (nI y), .int 48]) (rest := []) ⟨hx, hb, hml, hown, hts⟩ (mX2_flight l D cI b g nw kp gg x y 48 _ hg hg2 hg0 ux uy (by decide)) hN hA hK hS hP hD rfl 0 (r := (RX2, TX2, 7)) rfl rfl (cwV 3 hts gX2_secondsToGo_X2_flight rfl rfl rfl (by decide +kernel) ⟨Nat.le_of_ble_eq_true rfl, Nat.le_of_ble_eq_true rfl⟩) rfl hl.1 rfl (Nat.le_of_ble_eq_true rfl) dX2_secondsToGo_5 ⟨Nat.zero_le _, Nat.zero_le _⟩ (fun r_5 u_5 H locs hw hP hD hS => ?_)
  have hw : r_5 = nw (48 + (10 * x + y)) := hw
  subst hw
  have hP : va_P D vwCl (MC cI b (upd g 0 0) nw kp) H := hP
  have hD : va_D A (MC cI b (upd g 0 0) nw kp) := hD
  exact wRi hQ hx hb hr hlocks hP hD hS dX2_secondsToGo_8 () (rfl) rfl
abbrev rmX2_secondsToGo1 : Room := { frames := 3, cells := 0, slots := 0, locals := 66 }
set_option maxRecDepth 100000 in
set_option maxHeartbeats 4000000 in
theorem mX2_secondsToGo1 (l : Launch) (D : va_G) (cI : ClassId) (b : Nat → Nat) (g nw kp : Nat → Int32) (gg : Nat) (x y : Int32) (sz : Nat) (hg : g 1 = nI gg) (hg2 : gg ≤ 10) (hg0 : 0 < gg) (hbad : ¬ (0 ≤ x ∧ x < nI gg) ∨ ¬ (0 ≤ y ∧ y < nI gg)) : wCt l yX2_secondsToGo wsX2_secondsToGo rmX2_secondsToGo1 D [(cI, .int)] [.ref (b 0), .int x, .int y] (MC cI b g nw kp) sz 0 0 (wQi D (fun v (_ : Unit) => v = 0) (fun _ : Unit => MC cI b (upd g 0 1) nw kp)) := by
  refine wMet cX2_secondsToGo 3 (some .int) (by decide) rfl (Nat.le_of_ble_eq_true rfl) ?_
  intro p e s m args below meth c A Q ls hQ hx hb hr hml hown hlocks hin hts hN hP hK hD hA hS hl
  have hl : lv_has ls 3 [(0, .ref (b 0)), (1, .int x), (2, .int y)] := hl
  have hown : s.vm.findClass RX2 = some m.cls := hown
  refine lv_aload_n hx hb dX2_secondsToGo_0 rfl (lv_at hl 0 rfl) ?_
  refine lv_iload_n hx hb dX2_secondsToGo_1 rfl (lv_at hl 1 rfl) ?_
  refine lv_iload_n hx hb dX2_secondsToGo_2 rfl (lv_at hl 2 rfl) ?_
  refine lv_bipush (v := 48) hx hb dX2_secondsToGo_3 (by decide) ?_
  refine wCVi (pre := ([] : va_W)) (Wc := MC cI b g nw kp) (suf := ([] : va_W)) (As := [.int x, .int y, .int 48]) (rest := []) ⟨hx, hb, hml, hown, hts⟩ (mX2_flight1 l D cI b g nw kp gg x y 48 _ hg hg2 hg0 hbad) hN hA hK hS hP hD rfl 0 (r := (RX2, TX2, 7)) rfl rfl (cwV 3 hts gX2_secondsToGo_X2_flight rfl rfl rfl (by decide +kernel) ⟨Nat.le_of_ble_eq_true rfl, Nat.le_of_ble_eq_true rfl⟩) rfl hl.1 rfl (Nat.le_of_ble_eq_true rfl) dX2_secondsToGo_5 ⟨Nat.zero_le _, Nat.zero_le _⟩ (fun r_5 u_5 H locs hw hP hD hS => ?_)
  have hw : r_5 = 0 := hw
  subst hw
  have hP : va_P D vwCl (MC cI b (upd g 0 1) nw kp) H := hP
  have hD : va_D A (MC cI b (upd g 0 1) nw kp) := hD
  exact wRi hQ hx hb hr hlocks hP hD hS dX2_secondsToGo_8 () (rfl) rfl
abbrev rmX2_caughtBy : Room := { frames := 3, cells := 0, slots := 0, locals := 66 }
set_option maxRecDepth 100000 in
set_option maxHeartbeats 4000000 in
theorem mX2_caughtBy (l : Launch) (D : va_G) (cI : ClassId) (b : Nat → Nat) (g nw kp : Nat → Int32) (gg x y : Nat) (sz : Nat) (hg : g 1 = nI gg) (hg2 : gg ≤ 10) (hg0 : 0 < gg) (ux : x < gg) (uy : y < gg) : wCt l yX2_caughtBy wsX2_caughtBy rmX2_caughtBy D [(cI, .int)] [.ref (b 0), .int (nI x), .int (nI y)] (MC cI b g nw kp) sz 0 0 (wQi D (fun v (_ : Unit) => v = nw (248 + (10 * x + y))) (fun _ : Unit => MC cI b (upd g 0 0) nw kp)) := by
  refine wMet cX2_caughtBy 3 (some .int) (by decide) rfl (Nat.le_of_ble_eq_true rfl) ?_
  intro p e s m args below meth c A Q ls hQ hx hb hr hml hown hlocks hin hts hN hP hK hD hA hS hl
  have hl : lv_has ls 3 [(0, .ref (b 0)), (1, .int (nI x)), (2, .int (nI y))] := hl
  have hown : s.vm.findClass RX2 = some m.cls := hown
  refine lv_aload_n hx hb dX2_caughtBy_0 rfl (lv_at hl 0 rfl) ?_
  refine lv_iload_n hx hb dX2_caughtBy_1 rfl (lv_at hl 1 rfl) ?_
  refine lv_iload_n hx hb dX2_caughtBy_2 rfl (lv_at hl 2 rfl) ?_
  refine lv_sipush (v := 248) hx hb dX2_caughtBy_3 (by decide) ?_
  refine wCVi (pre := ([] : va_W)) (Wc := MC cI b g nw kp) (suf := ([] : va_W)) (As := [.int (nI x), .int (nI y), .int 248]) (rest := []) ⟨hx, hb, hml, hown, hts⟩ (mX2_flight l D cI b g nw kp gg x y 248 _ hg hg2 hg0 ux uy (by decide)) hN hA hK hS hP hD rfl 0 (r := (RX2, TX2, 7)) rfl rfl (cwV 3 hts gX2_caughtBy_X2_flight rfl rfl rfl (by decide +kernel) ⟨Nat.le_of_ble_eq_true rfl, Nat.le_of_ble_eq_true rfl⟩) rfl hl.1 rfl (Nat.le_of_ble_eq_true rfl) dX2_caughtBy_6 ⟨Nat.zero_le _, Nat.zero_le _⟩ (fun r_6 u_6 H locs hw hP hD hS => ?_)
  have hw : r_6 = nw (248 + (10 * x + y)) := hw
  subst hw
  have hP : va_P D vwCl (MC cI b (upd g 0 0) nw kp) H := hP
  have hD : va_D A (MC cI b (upd g 0 0) nw kp) := hD
  exact wRi hQ hx hb hr hlocks hP hD hS dX2_caughtBy_9 () (rfl) rfl
abbrev rmX2_caughtBy1 : Room := { frames := 3, cells := 0, slots := 0, locals := 66 }
set_option maxRecDepth 100000 in
set_option maxHeartbeats 4000000 in
theorem mX2_caughtBy1 (l : Launch) (D : va_G) (cI : ClassId) (b : Nat → Nat) (g nw kp : Nat → Int32) (gg : Nat) (x y : Int32) (sz : Nat) (hg : g 1 = nI gg) (hg2 : gg ≤ 10) (hg0 : 0 < gg) (hbad : ¬ (0 ≤ x ∧ x < nI gg) ∨ ¬ (0 ≤ y ∧ y < nI gg)) : wCt l yX2_caughtBy wsX2_caughtBy rmX2_caughtBy1 D [(cI, .int)] [.ref (b 0), .int x, .int y] (MC cI b g nw kp) sz 0 0 (wQi D (fun v (_ : Unit) => v = 0) (fun _ : Unit => MC cI b (upd g 0 1) nw kp)) := by
  refine wMet cX2_caughtBy 3 (some .int) (by decide) rfl (Nat.le_of_ble_eq_true rfl) ?_
  intro p e s m args below meth c A Q ls hQ hx hb hr hml hown hlocks hin hts hN hP hK hD hA hS hl
  have hl : lv_has ls 3 [(0, .ref (b 0)), (1, .int x), (2, .int y)] := hl
  have hown : s.vm.findClass RX2 = some m.cls := hown
  refine lv_aload_n hx hb dX2_caughtBy_0 rfl (lv_at hl 0 rfl) ?_
  refine lv_iload_n hx hb dX2_caughtBy_1 rfl (lv_at hl 1 rfl) ?_
  refine lv_iload_n hx hb dX2_caughtBy_2 rfl (lv_at hl 2 rfl) ?_
  refine lv_sipush (v := 248) hx hb dX2_caughtBy_3 (by decide) ?_
  refine wCVi (pre := ([] : va_W)) (Wc := MC cI b g nw kp) (suf := ([] : va_W)) (As := [.int x, .int y, .int 248]) (rest := []) ⟨hx, hb, hml, hown, hts⟩ (mX2_flight1 l D cI b g nw kp gg x y 248 _ hg hg2 hg0 hbad) hN hA hK hS hP hD rfl 0 (r := (RX2, TX2, 7)) rfl rfl (cwV 3 hts gX2_caughtBy_X2_flight rfl rfl rfl (by decide +kernel) ⟨Nat.le_of_ble_eq_true rfl, Nat.le_of_ble_eq_true rfl⟩) rfl hl.1 rfl (Nat.le_of_ble_eq_true rfl) dX2_caughtBy_6 ⟨Nat.zero_le _, Nat.zero_le _⟩ (fun r_6 u_6 H locs hw hP hD hS => ?_)
  have hw : r_6 = 0 := hw
  subst hw
  have hP : va_P D vwCl (MC cI b (upd g 0 1) nw kp) H := hP
  have hD : va_D A (MC cI b (upd g 0 1) nw kp) := hD
  exact wRi hQ hx hb hr hlocks hP hD hS dX2_caughtBy_9 () (rfl) rfl
abbrev rmX2_isUnderWay : Room := { frames := 3, cells := 0, slots := 0, locals := 66 }
set_option maxRecDepth 100000 in
set_option maxHeartbeats 4000000 in
theorem mX2_isUnderWay (l : Launch) (D : va_G) (cI : ClassId) (b : Nat → Nat) (g nw kp : Nat → Int32) (gg x y : Nat) (sz : Nat) (hg : g 1 = nI gg) (hg2 : gg ≤ 10) (hg0 : 0 < gg) (ux : x < gg) (uy : y < gg) : wCt l yX2_isUnderWay wsX2_isUnderWay rmX2_isUnderWay D [(cI, .int)] [.ref (b 0), .int (nI x), .int (nI y)] (MC cI b g nw kp) sz 0 0 (wQi D (fun v (_ : Unit) => v = if 0 < nw (148 + (10 * x + y)) then 1 else 0) (fun _ : Unit => MC cI b (upd g 0 0) nw kp)) := by
  refine wMet cX2_isUnderWay 3 (some .boolean) (by decide) rfl (Nat.le_of_ble_eq_true rfl) ?_
  intro p e s m args below meth c A Q ls hQ hx hb hr hml hown hlocks hin hts hN hP hK hD hA hS hl
  have hl : lv_has ls 3 [(0, .ref (b 0)), (1, .int (nI x)), (2, .int (nI y))] := hl
  have hown : s.vm.findClass RX2 = some m.cls := hown
  refine lv_aload_n hx hb dX2_isUnderWay_0 rfl (lv_at hl 0 rfl) ?_
  refine lv_iload_n hx hb dX2_isUnderWay_1 rfl (lv_at hl 1 rfl) ?_
  refine lv_iload_n hx hb dX2_isUnderWay_2 rfl (lv_at hl 2 rfl) ?_
  refine lv_sipush (v := 148) hx hb dX2_isUnderWay_3 (by decide) ?_
  refine wCVi (pre := ([] : va_W)) (Wc := MC cI b g nw kp) (suf := ([] : va_W)) (As := [.int (nI x), .int (nI y), .int 148]) (rest := []) ⟨hx, hb, hml, hown, hts⟩ (mX2_flight l D cI b g nw kp gg x y 148 _ hg hg2 hg0 ux uy (by decide)) hN hA hK hS hP hD rfl 0 (r := (RX2, TX2, 7)) rfl rfl (cwV 3 hts gX2_isUnderWay_X2_flight rfl rfl rfl (by decide +kernel) ⟨Nat.le_of_ble_eq_true rfl, Nat.le_of_ble_eq_true rfl⟩) rfl hl.1 rfl (Nat.le_of_ble_eq_true rfl) dX2_isUnderWay_6 ⟨Nat.zero_le _, Nat.zero_le _⟩ (fun r_6 u_6 H locs hw hP hD hS => ?_)
  have hw : r_6 = nw (148 + (10 * x + y)) := hw
  subst hw
  have hP : va_P D vwCl (MC cI b (upd g 0 0) nw kp) H := hP
  have hD : va_D A (MC cI b (upd g 0 0) nw kp) := hD
  refine lv_if_le (tgt := 16) hx hb dX2_isUnderWay_9 (by decide) (fun c_9 => ?_) (fun c_9 => ?_)
  · refine lv_iconst (v := 0) hx hb dX2_isUnderWay_16 (by decide) ?_
    exact wRz hQ hx hb hr hlocks hP hD hS dX2_isUnderWay_17 (rfl) () (by rw [if_neg (Int32.not_lt.mpr c_9)]) rfl
  · refine lv_iconst (v := 1) hx hb dX2_isUnderWay_12 (by decide) ?_
    refine lv_goto (tgt := 17) hx hb dX2_isUnderWay_13 (by decide) ?_
    exact wRz hQ hx hb hr hlocks hP hD hS dX2_isUnderWay_17 (rfl) () (by rw [if_pos (Int32.not_le.mp c_9)]) rfl
abbrev rmX2_isUnderWay1 : Room := { frames := 3, cells := 0, slots := 0, locals := 66 }
set_option maxRecDepth 100000 in
set_option maxHeartbeats 4000000 in
theorem mX2_isUnderWay1 (l : Launch) (D : va_G) (cI : ClassId) (b : Nat → Nat) (g nw kp : Nat → Int32) (gg : Nat) (x y : Int32) (sz : Nat) (hg : g 1 = nI gg) (hg2 : gg ≤ 10) (hg0 : 0 < gg) (hbad : ¬ (0 ≤ x ∧ x < nI gg) ∨ ¬ (0 ≤ y ∧ y < nI gg)) : wCt l yX2_isUnderWay wsX2_isUnderWay rmX2_isUnderWay1 D [(cI, .int)] [.ref (b 0), .int x, .int y] (MC cI b g nw kp) sz 0 0 (wQi D (fun v (_ : Unit) => v = 0) (fun _ : Unit => MC cI b (upd g 0 1) nw kp)) := by
  refine wMet cX2_isUnderWay 3 (some .boolean) (by decide) rfl (Nat.le_of_ble_eq_true rfl) ?_
  intro p e s m args below meth c A Q ls hQ hx hb hr hml hown hlocks hin hts hN hP hK hD hA hS hl
  have hl : lv_has ls 3 [(0, .ref (b 0)), (1, .int x), (2, .int y)] := hl
  have hown : s.vm.findClass RX2 = some m.cls := hown
  refine lv_aload_n hx hb dX2_isUnderWay_0 rfl (lv_at hl 0 rfl) ?_
  refine lv_iload_n hx hb dX2_isUnderWay_1 rfl (lv_at hl 1 rfl) ?_
  refine lv_iload_n hx hb dX2_isUnderWay_2 rfl (lv_at hl 2 rfl) ?_
  refine lv_sipush (v := 148) hx hb dX2_isUnderWay_3 (by decide) ?_
  refine wCVi (pre := ([] : va_W)) (Wc := MC cI b g nw kp) (suf := ([] : va_W)) (As := [.int x, .int y, .int 148]) (rest := []) ⟨hx, hb, hml, hown, hts⟩ (mX2_flight1 l D cI b g nw kp gg x y 148 _ hg hg2 hg0 hbad) hN hA hK hS hP hD rfl 0 (r := (RX2, TX2, 7)) rfl rfl (cwV 3 hts gX2_isUnderWay_X2_flight rfl rfl rfl (by decide +kernel) ⟨Nat.le_of_ble_eq_true rfl, Nat.le_of_ble_eq_true rfl⟩) rfl hl.1 rfl (Nat.le_of_ble_eq_true rfl) dX2_isUnderWay_6 ⟨Nat.zero_le _, Nat.zero_le _⟩ (fun r_6 u_6 H locs hw hP hD hS => ?_)
  have hw : r_6 = 0 := hw
  subst hw
  have hP : va_P D vwCl (MC cI b (upd g 0 1) nw kp) H := hP
  have hD : va_D A (MC cI b (upd g 0 1) nw kp) := hD
  refine lv_if_le (tgt := 16) hx hb dX2_isUnderWay_9 (by decide) (fun c_9 => ?_) (fun h9 => absurd (Int32.le_refl 0) h9)
  refine lv_iconst (v := 0) hx hb dX2_isUnderWay_16 (by decide) ?_
  exact wRz hQ hx hb hr hlocks hP hD hS dX2_isUnderWay_17 (rfl) () (rfl) rfl
abbrev rmX2_allUnsaidIn : Room := { frames := 5, cells := 0, slots := 0, locals := 109 }
set_option maxRecDepth 100000 in
set_option maxHeartbeats 4000000 in
theorem mX2_allUnsaidIn (l : Launch) (D : va_G) (cI : ClassId) (b : Nat → Nat) (g nw kp : Nat → Int32) (gg li n : Nat) (sz : Nat) (hg : g 1 = nI gg) (hg2 : gg ≤ 10) (hg0 : 0 < gg) (hl0 : g 2 = nI li) (hl1 : 0 < li) (hl2 : li ≤ 30) (n1 : 1 ≤ n) (n2 : n ≤ 120) (hs : ∀ i, i < n → mOk (mSecs (g 5) (g 2) (nw, g 6) i).1) : wCt l yX2_allUnsaidIn wsX2_allUnsaidIn rmX2_allUnsaidIn D [(cI, .int)] [.ref (b 0), .int (nI n)] (MC cI b g nw kp) sz 0 0 (wQi D (fun v (_ : Int32) => v = mSum (mSecs (g 5) (g 2) (nw, g 6) n).1 gg) (fun u : Int32 => MC cI b (upd (upd g 0 0) 6 u) nw nw)) := by
  refine wMet cX2_allUnsaidIn 3 (some .int) (by decide) rfl (Nat.le_of_ble_eq_true rfl) ?_
  intro p e s m args below meth c A Q ls hQ hx hb hr hml hown hlocks hin hts hN hP hK hD hA hS hl
  have hl : lv_has ls 3 [(0, .ref (b 0)), (1, .int (nI n))] := hl
  have hown : s.vm.findClass RX2 = some m.cls := hown
  have hw2 : ∀ w ∈ wsX20, w.before args s = true := fun w h => hts w (List.mem_cons_of_mem _ (List.mem_append_right _ h))
  have k26 := hts (.fieldLink RX2 26 "PauseLedgerModel" "thrown" "I") (by decide +kernel)
  refine lv_aload_n hx hb dX2_allUnsaidIn_0 rfl (lv_at hl 0 rfl) ?_
  refine lv_iconst (v := 0) hx hb dX2_allUnsaidIn_1 (by decide) ?_
  refine va_put (D := D) (ci := 2) (v := .int 0) (ty := .int) (C := RX2) (T := TX2) (N := 7) hx hb hw2 (fun _ h => h) tyX2 tyX2_ok nmX2 hown hK hP hD hS 0 rfl rfl 0 (by decide) k26 (fun _ h9 => h9) rfl (by decide +kernel) rfl rfl (Nat.le_of_ble_eq_true rfl) dX2_allUnsaidIn_2 (fun H locs hP hD hS => ?_)
  have hP : va_P D vwCl (MC cI b (upd g 0 0) nw kp) H := hP
  have hD : va_D A (MC cI b (upd g 0 0) nw kp) := hD
  refine lv_iload_n hx hb dX2_allUnsaidIn_5 rfl (lv_at hl 1 rfl) ?_
  refine lv_iconst (v := 1) hx hb dX2_allUnsaidIn_6 (by decide) ?_
  refine lv_bipush (v := 120) hx hb dX2_allUnsaidIn_7 (by decide) ?_
  refine wCSi (pre := ([] : va_W)) (Wc := ([] : va_W)) (suf := MC cI b (upd g 0 0) nw kp) (As := [.int (nI n), .int 1, .int 120]) (rest := []) ⟨hx, hb, hml, hown, hts⟩ (mX2_isIn l D cI (nI n) 1 120 _) hN hA hK hS hP hD rfl (va_cwS 3 hts gX2_allUnsaidIn_X2_isIn rfl rfl rfl (by decide +kernel) ⟨Nat.le_of_ble_eq_true rfl, Nat.le_of_ble_eq_true rfl⟩) rfl hl.1 rfl (Nat.le_of_ble_eq_true rfl) dX2_allUnsaidIn_9 ⟨Nat.zero_le _, Nat.zero_le _⟩ (fun r_9 u_9 H locs hw hP hD hS => ?_)
  have hw : r_9 = mIn (nI n) 1 120 := hw
  subst hw
  have hP : va_P D vwCl (MC cI b (upd g 0 0) nw kp) H := hP
  have hD : va_D A (MC cI b (upd g 0 0) nw kp) := hD
  refine lv_if_ne (tgt := 21) hx hb dX2_allUnsaidIn_12 (by decide) (fun c_12 => ?_) (fun h9 => absurd h9 (mInT (lo := 1) (hi := 120) n1 n2 (by decide)))
  refine lv_aload_n hx hb dX2_allUnsaidIn_21 rfl (lv_at hl 0 rfl) ?_
  refine wCVv (pre := ([] : va_W)) (Wc := MC cI b (upd g 0 0) nw kp) (suf := ([] : va_W)) (As := []) (rest := []) ⟨hx, hb, hml, hown, hts⟩ (mX2_keep l D cI b (upd g 0 0) nw kp _) hN hA hK hS hP hD rfl 0 (r := (RX2, TX2, 7)) rfl rfl (cwV 0 hts gX2_allUnsaidIn_X2_keep rfl rfl rfl (by decide +kernel) ⟨Nat.le_of_ble_eq_true rfl, Nat.le_of_ble_eq_true rfl⟩) rfl hl.1 rfl (Nat.le_of_ble_eq_true rfl) dX2_allUnsaidIn_22 ⟨Nat.zero_le _, Nat.zero_le _⟩ (fun u_22 H locs hw hP hD hS => ?_)
  have hP : va_P D vwCl (MC cI b (upd g 0 0) nw nw) H := hP
  have hD : va_D A (MC cI b (upd g 0 0) nw nw) := hD
  refine lv_aload_n hx hb dX2_allUnsaidIn_25 rfl (lv_at hl 0 rfl) ?_
  refine lv_iload_n hx hb dX2_allUnsaidIn_26 rfl (lv_at hl 1 rfl) ?_
  refine wCVv (pre := ([] : va_W)) (Wc := MC cI b (upd g 0 0) nw nw) (suf := ([] : va_W)) (As := [.int (nI n)]) (rest := []) ⟨hx, hb, hml, hown, hts⟩ (mX2_secondsOn l D cI b (upd g 0 0) nw nw li n _ hl0 hl1 hl2 (by omega) hs) hN hA hK hS hP hD rfl 0 (r := (RX2, TX2, 7)) rfl rfl (cwV 1 hts gX2_allUnsaidIn_X2_secondsOn rfl rfl rfl (by decide +kernel) ⟨Nat.le_of_ble_eq_true rfl, Nat.le_of_ble_eq_true rfl⟩) rfl hl.1 rfl (Nat.le_of_ble_eq_true rfl) dX2_allUnsaidIn_27 ⟨Nat.zero_le _, Nat.zero_le _⟩ (fun u_27 H locs hw hP hD hS => ?_)
  subst hw
  have hP : va_P D vwCl (MC cI b (upd (upd g 0 0) 6 (mSecs (g 5) (g 2) (nw, g 6) n).2) (mSecs (g 5) (g 2) (nw, g 6) n).1 nw) H := hP
  have hD : va_D A (MC cI b (upd (upd g 0 0) 6 (mSecs (g 5) (g 2) (nw, g 6) n).2) (mSecs (g 5) (g 2) (nw, g 6) n).1 nw) := hD
  refine lv_aload_n hx hb dX2_allUnsaidIn_30 rfl (lv_at hl 0 rfl) ?_
  refine wCVi (pre := ([] : va_W)) (Wc := MC cI b (upd (upd g 0 0) 6 (mSecs (g 5) (g 2) (nw, g 6) n).2) (mSecs (g 5) (g 2) (nw, g 6) n).1 nw) (suf := ([] : va_W)) (As := []) (rest := []) ⟨hx, hb, hml, hown, hts⟩ (mX2_unsaid l D cI b (upd (upd g 0 0) 6 (mSecs (g 5) (g 2) (nw, g 6) n).2) (mSecs (g 5) (g 2) (nw, g 6) n).1 nw gg _ hg hg2) hN hA hK hS hP hD rfl 0 (r := (RX2, TX2, 7)) rfl rfl (cwV 0 hts gX2_allUnsaidIn_X2_unsaid rfl rfl rfl (by decide +kernel) ⟨Nat.le_of_ble_eq_true rfl, Nat.le_of_ble_eq_true rfl⟩) rfl hl.1 rfl (Nat.le_of_ble_eq_true rfl) dX2_allUnsaidIn_31 ⟨Nat.zero_le _, Nat.zero_le _⟩ (fun r_31 u_31 H locs hw hP hD hS => ?_)
  have hw : r_31 = mSum (mSecs (g 5) (g 2) (nw, g 6) n).1 gg := hw
  subst hw
  have hP : va_P D vwCl (MC cI b (upd (upd g 0 0) 6 (mSecs (g 5) (g 2) (nw, g 6) n).2) (mSecs (g 5) (g 2) (nw, g 6) n).1 nw) H := hP
  have hD : va_D A (MC cI b (upd (upd g 0 0) 6 (mSecs (g 5) (g 2) (nw, g 6) n).2) (mSecs (g 5) (g 2) (nw, g 6) n).1 nw) := hD
  refine lv_istore_n (lv' := [(2, .int (mSum (mSecs (g 5) (g 2) (nw, g 6) n).1 gg)), (0, .ref (b 0)), (1, .int (nI n))]) hx hb dX2_allUnsaidIn_34 rfl hl (by decide) rfl (fun ls hl => ?_)
  refine lv_aload_n hx hb dX2_allUnsaidIn_35 rfl (lv_at hl 1 rfl) ?_
  refine wCVv (pre := ([] : va_W)) (Wc := MC cI b (upd (upd g 0 0) 6 (mSecs (g 5) (g 2) (nw, g 6) n).2) (mSecs (g 5) (g 2) (nw, g 6) n).1 nw) (suf := ([] : va_W)) (As := []) (rest := []) ⟨hx, hb, hml, hown, hts⟩ (mX2_bringBack l D cI b (upd (upd g 0 0) 6 (mSecs (g 5) (g 2) (nw, g 6) n).2) (mSecs (g 5) (g 2) (nw, g 6) n).1 nw _) hN hA hK hS hP hD rfl 0 (r := (RX2, TX2, 7)) rfl rfl (cwV 0 hts gX2_allUnsaidIn_X2_bringBack rfl rfl rfl (by decide +kernel) ⟨Nat.le_of_ble_eq_true rfl, Nat.le_of_ble_eq_true rfl⟩) rfl hl.1 rfl (Nat.le_of_ble_eq_true rfl) dX2_allUnsaidIn_36 ⟨Nat.zero_le _, Nat.zero_le _⟩ (fun u_36 H locs hw hP hD hS => ?_)
  have hP : va_P D vwCl (MC cI b (upd (upd g 0 0) 6 (mSecs (g 5) (g 2) (nw, g 6) n).2) nw nw) H := hP
  have hD : va_D A (MC cI b (upd (upd g 0 0) 6 (mSecs (g 5) (g 2) (nw, g 6) n).2) nw nw) := hD
  refine lv_iload_n hx hb dX2_allUnsaidIn_39 rfl (lv_at hl 0 rfl) ?_
  exact wRi hQ hx hb hr hlocks hP hD hS dX2_allUnsaidIn_40 (mSecs (g 5) (g 2) (nw, g 6) n).2 (rfl) rfl
abbrev rmX2_allUnsaidIn1 : Room := { frames := 1, cells := 0, slots := 0, locals := 22 }
set_option maxRecDepth 100000 in
set_option maxHeartbeats 4000000 in
theorem mX2_allUnsaidIn1 (l : Launch) (D : va_G) (cI : ClassId) (b : Nat → Nat) (g nw kp : Nat → Int32) (x : Int32) (sz : Nat) (hbad : ¬ (1 ≤ x ∧ x ≤ 120)) : wCt l yX2_allUnsaidIn wsX2_allUnsaidIn rmX2_allUnsaidIn1 D [(cI, .int)] [.ref (b 0), .int x] (MC cI b g nw kp) sz 0 0 (wQi D (fun v (_ : Unit) => v = 0) (fun _ : Unit => MC cI b (upd g 0 1) nw kp)) := by
  refine wMet cX2_allUnsaidIn 3 (some .int) (by decide) rfl (Nat.le_of_ble_eq_true rfl) ?_
  intro p e s m args below meth c A Q ls hQ hx hb hr hml hown hlocks hin hts hN hP hK hD hA hS hl
  have hl : lv_has ls 3 [(0, .ref (b 0)), (1, .int x)] := hl
  have hown : s.vm.findClass RX2 = some m.cls := hown
  have hw2 : ∀ w ∈ wsX20, w.before args s = true := fun w h => hts w (List.mem_cons_of_mem _ (List.mem_append_right _ h))
  have k26 := hts (.fieldLink RX2 26 "PauseLedgerModel" "thrown" "I") (by decide +kernel)
  refine lv_aload_n hx hb dX2_allUnsaidIn_0 rfl (lv_at hl 0 rfl) ?_
  refine lv_iconst (v := 0) hx hb dX2_allUnsaidIn_1 (by decide) ?_
  refine va_put (D := D) (ci := 2) (v := .int 0) (ty := .int) (C := RX2) (T := TX2) (N := 7) hx hb hw2 (fun _ h => h) tyX2 tyX2_ok nmX2 hown hK hP hD hS 0 rfl rfl 0 (by decide) k26 (fun _ h9 => h9) rfl (by decide +kernel) rfl rfl (Nat.le_of_ble_eq_true rfl) dX2_allUnsaidIn_2 (fun H locs hP hD hS => ?_)
  have hP : va_P D vwCl (MC cI b (upd g 0 0) nw kp) H := hP
  have hD : va_D A (MC cI b (upd g 0 0) nw kp) := hD
  refine lv_iload_n hx hb dX2_allUnsaidIn_5 rfl (lv_at hl 1 rfl) ?_
  refine lv_iconst (v := 1) hx hb dX2_allUnsaidIn_6 (by decide) ?_
  refine lv_bipush (v := 120) hx hb dX2_allUnsaidIn_7 (by decide) ?_
  refine wCSi (pre := ([] : va_W)) (Wc := ([] : va_W)) (suf := MC cI b (upd g 0 0) nw kp) (As := [.int x, .int 1, .int 120]) (rest := []) ⟨hx, hb, hml, hown, hts⟩ (mX2_isIn l D cI x 1 120 _) hN hA hK hS hP hD rfl (va_cwS 3 hts gX2_allUnsaidIn_X2_isIn rfl rfl rfl (by decide +kernel) ⟨Nat.le_of_ble_eq_true rfl, Nat.le_of_ble_eq_true rfl⟩) rfl hl.1 rfl (Nat.le_of_ble_eq_true rfl) dX2_allUnsaidIn_9 ⟨Nat.zero_le _, Nat.zero_le _⟩ (fun r_9 u_9 H locs hw hP hD hS => ?_)
  have hw : r_9 = mIn x 1 120 := hw
  subst hw
  have hP : va_P D vwCl (MC cI b (upd g 0 0) nw kp) H := hP
  have hD : va_D A (MC cI b (upd g 0 0) nw kp) := hD
  refine lv_if_ne (tgt := 21) hx hb dX2_allUnsaidIn_12 (by decide) (fun h9 => absurd (mInF hbad) h9) (fun c_12 => ?_)
  refine lv_aload_n hx hb dX2_allUnsaidIn_15 rfl (lv_at hl 0 rfl) ?_
  refine lv_iconst (v := 1) hx hb dX2_allUnsaidIn_16 (by decide) ?_
  refine wCVi (pre := ([] : va_W)) (Wc := MC cI b (upd g 0 0) nw kp) (suf := ([] : va_W)) (As := [.int 1]) (rest := []) ⟨hx, hb, hml, hown, hts⟩ (mX2_fail l D cI b (upd g 0 0) nw kp 1 _) hN hA hK hS hP hD rfl 0 (r := (RX2, TX2, 7)) rfl rfl (cwV 1 hts gX2_allUnsaidIn_X2_fail rfl rfl rfl (by decide +kernel) ⟨Nat.le_of_ble_eq_true rfl, Nat.le_of_ble_eq_true rfl⟩) rfl hl.1 rfl (Nat.le_of_ble_eq_true rfl) dX2_allUnsaidIn_17 ⟨Nat.zero_le _, Nat.zero_le _⟩ (fun r_17 u_17 H locs hw hP hD hS => ?_)
  have hw : r_17 = 0 := hw
  subst hw
  have hP : va_P D vwCl (MC cI b (upd g 0 1) nw kp) H := hP
  have hD : va_D A (MC cI b (upd g 0 1) nw kp) := hD
  exact wRi hQ hx hb hr hlocks hP hD hS dX2_allUnsaidIn_20 () (rfl) rfl
abbrev rmX2_ratingIn : Room := { frames := 5, cells := 0, slots := 0, locals := 109 }
set_option maxRecDepth 100000 in
set_option maxHeartbeats 4000000 in
theorem mX2_ratingIn (l : Launch) (D : va_G) (cI : ClassId) (b : Nat → Nat) (g nw kp : Nat → Int32) (gg li n : Nat) (sz : Nat) (hg : g 1 = nI gg) (hg2 : gg ≤ 10) (hg0 : 0 < gg) (hl0 : g 2 = nI li) (hl1 : 0 < li) (hl2 : li ≤ 30) (n1 : 1 ≤ n) (n2 : n ≤ 120) (hs : ∀ i, i < n → mOk (mSecs (g 5) (g 2) (nw, g 6) i).1) : wCt l yX2_ratingIn wsX2_ratingIn rmX2_ratingIn D [(cI, .int)] [.ref (b 0), .int (nI n)] (MC cI b g nw kp) sz 0 0 (wQi D (fun v (_ : Int32) => v = mRate (g 1) (mSecs (g 5) (g 2) (nw, g 6) n).1 gg) (fun u : Int32 => MC cI b (upd (upd g 0 0) 6 u) nw nw)) := by
  refine wMet cX2_ratingIn 3 (some .int) (by decide) rfl (Nat.le_of_ble_eq_true rfl) ?_
  intro p e s m args below meth c A Q ls hQ hx hb hr hml hown hlocks hin hts hN hP hK hD hA hS hl
  have hl : lv_has ls 3 [(0, .ref (b 0)), (1, .int (nI n))] := hl
  have hown : s.vm.findClass RX2 = some m.cls := hown
  have hw2 : ∀ w ∈ wsX20, w.before args s = true := fun w h => hts w (List.mem_cons_of_mem _ (List.mem_append_right _ h))
  have k26 := hts (.fieldLink RX2 26 "PauseLedgerModel" "thrown" "I") (by decide +kernel)
  refine lv_aload_n hx hb dX2_ratingIn_0 rfl (lv_at hl 0 rfl) ?_
  refine lv_iconst (v := 0) hx hb dX2_ratingIn_1 (by decide) ?_
  refine va_put (D := D) (ci := 2) (v := .int 0) (ty := .int) (C := RX2) (T := TX2) (N := 7) hx hb hw2 (fun _ h => h) tyX2 tyX2_ok nmX2 hown hK hP hD hS 0 rfl rfl 0 (by decide) k26 (fun _ h9 => h9) rfl (by decide +kernel) rfl rfl (Nat.le_of_ble_eq_true rfl) dX2_ratingIn_2 (fun H locs hP hD hS => ?_)
  have hP : va_P D vwCl (MC cI b (upd g 0 0) nw kp) H := hP
  have hD : va_D A (MC cI b (upd g 0 0) nw kp) := hD
  refine lv_iload_n hx hb dX2_ratingIn_5 rfl (lv_at hl 1 rfl) ?_
  refine lv_iconst (v := 1) hx hb dX2_ratingIn_6 (by decide) ?_
  refine lv_bipush (v := 120) hx hb dX2_ratingIn_7 (by decide) ?_
  refine wCSi (pre := ([] : va_W)) (Wc := ([] : va_W)) (suf := MC cI b (upd g 0 0) nw kp) (As := [.int (nI n), .int 1, .int 120]) (rest := []) ⟨hx, hb, hml, hown, hts⟩ (mX2_isIn l D cI (nI n) 1 120 _) hN hA hK hS hP hD rfl (va_cwS 3 hts gX2_ratingIn_X2_isIn rfl rfl rfl (by decide +kernel) ⟨Nat.le_of_ble_eq_true rfl, Nat.le_of_ble_eq_true rfl⟩) rfl hl.1 rfl (Nat.le_of_ble_eq_true rfl) dX2_ratingIn_9 ⟨Nat.zero_le _, Nat.zero_le _⟩ (fun r_9 u_9 H locs hw hP hD hS => ?_)
  have hw : r_9 = mIn (nI n) 1 120 := hw
  subst hw
  have hP : va_P D vwCl (MC cI b (upd g 0 0) nw kp) H := hP
  have hD : va_D A (MC cI b (upd g 0 0) nw kp) := hD
  refine lv_if_ne (tgt := 21) hx hb dX2_ratingIn_12 (by decide) (fun c_12 => ?_) (fun h9 => absurd h9 (mInT (lo := 1) (hi := 120) n1 n2 (by decide)))
  refine lv_aload_n hx hb dX2_ratingIn_21 rfl (lv_at hl 0 rfl) ?_
  refine wCVv (pre := ([] : va_W)) (Wc := MC cI b (upd g 0 0) nw kp) (suf := ([] : va_W)) (As := []) (rest := []) ⟨hx, hb, hml, hown, hts⟩ (mX2_keep l D cI b (upd g 0 0) nw kp _) hN hA hK hS hP hD rfl 0 (r := (RX2, TX2, 7)) rfl rfl (cwV 0 hts gX2_ratingIn_X2_keep rfl rfl rfl (by decide +kernel) ⟨Nat.le_of_ble_eq_true rfl, Nat.le_of_ble_eq_true rfl⟩) rfl hl.1 rfl (Nat.le_of_ble_eq_true rfl) dX2_ratingIn_22 ⟨Nat.zero_le _, Nat.zero_le _⟩ (fun u_22 H locs hw hP hD hS => ?_)
  have hP : va_P D vwCl (MC cI b (upd g 0 0) nw nw) H := hP
  have hD : va_D A (MC cI b (upd g 0 0) nw nw) := hD
  refine lv_aload_n hx hb dX2_ratingIn_25 rfl (lv_at hl 0 rfl) ?_
  refine lv_iload_n hx hb dX2_ratingIn_26 rfl (lv_at hl 1 rfl) ?_
  refine wCVv (pre := ([] : va_W)) (Wc := MC cI b (upd g 0 0) nw nw) (suf := ([] : va_W)) (As := [.int (nI n)]) (rest := []) ⟨hx, hb, hml, hown, hts⟩ (mX2_secondsOn l D cI b (upd g 0 0) nw nw li n _ hl0 hl1 hl2 (by omega) hs) hN hA hK hS hP hD rfl 0 (r := (RX2, TX2, 7)) rfl rfl (cwV 1 hts gX2_ratingIn_X2_secondsOn rfl rfl rfl (by decide +kernel) ⟨Nat.le_of_ble_eq_true rfl, Nat.le_of_ble_eq_true rfl⟩) rfl hl.1 rfl (Nat.le_of_ble_eq_true rfl) dX2_ratingIn_27 ⟨Nat.zero_le _, Nat.zero_le _⟩ (fun u_27 H locs hw hP hD hS => ?_)
  subst hw
  have hP : va_P D vwCl (MC cI b (upd (upd g 0 0) 6 (mSecs (g 5) (g 2) (nw, g 6) n).2) (mSecs (g 5) (g 2) (nw, g 6) n).1 nw) H := hP
  have hD : va_D A (MC cI b (upd (upd g 0 0) 6 (mSecs (g 5) (g 2) (nw, g 6) n).2) (mSecs (g 5) (g 2) (nw, g 6) n).1 nw) := hD
  refine lv_aload_n hx hb dX2_ratingIn_30 rfl (lv_at hl 0 rfl) ?_
  refine wCVi (pre := ([] : va_W)) (Wc := MC cI b (upd (upd g 0 0) 6 (mSecs (g 5) (g 2) (nw, g 6) n).2) (mSecs (g 5) (g 2) (nw, g 6) n).1 nw) (suf := ([] : va_W)) (As := []) (rest := []) ⟨hx, hb, hml, hown, hts⟩ (mX2_rated l D cI b (upd (upd g 0 0) 6 (mSecs (g 5) (g 2) (nw, g 6) n).2) (mSecs (g 5) (g 2) (nw, g 6) n).1 nw gg _ hg hg2 hg0) hN hA hK hS hP hD rfl 0 (r := (RX2, TX2, 7)) rfl rfl (cwV 0 hts gX2_ratingIn_X2_rated rfl rfl rfl (by decide +kernel) ⟨Nat.le_of_ble_eq_true rfl, Nat.le_of_ble_eq_true rfl⟩) rfl hl.1 rfl (Nat.le_of_ble_eq_true rfl) dX2_ratingIn_31 ⟨Nat.zero_le _, Nat.zero_le _⟩ (fun r_31 u_31 H locs hw hP hD hS => ?_)
  have hw : r_31 = mRate (g 1) (mSecs (g 5) (g 2) (nw, g 6) n).1 gg := hw
  subst hw
  have hP : va_P D vwCl (MC cI b (upd (upd g 0 0) 6 (mSecs (g 5) (g 2) (nw, g 6) n).2) (mSecs (g 5) (g 2) (nw, g 6) n).1 nw) H := hP
  have hD : va_D A (MC cI b (upd (upd g 0 0) 6 (mSecs (g 5) (g 2) (nw, g 6) n).2) (mSecs (g 5) (g 2) (nw, g 6) n).1 nw) := hD
  refine lv_istore_n (lv' := [(2, .int (mRate (g 1) (mSecs (g 5) (g 2) (nw, g 6) n).1 gg)), (0, .ref (b 0)), (1, .int (nI n))]) hx hb dX2_ratingIn_34 rfl hl (by decide) rfl (fun ls hl => ?_)
  refine lv_aload_n hx hb dX2_ratingIn_35 rfl (lv_at hl 1 rfl) ?_
  refine wCVv (pre := ([] : va_W)) (Wc := MC cI b (upd (upd g 0 0) 6 (mSecs (g 5) (g 2) (nw, g 6) n).2) (mSecs (g 5) (g 2) (nw, g 6) n).1 nw) (suf := ([] : va_W)) (As := []) (rest := []) ⟨hx, hb, hml, hown, hts⟩ (mX2_bringBack l D cI b (upd (upd g 0 0) 6 (mSecs (g 5) (g 2) (nw, g 6) n).2) (mSecs (g 5) (g 2) (nw, g 6) n).1 nw _) hN hA hK hS hP hD rfl 0 (r := (RX2, TX2, 7)) rfl rfl (cwV 0 hts gX2_ratingIn_X2_bringBack rfl rfl rfl (by decide +kernel) ⟨Nat.le_of_ble_eq_true rfl, Nat.le_of_ble_eq_true rfl⟩) rfl hl.1 rfl (Nat.le_of_ble_eq_true rfl) dX2_ratingIn_36 ⟨Nat.zero_le _, Nat.zero_le _⟩ (fun u_36 H locs hw hP hD hS => ?_)
  have hP : va_P D vwCl (MC cI b (upd (upd g 0 0) 6 (mSecs (g 5) (g 2) (nw, g 6) n).2) nw nw) H := hP
  have hD : va_D A (MC cI b (upd (upd g 0 0) 6 (mSecs (g 5) (g 2) (nw, g 6) n).2) nw nw) := hD
  refine lv_iload_n hx hb dX2_ratingIn_39 rfl (lv_at hl 0 rfl) ?_
  exact wRi hQ hx hb hr hlocks hP hD hS dX2_ratingIn_40 (mSecs (g 5) (g 2) (nw, g 6) n).2 (rfl) rfl
abbrev rmX2_ratingIn1 : Room := { frames := 1, cells := 0, slots := 0, locals := 22 }
set_option maxRecDepth 100000 in
set_option maxHeartbeats 4000000 in
theorem mX2_ratingIn1 (l : Launch) (D : va_G) (cI : ClassId) (b : Nat → Nat) (g nw kp : Nat → Int32) (x : Int32) (sz : Nat) (hbad : ¬ (1 ≤ x ∧ x ≤ 120)) : wCt l yX2_ratingIn wsX2_ratingIn rmX2_ratingIn1 D [(cI, .int)] [.ref (b 0), .int x] (MC cI b g nw kp) sz 0 0 (wQi D (fun v (_ : Unit) => v = 0) (fun _ : Unit => MC cI b (upd g 0 1) nw kp)) := by
  refine wMet cX2_ratingIn 3 (some .int) (by decide) rfl (Nat.le_of_ble_eq_true rfl) ?_
  intro p e s m args below meth c A Q ls hQ hx hb hr hml hown hlocks hin hts hN hP hK hD hA hS hl
  have hl : lv_has ls 3 [(0, .ref (b 0)), (1, .int x)] := hl
  have hown : s.vm.findClass RX2 = some m.cls := hown
  have hw2 : ∀ w ∈ wsX20, w.before args s = true := fun w h => hts w (List.mem_cons_of_mem _ (List.mem_append_right _ h))
  have k26 := hts (.fieldLink RX2 26 "PauseLedgerModel" "thrown" "I") (by decide +kernel)
  refine lv_aload_n hx hb dX2_ratingIn_0 rfl (lv_at hl 0 rfl) ?_
  refine lv_iconst (v := 0) hx hb dX2_ratingIn_1 (by decide) ?_
  refine va_put (D := D) (ci := 2) (v := .int 0) (ty := .int) (C := RX2) (T := TX2) (N := 7) hx hb hw2 (fun _ h => h) tyX2 tyX2_ok nmX2 hown hK hP hD hS 0 rfl rfl 0 (by decide) k26 (fun _ h9 => h9) rfl (by decide +kernel) rfl rfl (Nat.le_of_ble_eq_true rfl) dX2_ratingIn_2 (fun H locs hP hD hS => ?_)
  have hP : va_P D vwCl (MC cI b (upd g 0 0) nw kp) H := hP
  have hD : va_D A (MC cI b (upd g 0 0) nw kp) := hD
  refine lv_iload_n hx hb dX2_ratingIn_5 rfl (lv_at hl 1 rfl) ?_
  refine lv_iconst (v := 1) hx hb dX2_ratingIn_6 (by decide) ?_
  refine lv_bipush (v := 120) hx hb dX2_ratingIn_7 (by decide) ?_
  refine wCSi (pre := ([] : va_W)) (Wc := ([] : va_W)) (suf := MC cI b (upd g 0 0) nw kp) (As := [.int x, .int 1, .int 120]) (rest := []) ⟨hx, hb, hml, hown, hts⟩ (mX2_isIn l D cI x 1 120 _) hN hA hK hS hP hD rfl (va_cwS 3 hts gX2_ratingIn_X2_isIn rfl rfl rfl (by decide +kernel) ⟨Nat.le_of_ble_eq_true rfl, Nat.le_of_ble_eq_true rfl⟩) rfl hl.1 rfl (Nat.le_of_ble_eq_true rfl) dX2_ratingIn_9 ⟨Nat.zero_le _, Nat.zero_le _⟩ (fun r_9 u_9 H locs hw hP hD hS => ?_)
  have hw : r_9 = mIn x 1 120 := hw
  subst hw
  have hP : va_P D vwCl (MC cI b (upd g 0 0) nw kp) H := hP
  have hD : va_D A (MC cI b (upd g 0 0) nw kp) := hD
  refine lv_if_ne (tgt := 21) hx hb dX2_ratingIn_12 (by decide) (fun h9 => absurd (mInF hbad) h9) (fun c_12 => ?_)
  refine lv_aload_n hx hb dX2_ratingIn_15 rfl (lv_at hl 0 rfl) ?_
  refine lv_iconst (v := 1) hx hb dX2_ratingIn_16 (by decide) ?_
  refine wCVi (pre := ([] : va_W)) (Wc := MC cI b (upd g 0 0) nw kp) (suf := ([] : va_W)) (As := [.int 1]) (rest := []) ⟨hx, hb, hml, hown, hts⟩ (mX2_fail l D cI b (upd g 0 0) nw kp 1 _) hN hA hK hS hP hD rfl 0 (r := (RX2, TX2, 7)) rfl rfl (cwV 1 hts gX2_ratingIn_X2_fail rfl rfl rfl (by decide +kernel) ⟨Nat.le_of_ble_eq_true rfl, Nat.le_of_ble_eq_true rfl⟩) rfl hl.1 rfl (Nat.le_of_ble_eq_true rfl) dX2_ratingIn_17 ⟨Nat.zero_le _, Nat.zero_le _⟩ (fun r_17 u_17 H locs hw hP hD hS => ?_)
  have hw : r_17 = 0 := hw
  subst hw
  have hP : va_P D vwCl (MC cI b (upd g 0 1) nw kp) H := hP
  have hD : va_D A (MC cI b (upd g 0 1) nw kp) := hD
  exact wRi hQ hx hb hr hlocks hP hD hS dX2_ratingIn_20 () (rfl) rfl
