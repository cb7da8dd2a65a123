abbrev rmX1_pairOf : Room := { frames := 0, cells := 0, slots := 0, locals := 0 }
set_option maxRecDepth 100000 in
set_option maxHeartbeats 4000000 in
/-- pairOf -/
theorem mX1_pairOf (l : Launch) (D : va_G) (cI : ClassId) (x y : Nat) (sz : Nat) : wCt l yX1_pairOf wsX1_pairOf rmX1_pairOf D [(cI, .int)] [.int (nI x), .int (nI y)] (([] : va_W)) sz 0 0 (wQi D (fun v (_ : Unit) => v = nI (x * 10 + y)) (fun _ : Unit => ([] : va_W))) := by
  refine wMet cX1_pairOf 2 (some .int) (by decide) rfl (Nat.le_of_ble_eq_true rfl) ?_
  intro p e s m args below meth c A Q ls hQ hx hb hr hml hown hlocks hin hts hN hP hK hD hA hS hl
  have hl : lv_has ls 2 [(0, .int (nI x)), (1, .int (nI y))] := hl
  have hown : s.vm.findClass RX1 = some m.cls := hown
  refine lv_iload_n hx hb dX1_pairOf_0 rfl (lv_at hl 0 rfl) ?_
  refine lv_bipush (v := 10) hx hb dX1_pairOf_1 (by decide) ?_
  refine lv_imul hx hb dX1_pairOf_3 ?_
  refine wTop (z := nI (x * 10)) (pk_mul x 10) ?_
  refine lv_iload_n hx hb dX1_pairOf_4 rfl (lv_at hl 1 rfl) ?_
  refine lv_iadd hx hb dX1_pairOf_5 ?_
  refine wTop (z := nI ((x * 10) + y)) (nI_add (x * 10) y) ?_
  exact wRi hQ hx hb hr hlocks hP hD hS dX1_pairOf_6 () (rfl) rfl
abbrev rmX0_isOnItsWay : Room := { frames := 0, cells := 0, slots := 0, locals := 0 }
set_option maxRecDepth 100000 in
set_option maxHeartbeats 4000000 in
/-- isOnItsWay -/
theorem mX0_isOnItsWay (l : Launch) (D : va_G) (cI : ClassId) (a : Nat → Nat) (f : Nat → Int32) (r : Nat → Nat → Int32) (k : Nat) (sz : Nat) (hk : k < 100) : wCt l yX0_isOnItsWay wsX0_isOnItsWay rmX0_isOnItsWay D [(cI, .int)] [.ref (a 0), .int (nI k)] (DC cI a f r) sz 0 0 (wQi D (fun v (_ : Unit) => v = if r 4 k = -1 then 0 else 1) (fun _ : Unit => DC cI a f r)) := by
  refine wMet cX0_isOnItsWay 2 (some .boolean) (by decide) rfl (Nat.le_of_ble_eq_true rfl) ?_
  intro p e s m args below meth c A Q ls hQ hx hb hr hml hown hlocks hin hts hN hP hK hD hA hS hl
  have hl : lv_has ls 2 [(0, .ref (a 0)), (1, .int (nI k))] := hl
  have hown : s.vm.findClass RX0 = some m.cls := hown
  have hw0 : ∀ w ∈ wsX00, w.before args s = true := fun w h => hts w (List.mem_cons_of_mem _ (List.mem_append_right _ h))
  have k24 := hts (.fieldLink RX0 24 "PauseLedger$Dinner" "toGo" "[I") (by decide +kernel)
  refine lv_aload_n hx hb dX0_isOnItsWay_0 rfl (lv_at hl 0 rfl) ?_
  refine va_get (D := D) (ci := 0) (v := .ref (a 5)) (C := RX0) (T := TX0) (N := 17) hx hb hw0 (fun _ h => h) hown hK hP 0 rfl rfl 14 (by decide) k24 (fun _ h9 => h9) rfl dX0_isOnItsWay_1 ?_
  refine lv_iload_n hx hb dX0_isOnItsWay_4 rfl (lv_at hl 1 rfl) ?_
  refine wIald hx hb hK hP 5 0 rfl rfl k rfl (by omega) (by decide) dX0_isOnItsWay_5 ?_
  refine lv_iconst (v := (-1)) hx hb dX0_isOnItsWay_6 (by decide) ?_
  refine lv_icmp_eq (tgt := 14) hx hb dX0_isOnItsWay_7 (by decide) (fun c_7 => ?_) (fun c_7 => ?_)
  · refine lv_iconst (v := 0) hx hb dX0_isOnItsWay_14 (by decide) ?_
    exact wRz hQ hx hb hr hlocks hP hD hS dX0_isOnItsWay_15 (rfl) () (by rw [if_pos c_7]) rfl
  · refine lv_iconst (v := 1) hx hb dX0_isOnItsWay_10 (by decide) ?_
    refine lv_goto (tgt := 15) hx hb dX0_isOnItsWay_11 (by decide) ?_
    exact wRz hQ hx hb hr hlocks hP hD hS dX0_isOnItsWay_15 (rfl) () (by rw [if_neg c_7]) rfl
abbrev rmX0_timeToGo : Room := { frames := 1, cells := 0, slots := 0, locals := 21 }
set_option maxRecDepth 100000 in
set_option maxHeartbeats 4000000 in
/-- timeToGo -/
theorem mX0_timeToGo (l : Launch) (D : va_G) (cI : ClassId) (a : Nat → Nat) (f : Nat → Int32) (r : Nat → Nat → Int32) (k : Nat) (sz : Nat) (hk : k < 100) : wCt l yX0_timeToGo wsX0_timeToGo rmX0_timeToGo D [(cI, .int)] [.ref (a 0), .int (nI k)] (DC cI a f r) sz 0 0 (wQi D (fun v (_ : Unit) => v = dToGo (r 4) k) (fun _ : Unit => DC cI a f r)) := by
  refine wMet cX0_timeToGo 2 (some .int) (by decide) rfl (Nat.le_of_ble_eq_true rfl) ?_
  intro p e s m args below meth c A Q ls hQ hx hb hr hml hown hlocks hin hts hN hP hK hD hA hS hl
  have hl : lv_has ls 2 [(0, .ref (a 0)), (1, .int (nI k))] := hl
  have hown : s.vm.findClass RX0 = some m.cls := hown
  have hw0 : ∀ w ∈ wsX00, w.before args s = true := fun w h => hts w (List.mem_cons_of_mem _ (List.mem_append_right _ h))
  have k24 := hts (.fieldLink RX0 24 "PauseLedger$Dinner" "toGo" "[I") (by decide +kernel)
  refine lv_aload_n hx hb dX0_timeToGo_0 rfl (lv_at hl 0 rfl) ?_
  refine lv_iload_n hx hb dX0_timeToGo_1 rfl (lv_at hl 1 rfl) ?_
  refine wCVi (pre := ([] : va_W)) (Wc := DC cI a f r) (suf := ([] : va_W)) (As := [.int (nI k)]) (rest := []) ⟨hx, hb, hml, hown, hts⟩ (mX0_isOnItsWay l D cI a f r k _ hk) hN hA hK hS hP hD rfl 0 (r := (RX0, TX0, 17)) rfl rfl (cwV 1 hts gX0_timeToGo_X0_isOnItsWay rfl rfl rfl (by decide +kernel) ⟨Nat.le_of_ble_eq_true rfl, Nat.le_of_ble_eq_true rfl⟩) rfl hl.1 rfl (Nat.le_of_ble_eq_true rfl) dX0_timeToGo_2 ⟨Nat.zero_le _, Nat.zero_le _⟩ (fun r_2 u_2 H locs hw hP hD hS => ?_)
  have hw : r_2 = if (r 4) k = -1 then 0 else 1 := hw
  subst hw
  have hP : va_P D vwCl (DC cI a f r) H := hP
  have hD : va_D A (DC cI a f r) := hD
  refine lv_if_eq (tgt := 17) hx hb dX0_timeToGo_5 (by decide) (fun c_5 => ?_) (fun c_5 => ?_)
  · refine lv_iconst (v := 0) hx hb dX0_timeToGo_17 (by decide) ?_
    exact wRi hQ hx hb hr hlocks hP hD hS dX0_timeToGo_18 () (by simp only [dToGo]; first | exact (if_pos (ite01.mp c_5)).symm | exact (if_neg (ite01n.mp c_5)).symm) rfl
  · refine lv_aload_n hx hb dX0_timeToGo_8 rfl (lv_at hl 0 rfl) ?_
    refine va_get (D := D) (ci := 0) (v := .ref (a 5)) (C := RX0) (T := TX0) (N := 17) hx hb hw0 (fun _ h => h) hown hK hP 0 rfl rfl 14 (by decide) k24 (fun _ h9 => h9) rfl dX0_timeToGo_9 ?_
    refine lv_iload_n hx hb dX0_timeToGo_12 rfl (lv_at hl 1 rfl) ?_
    refine wIald hx hb hK hP 5 0 rfl rfl k rfl (by omega) (by decide) dX0_timeToGo_13 ?_
    refine lv_goto (tgt := 18) hx hb dX0_timeToGo_14 (by decide) ?_
    exact wRi hQ hx hb hr hlocks hP hD hS dX0_timeToGo_18 () (by simp only [dToGo]; first | exact (if_pos (ite01.mp c_5)).symm | exact (if_neg (ite01n.mp c_5)).symm) rfl
abbrev rmX0_seatsBetween : Room := { frames := 1, cells := 0, slots := 0, locals := 21 }
set_option maxRecDepth 100000 in
set_option maxHeartbeats 4000000 in
/-- seatsBetween -/
theorem mX0_seatsBetween (l : Launch) (D : va_G) (cI : ClassId) (a : Nat → Nat) (f : Nat → Int32) (r : Nat → Nat → Int32) (x y : Int32) (sz : Nat) : wCt l yX0_seatsBetween wsX0_seatsBetween rmX0_seatsBetween D [(cI, .int)] [.ref (a 0), .int x, .int y] (DC cI a f r) sz 0 0 (wQi D (fun v (_ : Unit) => v = dSeats (f 0) x y) (fun _ : Unit => DC cI a f r)) := by
  refine wMet cX0_seatsBetween 4 (some .int) (by decide) rfl (Nat.le_of_ble_eq_true rfl) ?_
  intro p e s m args below meth c A Q ls hQ hx hb hr hml hown hlocks hin hts hN hP hK hD hA hS hl
  have hl : lv_has ls 4 [(0, .ref (a 0)), (1, .int x), (2, .int y)] := hl
  have hown : s.vm.findClass RX0 = some m.cls := hown
  have hw0 : ∀ w ∈ wsX00, w.before args s = true := fun w h => hts w (List.mem_cons_of_mem _ (List.mem_append_right _ h))
  have k41 := hts (.fieldLink RX0 41 "PauseLedger$Dinner" "guests" "I") (by decide +kernel)
  refine lv_iload_n hx hb dX0_seatsBetween_0 rfl (lv_at hl 1 rfl) ?_
  refine lv_iload_n hx hb dX0_seatsBetween_1 rfl (lv_at hl 2 rfl) ?_
  refine lv_isub hx hb dX0_seatsBetween_2 ?_
  refine va_mabs hx hb (hml.trans hl.1.symm) hown (hts (.methodLink RX0 114 Lib.Math.abs.name) (by decide +kernel)) (hts (.static Lib.Math.abs.name) (by decide +kernel)) (hts (.initialized "java/lang/Math") (by decide +kernel)) (hts (.code Lib.Math.abs.name Lib.Math.abs.code 1 (some .int)) (by decide +kernel)) (Nat.le_of_ble_eq_true rfl) (Nat.le_of_ble_eq_true rfl) (Nat.zero_le _) (Nat.zero_le _) dX0_seatsBetween_3 ?_
  refine lv_istore_n (lv' := [(3, .int (if 0 ≤ (x - y) then (x - y) else 0 - (x - y))), (0, .ref (a 0)), (1, .int x), (2, .int y)]) hx hb dX0_seatsBetween_6 rfl hl (by decide) rfl (fun ls hl => ?_)
  refine lv_iload_n hx hb dX0_seatsBetween_7 rfl (lv_at hl 0 rfl) ?_
  refine lv_aload_n hx hb dX0_seatsBetween_8 rfl (lv_at hl 1 rfl) ?_
  refine va_get (D := D) (ci := 0) (v := .int (f 0)) (C := RX0) (T := TX0) (N := 17) hx hb hw0 (fun _ h => h) hown hK hP 0 rfl rfl 0 (by decide) k41 (fun _ h9 => h9) rfl dX0_seatsBetween_9 ?_
  refine lv_iload_n hx hb dX0_seatsBetween_12 rfl (lv_at hl 0 rfl) ?_
  refine lv_isub hx hb dX0_seatsBetween_13 ?_
  refine va_mmin hx hb (hml.trans hl.1.symm) hown (hts (.methodLink RX0 119 Lib.Math.min.name) (by decide +kernel)) (hts (.static Lib.Math.min.name) (by decide +kernel)) (hts (.initialized "java/lang/Math") (by decide +kernel)) (hts (.code Lib.Math.min.name Lib.Math.min.code 2 (some .int)) (by decide +kernel)) (Nat.le_of_ble_eq_true rfl) (Nat.le_of_ble_eq_true rfl) (Nat.zero_le _) (Nat.zero_le _) dX0_seatsBetween_14 ?_
  exact wRi hQ hx hb hr hlocks hP hD hS dX0_seatsBetween_17 () (rfl) rfl
abbrev rmX0_wayOf : Room := { frames := 2, cells := 0, slots := 0, locals := 44 }
set_option maxRecDepth 100000 in
set_option maxHeartbeats 4000000 in
/-- wayOf -/
theorem mX0_wayOf (l : Launch) (D : va_G) (cI : ClassId) (a : Nat → Nat) (f : Nat → Int32) (r : Nat → Nat → Int32) (x y : Int32) (sz : Nat) : wCt l yX0_wayOf wsX0_wayOf rmX0_wayOf D [(cI, .int)] [.ref (a 0), .int x, .int y] (DC cI a f r) sz 0 0 (wQi D (fun v (_ : Unit) => v = 2 * dSeats (f 0) x y) (fun _ : Unit => DC cI a f r)) := by
  refine wMet cX0_wayOf 3 (some .int) (by decide) rfl (Nat.le_of_ble_eq_true rfl) ?_
  intro p e s m args below meth c A Q ls hQ hx hb hr hml hown hlocks hin hts hN hP hK hD hA hS hl
  have hl : lv_has ls 3 [(0, .ref (a 0)), (1, .int x), (2, .int y)] := hl
  have hown : s.vm.findClass RX0 = some m.cls := hown
  refine lv_iconst (v := 2) hx hb dX0_wayOf_0 (by decide) ?_
  refine lv_aload_n hx hb dX0_wayOf_1 rfl (lv_at hl 0 rfl) ?_
  refine lv_iload_n hx hb dX0_wayOf_2 rfl (lv_at hl 1 rfl) ?_
  refine lv_iload_n hx hb dX0_wayOf_3 rfl (lv_at hl 2 rfl) ?_
  refine wCVi (pre := ([] : va_W)) (Wc := DC cI a f r) (suf := ([] : va_W)) (As := [.int x, .int y]) (rest := [.int 2]) ⟨hx, hb, hml, hown, hts⟩ (mX0_seatsBetween l D cI a f r x y _) hN hA hK hS hP hD rfl 0 (r := (RX0, TX0, 17)) rfl rfl (cwV 2 hts gX0_wayOf_X0_seatsBetween rfl rfl rfl (by decide +kernel) ⟨Nat.le_of_ble_eq_true rfl, Nat.le_of_ble_eq_true rfl⟩) rfl hl.1 rfl (Nat.le_of_ble_eq_true rfl) dX0_wayOf_4 ⟨Nat.zero_le _, Nat.zero_le _⟩ (fun r_4 u_4 H locs hw hP hD hS => ?_)
  have hw : r_4 = dSeats (f 0) x y := hw
  subst hw
  have hP : va_P D vwCl (DC cI a f r) H := hP
  have hD : va_D A (DC cI a f r) := hD
  refine lv_imul hx hb dX0_wayOf_7 ?_
  exact wRi hQ hx hb hr hlocks hP hD hS dX0_wayOf_8 () (rfl) rfl
abbrev rmX0_beyondMultipleOfLimit : Room := { frames := 0, cells := 0, slots := 0, locals := 0 }
set_option maxRecDepth 100000 in
set_option maxHeartbeats 4000000 in
/-- beyondMultipleOfLimit -/
theorem mX0_beyondMultipleOfLimit (l : Launch) (D : va_G) (cI : ClassId) (a : Nat → Nat) (f : Nat → Int32) (r : Nat → Nat → Int32) (x : Int32) (sz : Nat) : wCt l yX0_beyondMultipleOfLimit wsX0_beyondMultipleOfLimit rmX0_beyondMultipleOfLimit D [(cI, .int)] [.ref (a 0), .int x] (DC cI a f r) sz 0 0 (wQi D (fun v (_ : Unit) => v = dBm (f 2) x) (fun _ : Unit => DC cI a f r)) := by
  refine wMet cX0_beyondMultipleOfLimit 2 (some .int) (by decide) rfl (Nat.le_of_ble_eq_true rfl) ?_
  intro p e s m args below meth c A Q ls hQ hx hb hr hml hown hlocks hin hts hN hP hK hD hA hS hl
  have hl : lv_has ls 2 [(0, .ref (a 0)), (1, .int x)] := hl
  have hown : s.vm.findClass RX0 = some m.cls := hown
  have hw0 : ∀ w ∈ wsX00, w.before args s = true := fun w h => hts w (List.mem_cons_of_mem _ (List.mem_append_right _ h))
  have k33 := hts (.fieldLink RX0 33 "PauseLedger$Dinner" "limit" "I") (by decide +kernel)
  refine lv_aload_n hx hb dX0_beyondMultipleOfLimit_0 rfl (lv_at hl 0 rfl) ?_
  refine va_get (D := D) (ci := 0) (v := .int (f 2)) (C := RX0) (T := TX0) (N := 17) hx hb hw0 (fun _ h => h) hown hK hP 0 rfl rfl 2 (by decide) k33 (fun _ h9 => h9) rfl dX0_beyondMultipleOfLimit_1 ?_
  refine lv_if_le (tgt := 16) hx hb dX0_beyondMultipleOfLimit_4 (by decide) (fun c_4 => ?_) (fun c_4 => ?_)
  · refine lv_iconst (v := 0) hx hb dX0_beyondMultipleOfLimit_16 (by decide) ?_
    exact wRi hQ hx hb hr hlocks hP hD hS dX0_beyondMultipleOfLimit_17 () (by simp only [dBm]; first | exact (if_neg (Int32.not_lt.mpr c_4)).symm | exact (if_pos (Int32.not_le.mp c_4)).symm) rfl
  · refine lv_iload_n hx hb dX0_beyondMultipleOfLimit_7 rfl (lv_at hl 1 rfl) ?_
    refine lv_aload_n hx hb dX0_beyondMultipleOfLimit_8 rfl (lv_at hl 0 rfl) ?_
    refine va_get (D := D) (ci := 0) (v := .int (f 2)) (C := RX0) (T := TX0) (N := 17) hx hb hw0 (fun _ h => h) hown hK hP 0 rfl rfl 2 (by decide) k33 (fun _ h9 => h9) rfl dX0_beyondMultipleOfLimit_9 ?_
    refine lv_irem hx hb dX0_beyondMultipleOfLimit_12 (fun e => c_4 (by rw [e]; decide)) ?_
    refine lv_goto (tgt := 17) hx hb dX0_beyondMultipleOfLimit_13 (by decide) ?_
    exact wRi hQ hx hb hr hlocks hP hD hS dX0_beyondMultipleOfLimit_17 () (by simp only [dBm]; first | exact (if_neg (Int32.not_lt.mpr c_4)).symm | exact (if_pos (Int32.not_le.mp c_4)).symm) rfl
abbrev rmX0_unsaidByCough : Room := { frames := 0, cells := 0, slots := 0, locals := 0 }
set_option maxRecDepth 100000 in
set_option maxHeartbeats 4000000 in
/-- unsaidByCough -/
theorem mX0_unsaidByCough (l : Launch) (D : va_G) (cI : ClassId) (a : Nat → Nat) (f : Nat → Int32) (r : Nat → Nat → Int32) (x wt : Int32) (sz : Nat) : wCt l yX0_unsaidByCough wsX0_unsaidByCough rmX0_unsaidByCough D [(cI, .int)] [.ref (a 0), .int x, .int wt] (DC cI a f r) sz 0 0 (wQi D (fun v (_ : Unit) => v = dCough f x wt) (fun _ : Unit => DC cI a f r)) := by
  refine wMet cX0_unsaidByCough 3 (some .int) (by decide) rfl (Nat.le_of_ble_eq_true rfl) ?_
  intro p e s m args below meth c A Q ls hQ hx hb hr hml hown hlocks hin hts hN hP hK hD hA hS hl
  have hl : lv_has ls 3 [(0, .ref (a 0)), (1, .int x), (2, .int wt)] := hl
  have hown : s.vm.findClass RX0 = some m.cls := hown
  have hw0 : ∀ w ∈ wsX00, w.before args s = true := fun w h => hts w (List.mem_cons_of_mem _ (List.mem_append_right _ h))
  have k47 := hts (.fieldLink RX0 47 "PauseLedger$Dinner" "speaker" "I") (by decide +kernel)
  refine lv_aload_n hx hb dX0_unsaidByCough_0 rfl (lv_at hl 0 rfl) ?_
  refine va_get (D := D) (ci := 0) (v := .int (f 3)) (C := RX0) (T := TX0) (N := 17) hx hb hw0 (fun _ h => h) hown hK hP 0 rfl rfl 3 (by decide) k47 (fun _ h9 => h9) rfl dX0_unsaidByCough_1 ?_
  refine lv_iconst (v := (-1)) hx hb dX0_unsaidByCough_4 (by decide) ?_
  refine lv_icmp_ne (tgt := 10) hx hb dX0_unsaidByCough_5 (by decide) (fun c_5 => ?_) (fun c_5 => ?_)
  · refine lv_aload_n hx hb dX0_unsaidByCough_10 rfl (lv_at hl 0 rfl) ?_
    refine va_get (D := D) (ci := 0) (v := .int (f 3)) (C := RX0) (T := TX0) (N := 17) hx hb hw0 (fun _ h => h) hown hK hP 0 rfl rfl 3 (by decide) k47 (fun _ h9 => h9) rfl dX0_unsaidByCough_11 ?_
    refine lv_iload_n hx hb dX0_unsaidByCough_14 rfl (lv_at hl 1 rfl) ?_
    refine lv_icmp_ne (tgt := 22) hx hb dX0_unsaidByCough_15 (by decide) (fun c_15 => ?_) (fun c_15 => ?_)
    · refine lv_iload_n hx hb dX0_unsaidByCough_22 rfl (lv_at hl 2 rfl) ?_
      refine lv_iconst (v := 2) hx hb dX0_unsaidByCough_23 (by decide) ?_
      refine lv_idiv hx hb dX0_unsaidByCough_24 (by decide) ?_
      exact wRi hQ hx hb hr hlocks hP hD hS dX0_unsaidByCough_25 () (by simp only [dCough, if_neg c_5, if_neg c_15]) rfl
    · refine lv_iconst (v := 0) hx hb dX0_unsaidByCough_18 (by decide) ?_
      refine lv_goto (tgt := 25) hx hb dX0_unsaidByCough_19 (by decide) ?_
      exact wRi hQ hx hb hr hlocks hP hD hS dX0_unsaidByCough_25 () (by simp only [dCough, if_neg c_5, if_pos c_15]) rfl
  · refine lv_iload_n hx hb dX0_unsaidByCough_8 rfl (lv_at hl 2 rfl) ?_
    exact wRi hQ hx hb hr hlocks hP hD hS dX0_unsaidByCough_9 () (by simp only [dCough, if_pos c_5]) rfl
abbrev rmX0_sumUnsaidByGuests : Room := { frames := 0, cells := 0, slots := 0, locals := 0 }
set_option maxRecDepth 100000 in
set_option maxHeartbeats 4000000 in
/-- sumUnsaidByGuests -/
theorem mX0_sumUnsaidByGuests (l : Launch) (D : va_G) (cI : ClassId) (a : Nat → Nat) (f : Nat → Int32) (r : Nat → Nat → Int32) (g : Nat) (sz : Nat) (hg : f 0 = nI g) (hg2 : g ≤ 10) : wCt l yX0_sumUnsaidByGuests wsX0_sumUnsaidByGuests rmX0_sumUnsaidByGuests D [(cI, .int)] [.ref (a 0)] (DC cI a f r) sz 0 0 (wQi D (fun v (_ : Unit) => v = dSum (r 3) g) (fun _ : Unit => DC cI a f r)) := by
  refine wMet cX0_sumUnsaidByGuests 3 (some .int) (by decide) rfl (Nat.le_of_ble_eq_true rfl) ?_
  intro p e s m args below meth c A Q ls hQ hx hb hr hml hown hlocks hin hts hN hP hK hD hA hS hl
  have hl : lv_has ls 3 [(0, .ref (a 0))] := hl
  have hown : s.vm.findClass RX0 = some m.cls := hown
  have hw0 : ∀ w ∈ wsX00, w.before args s = true := fun w h => hts w (List.mem_cons_of_mem _ (List.mem_append_right _ h))
  have k21 := hts (.fieldLink RX0 21 "PauseLedger$Dinner" "unsaid" "[I") (by decide +kernel)
  have k41 := hts (.fieldLink RX0 41 "PauseLedger$Dinner" "guests" "I") (by decide +kernel)
  refine lv_iconst (v := 0) hx hb dX0_sumUnsaidByGuests_0 (by decide) ?_
  refine lv_istore_n (lv' := [(1, .int 0), (0, .ref (a 0))]) hx hb dX0_sumUnsaidByGuests_1 rfl hl (by decide) rfl (fun ls hl => ?_)
  refine lv_iconst (v := 0) hx hb dX0_sumUnsaidByGuests_2 (by decide) ?_
  refine lv_istore_n (lv' := [(2, .int 0), (1, .int 0), (0, .ref (a 0))]) hx hb dX0_sumUnsaidByGuests_3 rfl hl (by decide) rfl (fun ls hl => ?_)
  have loop4 : ∀ (j i4 : Nat), i4 + j = g → ∀ (H : Heap) (locs : List Loc) (ls : Array Slot), va_P D vwCl (DC cI a f r) H → va_D A (DC cI a f r) → va_S A s.heap H locs → lv_has ls 3 [(2, .int (nI i4)), (1, .int (dSum (r 3) i4)), (0, .ref (a 0))] → W p l e rmX0_sumUnsaidByGuests s m args below meth c H locs 0 0 Q (F0 m 4 ls []) := by
    intro j
    induction j with
    | zero =>
      intro i4 hi4 H locs ls hP hD hS hl
      have ez : g = i4 := by omega
      subst ez
      refine lv_iload_n hx hb dX0_sumUnsaidByGuests_4 rfl (lv_at hl 0 rfl) ?_
      refine lv_aload_n hx hb dX0_sumUnsaidByGuests_5 rfl (lv_at hl 2 rfl) ?_
      refine va_get (D := D) (ci := 0) (v := .int (f 0)) (C := RX0) (T := TX0) (N := 17) hx hb hw0 (fun _ h => h) hown hK hP 0 rfl rfl 0 (by decide) k41 (fun _ h9 => h9) rfl dX0_sumUnsaidByGuests_6 ?_
      refine lv_icmp_ge (tgt := 27) hx hb dX0_sumUnsaidByGuests_9 (by decide) (fun c_9 => ?_) (fun h9 => absurd (by rw [hg]; exact nI_le (by omega) (by omega)) h9)
      refine lv_iload_n hx hb dX0_sumUnsaidByGuests_27 rfl (lv_at hl 1 rfl) ?_
      exact wRi hQ hx hb hr hlocks hP hD hS dX0_sumUnsaidByGuests_28 () (rfl) rfl
    | succ j ih4 =>
      intro i4 hi4 H locs ls hP hD hS hl
      refine lv_iload_n hx hb dX0_sumUnsaidByGuests_4 rfl (lv_at hl 0 rfl) ?_
      refine lv_aload_n hx hb dX0_sumUnsaidByGuests_5 rfl (lv_at hl 2 rfl) ?_
      refine va_get (D := D) (ci := 0) (v := .int (f 0)) (C := RX0) (T := TX0) (N := 17) hx hb hw0 (fun _ h => h) hown hK hP 0 rfl rfl 0 (by decide) k41 (fun _ h9 => h9) rfl dX0_sumUnsaidByGuests_6 ?_
      refine lv_icmp_ge (tgt := 27) hx hb dX0_sumUnsaidByGuests_9 (by decide) (fun h9 => absurd h9 (by rw [hg]; exact nI_ge (by omega) (by omega))) (fun c_9 => ?_)
      refine lv_iload_n hx hb dX0_sumUnsaidByGuests_12 rfl (lv_at hl 1 rfl) ?_
      refine lv_aload_n hx hb dX0_sumUnsaidByGuests_13 rfl (lv_at hl 2 rfl) ?_
      refine va_get (D := D) (ci := 0) (v := .ref (a 4)) (C := RX0) (T := TX0) (N := 17) hx hb hw0 (fun _ h => h) hown hK hP 0 rfl rfl 13 (by decide) k21 (fun _ h9 => h9) rfl dX0_sumUnsaidByGuests_14 ?_
      refine lv_iload_n hx hb dX0_sumUnsaidByGuests_17 rfl (lv_at hl 0 rfl) ?_
      refine wIald hx hb hK hP 4 0 rfl rfl i4 rfl (by omega) (by decide) dX0_sumUnsaidByGuests_18 ?_
      refine lv_iadd hx hb dX0_sumUnsaidByGuests_19 ?_
      refine lv_istore_n (lv' := [(1, .int ((dSum (r 3) i4) + ((r 3) i4))), (2, .int (nI i4)), (0, .ref (a 0))]) hx hb dX0_sumUnsaidByGuests_20 rfl hl (by decide) rfl (fun ls hl => ?_)
      refine lv_iinc (v := nI (i4 + 1)) (lv' := [(2, .int (nI (i4 + 1))), (1, .int ((dSum (r 3) i4) + ((r 3) i4))), (0, .ref (a 0))]) hx hb dX0_sumUnsaidByGuests_21 hl (k := 1) rfl (nI_1 i4) (by decide) rfl (fun ls hl => ?_)
      refine lv_goto (tgt := 4) hx hb dX0_sumUnsaidByGuests_24 (by decide) ?_
      exact ih4 (i4 + 1) (by omega) _ _ _ hP hD hS (lv_sub hl [0, 1, 2] rfl)
  exact loop4 g 0 (by omega) _ _ _ hP hD hS (lv_sub hl [0, 1, 2] rfl)
abbrev rmX0_sumUnsaid : Room := { frames := 1, cells := 0, slots := 0, locals := 22 }
set_option maxRecDepth 100000 in
set_option maxHeartbeats 4000000 in
/-- sumUnsaid -/
theorem mX0_sumUnsaid (l : Launch) (D : va_G) (cI : ClassId) (a : Nat → Nat) (f : Nat → Int32) (r : Nat → Nat → Int32) (g : Nat) (sz : Nat) (hg : f 0 = nI g) (hg2 : g ≤ 10) : wCt l yX0_sumUnsaid wsX0_sumUnsaid rmX0_sumUnsaid D [(cI, .int)] [.ref (a 0)] (DC cI a f r) sz 0 0 (wQi D (fun v (_ : Unit) => v = dSum (r 3) g + f 6) (fun _ : Unit => DC cI a f r)) := by
  refine wMet cX0_sumUnsaid 1 (some .int) (by decide) rfl (Nat.le_of_ble_eq_true rfl) ?_
  intro p e s m args below meth c A Q ls hQ hx hb hr hml hown hlocks hin hts hN hP hK hD hA hS hl
  have hl : lv_has ls 1 [(0, .ref (a 0))] := hl
  have hown : s.vm.findClass RX0 = some m.cls := hown
  have hw0 : ∀ w ∈ wsX00, w.before args s = true := fun w h => hts w (List.mem_cons_of_mem _ (List.mem_append_right _ h))
  have k56 := hts (.fieldLink RX0 56 "PauseLedger$Dinner" "unsaidInPauses" "I") (by decide +kernel)
  refine lv_aload_n hx hb dX0_sumUnsaid_0 rfl (lv_at hl 0 rfl) ?_
  refine wCVi (pre := ([] : va_W)) (Wc := DC cI a f r) (suf := ([] : va_W)) (As := []) (rest := []) ⟨hx, hb, hml, hown, hts⟩ (mX0_sumUnsaidByGuests l D cI a f r g _ hg hg2) hN hA hK hS hP hD rfl 0 (r := (RX0, TX0, 17)) rfl rfl (cwV 0 hts gX0_sumUnsaid_X0_sumUnsaidByGuests rfl rfl rfl (by decide +kernel) ⟨Nat.le_of_ble_eq_true rfl, Nat.le_of_ble_eq_true rfl⟩) rfl hl.1 rfl (Nat.le_of_ble_eq_true rfl) dX0_sumUnsaid_1 ⟨Nat.zero_le _, Nat.zero_le _⟩ (fun r_1 u_1 H locs hw hP hD hS => ?_)
  have hw : r_1 = dSum (r 3) g := hw
  subst hw
  have hP : va_P D vwCl (DC cI a f r) H := hP
  have hD : va_D A (DC cI a f r) := hD
  refine lv_aload_n hx hb dX0_sumUnsaid_4 rfl (lv_at hl 0 rfl) ?_
  refine va_get (D := D) (ci := 0) (v := .int (f 6)) (C := RX0) (T := TX0) (N := 17) hx hb hw0 (fun _ h => h) hown hK hP 0 rfl rfl 6 (by decide) k56 (fun _ h9 => h9) rfl dX0_sumUnsaid_5 ?_
  refine lv_iadd hx hb dX0_sumUnsaid_8 ?_
  exact wRi hQ hx hb hr hlocks hP hD hS dX0_sumUnsaid_9 () (rfl) rfl
abbrev rmX0_rate : Room := { frames := 2, cells := 0, slots := 0, locals := 42 }
set_option maxRecDepth 100000 in
set_option maxHeartbeats 4000000 in
/-- rate -/
theorem mX0_rate (l : Launch) (D : va_G) (cI : ClassId) (a : Nat → Nat) (f : Nat → Int32) (r : Nat → Nat → Int32) (g : Nat) (sz : Nat) (hg : f 0 = nI g) (hg2 : g ≤ 10) (hg0 : 0 < g) : wCt l yX0_rate wsX0_rate rmX0_rate D [(cI, .int)] [.ref (a 0)] (DC cI a f r) sz 0 0 (wQi D (fun v (_ : Unit) => v = dRate (f 0) (f 6) (r 3) g) (fun _ : Unit => DC cI a f r)) := by
  refine wMet cX0_rate 2 (some .int) (by decide) rfl (Nat.le_of_ble_eq_true rfl) ?_
  intro p e s m args below meth c A Q ls hQ hx hb hr hml hown hlocks hin hts hN hP hK hD hA hS hl
  have hl : lv_has ls 2 [(0, .ref (a 0))] := hl
  have hown : s.vm.findClass RX0 = some m.cls := hown
  have hw0 : ∀ w ∈ wsX00, w.before args s = true := fun w h => hts w (List.mem_cons_of_mem _ (List.mem_append_right _ h))
  have k41 := hts (.fieldLink RX0 41 "PauseLedger$Dinner" "guests" "I") (by decide +kernel)
  refine lv_aload_n hx hb dX0_rate_0 rfl (lv_at hl 0 rfl) ?_
  refine va_get (D := D) (ci := 0) (v := .int (f 0)) (C := RX0) (T := TX0) (N := 17) hx hb hw0 (fun _ h => h) hown hK hP 0 rfl rfl 0 (by decide) k41 (fun _ h9 => h9) rfl dX0_rate_1 ?_
  refine lv_if_le (tgt := 19) hx hb dX0_rate_4 (by decide) (fun h9 => absurd h9 (by rw [hg]; exact nI_nle hg0 (by omega))) (fun c_4 => ?_)
  refine lv_aload_n hx hb dX0_rate_7 rfl (lv_at hl 0 rfl) ?_
  refine wCVi (pre := ([] : va_W)) (Wc := DC cI a f r) (suf := ([] : va_W)) (As := []) (rest := []) ⟨hx, hb, hml, hown, hts⟩ (mX0_sumUnsaid l D cI a f r g _ hg hg2) hN hA hK hS hP hD rfl 0 (r := (RX0, TX0, 17)) rfl rfl (cwV 0 hts gX0_rate_X0_sumUnsaid rfl rfl rfl (by decide +kernel) ⟨Nat.le_of_ble_eq_true rfl, Nat.le_of_ble_eq_true rfl⟩) rfl hl.1 rfl (Nat.le_of_ble_eq_true rfl) dX0_rate_8 ⟨Nat.zero_le _, Nat.zero_le _⟩ (fun r_8 u_8 H locs hw hP hD hS => ?_)
  have hw : r_8 = dSum (r 3) g + f 6 := hw
  subst hw
  have hP : va_P D vwCl (DC cI a f r) H := hP
  have hD : va_D A (DC cI a f r) := hD
  refine lv_aload_n hx hb dX0_rate_11 rfl (lv_at hl 0 rfl) ?_
  refine va_get (D := D) (ci := 0) (v := .int (f 0)) (C := RX0) (T := TX0) (N := 17) hx hb hw0 (fun _ h => h) hown hK hP 0 rfl rfl 0 (by decide) k41 (fun _ h9 => h9) rfl dX0_rate_12 ?_
  refine lv_idiv hx hb dX0_rate_15 (by rw [hg]; exact nI_ne0 hg0 (by omega)) ?_
  refine lv_goto (tgt := 20) hx hb dX0_rate_16 (by decide) ?_
  refine lv_istore_n (lv' := [(1, .int ((dSum (r 3) g + f 6) / (f 0))), (0, .ref (a 0))]) hx hb dX0_rate_20 rfl hl (by decide) rfl (fun ls hl => ?_)
  refine lv_iconst (v := 0) hx hb dX0_rate_21 (by decide) ?_
  refine lv_bipush (v := 10) hx hb dX0_rate_22 (by decide) ?_
  refine lv_iload_n hx hb dX0_rate_24 rfl (lv_at hl 0 rfl) ?_
  refine lv_iconst (v := 4) hx hb dX0_rate_25 (by decide) ?_
  refine lv_isub hx hb dX0_rate_26 ?_
  refine va_mabs hx hb (hml.trans hl.1.symm) hown (hts (.methodLink RX0 114 Lib.Math.abs.name) (by decide +kernel)) (hts (.static Lib.Math.abs.name) (by decide +kernel)) (hts (.initialized "java/lang/Math") (by decide +kernel)) (hts (.code Lib.Math.abs.name Lib.Math.abs.code 1 (some .int)) (by decide +kernel)) (Nat.le_of_ble_eq_true rfl) (Nat.le_of_ble_eq_true rfl) (Nat.zero_le _) (Nat.zero_le _) dX0_rate_27 ?_
  refine lv_isub hx hb dX0_rate_30 ?_
  refine va_mmax hx hb (hml.trans hl.1.symm) hown (hts (.methodLink RX0 135 Lib.Math.max.name) (by decide +kernel)) (hts (.static Lib.Math.max.name) (by decide +kernel)) (hts (.initialized "java/lang/Math") (by decide +kernel)) (hts (.code Lib.Math.max.name Lib.Math.max.code 2 (some .int)) (by decide +kernel)) (Nat.le_of_ble_eq_true rfl) (Nat.le_of_ble_eq_true rfl) (Nat.zero_le _) (Nat.zero_le _) dX0_rate_31 ?_
  exact wRi hQ hx hb hr hlocks hP hD hS dX0_rate_34 () (rfl) rfl
