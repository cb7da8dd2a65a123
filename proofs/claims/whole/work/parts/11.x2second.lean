abbrev rmX2_isIn : Room := { frames := 0, cells := 0, slots := 0, locals := 0 }
set_option maxRecDepth 100000 in
set_option maxHeartbeats 4000000 in
/-- isIn -/
theorem mX2_isIn (l : Launch) (D : va_G) (cI : ClassId) (x lo hi : Int32) (sz : Nat) : wCt l yX2_isIn wsX2_isIn rmX2_isIn D [(cI, .int)] [.int x, .int lo, .int hi] (([] : va_W)) sz 0 0 (wQi D (fun v (_ : Unit) => v = mIn x lo hi) (fun _ : Unit => ([] : va_W))) := by
  refine wMet cX2_isIn 3 (some .boolean) (by decide) rfl (Nat.le_of_ble_eq_true rfl) ?_
  intro p e s m args below meth c A Q ls hQ hx hb hr hml hown hlocks hin hts hN hP hK hD hA hS hl
  have hl : lv_has ls 3 [(0, .int x), (1, .int lo), (2, .int hi)] := hl
  have hown : s.vm.findClass RX2 = some m.cls := hown
  refine lv_iload_n hx hb dX2_isIn_0 rfl (lv_at hl 0 rfl) ?_
  refine lv_iload_n hx hb dX2_isIn_1 rfl (lv_at hl 1 rfl) ?_
  refine lv_icmp_lt (tgt := 14) hx hb dX2_isIn_2 (by decide) (fun c_2 => ?_) (fun c_2 => ?_)
  · refine lv_iconst (v := 0) hx hb dX2_isIn_14 (by decide) ?_
    exact wRz hQ hx hb hr hlocks hP hD hS dX2_isIn_15 (rfl) () ((mInF (fun h => absurd h.1 (Int32.not_le.mpr c_2))).symm) rfl
  · refine lv_iload_n hx hb dX2_isIn_5 rfl (lv_at hl 0 rfl) ?_
    refine lv_iload_n hx hb dX2_isIn_6 rfl (lv_at hl 2 rfl) ?_
    refine lv_icmp_gt (tgt := 14) hx hb dX2_isIn_7 (by decide) (fun c_7 => ?_) (fun c_7 => ?_)
    · refine lv_iconst (v := 0) hx hb dX2_isIn_14 (by decide) ?_
      exact wRz hQ hx hb hr hlocks hP hD hS dX2_isIn_15 (rfl) () ((mInF (fun h => absurd h.2 (Int32.not_le.mpr c_7))).symm) rfl
    · refine lv_iconst (v := 1) hx hb dX2_isIn_10 (by decide) ?_
      refine lv_goto (tgt := 15) hx hb dX2_isIn_11 (by decide) ?_
      exact wRz hQ hx hb hr hlocks hP hD hS dX2_isIn_15 (rfl) () (show (1 : Int32) = mIn x lo hi by unfold mIn; rw [if_pos (Int32.not_lt.mp c_2), if_pos (Int32.not_lt.mp c_7)]) rfl
abbrev rmX2_pair : Room := { frames := 0, cells := 0, slots := 0, locals := 0 }
set_option maxRecDepth 100000 in
set_option maxHeartbeats 4000000 in
/-- pair -/
theorem mX2_pair (l : Launch) (D : va_G) (cI : ClassId) (x y : Nat) (sz : Nat) : wCt l yX2_pair wsX2_pair rmX2_pair D [(cI, .int)] [.int (nI x), .int (nI y)] (([] : va_W)) sz 0 0 (wQi D (fun v (_ : Unit) => v = nI (10 * x + y)) (fun _ : Unit => ([] : va_W))) := by
  refine wMet cX2_pair 2 (some .int) (by decide) rfl (Nat.le_of_ble_eq_true rfl) ?_
  intro p e s m args below meth c A Q ls hQ hx hb hr hml hown hlocks hin hts hN hP hK hD hA hS hl
  have hl : lv_has ls 2 [(0, .int (nI x)), (1, .int (nI y))] := hl
  have hown : s.vm.findClass RX2 = some m.cls := hown
  refine lv_bipush (v := 10) hx hb dX2_pair_0 (by decide) ?_
  refine lv_iload_n hx hb dX2_pair_2 rfl (lv_at hl 0 rfl) ?_
  refine lv_imul hx hb dX2_pair_3 ?_
  refine wTop (z := nI (10 * x)) (pk_mul 10 x) ?_
  refine lv_iload_n hx hb dX2_pair_4 rfl (lv_at hl 1 rfl) ?_
  refine lv_iadd hx hb dX2_pair_5 ?_
  refine wTop (z := nI ((10 * x) + y)) (nI_add (10 * x) y) ?_
  exact wRi hQ hx hb hr hlocks hP hD hS dX2_pair_6 () (rfl) rfl
abbrev rmX2_thrown : Room := { frames := 0, cells := 0, slots := 0, locals := 0 }
set_option maxRecDepth 100000 in
set_option maxHeartbeats 4000000 in
theorem mX2_thrown (l : Launch) (D : va_G) (cI : ClassId) (b : Nat → Nat) (g nw kp : Nat → Int32) (sz : Nat) : wCt l yX2_thrown wsX2_thrown rmX2_thrown D [(cI, .int)] [.ref (b 0)] (MC cI b g nw kp) sz 0 0 (wQi D (fun v (_ : Unit) => v = g 0) (fun _ : Unit => MC cI b g nw kp)) := by
  refine wMet cX2_thrown 1 (some .int) (by decide) rfl (Nat.le_of_ble_eq_true rfl) ?_
  intro p e s m args below meth c A Q ls hQ hx hb hr hml hown hlocks hin hts hN hP hK hD hA hS hl
  have hl : lv_has ls 1 [(0, .ref (b 0))] := hl
  have hown : s.vm.findClass RX2 = some m.cls := hown
  have hw2 : ∀ w ∈ wsX20, w.before args s = true := fun w h => hts w (List.mem_cons_of_mem _ (List.mem_append_right _ h))
  have k26 := hts (.fieldLink RX2 26 "PauseLedgerModel" "thrown" "I") (by decide +kernel)
  refine lv_aload_n hx hb dX2_thrown_0 rfl (lv_at hl 0 rfl) ?_
  refine va_get (D := D) (ci := 2) (v := .int (g 0)) (C := RX2) (T := TX2) (N := 7) hx hb hw2 (fun _ h => h) hown hK hP 0 rfl rfl 0 (by decide) k26 (fun _ h9 => h9) rfl dX2_thrown_1 ?_
  exact wRi hQ hx hb hr hlocks hP hD hS dX2_thrown_4 () (rfl) rfl
abbrev rmX2_fail : Room := { frames := 0, cells := 0, slots := 0, locals := 0 }
set_option maxRecDepth 100000 in
set_option maxHeartbeats 4000000 in
theorem mX2_fail (l : Launch) (D : va_G) (cI : ClassId) (b : Nat → Nat) (g nw kp : Nat → Int32) (x : Int32) (sz : Nat) : wCt l yX2_fail wsX2_fail rmX2_fail D [(cI, .int)] [.ref (b 0), .int x] (MC cI b g nw kp) sz 0 0 (wQi D (fun v (_ : Unit) => v = 0) (fun _ : Unit => MC cI b (upd g 0 x) nw kp)) := by
  refine wMet cX2_fail 2 (some .int) (by decide) rfl (Nat.le_of_ble_eq_true rfl) ?_
  intro p e s m args below meth c A Q ls hQ hx hb hr hml hown hlocks hin hts hN hP hK hD hA hS hl
  have hl : lv_has ls 2 [(0, .ref (b 0)), (1, .int x)] := hl
  have hown : s.vm.findClass RX2 = some m.cls := hown
  have hw2 : ∀ w ∈ wsX20, w.before args s = true := fun w h => hts w (List.mem_cons_of_mem _ (List.mem_append_right _ h))
  have k26 := hts (.fieldLink RX2 26 "PauseLedgerModel" "thrown" "I") (by decide +kernel)
  refine lv_aload_n hx hb dX2_fail_0 rfl (lv_at hl 0 rfl) ?_
  refine lv_iload_n hx hb dX2_fail_1 rfl (lv_at hl 1 rfl) ?_
  refine va_put (D := D) (ci := 2) (v := .int x) (ty := .int) (C := RX2) (T := TX2) (N := 7) hx hb hw2 (fun _ h => h) tyX2 tyX2_ok nmX2 hown hK hP hD hS 0 rfl rfl 0 (by decide) k26 (fun _ h9 => h9) rfl (by decide +kernel) rfl rfl (Nat.le_of_ble_eq_true rfl) dX2_fail_2 (fun H locs hP hD hS => ?_)
  have hP : va_P D vwCl (MC cI b (upd g 0 x) nw kp) H := hP
  have hD : va_D A (MC cI b (upd g 0 x) nw kp) := hD
  refine lv_iconst (v := 0) hx hb dX2_fail_5 (by decide) ?_
  exact wRi hQ hx hb hr hlocks hP hD hS dX2_fail_6 () (rfl) rfl
abbrev rmX2_told : Room := { frames := 0, cells := 0, slots := 0, locals := 0 }
set_option maxRecDepth 100000 in
set_option maxHeartbeats 4000000 in
theorem mX2_told (l : Launch) (D : va_G) (cI : ClassId) (b : Nat → Nat) (g nw kp : Nat → Int32) (x : Int32) (sz : Nat) : wCt l yX2_told wsX2_told rmX2_told D [(cI, .int)] [.ref (b 0), .int x] (MC cI b g nw kp) sz 0 0 (wQi D (fun v (_ : Unit) => v = x) (fun _ : Unit => MC cI b (upd g 0 0) nw kp)) := by
  refine wMet cX2_told 2 (some .int) (by decide) rfl (Nat.le_of_ble_eq_true rfl) ?_
  intro p e s m args below meth c A Q ls hQ hx hb hr hml hown hlocks hin hts hN hP hK hD hA hS hl
  have hl : lv_has ls 2 [(0, .ref (b 0)), (1, .int x)] := hl
  have hown : s.vm.findClass RX2 = some m.cls := hown
  have hw2 : ∀ w ∈ wsX20, w.before args s = true := fun w h => hts w (List.mem_cons_of_mem _ (List.mem_append_right _ h))
  have k26 := hts (.fieldLink RX2 26 "PauseLedgerModel" "thrown" "I") (by decide +kernel)
  refine lv_aload_n hx hb dX2_told_0 rfl (lv_at hl 0 rfl) ?_
  refine lv_iconst (v := 0) hx hb dX2_told_1 (by decide) ?_
  refine va_put (D := D) (ci := 2) (v := .int 0) (ty := .int) (C := RX2) (T := TX2) (N := 7) hx hb hw2 (fun _ h => h) tyX2 tyX2_ok nmX2 hown hK hP hD hS 0 rfl rfl 0 (by decide) k26 (fun _ h9 => h9) rfl (by decide +kernel) rfl rfl (Nat.le_of_ble_eq_true rfl) dX2_told_2 (fun H locs hP hD hS => ?_)
  have hP : va_P D vwCl (MC cI b (upd g 0 0) nw kp) H := hP
  have hD : va_D A (MC cI b (upd g 0 0) nw kp) := hD
  refine lv_iload_n hx hb dX2_told_5 rfl (lv_at hl 1 rfl) ?_
  exact wRi hQ hx hb hr hlocks hP hD hS dX2_told_6 () (rfl) rfl
abbrev rmX2_isGuest : Room := { frames := 1, cells := 0, slots := 0, locals := 22 }
set_option maxRecDepth 100000 in
set_option maxHeartbeats 4000000 in
theorem mX2_isGuest (l : Launch) (D : va_G) (cI : ClassId) (b : Nat → Nat) (g nw kp : Nat → Int32) (x : Int32) (sz : Nat) : wCt l yX2_isGuest wsX2_isGuest rmX2_isGuest D [(cI, .int)] [.ref (b 0), .int x] (MC cI b g nw kp) sz 0 0 (wQi D (fun v (_ : Unit) => v = mIn x 0 (g 1 - 1)) (fun _ : Unit => MC cI b g nw kp)) := by
  refine wMet cX2_isGuest 2 (some .boolean) (by decide) rfl (Nat.le_of_ble_eq_true rfl) ?_
  intro p e s m args below meth c A Q ls hQ hx hb hr hml hown hlocks hin hts hN hP hK hD hA hS hl
  have hl : lv_has ls 2 [(0, .ref (b 0)), (1, .int x)] := hl
  have hown : s.vm.findClass RX2 = some m.cls := hown
  have hw2 : ∀ w ∈ wsX20, w.before args s = true := fun w h => hts w (List.mem_cons_of_mem _ (List.mem_append_right _ h))
  have k7 := hts (.fieldLink RX2 7 "PauseLedgerModel" "guests" "I") (by decide +kernel)
  refine lv_iload_n hx hb dX2_isGuest_0 rfl (lv_at hl 1 rfl) ?_
  refine lv_iconst (v := 0) hx hb dX2_isGuest_1 (by decide) ?_
  refine lv_aload_n hx hb dX2_isGuest_2 rfl (lv_at hl 0 rfl) ?_
  refine va_get (D := D) (ci := 2) (v := .int (g 1)) (C := RX2) (T := TX2) (N := 7) hx hb hw2 (fun _ h => h) hown hK hP 0 rfl rfl 1 (by decide) k7 (fun _ h9 => h9) rfl dX2_isGuest_3 ?_
  refine lv_iconst (v := 1) hx hb dX2_isGuest_6 (by decide) ?_
  refine lv_isub hx hb dX2_isGuest_7 ?_
  refine wCSi (pre := ([] : va_W)) (Wc := ([] : va_W)) (suf := MC cI b g nw kp) (As := [.int x, .int 0, .int ((g 1) - 1)]) (rest := []) ⟨hx, hb, hml, hown, hts⟩ (mX2_isIn l D cI x 0 ((g 1) - 1) _) hN hA hK hS hP hD rfl (va_cwS 3 hts gX2_isGuest_X2_isIn rfl rfl rfl (by decide +kernel) ⟨Nat.le_of_ble_eq_true rfl, Nat.le_of_ble_eq_true rfl⟩) rfl hl.1 rfl (Nat.le_of_ble_eq_true rfl) dX2_isGuest_8 ⟨Nat.zero_le _, Nat.zero_le _⟩ (fun r_8 u_8 H locs hw hP hD hS => ?_)
  have hw : r_8 = mIn x 0 ((g 1) - 1) := hw
  subst hw
  have hP : va_P D vwCl (MC cI b g nw kp) H := hP
  have hD : va_D A (MC cI b g nw kp) := hD
  exact wRz hQ hx hb hr hlocks hP hD hS dX2_isGuest_11 (mIn_z _ _ _) () (rfl) rfl
abbrev rmX2_apart : Room := { frames := 1, cells := 0, slots := 0, locals := 21 }
set_option maxRecDepth 100000 in
set_option maxHeartbeats 4000000 in
theorem mX2_apart (l : Launch) (D : va_G) (cI : ClassId) (b : Nat → Nat) (g nw kp : Nat → Int32) (x y : Int32) (sz : Nat) : wCt l yX2_apart wsX2_apart rmX2_apart D [(cI, .int)] [.ref (b 0), .int x, .int y] (MC cI b g nw kp) sz 0 0 (wQi D (fun v (_ : Unit) => v = dSeats (g 1) x y) (fun _ : Unit => MC cI b g nw kp)) := by
  refine wMet cX2_apart 4 (some .int) (by decide) rfl (Nat.le_of_ble_eq_true rfl) ?_
  intro p e s m args below meth c A Q ls hQ hx hb hr hml hown hlocks hin hts hN hP hK hD hA hS hl
  have hl : lv_has ls 4 [(0, .ref (b 0)), (1, .int x), (2, .int y)] := hl
  have hown : s.vm.findClass RX2 = some m.cls := hown
  have hw2 : ∀ w ∈ wsX20, w.before args s = true := fun w h => hts w (List.mem_cons_of_mem _ (List.mem_append_right _ h))
  have k7 := hts (.fieldLink RX2 7 "PauseLedgerModel" "guests" "I") (by decide +kernel)
  refine lv_iload_n hx hb dX2_apart_0 rfl (lv_at hl 1 rfl) ?_
  refine lv_iload_n hx hb dX2_apart_1 rfl (lv_at hl 2 rfl) ?_
  refine lv_isub hx hb dX2_apart_2 ?_
  refine va_mabs hx hb (hml.trans hl.1.symm) hown (hts (.methodLink RX2 39 Lib.Math.abs.name) (by decide +kernel)) (hts (.static Lib.Math.abs.name) (by decide +kernel)) (hts (.initialized "java/lang/Math") (by decide +kernel)) (hts (.code Lib.Math.abs.name Lib.Math.abs.code 1 (some .int)) (by decide +kernel)) (Nat.le_of_ble_eq_true rfl) (Nat.le_of_ble_eq_true rfl) (Nat.zero_le _) (Nat.zero_le _) dX2_apart_3 ?_
  refine lv_istore_n (lv' := [(3, .int (if 0 ≤ (x - y) then (x - y) else 0 - (x - y))), (0, .ref (b 0)), (1, .int x), (2, .int y)]) hx hb dX2_apart_6 rfl hl (by decide) rfl (fun ls hl => ?_)
  refine lv_iload_n hx hb dX2_apart_7 rfl (lv_at hl 0 rfl) ?_
  refine lv_aload_n hx hb dX2_apart_8 rfl (lv_at hl 1 rfl) ?_
  refine va_get (D := D) (ci := 2) (v := .int (g 1)) (C := RX2) (T := TX2) (N := 7) hx hb hw2 (fun _ h => h) hown hK hP 0 rfl rfl 1 (by decide) k7 (fun _ h9 => h9) rfl dX2_apart_9 ?_
  refine lv_iload_n hx hb dX2_apart_12 rfl (lv_at hl 0 rfl) ?_
  refine lv_isub hx hb dX2_apart_13 ?_
  refine va_mmin hx hb (hml.trans hl.1.symm) hown (hts (.methodLink RX2 45 Lib.Math.min.name) (by decide +kernel)) (hts (.static Lib.Math.min.name) (by decide +kernel)) (hts (.initialized "java/lang/Math") (by decide +kernel)) (hts (.code Lib.Math.min.name Lib.Math.min.code 2 (some .int)) (by decide +kernel)) (Nat.le_of_ble_eq_true rfl) (Nat.le_of_ble_eq_true rfl) (Nat.zero_le _) (Nat.zero_le _) dX2_apart_14 ?_
  exact wRi hQ hx hb hr hlocks hP hD hS dX2_apart_17 () (rfl) rfl
abbrev rmX2_keep : Room := { frames := 1, cells := 0, slots := 0, locals := 60 }
set_option maxRecDepth 100000 in
set_option maxHeartbeats 4000000 in
theorem mX2_keep (l : Launch) (D : va_G) (cI : ClassId) (b : Nat → Nat) (g nw kp : Nat → Int32) (sz : Nat) : wCt l yX2_keep wsX2_keep rmX2_keep D [(cI, .int)] [.ref (b 0)] (MC cI b g nw kp) sz 0 0 (wQv D (fun _ : Unit => True) (fun _ : Unit => MC cI b g nw nw)) := by
  refine wMet cX2_keep 1 none (by decide) rfl (Nat.le_of_ble_eq_true rfl) ?_
  intro p e s m args below meth c A Q ls hQ hx hb hr hml hown hlocks hin hts hN hP hK hD hA hS hl
  have hl : lv_has ls 1 [(0, .ref (b 0))] := hl
  have hown : s.vm.findClass RX2 = some m.cls := hown
  have hw2 : ∀ w ∈ wsX20, w.before args s = true := fun w h => hts w (List.mem_cons_of_mem _ (List.mem_append_right _ h))
  have k16 := hts (.fieldLink RX2 16 "PauseLedgerModel" "now" "[I") (by decide +kernel)
  have k20 := hts (.fieldLink RX2 20 "PauseLedgerModel" "kept" "[I") (by decide +kernel)
  refine lv_aload_n hx hb dX2_keep_0 rfl (lv_at hl 0 rfl) ?_
  refine va_get (D := D) (ci := 2) (v := .ref (b 1)) (C := RX2) (T := TX2) (N := 7) hx hb hw2 (fun _ h => h) hown hK hP 0 rfl rfl 3 (by decide) k16 (fun _ h9 => h9) rfl dX2_keep_1 ?_
  refine lv_iconst (v := 0) hx hb dX2_keep_4 (by decide) ?_
  refine lv_aload_n hx hb dX2_keep_5 rfl (lv_at hl 0 rfl) ?_
  refine va_get (D := D) (ci := 2) (v := .ref (b 2)) (C := RX2) (T := TX2) (N := 7) hx hb hw2 (fun _ h => h) hown hK hP 0 rfl rfl 4 (by decide) k20 (fun _ h9 => h9) rfl dX2_keep_6 ?_
  refine lv_iconst (v := 0) hx hb dX2_keep_9 (by decide) ?_
  refine lv_sipush (v := 348) hx hb dX2_keep_10 (by decide) ?_
  refine va_copyi hx hb (hml.trans hl.1.symm) hown (hts (.methodLink RX2 33 arraycopyName) (by decide +kernel)) (hts (.native arraycopyName) (by decide +kernel)) (hts (.static arraycopyName) (by decide +kernel)) (hts (.initialized "java/lang/System") (by decide +kernel)) hK hP hD hS 1 2 0 0 rfl rfl rfl rfl rfl (by decide) (by decide) (by decide) (by decide) (by decide) (fun _ _ => rfl) (Nat.le_of_ble_eq_true rfl) (by decide +kernel) dX2_keep_13 (fun H locs hP hD hS => ?_)
  have hP : va_P D vwCl (MC cI b g nw (va_cpy nw kp 0 0 348)) H := hP
  have hD : va_D A (MC cI b g nw (va_cpy nw kp 0 0 348)) := hD
  have eq9 : wEq D (MC cI b g nw (va_cpy nw kp 0 0 348)) (MC cI b g nw nw) := wEq.cons (fun _ h => h) (wEq.row (fun _ _ => rfl) (wEq.row (fun j hj => wCpy hj) wEq.nil))
  have hP := eq9.P hP
  have hD := eq9.D hD
  exact wRv hQ hx hb hr hlocks hP hD hS dX2_keep_16 () (trivial) rfl
abbrev rmX2_bringBack : Room := { frames := 1, cells := 0, slots := 0, locals := 60 }
set_option maxRecDepth 100000 in
set_option maxHeartbeats 4000000 in
theorem mX2_bringBack (l : Launch) (D : va_G) (cI : ClassId) (b : Nat → Nat) (g nw kp : Nat → Int32) (sz : Nat) : wCt l yX2_bringBack wsX2_bringBack rmX2_bringBack D [(cI, .int)] [.ref (b 0)] (MC cI b g nw kp) sz 0 0 (wQv D (fun _ : Unit => True) (fun _ : Unit => MC cI b g kp kp)) := by
  refine wMet cX2_bringBack 1 none (by decide) rfl (Nat.le_of_ble_eq_true rfl) ?_
  intro p e s m args below meth c A Q ls hQ hx hb hr hml hown hlocks hin hts hN hP hK hD hA hS hl
  have hl : lv_has ls 1 [(0, .ref (b 0))] := hl
  have hown : s.vm.findClass RX2 = some m.cls := hown
  have hw2 : ∀ w ∈ wsX20, w.before args s = true := fun w h => hts w (List.mem_cons_of_mem _ (List.mem_append_right _ h))
  have k16 := hts (.fieldLink RX2 16 "PauseLedgerModel" "now" "[I") (by decide +kernel)
  have k20 := hts (.fieldLink RX2 20 "PauseLedgerModel" "kept" "[I") (by decide +kernel)
  refine lv_aload_n hx hb dX2_bringBack_0 rfl (lv_at hl 0 rfl) ?_
  refine va_get (D := D) (ci := 2) (v := .ref (b 2)) (C := RX2) (T := TX2) (N := 7) hx hb hw2 (fun _ h => h) hown hK hP 0 rfl rfl 4 (by decide) k20 (fun _ h9 => h9) rfl dX2_bringBack_1 ?_
  refine lv_iconst (v := 0) hx hb dX2_bringBack_4 (by decide) ?_
  refine lv_aload_n hx hb dX2_bringBack_5 rfl (lv_at hl 0 rfl) ?_
  refine va_get (D := D) (ci := 2) (v := .ref (b 1)) (C := RX2) (T := TX2) (N := 7) hx hb hw2 (fun _ h => h) hown hK hP 0 rfl rfl 3 (by decide) k16 (fun _ h9 => h9) rfl dX2_bringBack_6 ?_
  refine lv_iconst (v := 0) hx hb dX2_bringBack_9 (by decide) ?_
  refine lv_sipush (v := 348) hx hb dX2_bringBack_10 (by decide) ?_
  refine va_copyi hx hb (hml.trans hl.1.symm) hown (hts (.methodLink RX2 33 arraycopyName) (by decide +kernel)) (hts (.native arraycopyName) (by decide +kernel)) (hts (.static arraycopyName) (by decide +kernel)) (hts (.initialized "java/lang/System") (by decide +kernel)) hK hP hD hS 2 1 0 0 rfl rfl rfl rfl rfl (by decide) (by decide) (by decide) (by decide) (by decide) (fun _ _ => rfl) (Nat.le_of_ble_eq_true rfl) (by decide +kernel) dX2_bringBack_13 (fun H locs hP hD hS => ?_)
  have hP : va_P D vwCl (MC cI b g (va_cpy kp nw 0 0 348) kp) H := hP
  have hD : va_D A (MC cI b g (va_cpy kp nw 0 0 348) kp) := hD
  have eq9 : wEq D (MC cI b g (va_cpy kp nw 0 0 348) kp) (MC cI b g kp kp) := wEq.cons (fun _ h => h) (wEq.row (fun j hj => wCpy hj) (wEq.row (fun _ _ => rfl) wEq.nil))
  have hP := eq9.P hP
  have hD := eq9.D hD
  exact wRv hQ hx hb hr hlocks hP hD hS dX2_bringBack_16 () (trivial) rfl
abbrev rmX2_unsaid : Room := { frames := 0, cells := 0, slots := 0, locals := 0 }
set_option maxRecDepth 100000 in
set_option maxHeartbeats 4000000 in
theorem mX2_unsaid (l : Launch) (D : va_G) (cI : ClassId) (b : Nat → Nat) (g nw kp : Nat → Int32) (gg : Nat) (sz : Nat) (hg : g 1 = nI gg) (hg2 : gg ≤ 10) : wCt l yX2_unsaid wsX2_unsaid rmX2_unsaid D [(cI, .int)] [.ref (b 0)] (MC cI b g nw kp) sz 0 0 (wQi D (fun v (_ : Unit) => v = mSum nw gg) (fun _ : Unit => MC cI b g nw kp)) := by
  refine wMet cX2_unsaid 3 (some .int) (by decide) rfl (Nat.le_of_ble_eq_true rfl) ?_
  intro p e s m args below meth c A Q ls hQ hx hb hr hml hown hlocks hin hts hN hP hK hD hA hS hl
  have hl : lv_has ls 3 [(0, .ref (b 0))] := hl
  have hown : s.vm.findClass RX2 = some m.cls := hown
  have hw2 : ∀ w ∈ wsX20, w.before args s = true := fun w h => hts w (List.mem_cons_of_mem _ (List.mem_append_right _ h))
  have k7 := hts (.fieldLink RX2 7 "PauseLedgerModel" "guests" "I") (by decide +kernel)
  have k16 := hts (.fieldLink RX2 16 "PauseLedgerModel" "now" "[I") (by decide +kernel)
  refine lv_aload_n hx hb dX2_unsaid_0 rfl (lv_at hl 0 rfl) ?_
  refine va_get (D := D) (ci := 2) (v := .ref (b 1)) (C := RX2) (T := TX2) (N := 7) hx hb hw2 (fun _ h => h) hown hK hP 0 rfl rfl 3 (by decide) k16 (fun _ h9 => h9) rfl dX2_unsaid_1 ?_
  refine lv_iconst (v := 4) hx hb dX2_unsaid_4 (by decide) ?_
  refine wIald hx hb hK hP 1 0 rfl rfl 4 rfl (by decide) (by decide) dX2_unsaid_5 ?_
  refine lv_istore_n (lv' := [(1, .int (nw 4)), (0, .ref (b 0))]) hx hb dX2_unsaid_6 rfl hl (by decide) rfl (fun ls hl => ?_)
  refine lv_iconst (v := 0) hx hb dX2_unsaid_7 (by decide) ?_
  refine lv_istore_n (lv' := [(2, .int 0), (1, .int (nw 4)), (0, .ref (b 0))]) hx hb dX2_unsaid_8 rfl hl (by decide) rfl (fun ls hl => ?_)
  have loop9 : ∀ (j i9 : Nat), i9 + j = gg → ∀ (H : Heap) (locs : List Loc) (ls : Array Slot), va_P D vwCl (MC cI b g nw kp) H → va_D A (MC cI b g nw kp) → va_S A s.heap H locs → lv_has ls 3 [(2, .int (nI i9)), (1, .int (mSum nw i9)), (0, .ref (b 0))] → W p l e rmX2_unsaid s m args below meth c H locs 0 0 Q (F0 m 9 ls []) := by
    intro j
    induction j with
    | zero =>
      intro i9 hi9 H locs ls hP hD hS hl
      have ez : gg = i9 := by omega
      subst ez
      refine lv_iload_n hx hb dX2_unsaid_9 rfl (lv_at hl 0 rfl) ?_
      refine lv_aload_n hx hb dX2_unsaid_10 rfl (lv_at hl 2 rfl) ?_
      refine va_get (D := D) (ci := 2) (v := .int (g 1)) (C := RX2) (T := TX2) (N := 7) hx hb hw2 (fun _ h => h) hown hK hP 0 rfl rfl 1 (by decide) k7 (fun _ h9 => h9) rfl dX2_unsaid_11 ?_
      refine lv_icmp_ge (tgt := 35) hx hb dX2_unsaid_14 (by decide) (fun c_14 => ?_) (fun h9 => absurd (by rw [hg]; exact nI_le (by omega) (by omega)) h9)
      refine lv_iload_n hx hb dX2_unsaid_35 rfl (lv_at hl 1 rfl) ?_
      exact wRi hQ hx hb hr hlocks hP hD hS dX2_unsaid_36 () (rfl) rfl
    | succ j ih9 =>
      intro i9 hi9 H locs ls hP hD hS hl
      refine lv_iload_n hx hb dX2_unsaid_9 rfl (lv_at hl 0 rfl) ?_
      refine lv_aload_n hx hb dX2_unsaid_10 rfl (lv_at hl 2 rfl) ?_
      refine va_get (D := D) (ci := 2) (v := .int (g 1)) (C := RX2) (T := TX2) (N := 7) hx hb hw2 (fun _ h => h) hown hK hP 0 rfl rfl 1 (by decide) k7 (fun _ h9 => h9) rfl dX2_unsaid_11 ?_
      refine lv_icmp_ge (tgt := 35) hx hb dX2_unsaid_14 (by decide) (fun h9 => absurd h9 (by rw [hg]; exact nI_ge (by omega) (by omega))) (fun c_14 => ?_)
      refine lv_iload_n hx hb dX2_unsaid_17 rfl (lv_at hl 1 rfl) ?_
      refine lv_aload_n hx hb dX2_unsaid_18 rfl (lv_at hl 2 rfl) ?_
      refine va_get (D := D) (ci := 2) (v := .ref (b 1)) (C := RX2) (T := TX2) (N := 7) hx hb hw2 (fun _ h => h) hown hK hP 0 rfl rfl 3 (by decide) k16 (fun _ h9 => h9) rfl dX2_unsaid_19 ?_
      refine lv_bipush (v := 38) hx hb dX2_unsaid_22 (by decide) ?_
      refine lv_iload_n hx hb dX2_unsaid_24 rfl (lv_at hl 0 rfl) ?_
      refine lv_iadd hx hb dX2_unsaid_25 ?_
      refine wTop (z := nI (38 + i9)) (nI_add 38 i9) ?_
      refine wIald hx hb hK hP 1 0 rfl rfl (38 + i9) rfl (by omega) (by decide) dX2_unsaid_26 ?_
      refine lv_iadd hx hb dX2_unsaid_27 ?_
      refine lv_istore_n (lv' := [(1, .int ((mSum nw i9) + (nw (38 + i9)))), (2, .int (nI i9)), (0, .ref (b 0))]) hx hb dX2_unsaid_28 rfl hl (by decide) rfl (fun ls hl => ?_)
      refine lv_iinc (v := nI (i9 + 1)) (lv' := [(2, .int (nI (i9 + 1))), (1, .int ((mSum nw i9) + (nw (38 + i9)))), (0, .ref (b 0))]) hx hb dX2_unsaid_29 hl (k := 1) rfl (nI_1 i9) (by decide) rfl (fun ls hl => ?_)
      refine lv_goto (tgt := 9) hx hb dX2_unsaid_32 (by decide) ?_
      exact ih9 (i9 + 1) (by omega) _ _ _ hP hD hS (lv_sub hl [0, 1, 2] rfl)
  exact loop9 gg 0 (by omega) _ _ _ hP hD hS (lv_sub hl [0, 1, 2] rfl)
abbrev rmX2_rated : Room := { frames := 1, cells := 0, slots := 0, locals := 22 }
set_option maxRecDepth 100000 in
set_option maxHeartbeats 4000000 in
theorem mX2_rated (l : Launch) (D : va_G) (cI : ClassId) (b : Nat → Nat) (g nw kp : Nat → Int32) (gg : Nat) (sz : Nat) (hg : g 1 = nI gg) (hg2 : gg ≤ 10) (hg0 : 0 < gg) : wCt l yX2_rated wsX2_rated rmX2_rated D [(cI, .int)] [.ref (b 0)] (MC cI b g nw kp) sz 0 0 (wQi D (fun v (_ : Unit) => v = mRate (g 1) nw gg) (fun _ : Unit => MC cI b g nw kp)) := by
  refine wMet cX2_rated 1 (some .int) (by decide) rfl (Nat.le_of_ble_eq_true rfl) ?_
  intro p e s m args below meth c A Q ls hQ hx hb hr hml hown hlocks hin hts hN hP hK hD hA hS hl
  have hl : lv_has ls 1 [(0, .ref (b 0))] := hl
  have hown : s.vm.findClass RX2 = some m.cls := hown
  have hw2 : ∀ w ∈ wsX20, w.before args s = true := fun w h => hts w (List.mem_cons_of_mem _ (List.mem_append_right _ h))
  have k7 := hts (.fieldLink RX2 7 "PauseLedgerModel" "guests" "I") (by decide +kernel)
  refine lv_iconst (v := 0) hx hb dX2_rated_0 (by decide) ?_
  refine lv_bipush (v := 10) hx hb dX2_rated_1 (by decide) ?_
  refine lv_aload_n hx hb dX2_rated_3 rfl (lv_at hl 0 rfl) ?_
  refine wCVi (pre := ([] : va_W)) (Wc := MC cI b g nw kp) (suf := ([] : va_W)) (As := []) (rest := [.int 10, .int 0]) ⟨hx, hb, hml, hown, hts⟩ (mX2_unsaid l D cI b g nw kp gg _ hg hg2) hN hA hK hS hP hD rfl 0 (r := (RX2, TX2, 7)) rfl rfl (cwV 0 hts gX2_rated_X2_unsaid rfl rfl rfl (by decide +kernel) ⟨Nat.le_of_ble_eq_true rfl, Nat.le_of_ble_eq_true rfl⟩) rfl hl.1 rfl (Nat.le_of_ble_eq_true rfl) dX2_rated_4 ⟨Nat.zero_le _, Nat.zero_le _⟩ (fun r_4 u_4 H locs hw hP hD hS => ?_)
  have hw : r_4 = mSum nw gg := hw
  subst hw
  have hP : va_P D vwCl (MC cI b g nw kp) H := hP
  have hD : va_D A (MC cI b g nw kp) := hD
  refine lv_aload_n hx hb dX2_rated_7 rfl (lv_at hl 0 rfl) ?_
  refine va_get (D := D) (ci := 2) (v := .int (g 1)) (C := RX2) (T := TX2) (N := 7) hx hb hw2 (fun _ h => h) hown hK hP 0 rfl rfl 1 (by decide) k7 (fun _ h9 => h9) rfl dX2_rated_8 ?_
  refine lv_idiv hx hb dX2_rated_11 (by rw [hg]; exact nI_ne0 hg0 (by omega)) ?_
  refine lv_iconst (v := 4) hx hb dX2_rated_12 (by decide) ?_
  refine lv_isub hx hb dX2_rated_13 ?_
  refine va_mabs hx hb (hml.trans hl.1.symm) hown (hts (.methodLink RX2 39 Lib.Math.abs.name) (by decide +kernel)) (hts (.static Lib.Math.abs.name) (by decide +kernel)) (hts (.initialized "java/lang/Math") (by decide +kernel)) (hts (.code Lib.Math.abs.name Lib.Math.abs.code 1 (some .int)) (by decide +kernel)) (Nat.le_of_ble_eq_true rfl) (Nat.le_of_ble_eq_true rfl) (Nat.zero_le _) (Nat.zero_le _) dX2_rated_14 ?_
  refine lv_isub hx hb dX2_rated_17 ?_
  refine va_mmax hx hb (hml.trans hl.1.symm) hown (hts (.methodLink RX2 53 Lib.Math.max.name) (by decide +kernel)) (hts (.static Lib.Math.max.name) (by decide +kernel)) (hts (.initialized "java/lang/Math") (by decide +kernel)) (hts (.code Lib.Math.max.name Lib.Math.max.code 2 (some .int)) (by decide +kernel)) (Nat.le_of_ble_eq_true rfl) (Nat.le_of_ble_eq_true rfl) (Nat.zero_le _) (Nat.zero_le _) dX2_rated_18 ?_
  exact wRi hQ hx hb hr hlocks hP hD hS dX2_rated_21 () (rfl) rfl
abbrev rmX2_talk : Room := { frames := 0, cells := 0, slots := 0, locals := 0 }
set_option maxRecDepth 100000 in
set_option maxHeartbeats 4000000 in
theorem mX2_talk (l : Launch) (D : va_G) (cI : ClassId) (b : Nat → Nat) (g nw kp : Nat → Int32) (li : Nat) (sz : Nat) (hl0 : g 2 = nI li) (hl1 : 0 < li) (hl2 : li ≤ 30) (hs : mOk nw) : wCt l yX2_talk wsX2_talk rmX2_talk D [(cI, .int)] [.ref (b 0)] (MC cI b g nw kp) sz 0 0 (wQv D (fun u : Nat → Int32 => u = mTalk (g 2) nw) (fun u : Nat → Int32 => MC cI b g u kp)) := by
  refine wMet cX2_talk 2 none (by decide) rfl (Nat.le_of_ble_eq_true rfl) ?_
  intro p e s m args below meth c A Q ls hQ hx hb hr hml hown hlocks hin hts hN hP hK hD hA hS hl
  have hl : lv_has ls 2 [(0, .ref (b 0))] := hl
  have hown : s.vm.findClass RX2 = some m.cls := hown
  have hw2 : ∀ w ∈ wsX20, w.before args s = true := fun w h => hts w (List.mem_cons_of_mem _ (List.mem_append_right _ h))
  have k13 := hts (.fieldLink RX2 13 "PauseLedgerModel" "limit" "I") (by decide +kernel)
  have k16 := hts (.fieldLink RX2 16 "PauseLedgerModel" "now" "[I") (by decide +kernel)
  refine lv_aload_n hx hb dX2_talk_0 rfl (lv_at hl 0 rfl) ?_
  refine va_get (D := D) (ci := 2) (v := .ref (b 1)) (C := RX2) (T := TX2) (N := 7) hx hb hw2 (fun _ h => h) hown hK hP 0 rfl rfl 3 (by decide) k16 (fun _ h9 => h9) rfl dX2_talk_1 ?_
  refine lv_iconst (v := 1) hx hb dX2_talk_4 (by decide) ?_
  refine wIald hx hb hK hP 1 0 rfl rfl 1 rfl (by decide) (by decide) dX2_talk_5 ?_
  refine lv_istore_n (lv' := [(1, .int (nw 1)), (0, .ref (b 0))]) hx hb dX2_talk_6 rfl hl (by decide) rfl (fun ls hl => ?_)
  refine lv_iload_n hx hb dX2_talk_7 rfl (lv_at hl 0 rfl) ?_
  refine lv_iconst (v := (-1)) hx hb dX2_talk_8 (by decide) ?_
  refine lv_icmp_ne (tgt := 47) hx hb dX2_talk_9 (by decide) (fun c_9 => ?_) (fun c_9 => ?_)
  · obtain ⟨q, hq, eq⟩ := hs.resolve_left c_9
    have en : dN (nw 1) = q := by rw [eq]; exact dN_nI (by omega)
    refine lv_aload_n hx hb dX2_talk_47 rfl (lv_at hl 1 rfl) ?_
    refine va_get (D := D) (ci := 2) (v := .ref (b 1)) (C := RX2) (T := TX2) (N := 7) hx hb hw2 (fun _ h => h) hown hK hP 0 rfl rfl 3 (by decide) k16 (fun _ h9 => h9) rfl dX2_talk_48 ?_
    refine lv_iconst (v := 3) hx hb dX2_talk_51 (by decide) ?_
    refine lv_iconst (v := 0) hx hb dX2_talk_52 (by decide) ?_
    refine wIast hx hb hK hP hD hS 1 0 rfl rfl 3 rfl (by decide) (by decide) dX2_talk_53 (fun H locs hP hD hS => ?_)
    have hP : va_P D vwCl (MC cI b g (upd nw 3 0) kp) H := hP
    have hD : va_D A (MC cI b g (upd nw 3 0) kp) := hD
    refine lv_aload_n hx hb dX2_talk_54 rfl (lv_at hl 1 rfl) ?_
    refine va_get (D := D) (ci := 2) (v := .ref (b 1)) (C := RX2) (T := TX2) (N := 7) hx hb hw2 (fun _ h => h) hown hK hP 0 rfl rfl 3 (by decide) k16 (fun _ h9 => h9) rfl dX2_talk_55 ?_
    refine lv_bipush (v := 8) hx hb dX2_talk_58 (by decide) ?_
    refine lv_iload_n hx hb dX2_talk_60 rfl (lv_at hl 0 rfl) ?_
    refine lv_iadd hx hb dX2_talk_61 ?_
    refine wTop (z := nI (8 + q)) (by rw [eq]; exact nI_add 8 q) ?_
    refine lv_dup2_11 hx hb dX2_talk_62 rfl rfl ?_
    refine wIald hx hb hK hP 1 0 rfl rfl (8 + q) rfl (by omega) (by decide) dX2_talk_63 ?_
    refine lv_iconst (v := 1) hx hb dX2_talk_64 (by decide) ?_
    refine lv_iadd hx hb dX2_talk_65 ?_
    refine wIast hx hb hK hP hD hS 1 0 rfl rfl (8 + q) rfl (by omega) (by decide) dX2_talk_66 (fun H locs hP hD hS => ?_)
    have hP : va_P D vwCl (MC cI b g (mAdd (upd nw 3 0) (8 + q) 1) kp) H := hP
    have hD : va_D A (MC cI b g (mAdd (upd nw 3 0) (8 + q) 1) kp) := hD
    refine lv_aload_n hx hb dX2_talk_67 rfl (lv_at hl 1 rfl) ?_
    refine va_get (D := D) (ci := 2) (v := .ref (b 1)) (C := RX2) (T := TX2) (N := 7) hx hb hw2 (fun _ h => h) hown hK hP 0 rfl rfl 3 (by decide) k16 (fun _ h9 => h9) rfl dX2_talk_68 ?_
    refine lv_iconst (v := 2) hx hb dX2_talk_71 (by decide) ?_
    refine lv_dup2_11 hx hb dX2_talk_72 rfl rfl ?_
    refine wIald hx hb hK hP 1 0 rfl rfl 2 rfl (by decide) (by decide) dX2_talk_73 ?_
    refine lv_iconst (v := 1) hx hb dX2_talk_74 (by decide) ?_
    refine lv_isub hx hb dX2_talk_75 ?_
    refine wIast hx hb hK hP hD hS 1 0 rfl rfl 2 rfl (by decide) (by decide) dX2_talk_76 (fun H locs hP hD hS => ?_)
    have hP : va_P D vwCl (MC cI b g (mSub (mAdd (upd nw 3 0) (8 + q) 1) 2 1) kp) H := hP
    have hD : va_D A (MC cI b g (mSub (mAdd (upd nw 3 0) (8 + q) 1) 2 1) kp) := hD
    refine lv_aload_n hx hb dX2_talk_77 rfl (lv_at hl 1 rfl) ?_
    refine va_get (D := D) (ci := 2) (v := .ref (b 1)) (C := RX2) (T := TX2) (N := 7) hx hb hw2 (fun _ h => h) hown hK hP 0 rfl rfl 3 (by decide) k16 (fun _ h9 => h9) rfl dX2_talk_78 ?_
    refine lv_iconst (v := 2) hx hb dX2_talk_81 (by decide) ?_
    refine wIald hx hb hK hP 1 0 rfl rfl 2 rfl (by decide) (by decide) dX2_talk_82 ?_
    refine lv_if_ne (tgt := 93) hx hb dX2_talk_83 (by decide) (fun c_83 => ?_) (fun c_83 => ?_)
    · exact wRv hQ hx hb hr hlocks hP hD hS dX2_talk_93 (mSub (mAdd (upd nw 3 0) (8 + q) 1) 2 1) (by simp only [mTalk, if_neg c_9, if_neg c_83, en, mTlk]) rfl
    · refine lv_aload_n hx hb dX2_talk_86 rfl (lv_at hl 1 rfl) ?_
      refine va_get (D := D) (ci := 2) (v := .ref (b 1)) (C := RX2) (T := TX2) (N := 7) hx hb hw2 (fun _ h => h) hown hK hP 0 rfl rfl 3 (by decide) k16 (fun _ h9 => h9) rfl dX2_talk_87 ?_
      refine lv_iconst (v := 1) hx hb dX2_talk_90 (by decide) ?_
      refine lv_iconst (v := (-1)) hx hb dX2_talk_91 (by decide) ?_
      refine wIast hx hb hK hP hD hS 1 0 rfl rfl 1 rfl (by decide) (by decide) dX2_talk_92 (fun H locs hP hD hS => ?_)
      have hP : va_P D vwCl (MC cI b g (upd (mSub (mAdd (upd nw 3 0) (8 + q) 1) 2 1) 1 (-1)) kp) H := hP
      have hD : va_D A (MC cI b g (upd (mSub (mAdd (upd nw 3 0) (8 + q) 1) 2 1) 1 (-1)) kp) := hD
      exact wRv hQ hx hb hr hlocks hP hD hS dX2_talk_93 (upd (mSub (mAdd (upd nw 3 0) (8 + q) 1) 2 1) 1 (-1)) (by simp only [mTalk, if_neg c_9, if_pos c_83, en, mTlk]) rfl
  · refine lv_aload_n hx hb dX2_talk_12 rfl (lv_at hl 1 rfl) ?_
    refine va_get (D := D) (ci := 2) (v := .ref (b 1)) (C := RX2) (T := TX2) (N := 7) hx hb hw2 (fun _ h => h) hown hK hP 0 rfl rfl 3 (by decide) k16 (fun _ h9 => h9) rfl dX2_talk_13 ?_
    refine lv_iconst (v := 3) hx hb dX2_talk_16 (by decide) ?_
    refine lv_dup2_11 hx hb dX2_talk_17 rfl rfl ?_
    refine wIald hx hb hK hP 1 0 rfl rfl 3 rfl (by decide) (by decide) dX2_talk_18 ?_
    refine lv_iconst (v := 1) hx hb dX2_talk_19 (by decide) ?_
    refine lv_iadd hx hb dX2_talk_20 ?_
    refine wIast hx hb hK hP hD hS 1 0 rfl rfl 3 rfl (by decide) (by decide) dX2_talk_21 (fun H locs hP hD hS => ?_)
    have hP : va_P D vwCl (MC cI b g (mAdd nw 3 1) kp) H := hP
    have hD : va_D A (MC cI b g (mAdd nw 3 1) kp) := hD
    refine lv_aload_n hx hb dX2_talk_22 rfl (lv_at hl 1 rfl) ?_
    refine va_get (D := D) (ci := 2) (v := .ref (b 1)) (C := RX2) (T := TX2) (N := 7) hx hb hw2 (fun _ h => h) hown hK hP 0 rfl rfl 3 (by decide) k16 (fun _ h9 => h9) rfl dX2_talk_23 ?_
    refine lv_iconst (v := 3) hx hb dX2_talk_26 (by decide) ?_
    refine wIald hx hb hK hP 1 0 rfl rfl 3 rfl (by decide) (by decide) dX2_talk_27 ?_
    refine lv_aload_n hx hb dX2_talk_28 rfl (lv_at hl 1 rfl) ?_
    refine va_get (D := D) (ci := 2) (v := .int (g 2)) (C := RX2) (T := TX2) (N := 7) hx hb hw2 (fun _ h => h) hown hK hP 0 rfl rfl 2 (by decide) k13 (fun _ h9 => h9) rfl dX2_talk_29 ?_
    refine lv_irem hx hb dX2_talk_32 (by rw [hl0]; exact nI_ne0 hl1 (by omega)) ?_
    refine lv_if_ne (tgt := 46) hx hb dX2_talk_33 (by decide) (fun c_33 => ?_) (fun c_33 => ?_)
    · exact wRv hQ hx hb hr hlocks hP hD hS dX2_talk_46 (mAdd nw 3 1) (by simp only [mTalk, if_pos c_9, if_neg c_33]) rfl
    · refine lv_aload_n hx hb dX2_talk_36 rfl (lv_at hl 1 rfl) ?_
      refine va_get (D := D) (ci := 2) (v := .ref (b 1)) (C := RX2) (T := TX2) (N := 7) hx hb hw2 (fun _ h => h) hown hK hP 0 rfl rfl 3 (by decide) k16 (fun _ h9 => h9) rfl dX2_talk_37 ?_
      refine lv_iconst (v := 4) hx hb dX2_talk_40 (by decide) ?_
      refine lv_dup2_11 hx hb dX2_talk_41 rfl rfl ?_
      refine wIald hx hb hK hP 1 0 rfl rfl 4 rfl (by decide) (by decide) dX2_talk_42 ?_
      refine lv_iconst (v := 1) hx hb dX2_talk_43 (by decide) ?_
      refine lv_iadd hx hb dX2_talk_44 ?_
      refine wIast hx hb hK hP hD hS 1 0 rfl rfl 4 rfl (by decide) (by decide) dX2_talk_45 (fun H locs hP hD hS => ?_)
      have hP : va_P D vwCl (MC cI b g (mAdd (mAdd nw 3 1) 4 1) kp) H := hP
      have hD : va_D A (MC cI b g (mAdd (mAdd nw 3 1) 4 1) kp) := hD
      exact wRv hQ hx hb hr hlocks hP hD hS dX2_talk_46 (mAdd (mAdd nw 3 1) 4 1) (by simp only [mTalk, if_pos c_9, if_pos c_33]) rfl
abbrev rmX2_arrives : Room := { frames := 1, cells := 0, slots := 0, locals := 21 }
set_option maxRecDepth 100000 in
set_option maxHeartbeats 4000000 in
/-- arrives -/
theorem mX2_arrives (l : Launch) (D : va_G) (cI : ClassId) (b : Nat → Nat) (g nw kp : Nat → Int32) (x y : Nat) (sz : Nat) (ux : x < 10) (uy : y < 10) : wCt l yX2_arrives wsX2_arrives rmX2_arrives D [(cI, .int)] [.ref (b 0), .int (nI x), .int (nI y)] (MC cI b g nw kp) sz 0 0 (wQv D (fun u : mS => u = (mArr nw x y, mEnd nw (g 5) (g 6) x y)) (fun u : mS => MC cI b (upd g 6 u.2) u.1 kp)) := by
  refine wMet cX2_arrives 5 none (by decide) rfl (Nat.le_of_ble_eq_true rfl) ?_
  intro p e s m args below meth c A Q ls hQ hx hb hr hml hown hlocks hin hts hN hP hK hD hA hS hl
  have hl : lv_has ls 5 [(0, .ref (b 0)), (1, .int (nI x)), (2, .int (nI y))] := hl
  have hown : s.vm.findClass RX2 = some m.cls := hown
  have hw2 : ∀ w ∈ wsX20, w.before args s = true := fun w h => hts w (List.mem_cons_of_mem _ (List.mem_append_right _ h))
  have k16 := hts (.fieldLink RX2 16 "PauseLedgerModel" "now" "[I") (by decide +kernel)
  have k23 := hts (.fieldLink RX2 23 "PauseLedgerModel" "mark" "I") (by decide +kernel)
  have k59 := hts (.fieldLink RX2 59 "PauseLedgerModel" "end" "I") (by decide +kernel)
  refine lv_iload_n hx hb dX2_arrives_0 rfl (lv_at hl 2 rfl) ?_
  refine lv_iload_n hx hb dX2_arrives_1 rfl (lv_at hl 1 rfl) ?_
  refine wCSi (pre := ([] : va_W)) (Wc := ([] : va_W)) (suf := MC cI b g nw kp) (As := [.int (nI y), .int (nI x)]) (rest := []) ⟨hx, hb, hml, hown, hts⟩ (mX2_pair l D cI y x _) hN hA hK hS hP hD rfl (va_cwS 2 hts gX2_arrives_X2_pair rfl rfl rfl (by decide +kernel) ⟨Nat.le_of_ble_eq_true rfl, Nat.le_of_ble_eq_true rfl⟩) rfl hl.1 rfl (Nat.le_of_ble_eq_true rfl) dX2_arrives_2 ⟨Nat.zero_le _, Nat.zero_le _⟩ (fun r_2 u_2 H locs hw hP hD hS => ?_)
  have hw : r_2 = nI (10 * y + x) := hw
  subst hw
  have hP : va_P D vwCl (MC cI b g nw kp) H := hP
  have hD : va_D A (MC cI b g nw kp) := hD
  refine lv_istore_n (lv' := [(3, .int (nI (10 * y + x))), (0, .ref (b 0)), (1, .int (nI x)), (2, .int (nI y))]) hx hb dX2_arrives_5 rfl hl (by decide) rfl (fun ls hl => ?_)
  refine lv_aload_n hx hb dX2_arrives_6 rfl (lv_at hl 1 rfl) ?_
  refine va_get (D := D) (ci := 2) (v := .ref (b 1)) (C := RX2) (T := TX2) (N := 7) hx hb hw2 (fun _ h => h) hown hK hP 0 rfl rfl 3 (by decide) k16 (fun _ h9 => h9) rfl dX2_arrives_7 ?_
  refine lv_sipush (v := 148) hx hb dX2_arrives_10 (by decide) ?_
  refine lv_iload_n hx hb dX2_arrives_13 rfl (lv_at hl 0 rfl) ?_
  refine lv_iadd hx hb dX2_arrives_14 ?_
  refine wTop (z := nI (148 + (10 * y + x))) (nI_add 148 (10 * y + x)) ?_
  refine wIald hx hb hK hP 1 0 rfl rfl (148 + (10 * y + x)) rfl (by omega) (by decide) dX2_arrives_15 ?_
  refine lv_if_le (tgt := 23) hx hb dX2_arrives_16 (by decide) (fun c_16 => ?_) (fun c_16 => ?_)
  · refine lv_iconst (v := 0) hx hb dX2_arrives_23 (by decide) ?_
    refine lv_istore (lv' := [(4, .int 0), (3, .int (nI (10 * y + x))), (0, .ref (b 0)), (1, .int (nI x)), (2, .int (nI y))]) hx hb dX2_arrives_24 hl (by decide) rfl (fun ls hl => ?_)
    refine lv_aload_n hx hb dX2_arrives_26 rfl (lv_at hl 2 rfl) ?_
    refine va_get (D := D) (ci := 2) (v := .ref (b 1)) (C := RX2) (T := TX2) (N := 7) hx hb hw2 (fun _ h => h) hown hK hP 0 rfl rfl 3 (by decide) k16 (fun _ h9 => h9) rfl dX2_arrives_27 ?_
    refine lv_sipush (v := 148) hx hb dX2_arrives_30 (by decide) ?_
    refine lv_iload_n hx hb dX2_arrives_33 rfl (lv_at hl 3 rfl) ?_
    refine lv_iload_n hx hb dX2_arrives_34 rfl (lv_at hl 4 rfl) ?_
    refine wCSi (pre := ([] : va_W)) (Wc := ([] : va_W)) (suf := MC cI b g nw kp) (As := [.int (nI x), .int (nI y)]) (rest := [.int 148, .ref (b 1)]) ⟨hx, hb, hml, hown, hts⟩ (mX2_pair l D cI x y _) hN hA hK hS hP hD rfl (va_cwS 2 hts gX2_arrives_X2_pair rfl rfl rfl (by decide +kernel) ⟨Nat.le_of_ble_eq_true rfl, Nat.le_of_ble_eq_true rfl⟩) rfl hl.1 rfl (Nat.le_of_ble_eq_true rfl) dX2_arrives_35 ⟨Nat.zero_le _, Nat.zero_le _⟩ (fun r_35 u_35 H locs hw hP hD hS => ?_)
    have hw : r_35 = nI (10 * x + y) := hw
    subst hw
    have hP : va_P D vwCl (MC cI b g nw kp) H := hP
    have hD : va_D A (MC cI b g nw kp) := hD
    refine lv_iadd hx hb dX2_arrives_38 ?_
    refine wTop (z := nI (148 + (10 * x + y))) (nI_add 148 (10 * x + y)) ?_
    refine lv_iconst (v := 0) hx hb dX2_arrives_39 (by decide) ?_
    refine wIast hx hb hK hP hD hS 1 0 rfl rfl (148 + (10 * x + y)) rfl (by omega) (by decide) dX2_arrives_40 (fun H locs hP hD hS => ?_)
    have hP : va_P D vwCl (MC cI b g (upd nw (148 + (10 * x + y)) 0) kp) H := hP
    have hD : va_D A (MC cI b g (upd nw (148 + (10 * x + y)) 0) kp) := hD
    refine lv_aload_n hx hb dX2_arrives_41 rfl (lv_at hl 2 rfl) ?_
    refine va_get (D := D) (ci := 2) (v := .int (g 5)) (C := RX2) (T := TX2) (N := 7) hx hb hw2 (fun _ h => h) hown hK hP 0 rfl rfl 5 (by decide) k23 (fun _ h9 => h9) rfl dX2_arrives_42 ?_
    refine lv_iload_n hx hb dX2_arrives_45 rfl (lv_at hl 3 rfl) ?_
    refine lv_iload_n hx hb dX2_arrives_46 rfl (lv_at hl 4 rfl) ?_
    refine wCSi (pre := ([] : va_W)) (Wc := ([] : va_W)) (suf := MC cI b g (upd nw (148 + (10 * x + y)) 0) kp) (As := [.int (nI x), .int (nI y)]) (rest := [.int (g 5)]) ⟨hx, hb, hml, hown, hts⟩ (mX2_pair l D cI x y _) hN hA hK hS hP hD rfl (va_cwS 2 hts gX2_arrives_X2_pair rfl rfl rfl (by decide +kernel) ⟨Nat.le_of_ble_eq_true rfl, Nat.le_of_ble_eq_true rfl⟩) rfl hl.1 rfl (Nat.le_of_ble_eq_true rfl) dX2_arrives_47 ⟨Nat.zero_le _, Nat.zero_le _⟩ (fun r_47 u_47 H locs hw hP hD hS => ?_)
    have hw : r_47 = nI (10 * x + y) := hw
    subst hw
    have hP : va_P D vwCl (MC cI b g (upd nw (148 + (10 * x + y)) 0) kp) H := hP
    have hD : va_D A (MC cI b g (upd nw (148 + (10 * x + y)) 0) kp) := hD
    refine lv_icmp_eq (tgt := 66) hx hb dX2_arrives_50 (by decide) (fun c_50 => ?_) (fun c_50 => ?_)
    · refine lv_aload_n hx hb dX2_arrives_66 rfl (lv_at hl 2 rfl) ?_
      refine lv_iload hx hb dX2_arrives_67 (lv_at hl 0 rfl) ?_
      refine lv_if_eq (tgt := 76) hx hb dX2_arrives_69 (by decide) (fun c_69 => ?_) (fun h9 => absurd (by decide) h9)
      refine lv_aload_n hx hb dX2_arrives_76 rfl (lv_at hl 2 rfl) ?_
      refine va_get (D := D) (ci := 2) (v := .ref (b 1)) (C := RX2) (T := TX2) (N := 7) hx hb hw2 (fun _ h => h) hown hK hP 0 rfl rfl 3 (by decide) k16 (fun _ h9 => h9) rfl dX2_arrives_77 ?_
      refine lv_iconst (v := 1) hx hb dX2_arrives_80 (by decide) ?_
      refine wIald hx hb hK hP 1 0 rfl rfl 1 rfl (by decide) (by decide) dX2_arrives_81 ?_
      refine lv_iload_n hx hb dX2_arrives_82 rfl (lv_at hl 4 rfl) ?_
      refine lv_icmp_ne (tgt := 90) hx hb dX2_arrives_83 (by decide) (fun c_83 => ?_) (fun c_83 => ?_)
      · refine lv_iconst (v := 1) hx hb dX2_arrives_90 (by decide) ?_
        refine va_put (D := D) (ci := 2) (v := .int 1) (ty := .int) (C := RX2) (T := TX2) (N := 7) hx hb hw2 (fun _ h => h) tyX2 tyX2_ok nmX2 hown hK hP hD hS 0 rfl rfl 6 (by decide) k59 (fun _ h9 => h9) rfl (by decide +kernel) rfl rfl (Nat.le_of_ble_eq_true rfl) dX2_arrives_91 (fun H locs hP hD hS => ?_)
        have hP : va_P D vwCl (MC cI b (upd g 6 1) (upd nw (148 + (10 * x + y)) 0) kp) H := hP
        have hD : va_D A (MC cI b (upd g 6 1) (upd nw (148 + (10 * x + y)) 0) kp) := hD
        refine lv_iload hx hb dX2_arrives_94 (lv_at hl 0 rfl) ?_
        refine lv_if_eq (tgt := 159) hx hb dX2_arrives_96 (by decide) (fun c_96 => ?_) (fun h9 => absurd (by decide) h9)
        refine lv_aload_n hx hb dX2_arrives_159 rfl (lv_at hl 2 rfl) ?_
        refine va_get (D := D) (ci := 2) (v := .ref (b 1)) (C := RX2) (T := TX2) (N := 7) hx hb hw2 (fun _ h => h) hown hK hP 0 rfl rfl 3 (by decide) k16 (fun _ h9 => h9) rfl dX2_arrives_160 ?_
        refine lv_iconst (v := 1) hx hb dX2_arrives_163 (by decide) ?_
        refine wIald hx hb hK hP 1 0 rfl rfl 1 rfl (by decide) (by decide) dX2_arrives_164 ?_
        refine lv_iload_n hx hb dX2_arrives_165 rfl (lv_at hl 4 rfl) ?_
        refine lv_icmp_ne (tgt := 183) hx hb dX2_arrives_166 (by decide) (fun c_166 => ?_) (fun h9 => absurd h9 (c_83))
        refine lv_aload_n hx hb dX2_arrives_183 rfl (lv_at hl 2 rfl) ?_
        refine va_get (D := D) (ci := 2) (v := .ref (b 1)) (C := RX2) (T := TX2) (N := 7) hx hb hw2 (fun _ h => h) hown hK hP 0 rfl rfl 3 (by decide) k16 (fun _ h9 => h9) rfl dX2_arrives_184 ?_
        refine lv_sipush (v := 248) hx hb dX2_arrives_187 (by decide) ?_
        refine lv_iload_n hx hb dX2_arrives_190 rfl (lv_at hl 3 rfl) ?_
        refine lv_iload_n hx hb dX2_arrives_191 rfl (lv_at hl 4 rfl) ?_
        refine wCSi (pre := ([] : va_W)) (Wc := ([] : va_W)) (suf := MC cI b (upd g 6 1) (upd nw (148 + (10 * x + y)) 0) kp) (As := [.int (nI x), .int (nI y)]) (rest := [.int 248, .ref (b 1)]) ⟨hx, hb, hml, hown, hts⟩ (mX2_pair l D cI x y _) hN hA hK hS hP hD rfl (va_cwS 2 hts gX2_arrives_X2_pair rfl rfl rfl (by decide +kernel) ⟨Nat.le_of_ble_eq_true rfl, Nat.le_of_ble_eq_true rfl⟩) rfl hl.1 rfl (Nat.le_of_ble_eq_true rfl) dX2_arrives_192 ⟨Nat.zero_le _, Nat.zero_le _⟩ (fun r_192 u_192 H locs hw hP hD hS => ?_)
        have hw : r_192 = nI (10 * x + y) := hw
        subst hw
        have hP : va_P D vwCl (MC cI b (upd g 6 1) (upd nw (148 + (10 * x + y)) 0) kp) H := hP
        have hD : va_D A (MC cI b (upd g 6 1) (upd nw (148 + (10 * x + y)) 0) kp) := hD
        refine lv_iadd hx hb dX2_arrives_195 ?_
        refine wTop (z := nI (248 + (10 * x + y))) (nI_add 248 (10 * x + y)) ?_
        refine lv_dup2_11 hx hb dX2_arrives_196 rfl rfl ?_
        refine wIald hx hb hK hP 1 0 rfl rfl (248 + (10 * x + y)) rfl (by omega) (by decide) dX2_arrives_197 ?_
        refine lv_iconst (v := 1) hx hb dX2_arrives_198 (by decide) ?_
        refine lv_iadd hx hb dX2_arrives_199 ?_
        refine wIast hx hb hK hP hD hS 1 0 rfl rfl (248 + (10 * x + y)) rfl (by omega) (by decide) dX2_arrives_200 (fun H locs hP hD hS => ?_)
        have hP : va_P D vwCl (MC cI b (upd g 6 1) (mAdd (upd nw (148 + (10 * x + y)) 0) (248 + (10 * x + y)) 1) kp) H := hP
        have hD : va_D A (MC cI b (upd g 6 1) (mAdd (upd nw (148 + (10 * x + y)) 0) (248 + (10 * x + y)) 1) kp) := hD
        refine lv_aload_n hx hb dX2_arrives_201 rfl (lv_at hl 2 rfl) ?_
        refine va_get (D := D) (ci := 2) (v := .ref (b 1)) (C := RX2) (T := TX2) (N := 7) hx hb hw2 (fun _ h => h) hown hK hP 0 rfl rfl 3 (by decide) k16 (fun _ h9 => h9) rfl dX2_arrives_202 ?_
        refine lv_bipush (v := 38) hx hb dX2_arrives_205 (by decide) ?_
        refine lv_iload_n hx hb dX2_arrives_207 rfl (lv_at hl 3 rfl) ?_
        refine lv_iadd hx hb dX2_arrives_208 ?_
        refine wTop (z := nI (38 + x)) (nI_add 38 x) ?_
        refine lv_dup2_11 hx hb dX2_arrives_209 rfl rfl ?_
        refine wIald hx hb hK hP 1 0 rfl rfl (38 + x) rfl (by omega) (by decide) dX2_arrives_210 ?_
        refine lv_iconst (v := 1) hx hb dX2_arrives_211 (by decide) ?_
        refine lv_iadd hx hb dX2_arrives_212 ?_
        refine wIast hx hb hK hP hD hS 1 0 rfl rfl (38 + x) rfl (by omega) (by decide) dX2_arrives_213 (fun H locs hP hD hS => ?_)
        have hP : va_P D vwCl (MC cI b (upd g 6 1) (mAdd (mAdd (upd nw (148 + (10 * x + y)) 0) (248 + (10 * x + y)) 1) (38 + x) 1) kp) H := hP
        have hD : va_D A (MC cI b (upd g 6 1) (mAdd (mAdd (upd nw (148 + (10 * x + y)) 0) (248 + (10 * x + y)) 1) (38 + x) 1) kp) := hD
        exact wRv hQ hx hb hr hlocks hP hD hS dX2_arrives_214 (mAdd (mAdd (upd nw (148 + (10 * x + y)) 0) (248 + (10 * x + y)) 1) (38 + x) 1, 1) (by simp only [mArr, mEnd, if_neg (Int32.not_lt.mpr c_16), if_pos c_50, if_pos c_69, if_neg c_83, if_pos c_96, if_neg c_166]) rfl
      · refine lv_iconst (v := 0) hx hb dX2_arrives_86 (by decide) ?_
        refine lv_goto (tgt := 91) hx hb dX2_arrives_87 (by decide) ?_
        refine va_put (D := D) (ci := 2) (v := .int 0) (ty := .int) (C := RX2) (T := TX2) (N := 7) hx hb hw2 (fun _ h => h) tyX2 tyX2_ok nmX2 hown hK hP hD hS 0 rfl rfl 6 (by decide) k59 (fun _ h9 => h9) rfl (by decide +kernel) rfl rfl (Nat.le_of_ble_eq_true rfl) dX2_arrives_91 (fun H locs hP hD hS => ?_)
        have hP : va_P D vwCl (MC cI b (upd g 6 0) (upd nw (148 + (10 * x + y)) 0) kp) H := hP
        have hD : va_D A (MC cI b (upd g 6 0) (upd nw (148 + (10 * x + y)) 0) kp) := hD
        refine lv_iload hx hb dX2_arrives_94 (lv_at hl 0 rfl) ?_
        refine lv_if_eq (tgt := 159) hx hb dX2_arrives_96 (by decide) (fun c_96 => ?_) (fun h9 => absurd (by decide) h9)
        refine lv_aload_n hx hb dX2_arrives_159 rfl (lv_at hl 2 rfl) ?_
        refine va_get (D := D) (ci := 2) (v := .ref (b 1)) (C := RX2) (T := TX2) (N := 7) hx hb hw2 (fun _ h => h) hown hK hP 0 rfl rfl 3 (by decide) k16 (fun _ h9 => h9) rfl dX2_arrives_160 ?_
        refine lv_iconst (v := 1) hx hb dX2_arrives_163 (by decide) ?_
        refine wIald hx hb hK hP 1 0 rfl rfl 1 rfl (by decide) (by decide) dX2_arrives_164 ?_
        refine lv_iload_n hx hb dX2_arrives_165 rfl (lv_at hl 4 rfl) ?_
        refine lv_icmp_ne (tgt := 183) hx hb dX2_arrives_166 (by decide) (fun h9 => absurd (c_83) h9) (fun c_166 => ?_)
        refine lv_aload_n hx hb dX2_arrives_169 rfl (lv_at hl 2 rfl) ?_
        refine va_get (D := D) (ci := 2) (v := .ref (b 1)) (C := RX2) (T := TX2) (N := 7) hx hb hw2 (fun _ h => h) hown hK hP 0 rfl rfl 3 (by decide) k16 (fun _ h9 => h9) rfl dX2_arrives_170 ?_
        refine lv_bipush (v := 6) hx hb dX2_arrives_173 (by decide) ?_
        refine lv_dup2_11 hx hb dX2_arrives_175 rfl rfl ?_
        refine wIald hx hb hK hP 1 0 rfl rfl 6 rfl (by decide) (by decide) dX2_arrives_176 ?_
        refine lv_iconst (v := 1) hx hb dX2_arrives_177 (by decide) ?_
        refine lv_iadd hx hb dX2_arrives_178 ?_
        refine wIast hx hb hK hP hD hS 1 0 rfl rfl 6 rfl (by decide) (by decide) dX2_arrives_179 (fun H locs hP hD hS => ?_)
        have hP : va_P D vwCl (MC cI b (upd g 6 0) (mAdd (upd nw (148 + (10 * x + y)) 0) 6 1) kp) H := hP
        have hD : va_D A (MC cI b (upd g 6 0) (mAdd (upd nw (148 + (10 * x + y)) 0) 6 1) kp) := hD
        refine lv_goto (tgt := 214) hx hb dX2_arrives_180 (by decide) ?_
        exact wRv hQ hx hb hr hlocks hP hD hS dX2_arrives_214 (mAdd (upd nw (148 + (10 * x + y)) 0) 6 1, 0) (by simp only [mArr, mEnd, if_neg (Int32.not_lt.mpr c_16), if_pos c_50, if_pos c_69, if_pos c_83, if_pos c_96, if_pos c_166]) rfl
    · refine lv_iload hx hb dX2_arrives_53 (lv_at hl 0 rfl) ?_
      refine lv_if_eq (tgt := 94) hx hb dX2_arrives_55 (by decide) (fun c_55 => ?_) (fun h9 => absurd (by decide) h9)
      refine lv_iload hx hb dX2_arrives_94 (lv_at hl 0 rfl) ?_
      refine lv_if_eq (tgt := 159) hx hb dX2_arrives_96 (by decide) (fun c_96 => ?_) (fun h9 => absurd (by decide) h9)
      refine lv_aload_n hx hb dX2_arrives_159 rfl (lv_at hl 2 rfl) ?_
      refine va_get (D := D) (ci := 2) (v := .ref (b 1)) (C := RX2) (T := TX2) (N := 7) hx hb hw2 (fun _ h => h) hown hK hP 0 rfl rfl 3 (by decide) k16 (fun _ h9 => h9) rfl dX2_arrives_160 ?_
      refine lv_iconst (v := 1) hx hb dX2_arrives_163 (by decide) ?_
      refine wIald hx hb hK hP 1 0 rfl rfl 1 rfl (by decide) (by decide) dX2_arrives_164 ?_
      refine lv_iload_n hx hb dX2_arrives_165 rfl (lv_at hl 4 rfl) ?_
      refine lv_icmp_ne (tgt := 183) hx hb dX2_arrives_166 (by decide) (fun c_166 => ?_) (fun c_166 => ?_)
      · refine lv_aload_n hx hb dX2_arrives_183 rfl (lv_at hl 2 rfl) ?_
        refine va_get (D := D) (ci := 2) (v := .ref (b 1)) (C := RX2) (T := TX2) (N := 7) hx hb hw2 (fun _ h => h) hown hK hP 0 rfl rfl 3 (by decide) k16 (fun _ h9 => h9) rfl dX2_arrives_184 ?_
        refine lv_sipush (v := 248) hx hb dX2_arrives_187 (by decide) ?_
        refine lv_iload_n hx hb dX2_arrives_190 rfl (lv_at hl 3 rfl) ?_
        refine lv_iload_n hx hb dX2_arrives_191 rfl (lv_at hl 4 rfl) ?_
        refine wCSi (pre := ([] : va_W)) (Wc := ([] : va_W)) (suf := MC cI b g (upd nw (148 + (10 * x + y)) 0) kp) (As := [.int (nI x), .int (nI y)]) (rest := [.int 248, .ref (b 1)]) ⟨hx, hb, hml, hown, hts⟩ (mX2_pair l D cI x y _) hN hA hK hS hP hD rfl (va_cwS 2 hts gX2_arrives_X2_pair rfl rfl rfl (by decide +kernel) ⟨Nat.le_of_ble_eq_true rfl, Nat.le_of_ble_eq_true rfl⟩) rfl hl.1 rfl (Nat.le_of_ble_eq_true rfl) dX2_arrives_192 ⟨Nat.zero_le _, Nat.zero_le _⟩ (fun r_192 u_192 H locs hw hP hD hS => ?_)
        have hw : r_192 = nI (10 * x + y) := hw
        subst hw
        have hP : va_P D vwCl (MC cI b g (upd nw (148 + (10 * x + y)) 0) kp) H := hP
        have hD : va_D A (MC cI b g (upd nw (148 + (10 * x + y)) 0) kp) := hD
        refine lv_iadd hx hb dX2_arrives_195 ?_
        refine wTop (z := nI (248 + (10 * x + y))) (nI_add 248 (10 * x + y)) ?_
        refine lv_dup2_11 hx hb dX2_arrives_196 rfl rfl ?_
        refine wIald hx hb hK hP 1 0 rfl rfl (248 + (10 * x + y)) rfl (by omega) (by decide) dX2_arrives_197 ?_
        refine lv_iconst (v := 1) hx hb dX2_arrives_198 (by decide) ?_
        refine lv_iadd hx hb dX2_arrives_199 ?_
        refine wIast hx hb hK hP hD hS 1 0 rfl rfl (248 + (10 * x + y)) rfl (by omega) (by decide) dX2_arrives_200 (fun H locs hP hD hS => ?_)
        have hP : va_P D vwCl (MC cI b g (mAdd (upd nw (148 + (10 * x + y)) 0) (248 + (10 * x + y)) 1) kp) H := hP
        have hD : va_D A (MC cI b g (mAdd (upd nw (148 + (10 * x + y)) 0) (248 + (10 * x + y)) 1) kp) := hD
        refine lv_aload_n hx hb dX2_arrives_201 rfl (lv_at hl 2 rfl) ?_
        refine va_get (D := D) (ci := 2) (v := .ref (b 1)) (C := RX2) (T := TX2) (N := 7) hx hb hw2 (fun _ h => h) hown hK hP 0 rfl rfl 3 (by decide) k16 (fun _ h9 => h9) rfl dX2_arrives_202 ?_
        refine lv_bipush (v := 38) hx hb dX2_arrives_205 (by decide) ?_
        refine lv_iload_n hx hb dX2_arrives_207 rfl (lv_at hl 3 rfl) ?_
        refine lv_iadd hx hb dX2_arrives_208 ?_
        refine wTop (z := nI (38 + x)) (nI_add 38 x) ?_
        refine lv_dup2_11 hx hb dX2_arrives_209 rfl rfl ?_
        refine wIald hx hb hK hP 1 0 rfl rfl (38 + x) rfl (by omega) (by decide) dX2_arrives_210 ?_
        refine lv_iconst (v := 1) hx hb dX2_arrives_211 (by decide) ?_
        refine lv_iadd hx hb dX2_arrives_212 ?_
        refine wIast hx hb hK hP hD hS 1 0 rfl rfl (38 + x) rfl (by omega) (by decide) dX2_arrives_213 (fun H locs hP hD hS => ?_)
        have hP : va_P D vwCl (MC cI b g (mAdd (mAdd (upd nw (148 + (10 * x + y)) 0) (248 + (10 * x + y)) 1) (38 + x) 1) kp) H := hP
        have hD : va_D A (MC cI b g (mAdd (mAdd (upd nw (148 + (10 * x + y)) 0) (248 + (10 * x + y)) 1) (38 + x) 1) kp) := hD
        exact wRv hQ hx hb hr hlocks hP hD hS dX2_arrives_214 (mAdd (mAdd (upd nw (148 + (10 * x + y)) 0) (248 + (10 * x + y)) 1) (38 + x) 1, g 6) (by simp only [mArr, mEnd, if_neg (Int32.not_lt.mpr c_16), if_neg c_50, if_pos c_55, if_pos c_96, if_neg c_166]) rfl
      · refine lv_aload_n hx hb dX2_arrives_169 rfl (lv_at hl 2 rfl) ?_
        refine va_get (D := D) (ci := 2) (v := .ref (b 1)) (C := RX2) (T := TX2) (N := 7) hx hb hw2 (fun _ h => h) hown hK hP 0 rfl rfl 3 (by decide) k16 (fun _ h9 => h9) rfl dX2_arrives_170 ?_
        refine lv_bipush (v := 6) hx hb dX2_arrives_173 (by decide) ?_
        refine lv_dup2_11 hx hb dX2_arrives_175 rfl rfl ?_
        refine wIald hx hb hK hP 1 0 rfl rfl 6 rfl (by decide) (by decide) dX2_arrives_176 ?_
        refine lv_iconst (v := 1) hx hb dX2_arrives_177 (by decide) ?_
        refine lv_iadd hx hb dX2_arrives_178 ?_
        refine wIast hx hb hK hP hD hS 1 0 rfl rfl 6 rfl (by decide) (by decide) dX2_arrives_179 (fun H locs hP hD hS => ?_)
        have hP : va_P D vwCl (MC cI b g (mAdd (upd nw (148 + (10 * x + y)) 0) 6 1) kp) H := hP
        have hD : va_D A (MC cI b g (mAdd (upd nw (148 + (10 * x + y)) 0) 6 1) kp) := hD
        refine lv_goto (tgt := 214) hx hb dX2_arrives_180 (by decide) ?_
        exact wRv hQ hx hb hr hlocks hP hD hS dX2_arrives_214 (mAdd (upd nw (148 + (10 * x + y)) 0) 6 1, g 6) (by simp only [mArr, mEnd, if_neg (Int32.not_lt.mpr c_16), if_neg c_50, if_pos c_55, if_pos c_96, if_pos c_166]) rfl
  · refine lv_iconst (v := 1) hx hb dX2_arrives_19 (by decide) ?_
    refine lv_goto (tgt := 24) hx hb dX2_arrives_20 (by decide) ?_
    refine lv_istore (lv' := [(4, .int 1), (3, .int (nI (10 * y + x))), (0, .ref (b 0)), (1, .int (nI x)), (2, .int (nI y))]) hx hb dX2_arrives_24 hl (by decide) rfl (fun ls hl => ?_)
    refine lv_aload_n hx hb dX2_arrives_26 rfl (lv_at hl 2 rfl) ?_
    refine va_get (D := D) (ci := 2) (v := .ref (b 1)) (C := RX2) (T := TX2) (N := 7) hx hb hw2 (fun _ h => h) hown hK hP 0 rfl rfl 3 (by decide) k16 (fun _ h9 => h9) rfl dX2_arrives_27 ?_
    refine lv_sipush (v := 148) hx hb dX2_arrives_30 (by decide) ?_
    refine lv_iload_n hx hb dX2_arrives_33 rfl (lv_at hl 3 rfl) ?_
    refine lv_iload_n hx hb dX2_arrives_34 rfl (lv_at hl 4 rfl) ?_
    refine wCSi (pre := ([] : va_W)) (Wc := ([] : va_W)) (suf := MC cI b g nw kp) (As := [.int (nI x), .int (nI y)]) (rest := [.int 148, .ref (b 1)]) ⟨hx, hb, hml, hown, hts⟩ (mX2_pair l D cI x y _) hN hA hK hS hP hD rfl (va_cwS 2 hts gX2_arrives_X2_pair rfl rfl rfl (by decide +kernel) ⟨Nat.le_of_ble_eq_true rfl, Nat.le_of_ble_eq_true rfl⟩) rfl hl.1 rfl (Nat.le_of_ble_eq_true rfl) dX2_arrives_35 ⟨Nat.zero_le _, Nat.zero_le _⟩ (fun r_35 u_35 H locs hw hP hD hS => ?_)
    have hw : r_35 = nI (10 * x + y) := hw
    subst hw
    have hP : va_P D vwCl (MC cI b g nw kp) H := hP
    have hD : va_D A (MC cI b g nw kp) := hD
    refine lv_iadd hx hb dX2_arrives_38 ?_
    refine wTop (z := nI (148 + (10 * x + y))) (nI_add 148 (10 * x + y)) ?_
    refine lv_iconst (v := 0) hx hb dX2_arrives_39 (by decide) ?_
    refine wIast hx hb hK hP hD hS 1 0 rfl rfl (148 + (10 * x + y)) rfl (by omega) (by decide) dX2_arrives_40 (fun H locs hP hD hS => ?_)
    have hP : va_P D vwCl (MC cI b g (upd nw (148 + (10 * x + y)) 0) kp) H := hP
    have hD : va_D A (MC cI b g (upd nw (148 + (10 * x + y)) 0) kp) := hD
    refine lv_aload_n hx hb dX2_arrives_41 rfl (lv_at hl 2 rfl) ?_
    refine va_get (D := D) (ci := 2) (v := .int (g 5)) (C := RX2) (T := TX2) (N := 7) hx hb hw2 (fun _ h => h) hown hK hP 0 rfl rfl 5 (by decide) k23 (fun _ h9 => h9) rfl dX2_arrives_42 ?_
    refine lv_iload_n hx hb dX2_arrives_45 rfl (lv_at hl 3 rfl) ?_
    refine lv_iload_n hx hb dX2_arrives_46 rfl (lv_at hl 4 rfl) ?_
    refine wCSi (pre := ([] : va_W)) (Wc := ([] : va_W)) (suf := MC cI b g (upd nw (148 + (10 * x + y)) 0) kp) (As := [.int (nI x), .int (nI y)]) (rest := [.int (g 5)]) ⟨hx, hb, hml, hown, hts⟩ (mX2_pair l D cI x y _) hN hA hK hS hP hD rfl (va_cwS 2 hts gX2_arrives_X2_pair rfl rfl rfl (by decide +kernel) ⟨Nat.le_of_ble_eq_true rfl, Nat.le_of_ble_eq_true rfl⟩) rfl hl.1 rfl (Nat.le_of_ble_eq_true rfl) dX2_arrives_47 ⟨Nat.zero_le _, Nat.zero_le _⟩ (fun r_47 u_47 H locs hw hP hD hS => ?_)
    have hw : r_47 = nI (10 * x + y) := hw
    subst hw
    have hP : va_P D vwCl (MC cI b g (upd nw (148 + (10 * x + y)) 0) kp) H := hP
    have hD : va_D A (MC cI b g (upd nw (148 + (10 * x + y)) 0) kp) := hD
    refine lv_icmp_eq (tgt := 66) hx hb dX2_arrives_50 (by decide) (fun c_50 => ?_) (fun c_50 => ?_)
    · refine lv_aload_n hx hb dX2_arrives_66 rfl (lv_at hl 2 rfl) ?_
      refine lv_iload hx hb dX2_arrives_67 (lv_at hl 0 rfl) ?_
      refine lv_if_eq (tgt := 76) hx hb dX2_arrives_69 (by decide) (fun h9 => absurd h9 (by decide)) (fun c_69 => ?_)
      refine lv_iconst (v := 3) hx hb dX2_arrives_72 (by decide) ?_
      refine lv_goto (tgt := 91) hx hb dX2_arrives_73 (by decide) ?_
      refine va_put (D := D) (ci := 2) (v := .int 3) (ty := .int) (C := RX2) (T := TX2) (N := 7) hx hb hw2 (fun _ h => h) tyX2 tyX2_ok nmX2 hown hK hP hD hS 0 rfl rfl 6 (by decide) k59 (fun _ h9 => h9) rfl (by decide +kernel) rfl rfl (Nat.le_of_ble_eq_true rfl) dX2_arrives_91 (fun H locs hP hD hS => ?_)
      have hP : va_P D vwCl (MC cI b (upd g 6 3) (upd nw (148 + (10 * x + y)) 0) kp) H := hP
      have hD : va_D A (MC cI b (upd g 6 3) (upd nw (148 + (10 * x + y)) 0) kp) := hD
      refine lv_iload hx hb dX2_arrives_94 (lv_at hl 0 rfl) ?_
      refine lv_if_eq (tgt := 159) hx hb dX2_arrives_96 (by decide) (fun h9 => absurd h9 (by decide)) (fun c_96 => ?_)
      refine lv_aload_n hx hb dX2_arrives_99 rfl (lv_at hl 2 rfl) ?_
      refine va_get (D := D) (ci := 2) (v := .ref (b 1)) (C := RX2) (T := TX2) (N := 7) hx hb hw2 (fun _ h => h) hown hK hP 0 rfl rfl 3 (by decide) k16 (fun _ h9 => h9) rfl dX2_arrives_100 ?_
      refine lv_sipush (v := 148) hx hb dX2_arrives_103 (by decide) ?_
      refine lv_iload_n hx hb dX2_arrives_106 rfl (lv_at hl 1 rfl) ?_
      refine lv_iadd hx hb dX2_arrives_107 ?_
      refine wTop (z := nI (148 + (10 * y + x))) (nI_add 148 (10 * y + x)) ?_
      refine lv_iconst (v := 0) hx hb dX2_arrives_108 (by decide) ?_
      refine wIast hx hb hK hP hD hS 1 0 rfl rfl (148 + (10 * y + x)) rfl (by omega) (by decide) dX2_arrives_109 (fun H locs hP hD hS => ?_)
      have hP : va_P D vwCl (MC cI b (upd g 6 3) (upd (upd nw (148 + (10 * x + y)) 0) (148 + (10 * y + x)) 0) kp) H := hP
      have hD : va_D A (MC cI b (upd g 6 3) (upd (upd nw (148 + (10 * x + y)) 0) (148 + (10 * y + x)) 0) kp) := hD
      refine lv_aload_n hx hb dX2_arrives_110 rfl (lv_at hl 2 rfl) ?_
      refine va_get (D := D) (ci := 2) (v := .ref (b 1)) (C := RX2) (T := TX2) (N := 7) hx hb hw2 (fun _ h => h) hown hK hP 0 rfl rfl 3 (by decide) k16 (fun _ h9 => h9) rfl dX2_arrives_111 ?_
      refine lv_bipush (v := 48) hx hb dX2_arrives_114 (by decide) ?_
      refine lv_iload_n hx hb dX2_arrives_116 rfl (lv_at hl 1 rfl) ?_
      refine lv_iadd hx hb dX2_arrives_117 ?_
      refine wTop (z := nI (48 + (10 * y + x))) (nI_add 48 (10 * y + x)) ?_
      refine lv_iconst (v := 0) hx hb dX2_arrives_118 (by decide) ?_
      refine wIast hx hb hK hP hD hS 1 0 rfl rfl (48 + (10 * y + x)) rfl (by omega) (by decide) dX2_arrives_119 (fun H locs hP hD hS => ?_)
      have hP : va_P D vwCl (MC cI b (upd g 6 3) (upd (upd (upd nw (148 + (10 * x + y)) 0) (148 + (10 * y + x)) 0) (48 + (10 * y + x)) 0) kp) H := hP
      have hD : va_D A (MC cI b (upd g 6 3) (upd (upd (upd nw (148 + (10 * x + y)) 0) (148 + (10 * y + x)) 0) (48 + (10 * y + x)) 0) kp) := hD
      refine lv_aload_n hx hb dX2_arrives_120 rfl (lv_at hl 2 rfl) ?_
      refine va_get (D := D) (ci := 2) (v := .ref (b 1)) (C := RX2) (T := TX2) (N := 7) hx hb hw2 (fun _ h => h) hown hK hP 0 rfl rfl 3 (by decide) k16 (fun _ h9 => h9) rfl dX2_arrives_121 ?_
      refine lv_bipush (v := 38) hx hb dX2_arrives_124 (by decide) ?_
      refine lv_iload_n hx hb dX2_arrives_126 rfl (lv_at hl 3 rfl) ?_
      refine lv_iadd hx hb dX2_arrives_127 ?_
      refine wTop (z := nI (38 + x)) (nI_add 38 x) ?_
      refine lv_dup2_11 hx hb dX2_arrives_128 rfl rfl ?_
      refine wIald hx hb hK hP 1 0 rfl rfl (38 + x) rfl (by omega) (by decide) dX2_arrives_129 ?_
      refine lv_iconst (v := 3) hx hb dX2_arrives_130 (by decide) ?_
      refine lv_iadd hx hb dX2_arrives_131 ?_
      refine wIast hx hb hK hP hD hS 1 0 rfl rfl (38 + x) rfl (by omega) (by decide) dX2_arrives_132 (fun H locs hP hD hS => ?_)
      have hP : va_P D vwCl (MC cI b (upd g 6 3) (mAdd (upd (upd (upd nw (148 + (10 * x + y)) 0) (148 + (10 * y + x)) 0) (48 + (10 * y + x)) 0) (38 + x) 3) kp) H := hP
      have hD : va_D A (MC cI b (upd g 6 3) (mAdd (upd (upd (upd nw (148 + (10 * x + y)) 0) (148 + (10 * y + x)) 0) (48 + (10 * y + x)) 0) (38 + x) 3) kp) := hD
      refine lv_aload_n hx hb dX2_arrives_133 rfl (lv_at hl 2 rfl) ?_
      refine va_get (D := D) (ci := 2) (v := .ref (b 1)) (C := RX2) (T := TX2) (N := 7) hx hb hw2 (fun _ h => h) hown hK hP 0 rfl rfl 3 (by decide) k16 (fun _ h9 => h9) rfl dX2_arrives_134 ?_
      refine lv_bipush (v := 38) hx hb dX2_arrives_137 (by decide) ?_
      refine lv_iload_n hx hb dX2_arrives_139 rfl (lv_at hl 4 rfl) ?_
      refine lv_iadd hx hb dX2_arrives_140 ?_
      refine wTop (z := nI (38 + y)) (nI_add 38 y) ?_
      refine lv_dup2_11 hx hb dX2_arrives_141 rfl rfl ?_
      refine wIald hx hb hK hP 1 0 rfl rfl (38 + y) rfl (by omega) (by decide) dX2_arrives_142 ?_
      refine lv_iconst (v := 3) hx hb dX2_arrives_143 (by decide) ?_
      refine lv_iadd hx hb dX2_arrives_144 ?_
      refine wIast hx hb hK hP hD hS 1 0 rfl rfl (38 + y) rfl (by omega) (by decide) dX2_arrives_145 (fun H locs hP hD hS => ?_)
      have hP : va_P D vwCl (MC cI b (upd g 6 3) (mAdd (mAdd (upd (upd (upd nw (148 + (10 * x + y)) 0) (148 + (10 * y + x)) 0) (48 + (10 * y + x)) 0) (38 + x) 3) (38 + y) 3) kp) H := hP
      have hD : va_D A (MC cI b (upd g 6 3) (mAdd (mAdd (upd (upd (upd nw (148 + (10 * x + y)) 0) (148 + (10 * y + x)) 0) (48 + (10 * y + x)) 0) (38 + x) 3) (38 + y) 3) kp) := hD
      refine lv_aload_n hx hb dX2_arrives_146 rfl (lv_at hl 2 rfl) ?_
      refine va_get (D := D) (ci := 2) (v := .ref (b 1)) (C := RX2) (T := TX2) (N := 7) hx hb hw2 (fun _ h => h) hown hK hP 0 rfl rfl 3 (by decide) k16 (fun _ h9 => h9) rfl dX2_arrives_147 ?_
      refine lv_iconst (v := 5) hx hb dX2_arrives_150 (by decide) ?_
      refine lv_dup2_11 hx hb dX2_arrives_151 rfl rfl ?_
      refine wIald hx hb hK hP 1 0 rfl rfl 5 rfl (by decide) (by decide) dX2_arrives_152 ?_
      refine lv_iconst (v := 1) hx hb dX2_arrives_153 (by decide) ?_
      refine lv_iadd hx hb dX2_arrives_154 ?_
      refine wIast hx hb hK hP hD hS 1 0 rfl rfl 5 rfl (by decide) (by decide) dX2_arrives_155 (fun H locs hP hD hS => ?_)
      have hP : va_P D vwCl (MC cI b (upd g 6 3) (mAdd (mAdd (mAdd (upd (upd (upd nw (148 + (10 * x + y)) 0) (148 + (10 * y + x)) 0) (48 + (10 * y + x)) 0) (38 + x) 3) (38 + y) 3) 5 1) kp) H := hP
      have hD : va_D A (MC cI b (upd g 6 3) (mAdd (mAdd (mAdd (upd (upd (upd nw (148 + (10 * x + y)) 0) (148 + (10 * y + x)) 0) (48 + (10 * y + x)) 0) (38 + x) 3) (38 + y) 3) 5 1) kp) := hD
      refine lv_goto (tgt := 214) hx hb dX2_arrives_156 (by decide) ?_
      exact wRv hQ hx hb hr hlocks hP hD hS dX2_arrives_214 (mAdd (mAdd (mAdd (upd (upd (upd nw (148 + (10 * x + y)) 0) (148 + (10 * y + x)) 0) (48 + (10 * y + x)) 0) (38 + x) 3) (38 + y) 3) 5 1, 3) (by simp only [mArr, mEnd, if_pos (Int32.not_le.mp c_16), if_pos c_50, if_neg c_69, if_neg c_96]) rfl
    · refine lv_iload hx hb dX2_arrives_53 (lv_at hl 0 rfl) ?_
      refine lv_if_eq (tgt := 94) hx hb dX2_arrives_55 (by decide) (fun h9 => absurd h9 (by decide)) (fun c_55 => ?_)
      refine lv_aload_n hx hb dX2_arrives_58 rfl (lv_at hl 2 rfl) ?_
      refine va_get (D := D) (ci := 2) (v := .int (g 5)) (C := RX2) (T := TX2) (N := 7) hx hb hw2 (fun _ h => h) hown hK hP 0 rfl rfl 5 (by decide) k23 (fun _ h9 => h9) rfl dX2_arrives_59 ?_
      refine lv_iload_n hx hb dX2_arrives_62 rfl (lv_at hl 1 rfl) ?_
      refine lv_icmp_ne (tgt := 94) hx hb dX2_arrives_63 (by decide) (fun c_63 => ?_) (fun c_63 => ?_)
      · refine lv_iload hx hb dX2_arrives_94 (lv_at hl 0 rfl) ?_
        refine lv_if_eq (tgt := 159) hx hb dX2_arrives_96 (by decide) (fun h9 => absurd h9 (by decide)) (fun c_96 => ?_)
        refine lv_aload_n hx hb dX2_arrives_99 rfl (lv_at hl 2 rfl) ?_
        refine va_get (D := D) (ci := 2) (v := .ref (b 1)) (C := RX2) (T := TX2) (N := 7) hx hb hw2 (fun _ h => h) hown hK hP 0 rfl rfl 3 (by decide) k16 (fun _ h9 => h9) rfl dX2_arrives_100 ?_
        refine lv_sipush (v := 148) hx hb dX2_arrives_103 (by decide) ?_
        refine lv_iload_n hx hb dX2_arrives_106 rfl (lv_at hl 1 rfl) ?_
        refine lv_iadd hx hb dX2_arrives_107 ?_
        refine wTop (z := nI (148 + (10 * y + x))) (nI_add 148 (10 * y + x)) ?_
        refine lv_iconst (v := 0) hx hb dX2_arrives_108 (by decide) ?_
        refine wIast hx hb hK hP hD hS 1 0 rfl rfl (148 + (10 * y + x)) rfl (by omega) (by decide) dX2_arrives_109 (fun H locs hP hD hS => ?_)
        have hP : va_P D vwCl (MC cI b g (upd (upd nw (148 + (10 * x + y)) 0) (148 + (10 * y + x)) 0) kp) H := hP
        have hD : va_D A (MC cI b g (upd (upd nw (148 + (10 * x + y)) 0) (148 + (10 * y + x)) 0) kp) := hD
        refine lv_aload_n hx hb dX2_arrives_110 rfl (lv_at hl 2 rfl) ?_
        refine va_get (D := D) (ci := 2) (v := .ref (b 1)) (C := RX2) (T := TX2) (N := 7) hx hb hw2 (fun _ h => h) hown hK hP 0 rfl rfl 3 (by decide) k16 (fun _ h9 => h9) rfl dX2_arrives_111 ?_
        refine lv_bipush (v := 48) hx hb dX2_arrives_114 (by decide) ?_
        refine lv_iload_n hx hb dX2_arrives_116 rfl (lv_at hl 1 rfl) ?_
        refine lv_iadd hx hb dX2_arrives_117 ?_
        refine wTop (z := nI (48 + (10 * y + x))) (nI_add 48 (10 * y + x)) ?_
        refine lv_iconst (v := 0) hx hb dX2_arrives_118 (by decide) ?_
        refine wIast hx hb hK hP hD hS 1 0 rfl rfl (48 + (10 * y + x)) rfl (by omega) (by decide) dX2_arrives_119 (fun H locs hP hD hS => ?_)
        have hP : va_P D vwCl (MC cI b g (upd (upd (upd nw (148 + (10 * x + y)) 0) (148 + (10 * y + x)) 0) (48 + (10 * y + x)) 0) kp) H := hP
        have hD : va_D A (MC cI b g (upd (upd (upd nw (148 + (10 * x + y)) 0) (148 + (10 * y + x)) 0) (48 + (10 * y + x)) 0) kp) := hD
        refine lv_aload_n hx hb dX2_arrives_120 rfl (lv_at hl 2 rfl) ?_
        refine va_get (D := D) (ci := 2) (v := .ref (b 1)) (C := RX2) (T := TX2) (N := 7) hx hb hw2 (fun _ h => h) hown hK hP 0 rfl rfl 3 (by decide) k16 (fun _ h9 => h9) rfl dX2_arrives_121 ?_
        refine lv_bipush (v := 38) hx hb dX2_arrives_124 (by decide) ?_
        refine lv_iload_n hx hb dX2_arrives_126 rfl (lv_at hl 3 rfl) ?_
        refine lv_iadd hx hb dX2_arrives_127 ?_
        refine wTop (z := nI (38 + x)) (nI_add 38 x) ?_
        refine lv_dup2_11 hx hb dX2_arrives_128 rfl rfl ?_
        refine wIald hx hb hK hP 1 0 rfl rfl (38 + x) rfl (by omega) (by decide) dX2_arrives_129 ?_
        refine lv_iconst (v := 3) hx hb dX2_arrives_130 (by decide) ?_
        refine lv_iadd hx hb dX2_arrives_131 ?_
        refine wIast hx hb hK hP hD hS 1 0 rfl rfl (38 + x) rfl (by omega) (by decide) dX2_arrives_132 (fun H locs hP hD hS => ?_)
        have hP : va_P D vwCl (MC cI b g (mAdd (upd (upd (upd nw (148 + (10 * x + y)) 0) (148 + (10 * y + x)) 0) (48 + (10 * y + x)) 0) (38 + x) 3) kp) H := hP
        have hD : va_D A (MC cI b g (mAdd (upd (upd (upd nw (148 + (10 * x + y)) 0) (148 + (10 * y + x)) 0) (48 + (10 * y + x)) 0) (38 + x) 3) kp) := hD
        refine lv_aload_n hx hb dX2_arrives_133 rfl (lv_at hl 2 rfl) ?_
        refine va_get (D := D) (ci := 2) (v := .ref (b 1)) (C := RX2) (T := TX2) (N := 7) hx hb hw2 (fun _ h => h) hown hK hP 0 rfl rfl 3 (by decide) k16 (fun _ h9 => h9) rfl dX2_arrives_134 ?_
        refine lv_bipush (v := 38) hx hb dX2_arrives_137 (by decide) ?_
        refine lv_iload_n hx hb dX2_arrives_139 rfl (lv_at hl 4 rfl) ?_
        refine lv_iadd hx hb dX2_arrives_140 ?_
        refine wTop (z := nI (38 + y)) (nI_add 38 y) ?_
        refine lv_dup2_11 hx hb dX2_arrives_141 rfl rfl ?_
        refine wIald hx hb hK hP 1 0 rfl rfl (38 + y) rfl (by omega) (by decide) dX2_arrives_142 ?_
        refine lv_iconst (v := 3) hx hb dX2_arrives_143 (by decide) ?_
        refine lv_iadd hx hb dX2_arrives_144 ?_
        refine wIast hx hb hK hP hD hS 1 0 rfl rfl (38 + y) rfl (by omega) (by decide) dX2_arrives_145 (fun H locs hP hD hS => ?_)
        have hP : va_P D vwCl (MC cI b g (mAdd (mAdd (upd (upd (upd nw (148 + (10 * x + y)) 0) (148 + (10 * y + x)) 0) (48 + (10 * y + x)) 0) (38 + x) 3) (38 + y) 3) kp) H := hP
        have hD : va_D A (MC cI b g (mAdd (mAdd (upd (upd (upd nw (148 + (10 * x + y)) 0) (148 + (10 * y + x)) 0) (48 + (10 * y + x)) 0) (38 + x) 3) (38 + y) 3) kp) := hD
        refine lv_aload_n hx hb dX2_arrives_146 rfl (lv_at hl 2 rfl) ?_
        refine va_get (D := D) (ci := 2) (v := .ref (b 1)) (C := RX2) (T := TX2) (N := 7) hx hb hw2 (fun _ h => h) hown hK hP 0 rfl rfl 3 (by decide) k16 (fun _ h9 => h9) rfl dX2_arrives_147 ?_
        refine lv_iconst (v := 5) hx hb dX2_arrives_150 (by decide) ?_
        refine lv_dup2_11 hx hb dX2_arrives_151 rfl rfl ?_
        refine wIald hx hb hK hP 1 0 rfl rfl 5 rfl (by decide) (by decide) dX2_arrives_152 ?_
        refine lv_iconst (v := 1) hx hb dX2_arrives_153 (by decide) ?_
        refine lv_iadd hx hb dX2_arrives_154 ?_
        refine wIast hx hb hK hP hD hS 1 0 rfl rfl 5 rfl (by decide) (by decide) dX2_arrives_155 (fun H locs hP hD hS => ?_)
        have hP : va_P D vwCl (MC cI b g (mAdd (mAdd (mAdd (upd (upd (upd nw (148 + (10 * x + y)) 0) (148 + (10 * y + x)) 0) (48 + (10 * y + x)) 0) (38 + x) 3) (38 + y) 3) 5 1) kp) H := hP
        have hD : va_D A (MC cI b g (mAdd (mAdd (mAdd (upd (upd (upd nw (148 + (10 * x + y)) 0) (148 + (10 * y + x)) 0) (48 + (10 * y + x)) 0) (38 + x) 3) (38 + y) 3) 5 1) kp) := hD
        refine lv_goto (tgt := 214) hx hb dX2_arrives_156 (by decide) ?_
        exact wRv hQ hx hb hr hlocks hP hD hS dX2_arrives_214 (mAdd (mAdd (mAdd (upd (upd (upd nw (148 + (10 * x + y)) 0) (148 + (10 * y + x)) 0) (48 + (10 * y + x)) 0) (38 + x) 3) (38 + y) 3) 5 1, g 6) (by simp only [mArr, mEnd, if_pos (Int32.not_le.mp c_16), if_neg c_50, if_neg c_55, if_neg c_63, if_neg c_96]) rfl
      · refine lv_aload_n hx hb dX2_arrives_66 rfl (lv_at hl 2 rfl) ?_
        refine lv_iload hx hb dX2_arrives_67 (lv_at hl 0 rfl) ?_
        refine lv_if_eq (tgt := 76) hx hb dX2_arrives_69 (by decide) (fun h9 => absurd h9 (by decide)) (fun c_69 => ?_)
        refine lv_iconst (v := 3) hx hb dX2_arrives_72 (by decide) ?_
        refine lv_goto (tgt := 91) hx hb dX2_arrives_73 (by decide) ?_
        refine va_put (D := D) (ci := 2) (v := .int 3) (ty := .int) (C := RX2) (T := TX2) (N := 7) hx hb hw2 (fun _ h => h) tyX2 tyX2_ok nmX2 hown hK hP hD hS 0 rfl rfl 6 (by decide) k59 (fun _ h9 => h9) rfl (by decide +kernel) rfl rfl (Nat.le_of_ble_eq_true rfl) dX2_arrives_91 (fun H locs hP hD hS => ?_)
        have hP : va_P D vwCl (MC cI b (upd g 6 3) (upd nw (148 + (10 * x + y)) 0) kp) H := hP
        have hD : va_D A (MC cI b (upd g 6 3) (upd nw (148 + (10 * x + y)) 0) kp) := hD
        refine lv_iload hx hb dX2_arrives_94 (lv_at hl 0 rfl) ?_
        refine lv_if_eq (tgt := 159) hx hb dX2_arrives_96 (by decide) (fun h9 => absurd h9 (by decide)) (fun c_96 => ?_)
        refine lv_aload_n hx hb dX2_arrives_99 rfl (lv_at hl 2 rfl) ?_
        refine va_get (D := D) (ci := 2) (v := .ref (b 1)) (C := RX2) (T := TX2) (N := 7) hx hb hw2 (fun _ h => h) hown hK hP 0 rfl rfl 3 (by decide) k16 (fun _ h9 => h9) rfl dX2_arrives_100 ?_
        refine lv_sipush (v := 148) hx hb dX2_arrives_103 (by decide) ?_
        refine lv_iload_n hx hb dX2_arrives_106 rfl (lv_at hl 1 rfl) ?_
        refine lv_iadd hx hb dX2_arrives_107 ?_
        refine wTop (z := nI (148 + (10 * y + x))) (nI_add 148 (10 * y + x)) ?_
        refine lv_iconst (v := 0) hx hb dX2_arrives_108 (by decide) ?_
        refine wIast hx hb hK hP hD hS 1 0 rfl rfl (148 + (10 * y + x)) rfl (by omega) (by decide) dX2_arrives_109 (fun H locs hP hD hS => ?_)
        have hP : va_P D vwCl (MC cI b (upd g 6 3) (upd (upd nw (148 + (10 * x + y)) 0) (148 + (10 * y + x)) 0) kp) H := hP
        have hD : va_D A (MC cI b (upd g 6 3) (upd (upd nw (148 + (10 * x + y)) 0) (148 + (10 * y + x)) 0) kp) := hD
        refine lv_aload_n hx hb dX2_arrives_110 rfl (lv_at hl 2 rfl) ?_
        refine va_get (D := D) (ci := 2) (v := .ref (b 1)) (C := RX2) (T := TX2) (N := 7) hx hb hw2 (fun _ h => h) hown hK hP 0 rfl rfl 3 (by decide) k16 (fun _ h9 => h9) rfl dX2_arrives_111 ?_
        refine lv_bipush (v := 48) hx hb dX2_arrives_114 (by decide) ?_
        refine lv_iload_n hx hb dX2_arrives_116 rfl (lv_at hl 1 rfl) ?_
        refine lv_iadd hx hb dX2_arrives_117 ?_
        refine wTop (z := nI (48 + (10 * y + x))) (nI_add 48 (10 * y + x)) ?_
        refine lv_iconst (v := 0) hx hb dX2_arrives_118 (by decide) ?_
        refine wIast hx hb hK hP hD hS 1 0 rfl rfl (48 + (10 * y + x)) rfl (by omega) (by decide) dX2_arrives_119 (fun H locs hP hD hS => ?_)
        have hP : va_P D vwCl (MC cI b (upd g 6 3) (upd (upd (upd nw (148 + (10 * x + y)) 0) (148 + (10 * y + x)) 0) (48 + (10 * y + x)) 0) kp) H := hP
        have hD : va_D A (MC cI b (upd g 6 3) (upd (upd (upd nw (148 + (10 * x + y)) 0) (148 + (10 * y + x)) 0) (48 + (10 * y + x)) 0) kp) := hD
        refine lv_aload_n hx hb dX2_arrives_120 rfl (lv_at hl 2 rfl) ?_
        refine va_get (D := D) (ci := 2) (v := .ref (b 1)) (C := RX2) (T := TX2) (N := 7) hx hb hw2 (fun _ h => h) hown hK hP 0 rfl rfl 3 (by decide) k16 (fun _ h9 => h9) rfl dX2_arrives_121 ?_
        refine lv_bipush (v := 38) hx hb dX2_arrives_124 (by decide) ?_
        refine lv_iload_n hx hb dX2_arrives_126 rfl (lv_at hl 3 rfl) ?_
        refine lv_iadd hx hb dX2_arrives_127 ?_
        refine wTop (z := nI (38 + x)) (nI_add 38 x) ?_
        refine lv_dup2_11 hx hb dX2_arrives_128 rfl rfl ?_
        refine wIald hx hb hK hP 1 0 rfl rfl (38 + x) rfl (by omega) (by decide) dX2_arrives_129 ?_
        refine lv_iconst (v := 3) hx hb dX2_arrives_130 (by decide) ?_
        refine lv_iadd hx hb dX2_arrives_131 ?_
        refine wIast hx hb hK hP hD hS 1 0 rfl rfl (38 + x) rfl (by omega) (by decide) dX2_arrives_132 (fun H locs hP hD hS => ?_)
        have hP : va_P D vwCl (MC cI b (upd g 6 3) (mAdd (upd (upd (upd nw (148 + (10 * x + y)) 0) (148 + (10 * y + x)) 0) (48 + (10 * y + x)) 0) (38 + x) 3) kp) H := hP
        have hD : va_D A (MC cI b (upd g 6 3) (mAdd (upd (upd (upd nw (148 + (10 * x + y)) 0) (148 + (10 * y + x)) 0) (48 + (10 * y + x)) 0) (38 + x) 3) kp) := hD
        refine lv_aload_n hx hb dX2_arrives_133 rfl (lv_at hl 2 rfl) ?_
        refine va_get (D := D) (ci := 2) (v := .ref (b 1)) (C := RX2) (T := TX2) (N := 7) hx hb hw2 (fun _ h => h) hown hK hP 0 rfl rfl 3 (by decide) k16 (fun _ h9 => h9) rfl dX2_arrives_134 ?_
        refine lv_bipush (v := 38) hx hb dX2_arrives_137 (by decide) ?_
        refine lv_iload_n hx hb dX2_arrives_139 rfl (lv_at hl 4 rfl) ?_
        refine lv_iadd hx hb dX2_arrives_140 ?_
        refine wTop (z := nI (38 + y)) (nI_add 38 y) ?_
        refine lv_dup2_11 hx hb dX2_arrives_141 rfl rfl ?_
        refine wIald hx hb hK hP 1 0 rfl rfl (38 + y) rfl (by omega) (by decide) dX2_arrives_142 ?_
        refine lv_iconst (v := 3) hx hb dX2_arrives_143 (by decide) ?_
        refine lv_iadd hx hb dX2_arrives_144 ?_
        refine wIast hx hb hK hP hD hS 1 0 rfl rfl (38 + y) rfl (by omega) (by decide) dX2_arrives_145 (fun H locs hP hD hS => ?_)
        have hP : va_P D vwCl (MC cI b (upd g 6 3) (mAdd (mAdd (upd (upd (upd nw (148 + (10 * x + y)) 0) (148 + (10 * y + x)) 0) (48 + (10 * y + x)) 0) (38 + x) 3) (38 + y) 3) kp) H := hP
        have hD : va_D A (MC cI b (upd g 6 3) (mAdd (mAdd (upd (upd (upd nw (148 + (10 * x + y)) 0) (148 + (10 * y + x)) 0) (48 + (10 * y + x)) 0) (38 + x) 3) (38 + y) 3) kp) := hD
        refine lv_aload_n hx hb dX2_arrives_146 rfl (lv_at hl 2 rfl) ?_
        refine va_get (D := D) (ci := 2) (v := .ref (b 1)) (C := RX2) (T := TX2) (N := 7) hx hb hw2 (fun _ h => h) hown hK hP 0 rfl rfl 3 (by decide) k16 (fun _ h9 => h9) rfl dX2_arrives_147 ?_
        refine lv_iconst (v := 5) hx hb dX2_arrives_150 (by decide) ?_
        refine lv_dup2_11 hx hb dX2_arrives_151 rfl rfl ?_
        refine wIald hx hb hK hP 1 0 rfl rfl 5 rfl (by decide) (by decide) dX2_arrives_152 ?_
        refine lv_iconst (v := 1) hx hb dX2_arrives_153 (by decide) ?_
        refine lv_iadd hx hb dX2_arrives_154 ?_
        refine wIast hx hb hK hP hD hS 1 0 rfl rfl 5 rfl (by decide) (by decide) dX2_arrives_155 (fun H locs hP hD hS => ?_)
        have hP : va_P D vwCl (MC cI b (upd g 6 3) (mAdd (mAdd (mAdd (upd (upd (upd nw (148 + (10 * x + y)) 0) (148 + (10 * y + x)) 0) (48 + (10 * y + x)) 0) (38 + x) 3) (38 + y) 3) 5 1) kp) H := hP
        have hD : va_D A (MC cI b (upd g 6 3) (mAdd (mAdd (mAdd (upd (upd (upd nw (148 + (10 * x + y)) 0) (148 + (10 * y + x)) 0) (48 + (10 * y + x)) 0) (38 + x) 3) (38 + y) 3) 5 1) kp) := hD
        refine lv_goto (tgt := 214) hx hb dX2_arrives_156 (by decide) ?_
        exact wRv hQ hx hb hr hlocks hP hD hS dX2_arrives_214 (mAdd (mAdd (mAdd (upd (upd (upd nw (148 + (10 * x + y)) 0) (148 + (10 * y + x)) 0) (48 + (10 * y + x)) 0) (38 + x) 3) (38 + y) 3) 5 1, 3) (by simp only [mArr, mEnd, if_pos (Int32.not_le.mp c_16), if_neg c_50, if_neg c_55, if_pos c_63, if_neg c_69, if_neg c_96]) rfl
abbrev rmX2_fly : Room := { frames := 2, cells := 0, slots := 0, locals := 45 }
set_option maxRecDepth 100000 in
set_option maxHeartbeats 4000000 in
/-- fly -/
theorem mX2_fly (l : Launch) (D : va_G) (cI : ClassId) (b : Nat → Nat) (g nw kp : Nat → Int32) (sz : Nat) : wCt l yX2_fly wsX2_fly rmX2_fly D [(cI, .int)] [.ref (b 0)] (MC cI b g nw kp) sz 0 0 (wQv D (fun u : mS => u = mFly (g 5) (nw, g 6)) (fun u : mS => MC cI b (upd g 6 u.2) u.1 kp)) := by
  refine wMet cX2_fly 3 none (by decide) rfl (Nat.le_of_ble_eq_true rfl) ?_
  intro p e s m args below meth c A Q ls hQ hx hb hr hml hown hlocks hin hts hN hP hK hD hA hS hl
  have hl : lv_has ls 3 [(0, .ref (b 0))] := hl
  have hown : s.vm.findClass RX2 = some m.cls := hown
  have hw2 : ∀ w ∈ wsX20, w.before args s = true := fun w h => hts w (List.mem_cons_of_mem _ (List.mem_append_right _ h))
  have k16 := hts (.fieldLink RX2 16 "PauseLedgerModel" "now" "[I") (by decide +kernel)
  refine lv_iconst (v := 0) hx hb dX2_fly_0 (by decide) ?_
  refine lv_istore_n (lv' := [(1, .int 0), (0, .ref (b 0))]) hx hb dX2_fly_1 rfl hl (by decide) rfl (fun ls hl => ?_)
  have loop2 : ∀ (j i2 : Nat), i2 + j = 100 → ∀ (H : Heap) (locs : List Loc) (ls : Array Slot), va_P D vwCl (MC cI b g (mDec nw i2) kp) H → va_D A (MC cI b g (mDec nw i2) kp) → va_S A s.heap H locs → lv_has ls 3 [(1, .int (nI i2)), (0, .ref (b 0))] → W p l e rmX2_fly s m args below meth c H locs 0 0 Q (F0 m 2 ls []) := by
    intro j
    induction j with
    | zero =>
      intro i2 hi2 H locs ls hP hD hS hl
      have ez : 100 = i2 := by omega
      subst ez
      refine lv_iload_n hx hb dX2_fly_2 rfl (lv_at hl 0 rfl) ?_
      refine lv_bipush (v := 100) hx hb dX2_fly_3 (by decide) ?_
      refine lv_icmp_ge (tgt := 40) hx hb dX2_fly_5 (by decide) (fun c_5 => ?_) (fun h9 => absurd (nI_le (a := 100) (b := 100) (by omega) (by omega)) h9)
      have c_5n := (nI_leI (a := 100) (b := 100) (by omega) (by omega)).mp c_5
      refine lv_iconst (v := 0) hx hb dX2_fly_40 (by decide) ?_
      refine lv_istore_n (lv' := [(1, .int 0), (0, .ref (b 0))]) hx hb dX2_fly_41 rfl hl (by decide) rfl (fun ls hl => ?_)
      have wh : ∀ (j : Nat) (s1 : Nat → Int32) (e1 nx : Int32), ¬ nx = -1 → mCnt s1 100 < j → mLoop (g 5) j (s1, e1) = mFly (g 5) (nw, g 6) → ∀ (H : Heap) (locs : List Loc) (ls : Array Slot), va_P D vwCl (MC cI b (upd g 6 e1) s1 kp) H → va_D A (MC cI b (upd g 6 e1) s1 kp) → va_S A s.heap H locs → lv_has ls 3 [(1, .int nx), (0, .ref (b 0))] → W p l e rmX2_fly s m args below meth c H locs 0 0 Q (F0 m 42 ls []) := by
        intro j
        induction j with
        | zero => intro s1 e1 nx _ h; exact absurd h (Nat.not_lt_zero _)
        | succ j ihw =>
          intro s1 e1 nx hnx hc hf H locs ls hP hD hS hl
          refine lv_iload_n hx hb dX2_fly_42 rfl (lv_at hl 0 rfl) ?_
          refine lv_iconst (v := (-1)) hx hb dX2_fly_43 (by decide) ?_
          refine lv_icmp_eq (tgt := 138) hx hb dX2_fly_44 (by decide) (fun h9 => absurd h9 (hnx)) (fun c_44 => ?_)
          refine lv_iconst (v := (-1)) hx hb dX2_fly_47 (by decide) ?_
          refine lv_istore_n (lv' := [(1, .int (-1)), (0, .ref (b 0))]) hx hb dX2_fly_48 rfl hl (by decide) rfl (fun ls hl => ?_)
          refine lv_iconst (v := 0) hx hb dX2_fly_49 (by decide) ?_
          refine lv_istore_n (lv' := [(2, .int 0), (1, .int (-1)), (0, .ref (b 0))]) hx hb dX2_fly_50 rfl hl (by decide) rfl (fun ls hl => ?_)
          have loop51 : ∀ (j i51 : Nat), i51 + j = 100 → ∀ (H : Heap) (locs : List Loc) (ls : Array Slot), va_P D vwCl (MC cI b (upd g 6 e1) s1 kp) H → va_D A (MC cI b (upd g 6 e1) s1 kp) → va_S A s.heap H locs → lv_has ls 3 [(2, .int (nI i51)), (1, .int (mScan s1 i51)), (0, .ref (b 0))] → W p l e rmX2_fly s m args below meth c H locs 0 0 Q (F0 m 51 ls []) := by
            intro j
            induction j with
            | zero =>
              intro i51 hi51 H locs ls hP hD hS hl
              have ez : 100 = i51 := by omega
              subst ez
              refine lv_iload_n hx hb dX2_fly_51 rfl (lv_at hl 0 rfl) ?_
              refine lv_bipush (v := 100) hx hb dX2_fly_52 (by decide) ?_
              refine lv_icmp_ge (tgt := 118) hx hb dX2_fly_54 (by decide) (fun c_54 => ?_) (fun h9 => absurd (nI_le (a := 100) (b := 100) (by omega) (by omega)) h9)
              have c_54n := (nI_leI (a := 100) (b := 100) (by omega) (by omega)).mp c_54
              refine lv_iload_n hx hb dX2_fly_118 rfl (lv_at hl 1 rfl) ?_
              refine lv_iconst (v := (-1)) hx hb dX2_fly_119 (by decide) ?_
              refine lv_icmp_eq (tgt := 42) hx hb dX2_fly_120 (by decide) (fun c_120 => ?_) (fun c_120 => ?_)
              · refine lv_iload_n hx hb dX2_fly_42 rfl (lv_at hl 1 rfl) ?_
                refine lv_iconst (v := (-1)) hx hb dX2_fly_43 (by decide) ?_
                refine lv_icmp_eq (tgt := 138) hx hb dX2_fly_44 (by decide) (fun c_44 => ?_) (fun h9 => absurd (c_120) h9)
                exact wRv hQ hx hb hr hlocks hP hD hS dX2_fly_138 (s1, e1) (by rw [← hf, mLoop, if_pos c_120]) rfl
              · obtain ⟨q, hq, eq, hq1, hq2⟩ := mScan_in c_120
                refine lv_aload_n hx hb dX2_fly_123 rfl (lv_at hl 2 rfl) ?_
                refine lv_iload_n hx hb dX2_fly_124 rfl (lv_at hl 1 rfl) ?_
                refine wTop (z := nI q) (eq) ?_
                refine lv_bipush (v := 10) hx hb dX2_fly_125 (by decide) ?_
                refine lv_idiv hx hb dX2_fly_127 (by decide) ?_
                refine wTop (z := nI (q / 10)) (pk_div (a := q) (d := 10) (by omega) (by decide) (by decide)) ?_
                refine lv_iload_n hx hb dX2_fly_128 rfl (lv_at hl 1 rfl) ?_
                refine wTop (z := nI q) (eq) ?_
                refine lv_bipush (v := 10) hx hb dX2_fly_129 (by decide) ?_
                refine lv_irem hx hb dX2_fly_131 (by decide) ?_
                refine wTop (z := nI (q % 10)) (pk_rem (a := q) (d := 10) (by omega) (by decide) (by decide)) ?_
                refine wCVv (pre := ([] : va_W)) (Wc := MC cI b (upd g 6 e1) s1 kp) (suf := ([] : va_W)) (As := [.int (nI (q / 10)), .int (nI (q % 10))]) (rest := []) ⟨hx, hb, hml, hown, hts⟩ (mX2_arrives l D cI b (upd g 6 e1) s1 kp (q / 10) (q % 10) _ (by omega) (by omega)) hN hA hK hS hP hD rfl 0 (r := (RX2, TX2, 7)) rfl rfl (cwV 2 hts gX2_fly_X2_arrives rfl rfl rfl (by decide +kernel) ⟨Nat.le_of_ble_eq_true rfl, Nat.le_of_ble_eq_true rfl⟩) rfl hl.1 rfl (Nat.le_of_ble_eq_true rfl) dX2_fly_132 ⟨Nat.zero_le _, Nat.zero_le _⟩ (fun u_132 H locs hw hP hD hS => ?_)
                subst hw
                have hP : va_P D vwCl (MC cI b (upd g 6 (mEnd s1 (g 5) e1 (q / 10) (q % 10))) (mArr s1 (q / 10) (q % 10)) kp) H := hP
                have hD : va_D A (MC cI b (upd g 6 (mEnd s1 (g 5) e1 (q / 10) (q % 10))) (mArr s1 (q / 10) (q % 10)) kp) := hD
                refine lv_goto (tgt := 42) hx hb dX2_fly_135 (by decide) ?_
                rw [eq] at hl
                exact ihw _ _ (nI q) (nI_m1 (by omega)) (by have := mArr_cnt hq hq1; omega) (by rw [← hf, mLoop, if_neg c_120]; simp only [mStep, eq, dN_nI (show q < 2 ^ 31 by omega)]) _ _ _ hP hD hS (lv_sub hl [1, 2] rfl)
            | succ j ih51 =>
              intro i51 hi51 H locs ls hP hD hS hl
              refine lv_iload_n hx hb dX2_fly_51 rfl (lv_at hl 0 rfl) ?_
              refine lv_bipush (v := 100) hx hb dX2_fly_52 (by decide) ?_
              refine lv_icmp_ge (tgt := 118) hx hb dX2_fly_54 (by decide) (fun h9 => absurd h9 (nI_ge (b := 100) (by omega) (by omega))) (fun c_54 => ?_)
              have c_54n := mt (nI_leI (a := 100) (b := i51) (by omega) (by omega)).mpr c_54
              refine lv_aload_n hx hb dX2_fly_57 rfl (lv_at hl 2 rfl) ?_
              refine va_get (D := D) (ci := 2) (v := .ref (b 1)) (C := RX2) (T := TX2) (N := 7) hx hb hw2 (fun _ h => h) hown hK hP 0 rfl rfl 3 (by decide) k16 (fun _ h9 => h9) rfl dX2_fly_58 ?_
              refine lv_sipush (v := 148) hx hb dX2_fly_61 (by decide) ?_
              refine lv_iload_n hx hb dX2_fly_64 rfl (lv_at hl 0 rfl) ?_
              refine lv_iadd hx hb dX2_fly_65 ?_
              refine wTop (z := nI (148 + i51)) (nI_add 148 i51) ?_
              refine wIald hx hb hK hP 1 0 rfl rfl (148 + i51) rfl (by omega) (by decide) dX2_fly_66 ?_
              refine lv_if_le (tgt := 112) hx hb dX2_fly_67 (by decide) (fun c_67 => ?_) (fun c_67 => ?_)
              · refine lv_iinc (v := nI (i51 + 1)) (lv' := [(2, .int (nI (i51 + 1))), (1, .int (mScan s1 i51)), (0, .ref (b 0))]) hx hb dX2_fly_112 hl (k := 0) rfl (nI_1 i51) (by decide) rfl (fun ls hl => ?_)
                refine lv_goto (tgt := 51) hx hb dX2_fly_115 (by decide) ?_
                have e51 : mScan s1 (i51 + 1) = mScan s1 i51 := by simp only [mScan, if_neg (Int32.not_lt.mpr c_67)]
                have hl : lv_has ls 3 [(2, .int (nI (i51 + 1))), (1, .int (mScan s1 (i51 + 1))), (0, .ref (b 0))] := by rw [e51]; exact hl
                exact ih51 (i51 + 1) (by omega) _ _ _ hP hD hS (lv_sub hl [0, 1, 2] rfl)
              · refine lv_aload_n hx hb dX2_fly_70 rfl (lv_at hl 2 rfl) ?_
                refine va_get (D := D) (ci := 2) (v := .ref (b 1)) (C := RX2) (T := TX2) (N := 7) hx hb hw2 (fun _ h => h) hown hK hP 0 rfl rfl 3 (by decide) k16 (fun _ h9 => h9) rfl dX2_fly_71 ?_
                refine lv_bipush (v := 48) hx hb dX2_fly_74 (by decide) ?_
                refine lv_iload_n hx hb dX2_fly_76 rfl (lv_at hl 0 rfl) ?_
                refine lv_iadd hx hb dX2_fly_77 ?_
                refine wTop (z := nI (48 + i51)) (nI_add 48 i51) ?_
                refine wIald hx hb hK hP 1 0 rfl rfl (48 + i51) rfl (by omega) (by decide) dX2_fly_78 ?_
                refine lv_if_ne (tgt := 112) hx hb dX2_fly_79 (by decide) (fun c_79 => ?_) (fun c_79 => ?_)
                · refine lv_iinc (v := nI (i51 + 1)) (lv' := [(2, .int (nI (i51 + 1))), (1, .int (mScan s1 i51)), (0, .ref (b 0))]) hx hb dX2_fly_112 hl (k := 0) rfl (nI_1 i51) (by decide) rfl (fun ls hl => ?_)
                  refine lv_goto (tgt := 51) hx hb dX2_fly_115 (by decide) ?_
                  have e51 : mScan s1 (i51 + 1) = mScan s1 i51 := by simp only [mScan, if_pos (Int32.not_le.mp c_67), if_neg c_79]
                  have hl : lv_has ls 3 [(2, .int (nI (i51 + 1))), (1, .int (mScan s1 (i51 + 1))), (0, .ref (b 0))] := by rw [e51]; exact hl
                  exact ih51 (i51 + 1) (by omega) _ _ _ hP hD hS (lv_sub hl [0, 1, 2] rfl)
                · refine lv_iload_n hx hb dX2_fly_82 rfl (lv_at hl 1 rfl) ?_
                  refine lv_iconst (v := (-1)) hx hb dX2_fly_83 (by decide) ?_
                  refine lv_icmp_eq (tgt := 110) hx hb dX2_fly_84 (by decide) (fun c_84 => ?_) (fun c_84 => ?_)
                  · refine lv_iload_n hx hb dX2_fly_110 rfl (lv_at hl 0 rfl) ?_
                    refine lv_istore_n (lv' := [(1, .int (nI i51)), (2, .int (nI i51)), (0, .ref (b 0))]) hx hb dX2_fly_111 rfl hl (by decide) rfl (fun ls hl => ?_)
                    refine lv_iinc (v := nI (i51 + 1)) (lv' := [(2, .int (nI (i51 + 1))), (1, .int (nI i51)), (0, .ref (b 0))]) hx hb dX2_fly_112 hl (k := 1) rfl (nI_1 i51) (by decide) rfl (fun ls hl => ?_)
                    refine lv_goto (tgt := 51) hx hb dX2_fly_115 (by decide) ?_
                    have e51 : mScan s1 (i51 + 1) = nI i51 := by simp only [mScan, if_pos (Int32.not_le.mp c_67), if_pos c_79, if_pos c_84]
                    have hl : lv_has ls 3 [(2, .int (nI (i51 + 1))), (1, .int (mScan s1 (i51 + 1))), (0, .ref (b 0))] := by rw [e51]; exact hl
                    exact ih51 (i51 + 1) (by omega) _ _ _ hP hD hS (lv_sub hl [0, 1, 2] rfl)
                  · obtain ⟨qd, hqd, ed2⟩ := mScan_lt s1 (show i51 ≤ 100 by omega) c_84
                    have ed : dN (mScan s1 i51) = qd := by rw [ed2]; exact dN_nI (by omega)
                    refine lv_aload_n hx hb dX2_fly_87 rfl (lv_at hl 2 rfl) ?_
                    refine va_get (D := D) (ci := 2) (v := .ref (b 1)) (C := RX2) (T := TX2) (N := 7) hx hb hw2 (fun _ h => h) hown hK hP 0 rfl rfl 3 (by decide) k16 (fun _ h9 => h9) rfl dX2_fly_88 ?_
                    refine lv_sipush (v := 148) hx hb dX2_fly_91 (by decide) ?_
                    refine lv_iload_n hx hb dX2_fly_94 rfl (lv_at hl 0 rfl) ?_
                    refine lv_iadd hx hb dX2_fly_95 ?_
                    refine wTop (z := nI (148 + i51)) (nI_add 148 i51) ?_
                    refine wIald hx hb hK hP 1 0 rfl rfl (148 + i51) rfl (by omega) (by decide) dX2_fly_96 ?_
                    refine lv_aload_n hx hb dX2_fly_97 rfl (lv_at hl 2 rfl) ?_
                    refine va_get (D := D) (ci := 2) (v := .ref (b 1)) (C := RX2) (T := TX2) (N := 7) hx hb hw2 (fun _ h => h) hown hK hP 0 rfl rfl 3 (by decide) k16 (fun _ h9 => h9) rfl dX2_fly_98 ?_
                    refine lv_sipush (v := 148) hx hb dX2_fly_101 (by decide) ?_
                    refine lv_iload_n hx hb dX2_fly_104 rfl (lv_at hl 1 rfl) ?_
                    refine lv_iadd hx hb dX2_fly_105 ?_
                    refine wTop (z := nI (148 + qd)) (by rw [ed2]; exact nI_add 148 qd) ?_
                    refine wIald hx hb hK hP 1 0 rfl rfl (148 + qd) rfl (by omega) (by decide) dX2_fly_106 ?_
                    refine lv_icmp_ge (tgt := 112) hx hb dX2_fly_107 (by decide) (fun c_107 => ?_) (fun c_107 => ?_)
                    · refine lv_iinc (v := nI (i51 + 1)) (lv' := [(2, .int (nI (i51 + 1))), (1, .int (mScan s1 i51)), (0, .ref (b 0))]) hx hb dX2_fly_112 hl (k := 0) rfl (nI_1 i51) (by decide) rfl (fun ls hl => ?_)
                      refine lv_goto (tgt := 51) hx hb dX2_fly_115 (by decide) ?_
                      have e51 : mScan s1 (i51 + 1) = mScan s1 i51 := by simp only [mScan, if_pos (Int32.not_le.mp c_67), if_pos c_79, if_neg c_84, if_neg (Int32.not_lt.mpr c_107), ed]
                      have hl : lv_has ls 3 [(2, .int (nI (i51 + 1))), (1, .int (mScan s1 (i51 + 1))), (0, .ref (b 0))] := by rw [e51]; exact hl
                      exact ih51 (i51 + 1) (by omega) _ _ _ hP hD hS (lv_sub hl [0, 1, 2] rfl)
                    · refine lv_iload_n hx hb dX2_fly_110 rfl (lv_at hl 0 rfl) ?_
                      refine lv_istore_n (lv' := [(1, .int (nI i51)), (2, .int (nI i51)), (0, .ref (b 0))]) hx hb dX2_fly_111 rfl hl (by decide) rfl (fun ls hl => ?_)
                      refine lv_iinc (v := nI (i51 + 1)) (lv' := [(2, .int (nI (i51 + 1))), (1, .int (nI i51)), (0, .ref (b 0))]) hx hb dX2_fly_112 hl (k := 1) rfl (nI_1 i51) (by decide) rfl (fun ls hl => ?_)
                      refine lv_goto (tgt := 51) hx hb dX2_fly_115 (by decide) ?_
                      have e51 : mScan s1 (i51 + 1) = nI i51 := by simp only [mScan, if_pos (Int32.not_le.mp c_67), if_pos c_79, if_neg c_84, if_pos (Int32.not_le.mp c_107), ed]
                      have hl : lv_has ls 3 [(2, .int (nI (i51 + 1))), (1, .int (mScan s1 (i51 + 1))), (0, .ref (b 0))] := by rw [e51]; exact hl
                      exact ih51 (i51 + 1) (by omega) _ _ _ hP hD hS (lv_sub hl [0, 1, 2] rfl)
          exact loop51 100 0 (by omega) _ _ _ hP hD hS (lv_sub hl [0, 1, 2] rfl)
      exact wh 101 (mDec nw 100) (g 6) 0 (by decide) (by have := mCnt_100 (mDec nw 100) 100; omega) (mFly_eq (g 5) (nw, g 6)).symm _ _ _ hP hD hS (lv_sub hl [0, 1] rfl)
    | succ j ih2 =>
      intro i2 hi2 H locs ls hP hD hS hl
      refine lv_iload_n hx hb dX2_fly_2 rfl (lv_at hl 0 rfl) ?_
      refine lv_bipush (v := 100) hx hb dX2_fly_3 (by decide) ?_
      refine lv_icmp_ge (tgt := 40) hx hb dX2_fly_5 (by decide) (fun h9 => absurd h9 (nI_ge (b := 100) (by omega) (by omega))) (fun c_5 => ?_)
      have c_5n := mt (nI_leI (a := 100) (b := i2) (by omega) (by omega)).mpr c_5
      refine lv_aload_n hx hb dX2_fly_8 rfl (lv_at hl 1 rfl) ?_
      refine va_get (D := D) (ci := 2) (v := .ref (b 1)) (C := RX2) (T := TX2) (N := 7) hx hb hw2 (fun _ h => h) hown hK hP 0 rfl rfl 3 (by decide) k16 (fun _ h9 => h9) rfl dX2_fly_9 ?_
      refine lv_sipush (v := 148) hx hb dX2_fly_12 (by decide) ?_
      refine lv_iload_n hx hb dX2_fly_15 rfl (lv_at hl 0 rfl) ?_
      refine lv_iadd hx hb dX2_fly_16 ?_
      refine wTop (z := nI (148 + i2)) (nI_add 148 i2) ?_
      refine wIald hx hb hK hP 1 0 rfl rfl (148 + i2) rfl (by omega) (by decide) dX2_fly_17 ?_
      refine lv_if_le (tgt := 34) hx hb dX2_fly_18 (by decide) (fun c_18 => ?_) (fun c_18 => ?_)
      · refine lv_iinc (v := nI (i2 + 1)) (lv' := [(1, .int (nI (i2 + 1))), (0, .ref (b 0))]) hx hb dX2_fly_34 hl (k := 0) rfl (nI_1 i2) (by decide) rfl (fun ls hl => ?_)
        refine lv_goto (tgt := 2) hx hb dX2_fly_37 (by decide) ?_
        have e2 : mDec nw (i2 + 1) = (mDec nw i2) := by simp only [mDec, if_neg (Int32.not_lt.mpr c_18)]
        have hP : va_P D vwCl (MC cI b g (mDec nw (i2 + 1)) kp) H := by rw [e2]; exact hP
        have hD : va_D A (MC cI b g (mDec nw (i2 + 1)) kp) := by rw [e2]; exact hD
        exact ih2 (i2 + 1) (by omega) _ _ _ hP hD hS (lv_sub hl [0, 1] rfl)
      · refine lv_aload_n hx hb dX2_fly_21 rfl (lv_at hl 1 rfl) ?_
        refine va_get (D := D) (ci := 2) (v := .ref (b 1)) (C := RX2) (T := TX2) (N := 7) hx hb hw2 (fun _ h => h) hown hK hP 0 rfl rfl 3 (by decide) k16 (fun _ h9 => h9) rfl dX2_fly_22 ?_
        refine lv_bipush (v := 48) hx hb dX2_fly_25 (by decide) ?_
        refine lv_iload_n hx hb dX2_fly_27 rfl (lv_at hl 0 rfl) ?_
        refine lv_iadd hx hb dX2_fly_28 ?_
        refine wTop (z := nI (48 + i2)) (nI_add 48 i2) ?_
        refine lv_dup2_11 hx hb dX2_fly_29 rfl rfl ?_
        refine wIald hx hb hK hP 1 0 rfl rfl (48 + i2) rfl (by omega) (by decide) dX2_fly_30 ?_
        refine lv_iconst (v := 1) hx hb dX2_fly_31 (by decide) ?_
        refine lv_isub hx hb dX2_fly_32 ?_
        refine wIast hx hb hK hP hD hS 1 0 rfl rfl (48 + i2) rfl (by omega) (by decide) dX2_fly_33 (fun H locs hP hD hS => ?_)
        have hP : va_P D vwCl (MC cI b g (mSub (mDec nw i2) (48 + i2) 1) kp) H := hP
        have hD : va_D A (MC cI b g (mSub (mDec nw i2) (48 + i2) 1) kp) := hD
        refine lv_iinc (v := nI (i2 + 1)) (lv' := [(1, .int (nI (i2 + 1))), (0, .ref (b 0))]) hx hb dX2_fly_34 hl (k := 0) rfl (nI_1 i2) (by decide) rfl (fun ls hl => ?_)
        refine lv_goto (tgt := 2) hx hb dX2_fly_37 (by decide) ?_
        have e2 : mDec nw (i2 + 1) = mSub (mDec nw i2) (48 + i2) 1 := by simp only [mDec, if_pos (Int32.not_le.mp c_18)]
        have hP : va_P D vwCl (MC cI b g (mDec nw (i2 + 1)) kp) H := by rw [e2]; exact hP
        have hD : va_D A (MC cI b g (mDec nw (i2 + 1)) kp) := by rw [e2]; exact hD
        exact ih2 (i2 + 1) (by omega) _ _ _ hP hD hS (lv_sub hl [0, 1] rfl)
  exact loop2 100 0 (by omega) _ _ _ hP hD hS (lv_sub hl [0, 1] rfl)
abbrev rmX2_secondOn : Room := { frames := 3, cells := 0, slots := 0, locals := 67 }
set_option maxRecDepth 100000 in
set_option maxHeartbeats 4000000 in
/-- secondOn -/
theorem mX2_secondOn (l : Launch) (D : va_G) (cI : ClassId) (b : Nat → Nat) (g nw kp : Nat → Int32) (li : Nat) (sz : Nat) (hl0 : g 2 = nI li) (hl1 : 0 < li) (hl2 : li ≤ 30) (hs : mOk nw) : wCt l yX2_secondOn wsX2_secondOn rmX2_secondOn D [(cI, .int)] [.ref (b 0)] (MC cI b g nw kp) sz 0 0 (wQv D (fun u : mS => u = mSec (g 5) (g 2) (nw, g 6)) (fun u : mS => MC cI b (upd g 6 u.2) u.1 kp)) := by
  refine wMet cX2_secondOn 1 none (by decide) rfl (Nat.le_of_ble_eq_true rfl) ?_
  intro p e s m args below meth c A Q ls hQ hx hb hr hml hown hlocks hin hts hN hP hK hD hA hS hl
  have hl : lv_has ls 1 [(0, .ref (b 0))] := hl
  have hown : s.vm.findClass RX2 = some m.cls := hown
  have hw2 : ∀ w ∈ wsX20, w.before args s = true := fun w h => hts w (List.mem_cons_of_mem _ (List.mem_append_right _ h))
  have k16 := hts (.fieldLink RX2 16 "PauseLedgerModel" "now" "[I") (by decide +kernel)
  refine lv_aload_n hx hb dX2_secondOn_0 rfl (lv_at hl 0 rfl) ?_
  refine wCVv (pre := ([] : va_W)) (Wc := MC cI b g nw kp) (suf := ([] : va_W)) (As := []) (rest := []) ⟨hx, hb, hml, hown, hts⟩ (mX2_talk l D cI b g nw kp li _ hl0 hl1 hl2 hs) hN hA hK hS hP hD rfl 0 (r := (RX2, TX2, 7)) rfl rfl (cwV 0 hts gX2_secondOn_X2_talk rfl rfl rfl (by decide +kernel) ⟨Nat.le_of_ble_eq_true rfl, Nat.le_of_ble_eq_true rfl⟩) rfl hl.1 rfl (Nat.le_of_ble_eq_true rfl) dX2_secondOn_1 ⟨Nat.zero_le _, Nat.zero_le _⟩ (fun u_1 H locs hw hP hD hS => ?_)
  subst hw
  have hP : va_P D vwCl (MC cI b g (mTalk (g 2) nw) kp) H := hP
  have hD : va_D A (MC cI b g (mTalk (g 2) nw) kp) := hD
  refine lv_aload_n hx hb dX2_secondOn_4 rfl (lv_at hl 0 rfl) ?_
  refine wCVv (pre := ([] : va_W)) (Wc := MC cI b g (mTalk (g 2) nw) kp) (suf := ([] : va_W)) (As := []) (rest := []) ⟨hx, hb, hml, hown, hts⟩ (mX2_fly l D cI b g (mTalk (g 2) nw) kp _) hN hA hK hS hP hD rfl 0 (r := (RX2, TX2, 7)) rfl rfl (cwV 0 hts gX2_secondOn_X2_fly rfl rfl rfl (by decide +kernel) ⟨Nat.le_of_ble_eq_true rfl, Nat.le_of_ble_eq_true rfl⟩) rfl hl.1 rfl (Nat.le_of_ble_eq_true rfl) dX2_secondOn_5 ⟨Nat.zero_le _, Nat.zero_le _⟩ (fun u_5 H locs hw hP hD hS => ?_)
  subst hw
  have hP : va_P D vwCl (MC cI b (upd g 6 (mFly (g 5) (mTalk (g 2) nw, g 6)).2) (mFly (g 5) (mTalk (g 2) nw, g 6)).1 kp) H := hP
  have hD : va_D A (MC cI b (upd g 6 (mFly (g 5) (mTalk (g 2) nw, g 6)).2) (mFly (g 5) (mTalk (g 2) nw, g 6)).1 kp) := hD
  refine lv_aload_n hx hb dX2_secondOn_8 rfl (lv_at hl 0 rfl) ?_
  refine va_get (D := D) (ci := 2) (v := .ref (b 1)) (C := RX2) (T := TX2) (N := 7) hx hb hw2 (fun _ h => h) hown hK hP 0 rfl rfl 3 (by decide) k16 (fun _ h9 => h9) rfl dX2_secondOn_9 ?_
  refine lv_iconst (v := 0) hx hb dX2_secondOn_12 (by decide) ?_
  refine lv_dup2_11 hx hb dX2_secondOn_13 rfl rfl ?_
  refine wIald hx hb hK hP 1 0 rfl rfl 0 rfl (by decide) (by decide) dX2_secondOn_14 ?_
  refine lv_iconst (v := 1) hx hb dX2_secondOn_15 (by decide) ?_
  refine lv_iadd hx hb dX2_secondOn_16 ?_
  refine wIast hx hb hK hP hD hS 1 0 rfl rfl 0 rfl (by decide) (by decide) dX2_secondOn_17 (fun H locs hP hD hS => ?_)
  have hP : va_P D vwCl (MC cI b (upd g 6 (mFly (g 5) (mTalk (g 2) nw, g 6)).2) (mAdd (mFly (g 5) (mTalk (g 2) nw, g 6)).1 0 1) kp) H := hP
  have hD : va_D A (MC cI b (upd g 6 (mFly (g 5) (mTalk (g 2) nw, g 6)).2) (mAdd (mFly (g 5) (mTalk (g 2) nw, g 6)).1 0 1) kp) := hD
  exact wRv hQ hx hb hr hlocks hP hD hS dX2_secondOn_18 (mAdd (mFly (g 5) (mTalk (g 2) nw, g 6)).1 0 1, (mFly (g 5) (mTalk (g 2) nw, g 6)).2) (rfl) rfl
abbrev rmX2_secondsOn : Room := { frames := 4, cells := 0, slots := 0, locals := 87 }
set_option maxRecDepth 100000 in
set_option maxHeartbeats 4000000 in
/-- secondsOn -/
theorem mX2_secondsOn (l : Launch) (D : va_G) (cI : ClassId) (b : Nat → Nat) (g nw kp : Nat → Int32) (li n : Nat) (sz : Nat) (hl0 : g 2 = nI li) (hl1 : 0 < li) (hl2 : li ≤ 30) (hn : n < 2 ^ 31) (hs : ∀ i, i < n → mOk (mSecs (g 5) (g 2) (nw, g 6) i).1) : wCt l yX2_secondsOn wsX2_secondsOn rmX2_secondsOn D [(cI, .int)] [.ref (b 0), .int (nI n)] (MC cI b g nw kp) sz 0 0 (wQv D (fun u : mS => u = mSecs (g 5) (g 2) (nw, g 6) n) (fun u : mS => MC cI b (upd g 6 u.2) u.1 kp)) := by
  refine wMet cX2_secondsOn 3 none (by decide) rfl (Nat.le_of_ble_eq_true rfl) ?_
  intro p e s m args below meth c A Q ls hQ hx hb hr hml hown hlocks hin hts hN hP hK hD hA hS hl
  have hl : lv_has ls 3 [(0, .ref (b 0)), (1, .int (nI n))] := hl
  have hown : s.vm.findClass RX2 = some m.cls := hown
  refine lv_iconst (v := 0) hx hb dX2_secondsOn_0 (by decide) ?_
  refine lv_istore_n (lv' := [(2, .int 0), (0, .ref (b 0)), (1, .int (nI n))]) hx hb dX2_secondsOn_1 rfl hl (by decide) rfl (fun ls hl => ?_)
  have loop2 : ∀ (j i2 : Nat), i2 + j = n → ∀ (H : Heap) (locs : List Loc) (ls : Array Slot), va_P D vwCl (MC cI b (upd g 6 (mSecs (g 5) (g 2) (nw, g 6) i2).2) (mSecs (g 5) (g 2) (nw, g 6) i2).1 kp) H → va_D A (MC cI b (upd g 6 (mSecs (g 5) (g 2) (nw, g 6) i2).2) (mSecs (g 5) (g 2) (nw, g 6) i2).1 kp) → va_S A s.heap H locs → lv_has ls 3 [(2, .int (nI i2)), (0, .ref (b 0)), (1, .int (nI n))] → W p l e rmX2_secondsOn s m args below meth c H locs 0 0 Q (F0 m 2 ls []) := by
    intro j
    induction j with
    | zero =>
      intro i2 hi2 H locs ls hP hD hS hl
      have ez : n = i2 := by omega
      subst ez
      refine lv_iload_n hx hb dX2_secondsOn_2 rfl (lv_at hl 0 rfl) ?_
      refine lv_iload_n hx hb dX2_secondsOn_3 rfl (lv_at hl 2 rfl) ?_
      refine lv_icmp_ge (tgt := 17) hx hb dX2_secondsOn_4 (by decide) (fun c_4 => ?_) (fun h9 => absurd (nI_le (by omega) (by omega)) h9)
      have c_4n := (nI_leI (a := n) (b := n) (by omega) (by omega)).mp c_4
      exact wRv hQ hx hb hr hlocks hP hD hS dX2_secondsOn_17 ((mSecs (g 5) (g 2) (nw, g 6) n).1, (mSecs (g 5) (g 2) (nw, g 6) n).2) (rfl) rfl
    | succ j ih2 =>
      intro i2 hi2 H locs ls hP hD hS hl
      refine lv_iload_n hx hb dX2_secondsOn_2 rfl (lv_at hl 0 rfl) ?_
      refine lv_iload_n hx hb dX2_secondsOn_3 rfl (lv_at hl 2 rfl) ?_
      refine lv_icmp_ge (tgt := 17) hx hb dX2_secondsOn_4 (by decide) (fun h9 => absurd h9 (nI_ge (by omega) (by omega))) (fun c_4 => ?_)
      have c_4n := mt (nI_leI (a := n) (b := i2) (by omega) (by omega)).mpr c_4
      refine lv_aload_n hx hb dX2_secondsOn_7 rfl (lv_at hl 1 rfl) ?_
      refine wCVv (pre := ([] : va_W)) (Wc := MC cI b (upd g 6 (mSecs (g 5) (g 2) (nw, g 6) i2).2) (mSecs (g 5) (g 2) (nw, g 6) i2).1 kp) (suf := ([] : va_W)) (As := []) (rest := []) ⟨hx, hb, hml, hown, hts⟩ (mX2_secondOn l D cI b (upd g 6 (mSecs (g 5) (g 2) (nw, g 6) i2).2) (mSecs (g 5) (g 2) (nw, g 6) i2).1 kp li _ hl0 hl1 hl2 (hs i2 (by omega))) hN hA hK hS hP hD rfl 0 (r := (RX2, TX2, 7)) rfl rfl (cwV 0 hts gX2_secondsOn_X2_secondOn rfl rfl rfl (by decide +kernel) ⟨Nat.le_of_ble_eq_true rfl, Nat.le_of_ble_eq_true rfl⟩) rfl hl.1 rfl (Nat.le_of_ble_eq_true rfl) dX2_secondsOn_8 ⟨Nat.zero_le _, Nat.zero_le _⟩ (fun u_8 H locs hw hP hD hS => ?_)
      subst hw
      have hP : va_P D vwCl (MC cI b (upd g 6 (mSec (g 5) (g 2) ((mSecs (g 5) (g 2) (nw, g 6) i2).1, (mSecs (g 5) (g 2) (nw, g 6) i2).2)).2) (mSec (g 5) (g 2) ((mSecs (g 5) (g 2) (nw, g 6) i2).1, (mSecs (g 5) (g 2) (nw, g 6) i2).2)).1 kp) H := hP
      have hD : va_D A (MC cI b (upd g 6 (mSec (g 5) (g 2) ((mSecs (g 5) (g 2) (nw, g 6) i2).1, (mSecs (g 5) (g 2) (nw, g 6) i2).2)).2) (mSec (g 5) (g 2) ((mSecs (g 5) (g 2) (nw, g 6) i2).1, (mSecs (g 5) (g 2) (nw, g 6) i2).2)).1 kp) := hD
      refine lv_iinc (v := nI (i2 + 1)) (lv' := [(2, .int (nI (i2 + 1))), (0, .ref (b 0)), (1, .int (nI n))]) hx hb dX2_secondsOn_11 hl (k := 0) rfl (nI_1 i2) (by decide) rfl (fun ls hl => ?_)
      refine lv_goto (tgt := 2) hx hb dX2_secondsOn_14 (by decide) ?_
      exact ih2 (i2 + 1) (by omega) _ _ _ hP hD hS (lv_sub hl [0, 1, 2] rfl)
  exact loop2 n 0 (by omega) _ _ _ hP hD hS (lv_sub hl [0, 1, 2] rfl)
abbrev rmX2_send : Room := { frames := 2, cells := 0, slots := 0, locals := 44 }
set_option maxRecDepth 100000 in
set_option maxHeartbeats 4000000 in
/-- send -/
theorem mX2_send (l : Launch) (D : va_G) (cI : ClassId) (b : Nat → Nat) (g nw kp : Nat → Int32) (x y : Nat) (sz : Nat) (ux : x < 10) (uy : y < 10) : wCt l yX2_send wsX2_send rmX2_send D [(cI, .int)] [.ref (b 0), .int (nI x), .int (nI y)] (MC cI b g nw kp) sz 0 0 (wQi D (fun v (u : Nat → Int32) => v = mSend (g 1) nw x y (48 + (10 * x + y)) ∧ u = mSend (g 1) nw x y) (fun u : Nat → Int32 => MC cI b g u kp)) := by
  refine wMet cX2_send 3 (some .int) (by decide) rfl (Nat.le_of_ble_eq_true rfl) ?_
  intro p e s m args below meth c A Q ls hQ hx hb hr hml hown hlocks hin hts hN hP hK hD hA hS hl
  have hl : lv_has ls 3 [(0, .ref (b 0)), (1, .int (nI x)), (2, .int (nI y))] := hl
  have hown : s.vm.findClass RX2 = some m.cls := hown
  have hw2 : ∀ w ∈ wsX20, w.before args s = true := fun w h => hts w (List.mem_cons_of_mem _ (List.mem_append_right _ h))
  have k16 := hts (.fieldLink RX2 16 "PauseLedgerModel" "now" "[I") (by decide +kernel)
  refine lv_aload_n hx hb dX2_send_0 rfl (lv_at hl 0 rfl) ?_
  refine va_get (D := D) (ci := 2) (v := .ref (b 1)) (C := RX2) (T := TX2) (N := 7) hx hb hw2 (fun _ h => h) hown hK hP 0 rfl rfl 3 (by decide) k16 (fun _ h9 => h9) rfl dX2_send_1 ?_
  refine lv_bipush (v := 7) hx hb dX2_send_4 (by decide) ?_
  refine lv_dup2_11 hx hb dX2_send_6 rfl rfl ?_
  refine wIald hx hb hK hP 1 0 rfl rfl 7 rfl (by decide) (by decide) dX2_send_7 ?_
  refine lv_iconst (v := 1) hx hb dX2_send_8 (by decide) ?_
  refine lv_iadd hx hb dX2_send_9 ?_
  refine wIast hx hb hK hP hD hS 1 0 rfl rfl 7 rfl (by decide) (by decide) dX2_send_10 (fun H locs hP hD hS => ?_)
  have hP : va_P D vwCl (MC cI b g (mAdd nw 7 1) kp) H := hP
  have hD : va_D A (MC cI b g (mAdd nw 7 1) kp) := hD
  refine lv_aload_n hx hb dX2_send_11 rfl (lv_at hl 0 rfl) ?_
  refine va_get (D := D) (ci := 2) (v := .ref (b 1)) (C := RX2) (T := TX2) (N := 7) hx hb hw2 (fun _ h => h) hown hK hP 0 rfl rfl 3 (by decide) k16 (fun _ h9 => h9) rfl dX2_send_12 ?_
  refine lv_sipush (v := 148) hx hb dX2_send_15 (by decide) ?_
  refine lv_iload_n hx hb dX2_send_18 rfl (lv_at hl 1 rfl) ?_
  refine lv_iload_n hx hb dX2_send_19 rfl (lv_at hl 2 rfl) ?_
  refine wCSi (pre := ([] : va_W)) (Wc := ([] : va_W)) (suf := MC cI b g (mAdd nw 7 1) kp) (As := [.int (nI x), .int (nI y)]) (rest := [.int 148, .ref (b 1)]) ⟨hx, hb, hml, hown, hts⟩ (mX2_pair l D cI x y _) hN hA hK hS hP hD rfl (va_cwS 2 hts gX2_send_X2_pair rfl rfl rfl (by decide +kernel) ⟨Nat.le_of_ble_eq_true rfl, Nat.le_of_ble_eq_true rfl⟩) rfl hl.1 rfl (Nat.le_of_ble_eq_true rfl) dX2_send_20 ⟨Nat.zero_le _, Nat.zero_le _⟩ (fun r_20 u_20 H locs hw hP hD hS => ?_)
  have hw : r_20 = nI (10 * x + y) := hw
  subst hw
  have hP : va_P D vwCl (MC cI b g (mAdd nw 7 1) kp) H := hP
  have hD : va_D A (MC cI b g (mAdd nw 7 1) kp) := hD
  refine lv_iadd hx hb dX2_send_23 ?_
  refine wTop (z := nI (148 + (10 * x + y))) (nI_add 148 (10 * x + y)) ?_
  refine lv_aload_n hx hb dX2_send_24 rfl (lv_at hl 0 rfl) ?_
  refine va_get (D := D) (ci := 2) (v := .ref (b 1)) (C := RX2) (T := TX2) (N := 7) hx hb hw2 (fun _ h => h) hown hK hP 0 rfl rfl 3 (by decide) k16 (fun _ h9 => h9) rfl dX2_send_25 ?_
  refine lv_bipush (v := 7) hx hb dX2_send_28 (by decide) ?_
  refine wIald hx hb hK hP 1 0 rfl rfl 7 rfl (by decide) (by decide) dX2_send_30 ?_
  refine wIast hx hb hK hP hD hS 1 0 rfl rfl (148 + (10 * x + y)) rfl (by omega) (by decide) dX2_send_31 (fun H locs hP hD hS => ?_)
  have hP : va_P D vwCl (MC cI b g (upd (mAdd nw 7 1) (148 + (10 * x + y)) ((mAdd nw 7 1) 7)) kp) H := hP
  have hD : va_D A (MC cI b g (upd (mAdd nw 7 1) (148 + (10 * x + y)) ((mAdd nw 7 1) 7)) kp) := hD
  refine lv_aload_n hx hb dX2_send_32 rfl (lv_at hl 0 rfl) ?_
  refine va_get (D := D) (ci := 2) (v := .ref (b 1)) (C := RX2) (T := TX2) (N := 7) hx hb hw2 (fun _ h => h) hown hK hP 0 rfl rfl 3 (by decide) k16 (fun _ h9 => h9) rfl dX2_send_33 ?_
  refine lv_bipush (v := 48) hx hb dX2_send_36 (by decide) ?_
  refine lv_iload_n hx hb dX2_send_38 rfl (lv_at hl 1 rfl) ?_
  refine lv_iload_n hx hb dX2_send_39 rfl (lv_at hl 2 rfl) ?_
  refine wCSi (pre := ([] : va_W)) (Wc := ([] : va_W)) (suf := MC cI b g (upd (mAdd nw 7 1) (148 + (10 * x + y)) ((mAdd nw 7 1) 7)) kp) (As := [.int (nI x), .int (nI y)]) (rest := [.int 48, .ref (b 1)]) ⟨hx, hb, hml, hown, hts⟩ (mX2_pair l D cI x y _) hN hA hK hS hP hD rfl (va_cwS 2 hts gX2_send_X2_pair rfl rfl rfl (by decide +kernel) ⟨Nat.le_of_ble_eq_true rfl, Nat.le_of_ble_eq_true rfl⟩) rfl hl.1 rfl (Nat.le_of_ble_eq_true rfl) dX2_send_40 ⟨Nat.zero_le _, Nat.zero_le _⟩ (fun r_40 u_40 H locs hw hP hD hS => ?_)
  have hw : r_40 = nI (10 * x + y) := hw
  subst hw
  have hP : va_P D vwCl (MC cI b g (upd (mAdd nw 7 1) (148 + (10 * x + y)) ((mAdd nw 7 1) 7)) kp) H := hP
  have hD : va_D A (MC cI b g (upd (mAdd nw 7 1) (148 + (10 * x + y)) ((mAdd nw 7 1) 7)) kp) := hD
  refine lv_iadd hx hb dX2_send_43 ?_
  refine wTop (z := nI (48 + (10 * x + y))) (nI_add 48 (10 * x + y)) ?_
  refine lv_iconst (v := 2) hx hb dX2_send_44 (by decide) ?_
  refine lv_aload_n hx hb dX2_send_45 rfl (lv_at hl 0 rfl) ?_
  refine lv_iload_n hx hb dX2_send_46 rfl (lv_at hl 1 rfl) ?_
  refine lv_iload_n hx hb dX2_send_47 rfl (lv_at hl 2 rfl) ?_
  refine wCVi (pre := ([] : va_W)) (Wc := MC cI b g (upd (mAdd nw 7 1) (148 + (10 * x + y)) ((mAdd nw 7 1) 7)) kp) (suf := ([] : va_W)) (As := [.int (nI x), .int (nI y)]) (rest := [.int 2, .int (nI (48 + (10 * x + y))), .ref (b 1)]) ⟨hx, hb, hml, hown, hts⟩ (mX2_apart l D cI b g (upd (mAdd nw 7 1) (148 + (10 * x + y)) ((mAdd nw 7 1) 7)) kp (nI x) (nI y) _) hN hA hK hS hP hD rfl 0 (r := (RX2, TX2, 7)) rfl rfl (cwV 2 hts gX2_send_X2_apart rfl rfl rfl (by decide +kernel) ⟨Nat.le_of_ble_eq_true rfl, Nat.le_of_ble_eq_true rfl⟩) rfl hl.1 rfl (Nat.le_of_ble_eq_true rfl) dX2_send_48 ⟨Nat.zero_le _, Nat.zero_le _⟩ (fun r_48 u_48 H locs hw hP hD hS => ?_)
  have hw : r_48 = dSeats (g 1) (nI x) (nI y) := hw
  subst hw
  have hP : va_P D vwCl (MC cI b g (upd (mAdd nw 7 1) (148 + (10 * x + y)) ((mAdd nw 7 1) 7)) kp) H := hP
  have hD : va_D A (MC cI b g (upd (mAdd nw 7 1) (148 + (10 * x + y)) ((mAdd nw 7 1) 7)) kp) := hD
  refine lv_imul hx hb dX2_send_51 ?_
  refine wIast hx hb hK hP hD hS 1 0 rfl rfl (48 + (10 * x + y)) rfl (by omega) (by decide) dX2_send_52 (fun H locs hP hD hS => ?_)
  have hP : va_P D vwCl (MC cI b g (upd (upd (mAdd nw 7 1) (148 + (10 * x + y)) ((mAdd nw 7 1) 7)) (48 + (10 * x + y)) (2 * (dSeats (g 1) (nI x) (nI y)))) kp) H := hP
  have hD : va_D A (MC cI b g (upd (upd (mAdd nw 7 1) (148 + (10 * x + y)) ((mAdd nw 7 1) 7)) (48 + (10 * x + y)) (2 * (dSeats (g 1) (nI x) (nI y)))) kp) := hD
  refine lv_aload_n hx hb dX2_send_53 rfl (lv_at hl 0 rfl) ?_
  refine va_get (D := D) (ci := 2) (v := .ref (b 1)) (C := RX2) (T := TX2) (N := 7) hx hb hw2 (fun _ h => h) hown hK hP 0 rfl rfl 3 (by decide) k16 (fun _ h9 => h9) rfl dX2_send_54 ?_
  refine lv_bipush (v := 48) hx hb dX2_send_57 (by decide) ?_
  refine lv_iload_n hx hb dX2_send_59 rfl (lv_at hl 1 rfl) ?_
  refine lv_iload_n hx hb dX2_send_60 rfl (lv_at hl 2 rfl) ?_
  refine wCSi (pre := ([] : va_W)) (Wc := ([] : va_W)) (suf := MC cI b g (upd (upd (mAdd nw 7 1) (148 + (10 * x + y)) ((mAdd nw 7 1) 7)) (48 + (10 * x + y)) (2 * (dSeats (g 1) (nI x) (nI y)))) kp) (As := [.int (nI x), .int (nI y)]) (rest := [.int 48, .ref (b 1)]) ⟨hx, hb, hml, hown, hts⟩ (mX2_pair l D cI x y _) hN hA hK hS hP hD rfl (va_cwS 2 hts gX2_send_X2_pair rfl rfl rfl (by decide +kernel) ⟨Nat.le_of_ble_eq_true rfl, Nat.le_of_ble_eq_true rfl⟩) rfl hl.1 rfl (Nat.le_of_ble_eq_true rfl) dX2_send_61 ⟨Nat.zero_le _, Nat.zero_le _⟩ (fun r_61 u_61 H locs hw hP hD hS => ?_)
  have hw : r_61 = nI (10 * x + y) := hw
  subst hw
  have hP : va_P D vwCl (MC cI b g (upd (upd (mAdd nw 7 1) (148 + (10 * x + y)) ((mAdd nw 7 1) 7)) (48 + (10 * x + y)) (2 * (dSeats (g 1) (nI x) (nI y)))) kp) H := hP
  have hD : va_D A (MC cI b g (upd (upd (mAdd nw 7 1) (148 + (10 * x + y)) ((mAdd nw 7 1) 7)) (48 + (10 * x + y)) (2 * (dSeats (g 1) (nI x) (nI y)))) kp) := hD
  refine lv_iadd hx hb dX2_send_64 ?_
  refine wTop (z := nI (48 + (10 * x + y))) (nI_add 48 (10 * x + y)) ?_
  refine wIald hx hb hK hP 1 0 rfl rfl (48 + (10 * x + y)) rfl (by omega) (by decide) dX2_send_65 ?_
  exact wRi hQ hx hb hr hlocks hP hD hS dX2_send_66 (upd (upd (mAdd nw 7 1) (148 + (10 * x + y)) ((mAdd nw 7 1) 7)) (48 + (10 * x + y)) (2 * (dSeats (g 1) (nI x) (nI y)))) (⟨rfl, rfl⟩) rfl
