abbrev rmX1_requireGuest : Room := { frames := 0, cells := 0, slots := 0, locals := 0 }
set_option maxRecDepth 100000 in
set_option maxHeartbeats 4000000 in
theorem mX1_requireGuest (l : Launch) (D : va_G) (cI : ClassId) (x0 : Nat) (a b : Nat → Nat) (f f2 : Nat → Int32) (r r2 : Nat → Nat → Int32) (gg x : Nat) (sz : Nat) (hg : f 0 = nI gg) (hg2 : gg ≤ 10) (hg0 : 0 < gg) (ux : x < gg) : wCt l yX1_requireGuest wsX1_requireGuest rmX1_requireGuest D [(cI, .int)] [.ref x0, .int (nI x)] (XO x0 a b ++ (DC cI a f r ++ DC cI b f2 r2)) sz 0 0 (wQv D (fun _ : Unit => True) (fun _ : Unit => XO x0 a b ++ (DC cI a f r ++ DC cI b f2 r2))) := by
  refine wMet cX1_requireGuest 2 none (by decide) rfl (Nat.le_of_ble_eq_true rfl) ?_
  intro p e s m args below meth c A Q ls hQ hx hb hr hml hown hlocks hin hts hN hP hK hD hA hS hl
  have hl : lv_has ls 2 [(0, .ref x0), (1, .int (nI x))] := hl
  have hown : s.vm.findClass RX1 = some m.cls := hown
  have hw0 : ∀ w ∈ wsX00, w.before args s = true := fun w h => hts w (List.mem_cons_of_mem _ (List.mem_append_left _ (List.mem_append_right _ h)))
  have hw1 : ∀ w ∈ wsX10, w.before args s = true := fun w h => hts w (List.mem_cons_of_mem _ (List.mem_append_left _ (List.mem_append_left _ (List.mem_append_right _ h))))
  have k12 := hts (.fieldLink RX1 12 "PauseLedger" "dinner" "LPauseLedger$Dinner;") (by decide +kernel)
  have k58 := hts (.fieldLink RX1 58 "PauseLedger$Dinner" "guests" "I") (by decide +kernel)
  refine lv_iload_n hx hb dX1_requireGuest_0 rfl (lv_at hl 1 rfl) ?_
  refine lv_if_lt (tgt := 15) hx hb dX1_requireGuest_1 (by decide) (fun h9 => absurd h9 (nI_nneg (by omega))) (fun c_1 => ?_)
  refine lv_iload_n hx hb dX1_requireGuest_4 rfl (lv_at hl 1 rfl) ?_
  refine lv_aload_n hx hb dX1_requireGuest_5 rfl (lv_at hl 0 rfl) ?_
  refine va_get (D := D) (ci := 1) (v := .ref (a 0)) (C := RX1) (T := TX1) (N := 2) hx hb hw1 (fun _ h => h) hown hK hP 0 rfl rfl 0 (by decide) k12 (fun _ h9 => h9) rfl dX1_requireGuest_6 ?_
  refine va_get (D := D) (ci := 0) (v := .int (f 0)) (C := RX0) (T := TX0) (N := 17) hx hb hw0 (fun _ h => h) hown hK hP 1 rfl rfl 0 (by decide) k58 (fun _ h9 => h9) rfl dX1_requireGuest_9 ?_
  refine lv_icmp_lt (tgt := 25) hx hb dX1_requireGuest_12 (by decide) (fun c_12 => ?_) (fun h9 => absurd (by rw [hg]; exact nI_lt ux (by omega)) h9)
  exact wRv hQ hx hb hr hlocks hP hD hS dX1_requireGuest_25 () (trivial) rfl
abbrev rmX1_requireWithin : Room := { frames := 0, cells := 0, slots := 0, locals := 0 }
set_option maxRecDepth 100000 in
set_option maxHeartbeats 4000000 in
theorem mX1_requireWithin (l : Launch) (D : va_G) (cI : ClassId) (w lo hi : Nat) (sz : Nat) (w1 : lo ≤ w) (w2 : w ≤ hi) (w3 : hi < 2 ^ 31) : wCt l yX1_requireWithin wsX1_requireWithin rmX1_requireWithin D [(cI, .int)] [.int (nI w), .int (nI lo), .int (nI hi)] (([] : va_W)) sz 0 0 (wQv D (fun _ : Unit => True) (fun _ : Unit => ([] : va_W))) := by
  refine wMet cX1_requireWithin 3 none (by decide) rfl (Nat.le_of_ble_eq_true rfl) ?_
  intro p e s m args below meth c A Q ls hQ hx hb hr hml hown hlocks hin hts hN hP hK hD hA hS hl
  have hl : lv_has ls 3 [(0, .int (nI w)), (1, .int (nI lo)), (2, .int (nI hi))] := hl
  have hown : s.vm.findClass RX1 = some m.cls := hown
  refine lv_iload_n hx hb dX1_requireWithin_0 rfl (lv_at hl 0 rfl) ?_
  refine lv_iload_n hx hb dX1_requireWithin_1 rfl (lv_at hl 1 rfl) ?_
  refine lv_icmp_lt (tgt := 10) hx hb dX1_requireWithin_2 (by decide) (fun h9 => absurd h9 (nI_nlt w1 (by omega))) (fun c_2 => ?_)
  have c_2n := mt (nI_ltI (a := w) (b := lo) (by omega) (by omega)).mpr c_2
  refine lv_iload_n hx hb dX1_requireWithin_5 rfl (lv_at hl 0 rfl) ?_
  refine lv_iload_n hx hb dX1_requireWithin_6 rfl (lv_at hl 2 rfl) ?_
  refine lv_icmp_le (tgt := 20) hx hb dX1_requireWithin_7 (by decide) (fun c_7 => ?_) (fun h9 => absurd (nI_le w2 w3) h9)
  have c_7n := (nI_leI (a := w) (b := hi) (by omega) (by omega)).mp c_7
  exact wRv hQ hx hb hr hlocks hP hD hS dX1_requireWithin_20 () (trivial) rfl
abbrev rmX1_requireFreeWay : Room := { frames := 1, cells := 0, slots := 0, locals := 21 }
set_option maxRecDepth 100000 in
set_option maxHeartbeats 4000000 in
theorem mX1_requireFreeWay (l : Launch) (D : va_G) (cI : ClassId) (x0 : Nat) (a b : Nat → Nat) (f f2 : Nat → Int32) (r r2 : Nat → Nat → Int32) (gg x y : Nat) (sz : Nat) (hg : f 0 = nI gg) (hg2 : gg ≤ 10) (hg0 : 0 < gg) (ux : x < gg) (uy : y < gg) (hne : ¬ nI x = nI y) (hfree : r 4 (x * 10 + y) = -1) : wCt l yX1_requireFreeWay wsX1_requireFreeWay rmX1_requireFreeWay D [(cI, .int)] [.ref x0, .int (nI x), .int (nI y)] (XO x0 a b ++ (DC cI a f r ++ DC cI b f2 r2)) sz 0 0 (wQv D (fun _ : Unit => True) (fun _ : Unit => XO x0 a b ++ (DC cI a f r ++ DC cI b f2 r2))) := by
  refine wMet cX1_requireFreeWay 3 none (by decide) rfl (Nat.le_of_ble_eq_true rfl) ?_
  intro p e s m args below meth c A Q ls hQ hx hb hr hml hown hlocks hin hts hN hP hK hD hA hS hl
  have hl : lv_has ls 3 [(0, .ref x0), (1, .int (nI x)), (2, .int (nI y))] := hl
  have hown : s.vm.findClass RX1 = some m.cls := hown
  have hw1 : ∀ w ∈ wsX10, w.before args s = true := fun w h => hts w (List.mem_cons_of_mem _ (List.mem_append_left _ (List.mem_append_left _ (List.mem_append_left _ (List.mem_append_left _ (List.mem_append_right _ h))))))
  have k12 := hts (.fieldLink RX1 12 "PauseLedger" "dinner" "LPauseLedger$Dinner;") (by decide +kernel)
  refine lv_aload_n hx hb dX1_requireFreeWay_0 rfl (lv_at hl 0 rfl) ?_
  refine lv_iload_n hx hb dX1_requireFreeWay_1 rfl (lv_at hl 1 rfl) ?_
  refine wCVv (pre := ([] : va_W)) (Wc := XO x0 a b ++ (DC cI a f r ++ DC cI b f2 r2)) (suf := ([] : va_W)) (As := [.int (nI x)]) (rest := []) ⟨hx, hb, hml, hown, hts⟩ (mX1_requireGuest l D cI x0 a b f f2 r r2 gg x _ hg hg2 hg0 ux) hN hA hK hS hP hD rfl 0 (r := (RX1, TX1, 2)) rfl rfl (cwV 1 hts gX1_requireFreeWay_X1_requireGuest rfl rfl rfl (by decide +kernel) ⟨Nat.le_of_ble_eq_true rfl, Nat.le_of_ble_eq_true rfl⟩) rfl hl.1 rfl (Nat.le_of_ble_eq_true rfl) dX1_requireFreeWay_2 ⟨Nat.zero_le _, Nat.zero_le _⟩ (fun u_2 H locs hw hP hD hS => ?_)
  have hP : va_P D vwCl (XO x0 a b ++ (DC cI a f r ++ DC cI b f2 r2)) H := hP
  have hD : va_D A (XO x0 a b ++ (DC cI a f r ++ DC cI b f2 r2)) := hD
  refine lv_aload_n hx hb dX1_requireFreeWay_5 rfl (lv_at hl 0 rfl) ?_
  refine lv_iload_n hx hb dX1_requireFreeWay_6 rfl (lv_at hl 2 rfl) ?_
  refine wCVv (pre := ([] : va_W)) (Wc := XO x0 a b ++ (DC cI a f r ++ DC cI b f2 r2)) (suf := ([] : va_W)) (As := [.int (nI y)]) (rest := []) ⟨hx, hb, hml, hown, hts⟩ (mX1_requireGuest l D cI x0 a b f f2 r r2 gg y _ hg hg2 hg0 uy) hN hA hK hS hP hD rfl 0 (r := (RX1, TX1, 2)) rfl rfl (cwV 1 hts gX1_requireFreeWay_X1_requireGuest rfl rfl rfl (by decide +kernel) ⟨Nat.le_of_ble_eq_true rfl, Nat.le_of_ble_eq_true rfl⟩) rfl hl.1 rfl (Nat.le_of_ble_eq_true rfl) dX1_requireFreeWay_7 ⟨Nat.zero_le _, Nat.zero_le _⟩ (fun u_7 H locs hw hP hD hS => ?_)
  have hP : va_P D vwCl (XO x0 a b ++ (DC cI a f r ++ DC cI b f2 r2)) H := hP
  have hD : va_D A (XO x0 a b ++ (DC cI a f r ++ DC cI b f2 r2)) := hD
  refine lv_iload_n hx hb dX1_requireFreeWay_10 rfl (lv_at hl 1 rfl) ?_
  refine lv_iload_n hx hb dX1_requireFreeWay_11 rfl (lv_at hl 2 rfl) ?_
  refine lv_icmp_ne (tgt := 25) hx hb dX1_requireFreeWay_12 (by decide) (fun c_12 => ?_) (fun h9 => absurd h9 (hne))
  have c_12n := mt (nI_eq (a := x) (b := y) (by omega) (by omega)).mpr c_12
  refine lv_aload_n hx hb dX1_requireFreeWay_25 rfl (lv_at hl 0 rfl) ?_
  refine va_get (D := D) (ci := 1) (v := .ref (a 0)) (C := RX1) (T := TX1) (N := 2) hx hb hw1 (fun _ h => h) hown hK hP 0 rfl rfl 0 (by decide) k12 (fun _ h9 => h9) rfl dX1_requireFreeWay_26 ?_
  refine lv_iload_n hx hb dX1_requireFreeWay_29 rfl (lv_at hl 1 rfl) ?_
  refine lv_iload_n hx hb dX1_requireFreeWay_30 rfl (lv_at hl 2 rfl) ?_
  refine wCSi (pre := ([] : va_W)) (Wc := ([] : va_W)) (suf := XO x0 a b ++ (DC cI a f r ++ DC cI b f2 r2)) (As := [.int (nI x), .int (nI y)]) (rest := [.ref (a 0)]) ⟨hx, hb, hml, hown, hts⟩ (mX1_pairOf l D cI x y _) hN hA hK hS hP hD rfl (va_cwS 2 hts gX1_requireFreeWay_X1_pairOf rfl rfl rfl (by decide +kernel) ⟨Nat.le_of_ble_eq_true rfl, Nat.le_of_ble_eq_true rfl⟩) rfl hl.1 rfl (Nat.le_of_ble_eq_true rfl) dX1_requireFreeWay_31 ⟨Nat.zero_le _, Nat.zero_le _⟩ (fun r_31 u_31 H locs hw hP hD hS => ?_)
  have hw : r_31 = nI (x * 10 + y) := hw
  subst hw
  have hP : va_P D vwCl (XO x0 a b ++ (DC cI a f r ++ DC cI b f2 r2)) H := hP
  have hD : va_D A (XO x0 a b ++ (DC cI a f r ++ DC cI b f2 r2)) := hD
  refine wCVi (pre := XO x0 a b) (Wc := DC cI a f r) (suf := DC cI b f2 r2) (As := [.int (nI (x * 10 + y))]) (rest := []) ⟨hx, hb, hml, hown, hts⟩ (mX0_isOnItsWay l D cI a f r (x * 10 + y) _ (by omega)) hN hA hK hS hP hD rfl 0 (r := (RX0, TX0, 17)) rfl rfl (cwV 1 hts gX1_requireFreeWay_X0_isOnItsWay rfl rfl rfl (by decide +kernel) ⟨Nat.le_of_ble_eq_true rfl, Nat.le_of_ble_eq_true rfl⟩) rfl hl.1 rfl (Nat.le_of_ble_eq_true rfl) dX1_requireFreeWay_34 ⟨Nat.zero_le _, Nat.zero_le _⟩ (fun r_34 u_34 H locs hw hP hD hS => ?_)
  have hw : r_34 = if (r 4) (x * 10 + y) = -1 then 0 else 1 := hw
  subst hw
  have hP : va_P D vwCl (XO x0 a b ++ (DC cI a f r ++ DC cI b f2 r2)) H := hP
  have hD : va_D A (XO x0 a b ++ (DC cI a f r ++ DC cI b f2 r2)) := hD
  refine lv_if_eq (tgt := 50) hx hb dX1_requireFreeWay_37 (by decide) (fun c_37 => ?_) (fun h9 => absurd (if_pos hfree) h9)
  exact wRv hQ hx hb hr hlocks hP hD hS dX1_requireFreeWay_50 () (trivial) rfl
abbrev rmX1_newDinner : Room := { frames := 3, cells := 0, slots := 0, locals := 63 }
set_option maxRecDepth 100000 in
set_option maxHeartbeats 4000000 in
theorem mX1_newDinner (l : Launch) (D : va_G) (cI : ClassId) (x0 : Nat) (a b : Nat → Nat) (f f2 : Nat → Int32) (r r2 : Nat → Nat → Int32) (gg w : Nat) (sz : Nat) (hg : f 0 = nI gg) (hg2 : gg ≤ 10) (hg0 : 0 < gg) (w1 : 2 ≤ w) (w2 : w ≤ 10) : wCt l yX1_newDinner wsX1_newDinner rmX1_newDinner D [(cI, .int)] [.ref x0, .int (nI w)] (XO x0 a b ++ (DC cI a f r ++ DC cI b f2 r2)) sz 0 0 (wQi D (fun v (_ : Unit) => v = dRate (f 0) (f 6) (r 3) gg) (fun _ : Unit => XO x0 a b ++ (DC cI a (dBeginF f (nI w)) (dBeginR r) ++ DC cI b f2 r2))) := by
  refine wMet cX1_newDinner 3 (some .int) (by decide) rfl (Nat.le_of_ble_eq_true rfl) ?_
  intro p e s m args below meth c A Q ls hQ hx hb hr hml hown hlocks hin hts hN hP hK hD hA hS hl
  have hl : lv_has ls 3 [(0, .ref x0), (1, .int (nI w))] := hl
  have hown : s.vm.findClass RX1 = some m.cls := hown
  have hw1 : ∀ w ∈ wsX10, w.before args s = true := fun w h => hts w (List.mem_cons_of_mem _ (List.mem_append_left _ (List.mem_append_left _ (List.mem_append_right _ h))))
  have k12 := hts (.fieldLink RX1 12 "PauseLedger" "dinner" "LPauseLedger$Dinner;") (by decide +kernel)
  refine lv_iload_n hx hb dX1_newDinner_0 rfl (lv_at hl 1 rfl) ?_
  refine lv_iconst (v := 2) hx hb dX1_newDinner_1 (by decide) ?_
  refine lv_bipush (v := 10) hx hb dX1_newDinner_2 (by decide) ?_
  refine wCSv (pre := ([] : va_W)) (Wc := ([] : va_W)) (suf := XO x0 a b ++ (DC cI a f r ++ DC cI b f2 r2)) (As := [.int (nI w), .int 2, .int 10]) (rest := []) ⟨hx, hb, hml, hown, hts⟩ (mX1_requireWithin l D cI w 2 10 _ w1 w2 (by decide)) hN hA hK hS hP hD rfl (va_cwS 3 hts gX1_newDinner_X1_requireWithin rfl rfl rfl (by decide +kernel) ⟨Nat.le_of_ble_eq_true rfl, Nat.le_of_ble_eq_true rfl⟩) rfl hl.1 rfl (Nat.le_of_ble_eq_true rfl) dX1_newDinner_4 ⟨Nat.zero_le _, Nat.zero_le _⟩ (fun u_4 H locs hw hP hD hS => ?_)
  have hP : va_P D vwCl (XO x0 a b ++ (DC cI a f r ++ DC cI b f2 r2)) H := hP
  have hD : va_D A (XO x0 a b ++ (DC cI a f r ++ DC cI b f2 r2)) := hD
  refine lv_aload_n hx hb dX1_newDinner_7 rfl (lv_at hl 0 rfl) ?_
  refine va_get (D := D) (ci := 1) (v := .ref (a 0)) (C := RX1) (T := TX1) (N := 2) hx hb hw1 (fun _ h => h) hown hK hP 0 rfl rfl 0 (by decide) k12 (fun _ h9 => h9) rfl dX1_newDinner_8 ?_
  refine wCVi (pre := XO x0 a b) (Wc := DC cI a f r) (suf := DC cI b f2 r2) (As := []) (rest := []) ⟨hx, hb, hml, hown, hts⟩ (mX0_rate l D cI a f r gg _ hg hg2 hg0) hN hA hK hS hP hD rfl 0 (r := (RX0, TX0, 17)) rfl rfl (cwV 0 hts gX1_newDinner_X0_rate rfl rfl rfl (by decide +kernel) ⟨Nat.le_of_ble_eq_true rfl, Nat.le_of_ble_eq_true rfl⟩) rfl hl.1 rfl (Nat.le_of_ble_eq_true rfl) dX1_newDinner_11 ⟨Nat.zero_le _, Nat.zero_le _⟩ (fun r_11 u_11 H locs hw hP hD hS => ?_)
  have hw : r_11 = dRate (f 0) (f 6) (r 3) gg := hw
  subst hw
  have hP : va_P D vwCl (XO x0 a b ++ (DC cI a f r ++ DC cI b f2 r2)) H := hP
  have hD : va_D A (XO x0 a b ++ (DC cI a f r ++ DC cI b f2 r2)) := hD
  refine lv_istore_n (lv' := [(2, .int (dRate (f 0) (f 6) (r 3) gg)), (0, .ref x0), (1, .int (nI w))]) hx hb dX1_newDinner_14 rfl hl (by decide) rfl (fun ls hl => ?_)
  refine lv_aload_n hx hb dX1_newDinner_15 rfl (lv_at hl 1 rfl) ?_
  refine va_get (D := D) (ci := 1) (v := .ref (a 0)) (C := RX1) (T := TX1) (N := 2) hx hb hw1 (fun _ h => h) hown hK hP 0 rfl rfl 0 (by decide) k12 (fun _ h9 => h9) rfl dX1_newDinner_16 ?_
  refine lv_iload_n hx hb dX1_newDinner_19 rfl (lv_at hl 2 rfl) ?_
  refine wCVv (pre := XO x0 a b) (Wc := DC cI a f r) (suf := DC cI b f2 r2) (As := [.int (nI w)]) (rest := []) ⟨hx, hb, hml, hown, hts⟩ (mX0_begin l D cI a f r (nI w) _) hN hA hK hS hP hD rfl 0 (r := (RX0, TX0, 17)) rfl rfl (cwV 1 hts gX1_newDinner_X0_begin rfl rfl rfl (by decide +kernel) ⟨Nat.le_of_ble_eq_true rfl, Nat.le_of_ble_eq_true rfl⟩) rfl hl.1 rfl (Nat.le_of_ble_eq_true rfl) dX1_newDinner_20 ⟨Nat.zero_le _, Nat.zero_le _⟩ (fun u_20 H locs hw hP hD hS => ?_)
  subst hw
  have hP : va_P D vwCl (XO x0 a b ++ (DC cI a (dBeginF f (nI w), dBeginR r).1 (dBeginF f (nI w), dBeginR r).2 ++ DC cI b f2 r2)) H := hP
  have hD : va_D A (XO x0 a b ++ (DC cI a (dBeginF f (nI w), dBeginR r).1 (dBeginF f (nI w), dBeginR r).2 ++ DC cI b f2 r2)) := hD
  refine lv_iload_n hx hb dX1_newDinner_23 rfl (lv_at hl 0 rfl) ?_
  exact wRi hQ hx hb hr hlocks hP hD hS dX1_newDinner_24 () (rfl) rfl
abbrev rmX1_setLimit : Room := { frames := 1, cells := 0, slots := 0, locals := 22 }
set_option maxRecDepth 100000 in
set_option maxHeartbeats 4000000 in
theorem mX1_setLimit (l : Launch) (D : va_G) (cI : ClassId) (x0 : Nat) (a b : Nat → Nat) (f f2 : Nat → Int32) (r r2 : Nat → Nat → Int32) (w : Nat) (sz : Nat) (w1 : 1 ≤ w) (w2 : w ≤ 30) : wCt l yX1_setLimit wsX1_setLimit rmX1_setLimit D [(cI, .int)] [.ref x0, .int (nI w)] (XO x0 a b ++ (DC cI a f r ++ DC cI b f2 r2)) sz 0 0 (wQi D (fun v (_ : Unit) => v = f 2) (fun _ : Unit => XO x0 a b ++ (DC cI a (upd f 2 (nI w)) r ++ DC cI b f2 r2))) := by
  refine wMet cX1_setLimit 3 (some .int) (by decide) rfl (Nat.le_of_ble_eq_true rfl) ?_
  intro p e s m args below meth c A Q ls hQ hx hb hr hml hown hlocks hin hts hN hP hK hD hA hS hl
  have hl : lv_has ls 3 [(0, .ref x0), (1, .int (nI w))] := hl
  have hown : s.vm.findClass RX1 = some m.cls := hown
  have hw0 : ∀ w ∈ wsX00, w.before args s = true := fun w h => hts w (List.mem_cons_of_mem _ (List.mem_append_left _ (List.mem_append_right _ h)))
  have hw1 : ∀ w ∈ wsX10, w.before args s = true := fun w h => hts w (List.mem_cons_of_mem _ (List.mem_append_left _ (List.mem_append_left _ (List.mem_append_right _ h))))
  have k12 := hts (.fieldLink RX1 12 "PauseLedger" "dinner" "LPauseLedger$Dinner;") (by decide +kernel)
  have k31 := hts (.fieldLink RX1 31 "PauseLedger$Dinner" "limit" "I") (by decide +kernel)
  refine lv_iload_n hx hb dX1_setLimit_0 rfl (lv_at hl 1 rfl) ?_
  refine lv_iconst (v := 1) hx hb dX1_setLimit_1 (by decide) ?_
  refine lv_bipush (v := 30) hx hb dX1_setLimit_2 (by decide) ?_
  refine wCSv (pre := ([] : va_W)) (Wc := ([] : va_W)) (suf := XO x0 a b ++ (DC cI a f r ++ DC cI b f2 r2)) (As := [.int (nI w), .int 1, .int 30]) (rest := []) ⟨hx, hb, hml, hown, hts⟩ (mX1_requireWithin l D cI w 1 30 _ w1 w2 (by decide)) hN hA hK hS hP hD rfl (va_cwS 3 hts gX1_setLimit_X1_requireWithin rfl rfl rfl (by decide +kernel) ⟨Nat.le_of_ble_eq_true rfl, Nat.le_of_ble_eq_true rfl⟩) rfl hl.1 rfl (Nat.le_of_ble_eq_true rfl) dX1_setLimit_4 ⟨Nat.zero_le _, Nat.zero_le _⟩ (fun u_4 H locs hw hP hD hS => ?_)
  have hP : va_P D vwCl (XO x0 a b ++ (DC cI a f r ++ DC cI b f2 r2)) H := hP
  have hD : va_D A (XO x0 a b ++ (DC cI a f r ++ DC cI b f2 r2)) := hD
  refine lv_aload_n hx hb dX1_setLimit_7 rfl (lv_at hl 0 rfl) ?_
  refine va_get (D := D) (ci := 1) (v := .ref (a 0)) (C := RX1) (T := TX1) (N := 2) hx hb hw1 (fun _ h => h) hown hK hP 0 rfl rfl 0 (by decide) k12 (fun _ h9 => h9) rfl dX1_setLimit_8 ?_
  refine va_get (D := D) (ci := 0) (v := .int (f 2)) (C := RX0) (T := TX0) (N := 17) hx hb hw0 (fun _ h => h) hown hK hP 1 rfl rfl 2 (by decide) k31 (fun _ h9 => h9) rfl dX1_setLimit_11 ?_
  refine lv_istore_n (lv' := [(2, .int (f 2)), (0, .ref x0), (1, .int (nI w))]) hx hb dX1_setLimit_14 rfl hl (by decide) rfl (fun ls hl => ?_)
  refine lv_aload_n hx hb dX1_setLimit_15 rfl (lv_at hl 1 rfl) ?_
  refine va_get (D := D) (ci := 1) (v := .ref (a 0)) (C := RX1) (T := TX1) (N := 2) hx hb hw1 (fun _ h => h) hown hK hP 0 rfl rfl 0 (by decide) k12 (fun _ h9 => h9) rfl dX1_setLimit_16 ?_
  refine lv_iload_n hx hb dX1_setLimit_19 rfl (lv_at hl 2 rfl) ?_
  refine va_put (D := D) (ci := 0) (v := .int (nI w)) (ty := .int) (C := RX0) (T := TX0) (N := 17) hx hb hw0 (fun _ h => h) tyX0 tyX0_ok nmX0 hown hK hP hD hS 1 rfl rfl 2 (by decide) k31 (fun _ h9 => h9) rfl (by decide +kernel) rfl rfl (Nat.le_of_ble_eq_true rfl) dX1_setLimit_20 (fun H locs hP hD hS => ?_)
  have hP : va_P D vwCl (XO x0 a b ++ (DC cI a (upd f 2 (nI w)) r ++ DC cI b f2 r2)) H := hP
  have hD : va_D A (XO x0 a b ++ (DC cI a (upd f 2 (nI w)) r ++ DC cI b f2 r2)) := hD
  refine lv_iload_n hx hb dX1_setLimit_23 rfl (lv_at hl 0 rfl) ?_
  exact wRi hQ hx hb hr hlocks hP hD hS dX1_setLimit_24 () (rfl) rfl
abbrev rmX1_speak : Room := { frames := 1, cells := 0, slots := 0, locals := 23 }
set_option maxRecDepth 100000 in
set_option maxHeartbeats 4000000 in
theorem mX1_speak (l : Launch) (D : va_G) (cI : ClassId) (x0 : Nat) (a b : Nat → Nat) (f f2 : Nat → Int32) (r r2 : Nat → Nat → Int32) (gg x w : Nat) (sz : Nat) (hg : f 0 = nI gg) (hg2 : gg ≤ 10) (hg0 : 0 < gg) (ux : x < gg) (w1 : 1 ≤ w) (w2 : w ≤ 60) : wCt l yX1_speak wsX1_speak rmX1_speak D [(cI, .int)] [.ref x0, .int (nI x), .int (nI w)] (XO x0 a b ++ (DC cI a f r ++ DC cI b f2 r2)) sz 0 0 (wQi D (fun v (_ : Unit) => v = dInt f x) (fun _ : Unit => XO x0 a b ++ (DC cI a (dSpeak f r x (nI w)).1 (dSpeak f r x (nI w)).2 ++ DC cI b f2 r2))) := by
  refine wMet cX1_speak 3 (some .int) (by decide) rfl (Nat.le_of_ble_eq_true rfl) ?_
  intro p e s m args below meth c A Q ls hQ hx hb hr hml hown hlocks hin hts hN hP hK hD hA hS hl
  have hl : lv_has ls 3 [(0, .ref x0), (1, .int (nI x)), (2, .int (nI w))] := hl
  have hown : s.vm.findClass RX1 = some m.cls := hown
  have hw1 : ∀ w ∈ wsX10, w.before args s = true := fun w h => hts w (List.mem_cons_of_mem _ (List.mem_append_left _ (List.mem_append_left _ (List.mem_append_left _ (List.mem_append_right _ h)))))
  have k12 := hts (.fieldLink RX1 12 "PauseLedger" "dinner" "LPauseLedger$Dinner;") (by decide +kernel)
  refine lv_aload_n hx hb dX1_speak_0 rfl (lv_at hl 0 rfl) ?_
  refine lv_iload_n hx hb dX1_speak_1 rfl (lv_at hl 1 rfl) ?_
  refine wCVv (pre := ([] : va_W)) (Wc := XO x0 a b ++ (DC cI a f r ++ DC cI b f2 r2)) (suf := ([] : va_W)) (As := [.int (nI x)]) (rest := []) ⟨hx, hb, hml, hown, hts⟩ (mX1_requireGuest l D cI x0 a b f f2 r r2 gg x _ hg hg2 hg0 ux) hN hA hK hS hP hD rfl 0 (r := (RX1, TX1, 2)) rfl rfl (cwV 1 hts gX1_speak_X1_requireGuest rfl rfl rfl (by decide +kernel) ⟨Nat.le_of_ble_eq_true rfl, Nat.le_of_ble_eq_true rfl⟩) rfl hl.1 rfl (Nat.le_of_ble_eq_true rfl) dX1_speak_2 ⟨Nat.zero_le _, Nat.zero_le _⟩ (fun u_2 H locs hw hP hD hS => ?_)
  have hP : va_P D vwCl (XO x0 a b ++ (DC cI a f r ++ DC cI b f2 r2)) H := hP
  have hD : va_D A (XO x0 a b ++ (DC cI a f r ++ DC cI b f2 r2)) := hD
  refine lv_iload_n hx hb dX1_speak_5 rfl (lv_at hl 2 rfl) ?_
  refine lv_iconst (v := 1) hx hb dX1_speak_6 (by decide) ?_
  refine lv_bipush (v := 60) hx hb dX1_speak_7 (by decide) ?_
  refine wCSv (pre := ([] : va_W)) (Wc := ([] : va_W)) (suf := XO x0 a b ++ (DC cI a f r ++ DC cI b f2 r2)) (As := [.int (nI w), .int 1, .int 60]) (rest := []) ⟨hx, hb, hml, hown, hts⟩ (mX1_requireWithin l D cI w 1 60 _ w1 w2 (by decide)) hN hA hK hS hP hD rfl (va_cwS 3 hts gX1_speak_X1_requireWithin rfl rfl rfl (by decide +kernel) ⟨Nat.le_of_ble_eq_true rfl, Nat.le_of_ble_eq_true rfl⟩) rfl hl.1 rfl (Nat.le_of_ble_eq_true rfl) dX1_speak_9 ⟨Nat.zero_le _, Nat.zero_le _⟩ (fun u_9 H locs hw hP hD hS => ?_)
  have hP : va_P D vwCl (XO x0 a b ++ (DC cI a f r ++ DC cI b f2 r2)) H := hP
  have hD : va_D A (XO x0 a b ++ (DC cI a f r ++ DC cI b f2 r2)) := hD
  refine lv_aload_n hx hb dX1_speak_12 rfl (lv_at hl 0 rfl) ?_
  refine va_get (D := D) (ci := 1) (v := .ref (a 0)) (C := RX1) (T := TX1) (N := 2) hx hb hw1 (fun _ h => h) hown hK hP 0 rfl rfl 0 (by decide) k12 (fun _ h9 => h9) rfl dX1_speak_13 ?_
  refine lv_iload_n hx hb dX1_speak_16 rfl (lv_at hl 1 rfl) ?_
  refine lv_iload_n hx hb dX1_speak_17 rfl (lv_at hl 2 rfl) ?_
  refine wCVi (pre := XO x0 a b) (Wc := DC cI a f r) (suf := DC cI b f2 r2) (As := [.int (nI x), .int (nI w)]) (rest := []) ⟨hx, hb, hml, hown, hts⟩ (mX0_letSpeak l D cI a f r x (nI w) _ (by omega)) hN hA hK hS hP hD rfl 0 (r := (RX0, TX0, 17)) rfl rfl (cwV 2 hts gX1_speak_X0_letSpeak rfl rfl rfl (by decide +kernel) ⟨Nat.le_of_ble_eq_true rfl, Nat.le_of_ble_eq_true rfl⟩) rfl hl.1 rfl (Nat.le_of_ble_eq_true rfl) dX1_speak_18 ⟨Nat.zero_le _, Nat.zero_le _⟩ (fun r_18 u_18 H locs hw hP hD hS => ?_)
  obtain ⟨hw, rfl⟩ := hw
  have hw : r_18 = dInt f x := hw
  subst hw
  have hP : va_P D vwCl (XO x0 a b ++ (DC cI a (dSpeak f r x (nI w)).1 (dSpeak f r x (nI w)).2 ++ DC cI b f2 r2)) H := hP
  have hD : va_D A (XO x0 a b ++ (DC cI a (dSpeak f r x (nI w)).1 (dSpeak f r x (nI w)).2 ++ DC cI b f2 r2)) := hD
  exact wRi hQ hx hb hr hlocks hP hD hS dX1_speak_21 () (rfl) rfl
abbrev rmX1_cough : Room := { frames := 2, cells := 0, slots := 0, locals := 45 }
set_option maxRecDepth 100000 in
set_option maxHeartbeats 4000000 in
theorem mX1_cough (l : Launch) (D : va_G) (cI : ClassId) (x0 : Nat) (a b : Nat → Nat) (f f2 : Nat → Int32) (r r2 : Nat → Nat → Int32) (gg x w : Nat) (sz : Nat) (hg : f 0 = nI gg) (hg2 : gg ≤ 10) (hg0 : 0 < gg) (ux : x < gg) (w1 : 1 ≤ w) (w2 : w ≤ 9) : wCt l yX1_cough wsX1_cough rmX1_cough D [(cI, .int)] [.ref x0, .int (nI x), .int (nI w)] (XO x0 a b ++ (DC cI a f r ++ DC cI b f2 r2)) sz 0 0 (wQi D (fun v (_ : Unit) => v = dCough f (nI x) (nI w)) (fun _ : Unit => XO x0 a b ++ (DC cI a (dLetCough f r x (nI w)).1 (dLetCough f r x (nI w)).2 ++ DC cI b f2 r2))) := by
  refine wMet cX1_cough 3 (some .int) (by decide) rfl (Nat.le_of_ble_eq_true rfl) ?_
  intro p e s m args below meth c A Q ls hQ hx hb hr hml hown hlocks hin hts hN hP hK hD hA hS hl
  have hl : lv_has ls 3 [(0, .ref x0), (1, .int (nI x)), (2, .int (nI w))] := hl
  have hown : s.vm.findClass RX1 = some m.cls := hown
  have hw1 : ∀ w ∈ wsX10, w.before args s = true := fun w h => hts w (List.mem_cons_of_mem _ (List.mem_append_left _ (List.mem_append_left _ (List.mem_append_left _ (List.mem_append_right _ h)))))
  have k12 := hts (.fieldLink RX1 12 "PauseLedger" "dinner" "LPauseLedger$Dinner;") (by decide +kernel)
  refine lv_aload_n hx hb dX1_cough_0 rfl (lv_at hl 0 rfl) ?_
  refine lv_iload_n hx hb dX1_cough_1 rfl (lv_at hl 1 rfl) ?_
  refine wCVv (pre := ([] : va_W)) (Wc := XO x0 a b ++ (DC cI a f r ++ DC cI b f2 r2)) (suf := ([] : va_W)) (As := [.int (nI x)]) (rest := []) ⟨hx, hb, hml, hown, hts⟩ (mX1_requireGuest l D cI x0 a b f f2 r r2 gg x _ hg hg2 hg0 ux) hN hA hK hS hP hD rfl 0 (r := (RX1, TX1, 2)) rfl rfl (cwV 1 hts gX1_cough_X1_requireGuest rfl rfl rfl (by decide +kernel) ⟨Nat.le_of_ble_eq_true rfl, Nat.le_of_ble_eq_true rfl⟩) rfl hl.1 rfl (Nat.le_of_ble_eq_true rfl) dX1_cough_2 ⟨Nat.zero_le _, Nat.zero_le _⟩ (fun u_2 H locs hw hP hD hS => ?_)
  have hP : va_P D vwCl (XO x0 a b ++ (DC cI a f r ++ DC cI b f2 r2)) H := hP
  have hD : va_D A (XO x0 a b ++ (DC cI a f r ++ DC cI b f2 r2)) := hD
  refine lv_iload_n hx hb dX1_cough_5 rfl (lv_at hl 2 rfl) ?_
  refine lv_iconst (v := 1) hx hb dX1_cough_6 (by decide) ?_
  refine lv_bipush (v := 9) hx hb dX1_cough_7 (by decide) ?_
  refine wCSv (pre := ([] : va_W)) (Wc := ([] : va_W)) (suf := XO x0 a b ++ (DC cI a f r ++ DC cI b f2 r2)) (As := [.int (nI w), .int 1, .int 9]) (rest := []) ⟨hx, hb, hml, hown, hts⟩ (mX1_requireWithin l D cI w 1 9 _ w1 w2 (by decide)) hN hA hK hS hP hD rfl (va_cwS 3 hts gX1_cough_X1_requireWithin rfl rfl rfl (by decide +kernel) ⟨Nat.le_of_ble_eq_true rfl, Nat.le_of_ble_eq_true rfl⟩) rfl hl.1 rfl (Nat.le_of_ble_eq_true rfl) dX1_cough_9 ⟨Nat.zero_le _, Nat.zero_le _⟩ (fun u_9 H locs hw hP hD hS => ?_)
  have hP : va_P D vwCl (XO x0 a b ++ (DC cI a f r ++ DC cI b f2 r2)) H := hP
  have hD : va_D A (XO x0 a b ++ (DC cI a f r ++ DC cI b f2 r2)) := hD
  refine lv_aload_n hx hb dX1_cough_12 rfl (lv_at hl 0 rfl) ?_
  refine va_get (D := D) (ci := 1) (v := .ref (a 0)) (C := RX1) (T := TX1) (N := 2) hx hb hw1 (fun _ h => h) hown hK hP 0 rfl rfl 0 (by decide) k12 (fun _ h9 => h9) rfl dX1_cough_13 ?_
  refine lv_iload_n hx hb dX1_cough_16 rfl (lv_at hl 1 rfl) ?_
  refine lv_iload_n hx hb dX1_cough_17 rfl (lv_at hl 2 rfl) ?_
  refine wCVi (pre := XO x0 a b) (Wc := DC cI a f r) (suf := DC cI b f2 r2) (As := [.int (nI x), .int (nI w)]) (rest := []) ⟨hx, hb, hml, hown, hts⟩ (mX0_letCough l D cI a f r x (nI w) _ (by omega)) hN hA hK hS hP hD rfl 0 (r := (RX0, TX0, 17)) rfl rfl (cwV 2 hts gX1_cough_X0_letCough rfl rfl rfl (by decide +kernel) ⟨Nat.le_of_ble_eq_true rfl, Nat.le_of_ble_eq_true rfl⟩) rfl hl.1 rfl (Nat.le_of_ble_eq_true rfl) dX1_cough_18 ⟨Nat.zero_le _, Nat.zero_le _⟩ (fun r_18 u_18 H locs hw hP hD hS => ?_)
  obtain ⟨hw, rfl⟩ := hw
  have hw : r_18 = dCough f (nI x) (nI w) := hw
  subst hw
  have hP : va_P D vwCl (XO x0 a b ++ (DC cI a (dLetCough f r x (nI w)).1 (dLetCough f r x (nI w)).2 ++ DC cI b f2 r2)) H := hP
  have hD : va_D A (XO x0 a b ++ (DC cI a (dLetCough f r x (nI w)).1 (dLetCough f r x (nI w)).2 ++ DC cI b f2 r2)) := hD
  exact wRi hQ hx hb hr hlocks hP hD hS dX1_cough_21 () (rfl) rfl
abbrev rmX1_glance : Room := { frames := 4, cells := 0, slots := 0, locals := 89 }
set_option maxRecDepth 100000 in
set_option maxHeartbeats 4000000 in
theorem mX1_glance (l : Launch) (D : va_G) (cI : ClassId) (x0 : Nat) (a b : Nat → Nat) (f f2 : Nat → Int32) (r r2 : Nat → Nat → Int32) (gg x y n : Nat) (sz : Nat) (hg : f 0 = nI gg) (hg2 : gg ≤ 10) (hg0 : 0 < gg) (ux : x < gg) (uy : y < gg) (hne : ¬ nI x = nI y) (hfree : r 4 (x * 10 + y) = -1) (hn : f 9 = nI n) (hn1 : n < 100) : wCt l yX1_glance wsX1_glance rmX1_glance D [(cI, .int)] [.ref x0, .int (nI x), .int (nI y)] (XO x0 a b ++ (DC cI a f r ++ DC cI b f2 r2)) sz 0 0 (wQi D (fun v (_ : Unit) => v = 2 * dSeats (f 0) (nI x) (nI y)) (fun _ : Unit => XO x0 a b ++ (DC cI a (dSend f r x y n).1 (dSend f r x y n).2 ++ DC cI b f2 r2))) := by
  refine wMet cX1_glance 3 (some .int) (by decide) rfl (Nat.le_of_ble_eq_true rfl) ?_
  intro p e s m args below meth c A Q ls hQ hx hb hr hml hown hlocks hin hts hN hP hK hD hA hS hl
  have hl : lv_has ls 3 [(0, .ref x0), (1, .int (nI x)), (2, .int (nI y))] := hl
  have hown : s.vm.findClass RX1 = some m.cls := hown
  have hw1 : ∀ w ∈ wsX10, w.before args s = true := fun w h => hts w (List.mem_cons_of_mem _ (List.mem_append_left _ (List.mem_append_left _ (List.mem_append_left _ (List.mem_append_left _ (List.mem_append_right _ h))))))
  have k12 := hts (.fieldLink RX1 12 "PauseLedger" "dinner" "LPauseLedger$Dinner;") (by decide +kernel)
  refine lv_aload_n hx hb dX1_glance_0 rfl (lv_at hl 0 rfl) ?_
  refine lv_iload_n hx hb dX1_glance_1 rfl (lv_at hl 1 rfl) ?_
  refine lv_iload_n hx hb dX1_glance_2 rfl (lv_at hl 2 rfl) ?_
  refine wCVv (pre := ([] : va_W)) (Wc := XO x0 a b ++ (DC cI a f r ++ DC cI b f2 r2)) (suf := ([] : va_W)) (As := [.int (nI x), .int (nI y)]) (rest := []) ⟨hx, hb, hml, hown, hts⟩ (mX1_requireFreeWay l D cI x0 a b f f2 r r2 gg x y _ hg hg2 hg0 ux uy hne hfree) hN hA hK hS hP hD rfl 0 (r := (RX1, TX1, 2)) rfl rfl (cwV 2 hts gX1_glance_X1_requireFreeWay rfl rfl rfl (by decide +kernel) ⟨Nat.le_of_ble_eq_true rfl, Nat.le_of_ble_eq_true rfl⟩) rfl hl.1 rfl (Nat.le_of_ble_eq_true rfl) dX1_glance_3 ⟨Nat.zero_le _, Nat.zero_le _⟩ (fun u_3 H locs hw hP hD hS => ?_)
  have hP : va_P D vwCl (XO x0 a b ++ (DC cI a f r ++ DC cI b f2 r2)) H := hP
  have hD : va_D A (XO x0 a b ++ (DC cI a f r ++ DC cI b f2 r2)) := hD
  refine lv_aload_n hx hb dX1_glance_6 rfl (lv_at hl 0 rfl) ?_
  refine va_get (D := D) (ci := 1) (v := .ref (a 0)) (C := RX1) (T := TX1) (N := 2) hx hb hw1 (fun _ h => h) hown hK hP 0 rfl rfl 0 (by decide) k12 (fun _ h9 => h9) rfl dX1_glance_7 ?_
  refine lv_iload_n hx hb dX1_glance_10 rfl (lv_at hl 1 rfl) ?_
  refine lv_iload_n hx hb dX1_glance_11 rfl (lv_at hl 2 rfl) ?_
  refine wCVi (pre := XO x0 a b) (Wc := DC cI a f r) (suf := DC cI b f2 r2) (As := [.int (nI x), .int (nI y)]) (rest := []) ⟨hx, hb, hml, hown, hts⟩ (mX0_send l D cI a f r x y n _ (by omega) (by omega) hn hn1) hN hA hK hS hP hD rfl 0 (r := (RX0, TX0, 17)) rfl rfl (cwV 2 hts gX1_glance_X0_send rfl rfl rfl (by decide +kernel) ⟨Nat.le_of_ble_eq_true rfl, Nat.le_of_ble_eq_true rfl⟩) rfl hl.1 rfl (Nat.le_of_ble_eq_true rfl) dX1_glance_12 ⟨Nat.zero_le _, Nat.zero_le _⟩ (fun r_12 u_12 H locs hw hP hD hS => ?_)
  obtain ⟨hw, rfl⟩ := hw
  have hw : r_12 = 2 * dSeats (f 0) (nI x) (nI y) := hw
  subst hw
  have hP : va_P D vwCl (XO x0 a b ++ (DC cI a (dSend f r x y n).1 (dSend f r x y n).2 ++ DC cI b f2 r2)) H := hP
  have hD : va_D A (XO x0 a b ++ (DC cI a (dSend f r x y n).1 (dSend f r x y n).2 ++ DC cI b f2 r2)) := hD
  exact wRi hQ hx hb hr hlocks hP hD hS dX1_glance_15 () (rfl) rfl
abbrev rmX1_pass : Room := { frames := 5, cells := 0, slots := 0, locals := 109 }
set_option maxRecDepth 100000 in
set_option maxHeartbeats 4000000 in
theorem mX1_pass (l : Launch) (D : va_G) (cI : ClassId) (x0 : Nat) (a b : Nat → Nat) (f f2 : Nat → Int32) (r r2 : Nat → Nat → Int32) (gg n : Nat) (L : List Nat) (sz : Nat) (hg : f 0 = nI gg) (hg2 : gg ≤ 10) (hg0 : 0 < gg) (n1 : 1 ≤ n) (n2 : n ≤ 120) (hk : ∀ i, i < n → dOk (dGo (f, r) L i).1.1 (dGo (f, r) L i).1.2 (dGo (f, r) L i).2) (hg9 : (dGo (f, r) L n).1.1 0 = nI gg) : wCt l yX1_pass wsX1_pass rmX1_pass D [(cI, .int)] [.ref x0, .int (nI n)] (XO x0 a b ++ (DC cI a f r ++ DC cI b f2 r2)) sz 0 0 (wQi D (fun v (_ : Unit) => v = dSum ((dGo (f, r) L n).1.2 3) gg + (dGo (f, r) L n).1.1 6 - (dSum (r 3) gg + f 6)) (fun _ : Unit => XO x0 a b ++ (DC cI a (dGo (f, r) L n).1.1 (dGo (f, r) L n).1.2 ++ DC cI b f2 r2))) := by
  refine wMet cX1_pass 3 (some .int) (by decide) rfl (Nat.le_of_ble_eq_true rfl) ?_
  intro p e s m args below meth c A Q ls hQ hx hb hr hml hown hlocks hin hts hN hP hK hD hA hS hl
  have hl : lv_has ls 3 [(0, .ref x0), (1, .int (nI n))] := hl
  have hown : s.vm.findClass RX1 = some m.cls := hown
  have hw1 : ∀ w ∈ wsX10, w.before args s = true := fun w h => hts w (List.mem_cons_of_mem _ (List.mem_append_left _ (List.mem_append_left _ (List.mem_append_right _ h))))
  have k12 := hts (.fieldLink RX1 12 "PauseLedger" "dinner" "LPauseLedger$Dinner;") (by decide +kernel)
  refine lv_iload_n hx hb dX1_pass_0 rfl (lv_at hl 1 rfl) ?_
  refine lv_iconst (v := 1) hx hb dX1_pass_1 (by decide) ?_
  refine lv_bipush (v := 120) hx hb dX1_pass_2 (by decide) ?_
  refine wCSv (pre := ([] : va_W)) (Wc := ([] : va_W)) (suf := XO x0 a b ++ (DC cI a f r ++ DC cI b f2 r2)) (As := [.int (nI n), .int 1, .int 120]) (rest := []) ⟨hx, hb, hml, hown, hts⟩ (mX1_requireWithin l D cI n 1 120 _ n1 n2 (by decide)) hN hA hK hS hP hD rfl (va_cwS 3 hts gX1_pass_X1_requireWithin rfl rfl rfl (by decide +kernel) ⟨Nat.le_of_ble_eq_true rfl, Nat.le_of_ble_eq_true rfl⟩) rfl hl.1 rfl (Nat.le_of_ble_eq_true rfl) dX1_pass_4 ⟨Nat.zero_le _, Nat.zero_le _⟩ (fun u_4 H locs hw hP hD hS => ?_)
  have hP : va_P D vwCl (XO x0 a b ++ (DC cI a f r ++ DC cI b f2 r2)) H := hP
  have hD : va_D A (XO x0 a b ++ (DC cI a f r ++ DC cI b f2 r2)) := hD
  refine lv_aload_n hx hb dX1_pass_7 rfl (lv_at hl 0 rfl) ?_
  refine va_get (D := D) (ci := 1) (v := .ref (a 0)) (C := RX1) (T := TX1) (N := 2) hx hb hw1 (fun _ h => h) hown hK hP 0 rfl rfl 0 (by decide) k12 (fun _ h9 => h9) rfl dX1_pass_8 ?_
  refine wCVi (pre := XO x0 a b) (Wc := DC cI a f r) (suf := DC cI b f2 r2) (As := []) (rest := []) ⟨hx, hb, hml, hown, hts⟩ (mX0_sumUnsaid l D cI a f r gg _ hg hg2) hN hA hK hS hP hD rfl 0 (r := (RX0, TX0, 17)) rfl rfl (cwV 0 hts gX1_pass_X0_sumUnsaid rfl rfl rfl (by decide +kernel) ⟨Nat.le_of_ble_eq_true rfl, Nat.le_of_ble_eq_true rfl⟩) rfl hl.1 rfl (Nat.le_of_ble_eq_true rfl) dX1_pass_11 ⟨Nat.zero_le _, Nat.zero_le _⟩ (fun r_11 u_11 H locs hw hP hD hS => ?_)
  have hw : r_11 = dSum (r 3) gg + f 6 := hw
  subst hw
  have hP : va_P D vwCl (XO x0 a b ++ (DC cI a f r ++ DC cI b f2 r2)) H := hP
  have hD : va_D A (XO x0 a b ++ (DC cI a f r ++ DC cI b f2 r2)) := hD
  refine lv_istore_n (lv' := [(2, .int (dSum (r 3) gg + f 6)), (0, .ref x0), (1, .int (nI n))]) hx hb dX1_pass_14 rfl hl (by decide) rfl (fun ls hl => ?_)
  refine lv_aload_n hx hb dX1_pass_15 rfl (lv_at hl 1 rfl) ?_
  refine va_get (D := D) (ci := 1) (v := .ref (a 0)) (C := RX1) (T := TX1) (N := 2) hx hb hw1 (fun _ h => h) hown hK hP 0 rfl rfl 0 (by decide) k12 (fun _ h9 => h9) rfl dX1_pass_16 ?_
  refine lv_iload_n hx hb dX1_pass_19 rfl (lv_at hl 2 rfl) ?_
  refine wCVv (pre := XO x0 a b) (Wc := DC cI a f r) (suf := DC cI b f2 r2) (As := [.int (nI n)]) (rest := []) ⟨hx, hb, hml, hown, hts⟩ (mX0_goBy l D cI a f r L n _ (by omega) hk) hN hA hK hS hP hD rfl 0 (r := (RX0, TX0, 17)) rfl rfl (cwV 1 hts gX1_pass_X0_goBy rfl rfl rfl (by decide +kernel) ⟨Nat.le_of_ble_eq_true rfl, Nat.le_of_ble_eq_true rfl⟩) rfl hl.1 rfl (Nat.le_of_ble_eq_true rfl) dX1_pass_20 ⟨Nat.zero_le _, Nat.zero_le _⟩ (fun u_20 H locs hw hP hD hS => ?_)
  subst hw
  have hP : va_P D vwCl (XO x0 a b ++ (DC cI a (dGo (f, r) L n).1.1 (dGo (f, r) L n).1.2 ++ DC cI b f2 r2)) H := hP
  have hD : va_D A (XO x0 a b ++ (DC cI a (dGo (f, r) L n).1.1 (dGo (f, r) L n).1.2 ++ DC cI b f2 r2)) := hD
  refine lv_aload_n hx hb dX1_pass_23 rfl (lv_at hl 1 rfl) ?_
  refine va_get (D := D) (ci := 1) (v := .ref (a 0)) (C := RX1) (T := TX1) (N := 2) hx hb hw1 (fun _ h => h) hown hK hP 0 rfl rfl 0 (by decide) k12 (fun _ h9 => h9) rfl dX1_pass_24 ?_
  refine wCVi (pre := XO x0 a b) (Wc := DC cI a (dGo (f, r) L n).1.1 (dGo (f, r) L n).1.2) (suf := DC cI b f2 r2) (As := []) (rest := []) ⟨hx, hb, hml, hown, hts⟩ (mX0_sumUnsaid l D cI a (dGo (f, r) L n).1.1 (dGo (f, r) L n).1.2 gg _ hg9 hg2) hN hA hK hS hP hD rfl 0 (r := (RX0, TX0, 17)) rfl rfl (cwV 0 hts gX1_pass_X0_sumUnsaid rfl rfl rfl (by decide +kernel) ⟨Nat.le_of_ble_eq_true rfl, Nat.le_of_ble_eq_true rfl⟩) rfl hl.1 rfl (Nat.le_of_ble_eq_true rfl) dX1_pass_27 ⟨Nat.zero_le _, Nat.zero_le _⟩ (fun r_27 u_27 H locs hw hP hD hS => ?_)
  have hw : r_27 = dSum ((dGo (f, r) L n).1.2 3) gg + (dGo (f, r) L n).1.1 6 := hw
  subst hw
  have hP : va_P D vwCl (XO x0 a b ++ (DC cI a (dGo (f, r) L n).1.1 (dGo (f, r) L n).1.2 ++ DC cI b f2 r2)) H := hP
  have hD : va_D A (XO x0 a b ++ (DC cI a (dGo (f, r) L n).1.1 (dGo (f, r) L n).1.2 ++ DC cI b f2 r2)) := hD
  refine lv_iload_n hx hb dX1_pass_30 rfl (lv_at hl 0 rfl) ?_
  refine lv_isub hx hb dX1_pass_31 ?_
  exact wRi hQ hx hb hr hlocks hP hD hS dX1_pass_32 () (rfl) rfl
abbrev rmX1_guests : Room := { frames := 0, cells := 0, slots := 0, locals := 0 }
set_option maxRecDepth 100000 in
set_option maxHeartbeats 4000000 in
theorem mX1_guests (l : Launch) (D : va_G) (cI : ClassId) (x0 : Nat) (a b : Nat → Nat) (f f2 : Nat → Int32) (r r2 : Nat → Nat → Int32) (sz : Nat) : wCt l yX1_guests wsX1_guests rmX1_guests D [(cI, .int)] [.ref x0] (XO x0 a b ++ (DC cI a f r ++ DC cI b f2 r2)) sz 0 0 (wQi D (fun v (_ : Unit) => v = f 0) (fun _ : Unit => XO x0 a b ++ (DC cI a f r ++ DC cI b f2 r2))) := by
  refine wMet cX1_guests 1 (some .int) (by decide) rfl (Nat.le_of_ble_eq_true rfl) ?_
  intro p e s m args below meth c A Q ls hQ hx hb hr hml hown hlocks hin hts hN hP hK hD hA hS hl
  have hl : lv_has ls 1 [(0, .ref x0)] := hl
  have hown : s.vm.findClass RX1 = some m.cls := hown
  have hw0 : ∀ w ∈ wsX00, w.before args s = true := fun w h => hts w (List.mem_cons_of_mem _ (List.mem_append_right _ h))
  have hw1 : ∀ w ∈ wsX10, w.before args s = true := fun w h => hts w (List.mem_cons_of_mem _ (List.mem_append_left _ (List.mem_append_right _ h)))
  have k12 := hts (.fieldLink RX1 12 "PauseLedger" "dinner" "LPauseLedger$Dinner;") (by decide +kernel)
  have k58 := hts (.fieldLink RX1 58 "PauseLedger$Dinner" "guests" "I") (by decide +kernel)
  refine lv_aload_n hx hb dX1_guests_0 rfl (lv_at hl 0 rfl) ?_
  refine va_get (D := D) (ci := 1) (v := .ref (a 0)) (C := RX1) (T := TX1) (N := 2) hx hb hw1 (fun _ h => h) hown hK hP 0 rfl rfl 0 (by decide) k12 (fun _ h9 => h9) rfl dX1_guests_1 ?_
  refine va_get (D := D) (ci := 0) (v := .int (f 0)) (C := RX0) (T := TX0) (N := 17) hx hb hw0 (fun _ h => h) hown hK hP 1 rfl rfl 0 (by decide) k58 (fun _ h9 => h9) rfl dX1_guests_4 ?_
  exact wRi hQ hx hb hr hlocks hP hD hS dX1_guests_7 () (rfl) rfl
abbrev rmX1_seconds : Room := { frames := 0, cells := 0, slots := 0, locals := 0 }
set_option maxRecDepth 100000 in
set_option maxHeartbeats 4000000 in
theorem mX1_seconds (l : Launch) (D : va_G) (cI : ClassId) (x0 : Nat) (a b : Nat → Nat) (f f2 : Nat → Int32) (r r2 : Nat → Nat → Int32) (sz : Nat) : wCt l yX1_seconds wsX1_seconds rmX1_seconds D [(cI, .int)] [.ref x0] (XO x0 a b ++ (DC cI a f r ++ DC cI b f2 r2)) sz 0 0 (wQi D (fun v (_ : Unit) => v = f 1) (fun _ : Unit => XO x0 a b ++ (DC cI a f r ++ DC cI b f2 r2))) := by
  refine wMet cX1_seconds 1 (some .int) (by decide) rfl (Nat.le_of_ble_eq_true rfl) ?_
  intro p e s m args below meth c A Q ls hQ hx hb hr hml hown hlocks hin hts hN hP hK hD hA hS hl
  have hl : lv_has ls 1 [(0, .ref x0)] := hl
  have hown : s.vm.findClass RX1 = some m.cls := hown
  have hw0 : ∀ w ∈ wsX00, w.before args s = true := fun w h => hts w (List.mem_cons_of_mem _ (List.mem_append_right _ h))
  have hw1 : ∀ w ∈ wsX10, w.before args s = true := fun w h => hts w (List.mem_cons_of_mem _ (List.mem_append_left _ (List.mem_append_right _ h)))
  have k12 := hts (.fieldLink RX1 12 "PauseLedger" "dinner" "LPauseLedger$Dinner;") (by decide +kernel)
  have k61 := hts (.fieldLink RX1 61 "PauseLedger$Dinner" "seconds" "I") (by decide +kernel)
  refine lv_aload_n hx hb dX1_seconds_0 rfl (lv_at hl 0 rfl) ?_
  refine va_get (D := D) (ci := 1) (v := .ref (a 0)) (C := RX1) (T := TX1) (N := 2) hx hb hw1 (fun _ h => h) hown hK hP 0 rfl rfl 0 (by decide) k12 (fun _ h9 => h9) rfl dX1_seconds_1 ?_
  refine va_get (D := D) (ci := 0) (v := .int (f 1)) (C := RX0) (T := TX0) (N := 17) hx hb hw0 (fun _ h => h) hown hK hP 1 rfl rfl 1 (by decide) k61 (fun _ h9 => h9) rfl dX1_seconds_4 ?_
  exact wRi hQ hx hb hr hlocks hP hD hS dX1_seconds_7 () (rfl) rfl
abbrev rmX1_limit : Room := { frames := 0, cells := 0, slots := 0, locals := 0 }
set_option maxRecDepth 100000 in
set_option maxHeartbeats 4000000 in
theorem mX1_limit (l : Launch) (D : va_G) (cI : ClassId) (x0 : Nat) (a b : Nat → Nat) (f f2 : Nat → Int32) (r r2 : Nat → Nat → Int32) (sz : Nat) : wCt l yX1_limit wsX1_limit rmX1_limit D [(cI, .int)] [.ref x0] (XO x0 a b ++ (DC cI a f r ++ DC cI b f2 r2)) sz 0 0 (wQi D (fun v (_ : Unit) => v = f 2) (fun _ : Unit => XO x0 a b ++ (DC cI a f r ++ DC cI b f2 r2))) := by
  refine wMet cX1_limit 1 (some .int) (by decide) rfl (Nat.le_of_ble_eq_true rfl) ?_
  intro p e s m args below meth c A Q ls hQ hx hb hr hml hown hlocks hin hts hN hP hK hD hA hS hl
  have hl : lv_has ls 1 [(0, .ref x0)] := hl
  have hown : s.vm.findClass RX1 = some m.cls := hown
  have hw0 : ∀ w ∈ wsX00, w.before args s = true := fun w h => hts w (List.mem_cons_of_mem _ (List.mem_append_right _ h))
  have hw1 : ∀ w ∈ wsX10, w.before args s = true := fun w h => hts w (List.mem_cons_of_mem _ (List.mem_append_left _ (List.mem_append_right _ h)))
  have k12 := hts (.fieldLink RX1 12 "PauseLedger" "dinner" "LPauseLedger$Dinner;") (by decide +kernel)
  have k31 := hts (.fieldLink RX1 31 "PauseLedger$Dinner" "limit" "I") (by decide +kernel)
  refine lv_aload_n hx hb dX1_limit_0 rfl (lv_at hl 0 rfl) ?_
  refine va_get (D := D) (ci := 1) (v := .ref (a 0)) (C := RX1) (T := TX1) (N := 2) hx hb hw1 (fun _ h => h) hown hK hP 0 rfl rfl 0 (by decide) k12 (fun _ h9 => h9) rfl dX1_limit_1 ?_
  refine va_get (D := D) (ci := 0) (v := .int (f 2)) (C := RX0) (T := TX0) (N := 17) hx hb hw0 (fun _ h => h) hown hK hP 1 rfl rfl 2 (by decide) k31 (fun _ h9 => h9) rfl dX1_limit_4 ?_
  exact wRi hQ hx hb hr hlocks hP hD hS dX1_limit_7 () (rfl) rfl
abbrev rmX1_speaker : Room := { frames := 0, cells := 0, slots := 0, locals := 0 }
set_option maxRecDepth 100000 in
set_option maxHeartbeats 4000000 in
theorem mX1_speaker (l : Launch) (D : va_G) (cI : ClassId) (x0 : Nat) (a b : Nat → Nat) (f f2 : Nat → Int32) (r r2 : Nat → Nat → Int32) (sz : Nat) : wCt l yX1_speaker wsX1_speaker rmX1_speaker D [(cI, .int)] [.ref x0] (XO x0 a b ++ (DC cI a f r ++ DC cI b f2 r2)) sz 0 0 (wQi D (fun v (_ : Unit) => v = f 3) (fun _ : Unit => XO x0 a b ++ (DC cI a f r ++ DC cI b f2 r2))) := by
  refine wMet cX1_speaker 1 (some .int) (by decide) rfl (Nat.le_of_ble_eq_true rfl) ?_
  intro p e s m args below meth c A Q ls hQ hx hb hr hml hown hlocks hin hts hN hP hK hD hA hS hl
  have hl : lv_has ls 1 [(0, .ref x0)] := hl
  have hown : s.vm.findClass RX1 = some m.cls := hown
  have hw0 : ∀ w ∈ wsX00, w.before args s = true := fun w h => hts w (List.mem_cons_of_mem _ (List.mem_append_right _ h))
  have hw1 : ∀ w ∈ wsX10, w.before args s = true := fun w h => hts w (List.mem_cons_of_mem _ (List.mem_append_left _ (List.mem_append_right _ h)))
  have k12 := hts (.fieldLink RX1 12 "PauseLedger" "dinner" "LPauseLedger$Dinner;") (by decide +kernel)
  have k67 := hts (.fieldLink RX1 67 "PauseLedger$Dinner" "speaker" "I") (by decide +kernel)
  refine lv_aload_n hx hb dX1_speaker_0 rfl (lv_at hl 0 rfl) ?_
  refine va_get (D := D) (ci := 1) (v := .ref (a 0)) (C := RX1) (T := TX1) (N := 2) hx hb hw1 (fun _ h => h) hown hK hP 0 rfl rfl 0 (by decide) k12 (fun _ h9 => h9) rfl dX1_speaker_1 ?_
  refine va_get (D := D) (ci := 0) (v := .int (f 3)) (C := RX0) (T := TX0) (N := 17) hx hb hw0 (fun _ h => h) hown hK hP 1 rfl rfl 3 (by decide) k67 (fun _ h9 => h9) rfl dX1_speaker_4 ?_
  exact wRi hQ hx hb hr hlocks hP hD hS dX1_speaker_7 () (rfl) rfl
abbrev rmX1_secondsToSpeak : Room := { frames := 0, cells := 0, slots := 0, locals := 0 }
set_option maxRecDepth 100000 in
set_option maxHeartbeats 4000000 in
theorem mX1_secondsToSpeak (l : Launch) (D : va_G) (cI : ClassId) (x0 : Nat) (a b : Nat → Nat) (f f2 : Nat → Int32) (r r2 : Nat → Nat → Int32) (sz : Nat) : wCt l yX1_secondsToSpeak wsX1_secondsToSpeak rmX1_secondsToSpeak D [(cI, .int)] [.ref x0] (XO x0 a b ++ (DC cI a f r ++ DC cI b f2 r2)) sz 0 0 (wQi D (fun v (_ : Unit) => v = f 4) (fun _ : Unit => XO x0 a b ++ (DC cI a f r ++ DC cI b f2 r2))) := by
  refine wMet cX1_secondsToSpeak 1 (some .int) (by decide) rfl (Nat.le_of_ble_eq_true rfl) ?_
  intro p e s m args below meth c A Q ls hQ hx hb hr hml hown hlocks hin hts hN hP hK hD hA hS hl
  have hl : lv_has ls 1 [(0, .ref x0)] := hl
  have hown : s.vm.findClass RX1 = some m.cls := hown
  have hw0 : ∀ w ∈ wsX00, w.before args s = true := fun w h => hts w (List.mem_cons_of_mem _ (List.mem_append_right _ h))
  have hw1 : ∀ w ∈ wsX10, w.before args s = true := fun w h => hts w (List.mem_cons_of_mem _ (List.mem_append_left _ (List.mem_append_right _ h)))
  have k12 := hts (.fieldLink RX1 12 "PauseLedger" "dinner" "LPauseLedger$Dinner;") (by decide +kernel)
  have k70 := hts (.fieldLink RX1 70 "PauseLedger$Dinner" "toSpeak" "I") (by decide +kernel)
  refine lv_aload_n hx hb dX1_secondsToSpeak_0 rfl (lv_at hl 0 rfl) ?_
  refine va_get (D := D) (ci := 1) (v := .ref (a 0)) (C := RX1) (T := TX1) (N := 2) hx hb hw1 (fun _ h => h) hown hK hP 0 rfl rfl 0 (by decide) k12 (fun _ h9 => h9) rfl dX1_secondsToSpeak_1 ?_
  refine va_get (D := D) (ci := 0) (v := .int (f 4)) (C := RX0) (T := TX0) (N := 17) hx hb hw0 (fun _ h => h) hown hK hP 1 rfl rfl 4 (by decide) k70 (fun _ h9 => h9) rfl dX1_secondsToSpeak_4 ?_
  exact wRi hQ hx hb hr hlocks hP hD hS dX1_secondsToSpeak_7 () (rfl) rfl
abbrev rmX1_pause : Room := { frames := 0, cells := 0, slots := 0, locals := 0 }
set_option maxRecDepth 100000 in
set_option maxHeartbeats 4000000 in
theorem mX1_pause (l : Launch) (D : va_G) (cI : ClassId) (x0 : Nat) (a b : Nat → Nat) (f f2 : Nat → Int32) (r r2 : Nat → Nat → Int32) (sz : Nat) : wCt l yX1_pause wsX1_pause rmX1_pause D [(cI, .int)] [.ref x0] (XO x0 a b ++ (DC cI a f r ++ DC cI b f2 r2)) sz 0 0 (wQi D (fun v (_ : Unit) => v = f 5) (fun _ : Unit => XO x0 a b ++ (DC cI a f r ++ DC cI b f2 r2))) := by
  refine wMet cX1_pause 1 (some .int) (by decide) rfl (Nat.le_of_ble_eq_true rfl) ?_
  intro p e s m args below meth c A Q ls hQ hx hb hr hml hown hlocks hin hts hN hP hK hD hA hS hl
  have hl : lv_has ls 1 [(0, .ref x0)] := hl
  have hown : s.vm.findClass RX1 = some m.cls := hown
  have hw0 : ∀ w ∈ wsX00, w.before args s = true := fun w h => hts w (List.mem_cons_of_mem _ (List.mem_append_right _ h))
  have hw1 : ∀ w ∈ wsX10, w.before args s = true := fun w h => hts w (List.mem_cons_of_mem _ (List.mem_append_left _ (List.mem_append_right _ h)))
  have k12 := hts (.fieldLink RX1 12 "PauseLedger" "dinner" "LPauseLedger$Dinner;") (by decide +kernel)
  have k73 := hts (.fieldLink RX1 73 "PauseLedger$Dinner" "pause" "I") (by decide +kernel)
  refine lv_aload_n hx hb dX1_pause_0 rfl (lv_at hl 0 rfl) ?_
  refine va_get (D := D) (ci := 1) (v := .ref (a 0)) (C := RX1) (T := TX1) (N := 2) hx hb hw1 (fun _ h => h) hown hK hP 0 rfl rfl 0 (by decide) k12 (fun _ h9 => h9) rfl dX1_pause_1 ?_
  refine va_get (D := D) (ci := 0) (v := .int (f 5)) (C := RX0) (T := TX0) (N := 17) hx hb hw0 (fun _ h => h) hown hK hP 1 rfl rfl 5 (by decide) k73 (fun _ h9 => h9) rfl dX1_pause_4 ?_
  exact wRi hQ hx hb hr hlocks hP hD hS dX1_pause_7 () (rfl) rfl
abbrev rmX1_unsaidInPauses : Room := { frames := 0, cells := 0, slots := 0, locals := 0 }
set_option maxRecDepth 100000 in
set_option maxHeartbeats 4000000 in
theorem mX1_unsaidInPauses (l : Launch) (D : va_G) (cI : ClassId) (x0 : Nat) (a b : Nat → Nat) (f f2 : Nat → Int32) (r r2 : Nat → Nat → Int32) (sz : Nat) : wCt l yX1_unsaidInPauses wsX1_unsaidInPauses rmX1_unsaidInPauses D [(cI, .int)] [.ref x0] (XO x0 a b ++ (DC cI a f r ++ DC cI b f2 r2)) sz 0 0 (wQi D (fun v (_ : Unit) => v = f 6) (fun _ : Unit => XO x0 a b ++ (DC cI a f r ++ DC cI b f2 r2))) := by
  refine wMet cX1_unsaidInPauses 1 (some .int) (by decide) rfl (Nat.le_of_ble_eq_true rfl) ?_
  intro p e s m args below meth c A Q ls hQ hx hb hr hml hown hlocks hin hts hN hP hK hD hA hS hl
  have hl : lv_has ls 1 [(0, .ref x0)] := hl
  have hown : s.vm.findClass RX1 = some m.cls := hown
  have hw0 : ∀ w ∈ wsX00, w.before args s = true := fun w h => hts w (List.mem_cons_of_mem _ (List.mem_append_right _ h))
  have hw1 : ∀ w ∈ wsX10, w.before args s = true := fun w h => hts w (List.mem_cons_of_mem _ (List.mem_append_left _ (List.mem_append_right _ h)))
  have k12 := hts (.fieldLink RX1 12 "PauseLedger" "dinner" "LPauseLedger$Dinner;") (by decide +kernel)
  have k103 := hts (.fieldLink RX1 103 "PauseLedger$Dinner" "unsaidInPauses" "I") (by decide +kernel)
  refine lv_aload_n hx hb dX1_unsaidInPauses_0 rfl (lv_at hl 0 rfl) ?_
  refine va_get (D := D) (ci := 1) (v := .ref (a 0)) (C := RX1) (T := TX1) (N := 2) hx hb hw1 (fun _ h => h) hown hK hP 0 rfl rfl 0 (by decide) k12 (fun _ h9 => h9) rfl dX1_unsaidInPauses_1 ?_
  refine va_get (D := D) (ci := 0) (v := .int (f 6)) (C := RX0) (T := TX0) (N := 17) hx hb hw0 (fun _ h => h) hown hK hP 1 rfl rfl 6 (by decide) k103 (fun _ h9 => h9) rfl dX1_unsaidInPauses_4 ?_
  exact wRi hQ hx hb hr hlocks hP hD hS dX1_unsaidInPauses_7 () (rfl) rfl
abbrev rmX1_meetings : Room := { frames := 0, cells := 0, slots := 0, locals := 0 }
set_option maxRecDepth 100000 in
set_option maxHeartbeats 4000000 in
theorem mX1_meetings (l : Launch) (D : va_G) (cI : ClassId) (x0 : Nat) (a b : Nat → Nat) (f f2 : Nat → Int32) (r r2 : Nat → Nat → Int32) (sz : Nat) : wCt l yX1_meetings wsX1_meetings rmX1_meetings D [(cI, .int)] [.ref x0] (XO x0 a b ++ (DC cI a f r ++ DC cI b f2 r2)) sz 0 0 (wQi D (fun v (_ : Unit) => v = f 7) (fun _ : Unit => XO x0 a b ++ (DC cI a f r ++ DC cI b f2 r2))) := by
  refine wMet cX1_meetings 1 (some .int) (by decide) rfl (Nat.le_of_ble_eq_true rfl) ?_
  intro p e s m args below meth c A Q ls hQ hx hb hr hml hown hlocks hin hts hN hP hK hD hA hS hl
  have hl : lv_has ls 1 [(0, .ref x0)] := hl
  have hown : s.vm.findClass RX1 = some m.cls := hown
  have hw0 : ∀ w ∈ wsX00, w.before args s = true := fun w h => hts w (List.mem_cons_of_mem _ (List.mem_append_right _ h))
  have hw1 : ∀ w ∈ wsX10, w.before args s = true := fun w h => hts w (List.mem_cons_of_mem _ (List.mem_append_left _ (List.mem_append_right _ h)))
  have k12 := hts (.fieldLink RX1 12 "PauseLedger" "dinner" "LPauseLedger$Dinner;") (by decide +kernel)
  have k109 := hts (.fieldLink RX1 109 "PauseLedger$Dinner" "meetings" "I") (by decide +kernel)
  refine lv_aload_n hx hb dX1_meetings_0 rfl (lv_at hl 0 rfl) ?_
  refine va_get (D := D) (ci := 1) (v := .ref (a 0)) (C := RX1) (T := TX1) (N := 2) hx hb hw1 (fun _ h => h) hown hK hP 0 rfl rfl 0 (by decide) k12 (fun _ h9 => h9) rfl dX1_meetings_1 ?_
  refine va_get (D := D) (ci := 0) (v := .int (f 7)) (C := RX0) (T := TX0) (N := 17) hx hb hw0 (fun _ h => h) hown hK hP 1 rfl rfl 7 (by decide) k109 (fun _ h9 => h9) rfl dX1_meetings_4 ?_
  exact wRi hQ hx hb hr hlocks hP hD hS dX1_meetings_7 () (rfl) rfl
abbrev rmX1_lostGlances : Room := { frames := 0, cells := 0, slots := 0, locals := 0 }
set_option maxRecDepth 100000 in
set_option maxHeartbeats 4000000 in
theorem mX1_lostGlances (l : Launch) (D : va_G) (cI : ClassId) (x0 : Nat) (a b : Nat → Nat) (f f2 : Nat → Int32) (r r2 : Nat → Nat → Int32) (sz : Nat) : wCt l yX1_lostGlances wsX1_lostGlances rmX1_lostGlances D [(cI, .int)] [.ref x0] (XO x0 a b ++ (DC cI a f r ++ DC cI b f2 r2)) sz 0 0 (wQi D (fun v (_ : Unit) => v = f 8) (fun _ : Unit => XO x0 a b ++ (DC cI a f r ++ DC cI b f2 r2))) := by
  refine wMet cX1_lostGlances 1 (some .int) (by decide) rfl (Nat.le_of_ble_eq_true rfl) ?_
  intro p e s m args below meth c A Q ls hQ hx hb hr hml hown hlocks hin hts hN hP hK hD hA hS hl
  have hl : lv_has ls 1 [(0, .ref x0)] := hl
  have hown : s.vm.findClass RX1 = some m.cls := hown
  have hw0 : ∀ w ∈ wsX00, w.before args s = true := fun w h => hts w (List.mem_cons_of_mem _ (List.mem_append_right _ h))
  have hw1 : ∀ w ∈ wsX10, w.before args s = true := fun w h => hts w (List.mem_cons_of_mem _ (List.mem_append_left _ (List.mem_append_right _ h)))
  have k12 := hts (.fieldLink RX1 12 "PauseLedger" "dinner" "LPauseLedger$Dinner;") (by decide +kernel)
  have k112 := hts (.fieldLink RX1 112 "PauseLedger$Dinner" "lost" "I") (by decide +kernel)
  refine lv_aload_n hx hb dX1_lostGlances_0 rfl (lv_at hl 0 rfl) ?_
  refine va_get (D := D) (ci := 1) (v := .ref (a 0)) (C := RX1) (T := TX1) (N := 2) hx hb hw1 (fun _ h => h) hown hK hP 0 rfl rfl 0 (by decide) k12 (fun _ h9 => h9) rfl dX1_lostGlances_1 ?_
  refine va_get (D := D) (ci := 0) (v := .int (f 8)) (C := RX0) (T := TX0) (N := 17) hx hb hw0 (fun _ h => h) hown hK hP 1 rfl rfl 8 (by decide) k112 (fun _ h9 => h9) rfl dX1_lostGlances_4 ?_
  exact wRi hQ hx hb hr hlocks hP hD hS dX1_lostGlances_7 () (rfl) rfl
abbrev rmX1_glancesUnderWay : Room := { frames := 0, cells := 0, slots := 0, locals := 0 }
set_option maxRecDepth 100000 in
set_option maxHeartbeats 4000000 in
theorem mX1_glancesUnderWay (l : Launch) (D : va_G) (cI : ClassId) (x0 : Nat) (a b : Nat → Nat) (f f2 : Nat → Int32) (r r2 : Nat → Nat → Int32) (sz : Nat) : wCt l yX1_glancesUnderWay wsX1_glancesUnderWay rmX1_glancesUnderWay D [(cI, .int)] [.ref x0] (XO x0 a b ++ (DC cI a f r ++ DC cI b f2 r2)) sz 0 0 (wQi D (fun v (_ : Unit) => v = f 9) (fun _ : Unit => XO x0 a b ++ (DC cI a f r ++ DC cI b f2 r2))) := by
  refine wMet cX1_glancesUnderWay 1 (some .int) (by decide) rfl (Nat.le_of_ble_eq_true rfl) ?_
  intro p e s m args below meth c A Q ls hQ hx hb hr hml hown hlocks hin hts hN hP hK hD hA hS hl
  have hl : lv_has ls 1 [(0, .ref x0)] := hl
  have hown : s.vm.findClass RX1 = some m.cls := hown
  have hw0 : ∀ w ∈ wsX00, w.before args s = true := fun w h => hts w (List.mem_cons_of_mem _ (List.mem_append_right _ h))
  have hw1 : ∀ w ∈ wsX10, w.before args s = true := fun w h => hts w (List.mem_cons_of_mem _ (List.mem_append_left _ (List.mem_append_right _ h)))
  have k12 := hts (.fieldLink RX1 12 "PauseLedger" "dinner" "LPauseLedger$Dinner;") (by decide +kernel)
  have k106 := hts (.fieldLink RX1 106 "PauseLedger$Dinner" "sent" "I") (by decide +kernel)
  refine lv_aload_n hx hb dX1_glancesUnderWay_0 rfl (lv_at hl 0 rfl) ?_
  refine va_get (D := D) (ci := 1) (v := .ref (a 0)) (C := RX1) (T := TX1) (N := 2) hx hb hw1 (fun _ h => h) hown hK hP 0 rfl rfl 0 (by decide) k12 (fun _ h9 => h9) rfl dX1_glancesUnderWay_1 ?_
  refine va_get (D := D) (ci := 0) (v := .int (f 9)) (C := RX0) (T := TX0) (N := 17) hx hb hw0 (fun _ h => h) hown hK hP 1 rfl rfl 9 (by decide) k106 (fun _ h9 => h9) rfl dX1_glancesUnderWay_4 ?_
  exact wRi hQ hx hb hr hlocks hP hD hS dX1_glancesUnderWay_7 () (rfl) rfl
abbrev rmX1_allUnsaid : Room := { frames := 2, cells := 0, slots := 0, locals := 42 }
set_option maxRecDepth 100000 in
set_option maxHeartbeats 4000000 in
theorem mX1_allUnsaid (l : Launch) (D : va_G) (cI : ClassId) (x0 : Nat) (a b : Nat → Nat) (f f2 : Nat → Int32) (r r2 : Nat → Nat → Int32) (gg : Nat) (sz : Nat) (hg : f 0 = nI gg) (hg2 : gg ≤ 10) (hg0 : 0 < gg) : wCt l yX1_allUnsaid wsX1_allUnsaid rmX1_allUnsaid D [(cI, .int)] [.ref x0] (XO x0 a b ++ (DC cI a f r ++ DC cI b f2 r2)) sz 0 0 (wQi D (fun v (_ : Unit) => v = dSum (r 3) gg + f 6) (fun _ : Unit => XO x0 a b ++ (DC cI a f r ++ DC cI b f2 r2))) := by
  refine wMet cX1_allUnsaid 1 (some .int) (by decide) rfl (Nat.le_of_ble_eq_true rfl) ?_
  intro p e s m args below meth c A Q ls hQ hx hb hr hml hown hlocks hin hts hN hP hK hD hA hS hl
  have hl : lv_has ls 1 [(0, .ref x0)] := hl
  have hown : s.vm.findClass RX1 = some m.cls := hown
  have hw1 : ∀ w ∈ wsX10, w.before args s = true := fun w h => hts w (List.mem_cons_of_mem _ (List.mem_append_left _ (List.mem_append_right _ h)))
  have k12 := hts (.fieldLink RX1 12 "PauseLedger" "dinner" "LPauseLedger$Dinner;") (by decide +kernel)
  refine lv_aload_n hx hb dX1_allUnsaid_0 rfl (lv_at hl 0 rfl) ?_
  refine va_get (D := D) (ci := 1) (v := .ref (a 0)) (C := RX1) (T := TX1) (N := 2) hx hb hw1 (fun _ h => h) hown hK hP 0 rfl rfl 0 (by decide) k12 (fun _ h9 => h9) rfl dX1_allUnsaid_1 ?_
  refine wCVi (pre := XO x0 a b) (Wc := DC cI a f r) (suf := DC cI b f2 r2) (As := []) (rest := []) ⟨hx, hb, hml, hown, hts⟩ (mX0_sumUnsaid l D cI a f r gg _ hg hg2) hN hA hK hS hP hD rfl 0 (r := (RX0, TX0, 17)) rfl rfl (cwV 0 hts gX1_allUnsaid_X0_sumUnsaid rfl rfl rfl (by decide +kernel) ⟨Nat.le_of_ble_eq_true rfl, Nat.le_of_ble_eq_true rfl⟩) rfl hl.1 rfl (Nat.le_of_ble_eq_true rfl) dX1_allUnsaid_4 ⟨Nat.zero_le _, Nat.zero_le _⟩ (fun r_4 u_4 H locs hw hP hD hS => ?_)
  have hw : r_4 = dSum (r 3) gg + f 6 := hw
  subst hw
  have hP : va_P D vwCl (XO x0 a b ++ (DC cI a f r ++ DC cI b f2 r2)) H := hP
  have hD : va_D A (XO x0 a b ++ (DC cI a f r ++ DC cI b f2 r2)) := hD
  exact wRi hQ hx hb hr hlocks hP hD hS dX1_allUnsaid_7 () (rfl) rfl
abbrev rmX1_rating : Room := { frames := 3, cells := 0, slots := 0, locals := 63 }
set_option maxRecDepth 100000 in
set_option maxHeartbeats 4000000 in
theorem mX1_rating (l : Launch) (D : va_G) (cI : ClassId) (x0 : Nat) (a b : Nat → Nat) (f f2 : Nat → Int32) (r r2 : Nat → Nat → Int32) (gg : Nat) (sz : Nat) (hg : f 0 = nI gg) (hg2 : gg ≤ 10) (hg0 : 0 < gg) : wCt l yX1_rating wsX1_rating rmX1_rating D [(cI, .int)] [.ref x0] (XO x0 a b ++ (DC cI a f r ++ DC cI b f2 r2)) sz 0 0 (wQi D (fun v (_ : Unit) => v = dRate (f 0) (f 6) (r 3) gg) (fun _ : Unit => XO x0 a b ++ (DC cI a f r ++ DC cI b f2 r2))) := by
  refine wMet cX1_rating 1 (some .int) (by decide) rfl (Nat.le_of_ble_eq_true rfl) ?_
  intro p e s m args below meth c A Q ls hQ hx hb hr hml hown hlocks hin hts hN hP hK hD hA hS hl
  have hl : lv_has ls 1 [(0, .ref x0)] := hl
  have hown : s.vm.findClass RX1 = some m.cls := hown
  have hw1 : ∀ w ∈ wsX10, w.before args s = true := fun w h => hts w (List.mem_cons_of_mem _ (List.mem_append_left _ (List.mem_append_right _ h)))
  have k12 := hts (.fieldLink RX1 12 "PauseLedger" "dinner" "LPauseLedger$Dinner;") (by decide +kernel)
  refine lv_aload_n hx hb dX1_rating_0 rfl (lv_at hl 0 rfl) ?_
  refine va_get (D := D) (ci := 1) (v := .ref (a 0)) (C := RX1) (T := TX1) (N := 2) hx hb hw1 (fun _ h => h) hown hK hP 0 rfl rfl 0 (by decide) k12 (fun _ h9 => h9) rfl dX1_rating_1 ?_
  refine wCVi (pre := XO x0 a b) (Wc := DC cI a f r) (suf := DC cI b f2 r2) (As := []) (rest := []) ⟨hx, hb, hml, hown, hts⟩ (mX0_rate l D cI a f r gg _ hg hg2 hg0) hN hA hK hS hP hD rfl 0 (r := (RX0, TX0, 17)) rfl rfl (cwV 0 hts gX1_rating_X0_rate rfl rfl rfl (by decide +kernel) ⟨Nat.le_of_ble_eq_true rfl, Nat.le_of_ble_eq_true rfl⟩) rfl hl.1 rfl (Nat.le_of_ble_eq_true rfl) dX1_rating_4 ⟨Nat.zero_le _, Nat.zero_le _⟩ (fun r_4 u_4 H locs hw hP hD hS => ?_)
  have hw : r_4 = dRate (f 0) (f 6) (r 3) gg := hw
  subst hw
  have hP : va_P D vwCl (XO x0 a b ++ (DC cI a f r ++ DC cI b f2 r2)) H := hP
  have hD : va_D A (XO x0 a b ++ (DC cI a f r ++ DC cI b f2 r2)) := hD
  exact wRi hQ hx hb hr hlocks hP hD hS dX1_rating_7 () (rfl) rfl
abbrev rmX1_spokenBy : Room := { frames := 1, cells := 0, slots := 0, locals := 21 }
set_option maxRecDepth 100000 in
set_option maxHeartbeats 4000000 in
theorem mX1_spokenBy (l : Launch) (D : va_G) (cI : ClassId) (x0 : Nat) (a b : Nat → Nat) (f f2 : Nat → Int32) (r r2 : Nat → Nat → Int32) (gg x : Nat) (sz : Nat) (hg : f 0 = nI gg) (hg2 : gg ≤ 10) (hg0 : 0 < gg) (ux : x < gg) : wCt l yX1_spokenBy wsX1_spokenBy rmX1_spokenBy D [(cI, .int)] [.ref x0, .int (nI x)] (XO x0 a b ++ (DC cI a f r ++ DC cI b f2 r2)) sz 0 0 (wQi D (fun v (_ : Unit) => v = r 0 x) (fun _ : Unit => XO x0 a b ++ (DC cI a f r ++ DC cI b f2 r2))) := by
  refine wMet cX1_spokenBy 2 (some .int) (by decide) rfl (Nat.le_of_ble_eq_true rfl) ?_
  intro p e s m args below meth c A Q ls hQ hx hb hr hml hown hlocks hin hts hN hP hK hD hA hS hl
  have hl : lv_has ls 2 [(0, .ref x0), (1, .int (nI x))] := hl
  have hown : s.vm.findClass RX1 = some m.cls := hown
  have hw0 : ∀ w ∈ wsX00, w.before args s = true := fun w h => hts w (List.mem_cons_of_mem _ (List.mem_append_left _ (List.mem_append_right _ h)))
  have hw1 : ∀ w ∈ wsX10, w.before args s = true := fun w h => hts w (List.mem_cons_of_mem _ (List.mem_append_left _ (List.mem_append_left _ (List.mem_append_right _ h))))
  have k12 := hts (.fieldLink RX1 12 "PauseLedger" "dinner" "LPauseLedger$Dinner;") (by decide +kernel)
  have k76 := hts (.fieldLink RX1 76 "PauseLedger$Dinner" "spoken" "[I") (by decide +kernel)
  refine lv_aload_n hx hb dX1_spokenBy_0 rfl (lv_at hl 0 rfl) ?_
  refine lv_iload_n hx hb dX1_spokenBy_1 rfl (lv_at hl 1 rfl) ?_
  refine wCVv (pre := ([] : va_W)) (Wc := XO x0 a b ++ (DC cI a f r ++ DC cI b f2 r2)) (suf := ([] : va_W)) (As := [.int (nI x)]) (rest := []) ⟨hx, hb, hml, hown, hts⟩ (mX1_requireGuest l D cI x0 a b f f2 r r2 gg x _ hg hg2 hg0 ux) hN hA hK hS hP hD rfl 0 (r := (RX1, TX1, 2)) rfl rfl (cwV 1 hts gX1_spokenBy_X1_requireGuest rfl rfl rfl (by decide +kernel) ⟨Nat.le_of_ble_eq_true rfl, Nat.le_of_ble_eq_true rfl⟩) rfl hl.1 rfl (Nat.le_of_ble_eq_true rfl) dX1_spokenBy_2 ⟨Nat.zero_le _, Nat.zero_le _⟩ (fun u_2 H locs hw hP hD hS => ?_)
  have hP : va_P D vwCl (XO x0 a b ++ (DC cI a f r ++ DC cI b f2 r2)) H := hP
  have hD : va_D A (XO x0 a b ++ (DC cI a f r ++ DC cI b f2 r2)) := hD
  refine lv_aload_n hx hb dX1_spokenBy_5 rfl (lv_at hl 0 rfl) ?_
  refine va_get (D := D) (ci := 1) (v := .ref (a 0)) (C := RX1) (T := TX1) (N := 2) hx hb hw1 (fun _ h => h) hown hK hP 0 rfl rfl 0 (by decide) k12 (fun _ h9 => h9) rfl dX1_spokenBy_6 ?_
  refine va_get (D := D) (ci := 0) (v := .ref (a 1)) (C := RX0) (T := TX0) (N := 17) hx hb hw0 (fun _ h => h) hown hK hP 1 rfl rfl 10 (by decide) k76 (fun _ h9 => h9) rfl dX1_spokenBy_9 ?_
  refine lv_iload_n hx hb dX1_spokenBy_12 rfl (lv_at hl 1 rfl) ?_
  refine wIald hx hb hK hP 2 0 rfl rfl x rfl (by omega) (by decide) dX1_spokenBy_13 ?_
  exact wRi hQ hx hb hr hlocks hP hD hS dX1_spokenBy_14 () (rfl) rfl
abbrev rmX1_interruptionsBy : Room := { frames := 1, cells := 0, slots := 0, locals := 21 }
set_option maxRecDepth 100000 in
set_option maxHeartbeats 4000000 in
theorem mX1_interruptionsBy (l : Launch) (D : va_G) (cI : ClassId) (x0 : Nat) (a b : Nat → Nat) (f f2 : Nat → Int32) (r r2 : Nat → Nat → Int32) (gg x : Nat) (sz : Nat) (hg : f 0 = nI gg) (hg2 : gg ≤ 10) (hg0 : 0 < gg) (ux : x < gg) : wCt l yX1_interruptionsBy wsX1_interruptionsBy rmX1_interruptionsBy D [(cI, .int)] [.ref x0, .int (nI x)] (XO x0 a b ++ (DC cI a f r ++ DC cI b f2 r2)) sz 0 0 (wQi D (fun v (_ : Unit) => v = r 1 x) (fun _ : Unit => XO x0 a b ++ (DC cI a f r ++ DC cI b f2 r2))) := by
  refine wMet cX1_interruptionsBy 2 (some .int) (by decide) rfl (Nat.le_of_ble_eq_true rfl) ?_
  intro p e s m args below meth c A Q ls hQ hx hb hr hml hown hlocks hin hts hN hP hK hD hA hS hl
  have hl : lv_has ls 2 [(0, .ref x0), (1, .int (nI x))] := hl
  have hown : s.vm.findClass RX1 = some m.cls := hown
  have hw0 : ∀ w ∈ wsX00, w.before args s = true := fun w h => hts w (List.mem_cons_of_mem _ (List.mem_append_left _ (List.mem_append_right _ h)))
  have hw1 : ∀ w ∈ wsX10, w.before args s = true := fun w h => hts w (List.mem_cons_of_mem _ (List.mem_append_left _ (List.mem_append_left _ (List.mem_append_right _ h))))
  have k12 := hts (.fieldLink RX1 12 "PauseLedger" "dinner" "LPauseLedger$Dinner;") (by decide +kernel)
  have k80 := hts (.fieldLink RX1 80 "PauseLedger$Dinner" "interruptions" "[I") (by decide +kernel)
  refine lv_aload_n hx hb dX1_interruptionsBy_0 rfl (lv_at hl 0 rfl) ?_
  refine lv_iload_n hx hb dX1_interruptionsBy_1 rfl (lv_at hl 1 rfl) ?_
  refine wCVv (pre := ([] : va_W)) (Wc := XO x0 a b ++ (DC cI a f r ++ DC cI b f2 r2)) (suf := ([] : va_W)) (As := [.int (nI x)]) (rest := []) ⟨hx, hb, hml, hown, hts⟩ (mX1_requireGuest l D cI x0 a b f f2 r r2 gg x _ hg hg2 hg0 ux) hN hA hK hS hP hD rfl 0 (r := (RX1, TX1, 2)) rfl rfl (cwV 1 hts gX1_interruptionsBy_X1_requireGuest rfl rfl rfl (by decide +kernel) ⟨Nat.le_of_ble_eq_true rfl, Nat.le_of_ble_eq_true rfl⟩) rfl hl.1 rfl (Nat.le_of_ble_eq_true rfl) dX1_interruptionsBy_2 ⟨Nat.zero_le _, Nat.zero_le _⟩ (fun u_2 H locs hw hP hD hS => ?_)
  have hP : va_P D vwCl (XO x0 a b ++ (DC cI a f r ++ DC cI b f2 r2)) H := hP
  have hD : va_D A (XO x0 a b ++ (DC cI a f r ++ DC cI b f2 r2)) := hD
  refine lv_aload_n hx hb dX1_interruptionsBy_5 rfl (lv_at hl 0 rfl) ?_
  refine va_get (D := D) (ci := 1) (v := .ref (a 0)) (C := RX1) (T := TX1) (N := 2) hx hb hw1 (fun _ h => h) hown hK hP 0 rfl rfl 0 (by decide) k12 (fun _ h9 => h9) rfl dX1_interruptionsBy_6 ?_
  refine va_get (D := D) (ci := 0) (v := .ref (a 2)) (C := RX0) (T := TX0) (N := 17) hx hb hw0 (fun _ h => h) hown hK hP 1 rfl rfl 11 (by decide) k80 (fun _ h9 => h9) rfl dX1_interruptionsBy_9 ?_
  refine lv_iload_n hx hb dX1_interruptionsBy_12 rfl (lv_at hl 1 rfl) ?_
  refine wIald hx hb hK hP 3 0 rfl rfl x rfl (by omega) (by decide) dX1_interruptionsBy_13 ?_
  exact wRi hQ hx hb hr hlocks hP hD hS dX1_interruptionsBy_14 () (rfl) rfl
abbrev rmX1_coughsOf : Room := { frames := 1, cells := 0, slots := 0, locals := 21 }
set_option maxRecDepth 100000 in
set_option maxHeartbeats 4000000 in
theorem mX1_coughsOf (l : Launch) (D : va_G) (cI : ClassId) (x0 : Nat) (a b : Nat → Nat) (f f2 : Nat → Int32) (r r2 : Nat → Nat → Int32) (gg x : Nat) (sz : Nat) (hg : f 0 = nI gg) (hg2 : gg ≤ 10) (hg0 : 0 < gg) (ux : x < gg) : wCt l yX1_coughsOf wsX1_coughsOf rmX1_coughsOf D [(cI, .int)] [.ref x0, .int (nI x)] (XO x0 a b ++ (DC cI a f r ++ DC cI b f2 r2)) sz 0 0 (wQi D (fun v (_ : Unit) => v = r 2 x) (fun _ : Unit => XO x0 a b ++ (DC cI a f r ++ DC cI b f2 r2))) := by
  refine wMet cX1_coughsOf 2 (some .int) (by decide) rfl (Nat.le_of_ble_eq_true rfl) ?_
  intro p e s m args below meth c A Q ls hQ hx hb hr hml hown hlocks hin hts hN hP hK hD hA hS hl
  have hl : lv_has ls 2 [(0, .ref x0), (1, .int (nI x))] := hl
  have hown : s.vm.findClass RX1 = some m.cls := hown
  have hw0 : ∀ w ∈ wsX00, w.before args s = true := fun w h => hts w (List.mem_cons_of_mem _ (List.mem_append_left _ (List.mem_append_right _ h)))
  have hw1 : ∀ w ∈ wsX10, w.before args s = true := fun w h => hts w (List.mem_cons_of_mem _ (List.mem_append_left _ (List.mem_append_left _ (List.mem_append_right _ h))))
  have k12 := hts (.fieldLink RX1 12 "PauseLedger" "dinner" "LPauseLedger$Dinner;") (by decide +kernel)
  have k83 := hts (.fieldLink RX1 83 "PauseLedger$Dinner" "coughs" "[I") (by decide +kernel)
  refine lv_aload_n hx hb dX1_coughsOf_0 rfl (lv_at hl 0 rfl) ?_
  refine lv_iload_n hx hb dX1_coughsOf_1 rfl (lv_at hl 1 rfl) ?_
  refine wCVv (pre := ([] : va_W)) (Wc := XO x0 a b ++ (DC cI a f r ++ DC cI b f2 r2)) (suf := ([] : va_W)) (As := [.int (nI x)]) (rest := []) ⟨hx, hb, hml, hown, hts⟩ (mX1_requireGuest l D cI x0 a b f f2 r r2 gg x _ hg hg2 hg0 ux) hN hA hK hS hP hD rfl 0 (r := (RX1, TX1, 2)) rfl rfl (cwV 1 hts gX1_coughsOf_X1_requireGuest rfl rfl rfl (by decide +kernel) ⟨Nat.le_of_ble_eq_true rfl, Nat.le_of_ble_eq_true rfl⟩) rfl hl.1 rfl (Nat.le_of_ble_eq_true rfl) dX1_coughsOf_2 ⟨Nat.zero_le _, Nat.zero_le _⟩ (fun u_2 H locs hw hP hD hS => ?_)
  have hP : va_P D vwCl (XO x0 a b ++ (DC cI a f r ++ DC cI b f2 r2)) H := hP
  have hD : va_D A (XO x0 a b ++ (DC cI a f r ++ DC cI b f2 r2)) := hD
  refine lv_aload_n hx hb dX1_coughsOf_5 rfl (lv_at hl 0 rfl) ?_
  refine va_get (D := D) (ci := 1) (v := .ref (a 0)) (C := RX1) (T := TX1) (N := 2) hx hb hw1 (fun _ h => h) hown hK hP 0 rfl rfl 0 (by decide) k12 (fun _ h9 => h9) rfl dX1_coughsOf_6 ?_
  refine va_get (D := D) (ci := 0) (v := .ref (a 3)) (C := RX0) (T := TX0) (N := 17) hx hb hw0 (fun _ h => h) hown hK hP 1 rfl rfl 12 (by decide) k83 (fun _ h9 => h9) rfl dX1_coughsOf_9 ?_
  refine lv_iload_n hx hb dX1_coughsOf_12 rfl (lv_at hl 1 rfl) ?_
  refine wIald hx hb hK hP 4 0 rfl rfl x rfl (by omega) (by decide) dX1_coughsOf_13 ?_
  exact wRi hQ hx hb hr hlocks hP hD hS dX1_coughsOf_14 () (rfl) rfl
abbrev rmX1_unsaidBy : Room := { frames := 1, cells := 0, slots := 0, locals := 21 }
set_option maxRecDepth 100000 in
set_option maxHeartbeats 4000000 in
theorem mX1_unsaidBy (l : Launch) (D : va_G) (cI : ClassId) (x0 : Nat) (a b : Nat → Nat) (f f2 : Nat → Int32) (r r2 : Nat → Nat → Int32) (gg x : Nat) (sz : Nat) (hg : f 0 = nI gg) (hg2 : gg ≤ 10) (hg0 : 0 < gg) (ux : x < gg) : wCt l yX1_unsaidBy wsX1_unsaidBy rmX1_unsaidBy D [(cI, .int)] [.ref x0, .int (nI x)] (XO x0 a b ++ (DC cI a f r ++ DC cI b f2 r2)) sz 0 0 (wQi D (fun v (_ : Unit) => v = r 3 x) (fun _ : Unit => XO x0 a b ++ (DC cI a f r ++ DC cI b f2 r2))) := by
  refine wMet cX1_unsaidBy 2 (some .int) (by decide) rfl (Nat.le_of_ble_eq_true rfl) ?_
  intro p e s m args below meth c A Q ls hQ hx hb hr hml hown hlocks hin hts hN hP hK hD hA hS hl
  have hl : lv_has ls 2 [(0, .ref x0), (1, .int (nI x))] := hl
  have hown : s.vm.findClass RX1 = some m.cls := hown
  have hw0 : ∀ w ∈ wsX00, w.before args s = true := fun w h => hts w (List.mem_cons_of_mem _ (List.mem_append_left _ (List.mem_append_right _ h)))
  have hw1 : ∀ w ∈ wsX10, w.before args s = true := fun w h => hts w (List.mem_cons_of_mem _ (List.mem_append_left _ (List.mem_append_left _ (List.mem_append_right _ h))))
  have k12 := hts (.fieldLink RX1 12 "PauseLedger" "dinner" "LPauseLedger$Dinner;") (by decide +kernel)
  have k86 := hts (.fieldLink RX1 86 "PauseLedger$Dinner" "unsaid" "[I") (by decide +kernel)
  refine lv_aload_n hx hb dX1_unsaidBy_0 rfl (lv_at hl 0 rfl) ?_
  refine lv_iload_n hx hb dX1_unsaidBy_1 rfl (lv_at hl 1 rfl) ?_
  refine wCVv (pre := ([] : va_W)) (Wc := XO x0 a b ++ (DC cI a f r ++ DC cI b f2 r2)) (suf := ([] : va_W)) (As := [.int (nI x)]) (rest := []) ⟨hx, hb, hml, hown, hts⟩ (mX1_requireGuest l D cI x0 a b f f2 r r2 gg x _ hg hg2 hg0 ux) hN hA hK hS hP hD rfl 0 (r := (RX1, TX1, 2)) rfl rfl (cwV 1 hts gX1_unsaidBy_X1_requireGuest rfl rfl rfl (by decide +kernel) ⟨Nat.le_of_ble_eq_true rfl, Nat.le_of_ble_eq_true rfl⟩) rfl hl.1 rfl (Nat.le_of_ble_eq_true rfl) dX1_unsaidBy_2 ⟨Nat.zero_le _, Nat.zero_le _⟩ (fun u_2 H locs hw hP hD hS => ?_)
  have hP : va_P D vwCl (XO x0 a b ++ (DC cI a f r ++ DC cI b f2 r2)) H := hP
  have hD : va_D A (XO x0 a b ++ (DC cI a f r ++ DC cI b f2 r2)) := hD
  refine lv_aload_n hx hb dX1_unsaidBy_5 rfl (lv_at hl 0 rfl) ?_
  refine va_get (D := D) (ci := 1) (v := .ref (a 0)) (C := RX1) (T := TX1) (N := 2) hx hb hw1 (fun _ h => h) hown hK hP 0 rfl rfl 0 (by decide) k12 (fun _ h9 => h9) rfl dX1_unsaidBy_6 ?_
  refine va_get (D := D) (ci := 0) (v := .ref (a 4)) (C := RX0) (T := TX0) (N := 17) hx hb hw0 (fun _ h => h) hown hK hP 1 rfl rfl 13 (by decide) k86 (fun _ h9 => h9) rfl dX1_unsaidBy_9 ?_
  refine lv_iload_n hx hb dX1_unsaidBy_12 rfl (lv_at hl 1 rfl) ?_
  refine wIald hx hb hK hP 5 0 rfl rfl x rfl (by omega) (by decide) dX1_unsaidBy_13 ?_
  exact wRi hQ hx hb hr hlocks hP hD hS dX1_unsaidBy_14 () (rfl) rfl
abbrev rmX1_seatsApart : Room := { frames := 2, cells := 0, slots := 0, locals := 44 }
set_option maxRecDepth 100000 in
set_option maxHeartbeats 4000000 in
theorem mX1_seatsApart (l : Launch) (D : va_G) (cI : ClassId) (x0 : Nat) (a b : Nat → Nat) (f f2 : Nat → Int32) (r r2 : Nat → Nat → Int32) (gg x y : Nat) (sz : Nat) (hg : f 0 = nI gg) (hg2 : gg ≤ 10) (hg0 : 0 < gg) (ux : x < gg) (uy : y < gg) : wCt l yX1_seatsApart wsX1_seatsApart rmX1_seatsApart D [(cI, .int)] [.ref x0, .int (nI x), .int (nI y)] (XO x0 a b ++ (DC cI a f r ++ DC cI b f2 r2)) sz 0 0 (wQi D (fun v (_ : Unit) => v = dSeats (f 0) (nI x) (nI y)) (fun _ : Unit => XO x0 a b ++ (DC cI a f r ++ DC cI b f2 r2))) := by
  refine wMet cX1_seatsApart 3 (some .int) (by decide) rfl (Nat.le_of_ble_eq_true rfl) ?_
  intro p e s m args below meth c A Q ls hQ hx hb hr hml hown hlocks hin hts hN hP hK hD hA hS hl
  have hl : lv_has ls 3 [(0, .ref x0), (1, .int (nI x)), (2, .int (nI y))] := hl
  have hown : s.vm.findClass RX1 = some m.cls := hown
  have hw1 : ∀ w ∈ wsX10, w.before args s = true := fun w h => hts w (List.mem_cons_of_mem _ (List.mem_append_left _ (List.mem_append_left _ (List.mem_append_right _ h))))
  have k12 := hts (.fieldLink RX1 12 "PauseLedger" "dinner" "LPauseLedger$Dinner;") (by decide +kernel)
  refine lv_aload_n hx hb dX1_seatsApart_0 rfl (lv_at hl 0 rfl) ?_
  refine lv_iload_n hx hb dX1_seatsApart_1 rfl (lv_at hl 1 rfl) ?_
  refine wCVv (pre := ([] : va_W)) (Wc := XO x0 a b ++ (DC cI a f r ++ DC cI b f2 r2)) (suf := ([] : va_W)) (As := [.int (nI x)]) (rest := []) ⟨hx, hb, hml, hown, hts⟩ (mX1_requireGuest l D cI x0 a b f f2 r r2 gg x _ hg hg2 hg0 ux) hN hA hK hS hP hD rfl 0 (r := (RX1, TX1, 2)) rfl rfl (cwV 1 hts gX1_seatsApart_X1_requireGuest rfl rfl rfl (by decide +kernel) ⟨Nat.le_of_ble_eq_true rfl, Nat.le_of_ble_eq_true rfl⟩) rfl hl.1 rfl (Nat.le_of_ble_eq_true rfl) dX1_seatsApart_2 ⟨Nat.zero_le _, Nat.zero_le _⟩ (fun u_2 H locs hw hP hD hS => ?_)
  have hP : va_P D vwCl (XO x0 a b ++ (DC cI a f r ++ DC cI b f2 r2)) H := hP
  have hD : va_D A (XO x0 a b ++ (DC cI a f r ++ DC cI b f2 r2)) := hD
  refine lv_aload_n hx hb dX1_seatsApart_5 rfl (lv_at hl 0 rfl) ?_
  refine lv_iload_n hx hb dX1_seatsApart_6 rfl (lv_at hl 2 rfl) ?_
  refine wCVv (pre := ([] : va_W)) (Wc := XO x0 a b ++ (DC cI a f r ++ DC cI b f2 r2)) (suf := ([] : va_W)) (As := [.int (nI y)]) (rest := []) ⟨hx, hb, hml, hown, hts⟩ (mX1_requireGuest l D cI x0 a b f f2 r r2 gg y _ hg hg2 hg0 uy) hN hA hK hS hP hD rfl 0 (r := (RX1, TX1, 2)) rfl rfl (cwV 1 hts gX1_seatsApart_X1_requireGuest rfl rfl rfl (by decide +kernel) ⟨Nat.le_of_ble_eq_true rfl, Nat.le_of_ble_eq_true rfl⟩) rfl hl.1 rfl (Nat.le_of_ble_eq_true rfl) dX1_seatsApart_7 ⟨Nat.zero_le _, Nat.zero_le _⟩ (fun u_7 H locs hw hP hD hS => ?_)
  have hP : va_P D vwCl (XO x0 a b ++ (DC cI a f r ++ DC cI b f2 r2)) H := hP
  have hD : va_D A (XO x0 a b ++ (DC cI a f r ++ DC cI b f2 r2)) := hD
  refine lv_aload_n hx hb dX1_seatsApart_10 rfl (lv_at hl 0 rfl) ?_
  refine va_get (D := D) (ci := 1) (v := .ref (a 0)) (C := RX1) (T := TX1) (N := 2) hx hb hw1 (fun _ h => h) hown hK hP 0 rfl rfl 0 (by decide) k12 (fun _ h9 => h9) rfl dX1_seatsApart_11 ?_
  refine lv_iload_n hx hb dX1_seatsApart_14 rfl (lv_at hl 1 rfl) ?_
  refine lv_iload_n hx hb dX1_seatsApart_15 rfl (lv_at hl 2 rfl) ?_
  refine wCVi (pre := XO x0 a b) (Wc := DC cI a f r) (suf := DC cI b f2 r2) (As := [.int (nI x), .int (nI y)]) (rest := []) ⟨hx, hb, hml, hown, hts⟩ (mX0_seatsBetween l D cI a f r (nI x) (nI y) _) hN hA hK hS hP hD rfl 0 (r := (RX0, TX0, 17)) rfl rfl (cwV 2 hts gX1_seatsApart_X0_seatsBetween rfl rfl rfl (by decide +kernel) ⟨Nat.le_of_ble_eq_true rfl, Nat.le_of_ble_eq_true rfl⟩) rfl hl.1 rfl (Nat.le_of_ble_eq_true rfl) dX1_seatsApart_16 ⟨Nat.zero_le _, Nat.zero_le _⟩ (fun r_16 u_16 H locs hw hP hD hS => ?_)
  have hw : r_16 = dSeats (f 0) (nI x) (nI y) := hw
  subst hw
  have hP : va_P D vwCl (XO x0 a b ++ (DC cI a f r ++ DC cI b f2 r2)) H := hP
  have hD : va_D A (XO x0 a b ++ (DC cI a f r ++ DC cI b f2 r2)) := hD
  exact wRi hQ hx hb hr hlocks hP hD hS dX1_seatsApart_19 () (rfl) rfl
abbrev rmX1_isUnderWay : Room := { frames := 1, cells := 0, slots := 0, locals := 21 }
set_option maxRecDepth 100000 in
set_option maxHeartbeats 4000000 in
theorem mX1_isUnderWay (l : Launch) (D : va_G) (cI : ClassId) (x0 : Nat) (a b : Nat → Nat) (f f2 : Nat → Int32) (r r2 : Nat → Nat → Int32) (gg x y : Nat) (sz : Nat) (hg : f 0 = nI gg) (hg2 : gg ≤ 10) (hg0 : 0 < gg) (ux : x < gg) (uy : y < gg) : wCt l yX1_isUnderWay wsX1_isUnderWay rmX1_isUnderWay D [(cI, .int)] [.ref x0, .int (nI x), .int (nI y)] (XO x0 a b ++ (DC cI a f r ++ DC cI b f2 r2)) sz 0 0 (wQi D (fun v (_ : Unit) => v = if r 4 (x * 10 + y) = -1 then 0 else 1) (fun _ : Unit => XO x0 a b ++ (DC cI a f r ++ DC cI b f2 r2))) := by
  refine wMet cX1_isUnderWay 3 (some .boolean) (by decide) rfl (Nat.le_of_ble_eq_true rfl) ?_
  intro p e s m args below meth c A Q ls hQ hx hb hr hml hown hlocks hin hts hN hP hK hD hA hS hl
  have hl : lv_has ls 3 [(0, .ref x0), (1, .int (nI x)), (2, .int (nI y))] := hl
  have hown : s.vm.findClass RX1 = some m.cls := hown
  have hw1 : ∀ w ∈ wsX10, w.before args s = true := fun w h => hts w (List.mem_cons_of_mem _ (List.mem_append_left _ (List.mem_append_left _ (List.mem_append_right _ h))))
  have k12 := hts (.fieldLink RX1 12 "PauseLedger" "dinner" "LPauseLedger$Dinner;") (by decide +kernel)
  refine lv_aload_n hx hb dX1_isUnderWay_0 rfl (lv_at hl 0 rfl) ?_
  refine lv_iload_n hx hb dX1_isUnderWay_1 rfl (lv_at hl 1 rfl) ?_
  refine wCVv (pre := ([] : va_W)) (Wc := XO x0 a b ++ (DC cI a f r ++ DC cI b f2 r2)) (suf := ([] : va_W)) (As := [.int (nI x)]) (rest := []) ⟨hx, hb, hml, hown, hts⟩ (mX1_requireGuest l D cI x0 a b f f2 r r2 gg x _ hg hg2 hg0 ux) hN hA hK hS hP hD rfl 0 (r := (RX1, TX1, 2)) rfl rfl (cwV 1 hts gX1_isUnderWay_X1_requireGuest rfl rfl rfl (by decide +kernel) ⟨Nat.le_of_ble_eq_true rfl, Nat.le_of_ble_eq_true rfl⟩) rfl hl.1 rfl (Nat.le_of_ble_eq_true rfl) dX1_isUnderWay_2 ⟨Nat.zero_le _, Nat.zero_le _⟩ (fun u_2 H locs hw hP hD hS => ?_)
  have hP : va_P D vwCl (XO x0 a b ++ (DC cI a f r ++ DC cI b f2 r2)) H := hP
  have hD : va_D A (XO x0 a b ++ (DC cI a f r ++ DC cI b f2 r2)) := hD
  refine lv_aload_n hx hb dX1_isUnderWay_5 rfl (lv_at hl 0 rfl) ?_
  refine lv_iload_n hx hb dX1_isUnderWay_6 rfl (lv_at hl 2 rfl) ?_
  refine wCVv (pre := ([] : va_W)) (Wc := XO x0 a b ++ (DC cI a f r ++ DC cI b f2 r2)) (suf := ([] : va_W)) (As := [.int (nI y)]) (rest := []) ⟨hx, hb, hml, hown, hts⟩ (mX1_requireGuest l D cI x0 a b f f2 r r2 gg y _ hg hg2 hg0 uy) hN hA hK hS hP hD rfl 0 (r := (RX1, TX1, 2)) rfl rfl (cwV 1 hts gX1_isUnderWay_X1_requireGuest rfl rfl rfl (by decide +kernel) ⟨Nat.le_of_ble_eq_true rfl, Nat.le_of_ble_eq_true rfl⟩) rfl hl.1 rfl (Nat.le_of_ble_eq_true rfl) dX1_isUnderWay_7 ⟨Nat.zero_le _, Nat.zero_le _⟩ (fun u_7 H locs hw hP hD hS => ?_)
  have hP : va_P D vwCl (XO x0 a b ++ (DC cI a f r ++ DC cI b f2 r2)) H := hP
  have hD : va_D A (XO x0 a b ++ (DC cI a f r ++ DC cI b f2 r2)) := hD
  refine lv_aload_n hx hb dX1_isUnderWay_10 rfl (lv_at hl 0 rfl) ?_
  refine va_get (D := D) (ci := 1) (v := .ref (a 0)) (C := RX1) (T := TX1) (N := 2) hx hb hw1 (fun _ h => h) hown hK hP 0 rfl rfl 0 (by decide) k12 (fun _ h9 => h9) rfl dX1_isUnderWay_11 ?_
  refine lv_iload_n hx hb dX1_isUnderWay_14 rfl (lv_at hl 1 rfl) ?_
  refine lv_iload_n hx hb dX1_isUnderWay_15 rfl (lv_at hl 2 rfl) ?_
  refine wCSi (pre := ([] : va_W)) (Wc := ([] : va_W)) (suf := XO x0 a b ++ (DC cI a f r ++ DC cI b f2 r2)) (As := [.int (nI x), .int (nI y)]) (rest := [.ref (a 0)]) ⟨hx, hb, hml, hown, hts⟩ (mX1_pairOf l D cI x y _) hN hA hK hS hP hD rfl (va_cwS 2 hts gX1_isUnderWay_X1_pairOf rfl rfl rfl (by decide +kernel) ⟨Nat.le_of_ble_eq_true rfl, Nat.le_of_ble_eq_true rfl⟩) rfl hl.1 rfl (Nat.le_of_ble_eq_true rfl) dX1_isUnderWay_16 ⟨Nat.zero_le _, Nat.zero_le _⟩ (fun r_16 u_16 H locs hw hP hD hS => ?_)
  have hw : r_16 = nI (x * 10 + y) := hw
  subst hw
  have hP : va_P D vwCl (XO x0 a b ++ (DC cI a f r ++ DC cI b f2 r2)) H := hP
  have hD : va_D A (XO x0 a b ++ (DC cI a f r ++ DC cI b f2 r2)) := hD
  refine wCVi (pre := XO x0 a b) (Wc := DC cI a f r) (suf := DC cI b f2 r2) (As := [.int (nI (x * 10 + y))]) (rest := []) ⟨hx, hb, hml, hown, hts⟩ (mX0_isOnItsWay l D cI a f r (x * 10 + y) _ (by omega)) hN hA hK hS hP hD rfl 0 (r := (RX0, TX0, 17)) rfl rfl (cwV 1 hts gX1_isUnderWay_X0_isOnItsWay rfl rfl rfl (by decide +kernel) ⟨Nat.le_of_ble_eq_true rfl, Nat.le_of_ble_eq_true rfl⟩) rfl hl.1 rfl (Nat.le_of_ble_eq_true rfl) dX1_isUnderWay_19 ⟨Nat.zero_le _, Nat.zero_le _⟩ (fun r_19 u_19 H locs hw hP hD hS => ?_)
  have hw : r_19 = if (r 4) (x * 10 + y) = -1 then 0 else 1 := hw
  subst hw
  have hP : va_P D vwCl (XO x0 a b ++ (DC cI a f r ++ DC cI b f2 r2)) H := hP
  have hD : va_D A (XO x0 a b ++ (DC cI a f r ++ DC cI b f2 r2)) := hD
  exact wRz hQ hx hb hr hlocks hP hD hS dX1_isUnderWay_22 (by split <;> rfl) () (rfl) rfl
abbrev rmX1_secondsToGo : Room := { frames := 2, cells := 0, slots := 0, locals := 42 }
set_option maxRecDepth 100000 in
set_option maxHeartbeats 4000000 in
theorem mX1_secondsToGo (l : Launch) (D : va_G) (cI : ClassId) (x0 : Nat) (a b : Nat → Nat) (f f2 : Nat → Int32) (r r2 : Nat → Nat → Int32) (gg x y : Nat) (sz : Nat) (hg : f 0 = nI gg) (hg2 : gg ≤ 10) (hg0 : 0 < gg) (ux : x < gg) (uy : y < gg) : wCt l yX1_secondsToGo wsX1_secondsToGo rmX1_secondsToGo D [(cI, .int)] [.ref x0, .int (nI x), .int (nI y)] (XO x0 a b ++ (DC cI a f r ++ DC cI b f2 r2)) sz 0 0 (wQi D (fun v (_ : Unit) => v = dToGo (r 4) (x * 10 + y)) (fun _ : Unit => XO x0 a b ++ (DC cI a f r ++ DC cI b f2 r2))) := by
  refine wMet cX1_secondsToGo 3 (some .int) (by decide) rfl (Nat.le_of_ble_eq_true rfl) ?_
  intro p e s m args below meth c A Q ls hQ hx hb hr hml hown hlocks hin hts hN hP hK hD hA hS hl
  have hl : lv_has ls 3 [(0, .ref x0), (1, .int (nI x)), (2, .int (nI y))] := hl
  have hown : s.vm.findClass RX1 = some m.cls := hown
  have hw1 : ∀ w ∈ wsX10, w.before args s = true := fun w h => hts w (List.mem_cons_of_mem _ (List.mem_append_left _ (List.mem_append_left _ (List.mem_append_right _ h))))
  have k12 := hts (.fieldLink RX1 12 "PauseLedger" "dinner" "LPauseLedger$Dinner;") (by decide +kernel)
  refine lv_aload_n hx hb dX1_secondsToGo_0 rfl (lv_at hl 0 rfl) ?_
  refine lv_iload_n hx hb dX1_secondsToGo_1 rfl (lv_at hl 1 rfl) ?_
  refine wCVv (pre := ([] : va_W)) (Wc := XO x0 a b ++ (DC cI a f r ++ DC cI b f2 r2)) (suf := ([] : va_W)) (As := [.int (nI x)]) (rest := []) ⟨hx, hb, hml, hown, hts⟩ (mX1_requireGuest l D cI x0 a b f f2 r r2 gg x _ hg hg2 hg0 ux) hN hA hK hS hP hD rfl 0 (r := (RX1, TX1, 2)) rfl rfl (cwV 1 hts gX1_secondsToGo_X1_requireGuest rfl rfl rfl (by decide +kernel) ⟨Nat.le_of_ble_eq_true rfl, Nat.le_of_ble_eq_true rfl⟩) rfl hl.1 rfl (Nat.le_of_ble_eq_true rfl) dX1_secondsToGo_2 ⟨Nat.zero_le _, Nat.zero_le _⟩ (fun u_2 H locs hw hP hD hS => ?_)
  have hP : va_P D vwCl (XO x0 a b ++ (DC cI a f r ++ DC cI b f2 r2)) H := hP
  have hD : va_D A (XO x0 a b ++ (DC cI a f r ++ DC cI b f2 r2)) := hD
  refine lv_aload_n hx hb dX1_secondsToGo_5 rfl (lv_at hl 0 rfl) ?_
  refine lv_iload_n hx hb dX1_secondsToGo_6 rfl (lv_at hl 2 rfl) ?_
  refine wCVv (pre := ([] : va_W)) (Wc := XO x0 a b ++ (DC cI a f r ++ DC cI b f2 r2)) (suf := ([] : va_W)) (As := [.int (nI y)]) (rest := []) ⟨hx, hb, hml, hown, hts⟩ (mX1_requireGuest l D cI x0 a b f f2 r r2 gg y _ hg hg2 hg0 uy) hN hA hK hS hP hD rfl 0 (r := (RX1, TX1, 2)) rfl rfl (cwV 1 hts gX1_secondsToGo_X1_requireGuest rfl rfl rfl (by decide +kernel) ⟨Nat.le_of_ble_eq_true rfl, Nat.le_of_ble_eq_true rfl⟩) rfl hl.1 rfl (Nat.le_of_ble_eq_true rfl) dX1_secondsToGo_7 ⟨Nat.zero_le _, Nat.zero_le _⟩ (fun u_7 H locs hw hP hD hS => ?_)
  have hP : va_P D vwCl (XO x0 a b ++ (DC cI a f r ++ DC cI b f2 r2)) H := hP
  have hD : va_D A (XO x0 a b ++ (DC cI a f r ++ DC cI b f2 r2)) := hD
  refine lv_aload_n hx hb dX1_secondsToGo_10 rfl (lv_at hl 0 rfl) ?_
  refine va_get (D := D) (ci := 1) (v := .ref (a 0)) (C := RX1) (T := TX1) (N := 2) hx hb hw1 (fun _ h => h) hown hK hP 0 rfl rfl 0 (by decide) k12 (fun _ h9 => h9) rfl dX1_secondsToGo_11 ?_
  refine lv_iload_n hx hb dX1_secondsToGo_14 rfl (lv_at hl 1 rfl) ?_
  refine lv_iload_n hx hb dX1_secondsToGo_15 rfl (lv_at hl 2 rfl) ?_
  refine wCSi (pre := ([] : va_W)) (Wc := ([] : va_W)) (suf := XO x0 a b ++ (DC cI a f r ++ DC cI b f2 r2)) (As := [.int (nI x), .int (nI y)]) (rest := [.ref (a 0)]) ⟨hx, hb, hml, hown, hts⟩ (mX1_pairOf l D cI x y _) hN hA hK hS hP hD rfl (va_cwS 2 hts gX1_secondsToGo_X1_pairOf rfl rfl rfl (by decide +kernel) ⟨Nat.le_of_ble_eq_true rfl, Nat.le_of_ble_eq_true rfl⟩) rfl hl.1 rfl (Nat.le_of_ble_eq_true rfl) dX1_secondsToGo_16 ⟨Nat.zero_le _, Nat.zero_le _⟩ (fun r_16 u_16 H locs hw hP hD hS => ?_)
  have hw : r_16 = nI (x * 10 + y) := hw
  subst hw
  have hP : va_P D vwCl (XO x0 a b ++ (DC cI a f r ++ DC cI b f2 r2)) H := hP
  have hD : va_D A (XO x0 a b ++ (DC cI a f r ++ DC cI b f2 r2)) := hD
  refine wCVi (pre := XO x0 a b) (Wc := DC cI a f r) (suf := DC cI b f2 r2) (As := [.int (nI (x * 10 + y))]) (rest := []) ⟨hx, hb, hml, hown, hts⟩ (mX0_timeToGo l D cI a f r (x * 10 + y) _ (by omega)) hN hA hK hS hP hD rfl 0 (r := (RX0, TX0, 17)) rfl rfl (cwV 1 hts gX1_secondsToGo_X0_timeToGo rfl rfl rfl (by decide +kernel) ⟨Nat.le_of_ble_eq_true rfl, Nat.le_of_ble_eq_true rfl⟩) rfl hl.1 rfl (Nat.le_of_ble_eq_true rfl) dX1_secondsToGo_19 ⟨Nat.zero_le _, Nat.zero_le _⟩ (fun r_19 u_19 H locs hw hP hD hS => ?_)
  have hw : r_19 = dToGo (r 4) (x * 10 + y) := hw
  subst hw
  have hP : va_P D vwCl (XO x0 a b ++ (DC cI a f r ++ DC cI b f2 r2)) H := hP
  have hD : va_D A (XO x0 a b ++ (DC cI a f r ++ DC cI b f2 r2)) := hD
  exact wRi hQ hx hb hr hlocks hP hD hS dX1_secondsToGo_22 () (rfl) rfl
abbrev rmX1_caughtBy : Room := { frames := 1, cells := 0, slots := 0, locals := 21 }
set_option maxRecDepth 100000 in
set_option maxHeartbeats 4000000 in
theorem mX1_caughtBy (l : Launch) (D : va_G) (cI : ClassId) (x0 : Nat) (a b : Nat → Nat) (f f2 : Nat → Int32) (r r2 : Nat → Nat → Int32) (gg x y : Nat) (sz : Nat) (hg : f 0 = nI gg) (hg2 : gg ≤ 10) (hg0 : 0 < gg) (ux : x < gg) (uy : y < gg) : wCt l yX1_caughtBy wsX1_caughtBy rmX1_caughtBy D [(cI, .int)] [.ref x0, .int (nI x), .int (nI y)] (XO x0 a b ++ (DC cI a f r ++ DC cI b f2 r2)) sz 0 0 (wQi D (fun v (_ : Unit) => v = r 5 (x * 10 + y)) (fun _ : Unit => XO x0 a b ++ (DC cI a f r ++ DC cI b f2 r2))) := by
  refine wMet cX1_caughtBy 3 (some .int) (by decide) rfl (Nat.le_of_ble_eq_true rfl) ?_
  intro p e s m args below meth c A Q ls hQ hx hb hr hml hown hlocks hin hts hN hP hK hD hA hS hl
  have hl : lv_has ls 3 [(0, .ref x0), (1, .int (nI x)), (2, .int (nI y))] := hl
  have hown : s.vm.findClass RX1 = some m.cls := hown
  have hw0 : ∀ w ∈ wsX00, w.before args s = true := fun w h => hts w (List.mem_cons_of_mem _ (List.mem_append_left _ (List.mem_append_right _ h)))
  have hw1 : ∀ w ∈ wsX10, w.before args s = true := fun w h => hts w (List.mem_cons_of_mem _ (List.mem_append_left _ (List.mem_append_left _ (List.mem_append_right _ h))))
  have k12 := hts (.fieldLink RX1 12 "PauseLedger" "dinner" "LPauseLedger$Dinner;") (by decide +kernel)
  have k100 := hts (.fieldLink RX1 100 "PauseLedger$Dinner" "caught" "[I") (by decide +kernel)
  refine lv_aload_n hx hb dX1_caughtBy_0 rfl (lv_at hl 0 rfl) ?_
  refine lv_iload_n hx hb dX1_caughtBy_1 rfl (lv_at hl 1 rfl) ?_
  refine wCVv (pre := ([] : va_W)) (Wc := XO x0 a b ++ (DC cI a f r ++ DC cI b f2 r2)) (suf := ([] : va_W)) (As := [.int (nI x)]) (rest := []) ⟨hx, hb, hml, hown, hts⟩ (mX1_requireGuest l D cI x0 a b f f2 r r2 gg x _ hg hg2 hg0 ux) hN hA hK hS hP hD rfl 0 (r := (RX1, TX1, 2)) rfl rfl (cwV 1 hts gX1_caughtBy_X1_requireGuest rfl rfl rfl (by decide +kernel) ⟨Nat.le_of_ble_eq_true rfl, Nat.le_of_ble_eq_true rfl⟩) rfl hl.1 rfl (Nat.le_of_ble_eq_true rfl) dX1_caughtBy_2 ⟨Nat.zero_le _, Nat.zero_le _⟩ (fun u_2 H locs hw hP hD hS => ?_)
  have hP : va_P D vwCl (XO x0 a b ++ (DC cI a f r ++ DC cI b f2 r2)) H := hP
  have hD : va_D A (XO x0 a b ++ (DC cI a f r ++ DC cI b f2 r2)) := hD
  refine lv_aload_n hx hb dX1_caughtBy_5 rfl (lv_at hl 0 rfl) ?_
  refine lv_iload_n hx hb dX1_caughtBy_6 rfl (lv_at hl 2 rfl) ?_
  refine wCVv (pre := ([] : va_W)) (Wc := XO x0 a b ++ (DC cI a f r ++ DC cI b f2 r2)) (suf := ([] : va_W)) (As := [.int (nI y)]) (rest := []) ⟨hx, hb, hml, hown, hts⟩ (mX1_requireGuest l D cI x0 a b f f2 r r2 gg y _ hg hg2 hg0 uy) hN hA hK hS hP hD rfl 0 (r := (RX1, TX1, 2)) rfl rfl (cwV 1 hts gX1_caughtBy_X1_requireGuest rfl rfl rfl (by decide +kernel) ⟨Nat.le_of_ble_eq_true rfl, Nat.le_of_ble_eq_true rfl⟩) rfl hl.1 rfl (Nat.le_of_ble_eq_true rfl) dX1_caughtBy_7 ⟨Nat.zero_le _, Nat.zero_le _⟩ (fun u_7 H locs hw hP hD hS => ?_)
  have hP : va_P D vwCl (XO x0 a b ++ (DC cI a f r ++ DC cI b f2 r2)) H := hP
  have hD : va_D A (XO x0 a b ++ (DC cI a f r ++ DC cI b f2 r2)) := hD
  refine lv_aload_n hx hb dX1_caughtBy_10 rfl (lv_at hl 0 rfl) ?_
  refine va_get (D := D) (ci := 1) (v := .ref (a 0)) (C := RX1) (T := TX1) (N := 2) hx hb hw1 (fun _ h => h) hown hK hP 0 rfl rfl 0 (by decide) k12 (fun _ h9 => h9) rfl dX1_caughtBy_11 ?_
  refine va_get (D := D) (ci := 0) (v := .ref (a 6)) (C := RX0) (T := TX0) (N := 17) hx hb hw0 (fun _ h => h) hown hK hP 1 rfl rfl 15 (by decide) k100 (fun _ h9 => h9) rfl dX1_caughtBy_14 ?_
  refine lv_iload_n hx hb dX1_caughtBy_17 rfl (lv_at hl 1 rfl) ?_
  refine lv_iload_n hx hb dX1_caughtBy_18 rfl (lv_at hl 2 rfl) ?_
  refine wCSi (pre := ([] : va_W)) (Wc := ([] : va_W)) (suf := XO x0 a b ++ (DC cI a f r ++ DC cI b f2 r2)) (As := [.int (nI x), .int (nI y)]) (rest := [.ref (a 6)]) ⟨hx, hb, hml, hown, hts⟩ (mX1_pairOf l D cI x y _) hN hA hK hS hP hD rfl (va_cwS 2 hts gX1_caughtBy_X1_pairOf rfl rfl rfl (by decide +kernel) ⟨Nat.le_of_ble_eq_true rfl, Nat.le_of_ble_eq_true rfl⟩) rfl hl.1 rfl (Nat.le_of_ble_eq_true rfl) dX1_caughtBy_19 ⟨Nat.zero_le _, Nat.zero_le _⟩ (fun r_19 u_19 H locs hw hP hD hS => ?_)
  have hw : r_19 = nI (x * 10 + y) := hw
  subst hw
  have hP : va_P D vwCl (XO x0 a b ++ (DC cI a f r ++ DC cI b f2 r2)) H := hP
  have hD : va_D A (XO x0 a b ++ (DC cI a f r ++ DC cI b f2 r2)) := hD
  refine wIald hx hb hK hP 7 0 rfl rfl (x * 10 + y) rfl (by omega) (by decide) dX1_caughtBy_22 ?_
  exact wRi hQ hx hb hr hlocks hP hD hS dX1_caughtBy_23 () (rfl) rfl
abbrev rmX1_quietest : Room := { frames := 0, cells := 0, slots := 0, locals := 0 }
set_option maxRecDepth 100000 in
set_option maxHeartbeats 4000000 in
theorem mX1_quietest (l : Launch) (D : va_G) (cI : ClassId) (x0 : Nat) (a b : Nat → Nat) (f f2 : Nat → Int32) (r r2 : Nat → Nat → Int32) (gg : Nat) (sz : Nat) (hg : f 0 = nI gg) (hg2 : gg ≤ 10) (hg0 : 0 < gg) : wCt l yX1_quietest wsX1_quietest rmX1_quietest D [(cI, .int)] [.ref x0] (XO x0 a b ++ (DC cI a f r ++ DC cI b f2 r2)) sz 0 0 (wQi D (fun v (_ : Unit) => v = nI (dQuiet (r 3) (gg - 1))) (fun _ : Unit => XO x0 a b ++ (DC cI a f r ++ DC cI b f2 r2))) := by
  refine wMet cX1_quietest 3 (some .int) (by decide) rfl (Nat.le_of_ble_eq_true rfl) ?_
  intro p e s m args below meth c A Q ls hQ hx hb hr hml hown hlocks hin hts hN hP hK hD hA hS hl
  have hl : lv_has ls 3 [(0, .ref x0)] := hl
  have hown : s.vm.findClass RX1 = some m.cls := hown
  have hw0 : ∀ w ∈ wsX00, w.before args s = true := fun w h => hts w (List.mem_cons_of_mem _ (List.mem_append_right _ h))
  have hw1 : ∀ w ∈ wsX10, w.before args s = true := fun w h => hts w (List.mem_cons_of_mem _ (List.mem_append_left _ (List.mem_append_right _ h)))
  have k12 := hts (.fieldLink RX1 12 "PauseLedger" "dinner" "LPauseLedger$Dinner;") (by decide +kernel)
  have k58 := hts (.fieldLink RX1 58 "PauseLedger$Dinner" "guests" "I") (by decide +kernel)
  have k86 := hts (.fieldLink RX1 86 "PauseLedger$Dinner" "unsaid" "[I") (by decide +kernel)
  refine lv_iconst (v := 0) hx hb dX1_quietest_0 (by decide) ?_
  refine lv_istore_n (lv' := [(1, .int 0), (0, .ref x0)]) hx hb dX1_quietest_1 rfl hl (by decide) rfl (fun ls hl => ?_)
  refine lv_iconst (v := 1) hx hb dX1_quietest_2 (by decide) ?_
  refine lv_istore_n (lv' := [(2, .int 1), (1, .int 0), (0, .ref x0)]) hx hb dX1_quietest_3 rfl hl (by decide) rfl (fun ls hl => ?_)
  have loop4 : ∀ (j i4 : Nat), i4 + j = (gg - 1) → ∀ (H : Heap) (locs : List Loc) (ls : Array Slot), va_P D vwCl (XO x0 a b ++ (DC cI a f r ++ DC cI b f2 r2)) H → va_D A (XO x0 a b ++ (DC cI a f r ++ DC cI b f2 r2)) → va_S A s.heap H locs → lv_has ls 3 [(2, .int (nI (i4 + 1))), (1, .int (nI (dQuiet (r 3) i4))), (0, .ref x0)] → W p l e rmX1_quietest s m args below meth c H locs 0 0 Q (F0 m 4 ls []) := by
    intro j
    induction j with
    | zero =>
      intro i4 hi4 H locs ls hP hD hS hl
      have ez : (gg - 1) = i4 := by omega
      subst ez
      refine lv_iload_n hx hb dX1_quietest_4 rfl (lv_at hl 0 rfl) ?_
      refine lv_aload_n hx hb dX1_quietest_5 rfl (lv_at hl 2 rfl) ?_
      refine va_get (D := D) (ci := 1) (v := .ref (a 0)) (C := RX1) (T := TX1) (N := 2) hx hb hw1 (fun _ h => h) hown hK hP 0 rfl rfl 0 (by decide) k12 (fun _ h9 => h9) rfl dX1_quietest_6 ?_
      refine va_get (D := D) (ci := 0) (v := .int (f 0)) (C := RX0) (T := TX0) (N := 17) hx hb hw0 (fun _ h => h) hown hK hP 1 rfl rfl 0 (by decide) k58 (fun _ h9 => h9) rfl dX1_quietest_9 ?_
      refine lv_icmp_ge (tgt := 44) hx hb dX1_quietest_12 (by decide) (fun c_12 => ?_) (fun h9 => absurd (by rw [hg]; exact nI_le (by omega) (by omega)) h9)
      refine lv_iload_n hx hb dX1_quietest_44 rfl (lv_at hl 1 rfl) ?_
      exact wRi hQ hx hb hr hlocks hP hD hS dX1_quietest_45 () (rfl) rfl
    | succ j ih4 =>
      intro i4 hi4 H locs ls hP hD hS hl
      have hq4 := dQuiet_le (r 3) i4
      refine lv_iload_n hx hb dX1_quietest_4 rfl (lv_at hl 0 rfl) ?_
      refine lv_aload_n hx hb dX1_quietest_5 rfl (lv_at hl 2 rfl) ?_
      refine va_get (D := D) (ci := 1) (v := .ref (a 0)) (C := RX1) (T := TX1) (N := 2) hx hb hw1 (fun _ h => h) hown hK hP 0 rfl rfl 0 (by decide) k12 (fun _ h9 => h9) rfl dX1_quietest_6 ?_
      refine va_get (D := D) (ci := 0) (v := .int (f 0)) (C := RX0) (T := TX0) (N := 17) hx hb hw0 (fun _ h => h) hown hK hP 1 rfl rfl 0 (by decide) k58 (fun _ h9 => h9) rfl dX1_quietest_9 ?_
      refine lv_icmp_ge (tgt := 44) hx hb dX1_quietest_12 (by decide) (fun h9 => absurd h9 (by rw [hg]; exact nI_ge (by omega) (by omega))) (fun c_12 => ?_)
      refine lv_aload_n hx hb dX1_quietest_15 rfl (lv_at hl 2 rfl) ?_
      refine va_get (D := D) (ci := 1) (v := .ref (a 0)) (C := RX1) (T := TX1) (N := 2) hx hb hw1 (fun _ h => h) hown hK hP 0 rfl rfl 0 (by decide) k12 (fun _ h9 => h9) rfl dX1_quietest_16 ?_
      refine va_get (D := D) (ci := 0) (v := .ref (a 4)) (C := RX0) (T := TX0) (N := 17) hx hb hw0 (fun _ h => h) hown hK hP 1 rfl rfl 13 (by decide) k86 (fun _ h9 => h9) rfl dX1_quietest_19 ?_
      refine lv_iload_n hx hb dX1_quietest_22 rfl (lv_at hl 0 rfl) ?_
      refine wIald hx hb hK hP 5 0 rfl rfl (i4 + 1) rfl (by omega) (by decide) dX1_quietest_23 ?_
      refine lv_aload_n hx hb dX1_quietest_24 rfl (lv_at hl 2 rfl) ?_
      refine va_get (D := D) (ci := 1) (v := .ref (a 0)) (C := RX1) (T := TX1) (N := 2) hx hb hw1 (fun _ h => h) hown hK hP 0 rfl rfl 0 (by decide) k12 (fun _ h9 => h9) rfl dX1_quietest_25 ?_
      refine va_get (D := D) (ci := 0) (v := .ref (a 4)) (C := RX0) (T := TX0) (N := 17) hx hb hw0 (fun _ h => h) hown hK hP 1 rfl rfl 13 (by decide) k86 (fun _ h9 => h9) rfl dX1_quietest_28 ?_
      refine lv_iload_n hx hb dX1_quietest_31 rfl (lv_at hl 1 rfl) ?_
      refine wIald hx hb hK hP 5 0 rfl rfl (dQuiet (r 3) i4) rfl (by omega) (by decide) dX1_quietest_32 ?_
      refine lv_icmp_le (tgt := 38) hx hb dX1_quietest_33 (by decide) (fun c_33 => ?_) (fun c_33 => ?_)
      · refine lv_iinc (v := nI ((i4 + 1) + 1)) (lv' := [(2, .int (nI ((i4 + 1) + 1))), (1, .int (nI (dQuiet (r 3) i4))), (0, .ref x0)]) hx hb dX1_quietest_38 hl (k := 0) rfl (nI_1 (i4 + 1)) (by decide) rfl (fun ls hl => ?_)
        refine lv_goto (tgt := 4) hx hb dX1_quietest_41 (by decide) ?_
        have e4 : dQuiet (r 3) (i4 + 1) = (dQuiet (r 3) i4) := by simp only [dQuiet, if_neg (Int32.not_lt.mpr c_33)]
        have hl : lv_has ls 3 [(2, .int (nI ((i4 + 1) + 1))), (1, .int (nI (dQuiet (r 3) (i4 + 1)))), (0, .ref x0)] := by rw [e4]; exact hl
        exact ih4 (i4 + 1) (by omega) _ _ _ hP hD hS (lv_sub hl [0, 1, 2] rfl)
      · refine lv_iload_n hx hb dX1_quietest_36 rfl (lv_at hl 0 rfl) ?_
        refine lv_istore_n (lv' := [(1, .int (nI (i4 + 1))), (2, .int (nI (i4 + 1))), (0, .ref x0)]) hx hb dX1_quietest_37 rfl hl (by decide) rfl (fun ls hl => ?_)
        refine lv_iinc (v := nI ((i4 + 1) + 1)) (lv' := [(2, .int (nI ((i4 + 1) + 1))), (1, .int (nI (i4 + 1))), (0, .ref x0)]) hx hb dX1_quietest_38 hl (k := 1) rfl (nI_1 (i4 + 1)) (by decide) rfl (fun ls hl => ?_)
        refine lv_goto (tgt := 4) hx hb dX1_quietest_41 (by decide) ?_
        have e4 : dQuiet (r 3) (i4 + 1) = (i4 + 1) := by simp only [dQuiet, if_pos (Int32.not_le.mp c_33)]
        have hl : lv_has ls 3 [(2, .int (nI ((i4 + 1) + 1))), (1, .int (nI (dQuiet (r 3) (i4 + 1)))), (0, .ref x0)] := by rw [e4]; exact hl
        exact ih4 (i4 + 1) (by omega) _ _ _ hP hD hS (lv_sub hl [0, 1, 2] rfl)
  exact loop4 (gg - 1) 0 (by omega) _ _ _ hP hD hS (lv_sub hl [0, 1, 2] rfl)
abbrev rmX1_meanUnsaid : Room := { frames := 1, cells := 0, slots := 0, locals := 22 }
set_option maxRecDepth 100000 in
set_option maxHeartbeats 4000000 in
theorem mX1_meanUnsaid (l : Launch) (D : va_G) (cI : ClassId) (x0 : Nat) (a b : Nat → Nat) (f f2 : Nat → Int32) (r r2 : Nat → Nat → Int32) (gg : Nat) (sz : Nat) (hg : f 0 = nI gg) (hg2 : gg ≤ 10) (hg0 : 0 < gg) (hnn : vf_n64 (FP.ddiv (FP.i2d (dSum (r 3) gg)) (FP.i2d (f 0)))) : wCt l yX1_meanUnsaid wsX1_meanUnsaid rmX1_meanUnsaid D [(cI, .int)] [.ref x0] (XO x0 a b ++ (DC cI a f r ++ DC cI b f2 r2)) sz 0 0 (wQd D (fun v (_ : Unit) => v = FP.ddiv (FP.i2d (dSum (r 3) gg)) (FP.i2d (f 0))) (fun _ : Unit => XO x0 a b ++ (DC cI a f r ++ DC cI b f2 r2))) := by
  refine wMet cX1_meanUnsaid 1 (some .double) (by decide) rfl (Nat.le_of_ble_eq_true rfl) ?_
  intro p e s m args below meth c A Q ls hQ hx hb hr hml hown hlocks hin hts hN hP hK hD hA hS hl
  have hl : lv_has ls 1 [(0, .ref x0)] := hl
  have hown : s.vm.findClass RX1 = some m.cls := hown
  have hw0 : ∀ w ∈ wsX00, w.before args s = true := fun w h => hts w (List.mem_cons_of_mem _ (List.mem_append_right _ h))
  have hw1 : ∀ w ∈ wsX10, w.before args s = true := fun w h => hts w (List.mem_cons_of_mem _ (List.mem_append_left _ (List.mem_append_right _ h)))
  have k12 := hts (.fieldLink RX1 12 "PauseLedger" "dinner" "LPauseLedger$Dinner;") (by decide +kernel)
  have k58 := hts (.fieldLink RX1 58 "PauseLedger$Dinner" "guests" "I") (by decide +kernel)
  refine lv_aload_n hx hb dX1_meanUnsaid_0 rfl (lv_at hl 0 rfl) ?_
  refine va_get (D := D) (ci := 1) (v := .ref (a 0)) (C := RX1) (T := TX1) (N := 2) hx hb hw1 (fun _ h => h) hown hK hP 0 rfl rfl 0 (by decide) k12 (fun _ h9 => h9) rfl dX1_meanUnsaid_1 ?_
  refine va_get (D := D) (ci := 0) (v := .int (f 0)) (C := RX0) (T := TX0) (N := 17) hx hb hw0 (fun _ h => h) hown hK hP 1 rfl rfl 0 (by decide) k58 (fun _ h9 => h9) rfl dX1_meanUnsaid_4 ?_
  refine lv_if_le (tgt := 30) hx hb dX1_meanUnsaid_7 (by decide) (fun h9 => absurd h9 (by rw [hg]; exact nI_nle hg0 (by omega))) (fun c_7 => ?_)
  refine lv_aload_n hx hb dX1_meanUnsaid_10 rfl (lv_at hl 0 rfl) ?_
  refine va_get (D := D) (ci := 1) (v := .ref (a 0)) (C := RX1) (T := TX1) (N := 2) hx hb hw1 (fun _ h => h) hown hK hP 0 rfl rfl 0 (by decide) k12 (fun _ h9 => h9) rfl dX1_meanUnsaid_11 ?_
  refine wCVi (pre := XO x0 a b) (Wc := DC cI a f r) (suf := DC cI b f2 r2) (As := []) (rest := []) ⟨hx, hb, hml, hown, hts⟩ (mX0_sumUnsaidByGuests l D cI a f r gg _ hg hg2) hN hA hK hS hP hD rfl 0 (r := (RX0, TX0, 17)) rfl rfl (cwV 0 hts gX1_meanUnsaid_X0_sumUnsaidByGuests rfl rfl rfl (by decide +kernel) ⟨Nat.le_of_ble_eq_true rfl, Nat.le_of_ble_eq_true rfl⟩) rfl hl.1 rfl (Nat.le_of_ble_eq_true rfl) dX1_meanUnsaid_14 ⟨Nat.zero_le _, Nat.zero_le _⟩ (fun r_14 u_14 H locs hw hP hD hS => ?_)
  have hw : r_14 = dSum (r 3) gg := hw
  subst hw
  have hP : va_P D vwCl (XO x0 a b ++ (DC cI a f r ++ DC cI b f2 r2)) H := hP
  have hD : va_D A (XO x0 a b ++ (DC cI a f r ++ DC cI b f2 r2)) := hD
  refine lv_i2d hx hb dX1_meanUnsaid_17 ?_
  refine lv_aload_n hx hb dX1_meanUnsaid_18 rfl (lv_at hl 0 rfl) ?_
  refine va_get (D := D) (ci := 1) (v := .ref (a 0)) (C := RX1) (T := TX1) (N := 2) hx hb hw1 (fun _ h => h) hown hK hP 0 rfl rfl 0 (by decide) k12 (fun _ h9 => h9) rfl dX1_meanUnsaid_19 ?_
  refine va_get (D := D) (ci := 0) (v := .int (f 0)) (C := RX0) (T := TX0) (N := 17) hx hb hw0 (fun _ h => h) hown hK hP 1 rfl rfl 0 (by decide) k58 (fun _ h9 => h9) rfl dX1_meanUnsaid_22 ?_
  refine lv_i2d hx hb dX1_meanUnsaid_25 ?_
  refine lv_ddiv hx hb dX1_meanUnsaid_26 (hnn) ?_
  refine lv_goto (tgt := 31) hx hb dX1_meanUnsaid_27 (by decide) ?_
  exact wRd hQ hx hb hr hlocks hP hD hS dX1_meanUnsaid_31 () (rfl) rfl
