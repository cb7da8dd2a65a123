abbrev rmL_newDinner : Room := { frames := 4, cells := 0, slots := 0, locals := 85 }
set_option maxRecDepth 100000 in
set_option maxHeartbeats 4000000 in
theorem mL_newDinner (l : Launch) (D : va_G) (cI cJ : ClassId) (x0 : Nat) (a b : Nat → Nat) (f f2 : Nat → Int32) (r r2 : Nat → Nat → Int32) (q : Nat) (v : Nat → Int64) (gg w : Nat) (sz : Nat) (hg : f 0 = nI gg) (hg2 : gg ≤ 10) (hg0 : 0 < gg) (w1 : 2 ≤ w) (w2 : w ≤ 10) : wCw l yL_newDinner wsL_newDinner rmL_newDinner D [(cI, .int), (cJ, .long)] [.ref x0, .int (nI w), .ref q] (XO x0 a b ++ (DC cI a f r ++ (DC cI b f2 r2 ++ OUT cJ q v))) sz 0 0 (wQi D (fun v9 (_ : Unit) => v9 = 0) (fun _ : Unit => XO x0 a b ++ (DC cI a (dBeginF f (nI w)) (dBeginR r) ++ (DC cI b f2 r2 ++ OUT cJ q (vp_updL v 0 ((dRate (f 0) (f 6) (r 3) gg).toInt64)))))) := by
  refine wMetW cL_newDinner 4 (some .int) [(0, 9, 12, 13)] (by decide) rfl (Nat.le_of_ble_eq_true rfl) ?_
  intro p e s m args below meth c A Q ls hQ hx hb hr hml hown hlocks hin hts hN hE hZ hT hP hK hD hA hS hl
  have hK1 : va_K D vwCl [(cI, .int)] s := hK.sub [0] rfl
  have hl : lv_has ls 4 [(0, .ref x0), (1, .int (nI w)), (2, .ref q)] := hl
  have hown : s.vm.findClass RL = some m.cls := hown
  refine lv_aload_n hx hb dL_newDinner_0 rfl (lv_at hl 2 rfl) ?_
  refine lv_iconst (v := 0) hx hb dL_newDinner_1 (by decide) ?_
  refine lv_aload_n hx hb dL_newDinner_2 rfl (lv_at hl 0 rfl) ?_
  refine lv_iload_n hx hb dL_newDinner_3 rfl (lv_at hl 1 rfl) ?_
  refine wCVi (pre := ([] : va_W)) (Wc := XO x0 a b ++ (DC cI a f r ++ DC cI b f2 r2)) (suf := OUT cJ q v) (As := [.int (nI w)]) (rest := [.int 0, .ref q]) ⟨hx, hb, hml, hown, hts⟩ (mX1_newDinner l D cI x0 a b f f2 r r2 gg w _ hg hg2 hg0 w1 w2) hN hA hK1 hS hP hD rfl 0 (r := (RX1, TX1, 2)) rfl rfl (cwV 1 hts gL_newDinner_X1_newDinner rfl rfl rfl (by decide +kernel) ⟨Nat.le_of_ble_eq_true rfl, Nat.le_of_ble_eq_true rfl⟩) rfl hl.1 rfl (Nat.le_of_ble_eq_true rfl) dL_newDinner_4 ⟨Nat.zero_le _, Nat.zero_le _⟩ (fun r_4 u_4 H locs hw hP hD hS => ?_)
  have hw : r_4 = dRate (f 0) (f 6) (r 3) gg := hw
  subst hw
  have hP : va_P D vwCl (XO x0 a b ++ (DC cI a (dBeginF f (nI w)) (dBeginR r) ++ (DC cI b f2 r2 ++ OUT cJ q v))) H := hP
  have hD : va_D A (XO x0 a b ++ (DC cI a (dBeginF f (nI w)) (dBeginR r) ++ (DC cI b f2 r2 ++ OUT cJ q v))) := hD
  refine lv_i2l hx hb dL_newDinner_7 rfl ?_
  refine va_last hx hb hK hP hD hS 17 1 rfl rfl (i := 0) (vp_in_nI (n := 0) (N := 1) (by decide) (by decide)) dL_newDinner_8 (fun H locs hP hD hS => ?_)
  have hP : va_P D vwCl (XO x0 a b ++ (DC cI a (dBeginF f (nI w)) (dBeginR r) ++ (DC cI b f2 r2 ++ OUT cJ q (vp_updL v 0 ((dRate (f 0) (f 6) (r 3) gg).toInt64))))) H := hP
  have hD : va_D A (XO x0 a b ++ (DC cI a (dBeginF f (nI w)) (dBeginR r) ++ (DC cI b f2 r2 ++ OUT cJ q (vp_updL v 0 ((dRate (f 0) (f 6) (r 3) gg).toInt64))))) := hD
  refine lv_goto (tgt := 15) hx hb dL_newDinner_9 (by decide) ?_
  refine lv_iconst (v := 0) hx hb dL_newDinner_15 (by decide) ?_
  exact wRi hQ hx hb hr hlocks hP hD hS dL_newDinner_16 () (rfl) rfl
abbrev rmL_setLimit : Room := { frames := 2, cells := 0, slots := 0, locals := 44 }
set_option maxRecDepth 100000 in
set_option maxHeartbeats 4000000 in
theorem mL_setLimit (l : Launch) (D : va_G) (cI cJ : ClassId) (x0 : Nat) (a b : Nat → Nat) (f f2 : Nat → Int32) (r r2 : Nat → Nat → Int32) (q : Nat) (v : Nat → Int64) (w : Nat) (sz : Nat) (w1 : 1 ≤ w) (w2 : w ≤ 30) : wCw l yL_setLimit wsL_setLimit rmL_setLimit D [(cI, .int), (cJ, .long)] [.ref x0, .int (nI w), .ref q] (XO x0 a b ++ (DC cI a f r ++ (DC cI b f2 r2 ++ OUT cJ q v))) sz 0 0 (wQi D (fun v9 (_ : Unit) => v9 = 0) (fun _ : Unit => XO x0 a b ++ (DC cI a (upd f 2 (nI w)) r ++ (DC cI b f2 r2 ++ OUT cJ q (vp_updL v 0 ((f 2).toInt64)))))) := by
  refine wMetW cL_setLimit 4 (some .int) [(0, 9, 12, 13)] (by decide) rfl (Nat.le_of_ble_eq_true rfl) ?_
  intro p e s m args below meth c A Q ls hQ hx hb hr hml hown hlocks hin hts hN hE hZ hT hP hK hD hA hS hl
  have hK1 : va_K D vwCl [(cI, .int)] s := hK.sub [0] rfl
  have hl : lv_has ls 4 [(0, .ref x0), (1, .int (nI w)), (2, .ref q)] := hl
  have hown : s.vm.findClass RL = some m.cls := hown
  refine lv_aload_n hx hb dL_setLimit_0 rfl (lv_at hl 2 rfl) ?_
  refine lv_iconst (v := 0) hx hb dL_setLimit_1 (by decide) ?_
  refine lv_aload_n hx hb dL_setLimit_2 rfl (lv_at hl 0 rfl) ?_
  refine lv_iload_n hx hb dL_setLimit_3 rfl (lv_at hl 1 rfl) ?_
  refine wCVi (pre := ([] : va_W)) (Wc := XO x0 a b ++ (DC cI a f r ++ DC cI b f2 r2)) (suf := OUT cJ q v) (As := [.int (nI w)]) (rest := [.int 0, .ref q]) ⟨hx, hb, hml, hown, hts⟩ (mX1_setLimit l D cI x0 a b f f2 r r2 w _ w1 w2) hN hA hK1 hS hP hD rfl 0 (r := (RX1, TX1, 2)) rfl rfl (cwV 1 hts gL_setLimit_X1_setLimit rfl rfl rfl (by decide +kernel) ⟨Nat.le_of_ble_eq_true rfl, Nat.le_of_ble_eq_true rfl⟩) rfl hl.1 rfl (Nat.le_of_ble_eq_true rfl) dL_setLimit_4 ⟨Nat.zero_le _, Nat.zero_le _⟩ (fun r_4 u_4 H locs hw hP hD hS => ?_)
  have hw : r_4 = f 2 := hw
  subst hw
  have hP : va_P D vwCl (XO x0 a b ++ (DC cI a (upd f 2 (nI w)) r ++ (DC cI b f2 r2 ++ OUT cJ q v))) H := hP
  have hD : va_D A (XO x0 a b ++ (DC cI a (upd f 2 (nI w)) r ++ (DC cI b f2 r2 ++ OUT cJ q v))) := hD
  refine lv_i2l hx hb dL_setLimit_7 rfl ?_
  refine va_last hx hb hK hP hD hS 17 1 rfl rfl (i := 0) (vp_in_nI (n := 0) (N := 1) (by decide) (by decide)) dL_setLimit_8 (fun H locs hP hD hS => ?_)
  have hP : va_P D vwCl (XO x0 a b ++ (DC cI a (upd f 2 (nI w)) r ++ (DC cI b f2 r2 ++ OUT cJ q (vp_updL v 0 ((f 2).toInt64))))) H := hP
  have hD : va_D A (XO x0 a b ++ (DC cI a (upd f 2 (nI w)) r ++ (DC cI b f2 r2 ++ OUT cJ q (vp_updL v 0 ((f 2).toInt64))))) := hD
  refine lv_goto (tgt := 15) hx hb dL_setLimit_9 (by decide) ?_
  refine lv_iconst (v := 0) hx hb dL_setLimit_15 (by decide) ?_
  exact wRi hQ hx hb hr hlocks hP hD hS dL_setLimit_16 () (rfl) rfl
abbrev rmL_speak : Room := { frames := 2, cells := 0, slots := 0, locals := 45 }
set_option maxRecDepth 100000 in
set_option maxHeartbeats 4000000 in
theorem mL_speak (l : Launch) (D : va_G) (cI cJ : ClassId) (x0 : Nat) (a b : Nat → Nat) (f f2 : Nat → Int32) (r r2 : Nat → Nat → Int32) (q : Nat) (v : Nat → Int64) (gg x w : Nat) (sz : Nat) (hg : f 0 = nI gg) (hg2 : gg ≤ 10) (hg0 : 0 < gg) (ux : x < gg) (w1 : 1 ≤ w) (w2 : w ≤ 60) : wCw l yL_speak wsL_speak rmL_speak D [(cI, .int), (cJ, .long)] [.ref x0, .int (nI x), .int (nI w), .ref q] (XO x0 a b ++ (DC cI a f r ++ (DC cI b f2 r2 ++ OUT cJ q v))) sz 0 0 (wQi D (fun v9 (_ : Unit) => v9 = 0) (fun _ : Unit => XO x0 a b ++ (DC cI a (dSpeak f r x (nI w)).1 (dSpeak f r x (nI w)).2 ++ (DC cI b f2 r2 ++ OUT cJ q (vp_updL v 0 ((dInt f x).toInt64)))))) := by
  refine wMetW cL_speak 5 (some .int) [(0, 10, 13, 22), (0, 10, 17, 13)] (by decide) rfl (Nat.le_of_ble_eq_true rfl) ?_
  intro p e s m args below meth c A Q ls hQ hx hb hr hml hown hlocks hin hts hN hE hZ hT hP hK hD hA hS hl
  have hK1 : va_K D vwCl [(cI, .int)] s := hK.sub [0] rfl
  have hl : lv_has ls 5 [(0, .ref x0), (1, .int (nI x)), (2, .int (nI w)), (3, .ref q)] := hl
  have hown : s.vm.findClass RL = some m.cls := hown
  refine lv_aload_n hx hb dL_speak_0 rfl (lv_at hl 3 rfl) ?_
  refine lv_iconst (v := 0) hx hb dL_speak_1 (by decide) ?_
  refine lv_aload_n hx hb dL_speak_2 rfl (lv_at hl 0 rfl) ?_
  refine lv_iload_n hx hb dL_speak_3 rfl (lv_at hl 1 rfl) ?_
  refine lv_iload_n hx hb dL_speak_4 rfl (lv_at hl 2 rfl) ?_
  refine wCVi (pre := ([] : va_W)) (Wc := XO x0 a b ++ (DC cI a f r ++ DC cI b f2 r2)) (suf := OUT cJ q v) (As := [.int (nI x), .int (nI w)]) (rest := [.int 0, .ref q]) ⟨hx, hb, hml, hown, hts⟩ (mX1_speak l D cI x0 a b f f2 r r2 gg x w _ hg hg2 hg0 ux w1 w2) hN hA hK1 hS hP hD rfl 0 (r := (RX1, TX1, 2)) rfl rfl (cwV 2 hts gL_speak_X1_speak rfl rfl rfl (by decide +kernel) ⟨Nat.le_of_ble_eq_true rfl, Nat.le_of_ble_eq_true rfl⟩) rfl hl.1 rfl (Nat.le_of_ble_eq_true rfl) dL_speak_5 ⟨Nat.zero_le _, Nat.zero_le _⟩ (fun r_5 u_5 H locs hw hP hD hS => ?_)
  have hw : r_5 = dInt f x := hw
  subst hw
  have hP : va_P D vwCl (XO x0 a b ++ (DC cI a (dSpeak f r x (nI w)).1 (dSpeak f r x (nI w)).2 ++ (DC cI b f2 r2 ++ OUT cJ q v))) H := hP
  have hD : va_D A (XO x0 a b ++ (DC cI a (dSpeak f r x (nI w)).1 (dSpeak f r x (nI w)).2 ++ (DC cI b f2 r2 ++ OUT cJ q v))) := hD
  refine lv_i2l hx hb dL_speak_8 rfl ?_
  refine va_last hx hb hK hP hD hS 17 1 rfl rfl (i := 0) (vp_in_nI (n := 0) (N := 1) (by decide) (by decide)) dL_speak_9 (fun H locs hP hD hS => ?_)
  have hP : va_P D vwCl (XO x0 a b ++ (DC cI a (dSpeak f r x (nI w)).1 (dSpeak f r x (nI w)).2 ++ (DC cI b f2 r2 ++ OUT cJ q (vp_updL v 0 ((dInt f x).toInt64))))) H := hP
  have hD : va_D A (XO x0 a b ++ (DC cI a (dSpeak f r x (nI w)).1 (dSpeak f r x (nI w)).2 ++ (DC cI b f2 r2 ++ OUT cJ q (vp_updL v 0 ((dInt f x).toInt64))))) := hD
  refine lv_goto (tgt := 21) hx hb dL_speak_10 (by decide) ?_
  refine lv_iconst (v := 0) hx hb dL_speak_21 (by decide) ?_
  exact wRi hQ hx hb hr hlocks hP hD hS dL_speak_22 () (rfl) rfl
abbrev rmL_cough : Room := { frames := 3, cells := 0, slots := 0, locals := 67 }
set_option maxRecDepth 100000 in
set_option maxHeartbeats 4000000 in
theorem mL_cough (l : Launch) (D : va_G) (cI cJ : ClassId) (x0 : Nat) (a b : Nat → Nat) (f f2 : Nat → Int32) (r r2 : Nat → Nat → Int32) (q : Nat) (v : Nat → Int64) (gg x w : Nat) (sz : Nat) (hg : f 0 = nI gg) (hg2 : gg ≤ 10) (hg0 : 0 < gg) (ux : x < gg) (w1 : 1 ≤ w) (w2 : w ≤ 9) : wCw l yL_cough wsL_cough rmL_cough D [(cI, .int), (cJ, .long)] [.ref x0, .int (nI x), .int (nI w), .ref q] (XO x0 a b ++ (DC cI a f r ++ (DC cI b f2 r2 ++ OUT cJ q v))) sz 0 0 (wQi D (fun v9 (_ : Unit) => v9 = 0) (fun _ : Unit => XO x0 a b ++ (DC cI a (dLetCough f r x (nI w)).1 (dLetCough f r x (nI w)).2 ++ (DC cI b f2 r2 ++ OUT cJ q (vp_updL v 0 ((dCough f (nI x) (nI w)).toInt64)))))) := by
  refine wMetW cL_cough 5 (some .int) [(0, 10, 13, 22), (0, 10, 17, 13)] (by decide) rfl (Nat.le_of_ble_eq_true rfl) ?_
  intro p e s m args below meth c A Q ls hQ hx hb hr hml hown hlocks hin hts hN hE hZ hT hP hK hD hA hS hl
  have hK1 : va_K D vwCl [(cI, .int)] s := hK.sub [0] rfl
  have hl : lv_has ls 5 [(0, .ref x0), (1, .int (nI x)), (2, .int (nI w)), (3, .ref q)] := hl
  have hown : s.vm.findClass RL = some m.cls := hown
  refine lv_aload_n hx hb dL_cough_0 rfl (lv_at hl 3 rfl) ?_
  refine lv_iconst (v := 0) hx hb dL_cough_1 (by decide) ?_
  refine lv_aload_n hx hb dL_cough_2 rfl (lv_at hl 0 rfl) ?_
  refine lv_iload_n hx hb dL_cough_3 rfl (lv_at hl 1 rfl) ?_
  refine lv_iload_n hx hb dL_cough_4 rfl (lv_at hl 2 rfl) ?_
  refine wCVi (pre := ([] : va_W)) (Wc := XO x0 a b ++ (DC cI a f r ++ DC cI b f2 r2)) (suf := OUT cJ q v) (As := [.int (nI x), .int (nI w)]) (rest := [.int 0, .ref q]) ⟨hx, hb, hml, hown, hts⟩ (mX1_cough l D cI x0 a b f f2 r r2 gg x w _ hg hg2 hg0 ux w1 w2) hN hA hK1 hS hP hD rfl 0 (r := (RX1, TX1, 2)) rfl rfl (cwV 2 hts gL_cough_X1_cough rfl rfl rfl (by decide +kernel) ⟨Nat.le_of_ble_eq_true rfl, Nat.le_of_ble_eq_true rfl⟩) rfl hl.1 rfl (Nat.le_of_ble_eq_true rfl) dL_cough_5 ⟨Nat.zero_le _, Nat.zero_le _⟩ (fun r_5 u_5 H locs hw hP hD hS => ?_)
  have hw : r_5 = dCough f (nI x) (nI w) := hw
  subst hw
  have hP : va_P D vwCl (XO x0 a b ++ (DC cI a (dLetCough f r x (nI w)).1 (dLetCough f r x (nI w)).2 ++ (DC cI b f2 r2 ++ OUT cJ q v))) H := hP
  have hD : va_D A (XO x0 a b ++ (DC cI a (dLetCough f r x (nI w)).1 (dLetCough f r x (nI w)).2 ++ (DC cI b f2 r2 ++ OUT cJ q v))) := hD
  refine lv_i2l hx hb dL_cough_8 rfl ?_
  refine va_last hx hb hK hP hD hS 17 1 rfl rfl (i := 0) (vp_in_nI (n := 0) (N := 1) (by decide) (by decide)) dL_cough_9 (fun H locs hP hD hS => ?_)
  have hP : va_P D vwCl (XO x0 a b ++ (DC cI a (dLetCough f r x (nI w)).1 (dLetCough f r x (nI w)).2 ++ (DC cI b f2 r2 ++ OUT cJ q (vp_updL v 0 ((dCough f (nI x) (nI w)).toInt64))))) H := hP
  have hD : va_D A (XO x0 a b ++ (DC cI a (dLetCough f r x (nI w)).1 (dLetCough f r x (nI w)).2 ++ (DC cI b f2 r2 ++ OUT cJ q (vp_updL v 0 ((dCough f (nI x) (nI w)).toInt64))))) := hD
  refine lv_goto (tgt := 21) hx hb dL_cough_10 (by decide) ?_
  refine lv_iconst (v := 0) hx hb dL_cough_21 (by decide) ?_
  exact wRi hQ hx hb hr hlocks hP hD hS dL_cough_22 () (rfl) rfl
abbrev rmL_glance : Room := { frames := 5, cells := 0, slots := 0, locals := 111 }
set_option maxRecDepth 100000 in
set_option maxHeartbeats 4000000 in
theorem mL_glance (l : Launch) (D : va_G) (cI cJ : ClassId) (x0 : Nat) (a b : Nat → Nat) (f f2 : Nat → Int32) (r r2 : Nat → Nat → Int32) (q : Nat) (v : Nat → Int64) (gg x y n : Nat) (sz : Nat) (hg : f 0 = nI gg) (hg2 : gg ≤ 10) (hg0 : 0 < gg) (ux : x < gg) (uy : y < gg) (hne : ¬ nI x = nI y) (hfree : r 4 (x * 10 + y) = -1) (hn : f 9 = nI n) (hn1 : n < 100) : wCw l yL_glance wsL_glance rmL_glance D [(cI, .int), (cJ, .long)] [.ref x0, .int (nI x), .int (nI y), .ref q] (XO x0 a b ++ (DC cI a f r ++ (DC cI b f2 r2 ++ OUT cJ q v))) sz 0 0 (wQi D (fun v9 (_ : Unit) => v9 = 0) (fun _ : Unit => XO x0 a b ++ (DC cI a (dSend f r x y n).1 (dSend f r x y n).2 ++ (DC cI b f2 r2 ++ OUT cJ q (vp_updL v 0 ((2 * dSeats (f 0) (nI x) (nI y)).toInt64)))))) := by
  refine wMetW cL_glance 5 (some .int) [(0, 10, 13, 22), (0, 10, 17, 13), (0, 10, 21, 30)] (by decide) rfl (Nat.le_of_ble_eq_true rfl) ?_
  intro p e s m args below meth c A Q ls hQ hx hb hr hml hown hlocks hin hts hN hE hZ hT hP hK hD hA hS hl
  have hK1 : va_K D vwCl [(cI, .int)] s := hK.sub [0] rfl
  have hl : lv_has ls 5 [(0, .ref x0), (1, .int (nI x)), (2, .int (nI y)), (3, .ref q)] := hl
  have hown : s.vm.findClass RL = some m.cls := hown
  refine lv_aload_n hx hb dL_glance_0 rfl (lv_at hl 3 rfl) ?_
  refine lv_iconst (v := 0) hx hb dL_glance_1 (by decide) ?_
  refine lv_aload_n hx hb dL_glance_2 rfl (lv_at hl 0 rfl) ?_
  refine lv_iload_n hx hb dL_glance_3 rfl (lv_at hl 1 rfl) ?_
  refine lv_iload_n hx hb dL_glance_4 rfl (lv_at hl 2 rfl) ?_
  refine wCVi (pre := ([] : va_W)) (Wc := XO x0 a b ++ (DC cI a f r ++ DC cI b f2 r2)) (suf := OUT cJ q v) (As := [.int (nI x), .int (nI y)]) (rest := [.int 0, .ref q]) ⟨hx, hb, hml, hown, hts⟩ (mX1_glance l D cI x0 a b f f2 r r2 gg x y n _ hg hg2 hg0 ux uy hne hfree hn hn1) hN hA hK1 hS hP hD rfl 0 (r := (RX1, TX1, 2)) rfl rfl (cwV 2 hts gL_glance_X1_glance rfl rfl rfl (by decide +kernel) ⟨Nat.le_of_ble_eq_true rfl, Nat.le_of_ble_eq_true rfl⟩) rfl hl.1 rfl (Nat.le_of_ble_eq_true rfl) dL_glance_5 ⟨Nat.zero_le _, Nat.zero_le _⟩ (fun r_5 u_5 H locs hw hP hD hS => ?_)
  have hw : r_5 = 2 * dSeats (f 0) (nI x) (nI y) := hw
  subst hw
  have hP : va_P D vwCl (XO x0 a b ++ (DC cI a (dSend f r x y n).1 (dSend f r x y n).2 ++ (DC cI b f2 r2 ++ OUT cJ q v))) H := hP
  have hD : va_D A (XO x0 a b ++ (DC cI a (dSend f r x y n).1 (dSend f r x y n).2 ++ (DC cI b f2 r2 ++ OUT cJ q v))) := hD
  refine lv_i2l hx hb dL_glance_8 rfl ?_
  refine va_last hx hb hK hP hD hS 17 1 rfl rfl (i := 0) (vp_in_nI (n := 0) (N := 1) (by decide) (by decide)) dL_glance_9 (fun H locs hP hD hS => ?_)
  have hP : va_P D vwCl (XO x0 a b ++ (DC cI a (dSend f r x y n).1 (dSend f r x y n).2 ++ (DC cI b f2 r2 ++ OUT cJ q (vp_updL v 0 ((2 * dSeats (f 0) (nI x) (nI y)).toInt64))))) H := hP
  have hD : va_D A (XO x0 a b ++ (DC cI a (dSend f r x y n).1 (dSend f r x y n).2 ++ (DC cI b f2 r2 ++ OUT cJ q (vp_updL v 0 ((2 * dSeats (f 0) (nI x) (nI y)).toInt64))))) := hD
  refine lv_goto (tgt := 25) hx hb dL_glance_10 (by decide) ?_
  refine lv_iconst (v := 0) hx hb dL_glance_25 (by decide) ?_
  exact wRi hQ hx hb hr hlocks hP hD hS dL_glance_26 () (rfl) rfl
abbrev rmL_pass : Room := { frames := 6, cells := 0, slots := 0, locals := 131 }
set_option maxRecDepth 100000 in
set_option maxHeartbeats 4000000 in
theorem mL_pass (l : Launch) (D : va_G) (cI cJ : ClassId) (x0 : Nat) (a b : Nat → Nat) (f f2 : Nat → Int32) (r r2 : Nat → Nat → Int32) (q : Nat) (v : Nat → Int64) (gg n : Nat) (L : List Nat) (sz : Nat) (hg : f 0 = nI gg) (hg2 : gg ≤ 10) (hg0 : 0 < gg) (n1 : 1 ≤ n) (n2 : n ≤ 120) (hk : ∀ i, i < n → dOk (dGo (f, r) L i).1.1 (dGo (f, r) L i).1.2 (dGo (f, r) L i).2) (hg9 : (dGo (f, r) L n).1.1 0 = nI gg) : wCw l yL_pass wsL_pass rmL_pass D [(cI, .int), (cJ, .long)] [.ref x0, .int (nI n), .ref q] (XO x0 a b ++ (DC cI a f r ++ (DC cI b f2 r2 ++ OUT cJ q v))) sz 0 0 (wQi D (fun v9 (_ : Unit) => v9 = 0) (fun _ : Unit => XO x0 a b ++ (DC cI a (dGo (f, r) L n).1.1 (dGo (f, r) L n).1.2 ++ (DC cI b f2 r2 ++ OUT cJ q (vp_updL v 0 ((dSum ((dGo (f, r) L n).1.2 3) gg + (dGo (f, r) L n).1.1 6 - (dSum (r 3) gg + f 6)).toInt64)))))) := by
  refine wMetW cL_pass 4 (some .int) [(0, 9, 12, 13)] (by decide) rfl (Nat.le_of_ble_eq_true rfl) ?_
  intro p e s m args below meth c A Q ls hQ hx hb hr hml hown hlocks hin hts hN hE hZ hT hP hK hD hA hS hl
  have hK1 : va_K D vwCl [(cI, .int)] s := hK.sub [0] rfl
  have hl : lv_has ls 4 [(0, .ref x0), (1, .int (nI n)), (2, .ref q)] := hl
  have hown : s.vm.findClass RL = some m.cls := hown
  refine lv_aload_n hx hb dL_pass_0 rfl (lv_at hl 2 rfl) ?_
  refine lv_iconst (v := 0) hx hb dL_pass_1 (by decide) ?_
  refine lv_aload_n hx hb dL_pass_2 rfl (lv_at hl 0 rfl) ?_
  refine lv_iload_n hx hb dL_pass_3 rfl (lv_at hl 1 rfl) ?_
  refine wCVi (pre := ([] : va_W)) (Wc := XO x0 a b ++ (DC cI a f r ++ DC cI b f2 r2)) (suf := OUT cJ q v) (As := [.int (nI n)]) (rest := [.int 0, .ref q]) ⟨hx, hb, hml, hown, hts⟩ (mX1_pass l D cI x0 a b f f2 r r2 gg n L _ hg hg2 hg0 n1 n2 hk hg9) hN hA hK1 hS hP hD rfl 0 (r := (RX1, TX1, 2)) rfl rfl (cwV 1 hts gL_pass_X1_pass rfl rfl rfl (by decide +kernel) ⟨Nat.le_of_ble_eq_true rfl, Nat.le_of_ble_eq_true rfl⟩) rfl hl.1 rfl (Nat.le_of_ble_eq_true rfl) dL_pass_4 ⟨Nat.zero_le _, Nat.zero_le _⟩ (fun r_4 u_4 H locs hw hP hD hS => ?_)
  have hw : r_4 = dSum ((dGo (f, r) L n).1.2 3) gg + (dGo (f, r) L n).1.1 6 - (dSum (r 3) gg + f 6) := hw
  subst hw
  have hP : va_P D vwCl (XO x0 a b ++ (DC cI a (dGo (f, r) L n).1.1 (dGo (f, r) L n).1.2 ++ (DC cI b f2 r2 ++ OUT cJ q v))) H := hP
  have hD : va_D A (XO x0 a b ++ (DC cI a (dGo (f, r) L n).1.1 (dGo (f, r) L n).1.2 ++ (DC cI b f2 r2 ++ OUT cJ q v))) := hD
  refine lv_i2l hx hb dL_pass_7 rfl ?_
  refine va_last hx hb hK hP hD hS 17 1 rfl rfl (i := 0) (vp_in_nI (n := 0) (N := 1) (by decide) (by decide)) dL_pass_8 (fun H locs hP hD hS => ?_)
  have hP : va_P D vwCl (XO x0 a b ++ (DC cI a (dGo (f, r) L n).1.1 (dGo (f, r) L n).1.2 ++ (DC cI b f2 r2 ++ OUT cJ q (vp_updL v 0 ((dSum ((dGo (f, r) L n).1.2 3) gg + (dGo (f, r) L n).1.1 6 - (dSum (r 3) gg + f 6)).toInt64))))) H := hP
  have hD : va_D A (XO x0 a b ++ (DC cI a (dGo (f, r) L n).1.1 (dGo (f, r) L n).1.2 ++ (DC cI b f2 r2 ++ OUT cJ q (vp_updL v 0 ((dSum ((dGo (f, r) L n).1.2 3) gg + (dGo (f, r) L n).1.1 6 - (dSum (r 3) gg + f 6)).toInt64))))) := hD
  refine lv_goto (tgt := 15) hx hb dL_pass_9 (by decide) ?_
  refine lv_iconst (v := 0) hx hb dL_pass_15 (by decide) ?_
  exact wRi hQ hx hb hr hlocks hP hD hS dL_pass_16 () (rfl) rfl
abbrev rmL_seatsApart : Room := { frames := 3, cells := 0, slots := 0, locals := 66 }
set_option maxRecDepth 100000 in
set_option maxHeartbeats 4000000 in
theorem mL_seatsApart (l : Launch) (D : va_G) (cI cJ : ClassId) (x0 : Nat) (a b : Nat → Nat) (f f2 : Nat → Int32) (r r2 : Nat → Nat → Int32) (q : Nat) (v : Nat → Int64) (gg x y : Nat) (sz : Nat) (hg : f 0 = nI gg) (hg2 : gg ≤ 10) (hg0 : 0 < gg) (ux : x < gg) (uy : y < gg) : wCw l yL_seatsApart wsL_seatsApart rmL_seatsApart D [(cI, .int), (cJ, .long)] [.ref x0, .int (nI x), .int (nI y), .ref q] (XO x0 a b ++ (DC cI a f r ++ (DC cI b f2 r2 ++ OUT cJ q v))) sz 0 0 (wQi D (fun v9 (_ : Unit) => v9 = 0) (fun _ : Unit => XO x0 a b ++ (DC cI a f r ++ (DC cI b f2 r2 ++ OUT cJ q (vp_updL v 0 ((dSeats (f 0) (nI x) (nI y)).toInt64)))))) := by
  refine wMetW cL_seatsApart 5 (some .int) [(0, 10, 13, 22)] (by decide) rfl (Nat.le_of_ble_eq_true rfl) ?_
  intro p e s m args below meth c A Q ls hQ hx hb hr hml hown hlocks hin hts hN hE hZ hT hP hK hD hA hS hl
  have hK1 : va_K D vwCl [(cI, .int)] s := hK.sub [0] rfl
  have hl : lv_has ls 5 [(0, .ref x0), (1, .int (nI x)), (2, .int (nI y)), (3, .ref q)] := hl
  have hown : s.vm.findClass RL = some m.cls := hown
  refine lv_aload_n hx hb dL_seatsApart_0 rfl (lv_at hl 3 rfl) ?_
  refine lv_iconst (v := 0) hx hb dL_seatsApart_1 (by decide) ?_
  refine lv_aload_n hx hb dL_seatsApart_2 rfl (lv_at hl 0 rfl) ?_
  refine lv_iload_n hx hb dL_seatsApart_3 rfl (lv_at hl 1 rfl) ?_
  refine lv_iload_n hx hb dL_seatsApart_4 rfl (lv_at hl 2 rfl) ?_
  refine wCVi (pre := ([] : va_W)) (Wc := XO x0 a b ++ (DC cI a f r ++ DC cI b f2 r2)) (suf := OUT cJ q v) (As := [.int (nI x), .int (nI y)]) (rest := [.int 0, .ref q]) ⟨hx, hb, hml, hown, hts⟩ (mX1_seatsApart l D cI x0 a b f f2 r r2 gg x y _ hg hg2 hg0 ux uy) hN hA hK1 hS hP hD rfl 0 (r := (RX1, TX1, 2)) rfl rfl (cwV 2 hts gL_seatsApart_X1_seatsApart rfl rfl rfl (by decide +kernel) ⟨Nat.le_of_ble_eq_true rfl, Nat.le_of_ble_eq_true rfl⟩) rfl hl.1 rfl (Nat.le_of_ble_eq_true rfl) dL_seatsApart_5 ⟨Nat.zero_le _, Nat.zero_le _⟩ (fun r_5 u_5 H locs hw hP hD hS => ?_)
  have hw : r_5 = dSeats (f 0) (nI x) (nI y) := hw
  subst hw
  have hP : va_P D vwCl (XO x0 a b ++ (DC cI a f r ++ (DC cI b f2 r2 ++ OUT cJ q v))) H := hP
  have hD : va_D A (XO x0 a b ++ (DC cI a f r ++ (DC cI b f2 r2 ++ OUT cJ q v))) := hD
  refine lv_i2l hx hb dL_seatsApart_8 rfl ?_
  refine va_last hx hb hK hP hD hS 17 1 rfl rfl (i := 0) (vp_in_nI (n := 0) (N := 1) (by decide) (by decide)) dL_seatsApart_9 (fun H locs hP hD hS => ?_)
  have hP : va_P D vwCl (XO x0 a b ++ (DC cI a f r ++ (DC cI b f2 r2 ++ OUT cJ q (vp_updL v 0 ((dSeats (f 0) (nI x) (nI y)).toInt64))))) H := hP
  have hD : va_D A (XO x0 a b ++ (DC cI a f r ++ (DC cI b f2 r2 ++ OUT cJ q (vp_updL v 0 ((dSeats (f 0) (nI x) (nI y)).toInt64))))) := hD
  refine lv_goto (tgt := 17) hx hb dL_seatsApart_10 (by decide) ?_
  refine lv_iconst (v := 0) hx hb dL_seatsApart_17 (by decide) ?_
  exact wRi hQ hx hb hr hlocks hP hD hS dL_seatsApart_18 () (rfl) rfl
abbrev rmL_spokenBy : Room := { frames := 2, cells := 0, slots := 0, locals := 42 }
set_option maxRecDepth 100000 in
set_option maxHeartbeats 4000000 in
theorem mL_spokenBy (l : Launch) (D : va_G) (cI cJ : ClassId) (x0 : Nat) (a b : Nat → Nat) (f f2 : Nat → Int32) (r r2 : Nat → Nat → Int32) (q : Nat) (v : Nat → Int64) (gg x : Nat) (sz : Nat) (hg : f 0 = nI gg) (hg2 : gg ≤ 10) (hg0 : 0 < gg) (ux : x < gg) : wCw l yL_spokenBy wsL_spokenBy rmL_spokenBy D [(cI, .int), (cJ, .long)] [.ref x0, .int (nI x), .ref q] (XO x0 a b ++ (DC cI a f r ++ (DC cI b f2 r2 ++ OUT cJ q v))) sz 0 0 (wQi D (fun v9 (_ : Unit) => v9 = 0) (fun _ : Unit => XO x0 a b ++ (DC cI a f r ++ (DC cI b f2 r2 ++ OUT cJ q (vp_updL v 0 ((r 0 x).toInt64)))))) := by
  refine wMetW cL_spokenBy 4 (some .int) [(0, 9, 12, 22)] (by decide) rfl (Nat.le_of_ble_eq_true rfl) ?_
  intro p e s m args below meth c A Q ls hQ hx hb hr hml hown hlocks hin hts hN hE hZ hT hP hK hD hA hS hl
  have hK1 : va_K D vwCl [(cI, .int)] s := hK.sub [0] rfl
  have hl : lv_has ls 4 [(0, .ref x0), (1, .int (nI x)), (2, .ref q)] := hl
  have hown : s.vm.findClass RL = some m.cls := hown
  refine lv_aload_n hx hb dL_spokenBy_0 rfl (lv_at hl 2 rfl) ?_
  refine lv_iconst (v := 0) hx hb dL_spokenBy_1 (by decide) ?_
  refine lv_aload_n hx hb dL_spokenBy_2 rfl (lv_at hl 0 rfl) ?_
  refine lv_iload_n hx hb dL_spokenBy_3 rfl (lv_at hl 1 rfl) ?_
  refine wCVi (pre := ([] : va_W)) (Wc := XO x0 a b ++ (DC cI a f r ++ DC cI b f2 r2)) (suf := OUT cJ q v) (As := [.int (nI x)]) (rest := [.int 0, .ref q]) ⟨hx, hb, hml, hown, hts⟩ (mX1_spokenBy l D cI x0 a b f f2 r r2 gg x _ hg hg2 hg0 ux) hN hA hK1 hS hP hD rfl 0 (r := (RX1, TX1, 2)) rfl rfl (cwV 1 hts gL_spokenBy_X1_spokenBy rfl rfl rfl (by decide +kernel) ⟨Nat.le_of_ble_eq_true rfl, Nat.le_of_ble_eq_true rfl⟩) rfl hl.1 rfl (Nat.le_of_ble_eq_true rfl) dL_spokenBy_4 ⟨Nat.zero_le _, Nat.zero_le _⟩ (fun r_4 u_4 H locs hw hP hD hS => ?_)
  have hw : r_4 = r 0 x := hw
  subst hw
  have hP : va_P D vwCl (XO x0 a b ++ (DC cI a f r ++ (DC cI b f2 r2 ++ OUT cJ q v))) H := hP
  have hD : va_D A (XO x0 a b ++ (DC cI a f r ++ (DC cI b f2 r2 ++ OUT cJ q v))) := hD
  refine lv_i2l hx hb dL_spokenBy_7 rfl ?_
  refine va_last hx hb hK hP hD hS 17 1 rfl rfl (i := 0) (vp_in_nI (n := 0) (N := 1) (by decide) (by decide)) dL_spokenBy_8 (fun H locs hP hD hS => ?_)
  have hP : va_P D vwCl (XO x0 a b ++ (DC cI a f r ++ (DC cI b f2 r2 ++ OUT cJ q (vp_updL v 0 ((r 0 x).toInt64))))) H := hP
  have hD : va_D A (XO x0 a b ++ (DC cI a f r ++ (DC cI b f2 r2 ++ OUT cJ q (vp_updL v 0 ((r 0 x).toInt64))))) := hD
  refine lv_goto (tgt := 15) hx hb dL_spokenBy_9 (by decide) ?_
  refine lv_iconst (v := 0) hx hb dL_spokenBy_15 (by decide) ?_
  exact wRi hQ hx hb hr hlocks hP hD hS dL_spokenBy_16 () (rfl) rfl
abbrev rmL_interruptionsBy : Room := { frames := 2, cells := 0, slots := 0, locals := 42 }
set_option maxRecDepth 100000 in
set_option maxHeartbeats 4000000 in
theorem mL_interruptionsBy (l : Launch) (D : va_G) (cI cJ : ClassId) (x0 : Nat) (a b : Nat → Nat) (f f2 : Nat → Int32) (r r2 : Nat → Nat → Int32) (q : Nat) (v : Nat → Int64) (gg x : Nat) (sz : Nat) (hg : f 0 = nI gg) (hg2 : gg ≤ 10) (hg0 : 0 < gg) (ux : x < gg) : wCw l yL_interruptionsBy wsL_interruptionsBy rmL_interruptionsBy D [(cI, .int), (cJ, .long)] [.ref x0, .int (nI x), .ref q] (XO x0 a b ++ (DC cI a f r ++ (DC cI b f2 r2 ++ OUT cJ q v))) sz 0 0 (wQi D (fun v9 (_ : Unit) => v9 = 0) (fun _ : Unit => XO x0 a b ++ (DC cI a f r ++ (DC cI b f2 r2 ++ OUT cJ q (vp_updL v 0 ((r 1 x).toInt64)))))) := by
  refine wMetW cL_interruptionsBy 4 (some .int) [(0, 9, 12, 22)] (by decide) rfl (Nat.le_of_ble_eq_true rfl) ?_
  intro p e s m args below meth c A Q ls hQ hx hb hr hml hown hlocks hin hts hN hE hZ hT hP hK hD hA hS hl
  have hK1 : va_K D vwCl [(cI, .int)] s := hK.sub [0] rfl
  have hl : lv_has ls 4 [(0, .ref x0), (1, .int (nI x)), (2, .ref q)] := hl
  have hown : s.vm.findClass RL = some m.cls := hown
  refine lv_aload_n hx hb dL_interruptionsBy_0 rfl (lv_at hl 2 rfl) ?_
  refine lv_iconst (v := 0) hx hb dL_interruptionsBy_1 (by decide) ?_
  refine lv_aload_n hx hb dL_interruptionsBy_2 rfl (lv_at hl 0 rfl) ?_
  refine lv_iload_n hx hb dL_interruptionsBy_3 rfl (lv_at hl 1 rfl) ?_
  refine wCVi (pre := ([] : va_W)) (Wc := XO x0 a b ++ (DC cI a f r ++ DC cI b f2 r2)) (suf := OUT cJ q v) (As := [.int (nI x)]) (rest := [.int 0, .ref q]) ⟨hx, hb, hml, hown, hts⟩ (mX1_interruptionsBy l D cI x0 a b f f2 r r2 gg x _ hg hg2 hg0 ux) hN hA hK1 hS hP hD rfl 0 (r := (RX1, TX1, 2)) rfl rfl (cwV 1 hts gL_interruptionsBy_X1_interruptionsBy rfl rfl rfl (by decide +kernel) ⟨Nat.le_of_ble_eq_true rfl, Nat.le_of_ble_eq_true rfl⟩) rfl hl.1 rfl (Nat.le_of_ble_eq_true rfl) dL_interruptionsBy_4 ⟨Nat.zero_le _, Nat.zero_le _⟩ (fun r_4 u_4 H locs hw hP hD hS => ?_)
  have hw : r_4 = r 1 x := hw
  subst hw
  have hP : va_P D vwCl (XO x0 a b ++ (DC cI a f r ++ (DC cI b f2 r2 ++ OUT cJ q v))) H := hP
  have hD : va_D A (XO x0 a b ++ (DC cI a f r ++ (DC cI b f2 r2 ++ OUT cJ q v))) := hD
  refine lv_i2l hx hb dL_interruptionsBy_7 rfl ?_
  refine va_last hx hb hK hP hD hS 17 1 rfl rfl (i := 0) (vp_in_nI (n := 0) (N := 1) (by decide) (by decide)) dL_interruptionsBy_8 (fun H locs hP hD hS => ?_)
  have hP : va_P D vwCl (XO x0 a b ++ (DC cI a f r ++ (DC cI b f2 r2 ++ OUT cJ q (vp_updL v 0 ((r 1 x).toInt64))))) H := hP
  have hD : va_D A (XO x0 a b ++ (DC cI a f r ++ (DC cI b f2 r2 ++ OUT cJ q (vp_updL v 0 ((r 1 x).toInt64))))) := hD
  refine lv_goto (tgt := 15) hx hb dL_interruptionsBy_9 (by decide) ?_
  refine lv_iconst (v := 0) hx hb dL_interruptionsBy_15 (by decide) ?_
  exact wRi hQ hx hb hr hlocks hP hD hS dL_interruptionsBy_16 () (rfl) rfl
abbrev rmL_coughsOf : Room := { frames := 2, cells := 0, slots := 0, locals := 42 }
set_option maxRecDepth 100000 in
set_option maxHeartbeats 4000000 in
theorem mL_coughsOf (l : Launch) (D : va_G) (cI cJ : ClassId) (x0 : Nat) (a b : Nat → Nat) (f f2 : Nat → Int32) (r r2 : Nat → Nat → Int32) (q : Nat) (v : Nat → Int64) (gg x : Nat) (sz : Nat) (hg : f 0 = nI gg) (hg2 : gg ≤ 10) (hg0 : 0 < gg) (ux : x < gg) : wCw l yL_coughsOf wsL_coughsOf rmL_coughsOf D [(cI, .int), (cJ, .long)] [.ref x0, .int (nI x), .ref q] (XO x0 a b ++ (DC cI a f r ++ (DC cI b f2 r2 ++ OUT cJ q v))) sz 0 0 (wQi D (fun v9 (_ : Unit) => v9 = 0) (fun _ : Unit => XO x0 a b ++ (DC cI a f r ++ (DC cI b f2 r2 ++ OUT cJ q (vp_updL v 0 ((r 2 x).toInt64)))))) := by
  refine wMetW cL_coughsOf 4 (some .int) [(0, 9, 12, 22)] (by decide) rfl (Nat.le_of_ble_eq_true rfl) ?_
  intro p e s m args below meth c A Q ls hQ hx hb hr hml hown hlocks hin hts hN hE hZ hT hP hK hD hA hS hl
  have hK1 : va_K D vwCl [(cI, .int)] s := hK.sub [0] rfl
  have hl : lv_has ls 4 [(0, .ref x0), (1, .int (nI x)), (2, .ref q)] := hl
  have hown : s.vm.findClass RL = some m.cls := hown
  refine lv_aload_n hx hb dL_coughsOf_0 rfl (lv_at hl 2 rfl) ?_
  refine lv_iconst (v := 0) hx hb dL_coughsOf_1 (by decide) ?_
  refine lv_aload_n hx hb dL_coughsOf_2 rfl (lv_at hl 0 rfl) ?_
  refine lv_iload_n hx hb dL_coughsOf_3 rfl (lv_at hl 1 rfl) ?_
  refine wCVi (pre := ([] : va_W)) (Wc := XO x0 a b ++ (DC cI a f r ++ DC cI b f2 r2)) (suf := OUT cJ q v) (As := [.int (nI x)]) (rest := [.int 0, .ref q]) ⟨hx, hb, hml, hown, hts⟩ (mX1_coughsOf l D cI x0 a b f f2 r r2 gg x _ hg hg2 hg0 ux) hN hA hK1 hS hP hD rfl 0 (r := (RX1, TX1, 2)) rfl rfl (cwV 1 hts gL_coughsOf_X1_coughsOf rfl rfl rfl (by decide +kernel) ⟨Nat.le_of_ble_eq_true rfl, Nat.le_of_ble_eq_true rfl⟩) rfl hl.1 rfl (Nat.le_of_ble_eq_true rfl) dL_coughsOf_4 ⟨Nat.zero_le _, Nat.zero_le _⟩ (fun r_4 u_4 H locs hw hP hD hS => ?_)
  have hw : r_4 = r 2 x := hw
  subst hw
  have hP : va_P D vwCl (XO x0 a b ++ (DC cI a f r ++ (DC cI b f2 r2 ++ OUT cJ q v))) H := hP
  have hD : va_D A (XO x0 a b ++ (DC cI a f r ++ (DC cI b f2 r2 ++ OUT cJ q v))) := hD
  refine lv_i2l hx hb dL_coughsOf_7 rfl ?_
  refine va_last hx hb hK hP hD hS 17 1 rfl rfl (i := 0) (vp_in_nI (n := 0) (N := 1) (by decide) (by decide)) dL_coughsOf_8 (fun H locs hP hD hS => ?_)
  have hP : va_P D vwCl (XO x0 a b ++ (DC cI a f r ++ (DC cI b f2 r2 ++ OUT cJ q (vp_updL v 0 ((r 2 x).toInt64))))) H := hP
  have hD : va_D A (XO x0 a b ++ (DC cI a f r ++ (DC cI b f2 r2 ++ OUT cJ q (vp_updL v 0 ((r 2 x).toInt64))))) := hD
  refine lv_goto (tgt := 15) hx hb dL_coughsOf_9 (by decide) ?_
  refine lv_iconst (v := 0) hx hb dL_coughsOf_15 (by decide) ?_
  exact wRi hQ hx hb hr hlocks hP hD hS dL_coughsOf_16 () (rfl) rfl
abbrev rmL_unsaidBy : Room := { frames := 2, cells := 0, slots := 0, locals := 42 }
set_option maxRecDepth 100000 in
set_option maxHeartbeats 4000000 in
theorem mL_unsaidBy (l : Launch) (D : va_G) (cI cJ : ClassId) (x0 : Nat) (a b : Nat → Nat) (f f2 : Nat → Int32) (r r2 : Nat → Nat → Int32) (q : Nat) (v : Nat → Int64) (gg x : Nat) (sz : Nat) (hg : f 0 = nI gg) (hg2 : gg ≤ 10) (hg0 : 0 < gg) (ux : x < gg) : wCw l yL_unsaidBy wsL_unsaidBy rmL_unsaidBy D [(cI, .int), (cJ, .long)] [.ref x0, .int (nI x), .ref q] (XO x0 a b ++ (DC cI a f r ++ (DC cI b f2 r2 ++ OUT cJ q v))) sz 0 0 (wQi D (fun v9 (_ : Unit) => v9 = 0) (fun _ : Unit => XO x0 a b ++ (DC cI a f r ++ (DC cI b f2 r2 ++ OUT cJ q (vp_updL v 0 ((r 3 x).toInt64)))))) := by
  refine wMetW cL_unsaidBy 4 (some .int) [(0, 9, 12, 22)] (by decide) rfl (Nat.le_of_ble_eq_true rfl) ?_
  intro p e s m args below meth c A Q ls hQ hx hb hr hml hown hlocks hin hts hN hE hZ hT hP hK hD hA hS hl
  have hK1 : va_K D vwCl [(cI, .int)] s := hK.sub [0] rfl
  have hl : lv_has ls 4 [(0, .ref x0), (1, .int (nI x)), (2, .ref q)] := hl
  have hown : s.vm.findClass RL = some m.cls := hown
  refine lv_aload_n hx hb dL_unsaidBy_0 rfl (lv_at hl 2 rfl) ?_
  refine lv_iconst (v := 0) hx hb dL_unsaidBy_1 (by decide) ?_
  refine lv_aload_n hx hb dL_unsaidBy_2 rfl (lv_at hl 0 rfl) ?_
  refine lv_iload_n hx hb dL_unsaidBy_3 rfl (lv_at hl 1 rfl) ?_
  refine wCVi (pre := ([] : va_W)) (Wc := XO x0 a b ++ (DC cI a f r ++ DC cI b f2 r2)) (suf := OUT cJ q v) (As := [.int (nI x)]) (rest := [.int 0, .ref q]) ⟨hx, hb, hml, hown, hts⟩ (mX1_unsaidBy l D cI x0 a b f f2 r r2 gg x _ hg hg2 hg0 ux) hN hA hK1 hS hP hD rfl 0 (r := (RX1, TX1, 2)) rfl rfl (cwV 1 hts gL_unsaidBy_X1_unsaidBy rfl rfl rfl (by decide +kernel) ⟨Nat.le_of_ble_eq_true rfl, Nat.le_of_ble_eq_true rfl⟩) rfl hl.1 rfl (Nat.le_of_ble_eq_true rfl) dL_unsaidBy_4 ⟨Nat.zero_le _, Nat.zero_le _⟩ (fun r_4 u_4 H locs hw hP hD hS => ?_)
  have hw : r_4 = r 3 x := hw
  subst hw
  have hP : va_P D vwCl (XO x0 a b ++ (DC cI a f r ++ (DC cI b f2 r2 ++ OUT cJ q v))) H := hP
  have hD : va_D A (XO x0 a b ++ (DC cI a f r ++ (DC cI b f2 r2 ++ OUT cJ q v))) := hD
  refine lv_i2l hx hb dL_unsaidBy_7 rfl ?_
  refine va_last hx hb hK hP hD hS 17 1 rfl rfl (i := 0) (vp_in_nI (n := 0) (N := 1) (by decide) (by decide)) dL_unsaidBy_8 (fun H locs hP hD hS => ?_)
  have hP : va_P D vwCl (XO x0 a b ++ (DC cI a f r ++ (DC cI b f2 r2 ++ OUT cJ q (vp_updL v 0 ((r 3 x).toInt64))))) H := hP
  have hD : va_D A (XO x0 a b ++ (DC cI a f r ++ (DC cI b f2 r2 ++ OUT cJ q (vp_updL v 0 ((r 3 x).toInt64))))) := hD
  refine lv_goto (tgt := 15) hx hb dL_unsaidBy_9 (by decide) ?_
  refine lv_iconst (v := 0) hx hb dL_unsaidBy_15 (by decide) ?_
  exact wRi hQ hx hb hr hlocks hP hD hS dL_unsaidBy_16 () (rfl) rfl
abbrev rmL_secondsToGo : Room := { frames := 3, cells := 0, slots := 0, locals := 64 }
set_option maxRecDepth 100000 in
set_option maxHeartbeats 4000000 in
theorem mL_secondsToGo (l : Launch) (D : va_G) (cI cJ : ClassId) (x0 : Nat) (a b : Nat → Nat) (f f2 : Nat → Int32) (r r2 : Nat → Nat → Int32) (q : Nat) (v : Nat → Int64) (gg x y : Nat) (sz : Nat) (hg : f 0 = nI gg) (hg2 : gg ≤ 10) (hg0 : 0 < gg) (ux : x < gg) (uy : y < gg) : wCw l yL_secondsToGo wsL_secondsToGo rmL_secondsToGo D [(cI, .int), (cJ, .long)] [.ref x0, .int (nI x), .int (nI y), .ref q] (XO x0 a b ++ (DC cI a f r ++ (DC cI b f2 r2 ++ OUT cJ q v))) sz 0 0 (wQi D (fun v9 (_ : Unit) => v9 = 0) (fun _ : Unit => XO x0 a b ++ (DC cI a f r ++ (DC cI b f2 r2 ++ OUT cJ q (vp_updL v 0 ((dToGo (r 4) (x * 10 + y)).toInt64)))))) := by
  refine wMetW cL_secondsToGo 5 (some .int) [(0, 10, 13, 22)] (by decide) rfl (Nat.le_of_ble_eq_true rfl) ?_
  intro p e s m args below meth c A Q ls hQ hx hb hr hml hown hlocks hin hts hN hE hZ hT hP hK hD hA hS hl
  have hK1 : va_K D vwCl [(cI, .int)] s := hK.sub [0] rfl
  have hl : lv_has ls 5 [(0, .ref x0), (1, .int (nI x)), (2, .int (nI y)), (3, .ref q)] := hl
  have hown : s.vm.findClass RL = some m.cls := hown
  refine lv_aload_n hx hb dL_secondsToGo_0 rfl (lv_at hl 3 rfl) ?_
  refine lv_iconst (v := 0) hx hb dL_secondsToGo_1 (by decide) ?_
  refine lv_aload_n hx hb dL_secondsToGo_2 rfl (lv_at hl 0 rfl) ?_
  refine lv_iload_n hx hb dL_secondsToGo_3 rfl (lv_at hl 1 rfl) ?_
  refine lv_iload_n hx hb dL_secondsToGo_4 rfl (lv_at hl 2 rfl) ?_
  refine wCVi (pre := ([] : va_W)) (Wc := XO x0 a b ++ (DC cI a f r ++ DC cI b f2 r2)) (suf := OUT cJ q v) (As := [.int (nI x), .int (nI y)]) (rest := [.int 0, .ref q]) ⟨hx, hb, hml, hown, hts⟩ (mX1_secondsToGo l D cI x0 a b f f2 r r2 gg x y _ hg hg2 hg0 ux uy) hN hA hK1 hS hP hD rfl 0 (r := (RX1, TX1, 2)) rfl rfl (cwV 2 hts gL_secondsToGo_X1_secondsToGo rfl rfl rfl (by decide +kernel) ⟨Nat.le_of_ble_eq_true rfl, Nat.le_of_ble_eq_true rfl⟩) rfl hl.1 rfl (Nat.le_of_ble_eq_true rfl) dL_secondsToGo_5 ⟨Nat.zero_le _, Nat.zero_le _⟩ (fun r_5 u_5 H locs hw hP hD hS => ?_)
  have hw : r_5 = dToGo (r 4) (x * 10 + y) := hw
  subst hw
  have hP : va_P D vwCl (XO x0 a b ++ (DC cI a f r ++ (DC cI b f2 r2 ++ OUT cJ q v))) H := hP
  have hD : va_D A (XO x0 a b ++ (DC cI a f r ++ (DC cI b f2 r2 ++ OUT cJ q v))) := hD
  refine lv_i2l hx hb dL_secondsToGo_8 rfl ?_
  refine va_last hx hb hK hP hD hS 17 1 rfl rfl (i := 0) (vp_in_nI (n := 0) (N := 1) (by decide) (by decide)) dL_secondsToGo_9 (fun H locs hP hD hS => ?_)
  have hP : va_P D vwCl (XO x0 a b ++ (DC cI a f r ++ (DC cI b f2 r2 ++ OUT cJ q (vp_updL v 0 ((dToGo (r 4) (x * 10 + y)).toInt64))))) H := hP
  have hD : va_D A (XO x0 a b ++ (DC cI a f r ++ (DC cI b f2 r2 ++ OUT cJ q (vp_updL v 0 ((dToGo (r 4) (x * 10 + y)).toInt64))))) := hD
  refine lv_goto (tgt := 17) hx hb dL_secondsToGo_10 (by decide) ?_
  refine lv_iconst (v := 0) hx hb dL_secondsToGo_17 (by decide) ?_
  exact wRi hQ hx hb hr hlocks hP hD hS dL_secondsToGo_18 () (rfl) rfl
abbrev rmL_caughtBy : Room := { frames := 2, cells := 0, slots := 0, locals := 43 }
set_option maxRecDepth 100000 in
set_option maxHeartbeats 4000000 in
theorem mL_caughtBy (l : Launch) (D : va_G) (cI cJ : ClassId) (x0 : Nat) (a b : Nat → Nat) (f f2 : Nat → Int32) (r r2 : Nat → Nat → Int32) (q : Nat) (v : Nat → Int64) (gg x y : Nat) (sz : Nat) (hg : f 0 = nI gg) (hg2 : gg ≤ 10) (hg0 : 0 < gg) (ux : x < gg) (uy : y < gg) : wCw l yL_caughtBy wsL_caughtBy rmL_caughtBy D [(cI, .int), (cJ, .long)] [.ref x0, .int (nI x), .int (nI y), .ref q] (XO x0 a b ++ (DC cI a f r ++ (DC cI b f2 r2 ++ OUT cJ q v))) sz 0 0 (wQi D (fun v9 (_ : Unit) => v9 = 0) (fun _ : Unit => XO x0 a b ++ (DC cI a f r ++ (DC cI b f2 r2 ++ OUT cJ q (vp_updL v 0 ((r 5 (x * 10 + y)).toInt64)))))) := by
  refine wMetW cL_caughtBy 5 (some .int) [(0, 10, 13, 22)] (by decide) rfl (Nat.le_of_ble_eq_true rfl) ?_
  intro p e s m args below meth c A Q ls hQ hx hb hr hml hown hlocks hin hts hN hE hZ hT hP hK hD hA hS hl
  have hK1 : va_K D vwCl [(cI, .int)] s := hK.sub [0] rfl
  have hl : lv_has ls 5 [(0, .ref x0), (1, .int (nI x)), (2, .int (nI y)), (3, .ref q)] := hl
  have hown : s.vm.findClass RL = some m.cls := hown
  refine lv_aload_n hx hb dL_caughtBy_0 rfl (lv_at hl 3 rfl) ?_
  refine lv_iconst (v := 0) hx hb dL_caughtBy_1 (by decide) ?_
  refine lv_aload_n hx hb dL_caughtBy_2 rfl (lv_at hl 0 rfl) ?_
  refine lv_iload_n hx hb dL_caughtBy_3 rfl (lv_at hl 1 rfl) ?_
  refine lv_iload_n hx hb dL_caughtBy_4 rfl (lv_at hl 2 rfl) ?_
  refine wCVi (pre := ([] : va_W)) (Wc := XO x0 a b ++ (DC cI a f r ++ DC cI b f2 r2)) (suf := OUT cJ q v) (As := [.int (nI x), .int (nI y)]) (rest := [.int 0, .ref q]) ⟨hx, hb, hml, hown, hts⟩ (mX1_caughtBy l D cI x0 a b f f2 r r2 gg x y _ hg hg2 hg0 ux uy) hN hA hK1 hS hP hD rfl 0 (r := (RX1, TX1, 2)) rfl rfl (cwV 2 hts gL_caughtBy_X1_caughtBy rfl rfl rfl (by decide +kernel) ⟨Nat.le_of_ble_eq_true rfl, Nat.le_of_ble_eq_true rfl⟩) rfl hl.1 rfl (Nat.le_of_ble_eq_true rfl) dL_caughtBy_5 ⟨Nat.zero_le _, Nat.zero_le _⟩ (fun r_5 u_5 H locs hw hP hD hS => ?_)
  have hw : r_5 = r 5 (x * 10 + y) := hw
  subst hw
  have hP : va_P D vwCl (XO x0 a b ++ (DC cI a f r ++ (DC cI b f2 r2 ++ OUT cJ q v))) H := hP
  have hD : va_D A (XO x0 a b ++ (DC cI a f r ++ (DC cI b f2 r2 ++ OUT cJ q v))) := hD
  refine lv_i2l hx hb dL_caughtBy_8 rfl ?_
  refine va_last hx hb hK hP hD hS 17 1 rfl rfl (i := 0) (vp_in_nI (n := 0) (N := 1) (by decide) (by decide)) dL_caughtBy_9 (fun H locs hP hD hS => ?_)
  have hP : va_P D vwCl (XO x0 a b ++ (DC cI a f r ++ (DC cI b f2 r2 ++ OUT cJ q (vp_updL v 0 ((r 5 (x * 10 + y)).toInt64))))) H := hP
  have hD : va_D A (XO x0 a b ++ (DC cI a f r ++ (DC cI b f2 r2 ++ OUT cJ q (vp_updL v 0 ((r 5 (x * 10 + y)).toInt64))))) := hD
  refine lv_goto (tgt := 17) hx hb dL_caughtBy_10 (by decide) ?_
  refine lv_iconst (v := 0) hx hb dL_caughtBy_17 (by decide) ?_
  exact wRi hQ hx hb hr hlocks hP hD hS dL_caughtBy_18 () (rfl) rfl
abbrev rmL_allUnsaidIn : Room := { frames := 7, cells := 0, slots := 0, locals := 151 }
set_option maxRecDepth 100000 in
set_option maxHeartbeats 4000000 in
theorem mL_allUnsaidIn (l : Launch) (D : va_G) (cI cJ : ClassId) (x0 : Nat) (a b : Nat → Nat) (f f2 : Nat → Int32) (r r2 : Nat → Nat → Int32) (q : Nat) (v : Nat → Int64) (gg n : Nat) (L : List Nat) (sz : Nat) (hg : f 0 = nI gg) (hg2 : gg ≤ 10) (hg0 : 0 < gg) (n1 : 1 ≤ n) (n2 : n ≤ 120) (hk : ∀ i, i < n → dOk (dGo (f, r) L i).1.1 (dGo (f, r) L i).1.2 (dGo (f, r) L i).2) (hg9 : (dGo (f, r) L n).1.1 0 = nI gg) : wCw l yL_allUnsaidIn wsL_allUnsaidIn rmL_allUnsaidIn D [(cI, .int), (cJ, .long)] [.ref x0, .int (nI n), .ref q] (XO x0 a b ++ (DC cI a f r ++ (DC cI b f2 r2 ++ OUT cJ q v))) sz 0 0 (wQi D (fun v9 (_ : Unit) => v9 = 0) (fun _ : Unit => XO x0 a b ++ (DC cI a f r ++ (DC cI b (dGo (f, r) L n).1.1 (dGo (f, r) L n).1.2 ++ OUT cJ q (vp_updL v 0 ((dSum ((dGo (f, r) L n).1.2 3) gg + (dGo (f, r) L n).1.1 6).toInt64)))))) := by
  refine wMetW cL_allUnsaidIn 4 (some .int) [(0, 9, 12, 13)] (by decide) rfl (Nat.le_of_ble_eq_true rfl) ?_
  intro p e s m args below meth c A Q ls hQ hx hb hr hml hown hlocks hin hts hN hE hZ hT hP hK hD hA hS hl
  have hK1 : va_K D vwCl [(cI, .int)] s := hK.sub [0] rfl
  have hl : lv_has ls 4 [(0, .ref x0), (1, .int (nI n)), (2, .ref q)] := hl
  have hown : s.vm.findClass RL = some m.cls := hown
  refine lv_aload_n hx hb dL_allUnsaidIn_0 rfl (lv_at hl 2 rfl) ?_
  refine lv_iconst (v := 0) hx hb dL_allUnsaidIn_1 (by decide) ?_
  refine lv_aload_n hx hb dL_allUnsaidIn_2 rfl (lv_at hl 0 rfl) ?_
  refine lv_iload_n hx hb dL_allUnsaidIn_3 rfl (lv_at hl 1 rfl) ?_
  refine wCVi (pre := ([] : va_W)) (Wc := XO x0 a b ++ (DC cI a f r ++ DC cI b f2 r2)) (suf := OUT cJ q v) (As := [.int (nI n)]) (rest := [.int 0, .ref q]) ⟨hx, hb, hml, hown, hts⟩ (mX1_allUnsaidIn l D cI x0 a b f f2 r r2 gg n L _ hg hg2 hg0 n1 n2 hk hg9) hN hA hK1 hS hP hD rfl 0 (r := (RX1, TX1, 2)) rfl rfl (cwV 1 hts gL_allUnsaidIn_X1_allUnsaidIn rfl rfl rfl (by decide +kernel) ⟨Nat.le_of_ble_eq_true rfl, Nat.le_of_ble_eq_true rfl⟩) rfl hl.1 rfl (Nat.le_of_ble_eq_true rfl) dL_allUnsaidIn_4 ⟨Nat.zero_le _, Nat.zero_le _⟩ (fun r_4 u_4 H locs hw hP hD hS => ?_)
  have hw : r_4 = dSum ((dGo (f, r) L n).1.2 3) gg + (dGo (f, r) L n).1.1 6 := hw
  subst hw
  have hP : va_P D vwCl (XO x0 a b ++ (DC cI a f r ++ (DC cI b (dGo (f, r) L n).1.1 (dGo (f, r) L n).1.2 ++ OUT cJ q v))) H := hP
  have hD : va_D A (XO x0 a b ++ (DC cI a f r ++ (DC cI b (dGo (f, r) L n).1.1 (dGo (f, r) L n).1.2 ++ OUT cJ q v))) := hD
  refine lv_i2l hx hb dL_allUnsaidIn_7 rfl ?_
  refine va_last hx hb hK hP hD hS 17 1 rfl rfl (i := 0) (vp_in_nI (n := 0) (N := 1) (by decide) (by decide)) dL_allUnsaidIn_8 (fun H locs hP hD hS => ?_)
  have hP : va_P D vwCl (XO x0 a b ++ (DC cI a f r ++ (DC cI b (dGo (f, r) L n).1.1 (dGo (f, r) L n).1.2 ++ OUT cJ q (vp_updL v 0 ((dSum ((dGo (f, r) L n).1.2 3) gg + (dGo (f, r) L n).1.1 6).toInt64))))) H := hP
  have hD : va_D A (XO x0 a b ++ (DC cI a f r ++ (DC cI b (dGo (f, r) L n).1.1 (dGo (f, r) L n).1.2 ++ OUT cJ q (vp_updL v 0 ((dSum ((dGo (f, r) L n).1.2 3) gg + (dGo (f, r) L n).1.1 6).toInt64))))) := hD
  refine lv_goto (tgt := 15) hx hb dL_allUnsaidIn_9 (by decide) ?_
  refine lv_iconst (v := 0) hx hb dL_allUnsaidIn_15 (by decide) ?_
  exact wRi hQ hx hb hr hlocks hP hD hS dL_allUnsaidIn_16 () (rfl) rfl
abbrev rmL_wouldLeave : Room := { frames := 5, cells := 0, slots := 0, locals := 112 }
set_option maxRecDepth 100000 in
set_option maxHeartbeats 4000000 in
theorem mL_wouldLeave (l : Launch) (D : va_G) (cI cJ : ClassId) (x0 : Nat) (a b : Nat → Nat) (f f2 : Nat → Int32) (r r2 : Nat → Nat → Int32) (q : Nat) (v : Nat → Int64) (gg x y : Nat) (sz : Nat) (hg : f 0 = nI gg) (hg2 : gg ≤ 10) (hg0 : 0 < gg) (ux : x < gg) (uy : y < gg) (hne : ¬ nI x = nI y) (hfree : r 4 (x * 10 + y) = -1) : wCw l yL_wouldLeave wsL_wouldLeave rmL_wouldLeave D [(cI, .int), (cJ, .long)] [.ref x0, .int (nI x), .int (nI y), .ref q] (XO x0 a b ++ (DC cI a f r ++ (DC cI b f2 r2 ++ OUT cJ q v))) sz 0 0 (wQi D (fun v9 (_ : Unit) => v9 = 0) (fun _ : Unit => XO x0 a b ++ (DC cI a f r ++ (DC cI b f2 r2 ++ OUT cJ q (vp_updL v 0 ((dFate f (r 4) x y 0).toInt64)))))) := by
  refine wMetW cL_wouldLeave 5 (some .int) [(0, 10, 13, 22), (0, 10, 17, 13), (0, 10, 21, 30)] (by decide) rfl (Nat.le_of_ble_eq_true rfl) ?_
  intro p e s m args below meth c A Q ls hQ hx hb hr hml hown hlocks hin hts hN hE hZ hT hP hK hD hA hS hl
  have hK1 : va_K D vwCl [(cI, .int)] s := hK.sub [0] rfl
  have hl : lv_has ls 5 [(0, .ref x0), (1, .int (nI x)), (2, .int (nI y)), (3, .ref q)] := hl
  have hown : s.vm.findClass RL = some m.cls := hown
  refine lv_aload_n hx hb dL_wouldLeave_0 rfl (lv_at hl 3 rfl) ?_
  refine lv_iconst (v := 0) hx hb dL_wouldLeave_1 (by decide) ?_
  refine lv_aload_n hx hb dL_wouldLeave_2 rfl (lv_at hl 0 rfl) ?_
  refine lv_iload_n hx hb dL_wouldLeave_3 rfl (lv_at hl 1 rfl) ?_
  refine lv_iload_n hx hb dL_wouldLeave_4 rfl (lv_at hl 2 rfl) ?_
  refine wCVi (pre := ([] : va_W)) (Wc := XO x0 a b ++ (DC cI a f r ++ DC cI b f2 r2)) (suf := OUT cJ q v) (As := [.int (nI x), .int (nI y)]) (rest := [.int 0, .ref q]) ⟨hx, hb, hml, hown, hts⟩ (mX1_wouldLeave l D cI x0 a b f f2 r r2 gg x y _ hg hg2 hg0 ux uy hne hfree) hN hA hK1 hS hP hD rfl 0 (r := (RX1, TX1, 2)) rfl rfl (cwV 2 hts gL_wouldLeave_X1_wouldLeave rfl rfl rfl (by decide +kernel) ⟨Nat.le_of_ble_eq_true rfl, Nat.le_of_ble_eq_true rfl⟩) rfl hl.1 rfl (Nat.le_of_ble_eq_true rfl) dL_wouldLeave_5 ⟨Nat.zero_le _, Nat.zero_le _⟩ (fun r_5 u_5 H locs hw hP hD hS => ?_)
  have hw : r_5 = dFate f (r 4) x y 0 := hw
  subst hw
  have hP : va_P D vwCl (XO x0 a b ++ (DC cI a f r ++ (DC cI b f2 r2 ++ OUT cJ q v))) H := hP
  have hD : va_D A (XO x0 a b ++ (DC cI a f r ++ (DC cI b f2 r2 ++ OUT cJ q v))) := hD
  refine lv_i2l hx hb dL_wouldLeave_8 rfl ?_
  refine va_last hx hb hK hP hD hS 17 1 rfl rfl (i := 0) (vp_in_nI (n := 0) (N := 1) (by decide) (by decide)) dL_wouldLeave_9 (fun H locs hP hD hS => ?_)
  have hP : va_P D vwCl (XO x0 a b ++ (DC cI a f r ++ (DC cI b f2 r2 ++ OUT cJ q (vp_updL v 0 ((dFate f (r 4) x y 0).toInt64))))) H := hP
  have hD : va_D A (XO x0 a b ++ (DC cI a f r ++ (DC cI b f2 r2 ++ OUT cJ q (vp_updL v 0 ((dFate f (r 4) x y 0).toInt64))))) := hD
  refine lv_goto (tgt := 25) hx hb dL_wouldLeave_10 (by decide) ?_
  refine lv_iconst (v := 0) hx hb dL_wouldLeave_25 (by decide) ?_
  exact wRi hQ hx hb hr hlocks hP hD hS dL_wouldLeave_26 () (rfl) rfl
abbrev rmL_bestMoment : Room := { frames := 5, cells := 0, slots := 0, locals := 113 }
set_option maxRecDepth 100000 in
set_option maxHeartbeats 4000000 in
theorem mL_bestMoment (l : Launch) (D : va_G) (cI cJ : ClassId) (x0 : Nat) (a b : Nat → Nat) (f f2 : Nat → Int32) (r r2 : Nat → Nat → Int32) (q : Nat) (v : Nat → Int64) (gg x y : Nat) (sz : Nat) (hg : f 0 = nI gg) (hg2 : gg ≤ 10) (hg0 : 0 < gg) (ux : x < gg) (uy : y < gg) (hne : ¬ nI x = nI y) (hfree : r 4 (x * 10 + y) = -1) : wCw l yL_bestMoment wsL_bestMoment rmL_bestMoment D [(cI, .int), (cJ, .long)] [.ref x0, .int (nI x), .int (nI y), .ref q] (XO x0 a b ++ (DC cI a f r ++ (DC cI b f2 r2 ++ OUT cJ q v))) sz 0 0 (wQi D (fun v9 (_ : Unit) => v9 = 0) (fun _ : Unit => XO x0 a b ++ (DC cI a f r ++ (DC cI b f2 r2 ++ OUT cJ q (vp_updL v 0 ((dBest (fun k => dFate f (r 4) x y (nI k)) 61 0).toInt64)))))) := by
  refine wMetW cL_bestMoment 5 (some .int) [(0, 10, 13, 22), (0, 10, 17, 13), (0, 10, 21, 30)] (by decide) rfl (Nat.le_of_ble_eq_true rfl) ?_
  intro p e s m args below meth c A Q ls hQ hx hb hr hml hown hlocks hin hts hN hE hZ hT hP hK hD hA hS hl
  have hK1 : va_K D vwCl [(cI, .int)] s := hK.sub [0] rfl
  have hl : lv_has ls 5 [(0, .ref x0), (1, .int (nI x)), (2, .int (nI y)), (3, .ref q)] := hl
  have hown : s.vm.findClass RL = some m.cls := hown
  refine lv_aload_n hx hb dL_bestMoment_0 rfl (lv_at hl 3 rfl) ?_
  refine lv_iconst (v := 0) hx hb dL_bestMoment_1 (by decide) ?_
  refine lv_aload_n hx hb dL_bestMoment_2 rfl (lv_at hl 0 rfl) ?_
  refine lv_iload_n hx hb dL_bestMoment_3 rfl (lv_at hl 1 rfl) ?_
  refine lv_iload_n hx hb dL_bestMoment_4 rfl (lv_at hl 2 rfl) ?_
  refine wCVi (pre := ([] : va_W)) (Wc := XO x0 a b ++ (DC cI a f r ++ DC cI b f2 r2)) (suf := OUT cJ q v) (As := [.int (nI x), .int (nI y)]) (rest := [.int 0, .ref q]) ⟨hx, hb, hml, hown, hts⟩ (mX1_bestMoment l D cI x0 a b f f2 r r2 gg x y _ hg hg2 hg0 ux uy hne hfree) hN hA hK1 hS hP hD rfl 0 (r := (RX1, TX1, 2)) rfl rfl (cwV 2 hts gL_bestMoment_X1_bestMoment rfl rfl rfl (by decide +kernel) ⟨Nat.le_of_ble_eq_true rfl, Nat.le_of_ble_eq_true rfl⟩) rfl hl.1 rfl (Nat.le_of_ble_eq_true rfl) dL_bestMoment_5 ⟨Nat.zero_le _, Nat.zero_le _⟩ (fun r_5 u_5 H locs hw hP hD hS => ?_)
  have hw : r_5 = dBest (fun k => dFate f (r 4) x y (nI k)) 61 0 := hw
  subst hw
  have hP : va_P D vwCl (XO x0 a b ++ (DC cI a f r ++ (DC cI b f2 r2 ++ OUT cJ q v))) H := hP
  have hD : va_D A (XO x0 a b ++ (DC cI a f r ++ (DC cI b f2 r2 ++ OUT cJ q v))) := hD
  refine lv_i2l hx hb dL_bestMoment_8 rfl ?_
  refine va_last hx hb hK hP hD hS 17 1 rfl rfl (i := 0) (vp_in_nI (n := 0) (N := 1) (by decide) (by decide)) dL_bestMoment_9 (fun H locs hP hD hS => ?_)
  have hP : va_P D vwCl (XO x0 a b ++ (DC cI a f r ++ (DC cI b f2 r2 ++ OUT cJ q (vp_updL v 0 ((dBest (fun k => dFate f (r 4) x y (nI k)) 61 0).toInt64))))) H := hP
  have hD : va_D A (XO x0 a b ++ (DC cI a f r ++ (DC cI b f2 r2 ++ OUT cJ q (vp_updL v 0 ((dBest (fun k => dFate f (r 4) x y (nI k)) 61 0).toInt64))))) := hD
  refine lv_goto (tgt := 25) hx hb dL_bestMoment_10 (by decide) ?_
  refine lv_iconst (v := 0) hx hb dL_bestMoment_25 (by decide) ?_
  exact wRi hQ hx hb hr hlocks hP hD hS dL_bestMoment_26 () (rfl) rfl
abbrev rmL_ratingIn : Room := { frames := 7, cells := 0, slots := 0, locals := 151 }
set_option maxRecDepth 100000 in
set_option maxHeartbeats 4000000 in
theorem mL_ratingIn (l : Launch) (D : va_G) (cI cJ : ClassId) (x0 : Nat) (a b : Nat → Nat) (f f2 : Nat → Int32) (r r2 : Nat → Nat → Int32) (q : Nat) (v : Nat → Int64) (gg n : Nat) (L : List Nat) (sz : Nat) (hg : f 0 = nI gg) (hg2 : gg ≤ 10) (hg0 : 0 < gg) (n1 : 1 ≤ n) (n2 : n ≤ 120) (hk : ∀ i, i < n → dOk (dGo (f, r) L i).1.1 (dGo (f, r) L i).1.2 (dGo (f, r) L i).2) (hg9 : (dGo (f, r) L n).1.1 0 = nI gg) : wCw l yL_ratingIn wsL_ratingIn rmL_ratingIn D [(cI, .int), (cJ, .long)] [.ref x0, .int (nI n), .ref q] (XO x0 a b ++ (DC cI a f r ++ (DC cI b f2 r2 ++ OUT cJ q v))) sz 0 0 (wQi D (fun v9 (_ : Unit) => v9 = 0) (fun _ : Unit => XO x0 a b ++ (DC cI a f r ++ (DC cI b (dGo (f, r) L n).1.1 (dGo (f, r) L n).1.2 ++ OUT cJ q (vp_updL v 0 ((dRate ((dGo (f, r) L n).1.1 0) ((dGo (f, r) L n).1.1 6) ((dGo (f, r) L n).1.2 3) gg).toInt64)))))) := by
  refine wMetW cL_ratingIn 4 (some .int) [(0, 9, 12, 13)] (by decide) rfl (Nat.le_of_ble_eq_true rfl) ?_
  intro p e s m args below meth c A Q ls hQ hx hb hr hml hown hlocks hin hts hN hE hZ hT hP hK hD hA hS hl
  have hK1 : va_K D vwCl [(cI, .int)] s := hK.sub [0] rfl
  have hl : lv_has ls 4 [(0, .ref x0), (1, .int (nI n)), (2, .ref q)] := hl
  have hown : s.vm.findClass RL = some m.cls := hown
  refine lv_aload_n hx hb dL_ratingIn_0 rfl (lv_at hl 2 rfl) ?_
  refine lv_iconst (v := 0) hx hb dL_ratingIn_1 (by decide) ?_
  refine lv_aload_n hx hb dL_ratingIn_2 rfl (lv_at hl 0 rfl) ?_
  refine lv_iload_n hx hb dL_ratingIn_3 rfl (lv_at hl 1 rfl) ?_
  refine wCVi (pre := ([] : va_W)) (Wc := XO x0 a b ++ (DC cI a f r ++ DC cI b f2 r2)) (suf := OUT cJ q v) (As := [.int (nI n)]) (rest := [.int 0, .ref q]) ⟨hx, hb, hml, hown, hts⟩ (mX1_ratingIn l D cI x0 a b f f2 r r2 gg n L _ hg hg2 hg0 n1 n2 hk hg9) hN hA hK1 hS hP hD rfl 0 (r := (RX1, TX1, 2)) rfl rfl (cwV 1 hts gL_ratingIn_X1_ratingIn rfl rfl rfl (by decide +kernel) ⟨Nat.le_of_ble_eq_true rfl, Nat.le_of_ble_eq_true rfl⟩) rfl hl.1 rfl (Nat.le_of_ble_eq_true rfl) dL_ratingIn_4 ⟨Nat.zero_le _, Nat.zero_le _⟩ (fun r_4 u_4 H locs hw hP hD hS => ?_)
  have hw : r_4 = dRate ((dGo (f, r) L n).1.1 0) ((dGo (f, r) L n).1.1 6) ((dGo (f, r) L n).1.2 3) gg := hw
  subst hw
  have hP : va_P D vwCl (XO x0 a b ++ (DC cI a f r ++ (DC cI b (dGo (f, r) L n).1.1 (dGo (f, r) L n).1.2 ++ OUT cJ q v))) H := hP
  have hD : va_D A (XO x0 a b ++ (DC cI a f r ++ (DC cI b (dGo (f, r) L n).1.1 (dGo (f, r) L n).1.2 ++ OUT cJ q v))) := hD
  refine lv_i2l hx hb dL_ratingIn_7 rfl ?_
  refine va_last hx hb hK hP hD hS 17 1 rfl rfl (i := 0) (vp_in_nI (n := 0) (N := 1) (by decide) (by decide)) dL_ratingIn_8 (fun H locs hP hD hS => ?_)
  have hP : va_P D vwCl (XO x0 a b ++ (DC cI a f r ++ (DC cI b (dGo (f, r) L n).1.1 (dGo (f, r) L n).1.2 ++ OUT cJ q (vp_updL v 0 ((dRate ((dGo (f, r) L n).1.1 0) ((dGo (f, r) L n).1.1 6) ((dGo (f, r) L n).1.2 3) gg).toInt64))))) H := hP
  have hD : va_D A (XO x0 a b ++ (DC cI a f r ++ (DC cI b (dGo (f, r) L n).1.1 (dGo (f, r) L n).1.2 ++ OUT cJ q (vp_updL v 0 ((dRate ((dGo (f, r) L n).1.1 0) ((dGo (f, r) L n).1.1 6) ((dGo (f, r) L n).1.2 3) gg).toInt64))))) := hD
  refine lv_goto (tgt := 15) hx hb dL_ratingIn_9 (by decide) ?_
  refine lv_iconst (v := 0) hx hb dL_ratingIn_15 (by decide) ?_
  exact wRi hQ hx hb hr hlocks hP hD hS dL_ratingIn_16 () (rfl) rfl
abbrev rmL_isUnderWay0 : Room := { frames := 2, cells := 0, slots := 0, locals := 43 }
set_option maxRecDepth 100000 in
set_option maxHeartbeats 4000000 in
theorem mL_isUnderWay0 (l : Launch) (D : va_G) (cI cJ : ClassId) (x0 : Nat) (a b : Nat → Nat) (f f2 : Nat → Int32) (r r2 : Nat → Nat → Int32) (q : Nat) (v : Nat → Int64) (gg x y : Nat) (sz : Nat) (hg : f 0 = nI gg) (hg2 : gg ≤ 10) (hg0 : 0 < gg) (ux : x < gg) (uy : y < gg) (hfree : r 4 (x * 10 + y) = -1) : wCw l yL_isUnderWay wsL_isUnderWay rmL_isUnderWay0 D [(cI, .int), (cJ, .long)] [.ref x0, .int (nI x), .int (nI y), .ref q] (XO x0 a b ++ (DC cI a f r ++ (DC cI b f2 r2 ++ OUT cJ q v))) sz 0 0 (wQi D (fun v9 (_ : Unit) => v9 = 0) (fun _ : Unit => XO x0 a b ++ (DC cI a f r ++ (DC cI b f2 r2 ++ OUT cJ q (vp_updL v 0 (0)))))) := by
  refine wMetW cL_isUnderWay 5 (some .int) [(0, 17, 20, 22)] (by decide) rfl (Nat.le_of_ble_eq_true rfl) ?_
  intro p e s m args below meth c A Q ls hQ hx hb hr hml hown hlocks hin hts hN hE hZ hT hP hK hD hA hS hl
  have hK1 : va_K D vwCl [(cI, .int)] s := hK.sub [0] rfl
  have hl : lv_has ls 5 [(0, .ref x0), (1, .int (nI x)), (2, .int (nI y)), (3, .ref q)] := hl
  have hown : s.vm.findClass RL = some m.cls := hown
  refine lv_aload_n hx hb dL_isUnderWay_0 rfl (lv_at hl 3 rfl) ?_
  refine lv_iconst (v := 0) hx hb dL_isUnderWay_1 (by decide) ?_
  refine lv_aload_n hx hb dL_isUnderWay_2 rfl (lv_at hl 0 rfl) ?_
  refine lv_iload_n hx hb dL_isUnderWay_3 rfl (lv_at hl 1 rfl) ?_
  refine lv_iload_n hx hb dL_isUnderWay_4 rfl (lv_at hl 2 rfl) ?_
  refine wCVi (pre := ([] : va_W)) (Wc := XO x0 a b ++ (DC cI a f r ++ DC cI b f2 r2)) (suf := OUT cJ q v) (As := [.int (nI x), .int (nI y)]) (rest := [.int 0, .ref q]) ⟨hx, hb, hml, hown, hts⟩ (mX1_isUnderWay l D cI x0 a b f f2 r r2 gg x y _ hg hg2 hg0 ux uy) hN hA hK1 hS hP hD rfl 0 (r := (RX1, TX1, 2)) rfl rfl (cwV 2 hts gL_isUnderWay_X1_isUnderWay rfl rfl rfl (by decide +kernel) ⟨Nat.le_of_ble_eq_true rfl, Nat.le_of_ble_eq_true rfl⟩) rfl hl.1 rfl (Nat.le_of_ble_eq_true rfl) dL_isUnderWay_5 ⟨Nat.zero_le _, Nat.zero_le _⟩ (fun r_5 u_5 H locs hw hP hD hS => ?_)
  have hw : r_5 = if r 4 (x * 10 + y) = -1 then 0 else 1 := hw
  subst hw
  have hP : va_P D vwCl (XO x0 a b ++ (DC cI a f r ++ (DC cI b f2 r2 ++ OUT cJ q v))) H := hP
  have hD : va_D A (XO x0 a b ++ (DC cI a f r ++ (DC cI b f2 r2 ++ OUT cJ q v))) := hD
  refine lv_if_eq (tgt := 15) hx hb dL_isUnderWay_8 (by decide) (fun c_8 => ?_) (fun h9 => absurd (if_pos hfree) h9)
  refine lv_lconst (v := 0) hx hb dL_isUnderWay_15 (by decide) ?_
  refine va_last hx hb hK hP hD hS 17 1 rfl rfl (i := 0) (vp_in_nI (n := 0) (N := 1) (by decide) (by decide)) dL_isUnderWay_16 (fun H locs hP hD hS => ?_)
  have hP : va_P D vwCl (XO x0 a b ++ (DC cI a f r ++ (DC cI b f2 r2 ++ OUT cJ q (vp_updL v 0 0)))) H := hP
  have hD : va_D A (XO x0 a b ++ (DC cI a f r ++ (DC cI b f2 r2 ++ OUT cJ q (vp_updL v 0 0)))) := hD
  refine lv_goto (tgt := 24) hx hb dL_isUnderWay_17 (by decide) ?_
  refine lv_iconst (v := 0) hx hb dL_isUnderWay_24 (by decide) ?_
  exact wRi hQ hx hb hr hlocks hP hD hS dL_isUnderWay_25 () (rfl) rfl
abbrev rmL_isUnderWay5 : Room := { frames := 2, cells := 0, slots := 0, locals := 43 }
set_option maxRecDepth 100000 in
set_option maxHeartbeats 4000000 in
theorem mL_isUnderWay5 (l : Launch) (D : va_G) (cI cJ : ClassId) (x0 : Nat) (a b : Nat → Nat) (f f2 : Nat → Int32) (r r2 : Nat → Nat → Int32) (q : Nat) (v : Nat → Int64) (gg x y : Nat) (sz : Nat) (hg : f 0 = nI gg) (hg2 : gg ≤ 10) (hg0 : 0 < gg) (ux : x < gg) (uy : y < gg) (hway : ¬ r 4 (x * 10 + y) = -1) : wCw l yL_isUnderWay wsL_isUnderWay rmL_isUnderWay5 D [(cI, .int), (cJ, .long)] [.ref x0, .int (nI x), .int (nI y), .ref q] (XO x0 a b ++ (DC cI a f r ++ (DC cI b f2 r2 ++ OUT cJ q v))) sz 0 0 (wQi D (fun v9 (_ : Unit) => v9 = 0) (fun _ : Unit => XO x0 a b ++ (DC cI a f r ++ (DC cI b f2 r2 ++ OUT cJ q (vp_updL v 0 (1)))))) := by
  refine wMetW cL_isUnderWay 5 (some .int) [(0, 17, 20, 22)] (by decide) rfl (Nat.le_of_ble_eq_true rfl) ?_
  intro p e s m args below meth c A Q ls hQ hx hb hr hml hown hlocks hin hts hN hE hZ hT hP hK hD hA hS hl
  have hK1 : va_K D vwCl [(cI, .int)] s := hK.sub [0] rfl
  have hl : lv_has ls 5 [(0, .ref x0), (1, .int (nI x)), (2, .int (nI y)), (3, .ref q)] := hl
  have hown : s.vm.findClass RL = some m.cls := hown
  refine lv_aload_n hx hb dL_isUnderWay_0 rfl (lv_at hl 3 rfl) ?_
  refine lv_iconst (v := 0) hx hb dL_isUnderWay_1 (by decide) ?_
  refine lv_aload_n hx hb dL_isUnderWay_2 rfl (lv_at hl 0 rfl) ?_
  refine lv_iload_n hx hb dL_isUnderWay_3 rfl (lv_at hl 1 rfl) ?_
  refine lv_iload_n hx hb dL_isUnderWay_4 rfl (lv_at hl 2 rfl) ?_
  refine wCVi (pre := ([] : va_W)) (Wc := XO x0 a b ++ (DC cI a f r ++ DC cI b f2 r2)) (suf := OUT cJ q v) (As := [.int (nI x), .int (nI y)]) (rest := [.int 0, .ref q]) ⟨hx, hb, hml, hown, hts⟩ (mX1_isUnderWay l D cI x0 a b f f2 r r2 gg x y _ hg hg2 hg0 ux uy) hN hA hK1 hS hP hD rfl 0 (r := (RX1, TX1, 2)) rfl rfl (cwV 2 hts gL_isUnderWay_X1_isUnderWay rfl rfl rfl (by decide +kernel) ⟨Nat.le_of_ble_eq_true rfl, Nat.le_of_ble_eq_true rfl⟩) rfl hl.1 rfl (Nat.le_of_ble_eq_true rfl) dL_isUnderWay_5 ⟨Nat.zero_le _, Nat.zero_le _⟩ (fun r_5 u_5 H locs hw hP hD hS => ?_)
  have hw : r_5 = if r 4 (x * 10 + y) = -1 then 0 else 1 := hw
  subst hw
  have hP : va_P D vwCl (XO x0 a b ++ (DC cI a f r ++ (DC cI b f2 r2 ++ OUT cJ q v))) H := hP
  have hD : va_D A (XO x0 a b ++ (DC cI a f r ++ (DC cI b f2 r2 ++ OUT cJ q v))) := hD
  refine lv_if_eq (tgt := 15) hx hb dL_isUnderWay_8 (by decide) (fun h9 => absurd h9 (by rw [if_neg hway]; decide)) (fun c_8 => ?_)
  refine lv_lconst (v := 1) hx hb dL_isUnderWay_11 (by decide) ?_
  refine lv_goto (tgt := 16) hx hb dL_isUnderWay_12 (by decide) ?_
  refine va_last hx hb hK hP hD hS 17 1 rfl rfl (i := 0) (vp_in_nI (n := 0) (N := 1) (by decide) (by decide)) dL_isUnderWay_16 (fun H locs hP hD hS => ?_)
  have hP : va_P D vwCl (XO x0 a b ++ (DC cI a f r ++ (DC cI b f2 r2 ++ OUT cJ q (vp_updL v 0 1)))) H := hP
  have hD : va_D A (XO x0 a b ++ (DC cI a f r ++ (DC cI b f2 r2 ++ OUT cJ q (vp_updL v 0 1)))) := hD
  refine lv_goto (tgt := 24) hx hb dL_isUnderWay_17 (by decide) ?_
  refine lv_iconst (v := 0) hx hb dL_isUnderWay_24 (by decide) ?_
  exact wRi hQ hx hb hr hlocks hP hD hS dL_isUnderWay_25 () (rfl) rfl
abbrev rmL_allUnsaidIn1 : Room := { frames := 8, cells := 1, slots := 6, locals := 125 }
set_option maxRecDepth 100000 in
set_option maxHeartbeats 4000000 in
theorem mL_allUnsaidIn1 (l : Launch) (D : va_G) (cI cJ : ClassId) (x0 : Nat) (a b : Nat → Nat) (f f2 : Nat → Int32) (r r2 : Nat → Nat → Int32) (q : Nat) (v : Nat → Int64) (w : Int32) (sz : Nat) (hlt : l.stackTraces = false) (hbad : w < 1 ∨ 120 < w) : wCw l yL_allUnsaidIn wsL_allUnsaidIn rmL_allUnsaidIn1 D [(cI, .int), (cJ, .long)] [.ref x0, .int w, .ref q] (XO x0 a b ++ (DC cI a f r ++ (DC cI b f2 r2 ++ OUT cJ q v))) sz 1 6 (wQi D (fun v9 (_ : Unit) => v9 = 1) (fun _ : Unit => XO x0 a b ++ (DC cI a f r ++ (DC cI b f2 r2 ++ OUT cJ q v)))) := by
  refine wMetW cL_allUnsaidIn 4 (some .int) [(0, 9, 12, 13)] (by decide) rfl (Nat.le_of_ble_eq_true rfl) ?_
  intro p e s m args below meth c A Q ls hQ hx hb hr hml hown hlocks hin hts hN hE hZ hT hP hK hD hA hS hl
  have hK1 : va_K D vwCl [(cI, .int)] s := hK.sub [0] rfl
  have hl : lv_has ls 4 [(0, .ref x0), (1, .int w), (2, .ref q)] := hl
  have hown : s.vm.findClass RL = some m.cls := hown
  refine lv_aload_n hx hb dL_allUnsaidIn_0 rfl (lv_at hl 2 rfl) ?_
  refine lv_iconst (v := 0) hx hb dL_allUnsaidIn_1 (by decide) ?_
  refine lv_aload_n hx hb dL_allUnsaidIn_2 rfl (lv_at hl 0 rfl) ?_
  refine lv_iload_n hx hb dL_allUnsaidIn_3 rfl (lv_at hl 1 rfl) ?_
  refine wVcatch (pre := ([] : va_W)) (Wc := XO x0 a b ++ (DC cI a f r ++ DC cI b f2 r2)) (suf := OUT cJ q v) (As := [.int w]) (rest := [.int 0, .ref q]) ⟨hx, hb, hml, hown, hts⟩ (mX1_allUnsaidIn1 l D cI x0 a b f f2 r r2 w _ hlt hbad) hN hE hZ hA hK1 hS hP hD rfl 0 (r := (RX1, TX1, 2)) rfl rfl (cwV 1 hts gL_allUnsaidIn_X1_allUnsaidIn rfl rfl rfl (by decide +kernel) ⟨Nat.le_of_ble_eq_true rfl, Nat.le_of_ble_eq_true rfl⟩) rfl hl.1 rfl (Nat.le_of_ble_eq_true rfl) dL_allUnsaidIn_4 ⟨Nat.le_of_ble_eq_true rfl, Nat.le_of_ble_eq_true rfl⟩ hT (tableOf []) ⟨0, 9, 12, 13⟩ (tableOf []) rfl (wTp0) (by decide) (by decide) (hts (.classLink RL 13 xA) (by decide +kernel)) hE.2.2.2.2.2.1 (fun q9 H locs hP hD hS => ?_)
  refine lv_astore_n (lv' := [(3, .ref q9), (0, .ref x0), (1, .int w), (2, .ref q)]) hx hb dL_allUnsaidIn_12 rfl hl (by decide) rfl (fun ls hl => ?_)
  refine lv_iconst (v := 1) hx hb dL_allUnsaidIn_13 (by decide) ?_
  exact wRi hQ hx hb hr hlocks hP hD hS dL_allUnsaidIn_14 () (rfl) rfl
abbrev rmL_bestMoment1 : Room := { frames := 9, cells := 1, slots := 6, locals := 148 }
set_option maxRecDepth 100000 in
set_option maxHeartbeats 4000000 in
theorem mL_bestMoment1 (l : Launch) (D : va_G) (cI cJ : ClassId) (x0 : Nat) (a b : Nat → Nat) (f f2 : Nat → Int32) (r r2 : Nat → Nat → Int32) (q : Nat) (v : Nat → Int64) (x y : Int32) (sz : Nat) (hlt : l.stackTraces = false) (hbad : x < 0 ∨ f 0 ≤ x) : wCw l yL_bestMoment wsL_bestMoment rmL_bestMoment1 D [(cI, .int), (cJ, .long)] [.ref x0, .int x, .int y, .ref q] (XO x0 a b ++ (DC cI a f r ++ (DC cI b f2 r2 ++ OUT cJ q v))) sz 1 6 (wQi D (fun v9 (_ : Unit) => v9 = 1) (fun _ : Unit => XO x0 a b ++ (DC cI a f r ++ (DC cI b f2 r2 ++ OUT cJ q v)))) := by
  refine wMetW cL_bestMoment 5 (some .int) [(0, 10, 13, 22), (0, 10, 17, 13), (0, 10, 21, 30)] (by decide) rfl (Nat.le_of_ble_eq_true rfl) ?_
  intro p e s m args below meth c A Q ls hQ hx hb hr hml hown hlocks hin hts hN hE hZ hT hP hK hD hA hS hl
  have hK1 : va_K D vwCl [(cI, .int)] s := hK.sub [0] rfl
  have hl : lv_has ls 5 [(0, .ref x0), (1, .int x), (2, .int y), (3, .ref q)] := hl
  have hown : s.vm.findClass RL = some m.cls := hown
  refine lv_aload_n hx hb dL_bestMoment_0 rfl (lv_at hl 3 rfl) ?_
  refine lv_iconst (v := 0) hx hb dL_bestMoment_1 (by decide) ?_
  refine lv_aload_n hx hb dL_bestMoment_2 rfl (lv_at hl 0 rfl) ?_
  refine lv_iload_n hx hb dL_bestMoment_3 rfl (lv_at hl 1 rfl) ?_
  refine lv_iload_n hx hb dL_bestMoment_4 rfl (lv_at hl 2 rfl) ?_
  refine wVcatch (pre := ([] : va_W)) (Wc := XO x0 a b ++ (DC cI a f r ++ DC cI b f2 r2)) (suf := OUT cJ q v) (As := [.int x, .int y]) (rest := [.int 0, .ref q]) ⟨hx, hb, hml, hown, hts⟩ (mX1_bestMoment1 l D cI x0 a b f f2 r r2 x y _ hlt hbad) hN hE hZ hA hK1 hS hP hD rfl 0 (r := (RX1, TX1, 2)) rfl rfl (cwV 2 hts gL_bestMoment_X1_bestMoment rfl rfl rfl (by decide +kernel) ⟨Nat.le_of_ble_eq_true rfl, Nat.le_of_ble_eq_true rfl⟩) rfl hl.1 rfl (Nat.le_of_ble_eq_true rfl) dL_bestMoment_5 ⟨Nat.le_of_ble_eq_true rfl, Nat.le_of_ble_eq_true rfl⟩ hT (tableOf []) ⟨0, 10, 13, 22⟩ (tableOf [(0, 10, 17, 13), (0, 10, 21, 30)]) rfl (wTp0) (by decide) (by decide) (hts (.classLink RL 22 xI) (by decide +kernel)) hE.2.2.2.2.1 (fun q9 H locs hP hD hS => ?_)
  refine lv_astore (lv' := [(4, .ref q9), (0, .ref x0), (1, .int x), (2, .int y), (3, .ref q)]) hx hb dL_bestMoment_13 hl (by decide) rfl (fun ls hl => ?_)
  refine lv_iconst (v := 1) hx hb dL_bestMoment_15 (by decide) ?_
  exact wRi hQ hx hb hr hlocks hP hD hS dL_bestMoment_16 () (rfl) rfl
abbrev rmL_bestMoment2 : Room := { frames := 9, cells := 1, slots := 6, locals := 148 }
set_option maxRecDepth 100000 in
set_option maxHeartbeats 4000000 in
theorem mL_bestMoment2 (l : Launch) (D : va_G) (cI cJ : ClassId) (x0 : Nat) (a b : Nat → Nat) (f f2 : Nat → Int32) (r r2 : Nat → Nat → Int32) (q : Nat) (v : Nat → Int64) (gg x : Nat) (y : Int32) (sz : Nat) (hlt : l.stackTraces = false) (hg : f 0 = nI gg) (hg2 : gg ≤ 10) (hg0 : 0 < gg) (ux : x < gg) (hbad : y < 0 ∨ f 0 ≤ y) : wCw l yL_bestMoment wsL_bestMoment rmL_bestMoment2 D [(cI, .int), (cJ, .long)] [.ref x0, .int (nI x), .int y, .ref q] (XO x0 a b ++ (DC cI a f r ++ (DC cI b f2 r2 ++ OUT cJ q v))) sz 1 6 (wQi D (fun v9 (_ : Unit) => v9 = 1) (fun _ : Unit => XO x0 a b ++ (DC cI a f r ++ (DC cI b f2 r2 ++ OUT cJ q v)))) := by
  refine wMetW cL_bestMoment 5 (some .int) [(0, 10, 13, 22), (0, 10, 17, 13), (0, 10, 21, 30)] (by decide) rfl (Nat.le_of_ble_eq_true rfl) ?_
  intro p e s m args below meth c A Q ls hQ hx hb hr hml hown hlocks hin hts hN hE hZ hT hP hK hD hA hS hl
  have hK1 : va_K D vwCl [(cI, .int)] s := hK.sub [0] rfl
  have hl : lv_has ls 5 [(0, .ref x0), (1, .int (nI x)), (2, .int y), (3, .ref q)] := hl
  have hown : s.vm.findClass RL = some m.cls := hown
  refine lv_aload_n hx hb dL_bestMoment_0 rfl (lv_at hl 3 rfl) ?_
  refine lv_iconst (v := 0) hx hb dL_bestMoment_1 (by decide) ?_
  refine lv_aload_n hx hb dL_bestMoment_2 rfl (lv_at hl 0 rfl) ?_
  refine lv_iload_n hx hb dL_bestMoment_3 rfl (lv_at hl 1 rfl) ?_
  refine lv_iload_n hx hb dL_bestMoment_4 rfl (lv_at hl 2 rfl) ?_
  refine wVcatch (pre := ([] : va_W)) (Wc := XO x0 a b ++ (DC cI a f r ++ DC cI b f2 r2)) (suf := OUT cJ q v) (As := [.int (nI x), .int y]) (rest := [.int 0, .ref q]) ⟨hx, hb, hml, hown, hts⟩ (mX1_bestMoment2 l D cI x0 a b f f2 r r2 gg x y _ hlt hg hg2 hg0 ux hbad) hN hE hZ hA hK1 hS hP hD rfl 0 (r := (RX1, TX1, 2)) rfl rfl (cwV 2 hts gL_bestMoment_X1_bestMoment rfl rfl rfl (by decide +kernel) ⟨Nat.le_of_ble_eq_true rfl, Nat.le_of_ble_eq_true rfl⟩) rfl hl.1 rfl (Nat.le_of_ble_eq_true rfl) dL_bestMoment_5 ⟨Nat.le_of_ble_eq_true rfl, Nat.le_of_ble_eq_true rfl⟩ hT (tableOf []) ⟨0, 10, 13, 22⟩ (tableOf [(0, 10, 17, 13), (0, 10, 21, 30)]) rfl (wTp0) (by decide) (by decide) (hts (.classLink RL 22 xI) (by decide +kernel)) hE.2.2.2.2.1 (fun q9 H locs hP hD hS => ?_)
  refine lv_astore (lv' := [(4, .ref q9), (0, .ref x0), (1, .int (nI x)), (2, .int y), (3, .ref q)]) hx hb dL_bestMoment_13 hl (by decide) rfl (fun ls hl => ?_)
  refine lv_iconst (v := 1) hx hb dL_bestMoment_15 (by decide) ?_
  exact wRi hQ hx hb hr hlocks hP hD hS dL_bestMoment_16 () (rfl) rfl
abbrev rmL_bestMoment3 : Room := { frames := 8, cells := 1, slots := 6, locals := 127 }
set_option maxRecDepth 100000 in
set_option maxHeartbeats 4000000 in
theorem mL_bestMoment3 (l : Launch) (D : va_G) (cI cJ : ClassId) (x0 : Nat) (a b : Nat → Nat) (f f2 : Nat → Int32) (r r2 : Nat → Nat → Int32) (q : Nat) (v : Nat → Int64) (gg x : Nat) (sz : Nat) (hlt : l.stackTraces = false) (hg : f 0 = nI gg) (hg2 : gg ≤ 10) (hg0 : 0 < gg) (ux : x < gg) : wCw l yL_bestMoment wsL_bestMoment rmL_bestMoment3 D [(cI, .int), (cJ, .long)] [.ref x0, .int (nI x), .int (nI x), .ref q] (XO x0 a b ++ (DC cI a f r ++ (DC cI b f2 r2 ++ OUT cJ q v))) sz 1 6 (wQi D (fun v9 (_ : Unit) => v9 = 2) (fun _ : Unit => XO x0 a b ++ (DC cI a f r ++ (DC cI b f2 r2 ++ OUT cJ q v)))) := by
  refine wMetW cL_bestMoment 5 (some .int) [(0, 10, 13, 22), (0, 10, 17, 13), (0, 10, 21, 30)] (by decide) rfl (Nat.le_of_ble_eq_true rfl) ?_
  intro p e s m args below meth c A Q ls hQ hx hb hr hml hown hlocks hin hts hN hE hZ hT hP hK hD hA hS hl
  have hK1 : va_K D vwCl [(cI, .int)] s := hK.sub [0] rfl
  have hl : lv_has ls 5 [(0, .ref x0), (1, .int (nI x)), (2, .int (nI x)), (3, .ref q)] := hl
  have hown : s.vm.findClass RL = some m.cls := hown
  refine lv_aload_n hx hb dL_bestMoment_0 rfl (lv_at hl 3 rfl) ?_
  refine lv_iconst (v := 0) hx hb dL_bestMoment_1 (by decide) ?_
  refine lv_aload_n hx hb dL_bestMoment_2 rfl (lv_at hl 0 rfl) ?_
  refine lv_iload_n hx hb dL_bestMoment_3 rfl (lv_at hl 1 rfl) ?_
  refine lv_iload_n hx hb dL_bestMoment_4 rfl (lv_at hl 2 rfl) ?_
  refine wVcatch (pre := ([] : va_W)) (Wc := XO x0 a b ++ (DC cI a f r ++ DC cI b f2 r2)) (suf := OUT cJ q v) (As := [.int (nI x), .int (nI x)]) (rest := [.int 0, .ref q]) ⟨hx, hb, hml, hown, hts⟩ (mX1_bestMoment3 l D cI x0 a b f f2 r r2 gg x _ hlt hg hg2 hg0 ux) hN hE hZ hA hK1 hS hP hD rfl 0 (r := (RX1, TX1, 2)) rfl rfl (cwV 2 hts gL_bestMoment_X1_bestMoment rfl rfl rfl (by decide +kernel) ⟨Nat.le_of_ble_eq_true rfl, Nat.le_of_ble_eq_true rfl⟩) rfl hl.1 rfl (Nat.le_of_ble_eq_true rfl) dL_bestMoment_5 ⟨Nat.le_of_ble_eq_true rfl, Nat.le_of_ble_eq_true rfl⟩ hT (tableOf [(0, 10, 13, 22)]) ⟨0, 10, 17, 13⟩ (tableOf [(0, 10, 21, 30)]) rfl (wTp1 (Or.inr ⟨by decide, xI, hts (.classLink RL 22 xI) (by decide +kernel), hE.2.2.2.2.2.2.2.1⟩)) (by decide) (by decide) (hts (.classLink RL 13 xA) (by decide +kernel)) hE.2.2.2.2.2.1 (fun q9 H locs hP hD hS => ?_)
  refine lv_astore (lv' := [(4, .ref q9), (0, .ref x0), (1, .int (nI x)), (2, .int (nI x)), (3, .ref q)]) hx hb dL_bestMoment_17 hl (by decide) rfl (fun ls hl => ?_)
  refine lv_iconst (v := 2) hx hb dL_bestMoment_19 (by decide) ?_
  exact wRi hQ hx hb hr hlocks hP hD hS dL_bestMoment_20 () (rfl) rfl
abbrev rmL_bestMoment4 : Room := { frames := 8, cells := 1, slots := 6, locals := 127 }
set_option maxRecDepth 100000 in
set_option maxHeartbeats 4000000 in
theorem mL_bestMoment4 (l : Launch) (D : va_G) (cI cJ : ClassId) (x0 : Nat) (a b : Nat → Nat) (f f2 : Nat → Int32) (r r2 : Nat → Nat → Int32) (q : Nat) (v : Nat → Int64) (gg x y : Nat) (sz : Nat) (hlt : l.stackTraces = false) (hg : f 0 = nI gg) (hg2 : gg ≤ 10) (hg0 : 0 < gg) (ux : x < gg) (uy : y < gg) (hne : ¬ nI x = nI y) (hway : ¬ r 4 (x * 10 + y) = -1) : wCw l yL_bestMoment wsL_bestMoment rmL_bestMoment4 D [(cI, .int), (cJ, .long)] [.ref x0, .int (nI x), .int (nI y), .ref q] (XO x0 a b ++ (DC cI a f r ++ (DC cI b f2 r2 ++ OUT cJ q v))) sz 1 6 (wQi D (fun v9 (_ : Unit) => v9 = 3) (fun _ : Unit => XO x0 a b ++ (DC cI a f r ++ (DC cI b f2 r2 ++ OUT cJ q v)))) := by
  refine wMetW cL_bestMoment 5 (some .int) [(0, 10, 13, 22), (0, 10, 17, 13), (0, 10, 21, 30)] (by decide) rfl (Nat.le_of_ble_eq_true rfl) ?_
  intro p e s m args below meth c A Q ls hQ hx hb hr hml hown hlocks hin hts hN hE hZ hT hP hK hD hA hS hl
  have hK1 : va_K D vwCl [(cI, .int)] s := hK.sub [0] rfl
  have hl : lv_has ls 5 [(0, .ref x0), (1, .int (nI x)), (2, .int (nI y)), (3, .ref q)] := hl
  have hown : s.vm.findClass RL = some m.cls := hown
  refine lv_aload_n hx hb dL_bestMoment_0 rfl (lv_at hl 3 rfl) ?_
  refine lv_iconst (v := 0) hx hb dL_bestMoment_1 (by decide) ?_
  refine lv_aload_n hx hb dL_bestMoment_2 rfl (lv_at hl 0 rfl) ?_
  refine lv_iload_n hx hb dL_bestMoment_3 rfl (lv_at hl 1 rfl) ?_
  refine lv_iload_n hx hb dL_bestMoment_4 rfl (lv_at hl 2 rfl) ?_
  refine wVcatch (pre := ([] : va_W)) (Wc := XO x0 a b ++ (DC cI a f r ++ DC cI b f2 r2)) (suf := OUT cJ q v) (As := [.int (nI x), .int (nI y)]) (rest := [.int 0, .ref q]) ⟨hx, hb, hml, hown, hts⟩ (mX1_bestMoment4 l D cI x0 a b f f2 r r2 gg x y _ hlt hg hg2 hg0 ux uy hne hway) hN hE hZ hA hK1 hS hP hD rfl 0 (r := (RX1, TX1, 2)) rfl rfl (cwV 2 hts gL_bestMoment_X1_bestMoment rfl rfl rfl (by decide +kernel) ⟨Nat.le_of_ble_eq_true rfl, Nat.le_of_ble_eq_true rfl⟩) rfl hl.1 rfl (Nat.le_of_ble_eq_true rfl) dL_bestMoment_5 ⟨Nat.le_of_ble_eq_true rfl, Nat.le_of_ble_eq_true rfl⟩ hT (tableOf [(0, 10, 13, 22), (0, 10, 17, 13)]) ⟨0, 10, 21, 30⟩ (tableOf []) rfl (wTp2 (Or.inr ⟨by decide, xI, hts (.classLink RL 22 xI) (by decide +kernel), hE.2.2.2.2.2.2.2.2.1⟩) (Or.inr ⟨by decide, xA, hts (.classLink RL 13 xA) (by decide +kernel), hE.2.2.2.2.2.2.2.2.2.1⟩)) (by decide) (by decide) (hts (.classLink RL 30 xS) (by decide +kernel)) hE.2.2.2.2.2.2.1 (fun q9 H locs hP hD hS => ?_)
  refine lv_astore (lv' := [(4, .ref q9), (0, .ref x0), (1, .int (nI x)), (2, .int (nI y)), (3, .ref q)]) hx hb dL_bestMoment_21 hl (by decide) rfl (fun ls hl => ?_)
  refine lv_iconst (v := 3) hx hb dL_bestMoment_23 (by decide) ?_
  exact wRi hQ hx hb hr hlocks hP hD hS dL_bestMoment_24 () (rfl) rfl
abbrev rmL_caughtBy1 : Room := { frames := 8, cells := 1, slots := 6, locals := 125 }
set_option maxRecDepth 100000 in
set_option maxHeartbeats 4000000 in
theorem mL_caughtBy1 (l : Launch) (D : va_G) (cI cJ : ClassId) (x0 : Nat) (a b : Nat → Nat) (f f2 : Nat → Int32) (r r2 : Nat → Nat → Int32) (q : Nat) (v : Nat → Int64) (x y : Int32) (sz : Nat) (hlt : l.stackTraces = false) (hbad : x < 0 ∨ f 0 ≤ x) : wCw l yL_caughtBy wsL_caughtBy rmL_caughtBy1 D [(cI, .int), (cJ, .long)] [.ref x0, .int x, .int y, .ref q] (XO x0 a b ++ (DC cI a f r ++ (DC cI b f2 r2 ++ OUT cJ q v))) sz 1 6 (wQi D (fun v9 (_ : Unit) => v9 = 1) (fun _ : Unit => XO x0 a b ++ (DC cI a f r ++ (DC cI b f2 r2 ++ OUT cJ q v)))) := by
  refine wMetW cL_caughtBy 5 (some .int) [(0, 10, 13, 22)] (by decide) rfl (Nat.le_of_ble_eq_true rfl) ?_
  intro p e s m args below meth c A Q ls hQ hx hb hr hml hown hlocks hin hts hN hE hZ hT hP hK hD hA hS hl
  have hK1 : va_K D vwCl [(cI, .int)] s := hK.sub [0] rfl
  have hl : lv_has ls 5 [(0, .ref x0), (1, .int x), (2, .int y), (3, .ref q)] := hl
  have hown : s.vm.findClass RL = some m.cls := hown
  refine lv_aload_n hx hb dL_caughtBy_0 rfl (lv_at hl 3 rfl) ?_
  refine lv_iconst (v := 0) hx hb dL_caughtBy_1 (by decide) ?_
  refine lv_aload_n hx hb dL_caughtBy_2 rfl (lv_at hl 0 rfl) ?_
  refine lv_iload_n hx hb dL_caughtBy_3 rfl (lv_at hl 1 rfl) ?_
  refine lv_iload_n hx hb dL_caughtBy_4 rfl (lv_at hl 2 rfl) ?_
  refine wVcatch (pre := ([] : va_W)) (Wc := XO x0 a b ++ (DC cI a f r ++ DC cI b f2 r2)) (suf := OUT cJ q v) (As := [.int x, .int y]) (rest := [.int 0, .ref q]) ⟨hx, hb, hml, hown, hts⟩ (mX1_caughtBy1 l D cI x0 a b f f2 r r2 x y _ hlt hbad) hN hE hZ hA hK1 hS hP hD rfl 0 (r := (RX1, TX1, 2)) rfl rfl (cwV 2 hts gL_caughtBy_X1_caughtBy rfl rfl rfl (by decide +kernel) ⟨Nat.le_of_ble_eq_true rfl, Nat.le_of_ble_eq_true rfl⟩) rfl hl.1 rfl (Nat.le_of_ble_eq_true rfl) dL_caughtBy_5 ⟨Nat.le_of_ble_eq_true rfl, Nat.le_of_ble_eq_true rfl⟩ hT (tableOf []) ⟨0, 10, 13, 22⟩ (tableOf []) rfl (wTp0) (by decide) (by decide) (hts (.classLink RL 22 xI) (by decide +kernel)) hE.2.2.2.2.1 (fun q9 H locs hP hD hS => ?_)
  refine lv_astore (lv' := [(4, .ref q9), (0, .ref x0), (1, .int x), (2, .int y), (3, .ref q)]) hx hb dL_caughtBy_13 hl (by decide) rfl (fun ls hl => ?_)
  refine lv_iconst (v := 1) hx hb dL_caughtBy_15 (by decide) ?_
  exact wRi hQ hx hb hr hlocks hP hD hS dL_caughtBy_16 () (rfl) rfl
abbrev rmL_caughtBy2 : Room := { frames := 8, cells := 1, slots := 6, locals := 125 }
set_option maxRecDepth 100000 in
set_option maxHeartbeats 4000000 in
theorem mL_caughtBy2 (l : Launch) (D : va_G) (cI cJ : ClassId) (x0 : Nat) (a b : Nat → Nat) (f f2 : Nat → Int32) (r r2 : Nat → Nat → Int32) (q : Nat) (v : Nat → Int64) (gg x : Nat) (y : Int32) (sz : Nat) (hlt : l.stackTraces = false) (hg : f 0 = nI gg) (hg2 : gg ≤ 10) (hg0 : 0 < gg) (ux : x < gg) (hbad : y < 0 ∨ f 0 ≤ y) : wCw l yL_caughtBy wsL_caughtBy rmL_caughtBy2 D [(cI, .int), (cJ, .long)] [.ref x0, .int (nI x), .int y, .ref q] (XO x0 a b ++ (DC cI a f r ++ (DC cI b f2 r2 ++ OUT cJ q v))) sz 1 6 (wQi D (fun v9 (_ : Unit) => v9 = 1) (fun _ : Unit => XO x0 a b ++ (DC cI a f r ++ (DC cI b f2 r2 ++ OUT cJ q v)))) := by
  refine wMetW cL_caughtBy 5 (some .int) [(0, 10, 13, 22)] (by decide) rfl (Nat.le_of_ble_eq_true rfl) ?_
  intro p e s m args below meth c A Q ls hQ hx hb hr hml hown hlocks hin hts hN hE hZ hT hP hK hD hA hS hl
  have hK1 : va_K D vwCl [(cI, .int)] s := hK.sub [0] rfl
  have hl : lv_has ls 5 [(0, .ref x0), (1, .int (nI x)), (2, .int y), (3, .ref q)] := hl
  have hown : s.vm.findClass RL = some m.cls := hown
  refine lv_aload_n hx hb dL_caughtBy_0 rfl (lv_at hl 3 rfl) ?_
  refine lv_iconst (v := 0) hx hb dL_caughtBy_1 (by decide) ?_
  refine lv_aload_n hx hb dL_caughtBy_2 rfl (lv_at hl 0 rfl) ?_
  refine lv_iload_n hx hb dL_caughtBy_3 rfl (lv_at hl 1 rfl) ?_
  refine lv_iload_n hx hb dL_caughtBy_4 rfl (lv_at hl 2 rfl) ?_
  refine wVcatch (pre := ([] : va_W)) (Wc := XO x0 a b ++ (DC cI a f r ++ DC cI b f2 r2)) (suf := OUT cJ q v) (As := [.int (nI x), .int y]) (rest := [.int 0, .ref q]) ⟨hx, hb, hml, hown, hts⟩ (mX1_caughtBy2 l D cI x0 a b f f2 r r2 gg x y _ hlt hg hg2 hg0 ux hbad) hN hE hZ hA hK1 hS hP hD rfl 0 (r := (RX1, TX1, 2)) rfl rfl (cwV 2 hts gL_caughtBy_X1_caughtBy rfl rfl rfl (by decide +kernel) ⟨Nat.le_of_ble_eq_true rfl, Nat.le_of_ble_eq_true rfl⟩) rfl hl.1 rfl (Nat.le_of_ble_eq_true rfl) dL_caughtBy_5 ⟨Nat.le_of_ble_eq_true rfl, Nat.le_of_ble_eq_true rfl⟩ hT (tableOf []) ⟨0, 10, 13, 22⟩ (tableOf []) rfl (wTp0) (by decide) (by decide) (hts (.classLink RL 22 xI) (by decide +kernel)) hE.2.2.2.2.1 (fun q9 H locs hP hD hS => ?_)
  refine lv_astore (lv' := [(4, .ref q9), (0, .ref x0), (1, .int (nI x)), (2, .int y), (3, .ref q)]) hx hb dL_caughtBy_13 hl (by decide) rfl (fun ls hl => ?_)
  refine lv_iconst (v := 1) hx hb dL_caughtBy_15 (by decide) ?_
  exact wRi hQ hx hb hr hlocks hP hD hS dL_caughtBy_16 () (rfl) rfl
abbrev rmL_cough1 : Room := { frames := 8, cells := 1, slots := 6, locals := 125 }
set_option maxRecDepth 100000 in
set_option maxHeartbeats 4000000 in
theorem mL_cough1 (l : Launch) (D : va_G) (cI cJ : ClassId) (x0 : Nat) (a b : Nat → Nat) (f f2 : Nat → Int32) (r r2 : Nat → Nat → Int32) (q : Nat) (v : Nat → Int64) (x y : Int32) (sz : Nat) (hlt : l.stackTraces = false) (hbad : x < 0 ∨ f 0 ≤ x) : wCw l yL_cough wsL_cough rmL_cough1 D [(cI, .int), (cJ, .long)] [.ref x0, .int x, .int y, .ref q] (XO x0 a b ++ (DC cI a f r ++ (DC cI b f2 r2 ++ OUT cJ q v))) sz 1 6 (wQi D (fun v9 (_ : Unit) => v9 = 1) (fun _ : Unit => XO x0 a b ++ (DC cI a f r ++ (DC cI b f2 r2 ++ OUT cJ q v)))) := by
  refine wMetW cL_cough 5 (some .int) [(0, 10, 13, 22), (0, 10, 17, 13)] (by decide) rfl (Nat.le_of_ble_eq_true rfl) ?_
  intro p e s m args below meth c A Q ls hQ hx hb hr hml hown hlocks hin hts hN hE hZ hT hP hK hD hA hS hl
  have hK1 : va_K D vwCl [(cI, .int)] s := hK.sub [0] rfl
  have hl : lv_has ls 5 [(0, .ref x0), (1, .int x), (2, .int y), (3, .ref q)] := hl
  have hown : s.vm.findClass RL = some m.cls := hown
  refine lv_aload_n hx hb dL_cough_0 rfl (lv_at hl 3 rfl) ?_
  refine lv_iconst (v := 0) hx hb dL_cough_1 (by decide) ?_
  refine lv_aload_n hx hb dL_cough_2 rfl (lv_at hl 0 rfl) ?_
  refine lv_iload_n hx hb dL_cough_3 rfl (lv_at hl 1 rfl) ?_
  refine lv_iload_n hx hb dL_cough_4 rfl (lv_at hl 2 rfl) ?_
  refine wVcatch (pre := ([] : va_W)) (Wc := XO x0 a b ++ (DC cI a f r ++ DC cI b f2 r2)) (suf := OUT cJ q v) (As := [.int x, .int y]) (rest := [.int 0, .ref q]) ⟨hx, hb, hml, hown, hts⟩ (mX1_cough1 l D cI x0 a b f f2 r r2 x y _ hlt hbad) hN hE hZ hA hK1 hS hP hD rfl 0 (r := (RX1, TX1, 2)) rfl rfl (cwV 2 hts gL_cough_X1_cough rfl rfl rfl (by decide +kernel) ⟨Nat.le_of_ble_eq_true rfl, Nat.le_of_ble_eq_true rfl⟩) rfl hl.1 rfl (Nat.le_of_ble_eq_true rfl) dL_cough_5 ⟨Nat.le_of_ble_eq_true rfl, Nat.le_of_ble_eq_true rfl⟩ hT (tableOf []) ⟨0, 10, 13, 22⟩ (tableOf [(0, 10, 17, 13)]) rfl (wTp0) (by decide) (by decide) (hts (.classLink RL 22 xI) (by decide +kernel)) hE.2.2.2.2.1 (fun q9 H locs hP hD hS => ?_)
  refine lv_astore (lv' := [(4, .ref q9), (0, .ref x0), (1, .int x), (2, .int y), (3, .ref q)]) hx hb dL_cough_13 hl (by decide) rfl (fun ls hl => ?_)
  refine lv_iconst (v := 1) hx hb dL_cough_15 (by decide) ?_
  exact wRi hQ hx hb hr hlocks hP hD hS dL_cough_16 () (rfl) rfl
abbrev rmL_cough2 : Room := { frames := 8, cells := 1, slots := 6, locals := 126 }
set_option maxRecDepth 100000 in
set_option maxHeartbeats 4000000 in
theorem mL_cough2 (l : Launch) (D : va_G) (cI cJ : ClassId) (x0 : Nat) (a b : Nat → Nat) (f f2 : Nat → Int32) (r r2 : Nat → Nat → Int32) (q : Nat) (v : Nat → Int64) (gg x : Nat) (w : Int32) (sz : Nat) (hlt : l.stackTraces = false) (hg : f 0 = nI gg) (hg2 : gg ≤ 10) (hg0 : 0 < gg) (ux : x < gg) (hbad : w < 1 ∨ 9 < w) : wCw l yL_cough wsL_cough rmL_cough2 D [(cI, .int), (cJ, .long)] [.ref x0, .int (nI x), .int w, .ref q] (XO x0 a b ++ (DC cI a f r ++ (DC cI b f2 r2 ++ OUT cJ q v))) sz 1 6 (wQi D (fun v9 (_ : Unit) => v9 = 2) (fun _ : Unit => XO x0 a b ++ (DC cI a f r ++ (DC cI b f2 r2 ++ OUT cJ q v)))) := by
  refine wMetW cL_cough 5 (some .int) [(0, 10, 13, 22), (0, 10, 17, 13)] (by decide) rfl (Nat.le_of_ble_eq_true rfl) ?_
  intro p e s m args below meth c A Q ls hQ hx hb hr hml hown hlocks hin hts hN hE hZ hT hP hK hD hA hS hl
  have hK1 : va_K D vwCl [(cI, .int)] s := hK.sub [0] rfl
  have hl : lv_has ls 5 [(0, .ref x0), (1, .int (nI x)), (2, .int w), (3, .ref q)] := hl
  have hown : s.vm.findClass RL = some m.cls := hown
  refine lv_aload_n hx hb dL_cough_0 rfl (lv_at hl 3 rfl) ?_
  refine lv_iconst (v := 0) hx hb dL_cough_1 (by decide) ?_
  refine lv_aload_n hx hb dL_cough_2 rfl (lv_at hl 0 rfl) ?_
  refine lv_iload_n hx hb dL_cough_3 rfl (lv_at hl 1 rfl) ?_
  refine lv_iload_n hx hb dL_cough_4 rfl (lv_at hl 2 rfl) ?_
  refine wVcatch (pre := ([] : va_W)) (Wc := XO x0 a b ++ (DC cI a f r ++ DC cI b f2 r2)) (suf := OUT cJ q v) (As := [.int (nI x), .int w]) (rest := [.int 0, .ref q]) ⟨hx, hb, hml, hown, hts⟩ (mX1_cough2 l D cI x0 a b f f2 r r2 gg x w _ hlt hg hg2 hg0 ux hbad) hN hE hZ hA hK1 hS hP hD rfl 0 (r := (RX1, TX1, 2)) rfl rfl (cwV 2 hts gL_cough_X1_cough rfl rfl rfl (by decide +kernel) ⟨Nat.le_of_ble_eq_true rfl, Nat.le_of_ble_eq_true rfl⟩) rfl hl.1 rfl (Nat.le_of_ble_eq_true rfl) dL_cough_5 ⟨Nat.le_of_ble_eq_true rfl, Nat.le_of_ble_eq_true rfl⟩ hT (tableOf [(0, 10, 13, 22)]) ⟨0, 10, 17, 13⟩ (tableOf []) rfl (wTp1 (Or.inr ⟨by decide, xI, hts (.classLink RL 22 xI) (by decide +kernel), hE.2.2.2.2.2.2.2.1⟩)) (by decide) (by decide) (hts (.classLink RL 13 xA) (by decide +kernel)) hE.2.2.2.2.2.1 (fun q9 H locs hP hD hS => ?_)
  refine lv_astore (lv' := [(4, .ref q9), (0, .ref x0), (1, .int (nI x)), (2, .int w), (3, .ref q)]) hx hb dL_cough_17 hl (by decide) rfl (fun ls hl => ?_)
  refine lv_iconst (v := 2) hx hb dL_cough_19 (by decide) ?_
  exact wRi hQ hx hb hr hlocks hP hD hS dL_cough_20 () (rfl) rfl
abbrev rmL_coughsOf1 : Room := { frames := 8, cells := 1, slots := 6, locals := 124 }
set_option maxRecDepth 100000 in
set_option maxHeartbeats 4000000 in
theorem mL_coughsOf1 (l : Launch) (D : va_G) (cI cJ : ClassId) (x0 : Nat) (a b : Nat → Nat) (f f2 : Nat → Int32) (r r2 : Nat → Nat → Int32) (q : Nat) (v : Nat → Int64) (x : Int32) (sz : Nat) (hlt : l.stackTraces = false) (hbad : x < 0 ∨ f 0 ≤ x) : wCw l yL_coughsOf wsL_coughsOf rmL_coughsOf1 D [(cI, .int), (cJ, .long)] [.ref x0, .int x, .ref q] (XO x0 a b ++ (DC cI a f r ++ (DC cI b f2 r2 ++ OUT cJ q v))) sz 1 6 (wQi D (fun v9 (_ : Unit) => v9 = 1) (fun _ : Unit => XO x0 a b ++ (DC cI a f r ++ (DC cI b f2 r2 ++ OUT cJ q v)))) := by
  refine wMetW cL_coughsOf 4 (some .int) [(0, 9, 12, 22)] (by decide) rfl (Nat.le_of_ble_eq_true rfl) ?_
  intro p e s m args below meth c A Q ls hQ hx hb hr hml hown hlocks hin hts hN hE hZ hT hP hK hD hA hS hl
  have hK1 : va_K D vwCl [(cI, .int)] s := hK.sub [0] rfl
  have hl : lv_has ls 4 [(0, .ref x0), (1, .int x), (2, .ref q)] := hl
  have hown : s.vm.findClass RL = some m.cls := hown
  refine lv_aload_n hx hb dL_coughsOf_0 rfl (lv_at hl 2 rfl) ?_
  refine lv_iconst (v := 0) hx hb dL_coughsOf_1 (by decide) ?_
  refine lv_aload_n hx hb dL_coughsOf_2 rfl (lv_at hl 0 rfl) ?_
  refine lv_iload_n hx hb dL_coughsOf_3 rfl (lv_at hl 1 rfl) ?_
  refine wVcatch (pre := ([] : va_W)) (Wc := XO x0 a b ++ (DC cI a f r ++ DC cI b f2 r2)) (suf := OUT cJ q v) (As := [.int x]) (rest := [.int 0, .ref q]) ⟨hx, hb, hml, hown, hts⟩ (mX1_coughsOf1 l D cI x0 a b f f2 r r2 x _ hlt hbad) hN hE hZ hA hK1 hS hP hD rfl 0 (r := (RX1, TX1, 2)) rfl rfl (cwV 1 hts gL_coughsOf_X1_coughsOf rfl rfl rfl (by decide +kernel) ⟨Nat.le_of_ble_eq_true rfl, Nat.le_of_ble_eq_true rfl⟩) rfl hl.1 rfl (Nat.le_of_ble_eq_true rfl) dL_coughsOf_4 ⟨Nat.le_of_ble_eq_true rfl, Nat.le_of_ble_eq_true rfl⟩ hT (tableOf []) ⟨0, 9, 12, 22⟩ (tableOf []) rfl (wTp0) (by decide) (by decide) (hts (.classLink RL 22 xI) (by decide +kernel)) hE.2.2.2.2.1 (fun q9 H locs hP hD hS => ?_)
  refine lv_astore_n (lv' := [(3, .ref q9), (0, .ref x0), (1, .int x), (2, .ref q)]) hx hb dL_coughsOf_12 rfl hl (by decide) rfl (fun ls hl => ?_)
  refine lv_iconst (v := 1) hx hb dL_coughsOf_13 (by decide) ?_
  exact wRi hQ hx hb hr hlocks hP hD hS dL_coughsOf_14 () (rfl) rfl
abbrev rmL_glance1 : Room := { frames := 9, cells := 1, slots := 6, locals := 147 }
set_option maxRecDepth 100000 in
set_option maxHeartbeats 4000000 in
theorem mL_glance1 (l : Launch) (D : va_G) (cI cJ : ClassId) (x0 : Nat) (a b : Nat → Nat) (f f2 : Nat → Int32) (r r2 : Nat → Nat → Int32) (q : Nat) (v : Nat → Int64) (x y : Int32) (sz : Nat) (hlt : l.stackTraces = false) (hbad : x < 0 ∨ f 0 ≤ x) : wCw l yL_glance wsL_glance rmL_glance1 D [(cI, .int), (cJ, .long)] [.ref x0, .int x, .int y, .ref q] (XO x0 a b ++ (DC cI a f r ++ (DC cI b f2 r2 ++ OUT cJ q v))) sz 1 6 (wQi D (fun v9 (_ : Unit) => v9 = 1) (fun _ : Unit => XO x0 a b ++ (DC cI a f r ++ (DC cI b f2 r2 ++ OUT cJ q v)))) := by
  refine wMetW cL_glance 5 (some .int) [(0, 10, 13, 22), (0, 10, 17, 13), (0, 10, 21, 30)] (by decide) rfl (Nat.le_of_ble_eq_true rfl) ?_
  intro p e s m args below meth c A Q ls hQ hx hb hr hml hown hlocks hin hts hN hE hZ hT hP hK hD hA hS hl
  have hK1 : va_K D vwCl [(cI, .int)] s := hK.sub [0] rfl
  have hl : lv_has ls 5 [(0, .ref x0), (1, .int x), (2, .int y), (3, .ref q)] := hl
  have hown : s.vm.findClass RL = some m.cls := hown
  refine lv_aload_n hx hb dL_glance_0 rfl (lv_at hl 3 rfl) ?_
  refine lv_iconst (v := 0) hx hb dL_glance_1 (by decide) ?_
  refine lv_aload_n hx hb dL_glance_2 rfl (lv_at hl 0 rfl) ?_
  refine lv_iload_n hx hb dL_glance_3 rfl (lv_at hl 1 rfl) ?_
  refine lv_iload_n hx hb dL_glance_4 rfl (lv_at hl 2 rfl) ?_
  refine wVcatch (pre := ([] : va_W)) (Wc := XO x0 a b ++ (DC cI a f r ++ DC cI b f2 r2)) (suf := OUT cJ q v) (As := [.int x, .int y]) (rest := [.int 0, .ref q]) ⟨hx, hb, hml, hown, hts⟩ (mX1_glance1 l D cI x0 a b f f2 r r2 x y _ hlt hbad) hN hE hZ hA hK1 hS hP hD rfl 0 (r := (RX1, TX1, 2)) rfl rfl (cwV 2 hts gL_glance_X1_glance rfl rfl rfl (by decide +kernel) ⟨Nat.le_of_ble_eq_true rfl, Nat.le_of_ble_eq_true rfl⟩) rfl hl.1 rfl (Nat.le_of_ble_eq_true rfl) dL_glance_5 ⟨Nat.le_of_ble_eq_true rfl, Nat.le_of_ble_eq_true rfl⟩ hT (tableOf []) ⟨0, 10, 13, 22⟩ (tableOf [(0, 10, 17, 13), (0, 10, 21, 30)]) rfl (wTp0) (by decide) (by decide) (hts (.classLink RL 22 xI) (by decide +kernel)) hE.2.2.2.2.1 (fun q9 H locs hP hD hS => ?_)
  refine lv_astore (lv' := [(4, .ref q9), (0, .ref x0), (1, .int x), (2, .int y), (3, .ref q)]) hx hb dL_glance_13 hl (by decide) rfl (fun ls hl => ?_)
  refine lv_iconst (v := 1) hx hb dL_glance_15 (by decide) ?_
  exact wRi hQ hx hb hr hlocks hP hD hS dL_glance_16 () (rfl) rfl
abbrev rmL_glance2 : Room := { frames := 9, cells := 1, slots := 6, locals := 147 }
set_option maxRecDepth 100000 in
set_option maxHeartbeats 4000000 in
theorem mL_glance2 (l : Launch) (D : va_G) (cI cJ : ClassId) (x0 : Nat) (a b : Nat → Nat) (f f2 : Nat → Int32) (r r2 : Nat → Nat → Int32) (q : Nat) (v : Nat → Int64) (gg x : Nat) (y : Int32) (sz : Nat) (hlt : l.stackTraces = false) (hg : f 0 = nI gg) (hg2 : gg ≤ 10) (hg0 : 0 < gg) (ux : x < gg) (hbad : y < 0 ∨ f 0 ≤ y) : wCw l yL_glance wsL_glance rmL_glance2 D [(cI, .int), (cJ, .long)] [.ref x0, .int (nI x), .int y, .ref q] (XO x0 a b ++ (DC cI a f r ++ (DC cI b f2 r2 ++ OUT cJ q v))) sz 1 6 (wQi D (fun v9 (_ : Unit) => v9 = 1) (fun _ : Unit => XO x0 a b ++ (DC cI a f r ++ (DC cI b f2 r2 ++ OUT cJ q v)))) := by
  refine wMetW cL_glance 5 (some .int) [(0, 10, 13, 22), (0, 10, 17, 13), (0, 10, 21, 30)] (by decide) rfl (Nat.le_of_ble_eq_true rfl) ?_
  intro p e s m args below meth c A Q ls hQ hx hb hr hml hown hlocks hin hts hN hE hZ hT hP hK hD hA hS hl
  have hK1 : va_K D vwCl [(cI, .int)] s := hK.sub [0] rfl
  have hl : lv_has ls 5 [(0, .ref x0), (1, .int (nI x)), (2, .int y), (3, .ref q)] := hl
  have hown : s.vm.findClass RL = some m.cls := hown
  refine lv_aload_n hx hb dL_glance_0 rfl (lv_at hl 3 rfl) ?_
  refine lv_iconst (v := 0) hx hb dL_glance_1 (by decide) ?_
  refine lv_aload_n hx hb dL_glance_2 rfl (lv_at hl 0 rfl) ?_
  refine lv_iload_n hx hb dL_glance_3 rfl (lv_at hl 1 rfl) ?_
  refine lv_iload_n hx hb dL_glance_4 rfl (lv_at hl 2 rfl) ?_
  refine wVcatch (pre := ([] : va_W)) (Wc := XO x0 a b ++ (DC cI a f r ++ DC cI b f2 r2)) (suf := OUT cJ q v) (As := [.int (nI x), .int y]) (rest := [.int 0, .ref q]) ⟨hx, hb, hml, hown, hts⟩ (mX1_glance2 l D cI x0 a b f f2 r r2 gg x y _ hlt hg hg2 hg0 ux hbad) hN hE hZ hA hK1 hS hP hD rfl 0 (r := (RX1, TX1, 2)) rfl rfl (cwV 2 hts gL_glance_X1_glance rfl rfl rfl (by decide +kernel) ⟨Nat.le_of_ble_eq_true rfl, Nat.le_of_ble_eq_true rfl⟩) rfl hl.1 rfl (Nat.le_of_ble_eq_true rfl) dL_glance_5 ⟨Nat.le_of_ble_eq_true rfl, Nat.le_of_ble_eq_true rfl⟩ hT (tableOf []) ⟨0, 10, 13, 22⟩ (tableOf [(0, 10, 17, 13), (0, 10, 21, 30)]) rfl (wTp0) (by decide) (by decide) (hts (.classLink RL 22 xI) (by decide +kernel)) hE.2.2.2.2.1 (fun q9 H locs hP hD hS => ?_)
  refine lv_astore (lv' := [(4, .ref q9), (0, .ref x0), (1, .int (nI x)), (2, .int y), (3, .ref q)]) hx hb dL_glance_13 hl (by decide) rfl (fun ls hl => ?_)
  refine lv_iconst (v := 1) hx hb dL_glance_15 (by decide) ?_
  exact wRi hQ hx hb hr hlocks hP hD hS dL_glance_16 () (rfl) rfl
abbrev rmL_glance3 : Room := { frames := 8, cells := 1, slots := 6, locals := 126 }
set_option maxRecDepth 100000 in
set_option maxHeartbeats 4000000 in
theorem mL_glance3 (l : Launch) (D : va_G) (cI cJ : ClassId) (x0 : Nat) (a b : Nat → Nat) (f f2 : Nat → Int32) (r r2 : Nat → Nat → Int32) (q : Nat) (v : Nat → Int64) (gg x : Nat) (sz : Nat) (hlt : l.stackTraces = false) (hg : f 0 = nI gg) (hg2 : gg ≤ 10) (hg0 : 0 < gg) (ux : x < gg) : wCw l yL_glance wsL_glance rmL_glance3 D [(cI, .int), (cJ, .long)] [.ref x0, .int (nI x), .int (nI x), .ref q] (XO x0 a b ++ (DC cI a f r ++ (DC cI b f2 r2 ++ OUT cJ q v))) sz 1 6 (wQi D (fun v9 (_ : Unit) => v9 = 2) (fun _ : Unit => XO x0 a b ++ (DC cI a f r ++ (DC cI b f2 r2 ++ OUT cJ q v)))) := by
  refine wMetW cL_glance 5 (some .int) [(0, 10, 13, 22), (0, 10, 17, 13), (0, 10, 21, 30)] (by decide) rfl (Nat.le_of_ble_eq_true rfl) ?_
  intro p e s m args below meth c A Q ls hQ hx hb hr hml hown hlocks hin hts hN hE hZ hT hP hK hD hA hS hl
  have hK1 : va_K D vwCl [(cI, .int)] s := hK.sub [0] rfl
  have hl : lv_has ls 5 [(0, .ref x0), (1, .int (nI x)), (2, .int (nI x)), (3, .ref q)] := hl
  have hown : s.vm.findClass RL = some m.cls := hown
  refine lv_aload_n hx hb dL_glance_0 rfl (lv_at hl 3 rfl) ?_
  refine lv_iconst (v := 0) hx hb dL_glance_1 (by decide) ?_
  refine lv_aload_n hx hb dL_glance_2 rfl (lv_at hl 0 rfl) ?_
  refine lv_iload_n hx hb dL_glance_3 rfl (lv_at hl 1 rfl) ?_
  refine lv_iload_n hx hb dL_glance_4 rfl (lv_at hl 2 rfl) ?_
  refine wVcatch (pre := ([] : va_W)) (Wc := XO x0 a b ++ (DC cI a f r ++ DC cI b f2 r2)) (suf := OUT cJ q v) (As := [.int (nI x), .int (nI x)]) (rest := [.int 0, .ref q]) ⟨hx, hb, hml, hown, hts⟩ (mX1_glance3 l D cI x0 a b f f2 r r2 gg x _ hlt hg hg2 hg0 ux) hN hE hZ hA hK1 hS hP hD rfl 0 (r := (RX1, TX1, 2)) rfl rfl (cwV 2 hts gL_glance_X1_glance rfl rfl rfl (by decide +kernel) ⟨Nat.le_of_ble_eq_true rfl, Nat.le_of_ble_eq_true rfl⟩) rfl hl.1 rfl (Nat.le_of_ble_eq_true rfl) dL_glance_5 ⟨Nat.le_of_ble_eq_true rfl, Nat.le_of_ble_eq_true rfl⟩ hT (tableOf [(0, 10, 13, 22)]) ⟨0, 10, 17, 13⟩ (tableOf [(0, 10, 21, 30)]) rfl (wTp1 (Or.inr ⟨by decide, xI, hts (.classLink RL 22 xI) (by decide +kernel), hE.2.2.2.2.2.2.2.1⟩)) (by decide) (by decide) (hts (.classLink RL 13 xA) (by decide +kernel)) hE.2.2.2.2.2.1 (fun q9 H locs hP hD hS => ?_)
  refine lv_astore (lv' := [(4, .ref q9), (0, .ref x0), (1, .int (nI x)), (2, .int (nI x)), (3, .ref q)]) hx hb dL_glance_17 hl (by decide) rfl (fun ls hl => ?_)
  refine lv_iconst (v := 2) hx hb dL_glance_19 (by decide) ?_
  exact wRi hQ hx hb hr hlocks hP hD hS dL_glance_20 () (rfl) rfl
abbrev rmL_glance4 : Room := { frames := 8, cells := 1, slots := 6, locals := 126 }
set_option maxRecDepth 100000 in
set_option maxHeartbeats 4000000 in
theorem mL_glance4 (l : Launch) (D : va_G) (cI cJ : ClassId) (x0 : Nat) (a b : Nat → Nat) (f f2 : Nat → Int32) (r r2 : Nat → Nat → Int32) (q : Nat) (v : Nat → Int64) (gg x y : Nat) (sz : Nat) (hlt : l.stackTraces = false) (hg : f 0 = nI gg) (hg2 : gg ≤ 10) (hg0 : 0 < gg) (ux : x < gg) (uy : y < gg) (hne : ¬ nI x = nI y) (hway : ¬ r 4 (x * 10 + y) = -1) : wCw l yL_glance wsL_glance rmL_glance4 D [(cI, .int), (cJ, .long)] [.ref x0, .int (nI x), .int (nI y), .ref q] (XO x0 a b ++ (DC cI a f r ++ (DC cI b f2 r2 ++ OUT cJ q v))) sz 1 6 (wQi D (fun v9 (_ : Unit) => v9 = 3) (fun _ : Unit => XO x0 a b ++ (DC cI a f r ++ (DC cI b f2 r2 ++ OUT cJ q v)))) := by
  refine wMetW cL_glance 5 (some .int) [(0, 10, 13, 22), (0, 10, 17, 13), (0, 10, 21, 30)] (by decide) rfl (Nat.le_of_ble_eq_true rfl) ?_
  intro p e s m args below meth c A Q ls hQ hx hb hr hml hown hlocks hin hts hN hE hZ hT hP hK hD hA hS hl
  have hK1 : va_K D vwCl [(cI, .int)] s := hK.sub [0] rfl
  have hl : lv_has ls 5 [(0, .ref x0), (1, .int (nI x)), (2, .int (nI y)), (3, .ref q)] := hl
  have hown : s.vm.findClass RL = some m.cls := hown
  refine lv_aload_n hx hb dL_glance_0 rfl (lv_at hl 3 rfl) ?_
  refine lv_iconst (v := 0) hx hb dL_glance_1 (by decide) ?_
  refine lv_aload_n hx hb dL_glance_2 rfl (lv_at hl 0 rfl) ?_
  refine lv_iload_n hx hb dL_glance_3 rfl (lv_at hl 1 rfl) ?_
  refine lv_iload_n hx hb dL_glance_4 rfl (lv_at hl 2 rfl) ?_
  refine wVcatch (pre := ([] : va_W)) (Wc := XO x0 a b ++ (DC cI a f r ++ DC cI b f2 r2)) (suf := OUT cJ q v) (As := [.int (nI x), .int (nI y)]) (rest := [.int 0, .ref q]) ⟨hx, hb, hml, hown, hts⟩ (mX1_glance4 l D cI x0 a b f f2 r r2 gg x y _ hlt hg hg2 hg0 ux uy hne hway) hN hE hZ hA hK1 hS hP hD rfl 0 (r := (RX1, TX1, 2)) rfl rfl (cwV 2 hts gL_glance_X1_glance rfl rfl rfl (by decide +kernel) ⟨Nat.le_of_ble_eq_true rfl, Nat.le_of_ble_eq_true rfl⟩) rfl hl.1 rfl (Nat.le_of_ble_eq_true rfl) dL_glance_5 ⟨Nat.le_of_ble_eq_true rfl, Nat.le_of_ble_eq_true rfl⟩ hT (tableOf [(0, 10, 13, 22), (0, 10, 17, 13)]) ⟨0, 10, 21, 30⟩ (tableOf []) rfl (wTp2 (Or.inr ⟨by decide, xI, hts (.classLink RL 22 xI) (by decide +kernel), hE.2.2.2.2.2.2.2.2.1⟩) (Or.inr ⟨by decide, xA, hts (.classLink RL 13 xA) (by decide +kernel), hE.2.2.2.2.2.2.2.2.2.1⟩)) (by decide) (by decide) (hts (.classLink RL 30 xS) (by decide +kernel)) hE.2.2.2.2.2.2.1 (fun q9 H locs hP hD hS => ?_)
  refine lv_astore (lv' := [(4, .ref q9), (0, .ref x0), (1, .int (nI x)), (2, .int (nI y)), (3, .ref q)]) hx hb dL_glance_21 hl (by decide) rfl (fun ls hl => ?_)
  refine lv_iconst (v := 3) hx hb dL_glance_23 (by decide) ?_
  exact wRi hQ hx hb hr hlocks hP hD hS dL_glance_24 () (rfl) rfl
abbrev rmL_interruptionsBy1 : Room := { frames := 8, cells := 1, slots := 6, locals := 124 }
set_option maxRecDepth 100000 in
set_option maxHeartbeats 4000000 in
theorem mL_interruptionsBy1 (l : Launch) (D : va_G) (cI cJ : ClassId) (x0 : Nat) (a b : Nat → Nat) (f f2 : Nat → Int32) (r r2 : Nat → Nat → Int32) (q : Nat) (v : Nat → Int64) (x : Int32) (sz : Nat) (hlt : l.stackTraces = false) (hbad : x < 0 ∨ f 0 ≤ x) : wCw l yL_interruptionsBy wsL_interruptionsBy rmL_interruptionsBy1 D [(cI, .int), (cJ, .long)] [.ref x0, .int x, .ref q] (XO x0 a b ++ (DC cI a f r ++ (DC cI b f2 r2 ++ OUT cJ q v))) sz 1 6 (wQi D (fun v9 (_ : Unit) => v9 = 1) (fun _ : Unit => XO x0 a b ++ (DC cI a f r ++ (DC cI b f2 r2 ++ OUT cJ q v)))) := by
  refine wMetW cL_interruptionsBy 4 (some .int) [(0, 9, 12, 22)] (by decide) rfl (Nat.le_of_ble_eq_true rfl) ?_
  intro p e s m args below meth c A Q ls hQ hx hb hr hml hown hlocks hin hts hN hE hZ hT hP hK hD hA hS hl
  have hK1 : va_K D vwCl [(cI, .int)] s := hK.sub [0] rfl
  have hl : lv_has ls 4 [(0, .ref x0), (1, .int x), (2, .ref q)] := hl
  have hown : s.vm.findClass RL = some m.cls := hown
  refine lv_aload_n hx hb dL_interruptionsBy_0 rfl (lv_at hl 2 rfl) ?_
  refine lv_iconst (v := 0) hx hb dL_interruptionsBy_1 (by decide) ?_
  refine lv_aload_n hx hb dL_interruptionsBy_2 rfl (lv_at hl 0 rfl) ?_
  refine lv_iload_n hx hb dL_interruptionsBy_3 rfl (lv_at hl 1 rfl) ?_
  refine wVcatch (pre := ([] : va_W)) (Wc := XO x0 a b ++ (DC cI a f r ++ DC cI b f2 r2)) (suf := OUT cJ q v) (As := [.int x]) (rest := [.int 0, .ref q]) ⟨hx, hb, hml, hown, hts⟩ (mX1_interruptionsBy1 l D cI x0 a b f f2 r r2 x _ hlt hbad) hN hE hZ hA hK1 hS hP hD rfl 0 (r := (RX1, TX1, 2)) rfl rfl (cwV 1 hts gL_interruptionsBy_X1_interruptionsBy rfl rfl rfl (by decide +kernel) ⟨Nat.le_of_ble_eq_true rfl, Nat.le_of_ble_eq_true rfl⟩) rfl hl.1 rfl (Nat.le_of_ble_eq_true rfl) dL_interruptionsBy_4 ⟨Nat.le_of_ble_eq_true rfl, Nat.le_of_ble_eq_true rfl⟩ hT (tableOf []) ⟨0, 9, 12, 22⟩ (tableOf []) rfl (wTp0) (by decide) (by decide) (hts (.classLink RL 22 xI) (by decide +kernel)) hE.2.2.2.2.1 (fun q9 H locs hP hD hS => ?_)
  refine lv_astore_n (lv' := [(3, .ref q9), (0, .ref x0), (1, .int x), (2, .ref q)]) hx hb dL_interruptionsBy_12 rfl hl (by decide) rfl (fun ls hl => ?_)
  refine lv_iconst (v := 1) hx hb dL_interruptionsBy_13 (by decide) ?_
  exact wRi hQ hx hb hr hlocks hP hD hS dL_interruptionsBy_14 () (rfl) rfl
abbrev rmL_isUnderWay1 : Room := { frames := 8, cells := 1, slots := 6, locals := 125 }
set_option maxRecDepth 100000 in
set_option maxHeartbeats 4000000 in
theorem mL_isUnderWay1 (l : Launch) (D : va_G) (cI cJ : ClassId) (x0 : Nat) (a b : Nat → Nat) (f f2 : Nat → Int32) (r r2 : Nat → Nat → Int32) (q : Nat) (v : Nat → Int64) (x y : Int32) (sz : Nat) (hlt : l.stackTraces = false) (hbad : x < 0 ∨ f 0 ≤ x) : wCw l yL_isUnderWay wsL_isUnderWay rmL_isUnderWay1 D [(cI, .int), (cJ, .long)] [.ref x0, .int x, .int y, .ref q] (XO x0 a b ++ (DC cI a f r ++ (DC cI b f2 r2 ++ OUT cJ q v))) sz 1 6 (wQi D (fun v9 (_ : Unit) => v9 = 1) (fun _ : Unit => XO x0 a b ++ (DC cI a f r ++ (DC cI b f2 r2 ++ OUT cJ q v)))) := by
  refine wMetW cL_isUnderWay 5 (some .int) [(0, 17, 20, 22)] (by decide) rfl (Nat.le_of_ble_eq_true rfl) ?_
  intro p e s m args below meth c A Q ls hQ hx hb hr hml hown hlocks hin hts hN hE hZ hT hP hK hD hA hS hl
  have hK1 : va_K D vwCl [(cI, .int)] s := hK.sub [0] rfl
  have hl : lv_has ls 5 [(0, .ref x0), (1, .int x), (2, .int y), (3, .ref q)] := hl
  have hown : s.vm.findClass RL = some m.cls := hown
  refine lv_aload_n hx hb dL_isUnderWay_0 rfl (lv_at hl 3 rfl) ?_
  refine lv_iconst (v := 0) hx hb dL_isUnderWay_1 (by decide) ?_
  refine lv_aload_n hx hb dL_isUnderWay_2 rfl (lv_at hl 0 rfl) ?_
  refine lv_iload_n hx hb dL_isUnderWay_3 rfl (lv_at hl 1 rfl) ?_
  refine lv_iload_n hx hb dL_isUnderWay_4 rfl (lv_at hl 2 rfl) ?_
  refine wVcatch (pre := ([] : va_W)) (Wc := XO x0 a b ++ (DC cI a f r ++ DC cI b f2 r2)) (suf := OUT cJ q v) (As := [.int x, .int y]) (rest := [.int 0, .ref q]) ⟨hx, hb, hml, hown, hts⟩ (mX1_isUnderWay1 l D cI x0 a b f f2 r r2 x y _ hlt hbad) hN hE hZ hA hK1 hS hP hD rfl 0 (r := (RX1, TX1, 2)) rfl rfl (cwV 2 hts gL_isUnderWay_X1_isUnderWay rfl rfl rfl (by decide +kernel) ⟨Nat.le_of_ble_eq_true rfl, Nat.le_of_ble_eq_true rfl⟩) rfl hl.1 rfl (Nat.le_of_ble_eq_true rfl) dL_isUnderWay_5 ⟨Nat.le_of_ble_eq_true rfl, Nat.le_of_ble_eq_true rfl⟩ hT (tableOf []) ⟨0, 17, 20, 22⟩ (tableOf []) rfl (wTp0) (by decide) (by decide) (hts (.classLink RL 22 xI) (by decide +kernel)) hE.2.2.2.2.1 (fun q9 H locs hP hD hS => ?_)
  refine lv_astore (lv' := [(4, .ref q9), (0, .ref x0), (1, .int x), (2, .int y), (3, .ref q)]) hx hb dL_isUnderWay_20 hl (by decide) rfl (fun ls hl => ?_)
  refine lv_iconst (v := 1) hx hb dL_isUnderWay_22 (by decide) ?_
  exact wRi hQ hx hb hr hlocks hP hD hS dL_isUnderWay_23 () (rfl) rfl
abbrev rmL_isUnderWay2 : Room := { frames := 8, cells := 1, slots := 6, locals := 125 }
set_option maxRecDepth 100000 in
set_option maxHeartbeats 4000000 in
theorem mL_isUnderWay2 (l : Launch) (D : va_G) (cI cJ : ClassId) (x0 : Nat) (a b : Nat → Nat) (f f2 : Nat → Int32) (r r2 : Nat → Nat → Int32) (q : Nat) (v : Nat → Int64) (gg x : Nat) (y : Int32) (sz : Nat) (hlt : l.stackTraces = false) (hg : f 0 = nI gg) (hg2 : gg ≤ 10) (hg0 : 0 < gg) (ux : x < gg) (hbad : y < 0 ∨ f 0 ≤ y) : wCw l yL_isUnderWay wsL_isUnderWay rmL_isUnderWay2 D [(cI, .int), (cJ, .long)] [.ref x0, .int (nI x), .int y, .ref q] (XO x0 a b ++ (DC cI a f r ++ (DC cI b f2 r2 ++ OUT cJ q v))) sz 1 6 (wQi D (fun v9 (_ : Unit) => v9 = 1) (fun _ : Unit => XO x0 a b ++ (DC cI a f r ++ (DC cI b f2 r2 ++ OUT cJ q v)))) := by
  refine wMetW cL_isUnderWay 5 (some .int) [(0, 17, 20, 22)] (by decide) rfl (Nat.le_of_ble_eq_true rfl) ?_
  intro p e s m args below meth c A Q ls hQ hx hb hr hml hown hlocks hin hts hN hE hZ hT hP hK hD hA hS hl
  have hK1 : va_K D vwCl [(cI, .int)] s := hK.sub [0] rfl
  have hl : lv_has ls 5 [(0, .ref x0), (1, .int (nI x)), (2, .int y), (3, .ref q)] := hl
  have hown : s.vm.findClass RL = some m.cls := hown
  refine lv_aload_n hx hb dL_isUnderWay_0 rfl (lv_at hl 3 rfl) ?_
  refine lv_iconst (v := 0) hx hb dL_isUnderWay_1 (by decide) ?_
  refine lv_aload_n hx hb dL_isUnderWay_2 rfl (lv_at hl 0 rfl) ?_
  refine lv_iload_n hx hb dL_isUnderWay_3 rfl (lv_at hl 1 rfl) ?_
  refine lv_iload_n hx hb dL_isUnderWay_4 rfl (lv_at hl 2 rfl) ?_
  refine wVcatch (pre := ([] : va_W)) (Wc := XO x0 a b ++ (DC cI a f r ++ DC cI b f2 r2)) (suf := OUT cJ q v) (As := [.int (nI x), .int y]) (rest := [.int 0, .ref q]) ⟨hx, hb, hml, hown, hts⟩ (mX1_isUnderWay2 l D cI x0 a b f f2 r r2 gg x y _ hlt hg hg2 hg0 ux hbad) hN hE hZ hA hK1 hS hP hD rfl 0 (r := (RX1, TX1, 2)) rfl rfl (cwV 2 hts gL_isUnderWay_X1_isUnderWay rfl rfl rfl (by decide +kernel) ⟨Nat.le_of_ble_eq_true rfl, Nat.le_of_ble_eq_true rfl⟩) rfl hl.1 rfl (Nat.le_of_ble_eq_true rfl) dL_isUnderWay_5 ⟨Nat.le_of_ble_eq_true rfl, Nat.le_of_ble_eq_true rfl⟩ hT (tableOf []) ⟨0, 17, 20, 22⟩ (tableOf []) rfl (wTp0) (by decide) (by decide) (hts (.classLink RL 22 xI) (by decide +kernel)) hE.2.2.2.2.1 (fun q9 H locs hP hD hS => ?_)
  refine lv_astore (lv' := [(4, .ref q9), (0, .ref x0), (1, .int (nI x)), (2, .int y), (3, .ref q)]) hx hb dL_isUnderWay_20 hl (by decide) rfl (fun ls hl => ?_)
  refine lv_iconst (v := 1) hx hb dL_isUnderWay_22 (by decide) ?_
  exact wRi hQ hx hb hr hlocks hP hD hS dL_isUnderWay_23 () (rfl) rfl
abbrev rmL_newDinner1 : Room := { frames := 8, cells := 1, slots := 6, locals := 126 }
set_option maxRecDepth 100000 in
set_option maxHeartbeats 4000000 in
theorem mL_newDinner1 (l : Launch) (D : va_G) (cI cJ : ClassId) (x0 : Nat) (a b : Nat → Nat) (f f2 : Nat → Int32) (r r2 : Nat → Nat → Int32) (q : Nat) (v : Nat → Int64) (w : Int32) (sz : Nat) (hlt : l.stackTraces = false) (hbad : w < 2 ∨ 10 < w) : wCw l yL_newDinner wsL_newDinner rmL_newDinner1 D [(cI, .int), (cJ, .long)] [.ref x0, .int w, .ref q] (XO x0 a b ++ (DC cI a f r ++ (DC cI b f2 r2 ++ OUT cJ q v))) sz 1 6 (wQi D (fun v9 (_ : Unit) => v9 = 1) (fun _ : Unit => XO x0 a b ++ (DC cI a f r ++ (DC cI b f2 r2 ++ OUT cJ q v)))) := by
  refine wMetW cL_newDinner 4 (some .int) [(0, 9, 12, 13)] (by decide) rfl (Nat.le_of_ble_eq_true rfl) ?_
  intro p e s m args below meth c A Q ls hQ hx hb hr hml hown hlocks hin hts hN hE hZ hT hP hK hD hA hS hl
  have hK1 : va_K D vwCl [(cI, .int)] s := hK.sub [0] rfl
  have hl : lv_has ls 4 [(0, .ref x0), (1, .int w), (2, .ref q)] := hl
  have hown : s.vm.findClass RL = some m.cls := hown
  refine lv_aload_n hx hb dL_newDinner_0 rfl (lv_at hl 2 rfl) ?_
  refine lv_iconst (v := 0) hx hb dL_newDinner_1 (by decide) ?_
  refine lv_aload_n hx hb dL_newDinner_2 rfl (lv_at hl 0 rfl) ?_
  refine lv_iload_n hx hb dL_newDinner_3 rfl (lv_at hl 1 rfl) ?_
  refine wVcatch (pre := ([] : va_W)) (Wc := XO x0 a b ++ (DC cI a f r ++ DC cI b f2 r2)) (suf := OUT cJ q v) (As := [.int w]) (rest := [.int 0, .ref q]) ⟨hx, hb, hml, hown, hts⟩ (mX1_newDinner1 l D cI x0 a b f f2 r r2 w _ hlt hbad) hN hE hZ hA hK1 hS hP hD rfl 0 (r := (RX1, TX1, 2)) rfl rfl (cwV 1 hts gL_newDinner_X1_newDinner rfl rfl rfl (by decide +kernel) ⟨Nat.le_of_ble_eq_true rfl, Nat.le_of_ble_eq_true rfl⟩) rfl hl.1 rfl (Nat.le_of_ble_eq_true rfl) dL_newDinner_4 ⟨Nat.le_of_ble_eq_true rfl, Nat.le_of_ble_eq_true rfl⟩ hT (tableOf []) ⟨0, 9, 12, 13⟩ (tableOf []) rfl (wTp0) (by decide) (by decide) (hts (.classLink RL 13 xA) (by decide +kernel)) hE.2.2.2.2.2.1 (fun q9 H locs hP hD hS => ?_)
  refine lv_astore_n (lv' := [(3, .ref q9), (0, .ref x0), (1, .int w), (2, .ref q)]) hx hb dL_newDinner_12 rfl hl (by decide) rfl (fun ls hl => ?_)
  refine lv_iconst (v := 1) hx hb dL_newDinner_13 (by decide) ?_
  exact wRi hQ hx hb hr hlocks hP hD hS dL_newDinner_14 () (rfl) rfl
abbrev rmL_pass1 : Room := { frames := 8, cells := 1, slots := 6, locals := 126 }
set_option maxRecDepth 100000 in
set_option maxHeartbeats 4000000 in
theorem mL_pass1 (l : Launch) (D : va_G) (cI cJ : ClassId) (x0 : Nat) (a b : Nat → Nat) (f f2 : Nat → Int32) (r r2 : Nat → Nat → Int32) (q : Nat) (v : Nat → Int64) (w : Int32) (sz : Nat) (hlt : l.stackTraces = false) (hbad : w < 1 ∨ 120 < w) : wCw l yL_pass wsL_pass rmL_pass1 D [(cI, .int), (cJ, .long)] [.ref x0, .int w, .ref q] (XO x0 a b ++ (DC cI a f r ++ (DC cI b f2 r2 ++ OUT cJ q v))) sz 1 6 (wQi D (fun v9 (_ : Unit) => v9 = 1) (fun _ : Unit => XO x0 a b ++ (DC cI a f r ++ (DC cI b f2 r2 ++ OUT cJ q v)))) := by
  refine wMetW cL_pass 4 (some .int) [(0, 9, 12, 13)] (by decide) rfl (Nat.le_of_ble_eq_true rfl) ?_
  intro p e s m args below meth c A Q ls hQ hx hb hr hml hown hlocks hin hts hN hE hZ hT hP hK hD hA hS hl
  have hK1 : va_K D vwCl [(cI, .int)] s := hK.sub [0] rfl
  have hl : lv_has ls 4 [(0, .ref x0), (1, .int w), (2, .ref q)] := hl
  have hown : s.vm.findClass RL = some m.cls := hown
  refine lv_aload_n hx hb dL_pass_0 rfl (lv_at hl 2 rfl) ?_
  refine lv_iconst (v := 0) hx hb dL_pass_1 (by decide) ?_
  refine lv_aload_n hx hb dL_pass_2 rfl (lv_at hl 0 rfl) ?_
  refine lv_iload_n hx hb dL_pass_3 rfl (lv_at hl 1 rfl) ?_
  refine wVcatch (pre := ([] : va_W)) (Wc := XO x0 a b ++ (DC cI a f r ++ DC cI b f2 r2)) (suf := OUT cJ q v) (As := [.int w]) (rest := [.int 0, .ref q]) ⟨hx, hb, hml, hown, hts⟩ (mX1_pass1 l D cI x0 a b f f2 r r2 w _ hlt hbad) hN hE hZ hA hK1 hS hP hD rfl 0 (r := (RX1, TX1, 2)) rfl rfl (cwV 1 hts gL_pass_X1_pass rfl rfl rfl (by decide +kernel) ⟨Nat.le_of_ble_eq_true rfl, Nat.le_of_ble_eq_true rfl⟩) rfl hl.1 rfl (Nat.le_of_ble_eq_true rfl) dL_pass_4 ⟨Nat.le_of_ble_eq_true rfl, Nat.le_of_ble_eq_true rfl⟩ hT (tableOf []) ⟨0, 9, 12, 13⟩ (tableOf []) rfl (wTp0) (by decide) (by decide) (hts (.classLink RL 13 xA) (by decide +kernel)) hE.2.2.2.2.2.1 (fun q9 H locs hP hD hS => ?_)
  refine lv_astore_n (lv' := [(3, .ref q9), (0, .ref x0), (1, .int w), (2, .ref q)]) hx hb dL_pass_12 rfl hl (by decide) rfl (fun ls hl => ?_)
  refine lv_iconst (v := 1) hx hb dL_pass_13 (by decide) ?_
  exact wRi hQ hx hb hr hlocks hP hD hS dL_pass_14 () (rfl) rfl
abbrev rmL_ratingIn1 : Room := { frames := 8, cells := 1, slots := 6, locals := 125 }
set_option maxRecDepth 100000 in
set_option maxHeartbeats 4000000 in
theorem mL_ratingIn1 (l : Launch) (D : va_G) (cI cJ : ClassId) (x0 : Nat) (a b : Nat → Nat) (f f2 : Nat → Int32) (r r2 : Nat → Nat → Int32) (q : Nat) (v : Nat → Int64) (w : Int32) (sz : Nat) (hlt : l.stackTraces = false) (hbad : w < 1 ∨ 120 < w) : wCw l yL_ratingIn wsL_ratingIn rmL_ratingIn1 D [(cI, .int), (cJ, .long)] [.ref x0, .int w, .ref q] (XO x0 a b ++ (DC cI a f r ++ (DC cI b f2 r2 ++ OUT cJ q v))) sz 1 6 (wQi D (fun v9 (_ : Unit) => v9 = 1) (fun _ : Unit => XO x0 a b ++ (DC cI a f r ++ (DC cI b f2 r2 ++ OUT cJ q v)))) := by
  refine wMetW cL_ratingIn 4 (some .int) [(0, 9, 12, 13)] (by decide) rfl (Nat.le_of_ble_eq_true rfl) ?_
  intro p e s m args below meth c A Q ls hQ hx hb hr hml hown hlocks hin hts hN hE hZ hT hP hK hD hA hS hl
  have hK1 : va_K D vwCl [(cI, .int)] s := hK.sub [0] rfl
  have hl : lv_has ls 4 [(0, .ref x0), (1, .int w), (2, .ref q)] := hl
  have hown : s.vm.findClass RL = some m.cls := hown
  refine lv_aload_n hx hb dL_ratingIn_0 rfl (lv_at hl 2 rfl) ?_
  refine lv_iconst (v := 0) hx hb dL_ratingIn_1 (by decide) ?_
  refine lv_aload_n hx hb dL_ratingIn_2 rfl (lv_at hl 0 rfl) ?_
  refine lv_iload_n hx hb dL_ratingIn_3 rfl (lv_at hl 1 rfl) ?_
  refine wVcatch (pre := ([] : va_W)) (Wc := XO x0 a b ++ (DC cI a f r ++ DC cI b f2 r2)) (suf := OUT cJ q v) (As := [.int w]) (rest := [.int 0, .ref q]) ⟨hx, hb, hml, hown, hts⟩ (mX1_ratingIn1 l D cI x0 a b f f2 r r2 w _ hlt hbad) hN hE hZ hA hK1 hS hP hD rfl 0 (r := (RX1, TX1, 2)) rfl rfl (cwV 1 hts gL_ratingIn_X1_ratingIn rfl rfl rfl (by decide +kernel) ⟨Nat.le_of_ble_eq_true rfl, Nat.le_of_ble_eq_true rfl⟩) rfl hl.1 rfl (Nat.le_of_ble_eq_true rfl) dL_ratingIn_4 ⟨Nat.le_of_ble_eq_true rfl, Nat.le_of_ble_eq_true rfl⟩ hT (tableOf []) ⟨0, 9, 12, 13⟩ (tableOf []) rfl (wTp0) (by decide) (by decide) (hts (.classLink RL 13 xA) (by decide +kernel)) hE.2.2.2.2.2.1 (fun q9 H locs hP hD hS => ?_)
  refine lv_astore_n (lv' := [(3, .ref q9), (0, .ref x0), (1, .int w), (2, .ref q)]) hx hb dL_ratingIn_12 rfl hl (by decide) rfl (fun ls hl => ?_)
  refine lv_iconst (v := 1) hx hb dL_ratingIn_13 (by decide) ?_
  exact wRi hQ hx hb hr hlocks hP hD hS dL_ratingIn_14 () (rfl) rfl
abbrev rmL_seatsApart1 : Room := { frames := 8, cells := 1, slots := 6, locals := 125 }
set_option maxRecDepth 100000 in
set_option maxHeartbeats 4000000 in
theorem mL_seatsApart1 (l : Launch) (D : va_G) (cI cJ : ClassId) (x0 : Nat) (a b : Nat → Nat) (f f2 : Nat → Int32) (r r2 : Nat → Nat → Int32) (q : Nat) (v : Nat → Int64) (x y : Int32) (sz : Nat) (hlt : l.stackTraces = false) (hbad : x < 0 ∨ f 0 ≤ x) : wCw l yL_seatsApart wsL_seatsApart rmL_seatsApart1 D [(cI, .int), (cJ, .long)] [.ref x0, .int x, .int y, .ref q] (XO x0 a b ++ (DC cI a f r ++ (DC cI b f2 r2 ++ OUT cJ q v))) sz 1 6 (wQi D (fun v9 (_ : Unit) => v9 = 1) (fun _ : Unit => XO x0 a b ++ (DC cI a f r ++ (DC cI b f2 r2 ++ OUT cJ q v)))) := by
  refine wMetW cL_seatsApart 5 (some .int) [(0, 10, 13, 22)] (by decide) rfl (Nat.le_of_ble_eq_true rfl) ?_
  intro p e s m args below meth c A Q ls hQ hx hb hr hml hown hlocks hin hts hN hE hZ hT hP hK hD hA hS hl
  have hK1 : va_K D vwCl [(cI, .int)] s := hK.sub [0] rfl
  have hl : lv_has ls 5 [(0, .ref x0), (1, .int x), (2, .int y), (3, .ref q)] := hl
  have hown : s.vm.findClass RL = some m.cls := hown
  refine lv_aload_n hx hb dL_seatsApart_0 rfl (lv_at hl 3 rfl) ?_
  refine lv_iconst (v := 0) hx hb dL_seatsApart_1 (by decide) ?_
  refine lv_aload_n hx hb dL_seatsApart_2 rfl (lv_at hl 0 rfl) ?_
  refine lv_iload_n hx hb dL_seatsApart_3 rfl (lv_at hl 1 rfl) ?_
  refine lv_iload_n hx hb dL_seatsApart_4 rfl (lv_at hl 2 rfl) ?_
  refine wVcatch (pre := ([] : va_W)) (Wc := XO x0 a b ++ (DC cI a f r ++ DC cI b f2 r2)) (suf := OUT cJ q v) (As := [.int x, .int y]) (rest := [.int 0, .ref q]) ⟨hx, hb, hml, hown, hts⟩ (mX1_seatsApart1 l D cI x0 a b f f2 r r2 x y _ hlt hbad) hN hE hZ hA hK1 hS hP hD rfl 0 (r := (RX1, TX1, 2)) rfl rfl (cwV 2 hts gL_seatsApart_X1_seatsApart rfl rfl rfl (by decide +kernel) ⟨Nat.le_of_ble_eq_true rfl, Nat.le_of_ble_eq_true rfl⟩) rfl hl.1 rfl (Nat.le_of_ble_eq_true rfl) dL_seatsApart_5 ⟨Nat.le_of_ble_eq_true rfl, Nat.le_of_ble_eq_true rfl⟩ hT (tableOf []) ⟨0, 10, 13, 22⟩ (tableOf []) rfl (wTp0) (by decide) (by decide) (hts (.classLink RL 22 xI) (by decide +kernel)) hE.2.2.2.2.1 (fun q9 H locs hP hD hS => ?_)
  refine lv_astore (lv' := [(4, .ref q9), (0, .ref x0), (1, .int x), (2, .int y), (3, .ref q)]) hx hb dL_seatsApart_13 hl (by decide) rfl (fun ls hl => ?_)
  refine lv_iconst (v := 1) hx hb dL_seatsApart_15 (by decide) ?_
  exact wRi hQ hx hb hr hlocks hP hD hS dL_seatsApart_16 () (rfl) rfl
abbrev rmL_seatsApart2 : Room := { frames := 8, cells := 1, slots := 6, locals := 125 }
set_option maxRecDepth 100000 in
set_option maxHeartbeats 4000000 in
theorem mL_seatsApart2 (l : Launch) (D : va_G) (cI cJ : ClassId) (x0 : Nat) (a b : Nat → Nat) (f f2 : Nat → Int32) (r r2 : Nat → Nat → Int32) (q : Nat) (v : Nat → Int64) (gg x : Nat) (y : Int32) (sz : Nat) (hlt : l.stackTraces = false) (hg : f 0 = nI gg) (hg2 : gg ≤ 10) (hg0 : 0 < gg) (ux : x < gg) (hbad : y < 0 ∨ f 0 ≤ y) : wCw l yL_seatsApart wsL_seatsApart rmL_seatsApart2 D [(cI, .int), (cJ, .long)] [.ref x0, .int (nI x), .int y, .ref q] (XO x0 a b ++ (DC cI a f r ++ (DC cI b f2 r2 ++ OUT cJ q v))) sz 1 6 (wQi D (fun v9 (_ : Unit) => v9 = 1) (fun _ : Unit => XO x0 a b ++ (DC cI a f r ++ (DC cI b f2 r2 ++ OUT cJ q v)))) := by
  refine wMetW cL_seatsApart 5 (some .int) [(0, 10, 13, 22)] (by decide) rfl (Nat.le_of_ble_eq_true rfl) ?_
  intro p e s m args below meth c A Q ls hQ hx hb hr hml hown hlocks hin hts hN hE hZ hT hP hK hD hA hS hl
  have hK1 : va_K D vwCl [(cI, .int)] s := hK.sub [0] rfl
  have hl : lv_has ls 5 [(0, .ref x0), (1, .int (nI x)), (2, .int y), (3, .ref q)] := hl
  have hown : s.vm.findClass RL = some m.cls := hown
  refine lv_aload_n hx hb dL_seatsApart_0 rfl (lv_at hl 3 rfl) ?_
  refine lv_iconst (v := 0) hx hb dL_seatsApart_1 (by decide) ?_
  refine lv_aload_n hx hb dL_seatsApart_2 rfl (lv_at hl 0 rfl) ?_
  refine lv_iload_n hx hb dL_seatsApart_3 rfl (lv_at hl 1 rfl) ?_
  refine lv_iload_n hx hb dL_seatsApart_4 rfl (lv_at hl 2 rfl) ?_
  refine wVcatch (pre := ([] : va_W)) (Wc := XO x0 a b ++ (DC cI a f r ++ DC cI b f2 r2)) (suf := OUT cJ q v) (As := [.int (nI x), .int y]) (rest := [.int 0, .ref q]) ⟨hx, hb, hml, hown, hts⟩ (mX1_seatsApart2 l D cI x0 a b f f2 r r2 gg x y _ hlt hg hg2 hg0 ux hbad) hN hE hZ hA hK1 hS hP hD rfl 0 (r := (RX1, TX1, 2)) rfl rfl (cwV 2 hts gL_seatsApart_X1_seatsApart rfl rfl rfl (by decide +kernel) ⟨Nat.le_of_ble_eq_true rfl, Nat.le_of_ble_eq_true rfl⟩) rfl hl.1 rfl (Nat.le_of_ble_eq_true rfl) dL_seatsApart_5 ⟨Nat.le_of_ble_eq_true rfl, Nat.le_of_ble_eq_true rfl⟩ hT (tableOf []) ⟨0, 10, 13, 22⟩ (tableOf []) rfl (wTp0) (by decide) (by decide) (hts (.classLink RL 22 xI) (by decide +kernel)) hE.2.2.2.2.1 (fun q9 H locs hP hD hS => ?_)
  refine lv_astore (lv' := [(4, .ref q9), (0, .ref x0), (1, .int (nI x)), (2, .int y), (3, .ref q)]) hx hb dL_seatsApart_13 hl (by decide) rfl (fun ls hl => ?_)
  refine lv_iconst (v := 1) hx hb dL_seatsApart_15 (by decide) ?_
  exact wRi hQ hx hb hr hlocks hP hD hS dL_seatsApart_16 () (rfl) rfl
abbrev rmL_secondsToGo1 : Room := { frames := 8, cells := 1, slots := 6, locals := 125 }
set_option maxRecDepth 100000 in
set_option maxHeartbeats 4000000 in
theorem mL_secondsToGo1 (l : Launch) (D : va_G) (cI cJ : ClassId) (x0 : Nat) (a b : Nat → Nat) (f f2 : Nat → Int32) (r r2 : Nat → Nat → Int32) (q : Nat) (v : Nat → Int64) (x y : Int32) (sz : Nat) (hlt : l.stackTraces = false) (hbad : x < 0 ∨ f 0 ≤ x) : wCw l yL_secondsToGo wsL_secondsToGo rmL_secondsToGo1 D [(cI, .int), (cJ, .long)] [.ref x0, .int x, .int y, .ref q] (XO x0 a b ++ (DC cI a f r ++ (DC cI b f2 r2 ++ OUT cJ q v))) sz 1 6 (wQi D (fun v9 (_ : Unit) => v9 = 1) (fun _ : Unit => XO x0 a b ++ (DC cI a f r ++ (DC cI b f2 r2 ++ OUT cJ q v)))) := by
  refine wMetW cL_secondsToGo 5 (some .int) [(0, 10, 13, 22)] (by decide) rfl (Nat.le_of_ble_eq_true rfl) ?_
  intro p e s m args below meth c A Q ls hQ hx hb hr hml hown hlocks hin hts hN hE hZ hT hP hK hD hA hS hl
  have hK1 : va_K D vwCl [(cI, .int)] s := hK.sub [0] rfl
  have hl : lv_has ls 5 [(0, .ref x0), (1, .int x), (2, .int y), (3, .ref q)] := hl
  have hown : s.vm.findClass RL = some m.cls := hown
  refine lv_aload_n hx hb dL_secondsToGo_0 rfl (lv_at hl 3 rfl) ?_
  refine lv_iconst (v := 0) hx hb dL_secondsToGo_1 (by decide) ?_
  refine lv_aload_n hx hb dL_secondsToGo_2 rfl (lv_at hl 0 rfl) ?_
  refine lv_iload_n hx hb dL_secondsToGo_3 rfl (lv_at hl 1 rfl) ?_
  refine lv_iload_n hx hb dL_secondsToGo_4 rfl (lv_at hl 2 rfl) ?_
  refine wVcatch (pre := ([] : va_W)) (Wc := XO x0 a b ++ (DC cI a f r ++ DC cI b f2 r2)) (suf := OUT cJ q v) (As := [.int x, .int y]) (rest := [.int 0, .ref q]) ⟨hx, hb, hml, hown, hts⟩ (mX1_secondsToGo1 l D cI x0 a b f f2 r r2 x y _ hlt hbad) hN hE hZ hA hK1 hS hP hD rfl 0 (r := (RX1, TX1, 2)) rfl rfl (cwV 2 hts gL_secondsToGo_X1_secondsToGo rfl rfl rfl (by decide +kernel) ⟨Nat.le_of_ble_eq_true rfl, Nat.le_of_ble_eq_true rfl⟩) rfl hl.1 rfl (Nat.le_of_ble_eq_true rfl) dL_secondsToGo_5 ⟨Nat.le_of_ble_eq_true rfl, Nat.le_of_ble_eq_true rfl⟩ hT (tableOf []) ⟨0, 10, 13, 22⟩ (tableOf []) rfl (wTp0) (by decide) (by decide) (hts (.classLink RL 22 xI) (by decide +kernel)) hE.2.2.2.2.1 (fun q9 H locs hP hD hS => ?_)
  refine lv_astore (lv' := [(4, .ref q9), (0, .ref x0), (1, .int x), (2, .int y), (3, .ref q)]) hx hb dL_secondsToGo_13 hl (by decide) rfl (fun ls hl => ?_)
  refine lv_iconst (v := 1) hx hb dL_secondsToGo_15 (by decide) ?_
  exact wRi hQ hx hb hr hlocks hP hD hS dL_secondsToGo_16 () (rfl) rfl
abbrev rmL_secondsToGo2 : Room := { frames := 8, cells := 1, slots := 6, locals := 125 }
set_option maxRecDepth 100000 in
set_option maxHeartbeats 4000000 in
theorem mL_secondsToGo2 (l : Launch) (D : va_G) (cI cJ : ClassId) (x0 : Nat) (a b : Nat → Nat) (f f2 : Nat → Int32) (r r2 : Nat → Nat → Int32) (q : Nat) (v : Nat → Int64) (gg x : Nat) (y : Int32) (sz : Nat) (hlt : l.stackTraces = false) (hg : f 0 = nI gg) (hg2 : gg ≤ 10) (hg0 : 0 < gg) (ux : x < gg) (hbad : y < 0 ∨ f 0 ≤ y) : wCw l yL_secondsToGo wsL_secondsToGo rmL_secondsToGo2 D [(cI, .int), (cJ, .long)] [.ref x0, .int (nI x), .int y, .ref q] (XO x0 a b ++ (DC cI a f r ++ (DC cI b f2 r2 ++ OUT cJ q v))) sz 1 6 (wQi D (fun v9 (_ : Unit) => v9 = 1) (fun _ : Unit => XO x0 a b ++ (DC cI a f r ++ (DC cI b f2 r2 ++ OUT cJ q v)))) := by
  refine wMetW cL_secondsToGo 5 (some .int) [(0, 10, 13, 22)] (by decide) rfl (Nat.le_of_ble_eq_true rfl) ?_
  intro p e s m args below meth c A Q ls hQ hx hb hr hml hown hlocks hin hts hN hE hZ hT hP hK hD hA hS hl
  have hK1 : va_K D vwCl [(cI, .int)] s := hK.sub [0] rfl
  have hl : lv_has ls 5 [(0, .ref x0), (1, .int (nI x)), (2, .int y), (3, .ref q)] := hl
  have hown : s.vm.findClass RL = some m.cls := hown
  refine lv_aload_n hx hb dL_secondsToGo_0 rfl (lv_at hl 3 rfl) ?_
  refine lv_iconst (v := 0) hx hb dL_secondsToGo_1 (by decide) ?_
  refine lv_aload_n hx hb dL_secondsToGo_2 rfl (lv_at hl 0 rfl) ?_
  refine lv_iload_n hx hb dL_secondsToGo_3 rfl (lv_at hl 1 rfl) ?_
  refine lv_iload_n hx hb dL_secondsToGo_4 rfl (lv_at hl 2 rfl) ?_
  refine wVcatch (pre := ([] : va_W)) (Wc := XO x0 a b ++ (DC cI a f r ++ DC cI b f2 r2)) (suf := OUT cJ q v) (As := [.int (nI x), .int y]) (rest := [.int 0, .ref q]) ⟨hx, hb, hml, hown, hts⟩ (mX1_secondsToGo2 l D cI x0 a b f f2 r r2 gg x y _ hlt hg hg2 hg0 ux hbad) hN hE hZ hA hK1 hS hP hD rfl 0 (r := (RX1, TX1, 2)) rfl rfl (cwV 2 hts gL_secondsToGo_X1_secondsToGo rfl rfl rfl (by decide +kernel) ⟨Nat.le_of_ble_eq_true rfl, Nat.le_of_ble_eq_true rfl⟩) rfl hl.1 rfl (Nat.le_of_ble_eq_true rfl) dL_secondsToGo_5 ⟨Nat.le_of_ble_eq_true rfl, Nat.le_of_ble_eq_true rfl⟩ hT (tableOf []) ⟨0, 10, 13, 22⟩ (tableOf []) rfl (wTp0) (by decide) (by decide) (hts (.classLink RL 22 xI) (by decide +kernel)) hE.2.2.2.2.1 (fun q9 H locs hP hD hS => ?_)
  refine lv_astore (lv' := [(4, .ref q9), (0, .ref x0), (1, .int (nI x)), (2, .int y), (3, .ref q)]) hx hb dL_secondsToGo_13 hl (by decide) rfl (fun ls hl => ?_)
  refine lv_iconst (v := 1) hx hb dL_secondsToGo_15 (by decide) ?_
  exact wRi hQ hx hb hr hlocks hP hD hS dL_secondsToGo_16 () (rfl) rfl
abbrev rmL_setLimit1 : Room := { frames := 8, cells := 1, slots := 6, locals := 126 }
set_option maxRecDepth 100000 in
set_option maxHeartbeats 4000000 in
theorem mL_setLimit1 (l : Launch) (D : va_G) (cI cJ : ClassId) (x0 : Nat) (a b : Nat → Nat) (f f2 : Nat → Int32) (r r2 : Nat → Nat → Int32) (q : Nat) (v : Nat → Int64) (w : Int32) (sz : Nat) (hlt : l.stackTraces = false) (hbad : w < 1 ∨ 30 < w) : wCw l yL_setLimit wsL_setLimit rmL_setLimit1 D [(cI, .int), (cJ, .long)] [.ref x0, .int w, .ref q] (XO x0 a b ++ (DC cI a f r ++ (DC cI b f2 r2 ++ OUT cJ q v))) sz 1 6 (wQi D (fun v9 (_ : Unit) => v9 = 1) (fun _ : Unit => XO x0 a b ++ (DC cI a f r ++ (DC cI b f2 r2 ++ OUT cJ q v)))) := by
  refine wMetW cL_setLimit 4 (some .int) [(0, 9, 12, 13)] (by decide) rfl (Nat.le_of_ble_eq_true rfl) ?_
  intro p e s m args below meth c A Q ls hQ hx hb hr hml hown hlocks hin hts hN hE hZ hT hP hK hD hA hS hl
  have hK1 : va_K D vwCl [(cI, .int)] s := hK.sub [0] rfl
  have hl : lv_has ls 4 [(0, .ref x0), (1, .int w), (2, .ref q)] := hl
  have hown : s.vm.findClass RL = some m.cls := hown
  refine lv_aload_n hx hb dL_setLimit_0 rfl (lv_at hl 2 rfl) ?_
  refine lv_iconst (v := 0) hx hb dL_setLimit_1 (by decide) ?_
  refine lv_aload_n hx hb dL_setLimit_2 rfl (lv_at hl 0 rfl) ?_
  refine lv_iload_n hx hb dL_setLimit_3 rfl (lv_at hl 1 rfl) ?_
  refine wVcatch (pre := ([] : va_W)) (Wc := XO x0 a b ++ (DC cI a f r ++ DC cI b f2 r2)) (suf := OUT cJ q v) (As := [.int w]) (rest := [.int 0, .ref q]) ⟨hx, hb, hml, hown, hts⟩ (mX1_setLimit1 l D cI x0 a b f f2 r r2 w _ hlt hbad) hN hE hZ hA hK1 hS hP hD rfl 0 (r := (RX1, TX1, 2)) rfl rfl (cwV 1 hts gL_setLimit_X1_setLimit rfl rfl rfl (by decide +kernel) ⟨Nat.le_of_ble_eq_true rfl, Nat.le_of_ble_eq_true rfl⟩) rfl hl.1 rfl (Nat.le_of_ble_eq_true rfl) dL_setLimit_4 ⟨Nat.le_of_ble_eq_true rfl, Nat.le_of_ble_eq_true rfl⟩ hT (tableOf []) ⟨0, 9, 12, 13⟩ (tableOf []) rfl (wTp0) (by decide) (by decide) (hts (.classLink RL 13 xA) (by decide +kernel)) hE.2.2.2.2.2.1 (fun q9 H locs hP hD hS => ?_)
  refine lv_astore_n (lv' := [(3, .ref q9), (0, .ref x0), (1, .int w), (2, .ref q)]) hx hb dL_setLimit_12 rfl hl (by decide) rfl (fun ls hl => ?_)
  refine lv_iconst (v := 1) hx hb dL_setLimit_13 (by decide) ?_
  exact wRi hQ hx hb hr hlocks hP hD hS dL_setLimit_14 () (rfl) rfl
abbrev rmL_speak1 : Room := { frames := 8, cells := 1, slots := 6, locals := 125 }
set_option maxRecDepth 100000 in
set_option maxHeartbeats 4000000 in
theorem mL_speak1 (l : Launch) (D : va_G) (cI cJ : ClassId) (x0 : Nat) (a b : Nat → Nat) (f f2 : Nat → Int32) (r r2 : Nat → Nat → Int32) (q : Nat) (v : Nat → Int64) (x y : Int32) (sz : Nat) (hlt : l.stackTraces = false) (hbad : x < 0 ∨ f 0 ≤ x) : wCw l yL_speak wsL_speak rmL_speak1 D [(cI, .int), (cJ, .long)] [.ref x0, .int x, .int y, .ref q] (XO x0 a b ++ (DC cI a f r ++ (DC cI b f2 r2 ++ OUT cJ q v))) sz 1 6 (wQi D (fun v9 (_ : Unit) => v9 = 1) (fun _ : Unit => XO x0 a b ++ (DC cI a f r ++ (DC cI b f2 r2 ++ OUT cJ q v)))) := by
  refine wMetW cL_speak 5 (some .int) [(0, 10, 13, 22), (0, 10, 17, 13)] (by decide) rfl (Nat.le_of_ble_eq_true rfl) ?_
  intro p e s m args below meth c A Q ls hQ hx hb hr hml hown hlocks hin hts hN hE hZ hT hP hK hD hA hS hl
  have hK1 : va_K D vwCl [(cI, .int)] s := hK.sub [0] rfl
  have hl : lv_has ls 5 [(0, .ref x0), (1, .int x), (2, .int y), (3, .ref q)] := hl
  have hown : s.vm.findClass RL = some m.cls := hown
  refine lv_aload_n hx hb dL_speak_0 rfl (lv_at hl 3 rfl) ?_
  refine lv_iconst (v := 0) hx hb dL_speak_1 (by decide) ?_
  refine lv_aload_n hx hb dL_speak_2 rfl (lv_at hl 0 rfl) ?_
  refine lv_iload_n hx hb dL_speak_3 rfl (lv_at hl 1 rfl) ?_
  refine lv_iload_n hx hb dL_speak_4 rfl (lv_at hl 2 rfl) ?_
  refine wVcatch (pre := ([] : va_W)) (Wc := XO x0 a b ++ (DC cI a f r ++ DC cI b f2 r2)) (suf := OUT cJ q v) (As := [.int x, .int y]) (rest := [.int 0, .ref q]) ⟨hx, hb, hml, hown, hts⟩ (mX1_speak1 l D cI x0 a b f f2 r r2 x y _ hlt hbad) hN hE hZ hA hK1 hS hP hD rfl 0 (r := (RX1, TX1, 2)) rfl rfl (cwV 2 hts gL_speak_X1_speak rfl rfl rfl (by decide +kernel) ⟨Nat.le_of_ble_eq_true rfl, Nat.le_of_ble_eq_true rfl⟩) rfl hl.1 rfl (Nat.le_of_ble_eq_true rfl) dL_speak_5 ⟨Nat.le_of_ble_eq_true rfl, Nat.le_of_ble_eq_true rfl⟩ hT (tableOf []) ⟨0, 10, 13, 22⟩ (tableOf [(0, 10, 17, 13)]) rfl (wTp0) (by decide) (by decide) (hts (.classLink RL 22 xI) (by decide +kernel)) hE.2.2.2.2.1 (fun q9 H locs hP hD hS => ?_)
  refine lv_astore (lv' := [(4, .ref q9), (0, .ref x0), (1, .int x), (2, .int y), (3, .ref q)]) hx hb dL_speak_13 hl (by decide) rfl (fun ls hl => ?_)
  refine lv_iconst (v := 1) hx hb dL_speak_15 (by decide) ?_
  exact wRi hQ hx hb hr hlocks hP hD hS dL_speak_16 () (rfl) rfl
abbrev rmL_speak2 : Room := { frames := 8, cells := 1, slots := 6, locals := 126 }
set_option maxRecDepth 100000 in
set_option maxHeartbeats 4000000 in
theorem mL_speak2 (l : Launch) (D : va_G) (cI cJ : ClassId) (x0 : Nat) (a b : Nat → Nat) (f f2 : Nat → Int32) (r r2 : Nat → Nat → Int32) (q : Nat) (v : Nat → Int64) (gg x : Nat) (w : Int32) (sz : Nat) (hlt : l.stackTraces = false) (hg : f 0 = nI gg) (hg2 : gg ≤ 10) (hg0 : 0 < gg) (ux : x < gg) (hbad : w < 1 ∨ 60 < w) : wCw l yL_speak wsL_speak rmL_speak2 D [(cI, .int), (cJ, .long)] [.ref x0, .int (nI x), .int w, .ref q] (XO x0 a b ++ (DC cI a f r ++ (DC cI b f2 r2 ++ OUT cJ q v))) sz 1 6 (wQi D (fun v9 (_ : Unit) => v9 = 2) (fun _ : Unit => XO x0 a b ++ (DC cI a f r ++ (DC cI b f2 r2 ++ OUT cJ q v)))) := by
  refine wMetW cL_speak 5 (some .int) [(0, 10, 13, 22), (0, 10, 17, 13)] (by decide) rfl (Nat.le_of_ble_eq_true rfl) ?_
  intro p e s m args below meth c A Q ls hQ hx hb hr hml hown hlocks hin hts hN hE hZ hT hP hK hD hA hS hl
  have hK1 : va_K D vwCl [(cI, .int)] s := hK.sub [0] rfl
  have hl : lv_has ls 5 [(0, .ref x0), (1, .int (nI x)), (2, .int w), (3, .ref q)] := hl
  have hown : s.vm.findClass RL = some m.cls := hown
  refine lv_aload_n hx hb dL_speak_0 rfl (lv_at hl 3 rfl) ?_
  refine lv_iconst (v := 0) hx hb dL_speak_1 (by decide) ?_
  refine lv_aload_n hx hb dL_speak_2 rfl (lv_at hl 0 rfl) ?_
  refine lv_iload_n hx hb dL_speak_3 rfl (lv_at hl 1 rfl) ?_
  refine lv_iload_n hx hb dL_speak_4 rfl (lv_at hl 2 rfl) ?_
  refine wVcatch (pre := ([] : va_W)) (Wc := XO x0 a b ++ (DC cI a f r ++ DC cI b f2 r2)) (suf := OUT cJ q v) (As := [.int (nI x), .int w]) (rest := [.int 0, .ref q]) ⟨hx, hb, hml, hown, hts⟩ (mX1_speak2 l D cI x0 a b f f2 r r2 gg x w _ hlt hg hg2 hg0 ux hbad) hN hE hZ hA hK1 hS hP hD rfl 0 (r := (RX1, TX1, 2)) rfl rfl (cwV 2 hts gL_speak_X1_speak rfl rfl rfl (by decide +kernel) ⟨Nat.le_of_ble_eq_true rfl, Nat.le_of_ble_eq_true rfl⟩) rfl hl.1 rfl (Nat.le_of_ble_eq_true rfl) dL_speak_5 ⟨Nat.le_of_ble_eq_true rfl, Nat.le_of_ble_eq_true rfl⟩ hT (tableOf [(0, 10, 13, 22)]) ⟨0, 10, 17, 13⟩ (tableOf []) rfl (wTp1 (Or.inr ⟨by decide, xI, hts (.classLink RL 22 xI) (by decide +kernel), hE.2.2.2.2.2.2.2.1⟩)) (by decide) (by decide) (hts (.classLink RL 13 xA) (by decide +kernel)) hE.2.2.2.2.2.1 (fun q9 H locs hP hD hS => ?_)
  refine lv_astore (lv' := [(4, .ref q9), (0, .ref x0), (1, .int (nI x)), (2, .int w), (3, .ref q)]) hx hb dL_speak_17 hl (by decide) rfl (fun ls hl => ?_)
  refine lv_iconst (v := 2) hx hb dL_speak_19 (by decide) ?_
  exact wRi hQ hx hb hr hlocks hP hD hS dL_speak_20 () (rfl) rfl
abbrev rmL_spokenBy1 : Room := { frames := 8, cells := 1, slots := 6, locals := 124 }
set_option maxRecDepth 100000 in
set_option maxHeartbeats 4000000 in
theorem mL_spokenBy1 (l : Launch) (D : va_G) (cI cJ : ClassId) (x0 : Nat) (a b : Nat → Nat) (f f2 : Nat → Int32) (r r2 : Nat → Nat → Int32) (q : Nat) (v : Nat → Int64) (x : Int32) (sz : Nat) (hlt : l.stackTraces = false) (hbad : x < 0 ∨ f 0 ≤ x) : wCw l yL_spokenBy wsL_spokenBy rmL_spokenBy1 D [(cI, .int), (cJ, .long)] [.ref x0, .int x, .ref q] (XO x0 a b ++ (DC cI a f r ++ (DC cI b f2 r2 ++ OUT cJ q v))) sz 1 6 (wQi D (fun v9 (_ : Unit) => v9 = 1) (fun _ : Unit => XO x0 a b ++ (DC cI a f r ++ (DC cI b f2 r2 ++ OUT cJ q v)))) := by
  refine wMetW cL_spokenBy 4 (some .int) [(0, 9, 12, 22)] (by decide) rfl (Nat.le_of_ble_eq_true rfl) ?_
  intro p e s m args below meth c A Q ls hQ hx hb hr hml hown hlocks hin hts hN hE hZ hT hP hK hD hA hS hl
  have hK1 : va_K D vwCl [(cI, .int)] s := hK.sub [0] rfl
  have hl : lv_has ls 4 [(0, .ref x0), (1, .int x), (2, .ref q)] := hl
  have hown : s.vm.findClass RL = some m.cls := hown
  refine lv_aload_n hx hb dL_spokenBy_0 rfl (lv_at hl 2 rfl) ?_
  refine lv_iconst (v := 0) hx hb dL_spokenBy_1 (by decide) ?_
  refine lv_aload_n hx hb dL_spokenBy_2 rfl (lv_at hl 0 rfl) ?_
  refine lv_iload_n hx hb dL_spokenBy_3 rfl (lv_at hl 1 rfl) ?_
  refine wVcatch (pre := ([] : va_W)) (Wc := XO x0 a b ++ (DC cI a f r ++ DC cI b f2 r2)) (suf := OUT cJ q v) (As := [.int x]) (rest := [.int 0, .ref q]) ⟨hx, hb, hml, hown, hts⟩ (mX1_spokenBy1 l D cI x0 a b f f2 r r2 x _ hlt hbad) hN hE hZ hA hK1 hS hP hD rfl 0 (r := (RX1, TX1, 2)) rfl rfl (cwV 1 hts gL_spokenBy_X1_spokenBy rfl rfl rfl (by decide +kernel) ⟨Nat.le_of_ble_eq_true rfl, Nat.le_of_ble_eq_true rfl⟩) rfl hl.1 rfl (Nat.le_of_ble_eq_true rfl) dL_spokenBy_4 ⟨Nat.le_of_ble_eq_true rfl, Nat.le_of_ble_eq_true rfl⟩ hT (tableOf []) ⟨0, 9, 12, 22⟩ (tableOf []) rfl (wTp0) (by decide) (by decide) (hts (.classLink RL 22 xI) (by decide +kernel)) hE.2.2.2.2.1 (fun q9 H locs hP hD hS => ?_)
  refine lv_astore_n (lv' := [(3, .ref q9), (0, .ref x0), (1, .int x), (2, .ref q)]) hx hb dL_spokenBy_12 rfl hl (by decide) rfl (fun ls hl => ?_)
  refine lv_iconst (v := 1) hx hb dL_spokenBy_13 (by decide) ?_
  exact wRi hQ hx hb hr hlocks hP hD hS dL_spokenBy_14 () (rfl) rfl
abbrev rmL_unsaidBy1 : Room := { frames := 8, cells := 1, slots := 6, locals := 124 }
set_option maxRecDepth 100000 in
set_option maxHeartbeats 4000000 in
theorem mL_unsaidBy1 (l : Launch) (D : va_G) (cI cJ : ClassId) (x0 : Nat) (a b : Nat → Nat) (f f2 : Nat → Int32) (r r2 : Nat → Nat → Int32) (q : Nat) (v : Nat → Int64) (x : Int32) (sz : Nat) (hlt : l.stackTraces = false) (hbad : x < 0 ∨ f 0 ≤ x) : wCw l yL_unsaidBy wsL_unsaidBy rmL_unsaidBy1 D [(cI, .int), (cJ, .long)] [.ref x0, .int x, .ref q] (XO x0 a b ++ (DC cI a f r ++ (DC cI b f2 r2 ++ OUT cJ q v))) sz 1 6 (wQi D (fun v9 (_ : Unit) => v9 = 1) (fun _ : Unit => XO x0 a b ++ (DC cI a f r ++ (DC cI b f2 r2 ++ OUT cJ q v)))) := by
  refine wMetW cL_unsaidBy 4 (some .int) [(0, 9, 12, 22)] (by decide) rfl (Nat.le_of_ble_eq_true rfl) ?_
  intro p e s m args below meth c A Q ls hQ hx hb hr hml hown hlocks hin hts hN hE hZ hT hP hK hD hA hS hl
  have hK1 : va_K D vwCl [(cI, .int)] s := hK.sub [0] rfl
  have hl : lv_has ls 4 [(0, .ref x0), (1, .int x), (2, .ref q)] := hl
  have hown : s.vm.findClass RL = some m.cls := hown
  refine lv_aload_n hx hb dL_unsaidBy_0 rfl (lv_at hl 2 rfl) ?_
  refine lv_iconst (v := 0) hx hb dL_unsaidBy_1 (by decide) ?_
  refine lv_aload_n hx hb dL_unsaidBy_2 rfl (lv_at hl 0 rfl) ?_
  refine lv_iload_n hx hb dL_unsaidBy_3 rfl (lv_at hl 1 rfl) ?_
  refine wVcatch (pre := ([] : va_W)) (Wc := XO x0 a b ++ (DC cI a f r ++ DC cI b f2 r2)) (suf := OUT cJ q v) (As := [.int x]) (rest := [.int 0, .ref q]) ⟨hx, hb, hml, hown, hts⟩ (mX1_unsaidBy1 l D cI x0 a b f f2 r r2 x _ hlt hbad) hN hE hZ hA hK1 hS hP hD rfl 0 (r := (RX1, TX1, 2)) rfl rfl (cwV 1 hts gL_unsaidBy_X1_unsaidBy rfl rfl rfl (by decide +kernel) ⟨Nat.le_of_ble_eq_true rfl, Nat.le_of_ble_eq_true rfl⟩) rfl hl.1 rfl (Nat.le_of_ble_eq_true rfl) dL_unsaidBy_4 ⟨Nat.le_of_ble_eq_true rfl, Nat.le_of_ble_eq_true rfl⟩ hT (tableOf []) ⟨0, 9, 12, 22⟩ (tableOf []) rfl (wTp0) (by decide) (by decide) (hts (.classLink RL 22 xI) (by decide +kernel)) hE.2.2.2.2.1 (fun q9 H locs hP hD hS => ?_)
  refine lv_astore_n (lv' := [(3, .ref q9), (0, .ref x0), (1, .int x), (2, .ref q)]) hx hb dL_unsaidBy_12 rfl hl (by decide) rfl (fun ls hl => ?_)
  refine lv_iconst (v := 1) hx hb dL_unsaidBy_13 (by decide) ?_
  exact wRi hQ hx hb hr hlocks hP hD hS dL_unsaidBy_14 () (rfl) rfl
abbrev rmL_wouldLeave1 : Room := { frames := 9, cells := 1, slots := 6, locals := 147 }
set_option maxRecDepth 100000 in
set_option maxHeartbeats 4000000 in
theorem mL_wouldLeave1 (l : Launch) (D : va_G) (cI cJ : ClassId) (x0 : Nat) (a b : Nat → Nat) (f f2 : Nat → Int32) (r r2 : Nat → Nat → Int32) (q : Nat) (v : Nat → Int64) (x y : Int32) (sz : Nat) (hlt : l.stackTraces = false) (hbad : x < 0 ∨ f 0 ≤ x) : wCw l yL_wouldLeave wsL_wouldLeave rmL_wouldLeave1 D [(cI, .int), (cJ, .long)] [.ref x0, .int x, .int y, .ref q] (XO x0 a b ++ (DC cI a f r ++ (DC cI b f2 r2 ++ OUT cJ q v))) sz 1 6 (wQi D (fun v9 (_ : Unit) => v9 = 1) (fun _ : Unit => XO x0 a b ++ (DC cI a f r ++ (DC cI b f2 r2 ++ OUT cJ q v)))) := by
  refine wMetW cL_wouldLeave 5 (some .int) [(0, 10, 13, 22), (0, 10, 17, 13), (0, 10, 21, 30)] (by decide) rfl (Nat.le_of_ble_eq_true rfl) ?_
  intro p e s m args below meth c A Q ls hQ hx hb hr hml hown hlocks hin hts hN hE hZ hT hP hK hD hA hS hl
  have hK1 : va_K D vwCl [(cI, .int)] s := hK.sub [0] rfl
  have hl : lv_has ls 5 [(0, .ref x0), (1, .int x), (2, .int y), (3, .ref q)] := hl
  have hown : s.vm.findClass RL = some m.cls := hown
  refine lv_aload_n hx hb dL_wouldLeave_0 rfl (lv_at hl 3 rfl) ?_
  refine lv_iconst (v := 0) hx hb dL_wouldLeave_1 (by decide) ?_
  refine lv_aload_n hx hb dL_wouldLeave_2 rfl (lv_at hl 0 rfl) ?_
  refine lv_iload_n hx hb dL_wouldLeave_3 rfl (lv_at hl 1 rfl) ?_
  refine lv_iload_n hx hb dL_wouldLeave_4 rfl (lv_at hl 2 rfl) ?_
  refine wVcatch (pre := ([] : va_W)) (Wc := XO x0 a b ++ (DC cI a f r ++ DC cI b f2 r2)) (suf := OUT cJ q v) (As := [.int x, .int y]) (rest := [.int 0, .ref q]) ⟨hx, hb, hml, hown, hts⟩ (mX1_wouldLeave1 l D cI x0 a b f f2 r r2 x y _ hlt hbad) hN hE hZ hA hK1 hS hP hD rfl 0 (r := (RX1, TX1, 2)) rfl rfl (cwV 2 hts gL_wouldLeave_X1_wouldLeave rfl rfl rfl (by decide +kernel) ⟨Nat.le_of_ble_eq_true rfl, Nat.le_of_ble_eq_true rfl⟩) rfl hl.1 rfl (Nat.le_of_ble_eq_true rfl) dL_wouldLeave_5 ⟨Nat.le_of_ble_eq_true rfl, Nat.le_of_ble_eq_true rfl⟩ hT (tableOf []) ⟨0, 10, 13, 22⟩ (tableOf [(0, 10, 17, 13), (0, 10, 21, 30)]) rfl (wTp0) (by decide) (by decide) (hts (.classLink RL 22 xI) (by decide +kernel)) hE.2.2.2.2.1 (fun q9 H locs hP hD hS => ?_)
  refine lv_astore (lv' := [(4, .ref q9), (0, .ref x0), (1, .int x), (2, .int y), (3, .ref q)]) hx hb dL_wouldLeave_13 hl (by decide) rfl (fun ls hl => ?_)
  refine lv_iconst (v := 1) hx hb dL_wouldLeave_15 (by decide) ?_
  exact wRi hQ hx hb hr hlocks hP hD hS dL_wouldLeave_16 () (rfl) rfl
abbrev rmL_wouldLeave2 : Room := { frames := 9, cells := 1, slots := 6, locals := 147 }
set_option maxRecDepth 100000 in
set_option maxHeartbeats 4000000 in
theorem mL_wouldLeave2 (l : Launch) (D : va_G) (cI cJ : ClassId) (x0 : Nat) (a b : Nat → Nat) (f f2 : Nat → Int32) (r r2 : Nat → Nat → Int32) (q : Nat) (v : Nat → Int64) (gg x : Nat) (y : Int32) (sz : Nat) (hlt : l.stackTraces = false) (hg : f 0 = nI gg) (hg2 : gg ≤ 10) (hg0 : 0 < gg) (ux : x < gg) (hbad : y < 0 ∨ f 0 ≤ y) : wCw l yL_wouldLeave wsL_wouldLeave rmL_wouldLeave2 D [(cI, .int), (cJ, .long)] [.ref x0, .int (nI x), .int y, .ref q] (XO x0 a b ++ (DC cI a f r ++ (DC cI b f2 r2 ++ OUT cJ q v))) sz 1 6 (wQi D (fun v9 (_ : Unit) => v9 = 1) (fun _ : Unit => XO x0 a b ++ (DC cI a f r ++ (DC cI b f2 r2 ++ OUT cJ q v)))) := by
  refine wMetW cL_wouldLeave 5 (some .int) [(0, 10, 13, 22), (0, 10, 17, 13), (0, 10, 21, 30)] (by decide) rfl (Nat.le_of_ble_eq_true rfl) ?_
  intro p e s m args below meth c A Q ls hQ hx hb hr hml hown hlocks hin hts hN hE hZ hT hP hK hD hA hS hl
  have hK1 : va_K D vwCl [(cI, .int)] s := hK.sub [0] rfl
  have hl : lv_has ls 5 [(0, .ref x0), (1, .int (nI x)), (2, .int y), (3, .ref q)] := hl
  have hown : s.vm.findClass RL = some m.cls := hown
  refine lv_aload_n hx hb dL_wouldLeave_0 rfl (lv_at hl 3 rfl) ?_
  refine lv_iconst (v := 0) hx hb dL_wouldLeave_1 (by decide) ?_
  refine lv_aload_n hx hb dL_wouldLeave_2 rfl (lv_at hl 0 rfl) ?_
  refine lv_iload_n hx hb dL_wouldLeave_3 rfl (lv_at hl 1 rfl) ?_
  refine lv_iload_n hx hb dL_wouldLeave_4 rfl (lv_at hl 2 rfl) ?_
  refine wVcatch (pre := ([] : va_W)) (Wc := XO x0 a b ++ (DC cI a f r ++ DC cI b f2 r2)) (suf := OUT cJ q v) (As := [.int (nI x), .int y]) (rest := [.int 0, .ref q]) ⟨hx, hb, hml, hown, hts⟩ (mX1_wouldLeave2 l D cI x0 a b f f2 r r2 gg x y _ hlt hg hg2 hg0 ux hbad) hN hE hZ hA hK1 hS hP hD rfl 0 (r := (RX1, TX1, 2)) rfl rfl (cwV 2 hts gL_wouldLeave_X1_wouldLeave rfl rfl rfl (by decide +kernel) ⟨Nat.le_of_ble_eq_true rfl, Nat.le_of_ble_eq_true rfl⟩) rfl hl.1 rfl (Nat.le_of_ble_eq_true rfl) dL_wouldLeave_5 ⟨Nat.le_of_ble_eq_true rfl, Nat.le_of_ble_eq_true rfl⟩ hT (tableOf []) ⟨0, 10, 13, 22⟩ (tableOf [(0, 10, 17, 13), (0, 10, 21, 30)]) rfl (wTp0) (by decide) (by decide) (hts (.classLink RL 22 xI) (by decide +kernel)) hE.2.2.2.2.1 (fun q9 H locs hP hD hS => ?_)
  refine lv_astore (lv' := [(4, .ref q9), (0, .ref x0), (1, .int (nI x)), (2, .int y), (3, .ref q)]) hx hb dL_wouldLeave_13 hl (by decide) rfl (fun ls hl => ?_)
  refine lv_iconst (v := 1) hx hb dL_wouldLeave_15 (by decide) ?_
  exact wRi hQ hx hb hr hlocks hP hD hS dL_wouldLeave_16 () (rfl) rfl
abbrev rmL_wouldLeave3 : Room := { frames := 8, cells := 1, slots := 6, locals := 126 }
set_option maxRecDepth 100000 in
set_option maxHeartbeats 4000000 in
theorem mL_wouldLeave3 (l : Launch) (D : va_G) (cI cJ : ClassId) (x0 : Nat) (a b : Nat → Nat) (f f2 : Nat → Int32) (r r2 : Nat → Nat → Int32) (q : Nat) (v : Nat → Int64) (gg x : Nat) (sz : Nat) (hlt : l.stackTraces = false) (hg : f 0 = nI gg) (hg2 : gg ≤ 10) (hg0 : 0 < gg) (ux : x < gg) : wCw l yL_wouldLeave wsL_wouldLeave rmL_wouldLeave3 D [(cI, .int), (cJ, .long)] [.ref x0, .int (nI x), .int (nI x), .ref q] (XO x0 a b ++ (DC cI a f r ++ (DC cI b f2 r2 ++ OUT cJ q v))) sz 1 6 (wQi D (fun v9 (_ : Unit) => v9 = 2) (fun _ : Unit => XO x0 a b ++ (DC cI a f r ++ (DC cI b f2 r2 ++ OUT cJ q v)))) := by
  refine wMetW cL_wouldLeave 5 (some .int) [(0, 10, 13, 22), (0, 10, 17, 13), (0, 10, 21, 30)] (by decide) rfl (Nat.le_of_ble_eq_true rfl) ?_
  intro p e s m args below meth c A Q ls hQ hx hb hr hml hown hlocks hin hts hN hE hZ hT hP hK hD hA hS hl
  have hK1 : va_K D vwCl [(cI, .int)] s := hK.sub [0] rfl
  have hl : lv_has ls 5 [(0, .ref x0), (1, .int (nI x)), (2, .int (nI x)), (3, .ref q)] := hl
  have hown : s.vm.findClass RL = some m.cls := hown
  refine lv_aload_n hx hb dL_wouldLeave_0 rfl (lv_at hl 3 rfl) ?_
  refine lv_iconst (v := 0) hx hb dL_wouldLeave_1 (by decide) ?_
  refine lv_aload_n hx hb dL_wouldLeave_2 rfl (lv_at hl 0 rfl) ?_
  refine lv_iload_n hx hb dL_wouldLeave_3 rfl (lv_at hl 1 rfl) ?_
  refine lv_iload_n hx hb dL_wouldLeave_4 rfl (lv_at hl 2 rfl) ?_
  refine wVcatch (pre := ([] : va_W)) (Wc := XO x0 a b ++ (DC cI a f r ++ DC cI b f2 r2)) (suf := OUT cJ q v) (As := [.int (nI x), .int (nI x)]) (rest := [.int 0, .ref q]) ⟨hx, hb, hml, hown, hts⟩ (mX1_wouldLeave3 l D cI x0 a b f f2 r r2 gg x _ hlt hg hg2 hg0 ux) hN hE hZ hA hK1 hS hP hD rfl 0 (r := (RX1, TX1, 2)) rfl rfl (cwV 2 hts gL_wouldLeave_X1_wouldLeave rfl rfl rfl (by decide +kernel) ⟨Nat.le_of_ble_eq_true rfl, Nat.le_of_ble_eq_true rfl⟩) rfl hl.1 rfl (Nat.le_of_ble_eq_true rfl) dL_wouldLeave_5 ⟨Nat.le_of_ble_eq_true rfl, Nat.le_of_ble_eq_true rfl⟩ hT (tableOf [(0, 10, 13, 22)]) ⟨0, 10, 17, 13⟩ (tableOf [(0, 10, 21, 30)]) rfl (wTp1 (Or.inr ⟨by decide, xI, hts (.classLink RL 22 xI) (by decide +kernel), hE.2.2.2.2.2.2.2.1⟩)) (by decide) (by decide) (hts (.classLink RL 13 xA) (by decide +kernel)) hE.2.2.2.2.2.1 (fun q9 H locs hP hD hS => ?_)
  refine lv_astore (lv' := [(4, .ref q9), (0, .ref x0), (1, .int (nI x)), (2, .int (nI x)), (3, .ref q)]) hx hb dL_wouldLeave_17 hl (by decide) rfl (fun ls hl => ?_)
  refine lv_iconst (v := 2) hx hb dL_wouldLeave_19 (by decide) ?_
  exact wRi hQ hx hb hr hlocks hP hD hS dL_wouldLeave_20 () (rfl) rfl
abbrev rmL_wouldLeave4 : Room := { frames := 8, cells := 1, slots := 6, locals := 126 }
set_option maxRecDepth 100000 in
set_option maxHeartbeats 4000000 in
theorem mL_wouldLeave4 (l : Launch) (D : va_G) (cI cJ : ClassId) (x0 : Nat) (a b : Nat → Nat) (f f2 : Nat → Int32) (r r2 : Nat → Nat → Int32) (q : Nat) (v : Nat → Int64) (gg x y : Nat) (sz : Nat) (hlt : l.stackTraces = false) (hg : f 0 = nI gg) (hg2 : gg ≤ 10) (hg0 : 0 < gg) (ux : x < gg) (uy : y < gg) (hne : ¬ nI x = nI y) (hway : ¬ r 4 (x * 10 + y) = -1) : wCw l yL_wouldLeave wsL_wouldLeave rmL_wouldLeave4 D [(cI, .int), (cJ, .long)] [.ref x0, .int (nI x), .int (nI y), .ref q] (XO x0 a b ++ (DC cI a f r ++ (DC cI b f2 r2 ++ OUT cJ q v))) sz 1 6 (wQi D (fun v9 (_ : Unit) => v9 = 3) (fun _ : Unit => XO x0 a b ++ (DC cI a f r ++ (DC cI b f2 r2 ++ OUT cJ q v)))) := by
  refine wMetW cL_wouldLeave 5 (some .int) [(0, 10, 13, 22), (0, 10, 17, 13), (0, 10, 21, 30)] (by decide) rfl (Nat.le_of_ble_eq_true rfl) ?_
  intro p e s m args below meth c A Q ls hQ hx hb hr hml hown hlocks hin hts hN hE hZ hT hP hK hD hA hS hl
  have hK1 : va_K D vwCl [(cI, .int)] s := hK.sub [0] rfl
  have hl : lv_has ls 5 [(0, .ref x0), (1, .int (nI x)), (2, .int (nI y)), (3, .ref q)] := hl
  have hown : s.vm.findClass RL = some m.cls := hown
  refine lv_aload_n hx hb dL_wouldLeave_0 rfl (lv_at hl 3 rfl) ?_
  refine lv_iconst (v := 0) hx hb dL_wouldLeave_1 (by decide) ?_
  refine lv_aload_n hx hb dL_wouldLeave_2 rfl (lv_at hl 0 rfl) ?_
  refine lv_iload_n hx hb dL_wouldLeave_3 rfl (lv_at hl 1 rfl) ?_
  refine lv_iload_n hx hb dL_wouldLeave_4 rfl (lv_at hl 2 rfl) ?_
  refine wVcatch (pre := ([] : va_W)) (Wc := XO x0 a b ++ (DC cI a f r ++ DC cI b f2 r2)) (suf := OUT cJ q v) (As := [.int (nI x), .int (nI y)]) (rest := [.int 0, .ref q]) ⟨hx, hb, hml, hown, hts⟩ (mX1_wouldLeave4 l D cI x0 a b f f2 r r2 gg x y _ hlt hg hg2 hg0 ux uy hne hway) hN hE hZ hA hK1 hS hP hD rfl 0 (r := (RX1, TX1, 2)) rfl rfl (cwV 2 hts gL_wouldLeave_X1_wouldLeave rfl rfl rfl (by decide +kernel) ⟨Nat.le_of_ble_eq_true rfl, Nat.le_of_ble_eq_true rfl⟩) rfl hl.1 rfl (Nat.le_of_ble_eq_true rfl) dL_wouldLeave_5 ⟨Nat.le_of_ble_eq_true rfl, Nat.le_of_ble_eq_true rfl⟩ hT (tableOf [(0, 10, 13, 22), (0, 10, 17, 13)]) ⟨0, 10, 21, 30⟩ (tableOf []) rfl (wTp2 (Or.inr ⟨by decide, xI, hts (.classLink RL 22 xI) (by decide +kernel), hE.2.2.2.2.2.2.2.2.1⟩) (Or.inr ⟨by decide, xA, hts (.classLink RL 13 xA) (by decide +kernel), hE.2.2.2.2.2.2.2.2.2.1⟩)) (by decide) (by decide) (hts (.classLink RL 30 xS) (by decide +kernel)) hE.2.2.2.2.2.2.1 (fun q9 H locs hP hD hS => ?_)
  refine lv_astore (lv' := [(4, .ref q9), (0, .ref x0), (1, .int (nI x)), (2, .int (nI y)), (3, .ref q)]) hx hb dL_wouldLeave_21 hl (by decide) rfl (fun ls hl => ?_)
  refine lv_iconst (v := 3) hx hb dL_wouldLeave_23 (by decide) ?_
  exact wRi hQ hx hb hr hlocks hP hD hS dL_wouldLeave_24 () (rfl) rfl
