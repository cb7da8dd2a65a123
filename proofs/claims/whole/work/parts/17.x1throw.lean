abbrev rmX1_requireGuest1 : Room := { frames := 6, cells := 1, slots := 6, locals := 82 }
set_option maxRecDepth 100000 in
set_option maxHeartbeats 4000000 in
theorem mX1_requireGuest1 (l : Launch) (D : va_G) (cI : ClassId) (x0 : Nat) (a b : Nat → Nat) (f f2 : Nat → Int32) (r r2 : Nat → Nat → Int32) (x : Int32) (sz : Nat) (hlt : l.stackTraces = false) (hbad : x < 0 ∨ f 0 ≤ x) : wCx l yX1_requireGuest wsX1_requireGuest rmX1_requireGuest1 D [(cI, .int)] [.ref x0, .int x] (XO x0 a b ++ (DC cI a f r ++ DC cI b f2 r2)) sz xI := by
  refine wMetX cX1_requireGuest 2 none (by decide) rfl (Nat.le_of_ble_eq_true rfl) ?_
  intro p e s m args below meth c A Q ls hQ hx hb hr hml hown hlocks hin hts hN hE hZ hno hP hK hD hA hS hl
  have hl : lv_has ls 2 [(0, .ref x0), (1, .int x)] := hl
  have hown : s.vm.findClass RX1 = some m.cls := hown
  have hw0 : ∀ w ∈ wsX00, w.before args s = true := fun w h => hts w (List.mem_cons_of_mem _ (List.mem_append_left _ (List.mem_append_right _ h)))
  have hw1 : ∀ w ∈ wsX10, w.before args s = true := fun w h => hts w (List.mem_cons_of_mem _ (List.mem_append_left _ (List.mem_append_left _ (List.mem_append_right _ h))))
  have k12 := hts (.fieldLink RX1 12 "PauseLedger" "dinner" "LPauseLedger$Dinner;") (by decide +kernel)
  have k58 := hts (.fieldLink RX1 58 "PauseLedger$Dinner" "guests" "I") (by decide +kernel)
  refine lv_iload_n hx hb dX1_requireGuest_0 rfl (lv_at hl 1 rfl) ?_
  refine lv_if_lt (tgt := 15) hx hb dX1_requireGuest_1 (by decide) (fun c_1 => ?_) (fun c_1 => ?_)
  · exact wThrow hQ hx hb hlt hown hml hlocks (by decide +kernel) (hts (.classLink RX1 147 xI) (by decide +kernel)) (hts (.initialized xI) (by decide +kernel)) hE.1 (fun w h => hts w (List.mem_cons_of_mem _ (List.mem_append_right _ h))) xI_n hE.2.2.2.2.1 hE.2.2.2.2.2.2.2.2.2.2 xI_g hZ hno hP hD hS hl.1 dX1_requireGuest_15 dX1_requireGuest_18 dX1_requireGuest_19 dX1_requireGuest_21 dX1_requireGuest_24 (Nat.le_of_ble_eq_true rfl) (Nat.le_of_ble_eq_true rfl) (Nat.le_of_ble_eq_true rfl) (Nat.le_of_ble_eq_true rfl)
  · refine lv_iload_n hx hb dX1_requireGuest_4 rfl (lv_at hl 1 rfl) ?_
    refine lv_aload_n hx hb dX1_requireGuest_5 rfl (lv_at hl 0 rfl) ?_
    refine va_get (D := D) (ci := 1) (v := .ref (a 0)) (C := RX1) (T := TX1) (N := 2) hx hb hw1 (fun _ h => h) hown hK hP 0 rfl rfl 0 (by decide) k12 (fun _ h9 => h9) rfl dX1_requireGuest_6 ?_
    refine va_get (D := D) (ci := 0) (v := .int (f 0)) (C := RX0) (T := TX0) (N := 17) hx hb hw0 (fun _ h => h) hown hK hP 1 rfl rfl 0 (by decide) k58 (fun _ h9 => h9) rfl dX1_requireGuest_9 ?_
    refine lv_icmp_lt (tgt := 25) hx hb dX1_requireGuest_12 (by decide) (fun h9 => absurd h9 (Int32.not_lt.mpr (hbad.resolve_left c_1))) (fun c_12 => ?_)
    exact wThrow hQ hx hb hlt hown hml hlocks (by decide +kernel) (hts (.classLink RX1 147 xI) (by decide +kernel)) (hts (.initialized xI) (by decide +kernel)) hE.1 (fun w h => hts w (List.mem_cons_of_mem _ (List.mem_append_right _ h))) xI_n hE.2.2.2.2.1 hE.2.2.2.2.2.2.2.2.2.2 xI_g hZ hno hP hD hS hl.1 dX1_requireGuest_15 dX1_requireGuest_18 dX1_requireGuest_19 dX1_requireGuest_21 dX1_requireGuest_24 (Nat.le_of_ble_eq_true rfl) (Nat.le_of_ble_eq_true rfl) (Nat.le_of_ble_eq_true rfl) (Nat.le_of_ble_eq_true rfl)
abbrev rmX1_requireWithin1 : Room := { frames := 6, cells := 1, slots := 6, locals := 82 }
set_option maxRecDepth 100000 in
set_option maxHeartbeats 4000000 in
theorem mX1_requireWithin1 (l : Launch) (D : va_G) (cI : ClassId) (w lo hi : Int32) (sz : Nat) (hlt : l.stackTraces = false) (hbad : w < lo ∨ hi < w) : wCx l yX1_requireWithin wsX1_requireWithin rmX1_requireWithin1 D [(cI, .int)] [.int w, .int lo, .int hi] (([] : va_W)) sz xA := by
  refine wMetX cX1_requireWithin 3 none (by decide) rfl (Nat.le_of_ble_eq_true rfl) ?_
  intro p e s m args below meth c A Q ls hQ hx hb hr hml hown hlocks hin hts hN hE hZ hno hP hK hD hA hS hl
  have hl : lv_has ls 3 [(0, .int w), (1, .int lo), (2, .int hi)] := hl
  have hown : s.vm.findClass RX1 = some m.cls := hown
  refine lv_iload_n hx hb dX1_requireWithin_0 rfl (lv_at hl 0 rfl) ?_
  refine lv_iload_n hx hb dX1_requireWithin_1 rfl (lv_at hl 1 rfl) ?_
  refine lv_icmp_lt (tgt := 10) hx hb dX1_requireWithin_2 (by decide) (fun c_2 => ?_) (fun c_2 => ?_)
  · exact wThrow hQ hx hb hlt hown hml hlocks (by decide +kernel) (hts (.classLink RX1 154 xA) (by decide +kernel)) (hts (.initialized xA) (by decide +kernel)) hE.2.1 (fun w h => hts w (List.mem_cons_of_mem _ (List.mem_append_right _ h))) xA_n hE.2.2.2.2.2.1 hE.2.2.2.2.2.2.2.2.2.2 xA_g hZ hno hP hD hS hl.1 dX1_requireWithin_10 dX1_requireWithin_13 dX1_requireWithin_14 dX1_requireWithin_16 dX1_requireWithin_19 (Nat.le_of_ble_eq_true rfl) (Nat.le_of_ble_eq_true rfl) (Nat.le_of_ble_eq_true rfl) (Nat.le_of_ble_eq_true rfl)
  · refine lv_iload_n hx hb dX1_requireWithin_5 rfl (lv_at hl 0 rfl) ?_
    refine lv_iload_n hx hb dX1_requireWithin_6 rfl (lv_at hl 2 rfl) ?_
    refine lv_icmp_le (tgt := 20) hx hb dX1_requireWithin_7 (by decide) (fun h9 => absurd h9 (Int32.not_le.mpr (hbad.resolve_left c_2))) (fun c_7 => ?_)
    exact wThrow hQ hx hb hlt hown hml hlocks (by decide +kernel) (hts (.classLink RX1 154 xA) (by decide +kernel)) (hts (.initialized xA) (by decide +kernel)) hE.2.1 (fun w h => hts w (List.mem_cons_of_mem _ (List.mem_append_right _ h))) xA_n hE.2.2.2.2.2.1 hE.2.2.2.2.2.2.2.2.2.2 xA_g hZ hno hP hD hS hl.1 dX1_requireWithin_10 dX1_requireWithin_13 dX1_requireWithin_14 dX1_requireWithin_16 dX1_requireWithin_19 (Nat.le_of_ble_eq_true rfl) (Nat.le_of_ble_eq_true rfl) (Nat.le_of_ble_eq_true rfl) (Nat.le_of_ble_eq_true rfl)
abbrev rmX1_requireFreeWay1 : Room := { frames := 7, cells := 1, slots := 6, locals := 103 }
set_option maxRecDepth 100000 in
set_option maxHeartbeats 4000000 in
theorem mX1_requireFreeWay1 (l : Launch) (D : va_G) (cI : ClassId) (x0 : Nat) (a b : Nat → Nat) (f f2 : Nat → Int32) (r r2 : Nat → Nat → Int32) (x y : Int32) (sz : Nat) (hlt : l.stackTraces = false) (hbad : x < 0 ∨ f 0 ≤ x) : wCx l yX1_requireFreeWay wsX1_requireFreeWay rmX1_requireFreeWay1 D [(cI, .int)] [.ref x0, .int x, .int y] (XO x0 a b ++ (DC cI a f r ++ DC cI b f2 r2)) sz xI := by
  refine wMetX cX1_requireFreeWay 3 none (by decide) rfl (Nat.le_of_ble_eq_true rfl) ?_
  intro p e s m args below meth c A Q ls hQ hx hb hr hml hown hlocks hin hts hN hE hZ hno hP hK hD hA hS hl
  have hl : lv_has ls 3 [(0, .ref x0), (1, .int x), (2, .int y)] := hl
  have hown : s.vm.findClass RX1 = some m.cls := hown
  refine lv_aload_n hx hb dX1_requireFreeWay_0 rfl (lv_at hl 0 rfl) ?_
  refine lv_iload_n hx hb dX1_requireFreeWay_1 rfl (lv_at hl 1 rfl) ?_
  exact wPV (pre := ([] : va_W)) (Wc := XO x0 a b ++ (DC cI a f r ++ DC cI b f2 r2)) (suf := ([] : va_W)) (As := [.int x]) (rest := []) hQ hno hlocks ⟨hx, hb, hml, hown, hts⟩ (mX1_requireGuest1 l D cI x0 a b f f2 r r2 x _ hlt hbad) hN hE hZ hA hK hS hP hD rfl 0 (r := (RX1, TX1, 2)) rfl rfl (cwV 1 hts gX1_requireFreeWay_X1_requireGuest rfl rfl rfl (by decide +kernel) ⟨Nat.le_of_ble_eq_true rfl, Nat.le_of_ble_eq_true rfl⟩) rfl hl.1 rfl (Nat.le_of_ble_eq_true rfl) dX1_requireFreeWay_2 ⟨Nat.le_of_ble_eq_true rfl, Nat.le_of_ble_eq_true rfl⟩
abbrev rmX1_requireFreeWay2 : Room := { frames := 7, cells := 1, slots := 6, locals := 103 }
set_option maxRecDepth 100000 in
set_option maxHeartbeats 4000000 in
theorem mX1_requireFreeWay2 (l : Launch) (D : va_G) (cI : ClassId) (x0 : Nat) (a b : Nat → Nat) (f f2 : Nat → Int32) (r r2 : Nat → Nat → Int32) (gg x : Nat) (y : Int32) (sz : Nat) (hlt : l.stackTraces = false) (hg : f 0 = nI gg) (hg2 : gg ≤ 10) (hg0 : 0 < gg) (ux : x < gg) (hbad : y < 0 ∨ f 0 ≤ y) : wCx l yX1_requireFreeWay wsX1_requireFreeWay rmX1_requireFreeWay2 D [(cI, .int)] [.ref x0, .int (nI x), .int y] (XO x0 a b ++ (DC cI a f r ++ DC cI b f2 r2)) sz xI := by
  refine wMetX cX1_requireFreeWay 3 none (by decide) rfl (Nat.le_of_ble_eq_true rfl) ?_
  intro p e s m args below meth c A Q ls hQ hx hb hr hml hown hlocks hin hts hN hE hZ hno hP hK hD hA hS hl
  have hl : lv_has ls 3 [(0, .ref x0), (1, .int (nI x)), (2, .int y)] := hl
  have hown : s.vm.findClass RX1 = some m.cls := hown
  refine lv_aload_n hx hb dX1_requireFreeWay_0 rfl (lv_at hl 0 rfl) ?_
  refine lv_iload_n hx hb dX1_requireFreeWay_1 rfl (lv_at hl 1 rfl) ?_
  refine wCVv (pre := ([] : va_W)) (Wc := XO x0 a b ++ (DC cI a f r ++ DC cI b f2 r2)) (suf := ([] : va_W)) (As := [.int (nI x)]) (rest := []) ⟨hx, hb, hml, hown, hts⟩ (mX1_requireGuest l D cI x0 a b f f2 r r2 gg x _ hg hg2 hg0 ux) hN hA hK hS hP hD rfl 0 (r := (RX1, TX1, 2)) rfl rfl (cwV 1 hts gX1_requireFreeWay_X1_requireGuest rfl rfl rfl (by decide +kernel) ⟨Nat.le_of_ble_eq_true rfl, Nat.le_of_ble_eq_true rfl⟩) rfl hl.1 rfl (Nat.le_of_ble_eq_true rfl) dX1_requireFreeWay_2 ⟨Nat.zero_le _, Nat.zero_le _⟩ (fun u_2 H locs hw hP hD hS => ?_)
  have hP : va_P D vwCl (XO x0 a b ++ (DC cI a f r ++ DC cI b f2 r2)) H := hP
  have hD : va_D A (XO x0 a b ++ (DC cI a f r ++ DC cI b f2 r2)) := hD
  refine lv_aload_n hx hb dX1_requireFreeWay_5 rfl (lv_at hl 0 rfl) ?_
  refine lv_iload_n hx hb dX1_requireFreeWay_6 rfl (lv_at hl 2 rfl) ?_
  exact wPV (pre := ([] : va_W)) (Wc := XO x0 a b ++ (DC cI a f r ++ DC cI b f2 r2)) (suf := ([] : va_W)) (As := [.int y]) (rest := []) hQ hno hlocks ⟨hx, hb, hml, hown, hts⟩ (mX1_requireGuest1 l D cI x0 a b f f2 r r2 y _ hlt hbad) hN hE hZ hA hK hS hP hD rfl 0 (r := (RX1, TX1, 2)) rfl rfl (cwV 1 hts gX1_requireFreeWay_X1_requireGuest rfl rfl rfl (by decide +kernel) ⟨Nat.le_of_ble_eq_true rfl, Nat.le_of_ble_eq_true rfl⟩) rfl hl.1 rfl (Nat.le_of_ble_eq_true rfl) dX1_requireFreeWay_7 ⟨Nat.le_of_ble_eq_true rfl, Nat.le_of_ble_eq_true rfl⟩
abbrev rmX1_requireFreeWay3 : Room := { frames := 6, cells := 1, slots := 6, locals := 82 }
set_option maxRecDepth 100000 in
set_option maxHeartbeats 4000000 in
theorem mX1_requireFreeWay3 (l : Launch) (D : va_G) (cI : ClassId) (x0 : Nat) (a b : Nat → Nat) (f f2 : Nat → Int32) (r r2 : Nat → Nat → Int32) (gg x : Nat) (sz : Nat) (hlt : l.stackTraces = false) (hg : f 0 = nI gg) (hg2 : gg ≤ 10) (hg0 : 0 < gg) (ux : x < gg) : wCx l yX1_requireFreeWay wsX1_requireFreeWay rmX1_requireFreeWay3 D [(cI, .int)] [.ref x0, .int (nI x), .int (nI x)] (XO x0 a b ++ (DC cI a f r ++ DC cI b f2 r2)) sz xA := by
  refine wMetX cX1_requireFreeWay 3 none (by decide) rfl (Nat.le_of_ble_eq_true rfl) ?_
  intro p e s m args below meth c A Q ls hQ hx hb hr hml hown hlocks hin hts hN hE hZ hno hP hK hD hA hS hl
  have hl : lv_has ls 3 [(0, .ref x0), (1, .int (nI x)), (2, .int (nI x))] := hl
  have hown : s.vm.findClass RX1 = some m.cls := hown
  refine lv_aload_n hx hb dX1_requireFreeWay_0 rfl (lv_at hl 0 rfl) ?_
  refine lv_iload_n hx hb dX1_requireFreeWay_1 rfl (lv_at hl 1 rfl) ?_
  refine wCVv (pre := ([] : va_W)) (Wc := XO x0 a b ++ (DC cI a f r ++ DC cI b f2 r2)) (suf := ([] : va_W)) (As := [.int (nI x)]) (rest := []) ⟨hx, hb, hml, hown, hts⟩ (mX1_requireGuest l D cI x0 a b f f2 r r2 gg x _ hg hg2 hg0 ux) hN hA hK hS hP hD rfl 0 (r := (RX1, TX1, 2)) rfl rfl (cwV 1 hts gX1_requireFreeWay_X1_requireGuest rfl rfl rfl (by decide +kernel) ⟨Nat.le_of_ble_eq_true rfl, Nat.le_of_ble_eq_true rfl⟩) rfl hl.1 rfl (Nat.le_of_ble_eq_true rfl) dX1_requireFreeWay_2 ⟨Nat.zero_le _, Nat.zero_le _⟩ (fun u_2 H locs hw hP hD hS => ?_)
  have hP : va_P D vwCl (XO x0 a b ++ (DC cI a f r ++ DC cI b f2 r2)) H := hP
  have hD : va_D A (XO x0 a b ++ (DC cI a f r ++ DC cI b f2 r2)) := hD
  refine lv_aload_n hx hb dX1_requireFreeWay_5 rfl (lv_at hl 0 rfl) ?_
  refine lv_iload_n hx hb dX1_requireFreeWay_6 rfl (lv_at hl 2 rfl) ?_
  refine wCVv (pre := ([] : va_W)) (Wc := XO x0 a b ++ (DC cI a f r ++ DC cI b f2 r2)) (suf := ([] : va_W)) (As := [.int (nI x)]) (rest := []) ⟨hx, hb, hml, hown, hts⟩ (mX1_requireGuest l D cI x0 a b f f2 r r2 gg x _ hg hg2 hg0 ux) hN hA hK hS hP hD rfl 0 (r := (RX1, TX1, 2)) rfl rfl (cwV 1 hts gX1_requireFreeWay_X1_requireGuest rfl rfl rfl (by decide +kernel) ⟨Nat.le_of_ble_eq_true rfl, Nat.le_of_ble_eq_true rfl⟩) rfl hl.1 rfl (Nat.le_of_ble_eq_true rfl) dX1_requireFreeWay_7 ⟨Nat.zero_le _, Nat.zero_le _⟩ (fun u_7 H locs hw hP hD hS => ?_)
  have hP : va_P D vwCl (XO x0 a b ++ (DC cI a f r ++ DC cI b f2 r2)) H := hP
  have hD : va_D A (XO x0 a b ++ (DC cI a f r ++ DC cI b f2 r2)) := hD
  refine lv_iload_n hx hb dX1_requireFreeWay_10 rfl (lv_at hl 1 rfl) ?_
  refine lv_iload_n hx hb dX1_requireFreeWay_11 rfl (lv_at hl 2 rfl) ?_
  refine lv_icmp_ne (tgt := 25) hx hb dX1_requireFreeWay_12 (by decide) (fun h9 => absurd (rfl) h9) (fun c_12 => ?_)
  have c_12n := (nI_eq (a := x) (b := x) (by omega) (by omega)).mp c_12
  exact wThrow hQ hx hb hlt hown hml hlocks (by decide +kernel) (hts (.classLink RX1 154 xA) (by decide +kernel)) (hts (.initialized xA) (by decide +kernel)) hE.2.2.1 (fun w h => hts w (List.mem_cons_of_mem _ (List.mem_append_left _ (List.mem_append_left _ (List.mem_append_right _ h))))) xA_n hE.2.2.2.2.2.1 hE.2.2.2.2.2.2.2.2.2.2 xA_g hZ hno hP hD hS hl.1 dX1_requireFreeWay_15 dX1_requireFreeWay_18 dX1_requireFreeWay_19 dX1_requireFreeWay_21 dX1_requireFreeWay_24 (Nat.le_of_ble_eq_true rfl) (Nat.le_of_ble_eq_true rfl) (Nat.le_of_ble_eq_true rfl) (Nat.le_of_ble_eq_true rfl)
abbrev rmX1_requireFreeWay4 : Room := { frames := 6, cells := 1, slots := 6, locals := 82 }
set_option maxRecDepth 100000 in
set_option maxHeartbeats 4000000 in
theorem mX1_requireFreeWay4 (l : Launch) (D : va_G) (cI : ClassId) (x0 : Nat) (a b : Nat → Nat) (f f2 : Nat → Int32) (r r2 : Nat → Nat → Int32) (gg x y : Nat) (sz : Nat) (hlt : l.stackTraces = false) (hg : f 0 = nI gg) (hg2 : gg ≤ 10) (hg0 : 0 < gg) (ux : x < gg) (uy : y < gg) (hne : ¬ nI x = nI y) (hway : ¬ r 4 (x * 10 + y) = -1) : wCx l yX1_requireFreeWay wsX1_requireFreeWay rmX1_requireFreeWay4 D [(cI, .int)] [.ref x0, .int (nI x), .int (nI y)] (XO x0 a b ++ (DC cI a f r ++ DC cI b f2 r2)) sz xS := by
  refine wMetX cX1_requireFreeWay 3 none (by decide) rfl (Nat.le_of_ble_eq_true rfl) ?_
  intro p e s m args below meth c A Q ls hQ hx hb hr hml hown hlocks hin hts hN hE hZ hno hP hK hD hA hS hl
  have hl : lv_has ls 3 [(0, .ref x0), (1, .int (nI x)), (2, .int (nI y))] := hl
  have hown : s.vm.findClass RX1 = some m.cls := hown
  have hw1 : ∀ w ∈ wsX10, w.before args s = true := fun w h => hts w (List.mem_cons_of_mem _ (List.mem_append_left _ (List.mem_append_left _ (List.mem_append_left _ (List.mem_append_left _ (List.mem_append_right _ h))))))
  have k12 := hts (.fieldLink RX1 12 "PauseLedger" "dinner" "LPauseLedger$Dinner;") (by decide +kernel)
  refine lv_aload_n hx hb dX1_requireFreeWay_0 rfl (lv_at hl 0 rfl) ?_
  refine lv_iload_n hx hb dX1_requireFreeWay_1 rfl (lv_at hl 1 rfl) ?_
  refine wCVv (pre := ([] : va_W)) (Wc := XO x0 a b ++ (DC cI a f r ++ DC cI b f2 r2)) (suf := ([] : va_W)) (As := [.int (nI x)]) (rest := []) ⟨hx, hb, hml, hown, hts⟩ (mX1_requireGuest l D cI x0 a b f f2 r r2 gg x _ hg hg2 hg0 ux) hN hA hK hS hP hD rfl 0 (r := (RX1, TX1, 2)) rfl rfl (cwV 1 hts gX1_requireFreeWay_X1_requireGuest rfl rfl rfl (by decide +kernel) ⟨Nat.le_of_ble_eq_true rfl, Nat.le_of_ble_eq_true rfl⟩) rfl hl.1 rfl (Nat.le_of_ble_eq_true rfl) dX1_requireFreeWay_2 ⟨Nat.zero_le _, Nat.zero_le _⟩ (fun u_2 H locs hw hP hD hS => ?_)
  have hP : va_P D vwCl (XO x0 a b ++ (DC cI a f r ++ DC cI b f2 r2)) H := hP
  have hD : va_D A (XO x0 a b ++ (DC cI a f r ++ DC cI b f2 r2)) := hD
  refine lv_aload_n hx hb dX1_requireFreeWay_5 rfl (lv_at hl 0 rfl) ?_
  refine lv_iload_n hx hb dX1_requireFreeWay_6 rfl (lv_at hl 2 rfl) ?_
  refine wCVv (pre := ([] : va_W)) (Wc := XO x0 a b ++ (DC cI a f r ++ DC cI b f2 r2)) (suf := ([] : va_W)) (As := [.int (nI y)]) (rest := []) ⟨hx, hb, hml, hown, hts⟩ (mX1_requireGuest l D cI x0 a b f f2 r r2 gg y _ hg hg2 hg0 uy) hN hA hK hS hP hD rfl 0 (r := (RX1, TX1, 2)) rfl rfl (cwV 1 hts gX1_requireFreeWay_X1_requireGuest rfl rfl rfl (by decide +kernel) ⟨Nat.le_of_ble_eq_true rfl, Nat.le_of_ble_eq_true rfl⟩) rfl hl.1 rfl (Nat.le_of_ble_eq_true rfl) dX1_requireFreeWay_7 ⟨Nat.zero_le _, Nat.zero_le _⟩ (fun u_7 H locs hw hP hD hS => ?_)
  have hP : va_P D vwCl (XO x0 a b ++ (DC cI a f r ++ DC cI b f2 r2)) H := hP
  have hD : va_D A (XO x0 a b ++ (DC cI a f r ++ DC cI b f2 r2)) := hD
  refine lv_iload_n hx hb dX1_requireFreeWay_10 rfl (lv_at hl 1 rfl) ?_
  refine lv_iload_n hx hb dX1_requireFreeWay_11 rfl (lv_at hl 2 rfl) ?_
  refine lv_icmp_ne (tgt := 25) hx hb dX1_requireFreeWay_12 (by decide) (fun c_12 => ?_) (fun h9 => absurd h9 (hne))
  have c_12n := mt (nI_eq (a := x) (b := y) (by omega) (by omega)).mpr c_12
  refine lv_aload_n hx hb dX1_requireFreeWay_25 rfl (lv_at hl 0 rfl) ?_
  refine va_get (D := D) (ci := 1) (v := .ref (a 0)) (C := RX1) (T := TX1) (N := 2) hx hb hw1 (fun _ h => h) hown hK hP 0 rfl rfl 0 (by decide) k12 (fun _ h9 => h9) rfl dX1_requireFreeWay_26 ?_
  refine lv_iload_n hx hb dX1_requireFreeWay_29 rfl (lv_at hl 1 rfl) ?_
  refine lv_iload_n hx hb dX1_requireFreeWay_30 rfl (lv_at hl 2 rfl) ?_
  refine wCSi (pre := ([] : va_W)) (Wc := ([] : va_W)) (suf := XO x0 a b ++ (DC cI a f r ++ DC cI b f2 r2)) (As := [.int (nI x), .int (nI y)]) (rest := [.ref (a 0)]) ⟨hx, hb, hml, hown, hts⟩ (mX1_pairOf l D cI x y _) hN hA hK hS hP hD rfl (va_cwS 2 hts gX1_requireFreeWay_X1_pairOf rfl rfl rfl (by decide +kernel) ⟨Nat.le_of_ble_eq_true rfl, Nat.le_of_ble_eq_true rfl⟩) rfl hl.1 rfl (Nat.le_of_ble_eq_true rfl) dX1_requireFreeWay_31 ⟨Nat.zero_le _, Nat.zero_le _⟩ (fun r_31 u_31 H locs hw hP hD hS => ?_)
  have hw : r_31 = nI (x * 10 + y) := hw
  subst hw
  have hP : va_P D vwCl (XO x0 a b ++ (DC cI a f r ++ DC cI b f2 r2)) H := hP
  have hD : va_D A (XO x0 a b ++ (DC cI a f r ++ DC cI b f2 r2)) := hD
  refine wCVi (pre := XO x0 a b) (Wc := DC cI a f r) (suf := DC cI b f2 r2) (As := [.int (nI (x * 10 + y))]) (rest := []) ⟨hx, hb, hml, hown, hts⟩ (mX0_isOnItsWay l D cI a f r (x * 10 + y) _ (by omega)) hN hA hK hS hP hD rfl 0 (r := (RX0, TX0, 17)) rfl rfl (cwV 1 hts gX1_requireFreeWay_X0_isOnItsWay rfl rfl rfl (by decide +kernel) ⟨Nat.le_of_ble_eq_true rfl, Nat.le_of_ble_eq_true rfl⟩) rfl hl.1 rfl (Nat.le_of_ble_eq_true rfl) dX1_requireFreeWay_34 ⟨Nat.zero_le _, Nat.zero_le _⟩ (fun r_34 u_34 H locs hw hP hD hS => ?_)
  have hw : r_34 = if (r 4) (x * 10 + y) = -1 then 0 else 1 := hw
  subst hw
  have hP : va_P D vwCl (XO x0 a b ++ (DC cI a f r ++ DC cI b f2 r2)) H := hP
  have hD : va_D A (XO x0 a b ++ (DC cI a f r ++ DC cI b f2 r2)) := hD
  refine lv_if_eq (tgt := 50) hx hb dX1_requireFreeWay_37 (by decide) (fun h9 => absurd h9 (by rw [if_neg hway]; decide)) (fun c_37 => ?_)
  exact wThrow hQ hx hb hlt hown hml hlocks (by decide +kernel) (hts (.classLink RX1 161 xS) (by decide +kernel)) (hts (.initialized xS) (by decide +kernel)) hE.2.2.2.1 (fun w h => hts w (List.mem_cons_of_mem _ (List.mem_append_left _ (List.mem_append_right _ h)))) xS_n hE.2.2.2.2.2.2.1 hE.2.2.2.2.2.2.2.2.2.2 xS_g hZ hno hP hD hS hl.1 dX1_requireFreeWay_40 dX1_requireFreeWay_43 dX1_requireFreeWay_44 dX1_requireFreeWay_46 dX1_requireFreeWay_49 (Nat.le_of_ble_eq_true rfl) (Nat.le_of_ble_eq_true rfl) (Nat.le_of_ble_eq_true rfl) (Nat.le_of_ble_eq_true rfl)
abbrev rmX1_seatsApart1 : Room := { frames := 7, cells := 1, slots := 6, locals := 103 }
set_option maxRecDepth 100000 in
set_option maxHeartbeats 4000000 in
theorem mX1_seatsApart1 (l : Launch) (D : va_G) (cI : ClassId) (x0 : Nat) (a b : Nat → Nat) (f f2 : Nat → Int32) (r r2 : Nat → Nat → Int32) (x y : Int32) (sz : Nat) (hlt : l.stackTraces = false) (hbad : x < 0 ∨ f 0 ≤ x) : wCx l yX1_seatsApart wsX1_seatsApart rmX1_seatsApart1 D [(cI, .int)] [.ref x0, .int x, .int y] (XO x0 a b ++ (DC cI a f r ++ DC cI b f2 r2)) sz xI := by
  refine wMetX cX1_seatsApart 3 (some .int) (by decide) rfl (Nat.le_of_ble_eq_true rfl) ?_
  intro p e s m args below meth c A Q ls hQ hx hb hr hml hown hlocks hin hts hN hE hZ hno hP hK hD hA hS hl
  have hl : lv_has ls 3 [(0, .ref x0), (1, .int x), (2, .int y)] := hl
  have hown : s.vm.findClass RX1 = some m.cls := hown
  refine lv_aload_n hx hb dX1_seatsApart_0 rfl (lv_at hl 0 rfl) ?_
  refine lv_iload_n hx hb dX1_seatsApart_1 rfl (lv_at hl 1 rfl) ?_
  exact wPV (pre := ([] : va_W)) (Wc := XO x0 a b ++ (DC cI a f r ++ DC cI b f2 r2)) (suf := ([] : va_W)) (As := [.int x]) (rest := []) hQ hno hlocks ⟨hx, hb, hml, hown, hts⟩ (mX1_requireGuest1 l D cI x0 a b f f2 r r2 x _ hlt hbad) hN hE hZ hA hK hS hP hD rfl 0 (r := (RX1, TX1, 2)) rfl rfl (cwV 1 hts gX1_seatsApart_X1_requireGuest rfl rfl rfl (by decide +kernel) ⟨Nat.le_of_ble_eq_true rfl, Nat.le_of_ble_eq_true rfl⟩) rfl hl.1 rfl (Nat.le_of_ble_eq_true rfl) dX1_seatsApart_2 ⟨Nat.le_of_ble_eq_true rfl, Nat.le_of_ble_eq_true rfl⟩
abbrev rmX1_seatsApart2 : Room := { frames := 7, cells := 1, slots := 6, locals := 103 }
set_option maxRecDepth 100000 in
set_option maxHeartbeats 4000000 in
theorem mX1_seatsApart2 (l : Launch) (D : va_G) (cI : ClassId) (x0 : Nat) (a b : Nat → Nat) (f f2 : Nat → Int32) (r r2 : Nat → Nat → Int32) (gg x : Nat) (y : Int32) (sz : Nat) (hlt : l.stackTraces = false) (hg : f 0 = nI gg) (hg2 : gg ≤ 10) (hg0 : 0 < gg) (ux : x < gg) (hbad : y < 0 ∨ f 0 ≤ y) : wCx l yX1_seatsApart wsX1_seatsApart rmX1_seatsApart2 D [(cI, .int)] [.ref x0, .int (nI x), .int y] (XO x0 a b ++ (DC cI a f r ++ DC cI b f2 r2)) sz xI := by
  refine wMetX cX1_seatsApart 3 (some .int) (by decide) rfl (Nat.le_of_ble_eq_true rfl) ?_
  intro p e s m args below meth c A Q ls hQ hx hb hr hml hown hlocks hin hts hN hE hZ hno hP hK hD hA hS hl
  have hl : lv_has ls 3 [(0, .ref x0), (1, .int (nI x)), (2, .int y)] := hl
  have hown : s.vm.findClass RX1 = some m.cls := hown
  refine lv_aload_n hx hb dX1_seatsApart_0 rfl (lv_at hl 0 rfl) ?_
  refine lv_iload_n hx hb dX1_seatsApart_1 rfl (lv_at hl 1 rfl) ?_
  refine wCVv (pre := ([] : va_W)) (Wc := XO x0 a b ++ (DC cI a f r ++ DC cI b f2 r2)) (suf := ([] : va_W)) (As := [.int (nI x)]) (rest := []) ⟨hx, hb, hml, hown, hts⟩ (mX1_requireGuest l D cI x0 a b f f2 r r2 gg x _ hg hg2 hg0 ux) hN hA hK hS hP hD rfl 0 (r := (RX1, TX1, 2)) rfl rfl (cwV 1 hts gX1_seatsApart_X1_requireGuest rfl rfl rfl (by decide +kernel) ⟨Nat.le_of_ble_eq_true rfl, Nat.le_of_ble_eq_true rfl⟩) rfl hl.1 rfl (Nat.le_of_ble_eq_true rfl) dX1_seatsApart_2 ⟨Nat.zero_le _, Nat.zero_le _⟩ (fun u_2 H locs hw hP hD hS => ?_)
  have hP : va_P D vwCl (XO x0 a b ++ (DC cI a f r ++ DC cI b f2 r2)) H := hP
  have hD : va_D A (XO x0 a b ++ (DC cI a f r ++ DC cI b f2 r2)) := hD
  refine lv_aload_n hx hb dX1_seatsApart_5 rfl (lv_at hl 0 rfl) ?_
  refine lv_iload_n hx hb dX1_seatsApart_6 rfl (lv_at hl 2 rfl) ?_
  exact wPV (pre := ([] : va_W)) (Wc := XO x0 a b ++ (DC cI a f r ++ DC cI b f2 r2)) (suf := ([] : va_W)) (As := [.int y]) (rest := []) hQ hno hlocks ⟨hx, hb, hml, hown, hts⟩ (mX1_requireGuest1 l D cI x0 a b f f2 r r2 y _ hlt hbad) hN hE hZ hA hK hS hP hD rfl 0 (r := (RX1, TX1, 2)) rfl rfl (cwV 1 hts gX1_seatsApart_X1_requireGuest rfl rfl rfl (by decide +kernel) ⟨Nat.le_of_ble_eq_true rfl, Nat.le_of_ble_eq_true rfl⟩) rfl hl.1 rfl (Nat.le_of_ble_eq_true rfl) dX1_seatsApart_7 ⟨Nat.le_of_ble_eq_true rfl, Nat.le_of_ble_eq_true rfl⟩
abbrev rmX1_isUnderWay1 : Room := { frames := 7, cells := 1, slots := 6, locals := 103 }
set_option maxRecDepth 100000 in
set_option maxHeartbeats 4000000 in
theorem mX1_isUnderWay1 (l : Launch) (D : va_G) (cI : ClassId) (x0 : Nat) (a b : Nat → Nat) (f f2 : Nat → Int32) (r r2 : Nat → Nat → Int32) (x y : Int32) (sz : Nat) (hlt : l.stackTraces = false) (hbad : x < 0 ∨ f 0 ≤ x) : wCx l yX1_isUnderWay wsX1_isUnderWay rmX1_isUnderWay1 D [(cI, .int)] [.ref x0, .int x, .int y] (XO x0 a b ++ (DC cI a f r ++ DC cI b f2 r2)) sz xI := by
  refine wMetX cX1_isUnderWay 3 (some .boolean) (by decide) rfl (Nat.le_of_ble_eq_true rfl) ?_
  intro p e s m args below meth c A Q ls hQ hx hb hr hml hown hlocks hin hts hN hE hZ hno hP hK hD hA hS hl
  have hl : lv_has ls 3 [(0, .ref x0), (1, .int x), (2, .int y)] := hl
  have hown : s.vm.findClass RX1 = some m.cls := hown
  refine lv_aload_n hx hb dX1_isUnderWay_0 rfl (lv_at hl 0 rfl) ?_
  refine lv_iload_n hx hb dX1_isUnderWay_1 rfl (lv_at hl 1 rfl) ?_
  exact wPV (pre := ([] : va_W)) (Wc := XO x0 a b ++ (DC cI a f r ++ DC cI b f2 r2)) (suf := ([] : va_W)) (As := [.int x]) (rest := []) hQ hno hlocks ⟨hx, hb, hml, hown, hts⟩ (mX1_requireGuest1 l D cI x0 a b f f2 r r2 x _ hlt hbad) hN hE hZ hA hK hS hP hD rfl 0 (r := (RX1, TX1, 2)) rfl rfl (cwV 1 hts gX1_isUnderWay_X1_requireGuest rfl rfl rfl (by decide +kernel) ⟨Nat.le_of_ble_eq_true rfl, Nat.le_of_ble_eq_true rfl⟩) rfl hl.1 rfl (Nat.le_of_ble_eq_true rfl) dX1_isUnderWay_2 ⟨Nat.le_of_ble_eq_true rfl, Nat.le_of_ble_eq_true rfl⟩
abbrev rmX1_isUnderWay2 : Room := { frames := 7, cells := 1, slots := 6, locals := 103 }
set_option maxRecDepth 100000 in
set_option maxHeartbeats 4000000 in
theorem mX1_isUnderWay2 (l : Launch) (D : va_G) (cI : ClassId) (x0 : Nat) (a b : Nat → Nat) (f f2 : Nat → Int32) (r r2 : Nat → Nat → Int32) (gg x : Nat) (y : Int32) (sz : Nat) (hlt : l.stackTraces = false) (hg : f 0 = nI gg) (hg2 : gg ≤ 10) (hg0 : 0 < gg) (ux : x < gg) (hbad : y < 0 ∨ f 0 ≤ y) : wCx l yX1_isUnderWay wsX1_isUnderWay rmX1_isUnderWay2 D [(cI, .int)] [.ref x0, .int (nI x), .int y] (XO x0 a b ++ (DC cI a f r ++ DC cI b f2 r2)) sz xI := by
  refine wMetX cX1_isUnderWay 3 (some .boolean) (by decide) rfl (Nat.le_of_ble_eq_true rfl) ?_
  intro p e s m args below meth c A Q ls hQ hx hb hr hml hown hlocks hin hts hN hE hZ hno hP hK hD hA hS hl
  have hl : lv_has ls 3 [(0, .ref x0), (1, .int (nI x)), (2, .int y)] := hl
  have hown : s.vm.findClass RX1 = some m.cls := hown
  refine lv_aload_n hx hb dX1_isUnderWay_0 rfl (lv_at hl 0 rfl) ?_
  refine lv_iload_n hx hb dX1_isUnderWay_1 rfl (lv_at hl 1 rfl) ?_
  refine wCVv (pre := ([] : va_W)) (Wc := XO x0 a b ++ (DC cI a f r ++ DC cI b f2 r2)) (suf := ([] : va_W)) (As := [.int (nI x)]) (rest := []) ⟨hx, hb, hml, hown, hts⟩ (mX1_requireGuest l D cI x0 a b f f2 r r2 gg x _ hg hg2 hg0 ux) hN hA hK hS hP hD rfl 0 (r := (RX1, TX1, 2)) rfl rfl (cwV 1 hts gX1_isUnderWay_X1_requireGuest rfl rfl rfl (by decide +kernel) ⟨Nat.le_of_ble_eq_true rfl, Nat.le_of_ble_eq_true rfl⟩) rfl hl.1 rfl (Nat.le_of_ble_eq_true rfl) dX1_isUnderWay_2 ⟨Nat.zero_le _, Nat.zero_le _⟩ (fun u_2 H locs hw hP hD hS => ?_)
  have hP : va_P D vwCl (XO x0 a b ++ (DC cI a f r ++ DC cI b f2 r2)) H := hP
  have hD : va_D A (XO x0 a b ++ (DC cI a f r ++ DC cI b f2 r2)) := hD
  refine lv_aload_n hx hb dX1_isUnderWay_5 rfl (lv_at hl 0 rfl) ?_
  refine lv_iload_n hx hb dX1_isUnderWay_6 rfl (lv_at hl 2 rfl) ?_
  exact wPV (pre := ([] : va_W)) (Wc := XO x0 a b ++ (DC cI a f r ++ DC cI b f2 r2)) (suf := ([] : va_W)) (As := [.int y]) (rest := []) hQ hno hlocks ⟨hx, hb, hml, hown, hts⟩ (mX1_requireGuest1 l D cI x0 a b f f2 r r2 y _ hlt hbad) hN hE hZ hA hK hS hP hD rfl 0 (r := (RX1, TX1, 2)) rfl rfl (cwV 1 hts gX1_isUnderWay_X1_requireGuest rfl rfl rfl (by decide +kernel) ⟨Nat.le_of_ble_eq_true rfl, Nat.le_of_ble_eq_true rfl⟩) rfl hl.1 rfl (Nat.le_of_ble_eq_true rfl) dX1_isUnderWay_7 ⟨Nat.le_of_ble_eq_true rfl, Nat.le_of_ble_eq_true rfl⟩
abbrev rmX1_secondsToGo1 : Room := { frames := 7, cells := 1, slots := 6, locals := 103 }
set_option maxRecDepth 100000 in
set_option maxHeartbeats 4000000 in
theorem mX1_secondsToGo1 (l : Launch) (D : va_G) (cI : ClassId) (x0 : Nat) (a b : Nat → Nat) (f f2 : Nat → Int32) (r r2 : Nat → Nat → Int32) (x y : Int32) (sz : Nat) (hlt : l.stackTraces = false) (hbad : x < 0 ∨ f 0 ≤ x) : wCx l yX1_secondsToGo wsX1_secondsToGo rmX1_secondsToGo1 D [(cI, .int)] [.ref x0, .int x, .int y] (XO x0 a b ++ (DC cI a f r ++ DC cI b f2 r2)) sz xI := by
  refine wMetX cX1_secondsToGo 3 (some .int) (by decide) rfl (Nat.le_of_ble_eq_true rfl) ?_
  intro p e s m args below meth c A Q ls hQ hx hb hr hml hown hlocks hin hts hN hE hZ hno hP hK hD hA hS hl
  have hl : lv_has ls 3 [(0, .ref x0), (1, .int x), (2, .int y)] := hl
  have hown : s.vm.findClass RX1 = some m.cls := hown
  refine lv_aload_n hx hb dX1_secondsToGo_0 rfl (lv_at hl 0 rfl) ?_
  refine lv_iload_n hx hb dX1_secondsToGo_1 rfl (lv_at hl 1 rfl) ?_
  exact wPV (pre := ([] : va_W)) (Wc := XO x0 a b ++ (DC cI a f r ++ DC cI b f2 r2)) (suf := ([] : va_W)) (As := [.int x]) (rest := []) hQ hno hlocks ⟨hx, hb, hml, hown, hts⟩ (mX1_requireGuest1 l D cI x0 a b f f2 r r2 x _ hlt hbad) hN hE hZ hA hK hS hP hD rfl 0 (r := (RX1, TX1, 2)) rfl rfl (cwV 1 hts gX1_secondsToGo_X1_requireGuest rfl rfl rfl (by decide +kernel) ⟨Nat.le_of_ble_eq_true rfl, Nat.le_of_ble_eq_true rfl⟩) rfl hl.1 rfl (Nat.le_of_ble_eq_true rfl) dX1_secondsToGo_2 ⟨Nat.le_of_ble_eq_true rfl, Nat.le_of_ble_eq_true rfl⟩
abbrev rmX1_secondsToGo2 : Room := { frames := 7, cells := 1, slots := 6, locals := 103 }
set_option maxRecDepth 100000 in
set_option maxHeartbeats 4000000 in
theorem mX1_secondsToGo2 (l : Launch) (D : va_G) (cI : ClassId) (x0 : Nat) (a b : Nat → Nat) (f f2 : Nat → Int32) (r r2 : Nat → Nat → Int32) (gg x : Nat) (y : Int32) (sz : Nat) (hlt : l.stackTraces = false) (hg : f 0 = nI gg) (hg2 : gg ≤ 10) (hg0 : 0 < gg) (ux : x < gg) (hbad : y < 0 ∨ f 0 ≤ y) : wCx l yX1_secondsToGo wsX1_secondsToGo rmX1_secondsToGo2 D [(cI, .int)] [.ref x0, .int (nI x), .int y] (XO x0 a b ++ (DC cI a f r ++ DC cI b f2 r2)) sz xI := by
  refine wMetX cX1_secondsToGo 3 (some .int) (by decide) rfl (Nat.le_of_ble_eq_true rfl) ?_
  intro p e s m args below meth c A Q ls hQ hx hb hr hml hown hlocks hin hts hN hE hZ hno hP hK hD hA hS hl
  have hl : lv_has ls 3 [(0, .ref x0), (1, .int (nI x)), (2, .int y)] := hl
  have hown : s.vm.findClass RX1 = some m.cls := hown
  refine lv_aload_n hx hb dX1_secondsToGo_0 rfl (lv_at hl 0 rfl) ?_
  refine lv_iload_n hx hb dX1_secondsToGo_1 rfl (lv_at hl 1 rfl) ?_
  refine wCVv (pre := ([] : va_W)) (Wc := XO x0 a b ++ (DC cI a f r ++ DC cI b f2 r2)) (suf := ([] : va_W)) (As := [.int (nI x)]) (rest := []) ⟨hx, hb, hml, hown, hts⟩ (mX1_requireGuest l D cI x0 a b f f2 r r2 gg x _ hg hg2 hg0 ux) hN hA hK hS hP hD rfl 0 (r := (RX1, TX1, 2)) rfl rfl (cwV 1 hts gX1_secondsToGo_X1_requireGuest rfl rfl rfl (by decide +kernel) ⟨Nat.le_of_ble_eq_true rfl, Nat.le_of_ble_eq_true rfl⟩) rfl hl.1 rfl (Nat.le_of_ble_eq_true rfl) dX1_secondsToGo_2 ⟨Nat.zero_le _, Nat.zero_le _⟩ (fun u_2 H locs hw hP hD hS => ?_)
  have hP : va_P D vwCl (XO x0 a b ++ (DC cI a f r ++ DC cI b f2 r2)) H := hP
  have hD : va_D A (XO x0 a b ++ (DC cI a f r ++ DC cI b f2 r2)) := hD
  refine lv_aload_n hx hb dX1_secondsToGo_5 rfl (lv_at hl 0 rfl) ?_
  refine lv_iload_n hx hb dX1_secondsToGo_6 rfl (lv_at hl 2 rfl) ?_
  exact wPV (pre := ([] : va_W)) (Wc := XO x0 a b ++ (DC cI a f r ++ DC cI b f2 r2)) (suf := ([] : va_W)) (As := [.int y]) (rest := []) hQ hno hlocks ⟨hx, hb, hml, hown, hts⟩ (mX1_requireGuest1 l D cI x0 a b f f2 r r2 y _ hlt hbad) hN hE hZ hA hK hS hP hD rfl 0 (r := (RX1, TX1, 2)) rfl rfl (cwV 1 hts gX1_secondsToGo_X1_requireGuest rfl rfl rfl (by decide +kernel) ⟨Nat.le_of_ble_eq_true rfl, Nat.le_of_ble_eq_true rfl⟩) rfl hl.1 rfl (Nat.le_of_ble_eq_true rfl) dX1_secondsToGo_7 ⟨Nat.le_of_ble_eq_true rfl, Nat.le_of_ble_eq_true rfl⟩
abbrev rmX1_caughtBy1 : Room := { frames := 7, cells := 1, slots := 6, locals := 103 }
set_option maxRecDepth 100000 in
set_option maxHeartbeats 4000000 in
theorem mX1_caughtBy1 (l : Launch) (D : va_G) (cI : ClassId) (x0 : Nat) (a b : Nat → Nat) (f f2 : Nat → Int32) (r r2 : Nat → Nat → Int32) (x y : Int32) (sz : Nat) (hlt : l.stackTraces = false) (hbad : x < 0 ∨ f 0 ≤ x) : wCx l yX1_caughtBy wsX1_caughtBy rmX1_caughtBy1 D [(cI, .int)] [.ref x0, .int x, .int y] (XO x0 a b ++ (DC cI a f r ++ DC cI b f2 r2)) sz xI := by
  refine wMetX cX1_caughtBy 3 (some .int) (by decide) rfl (Nat.le_of_ble_eq_true rfl) ?_
  intro p e s m args below meth c A Q ls hQ hx hb hr hml hown hlocks hin hts hN hE hZ hno hP hK hD hA hS hl
  have hl : lv_has ls 3 [(0, .ref x0), (1, .int x), (2, .int y)] := hl
  have hown : s.vm.findClass RX1 = some m.cls := hown
  refine lv_aload_n hx hb dX1_caughtBy_0 rfl (lv_at hl 0 rfl) ?_
  refine lv_iload_n hx hb dX1_caughtBy_1 rfl (lv_at hl 1 rfl) ?_
  exact wPV (pre := ([] : va_W)) (Wc := XO x0 a b ++ (DC cI a f r ++ DC cI b f2 r2)) (suf := ([] : va_W)) (As := [.int x]) (rest := []) hQ hno hlocks ⟨hx, hb, hml, hown, hts⟩ (mX1_requireGuest1 l D cI x0 a b f f2 r r2 x _ hlt hbad) hN hE hZ hA hK hS hP hD rfl 0 (r := (RX1, TX1, 2)) rfl rfl (cwV 1 hts gX1_caughtBy_X1_requireGuest rfl rfl rfl (by decide +kernel) ⟨Nat.le_of_ble_eq_true rfl, Nat.le_of_ble_eq_true rfl⟩) rfl hl.1 rfl (Nat.le_of_ble_eq_true rfl) dX1_caughtBy_2 ⟨Nat.le_of_ble_eq_true rfl, Nat.le_of_ble_eq_true rfl⟩
abbrev rmX1_caughtBy2 : Room := { frames := 7, cells := 1, slots := 6, locals := 103 }
set_option maxRecDepth 100000 in
set_option maxHeartbeats 4000000 in
theorem mX1_caughtBy2 (l : Launch) (D : va_G) (cI : ClassId) (x0 : Nat) (a b : Nat → Nat) (f f2 : Nat → Int32) (r r2 : Nat → Nat → Int32) (gg x : Nat) (y : Int32) (sz : Nat) (hlt : l.stackTraces = false) (hg : f 0 = nI gg) (hg2 : gg ≤ 10) (hg0 : 0 < gg) (ux : x < gg) (hbad : y < 0 ∨ f 0 ≤ y) : wCx l yX1_caughtBy wsX1_caughtBy rmX1_caughtBy2 D [(cI, .int)] [.ref x0, .int (nI x), .int y] (XO x0 a b ++ (DC cI a f r ++ DC cI b f2 r2)) sz xI := by
  refine wMetX cX1_caughtBy 3 (some .int) (by decide) rfl (Nat.le_of_ble_eq_true rfl) ?_
  intro p e s m args below meth c A Q ls hQ hx hb hr hml hown hlocks hin hts hN hE hZ hno hP hK hD hA hS hl
  have hl : lv_has ls 3 [(0, .ref x0), (1, .int (nI x)), (2, .int y)] := hl
  have hown : s.vm.findClass RX1 = some m.cls := hown
  refine lv_aload_n hx hb dX1_caughtBy_0 rfl (lv_at hl 0 rfl) ?_
  refine lv_iload_n hx hb dX1_caughtBy_1 rfl (lv_at hl 1 rfl) ?_
  refine wCVv (pre := ([] : va_W)) (Wc := XO x0 a b ++ (DC cI a f r ++ DC cI b f2 r2)) (suf := ([] : va_W)) (As := [.int (nI x)]) (rest := []) ⟨hx, hb, hml, hown, hts⟩ (mX1_requireGuest l D cI x0 a b f f2 r r2 gg x _ hg hg2 hg0 ux) hN hA hK hS hP hD rfl 0 (r := (RX1, TX1, 2)) rfl rfl (cwV 1 hts gX1_caughtBy_X1_requireGuest rfl rfl rfl (by decide +kernel) ⟨Nat.le_of_ble_eq_true rfl, Nat.le_of_ble_eq_true rfl⟩) rfl hl.1 rfl (Nat.le_of_ble_eq_true rfl) dX1_caughtBy_2 ⟨Nat.zero_le _, Nat.zero_le _⟩ (fun u_2 H locs hw hP hD hS => ?_)
  have hP : va_P D vwCl (XO x0 a b ++ (DC cI a f r ++ DC cI b f2 r2)) H := hP
  have hD : va_D A (XO x0 a b ++ (DC cI a f r ++ DC cI b f2 r2)) := hD
  refine lv_aload_n hx hb dX1_caughtBy_5 rfl (lv_at hl 0 rfl) ?_
  refine lv_iload_n hx hb dX1_caughtBy_6 rfl (lv_at hl 2 rfl) ?_
  exact wPV (pre := ([] : va_W)) (Wc := XO x0 a b ++ (DC cI a f r ++ DC cI b f2 r2)) (suf := ([] : va_W)) (As := [.int y]) (rest := []) hQ hno hlocks ⟨hx, hb, hml, hown, hts⟩ (mX1_requireGuest1 l D cI x0 a b f f2 r r2 y _ hlt hbad) hN hE hZ hA hK hS hP hD rfl 0 (r := (RX1, TX1, 2)) rfl rfl (cwV 1 hts gX1_caughtBy_X1_requireGuest rfl rfl rfl (by decide +kernel) ⟨Nat.le_of_ble_eq_true rfl, Nat.le_of_ble_eq_true rfl⟩) rfl hl.1 rfl (Nat.le_of_ble_eq_true rfl) dX1_caughtBy_7 ⟨Nat.le_of_ble_eq_true rfl, Nat.le_of_ble_eq_true rfl⟩
abbrev rmX1_spokenBy1 : Room := { frames := 7, cells := 1, slots := 6, locals := 103 }
set_option maxRecDepth 100000 in
set_option maxHeartbeats 4000000 in
theorem mX1_spokenBy1 (l : Launch) (D : va_G) (cI : ClassId) (x0 : Nat) (a b : Nat → Nat) (f f2 : Nat → Int32) (r r2 : Nat → Nat → Int32) (x : Int32) (sz : Nat) (hlt : l.stackTraces = false) (hbad : x < 0 ∨ f 0 ≤ x) : wCx l yX1_spokenBy wsX1_spokenBy rmX1_spokenBy1 D [(cI, .int)] [.ref x0, .int x] (XO x0 a b ++ (DC cI a f r ++ DC cI b f2 r2)) sz xI := by
  refine wMetX cX1_spokenBy 2 (some .int) (by decide) rfl (Nat.le_of_ble_eq_true rfl) ?_
  intro p e s m args below meth c A Q ls hQ hx hb hr hml hown hlocks hin hts hN hE hZ hno hP hK hD hA hS hl
  have hl : lv_has ls 2 [(0, .ref x0), (1, .int x)] := hl
  have hown : s.vm.findClass RX1 = some m.cls := hown
  refine lv_aload_n hx hb dX1_spokenBy_0 rfl (lv_at hl 0 rfl) ?_
  refine lv_iload_n hx hb dX1_spokenBy_1 rfl (lv_at hl 1 rfl) ?_
  exact wPV (pre := ([] : va_W)) (Wc := XO x0 a b ++ (DC cI a f r ++ DC cI b f2 r2)) (suf := ([] : va_W)) (As := [.int x]) (rest := []) hQ hno hlocks ⟨hx, hb, hml, hown, hts⟩ (mX1_requireGuest1 l D cI x0 a b f f2 r r2 x _ hlt hbad) hN hE hZ hA hK hS hP hD rfl 0 (r := (RX1, TX1, 2)) rfl rfl (cwV 1 hts gX1_spokenBy_X1_requireGuest rfl rfl rfl (by decide +kernel) ⟨Nat.le_of_ble_eq_true rfl, Nat.le_of_ble_eq_true rfl⟩) rfl hl.1 rfl (Nat.le_of_ble_eq_true rfl) dX1_spokenBy_2 ⟨Nat.le_of_ble_eq_true rfl, Nat.le_of_ble_eq_true rfl⟩
abbrev rmX1_interruptionsBy1 : Room := { frames := 7, cells := 1, slots := 6, locals := 103 }
set_option maxRecDepth 100000 in
set_option maxHeartbeats 4000000 in
theorem mX1_interruptionsBy1 (l : Launch) (D : va_G) (cI : ClassId) (x0 : Nat) (a b : Nat → Nat) (f f2 : Nat → Int32) (r r2 : Nat → Nat → Int32) (x : Int32) (sz : Nat) (hlt : l.stackTraces = false) (hbad : x < 0 ∨ f 0 ≤ x) : wCx l yX1_interruptionsBy wsX1_interruptionsBy rmX1_interruptionsBy1 D [(cI, .int)] [.ref x0, .int x] (XO x0 a b ++ (DC cI a f r ++ DC cI b f2 r2)) sz xI := by
  refine wMetX cX1_interruptionsBy 2 (some .int) (by decide) rfl (Nat.le_of_ble_eq_true rfl) ?_
  intro p e s m args below meth c A Q ls hQ hx hb hr hml hown hlocks hin hts hN hE hZ hno hP hK hD hA hS hl
  have hl : lv_has ls 2 [(0, .ref x0), (1, .int x)] := hl
  have hown : s.vm.findClass RX1 = some m.cls := hown
  refine lv_aload_n hx hb dX1_interruptionsBy_0 rfl (lv_at hl 0 rfl) ?_
  refine lv_iload_n hx hb dX1_interruptionsBy_1 rfl (lv_at hl 1 rfl) ?_
  exact wPV (pre := ([] : va_W)) (Wc := XO x0 a b ++ (DC cI a f r ++ DC cI b f2 r2)) (suf := ([] : va_W)) (As := [.int x]) (rest := []) hQ hno hlocks ⟨hx, hb, hml, hown, hts⟩ (mX1_requireGuest1 l D cI x0 a b f f2 r r2 x _ hlt hbad) hN hE hZ hA hK hS hP hD rfl 0 (r := (RX1, TX1, 2)) rfl rfl (cwV 1 hts gX1_interruptionsBy_X1_requireGuest rfl rfl rfl (by decide +kernel) ⟨Nat.le_of_ble_eq_true rfl, Nat.le_of_ble_eq_true rfl⟩) rfl hl.1 rfl (Nat.le_of_ble_eq_true rfl) dX1_interruptionsBy_2 ⟨Nat.le_of_ble_eq_true rfl, Nat.le_of_ble_eq_true rfl⟩
abbrev rmX1_coughsOf1 : Room := { frames := 7, cells := 1, slots := 6, locals := 103 }
set_option maxRecDepth 100000 in
set_option maxHeartbeats 4000000 in
theorem mX1_coughsOf1 (l : Launch) (D : va_G) (cI : ClassId) (x0 : Nat) (a b : Nat → Nat) (f f2 : Nat → Int32) (r r2 : Nat → Nat → Int32) (x : Int32) (sz : Nat) (hlt : l.stackTraces = false) (hbad : x < 0 ∨ f 0 ≤ x) : wCx l yX1_coughsOf wsX1_coughsOf rmX1_coughsOf1 D [(cI, .int)] [.ref x0, .int x] (XO x0 a b ++ (DC cI a f r ++ DC cI b f2 r2)) sz xI := by
  refine wMetX cX1_coughsOf 2 (some .int) (by decide) rfl (Nat.le_of_ble_eq_true rfl) ?_
  intro p e s m args below meth c A Q ls hQ hx hb hr hml hown hlocks hin hts hN hE hZ hno hP hK hD hA hS hl
  have hl : lv_has ls 2 [(0, .ref x0), (1, .int x)] := hl
  have hown : s.vm.findClass RX1 = some m.cls := hown
  refine lv_aload_n hx hb dX1_coughsOf_0 rfl (lv_at hl 0 rfl) ?_
  refine lv_iload_n hx hb dX1_coughsOf_1 rfl (lv_at hl 1 rfl) ?_
  exact wPV (pre := ([] : va_W)) (Wc := XO x0 a b ++ (DC cI a f r ++ DC cI b f2 r2)) (suf := ([] : va_W)) (As := [.int x]) (rest := []) hQ hno hlocks ⟨hx, hb, hml, hown, hts⟩ (mX1_requireGuest1 l D cI x0 a b f f2 r r2 x _ hlt hbad) hN hE hZ hA hK hS hP hD rfl 0 (r := (RX1, TX1, 2)) rfl rfl (cwV 1 hts gX1_coughsOf_X1_requireGuest rfl rfl rfl (by decide +kernel) ⟨Nat.le_of_ble_eq_true rfl, Nat.le_of_ble_eq_true rfl⟩) rfl hl.1 rfl (Nat.le_of_ble_eq_true rfl) dX1_coughsOf_2 ⟨Nat.le_of_ble_eq_true rfl, Nat.le_of_ble_eq_true rfl⟩
abbrev rmX1_unsaidBy1 : Room := { frames := 7, cells := 1, slots := 6, locals := 103 }
set_option maxRecDepth 100000 in
set_option maxHeartbeats 4000000 in
theorem mX1_unsaidBy1 (l : Launch) (D : va_G) (cI : ClassId) (x0 : Nat) (a b : Nat → Nat) (f f2 : Nat → Int32) (r r2 : Nat → Nat → Int32) (x : Int32) (sz : Nat) (hlt : l.stackTraces = false) (hbad : x < 0 ∨ f 0 ≤ x) : wCx l yX1_unsaidBy wsX1_unsaidBy rmX1_unsaidBy1 D [(cI, .int)] [.ref x0, .int x] (XO x0 a b ++ (DC cI a f r ++ DC cI b f2 r2)) sz xI := by
  refine wMetX cX1_unsaidBy 2 (some .int) (by decide) rfl (Nat.le_of_ble_eq_true rfl) ?_
  intro p e s m args below meth c A Q ls hQ hx hb hr hml hown hlocks hin hts hN hE hZ hno hP hK hD hA hS hl
  have hl : lv_has ls 2 [(0, .ref x0), (1, .int x)] := hl
  have hown : s.vm.findClass RX1 = some m.cls := hown
  refine lv_aload_n hx hb dX1_unsaidBy_0 rfl (lv_at hl 0 rfl) ?_
  refine lv_iload_n hx hb dX1_unsaidBy_1 rfl (lv_at hl 1 rfl) ?_
  exact wPV (pre := ([] : va_W)) (Wc := XO x0 a b ++ (DC cI a f r ++ DC cI b f2 r2)) (suf := ([] : va_W)) (As := [.int x]) (rest := []) hQ hno hlocks ⟨hx, hb, hml, hown, hts⟩ (mX1_requireGuest1 l D cI x0 a b f f2 r r2 x _ hlt hbad) hN hE hZ hA hK hS hP hD rfl 0 (r := (RX1, TX1, 2)) rfl rfl (cwV 1 hts gX1_unsaidBy_X1_requireGuest rfl rfl rfl (by decide +kernel) ⟨Nat.le_of_ble_eq_true rfl, Nat.le_of_ble_eq_true rfl⟩) rfl hl.1 rfl (Nat.le_of_ble_eq_true rfl) dX1_unsaidBy_2 ⟨Nat.le_of_ble_eq_true rfl, Nat.le_of_ble_eq_true rfl⟩
abbrev rmX1_newDinner1 : Room := { frames := 7, cells := 1, slots := 6, locals := 104 }
set_option maxRecDepth 100000 in
set_option maxHeartbeats 4000000 in
theorem mX1_newDinner1 (l : Launch) (D : va_G) (cI : ClassId) (x0 : Nat) (a b : Nat → Nat) (f f2 : Nat → Int32) (r r2 : Nat → Nat → Int32) (w : Int32) (sz : Nat) (hlt : l.stackTraces = false) (hbad : w < 2 ∨ 10 < w) : wCx l yX1_newDinner wsX1_newDinner rmX1_newDinner1 D [(cI, .int)] [.ref x0, .int w] (XO x0 a b ++ (DC cI a f r ++ DC cI b f2 r2)) sz xA := by
  refine wMetX cX1_newDinner 3 (some .int) (by decide) rfl (Nat.le_of_ble_eq_true rfl) ?_
  intro p e s m args below meth c A Q ls hQ hx hb hr hml hown hlocks hin hts hN hE hZ hno hP hK hD hA hS hl
  have hl : lv_has ls 3 [(0, .ref x0), (1, .int w)] := hl
  have hown : s.vm.findClass RX1 = some m.cls := hown
  refine lv_iload_n hx hb dX1_newDinner_0 rfl (lv_at hl 1 rfl) ?_
  refine lv_iconst (v := 2) hx hb dX1_newDinner_1 (by decide) ?_
  refine lv_bipush (v := 10) hx hb dX1_newDinner_2 (by decide) ?_
  exact wPS (pre := ([] : va_W)) (Wc := ([] : va_W)) (suf := XO x0 a b ++ (DC cI a f r ++ DC cI b f2 r2)) (As := [.int w, .int 2, .int 10]) (rest := []) hQ hno hlocks ⟨hx, hb, hml, hown, hts⟩ (mX1_requireWithin1 l D cI w 2 10 _ hlt hbad) hN hE hZ hA hK hS hP hD rfl (va_cwS 3 hts gX1_newDinner_X1_requireWithin rfl rfl rfl (by decide +kernel) ⟨Nat.le_of_ble_eq_true rfl, Nat.le_of_ble_eq_true rfl⟩) rfl hl.1 rfl (Nat.le_of_ble_eq_true rfl) dX1_newDinner_4 ⟨Nat.le_of_ble_eq_true rfl, Nat.le_of_ble_eq_true rfl⟩
abbrev rmX1_setLimit1 : Room := { frames := 7, cells := 1, slots := 6, locals := 104 }
set_option maxRecDepth 100000 in
set_option maxHeartbeats 4000000 in
theorem mX1_setLimit1 (l : Launch) (D : va_G) (cI : ClassId) (x0 : Nat) (a b : Nat → Nat) (f f2 : Nat → Int32) (r r2 : Nat → Nat → Int32) (w : Int32) (sz : Nat) (hlt : l.stackTraces = false) (hbad : w < 1 ∨ 30 < w) : wCx l yX1_setLimit wsX1_setLimit rmX1_setLimit1 D [(cI, .int)] [.ref x0, .int w] (XO x0 a b ++ (DC cI a f r ++ DC cI b f2 r2)) sz xA := by
  refine wMetX cX1_setLimit 3 (some .int) (by decide) rfl (Nat.le_of_ble_eq_true rfl) ?_
  intro p e s m args below meth c A Q ls hQ hx hb hr hml hown hlocks hin hts hN hE hZ hno hP hK hD hA hS hl
  have hl : lv_has ls 3 [(0, .ref x0), (1, .int w)] := hl
  have hown : s.vm.findClass RX1 = some m.cls := hown
  refine lv_iload_n hx hb dX1_setLimit_0 rfl (lv_at hl 1 rfl) ?_
  refine lv_iconst (v := 1) hx hb dX1_setLimit_1 (by decide) ?_
  refine lv_bipush (v := 30) hx hb dX1_setLimit_2 (by decide) ?_
  exact wPS (pre := ([] : va_W)) (Wc := ([] : va_W)) (suf := XO x0 a b ++ (DC cI a f r ++ DC cI b f2 r2)) (As := [.int w, .int 1, .int 30]) (rest := []) hQ hno hlocks ⟨hx, hb, hml, hown, hts⟩ (mX1_requireWithin1 l D cI w 1 30 _ hlt hbad) hN hE hZ hA hK hS hP hD rfl (va_cwS 3 hts gX1_setLimit_X1_requireWithin rfl rfl rfl (by decide +kernel) ⟨Nat.le_of_ble_eq_true rfl, Nat.le_of_ble_eq_true rfl⟩) rfl hl.1 rfl (Nat.le_of_ble_eq_true rfl) dX1_setLimit_4 ⟨Nat.le_of_ble_eq_true rfl, Nat.le_of_ble_eq_true rfl⟩
abbrev rmX1_pass1 : Room := { frames := 7, cells := 1, slots := 6, locals := 104 }
set_option maxRecDepth 100000 in
set_option maxHeartbeats 4000000 in
theorem mX1_pass1 (l : Launch) (D : va_G) (cI : ClassId) (x0 : Nat) (a b : Nat → Nat) (f f2 : Nat → Int32) (r r2 : Nat → Nat → Int32) (w : Int32) (sz : Nat) (hlt : l.stackTraces = false) (hbad : w < 1 ∨ 120 < w) : wCx l yX1_pass wsX1_pass rmX1_pass1 D [(cI, .int)] [.ref x0, .int w] (XO x0 a b ++ (DC cI a f r ++ DC cI b f2 r2)) sz xA := by
  refine wMetX cX1_pass 3 (some .int) (by decide) rfl (Nat.le_of_ble_eq_true rfl) ?_
  intro p e s m args below meth c A Q ls hQ hx hb hr hml hown hlocks hin hts hN hE hZ hno hP hK hD hA hS hl
  have hl : lv_has ls 3 [(0, .ref x0), (1, .int w)] := hl
  have hown : s.vm.findClass RX1 = some m.cls := hown
  refine lv_iload_n hx hb dX1_pass_0 rfl (lv_at hl 1 rfl) ?_
  refine lv_iconst (v := 1) hx hb dX1_pass_1 (by decide) ?_
  refine lv_bipush (v := 120) hx hb dX1_pass_2 (by decide) ?_
  exact wPS (pre := ([] : va_W)) (Wc := ([] : va_W)) (suf := XO x0 a b ++ (DC cI a f r ++ DC cI b f2 r2)) (As := [.int w, .int 1, .int 120]) (rest := []) hQ hno hlocks ⟨hx, hb, hml, hown, hts⟩ (mX1_requireWithin1 l D cI w 1 120 _ hlt hbad) hN hE hZ hA hK hS hP hD rfl (va_cwS 3 hts gX1_pass_X1_requireWithin rfl rfl rfl (by decide +kernel) ⟨Nat.le_of_ble_eq_true rfl, Nat.le_of_ble_eq_true rfl⟩) rfl hl.1 rfl (Nat.le_of_ble_eq_true rfl) dX1_pass_4 ⟨Nat.le_of_ble_eq_true rfl, Nat.le_of_ble_eq_true rfl⟩
abbrev rmX1_allUnsaidIn1 : Room := { frames := 7, cells := 1, slots := 6, locals := 104 }
set_option maxRecDepth 100000 in
set_option maxHeartbeats 4000000 in
theorem mX1_allUnsaidIn1 (l : Launch) (D : va_G) (cI : ClassId) (x0 : Nat) (a b : Nat → Nat) (f f2 : Nat → Int32) (r r2 : Nat → Nat → Int32) (w : Int32) (sz : Nat) (hlt : l.stackTraces = false) (hbad : w < 1 ∨ 120 < w) : wCx l yX1_allUnsaidIn wsX1_allUnsaidIn rmX1_allUnsaidIn1 D [(cI, .int)] [.ref x0, .int w] (XO x0 a b ++ (DC cI a f r ++ DC cI b f2 r2)) sz xA := by
  refine wMetX cX1_allUnsaidIn 2 (some .int) (by decide) rfl (Nat.le_of_ble_eq_true rfl) ?_
  intro p e s m args below meth c A Q ls hQ hx hb hr hml hown hlocks hin hts hN hE hZ hno hP hK hD hA hS hl
  have hl : lv_has ls 2 [(0, .ref x0), (1, .int w)] := hl
  have hown : s.vm.findClass RX1 = some m.cls := hown
  refine lv_iload_n hx hb dX1_allUnsaidIn_0 rfl (lv_at hl 1 rfl) ?_
  refine lv_iconst (v := 1) hx hb dX1_allUnsaidIn_1 (by decide) ?_
  refine lv_bipush (v := 120) hx hb dX1_allUnsaidIn_2 (by decide) ?_
  exact wPS (pre := ([] : va_W)) (Wc := ([] : va_W)) (suf := XO x0 a b ++ (DC cI a f r ++ DC cI b f2 r2)) (As := [.int w, .int 1, .int 120]) (rest := []) hQ hno hlocks ⟨hx, hb, hml, hown, hts⟩ (mX1_requireWithin1 l D cI w 1 120 _ hlt hbad) hN hE hZ hA hK hS hP hD rfl (va_cwS 3 hts gX1_allUnsaidIn_X1_requireWithin rfl rfl rfl (by decide +kernel) ⟨Nat.le_of_ble_eq_true rfl, Nat.le_of_ble_eq_true rfl⟩) rfl hl.1 rfl (Nat.le_of_ble_eq_true rfl) dX1_allUnsaidIn_4 ⟨Nat.le_of_ble_eq_true rfl, Nat.le_of_ble_eq_true rfl⟩
abbrev rmX1_ratingIn1 : Room := { frames := 7, cells := 1, slots := 6, locals := 104 }
set_option maxRecDepth 100000 in
set_option maxHeartbeats 4000000 in
theorem mX1_ratingIn1 (l : Launch) (D : va_G) (cI : ClassId) (x0 : Nat) (a b : Nat → Nat) (f f2 : Nat → Int32) (r r2 : Nat → Nat → Int32) (w : Int32) (sz : Nat) (hlt : l.stackTraces = false) (hbad : w < 1 ∨ 120 < w) : wCx l yX1_ratingIn wsX1_ratingIn rmX1_ratingIn1 D [(cI, .int)] [.ref x0, .int w] (XO x0 a b ++ (DC cI a f r ++ DC cI b f2 r2)) sz xA := by
  refine wMetX cX1_ratingIn 2 (some .int) (by decide) rfl (Nat.le_of_ble_eq_true rfl) ?_
  intro p e s m args below meth c A Q ls hQ hx hb hr hml hown hlocks hin hts hN hE hZ hno hP hK hD hA hS hl
  have hl : lv_has ls 2 [(0, .ref x0), (1, .int w)] := hl
  have hown : s.vm.findClass RX1 = some m.cls := hown
  refine lv_iload_n hx hb dX1_ratingIn_0 rfl (lv_at hl 1 rfl) ?_
  refine lv_iconst (v := 1) hx hb dX1_ratingIn_1 (by decide) ?_
  refine lv_bipush (v := 120) hx hb dX1_ratingIn_2 (by decide) ?_
  exact wPS (pre := ([] : va_W)) (Wc := ([] : va_W)) (suf := XO x0 a b ++ (DC cI a f r ++ DC cI b f2 r2)) (As := [.int w, .int 1, .int 120]) (rest := []) hQ hno hlocks ⟨hx, hb, hml, hown, hts⟩ (mX1_requireWithin1 l D cI w 1 120 _ hlt hbad) hN hE hZ hA hK hS hP hD rfl (va_cwS 3 hts gX1_ratingIn_X1_requireWithin rfl rfl rfl (by decide +kernel) ⟨Nat.le_of_ble_eq_true rfl, Nat.le_of_ble_eq_true rfl⟩) rfl hl.1 rfl (Nat.le_of_ble_eq_true rfl) dX1_ratingIn_4 ⟨Nat.le_of_ble_eq_true rfl, Nat.le_of_ble_eq_true rfl⟩
abbrev rmX1_speak1 : Room := { frames := 7, cells := 1, slots := 6, locals := 103 }
set_option maxRecDepth 100000 in
set_option maxHeartbeats 4000000 in
theorem mX1_speak1 (l : Launch) (D : va_G) (cI : ClassId) (x0 : Nat) (a b : Nat → Nat) (f f2 : Nat → Int32) (r r2 : Nat → Nat → Int32) (x y : Int32) (sz : Nat) (hlt : l.stackTraces = false) (hbad : x < 0 ∨ f 0 ≤ x) : wCx l yX1_speak wsX1_speak rmX1_speak1 D [(cI, .int)] [.ref x0, .int x, .int y] (XO x0 a b ++ (DC cI a f r ++ DC cI b f2 r2)) sz xI := by
  refine wMetX cX1_speak 3 (some .int) (by decide) rfl (Nat.le_of_ble_eq_true rfl) ?_
  intro p e s m args below meth c A Q ls hQ hx hb hr hml hown hlocks hin hts hN hE hZ hno hP hK hD hA hS hl
  have hl : lv_has ls 3 [(0, .ref x0), (1, .int x), (2, .int y)] := hl
  have hown : s.vm.findClass RX1 = some m.cls := hown
  refine lv_aload_n hx hb dX1_speak_0 rfl (lv_at hl 0 rfl) ?_
  refine lv_iload_n hx hb dX1_speak_1 rfl (lv_at hl 1 rfl) ?_
  exact wPV (pre := ([] : va_W)) (Wc := XO x0 a b ++ (DC cI a f r ++ DC cI b f2 r2)) (suf := ([] : va_W)) (As := [.int x]) (rest := []) hQ hno hlocks ⟨hx, hb, hml, hown, hts⟩ (mX1_requireGuest1 l D cI x0 a b f f2 r r2 x _ hlt hbad) hN hE hZ hA hK hS hP hD rfl 0 (r := (RX1, TX1, 2)) rfl rfl (cwV 1 hts gX1_speak_X1_requireGuest rfl rfl rfl (by decide +kernel) ⟨Nat.le_of_ble_eq_true rfl, Nat.le_of_ble_eq_true rfl⟩) rfl hl.1 rfl (Nat.le_of_ble_eq_true rfl) dX1_speak_2 ⟨Nat.le_of_ble_eq_true rfl, Nat.le_of_ble_eq_true rfl⟩
abbrev rmX1_speak2 : Room := { frames := 7, cells := 1, slots := 6, locals := 104 }
set_option maxRecDepth 100000 in
set_option maxHeartbeats 4000000 in
theorem mX1_speak2 (l : Launch) (D : va_G) (cI : ClassId) (x0 : Nat) (a b : Nat → Nat) (f f2 : Nat → Int32) (r r2 : Nat → Nat → Int32) (gg x : Nat) (w : Int32) (sz : Nat) (hlt : l.stackTraces = false) (hg : f 0 = nI gg) (hg2 : gg ≤ 10) (hg0 : 0 < gg) (ux : x < gg) (hbad : w < 1 ∨ 60 < w) : wCx l yX1_speak wsX1_speak rmX1_speak2 D [(cI, .int)] [.ref x0, .int (nI x), .int w] (XO x0 a b ++ (DC cI a f r ++ DC cI b f2 r2)) sz xA := by
  refine wMetX cX1_speak 3 (some .int) (by decide) rfl (Nat.le_of_ble_eq_true rfl) ?_
  intro p e s m args below meth c A Q ls hQ hx hb hr hml hown hlocks hin hts hN hE hZ hno hP hK hD hA hS hl
  have hl : lv_has ls 3 [(0, .ref x0), (1, .int (nI x)), (2, .int w)] := hl
  have hown : s.vm.findClass RX1 = some m.cls := hown
  refine lv_aload_n hx hb dX1_speak_0 rfl (lv_at hl 0 rfl) ?_
  refine lv_iload_n hx hb dX1_speak_1 rfl (lv_at hl 1 rfl) ?_
  refine wCVv (pre := ([] : va_W)) (Wc := XO x0 a b ++ (DC cI a f r ++ DC cI b f2 r2)) (suf := ([] : va_W)) (As := [.int (nI x)]) (rest := []) ⟨hx, hb, hml, hown, hts⟩ (mX1_requireGuest l D cI x0 a b f f2 r r2 gg x _ hg hg2 hg0 ux) hN hA hK hS hP hD rfl 0 (r := (RX1, TX1, 2)) rfl rfl (cwV 1 hts gX1_speak_X1_requireGuest rfl rfl rfl (by decide +kernel) ⟨Nat.le_of_ble_eq_true rfl, Nat.le_of_ble_eq_true rfl⟩) rfl hl.1 rfl (Nat.le_of_ble_eq_true rfl) dX1_speak_2 ⟨Nat.zero_le _, Nat.zero_le _⟩ (fun u_2 H locs hw hP hD hS => ?_)
  have hP : va_P D vwCl (XO x0 a b ++ (DC cI a f r ++ DC cI b f2 r2)) H := hP
  have hD : va_D A (XO x0 a b ++ (DC cI a f r ++ DC cI b f2 r2)) := hD
  refine lv_iload_n hx hb dX1_speak_5 rfl (lv_at hl 2 rfl) ?_
  refine lv_iconst (v := 1) hx hb dX1_speak_6 (by decide) ?_
  refine lv_bipush (v := 60) hx hb dX1_speak_7 (by decide) ?_
  exact wPS (pre := ([] : va_W)) (Wc := ([] : va_W)) (suf := XO x0 a b ++ (DC cI a f r ++ DC cI b f2 r2)) (As := [.int w, .int 1, .int 60]) (rest := []) hQ hno hlocks ⟨hx, hb, hml, hown, hts⟩ (mX1_requireWithin1 l D cI w 1 60 _ hlt hbad) hN hE hZ hA hK hS hP hD rfl (va_cwS 3 hts gX1_speak_X1_requireWithin rfl rfl rfl (by decide +kernel) ⟨Nat.le_of_ble_eq_true rfl, Nat.le_of_ble_eq_true rfl⟩) rfl hl.1 rfl (Nat.le_of_ble_eq_true rfl) dX1_speak_9 ⟨Nat.le_of_ble_eq_true rfl, Nat.le_of_ble_eq_true rfl⟩
abbrev rmX1_cough1 : Room := { frames := 7, cells := 1, slots := 6, locals := 103 }
set_option maxRecDepth 100000 in
set_option maxHeartbeats 4000000 in
theorem mX1_cough1 (l : Launch) (D : va_G) (cI : ClassId) (x0 : Nat) (a b : Nat → Nat) (f f2 : Nat → Int32) (r r2 : Nat → Nat → Int32) (x y : Int32) (sz : Nat) (hlt : l.stackTraces = false) (hbad : x < 0 ∨ f 0 ≤ x) : wCx l yX1_cough wsX1_cough rmX1_cough1 D [(cI, .int)] [.ref x0, .int x, .int y] (XO x0 a b ++ (DC cI a f r ++ DC cI b f2 r2)) sz xI := by
  refine wMetX cX1_cough 3 (some .int) (by decide) rfl (Nat.le_of_ble_eq_true rfl) ?_
  intro p e s m args below meth c A Q ls hQ hx hb hr hml hown hlocks hin hts hN hE hZ hno hP hK hD hA hS hl
  have hl : lv_has ls 3 [(0, .ref x0), (1, .int x), (2, .int y)] := hl
  have hown : s.vm.findClass RX1 = some m.cls := hown
  refine lv_aload_n hx hb dX1_cough_0 rfl (lv_at hl 0 rfl) ?_
  refine lv_iload_n hx hb dX1_cough_1 rfl (lv_at hl 1 rfl) ?_
  exact wPV (pre := ([] : va_W)) (Wc := XO x0 a b ++ (DC cI a f r ++ DC cI b f2 r2)) (suf := ([] : va_W)) (As := [.int x]) (rest := []) hQ hno hlocks ⟨hx, hb, hml, hown, hts⟩ (mX1_requireGuest1 l D cI x0 a b f f2 r r2 x _ hlt hbad) hN hE hZ hA hK hS hP hD rfl 0 (r := (RX1, TX1, 2)) rfl rfl (cwV 1 hts gX1_cough_X1_requireGuest rfl rfl rfl (by decide +kernel) ⟨Nat.le_of_ble_eq_true rfl, Nat.le_of_ble_eq_true rfl⟩) rfl hl.1 rfl (Nat.le_of_ble_eq_true rfl) dX1_cough_2 ⟨Nat.le_of_ble_eq_true rfl, Nat.le_of_ble_eq_true rfl⟩
abbrev rmX1_cough2 : Room := { frames := 7, cells := 1, slots := 6, locals := 104 }
set_option maxRecDepth 100000 in
set_option maxHeartbeats 4000000 in
theorem mX1_cough2 (l : Launch) (D : va_G) (cI : ClassId) (x0 : Nat) (a b : Nat → Nat) (f f2 : Nat → Int32) (r r2 : Nat → Nat → Int32) (gg x : Nat) (w : Int32) (sz : Nat) (hlt : l.stackTraces = false) (hg : f 0 = nI gg) (hg2 : gg ≤ 10) (hg0 : 0 < gg) (ux : x < gg) (hbad : w < 1 ∨ 9 < w) : wCx l yX1_cough wsX1_cough rmX1_cough2 D [(cI, .int)] [.ref x0, .int (nI x), .int w] (XO x0 a b ++ (DC cI a f r ++ DC cI b f2 r2)) sz xA := by
  refine wMetX cX1_cough 3 (some .int) (by decide) rfl (Nat.le_of_ble_eq_true rfl) ?_
  intro p e s m args below meth c A Q ls hQ hx hb hr hml hown hlocks hin hts hN hE hZ hno hP hK hD hA hS hl
  have hl : lv_has ls 3 [(0, .ref x0), (1, .int (nI x)), (2, .int w)] := hl
  have hown : s.vm.findClass RX1 = some m.cls := hown
  refine lv_aload_n hx hb dX1_cough_0 rfl (lv_at hl 0 rfl) ?_
  refine lv_iload_n hx hb dX1_cough_1 rfl (lv_at hl 1 rfl) ?_
  refine wCVv (pre := ([] : va_W)) (Wc := XO x0 a b ++ (DC cI a f r ++ DC cI b f2 r2)) (suf := ([] : va_W)) (As := [.int (nI x)]) (rest := []) ⟨hx, hb, hml, hown, hts⟩ (mX1_requireGuest l D cI x0 a b f f2 r r2 gg x _ hg hg2 hg0 ux) hN hA hK hS hP hD rfl 0 (r := (RX1, TX1, 2)) rfl rfl (cwV 1 hts gX1_cough_X1_requireGuest rfl rfl rfl (by decide +kernel) ⟨Nat.le_of_ble_eq_true rfl, Nat.le_of_ble_eq_true rfl⟩) rfl hl.1 rfl (Nat.le_of_ble_eq_true rfl) dX1_cough_2 ⟨Nat.zero_le _, Nat.zero_le _⟩ (fun u_2 H locs hw hP hD hS => ?_)
  have hP : va_P D vwCl (XO x0 a b ++ (DC cI a f r ++ DC cI b f2 r2)) H := hP
  have hD : va_D A (XO x0 a b ++ (DC cI a f r ++ DC cI b f2 r2)) := hD
  refine lv_iload_n hx hb dX1_cough_5 rfl (lv_at hl 2 rfl) ?_
  refine lv_iconst (v := 1) hx hb dX1_cough_6 (by decide) ?_
  refine lv_bipush (v := 9) hx hb dX1_cough_7 (by decide) ?_
  exact wPS (pre := ([] : va_W)) (Wc := ([] : va_W)) (suf := XO x0 a b ++ (DC cI a f r ++ DC cI b f2 r2)) (As := [.int w, .int 1, .int 9]) (rest := []) hQ hno hlocks ⟨hx, hb, hml, hown, hts⟩ (mX1_requireWithin1 l D cI w 1 9 _ hlt hbad) hN hE hZ hA hK hS hP hD rfl (va_cwS 3 hts gX1_cough_X1_requireWithin rfl rfl rfl (by decide +kernel) ⟨Nat.le_of_ble_eq_true rfl, Nat.le_of_ble_eq_true rfl⟩) rfl hl.1 rfl (Nat.le_of_ble_eq_true rfl) dX1_cough_9 ⟨Nat.le_of_ble_eq_true rfl, Nat.le_of_ble_eq_true rfl⟩
abbrev rmX1_glance1 : Room := { frames := 8, cells := 1, slots := 6, locals := 125 }
set_option maxRecDepth 100000 in
set_option maxHeartbeats 4000000 in
theorem mX1_glance1 (l : Launch) (D : va_G) (cI : ClassId) (x0 : Nat) (a b : Nat → Nat) (f f2 : Nat → Int32) (r r2 : Nat → Nat → Int32) (x y : Int32) (sz : Nat) (hlt : l.stackTraces = false) (hbad : x < 0 ∨ f 0 ≤ x) : wCx l yX1_glance wsX1_glance rmX1_glance1 D [(cI, .int)] [.ref x0, .int x, .int y] (XO x0 a b ++ (DC cI a f r ++ DC cI b f2 r2)) sz xI := by
  refine wMetX cX1_glance 3 (some .int) (by decide) rfl (Nat.le_of_ble_eq_true rfl) ?_
  intro p e s m args below meth c A Q ls hQ hx hb hr hml hown hlocks hin hts hN hE hZ hno hP hK hD hA hS hl
  have hl : lv_has ls 3 [(0, .ref x0), (1, .int x), (2, .int y)] := hl
  have hown : s.vm.findClass RX1 = some m.cls := hown
  refine lv_aload_n hx hb dX1_glance_0 rfl (lv_at hl 0 rfl) ?_
  refine lv_iload_n hx hb dX1_glance_1 rfl (lv_at hl 1 rfl) ?_
  refine lv_iload_n hx hb dX1_glance_2 rfl (lv_at hl 2 rfl) ?_
  exact wPV (pre := ([] : va_W)) (Wc := XO x0 a b ++ (DC cI a f r ++ DC cI b f2 r2)) (suf := ([] : va_W)) (As := [.int x, .int y]) (rest := []) hQ hno hlocks ⟨hx, hb, hml, hown, hts⟩ (mX1_requireFreeWay1 l D cI x0 a b f f2 r r2 x y _ hlt hbad) hN hE hZ hA hK hS hP hD rfl 0 (r := (RX1, TX1, 2)) rfl rfl (cwV 2 hts gX1_glance_X1_requireFreeWay rfl rfl rfl (by decide +kernel) ⟨Nat.le_of_ble_eq_true rfl, Nat.le_of_ble_eq_true rfl⟩) rfl hl.1 rfl (Nat.le_of_ble_eq_true rfl) dX1_glance_3 ⟨Nat.le_of_ble_eq_true rfl, Nat.le_of_ble_eq_true rfl⟩
abbrev rmX1_glance2 : Room := { frames := 8, cells := 1, slots := 6, locals := 125 }
set_option maxRecDepth 100000 in
set_option maxHeartbeats 4000000 in
theorem mX1_glance2 (l : Launch) (D : va_G) (cI : ClassId) (x0 : Nat) (a b : Nat → Nat) (f f2 : Nat → Int32) (r r2 : Nat → Nat → Int32) (gg x : Nat) (y : Int32) (sz : Nat) (hlt : l.stackTraces = false) (hg : f 0 = nI gg) (hg2 : gg ≤ 10) (hg0 : 0 < gg) (ux : x < gg) (hbad : y < 0 ∨ f 0 ≤ y) : wCx l yX1_glance wsX1_glance rmX1_glance2 D [(cI, .int)] [.ref x0, .int (nI x), .int y] (XO x0 a b ++ (DC cI a f r ++ DC cI b f2 r2)) sz xI := by
  refine wMetX cX1_glance 3 (some .int) (by decide) rfl (Nat.le_of_ble_eq_true rfl) ?_
  intro p e s m args below meth c A Q ls hQ hx hb hr hml hown hlocks hin hts hN hE hZ hno hP hK hD hA hS hl
  have hl : lv_has ls 3 [(0, .ref x0), (1, .int (nI x)), (2, .int y)] := hl
  have hown : s.vm.findClass RX1 = some m.cls := hown
  refine lv_aload_n hx hb dX1_glance_0 rfl (lv_at hl 0 rfl) ?_
  refine lv_iload_n hx hb dX1_glance_1 rfl (lv_at hl 1 rfl) ?_
  refine lv_iload_n hx hb dX1_glance_2 rfl (lv_at hl 2 rfl) ?_
  exact wPV (pre := ([] : va_W)) (Wc := XO x0 a b ++ (DC cI a f r ++ DC cI b f2 r2)) (suf := ([] : va_W)) (As := [.int (nI x), .int y]) (rest := []) hQ hno hlocks ⟨hx, hb, hml, hown, hts⟩ (mX1_requireFreeWay2 l D cI x0 a b f f2 r r2 gg x y _ hlt hg hg2 hg0 ux hbad) hN hE hZ hA hK hS hP hD rfl 0 (r := (RX1, TX1, 2)) rfl rfl (cwV 2 hts gX1_glance_X1_requireFreeWay rfl rfl rfl (by decide +kernel) ⟨Nat.le_of_ble_eq_true rfl, Nat.le_of_ble_eq_true rfl⟩) rfl hl.1 rfl (Nat.le_of_ble_eq_true rfl) dX1_glance_3 ⟨Nat.le_of_ble_eq_true rfl, Nat.le_of_ble_eq_true rfl⟩
abbrev rmX1_glance3 : Room := { frames := 7, cells := 1, slots := 6, locals := 104 }
set_option maxRecDepth 100000 in
set_option maxHeartbeats 4000000 in
theorem mX1_glance3 (l : Launch) (D : va_G) (cI : ClassId) (x0 : Nat) (a b : Nat → Nat) (f f2 : Nat → Int32) (r r2 : Nat → Nat → Int32) (gg x : Nat) (sz : Nat) (hlt : l.stackTraces = false) (hg : f 0 = nI gg) (hg2 : gg ≤ 10) (hg0 : 0 < gg) (ux : x < gg) : wCx l yX1_glance wsX1_glance rmX1_glance3 D [(cI, .int)] [.ref x0, .int (nI x), .int (nI x)] (XO x0 a b ++ (DC cI a f r ++ DC cI b f2 r2)) sz xA := by
  refine wMetX cX1_glance 3 (some .int) (by decide) rfl (Nat.le_of_ble_eq_true rfl) ?_
  intro p e s m args below meth c A Q ls hQ hx hb hr hml hown hlocks hin hts hN hE hZ hno hP hK hD hA hS hl
  have hl : lv_has ls 3 [(0, .ref x0), (1, .int (nI x)), (2, .int (nI x))] := hl
  have hown : s.vm.findClass RX1 = some m.cls := hown
  refine lv_aload_n hx hb dX1_glance_0 rfl (lv_at hl 0 rfl) ?_
  refine lv_iload_n hx hb dX1_glance_1 rfl (lv_at hl 1 rfl) ?_
  refine lv_iload_n hx hb dX1_glance_2 rfl (lv_at hl 2 rfl) ?_
  exact wPV (pre := ([] : va_W)) (Wc := XO x0 a b ++ (DC cI a f r ++ DC cI b f2 r2)) (suf := ([] : va_W)) (As := [.int (nI x), .int (nI x)]) (rest := []) hQ hno hlocks ⟨hx, hb, hml, hown, hts⟩ (mX1_requireFreeWay3 l D cI x0 a b f f2 r r2 gg x _ hlt hg hg2 hg0 ux) hN hE hZ hA hK hS hP hD rfl 0 (r := (RX1, TX1, 2)) rfl rfl (cwV 2 hts gX1_glance_X1_requireFreeWay rfl rfl rfl (by decide +kernel) ⟨Nat.le_of_ble_eq_true rfl, Nat.le_of_ble_eq_true rfl⟩) rfl hl.1 rfl (Nat.le_of_ble_eq_true rfl) dX1_glance_3 ⟨Nat.le_of_ble_eq_true rfl, Nat.le_of_ble_eq_true rfl⟩
abbrev rmX1_glance4 : Room := { frames := 7, cells := 1, slots := 6, locals := 104 }
set_option maxRecDepth 100000 in
set_option maxHeartbeats 4000000 in
theorem mX1_glance4 (l : Launch) (D : va_G) (cI : ClassId) (x0 : Nat) (a b : Nat → Nat) (f f2 : Nat → Int32) (r r2 : Nat → Nat → Int32) (gg x y : Nat) (sz : Nat) (hlt : l.stackTraces = false) (hg : f 0 = nI gg) (hg2 : gg ≤ 10) (hg0 : 0 < gg) (ux : x < gg) (uy : y < gg) (hne : ¬ nI x = nI y) (hway : ¬ r 4 (x * 10 + y) = -1) : wCx l yX1_glance wsX1_glance rmX1_glance4 D [(cI, .int)] [.ref x0, .int (nI x), .int (nI y)] (XO x0 a b ++ (DC cI a f r ++ DC cI b f2 r2)) sz xS := by
  refine wMetX cX1_glance 3 (some .int) (by decide) rfl (Nat.le_of_ble_eq_true rfl) ?_
  intro p e s m args below meth c A Q ls hQ hx hb hr hml hown hlocks hin hts hN hE hZ hno hP hK hD hA hS hl
  have hl : lv_has ls 3 [(0, .ref x0), (1, .int (nI x)), (2, .int (nI y))] := hl
  have hown : s.vm.findClass RX1 = some m.cls := hown
  refine lv_aload_n hx hb dX1_glance_0 rfl (lv_at hl 0 rfl) ?_
  refine lv_iload_n hx hb dX1_glance_1 rfl (lv_at hl 1 rfl) ?_
  refine lv_iload_n hx hb dX1_glance_2 rfl (lv_at hl 2 rfl) ?_
  exact wPV (pre := ([] : va_W)) (Wc := XO x0 a b ++ (DC cI a f r ++ DC cI b f2 r2)) (suf := ([] : va_W)) (As := [.int (nI x), .int (nI y)]) (rest := []) hQ hno hlocks ⟨hx, hb, hml, hown, hts⟩ (mX1_requireFreeWay4 l D cI x0 a b f f2 r r2 gg x y _ hlt hg hg2 hg0 ux uy hne hway) hN hE hZ hA hK hS hP hD rfl 0 (r := (RX1, TX1, 2)) rfl rfl (cwV 2 hts gX1_glance_X1_requireFreeWay rfl rfl rfl (by decide +kernel) ⟨Nat.le_of_ble_eq_true rfl, Nat.le_of_ble_eq_true rfl⟩) rfl hl.1 rfl (Nat.le_of_ble_eq_true rfl) dX1_glance_3 ⟨Nat.le_of_ble_eq_true rfl, Nat.le_of_ble_eq_true rfl⟩
abbrev rmX1_wouldLeave1 : Room := { frames := 8, cells := 1, slots := 6, locals := 125 }
set_option maxRecDepth 100000 in
set_option maxHeartbeats 4000000 in
theorem mX1_wouldLeave1 (l : Launch) (D : va_G) (cI : ClassId) (x0 : Nat) (a b : Nat → Nat) (f f2 : Nat → Int32) (r r2 : Nat → Nat → Int32) (x y : Int32) (sz : Nat) (hlt : l.stackTraces = false) (hbad : x < 0 ∨ f 0 ≤ x) : wCx l yX1_wouldLeave wsX1_wouldLeave rmX1_wouldLeave1 D [(cI, .int)] [.ref x0, .int x, .int y] (XO x0 a b ++ (DC cI a f r ++ DC cI b f2 r2)) sz xI := by
  refine wMetX cX1_wouldLeave 3 (some .int) (by decide) rfl (Nat.le_of_ble_eq_true rfl) ?_
  intro p e s m args below meth c A Q ls hQ hx hb hr hml hown hlocks hin hts hN hE hZ hno hP hK hD hA hS hl
  have hl : lv_has ls 3 [(0, .ref x0), (1, .int x), (2, .int y)] := hl
  have hown : s.vm.findClass RX1 = some m.cls := hown
  refine lv_aload_n hx hb dX1_wouldLeave_0 rfl (lv_at hl 0 rfl) ?_
  refine lv_iload_n hx hb dX1_wouldLeave_1 rfl (lv_at hl 1 rfl) ?_
  refine lv_iload_n hx hb dX1_wouldLeave_2 rfl (lv_at hl 2 rfl) ?_
  exact wPV (pre := ([] : va_W)) (Wc := XO x0 a b ++ (DC cI a f r ++ DC cI b f2 r2)) (suf := ([] : va_W)) (As := [.int x, .int y]) (rest := []) hQ hno hlocks ⟨hx, hb, hml, hown, hts⟩ (mX1_requireFreeWay1 l D cI x0 a b f f2 r r2 x y _ hlt hbad) hN hE hZ hA hK hS hP hD rfl 0 (r := (RX1, TX1, 2)) rfl rfl (cwV 2 hts gX1_wouldLeave_X1_requireFreeWay rfl rfl rfl (by decide +kernel) ⟨Nat.le_of_ble_eq_true rfl, Nat.le_of_ble_eq_true rfl⟩) rfl hl.1 rfl (Nat.le_of_ble_eq_true rfl) dX1_wouldLeave_3 ⟨Nat.le_of_ble_eq_true rfl, Nat.le_of_ble_eq_true rfl⟩
abbrev rmX1_wouldLeave2 : Room := { frames := 8, cells := 1, slots := 6, locals := 125 }
set_option maxRecDepth 100000 in
set_option maxHeartbeats 4000000 in
theorem mX1_wouldLeave2 (l : Launch) (D : va_G) (cI : ClassId) (x0 : Nat) (a b : Nat → Nat) (f f2 : Nat → Int32) (r r2 : Nat → Nat → Int32) (gg x : Nat) (y : Int32) (sz : Nat) (hlt : l.stackTraces = false) (hg : f 0 = nI gg) (hg2 : gg ≤ 10) (hg0 : 0 < gg) (ux : x < gg) (hbad : y < 0 ∨ f 0 ≤ y) : wCx l yX1_wouldLeave wsX1_wouldLeave rmX1_wouldLeave2 D [(cI, .int)] [.ref x0, .int (nI x), .int y] (XO x0 a b ++ (DC cI a f r ++ DC cI b f2 r2)) sz xI := by
  refine wMetX cX1_wouldLeave 3 (some .int) (by decide) rfl (Nat.le_of_ble_eq_true rfl) ?_
  intro p e s m args below meth c A Q ls hQ hx hb hr hml hown hlocks hin hts hN hE hZ hno hP hK hD hA hS hl
  have hl : lv_has ls 3 [(0, .ref x0), (1, .int (nI x)), (2, .int y)] := hl
  have hown : s.vm.findClass RX1 = some m.cls := hown
  refine lv_aload_n hx hb dX1_wouldLeave_0 rfl (lv_at hl 0 rfl) ?_
  refine lv_iload_n hx hb dX1_wouldLeave_1 rfl (lv_at hl 1 rfl) ?_
  refine lv_iload_n hx hb dX1_wouldLeave_2 rfl (lv_at hl 2 rfl) ?_
  exact wPV (pre := ([] : va_W)) (Wc := XO x0 a b ++ (DC cI a f r ++ DC cI b f2 r2)) (suf := ([] : va_W)) (As := [.int (nI x), .int y]) (rest := []) hQ hno hlocks ⟨hx, hb, hml, hown, hts⟩ (mX1_requireFreeWay2 l D cI x0 a b f f2 r r2 gg x y _ hlt hg hg2 hg0 ux hbad) hN hE hZ hA hK hS hP hD rfl 0 (r := (RX1, TX1, 2)) rfl rfl (cwV 2 hts gX1_wouldLeave_X1_requireFreeWay rfl rfl rfl (by decide +kernel) ⟨Nat.le_of_ble_eq_true rfl, Nat.le_of_ble_eq_true rfl⟩) rfl hl.1 rfl (Nat.le_of_ble_eq_true rfl) dX1_wouldLeave_3 ⟨Nat.le_of_ble_eq_true rfl, Nat.le_of_ble_eq_true rfl⟩
abbrev rmX1_wouldLeave3 : Room := { frames := 7, cells := 1, slots := 6, locals := 104 }
set_option maxRecDepth 100000 in
set_option maxHeartbeats 4000000 in
theorem mX1_wouldLeave3 (l : Launch) (D : va_G) (cI : ClassId) (x0 : Nat) (a b : Nat → Nat) (f f2 : Nat → Int32) (r r2 : Nat → Nat → Int32) (gg x : Nat) (sz : Nat) (hlt : l.stackTraces = false) (hg : f 0 = nI gg) (hg2 : gg ≤ 10) (hg0 : 0 < gg) (ux : x < gg) : wCx l yX1_wouldLeave wsX1_wouldLeave rmX1_wouldLeave3 D [(cI, .int)] [.ref x0, .int (nI x), .int (nI x)] (XO x0 a b ++ (DC cI a f r ++ DC cI b f2 r2)) sz xA := by
  refine wMetX cX1_wouldLeave 3 (some .int) (by decide) rfl (Nat.le_of_ble_eq_true rfl) ?_
  intro p e s m args below meth c A Q ls hQ hx hb hr hml hown hlocks hin hts hN hE hZ hno hP hK hD hA hS hl
  have hl : lv_has ls 3 [(0, .ref x0), (1, .int (nI x)), (2, .int (nI x))] := hl
  have hown : s.vm.findClass RX1 = some m.cls := hown
  refine lv_aload_n hx hb dX1_wouldLeave_0 rfl (lv_at hl 0 rfl) ?_
  refine lv_iload_n hx hb dX1_wouldLeave_1 rfl (lv_at hl 1 rfl) ?_
  refine lv_iload_n hx hb dX1_wouldLeave_2 rfl (lv_at hl 2 rfl) ?_
  exact wPV (pre := ([] : va_W)) (Wc := XO x0 a b ++ (DC cI a f r ++ DC cI b f2 r2)) (suf := ([] : va_W)) (As := [.int (nI x), .int (nI x)]) (rest := []) hQ hno hlocks ⟨hx, hb, hml, hown, hts⟩ (mX1_requireFreeWay3 l D cI x0 a b f f2 r r2 gg x _ hlt hg hg2 hg0 ux) hN hE hZ hA hK hS hP hD rfl 0 (r := (RX1, TX1, 2)) rfl rfl (cwV 2 hts gX1_wouldLeave_X1_requireFreeWay rfl rfl rfl (by decide +kernel) ⟨Nat.le_of_ble_eq_true rfl, Nat.le_of_ble_eq_true rfl⟩) rfl hl.1 rfl (Nat.le_of_ble_eq_true rfl) dX1_wouldLeave_3 ⟨Nat.le_of_ble_eq_true rfl, Nat.le_of_ble_eq_true rfl⟩
abbrev rmX1_wouldLeave4 : Room := { frames := 7, cells := 1, slots := 6, locals := 104 }
set_option maxRecDepth 100000 in
set_option maxHeartbeats 4000000 in
theorem mX1_wouldLeave4 (l : Launch) (D : va_G) (cI : ClassId) (x0 : Nat) (a b : Nat → Nat) (f f2 : Nat → Int32) (r r2 : Nat → Nat → Int32) (gg x y : Nat) (sz : Nat) (hlt : l.stackTraces = false) (hg : f 0 = nI gg) (hg2 : gg ≤ 10) (hg0 : 0 < gg) (ux : x < gg) (uy : y < gg) (hne : ¬ nI x = nI y) (hway : ¬ r 4 (x * 10 + y) = -1) : wCx l yX1_wouldLeave wsX1_wouldLeave rmX1_wouldLeave4 D [(cI, .int)] [.ref x0, .int (nI x), .int (nI y)] (XO x0 a b ++ (DC cI a f r ++ DC cI b f2 r2)) sz xS := by
  refine wMetX cX1_wouldLeave 3 (some .int) (by decide) rfl (Nat.le_of_ble_eq_true rfl) ?_
  intro p e s m args below meth c A Q ls hQ hx hb hr hml hown hlocks hin hts hN hE hZ hno hP hK hD hA hS hl
  have hl : lv_has ls 3 [(0, .ref x0), (1, .int (nI x)), (2, .int (nI y))] := hl
  have hown : s.vm.findClass RX1 = some m.cls := hown
  refine lv_aload_n hx hb dX1_wouldLeave_0 rfl (lv_at hl 0 rfl) ?_
  refine lv_iload_n hx hb dX1_wouldLeave_1 rfl (lv_at hl 1 rfl) ?_
  refine lv_iload_n hx hb dX1_wouldLeave_2 rfl (lv_at hl 2 rfl) ?_
  exact wPV (pre := ([] : va_W)) (Wc := XO x0 a b ++ (DC cI a f r ++ DC cI b f2 r2)) (suf := ([] : va_W)) (As := [.int (nI x), .int (nI y)]) (rest := []) hQ hno hlocks ⟨hx, hb, hml, hown, hts⟩ (mX1_requireFreeWay4 l D cI x0 a b f f2 r r2 gg x y _ hlt hg hg2 hg0 ux uy hne hway) hN hE hZ hA hK hS hP hD rfl 0 (r := (RX1, TX1, 2)) rfl rfl (cwV 2 hts gX1_wouldLeave_X1_requireFreeWay rfl rfl rfl (by decide +kernel) ⟨Nat.le_of_ble_eq_true rfl, Nat.le_of_ble_eq_true rfl⟩) rfl hl.1 rfl (Nat.le_of_ble_eq_true rfl) dX1_wouldLeave_3 ⟨Nat.le_of_ble_eq_true rfl, Nat.le_of_ble_eq_true rfl⟩
abbrev rmX1_bestMoment1 : Room := { frames := 8, cells := 1, slots := 6, locals := 125 }
set_option maxRecDepth 100000 in
set_option maxHeartbeats 4000000 in
theorem mX1_bestMoment1 (l : Launch) (D : va_G) (cI : ClassId) (x0 : Nat) (a b : Nat → Nat) (f f2 : Nat → Int32) (r r2 : Nat → Nat → Int32) (x y : Int32) (sz : Nat) (hlt : l.stackTraces = false) (hbad : x < 0 ∨ f 0 ≤ x) : wCx l yX1_bestMoment wsX1_bestMoment rmX1_bestMoment1 D [(cI, .int)] [.ref x0, .int x, .int y] (XO x0 a b ++ (DC cI a f r ++ DC cI b f2 r2)) sz xI := by
  refine wMetX cX1_bestMoment 4 (some .int) (by decide) rfl (Nat.le_of_ble_eq_true rfl) ?_
  intro p e s m args below meth c A Q ls hQ hx hb hr hml hown hlocks hin hts hN hE hZ hno hP hK hD hA hS hl
  have hl : lv_has ls 4 [(0, .ref x0), (1, .int x), (2, .int y)] := hl
  have hown : s.vm.findClass RX1 = some m.cls := hown
  refine lv_aload_n hx hb dX1_bestMoment_0 rfl (lv_at hl 0 rfl) ?_
  refine lv_iload_n hx hb dX1_bestMoment_1 rfl (lv_at hl 1 rfl) ?_
  refine lv_iload_n hx hb dX1_bestMoment_2 rfl (lv_at hl 2 rfl) ?_
  exact wPV (pre := ([] : va_W)) (Wc := XO x0 a b ++ (DC cI a f r ++ DC cI b f2 r2)) (suf := ([] : va_W)) (As := [.int x, .int y]) (rest := []) hQ hno hlocks ⟨hx, hb, hml, hown, hts⟩ (mX1_requireFreeWay1 l D cI x0 a b f f2 r r2 x y _ hlt hbad) hN hE hZ hA hK hS hP hD rfl 0 (r := (RX1, TX1, 2)) rfl rfl (cwV 2 hts gX1_bestMoment_X1_requireFreeWay rfl rfl rfl (by decide +kernel) ⟨Nat.le_of_ble_eq_true rfl, Nat.le_of_ble_eq_true rfl⟩) rfl hl.1 rfl (Nat.le_of_ble_eq_true rfl) dX1_bestMoment_3 ⟨Nat.le_of_ble_eq_true rfl, Nat.le_of_ble_eq_true rfl⟩
abbrev rmX1_bestMoment2 : Room := { frames := 8, cells := 1, slots := 6, locals := 125 }
set_option maxRecDepth 100000 in
set_option maxHeartbeats 4000000 in
theorem mX1_bestMoment2 (l : Launch) (D : va_G) (cI : ClassId) (x0 : Nat) (a b : Nat → Nat) (f f2 : Nat → Int32) (r r2 : Nat → Nat → Int32) (gg x : Nat) (y : Int32) (sz : Nat) (hlt : l.stackTraces = false) (hg : f 0 = nI gg) (hg2 : gg ≤ 10) (hg0 : 0 < gg) (ux : x < gg) (hbad : y < 0 ∨ f 0 ≤ y) : wCx l yX1_bestMoment wsX1_bestMoment rmX1_bestMoment2 D [(cI, .int)] [.ref x0, .int (nI x), .int y] (XO x0 a b ++ (DC cI a f r ++ DC cI b f2 r2)) sz xI := by
  refine wMetX cX1_bestMoment 4 (some .int) (by decide) rfl (Nat.le_of_ble_eq_true rfl) ?_
  intro p e s m args below meth c A Q ls hQ hx hb hr hml hown hlocks hin hts hN hE hZ hno hP hK hD hA hS hl
  have hl : lv_has ls 4 [(0, .ref x0), (1, .int (nI x)), (2, .int y)] := hl
  have hown : s.vm.findClass RX1 = some m.cls := hown
  refine lv_aload_n hx hb dX1_bestMoment_0 rfl (lv_at hl 0 rfl) ?_
  refine lv_iload_n hx hb dX1_bestMoment_1 rfl (lv_at hl 1 rfl) ?_
  refine lv_iload_n hx hb dX1_bestMoment_2 rfl (lv_at hl 2 rfl) ?_
  exact wPV (pre := ([] : va_W)) (Wc := XO x0 a b ++ (DC cI a f r ++ DC cI b f2 r2)) (suf := ([] : va_W)) (As := [.int (nI x), .int y]) (rest := []) hQ hno hlocks ⟨hx, hb, hml, hown, hts⟩ (mX1_requireFreeWay2 l D cI x0 a b f f2 r r2 gg x y _ hlt hg hg2 hg0 ux hbad) hN hE hZ hA hK hS hP hD rfl 0 (r := (RX1, TX1, 2)) rfl rfl (cwV 2 hts gX1_bestMoment_X1_requireFreeWay rfl rfl rfl (by decide +kernel) ⟨Nat.le_of_ble_eq_true rfl, Nat.le_of_ble_eq_true rfl⟩) rfl hl.1 rfl (Nat.le_of_ble_eq_true rfl) dX1_bestMoment_3 ⟨Nat.le_of_ble_eq_true rfl, Nat.le_of_ble_eq_true rfl⟩
abbrev rmX1_bestMoment3 : Room := { frames := 7, cells := 1, slots := 6, locals := 104 }
set_option maxRecDepth 100000 in
set_option maxHeartbeats 4000000 in
theorem mX1_bestMoment3 (l : Launch) (D : va_G) (cI : ClassId) (x0 : Nat) (a b : Nat → Nat) (f f2 : Nat → Int32) (r r2 : Nat → Nat → Int32) (gg x : Nat) (sz : Nat) (hlt : l.stackTraces = false) (hg : f 0 = nI gg) (hg2 : gg ≤ 10) (hg0 : 0 < gg) (ux : x < gg) : wCx l yX1_bestMoment wsX1_bestMoment rmX1_bestMoment3 D [(cI, .int)] [.ref x0, .int (nI x), .int (nI x)] (XO x0 a b ++ (DC cI a f r ++ DC cI b f2 r2)) sz xA := by
  refine wMetX cX1_bestMoment 4 (some .int) (by decide) rfl (Nat.le_of_ble_eq_true rfl) ?_
  intro p e s m args below meth c A Q ls hQ hx hb hr hml hown hlocks hin hts hN hE hZ hno hP hK hD hA hS hl
  have hl : lv_has ls 4 [(0, .ref x0), (1, .int (nI x)), (2, .int (nI x))] := hl
  have hown : s.vm.findClass RX1 = some m.cls := hown
  refine lv_aload_n hx hb dX1_bestMoment_0 rfl (lv_at hl 0 rfl) ?_
  refine lv_iload_n hx hb dX1_bestMoment_1 rfl (lv_at hl 1 rfl) ?_
  refine lv_iload_n hx hb dX1_bestMoment_2 rfl (lv_at hl 2 rfl) ?_
  exact wPV (pre := ([] : va_W)) (Wc := XO x0 a b ++ (DC cI a f r ++ DC cI b f2 r2)) (suf := ([] : va_W)) (As := [.int (nI x), .int (nI x)]) (rest := []) hQ hno hlocks ⟨hx, hb, hml, hown, hts⟩ (mX1_requireFreeWay3 l D cI x0 a b f f2 r r2 gg x _ hlt hg hg2 hg0 ux) hN hE hZ hA hK hS hP hD rfl 0 (r := (RX1, TX1, 2)) rfl rfl (cwV 2 hts gX1_bestMoment_X1_requireFreeWay rfl rfl rfl (by decide +kernel) ⟨Nat.le_of_ble_eq_true rfl, Nat.le_of_ble_eq_true rfl⟩) rfl hl.1 rfl (Nat.le_of_ble_eq_true rfl) dX1_bestMoment_3 ⟨Nat.le_of_ble_eq_true rfl, Nat.le_of_ble_eq_true rfl⟩
abbrev rmX1_bestMoment4 : Room := { frames := 7, cells := 1, slots := 6, locals := 104 }
set_option maxRecDepth 100000 in
set_option maxHeartbeats 4000000 in
theorem mX1_bestMoment4 (l : Launch) (D : va_G) (cI : ClassId) (x0 : Nat) (a b : Nat → Nat) (f f2 : Nat → Int32) (r r2 : Nat → Nat → Int32) (gg x y : Nat) (sz : Nat) (hlt : l.stackTraces = false) (hg : f 0 = nI gg) (hg2 : gg ≤ 10) (hg0 : 0 < gg) (ux : x < gg) (uy : y < gg) (hne : ¬ nI x = nI y) (hway : ¬ r 4 (x * 10 + y) = -1) : wCx l yX1_bestMoment wsX1_bestMoment rmX1_bestMoment4 D [(cI, .int)] [.ref x0, .int (nI x), .int (nI y)] (XO x0 a b ++ (DC cI a f r ++ DC cI b f2 r2)) sz xS := by
  refine wMetX cX1_bestMoment 4 (some .int) (by decide) rfl (Nat.le_of_ble_eq_true rfl) ?_
  intro p e s m args below meth c A Q ls hQ hx hb hr hml hown hlocks hin hts hN hE hZ hno hP hK hD hA hS hl
  have hl : lv_has ls 4 [(0, .ref x0), (1, .int (nI x)), (2, .int (nI y))] := hl
  have hown : s.vm.findClass RX1 = some m.cls := hown
  refine lv_aload_n hx hb dX1_bestMoment_0 rfl (lv_at hl 0 rfl) ?_
  refine lv_iload_n hx hb dX1_bestMoment_1 rfl (lv_at hl 1 rfl) ?_
  refine lv_iload_n hx hb dX1_bestMoment_2 rfl (lv_at hl 2 rfl) ?_
  exact wPV (pre := ([] : va_W)) (Wc := XO x0 a b ++ (DC cI a f r ++ DC cI b f2 r2)) (suf := ([] : va_W)) (As := [.int (nI x), .int (nI y)]) (rest := []) hQ hno hlocks ⟨hx, hb, hml, hown, hts⟩ (mX1_requireFreeWay4 l D cI x0 a b f f2 r r2 gg x y _ hlt hg hg2 hg0 ux uy hne hway) hN hE hZ hA hK hS hP hD rfl 0 (r := (RX1, TX1, 2)) rfl rfl (cwV 2 hts gX1_bestMoment_X1_requireFreeWay rfl rfl rfl (by decide +kernel) ⟨Nat.le_of_ble_eq_true rfl, Nat.le_of_ble_eq_true rfl⟩) rfl hl.1 rfl (Nat.le_of_ble_eq_true rfl) dX1_bestMoment_3 ⟨Nat.le_of_ble_eq_true rfl, Nat.le_of_ble_eq_true rfl⟩
