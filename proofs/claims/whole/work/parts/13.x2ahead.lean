abbrev rmX2_becomes : Room := { frames := 4, cells := 0, slots := 0, locals := 87 }
set_option maxRecDepth 100000 in
set_option maxHeartbeats 4000000 in
/-- becomes: what becomes of a glance sent now, when it is over behind t seconds -/
theorem mX2_becomes (l : Launch) (D : va_G) (cI : ClassId) (b : Nat → Nat) (g nw kp : Nat → Int32) (li x y t : Nat) (sz : Nat) (hl0 : g 2 = nI li) (hl1 : 0 < li) (hl2 : li ≤ 30) (ux : x < 10) (uy : y < 10) (h1 : ∀ i, i < t → 0 < (mSecs (nI (10 * x + y)) (g 2) (mSend (g 1) nw x y, g 6) i).1 (148 + (10 * x + y)) ∧ mOk (mSecs (nI (10 * x + y)) (g 2) (mSend (g 1) nw x y, g 6) i).1) (h2 : ¬ 0 < (mSecs (nI (10 * x + y)) (g 2) (mSend (g 1) nw x y, g 6) t).1 (148 + (10 * x + y))) : wCt l yX2_becomes wsX2_becomes rmX2_becomes D [(cI, .int)] [.ref (b 0), .int (nI x), .int (nI y)] (MC cI b g nw kp) sz 0 0 (wQi D (fun v (_ : Unit) => v = (mSecs (nI (10 * x + y)) (g 2) (mSend (g 1) nw x y, g 6) t).2) (fun _ : Unit => MC cI b (upd (upd g 5 (nI (10 * x + y))) 6 (mSecs (nI (10 * x + y)) (g 2) (mSend (g 1) nw x y, g 6) t).2) kp kp)) := by
  refine wMet cX2_becomes 4 (some .int) (by decide) rfl (Nat.le_of_ble_eq_true rfl) ?_
  intro p e s m args below meth c A Q ls hQ hx hb hr hml hown hlocks hin hts hN hP hK hD hA hS hl
  have hl : lv_has ls 4 [(0, .ref (b 0)), (1, .int (nI x)), (2, .int (nI y))] := hl
  have hown : s.vm.findClass RX2 = some m.cls := hown
  have hw2 : ∀ w ∈ wsX20, w.before args s = true := fun w h => hts w (List.mem_cons_of_mem _ (List.mem_append_right _ h))
  have k16 := hts (.fieldLink RX2 16 "PauseLedgerModel" "now" "[I") (by decide +kernel)
  have k23 := hts (.fieldLink RX2 23 "PauseLedgerModel" "mark" "I") (by decide +kernel)
  have k59 := hts (.fieldLink RX2 59 "PauseLedgerModel" "end" "I") (by decide +kernel)
  refine lv_aload_n hx hb dX2_becomes_0 rfl (lv_at hl 0 rfl) ?_
  refine lv_iload_n hx hb dX2_becomes_1 rfl (lv_at hl 1 rfl) ?_
  refine lv_iload_n hx hb dX2_becomes_2 rfl (lv_at hl 2 rfl) ?_
  refine wCVi (pre := ([] : va_W)) (Wc := MC cI b g nw kp) (suf := ([] : va_W)) (As := [.int (nI x), .int (nI y)]) (rest := []) ⟨hx, hb, hml, hown, hts⟩ (mX2_send l D cI b g nw kp x y _ ux uy) hN hA hK hS hP hD rfl 0 (r := (RX2, TX2, 7)) rfl rfl (cwV 2 hts gX2_becomes_X2_send rfl rfl rfl (by decide +kernel) ⟨Nat.le_of_ble_eq_true rfl, Nat.le_of_ble_eq_true rfl⟩) rfl hl.1 rfl (Nat.le_of_ble_eq_true rfl) dX2_becomes_3 ⟨Nat.zero_le _, Nat.zero_le _⟩ (fun r_3 u_3 H locs hw hP hD hS => ?_)
  obtain ⟨hw, rfl⟩ := hw
  have hw : r_3 = mSend (g 1) nw x y (48 + (10 * x + y)) := hw
  subst hw
  have hP : va_P D vwCl (MC cI b g (mSend (g 1) nw x y) kp) H := hP
  have hD : va_D A (MC cI b g (mSend (g 1) nw x y) kp) := hD
  refine lv_pop hx hb dX2_becomes_6 rfl ?_
  refine lv_aload_n hx hb dX2_becomes_7 rfl (lv_at hl 0 rfl) ?_
  refine lv_iload_n hx hb dX2_becomes_8 rfl (lv_at hl 1 rfl) ?_
  refine lv_iload_n hx hb dX2_becomes_9 rfl (lv_at hl 2 rfl) ?_
  refine wCSi (pre := ([] : va_W)) (Wc := ([] : va_W)) (suf := MC cI b g (mSend (g 1) nw x y) kp) (As := [.int (nI x), .int (nI y)]) (rest := [.ref (b 0)]) ⟨hx, hb, hml, hown, hts⟩ (mX2_pair l D cI x y _) hN hA hK hS hP hD rfl (va_cwS 2 hts gX2_becomes_X2_pair rfl rfl rfl (by decide +kernel) ⟨Nat.le_of_ble_eq_true rfl, Nat.le_of_ble_eq_true rfl⟩) rfl hl.1 rfl (Nat.le_of_ble_eq_true rfl) dX2_becomes_10 ⟨Nat.zero_le _, Nat.zero_le _⟩ (fun r_10 u_10 H locs hw hP hD hS => ?_)
  have hw : r_10 = nI (10 * x + y) := hw
  subst hw
  have hP : va_P D vwCl (MC cI b g (mSend (g 1) nw x y) kp) H := hP
  have hD : va_D A (MC cI b g (mSend (g 1) nw x y) kp) := hD
  refine va_put (D := D) (ci := 2) (v := .int (nI (10 * x + y))) (ty := .int) (C := RX2) (T := TX2) (N := 7) hx hb hw2 (fun _ h => h) tyX2 tyX2_ok nmX2 hown hK hP hD hS 0 rfl rfl 5 (by decide) k23 (fun _ h9 => h9) rfl (by decide +kernel) rfl rfl (Nat.le_of_ble_eq_true rfl) dX2_becomes_13 (fun H locs hP hD hS => ?_)
  have hP : va_P D vwCl (MC cI b (upd g 5 (nI (10 * x + y))) (mSend (g 1) nw x y) kp) H := hP
  have hD : va_D A (MC cI b (upd g 5 (nI (10 * x + y))) (mSend (g 1) nw x y) kp) := hD
  have loop16 : ∀ (j i16 : Nat), i16 + j = t → ∀ (H : Heap) (locs : List Loc) (ls : Array Slot), va_P D vwCl (MC cI b (upd (upd g 5 (nI (10 * x + y))) 6 (mSecs (nI (10 * x + y)) (g 2) (mSend (g 1) nw x y, g 6) i16).2) (mSecs (nI (10 * x + y)) (g 2) (mSend (g 1) nw x y, g 6) i16).1 kp) H → va_D A (MC cI b (upd (upd g 5 (nI (10 * x + y))) 6 (mSecs (nI (10 * x + y)) (g 2) (mSend (g 1) nw x y, g 6) i16).2) (mSecs (nI (10 * x + y)) (g 2) (mSend (g 1) nw x y, g 6) i16).1 kp) → va_S A s.heap H locs → lv_has ls 4 [(0, .ref (b 0)), (1, .int (nI x)), (2, .int (nI y))] → W p l e rmX2_becomes s m args below meth c H locs 0 0 Q (F0 m 16 ls []) := by
    intro j
    induction j with
    | zero =>
      intro i16 hi16 H locs ls hP hD hS hl
      have ez : t = i16 := by omega
      subst ez
      refine lv_aload_n hx hb dX2_becomes_16 rfl (lv_at hl 0 rfl) ?_
      refine va_get (D := D) (ci := 2) (v := .ref (b 1)) (C := RX2) (T := TX2) (N := 7) hx hb hw2 (fun _ h => h) hown hK hP 0 rfl rfl 3 (by decide) k16 (fun _ h9 => h9) rfl dX2_becomes_17 ?_
      refine lv_sipush (v := 148) hx hb dX2_becomes_20 (by decide) ?_
      refine lv_aload_n hx hb dX2_becomes_23 rfl (lv_at hl 0 rfl) ?_
      refine va_get (D := D) (ci := 2) (v := .int (nI (10 * x + y))) (C := RX2) (T := TX2) (N := 7) hx hb hw2 (fun _ h => h) hown hK hP 0 rfl rfl 5 (by decide) k23 (fun _ h9 => h9) rfl dX2_becomes_24 ?_
      refine lv_iadd hx hb dX2_becomes_27 ?_
      refine wTop (z := nI (148 + (10 * x + y))) (nI_add 148 (10 * x + y)) ?_
      refine wIald hx hb hK hP 1 0 rfl rfl (148 + (10 * x + y)) rfl (by omega) (by decide) dX2_becomes_28 ?_
      refine lv_if_le (tgt := 39) hx hb dX2_becomes_29 (by decide) (fun c_29 => ?_) (fun h9 => absurd (Int32.not_lt.mp h2) h9)
      refine lv_aload_n hx hb dX2_becomes_39 rfl (lv_at hl 0 rfl) ?_
      refine va_get (D := D) (ci := 2) (v := .int (mSecs (nI (10 * x + y)) (g 2) (mSend (g 1) nw x y, g 6) t).2) (C := RX2) (T := TX2) (N := 7) hx hb hw2 (fun _ h => h) hown hK hP 0 rfl rfl 6 (by decide) k59 (fun _ h9 => h9) rfl dX2_becomes_40 ?_
      refine lv_istore_n (lv' := [(3, .int (mSecs (nI (10 * x + y)) (g 2) (mSend (g 1) nw x y, g 6) t).2), (0, .ref (b 0)), (1, .int (nI x)), (2, .int (nI y))]) hx hb dX2_becomes_43 rfl hl (by decide) rfl (fun ls hl => ?_)
      refine lv_aload_n hx hb dX2_becomes_44 rfl (lv_at hl 1 rfl) ?_
      refine wCVv (pre := ([] : va_W)) (Wc := MC cI b (upd (upd g 5 (nI (10 * x + y))) 6 (mSecs (nI (10 * x + y)) (g 2) (mSend (g 1) nw x y, g 6) t).2) (mSecs (nI (10 * x + y)) (g 2) (mSend (g 1) nw x y, g 6) t).1 kp) (suf := ([] : va_W)) (As := []) (rest := []) ⟨hx, hb, hml, hown, hts⟩ (mX2_bringBack l D cI b (upd (upd g 5 (nI (10 * x + y))) 6 (mSecs (nI (10 * x + y)) (g 2) (mSend (g 1) nw x y, g 6) t).2) (mSecs (nI (10 * x + y)) (g 2) (mSend (g 1) nw x y, g 6) t).1 kp _) hN hA hK hS hP hD rfl 0 (r := (RX2, TX2, 7)) rfl rfl (cwV 0 hts gX2_becomes_X2_bringBack rfl rfl rfl (by decide +kernel) ⟨Nat.le_of_ble_eq_true rfl, Nat.le_of_ble_eq_true rfl⟩) rfl hl.1 rfl (Nat.le_of_ble_eq_true rfl) dX2_becomes_45 ⟨Nat.zero_le _, Nat.zero_le _⟩ (fun u_45 H locs hw hP hD hS => ?_)
      have hP : va_P D vwCl (MC cI b (upd (upd g 5 (nI (10 * x + y))) 6 (mSecs (nI (10 * x + y)) (g 2) (mSend (g 1) nw x y, g 6) t).2) kp kp) H := hP
      have hD : va_D A (MC cI b (upd (upd g 5 (nI (10 * x + y))) 6 (mSecs (nI (10 * x + y)) (g 2) (mSend (g 1) nw x y, g 6) t).2) kp kp) := hD
      refine lv_iload_n hx hb dX2_becomes_48 rfl (lv_at hl 0 rfl) ?_
      exact wRi hQ hx hb hr hlocks hP hD hS dX2_becomes_49 () (rfl) rfl
    | succ j ih16 =>
      intro i16 hi16 H locs ls hP hD hS hl
      refine lv_aload_n hx hb dX2_becomes_16 rfl (lv_at hl 0 rfl) ?_
      refine va_get (D := D) (ci := 2) (v := .ref (b 1)) (C := RX2) (T := TX2) (N := 7) hx hb hw2 (fun _ h => h) hown hK hP 0 rfl rfl 3 (by decide) k16 (fun _ h9 => h9) rfl dX2_becomes_17 ?_
      refine lv_sipush (v := 148) hx hb dX2_becomes_20 (by decide) ?_
      refine lv_aload_n hx hb dX2_becomes_23 rfl (lv_at hl 0 rfl) ?_
      refine va_get (D := D) (ci := 2) (v := .int (nI (10 * x + y))) (C := RX2) (T := TX2) (N := 7) hx hb hw2 (fun _ h => h) hown hK hP 0 rfl rfl 5 (by decide) k23 (fun _ h9 => h9) rfl dX2_becomes_24 ?_
      refine lv_iadd hx hb dX2_becomes_27 ?_
      refine wTop (z := nI (148 + (10 * x + y))) (nI_add 148 (10 * x + y)) ?_
      refine wIald hx hb hK hP 1 0 rfl rfl (148 + (10 * x + y)) rfl (by omega) (by decide) dX2_becomes_28 ?_
      refine lv_if_le (tgt := 39) hx hb dX2_becomes_29 (by decide) (fun h9 => absurd h9 (Int32.not_le.mpr (h1 i16 (by omega)).1)) (fun c_29 => ?_)
      refine lv_aload_n hx hb dX2_becomes_32 rfl (lv_at hl 0 rfl) ?_
      refine wCVv (pre := ([] : va_W)) (Wc := MC cI b (upd (upd g 5 (nI (10 * x + y))) 6 (mSecs (nI (10 * x + y)) (g 2) (mSend (g 1) nw x y, g 6) i16).2) (mSecs (nI (10 * x + y)) (g 2) (mSend (g 1) nw x y, g 6) i16).1 kp) (suf := ([] : va_W)) (As := []) (rest := []) ⟨hx, hb, hml, hown, hts⟩ (mX2_secondOn l D cI b (upd (upd g 5 (nI (10 * x + y))) 6 (mSecs (nI (10 * x + y)) (g 2) (mSend (g 1) nw x y, g 6) i16).2) (mSecs (nI (10 * x + y)) (g 2) (mSend (g 1) nw x y, g 6) i16).1 kp li _ hl0 hl1 hl2 (h1 i16 (by omega)).2) hN hA hK hS hP hD rfl 0 (r := (RX2, TX2, 7)) rfl rfl (cwV 0 hts gX2_becomes_X2_secondOn rfl rfl rfl (by decide +kernel) ⟨Nat.le_of_ble_eq_true rfl, Nat.le_of_ble_eq_true rfl⟩) rfl hl.1 rfl (Nat.le_of_ble_eq_true rfl) dX2_becomes_33 ⟨Nat.zero_le _, Nat.zero_le _⟩ (fun u_33 H locs hw hP hD hS => ?_)
      subst hw
      have hP : va_P D vwCl (MC cI b (upd (upd g 5 (nI (10 * x + y))) 6 (mSec (nI (10 * x + y)) (g 2) ((mSecs (nI (10 * x + y)) (g 2) (mSend (g 1) nw x y, g 6) i16).1, (mSecs (nI (10 * x + y)) (g 2) (mSend (g 1) nw x y, g 6) i16).2)).2) (mSec (nI (10 * x + y)) (g 2) ((mSecs (nI (10 * x + y)) (g 2) (mSend (g 1) nw x y, g 6) i16).1, (mSecs (nI (10 * x + y)) (g 2) (mSend (g 1) nw x y, g 6) i16).2)).1 kp) H := hP
      have hD : va_D A (MC cI b (upd (upd g 5 (nI (10 * x + y))) 6 (mSec (nI (10 * x + y)) (g 2) ((mSecs (nI (10 * x + y)) (g 2) (mSend (g 1) nw x y, g 6) i16).1, (mSecs (nI (10 * x + y)) (g 2) (mSend (g 1) nw x y, g 6) i16).2)).2) (mSec (nI (10 * x + y)) (g 2) ((mSecs (nI (10 * x + y)) (g 2) (mSend (g 1) nw x y, g 6) i16).1, (mSecs (nI (10 * x + y)) (g 2) (mSend (g 1) nw x y, g 6) i16).2)).1 kp) := hD
      refine lv_goto (tgt := 16) hx hb dX2_becomes_36 (by decide) ?_
      exact ih16 (i16 + 1) (by omega) _ _ _ hP hD hS (lv_sub hl [0, 1, 2] rfl)
  exact loop16 t 0 (by omega) _ _ _ hP hD hS (lv_sub hl [0, 1, 2] rfl)
abbrev rmX2_wouldLeave1 : Room := { frames := 3, cells := 0, slots := 0, locals := 65 }
set_option maxRecDepth 100000 in
set_option maxHeartbeats 4000000 in
theorem mX2_wouldLeave1 (l : Launch) (D : va_G) (cI : ClassId) (b : Nat → Nat) (g nw kp : Nat → Int32) (gg : Nat) (x y : Int32) (sz : Nat) (hg : g 1 = nI gg) (hg2 : gg ≤ 10) (hg0 : 0 < gg) (hbad : ¬ (0 ≤ x ∧ x < nI gg) ∨ ¬ (0 ≤ y ∧ y < nI gg)) : wCt l yX2_wouldLeave wsX2_wouldLeave rmX2_wouldLeave1 D [(cI, .int)] [.ref (b 0), .int x, .int y] (MC cI b g nw kp) sz 0 0 (wQi D (fun v (_ : Unit) => v = 0) (fun _ : Unit => MC cI b (upd g 0 1) nw kp)) := by
  refine wMet cX2_wouldLeave 3 (some .int) (by decide) rfl (Nat.le_of_ble_eq_true rfl) ?_
  intro p e s m args below meth c A Q ls hQ hx hb hr hml hown hlocks hin hts hN hP hK hD hA hS hl
  have hl : lv_has ls 3 [(0, .ref (b 0)), (1, .int x), (2, .int y)] := hl
  have hown : s.vm.findClass RX2 = some m.cls := hown
  refine lv_aload_n hx hb dX2_wouldLeave_0 rfl (lv_at hl 0 rfl) ?_
  refine lv_iload_n hx hb dX2_wouldLeave_1 rfl (lv_at hl 1 rfl) ?_
  refine lv_iload_n hx hb dX2_wouldLeave_2 rfl (lv_at hl 2 rfl) ?_
  refine wCVi (pre := ([] : va_W)) (Wc := MC cI b g nw kp) (suf := ([] : va_W)) (As := [.int x, .int y]) (rest := []) ⟨hx, hb, hml, hown, hts⟩ (mX2_canSend1 l D cI b g nw kp gg x y _ hg hg2 hg0 hbad) hN hA hK hS hP hD rfl 0 (r := (RX2, TX2, 7)) rfl rfl (cwV 2 hts gX2_wouldLeave_X2_canSend rfl rfl rfl (by decide +kernel) ⟨Nat.le_of_ble_eq_true rfl, Nat.le_of_ble_eq_true rfl⟩) rfl hl.1 rfl (Nat.le_of_ble_eq_true rfl) dX2_wouldLeave_3 ⟨Nat.zero_le _, Nat.zero_le _⟩ (fun r_3 u_3 H locs hw hP hD hS => ?_)
  have hw : r_3 = 0 := hw
  subst hw
  have hP : va_P D vwCl (MC cI b (upd g 0 1) nw kp) H := hP
  have hD : va_D A (MC cI b (upd g 0 1) nw kp) := hD
  refine lv_if_ne (tgt := 11) hx hb dX2_wouldLeave_6 (by decide) (fun h9 => absurd (rfl) h9) (fun c_6 => ?_)
  refine lv_iconst (v := 0) hx hb dX2_wouldLeave_9 (by decide) ?_
  exact wRi hQ hx hb hr hlocks hP hD hS dX2_wouldLeave_10 () (rfl) rfl
abbrev rmX2_wouldLeave2 : Room := { frames := 3, cells := 0, slots := 0, locals := 65 }
set_option maxRecDepth 100000 in
set_option maxHeartbeats 4000000 in
theorem mX2_wouldLeave2 (l : Launch) (D : va_G) (cI : ClassId) (b : Nat → Nat) (g nw kp : Nat → Int32) (gg x y : Nat) (sz : Nat) (hg : g 1 = nI gg) (hg2 : gg ≤ 10) (hg0 : 0 < gg) (ux : x < gg) (uy : y < gg) (hcode : ¬ mCode nw x y = 0) : wCt l yX2_wouldLeave wsX2_wouldLeave rmX2_wouldLeave2 D [(cI, .int)] [.ref (b 0), .int (nI x), .int (nI y)] (MC cI b g nw kp) sz 0 0 (wQi D (fun v (_ : Unit) => v = 0) (fun _ : Unit => MC cI b (upd g 0 (mCode nw x y)) nw kp)) := by
  refine wMet cX2_wouldLeave 3 (some .int) (by decide) rfl (Nat.le_of_ble_eq_true rfl) ?_
  intro p e s m args below meth c A Q ls hQ hx hb hr hml hown hlocks hin hts hN hP hK hD hA hS hl
  have hl : lv_has ls 3 [(0, .ref (b 0)), (1, .int (nI x)), (2, .int (nI y))] := hl
  have hown : s.vm.findClass RX2 = some m.cls := hown
  refine lv_aload_n hx hb dX2_wouldLeave_0 rfl (lv_at hl 0 rfl) ?_
  refine lv_iload_n hx hb dX2_wouldLeave_1 rfl (lv_at hl 1 rfl) ?_
  refine lv_iload_n hx hb dX2_wouldLeave_2 rfl (lv_at hl 2 rfl) ?_
  refine wCVi (pre := ([] : va_W)) (Wc := MC cI b g nw kp) (suf := ([] : va_W)) (As := [.int (nI x), .int (nI y)]) (rest := []) ⟨hx, hb, hml, hown, hts⟩ (mX2_canSend l D cI b g nw kp gg x y _ hg hg2 hg0 ux uy) hN hA hK hS hP hD rfl 0 (r := (RX2, TX2, 7)) rfl rfl (cwV 2 hts gX2_wouldLeave_X2_canSend rfl rfl rfl (by decide +kernel) ⟨Nat.le_of_ble_eq_true rfl, Nat.le_of_ble_eq_true rfl⟩) rfl hl.1 rfl (Nat.le_of_ble_eq_true rfl) dX2_wouldLeave_3 ⟨Nat.zero_le _, Nat.zero_le _⟩ (fun r_3 u_3 H locs hw hP hD hS => ?_)
  have hw : r_3 = if mCode nw x y = 0 then 1 else 0 := hw
  subst hw
  have hP : va_P D vwCl (MC cI b (upd g 0 (mCode nw x y)) nw kp) H := hP
  have hD : va_D A (MC cI b (upd g 0 (mCode nw x y)) nw kp) := hD
  refine lv_if_ne (tgt := 11) hx hb dX2_wouldLeave_6 (by decide) (fun h9 => absurd (if_neg hcode) h9) (fun c_6 => ?_)
  refine lv_iconst (v := 0) hx hb dX2_wouldLeave_9 (by decide) ?_
  exact wRi hQ hx hb hr hlocks hP hD hS dX2_wouldLeave_10 () (rfl) rfl
abbrev rmX2_wouldLeave : Room := { frames := 5, cells := 0, slots := 0, locals := 110 }
set_option maxRecDepth 100000 in
set_option maxHeartbeats 4000000 in
/-- wouldLeave -/
theorem mX2_wouldLeave (l : Launch) (D : va_G) (cI : ClassId) (b : Nat → Nat) (g nw kp : Nat → Int32) (gg li x y t : Nat) (sz : Nat) (hg : g 1 = nI gg) (hg2 : gg ≤ 10) (hg0 : 0 < gg) (hl0 : g 2 = nI li) (hl1 : 0 < li) (hl2 : li ≤ 30) (ux : x < gg) (uy : y < gg) (hcode : mCode nw x y = 0) (h1 : ∀ i, i < t → 0 < (mSecs (nI (10 * x + y)) (g 2) (mSend (g 1) nw x y, g 6) i).1 (148 + (10 * x + y)) ∧ mOk (mSecs (nI (10 * x + y)) (g 2) (mSend (g 1) nw x y, g 6) i).1) (h2 : ¬ 0 < (mSecs (nI (10 * x + y)) (g 2) (mSend (g 1) nw x y, g 6) t).1 (148 + (10 * x + y))) : wCt l yX2_wouldLeave wsX2_wouldLeave rmX2_wouldLeave D [(cI, .int)] [.ref (b 0), .int (nI x), .int (nI y)] (MC cI b g nw kp) sz 0 0 (wQi D (fun v (_ : Unit) => v = (mSecs (nI (10 * x + y)) (g 2) (mSend (g 1) nw x y, g 6) t).2) (fun _ : Unit => MC cI b (upd (upd (upd g 0 (mCode nw x y)) 5 (nI (10 * x + y))) 6 (mSecs (nI (10 * x + y)) (g 2) (mSend (g 1) nw x y, g 6) t).2) nw nw)) := by
  refine wMet cX2_wouldLeave 3 (some .int) (by decide) rfl (Nat.le_of_ble_eq_true rfl) ?_
  intro p e s m args below meth c A Q ls hQ hx hb hr hml hown hlocks hin hts hN hP hK hD hA hS hl
  have hl : lv_has ls 3 [(0, .ref (b 0)), (1, .int (nI x)), (2, .int (nI y))] := hl
  have hown : s.vm.findClass RX2 = some m.cls := hown
  refine lv_aload_n hx hb dX2_wouldLeave_0 rfl (lv_at hl 0 rfl) ?_
  refine lv_iload_n hx hb dX2_wouldLeave_1 rfl (lv_at hl 1 rfl) ?_
  refine lv_iload_n hx hb dX2_wouldLeave_2 rfl (lv_at hl 2 rfl) ?_
  refine wCVi (pre := ([] : va_W)) (Wc := MC cI b g nw kp) (suf := ([] : va_W)) (As := [.int (nI x), .int (nI y)]) (rest := []) ⟨hx, hb, hml, hown, hts⟩ (mX2_canSend l D cI b g nw kp gg x y _ hg hg2 hg0 ux uy) hN hA hK hS hP hD rfl 0 (r := (RX2, TX2, 7)) rfl rfl (cwV 2 hts gX2_wouldLeave_X2_canSend rfl rfl rfl (by decide +kernel) ⟨Nat.le_of_ble_eq_true rfl, Nat.le_of_ble_eq_true rfl⟩) rfl hl.1 rfl (Nat.le_of_ble_eq_true rfl) dX2_wouldLeave_3 ⟨Nat.zero_le _, Nat.zero_le _⟩ (fun r_3 u_3 H locs hw hP hD hS => ?_)
  have hw : r_3 = if mCode nw x y = 0 then 1 else 0 := hw
  subst hw
  have hP : va_P D vwCl (MC cI b (upd g 0 (mCode nw x y)) nw kp) H := hP
  have hD : va_D A (MC cI b (upd g 0 (mCode nw x y)) nw kp) := hD
  refine lv_if_ne (tgt := 11) hx hb dX2_wouldLeave_6 (by decide) (fun c_6 => ?_) (fun h9 => absurd h9 (by rw [if_pos hcode]; decide))
  refine lv_aload_n hx hb dX2_wouldLeave_11 rfl (lv_at hl 0 rfl) ?_
  refine wCVv (pre := ([] : va_W)) (Wc := MC cI b (upd g 0 (mCode nw x y)) nw kp) (suf := ([] : va_W)) (As := []) (rest := []) ⟨hx, hb, hml, hown, hts⟩ (mX2_keep l D cI b (upd g 0 (mCode nw x y)) nw kp _) hN hA hK hS hP hD rfl 0 (r := (RX2, TX2, 7)) rfl rfl (cwV 0 hts gX2_wouldLeave_X2_keep rfl rfl rfl (by decide +kernel) ⟨Nat.le_of_ble_eq_true rfl, Nat.le_of_ble_eq_true rfl⟩) rfl hl.1 rfl (Nat.le_of_ble_eq_true rfl) dX2_wouldLeave_12 ⟨Nat.zero_le _, Nat.zero_le _⟩ (fun u_12 H locs hw hP hD hS => ?_)
  have hP : va_P D vwCl (MC cI b (upd g 0 (mCode nw x y)) nw nw) H := hP
  have hD : va_D A (MC cI b (upd g 0 (mCode nw x y)) nw nw) := hD
  refine lv_aload_n hx hb dX2_wouldLeave_15 rfl (lv_at hl 0 rfl) ?_
  refine lv_iload_n hx hb dX2_wouldLeave_16 rfl (lv_at hl 1 rfl) ?_
  refine lv_iload_n hx hb dX2_wouldLeave_17 rfl (lv_at hl 2 rfl) ?_
  refine wCVi (pre := ([] : va_W)) (Wc := MC cI b (upd g 0 (mCode nw x y)) nw nw) (suf := ([] : va_W)) (As := [.int (nI x), .int (nI y)]) (rest := []) ⟨hx, hb, hml, hown, hts⟩ (mX2_becomes l D cI b (upd g 0 (mCode nw x y)) nw nw li x y t _ hl0 hl1 hl2 (by omega) (by omega) h1 h2) hN hA hK hS hP hD rfl 0 (r := (RX2, TX2, 7)) rfl rfl (cwV 2 hts gX2_wouldLeave_X2_becomes rfl rfl rfl (by decide +kernel) ⟨Nat.le_of_ble_eq_true rfl, Nat.le_of_ble_eq_true rfl⟩) rfl hl.1 rfl (Nat.le_of_ble_eq_true rfl) dX2_wouldLeave_18 ⟨Nat.zero_le _, Nat.zero_le _⟩ (fun r_18 u_18 H locs hw hP hD hS => ?_)
  have hw : r_18 = (mSecs (nI (10 * x + y)) (g 2) (mSend (g 1) nw x y, g 6) t).2 := hw
  subst hw
  have hP : va_P D vwCl (MC cI b (upd (upd (upd g 0 (mCode nw x y)) 5 (nI (10 * x + y))) 6 (mSecs (nI (10 * x + y)) (g 2) (mSend (g 1) nw x y, g 6) t).2) nw nw) H := hP
  have hD : va_D A (MC cI b (upd (upd (upd g 0 (mCode nw x y)) 5 (nI (10 * x + y))) 6 (mSecs (nI (10 * x + y)) (g 2) (mSend (g 1) nw x y, g 6) t).2) nw nw) := hD
  exact wRi hQ hx hb hr hlocks hP hD hS dX2_wouldLeave_21 () (rfl) rfl
abbrev rmX2_bestMoment1 : Room := { frames := 3, cells := 0, slots := 0, locals := 65 }
set_option maxRecDepth 100000 in
set_option maxHeartbeats 4000000 in
theorem mX2_bestMoment1 (l : Launch) (D : va_G) (cI : ClassId) (b : Nat → Nat) (g nw kp : Nat → Int32) (gg : Nat) (x y : Int32) (sz : Nat) (hg : g 1 = nI gg) (hg2 : gg ≤ 10) (hg0 : 0 < gg) (hbad : ¬ (0 ≤ x ∧ x < nI gg) ∨ ¬ (0 ≤ y ∧ y < nI gg)) : wCt l yX2_bestMoment wsX2_bestMoment rmX2_bestMoment1 D [(cI, .int)] [.ref (b 0), .int x, .int y] (MC cI b g nw kp) sz 0 0 (wQi D (fun v (_ : Unit) => v = 0) (fun _ : Unit => MC cI b (upd g 0 1) nw kp)) := by
  refine wMet cX2_bestMoment 4 (some .int) (by decide) rfl (Nat.le_of_ble_eq_true rfl) ?_
  intro p e s m args below meth c A Q ls hQ hx hb hr hml hown hlocks hin hts hN hP hK hD hA hS hl
  have hl : lv_has ls 4 [(0, .ref (b 0)), (1, .int x), (2, .int y)] := hl
  have hown : s.vm.findClass RX2 = some m.cls := hown
  refine lv_aload_n hx hb dX2_bestMoment_0 rfl (lv_at hl 0 rfl) ?_
  refine lv_iload_n hx hb dX2_bestMoment_1 rfl (lv_at hl 1 rfl) ?_
  refine lv_iload_n hx hb dX2_bestMoment_2 rfl (lv_at hl 2 rfl) ?_
  refine wCVi (pre := ([] : va_W)) (Wc := MC cI b g nw kp) (suf := ([] : va_W)) (As := [.int x, .int y]) (rest := []) ⟨hx, hb, hml, hown, hts⟩ (mX2_canSend1 l D cI b g nw kp gg x y _ hg hg2 hg0 hbad) hN hA hK hS hP hD rfl 0 (r := (RX2, TX2, 7)) rfl rfl (cwV 2 hts gX2_bestMoment_X2_canSend rfl rfl rfl (by decide +kernel) ⟨Nat.le_of_ble_eq_true rfl, Nat.le_of_ble_eq_true rfl⟩) rfl hl.1 rfl (Nat.le_of_ble_eq_true rfl) dX2_bestMoment_3 ⟨Nat.zero_le _, Nat.zero_le _⟩ (fun r_3 u_3 H locs hw hP hD hS => ?_)
  have hw : r_3 = 0 := hw
  subst hw
  have hP : va_P D vwCl (MC cI b (upd g 0 1) nw kp) H := hP
  have hD : va_D A (MC cI b (upd g 0 1) nw kp) := hD
  refine lv_if_ne (tgt := 11) hx hb dX2_bestMoment_6 (by decide) (fun h9 => absurd (rfl) h9) (fun c_6 => ?_)
  refine lv_iconst (v := 0) hx hb dX2_bestMoment_9 (by decide) ?_
  exact wRi hQ hx hb hr hlocks hP hD hS dX2_bestMoment_10 () (rfl) rfl
abbrev rmX2_bestMoment2 : Room := { frames := 3, cells := 0, slots := 0, locals := 65 }
set_option maxRecDepth 100000 in
set_option maxHeartbeats 4000000 in
theorem mX2_bestMoment2 (l : Launch) (D : va_G) (cI : ClassId) (b : Nat → Nat) (g nw kp : Nat → Int32) (gg x y : Nat) (sz : Nat) (hg : g 1 = nI gg) (hg2 : gg ≤ 10) (hg0 : 0 < gg) (ux : x < gg) (uy : y < gg) (hcode : ¬ mCode nw x y = 0) : wCt l yX2_bestMoment wsX2_bestMoment rmX2_bestMoment2 D [(cI, .int)] [.ref (b 0), .int (nI x), .int (nI y)] (MC cI b g nw kp) sz 0 0 (wQi D (fun v (_ : Unit) => v = 0) (fun _ : Unit => MC cI b (upd g 0 (mCode nw x y)) nw kp)) := by
  refine wMet cX2_bestMoment 4 (some .int) (by decide) rfl (Nat.le_of_ble_eq_true rfl) ?_
  intro p e s m args below meth c A Q ls hQ hx hb hr hml hown hlocks hin hts hN hP hK hD hA hS hl
  have hl : lv_has ls 4 [(0, .ref (b 0)), (1, .int (nI x)), (2, .int (nI y))] := hl
  have hown : s.vm.findClass RX2 = some m.cls := hown
  refine lv_aload_n hx hb dX2_bestMoment_0 rfl (lv_at hl 0 rfl) ?_
  refine lv_iload_n hx hb dX2_bestMoment_1 rfl (lv_at hl 1 rfl) ?_
  refine lv_iload_n hx hb dX2_bestMoment_2 rfl (lv_at hl 2 rfl) ?_
  refine wCVi (pre := ([] : va_W)) (Wc := MC cI b g nw kp) (suf := ([] : va_W)) (As := [.int (nI x), .int (nI y)]) (rest := []) ⟨hx, hb, hml, hown, hts⟩ (mX2_canSend l D cI b g nw kp gg x y _ hg hg2 hg0 ux uy) hN hA hK hS hP hD rfl 0 (r := (RX2, TX2, 7)) rfl rfl (cwV 2 hts gX2_bestMoment_X2_canSend rfl rfl rfl (by decide +kernel) ⟨Nat.le_of_ble_eq_true rfl, Nat.le_of_ble_eq_true rfl⟩) rfl hl.1 rfl (Nat.le_of_ble_eq_true rfl) dX2_bestMoment_3 ⟨Nat.zero_le _, Nat.zero_le _⟩ (fun r_3 u_3 H locs hw hP hD hS => ?_)
  have hw : r_3 = if mCode nw x y = 0 then 1 else 0 := hw
  subst hw
  have hP : va_P D vwCl (MC cI b (upd g 0 (mCode nw x y)) nw kp) H := hP
  have hD : va_D A (MC cI b (upd g 0 (mCode nw x y)) nw kp) := hD
  refine lv_if_ne (tgt := 11) hx hb dX2_bestMoment_6 (by decide) (fun h9 => absurd (if_neg hcode) h9) (fun c_6 => ?_)
  refine lv_iconst (v := 0) hx hb dX2_bestMoment_9 (by decide) ?_
  exact wRi hQ hx hb hr hlocks hP hD hS dX2_bestMoment_10 () (rfl) rfl
abbrev rmX2_bestMoment : Room := { frames := 5, cells := 0, slots := 0, locals := 110 }
set_option maxRecDepth 100000 in
set_option maxHeartbeats 4000000 in
/-- bestMoment -/
theorem mX2_bestMoment (l : Launch) (D : va_G) (cI : ClassId) (b : Nat → Nat) (g nw kp : Nat → Int32) (gg li x y : Nat) (tt : Nat → Nat) (B : Nat → Int32) (sz : Nat) (hg : g 1 = nI gg) (hg2 : gg ≤ 10) (hg0 : 0 < gg) (hl0 : g 2 = nI li) (hl1 : 0 < li) (hl2 : li ≤ 30) (ux : x < gg) (uy : y < gg) (hcode : mCode nw x y = 0) (hZ : ∀ (k : Nat) (mk en : Int32) (i : Nat), k ≤ 60 → i < k → mOk (mSecs mk (g 2) (nw, en) i).1) (hB : ∀ (k : Nat) (mk en : Int32), k ≤ 60 → (∀ i, i < tt k → 0 < (mSecs (nI (10 * x + y)) (g 2) (mSend (g 1) (mSecs mk (g 2) (nw, en) k).1 x y, (mSecs mk (g 2) (nw, en) k).2) i).1 (148 + (10 * x + y)) ∧ mOk (mSecs (nI (10 * x + y)) (g 2) (mSend (g 1) (mSecs mk (g 2) (nw, en) k).1 x y, (mSecs mk (g 2) (nw, en) k).2) i).1) ∧ ¬ 0 < (mSecs (nI (10 * x + y)) (g 2) (mSend (g 1) (mSecs mk (g 2) (nw, en) k).1 x y, (mSecs mk (g 2) (nw, en) k).2) (tt k)).1 (148 + (10 * x + y)) ∧ (mSecs (nI (10 * x + y)) (g 2) (mSend (g 1) (mSecs mk (g 2) (nw, en) k).1 x y, (mSecs mk (g 2) (nw, en) k).2) (tt k)).2 = B k) : wCt l yX2_bestMoment wsX2_bestMoment rmX2_bestMoment D [(cI, .int)] [.ref (b 0), .int (nI x), .int (nI y)] (MC cI b g nw kp) sz 0 0 (wQi D (fun v (_ : Int32 × Int32) => v = mBest B 61 0) (fun u : Int32 × Int32 => MC cI b (upd (upd (upd g 0 (mCode nw x y)) 5 u.1) 6 u.2) nw nw)) := by
  refine wMet cX2_bestMoment 4 (some .int) (by decide) rfl (Nat.le_of_ble_eq_true rfl) ?_
  intro p e s m args below meth c A Q ls hQ hx hb hr hml hown hlocks hin hts hN hP hK hD hA hS hl
  have hl : lv_has ls 4 [(0, .ref (b 0)), (1, .int (nI x)), (2, .int (nI y))] := hl
  have hown : s.vm.findClass RX2 = some m.cls := hown
  refine lv_aload_n hx hb dX2_bestMoment_0 rfl (lv_at hl 0 rfl) ?_
  refine lv_iload_n hx hb dX2_bestMoment_1 rfl (lv_at hl 1 rfl) ?_
  refine lv_iload_n hx hb dX2_bestMoment_2 rfl (lv_at hl 2 rfl) ?_
  refine wCVi (pre := ([] : va_W)) (Wc := MC cI b g nw kp) (suf := ([] : va_W)) (As := [.int (nI x), .int (nI y)]) (rest := []) ⟨hx, hb, hml, hown, hts⟩ (mX2_canSend l D cI b g nw kp gg x y _ hg hg2 hg0 ux uy) hN hA hK hS hP hD rfl 0 (r := (RX2, TX2, 7)) rfl rfl (cwV 2 hts gX2_bestMoment_X2_canSend rfl rfl rfl (by decide +kernel) ⟨Nat.le_of_ble_eq_true rfl, Nat.le_of_ble_eq_true rfl⟩) rfl hl.1 rfl (Nat.le_of_ble_eq_true rfl) dX2_bestMoment_3 ⟨Nat.zero_le _, Nat.zero_le _⟩ (fun r_3 u_3 H locs hw hP hD hS => ?_)
  have hw : r_3 = if mCode nw x y = 0 then 1 else 0 := hw
  subst hw
  have hP : va_P D vwCl (MC cI b (upd g 0 (mCode nw x y)) nw kp) H := hP
  have hD : va_D A (MC cI b (upd g 0 (mCode nw x y)) nw kp) := hD
  refine lv_if_ne (tgt := 11) hx hb dX2_bestMoment_6 (by decide) (fun c_6 => ?_) (fun h9 => absurd h9 (by rw [if_pos hcode]; decide))
  refine lv_aload_n hx hb dX2_bestMoment_11 rfl (lv_at hl 0 rfl) ?_
  refine wCVv (pre := ([] : va_W)) (Wc := MC cI b (upd g 0 (mCode nw x y)) nw kp) (suf := ([] : va_W)) (As := []) (rest := []) ⟨hx, hb, hml, hown, hts⟩ (mX2_keep l D cI b (upd g 0 (mCode nw x y)) nw kp _) hN hA hK hS hP hD rfl 0 (r := (RX2, TX2, 7)) rfl rfl (cwV 0 hts gX2_bestMoment_X2_keep rfl rfl rfl (by decide +kernel) ⟨Nat.le_of_ble_eq_true rfl, Nat.le_of_ble_eq_true rfl⟩) rfl hl.1 rfl (Nat.le_of_ble_eq_true rfl) dX2_bestMoment_12 ⟨Nat.zero_le _, Nat.zero_le _⟩ (fun u_12 H locs hw hP hD hS => ?_)
  have hP : va_P D vwCl (MC cI b (upd g 0 (mCode nw x y)) nw nw) H := hP
  have hD : va_D A (MC cI b (upd g 0 (mCode nw x y)) nw nw) := hD
  refine lv_iconst (v := 0) hx hb dX2_bestMoment_15 (by decide) ?_
  refine lv_istore_n (lv' := [(3, .int 0), (0, .ref (b 0)), (1, .int (nI x)), (2, .int (nI y))]) hx hb dX2_bestMoment_16 rfl hl (by decide) rfl (fun ls hl => ?_)
  have loop17 : ∀ (j i17 : Nat) (mk : Int32) (en : Int32), i17 + j = 61 → mBest B j i17 = mBest B 61 0 → ∀ (H : Heap) (locs : List Loc) (ls : Array Slot), va_P D vwCl (MC cI b (upd (upd (upd g 0 (mCode nw x y)) 5 mk) 6 en) nw nw) H → va_D A (MC cI b (upd (upd (upd g 0 (mCode nw x y)) 5 mk) 6 en) nw nw) → va_S A s.heap H locs → lv_has ls 4 [(3, .int (nI i17)), (0, .ref (b 0)), (1, .int (nI x)), (2, .int (nI y))] → W p l e rmX2_bestMoment s m args below meth c H locs 0 0 Q (F0 m 17 ls []) := by
    intro j
    induction j with
    | zero =>
      intro i17 mk en hi17 hf17 H locs ls hP hD hS hl
      have ez : 61 = i17 := by omega
      subst ez
      refine lv_iload_n hx hb dX2_bestMoment_17 rfl (lv_at hl 0 rfl) ?_
      refine lv_bipush (v := 60) hx hb dX2_bestMoment_18 (by decide) ?_
      refine lv_icmp_gt (tgt := 45) hx hb dX2_bestMoment_20 (by decide) (fun c_20 => ?_) (fun h9 => absurd (nI_lt (a := 60) (b := 61) (by omega) (by omega)) h9)
      have c_20n := (nI_ltI (a := 60) (b := 61) (by omega) (by omega)).mp c_20
      refine lv_iconst (v := (-1)) hx hb dX2_bestMoment_45 (by decide) ?_
      exact wRi hQ hx hb hr hlocks hP hD hS dX2_bestMoment_46 (mk, en) (by rw [← hf17]; rfl) rfl
    | succ j ih17 =>
      intro i17 mk en hi17 hf17 H locs ls hP hD hS hl
      refine lv_iload_n hx hb dX2_bestMoment_17 rfl (lv_at hl 0 rfl) ?_
      refine lv_bipush (v := 60) hx hb dX2_bestMoment_18 (by decide) ?_
      refine lv_icmp_gt (tgt := 45) hx hb dX2_bestMoment_20 (by decide) (fun h9 => absurd h9 (nI_nlt (b := i17) (a := 60) (by omega) (by omega))) (fun c_20 => ?_)
      have c_20n := mt (nI_ltI (a := 60) (b := i17) (by omega) (by omega)).mpr c_20
      refine lv_aload_n hx hb dX2_bestMoment_23 rfl (lv_at hl 1 rfl) ?_
      refine lv_iload_n hx hb dX2_bestMoment_24 rfl (lv_at hl 0 rfl) ?_
      refine wCVv (pre := ([] : va_W)) (Wc := MC cI b (upd (upd (upd g 0 (mCode nw x y)) 5 mk) 6 en) nw nw) (suf := ([] : va_W)) (As := [.int (nI i17)]) (rest := []) ⟨hx, hb, hml, hown, hts⟩ (mX2_secondsOn l D cI b (upd (upd (upd g 0 (mCode nw x y)) 5 mk) 6 en) nw nw li i17 _ hl0 hl1 hl2 (by omega) (fun i hi => hZ i17 mk en i (by omega) hi)) hN hA hK hS hP hD rfl 0 (r := (RX2, TX2, 7)) rfl rfl (cwV 1 hts gX2_bestMoment_X2_secondsOn rfl rfl rfl (by decide +kernel) ⟨Nat.le_of_ble_eq_true rfl, Nat.le_of_ble_eq_true rfl⟩) rfl hl.1 rfl (Nat.le_of_ble_eq_true rfl) dX2_bestMoment_25 ⟨Nat.zero_le _, Nat.zero_le _⟩ (fun u_25 H locs hw hP hD hS => ?_)
      subst hw
      have hP : va_P D vwCl (MC cI b (upd (upd (upd g 0 (mCode nw x y)) 5 mk) 6 (mSecs mk (g 2) (nw, en) i17).2) (mSecs mk (g 2) (nw, en) i17).1 nw) H := hP
      have hD : va_D A (MC cI b (upd (upd (upd g 0 (mCode nw x y)) 5 mk) 6 (mSecs mk (g 2) (nw, en) i17).2) (mSecs mk (g 2) (nw, en) i17).1 nw) := hD
      refine lv_aload_n hx hb dX2_bestMoment_28 rfl (lv_at hl 1 rfl) ?_
      refine lv_iload_n hx hb dX2_bestMoment_29 rfl (lv_at hl 2 rfl) ?_
      refine lv_iload_n hx hb dX2_bestMoment_30 rfl (lv_at hl 3 rfl) ?_
      refine wCVi (pre := ([] : va_W)) (Wc := MC cI b (upd (upd (upd g 0 (mCode nw x y)) 5 mk) 6 (mSecs mk (g 2) (nw, en) i17).2) (mSecs mk (g 2) (nw, en) i17).1 nw) (suf := ([] : va_W)) (As := [.int (nI x), .int (nI y)]) (rest := []) ⟨hx, hb, hml, hown, hts⟩ (mX2_becomes l D cI b (upd (upd (upd g 0 (mCode nw x y)) 5 mk) 6 (mSecs mk (g 2) (nw, en) i17).2) (mSecs mk (g 2) (nw, en) i17).1 nw li x y (tt i17) _ hl0 hl1 hl2 (by omega) (by omega) (hB i17 mk en (by omega)).1 (hB i17 mk en (by omega)).2.1) hN hA hK hS hP hD rfl 0 (r := (RX2, TX2, 7)) rfl rfl (cwV 2 hts gX2_bestMoment_X2_becomes rfl rfl rfl (by decide +kernel) ⟨Nat.le_of_ble_eq_true rfl, Nat.le_of_ble_eq_true rfl⟩) rfl hl.1 rfl (Nat.le_of_ble_eq_true rfl) dX2_bestMoment_31 ⟨Nat.zero_le _, Nat.zero_le _⟩ (fun r_31 u_31 H locs hw hP hD hS => ?_)
      have hw : r_31 = (mSecs (nI (10 * x + y)) (g 2) (mSend (g 1) (mSecs mk (g 2) (nw, en) i17).1 x y, (mSecs mk (g 2) (nw, en) i17).2) (tt i17)).2 := hw
      subst hw
      have hP : va_P D vwCl (MC cI b (upd (upd (upd g 0 (mCode nw x y)) 5 (nI (10 * x + y))) 6 (mSecs (nI (10 * x + y)) (g 2) (mSend (g 1) (mSecs mk (g 2) (nw, en) i17).1 x y, (mSecs mk (g 2) (nw, en) i17).2) (tt i17)).2) nw nw) H := hP
      have hD : va_D A (MC cI b (upd (upd (upd g 0 (mCode nw x y)) 5 (nI (10 * x + y))) 6 (mSecs (nI (10 * x + y)) (g 2) (mSend (g 1) (mSecs mk (g 2) (nw, en) i17).1 x y, (mSecs mk (g 2) (nw, en) i17).2) (tt i17)).2) nw nw) := hD
      refine wTop (z := B i17) ((hB i17 mk en (by omega)).2.2) ?_
      refine lv_if_le (tgt := 39) hx hb dX2_bestMoment_34 (by decide) (fun c_34 => ?_) (fun c_34 => ?_)
      · refine lv_iinc (v := nI (i17 + 1)) (lv' := [(3, .int (nI (i17 + 1))), (0, .ref (b 0)), (1, .int (nI x)), (2, .int (nI y))]) hx hb dX2_bestMoment_39 hl (k := 0) rfl (nI_1 i17) (by decide) rfl (fun ls hl => ?_)
        refine lv_goto (tgt := 17) hx hb dX2_bestMoment_42 (by decide) ?_
        exact ih17 (i17 + 1) (nI (10 * x + y)) (mSecs (nI (10 * x + y)) (g 2) (mSend (g 1) (mSecs mk (g 2) (nw, en) i17).1 x y, (mSecs mk (g 2) (nw, en) i17).2) (tt i17)).2 (by omega) (by rw [← hf17, mBest, if_neg (Int32.not_lt.mpr c_34)]) _ _ _ hP hD hS (lv_sub hl [0, 1, 2, 3] rfl)
      · refine lv_iload_n hx hb dX2_bestMoment_37 rfl (lv_at hl 0 rfl) ?_
        exact wRi hQ hx hb hr hlocks hP hD hS dX2_bestMoment_38 (nI (10 * x + y), (mSecs (nI (10 * x + y)) (g 2) (mSend (g 1) (mSecs mk (g 2) (nw, en) i17).1 x y, (mSecs mk (g 2) (nw, en) i17).2) (tt i17)).2) (by rw [← hf17, mBest, if_pos (Int32.not_le.mp c_34)]) rfl
  exact loop17 61 0 (g 5) (g 6) (by omega) rfl _ _ _ hP hD hS (lv_sub hl [0, 1, 2, 3] rfl)
abbrev rmX2_meanUnsaid : Room := { frames := 1, cells := 0, slots := 0, locals := 22 }
set_option maxRecDepth 100000 in
set_option maxHeartbeats 4000000 in
theorem mX2_meanUnsaid (l : Launch) (D : va_G) (cI : ClassId) (b : Nat → Nat) (g nw kp : Nat → Int32) (gg : Nat) (sz : Nat) (hg : g 1 = nI gg) (hg2 : gg ≤ 10) (hg0 : 0 < gg) (hnn : vf_n64 (FP.ddiv (FP.i2d (mSum nw gg - nw 4)) (FP.i2d (g 1)))) : wCt l yX2_meanUnsaid wsX2_meanUnsaid rmX2_meanUnsaid D [(cI, .int)] [.ref (b 0)] (MC cI b g nw kp) sz 0 0 (wQd D (fun v (_ : Unit) => v = FP.ddiv (FP.i2d (mSum nw gg - nw 4)) (FP.i2d (g 1))) (fun _ : Unit => MC cI b (upd g 0 0) nw kp)) := by
  refine wMet cX2_meanUnsaid 1 (some .double) (by decide) rfl (Nat.le_of_ble_eq_true rfl) ?_
  intro p e s m args below meth c A Q ls hQ hx hb hr hml hown hlocks hin hts hN hP hK hD hA hS hl
  have hl : lv_has ls 1 [(0, .ref (b 0))] := hl
  have hown : s.vm.findClass RX2 = some m.cls := hown
  have hw2 : ∀ w ∈ wsX20, w.before args s = true := fun w h => hts w (List.mem_cons_of_mem _ (List.mem_append_right _ h))
  have k7 := hts (.fieldLink RX2 7 "PauseLedgerModel" "guests" "I") (by decide +kernel)
  have k16 := hts (.fieldLink RX2 16 "PauseLedgerModel" "now" "[I") (by decide +kernel)
  have k26 := hts (.fieldLink RX2 26 "PauseLedgerModel" "thrown" "I") (by decide +kernel)
  refine lv_aload_n hx hb dX2_meanUnsaid_0 rfl (lv_at hl 0 rfl) ?_
  refine lv_iconst (v := 0) hx hb dX2_meanUnsaid_1 (by decide) ?_
  refine va_put (D := D) (ci := 2) (v := .int 0) (ty := .int) (C := RX2) (T := TX2) (N := 7) hx hb hw2 (fun _ h => h) tyX2 tyX2_ok nmX2 hown hK hP hD hS 0 rfl rfl 0 (by decide) k26 (fun _ h9 => h9) rfl (by decide +kernel) rfl rfl (Nat.le_of_ble_eq_true rfl) dX2_meanUnsaid_2 (fun H locs hP hD hS => ?_)
  have hP : va_P D vwCl (MC cI b (upd g 0 0) nw kp) H := hP
  have hD : va_D A (MC cI b (upd g 0 0) nw kp) := hD
  refine lv_aload_n hx hb dX2_meanUnsaid_5 rfl (lv_at hl 0 rfl) ?_
  refine wCVi (pre := ([] : va_W)) (Wc := MC cI b (upd g 0 0) nw kp) (suf := ([] : va_W)) (As := []) (rest := []) ⟨hx, hb, hml, hown, hts⟩ (mX2_unsaid l D cI b (upd g 0 0) nw kp gg _ hg hg2) hN hA hK hS hP hD rfl 0 (r := (RX2, TX2, 7)) rfl rfl (cwV 0 hts gX2_meanUnsaid_X2_unsaid rfl rfl rfl (by decide +kernel) ⟨Nat.le_of_ble_eq_true rfl, Nat.le_of_ble_eq_true rfl⟩) rfl hl.1 rfl (Nat.le_of_ble_eq_true rfl) dX2_meanUnsaid_6 ⟨Nat.zero_le _, Nat.zero_le _⟩ (fun r_6 u_6 H locs hw hP hD hS => ?_)
  have hw : r_6 = mSum nw gg := hw
  subst hw
  have hP : va_P D vwCl (MC cI b (upd g 0 0) nw kp) H := hP
  have hD : va_D A (MC cI b (upd g 0 0) nw kp) := hD
  refine lv_aload_n hx hb dX2_meanUnsaid_9 rfl (lv_at hl 0 rfl) ?_
  refine va_get (D := D) (ci := 2) (v := .ref (b 1)) (C := RX2) (T := TX2) (N := 7) hx hb hw2 (fun _ h => h) hown hK hP 0 rfl rfl 3 (by decide) k16 (fun _ h9 => h9) rfl dX2_meanUnsaid_10 ?_
  refine lv_iconst (v := 4) hx hb dX2_meanUnsaid_13 (by decide) ?_
  refine wIald hx hb hK hP 1 0 rfl rfl 4 rfl (by decide) (by decide) dX2_meanUnsaid_14 ?_
  refine lv_isub hx hb dX2_meanUnsaid_15 ?_
  refine lv_i2d hx hb dX2_meanUnsaid_16 ?_
  refine lv_aload_n hx hb dX2_meanUnsaid_17 rfl (lv_at hl 0 rfl) ?_
  refine va_get (D := D) (ci := 2) (v := .int (g 1)) (C := RX2) (T := TX2) (N := 7) hx hb hw2 (fun _ h => h) hown hK hP 0 rfl rfl 1 (by decide) k7 (fun _ h9 => h9) rfl dX2_meanUnsaid_18 ?_
  refine lv_i2d hx hb dX2_meanUnsaid_21 ?_
  refine lv_ddiv hx hb dX2_meanUnsaid_22 (hnn) ?_
  exact wRd hQ hx hb hr hlocks hP hD hS dX2_meanUnsaid_23 () (rfl) rfl
abbrev rmX2_digest : Room := { frames := 2, cells := 1, slots := 11, locals := 60 }
set_option maxRecDepth 100000 in
set_option maxHeartbeats 4000000 in
/-- digest -/
theorem mX2_digest (l : Launch) (D : va_G) (cI : ClassId) (b : Nat → Nat) (g nw kp : Nat → Int32) (gg : Nat) (sz : Nat) (hg : g 1 = nI gg) (hg2 : gg ≤ 10) (hg0 : 0 < gg) : wCt l yX2_digest wsX2_digest rmX2_digest D [(cI, .int)] [.ref (b 0)] (MC cI b g nw kp) sz 1 11 (wQl D (fun v (_ : Unit) => v = mGs nw gg (lAcc (mHead (g 1) (g 2) nw gg) 11) gg) (fun _ : Unit => MC cI b (upd g 0 0) nw kp)) := by
  refine wMet cX2_digest 8 (some .long) (by decide) rfl (Nat.le_of_ble_eq_true rfl) ?_
  intro p e s m args below meth c A Q ls hQ hx hb hr hml hown hlocks hin hts hN hP hK hD hA hS hl
  have hl : lv_has ls 8 [(0, .ref (b 0))] := hl
  have hown : s.vm.findClass RX2 = some m.cls := hown
  have hw2 : ∀ w ∈ wsX20, w.before args s = true := fun w h => hts w (List.mem_cons_of_mem _ (List.mem_append_right _ h))
  have k7 := hts (.fieldLink RX2 7 "PauseLedgerModel" "guests" "I") (by decide +kernel)
  have k13 := hts (.fieldLink RX2 13 "PauseLedgerModel" "limit" "I") (by decide +kernel)
  have k16 := hts (.fieldLink RX2 16 "PauseLedgerModel" "now" "[I") (by decide +kernel)
  have k26 := hts (.fieldLink RX2 26 "PauseLedgerModel" "thrown" "I") (by decide +kernel)
  refine lv_aload_n hx hb dX2_digest_0 rfl (lv_at hl 0 rfl) ?_
  refine lv_iconst (v := 0) hx hb dX2_digest_1 (by decide) ?_
  refine va_put (D := D) (ci := 2) (v := .int 0) (ty := .int) (C := RX2) (T := TX2) (N := 7) hx hb hw2 (fun _ h => h) tyX2 tyX2_ok nmX2 hown hK hP hD hS 0 rfl rfl 0 (by decide) k26 (fun _ h9 => h9) rfl (by decide +kernel) rfl rfl (Nat.le_of_ble_eq_true rfl) dX2_digest_2 (fun H locs hP hD hS => ?_)
  have hP : va_P D vwCl (MC cI b (upd g 0 0) nw kp) H := hP
  have hD : va_D A (MC cI b (upd g 0 0) nw kp) := hD
  refine lv_bipush (v := 11) hx hb dX2_digest_5 (by decide) ?_
  refine va_newa (atype := .int) (ty := .int) (N' := 11) (a0 := (11, .inl (fun _ => 0))) hx hb (hts (.arrayClass .int) (by decide +kernel)) rfl hK hP hD hS hA (fun _ => rfl) (by decide) (by decide) (by decide) (Nat.le_of_ble_eq_true rfl) (Nat.le_of_ble_eq_true rfl) dX2_digest_7 (fun qn cA H hK2 hP hD hS => ?_)
  have ecA : cI = cA := wTys hK2 (i := 0) (j := 1) rfl rfl
  subst ecA
  have hP : va_P D vwCl (MC cI b (upd g 0 0) nw kp ++ [(qn, .inl (cI, 11, .inl (fun _ => 0)))]) H := hP
  have hD : va_D A (MC cI b (upd g 0 0) nw kp ++ [(qn, .inl (cI, 11, .inl (fun _ => 0)))]) := hD
  refine lv_dup hx hb dX2_digest_9 rfl ?_
  refine lv_iconst (v := 0) hx hb dX2_digest_10 (by decide) ?_
  refine lv_aload_n hx hb dX2_digest_11 rfl (lv_at hl 0 rfl) ?_
  refine va_get (D := D) (ci := 2) (v := .int (g 1)) (C := RX2) (T := TX2) (N := 7) hx hb hw2 (fun _ h => h) hown hK hP 0 rfl rfl 1 (by decide) k7 (fun _ h9 => h9) rfl dX2_digest_12 ?_
  refine wIast hx hb hK hP hD hS 3 0 rfl rfl 0 rfl (by decide) (by decide) dX2_digest_15 (fun H locs hP hD hS => ?_)
  have hP : va_P D vwCl (MC cI b (upd g 0 0) nw kp ++ [(qn, .inl (cI, 11, .inl (upd (fun _ => 0) 0 (g 1))))]) H := hP
  have hD : va_D A (MC cI b (upd g 0 0) nw kp ++ [(qn, .inl (cI, 11, .inl (upd (fun _ => 0) 0 (g 1))))]) := hD
  refine lv_dup hx hb dX2_digest_16 rfl ?_
  refine lv_iconst (v := 1) hx hb dX2_digest_17 (by decide) ?_
  refine lv_aload_n hx hb dX2_digest_18 rfl (lv_at hl 0 rfl) ?_
  refine va_get (D := D) (ci := 2) (v := .ref (b 1)) (C := RX2) (T := TX2) (N := 7) hx hb hw2 (fun _ h => h) hown hK hP 0 rfl rfl 3 (by decide) k16 (fun _ h9 => h9) rfl dX2_digest_19 ?_
  refine lv_iconst (v := 0) hx hb dX2_digest_22 (by decide) ?_
  refine wIald hx hb hK hP 1 0 rfl rfl 0 rfl (by decide) (by decide) dX2_digest_23 ?_
  refine wIast hx hb hK hP hD hS 3 0 rfl rfl 1 rfl (by decide) (by decide) dX2_digest_24 (fun H locs hP hD hS => ?_)
  have hP : va_P D vwCl (MC cI b (upd g 0 0) nw kp ++ [(qn, .inl (cI, 11, .inl (upd (upd (fun _ => 0) 0 (g 1)) 1 (nw 0))))]) H := hP
  have hD : va_D A (MC cI b (upd g 0 0) nw kp ++ [(qn, .inl (cI, 11, .inl (upd (upd (fun _ => 0) 0 (g 1)) 1 (nw 0))))]) := hD
  refine lv_dup hx hb dX2_digest_25 rfl ?_
  refine lv_iconst (v := 2) hx hb dX2_digest_26 (by decide) ?_
  refine lv_aload_n hx hb dX2_digest_27 rfl (lv_at hl 0 rfl) ?_
  refine va_get (D := D) (ci := 2) (v := .int (g 2)) (C := RX2) (T := TX2) (N := 7) hx hb hw2 (fun _ h => h) hown hK hP 0 rfl rfl 2 (by decide) k13 (fun _ h9 => h9) rfl dX2_digest_28 ?_
  refine wIast hx hb hK hP hD hS 3 0 rfl rfl 2 rfl (by decide) (by decide) dX2_digest_31 (fun H locs hP hD hS => ?_)
  have hP : va_P D vwCl (MC cI b (upd g 0 0) nw kp ++ [(qn, .inl (cI, 11, .inl (upd (upd (upd (fun _ => 0) 0 (g 1)) 1 (nw 0)) 2 (g 2))))]) H := hP
  have hD : va_D A (MC cI b (upd g 0 0) nw kp ++ [(qn, .inl (cI, 11, .inl (upd (upd (upd (fun _ => 0) 0 (g 1)) 1 (nw 0)) 2 (g 2))))]) := hD
  refine lv_dup hx hb dX2_digest_32 rfl ?_
  refine lv_iconst (v := 3) hx hb dX2_digest_33 (by decide) ?_
  refine lv_aload_n hx hb dX2_digest_34 rfl (lv_at hl 0 rfl) ?_
  refine va_get (D := D) (ci := 2) (v := .ref (b 1)) (C := RX2) (T := TX2) (N := 7) hx hb hw2 (fun _ h => h) hown hK hP 0 rfl rfl 3 (by decide) k16 (fun _ h9 => h9) rfl dX2_digest_35 ?_
  refine lv_iconst (v := 1) hx hb dX2_digest_38 (by decide) ?_
  refine wIald hx hb hK hP 1 0 rfl rfl 1 rfl (by decide) (by decide) dX2_digest_39 ?_
  refine wIast hx hb hK hP hD hS 3 0 rfl rfl 3 rfl (by decide) (by decide) dX2_digest_40 (fun H locs hP hD hS => ?_)
  have hP : va_P D vwCl (MC cI b (upd g 0 0) nw kp ++ [(qn, .inl (cI, 11, .inl (upd (upd (upd (upd (fun _ => 0) 0 (g 1)) 1 (nw 0)) 2 (g 2)) 3 (nw 1))))]) H := hP
  have hD : va_D A (MC cI b (upd g 0 0) nw kp ++ [(qn, .inl (cI, 11, .inl (upd (upd (upd (upd (fun _ => 0) 0 (g 1)) 1 (nw 0)) 2 (g 2)) 3 (nw 1))))]) := hD
  refine lv_dup hx hb dX2_digest_41 rfl ?_
  refine lv_iconst (v := 4) hx hb dX2_digest_42 (by decide) ?_
  refine lv_aload_n hx hb dX2_digest_43 rfl (lv_at hl 0 rfl) ?_
  refine wCVi (pre := ([] : va_W)) (Wc := MC cI b (upd g 0 0) nw kp) (suf := [(qn, .inl (cI, 11, .inl (upd (upd (upd (upd (fun _ => 0) 0 (g 1)) 1 (nw 0)) 2 (g 2)) 3 (nw 1))))]) (As := []) (rest := [.int 4, .ref qn, .ref qn]) ⟨hx, hb, hml, hown, hts⟩ (mX2_left l D cI b (upd g 0 0) nw kp _) hN hA hK hS hP hD rfl 0 (r := (RX2, TX2, 7)) rfl rfl (cwV 0 hts gX2_digest_X2_left rfl rfl rfl (by decide +kernel) ⟨Nat.le_of_ble_eq_true rfl, Nat.le_of_ble_eq_true rfl⟩) rfl hl.1 rfl (Nat.le_of_ble_eq_true rfl) dX2_digest_44 ⟨Nat.le_of_ble_eq_true rfl, Nat.le_of_ble_eq_true rfl⟩ (fun r_44 u_44 H locs hw hP hD hS => ?_)
  have hw : r_44 = mLeft nw := hw
  subst hw
  have hP : va_P D vwCl (MC cI b (upd g 0 0) nw kp ++ [(qn, .inl (cI, 11, .inl (upd (upd (upd (upd (fun _ => 0) 0 (g 1)) 1 (nw 0)) 2 (g 2)) 3 (nw 1))))]) H := hP
  have hD : va_D A (MC cI b (upd g 0 0) nw kp ++ [(qn, .inl (cI, 11, .inl (upd (upd (upd (upd (fun _ => 0) 0 (g 1)) 1 (nw 0)) 2 (g 2)) 3 (nw 1))))]) := hD
  refine wIast hx hb hK hP hD hS 3 0 rfl rfl 4 rfl (by decide) (by decide) dX2_digest_47 (fun H locs hP hD hS => ?_)
  have hP : va_P D vwCl (MC cI b (upd g 0 0) nw kp ++ [(qn, .inl (cI, 11, .inl (upd (upd (upd (upd (upd (fun _ => 0) 0 (g 1)) 1 (nw 0)) 2 (g 2)) 3 (nw 1)) 4 (mLeft nw))))]) H := hP
  have hD : va_D A (MC cI b (upd g 0 0) nw kp ++ [(qn, .inl (cI, 11, .inl (upd (upd (upd (upd (upd (fun _ => 0) 0 (g 1)) 1 (nw 0)) 2 (g 2)) 3 (nw 1)) 4 (mLeft nw))))]) := hD
  refine lv_dup hx hb dX2_digest_48 rfl ?_
  refine lv_iconst (v := 5) hx hb dX2_digest_49 (by decide) ?_
  refine lv_aload_n hx hb dX2_digest_50 rfl (lv_at hl 0 rfl) ?_
  refine va_get (D := D) (ci := 2) (v := .ref (b 1)) (C := RX2) (T := TX2) (N := 7) hx hb hw2 (fun _ h => h) hown hK hP 0 rfl rfl 3 (by decide) k16 (fun _ h9 => h9) rfl dX2_digest_51 ?_
  refine lv_iconst (v := 3) hx hb dX2_digest_54 (by decide) ?_
  refine wIald hx hb hK hP 1 0 rfl rfl 3 rfl (by decide) (by decide) dX2_digest_55 ?_
  refine wIast hx hb hK hP hD hS 3 0 rfl rfl 5 rfl (by decide) (by decide) dX2_digest_56 (fun H locs hP hD hS => ?_)
  have hP : va_P D vwCl (MC cI b (upd g 0 0) nw kp ++ [(qn, .inl (cI, 11, .inl (upd (upd (upd (upd (upd (upd (fun _ => 0) 0 (g 1)) 1 (nw 0)) 2 (g 2)) 3 (nw 1)) 4 (mLeft nw)) 5 (nw 3))))]) H := hP
  have hD : va_D A (MC cI b (upd g 0 0) nw kp ++ [(qn, .inl (cI, 11, .inl (upd (upd (upd (upd (upd (upd (fun _ => 0) 0 (g 1)) 1 (nw 0)) 2 (g 2)) 3 (nw 1)) 4 (mLeft nw)) 5 (nw 3))))]) := hD
  refine lv_dup hx hb dX2_digest_57 rfl ?_
  refine lv_bipush (v := 6) hx hb dX2_digest_58 (by decide) ?_
  refine lv_aload_n hx hb dX2_digest_60 rfl (lv_at hl 0 rfl) ?_
  refine va_get (D := D) (ci := 2) (v := .ref (b 1)) (C := RX2) (T := TX2) (N := 7) hx hb hw2 (fun _ h => h) hown hK hP 0 rfl rfl 3 (by decide) k16 (fun _ h9 => h9) rfl dX2_digest_61 ?_
  refine lv_iconst (v := 4) hx hb dX2_digest_64 (by decide) ?_
  refine wIald hx hb hK hP 1 0 rfl rfl 4 rfl (by decide) (by decide) dX2_digest_65 ?_
  refine wIast hx hb hK hP hD hS 3 0 rfl rfl 6 rfl (by decide) (by decide) dX2_digest_66 (fun H locs hP hD hS => ?_)
  have hP : va_P D vwCl (MC cI b (upd g 0 0) nw kp ++ [(qn, .inl (cI, 11, .inl (upd (upd (upd (upd (upd (upd (upd (fun _ => 0) 0 (g 1)) 1 (nw 0)) 2 (g 2)) 3 (nw 1)) 4 (mLeft nw)) 5 (nw 3)) 6 (nw 4))))]) H := hP
  have hD : va_D A (MC cI b (upd g 0 0) nw kp ++ [(qn, .inl (cI, 11, .inl (upd (upd (upd (upd (upd (upd (upd (fun _ => 0) 0 (g 1)) 1 (nw 0)) 2 (g 2)) 3 (nw 1)) 4 (mLeft nw)) 5 (nw 3)) 6 (nw 4))))]) := hD
  refine lv_dup hx hb dX2_digest_67 rfl ?_
  refine lv_bipush (v := 7) hx hb dX2_digest_68 (by decide) ?_
  refine lv_aload_n hx hb dX2_digest_70 rfl (lv_at hl 0 rfl) ?_
  refine wCVi (pre := ([] : va_W)) (Wc := MC cI b (upd g 0 0) nw kp) (suf := [(qn, .inl (cI, 11, .inl (upd (upd (upd (upd (upd (upd (upd (fun _ => 0) 0 (g 1)) 1 (nw 0)) 2 (g 2)) 3 (nw 1)) 4 (mLeft nw)) 5 (nw 3)) 6 (nw 4))))]) (As := []) (rest := [.int 7, .ref qn, .ref qn]) ⟨hx, hb, hml, hown, hts⟩ (mX2_underWay l D cI b (upd g 0 0) nw kp _) hN hA hK hS hP hD rfl 0 (r := (RX2, TX2, 7)) rfl rfl (cwV 0 hts gX2_digest_X2_underWay rfl rfl rfl (by decide +kernel) ⟨Nat.le_of_ble_eq_true rfl, Nat.le_of_ble_eq_true rfl⟩) rfl hl.1 rfl (Nat.le_of_ble_eq_true rfl) dX2_digest_71 ⟨Nat.le_of_ble_eq_true rfl, Nat.le_of_ble_eq_true rfl⟩ (fun r_71 u_71 H locs hw hP hD hS => ?_)
  have hw : r_71 = mWay nw 100 := hw
  subst hw
  have hP : va_P D vwCl (MC cI b (upd g 0 0) nw kp ++ [(qn, .inl (cI, 11, .inl (upd (upd (upd (upd (upd (upd (upd (fun _ => 0) 0 (g 1)) 1 (nw 0)) 2 (g 2)) 3 (nw 1)) 4 (mLeft nw)) 5 (nw 3)) 6 (nw 4))))]) H := hP
  have hD : va_D A (MC cI b (upd g 0 0) nw kp ++ [(qn, .inl (cI, 11, .inl (upd (upd (upd (upd (upd (upd (upd (fun _ => 0) 0 (g 1)) 1 (nw 0)) 2 (g 2)) 3 (nw 1)) 4 (mLeft nw)) 5 (nw 3)) 6 (nw 4))))]) := hD
  refine wIast hx hb hK hP hD hS 3 0 rfl rfl 7 rfl (by decide) (by decide) dX2_digest_74 (fun H locs hP hD hS => ?_)
  have hP : va_P D vwCl (MC cI b (upd g 0 0) nw kp ++ [(qn, .inl (cI, 11, .inl (upd (upd (upd (upd (upd (upd (upd (upd (fun _ => 0) 0 (g 1)) 1 (nw 0)) 2 (g 2)) 3 (nw 1)) 4 (mLeft nw)) 5 (nw 3)) 6 (nw 4)) 7 (mWay nw 100))))]) H := hP
  have hD : va_D A (MC cI b (upd g 0 0) nw kp ++ [(qn, .inl (cI, 11, .inl (upd (upd (upd (upd (upd (upd (upd (upd (fun _ => 0) 0 (g 1)) 1 (nw 0)) 2 (g 2)) 3 (nw 1)) 4 (mLeft nw)) 5 (nw 3)) 6 (nw 4)) 7 (mWay nw 100))))]) := hD
  refine lv_dup hx hb dX2_digest_75 rfl ?_
  refine lv_bipush (v := 8) hx hb dX2_digest_76 (by decide) ?_
  refine lv_aload_n hx hb dX2_digest_78 rfl (lv_at hl 0 rfl) ?_
  refine va_get (D := D) (ci := 2) (v := .ref (b 1)) (C := RX2) (T := TX2) (N := 7) hx hb hw2 (fun _ h => h) hown hK hP 0 rfl rfl 3 (by decide) k16 (fun _ h9 => h9) rfl dX2_digest_79 ?_
  refine lv_iconst (v := 5) hx hb dX2_digest_82 (by decide) ?_
  refine wIald hx hb hK hP 1 0 rfl rfl 5 rfl (by decide) (by decide) dX2_digest_83 ?_
  refine wIast hx hb hK hP hD hS 3 0 rfl rfl 8 rfl (by decide) (by decide) dX2_digest_84 (fun H locs hP hD hS => ?_)
  have hP : va_P D vwCl (MC cI b (upd g 0 0) nw kp ++ [(qn, .inl (cI, 11, .inl (upd (upd (upd (upd (upd (upd (upd (upd (upd (fun _ => 0) 0 (g 1)) 1 (nw 0)) 2 (g 2)) 3 (nw 1)) 4 (mLeft nw)) 5 (nw 3)) 6 (nw 4)) 7 (mWay nw 100)) 8 (nw 5))))]) H := hP
  have hD : va_D A (MC cI b (upd g 0 0) nw kp ++ [(qn, .inl (cI, 11, .inl (upd (upd (upd (upd (upd (upd (upd (upd (upd (fun _ => 0) 0 (g 1)) 1 (nw 0)) 2 (g 2)) 3 (nw 1)) 4 (mLeft nw)) 5 (nw 3)) 6 (nw 4)) 7 (mWay nw 100)) 8 (nw 5))))]) := hD
  refine lv_dup hx hb dX2_digest_85 rfl ?_
  refine lv_bipush (v := 9) hx hb dX2_digest_86 (by decide) ?_
  refine lv_aload_n hx hb dX2_digest_88 rfl (lv_at hl 0 rfl) ?_
  refine va_get (D := D) (ci := 2) (v := .ref (b 1)) (C := RX2) (T := TX2) (N := 7) hx hb hw2 (fun _ h => h) hown hK hP 0 rfl rfl 3 (by decide) k16 (fun _ h9 => h9) rfl dX2_digest_89 ?_
  refine lv_bipush (v := 6) hx hb dX2_digest_92 (by decide) ?_
  refine wIald hx hb hK hP 1 0 rfl rfl 6 rfl (by decide) (by decide) dX2_digest_94 ?_
  refine wIast hx hb hK hP hD hS 3 0 rfl rfl 9 rfl (by decide) (by decide) dX2_digest_95 (fun H locs hP hD hS => ?_)
  have hP : va_P D vwCl (MC cI b (upd g 0 0) nw kp ++ [(qn, .inl (cI, 11, .inl (upd (upd (upd (upd (upd (upd (upd (upd (upd (upd (fun _ => 0) 0 (g 1)) 1 (nw 0)) 2 (g 2)) 3 (nw 1)) 4 (mLeft nw)) 5 (nw 3)) 6 (nw 4)) 7 (mWay nw 100)) 8 (nw 5)) 9 (nw 6))))]) H := hP
  have hD : va_D A (MC cI b (upd g 0 0) nw kp ++ [(qn, .inl (cI, 11, .inl (upd (upd (upd (upd (upd (upd (upd (upd (upd (upd (fun _ => 0) 0 (g 1)) 1 (nw 0)) 2 (g 2)) 3 (nw 1)) 4 (mLeft nw)) 5 (nw 3)) 6 (nw 4)) 7 (mWay nw 100)) 8 (nw 5)) 9 (nw 6))))]) := hD
  refine lv_dup hx hb dX2_digest_96 rfl ?_
  refine lv_bipush (v := 10) hx hb dX2_digest_97 (by decide) ?_
  refine lv_aload_n hx hb dX2_digest_99 rfl (lv_at hl 0 rfl) ?_
  refine wCVi (pre := ([] : va_W)) (Wc := MC cI b (upd g 0 0) nw kp) (suf := [(qn, .inl (cI, 11, .inl (upd (upd (upd (upd (upd (upd (upd (upd (upd (upd (fun _ => 0) 0 (g 1)) 1 (nw 0)) 2 (g 2)) 3 (nw 1)) 4 (mLeft nw)) 5 (nw 3)) 6 (nw 4)) 7 (mWay nw 100)) 8 (nw 5)) 9 (nw 6))))]) (As := []) (rest := [.int 10, .ref qn, .ref qn]) ⟨hx, hb, hml, hown, hts⟩ (mX2_rated l D cI b (upd g 0 0) nw kp gg _ hg hg2 hg0) hN hA hK hS hP hD rfl 0 (r := (RX2, TX2, 7)) rfl rfl (cwV 0 hts gX2_digest_X2_rated rfl rfl rfl (by decide +kernel) ⟨Nat.le_of_ble_eq_true rfl, Nat.le_of_ble_eq_true rfl⟩) rfl hl.1 rfl (Nat.le_of_ble_eq_true rfl) dX2_digest_100 ⟨Nat.le_of_ble_eq_true rfl, Nat.le_of_ble_eq_true rfl⟩ (fun r_100 u_100 H locs hw hP hD hS => ?_)
  have hw : r_100 = mRate (g 1) nw gg := hw
  subst hw
  have hP : va_P D vwCl (MC cI b (upd g 0 0) nw kp ++ [(qn, .inl (cI, 11, .inl (upd (upd (upd (upd (upd (upd (upd (upd (upd (upd (fun _ => 0) 0 (g 1)) 1 (nw 0)) 2 (g 2)) 3 (nw 1)) 4 (mLeft nw)) 5 (nw 3)) 6 (nw 4)) 7 (mWay nw 100)) 8 (nw 5)) 9 (nw 6))))]) H := hP
  have hD : va_D A (MC cI b (upd g 0 0) nw kp ++ [(qn, .inl (cI, 11, .inl (upd (upd (upd (upd (upd (upd (upd (upd (upd (upd (fun _ => 0) 0 (g 1)) 1 (nw 0)) 2 (g 2)) 3 (nw 1)) 4 (mLeft nw)) 5 (nw 3)) 6 (nw 4)) 7 (mWay nw 100)) 8 (nw 5)) 9 (nw 6))))]) := hD
  refine wIast hx hb hK hP hD hS 3 0 rfl rfl 10 rfl (by decide) (by decide) dX2_digest_103 (fun H locs hP hD hS => ?_)
  have hP : va_P D vwCl (MC cI b (upd g 0 0) nw kp ++ [(qn, .inl (cI, 11, .inl (upd (upd (upd (upd (upd (upd (upd (upd (upd (upd (upd (fun _ => 0) 0 (g 1)) 1 (nw 0)) 2 (g 2)) 3 (nw 1)) 4 (mLeft nw)) 5 (nw 3)) 6 (nw 4)) 7 (mWay nw 100)) 8 (nw 5)) 9 (nw 6)) 10 (mRate (g 1) nw gg))))]) H := hP
  have hD : va_D A (MC cI b (upd g 0 0) nw kp ++ [(qn, .inl (cI, 11, .inl (upd (upd (upd (upd (upd (upd (upd (upd (upd (upd (upd (fun _ => 0) 0 (g 1)) 1 (nw 0)) 2 (g 2)) 3 (nw 1)) 4 (mLeft nw)) 5 (nw 3)) 6 (nw 4)) 7 (mWay nw 100)) 8 (nw 5)) 9 (nw 6)) 10 (mRate (g 1) nw gg))))]) := hD
  refine lv_astore_n (lv' := [(1, .ref qn), (0, .ref (b 0))]) hx hb dX2_digest_104 rfl hl (by decide) rfl (fun ls hl => ?_)
  have hP : va_P D vwCl (MC cI b (upd g 0 0) nw kp ++ [(qn, .inl (cI, 11, .inl (mHead (g 1) (g 2) nw gg)))]) H := hP
  have hD : va_D A (MC cI b (upd g 0 0) nw kp ++ [(qn, .inl (cI, 11, .inl (mHead (g 1) (g 2) nw gg)))]) := hD
  refine lv_ldc2 hx hb hown (hts (.constantLong RX2 124 (1973)) (by decide +kernel)) dX2_digest_105 ?_
  refine lv_lstore_n (lv' := [(2, .long 1973), (1, .ref qn), (0, .ref (b 0))]) hx hb dX2_digest_108 rfl hl (by decide) rfl (fun ls hl => ?_)
  refine lv_aload_n hx hb dX2_digest_109 rfl (lv_at hl 1 rfl) ?_
  refine lv_astore (lv' := [(4, .ref qn), (2, .long 1973), (1, .ref qn), (0, .ref (b 0))]) hx hb dX2_digest_110 hl (by decide) rfl (fun ls hl => ?_)
  refine lv_aload hx hb dX2_digest_112 (lv_at hl 0 rfl) ?_
  refine va_alen (v := 11) hx hb hK hP 3 0 rfl rfl rfl dX2_digest_114 ?_
  refine lv_istore (lv' := [(5, .int 11), (4, .ref qn), (2, .long 1973), (1, .ref qn), (0, .ref (b 0))]) hx hb dX2_digest_115 hl (by decide) rfl (fun ls hl => ?_)
  refine lv_iconst (v := 0) hx hb dX2_digest_117 (by decide) ?_
  refine lv_istore (lv' := [(6, .int 0), (5, .int 11), (4, .ref qn), (2, .long 1973), (1, .ref qn), (0, .ref (b 0))]) hx hb dX2_digest_118 hl (by decide) rfl (fun ls hl => ?_)
  have loop120 : ∀ (j i120 : Nat), i120 + j = 11 → ∀ (H : Heap) (locs : List Loc) (ls : Array Slot), va_P D vwCl (MC cI b (upd g 0 0) nw kp ++ [(qn, .inl (cI, 11, .inl (mHead (g 1) (g 2) nw gg)))]) H → va_D A (MC cI b (upd g 0 0) nw kp ++ [(qn, .inl (cI, 11, .inl (mHead (g 1) (g 2) nw gg)))]) → va_S A s.heap H locs → lv_has ls 8 [(6, .int (nI i120)), (2, .long (lAcc (mHead (g 1) (g 2) nw gg) i120)), (0, .ref (b 0)), (1, .ref qn), (4, .ref qn), (5, .int 11)] → W p l e rmX2_digest s m args below meth c H locs 1 11 Q (F0 m 120 ls []) := by
    intro j
    induction j with
    | zero =>
      intro i120 hi120 H locs ls hP hD hS hl
      have ez : 11 = i120 := by omega
      subst ez
      refine lv_iload hx hb dX2_digest_120 (lv_at hl 0 rfl) ?_
      refine lv_iload hx hb dX2_digest_122 (lv_at hl 5 rfl) ?_
      refine lv_icmp_ge (tgt := 150) hx hb dX2_digest_124 (by decide) (fun c_124 => ?_) (fun h9 => absurd (nI_le (a := 11) (b := 11) (by omega) (by omega)) h9)
      have c_124n := (nI_leI (a := 11) (b := 11) (by omega) (by omega)).mp c_124
      refine lv_iconst (v := 0) hx hb dX2_digest_150 (by decide) ?_
      refine lv_istore (lv' := [(4, .int 0), (6, .int (nI 11)), (2, .long (lAcc (mHead (g 1) (g 2) nw gg) 11)), (0, .ref (b 0)), (1, .ref qn), (5, .int 11)]) hx hb dX2_digest_151 hl (by decide) rfl (fun ls hl => ?_)
      have loop153 : ∀ (j i153 : Nat), i153 + j = gg → ∀ (H : Heap) (locs : List Loc) (ls : Array Slot), va_P D vwCl (MC cI b (upd g 0 0) nw kp ++ [(qn, .inl (cI, 11, .inl (mHead (g 1) (g 2) nw gg)))]) H → va_D A (MC cI b (upd g 0 0) nw kp ++ [(qn, .inl (cI, 11, .inl (mHead (g 1) (g 2) nw gg)))]) → va_S A s.heap H locs → lv_has ls 8 [(4, .int (nI i153)), (2, .long (mGs nw gg (lAcc (mHead (g 1) (g 2) nw gg) 11) i153)), (0, .ref (b 0))] → W p l e rmX2_digest s m args below meth c H locs 1 11 Q (F0 m 153 ls []) := by
        intro j
        induction j with
        | zero =>
          intro i153 hi153 H locs ls hP hD hS hl
          have ez : gg = i153 := by omega
          subst ez
          refine lv_iload hx hb dX2_digest_153 (lv_at hl 0 rfl) ?_
          refine lv_aload_n hx hb dX2_digest_155 rfl (lv_at hl 2 rfl) ?_
          refine va_get (D := D) (ci := 2) (v := .int (g 1)) (C := RX2) (T := TX2) (N := 7) hx hb hw2 (fun _ h => h) hown hK hP 0 rfl rfl 1 (by decide) k7 (fun _ h9 => h9) rfl dX2_digest_156 ?_
          refine lv_icmp_ge (tgt := 305) hx hb dX2_digest_159 (by decide) (fun c_159 => ?_) (fun h9 => absurd (by rw [hg]; exact nI_le (by omega) (by omega)) h9)
          have hP := hP.sub (ws' := MC cI b (upd g 0 0) nw kp) [0, 1, 2] rfl
          have hD := hD.sub (ws' := MC cI b (upd g 0 0) nw kp) [0, 1, 2] (by decide) rfl
          refine lv_lload_n hx hb dX2_digest_305 rfl (lv_at hl 1 rfl) ?_
          exact wRl hQ hx hb hr hlocks hP hD hS dX2_digest_306 () (rfl) rfl
        | succ j ih153 =>
          intro i153 hi153 H locs ls hP hD hS hl
          refine lv_iload hx hb dX2_digest_153 (lv_at hl 0 rfl) ?_
          refine lv_aload_n hx hb dX2_digest_155 rfl (lv_at hl 2 rfl) ?_
          refine va_get (D := D) (ci := 2) (v := .int (g 1)) (C := RX2) (T := TX2) (N := 7) hx hb hw2 (fun _ h => h) hown hK hP 0 rfl rfl 1 (by decide) k7 (fun _ h9 => h9) rfl dX2_digest_156 ?_
          refine lv_icmp_ge (tgt := 305) hx hb dX2_digest_159 (by decide) (fun h9 => absurd h9 (by rw [hg]; exact nI_ge (by omega) (by omega))) (fun c_159 => ?_)
          refine lv_lload_n hx hb dX2_digest_162 rfl (lv_at hl 1 rfl) ?_
          refine lv_ldc2 hx hb hown (hts (.constantLong RX2 126 (31)) (by decide +kernel)) dX2_digest_163 ?_
          refine lv_lmul hx hb dX2_digest_166 ?_
          refine lv_aload_n hx hb dX2_digest_167 rfl (lv_at hl 2 rfl) ?_
          refine va_get (D := D) (ci := 2) (v := .ref (b 1)) (C := RX2) (T := TX2) (N := 7) hx hb hw2 (fun _ h => h) hown hK hP 0 rfl rfl 3 (by decide) k16 (fun _ h9 => h9) rfl dX2_digest_168 ?_
          refine lv_bipush (v := 8) hx hb dX2_digest_171 (by decide) ?_
          refine lv_iload hx hb dX2_digest_173 (lv_at hl 0 rfl) ?_
          refine lv_iadd hx hb dX2_digest_175 ?_
          refine wTop (z := nI (8 + i153)) (nI_add 8 i153) ?_
          refine wIald hx hb hK hP 1 0 rfl rfl (8 + i153) rfl (by omega) (by decide) dX2_digest_176 ?_
          refine lv_i2l hx hb dX2_digest_177 rfl ?_
          refine lv_ladd hx hb dX2_digest_178 ?_
          refine lv_lstore_n (lv' := [(2, .long (((mGs nw gg (lAcc (mHead (g 1) (g 2) nw gg) 11) i153) * 31) + ((nw (8 + i153)).toInt64))), (4, .int (nI i153)), (0, .ref (b 0))]) hx hb dX2_digest_179 rfl hl (by decide) rfl (fun ls hl => ?_)
          refine lv_lload_n hx hb dX2_digest_180 rfl (lv_at hl 0 rfl) ?_
          refine lv_ldc2 hx hb hown (hts (.constantLong RX2 126 (31)) (by decide +kernel)) dX2_digest_181 ?_
          refine lv_lmul hx hb dX2_digest_184 ?_
          refine lv_aload_n hx hb dX2_digest_185 rfl (lv_at hl 2 rfl) ?_
          refine va_get (D := D) (ci := 2) (v := .ref (b 1)) (C := RX2) (T := TX2) (N := 7) hx hb hw2 (fun _ h => h) hown hK hP 0 rfl rfl 3 (by decide) k16 (fun _ h9 => h9) rfl dX2_digest_186 ?_
          refine lv_bipush (v := 18) hx hb dX2_digest_189 (by decide) ?_
          refine lv_iload hx hb dX2_digest_191 (lv_at hl 1 rfl) ?_
          refine lv_iadd hx hb dX2_digest_193 ?_
          refine wTop (z := nI (18 + i153)) (nI_add 18 i153) ?_
          refine wIald hx hb hK hP 1 0 rfl rfl (18 + i153) rfl (by omega) (by decide) dX2_digest_194 ?_
          refine lv_i2l hx hb dX2_digest_195 rfl ?_
          refine lv_ladd hx hb dX2_digest_196 ?_
          refine lv_lstore_n (lv' := [(2, .long (((((mGs nw gg (lAcc (mHead (g 1) (g 2) nw gg) 11) i153) * 31) + ((nw (8 + i153)).toInt64)) * 31) + ((nw (18 + i153)).toInt64))), (4, .int (nI i153)), (0, .ref (b 0))]) hx hb dX2_digest_197 rfl hl (by decide) rfl (fun ls hl => ?_)
          refine lv_lload_n hx hb dX2_digest_198 rfl (lv_at hl 0 rfl) ?_
          refine lv_ldc2 hx hb hown (hts (.constantLong RX2 126 (31)) (by decide +kernel)) dX2_digest_199 ?_
          refine lv_lmul hx hb dX2_digest_202 ?_
          refine lv_aload_n hx hb dX2_digest_203 rfl (lv_at hl 2 rfl) ?_
          refine va_get (D := D) (ci := 2) (v := .ref (b 1)) (C := RX2) (T := TX2) (N := 7) hx hb hw2 (fun _ h => h) hown hK hP 0 rfl rfl 3 (by decide) k16 (fun _ h9 => h9) rfl dX2_digest_204 ?_
          refine lv_bipush (v := 28) hx hb dX2_digest_207 (by decide) ?_
          refine lv_iload hx hb dX2_digest_209 (lv_at hl 1 rfl) ?_
          refine lv_iadd hx hb dX2_digest_211 ?_
          refine wTop (z := nI (28 + i153)) (nI_add 28 i153) ?_
          refine wIald hx hb hK hP 1 0 rfl rfl (28 + i153) rfl (by omega) (by decide) dX2_digest_212 ?_
          refine lv_i2l hx hb dX2_digest_213 rfl ?_
          refine lv_ladd hx hb dX2_digest_214 ?_
          refine lv_lstore_n (lv' := [(2, .long (((((((mGs nw gg (lAcc (mHead (g 1) (g 2) nw gg) 11) i153) * 31) + ((nw (8 + i153)).toInt64)) * 31) + ((nw (18 + i153)).toInt64)) * 31) + ((nw (28 + i153)).toInt64))), (4, .int (nI i153)), (0, .ref (b 0))]) hx hb dX2_digest_215 rfl hl (by decide) rfl (fun ls hl => ?_)
          refine lv_lload_n hx hb dX2_digest_216 rfl (lv_at hl 0 rfl) ?_
          refine lv_ldc2 hx hb hown (hts (.constantLong RX2 126 (31)) (by decide +kernel)) dX2_digest_217 ?_
          refine lv_lmul hx hb dX2_digest_220 ?_
          refine lv_aload_n hx hb dX2_digest_221 rfl (lv_at hl 2 rfl) ?_
          refine va_get (D := D) (ci := 2) (v := .ref (b 1)) (C := RX2) (T := TX2) (N := 7) hx hb hw2 (fun _ h => h) hown hK hP 0 rfl rfl 3 (by decide) k16 (fun _ h9 => h9) rfl dX2_digest_222 ?_
          refine lv_bipush (v := 38) hx hb dX2_digest_225 (by decide) ?_
          refine lv_iload hx hb dX2_digest_227 (lv_at hl 1 rfl) ?_
          refine lv_iadd hx hb dX2_digest_229 ?_
          refine wTop (z := nI (38 + i153)) (nI_add 38 i153) ?_
          refine wIald hx hb hK hP 1 0 rfl rfl (38 + i153) rfl (by omega) (by decide) dX2_digest_230 ?_
          refine lv_i2l hx hb dX2_digest_231 rfl ?_
          refine lv_ladd hx hb dX2_digest_232 ?_
          refine lv_lstore_n (lv' := [(2, .long (((((((((mGs nw gg (lAcc (mHead (g 1) (g 2) nw gg) 11) i153) * 31) + ((nw (8 + i153)).toInt64)) * 31) + ((nw (18 + i153)).toInt64)) * 31) + ((nw (28 + i153)).toInt64)) * 31) + ((nw (38 + i153)).toInt64))), (4, .int (nI i153)), (0, .ref (b 0))]) hx hb dX2_digest_233 rfl hl (by decide) rfl (fun ls hl => ?_)
          refine lv_iconst (v := 0) hx hb dX2_digest_234 (by decide) ?_
          refine lv_istore (lv' := [(5, .int 0), (2, .long (((((((((mGs nw gg (lAcc (mHead (g 1) (g 2) nw gg) 11) i153) * 31) + ((nw (8 + i153)).toInt64)) * 31) + ((nw (18 + i153)).toInt64)) * 31) + ((nw (28 + i153)).toInt64)) * 31) + ((nw (38 + i153)).toInt64))), (4, .int (nI i153)), (0, .ref (b 0))]) hx hb dX2_digest_235 hl (by decide) rfl (fun ls hl => ?_)
          have loop237 : ∀ (j i237 : Nat), i237 + j = gg → ∀ (H : Heap) (locs : List Loc) (ls : Array Slot), va_P D vwCl (MC cI b (upd g 0 0) nw kp ++ [(qn, .inl (cI, 11, .inl (mHead (g 1) (g 2) nw gg)))]) H → va_D A (MC cI b (upd g 0 0) nw kp ++ [(qn, .inl (cI, 11, .inl (mHead (g 1) (g 2) nw gg)))]) → va_S A s.heap H locs → lv_has ls 8 [(5, .int (nI i237)), (2, .long (mTo nw i153 (mFour nw i153 (mGs nw gg (lAcc (mHead (g 1) (g 2) nw gg) 11) i153)) i237)), (4, .int (nI i153)), (0, .ref (b 0))] → W p l e rmX2_digest s m args below meth c H locs 1 11 Q (F0 m 237 ls []) := by
            intro j
            induction j with
            | zero =>
              intro i237 hi237 H locs ls hP hD hS hl
              have ez : gg = i237 := by omega
              subst ez
              refine lv_iload hx hb dX2_digest_237 (lv_at hl 0 rfl) ?_
              refine lv_aload_n hx hb dX2_digest_239 rfl (lv_at hl 3 rfl) ?_
              refine va_get (D := D) (ci := 2) (v := .int (g 1)) (C := RX2) (T := TX2) (N := 7) hx hb hw2 (fun _ h => h) hown hK hP 0 rfl rfl 1 (by decide) k7 (fun _ h9 => h9) rfl dX2_digest_240 ?_
              refine lv_icmp_ge (tgt := 299) hx hb dX2_digest_243 (by decide) (fun c_243 => ?_) (fun h9 => absurd (by rw [hg]; exact nI_le (by omega) (by omega)) h9)
              refine lv_iinc (v := nI (i153 + 1)) (lv' := [(4, .int (nI (i153 + 1))), (5, .int (nI gg)), (2, .long (mTo nw i153 (mFour nw i153 (mGs nw gg (lAcc (mHead (g 1) (g 2) nw gg) 11) i153)) gg)), (0, .ref (b 0))]) hx hb dX2_digest_299 hl (k := 2) rfl (nI_1 i153) (by decide) rfl (fun ls hl => ?_)
              refine lv_goto (tgt := 153) hx hb dX2_digest_302 (by decide) ?_
              exact ih153 (i153 + 1) (by omega) _ _ _ hP hD hS (lv_sub hl [0, 2, 3] rfl)
            | succ j ih237 =>
              intro i237 hi237 H locs ls hP hD hS hl
              refine lv_iload hx hb dX2_digest_237 (lv_at hl 0 rfl) ?_
              refine lv_aload_n hx hb dX2_digest_239 rfl (lv_at hl 3 rfl) ?_
              refine va_get (D := D) (ci := 2) (v := .int (g 1)) (C := RX2) (T := TX2) (N := 7) hx hb hw2 (fun _ h => h) hown hK hP 0 rfl rfl 1 (by decide) k7 (fun _ h9 => h9) rfl dX2_digest_240 ?_
              refine lv_icmp_ge (tgt := 299) hx hb dX2_digest_243 (by decide) (fun h9 => absurd h9 (by rw [hg]; exact nI_ge (by omega) (by omega))) (fun c_243 => ?_)
              refine lv_lload_n hx hb dX2_digest_246 rfl (lv_at hl 1 rfl) ?_
              refine lv_ldc2 hx hb hown (hts (.constantLong RX2 126 (31)) (by decide +kernel)) dX2_digest_247 ?_
              refine lv_lmul hx hb dX2_digest_250 ?_
              refine lv_aload_n hx hb dX2_digest_251 rfl (lv_at hl 3 rfl) ?_
              refine va_get (D := D) (ci := 2) (v := .ref (b 1)) (C := RX2) (T := TX2) (N := 7) hx hb hw2 (fun _ h => h) hown hK hP 0 rfl rfl 3 (by decide) k16 (fun _ h9 => h9) rfl dX2_digest_252 ?_
              refine lv_bipush (v := 48) hx hb dX2_digest_255 (by decide) ?_
              refine lv_iload hx hb dX2_digest_257 (lv_at hl 2 rfl) ?_
              refine lv_iload hx hb dX2_digest_259 (lv_at hl 0 rfl) ?_
              refine wCSi (pre := ([] : va_W)) (Wc := ([] : va_W)) (suf := MC cI b (upd g 0 0) nw kp ++ [(qn, .inl (cI, 11, .inl (mHead (g 1) (g 2) nw gg)))]) (As := [.int (nI i153), .int (nI i237)]) (rest := [.int 48, .ref (b 1), .long ((mTo nw i153 (mFour nw i153 (mGs nw gg (lAcc (mHead (g 1) (g 2) nw gg) 11) i153)) i237) * 31)]) ⟨hx, hb, hml, hown, hts⟩ (mX2_pair l D cI i153 i237 _) hN hA hK hS hP hD rfl (va_cwS 2 hts gX2_digest_X2_pair rfl rfl rfl (by decide +kernel) ⟨Nat.le_of_ble_eq_true rfl, Nat.le_of_ble_eq_true rfl⟩) rfl hl.1 rfl (Nat.le_of_ble_eq_true rfl) dX2_digest_261 ⟨Nat.le_of_ble_eq_true rfl, Nat.le_of_ble_eq_true rfl⟩ (fun r_261 u_261 H locs hw hP hD hS => ?_)
              have hw : r_261 = nI (10 * i153 + i237) := hw
              subst hw
              have hP : va_P D vwCl (MC cI b (upd g 0 0) nw kp ++ [(qn, .inl (cI, 11, .inl (mHead (g 1) (g 2) nw gg)))]) H := hP
              have hD : va_D A (MC cI b (upd g 0 0) nw kp ++ [(qn, .inl (cI, 11, .inl (mHead (g 1) (g 2) nw gg)))]) := hD
              refine lv_iadd hx hb dX2_digest_264 ?_
              refine wTop (z := nI (48 + (10 * i153 + i237))) (nI_add 48 (10 * i153 + i237)) ?_
              refine wIald hx hb hK hP 1 0 rfl rfl (48 + (10 * i153 + i237)) rfl (by omega) (by decide) dX2_digest_265 ?_
              refine lv_i2l hx hb dX2_digest_266 rfl ?_
              refine lv_ladd hx hb dX2_digest_267 ?_
              refine lv_lstore_n (lv' := [(2, .long (((mTo nw i153 (mFour nw i153 (mGs nw gg (lAcc (mHead (g 1) (g 2) nw gg) 11) i153)) i237) * 31) + ((nw (48 + (10 * i153 + i237))).toInt64))), (5, .int (nI i237)), (4, .int (nI i153)), (0, .ref (b 0))]) hx hb dX2_digest_268 rfl hl (by decide) rfl (fun ls hl => ?_)
              refine lv_lload_n hx hb dX2_digest_269 rfl (lv_at hl 0 rfl) ?_
              refine lv_ldc2 hx hb hown (hts (.constantLong RX2 126 (31)) (by decide +kernel)) dX2_digest_270 ?_
              refine lv_lmul hx hb dX2_digest_273 ?_
              refine lv_aload_n hx hb dX2_digest_274 rfl (lv_at hl 3 rfl) ?_
              refine va_get (D := D) (ci := 2) (v := .ref (b 1)) (C := RX2) (T := TX2) (N := 7) hx hb hw2 (fun _ h => h) hown hK hP 0 rfl rfl 3 (by decide) k16 (fun _ h9 => h9) rfl dX2_digest_275 ?_
              refine lv_sipush (v := 248) hx hb dX2_digest_278 (by decide) ?_
              refine lv_iload hx hb dX2_digest_281 (lv_at hl 2 rfl) ?_
              refine lv_iload hx hb dX2_digest_283 (lv_at hl 1 rfl) ?_
              refine wCSi (pre := ([] : va_W)) (Wc := ([] : va_W)) (suf := MC cI b (upd g 0 0) nw kp ++ [(qn, .inl (cI, 11, .inl (mHead (g 1) (g 2) nw gg)))]) (As := [.int (nI i153), .int (nI i237)]) (rest := [.int 248, .ref (b 1), .long ((((mTo nw i153 (mFour nw i153 (mGs nw gg (lAcc (mHead (g 1) (g 2) nw gg) 11) i153)) i237) * 31) + ((nw (48 + (10 * i153 + i237))).toInt64)) * 31)]) ⟨hx, hb, hml, hown, hts⟩ (mX2_pair l D cI i153 i237 _) hN hA hK hS hP hD rfl (va_cwS 2 hts gX2_digest_X2_pair rfl rfl rfl (by decide +kernel) ⟨Nat.le_of_ble_eq_true rfl, Nat.le_of_ble_eq_true rfl⟩) rfl hl.1 rfl (Nat.le_of_ble_eq_true rfl) dX2_digest_285 ⟨Nat.le_of_ble_eq_true rfl, Nat.le_of_ble_eq_true rfl⟩ (fun r_285 u_285 H locs hw hP hD hS => ?_)
              have hw : r_285 = nI (10 * i153 + i237) := hw
              subst hw
              have hP : va_P D vwCl (MC cI b (upd g 0 0) nw kp ++ [(qn, .inl (cI, 11, .inl (mHead (g 1) (g 2) nw gg)))]) H := hP
              have hD : va_D A (MC cI b (upd g 0 0) nw kp ++ [(qn, .inl (cI, 11, .inl (mHead (g 1) (g 2) nw gg)))]) := hD
              refine lv_iadd hx hb dX2_digest_288 ?_
              refine wTop (z := nI (248 + (10 * i153 + i237))) (nI_add 248 (10 * i153 + i237)) ?_
              refine wIald hx hb hK hP 1 0 rfl rfl (248 + (10 * i153 + i237)) rfl (by omega) (by decide) dX2_digest_289 ?_
              refine lv_i2l hx hb dX2_digest_290 rfl ?_
              refine lv_ladd hx hb dX2_digest_291 ?_
              refine lv_lstore_n (lv' := [(2, .long (((((mTo nw i153 (mFour nw i153 (mGs nw gg (lAcc (mHead (g 1) (g 2) nw gg) 11) i153)) i237) * 31) + ((nw (48 + (10 * i153 + i237))).toInt64)) * 31) + ((nw (248 + (10 * i153 + i237))).toInt64))), (5, .int (nI i237)), (4, .int (nI i153)), (0, .ref (b 0))]) hx hb dX2_digest_292 rfl hl (by decide) rfl (fun ls hl => ?_)
              refine lv_iinc (v := nI (i237 + 1)) (lv' := [(5, .int (nI (i237 + 1))), (2, .long (((((mTo nw i153 (mFour nw i153 (mGs nw gg (lAcc (mHead (g 1) (g 2) nw gg) 11) i153)) i237) * 31) + ((nw (48 + (10 * i153 + i237))).toInt64)) * 31) + ((nw (248 + (10 * i153 + i237))).toInt64))), (4, .int (nI i153)), (0, .ref (b 0))]) hx hb dX2_digest_293 hl (k := 1) rfl (nI_1 i237) (by decide) rfl (fun ls hl => ?_)
              refine lv_goto (tgt := 237) hx hb dX2_digest_296 (by decide) ?_
              exact ih237 (i237 + 1) (by omega) _ _ _ hP hD hS (lv_sub hl [0, 1, 2, 3] rfl)
          exact loop237 gg 0 (by omega) _ _ _ hP hD hS (lv_sub hl [0, 1, 2, 3] rfl)
      exact loop153 gg 0 (by omega) _ _ _ hP hD hS (lv_sub hl [0, 2, 3] rfl)
    | succ j ih120 =>
      intro i120 hi120 H locs ls hP hD hS hl
      refine lv_iload hx hb dX2_digest_120 (lv_at hl 0 rfl) ?_
      refine lv_iload hx hb dX2_digest_122 (lv_at hl 5 rfl) ?_
      refine lv_icmp_ge (tgt := 150) hx hb dX2_digest_124 (by decide) (fun h9 => absurd h9 (nI_ge (b := 11) (by omega) (by omega))) (fun c_124 => ?_)
      have c_124n := mt (nI_leI (a := 11) (b := i120) (by omega) (by omega)).mpr c_124
      refine lv_aload hx hb dX2_digest_127 (lv_at hl 4 rfl) ?_
      refine lv_iload hx hb dX2_digest_129 (lv_at hl 0 rfl) ?_
      refine wIald hx hb hK hP 3 0 rfl rfl i120 rfl (by omega) (by decide) dX2_digest_131 ?_
      refine lv_istore (lv' := [(7, .int ((mHead (g 1) (g 2) nw gg) i120)), (6, .int (nI i120)), (2, .long (lAcc (mHead (g 1) (g 2) nw gg) i120)), (0, .ref (b 0)), (1, .ref qn), (4, .ref qn), (5, .int 11)]) hx hb dX2_digest_132 hl (by decide) rfl (fun ls hl => ?_)
      refine lv_lload_n hx hb dX2_digest_134 rfl (lv_at hl 2 rfl) ?_
      refine lv_ldc2 hx hb hown (hts (.constantLong RX2 126 (31)) (by decide +kernel)) dX2_digest_135 ?_
      refine lv_lmul hx hb dX2_digest_138 ?_
      refine lv_iload hx hb dX2_digest_139 (lv_at hl 0 rfl) ?_
      refine lv_i2l hx hb dX2_digest_141 rfl ?_
      refine lv_ladd hx hb dX2_digest_142 ?_
      refine lv_lstore_n (lv' := [(2, .long (((lAcc (mHead (g 1) (g 2) nw gg) i120) * 31) + (((mHead (g 1) (g 2) nw gg) i120).toInt64))), (7, .int ((mHead (g 1) (g 2) nw gg) i120)), (6, .int (nI i120)), (0, .ref (b 0)), (1, .ref qn), (4, .ref qn), (5, .int 11)]) hx hb dX2_digest_143 rfl hl (by decide) rfl (fun ls hl => ?_)
      refine lv_iinc (v := nI (i120 + 1)) (lv' := [(6, .int (nI (i120 + 1))), (2, .long (((lAcc (mHead (g 1) (g 2) nw gg) i120) * 31) + (((mHead (g 1) (g 2) nw gg) i120).toInt64))), (7, .int ((mHead (g 1) (g 2) nw gg) i120)), (0, .ref (b 0)), (1, .ref qn), (4, .ref qn), (5, .int 11)]) hx hb dX2_digest_144 hl (k := 2) rfl (nI_1 i120) (by decide) rfl (fun ls hl => ?_)
      refine lv_goto (tgt := 120) hx hb dX2_digest_147 (by decide) ?_
      exact ih120 (i120 + 1) (by omega) _ _ _ hP hD hS (lv_sub hl [0, 1, 3, 4, 5, 6] rfl)
  exact loop120 11 0 (by omega) _ _ _ hP hD hS (lv_sub hl [0, 3, 5, 4, 2, 1] rfl)
