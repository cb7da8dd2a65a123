abbrev rmX0_letSpeak : Room := { frames := 0, cells := 0, slots := 0, locals := 0 }
set_option maxRecDepth 100000 in
set_option maxHeartbeats 4000000 in
/-- letSpeak -/
theorem mX0_letSpeak (l : Launch) (D : va_G) (cI : ClassId) (a : Nat → Nat) (f : Nat → Int32) (r : Nat → Nat → Int32) (x : Nat) (secs : Int32) (sz : Nat) (ux : x < 10) : wCt l yX0_letSpeak wsX0_letSpeak rmX0_letSpeak D [(cI, .int)] [.ref (a 0), .int (nI x), .int secs] (DC cI a f r) sz 0 0 (wQi D (fun v (u : dS) => v = dInt f x ∧ u = dSpeak f r x secs) (fun u : dS => DCs cI a u)) := by
  refine wMet cX0_letSpeak 4 (some .int) (by decide) rfl (Nat.le_of_ble_eq_true rfl) ?_
  intro p e s m args below meth c A Q ls hQ hx hb hr hml hown hlocks hin hts hN hP hK hD hA hS hl
  have hl : lv_has ls 4 [(0, .ref (a 0)), (1, .int (nI x)), (2, .int secs)] := hl
  have hown : s.vm.findClass RX0 = some m.cls := hown
  have hw0 : ∀ w ∈ wsX00, w.before args s = true := fun w h => hts w (List.mem_cons_of_mem _ (List.mem_append_right _ h))
  have k15 := hts (.fieldLink RX0 15 "PauseLedger$Dinner" "interruptions" "[I") (by decide +kernel)
  have k47 := hts (.fieldLink RX0 47 "PauseLedger$Dinner" "speaker" "I") (by decide +kernel)
  have k50 := hts (.fieldLink RX0 50 "PauseLedger$Dinner" "toSpeak" "I") (by decide +kernel)
  refine lv_aload_n hx hb dX0_letSpeak_0 rfl (lv_at hl 0 rfl) ?_
  refine va_get (D := D) (ci := 0) (v := .int (f 3)) (C := RX0) (T := TX0) (N := 17) hx hb hw0 (fun _ h => h) hown hK hP 0 rfl rfl 3 (by decide) k47 (fun _ h9 => h9) rfl dX0_letSpeak_1 ?_
  refine lv_iload_n hx hb dX0_letSpeak_4 rfl (lv_at hl 1 rfl) ?_
  refine lv_icmp_ne (tgt := 12) hx hb dX0_letSpeak_5 (by decide) (fun c_5 => ?_) (fun c_5 => ?_)
  · refine lv_aload_n hx hb dX0_letSpeak_12 rfl (lv_at hl 0 rfl) ?_
    refine va_get (D := D) (ci := 0) (v := .int (f 3)) (C := RX0) (T := TX0) (N := 17) hx hb hw0 (fun _ h => h) hown hK hP 0 rfl rfl 3 (by decide) k47 (fun _ h9 => h9) rfl dX0_letSpeak_13 ?_
    refine lv_istore_n (lv' := [(3, .int (f 3)), (0, .ref (a 0)), (1, .int (nI x)), (2, .int secs)]) hx hb dX0_letSpeak_16 rfl hl (by decide) rfl (fun ls hl => ?_)
    refine lv_iload_n hx hb dX0_letSpeak_17 rfl (lv_at hl 0 rfl) ?_
    refine lv_iconst (v := (-1)) hx hb dX0_letSpeak_18 (by decide) ?_
    refine lv_icmp_eq (tgt := 32) hx hb dX0_letSpeak_19 (by decide) (fun c_19 => ?_) (fun c_19 => ?_)
    · refine lv_aload_n hx hb dX0_letSpeak_32 rfl (lv_at hl 1 rfl) ?_
      refine lv_iload_n hx hb dX0_letSpeak_33 rfl (lv_at hl 2 rfl) ?_
      refine va_put (D := D) (ci := 0) (v := .int (nI x)) (ty := .int) (C := RX0) (T := TX0) (N := 17) hx hb hw0 (fun _ h => h) tyX0 tyX0_ok nmX0 hown hK hP hD hS 0 rfl rfl 3 (by decide) k47 (fun _ h9 => h9) rfl (by decide +kernel) rfl rfl (Nat.le_of_ble_eq_true rfl) dX0_letSpeak_34 (fun H locs hP hD hS => ?_)
      have hP : va_P D vwCl (DC cI a (upd f 3 (nI x)) r) H := hP
      have hD : va_D A (DC cI a (upd f 3 (nI x)) r) := hD
      refine lv_aload_n hx hb dX0_letSpeak_37 rfl (lv_at hl 1 rfl) ?_
      refine lv_iload_n hx hb dX0_letSpeak_38 rfl (lv_at hl 3 rfl) ?_
      refine va_put (D := D) (ci := 0) (v := .int secs) (ty := .int) (C := RX0) (T := TX0) (N := 17) hx hb hw0 (fun _ h => h) tyX0 tyX0_ok nmX0 hown hK hP hD hS 0 rfl rfl 4 (by decide) k50 (fun _ h9 => h9) rfl (by decide +kernel) rfl rfl (Nat.le_of_ble_eq_true rfl) dX0_letSpeak_39 (fun H locs hP hD hS => ?_)
      have hP : va_P D vwCl (DC cI a (upd (upd f 3 (nI x)) 4 secs) r) H := hP
      have hD : va_D A (DC cI a (upd (upd f 3 (nI x)) 4 secs) r) := hD
      refine lv_iload_n hx hb dX0_letSpeak_42 rfl (lv_at hl 0 rfl) ?_
      exact wRi hQ hx hb hr hlocks hP hD hS dX0_letSpeak_43 ((upd (upd f 3 (nI x)) 4 secs), r) (by simp only [dInt, dSpeak, ↓reduceIte, if_neg c_5, if_pos c_19, and_self]) rfl
    · refine lv_aload_n hx hb dX0_letSpeak_22 rfl (lv_at hl 1 rfl) ?_
      refine va_get (D := D) (ci := 0) (v := .ref (a 2)) (C := RX0) (T := TX0) (N := 17) hx hb hw0 (fun _ h => h) hown hK hP 0 rfl rfl 11 (by decide) k15 (fun _ h9 => h9) rfl dX0_letSpeak_23 ?_
      refine lv_iload_n hx hb dX0_letSpeak_26 rfl (lv_at hl 2 rfl) ?_
      refine lv_dup2_11 hx hb dX0_letSpeak_27 rfl rfl ?_
      refine wIald hx hb hK hP 2 0 rfl rfl x rfl (by omega) (by decide) dX0_letSpeak_28 ?_
      refine lv_iconst (v := 1) hx hb dX0_letSpeak_29 (by decide) ?_
      refine lv_iadd hx hb dX0_letSpeak_30 ?_
      refine wIast hx hb hK hP hD hS 2 0 rfl rfl x rfl (by omega) (by decide) dX0_letSpeak_31 (fun H locs hP hD hS => ?_)
      have hP : va_P D vwCl (DC cI a f (va_up r 1 (upd (r 1) x (((r 1) x) + 1)))) H := hP
      have hD : va_D A (DC cI a f (va_up r 1 (upd (r 1) x (((r 1) x) + 1)))) := hD
      refine lv_aload_n hx hb dX0_letSpeak_32 rfl (lv_at hl 1 rfl) ?_
      refine lv_iload_n hx hb dX0_letSpeak_33 rfl (lv_at hl 2 rfl) ?_
      refine va_put (D := D) (ci := 0) (v := .int (nI x)) (ty := .int) (C := RX0) (T := TX0) (N := 17) hx hb hw0 (fun _ h => h) tyX0 tyX0_ok nmX0 hown hK hP hD hS 0 rfl rfl 3 (by decide) k47 (fun _ h9 => h9) rfl (by decide +kernel) rfl rfl (Nat.le_of_ble_eq_true rfl) dX0_letSpeak_34 (fun H locs hP hD hS => ?_)
      have hP : va_P D vwCl (DC cI a (upd f 3 (nI x)) (va_up r 1 (upd (r 1) x (((r 1) x) + 1)))) H := hP
      have hD : va_D A (DC cI a (upd f 3 (nI x)) (va_up r 1 (upd (r 1) x (((r 1) x) + 1)))) := hD
      refine lv_aload_n hx hb dX0_letSpeak_37 rfl (lv_at hl 1 rfl) ?_
      refine lv_iload_n hx hb dX0_letSpeak_38 rfl (lv_at hl 3 rfl) ?_
      refine va_put (D := D) (ci := 0) (v := .int secs) (ty := .int) (C := RX0) (T := TX0) (N := 17) hx hb hw0 (fun _ h => h) tyX0 tyX0_ok nmX0 hown hK hP hD hS 0 rfl rfl 4 (by decide) k50 (fun _ h9 => h9) rfl (by decide +kernel) rfl rfl (Nat.le_of_ble_eq_true rfl) dX0_letSpeak_39 (fun H locs hP hD hS => ?_)
      have hP : va_P D vwCl (DC cI a (upd (upd f 3 (nI x)) 4 secs) (va_up r 1 (upd (r 1) x (((r 1) x) + 1)))) H := hP
      have hD : va_D A (DC cI a (upd (upd f 3 (nI x)) 4 secs) (va_up r 1 (upd (r 1) x (((r 1) x) + 1)))) := hD
      refine lv_iload_n hx hb dX0_letSpeak_42 rfl (lv_at hl 0 rfl) ?_
      exact wRi hQ hx hb hr hlocks hP hD hS dX0_letSpeak_43 ((upd (upd f 3 (nI x)) 4 secs), (va_up r 1 (upd (r 1) x (((r 1) x) + 1)))) (by simp only [dInt, dSpeak, ↓reduceIte, if_neg c_5, if_neg c_19, and_self]) rfl
  · refine lv_iconst (v := (-1)) hx hb dX0_letSpeak_8 (by decide) ?_
    refine lv_goto (tgt := 16) hx hb dX0_letSpeak_9 (by decide) ?_
    refine lv_istore_n (lv' := [(3, .int (-1)), (0, .ref (a 0)), (1, .int (nI x)), (2, .int secs)]) hx hb dX0_letSpeak_16 rfl hl (by decide) rfl (fun ls hl => ?_)
    refine lv_iload_n hx hb dX0_letSpeak_17 rfl (lv_at hl 0 rfl) ?_
    refine lv_iconst (v := (-1)) hx hb dX0_letSpeak_18 (by decide) ?_
    refine lv_icmp_eq (tgt := 32) hx hb dX0_letSpeak_19 (by decide) (fun c_19 => ?_) (fun h9 => absurd (by decide) h9)
    refine lv_aload_n hx hb dX0_letSpeak_32 rfl (lv_at hl 1 rfl) ?_
    refine lv_iload_n hx hb dX0_letSpeak_33 rfl (lv_at hl 2 rfl) ?_
    refine va_put (D := D) (ci := 0) (v := .int (nI x)) (ty := .int) (C := RX0) (T := TX0) (N := 17) hx hb hw0 (fun _ h => h) tyX0 tyX0_ok nmX0 hown hK hP hD hS 0 rfl rfl 3 (by decide) k47 (fun _ h9 => h9) rfl (by decide +kernel) rfl rfl (Nat.le_of_ble_eq_true rfl) dX0_letSpeak_34 (fun H locs hP hD hS => ?_)
    have hP : va_P D vwCl (DC cI a (upd f 3 (nI x)) r) H := hP
    have hD : va_D A (DC cI a (upd f 3 (nI x)) r) := hD
    refine lv_aload_n hx hb dX0_letSpeak_37 rfl (lv_at hl 1 rfl) ?_
    refine lv_iload_n hx hb dX0_letSpeak_38 rfl (lv_at hl 3 rfl) ?_
    refine va_put (D := D) (ci := 0) (v := .int secs) (ty := .int) (C := RX0) (T := TX0) (N := 17) hx hb hw0 (fun _ h => h) tyX0 tyX0_ok nmX0 hown hK hP hD hS 0 rfl rfl 4 (by decide) k50 (fun _ h9 => h9) rfl (by decide +kernel) rfl rfl (Nat.le_of_ble_eq_true rfl) dX0_letSpeak_39 (fun H locs hP hD hS => ?_)
    have hP : va_P D vwCl (DC cI a (upd (upd f 3 (nI x)) 4 secs) r) H := hP
    have hD : va_D A (DC cI a (upd (upd f 3 (nI x)) 4 secs) r) := hD
    refine lv_iload_n hx hb dX0_letSpeak_42 rfl (lv_at hl 0 rfl) ?_
    exact wRi hQ hx hb hr hlocks hP hD hS dX0_letSpeak_43 ((upd (upd f 3 (nI x)) 4 secs), r) (by simp only [dInt, dSpeak, ↓reduceIte, if_pos c_5, if_pos c_19, and_self]) rfl
abbrev rmX0_letCough : Room := { frames := 1, cells := 0, slots := 0, locals := 22 }
set_option maxRecDepth 100000 in
set_option maxHeartbeats 4000000 in
/-- letCough -/
theorem mX0_letCough (l : Launch) (D : va_G) (cI : ClassId) (a : Nat → Nat) (f : Nat → Int32) (r : Nat → Nat → Int32) (x : Nat) (wt : Int32) (sz : Nat) (ux : x < 10) : wCt l yX0_letCough wsX0_letCough rmX0_letCough D [(cI, .int)] [.ref (a 0), .int (nI x), .int wt] (DC cI a f r) sz 0 0 (wQi D (fun v (u : dS) => v = dCough f (nI x) wt ∧ u = dLetCough f r x wt) (fun u : dS => DCs cI a u)) := by
  refine wMet cX0_letCough 4 (some .int) (by decide) rfl (Nat.le_of_ble_eq_true rfl) ?_
  intro p e s m args below meth c A Q ls hQ hx hb hr hml hown hlocks hin hts hN hP hK hD hA hS hl
  have hl : lv_has ls 4 [(0, .ref (a 0)), (1, .int (nI x)), (2, .int wt)] := hl
  have hown : s.vm.findClass RX0 = some m.cls := hown
  have hw0 : ∀ w ∈ wsX00, w.before args s = true := fun w h => hts w (List.mem_cons_of_mem _ (List.mem_append_right _ h))
  have k18 := hts (.fieldLink RX0 18 "PauseLedger$Dinner" "coughs" "[I") (by decide +kernel)
  have k21 := hts (.fieldLink RX0 21 "PauseLedger$Dinner" "unsaid" "[I") (by decide +kernel)
  refine lv_aload_n hx hb dX0_letCough_0 rfl (lv_at hl 0 rfl) ?_
  refine lv_iload_n hx hb dX0_letCough_1 rfl (lv_at hl 1 rfl) ?_
  refine lv_iload_n hx hb dX0_letCough_2 rfl (lv_at hl 2 rfl) ?_
  refine wCVi (pre := ([] : va_W)) (Wc := DC cI a f r) (suf := ([] : va_W)) (As := [.int (nI x), .int wt]) (rest := []) ⟨hx, hb, hml, hown, hts⟩ (mX0_unsaidByCough l D cI a f r (nI x) wt _) hN hA hK hS hP hD rfl 0 (r := (RX0, TX0, 17)) rfl rfl (cwV 2 hts gX0_letCough_X0_unsaidByCough rfl rfl rfl (by decide +kernel) ⟨Nat.le_of_ble_eq_true rfl, Nat.le_of_ble_eq_true rfl⟩) rfl hl.1 rfl (Nat.le_of_ble_eq_true rfl) dX0_letCough_3 ⟨Nat.zero_le _, Nat.zero_le _⟩ (fun r_3 u_3 H locs hw hP hD hS => ?_)
  have hw : r_3 = dCough f (nI x) wt := hw
  subst hw
  have hP : va_P D vwCl (DC cI a f r) H := hP
  have hD : va_D A (DC cI a f r) := hD
  refine lv_istore_n (lv' := [(3, .int (dCough f (nI x) wt)), (0, .ref (a 0)), (1, .int (nI x)), (2, .int wt)]) hx hb dX0_letCough_6 rfl hl (by decide) rfl (fun ls hl => ?_)
  refine lv_aload_n hx hb dX0_letCough_7 rfl (lv_at hl 1 rfl) ?_
  refine va_get (D := D) (ci := 0) (v := .ref (a 3)) (C := RX0) (T := TX0) (N := 17) hx hb hw0 (fun _ h => h) hown hK hP 0 rfl rfl 12 (by decide) k18 (fun _ h9 => h9) rfl dX0_letCough_8 ?_
  refine lv_iload_n hx hb dX0_letCough_11 rfl (lv_at hl 2 rfl) ?_
  refine lv_dup2_11 hx hb dX0_letCough_12 rfl rfl ?_
  refine wIald hx hb hK hP 3 0 rfl rfl x rfl (by omega) (by decide) dX0_letCough_13 ?_
  refine lv_iconst (v := 1) hx hb dX0_letCough_14 (by decide) ?_
  refine lv_iadd hx hb dX0_letCough_15 ?_
  refine wIast hx hb hK hP hD hS 3 0 rfl rfl x rfl (by omega) (by decide) dX0_letCough_16 (fun H locs hP hD hS => ?_)
  have hP : va_P D vwCl (DC cI a f (va_up r 2 (upd (r 2) x (((r 2) x) + 1)))) H := hP
  have hD : va_D A (DC cI a f (va_up r 2 (upd (r 2) x (((r 2) x) + 1)))) := hD
  refine lv_aload_n hx hb dX0_letCough_17 rfl (lv_at hl 1 rfl) ?_
  refine va_get (D := D) (ci := 0) (v := .ref (a 4)) (C := RX0) (T := TX0) (N := 17) hx hb hw0 (fun _ h => h) hown hK hP 0 rfl rfl 13 (by decide) k21 (fun _ h9 => h9) rfl dX0_letCough_18 ?_
  refine lv_iload_n hx hb dX0_letCough_21 rfl (lv_at hl 2 rfl) ?_
  refine lv_dup2_11 hx hb dX0_letCough_22 rfl rfl ?_
  refine wIald hx hb hK hP 4 0 rfl rfl x rfl (by omega) (by decide) dX0_letCough_23 ?_
  refine lv_iload_n hx hb dX0_letCough_24 rfl (lv_at hl 0 rfl) ?_
  refine lv_iadd hx hb dX0_letCough_25 ?_
  refine wIast hx hb hK hP hD hS 4 0 rfl rfl x rfl (by omega) (by decide) dX0_letCough_26 (fun H locs hP hD hS => ?_)
  have hP : va_P D vwCl (DC cI a f (va_up (va_up r 2 (upd (r 2) x (((r 2) x) + 1))) 3 (upd (r 3) x (((r 3) x) + (dCough f (nI x) wt))))) H := hP
  have hD : va_D A (DC cI a f (va_up (va_up r 2 (upd (r 2) x (((r 2) x) + 1))) 3 (upd (r 3) x (((r 3) x) + (dCough f (nI x) wt))))) := hD
  refine lv_iload_n hx hb dX0_letCough_27 rfl (lv_at hl 0 rfl) ?_
  exact wRi hQ hx hb hr hlocks hP hD hS dX0_letCough_28 (f, (va_up (va_up r 2 (upd (r 2) x (((r 2) x) + 1))) 3 (upd (r 3) x (((r 3) x) + (dCough f (nI x) wt))))) (⟨rfl, rfl⟩) rfl
abbrev rmX0_send : Room := { frames := 3, cells := 0, slots := 0, locals := 66 }
set_option maxRecDepth 100000 in
set_option maxHeartbeats 4000000 in
/-- send -/
theorem mX0_send (l : Launch) (D : va_G) (cI : ClassId) (a : Nat → Nat) (f : Nat → Int32) (r : Nat → Nat → Int32) (x y n : Nat) (sz : Nat) (ux : x < 10) (uy : y < 10) (hn : f 9 = nI n) (hn1 : n < 100) : wCt l yX0_send wsX0_send rmX0_send D [(cI, .int)] [.ref (a 0), .int (nI x), .int (nI y)] (DC cI a f r) sz 0 0 (wQi D (fun v (u : dS) => v = 2 * dSeats (f 0) (nI x) (nI y) ∧ u = dSend f r x y n) (fun u : dS => DCs cI a u)) := by
  refine wMet cX0_send 4 (some .int) (by decide) rfl (Nat.le_of_ble_eq_true rfl) ?_
  intro p e s m args below meth c A Q ls hQ hx hb hr hml hown hlocks hin hts hN hP hK hD hA hS hl
  have hl : lv_has ls 4 [(0, .ref (a 0)), (1, .int (nI x)), (2, .int (nI y))] := hl
  have hown : s.vm.findClass RX0 = some m.cls := hown
  have hw0 : ∀ w ∈ wsX00, w.before args s = true := fun w h => hts w (List.mem_cons_of_mem _ (List.mem_append_right _ h))
  have k24 := hts (.fieldLink RX0 24 "PauseLedger$Dinner" "toGo" "[I") (by decide +kernel)
  have k30 := hts (.fieldLink RX0 30 "PauseLedger$Dinner" "order" "[I") (by decide +kernel)
  have k65 := hts (.fieldLink RX0 65 "PauseLedger$Dinner" "sent" "I") (by decide +kernel)
  refine lv_iload_n hx hb dX0_send_0 rfl (lv_at hl 1 rfl) ?_
  refine lv_iload_n hx hb dX0_send_1 rfl (lv_at hl 2 rfl) ?_
  refine wCNi (pre := ([] : va_W)) (Wc := ([] : va_W)) (suf := DC cI a f r) (As := [.int (nI x), .int (nI y)]) (rest := []) ⟨hx, hb, hml, hown, hts⟩ (mX1_pairOf l D cI x y _) hN hA hK hS hP hD rfl (⟨va_cnB 2 hts gX0_send_X1_pairOf_n84 rfl rfl rfl hN.1 (hts (.initialized RX1) (by decide +kernel)) (by decide +kernel) ⟨Nat.le_of_ble_eq_true rfl, Nat.le_of_ble_eq_true rfl⟩, hts (.static yX1_pairOf) (by decide +kernel), trivial⟩) rfl hl.1 rfl (Nat.le_of_ble_eq_true rfl) dX0_send_2 ⟨Nat.zero_le _, Nat.zero_le _⟩ (fun r_2 u_2 H locs hw hP hD hS => ?_)
  have hw : r_2 = nI (x * 10 + y) := hw
  subst hw
  have hP : va_P D vwCl (DC cI a f r) H := hP
  have hD : va_D A (DC cI a f r) := hD
  refine lv_istore_n (lv' := [(3, .int (nI (x * 10 + y))), (0, .ref (a 0)), (1, .int (nI x)), (2, .int (nI y))]) hx hb dX0_send_5 rfl hl (by decide) rfl (fun ls hl => ?_)
  refine lv_aload_n hx hb dX0_send_6 rfl (lv_at hl 1 rfl) ?_
  refine va_get (D := D) (ci := 0) (v := .int (f 9)) (C := RX0) (T := TX0) (N := 17) hx hb hw0 (fun _ h => h) hown hK hP 0 rfl rfl 9 (by decide) k65 (fun _ h9 => h9) rfl dX0_send_7 ?_
  refine lv_aload_n hx hb dX0_send_10 rfl (lv_at hl 1 rfl) ?_
  refine va_get (D := D) (ci := 0) (v := .ref (a 7)) (C := RX0) (T := TX0) (N := 17) hx hb hw0 (fun _ h => h) hown hK hP 0 rfl rfl 16 (by decide) k30 (fun _ h9 => h9) rfl dX0_send_11 ?_
  refine va_alen (v := 100) hx hb hK hP 7 0 rfl rfl rfl dX0_send_14 ?_
  refine lv_icmp_ge (tgt := 50) hx hb dX0_send_15 (by decide) (fun h9 => absurd h9 (by rw [hn]; exact nI_ge (b := 100) hn1 (by decide))) (fun c_15 => ?_)
  refine lv_aload_n hx hb dX0_send_18 rfl (lv_at hl 1 rfl) ?_
  refine va_get (D := D) (ci := 0) (v := .ref (a 7)) (C := RX0) (T := TX0) (N := 17) hx hb hw0 (fun _ h => h) hown hK hP 0 rfl rfl 16 (by decide) k30 (fun _ h9 => h9) rfl dX0_send_19 ?_
  refine lv_aload_n hx hb dX0_send_22 rfl (lv_at hl 1 rfl) ?_
  refine va_get (D := D) (ci := 0) (v := .int (f 9)) (C := RX0) (T := TX0) (N := 17) hx hb hw0 (fun _ h => h) hown hK hP 0 rfl rfl 9 (by decide) k65 (fun _ h9 => h9) rfl dX0_send_23 ?_
  refine lv_iload_n hx hb dX0_send_26 rfl (lv_at hl 0 rfl) ?_
  refine wIast hx hb hK hP hD hS 7 0 rfl rfl n hn hn1 (by decide) dX0_send_27 (fun H locs hP hD hS => ?_)
  have hP : va_P D vwCl (DC cI a f (va_up r 6 (upd (r 6) n (nI (x * 10 + y))))) H := hP
  have hD : va_D A (DC cI a f (va_up r 6 (upd (r 6) n (nI (x * 10 + y))))) := hD
  refine lv_aload_n hx hb dX0_send_28 rfl (lv_at hl 1 rfl) ?_
  refine lv_dup hx hb dX0_send_29 rfl ?_
  refine va_get (D := D) (ci := 0) (v := .int (f 9)) (C := RX0) (T := TX0) (N := 17) hx hb hw0 (fun _ h => h) hown hK hP 0 rfl rfl 9 (by decide) k65 (fun _ h9 => h9) rfl dX0_send_30 ?_
  refine lv_iconst (v := 1) hx hb dX0_send_33 (by decide) ?_
  refine lv_iadd hx hb dX0_send_34 ?_
  refine va_put (D := D) (ci := 0) (v := .int ((f 9) + 1)) (ty := .int) (C := RX0) (T := TX0) (N := 17) hx hb hw0 (fun _ h => h) tyX0 tyX0_ok nmX0 hown hK hP hD hS 0 rfl rfl 9 (by decide) k65 (fun _ h9 => h9) rfl (by decide +kernel) rfl rfl (Nat.le_of_ble_eq_true rfl) dX0_send_35 (fun H locs hP hD hS => ?_)
  have hP : va_P D vwCl (DC cI a (upd f 9 ((f 9) + 1)) (va_up r 6 (upd (r 6) n (nI (x * 10 + y))))) H := hP
  have hD : va_D A (DC cI a (upd f 9 ((f 9) + 1)) (va_up r 6 (upd (r 6) n (nI (x * 10 + y))))) := hD
  refine lv_aload_n hx hb dX0_send_38 rfl (lv_at hl 1 rfl) ?_
  refine va_get (D := D) (ci := 0) (v := .ref (a 5)) (C := RX0) (T := TX0) (N := 17) hx hb hw0 (fun _ h => h) hown hK hP 0 rfl rfl 14 (by decide) k24 (fun _ h9 => h9) rfl dX0_send_39 ?_
  refine lv_iload_n hx hb dX0_send_42 rfl (lv_at hl 0 rfl) ?_
  refine lv_aload_n hx hb dX0_send_43 rfl (lv_at hl 1 rfl) ?_
  refine lv_iload_n hx hb dX0_send_44 rfl (lv_at hl 2 rfl) ?_
  refine lv_iload_n hx hb dX0_send_45 rfl (lv_at hl 3 rfl) ?_
  refine wCVi (pre := ([] : va_W)) (Wc := DC cI a (upd f 9 ((f 9) + 1)) (va_up r 6 (upd (r 6) n (nI (x * 10 + y))))) (suf := ([] : va_W)) (As := [.int (nI x), .int (nI y)]) (rest := [.int (nI (x * 10 + y)), .ref (a 5)]) ⟨hx, hb, hml, hown, hts⟩ (mX0_wayOf l D cI a (upd f 9 ((f 9) + 1)) (va_up r 6 (upd (r 6) n (nI (x * 10 + y)))) (nI x) (nI y) _) hN hA hK hS hP hD rfl 0 (r := (RX0, TX0, 17)) rfl rfl (cwV 2 hts gX0_send_X0_wayOf rfl rfl rfl (by decide +kernel) ⟨Nat.le_of_ble_eq_true rfl, Nat.le_of_ble_eq_true rfl⟩) rfl hl.1 rfl (Nat.le_of_ble_eq_true rfl) dX0_send_46 ⟨Nat.zero_le _, Nat.zero_le _⟩ (fun r_46 u_46 H locs hw hP hD hS => ?_)
  have hw : r_46 = 2 * dSeats (f 0) (nI x) (nI y) := hw
  subst hw
  have hP : va_P D vwCl (DC cI a (upd f 9 ((f 9) + 1)) (va_up r 6 (upd (r 6) n (nI (x * 10 + y))))) H := hP
  have hD : va_D A (DC cI a (upd f 9 ((f 9) + 1)) (va_up r 6 (upd (r 6) n (nI (x * 10 + y))))) := hD
  refine wIast hx hb hK hP hD hS 5 0 rfl rfl (x * 10 + y) rfl (by omega) (by decide) dX0_send_49 (fun H locs hP hD hS => ?_)
  have hP : va_P D vwCl (DC cI a (upd f 9 ((f 9) + 1)) (va_up (va_up r 4 (upd (r 4) (x * 10 + y) (2 * dSeats (f 0) (nI x) (nI y)))) 6 (upd (r 6) n (nI (x * 10 + y))))) H := hP
  have hD : va_D A (DC cI a (upd f 9 ((f 9) + 1)) (va_up (va_up r 4 (upd (r 4) (x * 10 + y) (2 * dSeats (f 0) (nI x) (nI y)))) 6 (upd (r 6) n (nI (x * 10 + y))))) := hD
  refine lv_aload_n hx hb dX0_send_50 rfl (lv_at hl 1 rfl) ?_
  refine lv_iload_n hx hb dX0_send_51 rfl (lv_at hl 2 rfl) ?_
  refine lv_iload_n hx hb dX0_send_52 rfl (lv_at hl 3 rfl) ?_
  refine wCVi (pre := ([] : va_W)) (Wc := DC cI a (upd f 9 ((f 9) + 1)) (va_up (va_up r 4 (upd (r 4) (x * 10 + y) (2 * dSeats (f 0) (nI x) (nI y)))) 6 (upd (r 6) n (nI (x * 10 + y))))) (suf := ([] : va_W)) (As := [.int (nI x), .int (nI y)]) (rest := []) ⟨hx, hb, hml, hown, hts⟩ (mX0_wayOf l D cI a (upd f 9 ((f 9) + 1)) (va_up (va_up r 4 (upd (r 4) (x * 10 + y) (2 * dSeats (f 0) (nI x) (nI y)))) 6 (upd (r 6) n (nI (x * 10 + y)))) (nI x) (nI y) _) hN hA hK hS hP hD rfl 0 (r := (RX0, TX0, 17)) rfl rfl (cwV 2 hts gX0_send_X0_wayOf rfl rfl rfl (by decide +kernel) ⟨Nat.le_of_ble_eq_true rfl, Nat.le_of_ble_eq_true rfl⟩) rfl hl.1 rfl (Nat.le_of_ble_eq_true rfl) dX0_send_53 ⟨Nat.zero_le _, Nat.zero_le _⟩ (fun r_53 u_53 H locs hw hP hD hS => ?_)
  have hw : r_53 = 2 * dSeats (f 0) (nI x) (nI y) := hw
  subst hw
  have hP : va_P D vwCl (DC cI a (upd f 9 ((f 9) + 1)) (va_up (va_up r 4 (upd (r 4) (x * 10 + y) (2 * dSeats (f 0) (nI x) (nI y)))) 6 (upd (r 6) n (nI (x * 10 + y))))) H := hP
  have hD : va_D A (DC cI a (upd f 9 ((f 9) + 1)) (va_up (va_up r 4 (upd (r 4) (x * 10 + y) (2 * dSeats (f 0) (nI x) (nI y)))) 6 (upd (r 6) n (nI (x * 10 + y))))) := hD
  exact wRi hQ hx hb hr hlocks hP hD hS dX0_send_56 ((upd f 9 ((f 9) + 1)), (va_up (va_up r 4 (upd (r 4) (x * 10 + y) (2 * dSeats (f 0) (nI x) (nI y)))) 6 (upd (r 6) n (nI (x * 10 + y))))) (⟨rfl, rfl⟩) rfl
abbrev rmX0_speakOrPause : Room := { frames := 1, cells := 0, slots := 0, locals := 21 }
set_option maxRecDepth 100000 in
set_option maxHeartbeats 4000000 in
/-- speakOrPause -/
theorem mX0_speakOrPause (l : Launch) (D : va_G) (cI : ClassId) (a : Nat → Nat) (f : Nat → Int32) (r : Nat → Nat → Int32) (sz : Nat) (hs : f 3 = -1 ∨ ∃ q, q < 10 ∧ f 3 = nI q) : wCt l yX0_speakOrPause wsX0_speakOrPause rmX0_speakOrPause D [(cI, .int)] [.ref (a 0)] (DC cI a f r) sz 0 0 (wQv D (fun u : dS => u = dTalk f r) (fun u : dS => DCs cI a u)) := by
  refine wMet cX0_speakOrPause 1 none (by decide) rfl (Nat.le_of_ble_eq_true rfl) ?_
  intro p e s m args below meth c A Q ls hQ hx hb hr hml hown hlocks hin hts hN hP hK hD hA hS hl
  have hl : lv_has ls 1 [(0, .ref (a 0))] := hl
  have hown : s.vm.findClass RX0 = some m.cls := hown
  have hw0 : ∀ w ∈ wsX00, w.before args s = true := fun w h => hts w (List.mem_cons_of_mem _ (List.mem_append_right _ h))
  have k9 := hts (.fieldLink RX0 9 "PauseLedger$Dinner" "spoken" "[I") (by decide +kernel)
  have k47 := hts (.fieldLink RX0 47 "PauseLedger$Dinner" "speaker" "I") (by decide +kernel)
  have k50 := hts (.fieldLink RX0 50 "PauseLedger$Dinner" "toSpeak" "I") (by decide +kernel)
  have k53 := hts (.fieldLink RX0 53 "PauseLedger$Dinner" "pause" "I") (by decide +kernel)
  have k56 := hts (.fieldLink RX0 56 "PauseLedger$Dinner" "unsaidInPauses" "I") (by decide +kernel)
  refine lv_aload_n hx hb dX0_speakOrPause_0 rfl (lv_at hl 0 rfl) ?_
  refine va_get (D := D) (ci := 0) (v := .int (f 3)) (C := RX0) (T := TX0) (N := 17) hx hb hw0 (fun _ h => h) hown hK hP 0 rfl rfl 3 (by decide) k47 (fun _ h9 => h9) rfl dX0_speakOrPause_1 ?_
  refine lv_iconst (v := (-1)) hx hb dX0_speakOrPause_4 (by decide) ?_
  refine lv_icmp_ne (tgt := 40) hx hb dX0_speakOrPause_5 (by decide) (fun c_5 => ?_) (fun c_5 => ?_)
  · obtain ⟨q, hq, eq⟩ := hs.resolve_left c_5
    have en : dN (f 3) = q := by rw [eq]; exact dN_nI (by omega)
    refine lv_aload_n hx hb dX0_speakOrPause_40 rfl (lv_at hl 0 rfl) ?_
    refine lv_iconst (v := 0) hx hb dX0_speakOrPause_41 (by decide) ?_
    refine va_put (D := D) (ci := 0) (v := .int 0) (ty := .int) (C := RX0) (T := TX0) (N := 17) hx hb hw0 (fun _ h => h) tyX0 tyX0_ok nmX0 hown hK hP hD hS 0 rfl rfl 5 (by decide) k53 (fun _ h9 => h9) rfl (by decide +kernel) rfl rfl (Nat.le_of_ble_eq_true rfl) dX0_speakOrPause_42 (fun H locs hP hD hS => ?_)
    have hP : va_P D vwCl (DC cI a (upd f 5 0) r) H := hP
    have hD : va_D A (DC cI a (upd f 5 0) r) := hD
    refine lv_aload_n hx hb dX0_speakOrPause_45 rfl (lv_at hl 0 rfl) ?_
    refine va_get (D := D) (ci := 0) (v := .ref (a 1)) (C := RX0) (T := TX0) (N := 17) hx hb hw0 (fun _ h => h) hown hK hP 0 rfl rfl 10 (by decide) k9 (fun _ h9 => h9) rfl dX0_speakOrPause_46 ?_
    refine lv_aload_n hx hb dX0_speakOrPause_49 rfl (lv_at hl 0 rfl) ?_
    refine va_get (D := D) (ci := 0) (v := .int (f 3)) (C := RX0) (T := TX0) (N := 17) hx hb hw0 (fun _ h => h) hown hK hP 0 rfl rfl 3 (by decide) k47 (fun _ h9 => h9) rfl dX0_speakOrPause_50 ?_
    refine lv_dup2_11 hx hb dX0_speakOrPause_53 rfl rfl ?_
    refine wIald hx hb hK hP 1 0 rfl rfl q eq hq (by decide) dX0_speakOrPause_54 ?_
    refine lv_iconst (v := 1) hx hb dX0_speakOrPause_55 (by decide) ?_
    refine lv_iadd hx hb dX0_speakOrPause_56 ?_
    refine wIast hx hb hK hP hD hS 1 0 rfl rfl q eq hq (by decide) dX0_speakOrPause_57 (fun H locs hP hD hS => ?_)
    have hP : va_P D vwCl (DC cI a (upd f 5 0) (va_up r 0 (upd (r 0) q (((r 0) q) + 1)))) H := hP
    have hD : va_D A (DC cI a (upd f 5 0) (va_up r 0 (upd (r 0) q (((r 0) q) + 1)))) := hD
    refine lv_aload_n hx hb dX0_speakOrPause_58 rfl (lv_at hl 0 rfl) ?_
    refine lv_dup hx hb dX0_speakOrPause_59 rfl ?_
    refine va_get (D := D) (ci := 0) (v := .int (f 4)) (C := RX0) (T := TX0) (N := 17) hx hb hw0 (fun _ h => h) hown hK hP 0 rfl rfl 4 (by decide) k50 (fun _ h9 => h9) rfl dX0_speakOrPause_60 ?_
    refine lv_iconst (v := 1) hx hb dX0_speakOrPause_63 (by decide) ?_
    refine lv_isub hx hb dX0_speakOrPause_64 ?_
    refine va_put (D := D) (ci := 0) (v := .int ((f 4) - 1)) (ty := .int) (C := RX0) (T := TX0) (N := 17) hx hb hw0 (fun _ h => h) tyX0 tyX0_ok nmX0 hown hK hP hD hS 0 rfl rfl 4 (by decide) k50 (fun _ h9 => h9) rfl (by decide +kernel) rfl rfl (Nat.le_of_ble_eq_true rfl) dX0_speakOrPause_65 (fun H locs hP hD hS => ?_)
    have hP : va_P D vwCl (DC cI a (upd (upd f 4 ((f 4) - 1)) 5 0) (va_up r 0 (upd (r 0) q (((r 0) q) + 1)))) H := hP
    have hD : va_D A (DC cI a (upd (upd f 4 ((f 4) - 1)) 5 0) (va_up r 0 (upd (r 0) q (((r 0) q) + 1)))) := hD
    refine lv_aload_n hx hb dX0_speakOrPause_68 rfl (lv_at hl 0 rfl) ?_
    refine va_get (D := D) (ci := 0) (v := .int ((f 4) - 1)) (C := RX0) (T := TX0) (N := 17) hx hb hw0 (fun _ h => h) hown hK hP 0 rfl rfl 4 (by decide) k50 (fun _ h9 => h9) rfl dX0_speakOrPause_69 ?_
    refine lv_if_ne (tgt := 80) hx hb dX0_speakOrPause_72 (by decide) (fun c_72 => ?_) (fun c_72 => ?_)
    · exact wRv hQ hx hb hr hlocks hP hD hS dX0_speakOrPause_80 ((upd (upd f 4 ((f 4) - 1)) 5 0), (va_up r 0 (upd (r 0) q (((r 0) q) + 1)))) (by simp only [dTalk, if_neg c_5, if_neg c_72, en]) rfl
    · refine lv_aload_n hx hb dX0_speakOrPause_75 rfl (lv_at hl 0 rfl) ?_
      refine lv_iconst (v := (-1)) hx hb dX0_speakOrPause_76 (by decide) ?_
      refine va_put (D := D) (ci := 0) (v := .int (-1)) (ty := .int) (C := RX0) (T := TX0) (N := 17) hx hb hw0 (fun _ h => h) tyX0 tyX0_ok nmX0 hown hK hP hD hS 0 rfl rfl 3 (by decide) k47 (fun _ h9 => h9) rfl (by decide +kernel) rfl rfl (Nat.le_of_ble_eq_true rfl) dX0_speakOrPause_77 (fun H locs hP hD hS => ?_)
      have hP : va_P D vwCl (DC cI a (upd (upd (upd f 3 (-1)) 4 ((f 4) - 1)) 5 0) (va_up r 0 (upd (r 0) q (((r 0) q) + 1)))) H := hP
      have hD : va_D A (DC cI a (upd (upd (upd f 3 (-1)) 4 ((f 4) - 1)) 5 0) (va_up r 0 (upd (r 0) q (((r 0) q) + 1)))) := hD
      exact wRv hQ hx hb hr hlocks hP hD hS dX0_speakOrPause_80 ((upd (upd (upd f 3 (-1)) 4 ((f 4) - 1)) 5 0), (va_up r 0 (upd (r 0) q (((r 0) q) + 1)))) (by simp only [dTalk, if_neg c_5, if_pos c_72, en]) rfl
  · refine lv_aload_n hx hb dX0_speakOrPause_8 rfl (lv_at hl 0 rfl) ?_
    refine lv_dup hx hb dX0_speakOrPause_9 rfl ?_
    refine va_get (D := D) (ci := 0) (v := .int (f 5)) (C := RX0) (T := TX0) (N := 17) hx hb hw0 (fun _ h => h) hown hK hP 0 rfl rfl 5 (by decide) k53 (fun _ h9 => h9) rfl dX0_speakOrPause_10 ?_
    refine lv_iconst (v := 1) hx hb dX0_speakOrPause_13 (by decide) ?_
    refine lv_iadd hx hb dX0_speakOrPause_14 ?_
    refine va_put (D := D) (ci := 0) (v := .int ((f 5) + 1)) (ty := .int) (C := RX0) (T := TX0) (N := 17) hx hb hw0 (fun _ h => h) tyX0 tyX0_ok nmX0 hown hK hP hD hS 0 rfl rfl 5 (by decide) k53 (fun _ h9 => h9) rfl (by decide +kernel) rfl rfl (Nat.le_of_ble_eq_true rfl) dX0_speakOrPause_15 (fun H locs hP hD hS => ?_)
    have hP : va_P D vwCl (DC cI a (upd f 5 ((f 5) + 1)) r) H := hP
    have hD : va_D A (DC cI a (upd f 5 ((f 5) + 1)) r) := hD
    refine lv_aload_n hx hb dX0_speakOrPause_18 rfl (lv_at hl 0 rfl) ?_
    refine lv_aload_n hx hb dX0_speakOrPause_19 rfl (lv_at hl 0 rfl) ?_
    refine va_get (D := D) (ci := 0) (v := .int ((f 5) + 1)) (C := RX0) (T := TX0) (N := 17) hx hb hw0 (fun _ h => h) hown hK hP 0 rfl rfl 5 (by decide) k53 (fun _ h9 => h9) rfl dX0_speakOrPause_20 ?_
    refine wCVi (pre := ([] : va_W)) (Wc := DC cI a (upd f 5 ((f 5) + 1)) r) (suf := ([] : va_W)) (As := [.int ((f 5) + 1)]) (rest := []) ⟨hx, hb, hml, hown, hts⟩ (mX0_beyondMultipleOfLimit l D cI a (upd f 5 ((f 5) + 1)) r ((f 5) + 1) _) hN hA hK hS hP hD rfl 0 (r := (RX0, TX0, 17)) rfl rfl (cwV 1 hts gX0_speakOrPause_X0_beyondMultipleOfLimit rfl rfl rfl (by decide +kernel) ⟨Nat.le_of_ble_eq_true rfl, Nat.le_of_ble_eq_true rfl⟩) rfl hl.1 rfl (Nat.le_of_ble_eq_true rfl) dX0_speakOrPause_23 ⟨Nat.zero_le _, Nat.zero_le _⟩ (fun r_23 u_23 H locs hw hP hD hS => ?_)
    have hw : r_23 = dBm (f 2) ((f 5) + 1) := hw
    subst hw
    have hP : va_P D vwCl (DC cI a (upd f 5 ((f 5) + 1)) r) H := hP
    have hD : va_D A (DC cI a (upd f 5 ((f 5) + 1)) r) := hD
    refine lv_if_ne (tgt := 39) hx hb dX0_speakOrPause_26 (by decide) (fun c_26 => ?_) (fun c_26 => ?_)
    · exact wRv hQ hx hb hr hlocks hP hD hS dX0_speakOrPause_39 ((upd f 5 ((f 5) + 1)), r) (by simp only [dTalk, if_pos c_5, if_neg c_26]) rfl
    · refine lv_aload_n hx hb dX0_speakOrPause_29 rfl (lv_at hl 0 rfl) ?_
      refine lv_dup hx hb dX0_speakOrPause_30 rfl ?_
      refine va_get (D := D) (ci := 0) (v := .int (f 6)) (C := RX0) (T := TX0) (N := 17) hx hb hw0 (fun _ h => h) hown hK hP 0 rfl rfl 6 (by decide) k56 (fun _ h9 => h9) rfl dX0_speakOrPause_31 ?_
      refine lv_iconst (v := 1) hx hb dX0_speakOrPause_34 (by decide) ?_
      refine lv_iadd hx hb dX0_speakOrPause_35 ?_
      refine va_put (D := D) (ci := 0) (v := .int ((f 6) + 1)) (ty := .int) (C := RX0) (T := TX0) (N := 17) hx hb hw0 (fun _ h => h) tyX0 tyX0_ok nmX0 hown hK hP hD hS 0 rfl rfl 6 (by decide) k56 (fun _ h9 => h9) rfl (by decide +kernel) rfl rfl (Nat.le_of_ble_eq_true rfl) dX0_speakOrPause_36 (fun H locs hP hD hS => ?_)
      have hP : va_P D vwCl (DC cI a (upd (upd f 5 ((f 5) + 1)) 6 ((f 6) + 1)) r) H := hP
      have hD : va_D A (DC cI a (upd (upd f 5 ((f 5) + 1)) 6 ((f 6) + 1)) r) := hD
      exact wRv hQ hx hb hr hlocks hP hD hS dX0_speakOrPause_39 ((upd (upd f 5 ((f 5) + 1)) 6 ((f 6) + 1)), r) (by simp only [dTalk, if_pos c_5, if_pos c_26]) rfl
abbrev rmX0_arrive : Room := { frames := 1, cells := 0, slots := 0, locals := 21 }
set_option maxRecDepth 100000 in
set_option maxHeartbeats 4000000 in
/-- arrive -/
theorem mX0_arrive (l : Launch) (D : va_G) (cI : ClassId) (a : Nat → Nat) (f : Nat → Int32) (r : Nat → Nat → Int32) (x y : Nat) (sz : Nat) (ux : x < 10) (uy : y < 10) : wCt l yX0_arrive wsX0_arrive rmX0_arrive D [(cI, .int)] [.ref (a 0), .int (nI x), .int (nI y)] (DC cI a f r) sz 0 0 (wQv D (fun u : dS => u = dArr f r x y) (fun u : dS => DCs cI a u)) := by
  refine wMet cX0_arrive 5 none (by decide) rfl (Nat.le_of_ble_eq_true rfl) ?_
  intro p e s m args below meth c A Q ls hQ hx hb hr hml hown hlocks hin hts hN hP hK hD hA hS hl
  have hl : lv_has ls 5 [(0, .ref (a 0)), (1, .int (nI x)), (2, .int (nI y))] := hl
  have hown : s.vm.findClass RX0 = some m.cls := hown
  have hw0 : ∀ w ∈ wsX00, w.before args s = true := fun w h => hts w (List.mem_cons_of_mem _ (List.mem_append_right _ h))
  have k21 := hts (.fieldLink RX0 21 "PauseLedger$Dinner" "unsaid" "[I") (by decide +kernel)
  have k24 := hts (.fieldLink RX0 24 "PauseLedger$Dinner" "toGo" "[I") (by decide +kernel)
  have k27 := hts (.fieldLink RX0 27 "PauseLedger$Dinner" "caught" "[I") (by decide +kernel)
  have k47 := hts (.fieldLink RX0 47 "PauseLedger$Dinner" "speaker" "I") (by decide +kernel)
  have k59 := hts (.fieldLink RX0 59 "PauseLedger$Dinner" "meetings" "I") (by decide +kernel)
  have k62 := hts (.fieldLink RX0 62 "PauseLedger$Dinner" "lost" "I") (by decide +kernel)
  refine lv_iload_n hx hb dX0_arrive_0 rfl (lv_at hl 1 rfl) ?_
  refine lv_iload_n hx hb dX0_arrive_1 rfl (lv_at hl 2 rfl) ?_
  refine wCNi (pre := ([] : va_W)) (Wc := ([] : va_W)) (suf := DC cI a f r) (As := [.int (nI x), .int (nI y)]) (rest := []) ⟨hx, hb, hml, hown, hts⟩ (mX1_pairOf l D cI x y _) hN hA hK hS hP hD rfl (⟨va_cnB 2 hts gX0_arrive_X1_pairOf_n84 rfl rfl rfl hN.1 (hts (.initialized RX1) (by decide +kernel)) (by decide +kernel) ⟨Nat.le_of_ble_eq_true rfl, Nat.le_of_ble_eq_true rfl⟩, hts (.static yX1_pairOf) (by decide +kernel), trivial⟩) rfl hl.1 rfl (Nat.le_of_ble_eq_true rfl) dX0_arrive_2 ⟨Nat.zero_le _, Nat.zero_le _⟩ (fun r_2 u_2 H locs hw hP hD hS => ?_)
  have hw : r_2 = nI (x * 10 + y) := hw
  subst hw
  have hP : va_P D vwCl (DC cI a f r) H := hP
  have hD : va_D A (DC cI a f r) := hD
  refine lv_istore_n (lv' := [(3, .int (nI (x * 10 + y))), (0, .ref (a 0)), (1, .int (nI x)), (2, .int (nI y))]) hx hb dX0_arrive_5 rfl hl (by decide) rfl (fun ls hl => ?_)
  refine lv_iload_n hx hb dX0_arrive_6 rfl (lv_at hl 3 rfl) ?_
  refine lv_iload_n hx hb dX0_arrive_7 rfl (lv_at hl 2 rfl) ?_
  refine wCNi (pre := ([] : va_W)) (Wc := ([] : va_W)) (suf := DC cI a f r) (As := [.int (nI y), .int (nI x)]) (rest := []) ⟨hx, hb, hml, hown, hts⟩ (mX1_pairOf l D cI y x _) hN hA hK hS hP hD rfl (⟨va_cnB 2 hts gX0_arrive_X1_pairOf_n84 rfl rfl rfl hN.1 (hts (.initialized RX1) (by decide +kernel)) (by decide +kernel) ⟨Nat.le_of_ble_eq_true rfl, Nat.le_of_ble_eq_true rfl⟩, hts (.static yX1_pairOf) (by decide +kernel), trivial⟩) rfl hl.1 rfl (Nat.le_of_ble_eq_true rfl) dX0_arrive_8 ⟨Nat.zero_le _, Nat.zero_le _⟩ (fun r_8 u_8 H locs hw hP hD hS => ?_)
  have hw : r_8 = nI (y * 10 + x) := hw
  subst hw
  have hP : va_P D vwCl (DC cI a f r) H := hP
  have hD : va_D A (DC cI a f r) := hD
  refine lv_istore (lv' := [(4, .int (nI (y * 10 + x))), (3, .int (nI (x * 10 + y))), (0, .ref (a 0)), (1, .int (nI x)), (2, .int (nI y))]) hx hb dX0_arrive_11 hl (by decide) rfl (fun ls hl => ?_)
  refine lv_aload_n hx hb dX0_arrive_13 rfl (lv_at hl 2 rfl) ?_
  refine lv_iload hx hb dX0_arrive_14 (lv_at hl 0 rfl) ?_
  refine wCVi (pre := ([] : va_W)) (Wc := DC cI a f r) (suf := ([] : va_W)) (As := [.int (nI (y * 10 + x))]) (rest := []) ⟨hx, hb, hml, hown, hts⟩ (mX0_isOnItsWay l D cI a f r (y * 10 + x) _ (by omega)) hN hA hK hS hP hD rfl 0 (r := (RX0, TX0, 17)) rfl rfl (cwV 1 hts gX0_arrive_X0_isOnItsWay rfl rfl rfl (by decide +kernel) ⟨Nat.le_of_ble_eq_true rfl, Nat.le_of_ble_eq_true rfl⟩) rfl hl.1 rfl (Nat.le_of_ble_eq_true rfl) dX0_arrive_16 ⟨Nat.zero_le _, Nat.zero_le _⟩ (fun r_16 u_16 H locs hw hP hD hS => ?_)
  have hw : r_16 = if (r 4) (y * 10 + x) = -1 then 0 else 1 := hw
  subst hw
  have hP : va_P D vwCl (DC cI a f r) H := hP
  have hD : va_D A (DC cI a f r) := hD
  refine lv_if_eq (tgt := 63) hx hb dX0_arrive_19 (by decide) (fun c_19 => ?_) (fun c_19 => ?_)
  · have c_19 := ite01.mp c_19
    refine lv_aload_n hx hb dX0_arrive_63 rfl (lv_at hl 2 rfl) ?_
    refine va_get (D := D) (ci := 0) (v := .int (f 3)) (C := RX0) (T := TX0) (N := 17) hx hb hw0 (fun _ h => h) hown hK hP 0 rfl rfl 3 (by decide) k47 (fun _ h9 => h9) rfl dX0_arrive_64 ?_
    refine lv_iload_n hx hb dX0_arrive_67 rfl (lv_at hl 4 rfl) ?_
    refine lv_icmp_ne (tgt := 84) hx hb dX0_arrive_68 (by decide) (fun c_68 => ?_) (fun c_68 => ?_)
    · refine lv_aload_n hx hb dX0_arrive_84 rfl (lv_at hl 2 rfl) ?_
      refine va_get (D := D) (ci := 0) (v := .ref (a 6)) (C := RX0) (T := TX0) (N := 17) hx hb hw0 (fun _ h => h) hown hK hP 0 rfl rfl 15 (by decide) k27 (fun _ h9 => h9) rfl dX0_arrive_85 ?_
      refine lv_iload_n hx hb dX0_arrive_88 rfl (lv_at hl 1 rfl) ?_
      refine lv_dup2_11 hx hb dX0_arrive_89 rfl rfl ?_
      refine wIald hx hb hK hP 6 0 rfl rfl (x * 10 + y) rfl (by omega) (by decide) dX0_arrive_90 ?_
      refine lv_iconst (v := 1) hx hb dX0_arrive_91 (by decide) ?_
      refine lv_iadd hx hb dX0_arrive_92 ?_
      refine wIast hx hb hK hP hD hS 6 0 rfl rfl (x * 10 + y) rfl (by omega) (by decide) dX0_arrive_93 (fun H locs hP hD hS => ?_)
      have hP : va_P D vwCl (DC cI a f (va_up r 5 (upd (r 5) (x * 10 + y) (((r 5) (x * 10 + y)) + 1)))) H := hP
      have hD : va_D A (DC cI a f (va_up r 5 (upd (r 5) (x * 10 + y) (((r 5) (x * 10 + y)) + 1)))) := hD
      refine lv_aload_n hx hb dX0_arrive_94 rfl (lv_at hl 2 rfl) ?_
      refine va_get (D := D) (ci := 0) (v := .ref (a 4)) (C := RX0) (T := TX0) (N := 17) hx hb hw0 (fun _ h => h) hown hK hP 0 rfl rfl 13 (by decide) k21 (fun _ h9 => h9) rfl dX0_arrive_95 ?_
      refine lv_iload_n hx hb dX0_arrive_98 rfl (lv_at hl 3 rfl) ?_
      refine lv_dup2_11 hx hb dX0_arrive_99 rfl rfl ?_
      refine wIald hx hb hK hP 4 0 rfl rfl x rfl (by omega) (by decide) dX0_arrive_100 ?_
      refine lv_iconst (v := 1) hx hb dX0_arrive_101 (by decide) ?_
      refine lv_iadd hx hb dX0_arrive_102 ?_
      refine wIast hx hb hK hP hD hS 4 0 rfl rfl x rfl (by omega) (by decide) dX0_arrive_103 (fun H locs hP hD hS => ?_)
      have hP : va_P D vwCl (DC cI a f (va_up (va_up r 3 (upd (r 3) x (((r 3) x) + 1))) 5 (upd (r 5) (x * 10 + y) (((r 5) (x * 10 + y)) + 1)))) H := hP
      have hD : va_D A (DC cI a f (va_up (va_up r 3 (upd (r 3) x (((r 3) x) + 1))) 5 (upd (r 5) (x * 10 + y) (((r 5) (x * 10 + y)) + 1)))) := hD
      refine lv_aload_n hx hb dX0_arrive_104 rfl (lv_at hl 2 rfl) ?_
      refine va_get (D := D) (ci := 0) (v := .ref (a 5)) (C := RX0) (T := TX0) (N := 17) hx hb hw0 (fun _ h => h) hown hK hP 0 rfl rfl 14 (by decide) k24 (fun _ h9 => h9) rfl dX0_arrive_105 ?_
      refine lv_iload_n hx hb dX0_arrive_108 rfl (lv_at hl 1 rfl) ?_
      refine lv_iconst (v := (-1)) hx hb dX0_arrive_109 (by decide) ?_
      refine wIast hx hb hK hP hD hS 5 0 rfl rfl (x * 10 + y) rfl (by omega) (by decide) dX0_arrive_110 (fun H locs hP hD hS => ?_)
      have hP : va_P D vwCl (DC cI a f (va_up (va_up (va_up r 3 (upd (r 3) x (((r 3) x) + 1))) 4 (upd (r 4) (x * 10 + y) (-1))) 5 (upd (r 5) (x * 10 + y) (((r 5) (x * 10 + y)) + 1)))) H := hP
      have hD : va_D A (DC cI a f (va_up (va_up (va_up r 3 (upd (r 3) x (((r 3) x) + 1))) 4 (upd (r 4) (x * 10 + y) (-1))) 5 (upd (r 5) (x * 10 + y) (((r 5) (x * 10 + y)) + 1)))) := hD
      exact wRv hQ hx hb hr hlocks hP hD hS dX0_arrive_111 (f, (va_up (va_up (va_up r 3 (upd (r 3) x (((r 3) x) + 1))) 4 (upd (r 4) (x * 10 + y) (-1))) 5 (upd (r 5) (x * 10 + y) (((r 5) (x * 10 + y)) + 1)))) (by simp only [dArr, if_pos c_19, if_neg c_68]) rfl
    · refine lv_aload_n hx hb dX0_arrive_71 rfl (lv_at hl 2 rfl) ?_
      refine lv_dup hx hb dX0_arrive_72 rfl ?_
      refine va_get (D := D) (ci := 0) (v := .int (f 8)) (C := RX0) (T := TX0) (N := 17) hx hb hw0 (fun _ h => h) hown hK hP 0 rfl rfl 8 (by decide) k62 (fun _ h9 => h9) rfl dX0_arrive_73 ?_
      refine lv_iconst (v := 1) hx hb dX0_arrive_76 (by decide) ?_
      refine lv_iadd hx hb dX0_arrive_77 ?_
      refine va_put (D := D) (ci := 0) (v := .int ((f 8) + 1)) (ty := .int) (C := RX0) (T := TX0) (N := 17) hx hb hw0 (fun _ h => h) tyX0 tyX0_ok nmX0 hown hK hP hD hS 0 rfl rfl 8 (by decide) k62 (fun _ h9 => h9) rfl (by decide +kernel) rfl rfl (Nat.le_of_ble_eq_true rfl) dX0_arrive_78 (fun H locs hP hD hS => ?_)
      have hP : va_P D vwCl (DC cI a (upd f 8 ((f 8) + 1)) r) H := hP
      have hD : va_D A (DC cI a (upd f 8 ((f 8) + 1)) r) := hD
      refine lv_goto (tgt := 104) hx hb dX0_arrive_81 (by decide) ?_
      refine lv_aload_n hx hb dX0_arrive_104 rfl (lv_at hl 2 rfl) ?_
      refine va_get (D := D) (ci := 0) (v := .ref (a 5)) (C := RX0) (T := TX0) (N := 17) hx hb hw0 (fun _ h => h) hown hK hP 0 rfl rfl 14 (by decide) k24 (fun _ h9 => h9) rfl dX0_arrive_105 ?_
      refine lv_iload_n hx hb dX0_arrive_108 rfl (lv_at hl 1 rfl) ?_
      refine lv_iconst (v := (-1)) hx hb dX0_arrive_109 (by decide) ?_
      refine wIast hx hb hK hP hD hS 5 0 rfl rfl (x * 10 + y) rfl (by omega) (by decide) dX0_arrive_110 (fun H locs hP hD hS => ?_)
      have hP : va_P D vwCl (DC cI a (upd f 8 ((f 8) + 1)) (va_up r 4 (upd (r 4) (x * 10 + y) (-1)))) H := hP
      have hD : va_D A (DC cI a (upd f 8 ((f 8) + 1)) (va_up r 4 (upd (r 4) (x * 10 + y) (-1)))) := hD
      exact wRv hQ hx hb hr hlocks hP hD hS dX0_arrive_111 ((upd f 8 ((f 8) + 1)), (va_up r 4 (upd (r 4) (x * 10 + y) (-1)))) (by simp only [dArr, if_pos c_19, if_pos c_68]) rfl
  · have c_19 := ite01n.mp c_19
    refine lv_aload_n hx hb dX0_arrive_22 rfl (lv_at hl 2 rfl) ?_
    refine lv_dup hx hb dX0_arrive_23 rfl ?_
    refine va_get (D := D) (ci := 0) (v := .int (f 7)) (C := RX0) (T := TX0) (N := 17) hx hb hw0 (fun _ h => h) hown hK hP 0 rfl rfl 7 (by decide) k59 (fun _ h9 => h9) rfl dX0_arrive_24 ?_
    refine lv_iconst (v := 1) hx hb dX0_arrive_27 (by decide) ?_
    refine lv_iadd hx hb dX0_arrive_28 ?_
    refine va_put (D := D) (ci := 0) (v := .int ((f 7) + 1)) (ty := .int) (C := RX0) (T := TX0) (N := 17) hx hb hw0 (fun _ h => h) tyX0 tyX0_ok nmX0 hown hK hP hD hS 0 rfl rfl 7 (by decide) k59 (fun _ h9 => h9) rfl (by decide +kernel) rfl rfl (Nat.le_of_ble_eq_true rfl) dX0_arrive_29 (fun H locs hP hD hS => ?_)
    have hP : va_P D vwCl (DC cI a (upd f 7 ((f 7) + 1)) r) H := hP
    have hD : va_D A (DC cI a (upd f 7 ((f 7) + 1)) r) := hD
    refine lv_aload_n hx hb dX0_arrive_32 rfl (lv_at hl 2 rfl) ?_
    refine va_get (D := D) (ci := 0) (v := .ref (a 4)) (C := RX0) (T := TX0) (N := 17) hx hb hw0 (fun _ h => h) hown hK hP 0 rfl rfl 13 (by decide) k21 (fun _ h9 => h9) rfl dX0_arrive_33 ?_
    refine lv_iload_n hx hb dX0_arrive_36 rfl (lv_at hl 3 rfl) ?_
    refine lv_dup2_11 hx hb dX0_arrive_37 rfl rfl ?_
    refine wIald hx hb hK hP 4 0 rfl rfl x rfl (by omega) (by decide) dX0_arrive_38 ?_
    refine lv_iconst (v := 3) hx hb dX0_arrive_39 (by decide) ?_
    refine lv_iadd hx hb dX0_arrive_40 ?_
    refine wIast hx hb hK hP hD hS 4 0 rfl rfl x rfl (by omega) (by decide) dX0_arrive_41 (fun H locs hP hD hS => ?_)
    have hP : va_P D vwCl (DC cI a (upd f 7 ((f 7) + 1)) (va_up r 3 (upd (r 3) x (((r 3) x) + 3)))) H := hP
    have hD : va_D A (DC cI a (upd f 7 ((f 7) + 1)) (va_up r 3 (upd (r 3) x (((r 3) x) + 3)))) := hD
    refine lv_aload_n hx hb dX0_arrive_42 rfl (lv_at hl 2 rfl) ?_
    refine va_get (D := D) (ci := 0) (v := .ref (a 4)) (C := RX0) (T := TX0) (N := 17) hx hb hw0 (fun _ h => h) hown hK hP 0 rfl rfl 13 (by decide) k21 (fun _ h9 => h9) rfl dX0_arrive_43 ?_
    refine lv_iload_n hx hb dX0_arrive_46 rfl (lv_at hl 4 rfl) ?_
    refine lv_dup2_11 hx hb dX0_arrive_47 rfl rfl ?_
    refine wIald hx hb hK hP 4 0 rfl rfl y rfl (by omega) (by decide) dX0_arrive_48 ?_
    refine lv_iconst (v := 3) hx hb dX0_arrive_49 (by decide) ?_
    refine lv_iadd hx hb dX0_arrive_50 ?_
    refine wIast hx hb hK hP hD hS 4 0 rfl rfl y rfl (by omega) (by decide) dX0_arrive_51 (fun H locs hP hD hS => ?_)
    have hP : va_P D vwCl (DC cI a (upd f 7 ((f 7) + 1)) (va_up r 3 (upd (upd (r 3) x (((r 3) x) + 3)) y (((upd (r 3) x (((r 3) x) + 3)) y) + 3)))) H := hP
    have hD : va_D A (DC cI a (upd f 7 ((f 7) + 1)) (va_up r 3 (upd (upd (r 3) x (((r 3) x) + 3)) y (((upd (r 3) x (((r 3) x) + 3)) y) + 3)))) := hD
    refine lv_aload_n hx hb dX0_arrive_52 rfl (lv_at hl 2 rfl) ?_
    refine va_get (D := D) (ci := 0) (v := .ref (a 5)) (C := RX0) (T := TX0) (N := 17) hx hb hw0 (fun _ h => h) hown hK hP 0 rfl rfl 14 (by decide) k24 (fun _ h9 => h9) rfl dX0_arrive_53 ?_
    refine lv_iload hx hb dX0_arrive_56 (lv_at hl 0 rfl) ?_
    refine lv_iconst (v := (-1)) hx hb dX0_arrive_58 (by decide) ?_
    refine wIast hx hb hK hP hD hS 5 0 rfl rfl (y * 10 + x) rfl (by omega) (by decide) dX0_arrive_59 (fun H locs hP hD hS => ?_)
    have hP : va_P D vwCl (DC cI a (upd f 7 ((f 7) + 1)) (va_up (va_up r 3 (upd (upd (r 3) x (((r 3) x) + 3)) y (((upd (r 3) x (((r 3) x) + 3)) y) + 3))) 4 (upd (r 4) (y * 10 + x) (-1)))) H := hP
    have hD : va_D A (DC cI a (upd f 7 ((f 7) + 1)) (va_up (va_up r 3 (upd (upd (r 3) x (((r 3) x) + 3)) y (((upd (r 3) x (((r 3) x) + 3)) y) + 3))) 4 (upd (r 4) (y * 10 + x) (-1)))) := hD
    refine lv_goto (tgt := 104) hx hb dX0_arrive_60 (by decide) ?_
    refine lv_aload_n hx hb dX0_arrive_104 rfl (lv_at hl 2 rfl) ?_
    refine va_get (D := D) (ci := 0) (v := .ref (a 5)) (C := RX0) (T := TX0) (N := 17) hx hb hw0 (fun _ h => h) hown hK hP 0 rfl rfl 14 (by decide) k24 (fun _ h9 => h9) rfl dX0_arrive_105 ?_
    refine lv_iload_n hx hb dX0_arrive_108 rfl (lv_at hl 1 rfl) ?_
    refine lv_iconst (v := (-1)) hx hb dX0_arrive_109 (by decide) ?_
    refine wIast hx hb hK hP hD hS 5 0 rfl rfl (x * 10 + y) rfl (by omega) (by decide) dX0_arrive_110 (fun H locs hP hD hS => ?_)
    have hP : va_P D vwCl (DC cI a (upd f 7 ((f 7) + 1)) (va_up (va_up r 3 (upd (upd (r 3) x (((r 3) x) + 3)) y (((upd (r 3) x (((r 3) x) + 3)) y) + 3))) 4 (upd (upd (r 4) (y * 10 + x) (-1)) (x * 10 + y) (-1)))) H := hP
    have hD : va_D A (DC cI a (upd f 7 ((f 7) + 1)) (va_up (va_up r 3 (upd (upd (r 3) x (((r 3) x) + 3)) y (((upd (r 3) x (((r 3) x) + 3)) y) + 3))) 4 (upd (upd (r 4) (y * 10 + x) (-1)) (x * 10 + y) (-1)))) := hD
    exact wRv hQ hx hb hr hlocks hP hD hS dX0_arrive_111 ((upd f 7 ((f 7) + 1)), (va_up (va_up r 3 (upd (upd (r 3) x (((r 3) x) + 3)) y (((upd (r 3) x (((r 3) x) + 3)) y) + 3))) 4 (upd (upd (r 4) (y * 10 + x) (-1)) (x * 10 + y) (-1)))) (by simp only [dArr, if_neg c_19]) rfl
abbrev rmX0_forgetThoseOver : Room := { frames := 1, cells := 0, slots := 0, locals := 21 }
set_option maxRecDepth 100000 in
set_option maxHeartbeats 4000000 in
/-- forgetThoseOver -/
theorem mX0_forgetThoseOver (l : Launch) (D : va_G) (cI : ClassId) (a : Nat → Nat) (f : Nat → Int32) (r : Nat → Nat → Int32) (L : List Nat) (sz : Nat) (hn : f 9 = nI L.length) (ho : oR (r 6) L) (ht : ∀ p ∈ L, p < 100) (hc : L.length ≤ 100) : wCt l yX0_forgetThoseOver wsX0_forgetThoseOver rmX0_forgetThoseOver D [(cI, .int)] [.ref (a 0)] (DC cI a f r) sz 0 0 (wQv D (fun u : dS => u = dForget f r L) (fun u : dS => DCs cI a u)) := by
  refine wMet cX0_forgetThoseOver 4 none (by decide) rfl (Nat.le_of_ble_eq_true rfl) ?_
  intro p e s m args below meth c A Q ls hQ hx hb hr hml hown hlocks hin hts hN hP hK hD hA hS hl
  have hl : lv_has ls 4 [(0, .ref (a 0))] := hl
  have hown : s.vm.findClass RX0 = some m.cls := hown
  have hw0 : ∀ w ∈ wsX00, w.before args s = true := fun w h => hts w (List.mem_cons_of_mem _ (List.mem_append_right _ h))
  have k30 := hts (.fieldLink RX0 30 "PauseLedger$Dinner" "order" "[I") (by decide +kernel)
  have k65 := hts (.fieldLink RX0 65 "PauseLedger$Dinner" "sent" "I") (by decide +kernel)
  refine lv_iconst (v := 0) hx hb dX0_forgetThoseOver_0 (by decide) ?_
  refine lv_istore_n (lv' := [(1, .int 0), (0, .ref (a 0))]) hx hb dX0_forgetThoseOver_1 rfl hl (by decide) rfl (fun ls hl => ?_)
  refine lv_iconst (v := 0) hx hb dX0_forgetThoseOver_2 (by decide) ?_
  refine lv_istore_n (lv' := [(2, .int 0), (1, .int 0), (0, .ref (a 0))]) hx hb dX0_forgetThoseOver_3 rfl hl (by decide) rfl (fun ls hl => ?_)
  have loop4 : ∀ (j i4 : Nat), i4 + j = L.length → ∀ (H : Heap) (locs : List Loc) (ls : Array Slot), va_P D vwCl (DC cI a f (va_up r 6 (dFgt (r 4) (r 6) L i4).2)) H → va_D A (DC cI a f (va_up r 6 (dFgt (r 4) (r 6) L i4).2)) → va_S A s.heap H locs → lv_has ls 4 [(2, .int (nI i4)), (1, .int (nI (dFgt (r 4) (r 6) L i4).1)), (0, .ref (a 0))] → W p l e rmX0_forgetThoseOver s m args below meth c H locs 0 0 Q (F0 m 4 ls []) := by
    intro j
    induction j with
    | zero =>
      intro i4 hi4 H locs ls hP hD hS hl
      have ez : L.length = i4 := by omega
      subst ez
      refine lv_iload_n hx hb dX0_forgetThoseOver_4 rfl (lv_at hl 0 rfl) ?_
      refine lv_aload_n hx hb dX0_forgetThoseOver_5 rfl (lv_at hl 2 rfl) ?_
      refine va_get (D := D) (ci := 0) (v := .int (f 9)) (C := RX0) (T := TX0) (N := 17) hx hb hw0 (fun _ h => h) hown hK hP 0 rfl rfl 9 (by decide) k65 (fun _ h9 => h9) rfl dX0_forgetThoseOver_6 ?_
      refine lv_icmp_ge (tgt := 43) hx hb dX0_forgetThoseOver_9 (by decide) (fun c_9 => ?_) (fun h9 => absurd (by rw [hn]; exact nI_le (Nat.le_refl _) (by omega)) h9)
      refine lv_aload_n hx hb dX0_forgetThoseOver_43 rfl (lv_at hl 2 rfl) ?_
      refine lv_iload_n hx hb dX0_forgetThoseOver_44 rfl (lv_at hl 1 rfl) ?_
      refine va_put (D := D) (ci := 0) (v := .int (nI (dFgt (r 4) (r 6) L L.length).1)) (ty := .int) (C := RX0) (T := TX0) (N := 17) hx hb hw0 (fun _ h => h) tyX0 tyX0_ok nmX0 hown hK hP hD hS 0 rfl rfl 9 (by decide) k65 (fun _ h9 => h9) rfl (by decide +kernel) rfl rfl (Nat.le_of_ble_eq_true rfl) dX0_forgetThoseOver_45 (fun H locs hP hD hS => ?_)
      have hP : va_P D vwCl (DC cI a (upd f 9 (nI (dFgt (r 4) (r 6) L L.length).1)) (va_up r 6 (dFgt (r 4) (r 6) L L.length).2)) H := hP
      have hD : va_D A (DC cI a (upd f 9 (nI (dFgt (r 4) (r 6) L L.length).1)) (va_up r 6 (dFgt (r 4) (r 6) L L.length).2)) := hD
      exact wRv hQ hx hb hr hlocks hP hD hS dX0_forgetThoseOver_48 ((upd f 9 (nI (dFgt (r 4) (r 6) L L.length).1)), (va_up r 6 (dFgt (r 4) (r 6) L L.length).2)) (rfl) rfl
    | succ j ih4 =>
      intro i4 hi4 H locs ls hP hD hS hl
      have hk4 := dFgt_le (r 4) (r 6) L i4
      have hp4 := dgt ht i4
      refine lv_iload_n hx hb dX0_forgetThoseOver_4 rfl (lv_at hl 0 rfl) ?_
      refine lv_aload_n hx hb dX0_forgetThoseOver_5 rfl (lv_at hl 2 rfl) ?_
      refine va_get (D := D) (ci := 0) (v := .int (f 9)) (C := RX0) (T := TX0) (N := 17) hx hb hw0 (fun _ h => h) hown hK hP 0 rfl rfl 9 (by decide) k65 (fun _ h9 => h9) rfl dX0_forgetThoseOver_6 ?_
      refine lv_icmp_ge (tgt := 43) hx hb dX0_forgetThoseOver_9 (by decide) (fun h9 => absurd h9 (by rw [hn]; exact nI_ge (by omega) (by omega))) (fun c_9 => ?_)
      refine lv_aload_n hx hb dX0_forgetThoseOver_12 rfl (lv_at hl 2 rfl) ?_
      refine va_get (D := D) (ci := 0) (v := .ref (a 7)) (C := RX0) (T := TX0) (N := 17) hx hb hw0 (fun _ h => h) hown hK hP 0 rfl rfl 16 (by decide) k30 (fun _ h9 => h9) rfl dX0_forgetThoseOver_13 ?_
      refine lv_iload_n hx hb dX0_forgetThoseOver_16 rfl (lv_at hl 0 rfl) ?_
      refine wIald hx hb hK hP 7 0 rfl rfl i4 rfl (by omega) (by decide) dX0_forgetThoseOver_17 ?_
      refine wTop (z := nI (L.getD i4 0)) (dFgt_get ho (by omega)) ?_
      refine lv_istore_n (lv' := [(3, .int (nI (L.getD i4 0))), (2, .int (nI i4)), (1, .int (nI (dFgt (r 4) (r 6) L i4).1)), (0, .ref (a 0))]) hx hb dX0_forgetThoseOver_18 rfl hl (by decide) rfl (fun ls hl => ?_)
      refine lv_aload_n hx hb dX0_forgetThoseOver_19 rfl (lv_at hl 3 rfl) ?_
      refine lv_iload_n hx hb dX0_forgetThoseOver_20 rfl (lv_at hl 0 rfl) ?_
      refine wCVi (pre := ([] : va_W)) (Wc := DC cI a f (va_up r 6 (dFgt (r 4) (r 6) L i4).2)) (suf := ([] : va_W)) (As := [.int (nI (L.getD i4 0))]) (rest := []) ⟨hx, hb, hml, hown, hts⟩ (mX0_isOnItsWay l D cI a f (va_up r 6 (dFgt (r 4) (r 6) L i4).2) (L.getD i4 0) _ hp4) hN hA hK hS hP hD rfl 0 (r := (RX0, TX0, 17)) rfl rfl (cwV 1 hts gX0_forgetThoseOver_X0_isOnItsWay rfl rfl rfl (by decide +kernel) ⟨Nat.le_of_ble_eq_true rfl, Nat.le_of_ble_eq_true rfl⟩) rfl hl.1 rfl (Nat.le_of_ble_eq_true rfl) dX0_forgetThoseOver_21 ⟨Nat.zero_le _, Nat.zero_le _⟩ (fun r_21 u_21 H locs hw hP hD hS => ?_)
      have hw : r_21 = if (r 4) (L.getD i4 0) = -1 then 0 else 1 := hw
      subst hw
      have hP : va_P D vwCl (DC cI a f (va_up r 6 (dFgt (r 4) (r 6) L i4).2)) H := hP
      have hD : va_D A (DC cI a f (va_up r 6 (dFgt (r 4) (r 6) L i4).2)) := hD
      refine lv_if_eq (tgt := 37) hx hb dX0_forgetThoseOver_24 (by decide) (fun c_24 => ?_) (fun c_24 => ?_)
      · have c_24 := ite01.mp c_24
        refine lv_iinc (v := nI (i4 + 1)) (lv' := [(2, .int (nI (i4 + 1))), (3, .int (nI (L.getD i4 0))), (1, .int (nI (dFgt (r 4) (r 6) L i4).1)), (0, .ref (a 0))]) hx hb dX0_forgetThoseOver_37 hl (k := 1) rfl (nI_1 i4) (by decide) rfl (fun ls hl => ?_)
        refine lv_goto (tgt := 4) hx hb dX0_forgetThoseOver_40 (by decide) ?_
        have e4 : dFgt (r 4) (r 6) L (i4 + 1) = dFgt (r 4) (r 6) L i4 := by simp only [dFgt, if_pos c_24]
        have hP : va_P D vwCl (DC cI a f (va_up r 6 (dFgt (r 4) (r 6) L (i4 + 1)).2)) H := by rw [e4]; exact hP
        have hD : va_D A (DC cI a f (va_up r 6 (dFgt (r 4) (r 6) L (i4 + 1)).2)) := by rw [e4]; exact hD
        have hl : lv_has ls 4 [(2, .int (nI (i4 + 1))), (3, .int (nI (L.getD i4 0))), (1, .int (nI (dFgt (r 4) (r 6) L (i4 + 1)).1)), (0, .ref (a 0))] := by rw [e4]; exact hl
        exact ih4 (i4 + 1) (by omega) _ _ _ hP hD hS (lv_sub hl [0, 2, 3] rfl)
      · have c_24 := ite01n.mp c_24
        refine lv_aload_n hx hb dX0_forgetThoseOver_27 rfl (lv_at hl 3 rfl) ?_
        refine va_get (D := D) (ci := 0) (v := .ref (a 7)) (C := RX0) (T := TX0) (N := 17) hx hb hw0 (fun _ h => h) hown hK hP 0 rfl rfl 16 (by decide) k30 (fun _ h9 => h9) rfl dX0_forgetThoseOver_28 ?_
        refine lv_iload_n hx hb dX0_forgetThoseOver_31 rfl (lv_at hl 2 rfl) ?_
        refine lv_iload_n hx hb dX0_forgetThoseOver_32 rfl (lv_at hl 0 rfl) ?_
        refine wIast hx hb hK hP hD hS 7 0 rfl rfl (dFgt (r 4) (r 6) L i4).1 rfl (by omega) (by decide) dX0_forgetThoseOver_33 (fun H locs hP hD hS => ?_)
        have hP : va_P D vwCl (DC cI a f (va_up r 6 (upd (dFgt (r 4) (r 6) L i4).2 (dFgt (r 4) (r 6) L i4).1 (nI (L.getD i4 0))))) H := hP
        have hD : va_D A (DC cI a f (va_up r 6 (upd (dFgt (r 4) (r 6) L i4).2 (dFgt (r 4) (r 6) L i4).1 (nI (L.getD i4 0))))) := hD
        refine lv_iinc (v := nI ((dFgt (r 4) (r 6) L i4).1 + 1)) (lv' := [(1, .int (nI ((dFgt (r 4) (r 6) L i4).1 + 1))), (3, .int (nI (L.getD i4 0))), (2, .int (nI i4)), (0, .ref (a 0))]) hx hb dX0_forgetThoseOver_34 hl (k := 2) rfl (nI_1 (dFgt (r 4) (r 6) L i4).1) (by decide) rfl (fun ls hl => ?_)
        refine lv_iinc (v := nI (i4 + 1)) (lv' := [(2, .int (nI (i4 + 1))), (1, .int (nI ((dFgt (r 4) (r 6) L i4).1 + 1))), (3, .int (nI (L.getD i4 0))), (0, .ref (a 0))]) hx hb dX0_forgetThoseOver_37 hl (k := 2) rfl (nI_1 i4) (by decide) rfl (fun ls hl => ?_)
        refine lv_goto (tgt := 4) hx hb dX0_forgetThoseOver_40 (by decide) ?_
        have e4 : dFgt (r 4) (r 6) L (i4 + 1) = ((dFgt (r 4) (r 6) L i4).1 + 1, upd (dFgt (r 4) (r 6) L i4).2 (dFgt (r 4) (r 6) L i4).1 (nI (L.getD i4 0))) := by simp only [dFgt, if_neg c_24]
        have hP : va_P D vwCl (DC cI a f (va_up r 6 (dFgt (r 4) (r 6) L (i4 + 1)).2)) H := by rw [e4]; exact hP
        have hD : va_D A (DC cI a f (va_up r 6 (dFgt (r 4) (r 6) L (i4 + 1)).2)) := by rw [e4]; exact hD
        have hl : lv_has ls 4 [(2, .int (nI (i4 + 1))), (1, .int (nI (dFgt (r 4) (r 6) L (i4 + 1)).1)), (3, .int (nI (L.getD i4 0))), (0, .ref (a 0))] := by rw [e4]; exact hl
        exact ih4 (i4 + 1) (by omega) _ _ _ hP hD hS (lv_sub hl [0, 1, 3] rfl)
  exact loop4 L.length 0 (by omega) _ _ _ hP hD hS (lv_sub hl [0, 1, 2] rfl)
abbrev rmX0_moveGlances : Room := { frames := 2, cells := 0, slots := 0, locals := 45 }
set_option maxRecDepth 100000 in
set_option maxHeartbeats 4000000 in
/-- moveGlances -/
theorem mX0_moveGlances (l : Launch) (D : va_G) (cI : ClassId) (a : Nat → Nat) (f : Nat → Int32) (r : Nat → Nat → Int32) (L : List Nat) (sz : Nat) (hn : f 9 = nI L.length) (ho : oR (r 6) L) (ht : ∀ p ∈ L, p < 100) (hc : L.length ≤ 100) : wCt l yX0_moveGlances wsX0_moveGlances rmX0_moveGlances D [(cI, .int)] [.ref (a 0)] (DC cI a f r) sz 0 0 (wQv D (fun u : dS => u = dMove f r L) (fun u : dS => DCs cI a u)) := by
  refine wMet cX0_moveGlances 3 none (by decide) rfl (Nat.le_of_ble_eq_true rfl) ?_
  intro p e s m args below meth c A Q ls hQ hx hb hr hml hown hlocks hin hts hN hP hK hD hA hS hl
  have hl : lv_has ls 3 [(0, .ref (a 0))] := hl
  have hown : s.vm.findClass RX0 = some m.cls := hown
  have hw0 : ∀ w ∈ wsX00, w.before args s = true := fun w h => hts w (List.mem_cons_of_mem _ (List.mem_append_right _ h))
  have k24 := hts (.fieldLink RX0 24 "PauseLedger$Dinner" "toGo" "[I") (by decide +kernel)
  have k30 := hts (.fieldLink RX0 30 "PauseLedger$Dinner" "order" "[I") (by decide +kernel)
  have k65 := hts (.fieldLink RX0 65 "PauseLedger$Dinner" "sent" "I") (by decide +kernel)
  refine lv_iconst (v := 0) hx hb dX0_moveGlances_0 (by decide) ?_
  refine lv_istore_n (lv' := [(1, .int 0), (0, .ref (a 0))]) hx hb dX0_moveGlances_1 rfl hl (by decide) rfl (fun ls hl => ?_)
  have loop2 : ∀ (j i2 : Nat), i2 + j = L.length → ∀ (H : Heap) (locs : List Loc) (ls : Array Slot), va_P D vwCl (DC cI a f (va_up r 4 (dDec (r 4) L i2))) H → va_D A (DC cI a f (va_up r 4 (dDec (r 4) L i2))) → va_S A s.heap H locs → lv_has ls 3 [(1, .int (nI i2)), (0, .ref (a 0))] → W p l e rmX0_moveGlances s m args below meth c H locs 0 0 Q (F0 m 2 ls []) := by
    intro j
    induction j with
    | zero =>
      intro i2 hi2 H locs ls hP hD hS hl
      have ez : L.length = i2 := by omega
      subst ez
      refine lv_iload_n hx hb dX0_moveGlances_2 rfl (lv_at hl 0 rfl) ?_
      refine lv_aload_n hx hb dX0_moveGlances_3 rfl (lv_at hl 1 rfl) ?_
      refine va_get (D := D) (ci := 0) (v := .int (f 9)) (C := RX0) (T := TX0) (N := 17) hx hb hw0 (fun _ h => h) hown hK hP 0 rfl rfl 9 (by decide) k65 (fun _ h9 => h9) rfl dX0_moveGlances_4 ?_
      refine lv_icmp_ge (tgt := 31) hx hb dX0_moveGlances_7 (by decide) (fun c_7 => ?_) (fun h9 => absurd (by rw [hn]; exact nI_le (Nat.le_refl _) (by omega)) h9)
      refine lv_iconst (v := 0) hx hb dX0_moveGlances_31 (by decide) ?_
      refine lv_istore_n (lv' := [(1, .int 0), (0, .ref (a 0))]) hx hb dX0_moveGlances_32 rfl hl (by decide) rfl (fun ls hl => ?_)
      have loop33 : ∀ (j i33 : Nat), i33 + j = L.length → ∀ (H : Heap) (locs : List Loc) (ls : Array Slot), va_P D vwCl (DC cI a (dArrs L (dM1 f r L) i33).1 (dArrs L (dM1 f r L) i33).2) H → va_D A (DC cI a (dArrs L (dM1 f r L) i33).1 (dArrs L (dM1 f r L) i33).2) → va_S A s.heap H locs → lv_has ls 3 [(1, .int (nI i33)), (0, .ref (a 0))] → W p l e rmX0_moveGlances s m args below meth c H locs 0 0 Q (F0 m 33 ls []) := by
        intro j
        induction j with
        | zero =>
          intro i33 hi33 H locs ls hP hD hS hl
          have ez : L.length = i33 := by omega
          subst ez
          refine lv_iload_n hx hb dX0_moveGlances_33 rfl (lv_at hl 0 rfl) ?_
          refine lv_aload_n hx hb dX0_moveGlances_34 rfl (lv_at hl 1 rfl) ?_
          refine va_get (D := D) (ci := 0) (v := .int ((dArrs L (dM1 f r L) L.length).1 9)) (C := RX0) (T := TX0) (N := 17) hx hb hw0 (fun _ h => h) hown hK hP 0 rfl rfl 9 (by decide) k65 (fun _ h9 => h9) rfl dX0_moveGlances_35 ?_
          refine lv_icmp_ge (tgt := 75) hx hb dX0_moveGlances_38 (by decide) (fun c_38 => ?_) (fun h9 => absurd (by rw [dArrs9, show (dM1 f r L).1 9 = nI L.length from hn]; exact nI_le (Nat.le_refl _) (by omega)) h9)
          refine lv_aload_n hx hb dX0_moveGlances_75 rfl (lv_at hl 1 rfl) ?_
          refine wCVv (pre := ([] : va_W)) (Wc := DC cI a (dArrs L (dM1 f r L) L.length).1 (dArrs L (dM1 f r L) L.length).2) (suf := ([] : va_W)) (As := []) (rest := []) ⟨hx, hb, hml, hown, hts⟩ (mX0_forgetThoseOver l D cI a (dArrs L (dM1 f r L) L.length).1 (dArrs L (dM1 f r L) L.length).2 L _ (by rw [dArrs9]; exact hn) (by rw [dArrs6]; exact ho) ht hc) hN hA hK hS hP hD rfl 0 (r := (RX0, TX0, 17)) rfl rfl (cwV 0 hts gX0_moveGlances_X0_forgetThoseOver rfl rfl rfl (by decide +kernel) ⟨Nat.le_of_ble_eq_true rfl, Nat.le_of_ble_eq_true rfl⟩) rfl hl.1 rfl (Nat.le_of_ble_eq_true rfl) dX0_moveGlances_76 ⟨Nat.zero_le _, Nat.zero_le _⟩ (fun u_76 H locs hw hP hD hS => ?_)
          subst hw
          have hP : va_P D vwCl (DC cI a (dForget (dArrs L (dM1 f r L) L.length).1 (dArrs L (dM1 f r L) L.length).2 L).1 (dForget (dArrs L (dM1 f r L) L.length).1 (dArrs L (dM1 f r L) L.length).2 L).2) H := hP
          have hD : va_D A (DC cI a (dForget (dArrs L (dM1 f r L) L.length).1 (dArrs L (dM1 f r L) L.length).2 L).1 (dForget (dArrs L (dM1 f r L) L.length).1 (dArrs L (dM1 f r L) L.length).2 L).2) := hD
          exact wRv hQ hx hb hr hlocks hP hD hS dX0_moveGlances_79 ((dForget (dArrs L (dM1 f r L) L.length).1 (dArrs L (dM1 f r L) L.length).2 L).1, (dForget (dArrs L (dM1 f r L) L.length).1 (dArrs L (dM1 f r L) L.length).2 L).2) (rfl) rfl
        | succ j ih33 =>
          intro i33 hi33 H locs ls hP hD hS hl
          have hp33 := dgt ht i33
          refine lv_iload_n hx hb dX0_moveGlances_33 rfl (lv_at hl 0 rfl) ?_
          refine lv_aload_n hx hb dX0_moveGlances_34 rfl (lv_at hl 1 rfl) ?_
          refine va_get (D := D) (ci := 0) (v := .int ((dArrs L (dM1 f r L) i33).1 9)) (C := RX0) (T := TX0) (N := 17) hx hb hw0 (fun _ h => h) hown hK hP 0 rfl rfl 9 (by decide) k65 (fun _ h9 => h9) rfl dX0_moveGlances_35 ?_
          refine lv_icmp_ge (tgt := 75) hx hb dX0_moveGlances_38 (by decide) (fun h9 => absurd h9 (by rw [dArrs9, show (dM1 f r L).1 9 = nI L.length from hn]; exact nI_ge (by omega) (by omega))) (fun c_38 => ?_)
          refine lv_aload_n hx hb dX0_moveGlances_41 rfl (lv_at hl 1 rfl) ?_
          refine va_get (D := D) (ci := 0) (v := .ref (a 7)) (C := RX0) (T := TX0) (N := 17) hx hb hw0 (fun _ h => h) hown hK hP 0 rfl rfl 16 (by decide) k30 (fun _ h9 => h9) rfl dX0_moveGlances_42 ?_
          refine lv_iload_n hx hb dX0_moveGlances_45 rfl (lv_at hl 0 rfl) ?_
          refine wIald hx hb hK hP 7 0 rfl rfl i33 rfl (by omega) (by decide) dX0_moveGlances_46 ?_
          refine wTop (z := nI (L.getD i33 0)) (by rw [dArrs6]; exact ho i33 (by omega)) ?_
          refine lv_istore_n (lv' := [(2, .int (nI (L.getD i33 0))), (1, .int (nI i33)), (0, .ref (a 0))]) hx hb dX0_moveGlances_47 rfl hl (by decide) rfl (fun ls hl => ?_)
          refine lv_aload_n hx hb dX0_moveGlances_48 rfl (lv_at hl 2 rfl) ?_
          refine va_get (D := D) (ci := 0) (v := .ref (a 5)) (C := RX0) (T := TX0) (N := 17) hx hb hw0 (fun _ h => h) hown hK hP 0 rfl rfl 14 (by decide) k24 (fun _ h9 => h9) rfl dX0_moveGlances_49 ?_
          refine lv_iload_n hx hb dX0_moveGlances_52 rfl (lv_at hl 0 rfl) ?_
          refine wIald hx hb hK hP 5 0 rfl rfl (L.getD i33 0) rfl (by omega) (by decide) dX0_moveGlances_53 ?_
          refine lv_if_ne (tgt := 69) hx hb dX0_moveGlances_54 (by decide) (fun c_54 => ?_) (fun c_54 => ?_)
          · refine lv_iinc (v := nI (i33 + 1)) (lv' := [(1, .int (nI (i33 + 1))), (2, .int (nI (L.getD i33 0))), (0, .ref (a 0))]) hx hb dX0_moveGlances_69 hl (k := 1) rfl (nI_1 i33) (by decide) rfl (fun ls hl => ?_)
            refine lv_goto (tgt := 33) hx hb dX0_moveGlances_72 (by decide) ?_
            have e33 : dArrs L (dM1 f r L) (i33 + 1) = dArrs L (dM1 f r L) i33 := by simp only [dArrs, if_neg c_54]
            have hP : va_P D vwCl (DC cI a (dArrs L (dM1 f r L) (i33 + 1)).1 (dArrs L (dM1 f r L) (i33 + 1)).2) H := by rw [e33]; exact hP
            have hD : va_D A (DC cI a (dArrs L (dM1 f r L) (i33 + 1)).1 (dArrs L (dM1 f r L) (i33 + 1)).2) := by rw [e33]; exact hD
            exact ih33 (i33 + 1) (by omega) _ _ _ hP hD hS (lv_sub hl [0, 2] rfl)
          · refine lv_aload_n hx hb dX0_moveGlances_57 rfl (lv_at hl 2 rfl) ?_
            refine lv_iload_n hx hb dX0_moveGlances_58 rfl (lv_at hl 0 rfl) ?_
            refine lv_bipush (v := 10) hx hb dX0_moveGlances_59 (by decide) ?_
            refine lv_idiv hx hb dX0_moveGlances_61 (by decide) ?_
            refine wTop (z := nI ((L.getD i33 0) / 10)) (pk_div (a := (L.getD i33 0)) (d := 10) (by omega) (by decide) (by decide)) ?_
            refine lv_iload_n hx hb dX0_moveGlances_62 rfl (lv_at hl 0 rfl) ?_
            refine lv_bipush (v := 10) hx hb dX0_moveGlances_63 (by decide) ?_
            refine lv_irem hx hb dX0_moveGlances_65 (by decide) ?_
            refine wTop (z := nI ((L.getD i33 0) % 10)) (pk_rem (a := (L.getD i33 0)) (d := 10) (by omega) (by decide) (by decide)) ?_
            refine wCVv (pre := ([] : va_W)) (Wc := DC cI a (dArrs L (dM1 f r L) i33).1 (dArrs L (dM1 f r L) i33).2) (suf := ([] : va_W)) (As := [.int (nI ((L.getD i33 0) / 10)), .int (nI ((L.getD i33 0) % 10))]) (rest := []) ⟨hx, hb, hml, hown, hts⟩ (mX0_arrive l D cI a (dArrs L (dM1 f r L) i33).1 (dArrs L (dM1 f r L) i33).2 ((L.getD i33 0) / 10) ((L.getD i33 0) % 10) _ (by omega) (by omega)) hN hA hK hS hP hD rfl 0 (r := (RX0, TX0, 17)) rfl rfl (cwV 2 hts gX0_moveGlances_X0_arrive rfl rfl rfl (by decide +kernel) ⟨Nat.le_of_ble_eq_true rfl, Nat.le_of_ble_eq_true rfl⟩) rfl hl.1 rfl (Nat.le_of_ble_eq_true rfl) dX0_moveGlances_66 ⟨Nat.zero_le _, Nat.zero_le _⟩ (fun u_66 H locs hw hP hD hS => ?_)
            subst hw
            have hP : va_P D vwCl (DC cI a (dArr (dArrs L (dM1 f r L) i33).1 (dArrs L (dM1 f r L) i33).2 ((L.getD i33 0) / 10) ((L.getD i33 0) % 10)).1 (dArr (dArrs L (dM1 f r L) i33).1 (dArrs L (dM1 f r L) i33).2 ((L.getD i33 0) / 10) ((L.getD i33 0) % 10)).2) H := hP
            have hD : va_D A (DC cI a (dArr (dArrs L (dM1 f r L) i33).1 (dArrs L (dM1 f r L) i33).2 ((L.getD i33 0) / 10) ((L.getD i33 0) % 10)).1 (dArr (dArrs L (dM1 f r L) i33).1 (dArrs L (dM1 f r L) i33).2 ((L.getD i33 0) / 10) ((L.getD i33 0) % 10)).2) := hD
            refine lv_iinc (v := nI (i33 + 1)) (lv' := [(1, .int (nI (i33 + 1))), (2, .int (nI (L.getD i33 0))), (0, .ref (a 0))]) hx hb dX0_moveGlances_69 hl (k := 1) rfl (nI_1 i33) (by decide) rfl (fun ls hl => ?_)
            refine lv_goto (tgt := 33) hx hb dX0_moveGlances_72 (by decide) ?_
            have e33 : dArrs L (dM1 f r L) (i33 + 1) = dArr (dArrs L (dM1 f r L) i33).1 (dArrs L (dM1 f r L) i33).2 (L.getD i33 0 / 10) (L.getD i33 0 % 10) := by simp only [dArrs, if_pos c_54]
            have hP : va_P D vwCl (DC cI a (dArrs L (dM1 f r L) (i33 + 1)).1 (dArrs L (dM1 f r L) (i33 + 1)).2) H := by rw [e33]; exact hP
            have hD : va_D A (DC cI a (dArrs L (dM1 f r L) (i33 + 1)).1 (dArrs L (dM1 f r L) (i33 + 1)).2) := by rw [e33]; exact hD
            exact ih33 (i33 + 1) (by omega) _ _ _ hP hD hS (lv_sub hl [0, 2] rfl)
      exact loop33 L.length 0 (by omega) _ _ _ hP hD hS (lv_sub hl [0, 1] rfl)
    | succ j ih2 =>
      intro i2 hi2 H locs ls hP hD hS hl
      have hp2 := dgt ht i2
      refine lv_iload_n hx hb dX0_moveGlances_2 rfl (lv_at hl 0 rfl) ?_
      refine lv_aload_n hx hb dX0_moveGlances_3 rfl (lv_at hl 1 rfl) ?_
      refine va_get (D := D) (ci := 0) (v := .int (f 9)) (C := RX0) (T := TX0) (N := 17) hx hb hw0 (fun _ h => h) hown hK hP 0 rfl rfl 9 (by decide) k65 (fun _ h9 => h9) rfl dX0_moveGlances_4 ?_
      refine lv_icmp_ge (tgt := 31) hx hb dX0_moveGlances_7 (by decide) (fun h9 => absurd h9 (by rw [hn]; exact nI_ge (by omega) (by omega))) (fun c_7 => ?_)
      refine lv_aload_n hx hb dX0_moveGlances_10 rfl (lv_at hl 1 rfl) ?_
      refine va_get (D := D) (ci := 0) (v := .ref (a 5)) (C := RX0) (T := TX0) (N := 17) hx hb hw0 (fun _ h => h) hown hK hP 0 rfl rfl 14 (by decide) k24 (fun _ h9 => h9) rfl dX0_moveGlances_11 ?_
      refine lv_aload_n hx hb dX0_moveGlances_14 rfl (lv_at hl 1 rfl) ?_
      refine va_get (D := D) (ci := 0) (v := .ref (a 7)) (C := RX0) (T := TX0) (N := 17) hx hb hw0 (fun _ h => h) hown hK hP 0 rfl rfl 16 (by decide) k30 (fun _ h9 => h9) rfl dX0_moveGlances_15 ?_
      refine lv_iload_n hx hb dX0_moveGlances_18 rfl (lv_at hl 0 rfl) ?_
      refine wIald hx hb hK hP 7 0 rfl rfl i2 rfl (by omega) (by decide) dX0_moveGlances_19 ?_
      refine wTop (z := nI (L.getD i2 0)) (ho i2 (by omega)) ?_
      refine lv_dup2_11 hx hb dX0_moveGlances_20 rfl rfl ?_
      refine wIald hx hb hK hP 5 0 rfl rfl (L.getD i2 0) rfl (by omega) (by decide) dX0_moveGlances_21 ?_
      refine lv_iconst (v := 1) hx hb dX0_moveGlances_22 (by decide) ?_
      refine lv_isub hx hb dX0_moveGlances_23 ?_
      refine wIast hx hb hK hP hD hS 5 0 rfl rfl (L.getD i2 0) rfl (by omega) (by decide) dX0_moveGlances_24 (fun H locs hP hD hS => ?_)
      have hP : va_P D vwCl (DC cI a f (va_up r 4 (upd (dDec (r 4) L i2) (L.getD i2 0) (((dDec (r 4) L i2) (L.getD i2 0)) - 1)))) H := hP
      have hD : va_D A (DC cI a f (va_up r 4 (upd (dDec (r 4) L i2) (L.getD i2 0) (((dDec (r 4) L i2) (L.getD i2 0)) - 1)))) := hD
      refine lv_iinc (v := nI (i2 + 1)) (lv' := [(1, .int (nI (i2 + 1))), (0, .ref (a 0))]) hx hb dX0_moveGlances_25 hl (k := 0) rfl (nI_1 i2) (by decide) rfl (fun ls hl => ?_)
      refine lv_goto (tgt := 2) hx hb dX0_moveGlances_28 (by decide) ?_
      exact ih2 (i2 + 1) (by omega) _ _ _ hP hD hS (lv_sub hl [0, 1] rfl)
  exact loop2 L.length 0 (by omega) _ _ _ hP hD hS (lv_sub hl [0, 1] rfl)
abbrev rmX0_goOneSecond : Room := { frames := 3, cells := 0, slots := 0, locals := 67 }
set_option maxRecDepth 100000 in
set_option maxHeartbeats 4000000 in
/-- goOneSecond -/
theorem mX0_goOneSecond (l : Launch) (D : va_G) (cI : ClassId) (a : Nat → Nat) (f : Nat → Int32) (r : Nat → Nat → Int32) (L : List Nat) (sz : Nat) (hk : dOk f r L) : wCt l yX0_goOneSecond wsX0_goOneSecond rmX0_goOneSecond D [(cI, .int)] [.ref (a 0)] (DC cI a f r) sz 0 0 (wQv D (fun u : dS => u = dSec f r L) (fun u : dS => DCs cI a u)) := by
  refine wMet cX0_goOneSecond 1 none (by decide) rfl (Nat.le_of_ble_eq_true rfl) ?_
  intro p e s m args below meth c A Q ls hQ hx hb hr hml hown hlocks hin hts hN hP hK hD hA hS hl
  have hl : lv_has ls 1 [(0, .ref (a 0))] := hl
  have hown : s.vm.findClass RX0 = some m.cls := hown
  have hw0 : ∀ w ∈ wsX00, w.before args s = true := fun w h => hts w (List.mem_cons_of_mem _ (List.mem_append_right _ h))
  have k44 := hts (.fieldLink RX0 44 "PauseLedger$Dinner" "seconds" "I") (by decide +kernel)
  refine lv_aload_n hx hb dX0_goOneSecond_0 rfl (lv_at hl 0 rfl) ?_
  refine wCVv (pre := ([] : va_W)) (Wc := DC cI a f r) (suf := ([] : va_W)) (As := []) (rest := []) ⟨hx, hb, hml, hown, hts⟩ (mX0_speakOrPause l D cI a f r _ hk.1) hN hA hK hS hP hD rfl 0 (r := (RX0, TX0, 17)) rfl rfl (cwV 0 hts gX0_goOneSecond_X0_speakOrPause rfl rfl rfl (by decide +kernel) ⟨Nat.le_of_ble_eq_true rfl, Nat.le_of_ble_eq_true rfl⟩) rfl hl.1 rfl (Nat.le_of_ble_eq_true rfl) dX0_goOneSecond_1 ⟨Nat.zero_le _, Nat.zero_le _⟩ (fun u_1 H locs hw hP hD hS => ?_)
  subst hw
  have hP : va_P D vwCl (DC cI a (dTalk f r).1 (dTalk f r).2) H := hP
  have hD : va_D A (DC cI a (dTalk f r).1 (dTalk f r).2) := hD
  refine lv_aload_n hx hb dX0_goOneSecond_4 rfl (lv_at hl 0 rfl) ?_
  refine wCVv (pre := ([] : va_W)) (Wc := DC cI a (dTalk f r).1 (dTalk f r).2) (suf := ([] : va_W)) (As := []) (rest := []) ⟨hx, hb, hml, hown, hts⟩ (mX0_moveGlances l D cI a (dTalk f r).1 (dTalk f r).2 L _ (by rw [dTalk9]; exact hk.2.1) (by rw [dTalk6]; exact hk.2.2.1) hk.2.2.2.1 hk.2.2.2.2) hN hA hK hS hP hD rfl 0 (r := (RX0, TX0, 17)) rfl rfl (cwV 0 hts gX0_goOneSecond_X0_moveGlances rfl rfl rfl (by decide +kernel) ⟨Nat.le_of_ble_eq_true rfl, Nat.le_of_ble_eq_true rfl⟩) rfl hl.1 rfl (Nat.le_of_ble_eq_true rfl) dX0_goOneSecond_5 ⟨Nat.zero_le _, Nat.zero_le _⟩ (fun u_5 H locs hw hP hD hS => ?_)
  subst hw
  have hP : va_P D vwCl (DC cI a (dMove (dTalk f r).1 (dTalk f r).2 L).1 (dMove (dTalk f r).1 (dTalk f r).2 L).2) H := hP
  have hD : va_D A (DC cI a (dMove (dTalk f r).1 (dTalk f r).2 L).1 (dMove (dTalk f r).1 (dTalk f r).2 L).2) := hD
  refine lv_aload_n hx hb dX0_goOneSecond_8 rfl (lv_at hl 0 rfl) ?_
  refine lv_dup hx hb dX0_goOneSecond_9 rfl ?_
  refine va_get (D := D) (ci := 0) (v := .int ((dMove (dTalk f r).1 (dTalk f r).2 L).1 1)) (C := RX0) (T := TX0) (N := 17) hx hb hw0 (fun _ h => h) hown hK hP 0 rfl rfl 1 (by decide) k44 (fun _ h9 => h9) rfl dX0_goOneSecond_10 ?_
  refine lv_iconst (v := 1) hx hb dX0_goOneSecond_13 (by decide) ?_
  refine lv_iadd hx hb dX0_goOneSecond_14 ?_
  refine va_put (D := D) (ci := 0) (v := .int (((dMove (dTalk f r).1 (dTalk f r).2 L).1 1) + 1)) (ty := .int) (C := RX0) (T := TX0) (N := 17) hx hb hw0 (fun _ h => h) tyX0 tyX0_ok nmX0 hown hK hP hD hS 0 rfl rfl 1 (by decide) k44 (fun _ h9 => h9) rfl (by decide +kernel) rfl rfl (Nat.le_of_ble_eq_true rfl) dX0_goOneSecond_15 (fun H locs hP hD hS => ?_)
  have hP : va_P D vwCl (DC cI a (upd (dMove (dTalk f r).1 (dTalk f r).2 L).1 1 (((dMove (dTalk f r).1 (dTalk f r).2 L).1 1) + 1)) (dMove (dTalk f r).1 (dTalk f r).2 L).2) H := hP
  have hD : va_D A (DC cI a (upd (dMove (dTalk f r).1 (dTalk f r).2 L).1 1 (((dMove (dTalk f r).1 (dTalk f r).2 L).1 1) + 1)) (dMove (dTalk f r).1 (dTalk f r).2 L).2) := hD
  exact wRv hQ hx hb hr hlocks hP hD hS dX0_goOneSecond_18 ((upd (dMove (dTalk f r).1 (dTalk f r).2 L).1 1 (((dMove (dTalk f r).1 (dTalk f r).2 L).1 1) + 1)), (dMove (dTalk f r).1 (dTalk f r).2 L).2) (rfl) rfl
abbrev rmX0_goBy : Room := { frames := 4, cells := 0, slots := 0, locals := 87 }
set_option maxRecDepth 100000 in
set_option maxHeartbeats 4000000 in
/-- goBy -/
theorem mX0_goBy (l : Launch) (D : va_G) (cI : ClassId) (a : Nat → Nat) (f : Nat → Int32) (r : Nat → Nat → Int32) (L : List Nat) (n : Nat) (sz : Nat) (hn : n < 2 ^ 31) (hk : ∀ i, i < n → dOk (dGo (f, r) L i).1.1 (dGo (f, r) L i).1.2 (dGo (f, r) L i).2) : wCt l yX0_goBy wsX0_goBy rmX0_goBy D [(cI, .int)] [.ref (a 0), .int (nI n)] (DC cI a f r) sz 0 0 (wQv D (fun u : dS => u = (dGo (f, r) L n).1) (fun u : dS => DCs cI a u)) := by
  refine wMet cX0_goBy 3 none (by decide) rfl (Nat.le_of_ble_eq_true rfl) ?_
  intro p e s m args below meth c A Q ls hQ hx hb hr hml hown hlocks hin hts hN hP hK hD hA hS hl
  have hl : lv_has ls 3 [(0, .ref (a 0)), (1, .int (nI n))] := hl
  have hown : s.vm.findClass RX0 = some m.cls := hown
  refine lv_iconst (v := 0) hx hb dX0_goBy_0 (by decide) ?_
  refine lv_istore_n (lv' := [(2, .int 0), (0, .ref (a 0)), (1, .int (nI n))]) hx hb dX0_goBy_1 rfl hl (by decide) rfl (fun ls hl => ?_)
  have loop2 : ∀ (j i2 : Nat), i2 + j = n → ∀ (H : Heap) (locs : List Loc) (ls : Array Slot), va_P D vwCl (DC cI a (dGo (f, r) L i2).1.1 (dGo (f, r) L i2).1.2) H → va_D A (DC cI a (dGo (f, r) L i2).1.1 (dGo (f, r) L i2).1.2) → va_S A s.heap H locs → lv_has ls 3 [(2, .int (nI i2)), (0, .ref (a 0)), (1, .int (nI n))] → W p l e rmX0_goBy s m args below meth c H locs 0 0 Q (F0 m 2 ls []) := by
    intro j
    induction j with
    | zero =>
      intro i2 hi2 H locs ls hP hD hS hl
      have ez : n = i2 := by omega
      subst ez
      refine lv_iload_n hx hb dX0_goBy_2 rfl (lv_at hl 0 rfl) ?_
      refine lv_iload_n hx hb dX0_goBy_3 rfl (lv_at hl 2 rfl) ?_
      refine lv_icmp_ge (tgt := 17) hx hb dX0_goBy_4 (by decide) (fun c_4 => ?_) (fun h9 => absurd (nI_le (by omega) (by omega)) h9)
      have c_4n := (nI_leI (a := n) (b := n) (by omega) (by omega)).mp c_4
      exact wRv hQ hx hb hr hlocks hP hD hS dX0_goBy_17 ((dGo (f, r) L n).1.1, (dGo (f, r) L n).1.2) (rfl) rfl
    | succ j ih2 =>
      intro i2 hi2 H locs ls hP hD hS hl
      refine lv_iload_n hx hb dX0_goBy_2 rfl (lv_at hl 0 rfl) ?_
      refine lv_iload_n hx hb dX0_goBy_3 rfl (lv_at hl 2 rfl) ?_
      refine lv_icmp_ge (tgt := 17) hx hb dX0_goBy_4 (by decide) (fun h9 => absurd h9 (nI_ge (by omega) (by omega))) (fun c_4 => ?_)
      have c_4n := mt (nI_leI (a := n) (b := i2) (by omega) (by omega)).mpr c_4
      refine lv_aload_n hx hb dX0_goBy_7 rfl (lv_at hl 1 rfl) ?_
      refine wCVv (pre := ([] : va_W)) (Wc := DC cI a (dGo (f, r) L i2).1.1 (dGo (f, r) L i2).1.2) (suf := ([] : va_W)) (As := []) (rest := []) ⟨hx, hb, hml, hown, hts⟩ (mX0_goOneSecond l D cI a (dGo (f, r) L i2).1.1 (dGo (f, r) L i2).1.2 (dGo (f, r) L i2).2 _ (hk i2 (by omega))) hN hA hK hS hP hD rfl 0 (r := (RX0, TX0, 17)) rfl rfl (cwV 0 hts gX0_goBy_X0_goOneSecond rfl rfl rfl (by decide +kernel) ⟨Nat.le_of_ble_eq_true rfl, Nat.le_of_ble_eq_true rfl⟩) rfl hl.1 rfl (Nat.le_of_ble_eq_true rfl) dX0_goBy_8 ⟨Nat.zero_le _, Nat.zero_le _⟩ (fun u_8 H locs hw hP hD hS => ?_)
      subst hw
      have hP : va_P D vwCl (DC cI a (dSec (dGo (f, r) L i2).1.1 (dGo (f, r) L i2).1.2 (dGo (f, r) L i2).2).1 (dSec (dGo (f, r) L i2).1.1 (dGo (f, r) L i2).1.2 (dGo (f, r) L i2).2).2) H := hP
      have hD : va_D A (DC cI a (dSec (dGo (f, r) L i2).1.1 (dGo (f, r) L i2).1.2 (dGo (f, r) L i2).2).1 (dSec (dGo (f, r) L i2).1.1 (dGo (f, r) L i2).1.2 (dGo (f, r) L i2).2).2) := hD
      refine lv_iinc (v := nI (i2 + 1)) (lv' := [(2, .int (nI (i2 + 1))), (0, .ref (a 0)), (1, .int (nI n))]) hx hb dX0_goBy_11 hl (k := 0) rfl (nI_1 i2) (by decide) rfl (fun ls hl => ?_)
      refine lv_goto (tgt := 2) hx hb dX0_goBy_14 (by decide) ?_
      exact ih2 (i2 + 1) (by omega) _ _ _ hP hD hS (lv_sub hl [0, 1, 2] rfl)
  exact loop2 n 0 (by omega) _ _ _ hP hD hS (lv_sub hl [0, 1, 2] rfl)
