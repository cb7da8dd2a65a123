abbrev rmJ7_fill_53178 : Room := { frames := 0, cells := 0, slots := 0, locals := 0 }
set_option maxRecDepth 100000 in
set_option maxHeartbeats 4000000 in
/-- Arrays.fill -/
theorem mJ7_fill_53178 (l : Launch) (D : va_G) (cI : ClassId) (q N : Nat) (h : Nat → Int32) (v : Int32) (sz : Nat) (hN1 : N < 2 ^ 31) : wCt l yJ7_fill_53178 wsJ7_fill_53178 rmJ7_fill_53178 D [(cI, .int)] [.ref q, .int v] ([(q, .inl (cI, N, .inl h))]) sz 0 0 (wQv D (fun _ : Unit => True) (fun _ : Unit => [(q, .inl (cI, N, .inl (fun _ => v)))])) := by
  refine wMet cJ7_fill_53178 4 none (by decide) rfl (Nat.le_of_ble_eq_true rfl) ?_
  intro p e s m args below meth c A Q ls hQ hx hb hr hml hown hlocks hin hts hN hP hK hD hA hS hl
  have hl : lv_has ls 4 [(0, .ref q), (1, .int v)] := hl
  have hown : s.vm.findClass RJ7 = some m.cls := hown
  refine lv_iconst (v := 0) hx hb dJ7_fill_53178_0 (by decide) ?_
  refine lv_istore_n (lv' := [(2, .int 0), (0, .ref q), (1, .int v)]) hx hb dJ7_fill_53178_1 rfl hl (by decide) rfl (fun ls hl => ?_)
  refine lv_aload_n hx hb dJ7_fill_53178_2 rfl (lv_at hl 1 rfl) ?_
  refine va_alen (v := nI N) hx hb hK hP 0 0 rfl rfl rfl dJ7_fill_53178_3 ?_
  refine lv_istore_n (lv' := [(3, .int (nI N)), (2, .int 0), (0, .ref q), (1, .int v)]) hx hb dJ7_fill_53178_4 rfl hl (by decide) rfl (fun ls hl => ?_)
  have loop5 : ∀ (j i5 : Nat), i5 + j = N → ∀ (H : Heap) (locs : List Loc) (ls : Array Slot), va_P D vwCl ([(q, .inl (cI, N, .inl (dFill h v i5)))]) H → va_D A ([(q, .inl (cI, N, .inl (dFill h v i5)))]) → va_S A s.heap H locs → lv_has ls 4 [(2, .int (nI i5)), (3, .int (nI N)), (0, .ref q), (1, .int v)] → W p l e rmJ7_fill_53178 s m args below meth c H locs 0 0 Q (F0 m 5 ls []) := by
    intro j
    induction j with
    | zero =>
      intro i5 hi5 H locs ls hP hD hS hl
      have ez : N = i5 := by omega
      subst ez
      refine lv_iload_n hx hb dJ7_fill_53178_5 rfl (lv_at hl 0 rfl) ?_
      refine lv_iload_n hx hb dJ7_fill_53178_6 rfl (lv_at hl 1 rfl) ?_
      refine lv_icmp_ge (tgt := 20) hx hb dJ7_fill_53178_7 (by decide) (fun c_7 => ?_) (fun h9 => absurd (nI_le (Nat.le_refl _) hN1) h9)
      have c_7n := (nI_leI (a := N) (b := N) (by omega) (by omega)).mp c_7
      have eq9 : wEq D [(q, .inl (cI, N, .inl (dFill h v N)))] [(q, .inl (cI, N, .inl (fun _ => v)))] := wEq.row (fun j hj => if_pos hj) wEq.nil
      have hP := eq9.P hP
      have hD := eq9.D hD
      exact wRv hQ hx hb hr hlocks hP hD hS dJ7_fill_53178_20 () (trivial) rfl
    | succ j ih5 =>
      intro i5 hi5 H locs ls hP hD hS hl
      refine lv_iload_n hx hb dJ7_fill_53178_5 rfl (lv_at hl 0 rfl) ?_
      refine lv_iload_n hx hb dJ7_fill_53178_6 rfl (lv_at hl 1 rfl) ?_
      refine lv_icmp_ge (tgt := 20) hx hb dJ7_fill_53178_7 (by decide) (fun h9 => absurd h9 (nI_ge (by omega) (by omega))) (fun c_7 => ?_)
      have c_7n := mt (nI_leI (a := N) (b := i5) (by omega) (by omega)).mpr c_7
      refine lv_aload_n hx hb dJ7_fill_53178_10 rfl (lv_at hl 2 rfl) ?_
      refine lv_iload_n hx hb dJ7_fill_53178_11 rfl (lv_at hl 0 rfl) ?_
      refine lv_iload_n hx hb dJ7_fill_53178_12 rfl (lv_at hl 3 rfl) ?_
      refine wIast hx hb hK hP hD hS 0 0 rfl rfl i5 rfl (by omega) (by omega) dJ7_fill_53178_13 (fun H locs hP hD hS => ?_)
      have hP : va_P D vwCl ([(q, .inl (cI, N, .inl (upd (dFill h v i5) i5 v)))]) H := hP
      have hD : va_D A ([(q, .inl (cI, N, .inl (upd (dFill h v i5) i5 v)))]) := hD
      refine lv_iinc (v := nI (i5 + 1)) (lv' := [(2, .int (nI (i5 + 1))), (3, .int (nI N)), (0, .ref q), (1, .int v)]) hx hb dJ7_fill_53178_14 hl (k := 0) rfl (nI_1 i5) (by decide) rfl (fun ls hl => ?_)
      refine lv_goto (tgt := 5) hx hb dJ7_fill_53178_17 (by decide) ?_
      have hP : va_P D vwCl ([(q, .inl (cI, N, .inl (dFill h v (i5 + 1))))]) H := by rw [← dFill_s]; exact hP
      have hD : va_D A ([(q, .inl (cI, N, .inl (dFill h v (i5 + 1))))]) := by rw [← dFill_s]; exact hD
      exact ih5 (i5 + 1) (by omega) _ _ _ hP hD hS (lv_sub hl [0, 1, 2, 3] rfl)
  have hP : va_P D vwCl ([(q, .inl (cI, N, .inl (dFill h v 0)))]) s.heap := by rw [dFill_0]; exact hP
  have hD : va_D A ([(q, .inl (cI, N, .inl (dFill h v 0)))]) := by rw [dFill_0]; exact hD
  exact loop5 N 0 (by omega) _ _ _ hP hD hS (lv_sub hl [1, 0, 2, 3] rfl)
abbrev rmX0_begin : Room := { frames := 1, cells := 0, slots := 0, locals := 23 }
set_option maxRecDepth 100000 in
set_option maxHeartbeats 4000000 in
/-- begin -/
theorem mX0_begin (l : Launch) (D : va_G) (cI : ClassId) (a : Nat → Nat) (f : Nat → Int32) (r : Nat → Nat → Int32) (x : Int32) (sz : Nat) : wCt l yX0_begin wsX0_begin rmX0_begin D [(cI, .int)] [.ref (a 0), .int x] (DC cI a f r) sz 0 0 (wQv D (fun u : dS => u = (dBeginF f x, dBeginR r)) (fun u : dS => DCs cI a u)) := by
  refine wMet cX0_begin 2 none (by decide) rfl (Nat.le_of_ble_eq_true rfl) ?_
  intro p e s m args below meth c A Q ls hQ hx hb hr hml hown hlocks hin hts hN hP hK hD hA hS hl
  have hl : lv_has ls 2 [(0, .ref (a 0)), (1, .int x)] := hl
  have hown : s.vm.findClass RX0 = some m.cls := hown
  have hw0 : ∀ w ∈ wsX00, w.before args s = true := fun w h => hts w (List.mem_cons_of_mem _ (List.mem_append_right _ h))
  have k9 := hts (.fieldLink RX0 9 "PauseLedger$Dinner" "spoken" "[I") (by decide +kernel)
  have k15 := hts (.fieldLink RX0 15 "PauseLedger$Dinner" "interruptions" "[I") (by decide +kernel)
  have k18 := hts (.fieldLink RX0 18 "PauseLedger$Dinner" "coughs" "[I") (by decide +kernel)
  have k21 := hts (.fieldLink RX0 21 "PauseLedger$Dinner" "unsaid" "[I") (by decide +kernel)
  have k24 := hts (.fieldLink RX0 24 "PauseLedger$Dinner" "toGo" "[I") (by decide +kernel)
  have k27 := hts (.fieldLink RX0 27 "PauseLedger$Dinner" "caught" "[I") (by decide +kernel)
  have k41 := hts (.fieldLink RX0 41 "PauseLedger$Dinner" "guests" "I") (by decide +kernel)
  have k44 := hts (.fieldLink RX0 44 "PauseLedger$Dinner" "seconds" "I") (by decide +kernel)
  have k47 := hts (.fieldLink RX0 47 "PauseLedger$Dinner" "speaker" "I") (by decide +kernel)
  have k50 := hts (.fieldLink RX0 50 "PauseLedger$Dinner" "toSpeak" "I") (by decide +kernel)
  have k53 := hts (.fieldLink RX0 53 "PauseLedger$Dinner" "pause" "I") (by decide +kernel)
  have k56 := hts (.fieldLink RX0 56 "PauseLedger$Dinner" "unsaidInPauses" "I") (by decide +kernel)
  have k59 := hts (.fieldLink RX0 59 "PauseLedger$Dinner" "meetings" "I") (by decide +kernel)
  have k62 := hts (.fieldLink RX0 62 "PauseLedger$Dinner" "lost" "I") (by decide +kernel)
  have k65 := hts (.fieldLink RX0 65 "PauseLedger$Dinner" "sent" "I") (by decide +kernel)
  refine lv_aload_n hx hb dX0_begin_0 rfl (lv_at hl 0 rfl) ?_
  refine lv_iload_n hx hb dX0_begin_1 rfl (lv_at hl 1 rfl) ?_
  refine va_put (D := D) (ci := 0) (v := .int x) (ty := .int) (C := RX0) (T := TX0) (N := 17) hx hb hw0 (fun _ h => h) tyX0 tyX0_ok nmX0 hown hK hP hD hS 0 rfl rfl 0 (by decide) k41 (fun _ h9 => h9) rfl (by decide +kernel) rfl rfl (Nat.le_of_ble_eq_true rfl) dX0_begin_2 (fun H locs hP hD hS => ?_)
  have hP : va_P D vwCl (DC cI a (upd f 0 x) r) H := hP
  have hD : va_D A (DC cI a (upd f 0 x) r) := hD
  refine lv_aload_n hx hb dX0_begin_5 rfl (lv_at hl 0 rfl) ?_
  refine lv_iconst (v := 0) hx hb dX0_begin_6 (by decide) ?_
  refine va_put (D := D) (ci := 0) (v := .int 0) (ty := .int) (C := RX0) (T := TX0) (N := 17) hx hb hw0 (fun _ h => h) tyX0 tyX0_ok nmX0 hown hK hP hD hS 0 rfl rfl 1 (by decide) k44 (fun _ h9 => h9) rfl (by decide +kernel) rfl rfl (Nat.le_of_ble_eq_true rfl) dX0_begin_7 (fun H locs hP hD hS => ?_)
  have hP : va_P D vwCl (DC cI a (upd (upd f 0 x) 1 0) r) H := hP
  have hD : va_D A (DC cI a (upd (upd f 0 x) 1 0) r) := hD
  refine lv_aload_n hx hb dX0_begin_10 rfl (lv_at hl 0 rfl) ?_
  refine lv_iconst (v := (-1)) hx hb dX0_begin_11 (by decide) ?_
  refine va_put (D := D) (ci := 0) (v := .int (-1)) (ty := .int) (C := RX0) (T := TX0) (N := 17) hx hb hw0 (fun _ h => h) tyX0 tyX0_ok nmX0 hown hK hP hD hS 0 rfl rfl 3 (by decide) k47 (fun _ h9 => h9) rfl (by decide +kernel) rfl rfl (Nat.le_of_ble_eq_true rfl) dX0_begin_12 (fun H locs hP hD hS => ?_)
  have hP : va_P D vwCl (DC cI a (upd (upd (upd f 0 x) 1 0) 3 (-1)) r) H := hP
  have hD : va_D A (DC cI a (upd (upd (upd f 0 x) 1 0) 3 (-1)) r) := hD
  refine lv_aload_n hx hb dX0_begin_15 rfl (lv_at hl 0 rfl) ?_
  refine lv_iconst (v := 0) hx hb dX0_begin_16 (by decide) ?_
  refine va_put (D := D) (ci := 0) (v := .int 0) (ty := .int) (C := RX0) (T := TX0) (N := 17) hx hb hw0 (fun _ h => h) tyX0 tyX0_ok nmX0 hown hK hP hD hS 0 rfl rfl 4 (by decide) k50 (fun _ h9 => h9) rfl (by decide +kernel) rfl rfl (Nat.le_of_ble_eq_true rfl) dX0_begin_17 (fun H locs hP hD hS => ?_)
  have hP : va_P D vwCl (DC cI a (upd (upd (upd (upd f 0 x) 1 0) 3 (-1)) 4 0) r) H := hP
  have hD : va_D A (DC cI a (upd (upd (upd (upd f 0 x) 1 0) 3 (-1)) 4 0) r) := hD
  refine lv_aload_n hx hb dX0_begin_20 rfl (lv_at hl 0 rfl) ?_
  refine lv_iconst (v := 0) hx hb dX0_begin_21 (by decide) ?_
  refine va_put (D := D) (ci := 0) (v := .int 0) (ty := .int) (C := RX0) (T := TX0) (N := 17) hx hb hw0 (fun _ h => h) tyX0 tyX0_ok nmX0 hown hK hP hD hS 0 rfl rfl 5 (by decide) k53 (fun _ h9 => h9) rfl (by decide +kernel) rfl rfl (Nat.le_of_ble_eq_true rfl) dX0_begin_22 (fun H locs hP hD hS => ?_)
  have hP : va_P D vwCl (DC cI a (upd (upd (upd (upd (upd f 0 x) 1 0) 3 (-1)) 4 0) 5 0) r) H := hP
  have hD : va_D A (DC cI a (upd (upd (upd (upd (upd f 0 x) 1 0) 3 (-1)) 4 0) 5 0) r) := hD
  refine lv_aload_n hx hb dX0_begin_25 rfl (lv_at hl 0 rfl) ?_
  refine lv_iconst (v := 0) hx hb dX0_begin_26 (by decide) ?_
  refine va_put (D := D) (ci := 0) (v := .int 0) (ty := .int) (C := RX0) (T := TX0) (N := 17) hx hb hw0 (fun _ h => h) tyX0 tyX0_ok nmX0 hown hK hP hD hS 0 rfl rfl 6 (by decide) k56 (fun _ h9 => h9) rfl (by decide +kernel) rfl rfl (Nat.le_of_ble_eq_true rfl) dX0_begin_27 (fun H locs hP hD hS => ?_)
  have hP : va_P D vwCl (DC cI a (upd (upd (upd (upd (upd (upd f 0 x) 1 0) 3 (-1)) 4 0) 5 0) 6 0) r) H := hP
  have hD : va_D A (DC cI a (upd (upd (upd (upd (upd (upd f 0 x) 1 0) 3 (-1)) 4 0) 5 0) 6 0) r) := hD
  refine lv_aload_n hx hb dX0_begin_30 rfl (lv_at hl 0 rfl) ?_
  refine lv_iconst (v := 0) hx hb dX0_begin_31 (by decide) ?_
  refine va_put (D := D) (ci := 0) (v := .int 0) (ty := .int) (C := RX0) (T := TX0) (N := 17) hx hb hw0 (fun _ h => h) tyX0 tyX0_ok nmX0 hown hK hP hD hS 0 rfl rfl 7 (by decide) k59 (fun _ h9 => h9) rfl (by decide +kernel) rfl rfl (Nat.le_of_ble_eq_true rfl) dX0_begin_32 (fun H locs hP hD hS => ?_)
  have hP : va_P D vwCl (DC cI a (upd (upd (upd (upd (upd (upd (upd f 0 x) 1 0) 3 (-1)) 4 0) 5 0) 6 0) 7 0) r) H := hP
  have hD : va_D A (DC cI a (upd (upd (upd (upd (upd (upd (upd f 0 x) 1 0) 3 (-1)) 4 0) 5 0) 6 0) 7 0) r) := hD
  refine lv_aload_n hx hb dX0_begin_35 rfl (lv_at hl 0 rfl) ?_
  refine lv_iconst (v := 0) hx hb dX0_begin_36 (by decide) ?_
  refine va_put (D := D) (ci := 0) (v := .int 0) (ty := .int) (C := RX0) (T := TX0) (N := 17) hx hb hw0 (fun _ h => h) tyX0 tyX0_ok nmX0 hown hK hP hD hS 0 rfl rfl 8 (by decide) k62 (fun _ h9 => h9) rfl (by decide +kernel) rfl rfl (Nat.le_of_ble_eq_true rfl) dX0_begin_37 (fun H locs hP hD hS => ?_)
  have hP : va_P D vwCl (DC cI a (upd (upd (upd (upd (upd (upd (upd (upd f 0 x) 1 0) 3 (-1)) 4 0) 5 0) 6 0) 7 0) 8 0) r) H := hP
  have hD : va_D A (DC cI a (upd (upd (upd (upd (upd (upd (upd (upd f 0 x) 1 0) 3 (-1)) 4 0) 5 0) 6 0) 7 0) 8 0) r) := hD
  refine lv_aload_n hx hb dX0_begin_40 rfl (lv_at hl 0 rfl) ?_
  refine lv_iconst (v := 0) hx hb dX0_begin_41 (by decide) ?_
  refine va_put (D := D) (ci := 0) (v := .int 0) (ty := .int) (C := RX0) (T := TX0) (N := 17) hx hb hw0 (fun _ h => h) tyX0 tyX0_ok nmX0 hown hK hP hD hS 0 rfl rfl 9 (by decide) k65 (fun _ h9 => h9) rfl (by decide +kernel) rfl rfl (Nat.le_of_ble_eq_true rfl) dX0_begin_42 (fun H locs hP hD hS => ?_)
  have hP : va_P D vwCl (DC cI a (upd (upd (upd (upd (upd (upd (upd (upd (upd f 0 x) 1 0) 3 (-1)) 4 0) 5 0) 6 0) 7 0) 8 0) 9 0) r) H := hP
  have hD : va_D A (DC cI a (upd (upd (upd (upd (upd (upd (upd (upd (upd f 0 x) 1 0) 3 (-1)) 4 0) 5 0) 6 0) 7 0) 8 0) 9 0) r) := hD
  refine lv_aload_n hx hb dX0_begin_45 rfl (lv_at hl 0 rfl) ?_
  refine va_get (D := D) (ci := 0) (v := .ref (a 1)) (C := RX0) (T := TX0) (N := 17) hx hb hw0 (fun _ h => h) hown hK hP 0 rfl rfl 10 (by decide) k9 (fun _ h9 => h9) rfl dX0_begin_46 ?_
  refine lv_iconst (v := 0) hx hb dX0_begin_49 (by decide) ?_
  refine wCSv (pre := (DC cI a (upd (upd (upd (upd (upd (upd (upd (upd (upd f 0 x) 1 0) 3 (-1)) 4 0) 5 0) 6 0) 7 0) 8 0) 9 0) r).take 1) (Wc := [(a 1, .inl (cI, 10, .inl (r 0)))]) (suf := (DC cI a (upd (upd (upd (upd (upd (upd (upd (upd (upd f 0 x) 1 0) 3 (-1)) 4 0) 5 0) 6 0) 7 0) 8 0) 9 0) r).drop 2) (As := [.ref (a 1), .int 0]) (rest := []) ⟨hx, hb, hml, hown, hts⟩ (mJ7_fill_53178 l D cI (a 1) 10 (r 0) 0 _ (by decide)) hN hA hK hS hP hD rfl (va_cwS 2 hts gX0_begin_J7_fill_53178 rfl rfl rfl (by decide +kernel) ⟨Nat.le_of_ble_eq_true rfl, Nat.le_of_ble_eq_true rfl⟩) rfl hl.1 rfl (Nat.le_of_ble_eq_true rfl) dX0_begin_50 ⟨Nat.zero_le _, Nat.zero_le _⟩ (fun u_50 H locs hw hP hD hS => ?_)
  have hP : va_P D vwCl (DC cI a (upd (upd (upd (upd (upd (upd (upd (upd (upd f 0 x) 1 0) 3 (-1)) 4 0) 5 0) 6 0) 7 0) 8 0) 9 0) (va_up r 0 (fun _ => 0))) H := hP
  have hD : va_D A (DC cI a (upd (upd (upd (upd (upd (upd (upd (upd (upd f 0 x) 1 0) 3 (-1)) 4 0) 5 0) 6 0) 7 0) 8 0) 9 0) (va_up r 0 (fun _ => 0))) := hD
  refine lv_aload_n hx hb dX0_begin_53 rfl (lv_at hl 0 rfl) ?_
  refine va_get (D := D) (ci := 0) (v := .ref (a 2)) (C := RX0) (T := TX0) (N := 17) hx hb hw0 (fun _ h => h) hown hK hP 0 rfl rfl 11 (by decide) k15 (fun _ h9 => h9) rfl dX0_begin_54 ?_
  refine lv_iconst (v := 0) hx hb dX0_begin_57 (by decide) ?_
  refine wCSv (pre := (DC cI a (upd (upd (upd (upd (upd (upd (upd (upd (upd f 0 x) 1 0) 3 (-1)) 4 0) 5 0) 6 0) 7 0) 8 0) 9 0) (va_up r 0 (fun _ => 0))).take 2) (Wc := [(a 2, .inl (cI, 10, .inl (r 1)))]) (suf := (DC cI a (upd (upd (upd (upd (upd (upd (upd (upd (upd f 0 x) 1 0) 3 (-1)) 4 0) 5 0) 6 0) 7 0) 8 0) 9 0) (va_up r 0 (fun _ => 0))).drop 3) (As := [.ref (a 2), .int 0]) (rest := []) ⟨hx, hb, hml, hown, hts⟩ (mJ7_fill_53178 l D cI (a 2) 10 (r 1) 0 _ (by decide)) hN hA hK hS hP hD rfl (va_cwS 2 hts gX0_begin_J7_fill_53178 rfl rfl rfl (by decide +kernel) ⟨Nat.le_of_ble_eq_true rfl, Nat.le_of_ble_eq_true rfl⟩) rfl hl.1 rfl (Nat.le_of_ble_eq_true rfl) dX0_begin_58 ⟨Nat.zero_le _, Nat.zero_le _⟩ (fun u_58 H locs hw hP hD hS => ?_)
  have hP : va_P D vwCl (DC cI a (upd (upd (upd (upd (upd (upd (upd (upd (upd f 0 x) 1 0) 3 (-1)) 4 0) 5 0) 6 0) 7 0) 8 0) 9 0) (va_up (va_up r 0 (fun _ => 0)) 1 (fun _ => 0))) H := hP
  have hD : va_D A (DC cI a (upd (upd (upd (upd (upd (upd (upd (upd (upd f 0 x) 1 0) 3 (-1)) 4 0) 5 0) 6 0) 7 0) 8 0) 9 0) (va_up (va_up r 0 (fun _ => 0)) 1 (fun _ => 0))) := hD
  refine lv_aload_n hx hb dX0_begin_61 rfl (lv_at hl 0 rfl) ?_
  refine va_get (D := D) (ci := 0) (v := .ref (a 3)) (C := RX0) (T := TX0) (N := 17) hx hb hw0 (fun _ h => h) hown hK hP 0 rfl rfl 12 (by decide) k18 (fun _ h9 => h9) rfl dX0_begin_62 ?_
  refine lv_iconst (v := 0) hx hb dX0_begin_65 (by decide) ?_
  refine wCSv (pre := (DC cI a (upd (upd (upd (upd (upd (upd (upd (upd (upd f 0 x) 1 0) 3 (-1)) 4 0) 5 0) 6 0) 7 0) 8 0) 9 0) (va_up (va_up r 0 (fun _ => 0)) 1 (fun _ => 0))).take 3) (Wc := [(a 3, .inl (cI, 10, .inl (r 2)))]) (suf := (DC cI a (upd (upd (upd (upd (upd (upd (upd (upd (upd f 0 x) 1 0) 3 (-1)) 4 0) 5 0) 6 0) 7 0) 8 0) 9 0) (va_up (va_up r 0 (fun _ => 0)) 1 (fun _ => 0))).drop 4) (As := [.ref (a 3), .int 0]) (rest := []) ⟨hx, hb, hml, hown, hts⟩ (mJ7_fill_53178 l D cI (a 3) 10 (r 2) 0 _ (by decide)) hN hA hK hS hP hD rfl (va_cwS 2 hts gX0_begin_J7_fill_53178 rfl rfl rfl (by decide +kernel) ⟨Nat.le_of_ble_eq_true rfl, Nat.le_of_ble_eq_true rfl⟩) rfl hl.1 rfl (Nat.le_of_ble_eq_true rfl) dX0_begin_66 ⟨Nat.zero_le _, Nat.zero_le _⟩ (fun u_66 H locs hw hP hD hS => ?_)
  have hP : va_P D vwCl (DC cI a (upd (upd (upd (upd (upd (upd (upd (upd (upd f 0 x) 1 0) 3 (-1)) 4 0) 5 0) 6 0) 7 0) 8 0) 9 0) (va_up (va_up (va_up r 0 (fun _ => 0)) 1 (fun _ => 0)) 2 (fun _ => 0))) H := hP
  have hD : va_D A (DC cI a (upd (upd (upd (upd (upd (upd (upd (upd (upd f 0 x) 1 0) 3 (-1)) 4 0) 5 0) 6 0) 7 0) 8 0) 9 0) (va_up (va_up (va_up r 0 (fun _ => 0)) 1 (fun _ => 0)) 2 (fun _ => 0))) := hD
  refine lv_aload_n hx hb dX0_begin_69 rfl (lv_at hl 0 rfl) ?_
  refine va_get (D := D) (ci := 0) (v := .ref (a 4)) (C := RX0) (T := TX0) (N := 17) hx hb hw0 (fun _ h => h) hown hK hP 0 rfl rfl 13 (by decide) k21 (fun _ h9 => h9) rfl dX0_begin_70 ?_
  refine lv_iconst (v := 0) hx hb dX0_begin_73 (by decide) ?_
  refine wCSv (pre := (DC cI a (upd (upd (upd (upd (upd (upd (upd (upd (upd f 0 x) 1 0) 3 (-1)) 4 0) 5 0) 6 0) 7 0) 8 0) 9 0) (va_up (va_up (va_up r 0 (fun _ => 0)) 1 (fun _ => 0)) 2 (fun _ => 0))).take 4) (Wc := [(a 4, .inl (cI, 10, .inl (r 3)))]) (suf := (DC cI a (upd (upd (upd (upd (upd (upd (upd (upd (upd f 0 x) 1 0) 3 (-1)) 4 0) 5 0) 6 0) 7 0) 8 0) 9 0) (va_up (va_up (va_up r 0 (fun _ => 0)) 1 (fun _ => 0)) 2 (fun _ => 0))).drop 5) (As := [.ref (a 4), .int 0]) (rest := []) ⟨hx, hb, hml, hown, hts⟩ (mJ7_fill_53178 l D cI (a 4) 10 (r 3) 0 _ (by decide)) hN hA hK hS hP hD rfl (va_cwS 2 hts gX0_begin_J7_fill_53178 rfl rfl rfl (by decide +kernel) ⟨Nat.le_of_ble_eq_true rfl, Nat.le_of_ble_eq_true rfl⟩) rfl hl.1 rfl (Nat.le_of_ble_eq_true rfl) dX0_begin_74 ⟨Nat.zero_le _, Nat.zero_le _⟩ (fun u_74 H locs hw hP hD hS => ?_)
  have hP : va_P D vwCl (DC cI a (upd (upd (upd (upd (upd (upd (upd (upd (upd f 0 x) 1 0) 3 (-1)) 4 0) 5 0) 6 0) 7 0) 8 0) 9 0) (va_up (va_up (va_up (va_up r 0 (fun _ => 0)) 1 (fun _ => 0)) 2 (fun _ => 0)) 3 (fun _ => 0))) H := hP
  have hD : va_D A (DC cI a (upd (upd (upd (upd (upd (upd (upd (upd (upd f 0 x) 1 0) 3 (-1)) 4 0) 5 0) 6 0) 7 0) 8 0) 9 0) (va_up (va_up (va_up (va_up r 0 (fun _ => 0)) 1 (fun _ => 0)) 2 (fun _ => 0)) 3 (fun _ => 0))) := hD
  refine lv_aload_n hx hb dX0_begin_77 rfl (lv_at hl 0 rfl) ?_
  refine va_get (D := D) (ci := 0) (v := .ref (a 5)) (C := RX0) (T := TX0) (N := 17) hx hb hw0 (fun _ h => h) hown hK hP 0 rfl rfl 14 (by decide) k24 (fun _ h9 => h9) rfl dX0_begin_78 ?_
  refine lv_iconst (v := (-1)) hx hb dX0_begin_81 (by decide) ?_
  refine wCSv (pre := (DC cI a (upd (upd (upd (upd (upd (upd (upd (upd (upd f 0 x) 1 0) 3 (-1)) 4 0) 5 0) 6 0) 7 0) 8 0) 9 0) (va_up (va_up (va_up (va_up r 0 (fun _ => 0)) 1 (fun _ => 0)) 2 (fun _ => 0)) 3 (fun _ => 0))).take 5) (Wc := [(a 5, .inl (cI, 100, .inl (r 4)))]) (suf := (DC cI a (upd (upd (upd (upd (upd (upd (upd (upd (upd f 0 x) 1 0) 3 (-1)) 4 0) 5 0) 6 0) 7 0) 8 0) 9 0) (va_up (va_up (va_up (va_up r 0 (fun _ => 0)) 1 (fun _ => 0)) 2 (fun _ => 0)) 3 (fun _ => 0))).drop 6) (As := [.ref (a 5), .int (-1)]) (rest := []) ⟨hx, hb, hml, hown, hts⟩ (mJ7_fill_53178 l D cI (a 5) 100 (r 4) (-1) _ (by decide)) hN hA hK hS hP hD rfl (va_cwS 2 hts gX0_begin_J7_fill_53178 rfl rfl rfl (by decide +kernel) ⟨Nat.le_of_ble_eq_true rfl, Nat.le_of_ble_eq_true rfl⟩) rfl hl.1 rfl (Nat.le_of_ble_eq_true rfl) dX0_begin_82 ⟨Nat.zero_le _, Nat.zero_le _⟩ (fun u_82 H locs hw hP hD hS => ?_)
  have hP : va_P D vwCl (DC cI a (upd (upd (upd (upd (upd (upd (upd (upd (upd f 0 x) 1 0) 3 (-1)) 4 0) 5 0) 6 0) 7 0) 8 0) 9 0) (va_up (va_up (va_up (va_up (va_up r 0 (fun _ => 0)) 1 (fun _ => 0)) 2 (fun _ => 0)) 3 (fun _ => 0)) 4 (fun _ => (-1)))) H := hP
  have hD : va_D A (DC cI a (upd (upd (upd (upd (upd (upd (upd (upd (upd f 0 x) 1 0) 3 (-1)) 4 0) 5 0) 6 0) 7 0) 8 0) 9 0) (va_up (va_up (va_up (va_up (va_up r 0 (fun _ => 0)) 1 (fun _ => 0)) 2 (fun _ => 0)) 3 (fun _ => 0)) 4 (fun _ => (-1)))) := hD
  refine lv_aload_n hx hb dX0_begin_85 rfl (lv_at hl 0 rfl) ?_
  refine va_get (D := D) (ci := 0) (v := .ref (a 6)) (C := RX0) (T := TX0) (N := 17) hx hb hw0 (fun _ h => h) hown hK hP 0 rfl rfl 15 (by decide) k27 (fun _ h9 => h9) rfl dX0_begin_86 ?_
  refine lv_iconst (v := 0) hx hb dX0_begin_89 (by decide) ?_
  refine wCSv (pre := (DC cI a (upd (upd (upd (upd (upd (upd (upd (upd (upd f 0 x) 1 0) 3 (-1)) 4 0) 5 0) 6 0) 7 0) 8 0) 9 0) (va_up (va_up (va_up (va_up (va_up r 0 (fun _ => 0)) 1 (fun _ => 0)) 2 (fun _ => 0)) 3 (fun _ => 0)) 4 (fun _ => (-1)))).take 6) (Wc := [(a 6, .inl (cI, 100, .inl (r 5)))]) (suf := (DC cI a (upd (upd (upd (upd (upd (upd (upd (upd (upd f 0 x) 1 0) 3 (-1)) 4 0) 5 0) 6 0) 7 0) 8 0) 9 0) (va_up (va_up (va_up (va_up (va_up r 0 (fun _ => 0)) 1 (fun _ => 0)) 2 (fun _ => 0)) 3 (fun _ => 0)) 4 (fun _ => (-1)))).drop 7) (As := [.ref (a 6), .int 0]) (rest := []) ⟨hx, hb, hml, hown, hts⟩ (mJ7_fill_53178 l D cI (a 6) 100 (r 5) 0 _ (by decide)) hN hA hK hS hP hD rfl (va_cwS 2 hts gX0_begin_J7_fill_53178 rfl rfl rfl (by decide +kernel) ⟨Nat.le_of_ble_eq_true rfl, Nat.le_of_ble_eq_true rfl⟩) rfl hl.1 rfl (Nat.le_of_ble_eq_true rfl) dX0_begin_90 ⟨Nat.zero_le _, Nat.zero_le _⟩ (fun u_90 H locs hw hP hD hS => ?_)
  have hP : va_P D vwCl (DC cI a (upd (upd (upd (upd (upd (upd (upd (upd (upd f 0 x) 1 0) 3 (-1)) 4 0) 5 0) 6 0) 7 0) 8 0) 9 0) (va_up (va_up (va_up (va_up (va_up (va_up r 0 (fun _ => 0)) 1 (fun _ => 0)) 2 (fun _ => 0)) 3 (fun _ => 0)) 4 (fun _ => (-1))) 5 (fun _ => 0))) H := hP
  have hD : va_D A (DC cI a (upd (upd (upd (upd (upd (upd (upd (upd (upd f 0 x) 1 0) 3 (-1)) 4 0) 5 0) 6 0) 7 0) 8 0) 9 0) (va_up (va_up (va_up (va_up (va_up (va_up r 0 (fun _ => 0)) 1 (fun _ => 0)) 2 (fun _ => 0)) 3 (fun _ => 0)) 4 (fun _ => (-1))) 5 (fun _ => 0))) := hD
  exact wRv hQ hx hb hr hlocks hP hD hS dX0_begin_93 ((upd (upd (upd (upd (upd (upd (upd (upd (upd f 0 x) 1 0) 3 (-1)) 4 0) 5 0) 6 0) 7 0) 8 0) 9 0), (va_up (va_up (va_up (va_up (va_up (va_up r 0 (fun _ => 0)) 1 (fun _ => 0)) 2 (fun _ => 0)) 3 (fun _ => 0)) 4 (fun _ => (-1))) 5 (fun _ => 0))) (rfl) rfl
