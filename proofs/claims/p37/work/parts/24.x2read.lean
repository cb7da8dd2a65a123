abbrev rmX2_apart : Room := { frames := 0, cells := 0, slots := 0, locals := 0 }
set_option maxRecDepth 100000 in
set_option maxHeartbeats 4000000 in
/-- apart -/
theorem mX2_apart (l : Launch) (D : va_G) (cI cR : ClassId) (a ca ga : Nat → Nat) (n k : Nat) (f : Nat → Int32) (r G : Nat → Nat → Int32) (x y : Nat) (sz : Nat) (hg : f 0 = nI n) (hn0 : 2 ≤ n) (hn1 : n ≤ 10) (hk : k ≤ 100) (ux : x < n) (uy : y < n) : wCt l yX2_apart wsX2_apart rmX2_apart D [(cI, .int), (cR, .array .int)] [.ref (a 0), .int (nI x), .int (nI y)] (SC cI cR a ca ga n k f r ++ (CW cI ca n (r 5) ++ RW cI ga k 3 G)) sz 0 0 (wQi D (fun v (_ : Unit) => v = nI (sN n x y)) (fun _ : Unit => SC cI cR a ca ga n k f r ++ (CW cI ca n (r 5) ++ RW cI ga k 3 G))) := by
  refine wMet cX2_apart 4 (some .int) (by decide) rfl (Nat.le_of_ble_eq_true rfl) ?_
  intro p e s m args below meth c A Q ls hQ hx hb hr hml hown hlocks hin hts hN hP hK hD hA hS hl
  have hK1 : va_K D vwCl [(cI, .int)] s := hK.sub [0] rfl
  have hl : lv_has ls 4 [(0, .ref (a 0)), (1, .int (nI x)), (2, .int (nI y))] := hl
  have hown : s.vm.findClass RX2 = some m.cls := hown
  have hw2 : ∀ w ∈ wsX20, w.before args s = true := fun w h => hts w (List.mem_cons_of_mem _ (List.mem_append_right _ h))
  have k22 := hts (.fieldLink RX2 22 "PauseLedgerLaw$Sim" "guests" "I") (by decide +kernel)
  refine lv_iconst (v := 0) hx hb dX2_apart_0 (by decide) ?_
  refine lv_istore_n (lv' := [(3, .int 0), (0, .ref (a 0)), (1, .int (nI x)), (2, .int (nI y))]) hx hb dX2_apart_1 rfl hl (by decide) rfl (fun ls hl => ?_)
  have loop2 : ∀ (j i2 : Nat), i2 + j = sN n x y → ∀ (H : Heap) (locs : List Loc) (ls : Array Slot), va_P D vwCl (SC cI cR a ca ga n k f r ++ (CW cI ca n (r 5) ++ RW cI ga k 3 G)) H → va_D A (SC cI cR a ca ga n k f r ++ (CW cI ca n (r 5) ++ RW cI ga k 3 G)) → va_S A s.heap H locs → lv_has ls 4 [(3, .int (nI i2)), (0, .ref (a 0)), (1, .int (nI x)), (2, .int (nI y))] → W p l e rmX2_apart s m args below meth c H locs 0 0 Q (F0 m 2 ls []) := by
    intro j
    induction j with
    | zero =>
      intro i2 hi2 H locs ls hP hD hS hl
      have ez : sN n x y = i2 := by omega
      subst ez
      have he := sN_end hn1 ux uy
      have h5 := sN_le hn1 ux uy
      have hm1 := Nat.mod_lt (x + sN n x y) (show 0 < n by omega)
      have hm2 := Nat.mod_lt (y + sN n x y) (show 0 < n by omega)
      refine lv_iload_n hx hb dX2_apart_2 rfl (lv_at hl 2 rfl) ?_
      refine lv_iload_n hx hb dX2_apart_3 rfl (lv_at hl 0 rfl) ?_
      refine lv_iadd hx hb dX2_apart_4 ?_
      refine wTop (z := nI (x + (sN n x y))) (nI_add x (sN n x y)) ?_
      refine lv_aload_n hx hb dX2_apart_5 rfl (lv_at hl 1 rfl) ?_
      refine va_get (D := D) (ci := 2) (v := .int (f 0)) (C := RX2) (T := TX2) (N := 15) hx hb hw2 (fun _ h => h) hown hK hP 0 rfl rfl 0 (by decide) k22 (fun _ h9 => h9) rfl dX2_apart_6 ?_
      refine lv_irem hx hb dX2_apart_9 (by rw [hg]; exact nI_ne0 (by omega) (by omega)) ?_
      refine wTop (z := nI ((x + (sN n x y)) % n)) (by rw [hg]; exact pk_rem (a := (x + (sN n x y))) (d := n) (by omega) (by omega) (by omega)) ?_
      refine lv_iload_n hx hb dX2_apart_10 rfl (lv_at hl 3 rfl) ?_
      refine lv_icmp_eq (tgt := 32) hx hb dX2_apart_11 (by decide) (fun c_11 => ?_) (fun c_11 => ?_)
      · have c_11n := (nI_eq (a := ((x + (sN n x y)) % n)) (b := y) (by omega) (by omega)).mp c_11
        refine lv_iload_n hx hb dX2_apart_32 rfl (lv_at hl 0 rfl) ?_
        exact wRi hQ hx hb hr hlocks hP hD hS dX2_apart_33 () (rfl) rfl
      · have c_11n := mt (nI_eq (a := ((x + (sN n x y)) % n)) (b := y) (by omega) (by omega)).mpr c_11
        refine lv_iload_n hx hb dX2_apart_14 rfl (lv_at hl 3 rfl) ?_
        refine lv_iload_n hx hb dX2_apart_15 rfl (lv_at hl 0 rfl) ?_
        refine lv_iadd hx hb dX2_apart_16 ?_
        refine wTop (z := nI (y + (sN n x y))) (nI_add y (sN n x y)) ?_
        refine lv_aload_n hx hb dX2_apart_17 rfl (lv_at hl 1 rfl) ?_
        refine va_get (D := D) (ci := 2) (v := .int (f 0)) (C := RX2) (T := TX2) (N := 15) hx hb hw2 (fun _ h => h) hown hK hP 0 rfl rfl 0 (by decide) k22 (fun _ h9 => h9) rfl dX2_apart_18 ?_
        refine lv_irem hx hb dX2_apart_21 (by rw [hg]; exact nI_ne0 (by omega) (by omega)) ?_
        refine wTop (z := nI ((y + (sN n x y)) % n)) (by rw [hg]; exact pk_rem (a := (y + (sN n x y))) (d := n) (by omega) (by omega) (by omega)) ?_
        refine lv_iload_n hx hb dX2_apart_22 rfl (lv_at hl 2 rfl) ?_
        refine lv_icmp_eq (tgt := 32) hx hb dX2_apart_23 (by decide) (fun c_23 => ?_) (fun h9 => absurd ((nI_eq (by omega) (by omega)).mpr (he.resolve_left c_11n)) h9)
        have c_23n := (nI_eq (a := ((y + (sN n x y)) % n)) (b := x) (by omega) (by omega)).mp c_23
        refine lv_iload_n hx hb dX2_apart_32 rfl (lv_at hl 0 rfl) ?_
        exact wRi hQ hx hb hr hlocks hP hD hS dX2_apart_33 () (rfl) rfl
    | succ j ih2 =>
      intro i2 hi2 H locs ls hP hD hS hl
      have hs := sN_lt hn1 ux uy (show i2 < sN n x y by omega)
      have h5 := sN_le hn1 ux uy
      have hm1 := Nat.mod_lt (x + i2) (show 0 < n by omega)
      have hm2 := Nat.mod_lt (y + i2) (show 0 < n by omega)
      refine lv_iload_n hx hb dX2_apart_2 rfl (lv_at hl 2 rfl) ?_
      refine lv_iload_n hx hb dX2_apart_3 rfl (lv_at hl 0 rfl) ?_
      refine lv_iadd hx hb dX2_apart_4 ?_
      refine wTop (z := nI (x + i2)) (nI_add x i2) ?_
      refine lv_aload_n hx hb dX2_apart_5 rfl (lv_at hl 1 rfl) ?_
      refine va_get (D := D) (ci := 2) (v := .int (f 0)) (C := RX2) (T := TX2) (N := 15) hx hb hw2 (fun _ h => h) hown hK hP 0 rfl rfl 0 (by decide) k22 (fun _ h9 => h9) rfl dX2_apart_6 ?_
      refine lv_irem hx hb dX2_apart_9 (by rw [hg]; exact nI_ne0 (by omega) (by omega)) ?_
      refine wTop (z := nI ((x + i2) % n)) (by rw [hg]; exact pk_rem (a := (x + i2)) (d := n) (by omega) (by omega) (by omega)) ?_
      refine lv_iload_n hx hb dX2_apart_10 rfl (lv_at hl 3 rfl) ?_
      refine lv_icmp_eq (tgt := 32) hx hb dX2_apart_11 (by decide) (fun h9 => absurd h9 (mt (nI_eq (by omega) (by omega)).mp hs.1)) (fun c_11 => ?_)
      have c_11n := mt (nI_eq (a := ((x + i2) % n)) (b := y) (by omega) (by omega)).mpr c_11
      refine lv_iload_n hx hb dX2_apart_14 rfl (lv_at hl 3 rfl) ?_
      refine lv_iload_n hx hb dX2_apart_15 rfl (lv_at hl 0 rfl) ?_
      refine lv_iadd hx hb dX2_apart_16 ?_
      refine wTop (z := nI (y + i2)) (nI_add y i2) ?_
      refine lv_aload_n hx hb dX2_apart_17 rfl (lv_at hl 1 rfl) ?_
      refine va_get (D := D) (ci := 2) (v := .int (f 0)) (C := RX2) (T := TX2) (N := 15) hx hb hw2 (fun _ h => h) hown hK hP 0 rfl rfl 0 (by decide) k22 (fun _ h9 => h9) rfl dX2_apart_18 ?_
      refine lv_irem hx hb dX2_apart_21 (by rw [hg]; exact nI_ne0 (by omega) (by omega)) ?_
      refine wTop (z := nI ((y + i2) % n)) (by rw [hg]; exact pk_rem (a := (y + i2)) (d := n) (by omega) (by omega) (by omega)) ?_
      refine lv_iload_n hx hb dX2_apart_22 rfl (lv_at hl 2 rfl) ?_
      refine lv_icmp_eq (tgt := 32) hx hb dX2_apart_23 (by decide) (fun h9 => absurd h9 (mt (nI_eq (by omega) (by omega)).mp hs.2)) (fun c_23 => ?_)
      have c_23n := mt (nI_eq (a := ((y + i2) % n)) (b := x) (by omega) (by omega)).mpr c_23
      refine lv_iinc (v := nI (i2 + 1)) (lv' := [(3, .int (nI (i2 + 1))), (0, .ref (a 0)), (1, .int (nI x)), (2, .int (nI y))]) hx hb dX2_apart_26 hl (k := 0) rfl (nI_1 i2) (by decide) rfl (fun ls hl => ?_)
      refine lv_goto (tgt := 2) hx hb dX2_apart_29 (by decide) ?_
      exact ih2 (i2 + 1) (by omega) _ _ _ hP hD hS (lv_sub hl [0, 1, 2, 3] rfl)
  exact loop2 (sN n x y) 0 (by omega) _ _ _ hP hD hS (lv_sub hl [0, 1, 2, 3] rfl)
abbrev rmX2_all : Room := { frames := 0, cells := 0, slots := 0, locals := 0 }
set_option maxRecDepth 100000 in
set_option maxHeartbeats 4000000 in
/-- all -/
theorem mX2_all (l : Launch) (D : va_G) (cI cR : ClassId) (a ca ga : Nat → Nat) (n k : Nat) (f : Nat → Int32) (r G : Nat → Nat → Int32) (sz : Nat) (hg : f 0 = nI n) (hn0 : 2 ≤ n) (hn1 : n ≤ 10) (hk : k ≤ 100) : wCt l yX2_all wsX2_all rmX2_all D [(cI, .int), (cR, .array .int)] [.ref (a 0)] (SC cI cR a ca ga n k f r ++ (CW cI ca n (r 5) ++ RW cI ga k 3 G)) sz 0 0 (wQi D (fun v (_ : Unit) => v = dSum (r 3) n + f 6) (fun _ : Unit => SC cI cR a ca ga n k f r ++ (CW cI ca n (r 5) ++ RW cI ga k 3 G))) := by
  refine wMet cX2_all 6 (some .int) (by decide) rfl (Nat.le_of_ble_eq_true rfl) ?_
  intro p e s m args below meth c A Q ls hQ hx hb hr hml hown hlocks hin hts hN hP hK hD hA hS hl
  have hK1 : va_K D vwCl [(cI, .int)] s := hK.sub [0] rfl
  have hl : lv_has ls 6 [(0, .ref (a 0))] := hl
  have hown : s.vm.findClass RX2 = some m.cls := hown
  have hw2 : ∀ w ∈ wsX20, w.before args s = true := fun w h => hts w (List.mem_cons_of_mem _ (List.mem_append_right _ h))
  have k34 := hts (.fieldLink RX2 34 "PauseLedgerLaw$Sim" "unsaid" "[I") (by decide +kernel)
  have k53 := hts (.fieldLink RX2 53 "PauseLedgerLaw$Sim" "quiet" "I") (by decide +kernel)
  refine lv_aload_n hx hb dX2_all_0 rfl (lv_at hl 0 rfl) ?_
  refine va_get (D := D) (ci := 2) (v := .int (f 6)) (C := RX2) (T := TX2) (N := 15) hx hb hw2 (fun _ h => h) hown hK hP 0 rfl rfl 6 (by decide) k53 (fun _ h9 => h9) rfl dX2_all_1 ?_
  refine lv_istore_n (lv' := [(1, .int (f 6)), (0, .ref (a 0))]) hx hb dX2_all_4 rfl hl (by decide) rfl (fun ls hl => ?_)
  refine lv_aload_n hx hb dX2_all_5 rfl (lv_at hl 1 rfl) ?_
  refine va_get (D := D) (ci := 2) (v := .ref (a 4)) (C := RX2) (T := TX2) (N := 15) hx hb hw2 (fun _ h => h) hown hK hP 0 rfl rfl 12 (by decide) k34 (fun _ h9 => h9) rfl dX2_all_6 ?_
  refine lv_astore_n (lv' := [(2, .ref (a 4)), (1, .int (f 6)), (0, .ref (a 0))]) hx hb dX2_all_9 rfl hl (by decide) rfl (fun ls hl => ?_)
  refine lv_aload_n hx hb dX2_all_10 rfl (lv_at hl 0 rfl) ?_
  refine va_alen (v := nI n) hx hb hK hP 5 0 rfl rfl rfl dX2_all_11 ?_
  refine lv_istore_n (lv' := [(3, .int (nI n)), (2, .ref (a 4)), (1, .int (f 6)), (0, .ref (a 0))]) hx hb dX2_all_12 rfl hl (by decide) rfl (fun ls hl => ?_)
  refine lv_iconst (v := 0) hx hb dX2_all_13 (by decide) ?_
  refine lv_istore (lv' := [(4, .int 0), (3, .int (nI n)), (2, .ref (a 4)), (1, .int (f 6)), (0, .ref (a 0))]) hx hb dX2_all_14 hl (by decide) rfl (fun ls hl => ?_)
  have loop16 : ∀ (j i16 : Nat), i16 + j = n → ∀ (H : Heap) (locs : List Loc) (ls : Array Slot), va_P D vwCl (SC cI cR a ca ga n k f r ++ (CW cI ca n (r 5) ++ RW cI ga k 3 G)) H → va_D A (SC cI cR a ca ga n k f r ++ (CW cI ca n (r 5) ++ RW cI ga k 3 G)) → va_S A s.heap H locs → lv_has ls 6 [(4, .int (nI i16)), (1, .int (sAll (f 6) (r 3) i16)), (0, .ref (a 0)), (2, .ref (a 4)), (3, .int (nI n))] → W p l e rmX2_all s m args below meth c H locs 0 0 Q (F0 m 16 ls []) := by
    intro j
    induction j with
    | zero =>
      intro i16 hi16 H locs ls hP hD hS hl
      have ez : n = i16 := by omega
      subst ez
      refine lv_iload hx hb dX2_all_16 (lv_at hl 0 rfl) ?_
      refine lv_iload_n hx hb dX2_all_18 rfl (lv_at hl 4 rfl) ?_
      refine lv_icmp_ge (tgt := 39) hx hb dX2_all_19 (by decide) (fun c_19 => ?_) (fun h9 => absurd (nI_le (Nat.le_refl _) (by omega)) h9)
      have c_19n := (nI_leI (a := n) (b := n) (by omega) (by omega)).mp c_19
      refine lv_iload_n hx hb dX2_all_39 rfl (lv_at hl 1 rfl) ?_
      exact wRi hQ hx hb hr hlocks hP hD hS dX2_all_40 () (sAll_eq _ _ _) rfl
    | succ j ih16 =>
      intro i16 hi16 H locs ls hP hD hS hl
      refine lv_iload hx hb dX2_all_16 (lv_at hl 0 rfl) ?_
      refine lv_iload_n hx hb dX2_all_18 rfl (lv_at hl 4 rfl) ?_
      refine lv_icmp_ge (tgt := 39) hx hb dX2_all_19 (by decide) (fun h9 => absurd h9 (nI_ge (by omega) (by omega))) (fun c_19 => ?_)
      have c_19n := mt (nI_leI (a := n) (b := i16) (by omega) (by omega)).mpr c_19
      refine lv_aload_n hx hb dX2_all_22 rfl (lv_at hl 3 rfl) ?_
      refine lv_iload hx hb dX2_all_23 (lv_at hl 0 rfl) ?_
      refine wIald hx hb hK hP 5 0 rfl rfl i16 rfl (by omega) (by omega) dX2_all_25 ?_
      refine lv_istore (lv' := [(5, .int ((r 3) i16)), (4, .int (nI i16)), (1, .int (sAll (f 6) (r 3) i16)), (0, .ref (a 0)), (2, .ref (a 4)), (3, .int (nI n))]) hx hb dX2_all_26 hl (by decide) rfl (fun ls hl => ?_)
      refine lv_iload_n hx hb dX2_all_28 rfl (lv_at hl 2 rfl) ?_
      refine lv_iload hx hb dX2_all_29 (lv_at hl 0 rfl) ?_
      refine lv_iadd hx hb dX2_all_31 ?_
      refine lv_istore_n (lv' := [(1, .int ((sAll (f 6) (r 3) i16) + ((r 3) i16))), (5, .int ((r 3) i16)), (4, .int (nI i16)), (0, .ref (a 0)), (2, .ref (a 4)), (3, .int (nI n))]) hx hb dX2_all_32 rfl hl (by decide) rfl (fun ls hl => ?_)
      refine lv_iinc (v := nI (i16 + 1)) (lv' := [(4, .int (nI (i16 + 1))), (1, .int ((sAll (f 6) (r 3) i16) + ((r 3) i16))), (5, .int ((r 3) i16)), (0, .ref (a 0)), (2, .ref (a 4)), (3, .int (nI n))]) hx hb dX2_all_33 hl (k := 2) rfl (nI_1 i16) (by decide) rfl (fun ls hl => ?_)
      refine lv_goto (tgt := 16) hx hb dX2_all_36 (by decide) ?_
      exact ih16 (i16 + 1) (by omega) _ _ _ hP hD hS (lv_sub hl [0, 1, 3, 4, 5] rfl)
  exact loop16 n 0 (by omega) _ _ _ hP hD hS (lv_sub hl [0, 3, 4, 2, 1] rfl)
abbrev rmX2_rated : Room := { frames := 1, cells := 0, slots := 0, locals := 25 }
set_option maxRecDepth 100000 in
set_option maxHeartbeats 4000000 in
/-- rated -/
theorem mX2_rated (l : Launch) (D : va_G) (cI cR : ClassId) (a ca ga : Nat → Nat) (n k : Nat) (f : Nat → Int32) (r G : Nat → Nat → Int32) (sz : Nat) (hg : f 0 = nI n) (hn0 : 2 ≤ n) (hn1 : n ≤ 10) (hk : k ≤ 100) : wCt l yX2_rated wsX2_rated rmX2_rated D [(cI, .int), (cR, .array .int)] [.ref (a 0)] (SC cI cR a ca ga n k f r ++ (CW cI ca n (r 5) ++ RW cI ga k 3 G)) sz 0 0 (wQi D (fun v (_ : Unit) => v = sRated ((dSum (r 3) n + f 6) / f 0)) (fun _ : Unit => SC cI cR a ca ga n k f r ++ (CW cI ca n (r 5) ++ RW cI ga k 3 G))) := by
  refine wMet cX2_rated 3 (some .int) (by decide) rfl (Nat.le_of_ble_eq_true rfl) ?_
  intro p e s m args below meth c A Q ls hQ hx hb hr hml hown hlocks hin hts hN hP hK hD hA hS hl
  have hK1 : va_K D vwCl [(cI, .int)] s := hK.sub [0] rfl
  have hl : lv_has ls 3 [(0, .ref (a 0))] := hl
  have hown : s.vm.findClass RX2 = some m.cls := hown
  have hw2 : ∀ w ∈ wsX20, w.before args s = true := fun w h => hts w (List.mem_cons_of_mem _ (List.mem_append_right _ h))
  have k22 := hts (.fieldLink RX2 22 "PauseLedgerLaw$Sim" "guests" "I") (by decide +kernel)
  refine lv_aload_n hx hb dX2_rated_0 rfl (lv_at hl 0 rfl) ?_
  refine wCVi (pre := ([] : va_W)) (Wc := SC cI cR a ca ga n k f r ++ (CW cI ca n (r 5) ++ RW cI ga k 3 G)) (suf := ([] : va_W)) (As := []) (rest := []) ⟨hx, hb, hml, hown, hts⟩ (mX2_all l D cI cR a ca ga n k f r G _ hg hn0 hn1 hk) hN hA hK hS hP hD (by simp only [List.append_assoc, List.append_nil, List.nil_append]) 0 (r := (RX2, TX2, 15)) rfl rfl (cwV 0 hts gX2_rated_X2_all rfl rfl rfl (by decide +kernel) ⟨Nat.le_of_ble_eq_true rfl, Nat.le_of_ble_eq_true rfl⟩) rfl hl.1 rfl (Nat.le_of_ble_eq_true rfl) dX2_rated_1 ⟨by show 0 ≤ 0; omega, by show 0 ≤ 0; omega⟩ (fun r_1 u_1 H locs hw hP hD hS => ?_)
  have hw : r_1 = dSum (r 3) n + (f 6) := hw
  subst hw
  have hP : va_P D vwCl (SC cI cR a ca ga n k f r ++ (CW cI ca n (r 5) ++ RW cI ga k 3 G)) H := by simpa only [List.append_assoc, List.append_nil, List.nil_append] using hP
  have hD : va_D A (SC cI cR a ca ga n k f r ++ (CW cI ca n (r 5) ++ RW cI ga k 3 G)) := by simpa only [List.append_assoc, List.append_nil, List.nil_append] using hD
  refine lv_aload_n hx hb dX2_rated_4 rfl (lv_at hl 0 rfl) ?_
  refine va_get (D := D) (ci := 2) (v := .int (f 0)) (C := RX2) (T := TX2) (N := 15) hx hb hw2 (fun _ h => h) hown hK hP 0 rfl rfl 0 (by decide) k22 (fun _ h9 => h9) rfl dX2_rated_5 ?_
  refine lv_idiv hx hb dX2_rated_8 (by rw [hg]; exact nI_ne0 (by omega) (by omega)) ?_
  refine lv_istore_n (lv' := [(1, .int ((dSum (r 3) n + (f 6)) / (f 0))), (0, .ref (a 0))]) hx hb dX2_rated_9 rfl hl (by decide) rfl (fun ls hl => ?_)
  refine lv_iload_n hx hb dX2_rated_10 rfl (lv_at hl 0 rfl) ?_
  refine lv_iconst (v := 4) hx hb dX2_rated_11 (by decide) ?_
  refine lv_icmp_ge (tgt := 22) hx hb dX2_rated_12 (by decide) (fun c_12 => ?_) (fun c_12 => ?_)
  · refine lv_bipush (v := 14) hx hb dX2_rated_22 (by decide) ?_
    refine lv_iload_n hx hb dX2_rated_24 rfl (lv_at hl 0 rfl) ?_
    refine lv_isub hx hb dX2_rated_25 ?_
    refine lv_istore_n (lv' := [(2, .int (14 - ((dSum (r 3) n + (f 6)) / (f 0)))), (1, .int ((dSum (r 3) n + (f 6)) / (f 0))), (0, .ref (a 0))]) hx hb dX2_rated_26 rfl hl (by decide) rfl (fun ls hl => ?_)
    refine lv_iload_n hx hb dX2_rated_27 rfl (lv_at hl 0 rfl) ?_
    refine lv_if_ge (tgt := 35) hx hb dX2_rated_28 (by decide) (fun c_28 => ?_) (fun c_28 => ?_)
    · refine lv_iload_n hx hb dX2_rated_35 rfl (lv_at hl 0 rfl) ?_
      exact wRi hQ hx hb hr hlocks hP hD hS dX2_rated_36 () (by simp only [sRated, sMade, if_neg (Int32.not_lt.mpr c_12), if_neg (Int32.not_lt.mpr c_28)]) rfl
    · refine lv_iconst (v := 0) hx hb dX2_rated_31 (by decide) ?_
      refine lv_goto (tgt := 36) hx hb dX2_rated_32 (by decide) ?_
      exact wRi hQ hx hb hr hlocks hP hD hS dX2_rated_36 () (by simp only [sRated, sMade, if_neg (Int32.not_lt.mpr c_12), if_pos (Int32.not_le.mp c_28)]) rfl
  · refine lv_bipush (v := 6) hx hb dX2_rated_15 (by decide) ?_
    refine lv_iload_n hx hb dX2_rated_17 rfl (lv_at hl 0 rfl) ?_
    refine lv_iadd hx hb dX2_rated_18 ?_
    refine lv_goto (tgt := 26) hx hb dX2_rated_19 (by decide) ?_
    refine lv_istore_n (lv' := [(2, .int (6 + ((dSum (r 3) n + (f 6)) / (f 0)))), (1, .int ((dSum (r 3) n + (f 6)) / (f 0))), (0, .ref (a 0))]) hx hb dX2_rated_26 rfl hl (by decide) rfl (fun ls hl => ?_)
    refine lv_iload_n hx hb dX2_rated_27 rfl (lv_at hl 0 rfl) ?_
    refine lv_if_ge (tgt := 35) hx hb dX2_rated_28 (by decide) (fun c_28 => ?_) (fun c_28 => ?_)
    · refine lv_iload_n hx hb dX2_rated_35 rfl (lv_at hl 0 rfl) ?_
      exact wRi hQ hx hb hr hlocks hP hD hS dX2_rated_36 () (by simp only [sRated, sMade, if_pos (Int32.not_le.mp c_12), if_neg (Int32.not_lt.mpr c_28)]) rfl
    · refine lv_iconst (v := 0) hx hb dX2_rated_31 (by decide) ?_
      refine lv_goto (tgt := 36) hx hb dX2_rated_32 (by decide) ?_
      exact wRi hQ hx hb hr hlocks hP hD hS dX2_rated_36 () (by simp only [sRated, sMade, if_pos (Int32.not_le.mp c_12), if_pos (Int32.not_le.mp c_28)]) rfl
abbrev rmX2_find : Room := { frames := 0, cells := 0, slots := 0, locals := 0 }
set_option maxRecDepth 100000 in
set_option maxHeartbeats 4000000 in
/-- find -/
theorem mX2_find (l : Launch) (D : va_G) (cI cR : ClassId) (a ca ga : Nat → Nat) (n k : Nat) (f : Nat → Int32) (r G : Nat → Nat → Int32) (x y : Int32) (sz : Nat) (hg : f 0 = nI n) (hn0 : 2 ≤ n) (hn1 : n ≤ 10) (hk : k ≤ 100) : wCt l yX2_find wsX2_find rmX2_find D [(cI, .int), (cR, .array .int)] [.ref (a 0), .int x, .int y] (SC cI cR a ca ga n k f r ++ (CW cI ca n (r 5) ++ RW cI ga k 3 G)) sz 0 0 (wQi D (fun v (_ : Unit) => v = sFind G x y k 0) (fun _ : Unit => SC cI cR a ca ga n k f r ++ (CW cI ca n (r 5) ++ RW cI ga k 3 G))) := by
  refine wMet cX2_find 4 (some .int) (by decide) rfl (Nat.le_of_ble_eq_true rfl) ?_
  intro p e s m args below meth c A Q ls hQ hx hb hr hml hown hlocks hin hts hN hP hK hD hA hS hl
  have hK1 : va_K D vwCl [(cI, .int)] s := hK.sub [0] rfl
  have hl : lv_has ls 4 [(0, .ref (a 0)), (1, .int x), (2, .int y)] := hl
  have hown : s.vm.findClass RX2 = some m.cls := hown
  have hw2 : ∀ w ∈ wsX20, w.before args s = true := fun w h => hts w (List.mem_cons_of_mem _ (List.mem_append_right _ h))
  have k18 := hts (.fieldLink RX2 18 "PauseLedgerLaw$Sim" "glances" "[[I") (by decide +kernel)
  refine lv_iconst (v := 0) hx hb dX2_find_0 (by decide) ?_
  refine lv_istore_n (lv' := [(3, .int 0), (0, .ref (a 0)), (1, .int x), (2, .int y)]) hx hb dX2_find_1 rfl hl (by decide) rfl (fun ls hl => ?_)
  have loop2 : ∀ (j i2 : Nat), i2 + j = k → sFind G x y j i2 = sFind G x y k 0 → ∀ (H : Heap) (locs : List Loc) (ls : Array Slot), va_P D vwCl (SC cI cR a ca ga n k f r ++ (CW cI ca n (r 5) ++ RW cI ga k 3 G)) H → va_D A (SC cI cR a ca ga n k f r ++ (CW cI ca n (r 5) ++ RW cI ga k 3 G)) → va_S A s.heap H locs → lv_has ls 4 [(3, .int (nI i2)), (0, .ref (a 0)), (1, .int x), (2, .int y)] → W p l e rmX2_find s m args below meth c H locs 0 0 Q (F0 m 2 ls []) := by
    intro j
    induction j with
    | zero =>
      intro i2 hi2 hf H locs ls hP hD hS hl
      have ez : k = i2 := by omega
      subst ez
      refine lv_iload_n hx hb dX2_find_2 rfl (lv_at hl 0 rfl) ?_
      refine lv_aload_n hx hb dX2_find_3 rfl (lv_at hl 1 rfl) ?_
      refine va_get (D := D) (ci := 2) (v := .ref (a 6)) (C := RX2) (T := TX2) (N := 15) hx hb hw2 (fun _ h => h) hown hK hP 0 rfl rfl 14 (by decide) k18 (fun _ h9 => h9) rfl dX2_find_4 ?_
      refine va_alen (v := nI k) hx hb hK hP 1 1 rfl rfl rfl dX2_find_7 ?_
      refine lv_icmp_ge (tgt := 54) hx hb dX2_find_8 (by decide) (fun c_8 => ?_) (fun h9 => absurd (nI_le (Nat.le_refl _) (by omega)) h9)
      have c_8n := (nI_leI (a := k) (b := k) (by omega) (by omega)).mp c_8
      refine lv_iconst (v := (-1)) hx hb dX2_find_54 (by decide) ?_
      exact wRi hQ hx hb hr hlocks hP hD hS dX2_find_55 () (by rw [← hf]; rfl) rfl
    | succ j ih2 =>
      intro i2 hi2 hf H locs ls hP hD hS hl
      refine lv_iload_n hx hb dX2_find_2 rfl (lv_at hl 0 rfl) ?_
      refine lv_aload_n hx hb dX2_find_3 rfl (lv_at hl 1 rfl) ?_
      refine va_get (D := D) (ci := 2) (v := .ref (a 6)) (C := RX2) (T := TX2) (N := 15) hx hb hw2 (fun _ h => h) hown hK hP 0 rfl rfl 14 (by decide) k18 (fun _ h9 => h9) rfl dX2_find_4 ?_
      refine va_alen (v := nI k) hx hb hK hP 1 1 rfl rfl rfl dX2_find_7 ?_
      refine lv_icmp_ge (tgt := 54) hx hb dX2_find_8 (by decide) (fun h9 => absurd h9 (nI_ge (by omega) (by omega))) (fun c_8 => ?_)
      have c_8n := mt (nI_leI (a := k) (b := i2) (by omega) (by omega)).mpr c_8
      refine lv_aload_n hx hb dX2_find_11 rfl (lv_at hl 1 rfl) ?_
      refine va_get (D := D) (ci := 2) (v := .ref (a 6)) (C := RX2) (T := TX2) (N := 15) hx hb hw2 (fun _ h => h) hown hK hP 0 rfl rfl 14 (by decide) k18 (fun _ h9 => h9) rfl dX2_find_12 ?_
      refine lv_iload_n hx hb dX2_find_15 rfl (lv_at hl 0 rfl) ?_
      refine wAald hx hb hK hP 1 1 rfl rfl i2 rfl (by omega) (by omega) (RF_in (by omega)) dX2_find_16 ?_
      refine lv_iconst (v := 0) hx hb dX2_find_17 (by decide) ?_
      refine wIaldR (pre := SC cI cR a ca ga n k f r ++ CW cI ca n (r 5)) (suf := ([] : va_W)) (bb := ga) (N := k) (len := 3) (v := G) hx hb hK hP 0 (by simp only [List.append_assoc, List.append_nil, List.nil_append]) rfl i2 (by omega) 0 rfl (by decide) (by decide) dX2_find_18 ?_
      refine lv_iload_n hx hb dX2_find_19 rfl (lv_at hl 2 rfl) ?_
      refine lv_icmp_ne (tgt := 48) hx hb dX2_find_20 (by decide) (fun c_20 => ?_) (fun c_20 => ?_)
      · refine lv_iinc (v := nI (i2 + 1)) (lv' := [(3, .int (nI (i2 + 1))), (0, .ref (a 0)), (1, .int x), (2, .int y)]) hx hb dX2_find_48 hl (k := 0) rfl (nI_1 i2) (by decide) rfl (fun ls hl => ?_)
        refine lv_goto (tgt := 2) hx hb dX2_find_51 (by decide) ?_
        exact ih2 (i2 + 1) (by omega) (by rw [← hf, sFind, if_neg (fun h => c_20 h.1)]) _ _ _ hP hD hS (lv_sub hl [0, 1, 2, 3] rfl)
      · refine lv_aload_n hx hb dX2_find_23 rfl (lv_at hl 1 rfl) ?_
        refine va_get (D := D) (ci := 2) (v := .ref (a 6)) (C := RX2) (T := TX2) (N := 15) hx hb hw2 (fun _ h => h) hown hK hP 0 rfl rfl 14 (by decide) k18 (fun _ h9 => h9) rfl dX2_find_24 ?_
        refine lv_iload_n hx hb dX2_find_27 rfl (lv_at hl 0 rfl) ?_
        refine wAald hx hb hK hP 1 1 rfl rfl i2 rfl (by omega) (by omega) (RF_in (by omega)) dX2_find_28 ?_
        refine lv_iconst (v := 1) hx hb dX2_find_29 (by decide) ?_
        refine wIaldR (pre := SC cI cR a ca ga n k f r ++ CW cI ca n (r 5)) (suf := ([] : va_W)) (bb := ga) (N := k) (len := 3) (v := G) hx hb hK hP 0 (by simp only [List.append_assoc, List.append_nil, List.nil_append]) rfl i2 (by omega) 1 rfl (by decide) (by decide) dX2_find_30 ?_
        refine lv_iload_n hx hb dX2_find_31 rfl (lv_at hl 3 rfl) ?_
        refine lv_icmp_ne (tgt := 48) hx hb dX2_find_32 (by decide) (fun c_32 => ?_) (fun c_32 => ?_)
        · refine lv_iinc (v := nI (i2 + 1)) (lv' := [(3, .int (nI (i2 + 1))), (0, .ref (a 0)), (1, .int x), (2, .int y)]) hx hb dX2_find_48 hl (k := 0) rfl (nI_1 i2) (by decide) rfl (fun ls hl => ?_)
          refine lv_goto (tgt := 2) hx hb dX2_find_51 (by decide) ?_
          exact ih2 (i2 + 1) (by omega) (by rw [← hf, sFind, if_neg (fun h => c_32 h.2.1)]) _ _ _ hP hD hS (lv_sub hl [0, 1, 2, 3] rfl)
        · refine lv_aload_n hx hb dX2_find_35 rfl (lv_at hl 1 rfl) ?_
          refine va_get (D := D) (ci := 2) (v := .ref (a 6)) (C := RX2) (T := TX2) (N := 15) hx hb hw2 (fun _ h => h) hown hK hP 0 rfl rfl 14 (by decide) k18 (fun _ h9 => h9) rfl dX2_find_36 ?_
          refine lv_iload_n hx hb dX2_find_39 rfl (lv_at hl 0 rfl) ?_
          refine wAald hx hb hK hP 1 1 rfl rfl i2 rfl (by omega) (by omega) (RF_in (by omega)) dX2_find_40 ?_
          refine lv_iconst (v := 2) hx hb dX2_find_41 (by decide) ?_
          refine wIaldR (pre := SC cI cR a ca ga n k f r ++ CW cI ca n (r 5)) (suf := ([] : va_W)) (bb := ga) (N := k) (len := 3) (v := G) hx hb hK hP 0 (by simp only [List.append_assoc, List.append_nil, List.nil_append]) rfl i2 (by omega) 2 rfl (by decide) (by decide) dX2_find_42 ?_
          refine lv_if_lt (tgt := 48) hx hb dX2_find_43 (by decide) (fun c_43 => ?_) (fun c_43 => ?_)
          · refine lv_iinc (v := nI (i2 + 1)) (lv' := [(3, .int (nI (i2 + 1))), (0, .ref (a 0)), (1, .int x), (2, .int y)]) hx hb dX2_find_48 hl (k := 0) rfl (nI_1 i2) (by decide) rfl (fun ls hl => ?_)
            refine lv_goto (tgt := 2) hx hb dX2_find_51 (by decide) ?_
            exact ih2 (i2 + 1) (by omega) (by rw [← hf, sFind, if_neg (fun h => absurd h.2.2 (Int32.not_le.mpr c_43))]) _ _ _ hP hD hS (lv_sub hl [0, 1, 2, 3] rfl)
          · refine lv_iload_n hx hb dX2_find_46 rfl (lv_at hl 0 rfl) ?_
            exact wRi hQ hx hb hr hlocks hP hD hS dX2_find_47 () (by rw [← hf, sFind, if_pos ⟨c_20, c_32, Int32.not_lt.mp c_43⟩]) rfl
  exact loop2 k 0 (by omega) rfl _ _ _ hP hD hS (lv_sub hl [0, 1, 2, 3] rfl)
