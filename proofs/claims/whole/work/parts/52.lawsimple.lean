set_option maxRecDepth 100000 in
set_option maxHeartbeats 4000000 in
theorem lc_guests {p : Program} {l : Launch} {e : Env} {s : State} {m : MethodId} {args : Array Value} {below : List Frame} {meth : Method} {c : Code} {D : va_G} {cI cJ : ClassId} {sb LN : Nat} {xs : Nat → Int32} {H : Heap} {locs : List Loc} {cells slots : Nat} {Q : State → Prop} {ls : Array Slot} (E9 : lawE p l s m args c D cI cJ sb LN xs) (x0 : Nat) (a b : Nat → Nat) (f f2 : Nat → Int32) (r r2 : Nat → Nat → Int32) (q : Nat) (v : Nat → Int64) (mb : Nat → Nat) (g nw kp : Nat → Int32) (i : Nat) (hi : i + 2 < LN) (hcc : cells + 1 ≤ room_1.cells) (hss : slots + 11 ≤ room_1.slots) (hl : lv_has ls 9 [(4, .int (nI i)), (3, .ref q), (2, .ref (mb 0)), (1, .ref x0), (0, .ref sb)]) (hP : va_P D vwCl (XO x0 a b ++ (DC cI a f r ++ (DC cI b f2 r2 ++ (OUT cJ q v ++ MC cI mb g nw kp)))) H) (hD : va_D (lwA s) (XO x0 a b ++ (DC cI a f r ++ (DC cI b f2 r2 ++ (OUT cJ q v ++ MC cI mb g nw kp))))) (hS : va_S (lwA s) s.heap H locs) (hans : g 1 = f 0)
    (kk : ∀ (f9 : Nat → Int32) (r9 : Nat → Nat → Int32) (v9 : Nat → Int64) (g9 kp9 : Nat → Int32) (H1 : Heap) (locs1 : List Loc) (ls1 : Array Slot), g9 1 = g 1 → g9 2 = g 2 → va_P D vwCl (XO x0 a b ++ (DC cI a f r ++ (DC cI b f9 r9 ++ (OUT cJ q v9 ++ MC cI mb g9 nw kp9)))) H1 → va_D (lwA s) (XO x0 a b ++ (DC cI a f r ++ (DC cI b f9 r9 ++ (OUT cJ q v9 ++ MC cI mb g9 nw kp9)))) → va_S (lwA s) s.heap H1 locs1 → lv_has ls1 9 [(4, .int (nI i)), (3, .ref q), (2, .ref (mb 0)), (1, .ref x0), (0, .ref sb)] → W p l e room_1 s m args below meth c H1 locs1 (cells + 1) (slots + 11) Q (F0 m 1548 ls1 [])) : W p l e room_1 s m args below meth c H locs cells slots Q (F0 m 560 ls []) := by
  obtain ⟨⟨hx, hb, hml, hown, hts⟩, hN, hE, hZ, hK, hX, hbl, hlt, hLN⟩ := E9
  have hA : ∀ q : Nat, s.heap.size ≤ q → lwA s q := fun _ h => h
  have hK1 : va_K D vwCl [(cI, .int)] s := hK.sub [0] rfl
  refine lv_aload_n hx hb dL_law_560 rfl (lv_at hl 3 rfl) ?_
  refine wCVi (pre := ([] : va_W)) (Wc := XO x0 a b ++ (DC cI a f r ++ DC cI b f2 r2)) (suf := OUT cJ q v ++ MC cI mb g nw kp) (As := []) (rest := []) ⟨hx, hb, hml, hown, hts⟩ (mX1_guests l D cI x0 a b f f2 r r2 _ ) hN hA hK1 hS hP hD rfl 0 (r := (RX1, TX1, 2)) rfl rfl (cwV 0 hts gL_law_X1_guests rfl rfl rfl (by decide +kernel) ⟨Nat.le_of_ble_eq_true rfl, Nat.le_of_ble_eq_true rfl⟩) rfl hl.1 rfl (Nat.le_of_ble_eq_true rfl) dL_law_561 ⟨by omega, by omega⟩ (fun r_561 u_561 H locs hw hP hD hS => ?_)
  have hw : r_561 = f 0 := hw
  subst hw
  have hP : va_P D vwCl (XO x0 a b ++ (DC cI a f r ++ (DC cI b f2 r2 ++ (OUT cJ q v ++ MC cI mb g nw kp)))) H := hP
  have hD : va_D (lwA s) (XO x0 a b ++ (DC cI a f r ++ (DC cI b f2 r2 ++ (OUT cJ q v ++ MC cI mb g nw kp)))) := hD
  refine lv_aload_n hx hb dL_law_564 rfl (lv_at hl 2 rfl) ?_
  refine wCVi (pre := XO x0 a b ++ (DC cI a f r ++ (DC cI b f2 r2 ++ OUT cJ q v))) (Wc := MC cI mb g nw kp) (suf := ([] : va_W)) (As := []) (rest := [.int (f 0)]) ⟨hx, hb, hml, hown, hts⟩ (mX2_guests l D cI mb g nw kp _ ) hN hA hK1 hS hP hD rfl 0 (r := (RX2, TX2, 7)) rfl rfl (cwV 0 hts gL_law_X2_guests rfl rfl rfl (by decide +kernel) ⟨Nat.le_of_ble_eq_true rfl, Nat.le_of_ble_eq_true rfl⟩) rfl hl.1 rfl (Nat.le_of_ble_eq_true rfl) dL_law_565 ⟨by omega, by omega⟩ (fun r_565 u_565 H locs hw hP hD hS => ?_)
  have hw : r_565 = g 1 := hw
  subst hw
  have hP : va_P D vwCl (XO x0 a b ++ (DC cI a f r ++ (DC cI b f2 r2 ++ (OUT cJ q v ++ MC cI mb (upd g 0 0) nw kp)))) H := hP
  have hD : va_D (lwA s) (XO x0 a b ++ (DC cI a f r ++ (DC cI b f2 r2 ++ (OUT cJ q v ++ MC cI mb (upd g 0 0) nw kp)))) := hD
  refine wTop (z := (f 0)) (hans) ?_
  refine lv_icmp_eq (tgt := 1548) hx hb dL_law_568 (by decide) (fun c_568 => ?_) (fun h9 => absurd (rfl) h9)
  exact W.widen (k := cells + 1) (n := slots + 11) (by omega) (by omega) (kk _ _ _ _ _ _ _ _ (by simp (disch := omega) only [mUp, mUs]) (by simp (disch := omega) only [mUp, mUs]) hP hD hS (lv_sub hl [0, 1, 2, 3, 4] rfl))
set_option maxRecDepth 100000 in
set_option maxHeartbeats 4000000 in
theorem lc_seconds {p : Program} {l : Launch} {e : Env} {s : State} {m : MethodId} {args : Array Value} {below : List Frame} {meth : Method} {c : Code} {D : va_G} {cI cJ : ClassId} {sb LN : Nat} {xs : Nat → Int32} {H : Heap} {locs : List Loc} {cells slots : Nat} {Q : State → Prop} {ls : Array Slot} (E9 : lawE p l s m args c D cI cJ sb LN xs) (x0 : Nat) (a b : Nat → Nat) (f f2 : Nat → Int32) (r r2 : Nat → Nat → Int32) (q : Nat) (v : Nat → Int64) (mb : Nat → Nat) (g nw kp : Nat → Int32) (i : Nat) (hi : i + 2 < LN) (hcc : cells + 1 ≤ room_1.cells) (hss : slots + 11 ≤ room_1.slots) (hl : lv_has ls 9 [(4, .int (nI i)), (3, .ref q), (2, .ref (mb 0)), (1, .ref x0), (0, .ref sb)]) (hP : va_P D vwCl (XO x0 a b ++ (DC cI a f r ++ (DC cI b f2 r2 ++ (OUT cJ q v ++ MC cI mb g nw kp)))) H) (hD : va_D (lwA s) (XO x0 a b ++ (DC cI a f r ++ (DC cI b f2 r2 ++ (OUT cJ q v ++ MC cI mb g nw kp))))) (hS : va_S (lwA s) s.heap H locs) (hans : nw 0 = f 1)
    (kk : ∀ (f9 : Nat → Int32) (r9 : Nat → Nat → Int32) (v9 : Nat → Int64) (g9 kp9 : Nat → Int32) (H1 : Heap) (locs1 : List Loc) (ls1 : Array Slot), g9 1 = g 1 → g9 2 = g 2 → va_P D vwCl (XO x0 a b ++ (DC cI a f r ++ (DC cI b f9 r9 ++ (OUT cJ q v9 ++ MC cI mb g9 nw kp9)))) H1 → va_D (lwA s) (XO x0 a b ++ (DC cI a f r ++ (DC cI b f9 r9 ++ (OUT cJ q v9 ++ MC cI mb g9 nw kp9)))) → va_S (lwA s) s.heap H1 locs1 → lv_has ls1 9 [(4, .int (nI i)), (3, .ref q), (2, .ref (mb 0)), (1, .ref x0), (0, .ref sb)] → W p l e room_1 s m args below meth c H1 locs1 (cells + 1) (slots + 11) Q (F0 m 1548 ls1 [])) : W p l e room_1 s m args below meth c H locs cells slots Q (F0 m 573 ls []) := by
  obtain ⟨⟨hx, hb, hml, hown, hts⟩, hN, hE, hZ, hK, hX, hbl, hlt, hLN⟩ := E9
  have hA : ∀ q : Nat, s.heap.size ≤ q → lwA s q := fun _ h => h
  have hK1 : va_K D vwCl [(cI, .int)] s := hK.sub [0] rfl
  refine lv_aload_n hx hb dL_law_573 rfl (lv_at hl 3 rfl) ?_
  refine wCVi (pre := ([] : va_W)) (Wc := XO x0 a b ++ (DC cI a f r ++ DC cI b f2 r2)) (suf := OUT cJ q v ++ MC cI mb g nw kp) (As := []) (rest := []) ⟨hx, hb, hml, hown, hts⟩ (mX1_seconds l D cI x0 a b f f2 r r2 _ ) hN hA hK1 hS hP hD rfl 0 (r := (RX1, TX1, 2)) rfl rfl (cwV 0 hts gL_law_X1_seconds rfl rfl rfl (by decide +kernel) ⟨Nat.le_of_ble_eq_true rfl, Nat.le_of_ble_eq_true rfl⟩) rfl hl.1 rfl (Nat.le_of_ble_eq_true rfl) dL_law_574 ⟨by omega, by omega⟩ (fun r_574 u_574 H locs hw hP hD hS => ?_)
  have hw : r_574 = f 1 := hw
  subst hw
  have hP : va_P D vwCl (XO x0 a b ++ (DC cI a f r ++ (DC cI b f2 r2 ++ (OUT cJ q v ++ MC cI mb g nw kp)))) H := hP
  have hD : va_D (lwA s) (XO x0 a b ++ (DC cI a f r ++ (DC cI b f2 r2 ++ (OUT cJ q v ++ MC cI mb g nw kp)))) := hD
  refine lv_aload_n hx hb dL_law_577 rfl (lv_at hl 2 rfl) ?_
  refine wCVi (pre := XO x0 a b ++ (DC cI a f r ++ (DC cI b f2 r2 ++ OUT cJ q v))) (Wc := MC cI mb g nw kp) (suf := ([] : va_W)) (As := []) (rest := [.int (f 1)]) ⟨hx, hb, hml, hown, hts⟩ (mX2_seconds l D cI mb g nw kp _ ) hN hA hK1 hS hP hD rfl 0 (r := (RX2, TX2, 7)) rfl rfl (cwV 0 hts gL_law_X2_seconds rfl rfl rfl (by decide +kernel) ⟨Nat.le_of_ble_eq_true rfl, Nat.le_of_ble_eq_true rfl⟩) rfl hl.1 rfl (Nat.le_of_ble_eq_true rfl) dL_law_578 ⟨by omega, by omega⟩ (fun r_578 u_578 H locs hw hP hD hS => ?_)
  have hw : r_578 = nw 0 := hw
  subst hw
  have hP : va_P D vwCl (XO x0 a b ++ (DC cI a f r ++ (DC cI b f2 r2 ++ (OUT cJ q v ++ MC cI mb (upd g 0 0) nw kp)))) H := hP
  have hD : va_D (lwA s) (XO x0 a b ++ (DC cI a f r ++ (DC cI b f2 r2 ++ (OUT cJ q v ++ MC cI mb (upd g 0 0) nw kp)))) := hD
  refine wTop (z := (f 1)) (hans) ?_
  refine lv_icmp_eq (tgt := 1548) hx hb dL_law_581 (by decide) (fun c_581 => ?_) (fun h9 => absurd (rfl) h9)
  exact W.widen (k := cells + 1) (n := slots + 11) (by omega) (by omega) (kk _ _ _ _ _ _ _ _ (by simp (disch := omega) only [mUp, mUs]) (by simp (disch := omega) only [mUp, mUs]) hP hD hS (lv_sub hl [0, 1, 2, 3, 4] rfl))
set_option maxRecDepth 100000 in
set_option maxHeartbeats 4000000 in
theorem lc_limit {p : Program} {l : Launch} {e : Env} {s : State} {m : MethodId} {args : Array Value} {below : List Frame} {meth : Method} {c : Code} {D : va_G} {cI cJ : ClassId} {sb LN : Nat} {xs : Nat → Int32} {H : Heap} {locs : List Loc} {cells slots : Nat} {Q : State → Prop} {ls : Array Slot} (E9 : lawE p l s m args c D cI cJ sb LN xs) (x0 : Nat) (a b : Nat → Nat) (f f2 : Nat → Int32) (r r2 : Nat → Nat → Int32) (q : Nat) (v : Nat → Int64) (mb : Nat → Nat) (g nw kp : Nat → Int32) (i : Nat) (hi : i + 2 < LN) (hcc : cells + 1 ≤ room_1.cells) (hss : slots + 11 ≤ room_1.slots) (hl : lv_has ls 9 [(4, .int (nI i)), (3, .ref q), (2, .ref (mb 0)), (1, .ref x0), (0, .ref sb)]) (hP : va_P D vwCl (XO x0 a b ++ (DC cI a f r ++ (DC cI b f2 r2 ++ (OUT cJ q v ++ MC cI mb g nw kp)))) H) (hD : va_D (lwA s) (XO x0 a b ++ (DC cI a f r ++ (DC cI b f2 r2 ++ (OUT cJ q v ++ MC cI mb g nw kp))))) (hS : va_S (lwA s) s.heap H locs) (hans : g 2 = f 2)
    (kk : ∀ (f9 : Nat → Int32) (r9 : Nat → Nat → Int32) (v9 : Nat → Int64) (g9 kp9 : Nat → Int32) (H1 : Heap) (locs1 : List Loc) (ls1 : Array Slot), g9 1 = g 1 → g9 2 = g 2 → va_P D vwCl (XO x0 a b ++ (DC cI a f r ++ (DC cI b f9 r9 ++ (OUT cJ q v9 ++ MC cI mb g9 nw kp9)))) H1 → va_D (lwA s) (XO x0 a b ++ (DC cI a f r ++ (DC cI b f9 r9 ++ (OUT cJ q v9 ++ MC cI mb g9 nw kp9)))) → va_S (lwA s) s.heap H1 locs1 → lv_has ls1 9 [(4, .int (nI i)), (3, .ref q), (2, .ref (mb 0)), (1, .ref x0), (0, .ref sb)] → W p l e room_1 s m args below meth c H1 locs1 (cells + 1) (slots + 11) Q (F0 m 1548 ls1 [])) : W p l e room_1 s m args below meth c H locs cells slots Q (F0 m 586 ls []) := by
  obtain ⟨⟨hx, hb, hml, hown, hts⟩, hN, hE, hZ, hK, hX, hbl, hlt, hLN⟩ := E9
  have hA : ∀ q : Nat, s.heap.size ≤ q → lwA s q := fun _ h => h
  have hK1 : va_K D vwCl [(cI, .int)] s := hK.sub [0] rfl
  refine lv_aload_n hx hb dL_law_586 rfl (lv_at hl 3 rfl) ?_
  refine wCVi (pre := ([] : va_W)) (Wc := XO x0 a b ++ (DC cI a f r ++ DC cI b f2 r2)) (suf := OUT cJ q v ++ MC cI mb g nw kp) (As := []) (rest := []) ⟨hx, hb, hml, hown, hts⟩ (mX1_limit l D cI x0 a b f f2 r r2 _ ) hN hA hK1 hS hP hD rfl 0 (r := (RX1, TX1, 2)) rfl rfl (cwV 0 hts gL_law_X1_limit rfl rfl rfl (by decide +kernel) ⟨Nat.le_of_ble_eq_true rfl, Nat.le_of_ble_eq_true rfl⟩) rfl hl.1 rfl (Nat.le_of_ble_eq_true rfl) dL_law_587 ⟨by omega, by omega⟩ (fun r_587 u_587 H locs hw hP hD hS => ?_)
  have hw : r_587 = f 2 := hw
  subst hw
  have hP : va_P D vwCl (XO x0 a b ++ (DC cI a f r ++ (DC cI b f2 r2 ++ (OUT cJ q v ++ MC cI mb g nw kp)))) H := hP
  have hD : va_D (lwA s) (XO x0 a b ++ (DC cI a f r ++ (DC cI b f2 r2 ++ (OUT cJ q v ++ MC cI mb g nw kp)))) := hD
  refine lv_aload_n hx hb dL_law_590 rfl (lv_at hl 2 rfl) ?_
  refine wCVi (pre := XO x0 a b ++ (DC cI a f r ++ (DC cI b f2 r2 ++ OUT cJ q v))) (Wc := MC cI mb g nw kp) (suf := ([] : va_W)) (As := []) (rest := [.int (f 2)]) ⟨hx, hb, hml, hown, hts⟩ (mX2_limit l D cI mb g nw kp _ ) hN hA hK1 hS hP hD rfl 0 (r := (RX2, TX2, 7)) rfl rfl (cwV 0 hts gL_law_X2_limit rfl rfl rfl (by decide +kernel) ⟨Nat.le_of_ble_eq_true rfl, Nat.le_of_ble_eq_true rfl⟩) rfl hl.1 rfl (Nat.le_of_ble_eq_true rfl) dL_law_591 ⟨by omega, by omega⟩ (fun r_591 u_591 H locs hw hP hD hS => ?_)
  have hw : r_591 = g 2 := hw
  subst hw
  have hP : va_P D vwCl (XO x0 a b ++ (DC cI a f r ++ (DC cI b f2 r2 ++ (OUT cJ q v ++ MC cI mb (upd g 0 0) nw kp)))) H := hP
  have hD : va_D (lwA s) (XO x0 a b ++ (DC cI a f r ++ (DC cI b f2 r2 ++ (OUT cJ q v ++ MC cI mb (upd g 0 0) nw kp)))) := hD
  refine wTop (z := (f 2)) (hans) ?_
  refine lv_icmp_eq (tgt := 1548) hx hb dL_law_594 (by decide) (fun c_594 => ?_) (fun h9 => absurd (rfl) h9)
  exact W.widen (k := cells + 1) (n := slots + 11) (by omega) (by omega) (kk _ _ _ _ _ _ _ _ (by simp (disch := omega) only [mUp, mUs]) (by simp (disch := omega) only [mUp, mUs]) hP hD hS (lv_sub hl [0, 1, 2, 3, 4] rfl))
set_option maxRecDepth 100000 in
set_option maxHeartbeats 4000000 in
theorem lc_speaker {p : Program} {l : Launch} {e : Env} {s : State} {m : MethodId} {args : Array Value} {below : List Frame} {meth : Method} {c : Code} {D : va_G} {cI cJ : ClassId} {sb LN : Nat} {xs : Nat → Int32} {H : Heap} {locs : List Loc} {cells slots : Nat} {Q : State → Prop} {ls : Array Slot} (E9 : lawE p l s m args c D cI cJ sb LN xs) (x0 : Nat) (a b : Nat → Nat) (f f2 : Nat → Int32) (r r2 : Nat → Nat → Int32) (q : Nat) (v : Nat → Int64) (mb : Nat → Nat) (g nw kp : Nat → Int32) (i : Nat) (hi : i + 2 < LN) (hcc : cells + 1 ≤ room_1.cells) (hss : slots + 11 ≤ room_1.slots) (hl : lv_has ls 9 [(4, .int (nI i)), (3, .ref q), (2, .ref (mb 0)), (1, .ref x0), (0, .ref sb)]) (hP : va_P D vwCl (XO x0 a b ++ (DC cI a f r ++ (DC cI b f2 r2 ++ (OUT cJ q v ++ MC cI mb g nw kp)))) H) (hD : va_D (lwA s) (XO x0 a b ++ (DC cI a f r ++ (DC cI b f2 r2 ++ (OUT cJ q v ++ MC cI mb g nw kp))))) (hS : va_S (lwA s) s.heap H locs) (hans : nw 1 = f 3)
    (kk : ∀ (f9 : Nat → Int32) (r9 : Nat → Nat → Int32) (v9 : Nat → Int64) (g9 kp9 : Nat → Int32) (H1 : Heap) (locs1 : List Loc) (ls1 : Array Slot), g9 1 = g 1 → g9 2 = g 2 → va_P D vwCl (XO x0 a b ++ (DC cI a f r ++ (DC cI b f9 r9 ++ (OUT cJ q v9 ++ MC cI mb g9 nw kp9)))) H1 → va_D (lwA s) (XO x0 a b ++ (DC cI a f r ++ (DC cI b f9 r9 ++ (OUT cJ q v9 ++ MC cI mb g9 nw kp9)))) → va_S (lwA s) s.heap H1 locs1 → lv_has ls1 9 [(4, .int (nI i)), (3, .ref q), (2, .ref (mb 0)), (1, .ref x0), (0, .ref sb)] → W p l e room_1 s m args below meth c H1 locs1 (cells + 1) (slots + 11) Q (F0 m 1548 ls1 [])) : W p l e room_1 s m args below meth c H locs cells slots Q (F0 m 667 ls []) := by
  obtain ⟨⟨hx, hb, hml, hown, hts⟩, hN, hE, hZ, hK, hX, hbl, hlt, hLN⟩ := E9
  have hA : ∀ q : Nat, s.heap.size ≤ q → lwA s q := fun _ h => h
  have hK1 : va_K D vwCl [(cI, .int)] s := hK.sub [0] rfl
  refine lv_aload_n hx hb dL_law_667 rfl (lv_at hl 3 rfl) ?_
  refine wCVi (pre := ([] : va_W)) (Wc := XO x0 a b ++ (DC cI a f r ++ DC cI b f2 r2)) (suf := OUT cJ q v ++ MC cI mb g nw kp) (As := []) (rest := []) ⟨hx, hb, hml, hown, hts⟩ (mX1_speaker l D cI x0 a b f f2 r r2 _ ) hN hA hK1 hS hP hD rfl 0 (r := (RX1, TX1, 2)) rfl rfl (cwV 0 hts gL_law_X1_speaker rfl rfl rfl (by decide +kernel) ⟨Nat.le_of_ble_eq_true rfl, Nat.le_of_ble_eq_true rfl⟩) rfl hl.1 rfl (Nat.le_of_ble_eq_true rfl) dL_law_668 ⟨by omega, by omega⟩ (fun r_668 u_668 H locs hw hP hD hS => ?_)
  have hw : r_668 = f 3 := hw
  subst hw
  have hP : va_P D vwCl (XO x0 a b ++ (DC cI a f r ++ (DC cI b f2 r2 ++ (OUT cJ q v ++ MC cI mb g nw kp)))) H := hP
  have hD : va_D (lwA s) (XO x0 a b ++ (DC cI a f r ++ (DC cI b f2 r2 ++ (OUT cJ q v ++ MC cI mb g nw kp)))) := hD
  refine lv_aload_n hx hb dL_law_671 rfl (lv_at hl 2 rfl) ?_
  refine wCVi (pre := XO x0 a b ++ (DC cI a f r ++ (DC cI b f2 r2 ++ OUT cJ q v))) (Wc := MC cI mb g nw kp) (suf := ([] : va_W)) (As := []) (rest := [.int (f 3)]) ⟨hx, hb, hml, hown, hts⟩ (mX2_speaker l D cI mb g nw kp _ ) hN hA hK1 hS hP hD rfl 0 (r := (RX2, TX2, 7)) rfl rfl (cwV 0 hts gL_law_X2_speaker rfl rfl rfl (by decide +kernel) ⟨Nat.le_of_ble_eq_true rfl, Nat.le_of_ble_eq_true rfl⟩) rfl hl.1 rfl (Nat.le_of_ble_eq_true rfl) dL_law_672 ⟨by omega, by omega⟩ (fun r_672 u_672 H locs hw hP hD hS => ?_)
  have hw : r_672 = nw 1 := hw
  subst hw
  have hP : va_P D vwCl (XO x0 a b ++ (DC cI a f r ++ (DC cI b f2 r2 ++ (OUT cJ q v ++ MC cI mb (upd g 0 0) nw kp)))) H := hP
  have hD : va_D (lwA s) (XO x0 a b ++ (DC cI a f r ++ (DC cI b f2 r2 ++ (OUT cJ q v ++ MC cI mb (upd g 0 0) nw kp)))) := hD
  refine wTop (z := (f 3)) (hans) ?_
  refine lv_icmp_eq (tgt := 1548) hx hb dL_law_675 (by decide) (fun c_675 => ?_) (fun h9 => absurd (rfl) h9)
  exact W.widen (k := cells + 1) (n := slots + 11) (by omega) (by omega) (kk _ _ _ _ _ _ _ _ (by simp (disch := omega) only [mUp, mUs]) (by simp (disch := omega) only [mUp, mUs]) hP hD hS (lv_sub hl [0, 1, 2, 3, 4] rfl))
set_option maxRecDepth 100000 in
set_option maxHeartbeats 4000000 in
theorem lc_secondsToSpeak {p : Program} {l : Launch} {e : Env} {s : State} {m : MethodId} {args : Array Value} {below : List Frame} {meth : Method} {c : Code} {D : va_G} {cI cJ : ClassId} {sb LN : Nat} {xs : Nat → Int32} {H : Heap} {locs : List Loc} {cells slots : Nat} {Q : State → Prop} {ls : Array Slot} (E9 : lawE p l s m args c D cI cJ sb LN xs) (x0 : Nat) (a b : Nat → Nat) (f f2 : Nat → Int32) (r r2 : Nat → Nat → Int32) (q : Nat) (v : Nat → Int64) (mb : Nat → Nat) (g nw kp : Nat → Int32) (i : Nat) (hi : i + 2 < LN) (hcc : cells + 1 ≤ room_1.cells) (hss : slots + 11 ≤ room_1.slots) (hl : lv_has ls 9 [(4, .int (nI i)), (3, .ref q), (2, .ref (mb 0)), (1, .ref x0), (0, .ref sb)]) (hP : va_P D vwCl (XO x0 a b ++ (DC cI a f r ++ (DC cI b f2 r2 ++ (OUT cJ q v ++ MC cI mb g nw kp)))) H) (hD : va_D (lwA s) (XO x0 a b ++ (DC cI a f r ++ (DC cI b f2 r2 ++ (OUT cJ q v ++ MC cI mb g nw kp))))) (hS : va_S (lwA s) s.heap H locs) (hans : mLeft nw = f 4)
    (kk : ∀ (f9 : Nat → Int32) (r9 : Nat → Nat → Int32) (v9 : Nat → Int64) (g9 kp9 : Nat → Int32) (H1 : Heap) (locs1 : List Loc) (ls1 : Array Slot), g9 1 = g 1 → g9 2 = g 2 → va_P D vwCl (XO x0 a b ++ (DC cI a f r ++ (DC cI b f9 r9 ++ (OUT cJ q v9 ++ MC cI mb g9 nw kp9)))) H1 → va_D (lwA s) (XO x0 a b ++ (DC cI a f r ++ (DC cI b f9 r9 ++ (OUT cJ q v9 ++ MC cI mb g9 nw kp9)))) → va_S (lwA s) s.heap H1 locs1 → lv_has ls1 9 [(4, .int (nI i)), (3, .ref q), (2, .ref (mb 0)), (1, .ref x0), (0, .ref sb)] → W p l e room_1 s m args below meth c H1 locs1 (cells + 1) (slots + 11) Q (F0 m 1548 ls1 [])) : W p l e room_1 s m args below meth c H locs cells slots Q (F0 m 680 ls []) := by
  obtain ⟨⟨hx, hb, hml, hown, hts⟩, hN, hE, hZ, hK, hX, hbl, hlt, hLN⟩ := E9
  have hA : ∀ q : Nat, s.heap.size ≤ q → lwA s q := fun _ h => h
  have hK1 : va_K D vwCl [(cI, .int)] s := hK.sub [0] rfl
  refine lv_aload_n hx hb dL_law_680 rfl (lv_at hl 3 rfl) ?_
  refine wCVi (pre := ([] : va_W)) (Wc := XO x0 a b ++ (DC cI a f r ++ DC cI b f2 r2)) (suf := OUT cJ q v ++ MC cI mb g nw kp) (As := []) (rest := []) ⟨hx, hb, hml, hown, hts⟩ (mX1_secondsToSpeak l D cI x0 a b f f2 r r2 _ ) hN hA hK1 hS hP hD rfl 0 (r := (RX1, TX1, 2)) rfl rfl (cwV 0 hts gL_law_X1_secondsToSpeak rfl rfl rfl (by decide +kernel) ⟨Nat.le_of_ble_eq_true rfl, Nat.le_of_ble_eq_true rfl⟩) rfl hl.1 rfl (Nat.le_of_ble_eq_true rfl) dL_law_681 ⟨by omega, by omega⟩ (fun r_681 u_681 H locs hw hP hD hS => ?_)
  have hw : r_681 = f 4 := hw
  subst hw
  have hP : va_P D vwCl (XO x0 a b ++ (DC cI a f r ++ (DC cI b f2 r2 ++ (OUT cJ q v ++ MC cI mb g nw kp)))) H := hP
  have hD : va_D (lwA s) (XO x0 a b ++ (DC cI a f r ++ (DC cI b f2 r2 ++ (OUT cJ q v ++ MC cI mb g nw kp)))) := hD
  refine lv_aload_n hx hb dL_law_684 rfl (lv_at hl 2 rfl) ?_
  refine wCVi (pre := XO x0 a b ++ (DC cI a f r ++ (DC cI b f2 r2 ++ OUT cJ q v))) (Wc := MC cI mb g nw kp) (suf := ([] : va_W)) (As := []) (rest := [.int (f 4)]) ⟨hx, hb, hml, hown, hts⟩ (mX2_secondsToSpeak l D cI mb g nw kp _ ) hN hA hK1 hS hP hD rfl 0 (r := (RX2, TX2, 7)) rfl rfl (cwV 0 hts gL_law_X2_secondsToSpeak rfl rfl rfl (by decide +kernel) ⟨Nat.le_of_ble_eq_true rfl, Nat.le_of_ble_eq_true rfl⟩) rfl hl.1 rfl (Nat.le_of_ble_eq_true rfl) dL_law_685 ⟨by omega, by omega⟩ (fun r_685 u_685 H locs hw hP hD hS => ?_)
  have hw : r_685 = mLeft nw := hw
  subst hw
  have hP : va_P D vwCl (XO x0 a b ++ (DC cI a f r ++ (DC cI b f2 r2 ++ (OUT cJ q v ++ MC cI mb (upd g 0 0) nw kp)))) H := hP
  have hD : va_D (lwA s) (XO x0 a b ++ (DC cI a f r ++ (DC cI b f2 r2 ++ (OUT cJ q v ++ MC cI mb (upd g 0 0) nw kp)))) := hD
  refine wTop (z := (f 4)) (hans) ?_
  refine lv_icmp_eq (tgt := 1548) hx hb dL_law_688 (by decide) (fun c_688 => ?_) (fun h9 => absurd (rfl) h9)
  exact W.widen (k := cells + 1) (n := slots + 11) (by omega) (by omega) (kk _ _ _ _ _ _ _ _ (by simp (disch := omega) only [mUp, mUs]) (by simp (disch := omega) only [mUp, mUs]) hP hD hS (lv_sub hl [0, 1, 2, 3, 4] rfl))
set_option maxRecDepth 100000 in
set_option maxHeartbeats 4000000 in
theorem lc_pause {p : Program} {l : Launch} {e : Env} {s : State} {m : MethodId} {args : Array Value} {below : List Frame} {meth : Method} {c : Code} {D : va_G} {cI cJ : ClassId} {sb LN : Nat} {xs : Nat → Int32} {H : Heap} {locs : List Loc} {cells slots : Nat} {Q : State → Prop} {ls : Array Slot} (E9 : lawE p l s m args c D cI cJ sb LN xs) (x0 : Nat) (a b : Nat → Nat) (f f2 : Nat → Int32) (r r2 : Nat → Nat → Int32) (q : Nat) (v : Nat → Int64) (mb : Nat → Nat) (g nw kp : Nat → Int32) (i : Nat) (hi : i + 2 < LN) (hcc : cells + 1 ≤ room_1.cells) (hss : slots + 11 ≤ room_1.slots) (hl : lv_has ls 9 [(4, .int (nI i)), (3, .ref q), (2, .ref (mb 0)), (1, .ref x0), (0, .ref sb)]) (hP : va_P D vwCl (XO x0 a b ++ (DC cI a f r ++ (DC cI b f2 r2 ++ (OUT cJ q v ++ MC cI mb g nw kp)))) H) (hD : va_D (lwA s) (XO x0 a b ++ (DC cI a f r ++ (DC cI b f2 r2 ++ (OUT cJ q v ++ MC cI mb g nw kp))))) (hS : va_S (lwA s) s.heap H locs) (hans : nw 3 = f 5)
    (kk : ∀ (f9 : Nat → Int32) (r9 : Nat → Nat → Int32) (v9 : Nat → Int64) (g9 kp9 : Nat → Int32) (H1 : Heap) (locs1 : List Loc) (ls1 : Array Slot), g9 1 = g 1 → g9 2 = g 2 → va_P D vwCl (XO x0 a b ++ (DC cI a f r ++ (DC cI b f9 r9 ++ (OUT cJ q v9 ++ MC cI mb g9 nw kp9)))) H1 → va_D (lwA s) (XO x0 a b ++ (DC cI a f r ++ (DC cI b f9 r9 ++ (OUT cJ q v9 ++ MC cI mb g9 nw kp9)))) → va_S (lwA s) s.heap H1 locs1 → lv_has ls1 9 [(4, .int (nI i)), (3, .ref q), (2, .ref (mb 0)), (1, .ref x0), (0, .ref sb)] → W p l e room_1 s m args below meth c H1 locs1 (cells + 1) (slots + 11) Q (F0 m 1548 ls1 [])) : W p l e room_1 s m args below meth c H locs cells slots Q (F0 m 693 ls []) := by
  obtain ⟨⟨hx, hb, hml, hown, hts⟩, hN, hE, hZ, hK, hX, hbl, hlt, hLN⟩ := E9
  have hA : ∀ q : Nat, s.heap.size ≤ q → lwA s q := fun _ h => h
  have hK1 : va_K D vwCl [(cI, .int)] s := hK.sub [0] rfl
  refine lv_aload_n hx hb dL_law_693 rfl (lv_at hl 3 rfl) ?_
  refine wCVi (pre := ([] : va_W)) (Wc := XO x0 a b ++ (DC cI a f r ++ DC cI b f2 r2)) (suf := OUT cJ q v ++ MC cI mb g nw kp) (As := []) (rest := []) ⟨hx, hb, hml, hown, hts⟩ (mX1_pause l D cI x0 a b f f2 r r2 _ ) hN hA hK1 hS hP hD rfl 0 (r := (RX1, TX1, 2)) rfl rfl (cwV 0 hts gL_law_X1_pause rfl rfl rfl (by decide +kernel) ⟨Nat.le_of_ble_eq_true rfl, Nat.le_of_ble_eq_true rfl⟩) rfl hl.1 rfl (Nat.le_of_ble_eq_true rfl) dL_law_694 ⟨by omega, by omega⟩ (fun r_694 u_694 H locs hw hP hD hS => ?_)
  have hw : r_694 = f 5 := hw
  subst hw
  have hP : va_P D vwCl (XO x0 a b ++ (DC cI a f r ++ (DC cI b f2 r2 ++ (OUT cJ q v ++ MC cI mb g nw kp)))) H := hP
  have hD : va_D (lwA s) (XO x0 a b ++ (DC cI a f r ++ (DC cI b f2 r2 ++ (OUT cJ q v ++ MC cI mb g nw kp)))) := hD
  refine lv_aload_n hx hb dL_law_697 rfl (lv_at hl 2 rfl) ?_
  refine wCVi (pre := XO x0 a b ++ (DC cI a f r ++ (DC cI b f2 r2 ++ OUT cJ q v))) (Wc := MC cI mb g nw kp) (suf := ([] : va_W)) (As := []) (rest := [.int (f 5)]) ⟨hx, hb, hml, hown, hts⟩ (mX2_pause l D cI mb g nw kp _ ) hN hA hK1 hS hP hD rfl 0 (r := (RX2, TX2, 7)) rfl rfl (cwV 0 hts gL_law_X2_pause rfl rfl rfl (by decide +kernel) ⟨Nat.le_of_ble_eq_true rfl, Nat.le_of_ble_eq_true rfl⟩) rfl hl.1 rfl (Nat.le_of_ble_eq_true rfl) dL_law_698 ⟨by omega, by omega⟩ (fun r_698 u_698 H locs hw hP hD hS => ?_)
  have hw : r_698 = nw 3 := hw
  subst hw
  have hP : va_P D vwCl (XO x0 a b ++ (DC cI a f r ++ (DC cI b f2 r2 ++ (OUT cJ q v ++ MC cI mb (upd g 0 0) nw kp)))) H := hP
  have hD : va_D (lwA s) (XO x0 a b ++ (DC cI a f r ++ (DC cI b f2 r2 ++ (OUT cJ q v ++ MC cI mb (upd g 0 0) nw kp)))) := hD
  refine wTop (z := (f 5)) (hans) ?_
  refine lv_icmp_eq (tgt := 1548) hx hb dL_law_701 (by decide) (fun c_701 => ?_) (fun h9 => absurd (rfl) h9)
  exact W.widen (k := cells + 1) (n := slots + 11) (by omega) (by omega) (kk _ _ _ _ _ _ _ _ (by simp (disch := omega) only [mUp, mUs]) (by simp (disch := omega) only [mUp, mUs]) hP hD hS (lv_sub hl [0, 1, 2, 3, 4] rfl))
set_option maxRecDepth 100000 in
set_option maxHeartbeats 4000000 in
theorem lc_unsaidInPauses {p : Program} {l : Launch} {e : Env} {s : State} {m : MethodId} {args : Array Value} {below : List Frame} {meth : Method} {c : Code} {D : va_G} {cI cJ : ClassId} {sb LN : Nat} {xs : Nat → Int32} {H : Heap} {locs : List Loc} {cells slots : Nat} {Q : State → Prop} {ls : Array Slot} (E9 : lawE p l s m args c D cI cJ sb LN xs) (x0 : Nat) (a b : Nat → Nat) (f f2 : Nat → Int32) (r r2 : Nat → Nat → Int32) (q : Nat) (v : Nat → Int64) (mb : Nat → Nat) (g nw kp : Nat → Int32) (i : Nat) (hi : i + 2 < LN) (hcc : cells + 1 ≤ room_1.cells) (hss : slots + 11 ≤ room_1.slots) (hl : lv_has ls 9 [(4, .int (nI i)), (3, .ref q), (2, .ref (mb 0)), (1, .ref x0), (0, .ref sb)]) (hP : va_P D vwCl (XO x0 a b ++ (DC cI a f r ++ (DC cI b f2 r2 ++ (OUT cJ q v ++ MC cI mb g nw kp)))) H) (hD : va_D (lwA s) (XO x0 a b ++ (DC cI a f r ++ (DC cI b f2 r2 ++ (OUT cJ q v ++ MC cI mb g nw kp))))) (hS : va_S (lwA s) s.heap H locs) (hans : nw 4 = f 6)
    (kk : ∀ (f9 : Nat → Int32) (r9 : Nat → Nat → Int32) (v9 : Nat → Int64) (g9 kp9 : Nat → Int32) (H1 : Heap) (locs1 : List Loc) (ls1 : Array Slot), g9 1 = g 1 → g9 2 = g 2 → va_P D vwCl (XO x0 a b ++ (DC cI a f r ++ (DC cI b f9 r9 ++ (OUT cJ q v9 ++ MC cI mb g9 nw kp9)))) H1 → va_D (lwA s) (XO x0 a b ++ (DC cI a f r ++ (DC cI b f9 r9 ++ (OUT cJ q v9 ++ MC cI mb g9 nw kp9)))) → va_S (lwA s) s.heap H1 locs1 → lv_has ls1 9 [(4, .int (nI i)), (3, .ref q), (2, .ref (mb 0)), (1, .ref x0), (0, .ref sb)] → W p l e room_1 s m args below meth c H1 locs1 (cells + 1) (slots + 11) Q (F0 m 1548 ls1 [])) : W p l e room_1 s m args below meth c H locs cells slots Q (F0 m 1141 ls []) := by
  obtain ⟨⟨hx, hb, hml, hown, hts⟩, hN, hE, hZ, hK, hX, hbl, hlt, hLN⟩ := E9
  have hA : ∀ q : Nat, s.heap.size ≤ q → lwA s q := fun _ h => h
  have hK1 : va_K D vwCl [(cI, .int)] s := hK.sub [0] rfl
  refine lv_aload_n hx hb dL_law_1141 rfl (lv_at hl 3 rfl) ?_
  refine wCVi (pre := ([] : va_W)) (Wc := XO x0 a b ++ (DC cI a f r ++ DC cI b f2 r2)) (suf := OUT cJ q v ++ MC cI mb g nw kp) (As := []) (rest := []) ⟨hx, hb, hml, hown, hts⟩ (mX1_unsaidInPauses l D cI x0 a b f f2 r r2 _ ) hN hA hK1 hS hP hD rfl 0 (r := (RX1, TX1, 2)) rfl rfl (cwV 0 hts gL_law_X1_unsaidInPauses rfl rfl rfl (by decide +kernel) ⟨Nat.le_of_ble_eq_true rfl, Nat.le_of_ble_eq_true rfl⟩) rfl hl.1 rfl (Nat.le_of_ble_eq_true rfl) dL_law_1142 ⟨by omega, by omega⟩ (fun r_1142 u_1142 H locs hw hP hD hS => ?_)
  have hw : r_1142 = f 6 := hw
  subst hw
  have hP : va_P D vwCl (XO x0 a b ++ (DC cI a f r ++ (DC cI b f2 r2 ++ (OUT cJ q v ++ MC cI mb g nw kp)))) H := hP
  have hD : va_D (lwA s) (XO x0 a b ++ (DC cI a f r ++ (DC cI b f2 r2 ++ (OUT cJ q v ++ MC cI mb g nw kp)))) := hD
  refine lv_aload_n hx hb dL_law_1145 rfl (lv_at hl 2 rfl) ?_
  refine wCVi (pre := XO x0 a b ++ (DC cI a f r ++ (DC cI b f2 r2 ++ OUT cJ q v))) (Wc := MC cI mb g nw kp) (suf := ([] : va_W)) (As := []) (rest := [.int (f 6)]) ⟨hx, hb, hml, hown, hts⟩ (mX2_unsaidInPauses l D cI mb g nw kp _ ) hN hA hK1 hS hP hD rfl 0 (r := (RX2, TX2, 7)) rfl rfl (cwV 0 hts gL_law_X2_unsaidInPauses rfl rfl rfl (by decide +kernel) ⟨Nat.le_of_ble_eq_true rfl, Nat.le_of_ble_eq_true rfl⟩) rfl hl.1 rfl (Nat.le_of_ble_eq_true rfl) dL_law_1146 ⟨by omega, by omega⟩ (fun r_1146 u_1146 H locs hw hP hD hS => ?_)
  have hw : r_1146 = nw 4 := hw
  subst hw
  have hP : va_P D vwCl (XO x0 a b ++ (DC cI a f r ++ (DC cI b f2 r2 ++ (OUT cJ q v ++ MC cI mb (upd g 0 0) nw kp)))) H := hP
  have hD : va_D (lwA s) (XO x0 a b ++ (DC cI a f r ++ (DC cI b f2 r2 ++ (OUT cJ q v ++ MC cI mb (upd g 0 0) nw kp)))) := hD
  refine wTop (z := (f 6)) (hans) ?_
  refine lv_icmp_eq (tgt := 1548) hx hb dL_law_1149 (by decide) (fun c_1149 => ?_) (fun h9 => absurd (rfl) h9)
  exact W.widen (k := cells + 1) (n := slots + 11) (by omega) (by omega) (kk _ _ _ _ _ _ _ _ (by simp (disch := omega) only [mUp, mUs]) (by simp (disch := omega) only [mUp, mUs]) hP hD hS (lv_sub hl [0, 1, 2, 3, 4] rfl))
set_option maxRecDepth 100000 in
set_option maxHeartbeats 4000000 in
theorem lc_allUnsaid {p : Program} {l : Launch} {e : Env} {s : State} {m : MethodId} {args : Array Value} {below : List Frame} {meth : Method} {c : Code} {D : va_G} {cI cJ : ClassId} {sb LN : Nat} {xs : Nat → Int32} {H : Heap} {locs : List Loc} {cells slots : Nat} {Q : State → Prop} {ls : Array Slot} (E9 : lawE p l s m args c D cI cJ sb LN xs) (x0 : Nat) (a b : Nat → Nat) (f f2 : Nat → Int32) (r r2 : Nat → Nat → Int32) (q : Nat) (v : Nat → Int64) (mb : Nat → Nat) (g nw kp : Nat → Int32) (i : Nat) (hi : i + 2 < LN) (hcc : cells + 1 ≤ room_1.cells) (hss : slots + 11 ≤ room_1.slots) (hl : lv_has ls 9 [(4, .int (nI i)), (3, .ref q), (2, .ref (mb 0)), (1, .ref x0), (0, .ref sb)]) (hP : va_P D vwCl (XO x0 a b ++ (DC cI a f r ++ (DC cI b f2 r2 ++ (OUT cJ q v ++ MC cI mb g nw kp)))) H) (hD : va_D (lwA s) (XO x0 a b ++ (DC cI a f r ++ (DC cI b f2 r2 ++ (OUT cJ q v ++ MC cI mb g nw kp))))) (hS : va_S (lwA s) s.heap H locs) (gg : Nat) (hg : f 0 = nI gg) (hg2 : gg ≤ 10) (hg0 : 0 < gg) (hans : mSum nw gg = dSum (r 3) gg + f 6) (hgm : g 1 = nI gg)
    (kk : ∀ (f9 : Nat → Int32) (r9 : Nat → Nat → Int32) (v9 : Nat → Int64) (g9 kp9 : Nat → Int32) (H1 : Heap) (locs1 : List Loc) (ls1 : Array Slot), g9 1 = g 1 → g9 2 = g 2 → va_P D vwCl (XO x0 a b ++ (DC cI a f r ++ (DC cI b f9 r9 ++ (OUT cJ q v9 ++ MC cI mb g9 nw kp9)))) H1 → va_D (lwA s) (XO x0 a b ++ (DC cI a f r ++ (DC cI b f9 r9 ++ (OUT cJ q v9 ++ MC cI mb g9 nw kp9)))) → va_S (lwA s) s.heap H1 locs1 → lv_has ls1 9 [(4, .int (nI i)), (3, .ref q), (2, .ref (mb 0)), (1, .ref x0), (0, .ref sb)] → W p l e room_1 s m args below meth c H1 locs1 (cells + 1) (slots + 11) Q (F0 m 1548 ls1 [])) : W p l e room_1 s m args below meth c H locs cells slots Q (F0 m 1154 ls []) := by
  obtain ⟨⟨hx, hb, hml, hown, hts⟩, hN, hE, hZ, hK, hX, hbl, hlt, hLN⟩ := E9
  have hA : ∀ q : Nat, s.heap.size ≤ q → lwA s q := fun _ h => h
  have hK1 : va_K D vwCl [(cI, .int)] s := hK.sub [0] rfl
  refine lv_aload_n hx hb dL_law_1154 rfl (lv_at hl 3 rfl) ?_
  refine wCVi (pre := ([] : va_W)) (Wc := XO x0 a b ++ (DC cI a f r ++ DC cI b f2 r2)) (suf := OUT cJ q v ++ MC cI mb g nw kp) (As := []) (rest := []) ⟨hx, hb, hml, hown, hts⟩ (mX1_allUnsaid l D cI x0 a b f f2 r r2 gg _ hg hg2 hg0) hN hA hK1 hS hP hD rfl 0 (r := (RX1, TX1, 2)) rfl rfl (cwV 0 hts gL_law_X1_allUnsaid rfl rfl rfl (by decide +kernel) ⟨Nat.le_of_ble_eq_true rfl, Nat.le_of_ble_eq_true rfl⟩) rfl hl.1 rfl (Nat.le_of_ble_eq_true rfl) dL_law_1155 ⟨by omega, by omega⟩ (fun r_1155 u_1155 H locs hw hP hD hS => ?_)
  have hw : r_1155 = dSum (r 3) gg + f 6 := hw
  subst hw
  have hP : va_P D vwCl (XO x0 a b ++ (DC cI a f r ++ (DC cI b f2 r2 ++ (OUT cJ q v ++ MC cI mb g nw kp)))) H := hP
  have hD : va_D (lwA s) (XO x0 a b ++ (DC cI a f r ++ (DC cI b f2 r2 ++ (OUT cJ q v ++ MC cI mb g nw kp)))) := hD
  refine lv_aload_n hx hb dL_law_1158 rfl (lv_at hl 2 rfl) ?_
  refine wCVi (pre := XO x0 a b ++ (DC cI a f r ++ (DC cI b f2 r2 ++ OUT cJ q v))) (Wc := MC cI mb g nw kp) (suf := ([] : va_W)) (As := []) (rest := [.int (dSum (r 3) gg + f 6)]) ⟨hx, hb, hml, hown, hts⟩ (mX2_allUnsaid l D cI mb g nw kp gg _ hgm hg2) hN hA hK1 hS hP hD rfl 0 (r := (RX2, TX2, 7)) rfl rfl (cwV 0 hts gL_law_X2_allUnsaid rfl rfl rfl (by decide +kernel) ⟨Nat.le_of_ble_eq_true rfl, Nat.le_of_ble_eq_true rfl⟩) rfl hl.1 rfl (Nat.le_of_ble_eq_true rfl) dL_law_1159 ⟨by omega, by omega⟩ (fun r_1159 u_1159 H locs hw hP hD hS => ?_)
  have hw : r_1159 = mSum nw gg := hw
  subst hw
  have hP : va_P D vwCl (XO x0 a b ++ (DC cI a f r ++ (DC cI b f2 r2 ++ (OUT cJ q v ++ MC cI mb (upd g 0 0) nw kp)))) H := hP
  have hD : va_D (lwA s) (XO x0 a b ++ (DC cI a f r ++ (DC cI b f2 r2 ++ (OUT cJ q v ++ MC cI mb (upd g 0 0) nw kp)))) := hD
  refine wTop (z := (dSum (r 3) gg + f 6)) (hans) ?_
  refine lv_icmp_eq (tgt := 1548) hx hb dL_law_1162 (by decide) (fun c_1162 => ?_) (fun h9 => absurd (rfl) h9)
  exact W.widen (k := cells + 1) (n := slots + 11) (by omega) (by omega) (kk _ _ _ _ _ _ _ _ (by simp (disch := omega) only [mUp, mUs]) (by simp (disch := omega) only [mUp, mUs]) hP hD hS (lv_sub hl [0, 1, 2, 3, 4] rfl))
set_option maxRecDepth 100000 in
set_option maxHeartbeats 4000000 in
theorem lc_glancesUnderWay {p : Program} {l : Launch} {e : Env} {s : State} {m : MethodId} {args : Array Value} {below : List Frame} {meth : Method} {c : Code} {D : va_G} {cI cJ : ClassId} {sb LN : Nat} {xs : Nat → Int32} {H : Heap} {locs : List Loc} {cells slots : Nat} {Q : State → Prop} {ls : Array Slot} (E9 : lawE p l s m args c D cI cJ sb LN xs) (x0 : Nat) (a b : Nat → Nat) (f f2 : Nat → Int32) (r r2 : Nat → Nat → Int32) (q : Nat) (v : Nat → Int64) (mb : Nat → Nat) (g nw kp : Nat → Int32) (i : Nat) (hi : i + 2 < LN) (hcc : cells + 1 ≤ room_1.cells) (hss : slots + 11 ≤ room_1.slots) (hl : lv_has ls 9 [(4, .int (nI i)), (3, .ref q), (2, .ref (mb 0)), (1, .ref x0), (0, .ref sb)]) (hP : va_P D vwCl (XO x0 a b ++ (DC cI a f r ++ (DC cI b f2 r2 ++ (OUT cJ q v ++ MC cI mb g nw kp)))) H) (hD : va_D (lwA s) (XO x0 a b ++ (DC cI a f r ++ (DC cI b f2 r2 ++ (OUT cJ q v ++ MC cI mb g nw kp))))) (hS : va_S (lwA s) s.heap H locs) (hans : mWay nw 100 = f 9)
    (kk : ∀ (f9 : Nat → Int32) (r9 : Nat → Nat → Int32) (v9 : Nat → Int64) (g9 kp9 : Nat → Int32) (H1 : Heap) (locs1 : List Loc) (ls1 : Array Slot), g9 1 = g 1 → g9 2 = g 2 → va_P D vwCl (XO x0 a b ++ (DC cI a f r ++ (DC cI b f9 r9 ++ (OUT cJ q v9 ++ MC cI mb g9 nw kp9)))) H1 → va_D (lwA s) (XO x0 a b ++ (DC cI a f r ++ (DC cI b f9 r9 ++ (OUT cJ q v9 ++ MC cI mb g9 nw kp9)))) → va_S (lwA s) s.heap H1 locs1 → lv_has ls1 9 [(4, .int (nI i)), (3, .ref q), (2, .ref (mb 0)), (1, .ref x0), (0, .ref sb)] → W p l e room_1 s m args below meth c H1 locs1 (cells + 1) (slots + 11) Q (F0 m 1548 ls1 [])) : W p l e room_1 s m args below meth c H locs cells slots Q (F0 m 1167 ls []) := by
  obtain ⟨⟨hx, hb, hml, hown, hts⟩, hN, hE, hZ, hK, hX, hbl, hlt, hLN⟩ := E9
  have hA : ∀ q : Nat, s.heap.size ≤ q → lwA s q := fun _ h => h
  have hK1 : va_K D vwCl [(cI, .int)] s := hK.sub [0] rfl
  refine lv_aload_n hx hb dL_law_1167 rfl (lv_at hl 3 rfl) ?_
  refine wCVi (pre := ([] : va_W)) (Wc := XO x0 a b ++ (DC cI a f r ++ DC cI b f2 r2)) (suf := OUT cJ q v ++ MC cI mb g nw kp) (As := []) (rest := []) ⟨hx, hb, hml, hown, hts⟩ (mX1_glancesUnderWay l D cI x0 a b f f2 r r2 _ ) hN hA hK1 hS hP hD rfl 0 (r := (RX1, TX1, 2)) rfl rfl (cwV 0 hts gL_law_X1_glancesUnderWay rfl rfl rfl (by decide +kernel) ⟨Nat.le_of_ble_eq_true rfl, Nat.le_of_ble_eq_true rfl⟩) rfl hl.1 rfl (Nat.le_of_ble_eq_true rfl) dL_law_1168 ⟨by omega, by omega⟩ (fun r_1168 u_1168 H locs hw hP hD hS => ?_)
  have hw : r_1168 = f 9 := hw
  subst hw
  have hP : va_P D vwCl (XO x0 a b ++ (DC cI a f r ++ (DC cI b f2 r2 ++ (OUT cJ q v ++ MC cI mb g nw kp)))) H := hP
  have hD : va_D (lwA s) (XO x0 a b ++ (DC cI a f r ++ (DC cI b f2 r2 ++ (OUT cJ q v ++ MC cI mb g nw kp)))) := hD
  refine lv_aload_n hx hb dL_law_1171 rfl (lv_at hl 2 rfl) ?_
  refine wCVi (pre := XO x0 a b ++ (DC cI a f r ++ (DC cI b f2 r2 ++ OUT cJ q v))) (Wc := MC cI mb g nw kp) (suf := ([] : va_W)) (As := []) (rest := [.int (f 9)]) ⟨hx, hb, hml, hown, hts⟩ (mX2_glancesUnderWay l D cI mb g nw kp _ ) hN hA hK1 hS hP hD rfl 0 (r := (RX2, TX2, 7)) rfl rfl (cwV 0 hts gL_law_X2_glancesUnderWay rfl rfl rfl (by decide +kernel) ⟨Nat.le_of_ble_eq_true rfl, Nat.le_of_ble_eq_true rfl⟩) rfl hl.1 rfl (Nat.le_of_ble_eq_true rfl) dL_law_1172 ⟨by omega, by omega⟩ (fun r_1172 u_1172 H locs hw hP hD hS => ?_)
  have hw : r_1172 = mWay nw 100 := hw
  subst hw
  have hP : va_P D vwCl (XO x0 a b ++ (DC cI a f r ++ (DC cI b f2 r2 ++ (OUT cJ q v ++ MC cI mb (upd g 0 0) nw kp)))) H := hP
  have hD : va_D (lwA s) (XO x0 a b ++ (DC cI a f r ++ (DC cI b f2 r2 ++ (OUT cJ q v ++ MC cI mb (upd g 0 0) nw kp)))) := hD
  refine wTop (z := (f 9)) (hans) ?_
  refine lv_icmp_eq (tgt := 1548) hx hb dL_law_1175 (by decide) (fun c_1175 => ?_) (fun h9 => absurd (rfl) h9)
  exact W.widen (k := cells + 1) (n := slots + 11) (by omega) (by omega) (kk _ _ _ _ _ _ _ _ (by simp (disch := omega) only [mUp, mUs]) (by simp (disch := omega) only [mUp, mUs]) hP hD hS (lv_sub hl [0, 1, 2, 3, 4] rfl))
set_option maxRecDepth 100000 in
set_option maxHeartbeats 4000000 in
theorem lc_meetings {p : Program} {l : Launch} {e : Env} {s : State} {m : MethodId} {args : Array Value} {below : List Frame} {meth : Method} {c : Code} {D : va_G} {cI cJ : ClassId} {sb LN : Nat} {xs : Nat → Int32} {H : Heap} {locs : List Loc} {cells slots : Nat} {Q : State → Prop} {ls : Array Slot} (E9 : lawE p l s m args c D cI cJ sb LN xs) (x0 : Nat) (a b : Nat → Nat) (f f2 : Nat → Int32) (r r2 : Nat → Nat → Int32) (q : Nat) (v : Nat → Int64) (mb : Nat → Nat) (g nw kp : Nat → Int32) (i : Nat) (hi : i + 2 < LN) (hcc : cells + 1 ≤ room_1.cells) (hss : slots + 11 ≤ room_1.slots) (hl : lv_has ls 9 [(4, .int (nI i)), (3, .ref q), (2, .ref (mb 0)), (1, .ref x0), (0, .ref sb)]) (hP : va_P D vwCl (XO x0 a b ++ (DC cI a f r ++ (DC cI b f2 r2 ++ (OUT cJ q v ++ MC cI mb g nw kp)))) H) (hD : va_D (lwA s) (XO x0 a b ++ (DC cI a f r ++ (DC cI b f2 r2 ++ (OUT cJ q v ++ MC cI mb g nw kp))))) (hS : va_S (lwA s) s.heap H locs) (hans : nw 5 = f 7)
    (kk : ∀ (f9 : Nat → Int32) (r9 : Nat → Nat → Int32) (v9 : Nat → Int64) (g9 kp9 : Nat → Int32) (H1 : Heap) (locs1 : List Loc) (ls1 : Array Slot), g9 1 = g 1 → g9 2 = g 2 → va_P D vwCl (XO x0 a b ++ (DC cI a f r ++ (DC cI b f9 r9 ++ (OUT cJ q v9 ++ MC cI mb g9 nw kp9)))) H1 → va_D (lwA s) (XO x0 a b ++ (DC cI a f r ++ (DC cI b f9 r9 ++ (OUT cJ q v9 ++ MC cI mb g9 nw kp9)))) → va_S (lwA s) s.heap H1 locs1 → lv_has ls1 9 [(4, .int (nI i)), (3, .ref q), (2, .ref (mb 0)), (1, .ref x0), (0, .ref sb)] → W p l e room_1 s m args below meth c H1 locs1 (cells + 1) (slots + 11) Q (F0 m 1548 ls1 [])) : W p l e room_1 s m args below meth c H locs cells slots Q (F0 m 1180 ls []) := by
  obtain ⟨⟨hx, hb, hml, hown, hts⟩, hN, hE, hZ, hK, hX, hbl, hlt, hLN⟩ := E9
  have hA : ∀ q : Nat, s.heap.size ≤ q → lwA s q := fun _ h => h
  have hK1 : va_K D vwCl [(cI, .int)] s := hK.sub [0] rfl
  refine lv_aload_n hx hb dL_law_1180 rfl (lv_at hl 3 rfl) ?_
  refine wCVi (pre := ([] : va_W)) (Wc := XO x0 a b ++ (DC cI a f r ++ DC cI b f2 r2)) (suf := OUT cJ q v ++ MC cI mb g nw kp) (As := []) (rest := []) ⟨hx, hb, hml, hown, hts⟩ (mX1_meetings l D cI x0 a b f f2 r r2 _ ) hN hA hK1 hS hP hD rfl 0 (r := (RX1, TX1, 2)) rfl rfl (cwV 0 hts gL_law_X1_meetings rfl rfl rfl (by decide +kernel) ⟨Nat.le_of_ble_eq_true rfl, Nat.le_of_ble_eq_true rfl⟩) rfl hl.1 rfl (Nat.le_of_ble_eq_true rfl) dL_law_1181 ⟨by omega, by omega⟩ (fun r_1181 u_1181 H locs hw hP hD hS => ?_)
  have hw : r_1181 = f 7 := hw
  subst hw
  have hP : va_P D vwCl (XO x0 a b ++ (DC cI a f r ++ (DC cI b f2 r2 ++ (OUT cJ q v ++ MC cI mb g nw kp)))) H := hP
  have hD : va_D (lwA s) (XO x0 a b ++ (DC cI a f r ++ (DC cI b f2 r2 ++ (OUT cJ q v ++ MC cI mb g nw kp)))) := hD
  refine lv_aload_n hx hb dL_law_1184 rfl (lv_at hl 2 rfl) ?_
  refine wCVi (pre := XO x0 a b ++ (DC cI a f r ++ (DC cI b f2 r2 ++ OUT cJ q v))) (Wc := MC cI mb g nw kp) (suf := ([] : va_W)) (As := []) (rest := [.int (f 7)]) ⟨hx, hb, hml, hown, hts⟩ (mX2_meetings l D cI mb g nw kp _ ) hN hA hK1 hS hP hD rfl 0 (r := (RX2, TX2, 7)) rfl rfl (cwV 0 hts gL_law_X2_meetings rfl rfl rfl (by decide +kernel) ⟨Nat.le_of_ble_eq_true rfl, Nat.le_of_ble_eq_true rfl⟩) rfl hl.1 rfl (Nat.le_of_ble_eq_true rfl) dL_law_1185 ⟨by omega, by omega⟩ (fun r_1185 u_1185 H locs hw hP hD hS => ?_)
  have hw : r_1185 = nw 5 := hw
  subst hw
  have hP : va_P D vwCl (XO x0 a b ++ (DC cI a f r ++ (DC cI b f2 r2 ++ (OUT cJ q v ++ MC cI mb (upd g 0 0) nw kp)))) H := hP
  have hD : va_D (lwA s) (XO x0 a b ++ (DC cI a f r ++ (DC cI b f2 r2 ++ (OUT cJ q v ++ MC cI mb (upd g 0 0) nw kp)))) := hD
  refine wTop (z := (f 7)) (hans) ?_
  refine lv_icmp_eq (tgt := 1548) hx hb dL_law_1188 (by decide) (fun c_1188 => ?_) (fun h9 => absurd (rfl) h9)
  exact W.widen (k := cells + 1) (n := slots + 11) (by omega) (by omega) (kk _ _ _ _ _ _ _ _ (by simp (disch := omega) only [mUp, mUs]) (by simp (disch := omega) only [mUp, mUs]) hP hD hS (lv_sub hl [0, 1, 2, 3, 4] rfl))
set_option maxRecDepth 100000 in
set_option maxHeartbeats 4000000 in
theorem lc_lostGlances {p : Program} {l : Launch} {e : Env} {s : State} {m : MethodId} {args : Array Value} {below : List Frame} {meth : Method} {c : Code} {D : va_G} {cI cJ : ClassId} {sb LN : Nat} {xs : Nat → Int32} {H : Heap} {locs : List Loc} {cells slots : Nat} {Q : State → Prop} {ls : Array Slot} (E9 : lawE p l s m args c D cI cJ sb LN xs) (x0 : Nat) (a b : Nat → Nat) (f f2 : Nat → Int32) (r r2 : Nat → Nat → Int32) (q : Nat) (v : Nat → Int64) (mb : Nat → Nat) (g nw kp : Nat → Int32) (i : Nat) (hi : i + 2 < LN) (hcc : cells + 1 ≤ room_1.cells) (hss : slots + 11 ≤ room_1.slots) (hl : lv_has ls 9 [(4, .int (nI i)), (3, .ref q), (2, .ref (mb 0)), (1, .ref x0), (0, .ref sb)]) (hP : va_P D vwCl (XO x0 a b ++ (DC cI a f r ++ (DC cI b f2 r2 ++ (OUT cJ q v ++ MC cI mb g nw kp)))) H) (hD : va_D (lwA s) (XO x0 a b ++ (DC cI a f r ++ (DC cI b f2 r2 ++ (OUT cJ q v ++ MC cI mb g nw kp))))) (hS : va_S (lwA s) s.heap H locs) (hans : nw 6 = f 8)
    (kk : ∀ (f9 : Nat → Int32) (r9 : Nat → Nat → Int32) (v9 : Nat → Int64) (g9 kp9 : Nat → Int32) (H1 : Heap) (locs1 : List Loc) (ls1 : Array Slot), g9 1 = g 1 → g9 2 = g 2 → va_P D vwCl (XO x0 a b ++ (DC cI a f r ++ (DC cI b f9 r9 ++ (OUT cJ q v9 ++ MC cI mb g9 nw kp9)))) H1 → va_D (lwA s) (XO x0 a b ++ (DC cI a f r ++ (DC cI b f9 r9 ++ (OUT cJ q v9 ++ MC cI mb g9 nw kp9)))) → va_S (lwA s) s.heap H1 locs1 → lv_has ls1 9 [(4, .int (nI i)), (3, .ref q), (2, .ref (mb 0)), (1, .ref x0), (0, .ref sb)] → W p l e room_1 s m args below meth c H1 locs1 (cells + 1) (slots + 11) Q (F0 m 1548 ls1 [])) : W p l e room_1 s m args below meth c H locs cells slots Q (F0 m 1193 ls []) := by
  obtain ⟨⟨hx, hb, hml, hown, hts⟩, hN, hE, hZ, hK, hX, hbl, hlt, hLN⟩ := E9
  have hA : ∀ q : Nat, s.heap.size ≤ q → lwA s q := fun _ h => h
  have hK1 : va_K D vwCl [(cI, .int)] s := hK.sub [0] rfl
  refine lv_aload_n hx hb dL_law_1193 rfl (lv_at hl 3 rfl) ?_
  refine wCVi (pre := ([] : va_W)) (Wc := XO x0 a b ++ (DC cI a f r ++ DC cI b f2 r2)) (suf := OUT cJ q v ++ MC cI mb g nw kp) (As := []) (rest := []) ⟨hx, hb, hml, hown, hts⟩ (mX1_lostGlances l D cI x0 a b f f2 r r2 _ ) hN hA hK1 hS hP hD rfl 0 (r := (RX1, TX1, 2)) rfl rfl (cwV 0 hts gL_law_X1_lostGlances rfl rfl rfl (by decide +kernel) ⟨Nat.le_of_ble_eq_true rfl, Nat.le_of_ble_eq_true rfl⟩) rfl hl.1 rfl (Nat.le_of_ble_eq_true rfl) dL_law_1194 ⟨by omega, by omega⟩ (fun r_1194 u_1194 H locs hw hP hD hS => ?_)
  have hw : r_1194 = f 8 := hw
  subst hw
  have hP : va_P D vwCl (XO x0 a b ++ (DC cI a f r ++ (DC cI b f2 r2 ++ (OUT cJ q v ++ MC cI mb g nw kp)))) H := hP
  have hD : va_D (lwA s) (XO x0 a b ++ (DC cI a f r ++ (DC cI b f2 r2 ++ (OUT cJ q v ++ MC cI mb g nw kp)))) := hD
  refine lv_aload_n hx hb dL_law_1197 rfl (lv_at hl 2 rfl) ?_
  refine wCVi (pre := XO x0 a b ++ (DC cI a f r ++ (DC cI b f2 r2 ++ OUT cJ q v))) (Wc := MC cI mb g nw kp) (suf := ([] : va_W)) (As := []) (rest := [.int (f 8)]) ⟨hx, hb, hml, hown, hts⟩ (mX2_lostGlances l D cI mb g nw kp _ ) hN hA hK1 hS hP hD rfl 0 (r := (RX2, TX2, 7)) rfl rfl (cwV 0 hts gL_law_X2_lostGlances rfl rfl rfl (by decide +kernel) ⟨Nat.le_of_ble_eq_true rfl, Nat.le_of_ble_eq_true rfl⟩) rfl hl.1 rfl (Nat.le_of_ble_eq_true rfl) dL_law_1198 ⟨by omega, by omega⟩ (fun r_1198 u_1198 H locs hw hP hD hS => ?_)
  have hw : r_1198 = nw 6 := hw
  subst hw
  have hP : va_P D vwCl (XO x0 a b ++ (DC cI a f r ++ (DC cI b f2 r2 ++ (OUT cJ q v ++ MC cI mb (upd g 0 0) nw kp)))) H := hP
  have hD : va_D (lwA s) (XO x0 a b ++ (DC cI a f r ++ (DC cI b f2 r2 ++ (OUT cJ q v ++ MC cI mb (upd g 0 0) nw kp)))) := hD
  refine wTop (z := (f 8)) (hans) ?_
  refine lv_icmp_eq (tgt := 1548) hx hb dL_law_1201 (by decide) (fun c_1201 => ?_) (fun h9 => absurd (rfl) h9)
  exact W.widen (k := cells + 1) (n := slots + 11) (by omega) (by omega) (kk _ _ _ _ _ _ _ _ (by simp (disch := omega) only [mUp, mUs]) (by simp (disch := omega) only [mUp, mUs]) hP hD hS (lv_sub hl [0, 1, 2, 3, 4] rfl))
set_option maxRecDepth 100000 in
set_option maxHeartbeats 4000000 in
theorem lc_quietest {p : Program} {l : Launch} {e : Env} {s : State} {m : MethodId} {args : Array Value} {below : List Frame} {meth : Method} {c : Code} {D : va_G} {cI cJ : ClassId} {sb LN : Nat} {xs : Nat → Int32} {H : Heap} {locs : List Loc} {cells slots : Nat} {Q : State → Prop} {ls : Array Slot} (E9 : lawE p l s m args c D cI cJ sb LN xs) (x0 : Nat) (a b : Nat → Nat) (f f2 : Nat → Int32) (r r2 : Nat → Nat → Int32) (q : Nat) (v : Nat → Int64) (mb : Nat → Nat) (g nw kp : Nat → Int32) (i : Nat) (hi : i + 2 < LN) (hcc : cells + 1 ≤ room_1.cells) (hss : slots + 11 ≤ room_1.slots) (hl : lv_has ls 9 [(4, .int (nI i)), (3, .ref q), (2, .ref (mb 0)), (1, .ref x0), (0, .ref sb)]) (hP : va_P D vwCl (XO x0 a b ++ (DC cI a f r ++ (DC cI b f2 r2 ++ (OUT cJ q v ++ MC cI mb g nw kp)))) H) (hD : va_D (lwA s) (XO x0 a b ++ (DC cI a f r ++ (DC cI b f2 r2 ++ (OUT cJ q v ++ MC cI mb g nw kp))))) (hS : va_S (lwA s) s.heap H locs) (gg : Nat) (hg : f 0 = nI gg) (hg2 : gg ≤ 10) (hg0 : 0 < gg) (hans : nI (mQuiet nw (gg - 1)) = nI (dQuiet (r 3) (gg - 1))) (hgm : g 1 = nI gg)
    (kk : ∀ (f9 : Nat → Int32) (r9 : Nat → Nat → Int32) (v9 : Nat → Int64) (g9 kp9 : Nat → Int32) (H1 : Heap) (locs1 : List Loc) (ls1 : Array Slot), g9 1 = g 1 → g9 2 = g 2 → va_P D vwCl (XO x0 a b ++ (DC cI a f r ++ (DC cI b f9 r9 ++ (OUT cJ q v9 ++ MC cI mb g9 nw kp9)))) H1 → va_D (lwA s) (XO x0 a b ++ (DC cI a f r ++ (DC cI b f9 r9 ++ (OUT cJ q v9 ++ MC cI mb g9 nw kp9)))) → va_S (lwA s) s.heap H1 locs1 → lv_has ls1 9 [(4, .int (nI i)), (3, .ref q), (2, .ref (mb 0)), (1, .ref x0), (0, .ref sb)] → W p l e room_1 s m args below meth c H1 locs1 (cells + 1) (slots + 11) Q (F0 m 1548 ls1 [])) : W p l e room_1 s m args below meth c H locs cells slots Q (F0 m 1206 ls []) := by
  obtain ⟨⟨hx, hb, hml, hown, hts⟩, hN, hE, hZ, hK, hX, hbl, hlt, hLN⟩ := E9
  have hA : ∀ q : Nat, s.heap.size ≤ q → lwA s q := fun _ h => h
  have hK1 : va_K D vwCl [(cI, .int)] s := hK.sub [0] rfl
  refine lv_aload_n hx hb dL_law_1206 rfl (lv_at hl 3 rfl) ?_
  refine wCVi (pre := ([] : va_W)) (Wc := XO x0 a b ++ (DC cI a f r ++ DC cI b f2 r2)) (suf := OUT cJ q v ++ MC cI mb g nw kp) (As := []) (rest := []) ⟨hx, hb, hml, hown, hts⟩ (mX1_quietest l D cI x0 a b f f2 r r2 gg _ hg hg2 hg0) hN hA hK1 hS hP hD rfl 0 (r := (RX1, TX1, 2)) rfl rfl (cwV 0 hts gL_law_X1_quietest rfl rfl rfl (by decide +kernel) ⟨Nat.le_of_ble_eq_true rfl, Nat.le_of_ble_eq_true rfl⟩) rfl hl.1 rfl (Nat.le_of_ble_eq_true rfl) dL_law_1207 ⟨by omega, by omega⟩ (fun r_1207 u_1207 H locs hw hP hD hS => ?_)
  have hw : r_1207 = nI (dQuiet (r 3) (gg - 1)) := hw
  subst hw
  have hP : va_P D vwCl (XO x0 a b ++ (DC cI a f r ++ (DC cI b f2 r2 ++ (OUT cJ q v ++ MC cI mb g nw kp)))) H := hP
  have hD : va_D (lwA s) (XO x0 a b ++ (DC cI a f r ++ (DC cI b f2 r2 ++ (OUT cJ q v ++ MC cI mb g nw kp)))) := hD
  refine lv_aload_n hx hb dL_law_1210 rfl (lv_at hl 2 rfl) ?_
  refine wCVi (pre := XO x0 a b ++ (DC cI a f r ++ (DC cI b f2 r2 ++ OUT cJ q v))) (Wc := MC cI mb g nw kp) (suf := ([] : va_W)) (As := []) (rest := [.int (nI (dQuiet (r 3) (gg - 1)))]) ⟨hx, hb, hml, hown, hts⟩ (mX2_quietest l D cI mb g nw kp gg _ hgm hg2 hg0) hN hA hK1 hS hP hD rfl 0 (r := (RX2, TX2, 7)) rfl rfl (cwV 0 hts gL_law_X2_quietest rfl rfl rfl (by decide +kernel) ⟨Nat.le_of_ble_eq_true rfl, Nat.le_of_ble_eq_true rfl⟩) rfl hl.1 rfl (Nat.le_of_ble_eq_true rfl) dL_law_1211 ⟨by omega, by omega⟩ (fun r_1211 u_1211 H locs hw hP hD hS => ?_)
  have hw : r_1211 = nI (mQuiet nw (gg - 1)) := hw
  subst hw
  have hP : va_P D vwCl (XO x0 a b ++ (DC cI a f r ++ (DC cI b f2 r2 ++ (OUT cJ q v ++ MC cI mb (upd g 0 0) nw kp)))) H := hP
  have hD : va_D (lwA s) (XO x0 a b ++ (DC cI a f r ++ (DC cI b f2 r2 ++ (OUT cJ q v ++ MC cI mb (upd g 0 0) nw kp)))) := hD
  refine wTop (z := (nI (dQuiet (r 3) (gg - 1)))) (hans) ?_
  refine lv_icmp_eq (tgt := 1548) hx hb dL_law_1214 (by decide) (fun c_1214 => ?_) (fun h9 => absurd (rfl) h9)
  exact W.widen (k := cells + 1) (n := slots + 11) (by omega) (by omega) (kk _ _ _ _ _ _ _ _ (by simp (disch := omega) only [mUp, mUs]) (by simp (disch := omega) only [mUp, mUs]) hP hD hS (lv_sub hl [0, 1, 2, 3, 4] rfl))
set_option maxRecDepth 100000 in
set_option maxHeartbeats 4000000 in
theorem lc_rating {p : Program} {l : Launch} {e : Env} {s : State} {m : MethodId} {args : Array Value} {below : List Frame} {meth : Method} {c : Code} {D : va_G} {cI cJ : ClassId} {sb LN : Nat} {xs : Nat → Int32} {H : Heap} {locs : List Loc} {cells slots : Nat} {Q : State → Prop} {ls : Array Slot} (E9 : lawE p l s m args c D cI cJ sb LN xs) (x0 : Nat) (a b : Nat → Nat) (f f2 : Nat → Int32) (r r2 : Nat → Nat → Int32) (q : Nat) (v : Nat → Int64) (mb : Nat → Nat) (g nw kp : Nat → Int32) (i : Nat) (hi : i + 2 < LN) (hcc : cells + 1 ≤ room_1.cells) (hss : slots + 11 ≤ room_1.slots) (hl : lv_has ls 9 [(4, .int (nI i)), (3, .ref q), (2, .ref (mb 0)), (1, .ref x0), (0, .ref sb)]) (hP : va_P D vwCl (XO x0 a b ++ (DC cI a f r ++ (DC cI b f2 r2 ++ (OUT cJ q v ++ MC cI mb g nw kp)))) H) (hD : va_D (lwA s) (XO x0 a b ++ (DC cI a f r ++ (DC cI b f2 r2 ++ (OUT cJ q v ++ MC cI mb g nw kp))))) (hS : va_S (lwA s) s.heap H locs) (gg : Nat) (hg : f 0 = nI gg) (hg2 : gg ≤ 10) (hg0 : 0 < gg) (hans : mRate (g 1) nw gg = dRate (f 0) (f 6) (r 3) gg) (hgm : g 1 = nI gg)
    (kk : ∀ (f9 : Nat → Int32) (r9 : Nat → Nat → Int32) (v9 : Nat → Int64) (g9 kp9 : Nat → Int32) (H1 : Heap) (locs1 : List Loc) (ls1 : Array Slot), g9 1 = g 1 → g9 2 = g 2 → va_P D vwCl (XO x0 a b ++ (DC cI a f r ++ (DC cI b f9 r9 ++ (OUT cJ q v9 ++ MC cI mb g9 nw kp9)))) H1 → va_D (lwA s) (XO x0 a b ++ (DC cI a f r ++ (DC cI b f9 r9 ++ (OUT cJ q v9 ++ MC cI mb g9 nw kp9)))) → va_S (lwA s) s.heap H1 locs1 → lv_has ls1 9 [(4, .int (nI i)), (3, .ref q), (2, .ref (mb 0)), (1, .ref x0), (0, .ref sb)] → W p l e room_1 s m args below meth c H1 locs1 (cells + 1) (slots + 11) Q (F0 m 1548 ls1 [])) : W p l e room_1 s m args below meth c H locs cells slots Q (F0 m 1219 ls []) := by
  obtain ⟨⟨hx, hb, hml, hown, hts⟩, hN, hE, hZ, hK, hX, hbl, hlt, hLN⟩ := E9
  have hA : ∀ q : Nat, s.heap.size ≤ q → lwA s q := fun _ h => h
  have hK1 : va_K D vwCl [(cI, .int)] s := hK.sub [0] rfl
  refine lv_aload_n hx hb dL_law_1219 rfl (lv_at hl 3 rfl) ?_
  refine wCVi (pre := ([] : va_W)) (Wc := XO x0 a b ++ (DC cI a f r ++ DC cI b f2 r2)) (suf := OUT cJ q v ++ MC cI mb g nw kp) (As := []) (rest := []) ⟨hx, hb, hml, hown, hts⟩ (mX1_rating l D cI x0 a b f f2 r r2 gg _ hg hg2 hg0) hN hA hK1 hS hP hD rfl 0 (r := (RX1, TX1, 2)) rfl rfl (cwV 0 hts gL_law_X1_rating rfl rfl rfl (by decide +kernel) ⟨Nat.le_of_ble_eq_true rfl, Nat.le_of_ble_eq_true rfl⟩) rfl hl.1 rfl (Nat.le_of_ble_eq_true rfl) dL_law_1220 ⟨by omega, by omega⟩ (fun r_1220 u_1220 H locs hw hP hD hS => ?_)
  have hw : r_1220 = dRate (f 0) (f 6) (r 3) gg := hw
  subst hw
  have hP : va_P D vwCl (XO x0 a b ++ (DC cI a f r ++ (DC cI b f2 r2 ++ (OUT cJ q v ++ MC cI mb g nw kp)))) H := hP
  have hD : va_D (lwA s) (XO x0 a b ++ (DC cI a f r ++ (DC cI b f2 r2 ++ (OUT cJ q v ++ MC cI mb g nw kp)))) := hD
  refine lv_aload_n hx hb dL_law_1223 rfl (lv_at hl 2 rfl) ?_
  refine wCVi (pre := XO x0 a b ++ (DC cI a f r ++ (DC cI b f2 r2 ++ OUT cJ q v))) (Wc := MC cI mb g nw kp) (suf := ([] : va_W)) (As := []) (rest := [.int (dRate (f 0) (f 6) (r 3) gg)]) ⟨hx, hb, hml, hown, hts⟩ (mX2_rating l D cI mb g nw kp gg _ hgm hg2 hg0) hN hA hK1 hS hP hD rfl 0 (r := (RX2, TX2, 7)) rfl rfl (cwV 0 hts gL_law_X2_rating rfl rfl rfl (by decide +kernel) ⟨Nat.le_of_ble_eq_true rfl, Nat.le_of_ble_eq_true rfl⟩) rfl hl.1 rfl (Nat.le_of_ble_eq_true rfl) dL_law_1224 ⟨by omega, by omega⟩ (fun r_1224 u_1224 H locs hw hP hD hS => ?_)
  have hw : r_1224 = mRate (g 1) nw gg := hw
  subst hw
  have hP : va_P D vwCl (XO x0 a b ++ (DC cI a f r ++ (DC cI b f2 r2 ++ (OUT cJ q v ++ MC cI mb (upd g 0 0) nw kp)))) H := hP
  have hD : va_D (lwA s) (XO x0 a b ++ (DC cI a f r ++ (DC cI b f2 r2 ++ (OUT cJ q v ++ MC cI mb (upd g 0 0) nw kp)))) := hD
  refine wTop (z := (dRate (f 0) (f 6) (r 3) gg)) (hans) ?_
  refine lv_icmp_eq (tgt := 1548) hx hb dL_law_1227 (by decide) (fun c_1227 => ?_) (fun h9 => absurd (rfl) h9)
  exact W.widen (k := cells + 1) (n := slots + 11) (by omega) (by omega) (kk _ _ _ _ _ _ _ _ (by simp (disch := omega) only [mUp, mUs]) (by simp (disch := omega) only [mUp, mUs]) hP hD hS (lv_sub hl [0, 1, 2, 3, 4] rfl))
set_option maxRecDepth 100000 in
set_option maxHeartbeats 4000000 in
theorem lc_secondsUntilPauseCounts {p : Program} {l : Launch} {e : Env} {s : State} {m : MethodId} {args : Array Value} {below : List Frame} {meth : Method} {c : Code} {D : va_G} {cI cJ : ClassId} {sb LN : Nat} {xs : Nat → Int32} {H : Heap} {locs : List Loc} {cells slots : Nat} {Q : State → Prop} {ls : Array Slot} (E9 : lawE p l s m args c D cI cJ sb LN xs) (x0 : Nat) (a b : Nat → Nat) (f f2 : Nat → Int32) (r r2 : Nat → Nat → Int32) (q : Nat) (v : Nat → Int64) (mb : Nat → Nat) (g nw kp : Nat → Int32) (i : Nat) (hi : i + 2 < LN) (hcc : cells + 1 ≤ room_1.cells) (hss : slots + 11 ≤ room_1.slots) (hl : lv_has ls 9 [(4, .int (nI i)), (3, .ref q), (2, .ref (mb 0)), (1, .ref x0), (0, .ref sb)]) (hP : va_P D vwCl (XO x0 a b ++ (DC cI a f r ++ (DC cI b f2 r2 ++ (OUT cJ q v ++ MC cI mb g nw kp)))) H) (hD : va_D (lwA s) (XO x0 a b ++ (DC cI a f r ++ (DC cI b f2 r2 ++ (OUT cJ q v ++ MC cI mb g nw kp))))) (hS : va_S (lwA s) s.heap H locs) (li : Nat) (hans : mUntil (g 2) nw = dUntil f) (hl0 : g 2 = nI li) (hl1 : 0 < li) (hl2 : li ≤ 30)
    (kk : ∀ (f9 : Nat → Int32) (r9 : Nat → Nat → Int32) (v9 : Nat → Int64) (g9 kp9 : Nat → Int32) (H1 : Heap) (locs1 : List Loc) (ls1 : Array Slot), g9 1 = g 1 → g9 2 = g 2 → va_P D vwCl (XO x0 a b ++ (DC cI a f r ++ (DC cI b f9 r9 ++ (OUT cJ q v9 ++ MC cI mb g9 nw kp9)))) H1 → va_D (lwA s) (XO x0 a b ++ (DC cI a f r ++ (DC cI b f9 r9 ++ (OUT cJ q v9 ++ MC cI mb g9 nw kp9)))) → va_S (lwA s) s.heap H1 locs1 → lv_has ls1 9 [(4, .int (nI i)), (3, .ref q), (2, .ref (mb 0)), (1, .ref x0), (0, .ref sb)] → W p l e room_1 s m args below meth c H1 locs1 (cells + 1) (slots + 11) Q (F0 m 1548 ls1 [])) : W p l e room_1 s m args below meth c H locs cells slots Q (F0 m 1288 ls []) := by
  obtain ⟨⟨hx, hb, hml, hown, hts⟩, hN, hE, hZ, hK, hX, hbl, hlt, hLN⟩ := E9
  have hA : ∀ q : Nat, s.heap.size ≤ q → lwA s q := fun _ h => h
  have hK1 : va_K D vwCl [(cI, .int)] s := hK.sub [0] rfl
  refine lv_aload_n hx hb dL_law_1288 rfl (lv_at hl 3 rfl) ?_
  refine wCVi (pre := ([] : va_W)) (Wc := XO x0 a b ++ (DC cI a f r ++ DC cI b f2 r2)) (suf := OUT cJ q v ++ MC cI mb g nw kp) (As := []) (rest := []) ⟨hx, hb, hml, hown, hts⟩ (mX1_secondsUntilPauseCounts l D cI x0 a b f f2 r r2 _ ) hN hA hK1 hS hP hD rfl 0 (r := (RX1, TX1, 2)) rfl rfl (cwV 0 hts gL_law_X1_secondsUntilPauseCounts rfl rfl rfl (by decide +kernel) ⟨Nat.le_of_ble_eq_true rfl, Nat.le_of_ble_eq_true rfl⟩) rfl hl.1 rfl (Nat.le_of_ble_eq_true rfl) dL_law_1289 ⟨by omega, by omega⟩ (fun r_1289 u_1289 H locs hw hP hD hS => ?_)
  have hw : r_1289 = dUntil f := hw
  subst hw
  have hP : va_P D vwCl (XO x0 a b ++ (DC cI a f r ++ (DC cI b f2 r2 ++ (OUT cJ q v ++ MC cI mb g nw kp)))) H := hP
  have hD : va_D (lwA s) (XO x0 a b ++ (DC cI a f r ++ (DC cI b f2 r2 ++ (OUT cJ q v ++ MC cI mb g nw kp)))) := hD
  refine lv_aload_n hx hb dL_law_1292 rfl (lv_at hl 2 rfl) ?_
  refine wCVi (pre := XO x0 a b ++ (DC cI a f r ++ (DC cI b f2 r2 ++ OUT cJ q v))) (Wc := MC cI mb g nw kp) (suf := ([] : va_W)) (As := []) (rest := [.int (dUntil f)]) ⟨hx, hb, hml, hown, hts⟩ (mX2_secondsUntilPauseCounts l D cI mb g nw kp li _ hl0 hl1 hl2) hN hA hK1 hS hP hD rfl 0 (r := (RX2, TX2, 7)) rfl rfl (cwV 0 hts gL_law_X2_secondsUntilPauseCounts rfl rfl rfl (by decide +kernel) ⟨Nat.le_of_ble_eq_true rfl, Nat.le_of_ble_eq_true rfl⟩) rfl hl.1 rfl (Nat.le_of_ble_eq_true rfl) dL_law_1293 ⟨by omega, by omega⟩ (fun r_1293 u_1293 H locs hw hP hD hS => ?_)
  have hw : r_1293 = mUntil (g 2) nw := hw
  subst hw
  have hP : va_P D vwCl (XO x0 a b ++ (DC cI a f r ++ (DC cI b f2 r2 ++ (OUT cJ q v ++ MC cI mb (upd g 0 0) nw kp)))) H := hP
  have hD : va_D (lwA s) (XO x0 a b ++ (DC cI a f r ++ (DC cI b f2 r2 ++ (OUT cJ q v ++ MC cI mb (upd g 0 0) nw kp)))) := hD
  refine wTop (z := (dUntil f)) (hans) ?_
  refine lv_icmp_eq (tgt := 1548) hx hb dL_law_1296 (by decide) (fun c_1296 => ?_) (fun h9 => absurd (rfl) h9)
  exact W.widen (k := cells + 1) (n := slots + 11) (by omega) (by omega) (kk _ _ _ _ _ _ _ _ (by simp (disch := omega) only [mUp, mUs]) (by simp (disch := omega) only [mUp, mUs]) hP hD hS (lv_sub hl [0, 1, 2, 3, 4] rfl))
set_option maxRecDepth 100000 in
set_option maxHeartbeats 4000000 in
theorem lc_meanUnsaid {p : Program} {l : Launch} {e : Env} {s : State} {m : MethodId} {args : Array Value} {below : List Frame} {meth : Method} {c : Code} {D : va_G} {cI cJ : ClassId} {sb LN : Nat} {xs : Nat → Int32} {H : Heap} {locs : List Loc} {cells slots : Nat} {Q : State → Prop} {ls : Array Slot} (E9 : lawE p l s m args c D cI cJ sb LN xs) (x0 : Nat) (a b : Nat → Nat) (f f2 : Nat → Int32) (r r2 : Nat → Nat → Int32) (q : Nat) (v : Nat → Int64) (mb : Nat → Nat) (g nw kp : Nat → Int32) (i : Nat) (hi : i + 2 < LN) (hcc : cells + 1 ≤ room_1.cells) (hss : slots + 11 ≤ room_1.slots) (hl : lv_has ls 9 [(4, .int (nI i)), (3, .ref q), (2, .ref (mb 0)), (1, .ref x0), (0, .ref sb)]) (hP : va_P D vwCl (XO x0 a b ++ (DC cI a f r ++ (DC cI b f2 r2 ++ (OUT cJ q v ++ MC cI mb g nw kp)))) H) (hD : va_D (lwA s) (XO x0 a b ++ (DC cI a f r ++ (DC cI b f2 r2 ++ (OUT cJ q v ++ MC cI mb g nw kp))))) (hS : va_S (lwA s) s.heap H locs) (gg : Nat) (hg : f 0 = nI gg) (hg2 : gg ≤ 10) (hg0 : 0 < gg) (hnn : vf_n64 (FP.ddiv (FP.i2d (dSum (r 3) gg)) (FP.i2d (f 0)))) (hans : FP.ddiv (FP.i2d (mSum nw gg - nw 4)) (FP.i2d (g 1)) = FP.ddiv (FP.i2d (dSum (r 3) gg)) (FP.i2d (f 0))) (hgm : g 1 = nI gg) (hnnm : vf_n64 (FP.ddiv (FP.i2d (mSum nw gg - nw 4)) (FP.i2d (g 1))))
    (kk : ∀ (f9 : Nat → Int32) (r9 : Nat → Nat → Int32) (v9 : Nat → Int64) (g9 kp9 : Nat → Int32) (H1 : Heap) (locs1 : List Loc) (ls1 : Array Slot), g9 1 = g 1 → g9 2 = g 2 → va_P D vwCl (XO x0 a b ++ (DC cI a f r ++ (DC cI b f9 r9 ++ (OUT cJ q v9 ++ MC cI mb g9 nw kp9)))) H1 → va_D (lwA s) (XO x0 a b ++ (DC cI a f r ++ (DC cI b f9 r9 ++ (OUT cJ q v9 ++ MC cI mb g9 nw kp9)))) → va_S (lwA s) s.heap H1 locs1 → lv_has ls1 9 [(4, .int (nI i)), (3, .ref q), (2, .ref (mb 0)), (1, .ref x0), (0, .ref sb)] → W p l e room_1 s m args below meth c H1 locs1 (cells + 1) (slots + 11) Q (F0 m 1548 ls1 [])) : W p l e room_1 s m args below meth c H locs cells slots Q (F0 m 1493 ls []) := by
  obtain ⟨⟨hx, hb, hml, hown, hts⟩, hN, hE, hZ, hK, hX, hbl, hlt, hLN⟩ := E9
  have hA : ∀ q : Nat, s.heap.size ≤ q → lwA s q := fun _ h => h
  have hK1 : va_K D vwCl [(cI, .int)] s := hK.sub [0] rfl
  refine lv_aload_n hx hb dL_law_1493 rfl (lv_at hl 3 rfl) ?_
  refine wCVd (pre := ([] : va_W)) (Wc := XO x0 a b ++ (DC cI a f r ++ DC cI b f2 r2)) (suf := OUT cJ q v ++ MC cI mb g nw kp) (As := []) (rest := []) ⟨hx, hb, hml, hown, hts⟩ (mX1_meanUnsaid l D cI x0 a b f f2 r r2 gg _ hg hg2 hg0 hnn) hN hA hK1 hS hP hD rfl 0 (r := (RX1, TX1, 2)) rfl rfl (cwV 0 hts gL_law_X1_meanUnsaid rfl rfl rfl (by decide +kernel) ⟨Nat.le_of_ble_eq_true rfl, Nat.le_of_ble_eq_true rfl⟩) rfl hl.1 rfl (Nat.le_of_ble_eq_true rfl) dL_law_1494 ⟨by omega, by omega⟩ (fun r_1494 u_1494 H locs hw hP hD hS => ?_)
  have hw : r_1494 = FP.ddiv (FP.i2d (dSum (r 3) gg)) (FP.i2d (f 0)) := hw
  subst hw
  have hP : va_P D vwCl (XO x0 a b ++ (DC cI a f r ++ (DC cI b f2 r2 ++ (OUT cJ q v ++ MC cI mb g nw kp)))) H := hP
  have hD : va_D (lwA s) (XO x0 a b ++ (DC cI a f r ++ (DC cI b f2 r2 ++ (OUT cJ q v ++ MC cI mb g nw kp)))) := hD
  refine lv_dstore (lv' := [(5, .double (FP.ddiv (FP.i2d (dSum (r 3) gg)) (FP.i2d (f 0)))), (4, .int (nI i)), (3, .ref q), (2, .ref (mb 0)), (1, .ref x0), (0, .ref sb)]) hx hb dL_law_1497 hl (by decide) rfl (fun ls hl => ?_)
  refine lv_aload_n hx hb dL_law_1499 rfl (lv_at hl 3 rfl) ?_
  refine wCVd (pre := XO x0 a b ++ (DC cI a f r ++ (DC cI b f2 r2 ++ OUT cJ q v))) (Wc := MC cI mb g nw kp) (suf := ([] : va_W)) (As := []) (rest := []) ⟨hx, hb, hml, hown, hts⟩ (mX2_meanUnsaid l D cI mb g nw kp gg _ hgm hg2 hg0 hnnm) hN hA hK1 hS hP hD rfl 0 (r := (RX2, TX2, 7)) rfl rfl (cwV 0 hts gL_law_X2_meanUnsaid rfl rfl rfl (by decide +kernel) ⟨Nat.le_of_ble_eq_true rfl, Nat.le_of_ble_eq_true rfl⟩) rfl hl.1 rfl (Nat.le_of_ble_eq_true rfl) dL_law_1500 ⟨by omega, by omega⟩ (fun r_1500 u_1500 H locs hw hP hD hS => ?_)
  have hw : r_1500 = FP.ddiv (FP.i2d (mSum nw gg - nw 4)) (FP.i2d (g 1)) := hw
  subst hw
  have hP : va_P D vwCl (XO x0 a b ++ (DC cI a f r ++ (DC cI b f2 r2 ++ (OUT cJ q v ++ MC cI mb (upd g 0 0) nw kp)))) H := hP
  have hD : va_D (lwA s) (XO x0 a b ++ (DC cI a f r ++ (DC cI b f2 r2 ++ (OUT cJ q v ++ MC cI mb (upd g 0 0) nw kp)))) := hD
  refine wTopd (z := (FP.ddiv (FP.i2d (dSum (r 3) gg)) (FP.i2d (f 0)))) (hans) ?_
  refine lv_dstore (lv' := [(7, .double (FP.ddiv (FP.i2d (dSum (r 3) gg)) (FP.i2d (f 0)))), (5, .double (FP.ddiv (FP.i2d (dSum (r 3) gg)) (FP.i2d (f 0)))), (4, .int (nI i)), (3, .ref q), (2, .ref (mb 0)), (1, .ref x0), (0, .ref sb)]) hx hb dL_law_1503 hl (by decide) rfl (fun ls hl => ?_)
  refine lv_dload hx hb dL_law_1505 (lv_at hl 1 rfl) ?_
  refine lv_dload hx hb dL_law_1507 (lv_at hl 0 rfl) ?_
  refine lv_dcmp hx hb dL_law_1509 ?_
  refine wTop (z := 0) (dcmp_self' hnn) ?_
  refine lv_if_eq (tgt := 1531) hx hb dL_law_1510 (by decide) (fun c_1510 => ?_) (fun h9 => absurd (by decide) h9)
  refine lv_goto (tgt := 1548) hx hb dL_law_1531 (by decide) ?_
  exact W.widen (k := cells + 1) (n := slots + 11) (by omega) (by omega) (kk _ _ _ _ _ _ _ _ (by simp (disch := omega) only [mUp, mUs]) (by simp (disch := omega) only [mUp, mUs]) hP hD hS (lv_sub hl [2, 3, 4, 5, 6] rfl))
set_option maxRecDepth 100000 in
set_option maxHeartbeats 4000000 in
theorem lc_digest {p : Program} {l : Launch} {e : Env} {s : State} {m : MethodId} {args : Array Value} {below : List Frame} {meth : Method} {c : Code} {D : va_G} {cI cJ : ClassId} {sb LN : Nat} {xs : Nat → Int32} {H : Heap} {locs : List Loc} {cells slots : Nat} {Q : State → Prop} {ls : Array Slot} (E9 : lawE p l s m args c D cI cJ sb LN xs) (x0 : Nat) (a b : Nat → Nat) (f f2 : Nat → Int32) (r r2 : Nat → Nat → Int32) (q : Nat) (v : Nat → Int64) (mb : Nat → Nat) (g nw kp : Nat → Int32) (i : Nat) (hi : i + 2 < LN) (hcc : cells + 1 ≤ room_1.cells) (hss : slots + 11 ≤ room_1.slots) (hl : lv_has ls 9 [(4, .int (nI i)), (3, .ref q), (2, .ref (mb 0)), (1, .ref x0), (0, .ref sb)]) (hP : va_P D vwCl (XO x0 a b ++ (DC cI a f r ++ (DC cI b f2 r2 ++ (OUT cJ q v ++ MC cI mb g nw kp)))) H) (hD : va_D (lwA s) (XO x0 a b ++ (DC cI a f r ++ (DC cI b f2 r2 ++ (OUT cJ q v ++ MC cI mb g nw kp))))) (hS : va_S (lwA s) s.heap H locs) (gg : Nat) (hg : f 0 = nI gg) (hg2 : gg ≤ 10) (hg0 : 0 < gg) (hans : mGs nw gg (lAcc (mHead (g 1) (g 2) nw gg) 11) gg = dGs r gg (dHead f (dRate (f 0) (f 6) (r 3) gg)) gg) (hgm : g 1 = nI gg)
    (kk : ∀ (f9 : Nat → Int32) (r9 : Nat → Nat → Int32) (v9 : Nat → Int64) (g9 kp9 : Nat → Int32) (H1 : Heap) (locs1 : List Loc) (ls1 : Array Slot), g9 1 = g 1 → g9 2 = g 2 → va_P D vwCl (XO x0 a b ++ (DC cI a f r ++ (DC cI b f9 r9 ++ (OUT cJ q v9 ++ MC cI mb g9 nw kp9)))) H1 → va_D (lwA s) (XO x0 a b ++ (DC cI a f r ++ (DC cI b f9 r9 ++ (OUT cJ q v9 ++ MC cI mb g9 nw kp9)))) → va_S (lwA s) s.heap H1 locs1 → lv_has ls1 9 [(4, .int (nI i)), (3, .ref q), (2, .ref (mb 0)), (1, .ref x0), (0, .ref sb)] → W p l e room_1 s m args below meth c H1 locs1 (cells + 1) (slots + 11) Q (F0 m 1548 ls1 [])) : W p l e room_1 s m args below meth c H locs cells slots Q (F0 m 1534 ls []) := by
  obtain ⟨⟨hx, hb, hml, hown, hts⟩, hN, hE, hZ, hK, hX, hbl, hlt, hLN⟩ := E9
  have hA : ∀ q : Nat, s.heap.size ≤ q → lwA s q := fun _ h => h
  have hK1 : va_K D vwCl [(cI, .int)] s := hK.sub [0] rfl
  refine lv_aload_n hx hb dL_law_1534 rfl (lv_at hl 3 rfl) ?_
  refine wCVl (pre := ([] : va_W)) (Wc := XO x0 a b ++ (DC cI a f r ++ DC cI b f2 r2)) (suf := OUT cJ q v ++ MC cI mb g nw kp) (As := []) (rest := []) ⟨hx, hb, hml, hown, hts⟩ (mX1_digest l D cI x0 a b f f2 r r2 gg _ hg hg2 hg0) hN hA hK1 hS hP hD rfl 0 (r := (RX1, TX1, 2)) rfl rfl (cwV 0 hts gL_law_X1_digest rfl rfl rfl (by decide +kernel) ⟨Nat.le_of_ble_eq_true rfl, Nat.le_of_ble_eq_true rfl⟩) rfl hl.1 rfl (Nat.le_of_ble_eq_true rfl) dL_law_1535 ⟨by omega, by omega⟩ (fun r_1535 u_1535 H locs hw hP hD hS => ?_)
  have hw : r_1535 = dGs r gg (dHead f (dRate (f 0) (f 6) (r 3) gg)) gg := hw
  subst hw
  have hP : va_P D vwCl (XO x0 a b ++ (DC cI a f r ++ (DC cI b f2 r2 ++ (OUT cJ q v ++ MC cI mb g nw kp)))) H := hP
  have hD : va_D (lwA s) (XO x0 a b ++ (DC cI a f r ++ (DC cI b f2 r2 ++ (OUT cJ q v ++ MC cI mb g nw kp)))) := hD
  refine lv_aload_n hx hb dL_law_1538 rfl (lv_at hl 2 rfl) ?_
  refine wCVlm (pre := XO x0 a b ++ (DC cI a f r ++ (DC cI b f2 r2 ++ OUT cJ q v))) (Wc := MC cI mb g nw kp) (suf := ([] : va_W)) (As := []) (rest := [.long (dGs r gg (dHead f (dRate (f 0) (f 6) (r 3) gg)) gg)]) ⟨hx, hb, hml, hown, hts⟩ (mX2_digest l D cI mb g nw kp gg _ hgm hg2 hg0) hN hA hK1 hS hP hD rfl 0 (r := (RX2, TX2, 7)) rfl rfl (cwV 0 hts gL_law_X2_digest rfl rfl rfl (by decide +kernel) ⟨Nat.le_of_ble_eq_true rfl, Nat.le_of_ble_eq_true rfl⟩) rfl hl.1 rfl (Nat.le_of_ble_eq_true rfl) dL_law_1539 ⟨by omega, by omega⟩ (fun r_1539 u_1539 H locs hw hP hD hS => ?_)
  have hw : r_1539 = mGs nw gg (lAcc (mHead (g 1) (g 2) nw gg) 11) gg := hw
  subst hw
  have hP : va_P D vwCl (XO x0 a b ++ (DC cI a f r ++ (DC cI b f2 r2 ++ (OUT cJ q v ++ MC cI mb (upd g 0 0) nw kp)))) H := hP
  have hD : va_D (lwA s) (XO x0 a b ++ (DC cI a f r ++ (DC cI b f2 r2 ++ (OUT cJ q v ++ MC cI mb (upd g 0 0) nw kp)))) := hD
  refine wTopl (z := (dGs r gg (dHead f (dRate (f 0) (f 6) (r 3) gg)) gg)) (hans) ?_
  refine W.lcmp hx hb dL_law_1542 ?_
  refine wTop (z := 0) (lcmp_self _) ?_
  refine lv_if_eq (tgt := 1548) hx hb dL_law_1543 (by decide) (fun c_1543 => ?_) (fun h9 => absurd (by decide) h9)
  exact W.widen (k := cells + 1) (n := slots + 11) (by omega) (by omega) (kk _ _ _ _ _ _ _ _ (by simp (disch := omega) only [mUp, mUs]) (by simp (disch := omega) only [mUp, mUs]) hP hD hS (lv_sub hl [0, 1, 2, 3, 4] rfl))
