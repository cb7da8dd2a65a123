set_option maxRecDepth 100000 in
set_option maxHeartbeats 4000000 in
theorem lc_newDinner {p : Program} {l : Launch} {e : Env} {s : State} {m : MethodId} {args : Array Value} {below : List Frame} {meth : Method} {c : Code} {D : va_G} {cI cJ : ClassId} {sb LN : Nat} {xs : Nat → Int32} {H : Heap} {locs : List Loc} {cells slots : Nat} {Q : State → Prop} {ls : Array Slot} (E9 : lawE p l s m args c D cI cJ sb LN xs) (x0 : Nat) (a b : Nat → Nat) (f f2 : Nat → Int32) (r r2 : Nat → Nat → Int32) (q : Nat) (v : Nat → Int64) (mb : Nat → Nat) (g nw kp : Nat → Int32) (i : Nat) (hi : i + 2 < LN) (hcc : cells + 1 ≤ room_1.cells) (hss : slots + 11 ≤ room_1.slots) (hl : lv_has ls 9 [(4, .int (nI i)), (3, .ref q), (2, .ref (mb 0)), (1, .ref x0), (0, .ref sb)]) (hP : va_P D vwCl (XO x0 a b ++ (DC cI a f r ++ (DC cI b f2 r2 ++ (OUT cJ q v ++ MC cI mb g nw kp)))) H) (hD : va_D (lwA s) (XO x0 a b ++ (DC cI a f r ++ (DC cI b f2 r2 ++ (OUT cJ q v ++ MC cI mb g nw kp))))) (hS : va_S (lwA s) s.heap H locs) (gg : Nat) (w : Nat) (hx1 : xs (i + 1) = nI w) (hg : f 0 = nI gg) (hg2 : gg ≤ 10) (hg0 : 0 < gg) (w1 : 2 ≤ w) (w2 : w ≤ 10) (hans : (mRate (g 1) nw gg : Int32) = dRate (f 0) (f 6) (r 3) gg) (hgm : g 1 = nI gg)
    (kk : ∀ (f9 : Nat → Int32) (r9 : Nat → Nat → Int32) (v9 : Nat → Int64) (g9 kp9 : Nat → Int32) (H1 : Heap) (locs1 : List Loc) (ls1 : Array Slot), g9 1 = nI w → g9 2 = g 2 → va_P D vwCl (XO x0 a b ++ (DC cI a (dBeginF f (nI w)) (dBeginR r) ++ (DC cI b f9 r9 ++ (OUT cJ q v9 ++ MC cI mb g9 (upd (fun _ => 0) 1 (-1)) kp9)))) H1 → va_D (lwA s) (XO x0 a b ++ (DC cI a (dBeginF f (nI w)) (dBeginR r) ++ (DC cI b f9 r9 ++ (OUT cJ q v9 ++ MC cI mb g9 (upd (fun _ => 0) 1 (-1)) kp9)))) → va_S (lwA s) s.heap H1 locs1 → lv_has ls1 9 [(4, .int (nI i)), (3, .ref q), (2, .ref (mb 0)), (1, .ref x0), (0, .ref sb)] → W p l e room_1 s m args below meth c H1 locs1 (cells + 1) (slots + 11) Q (F0 m 1548 ls1 [])) : W p l e room_1 s m args below meth c H locs cells slots Q (F0 m 188 ls []) := by
  obtain ⟨⟨hx, hb, hml, hown, hts⟩, hN, hE, hZ, hK, hX, hbl, hlt, hLN⟩ := E9
  have hA : ∀ q : Nat, s.heap.size ≤ q → lwA s q := fun _ h => h
  have hK1 : va_K D vwCl [(cI, .int)] s := hK.sub [0] rfl
  refine lv_aload_n hx hb dL_law_188 rfl (lv_at hl 3 rfl) ?_
  refine lv_aload_n hx hb dL_law_189 rfl (lv_at hl 4 rfl) ?_
  refine lv_iload hx hb dL_law_190 (lv_at hl 0 rfl) ?_
  refine lv_iconst (v := 1) hx hb dL_law_192 (by decide) ?_
  refine lv_iadd hx hb dL_law_193 ?_
  refine wTop (z := nI (i + 1)) (nI_add i 1) ?_
  refine wSld hx hb hX hbl hS (i + 1) (by omega) hLN hx1 dL_law_194 ?_
  refine lv_aload_n hx hb dL_law_195 rfl (lv_at hl 1 rfl) ?_
  refine wLW (pre := ([] : va_W)) (Wc := XO x0 a b ++ (DC cI a f r ++ (DC cI b f2 r2 ++ OUT cJ q v))) (suf := MC cI mb g nw kp) (As := [.ref x0, .int (nI w), .ref q]) (rest := []) ⟨hx, hb, hml, hown, hts⟩ (mL_newDinner l D cI cJ x0 a b f f2 r r2 q v gg w _ hg hg2 hg0 w1 w2) hN hE hZ hA hK hS hP hD rfl (vx_cwSW 3 hts gL_law_L_newDinner rfl rfl rfl (by decide +kernel) ⟨Nat.le_of_ble_eq_true rfl, Nat.le_of_ble_eq_true rfl⟩) rfl hl.1 rfl (Nat.le_of_ble_eq_true rfl) dL_law_196 ⟨by omega, by omega⟩ (fun r_196 u_196 H locs hw hP hD hS => ?_)
  have hw : r_196 = 0 := hw
  subst hw
  have hP : va_P D vwCl (XO x0 a b ++ (DC cI a (dBeginF f (nI w)) (dBeginR r) ++ (DC cI b f2 r2 ++ (OUT cJ q (vp_updL v 0 ((dRate (f 0) (f 6) (r 3) gg).toInt64)) ++ MC cI mb g nw kp)))) H := hP
  have hD : va_D (lwA s) (XO x0 a b ++ (DC cI a (dBeginF f (nI w)) (dBeginR r) ++ (DC cI b f2 r2 ++ (OUT cJ q (vp_updL v 0 ((dRate (f 0) (f 6) (r 3) gg).toInt64)) ++ MC cI mb g nw kp)))) := hD
  refine lv_istore (lv' := [(5, .int 0), (4, .int (nI i)), (3, .ref q), (2, .ref (mb 0)), (1, .ref x0), (0, .ref sb)]) hx hb dL_law_199 hl (by decide) rfl (fun ls hl => ?_)
  refine lv_aload_n hx hb dL_law_201 rfl (lv_at hl 3 rfl) ?_
  refine lv_aload_n hx hb dL_law_202 rfl (lv_at hl 5 rfl) ?_
  refine lv_iload hx hb dL_law_203 (lv_at hl 1 rfl) ?_
  refine lv_iconst (v := 1) hx hb dL_law_205 (by decide) ?_
  refine lv_iadd hx hb dL_law_206 ?_
  refine wTop (z := nI (i + 1)) (nI_add i 1) ?_
  refine wSld hx hb hX hbl hS (i + 1) (by omega) hLN hx1 dL_law_207 ?_
  refine wCVi (pre := XO x0 a b ++ (DC cI a (dBeginF f (nI w)) (dBeginR r) ++ (DC cI b f2 r2 ++ OUT cJ q (vp_updL v 0 ((dRate (f 0) (f 6) (r 3) gg).toInt64))))) (Wc := MC cI mb g nw kp) (suf := ([] : va_W)) (As := [.int (nI w)]) (rest := []) ⟨hx, hb, hml, hown, hts⟩ (mX2_newDinner l D cI mb g nw kp gg w _ hgm hg2 hg0 w1 w2) hN hA hK1 hS hP hD rfl 0 (r := (RX2, TX2, 7)) rfl rfl (cwV 1 hts gL_law_X2_newDinner rfl rfl rfl (by decide +kernel) ⟨Nat.le_of_ble_eq_true rfl, Nat.le_of_ble_eq_true rfl⟩) rfl hl.1 rfl (Nat.le_of_ble_eq_true rfl) dL_law_208 ⟨by omega, by omega⟩ (fun r_208 u_208 H locs hw hP hD hS => ?_)
  have hw : r_208 = mRate (g 1) nw gg := hw
  subst hw
  have hP : va_P D vwCl (XO x0 a b ++ (DC cI a (dBeginF f (nI w)) (dBeginR r) ++ (DC cI b f2 r2 ++ (OUT cJ q (vp_updL v 0 ((dRate (f 0) (f 6) (r 3) gg).toInt64)) ++ MC cI mb (upd (upd g 0 0) 1 (nI w)) (upd (fun _ => 0) 1 (-1)) kp)))) H := hP
  have hD : va_D (lwA s) (XO x0 a b ++ (DC cI a (dBeginF f (nI w)) (dBeginR r) ++ (DC cI b f2 r2 ++ (OUT cJ q (vp_updL v 0 ((dRate (f 0) (f 6) (r 3) gg).toInt64)) ++ MC cI mb (upd (upd g 0 0) 1 (nI w)) (upd (fun _ => 0) 1 (-1)) kp)))) := hD
  refine wTop (z := (dRate (f 0) (f 6) (r 3) gg)) (hans) ?_
  refine lv_istore (lv' := [(6, .int (dRate (f 0) (f 6) (r 3) gg)), (5, .int 0), (4, .int (nI i)), (3, .ref q), (2, .ref (mb 0)), (1, .ref x0), (0, .ref sb)]) hx hb dL_law_211 hl (by decide) rfl (fun ls hl => ?_)
  refine lv_aload_n hx hb dL_law_213 rfl (lv_at hl 4 rfl) ?_
  refine wCVi (pre := XO x0 a b ++ (DC cI a (dBeginF f (nI w)) (dBeginR r) ++ (DC cI b f2 r2 ++ OUT cJ q (vp_updL v 0 ((dRate (f 0) (f 6) (r 3) gg).toInt64))))) (Wc := MC cI mb (upd (upd g 0 0) 1 (nI w)) (upd (fun _ => 0) 1 (-1)) kp) (suf := ([] : va_W)) (As := []) (rest := []) ⟨hx, hb, hml, hown, hts⟩ (mX2_thrown l D cI mb (upd (upd g 0 0) 1 (nI w)) (upd (fun _ => 0) 1 (-1)) kp _ ) hN hA hK1 hS hP hD rfl 0 (r := (RX2, TX2, 7)) rfl rfl (cwV 0 hts gL_law_X2_thrown rfl rfl rfl (by decide +kernel) ⟨Nat.le_of_ble_eq_true rfl, Nat.le_of_ble_eq_true rfl⟩) rfl hl.1 rfl (Nat.le_of_ble_eq_true rfl) dL_law_214 ⟨by omega, by omega⟩ (fun r_214 u_214 H locs hw hP hD hS => ?_)
  have hw : r_214 = (upd (upd g 0 0) 1 (nI w)) 0 := hw
  subst hw
  have hP : va_P D vwCl (XO x0 a b ++ (DC cI a (dBeginF f (nI w)) (dBeginR r) ++ (DC cI b f2 r2 ++ (OUT cJ q (vp_updL v 0 ((dRate (f 0) (f 6) (r 3) gg).toInt64)) ++ MC cI mb (upd (upd g 0 0) 1 (nI w)) (upd (fun _ => 0) 1 (-1)) kp)))) H := hP
  have hD : va_D (lwA s) (XO x0 a b ++ (DC cI a (dBeginF f (nI w)) (dBeginR r) ++ (DC cI b f2 r2 ++ (OUT cJ q (vp_updL v 0 ((dRate (f 0) (f 6) (r 3) gg).toInt64)) ++ MC cI mb (upd (upd g 0 0) 1 (nI w)) (upd (fun _ => 0) 1 (-1)) kp)))) := hD
  refine wTop (z := 0) (by simp (disch := omega) only [mUp, mUs]) ?_
  refine lv_iload hx hb dL_law_217 (lv_at hl 1 rfl) ?_
  refine lv_icmp_eq (tgt := 224) hx hb dL_law_219 (by decide) (fun c_219 => ?_) (fun h9 => absurd (by decide) h9)
  refine lv_iload hx hb dL_law_224 (lv_at hl 1 rfl) ?_
  refine lv_if_ne (tgt := 241) hx hb dL_law_226 (by decide) (fun h9 => absurd (by decide) h9) (fun c_226 => ?_)
  refine lv_aload_n hx hb dL_law_229 rfl (lv_at hl 3 rfl) ?_
  refine lv_iconst (v := 0) hx hb dL_law_230 (by decide) ?_
  refine wLald hx hb hK hP 17 1 rfl rfl (z := ((dRate (f 0) (f 6) (r 3) gg).toInt64)) (pk_uLs) dL_law_231 ?_
  refine lv_iload hx hb dL_law_232 (lv_at hl 0 rfl) ?_
  refine lv_i2l hx hb dL_law_234 rfl ?_
  refine W.lcmp hx hb dL_law_235 ?_
  refine wTop (z := 0) (lcmp_self _) ?_
  refine lv_if_eq (tgt := 241) hx hb dL_law_236 (by decide) (fun c_236 => ?_) (fun h9 => absurd (by decide) h9)
  refine lv_goto (tgt := 1548) hx hb dL_law_241 (by decide) ?_
  exact W.widen (k := cells + 1) (n := slots + 11) (by omega) (by omega) (kk _ _ _ _ _ _ _ _ (by simp (disch := omega) only [mUp, mUs]) (by simp (disch := omega) only [mUp, mUs]) hP hD hS (lv_sub hl [2, 3, 4, 5, 6] rfl))
set_option maxRecDepth 100000 in
set_option maxHeartbeats 4000000 in
theorem lc_newDinner1 {p : Program} {l : Launch} {e : Env} {s : State} {m : MethodId} {args : Array Value} {below : List Frame} {meth : Method} {c : Code} {D : va_G} {cI cJ : ClassId} {sb LN : Nat} {xs : Nat → Int32} {H : Heap} {locs : List Loc} {cells slots : Nat} {Q : State → Prop} {ls : Array Slot} (E9 : lawE p l s m args c D cI cJ sb LN xs) (x0 : Nat) (a b : Nat → Nat) (f f2 : Nat → Int32) (r r2 : Nat → Nat → Int32) (q : Nat) (v : Nat → Int64) (mb : Nat → Nat) (g nw kp : Nat → Int32) (i : Nat) (hi : i + 2 < LN) (hcc : cells + 1 ≤ room_1.cells) (hss : slots + 11 ≤ room_1.slots) (hl : lv_has ls 9 [(4, .int (nI i)), (3, .ref q), (2, .ref (mb 0)), (1, .ref x0), (0, .ref sb)]) (hP : va_P D vwCl (XO x0 a b ++ (DC cI a f r ++ (DC cI b f2 r2 ++ (OUT cJ q v ++ MC cI mb g nw kp)))) H) (hD : va_D (lwA s) (XO x0 a b ++ (DC cI a f r ++ (DC cI b f2 r2 ++ (OUT cJ q v ++ MC cI mb g nw kp))))) (hS : va_S (lwA s) s.heap H locs) (w : Int32) (hx1 : xs (i + 1) = w) (hbad : w < 2 ∨ 10 < w) (hbadm : ¬ (2 ≤ w ∧ w ≤ 10))
    (kk : ∀ (f9 : Nat → Int32) (r9 : Nat → Nat → Int32) (v9 : Nat → Int64) (g9 kp9 : Nat → Int32) (H1 : Heap) (locs1 : List Loc) (ls1 : Array Slot), g9 1 = g 1 → g9 2 = g 2 → va_P D vwCl (XO x0 a b ++ (DC cI a f r ++ (DC cI b f9 r9 ++ (OUT cJ q v9 ++ MC cI mb g9 nw kp9)))) H1 → va_D (lwA s) (XO x0 a b ++ (DC cI a f r ++ (DC cI b f9 r9 ++ (OUT cJ q v9 ++ MC cI mb g9 nw kp9)))) → va_S (lwA s) s.heap H1 locs1 → lv_has ls1 9 [(4, .int (nI i)), (3, .ref q), (2, .ref (mb 0)), (1, .ref x0), (0, .ref sb)] → W p l e room_1 s m args below meth c H1 locs1 (cells + 1) (slots + 11) Q (F0 m 1548 ls1 [])) : W p l e room_1 s m args below meth c H locs cells slots Q (F0 m 188 ls []) := by
  obtain ⟨⟨hx, hb, hml, hown, hts⟩, hN, hE, hZ, hK, hX, hbl, hlt, hLN⟩ := E9
  have hA : ∀ q : Nat, s.heap.size ≤ q → lwA s q := fun _ h => h
  have hK1 : va_K D vwCl [(cI, .int)] s := hK.sub [0] rfl
  refine lv_aload_n hx hb dL_law_188 rfl (lv_at hl 3 rfl) ?_
  refine lv_aload_n hx hb dL_law_189 rfl (lv_at hl 4 rfl) ?_
  refine lv_iload hx hb dL_law_190 (lv_at hl 0 rfl) ?_
  refine lv_iconst (v := 1) hx hb dL_law_192 (by decide) ?_
  refine lv_iadd hx hb dL_law_193 ?_
  refine wTop (z := nI (i + 1)) (nI_add i 1) ?_
  refine wSld hx hb hX hbl hS (i + 1) (by omega) hLN hx1 dL_law_194 ?_
  refine lv_aload_n hx hb dL_law_195 rfl (lv_at hl 1 rfl) ?_
  refine wLW (pre := ([] : va_W)) (Wc := XO x0 a b ++ (DC cI a f r ++ (DC cI b f2 r2 ++ OUT cJ q v))) (suf := MC cI mb g nw kp) (As := [.ref x0, .int w, .ref q]) (rest := []) ⟨hx, hb, hml, hown, hts⟩ (mL_newDinner1 l D cI cJ x0 a b f f2 r r2 q v w _ hlt hbad) hN hE hZ hA hK hS hP hD rfl (vx_cwSW 3 hts gL_law_L_newDinner rfl rfl rfl (by decide +kernel) ⟨Nat.le_of_ble_eq_true rfl, Nat.le_of_ble_eq_true rfl⟩) rfl hl.1 rfl (Nat.le_of_ble_eq_true rfl) dL_law_196 ⟨by omega, by omega⟩ (fun r_196 u_196 H locs hw hP hD hS => ?_)
  have hw : r_196 = 1 := hw
  subst hw
  have hP : va_P D vwCl (XO x0 a b ++ (DC cI a f r ++ (DC cI b f2 r2 ++ (OUT cJ q v ++ MC cI mb g nw kp)))) H := hP
  have hD : va_D (lwA s) (XO x0 a b ++ (DC cI a f r ++ (DC cI b f2 r2 ++ (OUT cJ q v ++ MC cI mb g nw kp)))) := hD
  refine lv_istore (lv' := [(5, .int 1), (4, .int (nI i)), (3, .ref q), (2, .ref (mb 0)), (1, .ref x0), (0, .ref sb)]) hx hb dL_law_199 hl (by decide) rfl (fun ls hl => ?_)
  refine lv_aload_n hx hb dL_law_201 rfl (lv_at hl 3 rfl) ?_
  refine lv_aload_n hx hb dL_law_202 rfl (lv_at hl 5 rfl) ?_
  refine lv_iload hx hb dL_law_203 (lv_at hl 1 rfl) ?_
  refine lv_iconst (v := 1) hx hb dL_law_205 (by decide) ?_
  refine lv_iadd hx hb dL_law_206 ?_
  refine wTop (z := nI (i + 1)) (nI_add i 1) ?_
  refine wSld hx hb hX hbl hS (i + 1) (by omega) hLN hx1 dL_law_207 ?_
  refine wCVi (pre := XO x0 a b ++ (DC cI a f r ++ (DC cI b f2 r2 ++ OUT cJ q v))) (Wc := MC cI mb g nw kp) (suf := ([] : va_W)) (As := [.int w]) (rest := []) ⟨hx, hb, hml, hown, hts⟩ (mX2_newDinner1 l D cI mb g nw kp w _ hbadm) hN hA hK1 hS hP hD rfl 0 (r := (RX2, TX2, 7)) rfl rfl (cwV 1 hts gL_law_X2_newDinner rfl rfl rfl (by decide +kernel) ⟨Nat.le_of_ble_eq_true rfl, Nat.le_of_ble_eq_true rfl⟩) rfl hl.1 rfl (Nat.le_of_ble_eq_true rfl) dL_law_208 ⟨by omega, by omega⟩ (fun r_208 u_208 H locs hw hP hD hS => ?_)
  have hw : r_208 = 0 := hw
  subst hw
  have hP : va_P D vwCl (XO x0 a b ++ (DC cI a f r ++ (DC cI b f2 r2 ++ (OUT cJ q v ++ MC cI mb (upd g 0 1) nw kp)))) H := hP
  have hD : va_D (lwA s) (XO x0 a b ++ (DC cI a f r ++ (DC cI b f2 r2 ++ (OUT cJ q v ++ MC cI mb (upd g 0 1) nw kp)))) := hD
  refine lv_istore (lv' := [(6, .int 0), (5, .int 1), (4, .int (nI i)), (3, .ref q), (2, .ref (mb 0)), (1, .ref x0), (0, .ref sb)]) hx hb dL_law_211 hl (by decide) rfl (fun ls hl => ?_)
  refine lv_aload_n hx hb dL_law_213 rfl (lv_at hl 4 rfl) ?_
  refine wCVi (pre := XO x0 a b ++ (DC cI a f r ++ (DC cI b f2 r2 ++ OUT cJ q v))) (Wc := MC cI mb (upd g 0 1) nw kp) (suf := ([] : va_W)) (As := []) (rest := []) ⟨hx, hb, hml, hown, hts⟩ (mX2_thrown l D cI mb (upd g 0 1) nw kp _ ) hN hA hK1 hS hP hD rfl 0 (r := (RX2, TX2, 7)) rfl rfl (cwV 0 hts gL_law_X2_thrown rfl rfl rfl (by decide +kernel) ⟨Nat.le_of_ble_eq_true rfl, Nat.le_of_ble_eq_true rfl⟩) rfl hl.1 rfl (Nat.le_of_ble_eq_true rfl) dL_law_214 ⟨by omega, by omega⟩ (fun r_214 u_214 H locs hw hP hD hS => ?_)
  have hw : r_214 = (upd g 0 1) 0 := hw
  subst hw
  have hP : va_P D vwCl (XO x0 a b ++ (DC cI a f r ++ (DC cI b f2 r2 ++ (OUT cJ q v ++ MC cI mb (upd g 0 1) nw kp)))) H := hP
  have hD : va_D (lwA s) (XO x0 a b ++ (DC cI a f r ++ (DC cI b f2 r2 ++ (OUT cJ q v ++ MC cI mb (upd g 0 1) nw kp)))) := hD
  refine wTop (z := 1) (by simp (disch := omega) only [mUp, mUs]) ?_
  refine lv_iload hx hb dL_law_217 (lv_at hl 1 rfl) ?_
  refine lv_icmp_eq (tgt := 224) hx hb dL_law_219 (by decide) (fun c_219 => ?_) (fun h9 => absurd (by decide) h9)
  refine lv_iload hx hb dL_law_224 (lv_at hl 1 rfl) ?_
  refine lv_if_ne (tgt := 241) hx hb dL_law_226 (by decide) (fun c_226 => ?_) (fun h9 => absurd h9 (by decide))
  refine lv_goto (tgt := 1548) hx hb dL_law_241 (by decide) ?_
  exact W.widen (k := cells + 1) (n := slots + 11) (by omega) (by omega) (kk _ _ _ _ _ _ _ _ (by simp (disch := omega) only [mUp, mUs]) (by simp (disch := omega) only [mUp, mUs]) hP hD hS (lv_sub hl [2, 3, 4, 5, 6] rfl))
set_option maxRecDepth 100000 in
set_option maxHeartbeats 4000000 in
theorem lc_setLimit {p : Program} {l : Launch} {e : Env} {s : State} {m : MethodId} {args : Array Value} {below : List Frame} {meth : Method} {c : Code} {D : va_G} {cI cJ : ClassId} {sb LN : Nat} {xs : Nat → Int32} {H : Heap} {locs : List Loc} {cells slots : Nat} {Q : State → Prop} {ls : Array Slot} (E9 : lawE p l s m args c D cI cJ sb LN xs) (x0 : Nat) (a b : Nat → Nat) (f f2 : Nat → Int32) (r r2 : Nat → Nat → Int32) (q : Nat) (v : Nat → Int64) (mb : Nat → Nat) (g nw kp : Nat → Int32) (i : Nat) (hi : i + 2 < LN) (hcc : cells + 1 ≤ room_1.cells) (hss : slots + 11 ≤ room_1.slots) (hl : lv_has ls 9 [(4, .int (nI i)), (3, .ref q), (2, .ref (mb 0)), (1, .ref x0), (0, .ref sb)]) (hP : va_P D vwCl (XO x0 a b ++ (DC cI a f r ++ (DC cI b f2 r2 ++ (OUT cJ q v ++ MC cI mb g nw kp)))) H) (hD : va_D (lwA s) (XO x0 a b ++ (DC cI a f r ++ (DC cI b f2 r2 ++ (OUT cJ q v ++ MC cI mb g nw kp))))) (hS : va_S (lwA s) s.heap H locs) (w : Nat) (hx1 : xs (i + 1) = nI w) (w1 : 1 ≤ w) (w2 : w ≤ 30) (hans : (g 2 : Int32) = f 2)
    (kk : ∀ (f9 : Nat → Int32) (r9 : Nat → Nat → Int32) (v9 : Nat → Int64) (g9 kp9 : Nat → Int32) (H1 : Heap) (locs1 : List Loc) (ls1 : Array Slot), g9 1 = g 1 → g9 2 = nI w → va_P D vwCl (XO x0 a b ++ (DC cI a (upd f 2 (nI w)) r ++ (DC cI b f9 r9 ++ (OUT cJ q v9 ++ MC cI mb g9 nw kp9)))) H1 → va_D (lwA s) (XO x0 a b ++ (DC cI a (upd f 2 (nI w)) r ++ (DC cI b f9 r9 ++ (OUT cJ q v9 ++ MC cI mb g9 nw kp9)))) → va_S (lwA s) s.heap H1 locs1 → lv_has ls1 9 [(4, .int (nI i)), (3, .ref q), (2, .ref (mb 0)), (1, .ref x0), (0, .ref sb)] → W p l e room_1 s m args below meth c H1 locs1 (cells + 1) (slots + 11) Q (F0 m 1548 ls1 [])) : W p l e room_1 s m args below meth c H locs cells slots Q (F0 m 244 ls []) := by
  obtain ⟨⟨hx, hb, hml, hown, hts⟩, hN, hE, hZ, hK, hX, hbl, hlt, hLN⟩ := E9
  have hA : ∀ q : Nat, s.heap.size ≤ q → lwA s q := fun _ h => h
  have hK1 : va_K D vwCl [(cI, .int)] s := hK.sub [0] rfl
  refine lv_aload_n hx hb dL_law_244 rfl (lv_at hl 3 rfl) ?_
  refine lv_aload_n hx hb dL_law_245 rfl (lv_at hl 4 rfl) ?_
  refine lv_iload hx hb dL_law_246 (lv_at hl 0 rfl) ?_
  refine lv_iconst (v := 1) hx hb dL_law_248 (by decide) ?_
  refine lv_iadd hx hb dL_law_249 ?_
  refine wTop (z := nI (i + 1)) (nI_add i 1) ?_
  refine wSld hx hb hX hbl hS (i + 1) (by omega) hLN hx1 dL_law_250 ?_
  refine lv_aload_n hx hb dL_law_251 rfl (lv_at hl 1 rfl) ?_
  refine wLW (pre := ([] : va_W)) (Wc := XO x0 a b ++ (DC cI a f r ++ (DC cI b f2 r2 ++ OUT cJ q v))) (suf := MC cI mb g nw kp) (As := [.ref x0, .int (nI w), .ref q]) (rest := []) ⟨hx, hb, hml, hown, hts⟩ (mL_setLimit l D cI cJ x0 a b f f2 r r2 q v w _ w1 w2) hN hE hZ hA hK hS hP hD rfl (vx_cwSW 3 hts gL_law_L_setLimit rfl rfl rfl (by decide +kernel) ⟨Nat.le_of_ble_eq_true rfl, Nat.le_of_ble_eq_true rfl⟩) rfl hl.1 rfl (Nat.le_of_ble_eq_true rfl) dL_law_252 ⟨by omega, by omega⟩ (fun r_252 u_252 H locs hw hP hD hS => ?_)
  have hw : r_252 = 0 := hw
  subst hw
  have hP : va_P D vwCl (XO x0 a b ++ (DC cI a (upd f 2 (nI w)) r ++ (DC cI b f2 r2 ++ (OUT cJ q (vp_updL v 0 ((f 2).toInt64)) ++ MC cI mb g nw kp)))) H := hP
  have hD : va_D (lwA s) (XO x0 a b ++ (DC cI a (upd f 2 (nI w)) r ++ (DC cI b f2 r2 ++ (OUT cJ q (vp_updL v 0 ((f 2).toInt64)) ++ MC cI mb g nw kp)))) := hD
  refine lv_istore (lv' := [(5, .int 0), (4, .int (nI i)), (3, .ref q), (2, .ref (mb 0)), (1, .ref x0), (0, .ref sb)]) hx hb dL_law_255 hl (by decide) rfl (fun ls hl => ?_)
  refine lv_aload_n hx hb dL_law_257 rfl (lv_at hl 3 rfl) ?_
  refine lv_aload_n hx hb dL_law_258 rfl (lv_at hl 5 rfl) ?_
  refine lv_iload hx hb dL_law_259 (lv_at hl 1 rfl) ?_
  refine lv_iconst (v := 1) hx hb dL_law_261 (by decide) ?_
  refine lv_iadd hx hb dL_law_262 ?_
  refine wTop (z := nI (i + 1)) (nI_add i 1) ?_
  refine wSld hx hb hX hbl hS (i + 1) (by omega) hLN hx1 dL_law_263 ?_
  refine wCVi (pre := XO x0 a b ++ (DC cI a (upd f 2 (nI w)) r ++ (DC cI b f2 r2 ++ OUT cJ q (vp_updL v 0 ((f 2).toInt64))))) (Wc := MC cI mb g nw kp) (suf := ([] : va_W)) (As := [.int (nI w)]) (rest := []) ⟨hx, hb, hml, hown, hts⟩ (mX2_setLimit l D cI mb g nw kp w _ w1 w2) hN hA hK1 hS hP hD rfl 0 (r := (RX2, TX2, 7)) rfl rfl (cwV 1 hts gL_law_X2_setLimit rfl rfl rfl (by decide +kernel) ⟨Nat.le_of_ble_eq_true rfl, Nat.le_of_ble_eq_true rfl⟩) rfl hl.1 rfl (Nat.le_of_ble_eq_true rfl) dL_law_264 ⟨by omega, by omega⟩ (fun r_264 u_264 H locs hw hP hD hS => ?_)
  have hw : r_264 = g 2 := hw
  subst hw
  have hP : va_P D vwCl (XO x0 a b ++ (DC cI a (upd f 2 (nI w)) r ++ (DC cI b f2 r2 ++ (OUT cJ q (vp_updL v 0 ((f 2).toInt64)) ++ MC cI mb (upd (upd g 0 0) 2 (nI w)) nw kp)))) H := hP
  have hD : va_D (lwA s) (XO x0 a b ++ (DC cI a (upd f 2 (nI w)) r ++ (DC cI b f2 r2 ++ (OUT cJ q (vp_updL v 0 ((f 2).toInt64)) ++ MC cI mb (upd (upd g 0 0) 2 (nI w)) nw kp)))) := hD
  refine wTop (z := (f 2)) (hans) ?_
  refine lv_istore (lv' := [(6, .int (f 2)), (5, .int 0), (4, .int (nI i)), (3, .ref q), (2, .ref (mb 0)), (1, .ref x0), (0, .ref sb)]) hx hb dL_law_267 hl (by decide) rfl (fun ls hl => ?_)
  refine lv_aload_n hx hb dL_law_269 rfl (lv_at hl 4 rfl) ?_
  refine wCVi (pre := XO x0 a b ++ (DC cI a (upd f 2 (nI w)) r ++ (DC cI b f2 r2 ++ OUT cJ q (vp_updL v 0 ((f 2).toInt64))))) (Wc := MC cI mb (upd (upd g 0 0) 2 (nI w)) nw kp) (suf := ([] : va_W)) (As := []) (rest := []) ⟨hx, hb, hml, hown, hts⟩ (mX2_thrown l D cI mb (upd (upd g 0 0) 2 (nI w)) nw kp _ ) hN hA hK1 hS hP hD rfl 0 (r := (RX2, TX2, 7)) rfl rfl (cwV 0 hts gL_law_X2_thrown rfl rfl rfl (by decide +kernel) ⟨Nat.le_of_ble_eq_true rfl, Nat.le_of_ble_eq_true rfl⟩) rfl hl.1 rfl (Nat.le_of_ble_eq_true rfl) dL_law_270 ⟨by omega, by omega⟩ (fun r_270 u_270 H locs hw hP hD hS => ?_)
  have hw : r_270 = (upd (upd g 0 0) 2 (nI w)) 0 := hw
  subst hw
  have hP : va_P D vwCl (XO x0 a b ++ (DC cI a (upd f 2 (nI w)) r ++ (DC cI b f2 r2 ++ (OUT cJ q (vp_updL v 0 ((f 2).toInt64)) ++ MC cI mb (upd (upd g 0 0) 2 (nI w)) nw kp)))) H := hP
  have hD : va_D (lwA s) (XO x0 a b ++ (DC cI a (upd f 2 (nI w)) r ++ (DC cI b f2 r2 ++ (OUT cJ q (vp_updL v 0 ((f 2).toInt64)) ++ MC cI mb (upd (upd g 0 0) 2 (nI w)) nw kp)))) := hD
  refine wTop (z := 0) (by simp (disch := omega) only [mUp, mUs]) ?_
  refine lv_iload hx hb dL_law_273 (lv_at hl 1 rfl) ?_
  refine lv_icmp_eq (tgt := 280) hx hb dL_law_275 (by decide) (fun c_275 => ?_) (fun h9 => absurd (by decide) h9)
  refine lv_iload hx hb dL_law_280 (lv_at hl 1 rfl) ?_
  refine lv_if_ne (tgt := 297) hx hb dL_law_282 (by decide) (fun h9 => absurd (by decide) h9) (fun c_282 => ?_)
  refine lv_aload_n hx hb dL_law_285 rfl (lv_at hl 3 rfl) ?_
  refine lv_iconst (v := 0) hx hb dL_law_286 (by decide) ?_
  refine wLald hx hb hK hP 17 1 rfl rfl (z := ((f 2).toInt64)) (pk_uLs) dL_law_287 ?_
  refine lv_iload hx hb dL_law_288 (lv_at hl 0 rfl) ?_
  refine lv_i2l hx hb dL_law_290 rfl ?_
  refine W.lcmp hx hb dL_law_291 ?_
  refine wTop (z := 0) (lcmp_self _) ?_
  refine lv_if_eq (tgt := 297) hx hb dL_law_292 (by decide) (fun c_292 => ?_) (fun h9 => absurd (by decide) h9)
  refine lv_goto (tgt := 1548) hx hb dL_law_297 (by decide) ?_
  exact W.widen (k := cells + 1) (n := slots + 11) (by omega) (by omega) (kk _ _ _ _ _ _ _ _ (by simp (disch := omega) only [mUp, mUs]) (by simp (disch := omega) only [mUp, mUs]) hP hD hS (lv_sub hl [2, 3, 4, 5, 6] rfl))
set_option maxRecDepth 100000 in
set_option maxHeartbeats 4000000 in
theorem lc_setLimit1 {p : Program} {l : Launch} {e : Env} {s : State} {m : MethodId} {args : Array Value} {below : List Frame} {meth : Method} {c : Code} {D : va_G} {cI cJ : ClassId} {sb LN : Nat} {xs : Nat → Int32} {H : Heap} {locs : List Loc} {cells slots : Nat} {Q : State → Prop} {ls : Array Slot} (E9 : lawE p l s m args c D cI cJ sb LN xs) (x0 : Nat) (a b : Nat → Nat) (f f2 : Nat → Int32) (r r2 : Nat → Nat → Int32) (q : Nat) (v : Nat → Int64) (mb : Nat → Nat) (g nw kp : Nat → Int32) (i : Nat) (hi : i + 2 < LN) (hcc : cells + 1 ≤ room_1.cells) (hss : slots + 11 ≤ room_1.slots) (hl : lv_has ls 9 [(4, .int (nI i)), (3, .ref q), (2, .ref (mb 0)), (1, .ref x0), (0, .ref sb)]) (hP : va_P D vwCl (XO x0 a b ++ (DC cI a f r ++ (DC cI b f2 r2 ++ (OUT cJ q v ++ MC cI mb g nw kp)))) H) (hD : va_D (lwA s) (XO x0 a b ++ (DC cI a f r ++ (DC cI b f2 r2 ++ (OUT cJ q v ++ MC cI mb g nw kp))))) (hS : va_S (lwA s) s.heap H locs) (w : Int32) (hx1 : xs (i + 1) = w) (hbad : w < 1 ∨ 30 < w) (hbadm : ¬ (1 ≤ w ∧ w ≤ 30))
    (kk : ∀ (f9 : Nat → Int32) (r9 : Nat → Nat → Int32) (v9 : Nat → Int64) (g9 kp9 : Nat → Int32) (H1 : Heap) (locs1 : List Loc) (ls1 : Array Slot), g9 1 = g 1 → g9 2 = g 2 → va_P D vwCl (XO x0 a b ++ (DC cI a f r ++ (DC cI b f9 r9 ++ (OUT cJ q v9 ++ MC cI mb g9 nw kp9)))) H1 → va_D (lwA s) (XO x0 a b ++ (DC cI a f r ++ (DC cI b f9 r9 ++ (OUT cJ q v9 ++ MC cI mb g9 nw kp9)))) → va_S (lwA s) s.heap H1 locs1 → lv_has ls1 9 [(4, .int (nI i)), (3, .ref q), (2, .ref (mb 0)), (1, .ref x0), (0, .ref sb)] → W p l e room_1 s m args below meth c H1 locs1 (cells + 1) (slots + 11) Q (F0 m 1548 ls1 [])) : W p l e room_1 s m args below meth c H locs cells slots Q (F0 m 244 ls []) := by
  obtain ⟨⟨hx, hb, hml, hown, hts⟩, hN, hE, hZ, hK, hX, hbl, hlt, hLN⟩ := E9
  have hA : ∀ q : Nat, s.heap.size ≤ q → lwA s q := fun _ h => h
  have hK1 : va_K D vwCl [(cI, .int)] s := hK.sub [0] rfl
  refine lv_aload_n hx hb dL_law_244 rfl (lv_at hl 3 rfl) ?_
  refine lv_aload_n hx hb dL_law_245 rfl (lv_at hl 4 rfl) ?_
  refine lv_iload hx hb dL_law_246 (lv_at hl 0 rfl) ?_
  refine lv_iconst (v := 1) hx hb dL_law_248 (by decide) ?_
  refine lv_iadd hx hb dL_law_249 ?_
  refine wTop (z := nI (i + 1)) (nI_add i 1) ?_
  refine wSld hx hb hX hbl hS (i + 1) (by omega) hLN hx1 dL_law_250 ?_
  refine lv_aload_n hx hb dL_law_251 rfl (lv_at hl 1 rfl) ?_
  refine wLW (pre := ([] : va_W)) (Wc := XO x0 a b ++ (DC cI a f r ++ (DC cI b f2 r2 ++ OUT cJ q v))) (suf := MC cI mb g nw kp) (As := [.ref x0, .int w, .ref q]) (rest := []) ⟨hx, hb, hml, hown, hts⟩ (mL_setLimit1 l D cI cJ x0 a b f f2 r r2 q v w _ hlt hbad) hN hE hZ hA hK hS hP hD rfl (vx_cwSW 3 hts gL_law_L_setLimit rfl rfl rfl (by decide +kernel) ⟨Nat.le_of_ble_eq_true rfl, Nat.le_of_ble_eq_true rfl⟩) rfl hl.1 rfl (Nat.le_of_ble_eq_true rfl) dL_law_252 ⟨by omega, by omega⟩ (fun r_252 u_252 H locs hw hP hD hS => ?_)
  have hw : r_252 = 1 := hw
  subst hw
  have hP : va_P D vwCl (XO x0 a b ++ (DC cI a f r ++ (DC cI b f2 r2 ++ (OUT cJ q v ++ MC cI mb g nw kp)))) H := hP
  have hD : va_D (lwA s) (XO x0 a b ++ (DC cI a f r ++ (DC cI b f2 r2 ++ (OUT cJ q v ++ MC cI mb g nw kp)))) := hD
  refine lv_istore (lv' := [(5, .int 1), (4, .int (nI i)), (3, .ref q), (2, .ref (mb 0)), (1, .ref x0), (0, .ref sb)]) hx hb dL_law_255 hl (by decide) rfl (fun ls hl => ?_)
  refine lv_aload_n hx hb dL_law_257 rfl (lv_at hl 3 rfl) ?_
  refine lv_aload_n hx hb dL_law_258 rfl (lv_at hl 5 rfl) ?_
  refine lv_iload hx hb dL_law_259 (lv_at hl 1 rfl) ?_
  refine lv_iconst (v := 1) hx hb dL_law_261 (by decide) ?_
  refine lv_iadd hx hb dL_law_262 ?_
  refine wTop (z := nI (i + 1)) (nI_add i 1) ?_
  refine wSld hx hb hX hbl hS (i + 1) (by omega) hLN hx1 dL_law_263 ?_
  refine wCVi (pre := XO x0 a b ++ (DC cI a f r ++ (DC cI b f2 r2 ++ OUT cJ q v))) (Wc := MC cI mb g nw kp) (suf := ([] : va_W)) (As := [.int w]) (rest := []) ⟨hx, hb, hml, hown, hts⟩ (mX2_setLimit1 l D cI mb g nw kp w _ hbadm) hN hA hK1 hS hP hD rfl 0 (r := (RX2, TX2, 7)) rfl rfl (cwV 1 hts gL_law_X2_setLimit rfl rfl rfl (by decide +kernel) ⟨Nat.le_of_ble_eq_true rfl, Nat.le_of_ble_eq_true rfl⟩) rfl hl.1 rfl (Nat.le_of_ble_eq_true rfl) dL_law_264 ⟨by omega, by omega⟩ (fun r_264 u_264 H locs hw hP hD hS => ?_)
  have hw : r_264 = 0 := hw
  subst hw
  have hP : va_P D vwCl (XO x0 a b ++ (DC cI a f r ++ (DC cI b f2 r2 ++ (OUT cJ q v ++ MC cI mb (upd g 0 1) nw kp)))) H := hP
  have hD : va_D (lwA s) (XO x0 a b ++ (DC cI a f r ++ (DC cI b f2 r2 ++ (OUT cJ q v ++ MC cI mb (upd g 0 1) nw kp)))) := hD
  refine lv_istore (lv' := [(6, .int 0), (5, .int 1), (4, .int (nI i)), (3, .ref q), (2, .ref (mb 0)), (1, .ref x0), (0, .ref sb)]) hx hb dL_law_267 hl (by decide) rfl (fun ls hl => ?_)
  refine lv_aload_n hx hb dL_law_269 rfl (lv_at hl 4 rfl) ?_
  refine wCVi (pre := XO x0 a b ++ (DC cI a f r ++ (DC cI b f2 r2 ++ OUT cJ q v))) (Wc := MC cI mb (upd g 0 1) nw kp) (suf := ([] : va_W)) (As := []) (rest := []) ⟨hx, hb, hml, hown, hts⟩ (mX2_thrown l D cI mb (upd g 0 1) nw kp _ ) hN hA hK1 hS hP hD rfl 0 (r := (RX2, TX2, 7)) rfl rfl (cwV 0 hts gL_law_X2_thrown rfl rfl rfl (by decide +kernel) ⟨Nat.le_of_ble_eq_true rfl, Nat.le_of_ble_eq_true rfl⟩) rfl hl.1 rfl (Nat.le_of_ble_eq_true rfl) dL_law_270 ⟨by omega, by omega⟩ (fun r_270 u_270 H locs hw hP hD hS => ?_)
  have hw : r_270 = (upd g 0 1) 0 := hw
  subst hw
  have hP : va_P D vwCl (XO x0 a b ++ (DC cI a f r ++ (DC cI b f2 r2 ++ (OUT cJ q v ++ MC cI mb (upd g 0 1) nw kp)))) H := hP
  have hD : va_D (lwA s) (XO x0 a b ++ (DC cI a f r ++ (DC cI b f2 r2 ++ (OUT cJ q v ++ MC cI mb (upd g 0 1) nw kp)))) := hD
  refine wTop (z := 1) (by simp (disch := omega) only [mUp, mUs]) ?_
  refine lv_iload hx hb dL_law_273 (lv_at hl 1 rfl) ?_
  refine lv_icmp_eq (tgt := 280) hx hb dL_law_275 (by decide) (fun c_275 => ?_) (fun h9 => absurd (by decide) h9)
  refine lv_iload hx hb dL_law_280 (lv_at hl 1 rfl) ?_
  refine lv_if_ne (tgt := 297) hx hb dL_law_282 (by decide) (fun c_282 => ?_) (fun h9 => absurd h9 (by decide))
  refine lv_goto (tgt := 1548) hx hb dL_law_297 (by decide) ?_
  exact W.widen (k := cells + 1) (n := slots + 11) (by omega) (by omega) (kk _ _ _ _ _ _ _ _ (by simp (disch := omega) only [mUp, mUs]) (by simp (disch := omega) only [mUp, mUs]) hP hD hS (lv_sub hl [2, 3, 4, 5, 6] rfl))
set_option maxRecDepth 100000 in
set_option maxHeartbeats 4000000 in
theorem lc_speak {p : Program} {l : Launch} {e : Env} {s : State} {m : MethodId} {args : Array Value} {below : List Frame} {meth : Method} {c : Code} {D : va_G} {cI cJ : ClassId} {sb LN : Nat} {xs : Nat → Int32} {H : Heap} {locs : List Loc} {cells slots : Nat} {Q : State → Prop} {ls : Array Slot} (E9 : lawE p l s m args c D cI cJ sb LN xs) (x0 : Nat) (a b : Nat → Nat) (f f2 : Nat → Int32) (r r2 : Nat → Nat → Int32) (q : Nat) (v : Nat → Int64) (mb : Nat → Nat) (g nw kp : Nat → Int32) (i : Nat) (hi : i + 2 < LN) (hcc : cells + 1 ≤ room_1.cells) (hss : slots + 11 ≤ room_1.slots) (hl : lv_has ls 9 [(4, .int (nI i)), (3, .ref q), (2, .ref (mb 0)), (1, .ref x0), (0, .ref sb)]) (hP : va_P D vwCl (XO x0 a b ++ (DC cI a f r ++ (DC cI b f2 r2 ++ (OUT cJ q v ++ MC cI mb g nw kp)))) H) (hD : va_D (lwA s) (XO x0 a b ++ (DC cI a f r ++ (DC cI b f2 r2 ++ (OUT cJ q v ++ MC cI mb g nw kp))))) (hS : va_S (lwA s) s.heap H locs) (gg : Nat) (x : Nat) (w : Nat) (hx1 : xs (i + 1) = nI x) (hx2 : xs (i + 2) = nI w) (hg : f 0 = nI gg) (hg2 : gg ≤ 10) (hg0 : 0 < gg) (ux : x < gg) (w1 : 1 ≤ w) (w2 : w ≤ 60) (hans : (mInt nw x : Int32) = dInt f x) (hgm : g 1 = nI gg)
    (kk : ∀ (f9 : Nat → Int32) (r9 : Nat → Nat → Int32) (v9 : Nat → Int64) (g9 kp9 : Nat → Int32) (H1 : Heap) (locs1 : List Loc) (ls1 : Array Slot), g9 1 = g 1 → g9 2 = g 2 → va_P D vwCl (XO x0 a b ++ (DC cI a (dSpeak f r x (nI w)).1 (dSpeak f r x (nI w)).2 ++ (DC cI b f9 r9 ++ (OUT cJ q v9 ++ MC cI mb g9 (mSpeak nw x (nI w)) kp9)))) H1 → va_D (lwA s) (XO x0 a b ++ (DC cI a (dSpeak f r x (nI w)).1 (dSpeak f r x (nI w)).2 ++ (DC cI b f9 r9 ++ (OUT cJ q v9 ++ MC cI mb g9 (mSpeak nw x (nI w)) kp9)))) → va_S (lwA s) s.heap H1 locs1 → lv_has ls1 9 [(4, .int (nI i)), (3, .ref q), (2, .ref (mb 0)), (1, .ref x0), (0, .ref sb)] → W p l e room_1 s m args below meth c H1 locs1 (cells + 1) (slots + 11) Q (F0 m 1548 ls1 [])) : W p l e room_1 s m args below meth c H locs cells slots Q (F0 m 300 ls []) := by
  obtain ⟨⟨hx, hb, hml, hown, hts⟩, hN, hE, hZ, hK, hX, hbl, hlt, hLN⟩ := E9
  have hA : ∀ q : Nat, s.heap.size ≤ q → lwA s q := fun _ h => h
  have hK1 : va_K D vwCl [(cI, .int)] s := hK.sub [0] rfl
  refine lv_aload_n hx hb dL_law_300 rfl (lv_at hl 3 rfl) ?_
  refine lv_aload_n hx hb dL_law_301 rfl (lv_at hl 4 rfl) ?_
  refine lv_iload hx hb dL_law_302 (lv_at hl 0 rfl) ?_
  refine lv_iconst (v := 1) hx hb dL_law_304 (by decide) ?_
  refine lv_iadd hx hb dL_law_305 ?_
  refine wTop (z := nI (i + 1)) (nI_add i 1) ?_
  refine wSld hx hb hX hbl hS (i + 1) (by omega) hLN hx1 dL_law_306 ?_
  refine lv_aload_n hx hb dL_law_307 rfl (lv_at hl 4 rfl) ?_
  refine lv_iload hx hb dL_law_308 (lv_at hl 0 rfl) ?_
  refine lv_iconst (v := 2) hx hb dL_law_310 (by decide) ?_
  refine lv_iadd hx hb dL_law_311 ?_
  refine wTop (z := nI (i + 2)) (nI_add i 2) ?_
  refine wSld hx hb hX hbl hS (i + 2) (by omega) hLN hx2 dL_law_312 ?_
  refine lv_aload_n hx hb dL_law_313 rfl (lv_at hl 1 rfl) ?_
  refine wLW (pre := ([] : va_W)) (Wc := XO x0 a b ++ (DC cI a f r ++ (DC cI b f2 r2 ++ OUT cJ q v))) (suf := MC cI mb g nw kp) (As := [.ref x0, .int (nI x), .int (nI w), .ref q]) (rest := []) ⟨hx, hb, hml, hown, hts⟩ (mL_speak l D cI cJ x0 a b f f2 r r2 q v gg x w _ hg hg2 hg0 ux w1 w2) hN hE hZ hA hK hS hP hD rfl (vx_cwSW 4 hts gL_law_L_speak rfl rfl rfl (by decide +kernel) ⟨Nat.le_of_ble_eq_true rfl, Nat.le_of_ble_eq_true rfl⟩) rfl hl.1 rfl (Nat.le_of_ble_eq_true rfl) dL_law_314 ⟨by omega, by omega⟩ (fun r_314 u_314 H locs hw hP hD hS => ?_)
  have hw : r_314 = 0 := hw
  subst hw
  have hP : va_P D vwCl (XO x0 a b ++ (DC cI a (dSpeak f r x (nI w)).1 (dSpeak f r x (nI w)).2 ++ (DC cI b f2 r2 ++ (OUT cJ q (vp_updL v 0 ((dInt f x).toInt64)) ++ MC cI mb g nw kp)))) H := hP
  have hD : va_D (lwA s) (XO x0 a b ++ (DC cI a (dSpeak f r x (nI w)).1 (dSpeak f r x (nI w)).2 ++ (DC cI b f2 r2 ++ (OUT cJ q (vp_updL v 0 ((dInt f x).toInt64)) ++ MC cI mb g nw kp)))) := hD
  refine lv_istore (lv' := [(5, .int 0), (4, .int (nI i)), (3, .ref q), (2, .ref (mb 0)), (1, .ref x0), (0, .ref sb)]) hx hb dL_law_317 hl (by decide) rfl (fun ls hl => ?_)
  refine lv_aload_n hx hb dL_law_319 rfl (lv_at hl 3 rfl) ?_
  refine lv_aload_n hx hb dL_law_320 rfl (lv_at hl 5 rfl) ?_
  refine lv_iload hx hb dL_law_321 (lv_at hl 1 rfl) ?_
  refine lv_iconst (v := 1) hx hb dL_law_323 (by decide) ?_
  refine lv_iadd hx hb dL_law_324 ?_
  refine wTop (z := nI (i + 1)) (nI_add i 1) ?_
  refine wSld hx hb hX hbl hS (i + 1) (by omega) hLN hx1 dL_law_325 ?_
  refine lv_aload_n hx hb dL_law_326 rfl (lv_at hl 5 rfl) ?_
  refine lv_iload hx hb dL_law_327 (lv_at hl 1 rfl) ?_
  refine lv_iconst (v := 2) hx hb dL_law_329 (by decide) ?_
  refine lv_iadd hx hb dL_law_330 ?_
  refine wTop (z := nI (i + 2)) (nI_add i 2) ?_
  refine wSld hx hb hX hbl hS (i + 2) (by omega) hLN hx2 dL_law_331 ?_
  refine wCVi (pre := XO x0 a b ++ (DC cI a (dSpeak f r x (nI w)).1 (dSpeak f r x (nI w)).2 ++ (DC cI b f2 r2 ++ OUT cJ q (vp_updL v 0 ((dInt f x).toInt64))))) (Wc := MC cI mb g nw kp) (suf := ([] : va_W)) (As := [.int (nI x), .int (nI w)]) (rest := []) ⟨hx, hb, hml, hown, hts⟩ (mX2_speak l D cI mb g nw kp gg x w _ hgm hg2 hg0 ux w1 w2) hN hA hK1 hS hP hD rfl 0 (r := (RX2, TX2, 7)) rfl rfl (cwV 2 hts gL_law_X2_speak rfl rfl rfl (by decide +kernel) ⟨Nat.le_of_ble_eq_true rfl, Nat.le_of_ble_eq_true rfl⟩) rfl hl.1 rfl (Nat.le_of_ble_eq_true rfl) dL_law_332 ⟨by omega, by omega⟩ (fun r_332 u_332 H locs hw hP hD hS => ?_)
  have hw : r_332 = mInt nw x := hw
  subst hw
  have hP : va_P D vwCl (XO x0 a b ++ (DC cI a (dSpeak f r x (nI w)).1 (dSpeak f r x (nI w)).2 ++ (DC cI b f2 r2 ++ (OUT cJ q (vp_updL v 0 ((dInt f x).toInt64)) ++ MC cI mb (upd g 0 0) (mSpeak nw x (nI w)) kp)))) H := hP
  have hD : va_D (lwA s) (XO x0 a b ++ (DC cI a (dSpeak f r x (nI w)).1 (dSpeak f r x (nI w)).2 ++ (DC cI b f2 r2 ++ (OUT cJ q (vp_updL v 0 ((dInt f x).toInt64)) ++ MC cI mb (upd g 0 0) (mSpeak nw x (nI w)) kp)))) := hD
  refine wTop (z := (dInt f x)) (hans) ?_
  refine lv_istore (lv' := [(6, .int (dInt f x)), (5, .int 0), (4, .int (nI i)), (3, .ref q), (2, .ref (mb 0)), (1, .ref x0), (0, .ref sb)]) hx hb dL_law_335 hl (by decide) rfl (fun ls hl => ?_)
  refine lv_aload_n hx hb dL_law_337 rfl (lv_at hl 4 rfl) ?_
  refine wCVi (pre := XO x0 a b ++ (DC cI a (dSpeak f r x (nI w)).1 (dSpeak f r x (nI w)).2 ++ (DC cI b f2 r2 ++ OUT cJ q (vp_updL v 0 ((dInt f x).toInt64))))) (Wc := MC cI mb (upd g 0 0) (mSpeak nw x (nI w)) kp) (suf := ([] : va_W)) (As := []) (rest := []) ⟨hx, hb, hml, hown, hts⟩ (mX2_thrown l D cI mb (upd g 0 0) (mSpeak nw x (nI w)) kp _ ) hN hA hK1 hS hP hD rfl 0 (r := (RX2, TX2, 7)) rfl rfl (cwV 0 hts gL_law_X2_thrown rfl rfl rfl (by decide +kernel) ⟨Nat.le_of_ble_eq_true rfl, Nat.le_of_ble_eq_true rfl⟩) rfl hl.1 rfl (Nat.le_of_ble_eq_true rfl) dL_law_338 ⟨by omega, by omega⟩ (fun r_338 u_338 H locs hw hP hD hS => ?_)
  have hw : r_338 = (upd g 0 0) 0 := hw
  subst hw
  have hP : va_P D vwCl (XO x0 a b ++ (DC cI a (dSpeak f r x (nI w)).1 (dSpeak f r x (nI w)).2 ++ (DC cI b f2 r2 ++ (OUT cJ q (vp_updL v 0 ((dInt f x).toInt64)) ++ MC cI mb (upd g 0 0) (mSpeak nw x (nI w)) kp)))) H := hP
  have hD : va_D (lwA s) (XO x0 a b ++ (DC cI a (dSpeak f r x (nI w)).1 (dSpeak f r x (nI w)).2 ++ (DC cI b f2 r2 ++ (OUT cJ q (vp_updL v 0 ((dInt f x).toInt64)) ++ MC cI mb (upd g 0 0) (mSpeak nw x (nI w)) kp)))) := hD
  refine wTop (z := 0) (by simp (disch := omega) only [mUp, mUs]) ?_
  refine lv_iload hx hb dL_law_341 (lv_at hl 1 rfl) ?_
  refine lv_icmp_eq (tgt := 348) hx hb dL_law_343 (by decide) (fun c_343 => ?_) (fun h9 => absurd (by decide) h9)
  refine lv_iload hx hb dL_law_348 (lv_at hl 1 rfl) ?_
  refine lv_if_ne (tgt := 365) hx hb dL_law_350 (by decide) (fun h9 => absurd (by decide) h9) (fun c_350 => ?_)
  refine lv_aload_n hx hb dL_law_353 rfl (lv_at hl 3 rfl) ?_
  refine lv_iconst (v := 0) hx hb dL_law_354 (by decide) ?_
  refine wLald hx hb hK hP 17 1 rfl rfl (z := ((dInt f x).toInt64)) (pk_uLs) dL_law_355 ?_
  refine lv_iload hx hb dL_law_356 (lv_at hl 0 rfl) ?_
  refine lv_i2l hx hb dL_law_358 rfl ?_
  refine W.lcmp hx hb dL_law_359 ?_
  refine wTop (z := 0) (lcmp_self _) ?_
  refine lv_if_eq (tgt := 365) hx hb dL_law_360 (by decide) (fun c_360 => ?_) (fun h9 => absurd (by decide) h9)
  refine lv_goto (tgt := 1548) hx hb dL_law_365 (by decide) ?_
  exact W.widen (k := cells + 1) (n := slots + 11) (by omega) (by omega) (kk _ _ _ _ _ _ _ _ (by simp (disch := omega) only [mUp, mUs]) (by simp (disch := omega) only [mUp, mUs]) hP hD hS (lv_sub hl [2, 3, 4, 5, 6] rfl))
set_option maxRecDepth 100000 in
set_option maxHeartbeats 4000000 in
theorem lc_speak1 {p : Program} {l : Launch} {e : Env} {s : State} {m : MethodId} {args : Array Value} {below : List Frame} {meth : Method} {c : Code} {D : va_G} {cI cJ : ClassId} {sb LN : Nat} {xs : Nat → Int32} {H : Heap} {locs : List Loc} {cells slots : Nat} {Q : State → Prop} {ls : Array Slot} (E9 : lawE p l s m args c D cI cJ sb LN xs) (x0 : Nat) (a b : Nat → Nat) (f f2 : Nat → Int32) (r r2 : Nat → Nat → Int32) (q : Nat) (v : Nat → Int64) (mb : Nat → Nat) (g nw kp : Nat → Int32) (i : Nat) (hi : i + 2 < LN) (hcc : cells + 1 ≤ room_1.cells) (hss : slots + 11 ≤ room_1.slots) (hl : lv_has ls 9 [(4, .int (nI i)), (3, .ref q), (2, .ref (mb 0)), (1, .ref x0), (0, .ref sb)]) (hP : va_P D vwCl (XO x0 a b ++ (DC cI a f r ++ (DC cI b f2 r2 ++ (OUT cJ q v ++ MC cI mb g nw kp)))) H) (hD : va_D (lwA s) (XO x0 a b ++ (DC cI a f r ++ (DC cI b f2 r2 ++ (OUT cJ q v ++ MC cI mb g nw kp))))) (hS : va_S (lwA s) s.heap H locs) (x : Int32) (y : Int32) (gg : Nat) (hx1 : xs (i + 1) = x) (hx2 : xs (i + 2) = y) (hbad : x < 0 ∨ f 0 ≤ x) (hg : g 1 = nI gg) (hg2 : gg ≤ 10) (hg0 : 0 < gg) (hbadm : ¬ (0 ≤ x ∧ x < nI gg))
    (kk : ∀ (f9 : Nat → Int32) (r9 : Nat → Nat → Int32) (v9 : Nat → Int64) (g9 kp9 : Nat → Int32) (H1 : Heap) (locs1 : List Loc) (ls1 : Array Slot), g9 1 = g 1 → g9 2 = g 2 → va_P D vwCl (XO x0 a b ++ (DC cI a f r ++ (DC cI b f9 r9 ++ (OUT cJ q v9 ++ MC cI mb g9 nw kp9)))) H1 → va_D (lwA s) (XO x0 a b ++ (DC cI a f r ++ (DC cI b f9 r9 ++ (OUT cJ q v9 ++ MC cI mb g9 nw kp9)))) → va_S (lwA s) s.heap H1 locs1 → lv_has ls1 9 [(4, .int (nI i)), (3, .ref q), (2, .ref (mb 0)), (1, .ref x0), (0, .ref sb)] → W p l e room_1 s m args below meth c H1 locs1 (cells + 1) (slots + 11) Q (F0 m 1548 ls1 [])) : W p l e room_1 s m args below meth c H locs cells slots Q (F0 m 300 ls []) := by
  obtain ⟨⟨hx, hb, hml, hown, hts⟩, hN, hE, hZ, hK, hX, hbl, hlt, hLN⟩ := E9
  have hA : ∀ q : Nat, s.heap.size ≤ q → lwA s q := fun _ h => h
  have hK1 : va_K D vwCl [(cI, .int)] s := hK.sub [0] rfl
  refine lv_aload_n hx hb dL_law_300 rfl (lv_at hl 3 rfl) ?_
  refine lv_aload_n hx hb dL_law_301 rfl (lv_at hl 4 rfl) ?_
  refine lv_iload hx hb dL_law_302 (lv_at hl 0 rfl) ?_
  refine lv_iconst (v := 1) hx hb dL_law_304 (by decide) ?_
  refine lv_iadd hx hb dL_law_305 ?_
  refine wTop (z := nI (i + 1)) (nI_add i 1) ?_
  refine wSld hx hb hX hbl hS (i + 1) (by omega) hLN hx1 dL_law_306 ?_
  refine lv_aload_n hx hb dL_law_307 rfl (lv_at hl 4 rfl) ?_
  refine lv_iload hx hb dL_law_308 (lv_at hl 0 rfl) ?_
  refine lv_iconst (v := 2) hx hb dL_law_310 (by decide) ?_
  refine lv_iadd hx hb dL_law_311 ?_
  refine wTop (z := nI (i + 2)) (nI_add i 2) ?_
  refine wSld hx hb hX hbl hS (i + 2) (by omega) hLN hx2 dL_law_312 ?_
  refine lv_aload_n hx hb dL_law_313 rfl (lv_at hl 1 rfl) ?_
  refine wLW (pre := ([] : va_W)) (Wc := XO x0 a b ++ (DC cI a f r ++ (DC cI b f2 r2 ++ OUT cJ q v))) (suf := MC cI mb g nw kp) (As := [.ref x0, .int x, .int y, .ref q]) (rest := []) ⟨hx, hb, hml, hown, hts⟩ (mL_speak1 l D cI cJ x0 a b f f2 r r2 q v x y _ hlt hbad) hN hE hZ hA hK hS hP hD rfl (vx_cwSW 4 hts gL_law_L_speak rfl rfl rfl (by decide +kernel) ⟨Nat.le_of_ble_eq_true rfl, Nat.le_of_ble_eq_true rfl⟩) rfl hl.1 rfl (Nat.le_of_ble_eq_true rfl) dL_law_314 ⟨by omega, by omega⟩ (fun r_314 u_314 H locs hw hP hD hS => ?_)
  have hw : r_314 = 1 := hw
  subst hw
  have hP : va_P D vwCl (XO x0 a b ++ (DC cI a f r ++ (DC cI b f2 r2 ++ (OUT cJ q v ++ MC cI mb g nw kp)))) H := hP
  have hD : va_D (lwA s) (XO x0 a b ++ (DC cI a f r ++ (DC cI b f2 r2 ++ (OUT cJ q v ++ MC cI mb g nw kp)))) := hD
  refine lv_istore (lv' := [(5, .int 1), (4, .int (nI i)), (3, .ref q), (2, .ref (mb 0)), (1, .ref x0), (0, .ref sb)]) hx hb dL_law_317 hl (by decide) rfl (fun ls hl => ?_)
  refine lv_aload_n hx hb dL_law_319 rfl (lv_at hl 3 rfl) ?_
  refine lv_aload_n hx hb dL_law_320 rfl (lv_at hl 5 rfl) ?_
  refine lv_iload hx hb dL_law_321 (lv_at hl 1 rfl) ?_
  refine lv_iconst (v := 1) hx hb dL_law_323 (by decide) ?_
  refine lv_iadd hx hb dL_law_324 ?_
  refine wTop (z := nI (i + 1)) (nI_add i 1) ?_
  refine wSld hx hb hX hbl hS (i + 1) (by omega) hLN hx1 dL_law_325 ?_
  refine lv_aload_n hx hb dL_law_326 rfl (lv_at hl 5 rfl) ?_
  refine lv_iload hx hb dL_law_327 (lv_at hl 1 rfl) ?_
  refine lv_iconst (v := 2) hx hb dL_law_329 (by decide) ?_
  refine lv_iadd hx hb dL_law_330 ?_
  refine wTop (z := nI (i + 2)) (nI_add i 2) ?_
  refine wSld hx hb hX hbl hS (i + 2) (by omega) hLN hx2 dL_law_331 ?_
  refine wCVi (pre := XO x0 a b ++ (DC cI a f r ++ (DC cI b f2 r2 ++ OUT cJ q v))) (Wc := MC cI mb g nw kp) (suf := ([] : va_W)) (As := [.int x, .int y]) (rest := []) ⟨hx, hb, hml, hown, hts⟩ (mX2_speak1 l D cI mb g nw kp gg x y _ hg hg2 hg0 hbadm) hN hA hK1 hS hP hD rfl 0 (r := (RX2, TX2, 7)) rfl rfl (cwV 2 hts gL_law_X2_speak rfl rfl rfl (by decide +kernel) ⟨Nat.le_of_ble_eq_true rfl, Nat.le_of_ble_eq_true rfl⟩) rfl hl.1 rfl (Nat.le_of_ble_eq_true rfl) dL_law_332 ⟨by omega, by omega⟩ (fun r_332 u_332 H locs hw hP hD hS => ?_)
  have hw : r_332 = 0 := hw
  subst hw
  have hP : va_P D vwCl (XO x0 a b ++ (DC cI a f r ++ (DC cI b f2 r2 ++ (OUT cJ q v ++ MC cI mb (upd g 0 1) nw kp)))) H := hP
  have hD : va_D (lwA s) (XO x0 a b ++ (DC cI a f r ++ (DC cI b f2 r2 ++ (OUT cJ q v ++ MC cI mb (upd g 0 1) nw kp)))) := hD
  refine lv_istore (lv' := [(6, .int 0), (5, .int 1), (4, .int (nI i)), (3, .ref q), (2, .ref (mb 0)), (1, .ref x0), (0, .ref sb)]) hx hb dL_law_335 hl (by decide) rfl (fun ls hl => ?_)
  refine lv_aload_n hx hb dL_law_337 rfl (lv_at hl 4 rfl) ?_
  refine wCVi (pre := XO x0 a b ++ (DC cI a f r ++ (DC cI b f2 r2 ++ OUT cJ q v))) (Wc := MC cI mb (upd g 0 1) nw kp) (suf := ([] : va_W)) (As := []) (rest := []) ⟨hx, hb, hml, hown, hts⟩ (mX2_thrown l D cI mb (upd g 0 1) nw kp _ ) hN hA hK1 hS hP hD rfl 0 (r := (RX2, TX2, 7)) rfl rfl (cwV 0 hts gL_law_X2_thrown rfl rfl rfl (by decide +kernel) ⟨Nat.le_of_ble_eq_true rfl, Nat.le_of_ble_eq_true rfl⟩) rfl hl.1 rfl (Nat.le_of_ble_eq_true rfl) dL_law_338 ⟨by omega, by omega⟩ (fun r_338 u_338 H locs hw hP hD hS => ?_)
  have hw : r_338 = (upd g 0 1) 0 := hw
  subst hw
  have hP : va_P D vwCl (XO x0 a b ++ (DC cI a f r ++ (DC cI b f2 r2 ++ (OUT cJ q v ++ MC cI mb (upd g 0 1) nw kp)))) H := hP
  have hD : va_D (lwA s) (XO x0 a b ++ (DC cI a f r ++ (DC cI b f2 r2 ++ (OUT cJ q v ++ MC cI mb (upd g 0 1) nw kp)))) := hD
  refine wTop (z := 1) (by simp (disch := omega) only [mUp, mUs]) ?_
  refine lv_iload hx hb dL_law_341 (lv_at hl 1 rfl) ?_
  refine lv_icmp_eq (tgt := 348) hx hb dL_law_343 (by decide) (fun c_343 => ?_) (fun h9 => absurd (by decide) h9)
  refine lv_iload hx hb dL_law_348 (lv_at hl 1 rfl) ?_
  refine lv_if_ne (tgt := 365) hx hb dL_law_350 (by decide) (fun c_350 => ?_) (fun h9 => absurd h9 (by decide))
  refine lv_goto (tgt := 1548) hx hb dL_law_365 (by decide) ?_
  exact W.widen (k := cells + 1) (n := slots + 11) (by omega) (by omega) (kk _ _ _ _ _ _ _ _ (by simp (disch := omega) only [mUp, mUs]) (by simp (disch := omega) only [mUp, mUs]) hP hD hS (lv_sub hl [2, 3, 4, 5, 6] rfl))
set_option maxRecDepth 100000 in
set_option maxHeartbeats 4000000 in
theorem lc_speak2 {p : Program} {l : Launch} {e : Env} {s : State} {m : MethodId} {args : Array Value} {below : List Frame} {meth : Method} {c : Code} {D : va_G} {cI cJ : ClassId} {sb LN : Nat} {xs : Nat → Int32} {H : Heap} {locs : List Loc} {cells slots : Nat} {Q : State → Prop} {ls : Array Slot} (E9 : lawE p l s m args c D cI cJ sb LN xs) (x0 : Nat) (a b : Nat → Nat) (f f2 : Nat → Int32) (r r2 : Nat → Nat → Int32) (q : Nat) (v : Nat → Int64) (mb : Nat → Nat) (g nw kp : Nat → Int32) (i : Nat) (hi : i + 2 < LN) (hcc : cells + 1 ≤ room_1.cells) (hss : slots + 11 ≤ room_1.slots) (hl : lv_has ls 9 [(4, .int (nI i)), (3, .ref q), (2, .ref (mb 0)), (1, .ref x0), (0, .ref sb)]) (hP : va_P D vwCl (XO x0 a b ++ (DC cI a f r ++ (DC cI b f2 r2 ++ (OUT cJ q v ++ MC cI mb g nw kp)))) H) (hD : va_D (lwA s) (XO x0 a b ++ (DC cI a f r ++ (DC cI b f2 r2 ++ (OUT cJ q v ++ MC cI mb g nw kp))))) (hS : va_S (lwA s) s.heap H locs) (gg : Nat) (x : Nat) (w : Int32) (hx1 : xs (i + 1) = nI x) (hx2 : xs (i + 2) = w) (hg : f 0 = nI gg) (hg2 : gg ≤ 10) (hg0 : 0 < gg) (ux : x < gg) (hbad : w < 1 ∨ 60 < w) (hgm : g 1 = nI gg) (hbadm : ¬ (1 ≤ w ∧ w ≤ 60))
    (kk : ∀ (f9 : Nat → Int32) (r9 : Nat → Nat → Int32) (v9 : Nat → Int64) (g9 kp9 : Nat → Int32) (H1 : Heap) (locs1 : List Loc) (ls1 : Array Slot), g9 1 = g 1 → g9 2 = g 2 → va_P D vwCl (XO x0 a b ++ (DC cI a f r ++ (DC cI b f9 r9 ++ (OUT cJ q v9 ++ MC cI mb g9 nw kp9)))) H1 → va_D (lwA s) (XO x0 a b ++ (DC cI a f r ++ (DC cI b f9 r9 ++ (OUT cJ q v9 ++ MC cI mb g9 nw kp9)))) → va_S (lwA s) s.heap H1 locs1 → lv_has ls1 9 [(4, .int (nI i)), (3, .ref q), (2, .ref (mb 0)), (1, .ref x0), (0, .ref sb)] → W p l e room_1 s m args below meth c H1 locs1 (cells + 1) (slots + 11) Q (F0 m 1548 ls1 [])) : W p l e room_1 s m args below meth c H locs cells slots Q (F0 m 300 ls []) := by
  obtain ⟨⟨hx, hb, hml, hown, hts⟩, hN, hE, hZ, hK, hX, hbl, hlt, hLN⟩ := E9
  have hA : ∀ q : Nat, s.heap.size ≤ q → lwA s q := fun _ h => h
  have hK1 : va_K D vwCl [(cI, .int)] s := hK.sub [0] rfl
  refine lv_aload_n hx hb dL_law_300 rfl (lv_at hl 3 rfl) ?_
  refine lv_aload_n hx hb dL_law_301 rfl (lv_at hl 4 rfl) ?_
  refine lv_iload hx hb dL_law_302 (lv_at hl 0 rfl) ?_
  refine lv_iconst (v := 1) hx hb dL_law_304 (by decide) ?_
  refine lv_iadd hx hb dL_law_305 ?_
  refine wTop (z := nI (i + 1)) (nI_add i 1) ?_
  refine wSld hx hb hX hbl hS (i + 1) (by omega) hLN hx1 dL_law_306 ?_
  refine lv_aload_n hx hb dL_law_307 rfl (lv_at hl 4 rfl) ?_
  refine lv_iload hx hb dL_law_308 (lv_at hl 0 rfl) ?_
  refine lv_iconst (v := 2) hx hb dL_law_310 (by decide) ?_
  refine lv_iadd hx hb dL_law_311 ?_
  refine wTop (z := nI (i + 2)) (nI_add i 2) ?_
  refine wSld hx hb hX hbl hS (i + 2) (by omega) hLN hx2 dL_law_312 ?_
  refine lv_aload_n hx hb dL_law_313 rfl (lv_at hl 1 rfl) ?_
  refine wLW (pre := ([] : va_W)) (Wc := XO x0 a b ++ (DC cI a f r ++ (DC cI b f2 r2 ++ OUT cJ q v))) (suf := MC cI mb g nw kp) (As := [.ref x0, .int (nI x), .int w, .ref q]) (rest := []) ⟨hx, hb, hml, hown, hts⟩ (mL_speak2 l D cI cJ x0 a b f f2 r r2 q v gg x w _ hlt hg hg2 hg0 ux hbad) hN hE hZ hA hK hS hP hD rfl (vx_cwSW 4 hts gL_law_L_speak rfl rfl rfl (by decide +kernel) ⟨Nat.le_of_ble_eq_true rfl, Nat.le_of_ble_eq_true rfl⟩) rfl hl.1 rfl (Nat.le_of_ble_eq_true rfl) dL_law_314 ⟨by omega, by omega⟩ (fun r_314 u_314 H locs hw hP hD hS => ?_)
  have hw : r_314 = 2 := hw
  subst hw
  have hP : va_P D vwCl (XO x0 a b ++ (DC cI a f r ++ (DC cI b f2 r2 ++ (OUT cJ q v ++ MC cI mb g nw kp)))) H := hP
  have hD : va_D (lwA s) (XO x0 a b ++ (DC cI a f r ++ (DC cI b f2 r2 ++ (OUT cJ q v ++ MC cI mb g nw kp)))) := hD
  refine lv_istore (lv' := [(5, .int 2), (4, .int (nI i)), (3, .ref q), (2, .ref (mb 0)), (1, .ref x0), (0, .ref sb)]) hx hb dL_law_317 hl (by decide) rfl (fun ls hl => ?_)
  refine lv_aload_n hx hb dL_law_319 rfl (lv_at hl 3 rfl) ?_
  refine lv_aload_n hx hb dL_law_320 rfl (lv_at hl 5 rfl) ?_
  refine lv_iload hx hb dL_law_321 (lv_at hl 1 rfl) ?_
  refine lv_iconst (v := 1) hx hb dL_law_323 (by decide) ?_
  refine lv_iadd hx hb dL_law_324 ?_
  refine wTop (z := nI (i + 1)) (nI_add i 1) ?_
  refine wSld hx hb hX hbl hS (i + 1) (by omega) hLN hx1 dL_law_325 ?_
  refine lv_aload_n hx hb dL_law_326 rfl (lv_at hl 5 rfl) ?_
  refine lv_iload hx hb dL_law_327 (lv_at hl 1 rfl) ?_
  refine lv_iconst (v := 2) hx hb dL_law_329 (by decide) ?_
  refine lv_iadd hx hb dL_law_330 ?_
  refine wTop (z := nI (i + 2)) (nI_add i 2) ?_
  refine wSld hx hb hX hbl hS (i + 2) (by omega) hLN hx2 dL_law_331 ?_
  refine wCVi (pre := XO x0 a b ++ (DC cI a f r ++ (DC cI b f2 r2 ++ OUT cJ q v))) (Wc := MC cI mb g nw kp) (suf := ([] : va_W)) (As := [.int (nI x), .int w]) (rest := []) ⟨hx, hb, hml, hown, hts⟩ (mX2_speak2 l D cI mb g nw kp gg x w _ hgm hg2 hg0 ux hbadm) hN hA hK1 hS hP hD rfl 0 (r := (RX2, TX2, 7)) rfl rfl (cwV 2 hts gL_law_X2_speak rfl rfl rfl (by decide +kernel) ⟨Nat.le_of_ble_eq_true rfl, Nat.le_of_ble_eq_true rfl⟩) rfl hl.1 rfl (Nat.le_of_ble_eq_true rfl) dL_law_332 ⟨by omega, by omega⟩ (fun r_332 u_332 H locs hw hP hD hS => ?_)
  have hw : r_332 = 0 := hw
  subst hw
  have hP : va_P D vwCl (XO x0 a b ++ (DC cI a f r ++ (DC cI b f2 r2 ++ (OUT cJ q v ++ MC cI mb (upd g 0 2) nw kp)))) H := hP
  have hD : va_D (lwA s) (XO x0 a b ++ (DC cI a f r ++ (DC cI b f2 r2 ++ (OUT cJ q v ++ MC cI mb (upd g 0 2) nw kp)))) := hD
  refine lv_istore (lv' := [(6, .int 0), (5, .int 2), (4, .int (nI i)), (3, .ref q), (2, .ref (mb 0)), (1, .ref x0), (0, .ref sb)]) hx hb dL_law_335 hl (by decide) rfl (fun ls hl => ?_)
  refine lv_aload_n hx hb dL_law_337 rfl (lv_at hl 4 rfl) ?_
  refine wCVi (pre := XO x0 a b ++ (DC cI a f r ++ (DC cI b f2 r2 ++ OUT cJ q v))) (Wc := MC cI mb (upd g 0 2) nw kp) (suf := ([] : va_W)) (As := []) (rest := []) ⟨hx, hb, hml, hown, hts⟩ (mX2_thrown l D cI mb (upd g 0 2) nw kp _ ) hN hA hK1 hS hP hD rfl 0 (r := (RX2, TX2, 7)) rfl rfl (cwV 0 hts gL_law_X2_thrown rfl rfl rfl (by decide +kernel) ⟨Nat.le_of_ble_eq_true rfl, Nat.le_of_ble_eq_true rfl⟩) rfl hl.1 rfl (Nat.le_of_ble_eq_true rfl) dL_law_338 ⟨by omega, by omega⟩ (fun r_338 u_338 H locs hw hP hD hS => ?_)
  have hw : r_338 = (upd g 0 2) 0 := hw
  subst hw
  have hP : va_P D vwCl (XO x0 a b ++ (DC cI a f r ++ (DC cI b f2 r2 ++ (OUT cJ q v ++ MC cI mb (upd g 0 2) nw kp)))) H := hP
  have hD : va_D (lwA s) (XO x0 a b ++ (DC cI a f r ++ (DC cI b f2 r2 ++ (OUT cJ q v ++ MC cI mb (upd g 0 2) nw kp)))) := hD
  refine wTop (z := 2) (by simp (disch := omega) only [mUp, mUs]) ?_
  refine lv_iload hx hb dL_law_341 (lv_at hl 1 rfl) ?_
  refine lv_icmp_eq (tgt := 348) hx hb dL_law_343 (by decide) (fun c_343 => ?_) (fun h9 => absurd (by decide) h9)
  refine lv_iload hx hb dL_law_348 (lv_at hl 1 rfl) ?_
  refine lv_if_ne (tgt := 365) hx hb dL_law_350 (by decide) (fun c_350 => ?_) (fun h9 => absurd h9 (by decide))
  refine lv_goto (tgt := 1548) hx hb dL_law_365 (by decide) ?_
  exact W.widen (k := cells + 1) (n := slots + 11) (by omega) (by omega) (kk _ _ _ _ _ _ _ _ (by simp (disch := omega) only [mUp, mUs]) (by simp (disch := omega) only [mUp, mUs]) hP hD hS (lv_sub hl [2, 3, 4, 5, 6] rfl))
set_option maxRecDepth 100000 in
set_option maxHeartbeats 4000000 in
theorem lc_cough {p : Program} {l : Launch} {e : Env} {s : State} {m : MethodId} {args : Array Value} {below : List Frame} {meth : Method} {c : Code} {D : va_G} {cI cJ : ClassId} {sb LN : Nat} {xs : Nat → Int32} {H : Heap} {locs : List Loc} {cells slots : Nat} {Q : State → Prop} {ls : Array Slot} (E9 : lawE p l s m args c D cI cJ sb LN xs) (x0 : Nat) (a b : Nat → Nat) (f f2 : Nat → Int32) (r r2 : Nat → Nat → Int32) (q : Nat) (v : Nat → Int64) (mb : Nat → Nat) (g nw kp : Nat → Int32) (i : Nat) (hi : i + 2 < LN) (hcc : cells + 1 ≤ room_1.cells) (hss : slots + 11 ≤ room_1.slots) (hl : lv_has ls 9 [(4, .int (nI i)), (3, .ref q), (2, .ref (mb 0)), (1, .ref x0), (0, .ref sb)]) (hP : va_P D vwCl (XO x0 a b ++ (DC cI a f r ++ (DC cI b f2 r2 ++ (OUT cJ q v ++ MC cI mb g nw kp)))) H) (hD : va_D (lwA s) (XO x0 a b ++ (DC cI a f r ++ (DC cI b f2 r2 ++ (OUT cJ q v ++ MC cI mb g nw kp))))) (hS : va_S (lwA s) s.heap H locs) (gg : Nat) (x : Nat) (w : Nat) (hx1 : xs (i + 1) = nI x) (hx2 : xs (i + 2) = nI w) (hg : f 0 = nI gg) (hg2 : gg ≤ 10) (hg0 : 0 < gg) (ux : x < gg) (w1 : 1 ≤ w) (w2 : w ≤ 9) (hans : (mCgh nw (nI x) (nI w) : Int32) = dCough f (nI x) (nI w)) (hgm : g 1 = nI gg)
    (kk : ∀ (f9 : Nat → Int32) (r9 : Nat → Nat → Int32) (v9 : Nat → Int64) (g9 kp9 : Nat → Int32) (H1 : Heap) (locs1 : List Loc) (ls1 : Array Slot), g9 1 = g 1 → g9 2 = g 2 → va_P D vwCl (XO x0 a b ++ (DC cI a (dLetCough f r x (nI w)).1 (dLetCough f r x (nI w)).2 ++ (DC cI b f9 r9 ++ (OUT cJ q v9 ++ MC cI mb g9 (mCough nw x (nI w)) kp9)))) H1 → va_D (lwA s) (XO x0 a b ++ (DC cI a (dLetCough f r x (nI w)).1 (dLetCough f r x (nI w)).2 ++ (DC cI b f9 r9 ++ (OUT cJ q v9 ++ MC cI mb g9 (mCough nw x (nI w)) kp9)))) → va_S (lwA s) s.heap H1 locs1 → lv_has ls1 9 [(4, .int (nI i)), (3, .ref q), (2, .ref (mb 0)), (1, .ref x0), (0, .ref sb)] → W p l e room_1 s m args below meth c H1 locs1 (cells + 1) (slots + 11) Q (F0 m 1548 ls1 [])) : W p l e room_1 s m args below meth c H locs cells slots Q (F0 m 368 ls []) := by
  obtain ⟨⟨hx, hb, hml, hown, hts⟩, hN, hE, hZ, hK, hX, hbl, hlt, hLN⟩ := E9
  have hA : ∀ q : Nat, s.heap.size ≤ q → lwA s q := fun _ h => h
  have hK1 : va_K D vwCl [(cI, .int)] s := hK.sub [0] rfl
  refine lv_aload_n hx hb dL_law_368 rfl (lv_at hl 3 rfl) ?_
  refine lv_aload_n hx hb dL_law_369 rfl (lv_at hl 4 rfl) ?_
  refine lv_iload hx hb dL_law_370 (lv_at hl 0 rfl) ?_
  refine lv_iconst (v := 1) hx hb dL_law_372 (by decide) ?_
  refine lv_iadd hx hb dL_law_373 ?_
  refine wTop (z := nI (i + 1)) (nI_add i 1) ?_
  refine wSld hx hb hX hbl hS (i + 1) (by omega) hLN hx1 dL_law_374 ?_
  refine lv_aload_n hx hb dL_law_375 rfl (lv_at hl 4 rfl) ?_
  refine lv_iload hx hb dL_law_376 (lv_at hl 0 rfl) ?_
  refine lv_iconst (v := 2) hx hb dL_law_378 (by decide) ?_
  refine lv_iadd hx hb dL_law_379 ?_
  refine wTop (z := nI (i + 2)) (nI_add i 2) ?_
  refine wSld hx hb hX hbl hS (i + 2) (by omega) hLN hx2 dL_law_380 ?_
  refine lv_aload_n hx hb dL_law_381 rfl (lv_at hl 1 rfl) ?_
  refine wLW (pre := ([] : va_W)) (Wc := XO x0 a b ++ (DC cI a f r ++ (DC cI b f2 r2 ++ OUT cJ q v))) (suf := MC cI mb g nw kp) (As := [.ref x0, .int (nI x), .int (nI w), .ref q]) (rest := []) ⟨hx, hb, hml, hown, hts⟩ (mL_cough l D cI cJ x0 a b f f2 r r2 q v gg x w _ hg hg2 hg0 ux w1 w2) hN hE hZ hA hK hS hP hD rfl (vx_cwSW 4 hts gL_law_L_cough rfl rfl rfl (by decide +kernel) ⟨Nat.le_of_ble_eq_true rfl, Nat.le_of_ble_eq_true rfl⟩) rfl hl.1 rfl (Nat.le_of_ble_eq_true rfl) dL_law_382 ⟨by omega, by omega⟩ (fun r_382 u_382 H locs hw hP hD hS => ?_)
  have hw : r_382 = 0 := hw
  subst hw
  have hP : va_P D vwCl (XO x0 a b ++ (DC cI a (dLetCough f r x (nI w)).1 (dLetCough f r x (nI w)).2 ++ (DC cI b f2 r2 ++ (OUT cJ q (vp_updL v 0 ((dCough f (nI x) (nI w)).toInt64)) ++ MC cI mb g nw kp)))) H := hP
  have hD : va_D (lwA s) (XO x0 a b ++ (DC cI a (dLetCough f r x (nI w)).1 (dLetCough f r x (nI w)).2 ++ (DC cI b f2 r2 ++ (OUT cJ q (vp_updL v 0 ((dCough f (nI x) (nI w)).toInt64)) ++ MC cI mb g nw kp)))) := hD
  refine lv_istore (lv' := [(5, .int 0), (4, .int (nI i)), (3, .ref q), (2, .ref (mb 0)), (1, .ref x0), (0, .ref sb)]) hx hb dL_law_385 hl (by decide) rfl (fun ls hl => ?_)
  refine lv_aload_n hx hb dL_law_387 rfl (lv_at hl 3 rfl) ?_
  refine lv_aload_n hx hb dL_law_388 rfl (lv_at hl 5 rfl) ?_
  refine lv_iload hx hb dL_law_389 (lv_at hl 1 rfl) ?_
  refine lv_iconst (v := 1) hx hb dL_law_391 (by decide) ?_
  refine lv_iadd hx hb dL_law_392 ?_
  refine wTop (z := nI (i + 1)) (nI_add i 1) ?_
  refine wSld hx hb hX hbl hS (i + 1) (by omega) hLN hx1 dL_law_393 ?_
  refine lv_aload_n hx hb dL_law_394 rfl (lv_at hl 5 rfl) ?_
  refine lv_iload hx hb dL_law_395 (lv_at hl 1 rfl) ?_
  refine lv_iconst (v := 2) hx hb dL_law_397 (by decide) ?_
  refine lv_iadd hx hb dL_law_398 ?_
  refine wTop (z := nI (i + 2)) (nI_add i 2) ?_
  refine wSld hx hb hX hbl hS (i + 2) (by omega) hLN hx2 dL_law_399 ?_
  refine wCVi (pre := XO x0 a b ++ (DC cI a (dLetCough f r x (nI w)).1 (dLetCough f r x (nI w)).2 ++ (DC cI b f2 r2 ++ OUT cJ q (vp_updL v 0 ((dCough f (nI x) (nI w)).toInt64))))) (Wc := MC cI mb g nw kp) (suf := ([] : va_W)) (As := [.int (nI x), .int (nI w)]) (rest := []) ⟨hx, hb, hml, hown, hts⟩ (mX2_cough l D cI mb g nw kp gg x w _ hgm hg2 hg0 ux w1 w2) hN hA hK1 hS hP hD rfl 0 (r := (RX2, TX2, 7)) rfl rfl (cwV 2 hts gL_law_X2_cough rfl rfl rfl (by decide +kernel) ⟨Nat.le_of_ble_eq_true rfl, Nat.le_of_ble_eq_true rfl⟩) rfl hl.1 rfl (Nat.le_of_ble_eq_true rfl) dL_law_400 ⟨by omega, by omega⟩ (fun r_400 u_400 H locs hw hP hD hS => ?_)
  have hw : r_400 = mCgh nw (nI x) (nI w) := hw
  subst hw
  have hP : va_P D vwCl (XO x0 a b ++ (DC cI a (dLetCough f r x (nI w)).1 (dLetCough f r x (nI w)).2 ++ (DC cI b f2 r2 ++ (OUT cJ q (vp_updL v 0 ((dCough f (nI x) (nI w)).toInt64)) ++ MC cI mb (upd g 0 0) (mCough nw x (nI w)) kp)))) H := hP
  have hD : va_D (lwA s) (XO x0 a b ++ (DC cI a (dLetCough f r x (nI w)).1 (dLetCough f r x (nI w)).2 ++ (DC cI b f2 r2 ++ (OUT cJ q (vp_updL v 0 ((dCough f (nI x) (nI w)).toInt64)) ++ MC cI mb (upd g 0 0) (mCough nw x (nI w)) kp)))) := hD
  refine wTop (z := (dCough f (nI x) (nI w))) (hans) ?_
  refine lv_istore (lv' := [(6, .int (dCough f (nI x) (nI w))), (5, .int 0), (4, .int (nI i)), (3, .ref q), (2, .ref (mb 0)), (1, .ref x0), (0, .ref sb)]) hx hb dL_law_403 hl (by decide) rfl (fun ls hl => ?_)
  refine lv_aload_n hx hb dL_law_405 rfl (lv_at hl 4 rfl) ?_
  refine wCVi (pre := XO x0 a b ++ (DC cI a (dLetCough f r x (nI w)).1 (dLetCough f r x (nI w)).2 ++ (DC cI b f2 r2 ++ OUT cJ q (vp_updL v 0 ((dCough f (nI x) (nI w)).toInt64))))) (Wc := MC cI mb (upd g 0 0) (mCough nw x (nI w)) kp) (suf := ([] : va_W)) (As := []) (rest := []) ⟨hx, hb, hml, hown, hts⟩ (mX2_thrown l D cI mb (upd g 0 0) (mCough nw x (nI w)) kp _ ) hN hA hK1 hS hP hD rfl 0 (r := (RX2, TX2, 7)) rfl rfl (cwV 0 hts gL_law_X2_thrown rfl rfl rfl (by decide +kernel) ⟨Nat.le_of_ble_eq_true rfl, Nat.le_of_ble_eq_true rfl⟩) rfl hl.1 rfl (Nat.le_of_ble_eq_true rfl) dL_law_406 ⟨by omega, by omega⟩ (fun r_406 u_406 H locs hw hP hD hS => ?_)
  have hw : r_406 = (upd g 0 0) 0 := hw
  subst hw
  have hP : va_P D vwCl (XO x0 a b ++ (DC cI a (dLetCough f r x (nI w)).1 (dLetCough f r x (nI w)).2 ++ (DC cI b f2 r2 ++ (OUT cJ q (vp_updL v 0 ((dCough f (nI x) (nI w)).toInt64)) ++ MC cI mb (upd g 0 0) (mCough nw x (nI w)) kp)))) H := hP
  have hD : va_D (lwA s) (XO x0 a b ++ (DC cI a (dLetCough f r x (nI w)).1 (dLetCough f r x (nI w)).2 ++ (DC cI b f2 r2 ++ (OUT cJ q (vp_updL v 0 ((dCough f (nI x) (nI w)).toInt64)) ++ MC cI mb (upd g 0 0) (mCough nw x (nI w)) kp)))) := hD
  refine wTop (z := 0) (by simp (disch := omega) only [mUp, mUs]) ?_
  refine lv_iload hx hb dL_law_409 (lv_at hl 1 rfl) ?_
  refine lv_icmp_eq (tgt := 416) hx hb dL_law_411 (by decide) (fun c_411 => ?_) (fun h9 => absurd (by decide) h9)
  refine lv_iload hx hb dL_law_416 (lv_at hl 1 rfl) ?_
  refine lv_if_ne (tgt := 433) hx hb dL_law_418 (by decide) (fun h9 => absurd (by decide) h9) (fun c_418 => ?_)
  refine lv_aload_n hx hb dL_law_421 rfl (lv_at hl 3 rfl) ?_
  refine lv_iconst (v := 0) hx hb dL_law_422 (by decide) ?_
  refine wLald hx hb hK hP 17 1 rfl rfl (z := ((dCough f (nI x) (nI w)).toInt64)) (pk_uLs) dL_law_423 ?_
  refine lv_iload hx hb dL_law_424 (lv_at hl 0 rfl) ?_
  refine lv_i2l hx hb dL_law_426 rfl ?_
  refine W.lcmp hx hb dL_law_427 ?_
  refine wTop (z := 0) (lcmp_self _) ?_
  refine lv_if_eq (tgt := 433) hx hb dL_law_428 (by decide) (fun c_428 => ?_) (fun h9 => absurd (by decide) h9)
  refine lv_goto (tgt := 1548) hx hb dL_law_433 (by decide) ?_
  exact W.widen (k := cells + 1) (n := slots + 11) (by omega) (by omega) (kk _ _ _ _ _ _ _ _ (by simp (disch := omega) only [mUp, mUs]) (by simp (disch := omega) only [mUp, mUs]) hP hD hS (lv_sub hl [2, 3, 4, 5, 6] rfl))
set_option maxRecDepth 100000 in
set_option maxHeartbeats 4000000 in
theorem lc_cough1 {p : Program} {l : Launch} {e : Env} {s : State} {m : MethodId} {args : Array Value} {below : List Frame} {meth : Method} {c : Code} {D : va_G} {cI cJ : ClassId} {sb LN : Nat} {xs : Nat → Int32} {H : Heap} {locs : List Loc} {cells slots : Nat} {Q : State → Prop} {ls : Array Slot} (E9 : lawE p l s m args c D cI cJ sb LN xs) (x0 : Nat) (a b : Nat → Nat) (f f2 : Nat → Int32) (r r2 : Nat → Nat → Int32) (q : Nat) (v : Nat → Int64) (mb : Nat → Nat) (g nw kp : Nat → Int32) (i : Nat) (hi : i + 2 < LN) (hcc : cells + 1 ≤ room_1.cells) (hss : slots + 11 ≤ room_1.slots) (hl : lv_has ls 9 [(4, .int (nI i)), (3, .ref q), (2, .ref (mb 0)), (1, .ref x0), (0, .ref sb)]) (hP : va_P D vwCl (XO x0 a b ++ (DC cI a f r ++ (DC cI b f2 r2 ++ (OUT cJ q v ++ MC cI mb g nw kp)))) H) (hD : va_D (lwA s) (XO x0 a b ++ (DC cI a f r ++ (DC cI b f2 r2 ++ (OUT cJ q v ++ MC cI mb g nw kp))))) (hS : va_S (lwA s) s.heap H locs) (x : Int32) (y : Int32) (gg : Nat) (hx1 : xs (i + 1) = x) (hx2 : xs (i + 2) = y) (hbad : x < 0 ∨ f 0 ≤ x) (hg : g 1 = nI gg) (hg2 : gg ≤ 10) (hg0 : 0 < gg) (hbadm : ¬ (0 ≤ x ∧ x < nI gg))
    (kk : ∀ (f9 : Nat → Int32) (r9 : Nat → Nat → Int32) (v9 : Nat → Int64) (g9 kp9 : Nat → Int32) (H1 : Heap) (locs1 : List Loc) (ls1 : Array Slot), g9 1 = g 1 → g9 2 = g 2 → va_P D vwCl (XO x0 a b ++ (DC cI a f r ++ (DC cI b f9 r9 ++ (OUT cJ q v9 ++ MC cI mb g9 nw kp9)))) H1 → va_D (lwA s) (XO x0 a b ++ (DC cI a f r ++ (DC cI b f9 r9 ++ (OUT cJ q v9 ++ MC cI mb g9 nw kp9)))) → va_S (lwA s) s.heap H1 locs1 → lv_has ls1 9 [(4, .int (nI i)), (3, .ref q), (2, .ref (mb 0)), (1, .ref x0), (0, .ref sb)] → W p l e room_1 s m args below meth c H1 locs1 (cells + 1) (slots + 11) Q (F0 m 1548 ls1 [])) : W p l e room_1 s m args below meth c H locs cells slots Q (F0 m 368 ls []) := by
  obtain ⟨⟨hx, hb, hml, hown, hts⟩, hN, hE, hZ, hK, hX, hbl, hlt, hLN⟩ := E9
  have hA : ∀ q : Nat, s.heap.size ≤ q → lwA s q := fun _ h => h
  have hK1 : va_K D vwCl [(cI, .int)] s := hK.sub [0] rfl
  refine lv_aload_n hx hb dL_law_368 rfl (lv_at hl 3 rfl) ?_
  refine lv_aload_n hx hb dL_law_369 rfl (lv_at hl 4 rfl) ?_
  refine lv_iload hx hb dL_law_370 (lv_at hl 0 rfl) ?_
  refine lv_iconst (v := 1) hx hb dL_law_372 (by decide) ?_
  refine lv_iadd hx hb dL_law_373 ?_
  refine wTop (z := nI (i + 1)) (nI_add i 1) ?_
  refine wSld hx hb hX hbl hS (i + 1) (by omega) hLN hx1 dL_law_374 ?_
  refine lv_aload_n hx hb dL_law_375 rfl (lv_at hl 4 rfl) ?_
  refine lv_iload hx hb dL_law_376 (lv_at hl 0 rfl) ?_
  refine lv_iconst (v := 2) hx hb dL_law_378 (by decide) ?_
  refine lv_iadd hx hb dL_law_379 ?_
  refine wTop (z := nI (i + 2)) (nI_add i 2) ?_
  refine wSld hx hb hX hbl hS (i + 2) (by omega) hLN hx2 dL_law_380 ?_
  refine lv_aload_n hx hb dL_law_381 rfl (lv_at hl 1 rfl) ?_
  refine wLW (pre := ([] : va_W)) (Wc := XO x0 a b ++ (DC cI a f r ++ (DC cI b f2 r2 ++ OUT cJ q v))) (suf := MC cI mb g nw kp) (As := [.ref x0, .int x, .int y, .ref q]) (rest := []) ⟨hx, hb, hml, hown, hts⟩ (mL_cough1 l D cI cJ x0 a b f f2 r r2 q v x y _ hlt hbad) hN hE hZ hA hK hS hP hD rfl (vx_cwSW 4 hts gL_law_L_cough rfl rfl rfl (by decide +kernel) ⟨Nat.le_of_ble_eq_true rfl, Nat.le_of_ble_eq_true rfl⟩) rfl hl.1 rfl (Nat.le_of_ble_eq_true rfl) dL_law_382 ⟨by omega, by omega⟩ (fun r_382 u_382 H locs hw hP hD hS => ?_)
  have hw : r_382 = 1 := hw
  subst hw
  have hP : va_P D vwCl (XO x0 a b ++ (DC cI a f r ++ (DC cI b f2 r2 ++ (OUT cJ q v ++ MC cI mb g nw kp)))) H := hP
  have hD : va_D (lwA s) (XO x0 a b ++ (DC cI a f r ++ (DC cI b f2 r2 ++ (OUT cJ q v ++ MC cI mb g nw kp)))) := hD
  refine lv_istore (lv' := [(5, .int 1), (4, .int (nI i)), (3, .ref q), (2, .ref (mb 0)), (1, .ref x0), (0, .ref sb)]) hx hb dL_law_385 hl (by decide) rfl (fun ls hl => ?_)
  refine lv_aload_n hx hb dL_law_387 rfl (lv_at hl 3 rfl) ?_
  refine lv_aload_n hx hb dL_law_388 rfl (lv_at hl 5 rfl) ?_
  refine lv_iload hx hb dL_law_389 (lv_at hl 1 rfl) ?_
  refine lv_iconst (v := 1) hx hb dL_law_391 (by decide) ?_
  refine lv_iadd hx hb dL_law_392 ?_
  refine wTop (z := nI (i + 1)) (nI_add i 1) ?_
  refine wSld hx hb hX hbl hS (i + 1) (by omega) hLN hx1 dL_law_393 ?_
  refine lv_aload_n hx hb dL_law_394 rfl (lv_at hl 5 rfl) ?_
  refine lv_iload hx hb dL_law_395 (lv_at hl 1 rfl) ?_
  refine lv_iconst (v := 2) hx hb dL_law_397 (by decide) ?_
  refine lv_iadd hx hb dL_law_398 ?_
  refine wTop (z := nI (i + 2)) (nI_add i 2) ?_
  refine wSld hx hb hX hbl hS (i + 2) (by omega) hLN hx2 dL_law_399 ?_
  refine wCVi (pre := XO x0 a b ++ (DC cI a f r ++ (DC cI b f2 r2 ++ OUT cJ q v))) (Wc := MC cI mb g nw kp) (suf := ([] : va_W)) (As := [.int x, .int y]) (rest := []) ⟨hx, hb, hml, hown, hts⟩ (mX2_cough1 l D cI mb g nw kp gg x y _ hg hg2 hg0 hbadm) hN hA hK1 hS hP hD rfl 0 (r := (RX2, TX2, 7)) rfl rfl (cwV 2 hts gL_law_X2_cough rfl rfl rfl (by decide +kernel) ⟨Nat.le_of_ble_eq_true rfl, Nat.le_of_ble_eq_true rfl⟩) rfl hl.1 rfl (Nat.le_of_ble_eq_true rfl) dL_law_400 ⟨by omega, by omega⟩ (fun r_400 u_400 H locs hw hP hD hS => ?_)
  have hw : r_400 = 0 := hw
  subst hw
  have hP : va_P D vwCl (XO x0 a b ++ (DC cI a f r ++ (DC cI b f2 r2 ++ (OUT cJ q v ++ MC cI mb (upd g 0 1) nw kp)))) H := hP
  have hD : va_D (lwA s) (XO x0 a b ++ (DC cI a f r ++ (DC cI b f2 r2 ++ (OUT cJ q v ++ MC cI mb (upd g 0 1) nw kp)))) := hD
  refine lv_istore (lv' := [(6, .int 0), (5, .int 1), (4, .int (nI i)), (3, .ref q), (2, .ref (mb 0)), (1, .ref x0), (0, .ref sb)]) hx hb dL_law_403 hl (by decide) rfl (fun ls hl => ?_)
  refine lv_aload_n hx hb dL_law_405 rfl (lv_at hl 4 rfl) ?_
  refine wCVi (pre := XO x0 a b ++ (DC cI a f r ++ (DC cI b f2 r2 ++ OUT cJ q v))) (Wc := MC cI mb (upd g 0 1) nw kp) (suf := ([] : va_W)) (As := []) (rest := []) ⟨hx, hb, hml, hown, hts⟩ (mX2_thrown l D cI mb (upd g 0 1) nw kp _ ) hN hA hK1 hS hP hD rfl 0 (r := (RX2, TX2, 7)) rfl rfl (cwV 0 hts gL_law_X2_thrown rfl rfl rfl (by decide +kernel) ⟨Nat.le_of_ble_eq_true rfl, Nat.le_of_ble_eq_true rfl⟩) rfl hl.1 rfl (Nat.le_of_ble_eq_true rfl) dL_law_406 ⟨by omega, by omega⟩ (fun r_406 u_406 H locs hw hP hD hS => ?_)
  have hw : r_406 = (upd g 0 1) 0 := hw
  subst hw
  have hP : va_P D vwCl (XO x0 a b ++ (DC cI a f r ++ (DC cI b f2 r2 ++ (OUT cJ q v ++ MC cI mb (upd g 0 1) nw kp)))) H := hP
  have hD : va_D (lwA s) (XO x0 a b ++ (DC cI a f r ++ (DC cI b f2 r2 ++ (OUT cJ q v ++ MC cI mb (upd g 0 1) nw kp)))) := hD
  refine wTop (z := 1) (by simp (disch := omega) only [mUp, mUs]) ?_
  refine lv_iload hx hb dL_law_409 (lv_at hl 1 rfl) ?_
  refine lv_icmp_eq (tgt := 416) hx hb dL_law_411 (by decide) (fun c_411 => ?_) (fun h9 => absurd (by decide) h9)
  refine lv_iload hx hb dL_law_416 (lv_at hl 1 rfl) ?_
  refine lv_if_ne (tgt := 433) hx hb dL_law_418 (by decide) (fun c_418 => ?_) (fun h9 => absurd h9 (by decide))
  refine lv_goto (tgt := 1548) hx hb dL_law_433 (by decide) ?_
  exact W.widen (k := cells + 1) (n := slots + 11) (by omega) (by omega) (kk _ _ _ _ _ _ _ _ (by simp (disch := omega) only [mUp, mUs]) (by simp (disch := omega) only [mUp, mUs]) hP hD hS (lv_sub hl [2, 3, 4, 5, 6] rfl))
set_option maxRecDepth 100000 in
set_option maxHeartbeats 4000000 in
theorem lc_cough2 {p : Program} {l : Launch} {e : Env} {s : State} {m : MethodId} {args : Array Value} {below : List Frame} {meth : Method} {c : Code} {D : va_G} {cI cJ : ClassId} {sb LN : Nat} {xs : Nat → Int32} {H : Heap} {locs : List Loc} {cells slots : Nat} {Q : State → Prop} {ls : Array Slot} (E9 : lawE p l s m args c D cI cJ sb LN xs) (x0 : Nat) (a b : Nat → Nat) (f f2 : Nat → Int32) (r r2 : Nat → Nat → Int32) (q : Nat) (v : Nat → Int64) (mb : Nat → Nat) (g nw kp : Nat → Int32) (i : Nat) (hi : i + 2 < LN) (hcc : cells + 1 ≤ room_1.cells) (hss : slots + 11 ≤ room_1.slots) (hl : lv_has ls 9 [(4, .int (nI i)), (3, .ref q), (2, .ref (mb 0)), (1, .ref x0), (0, .ref sb)]) (hP : va_P D vwCl (XO x0 a b ++ (DC cI a f r ++ (DC cI b f2 r2 ++ (OUT cJ q v ++ MC cI mb g nw kp)))) H) (hD : va_D (lwA s) (XO x0 a b ++ (DC cI a f r ++ (DC cI b f2 r2 ++ (OUT cJ q v ++ MC cI mb g nw kp))))) (hS : va_S (lwA s) s.heap H locs) (gg : Nat) (x : Nat) (w : Int32) (hx1 : xs (i + 1) = nI x) (hx2 : xs (i + 2) = w) (hg : f 0 = nI gg) (hg2 : gg ≤ 10) (hg0 : 0 < gg) (ux : x < gg) (hbad : w < 1 ∨ 9 < w) (hgm : g 1 = nI gg) (hbadm : ¬ (1 ≤ w ∧ w ≤ 9))
    (kk : ∀ (f9 : Nat → Int32) (r9 : Nat → Nat → Int32) (v9 : Nat → Int64) (g9 kp9 : Nat → Int32) (H1 : Heap) (locs1 : List Loc) (ls1 : Array Slot), g9 1 = g 1 → g9 2 = g 2 → va_P D vwCl (XO x0 a b ++ (DC cI a f r ++ (DC cI b f9 r9 ++ (OUT cJ q v9 ++ MC cI mb g9 nw kp9)))) H1 → va_D (lwA s) (XO x0 a b ++ (DC cI a f r ++ (DC cI b f9 r9 ++ (OUT cJ q v9 ++ MC cI mb g9 nw kp9)))) → va_S (lwA s) s.heap H1 locs1 → lv_has ls1 9 [(4, .int (nI i)), (3, .ref q), (2, .ref (mb 0)), (1, .ref x0), (0, .ref sb)] → W p l e room_1 s m args below meth c H1 locs1 (cells + 1) (slots + 11) Q (F0 m 1548 ls1 [])) : W p l e room_1 s m args below meth c H locs cells slots Q (F0 m 368 ls []) := by
  obtain ⟨⟨hx, hb, hml, hown, hts⟩, hN, hE, hZ, hK, hX, hbl, hlt, hLN⟩ := E9
  have hA : ∀ q : Nat, s.heap.size ≤ q → lwA s q := fun _ h => h
  have hK1 : va_K D vwCl [(cI, .int)] s := hK.sub [0] rfl
  refine lv_aload_n hx hb dL_law_368 rfl (lv_at hl 3 rfl) ?_
  refine lv_aload_n hx hb dL_law_369 rfl (lv_at hl 4 rfl) ?_
  refine lv_iload hx hb dL_law_370 (lv_at hl 0 rfl) ?_
  refine lv_iconst (v := 1) hx hb dL_law_372 (by decide) ?_
  refine lv_iadd hx hb dL_law_373 ?_
  refine wTop (z := nI (i + 1)) (nI_add i 1) ?_
  refine wSld hx hb hX hbl hS (i + 1) (by omega) hLN hx1 dL_law_374 ?_
  refine lv_aload_n hx hb dL_law_375 rfl (lv_at hl 4 rfl) ?_
  refine lv_iload hx hb dL_law_376 (lv_at hl 0 rfl) ?_
  refine lv_iconst (v := 2) hx hb dL_law_378 (by decide) ?_
  refine lv_iadd hx hb dL_law_379 ?_
  refine wTop (z := nI (i + 2)) (nI_add i 2) ?_
  refine wSld hx hb hX hbl hS (i + 2) (by omega) hLN hx2 dL_law_380 ?_
  refine lv_aload_n hx hb dL_law_381 rfl (lv_at hl 1 rfl) ?_
  refine wLW (pre := ([] : va_W)) (Wc := XO x0 a b ++ (DC cI a f r ++ (DC cI b f2 r2 ++ OUT cJ q v))) (suf := MC cI mb g nw kp) (As := [.ref x0, .int (nI x), .int w, .ref q]) (rest := []) ⟨hx, hb, hml, hown, hts⟩ (mL_cough2 l D cI cJ x0 a b f f2 r r2 q v gg x w _ hlt hg hg2 hg0 ux hbad) hN hE hZ hA hK hS hP hD rfl (vx_cwSW 4 hts gL_law_L_cough rfl rfl rfl (by decide +kernel) ⟨Nat.le_of_ble_eq_true rfl, Nat.le_of_ble_eq_true rfl⟩) rfl hl.1 rfl (Nat.le_of_ble_eq_true rfl) dL_law_382 ⟨by omega, by omega⟩ (fun r_382 u_382 H locs hw hP hD hS => ?_)
  have hw : r_382 = 2 := hw
  subst hw
  have hP : va_P D vwCl (XO x0 a b ++ (DC cI a f r ++ (DC cI b f2 r2 ++ (OUT cJ q v ++ MC cI mb g nw kp)))) H := hP
  have hD : va_D (lwA s) (XO x0 a b ++ (DC cI a f r ++ (DC cI b f2 r2 ++ (OUT cJ q v ++ MC cI mb g nw kp)))) := hD
  refine lv_istore (lv' := [(5, .int 2), (4, .int (nI i)), (3, .ref q), (2, .ref (mb 0)), (1, .ref x0), (0, .ref sb)]) hx hb dL_law_385 hl (by decide) rfl (fun ls hl => ?_)
  refine lv_aload_n hx hb dL_law_387 rfl (lv_at hl 3 rfl) ?_
  refine lv_aload_n hx hb dL_law_388 rfl (lv_at hl 5 rfl) ?_
  refine lv_iload hx hb dL_law_389 (lv_at hl 1 rfl) ?_
  refine lv_iconst (v := 1) hx hb dL_law_391 (by decide) ?_
  refine lv_iadd hx hb dL_law_392 ?_
  refine wTop (z := nI (i + 1)) (nI_add i 1) ?_
  refine wSld hx hb hX hbl hS (i + 1) (by omega) hLN hx1 dL_law_393 ?_
  refine lv_aload_n hx hb dL_law_394 rfl (lv_at hl 5 rfl) ?_
  refine lv_iload hx hb dL_law_395 (lv_at hl 1 rfl) ?_
  refine lv_iconst (v := 2) hx hb dL_law_397 (by decide) ?_
  refine lv_iadd hx hb dL_law_398 ?_
  refine wTop (z := nI (i + 2)) (nI_add i 2) ?_
  refine wSld hx hb hX hbl hS (i + 2) (by omega) hLN hx2 dL_law_399 ?_
  refine wCVi (pre := XO x0 a b ++ (DC cI a f r ++ (DC cI b f2 r2 ++ OUT cJ q v))) (Wc := MC cI mb g nw kp) (suf := ([] : va_W)) (As := [.int (nI x), .int w]) (rest := []) ⟨hx, hb, hml, hown, hts⟩ (mX2_cough2 l D cI mb g nw kp gg x w _ hgm hg2 hg0 ux hbadm) hN hA hK1 hS hP hD rfl 0 (r := (RX2, TX2, 7)) rfl rfl (cwV 2 hts gL_law_X2_cough rfl rfl rfl (by decide +kernel) ⟨Nat.le_of_ble_eq_true rfl, Nat.le_of_ble_eq_true rfl⟩) rfl hl.1 rfl (Nat.le_of_ble_eq_true rfl) dL_law_400 ⟨by omega, by omega⟩ (fun r_400 u_400 H locs hw hP hD hS => ?_)
  have hw : r_400 = 0 := hw
  subst hw
  have hP : va_P D vwCl (XO x0 a b ++ (DC cI a f r ++ (DC cI b f2 r2 ++ (OUT cJ q v ++ MC cI mb (upd g 0 2) nw kp)))) H := hP
  have hD : va_D (lwA s) (XO x0 a b ++ (DC cI a f r ++ (DC cI b f2 r2 ++ (OUT cJ q v ++ MC cI mb (upd g 0 2) nw kp)))) := hD
  refine lv_istore (lv' := [(6, .int 0), (5, .int 2), (4, .int (nI i)), (3, .ref q), (2, .ref (mb 0)), (1, .ref x0), (0, .ref sb)]) hx hb dL_law_403 hl (by decide) rfl (fun ls hl => ?_)
  refine lv_aload_n hx hb dL_law_405 rfl (lv_at hl 4 rfl) ?_
  refine wCVi (pre := XO x0 a b ++ (DC cI a f r ++ (DC cI b f2 r2 ++ OUT cJ q v))) (Wc := MC cI mb (upd g 0 2) nw kp) (suf := ([] : va_W)) (As := []) (rest := []) ⟨hx, hb, hml, hown, hts⟩ (mX2_thrown l D cI mb (upd g 0 2) nw kp _ ) hN hA hK1 hS hP hD rfl 0 (r := (RX2, TX2, 7)) rfl rfl (cwV 0 hts gL_law_X2_thrown rfl rfl rfl (by decide +kernel) ⟨Nat.le_of_ble_eq_true rfl, Nat.le_of_ble_eq_true rfl⟩) rfl hl.1 rfl (Nat.le_of_ble_eq_true rfl) dL_law_406 ⟨by omega, by omega⟩ (fun r_406 u_406 H locs hw hP hD hS => ?_)
  have hw : r_406 = (upd g 0 2) 0 := hw
  subst hw
  have hP : va_P D vwCl (XO x0 a b ++ (DC cI a f r ++ (DC cI b f2 r2 ++ (OUT cJ q v ++ MC cI mb (upd g 0 2) nw kp)))) H := hP
  have hD : va_D (lwA s) (XO x0 a b ++ (DC cI a f r ++ (DC cI b f2 r2 ++ (OUT cJ q v ++ MC cI mb (upd g 0 2) nw kp)))) := hD
  refine wTop (z := 2) (by simp (disch := omega) only [mUp, mUs]) ?_
  refine lv_iload hx hb dL_law_409 (lv_at hl 1 rfl) ?_
  refine lv_icmp_eq (tgt := 416) hx hb dL_law_411 (by decide) (fun c_411 => ?_) (fun h9 => absurd (by decide) h9)
  refine lv_iload hx hb dL_law_416 (lv_at hl 1 rfl) ?_
  refine lv_if_ne (tgt := 433) hx hb dL_law_418 (by decide) (fun c_418 => ?_) (fun h9 => absurd h9 (by decide))
  refine lv_goto (tgt := 1548) hx hb dL_law_433 (by decide) ?_
  exact W.widen (k := cells + 1) (n := slots + 11) (by omega) (by omega) (kk _ _ _ _ _ _ _ _ (by simp (disch := omega) only [mUp, mUs]) (by simp (disch := omega) only [mUp, mUs]) hP hD hS (lv_sub hl [2, 3, 4, 5, 6] rfl))
set_option maxRecDepth 100000 in
set_option maxHeartbeats 4000000 in
theorem lc_glance {p : Program} {l : Launch} {e : Env} {s : State} {m : MethodId} {args : Array Value} {below : List Frame} {meth : Method} {c : Code} {D : va_G} {cI cJ : ClassId} {sb LN : Nat} {xs : Nat → Int32} {H : Heap} {locs : List Loc} {cells slots : Nat} {Q : State → Prop} {ls : Array Slot} (E9 : lawE p l s m args c D cI cJ sb LN xs) (x0 : Nat) (a b : Nat → Nat) (f f2 : Nat → Int32) (r r2 : Nat → Nat → Int32) (q : Nat) (v : Nat → Int64) (mb : Nat → Nat) (g nw kp : Nat → Int32) (i : Nat) (hi : i + 2 < LN) (hcc : cells + 1 ≤ room_1.cells) (hss : slots + 11 ≤ room_1.slots) (hl : lv_has ls 9 [(4, .int (nI i)), (3, .ref q), (2, .ref (mb 0)), (1, .ref x0), (0, .ref sb)]) (hP : va_P D vwCl (XO x0 a b ++ (DC cI a f r ++ (DC cI b f2 r2 ++ (OUT cJ q v ++ MC cI mb g nw kp)))) H) (hD : va_D (lwA s) (XO x0 a b ++ (DC cI a f r ++ (DC cI b f2 r2 ++ (OUT cJ q v ++ MC cI mb g nw kp))))) (hS : va_S (lwA s) s.heap H locs) (gg : Nat) (x : Nat) (y : Nat) (n : Nat) (hx1 : xs (i + 1) = nI x) (hx2 : xs (i + 2) = nI y) (hg : f 0 = nI gg) (hg2 : gg ≤ 10) (hg0 : 0 < gg) (ux : x < gg) (uy : y < gg) (hne : ¬ nI x = nI y) (hfree : r 4 (x * 10 + y) = -1) (hn : f 9 = nI n) (hn1 : n < 100) (hans : (mSend (g 1) nw x y (48 + (10 * x + y)) : Int32) = 2 * dSeats (f 0) (nI x) (nI y)) (hgm : g 1 = nI gg) (hcode : mCode nw x y = 0)
    (kk : ∀ (f9 : Nat → Int32) (r9 : Nat → Nat → Int32) (v9 : Nat → Int64) (g9 kp9 : Nat → Int32) (H1 : Heap) (locs1 : List Loc) (ls1 : Array Slot), g9 1 = g 1 → g9 2 = g 2 → va_P D vwCl (XO x0 a b ++ (DC cI a (dSend f r x y n).1 (dSend f r x y n).2 ++ (DC cI b f9 r9 ++ (OUT cJ q v9 ++ MC cI mb g9 (mSend (g 1) nw x y) kp9)))) H1 → va_D (lwA s) (XO x0 a b ++ (DC cI a (dSend f r x y n).1 (dSend f r x y n).2 ++ (DC cI b f9 r9 ++ (OUT cJ q v9 ++ MC cI mb g9 (mSend (g 1) nw x y) kp9)))) → va_S (lwA s) s.heap H1 locs1 → lv_has ls1 9 [(4, .int (nI i)), (3, .ref q), (2, .ref (mb 0)), (1, .ref x0), (0, .ref sb)] → W p l e room_1 s m args below meth c H1 locs1 (cells + 1) (slots + 11) Q (F0 m 1548 ls1 [])) : W p l e room_1 s m args below meth c H locs cells slots Q (F0 m 436 ls []) := by
  obtain ⟨⟨hx, hb, hml, hown, hts⟩, hN, hE, hZ, hK, hX, hbl, hlt, hLN⟩ := E9
  have hA : ∀ q : Nat, s.heap.size ≤ q → lwA s q := fun _ h => h
  have hK1 : va_K D vwCl [(cI, .int)] s := hK.sub [0] rfl
  refine lv_aload_n hx hb dL_law_436 rfl (lv_at hl 3 rfl) ?_
  refine lv_aload_n hx hb dL_law_437 rfl (lv_at hl 4 rfl) ?_
  refine lv_iload hx hb dL_law_438 (lv_at hl 0 rfl) ?_
  refine lv_iconst (v := 1) hx hb dL_law_440 (by decide) ?_
  refine lv_iadd hx hb dL_law_441 ?_
  refine wTop (z := nI (i + 1)) (nI_add i 1) ?_
  refine wSld hx hb hX hbl hS (i + 1) (by omega) hLN hx1 dL_law_442 ?_
  refine lv_aload_n hx hb dL_law_443 rfl (lv_at hl 4 rfl) ?_
  refine lv_iload hx hb dL_law_444 (lv_at hl 0 rfl) ?_
  refine lv_iconst (v := 2) hx hb dL_law_446 (by decide) ?_
  refine lv_iadd hx hb dL_law_447 ?_
  refine wTop (z := nI (i + 2)) (nI_add i 2) ?_
  refine wSld hx hb hX hbl hS (i + 2) (by omega) hLN hx2 dL_law_448 ?_
  refine lv_aload_n hx hb dL_law_449 rfl (lv_at hl 1 rfl) ?_
  refine wLW (pre := ([] : va_W)) (Wc := XO x0 a b ++ (DC cI a f r ++ (DC cI b f2 r2 ++ OUT cJ q v))) (suf := MC cI mb g nw kp) (As := [.ref x0, .int (nI x), .int (nI y), .ref q]) (rest := []) ⟨hx, hb, hml, hown, hts⟩ (mL_glance l D cI cJ x0 a b f f2 r r2 q v gg x y n _ hg hg2 hg0 ux uy hne hfree hn hn1) hN hE hZ hA hK hS hP hD rfl (vx_cwSW 4 hts gL_law_L_glance rfl rfl rfl (by decide +kernel) ⟨Nat.le_of_ble_eq_true rfl, Nat.le_of_ble_eq_true rfl⟩) rfl hl.1 rfl (Nat.le_of_ble_eq_true rfl) dL_law_450 ⟨by omega, by omega⟩ (fun r_450 u_450 H locs hw hP hD hS => ?_)
  have hw : r_450 = 0 := hw
  subst hw
  have hP : va_P D vwCl (XO x0 a b ++ (DC cI a (dSend f r x y n).1 (dSend f r x y n).2 ++ (DC cI b f2 r2 ++ (OUT cJ q (vp_updL v 0 ((2 * dSeats (f 0) (nI x) (nI y)).toInt64)) ++ MC cI mb g nw kp)))) H := hP
  have hD : va_D (lwA s) (XO x0 a b ++ (DC cI a (dSend f r x y n).1 (dSend f r x y n).2 ++ (DC cI b f2 r2 ++ (OUT cJ q (vp_updL v 0 ((2 * dSeats (f 0) (nI x) (nI y)).toInt64)) ++ MC cI mb g nw kp)))) := hD
  refine lv_istore (lv' := [(5, .int 0), (4, .int (nI i)), (3, .ref q), (2, .ref (mb 0)), (1, .ref x0), (0, .ref sb)]) hx hb dL_law_453 hl (by decide) rfl (fun ls hl => ?_)
  refine lv_aload_n hx hb dL_law_455 rfl (lv_at hl 3 rfl) ?_
  refine lv_aload_n hx hb dL_law_456 rfl (lv_at hl 5 rfl) ?_
  refine lv_iload hx hb dL_law_457 (lv_at hl 1 rfl) ?_
  refine lv_iconst (v := 1) hx hb dL_law_459 (by decide) ?_
  refine lv_iadd hx hb dL_law_460 ?_
  refine wTop (z := nI (i + 1)) (nI_add i 1) ?_
  refine wSld hx hb hX hbl hS (i + 1) (by omega) hLN hx1 dL_law_461 ?_
  refine lv_aload_n hx hb dL_law_462 rfl (lv_at hl 5 rfl) ?_
  refine lv_iload hx hb dL_law_463 (lv_at hl 1 rfl) ?_
  refine lv_iconst (v := 2) hx hb dL_law_465 (by decide) ?_
  refine lv_iadd hx hb dL_law_466 ?_
  refine wTop (z := nI (i + 2)) (nI_add i 2) ?_
  refine wSld hx hb hX hbl hS (i + 2) (by omega) hLN hx2 dL_law_467 ?_
  refine wCVi (pre := XO x0 a b ++ (DC cI a (dSend f r x y n).1 (dSend f r x y n).2 ++ (DC cI b f2 r2 ++ OUT cJ q (vp_updL v 0 ((2 * dSeats (f 0) (nI x) (nI y)).toInt64))))) (Wc := MC cI mb g nw kp) (suf := ([] : va_W)) (As := [.int (nI x), .int (nI y)]) (rest := []) ⟨hx, hb, hml, hown, hts⟩ (mX2_glance l D cI mb g nw kp gg x y _ hgm hg2 hg0 ux uy hcode) hN hA hK1 hS hP hD rfl 0 (r := (RX2, TX2, 7)) rfl rfl (cwV 2 hts gL_law_X2_glance rfl rfl rfl (by decide +kernel) ⟨Nat.le_of_ble_eq_true rfl, Nat.le_of_ble_eq_true rfl⟩) rfl hl.1 rfl (Nat.le_of_ble_eq_true rfl) dL_law_468 ⟨by omega, by omega⟩ (fun r_468 u_468 H locs hw hP hD hS => ?_)
  have hw : r_468 = mSend (g 1) nw x y (48 + (10 * x + y)) := hw
  subst hw
  have hP : va_P D vwCl (XO x0 a b ++ (DC cI a (dSend f r x y n).1 (dSend f r x y n).2 ++ (DC cI b f2 r2 ++ (OUT cJ q (vp_updL v 0 ((2 * dSeats (f 0) (nI x) (nI y)).toInt64)) ++ MC cI mb (upd g 0 (mCode nw x y)) (mSend (g 1) nw x y) kp)))) H := hP
  have hD : va_D (lwA s) (XO x0 a b ++ (DC cI a (dSend f r x y n).1 (dSend f r x y n).2 ++ (DC cI b f2 r2 ++ (OUT cJ q (vp_updL v 0 ((2 * dSeats (f 0) (nI x) (nI y)).toInt64)) ++ MC cI mb (upd g 0 (mCode nw x y)) (mSend (g 1) nw x y) kp)))) := hD
  refine wTop (z := (2 * dSeats (f 0) (nI x) (nI y))) (hans) ?_
  refine lv_istore (lv' := [(6, .int (2 * dSeats (f 0) (nI x) (nI y))), (5, .int 0), (4, .int (nI i)), (3, .ref q), (2, .ref (mb 0)), (1, .ref x0), (0, .ref sb)]) hx hb dL_law_471 hl (by decide) rfl (fun ls hl => ?_)
  refine lv_aload_n hx hb dL_law_473 rfl (lv_at hl 4 rfl) ?_
  refine wCVi (pre := XO x0 a b ++ (DC cI a (dSend f r x y n).1 (dSend f r x y n).2 ++ (DC cI b f2 r2 ++ OUT cJ q (vp_updL v 0 ((2 * dSeats (f 0) (nI x) (nI y)).toInt64))))) (Wc := MC cI mb (upd g 0 (mCode nw x y)) (mSend (g 1) nw x y) kp) (suf := ([] : va_W)) (As := []) (rest := []) ⟨hx, hb, hml, hown, hts⟩ (mX2_thrown l D cI mb (upd g 0 (mCode nw x y)) (mSend (g 1) nw x y) kp _ ) hN hA hK1 hS hP hD rfl 0 (r := (RX2, TX2, 7)) rfl rfl (cwV 0 hts gL_law_X2_thrown rfl rfl rfl (by decide +kernel) ⟨Nat.le_of_ble_eq_true rfl, Nat.le_of_ble_eq_true rfl⟩) rfl hl.1 rfl (Nat.le_of_ble_eq_true rfl) dL_law_474 ⟨by omega, by omega⟩ (fun r_474 u_474 H locs hw hP hD hS => ?_)
  have hw : r_474 = (upd g 0 (mCode nw x y)) 0 := hw
  subst hw
  have hP : va_P D vwCl (XO x0 a b ++ (DC cI a (dSend f r x y n).1 (dSend f r x y n).2 ++ (DC cI b f2 r2 ++ (OUT cJ q (vp_updL v 0 ((2 * dSeats (f 0) (nI x) (nI y)).toInt64)) ++ MC cI mb (upd g 0 (mCode nw x y)) (mSend (g 1) nw x y) kp)))) H := hP
  have hD : va_D (lwA s) (XO x0 a b ++ (DC cI a (dSend f r x y n).1 (dSend f r x y n).2 ++ (DC cI b f2 r2 ++ (OUT cJ q (vp_updL v 0 ((2 * dSeats (f 0) (nI x) (nI y)).toInt64)) ++ MC cI mb (upd g 0 (mCode nw x y)) (mSend (g 1) nw x y) kp)))) := hD
  refine wTop (z := 0) (by simp (disch := omega) only [mUp, mUs]; exact hcode) ?_
  refine lv_iload hx hb dL_law_477 (lv_at hl 1 rfl) ?_
  refine lv_icmp_eq (tgt := 484) hx hb dL_law_479 (by decide) (fun c_479 => ?_) (fun h9 => absurd (by decide) h9)
  refine lv_iload hx hb dL_law_484 (lv_at hl 1 rfl) ?_
  refine lv_if_ne (tgt := 501) hx hb dL_law_486 (by decide) (fun h9 => absurd (by decide) h9) (fun c_486 => ?_)
  refine lv_aload_n hx hb dL_law_489 rfl (lv_at hl 3 rfl) ?_
  refine lv_iconst (v := 0) hx hb dL_law_490 (by decide) ?_
  refine wLald hx hb hK hP 17 1 rfl rfl (z := ((2 * dSeats (f 0) (nI x) (nI y)).toInt64)) (pk_uLs) dL_law_491 ?_
  refine lv_iload hx hb dL_law_492 (lv_at hl 0 rfl) ?_
  refine lv_i2l hx hb dL_law_494 rfl ?_
  refine W.lcmp hx hb dL_law_495 ?_
  refine wTop (z := 0) (lcmp_self _) ?_
  refine lv_if_eq (tgt := 501) hx hb dL_law_496 (by decide) (fun c_496 => ?_) (fun h9 => absurd (by decide) h9)
  refine lv_goto (tgt := 1548) hx hb dL_law_501 (by decide) ?_
  exact W.widen (k := cells + 1) (n := slots + 11) (by omega) (by omega) (kk _ _ _ _ _ _ _ _ (by simp (disch := omega) only [mUp, mUs]) (by simp (disch := omega) only [mUp, mUs]) hP hD hS (lv_sub hl [2, 3, 4, 5, 6] rfl))
set_option maxRecDepth 100000 in
set_option maxHeartbeats 4000000 in
theorem lc_glance1 {p : Program} {l : Launch} {e : Env} {s : State} {m : MethodId} {args : Array Value} {below : List Frame} {meth : Method} {c : Code} {D : va_G} {cI cJ : ClassId} {sb LN : Nat} {xs : Nat → Int32} {H : Heap} {locs : List Loc} {cells slots : Nat} {Q : State → Prop} {ls : Array Slot} (E9 : lawE p l s m args c D cI cJ sb LN xs) (x0 : Nat) (a b : Nat → Nat) (f f2 : Nat → Int32) (r r2 : Nat → Nat → Int32) (q : Nat) (v : Nat → Int64) (mb : Nat → Nat) (g nw kp : Nat → Int32) (i : Nat) (hi : i + 2 < LN) (hcc : cells + 1 ≤ room_1.cells) (hss : slots + 11 ≤ room_1.slots) (hl : lv_has ls 9 [(4, .int (nI i)), (3, .ref q), (2, .ref (mb 0)), (1, .ref x0), (0, .ref sb)]) (hP : va_P D vwCl (XO x0 a b ++ (DC cI a f r ++ (DC cI b f2 r2 ++ (OUT cJ q v ++ MC cI mb g nw kp)))) H) (hD : va_D (lwA s) (XO x0 a b ++ (DC cI a f r ++ (DC cI b f2 r2 ++ (OUT cJ q v ++ MC cI mb g nw kp))))) (hS : va_S (lwA s) s.heap H locs) (x : Int32) (y : Int32) (gg : Nat) (hx1 : xs (i + 1) = x) (hx2 : xs (i + 2) = y) (hbad : x < 0 ∨ f 0 ≤ x) (hg : g 1 = nI gg) (hg2 : gg ≤ 10) (hg0 : 0 < gg) (hbadm : ¬ (0 ≤ x ∧ x < nI gg) ∨ ¬ (0 ≤ y ∧ y < nI gg))
    (kk : ∀ (f9 : Nat → Int32) (r9 : Nat → Nat → Int32) (v9 : Nat → Int64) (g9 kp9 : Nat → Int32) (H1 : Heap) (locs1 : List Loc) (ls1 : Array Slot), g9 1 = g 1 → g9 2 = g 2 → va_P D vwCl (XO x0 a b ++ (DC cI a f r ++ (DC cI b f9 r9 ++ (OUT cJ q v9 ++ MC cI mb g9 nw kp9)))) H1 → va_D (lwA s) (XO x0 a b ++ (DC cI a f r ++ (DC cI b f9 r9 ++ (OUT cJ q v9 ++ MC cI mb g9 nw kp9)))) → va_S (lwA s) s.heap H1 locs1 → lv_has ls1 9 [(4, .int (nI i)), (3, .ref q), (2, .ref (mb 0)), (1, .ref x0), (0, .ref sb)] → W p l e room_1 s m args below meth c H1 locs1 (cells + 1) (slots + 11) Q (F0 m 1548 ls1 [])) : W p l e room_1 s m args below meth c H locs cells slots Q (F0 m 436 ls []) := by
  obtain ⟨⟨hx, hb, hml, hown, hts⟩, hN, hE, hZ, hK, hX, hbl, hlt, hLN⟩ := E9
  have hA : ∀ q : Nat, s.heap.size ≤ q → lwA s q := fun _ h => h
  have hK1 : va_K D vwCl [(cI, .int)] s := hK.sub [0] rfl
  refine lv_aload_n hx hb dL_law_436 rfl (lv_at hl 3 rfl) ?_
  refine lv_aload_n hx hb dL_law_437 rfl (lv_at hl 4 rfl) ?_
  refine lv_iload hx hb dL_law_438 (lv_at hl 0 rfl) ?_
  refine lv_iconst (v := 1) hx hb dL_law_440 (by decide) ?_
  refine lv_iadd hx hb dL_law_441 ?_
  refine wTop (z := nI (i + 1)) (nI_add i 1) ?_
  refine wSld hx hb hX hbl hS (i + 1) (by omega) hLN hx1 dL_law_442 ?_
  refine lv_aload_n hx hb dL_law_443 rfl (lv_at hl 4 rfl) ?_
  refine lv_iload hx hb dL_law_444 (lv_at hl 0 rfl) ?_
  refine lv_iconst (v := 2) hx hb dL_law_446 (by decide) ?_
  refine lv_iadd hx hb dL_law_447 ?_
  refine wTop (z := nI (i + 2)) (nI_add i 2) ?_
  refine wSld hx hb hX hbl hS (i + 2) (by omega) hLN hx2 dL_law_448 ?_
  refine lv_aload_n hx hb dL_law_449 rfl (lv_at hl 1 rfl) ?_
  refine wLW (pre := ([] : va_W)) (Wc := XO x0 a b ++ (DC cI a f r ++ (DC cI b f2 r2 ++ OUT cJ q v))) (suf := MC cI mb g nw kp) (As := [.ref x0, .int x, .int y, .ref q]) (rest := []) ⟨hx, hb, hml, hown, hts⟩ (mL_glance1 l D cI cJ x0 a b f f2 r r2 q v x y _ hlt hbad) hN hE hZ hA hK hS hP hD rfl (vx_cwSW 4 hts gL_law_L_glance rfl rfl rfl (by decide +kernel) ⟨Nat.le_of_ble_eq_true rfl, Nat.le_of_ble_eq_true rfl⟩) rfl hl.1 rfl (Nat.le_of_ble_eq_true rfl) dL_law_450 ⟨by omega, by omega⟩ (fun r_450 u_450 H locs hw hP hD hS => ?_)
  have hw : r_450 = 1 := hw
  subst hw
  have hP : va_P D vwCl (XO x0 a b ++ (DC cI a f r ++ (DC cI b f2 r2 ++ (OUT cJ q v ++ MC cI mb g nw kp)))) H := hP
  have hD : va_D (lwA s) (XO x0 a b ++ (DC cI a f r ++ (DC cI b f2 r2 ++ (OUT cJ q v ++ MC cI mb g nw kp)))) := hD
  refine lv_istore (lv' := [(5, .int 1), (4, .int (nI i)), (3, .ref q), (2, .ref (mb 0)), (1, .ref x0), (0, .ref sb)]) hx hb dL_law_453 hl (by decide) rfl (fun ls hl => ?_)
  refine lv_aload_n hx hb dL_law_455 rfl (lv_at hl 3 rfl) ?_
  refine lv_aload_n hx hb dL_law_456 rfl (lv_at hl 5 rfl) ?_
  refine lv_iload hx hb dL_law_457 (lv_at hl 1 rfl) ?_
  refine lv_iconst (v := 1) hx hb dL_law_459 (by decide) ?_
  refine lv_iadd hx hb dL_law_460 ?_
  refine wTop (z := nI (i + 1)) (nI_add i 1) ?_
  refine wSld hx hb hX hbl hS (i + 1) (by omega) hLN hx1 dL_law_461 ?_
  refine lv_aload_n hx hb dL_law_462 rfl (lv_at hl 5 rfl) ?_
  refine lv_iload hx hb dL_law_463 (lv_at hl 1 rfl) ?_
  refine lv_iconst (v := 2) hx hb dL_law_465 (by decide) ?_
  refine lv_iadd hx hb dL_law_466 ?_
  refine wTop (z := nI (i + 2)) (nI_add i 2) ?_
  refine wSld hx hb hX hbl hS (i + 2) (by omega) hLN hx2 dL_law_467 ?_
  refine wCVi (pre := XO x0 a b ++ (DC cI a f r ++ (DC cI b f2 r2 ++ OUT cJ q v))) (Wc := MC cI mb g nw kp) (suf := ([] : va_W)) (As := [.int x, .int y]) (rest := []) ⟨hx, hb, hml, hown, hts⟩ (mX2_glance1 l D cI mb g nw kp gg x y _ hg hg2 hg0 hbadm) hN hA hK1 hS hP hD rfl 0 (r := (RX2, TX2, 7)) rfl rfl (cwV 2 hts gL_law_X2_glance rfl rfl rfl (by decide +kernel) ⟨Nat.le_of_ble_eq_true rfl, Nat.le_of_ble_eq_true rfl⟩) rfl hl.1 rfl (Nat.le_of_ble_eq_true rfl) dL_law_468 ⟨by omega, by omega⟩ (fun r_468 u_468 H locs hw hP hD hS => ?_)
  have hw : r_468 = 0 := hw
  subst hw
  have hP : va_P D vwCl (XO x0 a b ++ (DC cI a f r ++ (DC cI b f2 r2 ++ (OUT cJ q v ++ MC cI mb (upd g 0 1) nw kp)))) H := hP
  have hD : va_D (lwA s) (XO x0 a b ++ (DC cI a f r ++ (DC cI b f2 r2 ++ (OUT cJ q v ++ MC cI mb (upd g 0 1) nw kp)))) := hD
  refine lv_istore (lv' := [(6, .int 0), (5, .int 1), (4, .int (nI i)), (3, .ref q), (2, .ref (mb 0)), (1, .ref x0), (0, .ref sb)]) hx hb dL_law_471 hl (by decide) rfl (fun ls hl => ?_)
  refine lv_aload_n hx hb dL_law_473 rfl (lv_at hl 4 rfl) ?_
  refine wCVi (pre := XO x0 a b ++ (DC cI a f r ++ (DC cI b f2 r2 ++ OUT cJ q v))) (Wc := MC cI mb (upd g 0 1) nw kp) (suf := ([] : va_W)) (As := []) (rest := []) ⟨hx, hb, hml, hown, hts⟩ (mX2_thrown l D cI mb (upd g 0 1) nw kp _ ) hN hA hK1 hS hP hD rfl 0 (r := (RX2, TX2, 7)) rfl rfl (cwV 0 hts gL_law_X2_thrown rfl rfl rfl (by decide +kernel) ⟨Nat.le_of_ble_eq_true rfl, Nat.le_of_ble_eq_true rfl⟩) rfl hl.1 rfl (Nat.le_of_ble_eq_true rfl) dL_law_474 ⟨by omega, by omega⟩ (fun r_474 u_474 H locs hw hP hD hS => ?_)
  have hw : r_474 = (upd g 0 1) 0 := hw
  subst hw
  have hP : va_P D vwCl (XO x0 a b ++ (DC cI a f r ++ (DC cI b f2 r2 ++ (OUT cJ q v ++ MC cI mb (upd g 0 1) nw kp)))) H := hP
  have hD : va_D (lwA s) (XO x0 a b ++ (DC cI a f r ++ (DC cI b f2 r2 ++ (OUT cJ q v ++ MC cI mb (upd g 0 1) nw kp)))) := hD
  refine wTop (z := 1) (by simp (disch := omega) only [mUp, mUs]) ?_
  refine lv_iload hx hb dL_law_477 (lv_at hl 1 rfl) ?_
  refine lv_icmp_eq (tgt := 484) hx hb dL_law_479 (by decide) (fun c_479 => ?_) (fun h9 => absurd (by decide) h9)
  refine lv_iload hx hb dL_law_484 (lv_at hl 1 rfl) ?_
  refine lv_if_ne (tgt := 501) hx hb dL_law_486 (by decide) (fun c_486 => ?_) (fun h9 => absurd h9 (by decide))
  refine lv_goto (tgt := 1548) hx hb dL_law_501 (by decide) ?_
  exact W.widen (k := cells + 1) (n := slots + 11) (by omega) (by omega) (kk _ _ _ _ _ _ _ _ (by simp (disch := omega) only [mUp, mUs]) (by simp (disch := omega) only [mUp, mUs]) hP hD hS (lv_sub hl [2, 3, 4, 5, 6] rfl))
set_option maxRecDepth 100000 in
set_option maxHeartbeats 4000000 in
theorem lc_glance2 {p : Program} {l : Launch} {e : Env} {s : State} {m : MethodId} {args : Array Value} {below : List Frame} {meth : Method} {c : Code} {D : va_G} {cI cJ : ClassId} {sb LN : Nat} {xs : Nat → Int32} {H : Heap} {locs : List Loc} {cells slots : Nat} {Q : State → Prop} {ls : Array Slot} (E9 : lawE p l s m args c D cI cJ sb LN xs) (x0 : Nat) (a b : Nat → Nat) (f f2 : Nat → Int32) (r r2 : Nat → Nat → Int32) (q : Nat) (v : Nat → Int64) (mb : Nat → Nat) (g nw kp : Nat → Int32) (i : Nat) (hi : i + 2 < LN) (hcc : cells + 1 ≤ room_1.cells) (hss : slots + 11 ≤ room_1.slots) (hl : lv_has ls 9 [(4, .int (nI i)), (3, .ref q), (2, .ref (mb 0)), (1, .ref x0), (0, .ref sb)]) (hP : va_P D vwCl (XO x0 a b ++ (DC cI a f r ++ (DC cI b f2 r2 ++ (OUT cJ q v ++ MC cI mb g nw kp)))) H) (hD : va_D (lwA s) (XO x0 a b ++ (DC cI a f r ++ (DC cI b f2 r2 ++ (OUT cJ q v ++ MC cI mb g nw kp))))) (hS : va_S (lwA s) s.heap H locs) (gg : Nat) (x : Nat) (y : Int32) (hx1 : xs (i + 1) = nI x) (hx2 : xs (i + 2) = y) (hg : f 0 = nI gg) (hg2 : gg ≤ 10) (hg0 : 0 < gg) (ux : x < gg) (hbad : y < 0 ∨ f 0 ≤ y) (hgm : g 1 = nI gg) (hbadm : ¬ (0 ≤ (nI x) ∧ (nI x) < nI gg) ∨ ¬ (0 ≤ y ∧ y < nI gg))
    (kk : ∀ (f9 : Nat → Int32) (r9 : Nat → Nat → Int32) (v9 : Nat → Int64) (g9 kp9 : Nat → Int32) (H1 : Heap) (locs1 : List Loc) (ls1 : Array Slot), g9 1 = g 1 → g9 2 = g 2 → va_P D vwCl (XO x0 a b ++ (DC cI a f r ++ (DC cI b f9 r9 ++ (OUT cJ q v9 ++ MC cI mb g9 nw kp9)))) H1 → va_D (lwA s) (XO x0 a b ++ (DC cI a f r ++ (DC cI b f9 r9 ++ (OUT cJ q v9 ++ MC cI mb g9 nw kp9)))) → va_S (lwA s) s.heap H1 locs1 → lv_has ls1 9 [(4, .int (nI i)), (3, .ref q), (2, .ref (mb 0)), (1, .ref x0), (0, .ref sb)] → W p l e room_1 s m args below meth c H1 locs1 (cells + 1) (slots + 11) Q (F0 m 1548 ls1 [])) : W p l e room_1 s m args below meth c H locs cells slots Q (F0 m 436 ls []) := by
  obtain ⟨⟨hx, hb, hml, hown, hts⟩, hN, hE, hZ, hK, hX, hbl, hlt, hLN⟩ := E9
  have hA : ∀ q : Nat, s.heap.size ≤ q → lwA s q := fun _ h => h
  have hK1 : va_K D vwCl [(cI, .int)] s := hK.sub [0] rfl
  refine lv_aload_n hx hb dL_law_436 rfl (lv_at hl 3 rfl) ?_
  refine lv_aload_n hx hb dL_law_437 rfl (lv_at hl 4 rfl) ?_
  refine lv_iload hx hb dL_law_438 (lv_at hl 0 rfl) ?_
  refine lv_iconst (v := 1) hx hb dL_law_440 (by decide) ?_
  refine lv_iadd hx hb dL_law_441 ?_
  refine wTop (z := nI (i + 1)) (nI_add i 1) ?_
  refine wSld hx hb hX hbl hS (i + 1) (by omega) hLN hx1 dL_law_442 ?_
  refine lv_aload_n hx hb dL_law_443 rfl (lv_at hl 4 rfl) ?_
  refine lv_iload hx hb dL_law_444 (lv_at hl 0 rfl) ?_
  refine lv_iconst (v := 2) hx hb dL_law_446 (by decide) ?_
  refine lv_iadd hx hb dL_law_447 ?_
  refine wTop (z := nI (i + 2)) (nI_add i 2) ?_
  refine wSld hx hb hX hbl hS (i + 2) (by omega) hLN hx2 dL_law_448 ?_
  refine lv_aload_n hx hb dL_law_449 rfl (lv_at hl 1 rfl) ?_
  refine wLW (pre := ([] : va_W)) (Wc := XO x0 a b ++ (DC cI a f r ++ (DC cI b f2 r2 ++ OUT cJ q v))) (suf := MC cI mb g nw kp) (As := [.ref x0, .int (nI x), .int y, .ref q]) (rest := []) ⟨hx, hb, hml, hown, hts⟩ (mL_glance2 l D cI cJ x0 a b f f2 r r2 q v gg x y _ hlt hg hg2 hg0 ux hbad) hN hE hZ hA hK hS hP hD rfl (vx_cwSW 4 hts gL_law_L_glance rfl rfl rfl (by decide +kernel) ⟨Nat.le_of_ble_eq_true rfl, Nat.le_of_ble_eq_true rfl⟩) rfl hl.1 rfl (Nat.le_of_ble_eq_true rfl) dL_law_450 ⟨by omega, by omega⟩ (fun r_450 u_450 H locs hw hP hD hS => ?_)
  have hw : r_450 = 1 := hw
  subst hw
  have hP : va_P D vwCl (XO x0 a b ++ (DC cI a f r ++ (DC cI b f2 r2 ++ (OUT cJ q v ++ MC cI mb g nw kp)))) H := hP
  have hD : va_D (lwA s) (XO x0 a b ++ (DC cI a f r ++ (DC cI b f2 r2 ++ (OUT cJ q v ++ MC cI mb g nw kp)))) := hD
  refine lv_istore (lv' := [(5, .int 1), (4, .int (nI i)), (3, .ref q), (2, .ref (mb 0)), (1, .ref x0), (0, .ref sb)]) hx hb dL_law_453 hl (by decide) rfl (fun ls hl => ?_)
  refine lv_aload_n hx hb dL_law_455 rfl (lv_at hl 3 rfl) ?_
  refine lv_aload_n hx hb dL_law_456 rfl (lv_at hl 5 rfl) ?_
  refine lv_iload hx hb dL_law_457 (lv_at hl 1 rfl) ?_
  refine lv_iconst (v := 1) hx hb dL_law_459 (by decide) ?_
  refine lv_iadd hx hb dL_law_460 ?_
  refine wTop (z := nI (i + 1)) (nI_add i 1) ?_
  refine wSld hx hb hX hbl hS (i + 1) (by omega) hLN hx1 dL_law_461 ?_
  refine lv_aload_n hx hb dL_law_462 rfl (lv_at hl 5 rfl) ?_
  refine lv_iload hx hb dL_law_463 (lv_at hl 1 rfl) ?_
  refine lv_iconst (v := 2) hx hb dL_law_465 (by decide) ?_
  refine lv_iadd hx hb dL_law_466 ?_
  refine wTop (z := nI (i + 2)) (nI_add i 2) ?_
  refine wSld hx hb hX hbl hS (i + 2) (by omega) hLN hx2 dL_law_467 ?_
  refine wCVi (pre := XO x0 a b ++ (DC cI a f r ++ (DC cI b f2 r2 ++ OUT cJ q v))) (Wc := MC cI mb g nw kp) (suf := ([] : va_W)) (As := [.int (nI x), .int y]) (rest := []) ⟨hx, hb, hml, hown, hts⟩ (mX2_glance1 l D cI mb g nw kp gg (nI x) y _ hgm hg2 hg0 hbadm) hN hA hK1 hS hP hD rfl 0 (r := (RX2, TX2, 7)) rfl rfl (cwV 2 hts gL_law_X2_glance rfl rfl rfl (by decide +kernel) ⟨Nat.le_of_ble_eq_true rfl, Nat.le_of_ble_eq_true rfl⟩) rfl hl.1 rfl (Nat.le_of_ble_eq_true rfl) dL_law_468 ⟨by omega, by omega⟩ (fun r_468 u_468 H locs hw hP hD hS => ?_)
  have hw : r_468 = 0 := hw
  subst hw
  have hP : va_P D vwCl (XO x0 a b ++ (DC cI a f r ++ (DC cI b f2 r2 ++ (OUT cJ q v ++ MC cI mb (upd g 0 1) nw kp)))) H := hP
  have hD : va_D (lwA s) (XO x0 a b ++ (DC cI a f r ++ (DC cI b f2 r2 ++ (OUT cJ q v ++ MC cI mb (upd g 0 1) nw kp)))) := hD
  refine lv_istore (lv' := [(6, .int 0), (5, .int 1), (4, .int (nI i)), (3, .ref q), (2, .ref (mb 0)), (1, .ref x0), (0, .ref sb)]) hx hb dL_law_471 hl (by decide) rfl (fun ls hl => ?_)
  refine lv_aload_n hx hb dL_law_473 rfl (lv_at hl 4 rfl) ?_
  refine wCVi (pre := XO x0 a b ++ (DC cI a f r ++ (DC cI b f2 r2 ++ OUT cJ q v))) (Wc := MC cI mb (upd g 0 1) nw kp) (suf := ([] : va_W)) (As := []) (rest := []) ⟨hx, hb, hml, hown, hts⟩ (mX2_thrown l D cI mb (upd g 0 1) nw kp _ ) hN hA hK1 hS hP hD rfl 0 (r := (RX2, TX2, 7)) rfl rfl (cwV 0 hts gL_law_X2_thrown rfl rfl rfl (by decide +kernel) ⟨Nat.le_of_ble_eq_true rfl, Nat.le_of_ble_eq_true rfl⟩) rfl hl.1 rfl (Nat.le_of_ble_eq_true rfl) dL_law_474 ⟨by omega, by omega⟩ (fun r_474 u_474 H locs hw hP hD hS => ?_)
  have hw : r_474 = (upd g 0 1) 0 := hw
  subst hw
  have hP : va_P D vwCl (XO x0 a b ++ (DC cI a f r ++ (DC cI b f2 r2 ++ (OUT cJ q v ++ MC cI mb (upd g 0 1) nw kp)))) H := hP
  have hD : va_D (lwA s) (XO x0 a b ++ (DC cI a f r ++ (DC cI b f2 r2 ++ (OUT cJ q v ++ MC cI mb (upd g 0 1) nw kp)))) := hD
  refine wTop (z := 1) (by simp (disch := omega) only [mUp, mUs]) ?_
  refine lv_iload hx hb dL_law_477 (lv_at hl 1 rfl) ?_
  refine lv_icmp_eq (tgt := 484) hx hb dL_law_479 (by decide) (fun c_479 => ?_) (fun h9 => absurd (by decide) h9)
  refine lv_iload hx hb dL_law_484 (lv_at hl 1 rfl) ?_
  refine lv_if_ne (tgt := 501) hx hb dL_law_486 (by decide) (fun c_486 => ?_) (fun h9 => absurd h9 (by decide))
  refine lv_goto (tgt := 1548) hx hb dL_law_501 (by decide) ?_
  exact W.widen (k := cells + 1) (n := slots + 11) (by omega) (by omega) (kk _ _ _ _ _ _ _ _ (by simp (disch := omega) only [mUp, mUs]) (by simp (disch := omega) only [mUp, mUs]) hP hD hS (lv_sub hl [2, 3, 4, 5, 6] rfl))
set_option maxRecDepth 100000 in
set_option maxHeartbeats 4000000 in
theorem lc_glance3 {p : Program} {l : Launch} {e : Env} {s : State} {m : MethodId} {args : Array Value} {below : List Frame} {meth : Method} {c : Code} {D : va_G} {cI cJ : ClassId} {sb LN : Nat} {xs : Nat → Int32} {H : Heap} {locs : List Loc} {cells slots : Nat} {Q : State → Prop} {ls : Array Slot} (E9 : lawE p l s m args c D cI cJ sb LN xs) (x0 : Nat) (a b : Nat → Nat) (f f2 : Nat → Int32) (r r2 : Nat → Nat → Int32) (q : Nat) (v : Nat → Int64) (mb : Nat → Nat) (g nw kp : Nat → Int32) (i : Nat) (hi : i + 2 < LN) (hcc : cells + 1 ≤ room_1.cells) (hss : slots + 11 ≤ room_1.slots) (hl : lv_has ls 9 [(4, .int (nI i)), (3, .ref q), (2, .ref (mb 0)), (1, .ref x0), (0, .ref sb)]) (hP : va_P D vwCl (XO x0 a b ++ (DC cI a f r ++ (DC cI b f2 r2 ++ (OUT cJ q v ++ MC cI mb g nw kp)))) H) (hD : va_D (lwA s) (XO x0 a b ++ (DC cI a f r ++ (DC cI b f2 r2 ++ (OUT cJ q v ++ MC cI mb g nw kp))))) (hS : va_S (lwA s) s.heap H locs) (gg : Nat) (x : Nat) (hx1 : xs (i + 1) = nI x) (hx2 : xs (i + 2) = nI x) (hg : f 0 = nI gg) (hg2 : gg ≤ 10) (hg0 : 0 < gg) (ux : x < gg) (hcd : mCode nw x x = 2) (hgm : g 1 = nI gg) (hcode : ¬ mCode nw x x = 0)
    (kk : ∀ (f9 : Nat → Int32) (r9 : Nat → Nat → Int32) (v9 : Nat → Int64) (g9 kp9 : Nat → Int32) (H1 : Heap) (locs1 : List Loc) (ls1 : Array Slot), g9 1 = g 1 → g9 2 = g 2 → va_P D vwCl (XO x0 a b ++ (DC cI a f r ++ (DC cI b f9 r9 ++ (OUT cJ q v9 ++ MC cI mb g9 nw kp9)))) H1 → va_D (lwA s) (XO x0 a b ++ (DC cI a f r ++ (DC cI b f9 r9 ++ (OUT cJ q v9 ++ MC cI mb g9 nw kp9)))) → va_S (lwA s) s.heap H1 locs1 → lv_has ls1 9 [(4, .int (nI i)), (3, .ref q), (2, .ref (mb 0)), (1, .ref x0), (0, .ref sb)] → W p l e room_1 s m args below meth c H1 locs1 (cells + 1) (slots + 11) Q (F0 m 1548 ls1 [])) : W p l e room_1 s m args below meth c H locs cells slots Q (F0 m 436 ls []) := by
  obtain ⟨⟨hx, hb, hml, hown, hts⟩, hN, hE, hZ, hK, hX, hbl, hlt, hLN⟩ := E9
  have hA : ∀ q : Nat, s.heap.size ≤ q → lwA s q := fun _ h => h
  have hK1 : va_K D vwCl [(cI, .int)] s := hK.sub [0] rfl
  refine lv_aload_n hx hb dL_law_436 rfl (lv_at hl 3 rfl) ?_
  refine lv_aload_n hx hb dL_law_437 rfl (lv_at hl 4 rfl) ?_
  refine lv_iload hx hb dL_law_438 (lv_at hl 0 rfl) ?_
  refine lv_iconst (v := 1) hx hb dL_law_440 (by decide) ?_
  refine lv_iadd hx hb dL_law_441 ?_
  refine wTop (z := nI (i + 1)) (nI_add i 1) ?_
  refine wSld hx hb hX hbl hS (i + 1) (by omega) hLN hx1 dL_law_442 ?_
  refine lv_aload_n hx hb dL_law_443 rfl (lv_at hl 4 rfl) ?_
  refine lv_iload hx hb dL_law_444 (lv_at hl 0 rfl) ?_
  refine lv_iconst (v := 2) hx hb dL_law_446 (by decide) ?_
  refine lv_iadd hx hb dL_law_447 ?_
  refine wTop (z := nI (i + 2)) (nI_add i 2) ?_
  refine wSld hx hb hX hbl hS (i + 2) (by omega) hLN hx2 dL_law_448 ?_
  refine lv_aload_n hx hb dL_law_449 rfl (lv_at hl 1 rfl) ?_
  refine wLW (pre := ([] : va_W)) (Wc := XO x0 a b ++ (DC cI a f r ++ (DC cI b f2 r2 ++ OUT cJ q v))) (suf := MC cI mb g nw kp) (As := [.ref x0, .int (nI x), .int (nI x), .ref q]) (rest := []) ⟨hx, hb, hml, hown, hts⟩ (mL_glance3 l D cI cJ x0 a b f f2 r r2 q v gg x _ hlt hg hg2 hg0 ux) hN hE hZ hA hK hS hP hD rfl (vx_cwSW 4 hts gL_law_L_glance rfl rfl rfl (by decide +kernel) ⟨Nat.le_of_ble_eq_true rfl, Nat.le_of_ble_eq_true rfl⟩) rfl hl.1 rfl (Nat.le_of_ble_eq_true rfl) dL_law_450 ⟨by omega, by omega⟩ (fun r_450 u_450 H locs hw hP hD hS => ?_)
  have hw : r_450 = 2 := hw
  subst hw
  have hP : va_P D vwCl (XO x0 a b ++ (DC cI a f r ++ (DC cI b f2 r2 ++ (OUT cJ q v ++ MC cI mb g nw kp)))) H := hP
  have hD : va_D (lwA s) (XO x0 a b ++ (DC cI a f r ++ (DC cI b f2 r2 ++ (OUT cJ q v ++ MC cI mb g nw kp)))) := hD
  refine lv_istore (lv' := [(5, .int 2), (4, .int (nI i)), (3, .ref q), (2, .ref (mb 0)), (1, .ref x0), (0, .ref sb)]) hx hb dL_law_453 hl (by decide) rfl (fun ls hl => ?_)
  refine lv_aload_n hx hb dL_law_455 rfl (lv_at hl 3 rfl) ?_
  refine lv_aload_n hx hb dL_law_456 rfl (lv_at hl 5 rfl) ?_
  refine lv_iload hx hb dL_law_457 (lv_at hl 1 rfl) ?_
  refine lv_iconst (v := 1) hx hb dL_law_459 (by decide) ?_
  refine lv_iadd hx hb dL_law_460 ?_
  refine wTop (z := nI (i + 1)) (nI_add i 1) ?_
  refine wSld hx hb hX hbl hS (i + 1) (by omega) hLN hx1 dL_law_461 ?_
  refine lv_aload_n hx hb dL_law_462 rfl (lv_at hl 5 rfl) ?_
  refine lv_iload hx hb dL_law_463 (lv_at hl 1 rfl) ?_
  refine lv_iconst (v := 2) hx hb dL_law_465 (by decide) ?_
  refine lv_iadd hx hb dL_law_466 ?_
  refine wTop (z := nI (i + 2)) (nI_add i 2) ?_
  refine wSld hx hb hX hbl hS (i + 2) (by omega) hLN hx2 dL_law_467 ?_
  refine wCVi (pre := XO x0 a b ++ (DC cI a f r ++ (DC cI b f2 r2 ++ OUT cJ q v))) (Wc := MC cI mb g nw kp) (suf := ([] : va_W)) (As := [.int (nI x), .int (nI x)]) (rest := []) ⟨hx, hb, hml, hown, hts⟩ (mX2_glance2 l D cI mb g nw kp gg x x _ hgm hg2 hg0 ux ux hcode) hN hA hK1 hS hP hD rfl 0 (r := (RX2, TX2, 7)) rfl rfl (cwV 2 hts gL_law_X2_glance rfl rfl rfl (by decide +kernel) ⟨Nat.le_of_ble_eq_true rfl, Nat.le_of_ble_eq_true rfl⟩) rfl hl.1 rfl (Nat.le_of_ble_eq_true rfl) dL_law_468 ⟨by omega, by omega⟩ (fun r_468 u_468 H locs hw hP hD hS => ?_)
  have hw : r_468 = 0 := hw
  subst hw
  have hP : va_P D vwCl (XO x0 a b ++ (DC cI a f r ++ (DC cI b f2 r2 ++ (OUT cJ q v ++ MC cI mb (upd g 0 (mCode nw x x)) nw kp)))) H := hP
  have hD : va_D (lwA s) (XO x0 a b ++ (DC cI a f r ++ (DC cI b f2 r2 ++ (OUT cJ q v ++ MC cI mb (upd g 0 (mCode nw x x)) nw kp)))) := hD
  refine lv_istore (lv' := [(6, .int 0), (5, .int 2), (4, .int (nI i)), (3, .ref q), (2, .ref (mb 0)), (1, .ref x0), (0, .ref sb)]) hx hb dL_law_471 hl (by decide) rfl (fun ls hl => ?_)
  refine lv_aload_n hx hb dL_law_473 rfl (lv_at hl 4 rfl) ?_
  refine wCVi (pre := XO x0 a b ++ (DC cI a f r ++ (DC cI b f2 r2 ++ OUT cJ q v))) (Wc := MC cI mb (upd g 0 (mCode nw x x)) nw kp) (suf := ([] : va_W)) (As := []) (rest := []) ⟨hx, hb, hml, hown, hts⟩ (mX2_thrown l D cI mb (upd g 0 (mCode nw x x)) nw kp _ ) hN hA hK1 hS hP hD rfl 0 (r := (RX2, TX2, 7)) rfl rfl (cwV 0 hts gL_law_X2_thrown rfl rfl rfl (by decide +kernel) ⟨Nat.le_of_ble_eq_true rfl, Nat.le_of_ble_eq_true rfl⟩) rfl hl.1 rfl (Nat.le_of_ble_eq_true rfl) dL_law_474 ⟨by omega, by omega⟩ (fun r_474 u_474 H locs hw hP hD hS => ?_)
  have hw : r_474 = (upd g 0 (mCode nw x x)) 0 := hw
  subst hw
  have hP : va_P D vwCl (XO x0 a b ++ (DC cI a f r ++ (DC cI b f2 r2 ++ (OUT cJ q v ++ MC cI mb (upd g 0 (mCode nw x x)) nw kp)))) H := hP
  have hD : va_D (lwA s) (XO x0 a b ++ (DC cI a f r ++ (DC cI b f2 r2 ++ (OUT cJ q v ++ MC cI mb (upd g 0 (mCode nw x x)) nw kp)))) := hD
  refine wTop (z := 2) (by simp (disch := omega) only [mUp, mUs]; exact hcd) ?_
  refine lv_iload hx hb dL_law_477 (lv_at hl 1 rfl) ?_
  refine lv_icmp_eq (tgt := 484) hx hb dL_law_479 (by decide) (fun c_479 => ?_) (fun h9 => absurd (by decide) h9)
  refine lv_iload hx hb dL_law_484 (lv_at hl 1 rfl) ?_
  refine lv_if_ne (tgt := 501) hx hb dL_law_486 (by decide) (fun c_486 => ?_) (fun h9 => absurd h9 (by decide))
  refine lv_goto (tgt := 1548) hx hb dL_law_501 (by decide) ?_
  exact W.widen (k := cells + 1) (n := slots + 11) (by omega) (by omega) (kk _ _ _ _ _ _ _ _ (by simp (disch := omega) only [mUp, mUs]) (by simp (disch := omega) only [mUp, mUs]) hP hD hS (lv_sub hl [2, 3, 4, 5, 6] rfl))
set_option maxRecDepth 100000 in
set_option maxHeartbeats 4000000 in
theorem lc_glance4 {p : Program} {l : Launch} {e : Env} {s : State} {m : MethodId} {args : Array Value} {below : List Frame} {meth : Method} {c : Code} {D : va_G} {cI cJ : ClassId} {sb LN : Nat} {xs : Nat → Int32} {H : Heap} {locs : List Loc} {cells slots : Nat} {Q : State → Prop} {ls : Array Slot} (E9 : lawE p l s m args c D cI cJ sb LN xs) (x0 : Nat) (a b : Nat → Nat) (f f2 : Nat → Int32) (r r2 : Nat → Nat → Int32) (q : Nat) (v : Nat → Int64) (mb : Nat → Nat) (g nw kp : Nat → Int32) (i : Nat) (hi : i + 2 < LN) (hcc : cells + 1 ≤ room_1.cells) (hss : slots + 11 ≤ room_1.slots) (hl : lv_has ls 9 [(4, .int (nI i)), (3, .ref q), (2, .ref (mb 0)), (1, .ref x0), (0, .ref sb)]) (hP : va_P D vwCl (XO x0 a b ++ (DC cI a f r ++ (DC cI b f2 r2 ++ (OUT cJ q v ++ MC cI mb g nw kp)))) H) (hD : va_D (lwA s) (XO x0 a b ++ (DC cI a f r ++ (DC cI b f2 r2 ++ (OUT cJ q v ++ MC cI mb g nw kp))))) (hS : va_S (lwA s) s.heap H locs) (gg : Nat) (x : Nat) (y : Nat) (hx1 : xs (i + 1) = nI x) (hx2 : xs (i + 2) = nI y) (hg : f 0 = nI gg) (hg2 : gg ≤ 10) (hg0 : 0 < gg) (ux : x < gg) (uy : y < gg) (hne : ¬ nI x = nI y) (hway : ¬ r 4 (x * 10 + y) = -1) (hcd : mCode nw x y = 3) (hgm : g 1 = nI gg) (hcode : ¬ mCode nw x y = 0)
    (kk : ∀ (f9 : Nat → Int32) (r9 : Nat → Nat → Int32) (v9 : Nat → Int64) (g9 kp9 : Nat → Int32) (H1 : Heap) (locs1 : List Loc) (ls1 : Array Slot), g9 1 = g 1 → g9 2 = g 2 → va_P D vwCl (XO x0 a b ++ (DC cI a f r ++ (DC cI b f9 r9 ++ (OUT cJ q v9 ++ MC cI mb g9 nw kp9)))) H1 → va_D (lwA s) (XO x0 a b ++ (DC cI a f r ++ (DC cI b f9 r9 ++ (OUT cJ q v9 ++ MC cI mb g9 nw kp9)))) → va_S (lwA s) s.heap H1 locs1 → lv_has ls1 9 [(4, .int (nI i)), (3, .ref q), (2, .ref (mb 0)), (1, .ref x0), (0, .ref sb)] → W p l e room_1 s m args below meth c H1 locs1 (cells + 1) (slots + 11) Q (F0 m 1548 ls1 [])) : W p l e room_1 s m args below meth c H locs cells slots Q (F0 m 436 ls []) := by
  obtain ⟨⟨hx, hb, hml, hown, hts⟩, hN, hE, hZ, hK, hX, hbl, hlt, hLN⟩ := E9
  have hA : ∀ q : Nat, s.heap.size ≤ q → lwA s q := fun _ h => h
  have hK1 : va_K D vwCl [(cI, .int)] s := hK.sub [0] rfl
  refine lv_aload_n hx hb dL_law_436 rfl (lv_at hl 3 rfl) ?_
  refine lv_aload_n hx hb dL_law_437 rfl (lv_at hl 4 rfl) ?_
  refine lv_iload hx hb dL_law_438 (lv_at hl 0 rfl) ?_
  refine lv_iconst (v := 1) hx hb dL_law_440 (by decide) ?_
  refine lv_iadd hx hb dL_law_441 ?_
  refine wTop (z := nI (i + 1)) (nI_add i 1) ?_
  refine wSld hx hb hX hbl hS (i + 1) (by omega) hLN hx1 dL_law_442 ?_
  refine lv_aload_n hx hb dL_law_443 rfl (lv_at hl 4 rfl) ?_
  refine lv_iload hx hb dL_law_444 (lv_at hl 0 rfl) ?_
  refine lv_iconst (v := 2) hx hb dL_law_446 (by decide) ?_
  refine lv_iadd hx hb dL_law_447 ?_
  refine wTop (z := nI (i + 2)) (nI_add i 2) ?_
  refine wSld hx hb hX hbl hS (i + 2) (by omega) hLN hx2 dL_law_448 ?_
  refine lv_aload_n hx hb dL_law_449 rfl (lv_at hl 1 rfl) ?_
  refine wLW (pre := ([] : va_W)) (Wc := XO x0 a b ++ (DC cI a f r ++ (DC cI b f2 r2 ++ OUT cJ q v))) (suf := MC cI mb g nw kp) (As := [.ref x0, .int (nI x), .int (nI y), .ref q]) (rest := []) ⟨hx, hb, hml, hown, hts⟩ (mL_glance4 l D cI cJ x0 a b f f2 r r2 q v gg x y _ hlt hg hg2 hg0 ux uy hne hway) hN hE hZ hA hK hS hP hD rfl (vx_cwSW 4 hts gL_law_L_glance rfl rfl rfl (by decide +kernel) ⟨Nat.le_of_ble_eq_true rfl, Nat.le_of_ble_eq_true rfl⟩) rfl hl.1 rfl (Nat.le_of_ble_eq_true rfl) dL_law_450 ⟨by omega, by omega⟩ (fun r_450 u_450 H locs hw hP hD hS => ?_)
  have hw : r_450 = 3 := hw
  subst hw
  have hP : va_P D vwCl (XO x0 a b ++ (DC cI a f r ++ (DC cI b f2 r2 ++ (OUT cJ q v ++ MC cI mb g nw kp)))) H := hP
  have hD : va_D (lwA s) (XO x0 a b ++ (DC cI a f r ++ (DC cI b f2 r2 ++ (OUT cJ q v ++ MC cI mb g nw kp)))) := hD
  refine lv_istore (lv' := [(5, .int 3), (4, .int (nI i)), (3, .ref q), (2, .ref (mb 0)), (1, .ref x0), (0, .ref sb)]) hx hb dL_law_453 hl (by decide) rfl (fun ls hl => ?_)
  refine lv_aload_n hx hb dL_law_455 rfl (lv_at hl 3 rfl) ?_
  refine lv_aload_n hx hb dL_law_456 rfl (lv_at hl 5 rfl) ?_
  refine lv_iload hx hb dL_law_457 (lv_at hl 1 rfl) ?_
  refine lv_iconst (v := 1) hx hb dL_law_459 (by decide) ?_
  refine lv_iadd hx hb dL_law_460 ?_
  refine wTop (z := nI (i + 1)) (nI_add i 1) ?_
  refine wSld hx hb hX hbl hS (i + 1) (by omega) hLN hx1 dL_law_461 ?_
  refine lv_aload_n hx hb dL_law_462 rfl (lv_at hl 5 rfl) ?_
  refine lv_iload hx hb dL_law_463 (lv_at hl 1 rfl) ?_
  refine lv_iconst (v := 2) hx hb dL_law_465 (by decide) ?_
  refine lv_iadd hx hb dL_law_466 ?_
  refine wTop (z := nI (i + 2)) (nI_add i 2) ?_
  refine wSld hx hb hX hbl hS (i + 2) (by omega) hLN hx2 dL_law_467 ?_
  refine wCVi (pre := XO x0 a b ++ (DC cI a f r ++ (DC cI b f2 r2 ++ OUT cJ q v))) (Wc := MC cI mb g nw kp) (suf := ([] : va_W)) (As := [.int (nI x), .int (nI y)]) (rest := []) ⟨hx, hb, hml, hown, hts⟩ (mX2_glance2 l D cI mb g nw kp gg x y _ hgm hg2 hg0 ux uy hcode) hN hA hK1 hS hP hD rfl 0 (r := (RX2, TX2, 7)) rfl rfl (cwV 2 hts gL_law_X2_glance rfl rfl rfl (by decide +kernel) ⟨Nat.le_of_ble_eq_true rfl, Nat.le_of_ble_eq_true rfl⟩) rfl hl.1 rfl (Nat.le_of_ble_eq_true rfl) dL_law_468 ⟨by omega, by omega⟩ (fun r_468 u_468 H locs hw hP hD hS => ?_)
  have hw : r_468 = 0 := hw
  subst hw
  have hP : va_P D vwCl (XO x0 a b ++ (DC cI a f r ++ (DC cI b f2 r2 ++ (OUT cJ q v ++ MC cI mb (upd g 0 (mCode nw x y)) nw kp)))) H := hP
  have hD : va_D (lwA s) (XO x0 a b ++ (DC cI a f r ++ (DC cI b f2 r2 ++ (OUT cJ q v ++ MC cI mb (upd g 0 (mCode nw x y)) nw kp)))) := hD
  refine lv_istore (lv' := [(6, .int 0), (5, .int 3), (4, .int (nI i)), (3, .ref q), (2, .ref (mb 0)), (1, .ref x0), (0, .ref sb)]) hx hb dL_law_471 hl (by decide) rfl (fun ls hl => ?_)
  refine lv_aload_n hx hb dL_law_473 rfl (lv_at hl 4 rfl) ?_
  refine wCVi (pre := XO x0 a b ++ (DC cI a f r ++ (DC cI b f2 r2 ++ OUT cJ q v))) (Wc := MC cI mb (upd g 0 (mCode nw x y)) nw kp) (suf := ([] : va_W)) (As := []) (rest := []) ⟨hx, hb, hml, hown, hts⟩ (mX2_thrown l D cI mb (upd g 0 (mCode nw x y)) nw kp _ ) hN hA hK1 hS hP hD rfl 0 (r := (RX2, TX2, 7)) rfl rfl (cwV 0 hts gL_law_X2_thrown rfl rfl rfl (by decide +kernel) ⟨Nat.le_of_ble_eq_true rfl, Nat.le_of_ble_eq_true rfl⟩) rfl hl.1 rfl (Nat.le_of_ble_eq_true rfl) dL_law_474 ⟨by omega, by omega⟩ (fun r_474 u_474 H locs hw hP hD hS => ?_)
  have hw : r_474 = (upd g 0 (mCode nw x y)) 0 := hw
  subst hw
  have hP : va_P D vwCl (XO x0 a b ++ (DC cI a f r ++ (DC cI b f2 r2 ++ (OUT cJ q v ++ MC cI mb (upd g 0 (mCode nw x y)) nw kp)))) H := hP
  have hD : va_D (lwA s) (XO x0 a b ++ (DC cI a f r ++ (DC cI b f2 r2 ++ (OUT cJ q v ++ MC cI mb (upd g 0 (mCode nw x y)) nw kp)))) := hD
  refine wTop (z := 3) (by simp (disch := omega) only [mUp, mUs]; exact hcd) ?_
  refine lv_iload hx hb dL_law_477 (lv_at hl 1 rfl) ?_
  refine lv_icmp_eq (tgt := 484) hx hb dL_law_479 (by decide) (fun c_479 => ?_) (fun h9 => absurd (by decide) h9)
  refine lv_iload hx hb dL_law_484 (lv_at hl 1 rfl) ?_
  refine lv_if_ne (tgt := 501) hx hb dL_law_486 (by decide) (fun c_486 => ?_) (fun h9 => absurd h9 (by decide))
  refine lv_goto (tgt := 1548) hx hb dL_law_501 (by decide) ?_
  exact W.widen (k := cells + 1) (n := slots + 11) (by omega) (by omega) (kk _ _ _ _ _ _ _ _ (by simp (disch := omega) only [mUp, mUs]) (by simp (disch := omega) only [mUp, mUs]) hP hD hS (lv_sub hl [2, 3, 4, 5, 6] rfl))
set_option maxRecDepth 100000 in
set_option maxHeartbeats 4000000 in
theorem lc_pass {p : Program} {l : Launch} {e : Env} {s : State} {m : MethodId} {args : Array Value} {below : List Frame} {meth : Method} {c : Code} {D : va_G} {cI cJ : ClassId} {sb LN : Nat} {xs : Nat → Int32} {H : Heap} {locs : List Loc} {cells slots : Nat} {Q : State → Prop} {ls : Array Slot} (E9 : lawE p l s m args c D cI cJ sb LN xs) (x0 : Nat) (a b : Nat → Nat) (f f2 : Nat → Int32) (r r2 : Nat → Nat → Int32) (q : Nat) (v : Nat → Int64) (mb : Nat → Nat) (g nw kp : Nat → Int32) (i : Nat) (hi : i + 2 < LN) (hcc : cells + 1 ≤ room_1.cells) (hss : slots + 11 ≤ room_1.slots) (hl : lv_has ls 9 [(4, .int (nI i)), (3, .ref q), (2, .ref (mb 0)), (1, .ref x0), (0, .ref sb)]) (hP : va_P D vwCl (XO x0 a b ++ (DC cI a f r ++ (DC cI b f2 r2 ++ (OUT cJ q v ++ MC cI mb g nw kp)))) H) (hD : va_D (lwA s) (XO x0 a b ++ (DC cI a f r ++ (DC cI b f2 r2 ++ (OUT cJ q v ++ MC cI mb g nw kp))))) (hS : va_S (lwA s) s.heap H locs) (gg : Nat) (n : Nat) (L : List Nat) (li : Nat) (hx1 : xs (i + 1) = nI n) (hg : f 0 = nI gg) (hg2 : gg ≤ 10) (hg0 : 0 < gg) (n1 : 1 ≤ n) (n2 : n ≤ 120) (hk : ∀ i, i < n → dOk (dGo (f, r) L i).1.1 (dGo (f, r) L i).1.2 (dGo (f, r) L i).2) (hg9 : (dGo (f, r) L n).1.1 0 = nI gg) (hans : (mSum (mSecs (g 5) (g 2) (nw, g 6) n).1 gg - mSum nw gg : Int32) = dSum ((dGo (f, r) L n).1.2 3) gg + (dGo (f, r) L n).1.1 6 - (dSum (r 3) gg + f 6)) (hgm : g 1 = nI gg) (hl0 : g 2 = nI li) (hl1 : 0 < li) (hl2 : li ≤ 30) (hs : ∀ i, i < n → mOk (mSecs (g 5) (g 2) (nw, g 6) i).1)
    (kk : ∀ (f9 : Nat → Int32) (r9 : Nat → Nat → Int32) (v9 : Nat → Int64) (g9 kp9 : Nat → Int32) (H1 : Heap) (locs1 : List Loc) (ls1 : Array Slot), g9 1 = g 1 → g9 2 = g 2 → va_P D vwCl (XO x0 a b ++ (DC cI a (dGo (f, r) L n).1.1 (dGo (f, r) L n).1.2 ++ (DC cI b f9 r9 ++ (OUT cJ q v9 ++ MC cI mb g9 (mSecs (g 5) (g 2) (nw, g 6) n).1 kp9)))) H1 → va_D (lwA s) (XO x0 a b ++ (DC cI a (dGo (f, r) L n).1.1 (dGo (f, r) L n).1.2 ++ (DC cI b f9 r9 ++ (OUT cJ q v9 ++ MC cI mb g9 (mSecs (g 5) (g 2) (nw, g 6) n).1 kp9)))) → va_S (lwA s) s.heap H1 locs1 → lv_has ls1 9 [(4, .int (nI i)), (3, .ref q), (2, .ref (mb 0)), (1, .ref x0), (0, .ref sb)] → W p l e room_1 s m args below meth c H1 locs1 (cells + 1) (slots + 11) Q (F0 m 1548 ls1 [])) : W p l e room_1 s m args below meth c H locs cells slots Q (F0 m 504 ls []) := by
  obtain ⟨⟨hx, hb, hml, hown, hts⟩, hN, hE, hZ, hK, hX, hbl, hlt, hLN⟩ := E9
  have hA : ∀ q : Nat, s.heap.size ≤ q → lwA s q := fun _ h => h
  have hK1 : va_K D vwCl [(cI, .int)] s := hK.sub [0] rfl
  refine lv_aload_n hx hb dL_law_504 rfl (lv_at hl 3 rfl) ?_
  refine lv_aload_n hx hb dL_law_505 rfl (lv_at hl 4 rfl) ?_
  refine lv_iload hx hb dL_law_506 (lv_at hl 0 rfl) ?_
  refine lv_iconst (v := 1) hx hb dL_law_508 (by decide) ?_
  refine lv_iadd hx hb dL_law_509 ?_
  refine wTop (z := nI (i + 1)) (nI_add i 1) ?_
  refine wSld hx hb hX hbl hS (i + 1) (by omega) hLN hx1 dL_law_510 ?_
  refine lv_aload_n hx hb dL_law_511 rfl (lv_at hl 1 rfl) ?_
  refine wLW (pre := ([] : va_W)) (Wc := XO x0 a b ++ (DC cI a f r ++ (DC cI b f2 r2 ++ OUT cJ q v))) (suf := MC cI mb g nw kp) (As := [.ref x0, .int (nI n), .ref q]) (rest := []) ⟨hx, hb, hml, hown, hts⟩ (mL_pass l D cI cJ x0 a b f f2 r r2 q v gg n L _ hg hg2 hg0 n1 n2 hk hg9) hN hE hZ hA hK hS hP hD rfl (vx_cwSW 3 hts gL_law_L_pass rfl rfl rfl (by decide +kernel) ⟨Nat.le_of_ble_eq_true rfl, Nat.le_of_ble_eq_true rfl⟩) rfl hl.1 rfl (Nat.le_of_ble_eq_true rfl) dL_law_512 ⟨by omega, by omega⟩ (fun r_512 u_512 H locs hw hP hD hS => ?_)
  have hw : r_512 = 0 := hw
  subst hw
  have hP : va_P D vwCl (XO x0 a b ++ (DC cI a (dGo (f, r) L n).1.1 (dGo (f, r) L n).1.2 ++ (DC cI b f2 r2 ++ (OUT cJ q (vp_updL v 0 ((dSum ((dGo (f, r) L n).1.2 3) gg + (dGo (f, r) L n).1.1 6 - (dSum (r 3) gg + f 6)).toInt64)) ++ MC cI mb g nw kp)))) H := hP
  have hD : va_D (lwA s) (XO x0 a b ++ (DC cI a (dGo (f, r) L n).1.1 (dGo (f, r) L n).1.2 ++ (DC cI b f2 r2 ++ (OUT cJ q (vp_updL v 0 ((dSum ((dGo (f, r) L n).1.2 3) gg + (dGo (f, r) L n).1.1 6 - (dSum (r 3) gg + f 6)).toInt64)) ++ MC cI mb g nw kp)))) := hD
  refine lv_istore (lv' := [(5, .int 0), (4, .int (nI i)), (3, .ref q), (2, .ref (mb 0)), (1, .ref x0), (0, .ref sb)]) hx hb dL_law_515 hl (by decide) rfl (fun ls hl => ?_)
  refine lv_aload_n hx hb dL_law_517 rfl (lv_at hl 3 rfl) ?_
  refine lv_aload_n hx hb dL_law_518 rfl (lv_at hl 5 rfl) ?_
  refine lv_iload hx hb dL_law_519 (lv_at hl 1 rfl) ?_
  refine lv_iconst (v := 1) hx hb dL_law_521 (by decide) ?_
  refine lv_iadd hx hb dL_law_522 ?_
  refine wTop (z := nI (i + 1)) (nI_add i 1) ?_
  refine wSld hx hb hX hbl hS (i + 1) (by omega) hLN hx1 dL_law_523 ?_
  refine wCVi (pre := XO x0 a b ++ (DC cI a (dGo (f, r) L n).1.1 (dGo (f, r) L n).1.2 ++ (DC cI b f2 r2 ++ OUT cJ q (vp_updL v 0 ((dSum ((dGo (f, r) L n).1.2 3) gg + (dGo (f, r) L n).1.1 6 - (dSum (r 3) gg + f 6)).toInt64))))) (Wc := MC cI mb g nw kp) (suf := ([] : va_W)) (As := [.int (nI n)]) (rest := []) ⟨hx, hb, hml, hown, hts⟩ (mX2_pass l D cI mb g nw kp gg li n _ hgm hg2 hg0 hl0 hl1 hl2 n1 n2 hs) hN hA hK1 hS hP hD rfl 0 (r := (RX2, TX2, 7)) rfl rfl (cwV 1 hts gL_law_X2_pass rfl rfl rfl (by decide +kernel) ⟨Nat.le_of_ble_eq_true rfl, Nat.le_of_ble_eq_true rfl⟩) rfl hl.1 rfl (Nat.le_of_ble_eq_true rfl) dL_law_524 ⟨by omega, by omega⟩ (fun r_524 u_524 H locs hw hP hD hS => ?_)
  have hw : r_524 = mSum (mSecs (g 5) (g 2) (nw, g 6) n).1 gg - mSum nw gg := hw
  subst hw
  have hP : va_P D vwCl (XO x0 a b ++ (DC cI a (dGo (f, r) L n).1.1 (dGo (f, r) L n).1.2 ++ (DC cI b f2 r2 ++ (OUT cJ q (vp_updL v 0 ((dSum ((dGo (f, r) L n).1.2 3) gg + (dGo (f, r) L n).1.1 6 - (dSum (r 3) gg + f 6)).toInt64)) ++ MC cI mb (upd (upd g 0 0) 6 u_524) (mSecs (g 5) (g 2) (nw, g 6) n).1 kp)))) H := hP
  have hD : va_D (lwA s) (XO x0 a b ++ (DC cI a (dGo (f, r) L n).1.1 (dGo (f, r) L n).1.2 ++ (DC cI b f2 r2 ++ (OUT cJ q (vp_updL v 0 ((dSum ((dGo (f, r) L n).1.2 3) gg + (dGo (f, r) L n).1.1 6 - (dSum (r 3) gg + f 6)).toInt64)) ++ MC cI mb (upd (upd g 0 0) 6 u_524) (mSecs (g 5) (g 2) (nw, g 6) n).1 kp)))) := hD
  refine wTop (z := (dSum ((dGo (f, r) L n).1.2 3) gg + (dGo (f, r) L n).1.1 6 - (dSum (r 3) gg + f 6))) (hans) ?_
  refine lv_istore (lv' := [(6, .int (dSum ((dGo (f, r) L n).1.2 3) gg + (dGo (f, r) L n).1.1 6 - (dSum (r 3) gg + f 6))), (5, .int 0), (4, .int (nI i)), (3, .ref q), (2, .ref (mb 0)), (1, .ref x0), (0, .ref sb)]) hx hb dL_law_527 hl (by decide) rfl (fun ls hl => ?_)
  refine lv_aload_n hx hb dL_law_529 rfl (lv_at hl 4 rfl) ?_
  refine wCVi (pre := XO x0 a b ++ (DC cI a (dGo (f, r) L n).1.1 (dGo (f, r) L n).1.2 ++ (DC cI b f2 r2 ++ OUT cJ q (vp_updL v 0 ((dSum ((dGo (f, r) L n).1.2 3) gg + (dGo (f, r) L n).1.1 6 - (dSum (r 3) gg + f 6)).toInt64))))) (Wc := MC cI mb (upd (upd g 0 0) 6 u_524) (mSecs (g 5) (g 2) (nw, g 6) n).1 kp) (suf := ([] : va_W)) (As := []) (rest := []) ⟨hx, hb, hml, hown, hts⟩ (mX2_thrown l D cI mb (upd (upd g 0 0) 6 u_524) (mSecs (g 5) (g 2) (nw, g 6) n).1 kp _ ) hN hA hK1 hS hP hD rfl 0 (r := (RX2, TX2, 7)) rfl rfl (cwV 0 hts gL_law_X2_thrown rfl rfl rfl (by decide +kernel) ⟨Nat.le_of_ble_eq_true rfl, Nat.le_of_ble_eq_true rfl⟩) rfl hl.1 rfl (Nat.le_of_ble_eq_true rfl) dL_law_530 ⟨by omega, by omega⟩ (fun r_530 u_530 H locs hw hP hD hS => ?_)
  have hw : r_530 = (upd (upd g 0 0) 6 u_524) 0 := hw
  subst hw
  have hP : va_P D vwCl (XO x0 a b ++ (DC cI a (dGo (f, r) L n).1.1 (dGo (f, r) L n).1.2 ++ (DC cI b f2 r2 ++ (OUT cJ q (vp_updL v 0 ((dSum ((dGo (f, r) L n).1.2 3) gg + (dGo (f, r) L n).1.1 6 - (dSum (r 3) gg + f 6)).toInt64)) ++ MC cI mb (upd (upd g 0 0) 6 u_524) (mSecs (g 5) (g 2) (nw, g 6) n).1 kp)))) H := hP
  have hD : va_D (lwA s) (XO x0 a b ++ (DC cI a (dGo (f, r) L n).1.1 (dGo (f, r) L n).1.2 ++ (DC cI b f2 r2 ++ (OUT cJ q (vp_updL v 0 ((dSum ((dGo (f, r) L n).1.2 3) gg + (dGo (f, r) L n).1.1 6 - (dSum (r 3) gg + f 6)).toInt64)) ++ MC cI mb (upd (upd g 0 0) 6 u_524) (mSecs (g 5) (g 2) (nw, g 6) n).1 kp)))) := hD
  refine wTop (z := 0) (by simp (disch := omega) only [mUp, mUs]) ?_
  refine lv_iload hx hb dL_law_533 (lv_at hl 1 rfl) ?_
  refine lv_icmp_eq (tgt := 540) hx hb dL_law_535 (by decide) (fun c_535 => ?_) (fun h9 => absurd (by decide) h9)
  refine lv_iload hx hb dL_law_540 (lv_at hl 1 rfl) ?_
  refine lv_if_ne (tgt := 557) hx hb dL_law_542 (by decide) (fun h9 => absurd (by decide) h9) (fun c_542 => ?_)
  refine lv_aload_n hx hb dL_law_545 rfl (lv_at hl 3 rfl) ?_
  refine lv_iconst (v := 0) hx hb dL_law_546 (by decide) ?_
  refine wLald hx hb hK hP 17 1 rfl rfl (z := ((dSum ((dGo (f, r) L n).1.2 3) gg + (dGo (f, r) L n).1.1 6 - (dSum (r 3) gg + f 6)).toInt64)) (pk_uLs) dL_law_547 ?_
  refine lv_iload hx hb dL_law_548 (lv_at hl 0 rfl) ?_
  refine lv_i2l hx hb dL_law_550 rfl ?_
  refine W.lcmp hx hb dL_law_551 ?_
  refine wTop (z := 0) (lcmp_self _) ?_
  refine lv_if_eq (tgt := 557) hx hb dL_law_552 (by decide) (fun c_552 => ?_) (fun h9 => absurd (by decide) h9)
  refine lv_goto (tgt := 1548) hx hb dL_law_557 (by decide) ?_
  exact W.widen (k := cells + 1) (n := slots + 11) (by omega) (by omega) (kk _ _ _ _ _ _ _ _ (by simp (disch := omega) only [mUp, mUs]) (by simp (disch := omega) only [mUp, mUs]) hP hD hS (lv_sub hl [2, 3, 4, 5, 6] rfl))
set_option maxRecDepth 100000 in
set_option maxHeartbeats 4000000 in
theorem lc_pass1 {p : Program} {l : Launch} {e : Env} {s : State} {m : MethodId} {args : Array Value} {below : List Frame} {meth : Method} {c : Code} {D : va_G} {cI cJ : ClassId} {sb LN : Nat} {xs : Nat → Int32} {H : Heap} {locs : List Loc} {cells slots : Nat} {Q : State → Prop} {ls : Array Slot} (E9 : lawE p l s m args c D cI cJ sb LN xs) (x0 : Nat) (a b : Nat → Nat) (f f2 : Nat → Int32) (r r2 : Nat → Nat → Int32) (q : Nat) (v : Nat → Int64) (mb : Nat → Nat) (g nw kp : Nat → Int32) (i : Nat) (hi : i + 2 < LN) (hcc : cells + 1 ≤ room_1.cells) (hss : slots + 11 ≤ room_1.slots) (hl : lv_has ls 9 [(4, .int (nI i)), (3, .ref q), (2, .ref (mb 0)), (1, .ref x0), (0, .ref sb)]) (hP : va_P D vwCl (XO x0 a b ++ (DC cI a f r ++ (DC cI b f2 r2 ++ (OUT cJ q v ++ MC cI mb g nw kp)))) H) (hD : va_D (lwA s) (XO x0 a b ++ (DC cI a f r ++ (DC cI b f2 r2 ++ (OUT cJ q v ++ MC cI mb g nw kp))))) (hS : va_S (lwA s) s.heap H locs) (w : Int32) (hx1 : xs (i + 1) = w) (hbad : w < 1 ∨ 120 < w) (hbadm : ¬ (1 ≤ w ∧ w ≤ 120))
    (kk : ∀ (f9 : Nat → Int32) (r9 : Nat → Nat → Int32) (v9 : Nat → Int64) (g9 kp9 : Nat → Int32) (H1 : Heap) (locs1 : List Loc) (ls1 : Array Slot), g9 1 = g 1 → g9 2 = g 2 → va_P D vwCl (XO x0 a b ++ (DC cI a f r ++ (DC cI b f9 r9 ++ (OUT cJ q v9 ++ MC cI mb g9 nw kp9)))) H1 → va_D (lwA s) (XO x0 a b ++ (DC cI a f r ++ (DC cI b f9 r9 ++ (OUT cJ q v9 ++ MC cI mb g9 nw kp9)))) → va_S (lwA s) s.heap H1 locs1 → lv_has ls1 9 [(4, .int (nI i)), (3, .ref q), (2, .ref (mb 0)), (1, .ref x0), (0, .ref sb)] → W p l e room_1 s m args below meth c H1 locs1 (cells + 1) (slots + 11) Q (F0 m 1548 ls1 [])) : W p l e room_1 s m args below meth c H locs cells slots Q (F0 m 504 ls []) := by
  obtain ⟨⟨hx, hb, hml, hown, hts⟩, hN, hE, hZ, hK, hX, hbl, hlt, hLN⟩ := E9
  have hA : ∀ q : Nat, s.heap.size ≤ q → lwA s q := fun _ h => h
  have hK1 : va_K D vwCl [(cI, .int)] s := hK.sub [0] rfl
  refine lv_aload_n hx hb dL_law_504 rfl (lv_at hl 3 rfl) ?_
  refine lv_aload_n hx hb dL_law_505 rfl (lv_at hl 4 rfl) ?_
  refine lv_iload hx hb dL_law_506 (lv_at hl 0 rfl) ?_
  refine lv_iconst (v := 1) hx hb dL_law_508 (by decide) ?_
  refine lv_iadd hx hb dL_law_509 ?_
  refine wTop (z := nI (i + 1)) (nI_add i 1) ?_
  refine wSld hx hb hX hbl hS (i + 1) (by omega) hLN hx1 dL_law_510 ?_
  refine lv_aload_n hx hb dL_law_511 rfl (lv_at hl 1 rfl) ?_
  refine wLW (pre := ([] : va_W)) (Wc := XO x0 a b ++ (DC cI a f r ++ (DC cI b f2 r2 ++ OUT cJ q v))) (suf := MC cI mb g nw kp) (As := [.ref x0, .int w, .ref q]) (rest := []) ⟨hx, hb, hml, hown, hts⟩ (mL_pass1 l D cI cJ x0 a b f f2 r r2 q v w _ hlt hbad) hN hE hZ hA hK hS hP hD rfl (vx_cwSW 3 hts gL_law_L_pass rfl rfl rfl (by decide +kernel) ⟨Nat.le_of_ble_eq_true rfl, Nat.le_of_ble_eq_true rfl⟩) rfl hl.1 rfl (Nat.le_of_ble_eq_true rfl) dL_law_512 ⟨by omega, by omega⟩ (fun r_512 u_512 H locs hw hP hD hS => ?_)
  have hw : r_512 = 1 := hw
  subst hw
  have hP : va_P D vwCl (XO x0 a b ++ (DC cI a f r ++ (DC cI b f2 r2 ++ (OUT cJ q v ++ MC cI mb g nw kp)))) H := hP
  have hD : va_D (lwA s) (XO x0 a b ++ (DC cI a f r ++ (DC cI b f2 r2 ++ (OUT cJ q v ++ MC cI mb g nw kp)))) := hD
  refine lv_istore (lv' := [(5, .int 1), (4, .int (nI i)), (3, .ref q), (2, .ref (mb 0)), (1, .ref x0), (0, .ref sb)]) hx hb dL_law_515 hl (by decide) rfl (fun ls hl => ?_)
  refine lv_aload_n hx hb dL_law_517 rfl (lv_at hl 3 rfl) ?_
  refine lv_aload_n hx hb dL_law_518 rfl (lv_at hl 5 rfl) ?_
  refine lv_iload hx hb dL_law_519 (lv_at hl 1 rfl) ?_
  refine lv_iconst (v := 1) hx hb dL_law_521 (by decide) ?_
  refine lv_iadd hx hb dL_law_522 ?_
  refine wTop (z := nI (i + 1)) (nI_add i 1) ?_
  refine wSld hx hb hX hbl hS (i + 1) (by omega) hLN hx1 dL_law_523 ?_
  refine wCVi (pre := XO x0 a b ++ (DC cI a f r ++ (DC cI b f2 r2 ++ OUT cJ q v))) (Wc := MC cI mb g nw kp) (suf := ([] : va_W)) (As := [.int w]) (rest := []) ⟨hx, hb, hml, hown, hts⟩ (mX2_pass1 l D cI mb g nw kp w _ hbadm) hN hA hK1 hS hP hD rfl 0 (r := (RX2, TX2, 7)) rfl rfl (cwV 1 hts gL_law_X2_pass rfl rfl rfl (by decide +kernel) ⟨Nat.le_of_ble_eq_true rfl, Nat.le_of_ble_eq_true rfl⟩) rfl hl.1 rfl (Nat.le_of_ble_eq_true rfl) dL_law_524 ⟨by omega, by omega⟩ (fun r_524 u_524 H locs hw hP hD hS => ?_)
  have hw : r_524 = 0 := hw
  subst hw
  have hP : va_P D vwCl (XO x0 a b ++ (DC cI a f r ++ (DC cI b f2 r2 ++ (OUT cJ q v ++ MC cI mb (upd g 0 1) nw kp)))) H := hP
  have hD : va_D (lwA s) (XO x0 a b ++ (DC cI a f r ++ (DC cI b f2 r2 ++ (OUT cJ q v ++ MC cI mb (upd g 0 1) nw kp)))) := hD
  refine lv_istore (lv' := [(6, .int 0), (5, .int 1), (4, .int (nI i)), (3, .ref q), (2, .ref (mb 0)), (1, .ref x0), (0, .ref sb)]) hx hb dL_law_527 hl (by decide) rfl (fun ls hl => ?_)
  refine lv_aload_n hx hb dL_law_529 rfl (lv_at hl 4 rfl) ?_
  refine wCVi (pre := XO x0 a b ++ (DC cI a f r ++ (DC cI b f2 r2 ++ OUT cJ q v))) (Wc := MC cI mb (upd g 0 1) nw kp) (suf := ([] : va_W)) (As := []) (rest := []) ⟨hx, hb, hml, hown, hts⟩ (mX2_thrown l D cI mb (upd g 0 1) nw kp _ ) hN hA hK1 hS hP hD rfl 0 (r := (RX2, TX2, 7)) rfl rfl (cwV 0 hts gL_law_X2_thrown rfl rfl rfl (by decide +kernel) ⟨Nat.le_of_ble_eq_true rfl, Nat.le_of_ble_eq_true rfl⟩) rfl hl.1 rfl (Nat.le_of_ble_eq_true rfl) dL_law_530 ⟨by omega, by omega⟩ (fun r_530 u_530 H locs hw hP hD hS => ?_)
  have hw : r_530 = (upd g 0 1) 0 := hw
  subst hw
  have hP : va_P D vwCl (XO x0 a b ++ (DC cI a f r ++ (DC cI b f2 r2 ++ (OUT cJ q v ++ MC cI mb (upd g 0 1) nw kp)))) H := hP
  have hD : va_D (lwA s) (XO x0 a b ++ (DC cI a f r ++ (DC cI b f2 r2 ++ (OUT cJ q v ++ MC cI mb (upd g 0 1) nw kp)))) := hD
  refine wTop (z := 1) (by simp (disch := omega) only [mUp, mUs]) ?_
  refine lv_iload hx hb dL_law_533 (lv_at hl 1 rfl) ?_
  refine lv_icmp_eq (tgt := 540) hx hb dL_law_535 (by decide) (fun c_535 => ?_) (fun h9 => absurd (by decide) h9)
  refine lv_iload hx hb dL_law_540 (lv_at hl 1 rfl) ?_
  refine lv_if_ne (tgt := 557) hx hb dL_law_542 (by decide) (fun c_542 => ?_) (fun h9 => absurd h9 (by decide))
  refine lv_goto (tgt := 1548) hx hb dL_law_557 (by decide) ?_
  exact W.widen (k := cells + 1) (n := slots + 11) (by omega) (by omega) (kk _ _ _ _ _ _ _ _ (by simp (disch := omega) only [mUp, mUs]) (by simp (disch := omega) only [mUp, mUs]) hP hD hS (lv_sub hl [2, 3, 4, 5, 6] rfl))
set_option maxRecDepth 100000 in
set_option maxHeartbeats 4000000 in
theorem lc_seatsApart {p : Program} {l : Launch} {e : Env} {s : State} {m : MethodId} {args : Array Value} {below : List Frame} {meth : Method} {c : Code} {D : va_G} {cI cJ : ClassId} {sb LN : Nat} {xs : Nat → Int32} {H : Heap} {locs : List Loc} {cells slots : Nat} {Q : State → Prop} {ls : Array Slot} (E9 : lawE p l s m args c D cI cJ sb LN xs) (x0 : Nat) (a b : Nat → Nat) (f f2 : Nat → Int32) (r r2 : Nat → Nat → Int32) (q : Nat) (v : Nat → Int64) (mb : Nat → Nat) (g nw kp : Nat → Int32) (i : Nat) (hi : i + 2 < LN) (hcc : cells + 1 ≤ room_1.cells) (hss : slots + 11 ≤ room_1.slots) (hl : lv_has ls 9 [(4, .int (nI i)), (3, .ref q), (2, .ref (mb 0)), (1, .ref x0), (0, .ref sb)]) (hP : va_P D vwCl (XO x0 a b ++ (DC cI a f r ++ (DC cI b f2 r2 ++ (OUT cJ q v ++ MC cI mb g nw kp)))) H) (hD : va_D (lwA s) (XO x0 a b ++ (DC cI a f r ++ (DC cI b f2 r2 ++ (OUT cJ q v ++ MC cI mb g nw kp))))) (hS : va_S (lwA s) s.heap H locs) (gg : Nat) (x : Nat) (y : Nat) (hx1 : xs (i + 1) = nI x) (hx2 : xs (i + 2) = nI y) (hg : f 0 = nI gg) (hg2 : gg ≤ 10) (hg0 : 0 < gg) (ux : x < gg) (uy : y < gg) (hans : (dSeats (g 1) (nI x) (nI y) : Int32) = dSeats (f 0) (nI x) (nI y)) (hgm : g 1 = nI gg)
    (kk : ∀ (f9 : Nat → Int32) (r9 : Nat → Nat → Int32) (v9 : Nat → Int64) (g9 kp9 : Nat → Int32) (H1 : Heap) (locs1 : List Loc) (ls1 : Array Slot), g9 1 = g 1 → g9 2 = g 2 → va_P D vwCl (XO x0 a b ++ (DC cI a f r ++ (DC cI b f9 r9 ++ (OUT cJ q v9 ++ MC cI mb g9 nw kp9)))) H1 → va_D (lwA s) (XO x0 a b ++ (DC cI a f r ++ (DC cI b f9 r9 ++ (OUT cJ q v9 ++ MC cI mb g9 nw kp9)))) → va_S (lwA s) s.heap H1 locs1 → lv_has ls1 9 [(4, .int (nI i)), (3, .ref q), (2, .ref (mb 0)), (1, .ref x0), (0, .ref sb)] → W p l e room_1 s m args below meth c H1 locs1 (cells + 1) (slots + 11) Q (F0 m 1548 ls1 [])) : W p l e room_1 s m args below meth c H locs cells slots Q (F0 m 599 ls []) := by
  obtain ⟨⟨hx, hb, hml, hown, hts⟩, hN, hE, hZ, hK, hX, hbl, hlt, hLN⟩ := E9
  have hA : ∀ q : Nat, s.heap.size ≤ q → lwA s q := fun _ h => h
  have hK1 : va_K D vwCl [(cI, .int)] s := hK.sub [0] rfl
  refine lv_aload_n hx hb dL_law_599 rfl (lv_at hl 3 rfl) ?_
  refine lv_aload_n hx hb dL_law_600 rfl (lv_at hl 4 rfl) ?_
  refine lv_iload hx hb dL_law_601 (lv_at hl 0 rfl) ?_
  refine lv_iconst (v := 1) hx hb dL_law_603 (by decide) ?_
  refine lv_iadd hx hb dL_law_604 ?_
  refine wTop (z := nI (i + 1)) (nI_add i 1) ?_
  refine wSld hx hb hX hbl hS (i + 1) (by omega) hLN hx1 dL_law_605 ?_
  refine lv_aload_n hx hb dL_law_606 rfl (lv_at hl 4 rfl) ?_
  refine lv_iload hx hb dL_law_607 (lv_at hl 0 rfl) ?_
  refine lv_iconst (v := 2) hx hb dL_law_609 (by decide) ?_
  refine lv_iadd hx hb dL_law_610 ?_
  refine wTop (z := nI (i + 2)) (nI_add i 2) ?_
  refine wSld hx hb hX hbl hS (i + 2) (by omega) hLN hx2 dL_law_611 ?_
  refine lv_aload_n hx hb dL_law_612 rfl (lv_at hl 1 rfl) ?_
  refine wLW (pre := ([] : va_W)) (Wc := XO x0 a b ++ (DC cI a f r ++ (DC cI b f2 r2 ++ OUT cJ q v))) (suf := MC cI mb g nw kp) (As := [.ref x0, .int (nI x), .int (nI y), .ref q]) (rest := []) ⟨hx, hb, hml, hown, hts⟩ (mL_seatsApart l D cI cJ x0 a b f f2 r r2 q v gg x y _ hg hg2 hg0 ux uy) hN hE hZ hA hK hS hP hD rfl (vx_cwSW 4 hts gL_law_L_seatsApart rfl rfl rfl (by decide +kernel) ⟨Nat.le_of_ble_eq_true rfl, Nat.le_of_ble_eq_true rfl⟩) rfl hl.1 rfl (Nat.le_of_ble_eq_true rfl) dL_law_613 ⟨by omega, by omega⟩ (fun r_613 u_613 H locs hw hP hD hS => ?_)
  have hw : r_613 = 0 := hw
  subst hw
  have hP : va_P D vwCl (XO x0 a b ++ (DC cI a f r ++ (DC cI b f2 r2 ++ (OUT cJ q (vp_updL v 0 ((dSeats (f 0) (nI x) (nI y)).toInt64)) ++ MC cI mb g nw kp)))) H := hP
  have hD : va_D (lwA s) (XO x0 a b ++ (DC cI a f r ++ (DC cI b f2 r2 ++ (OUT cJ q (vp_updL v 0 ((dSeats (f 0) (nI x) (nI y)).toInt64)) ++ MC cI mb g nw kp)))) := hD
  refine lv_istore (lv' := [(5, .int 0), (4, .int (nI i)), (3, .ref q), (2, .ref (mb 0)), (1, .ref x0), (0, .ref sb)]) hx hb dL_law_616 hl (by decide) rfl (fun ls hl => ?_)
  refine lv_aload_n hx hb dL_law_618 rfl (lv_at hl 3 rfl) ?_
  refine lv_aload_n hx hb dL_law_619 rfl (lv_at hl 5 rfl) ?_
  refine lv_iload hx hb dL_law_620 (lv_at hl 1 rfl) ?_
  refine lv_iconst (v := 1) hx hb dL_law_622 (by decide) ?_
  refine lv_iadd hx hb dL_law_623 ?_
  refine wTop (z := nI (i + 1)) (nI_add i 1) ?_
  refine wSld hx hb hX hbl hS (i + 1) (by omega) hLN hx1 dL_law_624 ?_
  refine lv_aload_n hx hb dL_law_625 rfl (lv_at hl 5 rfl) ?_
  refine lv_iload hx hb dL_law_626 (lv_at hl 1 rfl) ?_
  refine lv_iconst (v := 2) hx hb dL_law_628 (by decide) ?_
  refine lv_iadd hx hb dL_law_629 ?_
  refine wTop (z := nI (i + 2)) (nI_add i 2) ?_
  refine wSld hx hb hX hbl hS (i + 2) (by omega) hLN hx2 dL_law_630 ?_
  refine wCVi (pre := XO x0 a b ++ (DC cI a f r ++ (DC cI b f2 r2 ++ OUT cJ q (vp_updL v 0 ((dSeats (f 0) (nI x) (nI y)).toInt64))))) (Wc := MC cI mb g nw kp) (suf := ([] : va_W)) (As := [.int (nI x), .int (nI y)]) (rest := []) ⟨hx, hb, hml, hown, hts⟩ (mX2_seatsApart l D cI mb g nw kp gg x y _ hgm hg2 hg0 ux uy) hN hA hK1 hS hP hD rfl 0 (r := (RX2, TX2, 7)) rfl rfl (cwV 2 hts gL_law_X2_seatsApart rfl rfl rfl (by decide +kernel) ⟨Nat.le_of_ble_eq_true rfl, Nat.le_of_ble_eq_true rfl⟩) rfl hl.1 rfl (Nat.le_of_ble_eq_true rfl) dL_law_631 ⟨by omega, by omega⟩ (fun r_631 u_631 H locs hw hP hD hS => ?_)
  have hw : r_631 = dSeats (g 1) (nI x) (nI y) := hw
  subst hw
  have hP : va_P D vwCl (XO x0 a b ++ (DC cI a f r ++ (DC cI b f2 r2 ++ (OUT cJ q (vp_updL v 0 ((dSeats (f 0) (nI x) (nI y)).toInt64)) ++ MC cI mb (upd g 0 0) nw kp)))) H := hP
  have hD : va_D (lwA s) (XO x0 a b ++ (DC cI a f r ++ (DC cI b f2 r2 ++ (OUT cJ q (vp_updL v 0 ((dSeats (f 0) (nI x) (nI y)).toInt64)) ++ MC cI mb (upd g 0 0) nw kp)))) := hD
  refine wTop (z := (dSeats (f 0) (nI x) (nI y))) (hans) ?_
  refine lv_istore (lv' := [(6, .int (dSeats (f 0) (nI x) (nI y))), (5, .int 0), (4, .int (nI i)), (3, .ref q), (2, .ref (mb 0)), (1, .ref x0), (0, .ref sb)]) hx hb dL_law_634 hl (by decide) rfl (fun ls hl => ?_)
  refine lv_aload_n hx hb dL_law_636 rfl (lv_at hl 4 rfl) ?_
  refine wCVi (pre := XO x0 a b ++ (DC cI a f r ++ (DC cI b f2 r2 ++ OUT cJ q (vp_updL v 0 ((dSeats (f 0) (nI x) (nI y)).toInt64))))) (Wc := MC cI mb (upd g 0 0) nw kp) (suf := ([] : va_W)) (As := []) (rest := []) ⟨hx, hb, hml, hown, hts⟩ (mX2_thrown l D cI mb (upd g 0 0) nw kp _ ) hN hA hK1 hS hP hD rfl 0 (r := (RX2, TX2, 7)) rfl rfl (cwV 0 hts gL_law_X2_thrown rfl rfl rfl (by decide +kernel) ⟨Nat.le_of_ble_eq_true rfl, Nat.le_of_ble_eq_true rfl⟩) rfl hl.1 rfl (Nat.le_of_ble_eq_true rfl) dL_law_637 ⟨by omega, by omega⟩ (fun r_637 u_637 H locs hw hP hD hS => ?_)
  have hw : r_637 = (upd g 0 0) 0 := hw
  subst hw
  have hP : va_P D vwCl (XO x0 a b ++ (DC cI a f r ++ (DC cI b f2 r2 ++ (OUT cJ q (vp_updL v 0 ((dSeats (f 0) (nI x) (nI y)).toInt64)) ++ MC cI mb (upd g 0 0) nw kp)))) H := hP
  have hD : va_D (lwA s) (XO x0 a b ++ (DC cI a f r ++ (DC cI b f2 r2 ++ (OUT cJ q (vp_updL v 0 ((dSeats (f 0) (nI x) (nI y)).toInt64)) ++ MC cI mb (upd g 0 0) nw kp)))) := hD
  refine wTop (z := 0) (by simp (disch := omega) only [mUp, mUs]) ?_
  refine lv_iload hx hb dL_law_640 (lv_at hl 1 rfl) ?_
  refine lv_icmp_eq (tgt := 647) hx hb dL_law_642 (by decide) (fun c_642 => ?_) (fun h9 => absurd (by decide) h9)
  refine lv_iload hx hb dL_law_647 (lv_at hl 1 rfl) ?_
  refine lv_if_ne (tgt := 664) hx hb dL_law_649 (by decide) (fun h9 => absurd (by decide) h9) (fun c_649 => ?_)
  refine lv_aload_n hx hb dL_law_652 rfl (lv_at hl 3 rfl) ?_
  refine lv_iconst (v := 0) hx hb dL_law_653 (by decide) ?_
  refine wLald hx hb hK hP 17 1 rfl rfl (z := ((dSeats (f 0) (nI x) (nI y)).toInt64)) (pk_uLs) dL_law_654 ?_
  refine lv_iload hx hb dL_law_655 (lv_at hl 0 rfl) ?_
  refine lv_i2l hx hb dL_law_657 rfl ?_
  refine W.lcmp hx hb dL_law_658 ?_
  refine wTop (z := 0) (lcmp_self _) ?_
  refine lv_if_eq (tgt := 664) hx hb dL_law_659 (by decide) (fun c_659 => ?_) (fun h9 => absurd (by decide) h9)
  refine lv_goto (tgt := 1548) hx hb dL_law_664 (by decide) ?_
  exact W.widen (k := cells + 1) (n := slots + 11) (by omega) (by omega) (kk _ _ _ _ _ _ _ _ (by simp (disch := omega) only [mUp, mUs]) (by simp (disch := omega) only [mUp, mUs]) hP hD hS (lv_sub hl [2, 3, 4, 5, 6] rfl))
set_option maxRecDepth 100000 in
set_option maxHeartbeats 4000000 in
theorem lc_seatsApart1 {p : Program} {l : Launch} {e : Env} {s : State} {m : MethodId} {args : Array Value} {below : List Frame} {meth : Method} {c : Code} {D : va_G} {cI cJ : ClassId} {sb LN : Nat} {xs : Nat → Int32} {H : Heap} {locs : List Loc} {cells slots : Nat} {Q : State → Prop} {ls : Array Slot} (E9 : lawE p l s m args c D cI cJ sb LN xs) (x0 : Nat) (a b : Nat → Nat) (f f2 : Nat → Int32) (r r2 : Nat → Nat → Int32) (q : Nat) (v : Nat → Int64) (mb : Nat → Nat) (g nw kp : Nat → Int32) (i : Nat) (hi : i + 2 < LN) (hcc : cells + 1 ≤ room_1.cells) (hss : slots + 11 ≤ room_1.slots) (hl : lv_has ls 9 [(4, .int (nI i)), (3, .ref q), (2, .ref (mb 0)), (1, .ref x0), (0, .ref sb)]) (hP : va_P D vwCl (XO x0 a b ++ (DC cI a f r ++ (DC cI b f2 r2 ++ (OUT cJ q v ++ MC cI mb g nw kp)))) H) (hD : va_D (lwA s) (XO x0 a b ++ (DC cI a f r ++ (DC cI b f2 r2 ++ (OUT cJ q v ++ MC cI mb g nw kp))))) (hS : va_S (lwA s) s.heap H locs) (x : Int32) (y : Int32) (gg : Nat) (hx1 : xs (i + 1) = x) (hx2 : xs (i + 2) = y) (hbad : x < 0 ∨ f 0 ≤ x) (hg : g 1 = nI gg) (hg2 : gg ≤ 10) (hg0 : 0 < gg) (hbadm : ¬ (0 ≤ x ∧ x < nI gg) ∨ ¬ (0 ≤ y ∧ y < nI gg))
    (kk : ∀ (f9 : Nat → Int32) (r9 : Nat → Nat → Int32) (v9 : Nat → Int64) (g9 kp9 : Nat → Int32) (H1 : Heap) (locs1 : List Loc) (ls1 : Array Slot), g9 1 = g 1 → g9 2 = g 2 → va_P D vwCl (XO x0 a b ++ (DC cI a f r ++ (DC cI b f9 r9 ++ (OUT cJ q v9 ++ MC cI mb g9 nw kp9)))) H1 → va_D (lwA s) (XO x0 a b ++ (DC cI a f r ++ (DC cI b f9 r9 ++ (OUT cJ q v9 ++ MC cI mb g9 nw kp9)))) → va_S (lwA s) s.heap H1 locs1 → lv_has ls1 9 [(4, .int (nI i)), (3, .ref q), (2, .ref (mb 0)), (1, .ref x0), (0, .ref sb)] → W p l e room_1 s m args below meth c H1 locs1 (cells + 1) (slots + 11) Q (F0 m 1548 ls1 [])) : W p l e room_1 s m args below meth c H locs cells slots Q (F0 m 599 ls []) := by
  obtain ⟨⟨hx, hb, hml, hown, hts⟩, hN, hE, hZ, hK, hX, hbl, hlt, hLN⟩ := E9
  have hA : ∀ q : Nat, s.heap.size ≤ q → lwA s q := fun _ h => h
  have hK1 : va_K D vwCl [(cI, .int)] s := hK.sub [0] rfl
  refine lv_aload_n hx hb dL_law_599 rfl (lv_at hl 3 rfl) ?_
  refine lv_aload_n hx hb dL_law_600 rfl (lv_at hl 4 rfl) ?_
  refine lv_iload hx hb dL_law_601 (lv_at hl 0 rfl) ?_
  refine lv_iconst (v := 1) hx hb dL_law_603 (by decide) ?_
  refine lv_iadd hx hb dL_law_604 ?_
  refine wTop (z := nI (i + 1)) (nI_add i 1) ?_
  refine wSld hx hb hX hbl hS (i + 1) (by omega) hLN hx1 dL_law_605 ?_
  refine lv_aload_n hx hb dL_law_606 rfl (lv_at hl 4 rfl) ?_
  refine lv_iload hx hb dL_law_607 (lv_at hl 0 rfl) ?_
  refine lv_iconst (v := 2) hx hb dL_law_609 (by decide) ?_
  refine lv_iadd hx hb dL_law_610 ?_
  refine wTop (z := nI (i + 2)) (nI_add i 2) ?_
  refine wSld hx hb hX hbl hS (i + 2) (by omega) hLN hx2 dL_law_611 ?_
  refine lv_aload_n hx hb dL_law_612 rfl (lv_at hl 1 rfl) ?_
  refine wLW (pre := ([] : va_W)) (Wc := XO x0 a b ++ (DC cI a f r ++ (DC cI b f2 r2 ++ OUT cJ q v))) (suf := MC cI mb g nw kp) (As := [.ref x0, .int x, .int y, .ref q]) (rest := []) ⟨hx, hb, hml, hown, hts⟩ (mL_seatsApart1 l D cI cJ x0 a b f f2 r r2 q v x y _ hlt hbad) hN hE hZ hA hK hS hP hD rfl (vx_cwSW 4 hts gL_law_L_seatsApart rfl rfl rfl (by decide +kernel) ⟨Nat.le_of_ble_eq_true rfl, Nat.le_of_ble_eq_true rfl⟩) rfl hl.1 rfl (Nat.le_of_ble_eq_true rfl) dL_law_613 ⟨by omega, by omega⟩ (fun r_613 u_613 H locs hw hP hD hS => ?_)
  have hw : r_613 = 1 := hw
  subst hw
  have hP : va_P D vwCl (XO x0 a b ++ (DC cI a f r ++ (DC cI b f2 r2 ++ (OUT cJ q v ++ MC cI mb g nw kp)))) H := hP
  have hD : va_D (lwA s) (XO x0 a b ++ (DC cI a f r ++ (DC cI b f2 r2 ++ (OUT cJ q v ++ MC cI mb g nw kp)))) := hD
  refine lv_istore (lv' := [(5, .int 1), (4, .int (nI i)), (3, .ref q), (2, .ref (mb 0)), (1, .ref x0), (0, .ref sb)]) hx hb dL_law_616 hl (by decide) rfl (fun ls hl => ?_)
  refine lv_aload_n hx hb dL_law_618 rfl (lv_at hl 3 rfl) ?_
  refine lv_aload_n hx hb dL_law_619 rfl (lv_at hl 5 rfl) ?_
  refine lv_iload hx hb dL_law_620 (lv_at hl 1 rfl) ?_
  refine lv_iconst (v := 1) hx hb dL_law_622 (by decide) ?_
  refine lv_iadd hx hb dL_law_623 ?_
  refine wTop (z := nI (i + 1)) (nI_add i 1) ?_
  refine wSld hx hb hX hbl hS (i + 1) (by omega) hLN hx1 dL_law_624 ?_
  refine lv_aload_n hx hb dL_law_625 rfl (lv_at hl 5 rfl) ?_
  refine lv_iload hx hb dL_law_626 (lv_at hl 1 rfl) ?_
  refine lv_iconst (v := 2) hx hb dL_law_628 (by decide) ?_
  refine lv_iadd hx hb dL_law_629 ?_
  refine wTop (z := nI (i + 2)) (nI_add i 2) ?_
  refine wSld hx hb hX hbl hS (i + 2) (by omega) hLN hx2 dL_law_630 ?_
  refine wCVi (pre := XO x0 a b ++ (DC cI a f r ++ (DC cI b f2 r2 ++ OUT cJ q v))) (Wc := MC cI mb g nw kp) (suf := ([] : va_W)) (As := [.int x, .int y]) (rest := []) ⟨hx, hb, hml, hown, hts⟩ (mX2_seatsApart1 l D cI mb g nw kp gg x y _ hg hg2 hg0 hbadm) hN hA hK1 hS hP hD rfl 0 (r := (RX2, TX2, 7)) rfl rfl (cwV 2 hts gL_law_X2_seatsApart rfl rfl rfl (by decide +kernel) ⟨Nat.le_of_ble_eq_true rfl, Nat.le_of_ble_eq_true rfl⟩) rfl hl.1 rfl (Nat.le_of_ble_eq_true rfl) dL_law_631 ⟨by omega, by omega⟩ (fun r_631 u_631 H locs hw hP hD hS => ?_)
  have hw : r_631 = 0 := hw
  subst hw
  have hP : va_P D vwCl (XO x0 a b ++ (DC cI a f r ++ (DC cI b f2 r2 ++ (OUT cJ q v ++ MC cI mb (upd g 0 1) nw kp)))) H := hP
  have hD : va_D (lwA s) (XO x0 a b ++ (DC cI a f r ++ (DC cI b f2 r2 ++ (OUT cJ q v ++ MC cI mb (upd g 0 1) nw kp)))) := hD
  refine lv_istore (lv' := [(6, .int 0), (5, .int 1), (4, .int (nI i)), (3, .ref q), (2, .ref (mb 0)), (1, .ref x0), (0, .ref sb)]) hx hb dL_law_634 hl (by decide) rfl (fun ls hl => ?_)
  refine lv_aload_n hx hb dL_law_636 rfl (lv_at hl 4 rfl) ?_
  refine wCVi (pre := XO x0 a b ++ (DC cI a f r ++ (DC cI b f2 r2 ++ OUT cJ q v))) (Wc := MC cI mb (upd g 0 1) nw kp) (suf := ([] : va_W)) (As := []) (rest := []) ⟨hx, hb, hml, hown, hts⟩ (mX2_thrown l D cI mb (upd g 0 1) nw kp _ ) hN hA hK1 hS hP hD rfl 0 (r := (RX2, TX2, 7)) rfl rfl (cwV 0 hts gL_law_X2_thrown rfl rfl rfl (by decide +kernel) ⟨Nat.le_of_ble_eq_true rfl, Nat.le_of_ble_eq_true rfl⟩) rfl hl.1 rfl (Nat.le_of_ble_eq_true rfl) dL_law_637 ⟨by omega, by omega⟩ (fun r_637 u_637 H locs hw hP hD hS => ?_)
  have hw : r_637 = (upd g 0 1) 0 := hw
  subst hw
  have hP : va_P D vwCl (XO x0 a b ++ (DC cI a f r ++ (DC cI b f2 r2 ++ (OUT cJ q v ++ MC cI mb (upd g 0 1) nw kp)))) H := hP
  have hD : va_D (lwA s) (XO x0 a b ++ (DC cI a f r ++ (DC cI b f2 r2 ++ (OUT cJ q v ++ MC cI mb (upd g 0 1) nw kp)))) := hD
  refine wTop (z := 1) (by simp (disch := omega) only [mUp, mUs]) ?_
  refine lv_iload hx hb dL_law_640 (lv_at hl 1 rfl) ?_
  refine lv_icmp_eq (tgt := 647) hx hb dL_law_642 (by decide) (fun c_642 => ?_) (fun h9 => absurd (by decide) h9)
  refine lv_iload hx hb dL_law_647 (lv_at hl 1 rfl) ?_
  refine lv_if_ne (tgt := 664) hx hb dL_law_649 (by decide) (fun c_649 => ?_) (fun h9 => absurd h9 (by decide))
  refine lv_goto (tgt := 1548) hx hb dL_law_664 (by decide) ?_
  exact W.widen (k := cells + 1) (n := slots + 11) (by omega) (by omega) (kk _ _ _ _ _ _ _ _ (by simp (disch := omega) only [mUp, mUs]) (by simp (disch := omega) only [mUp, mUs]) hP hD hS (lv_sub hl [2, 3, 4, 5, 6] rfl))
set_option maxRecDepth 100000 in
set_option maxHeartbeats 4000000 in
theorem lc_seatsApart2 {p : Program} {l : Launch} {e : Env} {s : State} {m : MethodId} {args : Array Value} {below : List Frame} {meth : Method} {c : Code} {D : va_G} {cI cJ : ClassId} {sb LN : Nat} {xs : Nat → Int32} {H : Heap} {locs : List Loc} {cells slots : Nat} {Q : State → Prop} {ls : Array Slot} (E9 : lawE p l s m args c D cI cJ sb LN xs) (x0 : Nat) (a b : Nat → Nat) (f f2 : Nat → Int32) (r r2 : Nat → Nat → Int32) (q : Nat) (v : Nat → Int64) (mb : Nat → Nat) (g nw kp : Nat → Int32) (i : Nat) (hi : i + 2 < LN) (hcc : cells + 1 ≤ room_1.cells) (hss : slots + 11 ≤ room_1.slots) (hl : lv_has ls 9 [(4, .int (nI i)), (3, .ref q), (2, .ref (mb 0)), (1, .ref x0), (0, .ref sb)]) (hP : va_P D vwCl (XO x0 a b ++ (DC cI a f r ++ (DC cI b f2 r2 ++ (OUT cJ q v ++ MC cI mb g nw kp)))) H) (hD : va_D (lwA s) (XO x0 a b ++ (DC cI a f r ++ (DC cI b f2 r2 ++ (OUT cJ q v ++ MC cI mb g nw kp))))) (hS : va_S (lwA s) s.heap H locs) (gg : Nat) (x : Nat) (y : Int32) (hx1 : xs (i + 1) = nI x) (hx2 : xs (i + 2) = y) (hg : f 0 = nI gg) (hg2 : gg ≤ 10) (hg0 : 0 < gg) (ux : x < gg) (hbad : y < 0 ∨ f 0 ≤ y) (hgm : g 1 = nI gg) (hbadm : ¬ (0 ≤ (nI x) ∧ (nI x) < nI gg) ∨ ¬ (0 ≤ y ∧ y < nI gg))
    (kk : ∀ (f9 : Nat → Int32) (r9 : Nat → Nat → Int32) (v9 : Nat → Int64) (g9 kp9 : Nat → Int32) (H1 : Heap) (locs1 : List Loc) (ls1 : Array Slot), g9 1 = g 1 → g9 2 = g 2 → va_P D vwCl (XO x0 a b ++ (DC cI a f r ++ (DC cI b f9 r9 ++ (OUT cJ q v9 ++ MC cI mb g9 nw kp9)))) H1 → va_D (lwA s) (XO x0 a b ++ (DC cI a f r ++ (DC cI b f9 r9 ++ (OUT cJ q v9 ++ MC cI mb g9 nw kp9)))) → va_S (lwA s) s.heap H1 locs1 → lv_has ls1 9 [(4, .int (nI i)), (3, .ref q), (2, .ref (mb 0)), (1, .ref x0), (0, .ref sb)] → W p l e room_1 s m args below meth c H1 locs1 (cells + 1) (slots + 11) Q (F0 m 1548 ls1 [])) : W p l e room_1 s m args below meth c H locs cells slots Q (F0 m 599 ls []) := by
  obtain ⟨⟨hx, hb, hml, hown, hts⟩, hN, hE, hZ, hK, hX, hbl, hlt, hLN⟩ := E9
  have hA : ∀ q : Nat, s.heap.size ≤ q → lwA s q := fun _ h => h
  have hK1 : va_K D vwCl [(cI, .int)] s := hK.sub [0] rfl
  refine lv_aload_n hx hb dL_law_599 rfl (lv_at hl 3 rfl) ?_
  refine lv_aload_n hx hb dL_law_600 rfl (lv_at hl 4 rfl) ?_
  refine lv_iload hx hb dL_law_601 (lv_at hl 0 rfl) ?_
  refine lv_iconst (v := 1) hx hb dL_law_603 (by decide) ?_
  refine lv_iadd hx hb dL_law_604 ?_
  refine wTop (z := nI (i + 1)) (nI_add i 1) ?_
  refine wSld hx hb hX hbl hS (i + 1) (by omega) hLN hx1 dL_law_605 ?_
  refine lv_aload_n hx hb dL_law_606 rfl (lv_at hl 4 rfl) ?_
  refine lv_iload hx hb dL_law_607 (lv_at hl 0 rfl) ?_
  refine lv_iconst (v := 2) hx hb dL_law_609 (by decide) ?_
  refine lv_iadd hx hb dL_law_610 ?_
  refine wTop (z := nI (i + 2)) (nI_add i 2) ?_
  refine wSld hx hb hX hbl hS (i + 2) (by omega) hLN hx2 dL_law_611 ?_
  refine lv_aload_n hx hb dL_law_612 rfl (lv_at hl 1 rfl) ?_
  refine wLW (pre := ([] : va_W)) (Wc := XO x0 a b ++ (DC cI a f r ++ (DC cI b f2 r2 ++ OUT cJ q v))) (suf := MC cI mb g nw kp) (As := [.ref x0, .int (nI x), .int y, .ref q]) (rest := []) ⟨hx, hb, hml, hown, hts⟩ (mL_seatsApart2 l D cI cJ x0 a b f f2 r r2 q v gg x y _ hlt hg hg2 hg0 ux hbad) hN hE hZ hA hK hS hP hD rfl (vx_cwSW 4 hts gL_law_L_seatsApart rfl rfl rfl (by decide +kernel) ⟨Nat.le_of_ble_eq_true rfl, Nat.le_of_ble_eq_true rfl⟩) rfl hl.1 rfl (Nat.le_of_ble_eq_true rfl) dL_law_613 ⟨by omega, by omega⟩ (fun r_613 u_613 H locs hw hP hD hS => ?_)
  have hw : r_613 = 1 := hw
  subst hw
  have hP : va_P D vwCl (XO x0 a b ++ (DC cI a f r ++ (DC cI b f2 r2 ++ (OUT cJ q v ++ MC cI mb g nw kp)))) H := hP
  have hD : va_D (lwA s) (XO x0 a b ++ (DC cI a f r ++ (DC cI b f2 r2 ++ (OUT cJ q v ++ MC cI mb g nw kp)))) := hD
  refine lv_istore (lv' := [(5, .int 1), (4, .int (nI i)), (3, .ref q), (2, .ref (mb 0)), (1, .ref x0), (0, .ref sb)]) hx hb dL_law_616 hl (by decide) rfl (fun ls hl => ?_)
  refine lv_aload_n hx hb dL_law_618 rfl (lv_at hl 3 rfl) ?_
  refine lv_aload_n hx hb dL_law_619 rfl (lv_at hl 5 rfl) ?_
  refine lv_iload hx hb dL_law_620 (lv_at hl 1 rfl) ?_
  refine lv_iconst (v := 1) hx hb dL_law_622 (by decide) ?_
  refine lv_iadd hx hb dL_law_623 ?_
  refine wTop (z := nI (i + 1)) (nI_add i 1) ?_
  refine wSld hx hb hX hbl hS (i + 1) (by omega) hLN hx1 dL_law_624 ?_
  refine lv_aload_n hx hb dL_law_625 rfl (lv_at hl 5 rfl) ?_
  refine lv_iload hx hb dL_law_626 (lv_at hl 1 rfl) ?_
  refine lv_iconst (v := 2) hx hb dL_law_628 (by decide) ?_
  refine lv_iadd hx hb dL_law_629 ?_
  refine wTop (z := nI (i + 2)) (nI_add i 2) ?_
  refine wSld hx hb hX hbl hS (i + 2) (by omega) hLN hx2 dL_law_630 ?_
  refine wCVi (pre := XO x0 a b ++ (DC cI a f r ++ (DC cI b f2 r2 ++ OUT cJ q v))) (Wc := MC cI mb g nw kp) (suf := ([] : va_W)) (As := [.int (nI x), .int y]) (rest := []) ⟨hx, hb, hml, hown, hts⟩ (mX2_seatsApart1 l D cI mb g nw kp gg (nI x) y _ hgm hg2 hg0 hbadm) hN hA hK1 hS hP hD rfl 0 (r := (RX2, TX2, 7)) rfl rfl (cwV 2 hts gL_law_X2_seatsApart rfl rfl rfl (by decide +kernel) ⟨Nat.le_of_ble_eq_true rfl, Nat.le_of_ble_eq_true rfl⟩) rfl hl.1 rfl (Nat.le_of_ble_eq_true rfl) dL_law_631 ⟨by omega, by omega⟩ (fun r_631 u_631 H locs hw hP hD hS => ?_)
  have hw : r_631 = 0 := hw
  subst hw
  have hP : va_P D vwCl (XO x0 a b ++ (DC cI a f r ++ (DC cI b f2 r2 ++ (OUT cJ q v ++ MC cI mb (upd g 0 1) nw kp)))) H := hP
  have hD : va_D (lwA s) (XO x0 a b ++ (DC cI a f r ++ (DC cI b f2 r2 ++ (OUT cJ q v ++ MC cI mb (upd g 0 1) nw kp)))) := hD
  refine lv_istore (lv' := [(6, .int 0), (5, .int 1), (4, .int (nI i)), (3, .ref q), (2, .ref (mb 0)), (1, .ref x0), (0, .ref sb)]) hx hb dL_law_634 hl (by decide) rfl (fun ls hl => ?_)
  refine lv_aload_n hx hb dL_law_636 rfl (lv_at hl 4 rfl) ?_
  refine wCVi (pre := XO x0 a b ++ (DC cI a f r ++ (DC cI b f2 r2 ++ OUT cJ q v))) (Wc := MC cI mb (upd g 0 1) nw kp) (suf := ([] : va_W)) (As := []) (rest := []) ⟨hx, hb, hml, hown, hts⟩ (mX2_thrown l D cI mb (upd g 0 1) nw kp _ ) hN hA hK1 hS hP hD rfl 0 (r := (RX2, TX2, 7)) rfl rfl (cwV 0 hts gL_law_X2_thrown rfl rfl rfl (by decide +kernel) ⟨Nat.le_of_ble_eq_true rfl, Nat.le_of_ble_eq_true rfl⟩) rfl hl.1 rfl (Nat.le_of_ble_eq_true rfl) dL_law_637 ⟨by omega, by omega⟩ (fun r_637 u_637 H locs hw hP hD hS => ?_)
  have hw : r_637 = (upd g 0 1) 0 := hw
  subst hw
  have hP : va_P D vwCl (XO x0 a b ++ (DC cI a f r ++ (DC cI b f2 r2 ++ (OUT cJ q v ++ MC cI mb (upd g 0 1) nw kp)))) H := hP
  have hD : va_D (lwA s) (XO x0 a b ++ (DC cI a f r ++ (DC cI b f2 r2 ++ (OUT cJ q v ++ MC cI mb (upd g 0 1) nw kp)))) := hD
  refine wTop (z := 1) (by simp (disch := omega) only [mUp, mUs]) ?_
  refine lv_iload hx hb dL_law_640 (lv_at hl 1 rfl) ?_
  refine lv_icmp_eq (tgt := 647) hx hb dL_law_642 (by decide) (fun c_642 => ?_) (fun h9 => absurd (by decide) h9)
  refine lv_iload hx hb dL_law_647 (lv_at hl 1 rfl) ?_
  refine lv_if_ne (tgt := 664) hx hb dL_law_649 (by decide) (fun c_649 => ?_) (fun h9 => absurd h9 (by decide))
  refine lv_goto (tgt := 1548) hx hb dL_law_664 (by decide) ?_
  exact W.widen (k := cells + 1) (n := slots + 11) (by omega) (by omega) (kk _ _ _ _ _ _ _ _ (by simp (disch := omega) only [mUp, mUs]) (by simp (disch := omega) only [mUp, mUs]) hP hD hS (lv_sub hl [2, 3, 4, 5, 6] rfl))
set_option maxRecDepth 100000 in
set_option maxHeartbeats 4000000 in
theorem lc_spokenBy {p : Program} {l : Launch} {e : Env} {s : State} {m : MethodId} {args : Array Value} {below : List Frame} {meth : Method} {c : Code} {D : va_G} {cI cJ : ClassId} {sb LN : Nat} {xs : Nat → Int32} {H : Heap} {locs : List Loc} {cells slots : Nat} {Q : State → Prop} {ls : Array Slot} (E9 : lawE p l s m args c D cI cJ sb LN xs) (x0 : Nat) (a b : Nat → Nat) (f f2 : Nat → Int32) (r r2 : Nat → Nat → Int32) (q : Nat) (v : Nat → Int64) (mb : Nat → Nat) (g nw kp : Nat → Int32) (i : Nat) (hi : i + 2 < LN) (hcc : cells + 1 ≤ room_1.cells) (hss : slots + 11 ≤ room_1.slots) (hl : lv_has ls 9 [(4, .int (nI i)), (3, .ref q), (2, .ref (mb 0)), (1, .ref x0), (0, .ref sb)]) (hP : va_P D vwCl (XO x0 a b ++ (DC cI a f r ++ (DC cI b f2 r2 ++ (OUT cJ q v ++ MC cI mb g nw kp)))) H) (hD : va_D (lwA s) (XO x0 a b ++ (DC cI a f r ++ (DC cI b f2 r2 ++ (OUT cJ q v ++ MC cI mb g nw kp))))) (hS : va_S (lwA s) s.heap H locs) (gg : Nat) (x : Nat) (hx1 : xs (i + 1) = nI x) (hg : f 0 = nI gg) (hg2 : gg ≤ 10) (hg0 : 0 < gg) (ux : x < gg) (hans : (nw (8 + x) : Int32) = r 0 x) (hgm : g 1 = nI gg)
    (kk : ∀ (f9 : Nat → Int32) (r9 : Nat → Nat → Int32) (v9 : Nat → Int64) (g9 kp9 : Nat → Int32) (H1 : Heap) (locs1 : List Loc) (ls1 : Array Slot), g9 1 = g 1 → g9 2 = g 2 → va_P D vwCl (XO x0 a b ++ (DC cI a f r ++ (DC cI b f9 r9 ++ (OUT cJ q v9 ++ MC cI mb g9 nw kp9)))) H1 → va_D (lwA s) (XO x0 a b ++ (DC cI a f r ++ (DC cI b f9 r9 ++ (OUT cJ q v9 ++ MC cI mb g9 nw kp9)))) → va_S (lwA s) s.heap H1 locs1 → lv_has ls1 9 [(4, .int (nI i)), (3, .ref q), (2, .ref (mb 0)), (1, .ref x0), (0, .ref sb)] → W p l e room_1 s m args below meth c H1 locs1 (cells + 1) (slots + 11) Q (F0 m 1548 ls1 [])) : W p l e room_1 s m args below meth c H locs cells slots Q (F0 m 706 ls []) := by
  obtain ⟨⟨hx, hb, hml, hown, hts⟩, hN, hE, hZ, hK, hX, hbl, hlt, hLN⟩ := E9
  have hA : ∀ q : Nat, s.heap.size ≤ q → lwA s q := fun _ h => h
  have hK1 : va_K D vwCl [(cI, .int)] s := hK.sub [0] rfl
  refine lv_aload_n hx hb dL_law_706 rfl (lv_at hl 3 rfl) ?_
  refine lv_aload_n hx hb dL_law_707 rfl (lv_at hl 4 rfl) ?_
  refine lv_iload hx hb dL_law_708 (lv_at hl 0 rfl) ?_
  refine lv_iconst (v := 1) hx hb dL_law_710 (by decide) ?_
  refine lv_iadd hx hb dL_law_711 ?_
  refine wTop (z := nI (i + 1)) (nI_add i 1) ?_
  refine wSld hx hb hX hbl hS (i + 1) (by omega) hLN hx1 dL_law_712 ?_
  refine lv_aload_n hx hb dL_law_713 rfl (lv_at hl 1 rfl) ?_
  refine wLW (pre := ([] : va_W)) (Wc := XO x0 a b ++ (DC cI a f r ++ (DC cI b f2 r2 ++ OUT cJ q v))) (suf := MC cI mb g nw kp) (As := [.ref x0, .int (nI x), .ref q]) (rest := []) ⟨hx, hb, hml, hown, hts⟩ (mL_spokenBy l D cI cJ x0 a b f f2 r r2 q v gg x _ hg hg2 hg0 ux) hN hE hZ hA hK hS hP hD rfl (vx_cwSW 3 hts gL_law_L_spokenBy rfl rfl rfl (by decide +kernel) ⟨Nat.le_of_ble_eq_true rfl, Nat.le_of_ble_eq_true rfl⟩) rfl hl.1 rfl (Nat.le_of_ble_eq_true rfl) dL_law_714 ⟨by omega, by omega⟩ (fun r_714 u_714 H locs hw hP hD hS => ?_)
  have hw : r_714 = 0 := hw
  subst hw
  have hP : va_P D vwCl (XO x0 a b ++ (DC cI a f r ++ (DC cI b f2 r2 ++ (OUT cJ q (vp_updL v 0 ((r 0 x).toInt64)) ++ MC cI mb g nw kp)))) H := hP
  have hD : va_D (lwA s) (XO x0 a b ++ (DC cI a f r ++ (DC cI b f2 r2 ++ (OUT cJ q (vp_updL v 0 ((r 0 x).toInt64)) ++ MC cI mb g nw kp)))) := hD
  refine lv_istore (lv' := [(5, .int 0), (4, .int (nI i)), (3, .ref q), (2, .ref (mb 0)), (1, .ref x0), (0, .ref sb)]) hx hb dL_law_717 hl (by decide) rfl (fun ls hl => ?_)
  refine lv_aload_n hx hb dL_law_719 rfl (lv_at hl 3 rfl) ?_
  refine lv_aload_n hx hb dL_law_720 rfl (lv_at hl 5 rfl) ?_
  refine lv_iload hx hb dL_law_721 (lv_at hl 1 rfl) ?_
  refine lv_iconst (v := 1) hx hb dL_law_723 (by decide) ?_
  refine lv_iadd hx hb dL_law_724 ?_
  refine wTop (z := nI (i + 1)) (nI_add i 1) ?_
  refine wSld hx hb hX hbl hS (i + 1) (by omega) hLN hx1 dL_law_725 ?_
  refine wCVi (pre := XO x0 a b ++ (DC cI a f r ++ (DC cI b f2 r2 ++ OUT cJ q (vp_updL v 0 ((r 0 x).toInt64))))) (Wc := MC cI mb g nw kp) (suf := ([] : va_W)) (As := [.int (nI x)]) (rest := []) ⟨hx, hb, hml, hown, hts⟩ (mX2_spokenBy l D cI mb g nw kp gg x _ hgm hg2 hg0 ux) hN hA hK1 hS hP hD rfl 0 (r := (RX2, TX2, 7)) rfl rfl (cwV 1 hts gL_law_X2_spokenBy rfl rfl rfl (by decide +kernel) ⟨Nat.le_of_ble_eq_true rfl, Nat.le_of_ble_eq_true rfl⟩) rfl hl.1 rfl (Nat.le_of_ble_eq_true rfl) dL_law_726 ⟨by omega, by omega⟩ (fun r_726 u_726 H locs hw hP hD hS => ?_)
  have hw : r_726 = nw (8 + x) := hw
  subst hw
  have hP : va_P D vwCl (XO x0 a b ++ (DC cI a f r ++ (DC cI b f2 r2 ++ (OUT cJ q (vp_updL v 0 ((r 0 x).toInt64)) ++ MC cI mb (upd g 0 0) nw kp)))) H := hP
  have hD : va_D (lwA s) (XO x0 a b ++ (DC cI a f r ++ (DC cI b f2 r2 ++ (OUT cJ q (vp_updL v 0 ((r 0 x).toInt64)) ++ MC cI mb (upd g 0 0) nw kp)))) := hD
  refine wTop (z := (r 0 x)) (hans) ?_
  refine lv_istore (lv' := [(6, .int (r 0 x)), (5, .int 0), (4, .int (nI i)), (3, .ref q), (2, .ref (mb 0)), (1, .ref x0), (0, .ref sb)]) hx hb dL_law_729 hl (by decide) rfl (fun ls hl => ?_)
  refine lv_aload_n hx hb dL_law_731 rfl (lv_at hl 4 rfl) ?_
  refine wCVi (pre := XO x0 a b ++ (DC cI a f r ++ (DC cI b f2 r2 ++ OUT cJ q (vp_updL v 0 ((r 0 x).toInt64))))) (Wc := MC cI mb (upd g 0 0) nw kp) (suf := ([] : va_W)) (As := []) (rest := []) ⟨hx, hb, hml, hown, hts⟩ (mX2_thrown l D cI mb (upd g 0 0) nw kp _ ) hN hA hK1 hS hP hD rfl 0 (r := (RX2, TX2, 7)) rfl rfl (cwV 0 hts gL_law_X2_thrown rfl rfl rfl (by decide +kernel) ⟨Nat.le_of_ble_eq_true rfl, Nat.le_of_ble_eq_true rfl⟩) rfl hl.1 rfl (Nat.le_of_ble_eq_true rfl) dL_law_732 ⟨by omega, by omega⟩ (fun r_732 u_732 H locs hw hP hD hS => ?_)
  have hw : r_732 = (upd g 0 0) 0 := hw
  subst hw
  have hP : va_P D vwCl (XO x0 a b ++ (DC cI a f r ++ (DC cI b f2 r2 ++ (OUT cJ q (vp_updL v 0 ((r 0 x).toInt64)) ++ MC cI mb (upd g 0 0) nw kp)))) H := hP
  have hD : va_D (lwA s) (XO x0 a b ++ (DC cI a f r ++ (DC cI b f2 r2 ++ (OUT cJ q (vp_updL v 0 ((r 0 x).toInt64)) ++ MC cI mb (upd g 0 0) nw kp)))) := hD
  refine wTop (z := 0) (by simp (disch := omega) only [mUp, mUs]) ?_
  refine lv_iload hx hb dL_law_735 (lv_at hl 1 rfl) ?_
  refine lv_icmp_eq (tgt := 742) hx hb dL_law_737 (by decide) (fun c_737 => ?_) (fun h9 => absurd (by decide) h9)
  refine lv_iload hx hb dL_law_742 (lv_at hl 1 rfl) ?_
  refine lv_if_ne (tgt := 759) hx hb dL_law_744 (by decide) (fun h9 => absurd (by decide) h9) (fun c_744 => ?_)
  refine lv_aload_n hx hb dL_law_747 rfl (lv_at hl 3 rfl) ?_
  refine lv_iconst (v := 0) hx hb dL_law_748 (by decide) ?_
  refine wLald hx hb hK hP 17 1 rfl rfl (z := ((r 0 x).toInt64)) (pk_uLs) dL_law_749 ?_
  refine lv_iload hx hb dL_law_750 (lv_at hl 0 rfl) ?_
  refine lv_i2l hx hb dL_law_752 rfl ?_
  refine W.lcmp hx hb dL_law_753 ?_
  refine wTop (z := 0) (lcmp_self _) ?_
  refine lv_if_eq (tgt := 759) hx hb dL_law_754 (by decide) (fun c_754 => ?_) (fun h9 => absurd (by decide) h9)
  refine lv_goto (tgt := 1548) hx hb dL_law_759 (by decide) ?_
  exact W.widen (k := cells + 1) (n := slots + 11) (by omega) (by omega) (kk _ _ _ _ _ _ _ _ (by simp (disch := omega) only [mUp, mUs]) (by simp (disch := omega) only [mUp, mUs]) hP hD hS (lv_sub hl [2, 3, 4, 5, 6] rfl))
set_option maxRecDepth 100000 in
set_option maxHeartbeats 4000000 in
theorem lc_spokenBy1 {p : Program} {l : Launch} {e : Env} {s : State} {m : MethodId} {args : Array Value} {below : List Frame} {meth : Method} {c : Code} {D : va_G} {cI cJ : ClassId} {sb LN : Nat} {xs : Nat → Int32} {H : Heap} {locs : List Loc} {cells slots : Nat} {Q : State → Prop} {ls : Array Slot} (E9 : lawE p l s m args c D cI cJ sb LN xs) (x0 : Nat) (a b : Nat → Nat) (f f2 : Nat → Int32) (r r2 : Nat → Nat → Int32) (q : Nat) (v : Nat → Int64) (mb : Nat → Nat) (g nw kp : Nat → Int32) (i : Nat) (hi : i + 2 < LN) (hcc : cells + 1 ≤ room_1.cells) (hss : slots + 11 ≤ room_1.slots) (hl : lv_has ls 9 [(4, .int (nI i)), (3, .ref q), (2, .ref (mb 0)), (1, .ref x0), (0, .ref sb)]) (hP : va_P D vwCl (XO x0 a b ++ (DC cI a f r ++ (DC cI b f2 r2 ++ (OUT cJ q v ++ MC cI mb g nw kp)))) H) (hD : va_D (lwA s) (XO x0 a b ++ (DC cI a f r ++ (DC cI b f2 r2 ++ (OUT cJ q v ++ MC cI mb g nw kp))))) (hS : va_S (lwA s) s.heap H locs) (x : Int32) (gg : Nat) (hx1 : xs (i + 1) = x) (hbad : x < 0 ∨ f 0 ≤ x) (hg : g 1 = nI gg) (hg2 : gg ≤ 10) (hg0 : 0 < gg) (hbadm : ¬ (0 ≤ x ∧ x < nI gg))
    (kk : ∀ (f9 : Nat → Int32) (r9 : Nat → Nat → Int32) (v9 : Nat → Int64) (g9 kp9 : Nat → Int32) (H1 : Heap) (locs1 : List Loc) (ls1 : Array Slot), g9 1 = g 1 → g9 2 = g 2 → va_P D vwCl (XO x0 a b ++ (DC cI a f r ++ (DC cI b f9 r9 ++ (OUT cJ q v9 ++ MC cI mb g9 nw kp9)))) H1 → va_D (lwA s) (XO x0 a b ++ (DC cI a f r ++ (DC cI b f9 r9 ++ (OUT cJ q v9 ++ MC cI mb g9 nw kp9)))) → va_S (lwA s) s.heap H1 locs1 → lv_has ls1 9 [(4, .int (nI i)), (3, .ref q), (2, .ref (mb 0)), (1, .ref x0), (0, .ref sb)] → W p l e room_1 s m args below meth c H1 locs1 (cells + 1) (slots + 11) Q (F0 m 1548 ls1 [])) : W p l e room_1 s m args below meth c H locs cells slots Q (F0 m 706 ls []) := by
  obtain ⟨⟨hx, hb, hml, hown, hts⟩, hN, hE, hZ, hK, hX, hbl, hlt, hLN⟩ := E9
  have hA : ∀ q : Nat, s.heap.size ≤ q → lwA s q := fun _ h => h
  have hK1 : va_K D vwCl [(cI, .int)] s := hK.sub [0] rfl
  refine lv_aload_n hx hb dL_law_706 rfl (lv_at hl 3 rfl) ?_
  refine lv_aload_n hx hb dL_law_707 rfl (lv_at hl 4 rfl) ?_
  refine lv_iload hx hb dL_law_708 (lv_at hl 0 rfl) ?_
  refine lv_iconst (v := 1) hx hb dL_law_710 (by decide) ?_
  refine lv_iadd hx hb dL_law_711 ?_
  refine wTop (z := nI (i + 1)) (nI_add i 1) ?_
  refine wSld hx hb hX hbl hS (i + 1) (by omega) hLN hx1 dL_law_712 ?_
  refine lv_aload_n hx hb dL_law_713 rfl (lv_at hl 1 rfl) ?_
  refine wLW (pre := ([] : va_W)) (Wc := XO x0 a b ++ (DC cI a f r ++ (DC cI b f2 r2 ++ OUT cJ q v))) (suf := MC cI mb g nw kp) (As := [.ref x0, .int x, .ref q]) (rest := []) ⟨hx, hb, hml, hown, hts⟩ (mL_spokenBy1 l D cI cJ x0 a b f f2 r r2 q v x _ hlt hbad) hN hE hZ hA hK hS hP hD rfl (vx_cwSW 3 hts gL_law_L_spokenBy rfl rfl rfl (by decide +kernel) ⟨Nat.le_of_ble_eq_true rfl, Nat.le_of_ble_eq_true rfl⟩) rfl hl.1 rfl (Nat.le_of_ble_eq_true rfl) dL_law_714 ⟨by omega, by omega⟩ (fun r_714 u_714 H locs hw hP hD hS => ?_)
  have hw : r_714 = 1 := hw
  subst hw
  have hP : va_P D vwCl (XO x0 a b ++ (DC cI a f r ++ (DC cI b f2 r2 ++ (OUT cJ q v ++ MC cI mb g nw kp)))) H := hP
  have hD : va_D (lwA s) (XO x0 a b ++ (DC cI a f r ++ (DC cI b f2 r2 ++ (OUT cJ q v ++ MC cI mb g nw kp)))) := hD
  refine lv_istore (lv' := [(5, .int 1), (4, .int (nI i)), (3, .ref q), (2, .ref (mb 0)), (1, .ref x0), (0, .ref sb)]) hx hb dL_law_717 hl (by decide) rfl (fun ls hl => ?_)
  refine lv_aload_n hx hb dL_law_719 rfl (lv_at hl 3 rfl) ?_
  refine lv_aload_n hx hb dL_law_720 rfl (lv_at hl 5 rfl) ?_
  refine lv_iload hx hb dL_law_721 (lv_at hl 1 rfl) ?_
  refine lv_iconst (v := 1) hx hb dL_law_723 (by decide) ?_
  refine lv_iadd hx hb dL_law_724 ?_
  refine wTop (z := nI (i + 1)) (nI_add i 1) ?_
  refine wSld hx hb hX hbl hS (i + 1) (by omega) hLN hx1 dL_law_725 ?_
  refine wCVi (pre := XO x0 a b ++ (DC cI a f r ++ (DC cI b f2 r2 ++ OUT cJ q v))) (Wc := MC cI mb g nw kp) (suf := ([] : va_W)) (As := [.int x]) (rest := []) ⟨hx, hb, hml, hown, hts⟩ (mX2_spokenBy1 l D cI mb g nw kp gg x _ hg hg2 hg0 hbadm) hN hA hK1 hS hP hD rfl 0 (r := (RX2, TX2, 7)) rfl rfl (cwV 1 hts gL_law_X2_spokenBy rfl rfl rfl (by decide +kernel) ⟨Nat.le_of_ble_eq_true rfl, Nat.le_of_ble_eq_true rfl⟩) rfl hl.1 rfl (Nat.le_of_ble_eq_true rfl) dL_law_726 ⟨by omega, by omega⟩ (fun r_726 u_726 H locs hw hP hD hS => ?_)
  have hw : r_726 = 0 := hw
  subst hw
  have hP : va_P D vwCl (XO x0 a b ++ (DC cI a f r ++ (DC cI b f2 r2 ++ (OUT cJ q v ++ MC cI mb (upd g 0 1) nw kp)))) H := hP
  have hD : va_D (lwA s) (XO x0 a b ++ (DC cI a f r ++ (DC cI b f2 r2 ++ (OUT cJ q v ++ MC cI mb (upd g 0 1) nw kp)))) := hD
  refine lv_istore (lv' := [(6, .int 0), (5, .int 1), (4, .int (nI i)), (3, .ref q), (2, .ref (mb 0)), (1, .ref x0), (0, .ref sb)]) hx hb dL_law_729 hl (by decide) rfl (fun ls hl => ?_)
  refine lv_aload_n hx hb dL_law_731 rfl (lv_at hl 4 rfl) ?_
  refine wCVi (pre := XO x0 a b ++ (DC cI a f r ++ (DC cI b f2 r2 ++ OUT cJ q v))) (Wc := MC cI mb (upd g 0 1) nw kp) (suf := ([] : va_W)) (As := []) (rest := []) ⟨hx, hb, hml, hown, hts⟩ (mX2_thrown l D cI mb (upd g 0 1) nw kp _ ) hN hA hK1 hS hP hD rfl 0 (r := (RX2, TX2, 7)) rfl rfl (cwV 0 hts gL_law_X2_thrown rfl rfl rfl (by decide +kernel) ⟨Nat.le_of_ble_eq_true rfl, Nat.le_of_ble_eq_true rfl⟩) rfl hl.1 rfl (Nat.le_of_ble_eq_true rfl) dL_law_732 ⟨by omega, by omega⟩ (fun r_732 u_732 H locs hw hP hD hS => ?_)
  have hw : r_732 = (upd g 0 1) 0 := hw
  subst hw
  have hP : va_P D vwCl (XO x0 a b ++ (DC cI a f r ++ (DC cI b f2 r2 ++ (OUT cJ q v ++ MC cI mb (upd g 0 1) nw kp)))) H := hP
  have hD : va_D (lwA s) (XO x0 a b ++ (DC cI a f r ++ (DC cI b f2 r2 ++ (OUT cJ q v ++ MC cI mb (upd g 0 1) nw kp)))) := hD
  refine wTop (z := 1) (by simp (disch := omega) only [mUp, mUs]) ?_
  refine lv_iload hx hb dL_law_735 (lv_at hl 1 rfl) ?_
  refine lv_icmp_eq (tgt := 742) hx hb dL_law_737 (by decide) (fun c_737 => ?_) (fun h9 => absurd (by decide) h9)
  refine lv_iload hx hb dL_law_742 (lv_at hl 1 rfl) ?_
  refine lv_if_ne (tgt := 759) hx hb dL_law_744 (by decide) (fun c_744 => ?_) (fun h9 => absurd h9 (by decide))
  refine lv_goto (tgt := 1548) hx hb dL_law_759 (by decide) ?_
  exact W.widen (k := cells + 1) (n := slots + 11) (by omega) (by omega) (kk _ _ _ _ _ _ _ _ (by simp (disch := omega) only [mUp, mUs]) (by simp (disch := omega) only [mUp, mUs]) hP hD hS (lv_sub hl [2, 3, 4, 5, 6] rfl))
set_option maxRecDepth 100000 in
set_option maxHeartbeats 4000000 in
theorem lc_interruptionsBy {p : Program} {l : Launch} {e : Env} {s : State} {m : MethodId} {args : Array Value} {below : List Frame} {meth : Method} {c : Code} {D : va_G} {cI cJ : ClassId} {sb LN : Nat} {xs : Nat → Int32} {H : Heap} {locs : List Loc} {cells slots : Nat} {Q : State → Prop} {ls : Array Slot} (E9 : lawE p l s m args c D cI cJ sb LN xs) (x0 : Nat) (a b : Nat → Nat) (f f2 : Nat → Int32) (r r2 : Nat → Nat → Int32) (q : Nat) (v : Nat → Int64) (mb : Nat → Nat) (g nw kp : Nat → Int32) (i : Nat) (hi : i + 2 < LN) (hcc : cells + 1 ≤ room_1.cells) (hss : slots + 11 ≤ room_1.slots) (hl : lv_has ls 9 [(4, .int (nI i)), (3, .ref q), (2, .ref (mb 0)), (1, .ref x0), (0, .ref sb)]) (hP : va_P D vwCl (XO x0 a b ++ (DC cI a f r ++ (DC cI b f2 r2 ++ (OUT cJ q v ++ MC cI mb g nw kp)))) H) (hD : va_D (lwA s) (XO x0 a b ++ (DC cI a f r ++ (DC cI b f2 r2 ++ (OUT cJ q v ++ MC cI mb g nw kp))))) (hS : va_S (lwA s) s.heap H locs) (gg : Nat) (x : Nat) (hx1 : xs (i + 1) = nI x) (hg : f 0 = nI gg) (hg2 : gg ≤ 10) (hg0 : 0 < gg) (ux : x < gg) (hans : (nw (18 + x) : Int32) = r 1 x) (hgm : g 1 = nI gg)
    (kk : ∀ (f9 : Nat → Int32) (r9 : Nat → Nat → Int32) (v9 : Nat → Int64) (g9 kp9 : Nat → Int32) (H1 : Heap) (locs1 : List Loc) (ls1 : Array Slot), g9 1 = g 1 → g9 2 = g 2 → va_P D vwCl (XO x0 a b ++ (DC cI a f r ++ (DC cI b f9 r9 ++ (OUT cJ q v9 ++ MC cI mb g9 nw kp9)))) H1 → va_D (lwA s) (XO x0 a b ++ (DC cI a f r ++ (DC cI b f9 r9 ++ (OUT cJ q v9 ++ MC cI mb g9 nw kp9)))) → va_S (lwA s) s.heap H1 locs1 → lv_has ls1 9 [(4, .int (nI i)), (3, .ref q), (2, .ref (mb 0)), (1, .ref x0), (0, .ref sb)] → W p l e room_1 s m args below meth c H1 locs1 (cells + 1) (slots + 11) Q (F0 m 1548 ls1 [])) : W p l e room_1 s m args below meth c H locs cells slots Q (F0 m 762 ls []) := by
  obtain ⟨⟨hx, hb, hml, hown, hts⟩, hN, hE, hZ, hK, hX, hbl, hlt, hLN⟩ := E9
  have hA : ∀ q : Nat, s.heap.size ≤ q → lwA s q := fun _ h => h
  have hK1 : va_K D vwCl [(cI, .int)] s := hK.sub [0] rfl
  refine lv_aload_n hx hb dL_law_762 rfl (lv_at hl 3 rfl) ?_
  refine lv_aload_n hx hb dL_law_763 rfl (lv_at hl 4 rfl) ?_
  refine lv_iload hx hb dL_law_764 (lv_at hl 0 rfl) ?_
  refine lv_iconst (v := 1) hx hb dL_law_766 (by decide) ?_
  refine lv_iadd hx hb dL_law_767 ?_
  refine wTop (z := nI (i + 1)) (nI_add i 1) ?_
  refine wSld hx hb hX hbl hS (i + 1) (by omega) hLN hx1 dL_law_768 ?_
  refine lv_aload_n hx hb dL_law_769 rfl (lv_at hl 1 rfl) ?_
  refine wLW (pre := ([] : va_W)) (Wc := XO x0 a b ++ (DC cI a f r ++ (DC cI b f2 r2 ++ OUT cJ q v))) (suf := MC cI mb g nw kp) (As := [.ref x0, .int (nI x), .ref q]) (rest := []) ⟨hx, hb, hml, hown, hts⟩ (mL_interruptionsBy l D cI cJ x0 a b f f2 r r2 q v gg x _ hg hg2 hg0 ux) hN hE hZ hA hK hS hP hD rfl (vx_cwSW 3 hts gL_law_L_interruptionsBy rfl rfl rfl (by decide +kernel) ⟨Nat.le_of_ble_eq_true rfl, Nat.le_of_ble_eq_true rfl⟩) rfl hl.1 rfl (Nat.le_of_ble_eq_true rfl) dL_law_770 ⟨by omega, by omega⟩ (fun r_770 u_770 H locs hw hP hD hS => ?_)
  have hw : r_770 = 0 := hw
  subst hw
  have hP : va_P D vwCl (XO x0 a b ++ (DC cI a f r ++ (DC cI b f2 r2 ++ (OUT cJ q (vp_updL v 0 ((r 1 x).toInt64)) ++ MC cI mb g nw kp)))) H := hP
  have hD : va_D (lwA s) (XO x0 a b ++ (DC cI a f r ++ (DC cI b f2 r2 ++ (OUT cJ q (vp_updL v 0 ((r 1 x).toInt64)) ++ MC cI mb g nw kp)))) := hD
  refine lv_istore (lv' := [(5, .int 0), (4, .int (nI i)), (3, .ref q), (2, .ref (mb 0)), (1, .ref x0), (0, .ref sb)]) hx hb dL_law_773 hl (by decide) rfl (fun ls hl => ?_)
  refine lv_aload_n hx hb dL_law_775 rfl (lv_at hl 3 rfl) ?_
  refine lv_aload_n hx hb dL_law_776 rfl (lv_at hl 5 rfl) ?_
  refine lv_iload hx hb dL_law_777 (lv_at hl 1 rfl) ?_
  refine lv_iconst (v := 1) hx hb dL_law_779 (by decide) ?_
  refine lv_iadd hx hb dL_law_780 ?_
  refine wTop (z := nI (i + 1)) (nI_add i 1) ?_
  refine wSld hx hb hX hbl hS (i + 1) (by omega) hLN hx1 dL_law_781 ?_
  refine wCVi (pre := XO x0 a b ++ (DC cI a f r ++ (DC cI b f2 r2 ++ OUT cJ q (vp_updL v 0 ((r 1 x).toInt64))))) (Wc := MC cI mb g nw kp) (suf := ([] : va_W)) (As := [.int (nI x)]) (rest := []) ⟨hx, hb, hml, hown, hts⟩ (mX2_interruptionsBy l D cI mb g nw kp gg x _ hgm hg2 hg0 ux) hN hA hK1 hS hP hD rfl 0 (r := (RX2, TX2, 7)) rfl rfl (cwV 1 hts gL_law_X2_interruptionsBy rfl rfl rfl (by decide +kernel) ⟨Nat.le_of_ble_eq_true rfl, Nat.le_of_ble_eq_true rfl⟩) rfl hl.1 rfl (Nat.le_of_ble_eq_true rfl) dL_law_782 ⟨by omega, by omega⟩ (fun r_782 u_782 H locs hw hP hD hS => ?_)
  have hw : r_782 = nw (18 + x) := hw
  subst hw
  have hP : va_P D vwCl (XO x0 a b ++ (DC cI a f r ++ (DC cI b f2 r2 ++ (OUT cJ q (vp_updL v 0 ((r 1 x).toInt64)) ++ MC cI mb (upd g 0 0) nw kp)))) H := hP
  have hD : va_D (lwA s) (XO x0 a b ++ (DC cI a f r ++ (DC cI b f2 r2 ++ (OUT cJ q (vp_updL v 0 ((r 1 x).toInt64)) ++ MC cI mb (upd g 0 0) nw kp)))) := hD
  refine wTop (z := (r 1 x)) (hans) ?_
  refine lv_istore (lv' := [(6, .int (r 1 x)), (5, .int 0), (4, .int (nI i)), (3, .ref q), (2, .ref (mb 0)), (1, .ref x0), (0, .ref sb)]) hx hb dL_law_785 hl (by decide) rfl (fun ls hl => ?_)
  refine lv_aload_n hx hb dL_law_787 rfl (lv_at hl 4 rfl) ?_
  refine wCVi (pre := XO x0 a b ++ (DC cI a f r ++ (DC cI b f2 r2 ++ OUT cJ q (vp_updL v 0 ((r 1 x).toInt64))))) (Wc := MC cI mb (upd g 0 0) nw kp) (suf := ([] : va_W)) (As := []) (rest := []) ⟨hx, hb, hml, hown, hts⟩ (mX2_thrown l D cI mb (upd g 0 0) nw kp _ ) hN hA hK1 hS hP hD rfl 0 (r := (RX2, TX2, 7)) rfl rfl (cwV 0 hts gL_law_X2_thrown rfl rfl rfl (by decide +kernel) ⟨Nat.le_of_ble_eq_true rfl, Nat.le_of_ble_eq_true rfl⟩) rfl hl.1 rfl (Nat.le_of_ble_eq_true rfl) dL_law_788 ⟨by omega, by omega⟩ (fun r_788 u_788 H locs hw hP hD hS => ?_)
  have hw : r_788 = (upd g 0 0) 0 := hw
  subst hw
  have hP : va_P D vwCl (XO x0 a b ++ (DC cI a f r ++ (DC cI b f2 r2 ++ (OUT cJ q (vp_updL v 0 ((r 1 x).toInt64)) ++ MC cI mb (upd g 0 0) nw kp)))) H := hP
  have hD : va_D (lwA s) (XO x0 a b ++ (DC cI a f r ++ (DC cI b f2 r2 ++ (OUT cJ q (vp_updL v 0 ((r 1 x).toInt64)) ++ MC cI mb (upd g 0 0) nw kp)))) := hD
  refine wTop (z := 0) (by simp (disch := omega) only [mUp, mUs]) ?_
  refine lv_iload hx hb dL_law_791 (lv_at hl 1 rfl) ?_
  refine lv_icmp_eq (tgt := 798) hx hb dL_law_793 (by decide) (fun c_793 => ?_) (fun h9 => absurd (by decide) h9)
  refine lv_iload hx hb dL_law_798 (lv_at hl 1 rfl) ?_
  refine lv_if_ne (tgt := 815) hx hb dL_law_800 (by decide) (fun h9 => absurd (by decide) h9) (fun c_800 => ?_)
  refine lv_aload_n hx hb dL_law_803 rfl (lv_at hl 3 rfl) ?_
  refine lv_iconst (v := 0) hx hb dL_law_804 (by decide) ?_
  refine wLald hx hb hK hP 17 1 rfl rfl (z := ((r 1 x).toInt64)) (pk_uLs) dL_law_805 ?_
  refine lv_iload hx hb dL_law_806 (lv_at hl 0 rfl) ?_
  refine lv_i2l hx hb dL_law_808 rfl ?_
  refine W.lcmp hx hb dL_law_809 ?_
  refine wTop (z := 0) (lcmp_self _) ?_
  refine lv_if_eq (tgt := 815) hx hb dL_law_810 (by decide) (fun c_810 => ?_) (fun h9 => absurd (by decide) h9)
  refine lv_goto (tgt := 1548) hx hb dL_law_815 (by decide) ?_
  exact W.widen (k := cells + 1) (n := slots + 11) (by omega) (by omega) (kk _ _ _ _ _ _ _ _ (by simp (disch := omega) only [mUp, mUs]) (by simp (disch := omega) only [mUp, mUs]) hP hD hS (lv_sub hl [2, 3, 4, 5, 6] rfl))
set_option maxRecDepth 100000 in
set_option maxHeartbeats 4000000 in
theorem lc_interruptionsBy1 {p : Program} {l : Launch} {e : Env} {s : State} {m : MethodId} {args : Array Value} {below : List Frame} {meth : Method} {c : Code} {D : va_G} {cI cJ : ClassId} {sb LN : Nat} {xs : Nat → Int32} {H : Heap} {locs : List Loc} {cells slots : Nat} {Q : State → Prop} {ls : Array Slot} (E9 : lawE p l s m args c D cI cJ sb LN xs) (x0 : Nat) (a b : Nat → Nat) (f f2 : Nat → Int32) (r r2 : Nat → Nat → Int32) (q : Nat) (v : Nat → Int64) (mb : Nat → Nat) (g nw kp : Nat → Int32) (i : Nat) (hi : i + 2 < LN) (hcc : cells + 1 ≤ room_1.cells) (hss : slots + 11 ≤ room_1.slots) (hl : lv_has ls 9 [(4, .int (nI i)), (3, .ref q), (2, .ref (mb 0)), (1, .ref x0), (0, .ref sb)]) (hP : va_P D vwCl (XO x0 a b ++ (DC cI a f r ++ (DC cI b f2 r2 ++ (OUT cJ q v ++ MC cI mb g nw kp)))) H) (hD : va_D (lwA s) (XO x0 a b ++ (DC cI a f r ++ (DC cI b f2 r2 ++ (OUT cJ q v ++ MC cI mb g nw kp))))) (hS : va_S (lwA s) s.heap H locs) (x : Int32) (gg : Nat) (hx1 : xs (i + 1) = x) (hbad : x < 0 ∨ f 0 ≤ x) (hg : g 1 = nI gg) (hg2 : gg ≤ 10) (hg0 : 0 < gg) (hbadm : ¬ (0 ≤ x ∧ x < nI gg))
    (kk : ∀ (f9 : Nat → Int32) (r9 : Nat → Nat → Int32) (v9 : Nat → Int64) (g9 kp9 : Nat → Int32) (H1 : Heap) (locs1 : List Loc) (ls1 : Array Slot), g9 1 = g 1 → g9 2 = g 2 → va_P D vwCl (XO x0 a b ++ (DC cI a f r ++ (DC cI b f9 r9 ++ (OUT cJ q v9 ++ MC cI mb g9 nw kp9)))) H1 → va_D (lwA s) (XO x0 a b ++ (DC cI a f r ++ (DC cI b f9 r9 ++ (OUT cJ q v9 ++ MC cI mb g9 nw kp9)))) → va_S (lwA s) s.heap H1 locs1 → lv_has ls1 9 [(4, .int (nI i)), (3, .ref q), (2, .ref (mb 0)), (1, .ref x0), (0, .ref sb)] → W p l e room_1 s m args below meth c H1 locs1 (cells + 1) (slots + 11) Q (F0 m 1548 ls1 [])) : W p l e room_1 s m args below meth c H locs cells slots Q (F0 m 762 ls []) := by
  obtain ⟨⟨hx, hb, hml, hown, hts⟩, hN, hE, hZ, hK, hX, hbl, hlt, hLN⟩ := E9
  have hA : ∀ q : Nat, s.heap.size ≤ q → lwA s q := fun _ h => h
  have hK1 : va_K D vwCl [(cI, .int)] s := hK.sub [0] rfl
  refine lv_aload_n hx hb dL_law_762 rfl (lv_at hl 3 rfl) ?_
  refine lv_aload_n hx hb dL_law_763 rfl (lv_at hl 4 rfl) ?_
  refine lv_iload hx hb dL_law_764 (lv_at hl 0 rfl) ?_
  refine lv_iconst (v := 1) hx hb dL_law_766 (by decide) ?_
  refine lv_iadd hx hb dL_law_767 ?_
  refine wTop (z := nI (i + 1)) (nI_add i 1) ?_
  refine wSld hx hb hX hbl hS (i + 1) (by omega) hLN hx1 dL_law_768 ?_
  refine lv_aload_n hx hb dL_law_769 rfl (lv_at hl 1 rfl) ?_
  refine wLW (pre := ([] : va_W)) (Wc := XO x0 a b ++ (DC cI a f r ++ (DC cI b f2 r2 ++ OUT cJ q v))) (suf := MC cI mb g nw kp) (As := [.ref x0, .int x, .ref q]) (rest := []) ⟨hx, hb, hml, hown, hts⟩ (mL_interruptionsBy1 l D cI cJ x0 a b f f2 r r2 q v x _ hlt hbad) hN hE hZ hA hK hS hP hD rfl (vx_cwSW 3 hts gL_law_L_interruptionsBy rfl rfl rfl (by decide +kernel) ⟨Nat.le_of_ble_eq_true rfl, Nat.le_of_ble_eq_true rfl⟩) rfl hl.1 rfl (Nat.le_of_ble_eq_true rfl) dL_law_770 ⟨by omega, by omega⟩ (fun r_770 u_770 H locs hw hP hD hS => ?_)
  have hw : r_770 = 1 := hw
  subst hw
  have hP : va_P D vwCl (XO x0 a b ++ (DC cI a f r ++ (DC cI b f2 r2 ++ (OUT cJ q v ++ MC cI mb g nw kp)))) H := hP
  have hD : va_D (lwA s) (XO x0 a b ++ (DC cI a f r ++ (DC cI b f2 r2 ++ (OUT cJ q v ++ MC cI mb g nw kp)))) := hD
  refine lv_istore (lv' := [(5, .int 1), (4, .int (nI i)), (3, .ref q), (2, .ref (mb 0)), (1, .ref x0), (0, .ref sb)]) hx hb dL_law_773 hl (by decide) rfl (fun ls hl => ?_)
  refine lv_aload_n hx hb dL_law_775 rfl (lv_at hl 3 rfl) ?_
  refine lv_aload_n hx hb dL_law_776 rfl (lv_at hl 5 rfl) ?_
  refine lv_iload hx hb dL_law_777 (lv_at hl 1 rfl) ?_
  refine lv_iconst (v := 1) hx hb dL_law_779 (by decide) ?_
  refine lv_iadd hx hb dL_law_780 ?_
  refine wTop (z := nI (i + 1)) (nI_add i 1) ?_
  refine wSld hx hb hX hbl hS (i + 1) (by omega) hLN hx1 dL_law_781 ?_
  refine wCVi (pre := XO x0 a b ++ (DC cI a f r ++ (DC cI b f2 r2 ++ OUT cJ q v))) (Wc := MC cI mb g nw kp) (suf := ([] : va_W)) (As := [.int x]) (rest := []) ⟨hx, hb, hml, hown, hts⟩ (mX2_interruptionsBy1 l D cI mb g nw kp gg x _ hg hg2 hg0 hbadm) hN hA hK1 hS hP hD rfl 0 (r := (RX2, TX2, 7)) rfl rfl (cwV 1 hts gL_law_X2_interruptionsBy rfl rfl rfl (by decide +kernel) ⟨Nat.le_of_ble_eq_true rfl, Nat.le_of_ble_eq_true rfl⟩) rfl hl.1 rfl (Nat.le_of_ble_eq_true rfl) dL_law_782 ⟨by omega, by omega⟩ (fun r_782 u_782 H locs hw hP hD hS => ?_)
  have hw : r_782 = 0 := hw
  subst hw
  have hP : va_P D vwCl (XO x0 a b ++ (DC cI a f r ++ (DC cI b f2 r2 ++ (OUT cJ q v ++ MC cI mb (upd g 0 1) nw kp)))) H := hP
  have hD : va_D (lwA s) (XO x0 a b ++ (DC cI a f r ++ (DC cI b f2 r2 ++ (OUT cJ q v ++ MC cI mb (upd g 0 1) nw kp)))) := hD
  refine lv_istore (lv' := [(6, .int 0), (5, .int 1), (4, .int (nI i)), (3, .ref q), (2, .ref (mb 0)), (1, .ref x0), (0, .ref sb)]) hx hb dL_law_785 hl (by decide) rfl (fun ls hl => ?_)
  refine lv_aload_n hx hb dL_law_787 rfl (lv_at hl 4 rfl) ?_
  refine wCVi (pre := XO x0 a b ++ (DC cI a f r ++ (DC cI b f2 r2 ++ OUT cJ q v))) (Wc := MC cI mb (upd g 0 1) nw kp) (suf := ([] : va_W)) (As := []) (rest := []) ⟨hx, hb, hml, hown, hts⟩ (mX2_thrown l D cI mb (upd g 0 1) nw kp _ ) hN hA hK1 hS hP hD rfl 0 (r := (RX2, TX2, 7)) rfl rfl (cwV 0 hts gL_law_X2_thrown rfl rfl rfl (by decide +kernel) ⟨Nat.le_of_ble_eq_true rfl, Nat.le_of_ble_eq_true rfl⟩) rfl hl.1 rfl (Nat.le_of_ble_eq_true rfl) dL_law_788 ⟨by omega, by omega⟩ (fun r_788 u_788 H locs hw hP hD hS => ?_)
  have hw : r_788 = (upd g 0 1) 0 := hw
  subst hw
  have hP : va_P D vwCl (XO x0 a b ++ (DC cI a f r ++ (DC cI b f2 r2 ++ (OUT cJ q v ++ MC cI mb (upd g 0 1) nw kp)))) H := hP
  have hD : va_D (lwA s) (XO x0 a b ++ (DC cI a f r ++ (DC cI b f2 r2 ++ (OUT cJ q v ++ MC cI mb (upd g 0 1) nw kp)))) := hD
  refine wTop (z := 1) (by simp (disch := omega) only [mUp, mUs]) ?_
  refine lv_iload hx hb dL_law_791 (lv_at hl 1 rfl) ?_
  refine lv_icmp_eq (tgt := 798) hx hb dL_law_793 (by decide) (fun c_793 => ?_) (fun h9 => absurd (by decide) h9)
  refine lv_iload hx hb dL_law_798 (lv_at hl 1 rfl) ?_
  refine lv_if_ne (tgt := 815) hx hb dL_law_800 (by decide) (fun c_800 => ?_) (fun h9 => absurd h9 (by decide))
  refine lv_goto (tgt := 1548) hx hb dL_law_815 (by decide) ?_
  exact W.widen (k := cells + 1) (n := slots + 11) (by omega) (by omega) (kk _ _ _ _ _ _ _ _ (by simp (disch := omega) only [mUp, mUs]) (by simp (disch := omega) only [mUp, mUs]) hP hD hS (lv_sub hl [2, 3, 4, 5, 6] rfl))
set_option maxRecDepth 100000 in
set_option maxHeartbeats 4000000 in
theorem lc_coughsOf {p : Program} {l : Launch} {e : Env} {s : State} {m : MethodId} {args : Array Value} {below : List Frame} {meth : Method} {c : Code} {D : va_G} {cI cJ : ClassId} {sb LN : Nat} {xs : Nat → Int32} {H : Heap} {locs : List Loc} {cells slots : Nat} {Q : State → Prop} {ls : Array Slot} (E9 : lawE p l s m args c D cI cJ sb LN xs) (x0 : Nat) (a b : Nat → Nat) (f f2 : Nat → Int32) (r r2 : Nat → Nat → Int32) (q : Nat) (v : Nat → Int64) (mb : Nat → Nat) (g nw kp : Nat → Int32) (i : Nat) (hi : i + 2 < LN) (hcc : cells + 1 ≤ room_1.cells) (hss : slots + 11 ≤ room_1.slots) (hl : lv_has ls 9 [(4, .int (nI i)), (3, .ref q), (2, .ref (mb 0)), (1, .ref x0), (0, .ref sb)]) (hP : va_P D vwCl (XO x0 a b ++ (DC cI a f r ++ (DC cI b f2 r2 ++ (OUT cJ q v ++ MC cI mb g nw kp)))) H) (hD : va_D (lwA s) (XO x0 a b ++ (DC cI a f r ++ (DC cI b f2 r2 ++ (OUT cJ q v ++ MC cI mb g nw kp))))) (hS : va_S (lwA s) s.heap H locs) (gg : Nat) (x : Nat) (hx1 : xs (i + 1) = nI x) (hg : f 0 = nI gg) (hg2 : gg ≤ 10) (hg0 : 0 < gg) (ux : x < gg) (hans : (nw (28 + x) : Int32) = r 2 x) (hgm : g 1 = nI gg)
    (kk : ∀ (f9 : Nat → Int32) (r9 : Nat → Nat → Int32) (v9 : Nat → Int64) (g9 kp9 : Nat → Int32) (H1 : Heap) (locs1 : List Loc) (ls1 : Array Slot), g9 1 = g 1 → g9 2 = g 2 → va_P D vwCl (XO x0 a b ++ (DC cI a f r ++ (DC cI b f9 r9 ++ (OUT cJ q v9 ++ MC cI mb g9 nw kp9)))) H1 → va_D (lwA s) (XO x0 a b ++ (DC cI a f r ++ (DC cI b f9 r9 ++ (OUT cJ q v9 ++ MC cI mb g9 nw kp9)))) → va_S (lwA s) s.heap H1 locs1 → lv_has ls1 9 [(4, .int (nI i)), (3, .ref q), (2, .ref (mb 0)), (1, .ref x0), (0, .ref sb)] → W p l e room_1 s m args below meth c H1 locs1 (cells + 1) (slots + 11) Q (F0 m 1548 ls1 [])) : W p l e room_1 s m args below meth c H locs cells slots Q (F0 m 818 ls []) := by
  obtain ⟨⟨hx, hb, hml, hown, hts⟩, hN, hE, hZ, hK, hX, hbl, hlt, hLN⟩ := E9
  have hA : ∀ q : Nat, s.heap.size ≤ q → lwA s q := fun _ h => h
  have hK1 : va_K D vwCl [(cI, .int)] s := hK.sub [0] rfl
  refine lv_aload_n hx hb dL_law_818 rfl (lv_at hl 3 rfl) ?_
  refine lv_aload_n hx hb dL_law_819 rfl (lv_at hl 4 rfl) ?_
  refine lv_iload hx hb dL_law_820 (lv_at hl 0 rfl) ?_
  refine lv_iconst (v := 1) hx hb dL_law_822 (by decide) ?_
  refine lv_iadd hx hb dL_law_823 ?_
  refine wTop (z := nI (i + 1)) (nI_add i 1) ?_
  refine wSld hx hb hX hbl hS (i + 1) (by omega) hLN hx1 dL_law_824 ?_
  refine lv_aload_n hx hb dL_law_825 rfl (lv_at hl 1 rfl) ?_
  refine wLW (pre := ([] : va_W)) (Wc := XO x0 a b ++ (DC cI a f r ++ (DC cI b f2 r2 ++ OUT cJ q v))) (suf := MC cI mb g nw kp) (As := [.ref x0, .int (nI x), .ref q]) (rest := []) ⟨hx, hb, hml, hown, hts⟩ (mL_coughsOf l D cI cJ x0 a b f f2 r r2 q v gg x _ hg hg2 hg0 ux) hN hE hZ hA hK hS hP hD rfl (vx_cwSW 3 hts gL_law_L_coughsOf rfl rfl rfl (by decide +kernel) ⟨Nat.le_of_ble_eq_true rfl, Nat.le_of_ble_eq_true rfl⟩) rfl hl.1 rfl (Nat.le_of_ble_eq_true rfl) dL_law_826 ⟨by omega, by omega⟩ (fun r_826 u_826 H locs hw hP hD hS => ?_)
  have hw : r_826 = 0 := hw
  subst hw
  have hP : va_P D vwCl (XO x0 a b ++ (DC cI a f r ++ (DC cI b f2 r2 ++ (OUT cJ q (vp_updL v 0 ((r 2 x).toInt64)) ++ MC cI mb g nw kp)))) H := hP
  have hD : va_D (lwA s) (XO x0 a b ++ (DC cI a f r ++ (DC cI b f2 r2 ++ (OUT cJ q (vp_updL v 0 ((r 2 x).toInt64)) ++ MC cI mb g nw kp)))) := hD
  refine lv_istore (lv' := [(5, .int 0), (4, .int (nI i)), (3, .ref q), (2, .ref (mb 0)), (1, .ref x0), (0, .ref sb)]) hx hb dL_law_829 hl (by decide) rfl (fun ls hl => ?_)
  refine lv_aload_n hx hb dL_law_831 rfl (lv_at hl 3 rfl) ?_
  refine lv_aload_n hx hb dL_law_832 rfl (lv_at hl 5 rfl) ?_
  refine lv_iload hx hb dL_law_833 (lv_at hl 1 rfl) ?_
  refine lv_iconst (v := 1) hx hb dL_law_835 (by decide) ?_
  refine lv_iadd hx hb dL_law_836 ?_
  refine wTop (z := nI (i + 1)) (nI_add i 1) ?_
  refine wSld hx hb hX hbl hS (i + 1) (by omega) hLN hx1 dL_law_837 ?_
  refine wCVi (pre := XO x0 a b ++ (DC cI a f r ++ (DC cI b f2 r2 ++ OUT cJ q (vp_updL v 0 ((r 2 x).toInt64))))) (Wc := MC cI mb g nw kp) (suf := ([] : va_W)) (As := [.int (nI x)]) (rest := []) ⟨hx, hb, hml, hown, hts⟩ (mX2_coughsOf l D cI mb g nw kp gg x _ hgm hg2 hg0 ux) hN hA hK1 hS hP hD rfl 0 (r := (RX2, TX2, 7)) rfl rfl (cwV 1 hts gL_law_X2_coughsOf rfl rfl rfl (by decide +kernel) ⟨Nat.le_of_ble_eq_true rfl, Nat.le_of_ble_eq_true rfl⟩) rfl hl.1 rfl (Nat.le_of_ble_eq_true rfl) dL_law_838 ⟨by omega, by omega⟩ (fun r_838 u_838 H locs hw hP hD hS => ?_)
  have hw : r_838 = nw (28 + x) := hw
  subst hw
  have hP : va_P D vwCl (XO x0 a b ++ (DC cI a f r ++ (DC cI b f2 r2 ++ (OUT cJ q (vp_updL v 0 ((r 2 x).toInt64)) ++ MC cI mb (upd g 0 0) nw kp)))) H := hP
  have hD : va_D (lwA s) (XO x0 a b ++ (DC cI a f r ++ (DC cI b f2 r2 ++ (OUT cJ q (vp_updL v 0 ((r 2 x).toInt64)) ++ MC cI mb (upd g 0 0) nw kp)))) := hD
  refine wTop (z := (r 2 x)) (hans) ?_
  refine lv_istore (lv' := [(6, .int (r 2 x)), (5, .int 0), (4, .int (nI i)), (3, .ref q), (2, .ref (mb 0)), (1, .ref x0), (0, .ref sb)]) hx hb dL_law_841 hl (by decide) rfl (fun ls hl => ?_)
  refine lv_aload_n hx hb dL_law_843 rfl (lv_at hl 4 rfl) ?_
  refine wCVi (pre := XO x0 a b ++ (DC cI a f r ++ (DC cI b f2 r2 ++ OUT cJ q (vp_updL v 0 ((r 2 x).toInt64))))) (Wc := MC cI mb (upd g 0 0) nw kp) (suf := ([] : va_W)) (As := []) (rest := []) ⟨hx, hb, hml, hown, hts⟩ (mX2_thrown l D cI mb (upd g 0 0) nw kp _ ) hN hA hK1 hS hP hD rfl 0 (r := (RX2, TX2, 7)) rfl rfl (cwV 0 hts gL_law_X2_thrown rfl rfl rfl (by decide +kernel) ⟨Nat.le_of_ble_eq_true rfl, Nat.le_of_ble_eq_true rfl⟩) rfl hl.1 rfl (Nat.le_of_ble_eq_true rfl) dL_law_844 ⟨by omega, by omega⟩ (fun r_844 u_844 H locs hw hP hD hS => ?_)
  have hw : r_844 = (upd g 0 0) 0 := hw
  subst hw
  have hP : va_P D vwCl (XO x0 a b ++ (DC cI a f r ++ (DC cI b f2 r2 ++ (OUT cJ q (vp_updL v 0 ((r 2 x).toInt64)) ++ MC cI mb (upd g 0 0) nw kp)))) H := hP
  have hD : va_D (lwA s) (XO x0 a b ++ (DC cI a f r ++ (DC cI b f2 r2 ++ (OUT cJ q (vp_updL v 0 ((r 2 x).toInt64)) ++ MC cI mb (upd g 0 0) nw kp)))) := hD
  refine wTop (z := 0) (by simp (disch := omega) only [mUp, mUs]) ?_
  refine lv_iload hx hb dL_law_847 (lv_at hl 1 rfl) ?_
  refine lv_icmp_eq (tgt := 854) hx hb dL_law_849 (by decide) (fun c_849 => ?_) (fun h9 => absurd (by decide) h9)
  refine lv_iload hx hb dL_law_854 (lv_at hl 1 rfl) ?_
  refine lv_if_ne (tgt := 871) hx hb dL_law_856 (by decide) (fun h9 => absurd (by decide) h9) (fun c_856 => ?_)
  refine lv_aload_n hx hb dL_law_859 rfl (lv_at hl 3 rfl) ?_
  refine lv_iconst (v := 0) hx hb dL_law_860 (by decide) ?_
  refine wLald hx hb hK hP 17 1 rfl rfl (z := ((r 2 x).toInt64)) (pk_uLs) dL_law_861 ?_
  refine lv_iload hx hb dL_law_862 (lv_at hl 0 rfl) ?_
  refine lv_i2l hx hb dL_law_864 rfl ?_
  refine W.lcmp hx hb dL_law_865 ?_
  refine wTop (z := 0) (lcmp_self _) ?_
  refine lv_if_eq (tgt := 871) hx hb dL_law_866 (by decide) (fun c_866 => ?_) (fun h9 => absurd (by decide) h9)
  refine lv_goto (tgt := 1548) hx hb dL_law_871 (by decide) ?_
  exact W.widen (k := cells + 1) (n := slots + 11) (by omega) (by omega) (kk _ _ _ _ _ _ _ _ (by simp (disch := omega) only [mUp, mUs]) (by simp (disch := omega) only [mUp, mUs]) hP hD hS (lv_sub hl [2, 3, 4, 5, 6] rfl))
set_option maxRecDepth 100000 in
set_option maxHeartbeats 4000000 in
theorem lc_coughsOf1 {p : Program} {l : Launch} {e : Env} {s : State} {m : MethodId} {args : Array Value} {below : List Frame} {meth : Method} {c : Code} {D : va_G} {cI cJ : ClassId} {sb LN : Nat} {xs : Nat → Int32} {H : Heap} {locs : List Loc} {cells slots : Nat} {Q : State → Prop} {ls : Array Slot} (E9 : lawE p l s m args c D cI cJ sb LN xs) (x0 : Nat) (a b : Nat → Nat) (f f2 : Nat → Int32) (r r2 : Nat → Nat → Int32) (q : Nat) (v : Nat → Int64) (mb : Nat → Nat) (g nw kp : Nat → Int32) (i : Nat) (hi : i + 2 < LN) (hcc : cells + 1 ≤ room_1.cells) (hss : slots + 11 ≤ room_1.slots) (hl : lv_has ls 9 [(4, .int (nI i)), (3, .ref q), (2, .ref (mb 0)), (1, .ref x0), (0, .ref sb)]) (hP : va_P D vwCl (XO x0 a b ++ (DC cI a f r ++ (DC cI b f2 r2 ++ (OUT cJ q v ++ MC cI mb g nw kp)))) H) (hD : va_D (lwA s) (XO x0 a b ++ (DC cI a f r ++ (DC cI b f2 r2 ++ (OUT cJ q v ++ MC cI mb g nw kp))))) (hS : va_S (lwA s) s.heap H locs) (x : Int32) (gg : Nat) (hx1 : xs (i + 1) = x) (hbad : x < 0 ∨ f 0 ≤ x) (hg : g 1 = nI gg) (hg2 : gg ≤ 10) (hg0 : 0 < gg) (hbadm : ¬ (0 ≤ x ∧ x < nI gg))
    (kk : ∀ (f9 : Nat → Int32) (r9 : Nat → Nat → Int32) (v9 : Nat → Int64) (g9 kp9 : Nat → Int32) (H1 : Heap) (locs1 : List Loc) (ls1 : Array Slot), g9 1 = g 1 → g9 2 = g 2 → va_P D vwCl (XO x0 a b ++ (DC cI a f r ++ (DC cI b f9 r9 ++ (OUT cJ q v9 ++ MC cI mb g9 nw kp9)))) H1 → va_D (lwA s) (XO x0 a b ++ (DC cI a f r ++ (DC cI b f9 r9 ++ (OUT cJ q v9 ++ MC cI mb g9 nw kp9)))) → va_S (lwA s) s.heap H1 locs1 → lv_has ls1 9 [(4, .int (nI i)), (3, .ref q), (2, .ref (mb 0)), (1, .ref x0), (0, .ref sb)] → W p l e room_1 s m args below meth c H1 locs1 (cells + 1) (slots + 11) Q (F0 m 1548 ls1 [])) : W p l e room_1 s m args below meth c H locs cells slots Q (F0 m 818 ls []) := by
  obtain ⟨⟨hx, hb, hml, hown, hts⟩, hN, hE, hZ, hK, hX, hbl, hlt, hLN⟩ := E9
  have hA : ∀ q : Nat, s.heap.size ≤ q → lwA s q := fun _ h => h
  have hK1 : va_K D vwCl [(cI, .int)] s := hK.sub [0] rfl
  refine lv_aload_n hx hb dL_law_818 rfl (lv_at hl 3 rfl) ?_
  refine lv_aload_n hx hb dL_law_819 rfl (lv_at hl 4 rfl) ?_
  refine lv_iload hx hb dL_law_820 (lv_at hl 0 rfl) ?_
  refine lv_iconst (v := 1) hx hb dL_law_822 (by decide) ?_
  refine lv_iadd hx hb dL_law_823 ?_
  refine wTop (z := nI (i + 1)) (nI_add i 1) ?_
  refine wSld hx hb hX hbl hS (i + 1) (by omega) hLN hx1 dL_law_824 ?_
  refine lv_aload_n hx hb dL_law_825 rfl (lv_at hl 1 rfl) ?_
  refine wLW (pre := ([] : va_W)) (Wc := XO x0 a b ++ (DC cI a f r ++ (DC cI b f2 r2 ++ OUT cJ q v))) (suf := MC cI mb g nw kp) (As := [.ref x0, .int x, .ref q]) (rest := []) ⟨hx, hb, hml, hown, hts⟩ (mL_coughsOf1 l D cI cJ x0 a b f f2 r r2 q v x _ hlt hbad) hN hE hZ hA hK hS hP hD rfl (vx_cwSW 3 hts gL_law_L_coughsOf rfl rfl rfl (by decide +kernel) ⟨Nat.le_of_ble_eq_true rfl, Nat.le_of_ble_eq_true rfl⟩) rfl hl.1 rfl (Nat.le_of_ble_eq_true rfl) dL_law_826 ⟨by omega, by omega⟩ (fun r_826 u_826 H locs hw hP hD hS => ?_)
  have hw : r_826 = 1 := hw
  subst hw
  have hP : va_P D vwCl (XO x0 a b ++ (DC cI a f r ++ (DC cI b f2 r2 ++ (OUT cJ q v ++ MC cI mb g nw kp)))) H := hP
  have hD : va_D (lwA s) (XO x0 a b ++ (DC cI a f r ++ (DC cI b f2 r2 ++ (OUT cJ q v ++ MC cI mb g nw kp)))) := hD
  refine lv_istore (lv' := [(5, .int 1), (4, .int (nI i)), (3, .ref q), (2, .ref (mb 0)), (1, .ref x0), (0, .ref sb)]) hx hb dL_law_829 hl (by decide) rfl (fun ls hl => ?_)
  refine lv_aload_n hx hb dL_law_831 rfl (lv_at hl 3 rfl) ?_
  refine lv_aload_n hx hb dL_law_832 rfl (lv_at hl 5 rfl) ?_
  refine lv_iload hx hb dL_law_833 (lv_at hl 1 rfl) ?_
  refine lv_iconst (v := 1) hx hb dL_law_835 (by decide) ?_
  refine lv_iadd hx hb dL_law_836 ?_
  refine wTop (z := nI (i + 1)) (nI_add i 1) ?_
  refine wSld hx hb hX hbl hS (i + 1) (by omega) hLN hx1 dL_law_837 ?_
  refine wCVi (pre := XO x0 a b ++ (DC cI a f r ++ (DC cI b f2 r2 ++ OUT cJ q v))) (Wc := MC cI mb g nw kp) (suf := ([] : va_W)) (As := [.int x]) (rest := []) ⟨hx, hb, hml, hown, hts⟩ (mX2_coughsOf1 l D cI mb g nw kp gg x _ hg hg2 hg0 hbadm) hN hA hK1 hS hP hD rfl 0 (r := (RX2, TX2, 7)) rfl rfl (cwV 1 hts gL_law_X2_coughsOf rfl rfl rfl (by decide +kernel) ⟨Nat.le_of_ble_eq_true rfl, Nat.le_of_ble_eq_true rfl⟩) rfl hl.1 rfl (Nat.le_of_ble_eq_true rfl) dL_law_838 ⟨by omega, by omega⟩ (fun r_838 u_838 H locs hw hP hD hS => ?_)
  have hw : r_838 = 0 := hw
  subst hw
  have hP : va_P D vwCl (XO x0 a b ++ (DC cI a f r ++ (DC cI b f2 r2 ++ (OUT cJ q v ++ MC cI mb (upd g 0 1) nw kp)))) H := hP
  have hD : va_D (lwA s) (XO x0 a b ++ (DC cI a f r ++ (DC cI b f2 r2 ++ (OUT cJ q v ++ MC cI mb (upd g 0 1) nw kp)))) := hD
  refine lv_istore (lv' := [(6, .int 0), (5, .int 1), (4, .int (nI i)), (3, .ref q), (2, .ref (mb 0)), (1, .ref x0), (0, .ref sb)]) hx hb dL_law_841 hl (by decide) rfl (fun ls hl => ?_)
  refine lv_aload_n hx hb dL_law_843 rfl (lv_at hl 4 rfl) ?_
  refine wCVi (pre := XO x0 a b ++ (DC cI a f r ++ (DC cI b f2 r2 ++ OUT cJ q v))) (Wc := MC cI mb (upd g 0 1) nw kp) (suf := ([] : va_W)) (As := []) (rest := []) ⟨hx, hb, hml, hown, hts⟩ (mX2_thrown l D cI mb (upd g 0 1) nw kp _ ) hN hA hK1 hS hP hD rfl 0 (r := (RX2, TX2, 7)) rfl rfl (cwV 0 hts gL_law_X2_thrown rfl rfl rfl (by decide +kernel) ⟨Nat.le_of_ble_eq_true rfl, Nat.le_of_ble_eq_true rfl⟩) rfl hl.1 rfl (Nat.le_of_ble_eq_true rfl) dL_law_844 ⟨by omega, by omega⟩ (fun r_844 u_844 H locs hw hP hD hS => ?_)
  have hw : r_844 = (upd g 0 1) 0 := hw
  subst hw
  have hP : va_P D vwCl (XO x0 a b ++ (DC cI a f r ++ (DC cI b f2 r2 ++ (OUT cJ q v ++ MC cI mb (upd g 0 1) nw kp)))) H := hP
  have hD : va_D (lwA s) (XO x0 a b ++ (DC cI a f r ++ (DC cI b f2 r2 ++ (OUT cJ q v ++ MC cI mb (upd g 0 1) nw kp)))) := hD
  refine wTop (z := 1) (by simp (disch := omega) only [mUp, mUs]) ?_
  refine lv_iload hx hb dL_law_847 (lv_at hl 1 rfl) ?_
  refine lv_icmp_eq (tgt := 854) hx hb dL_law_849 (by decide) (fun c_849 => ?_) (fun h9 => absurd (by decide) h9)
  refine lv_iload hx hb dL_law_854 (lv_at hl 1 rfl) ?_
  refine lv_if_ne (tgt := 871) hx hb dL_law_856 (by decide) (fun c_856 => ?_) (fun h9 => absurd h9 (by decide))
  refine lv_goto (tgt := 1548) hx hb dL_law_871 (by decide) ?_
  exact W.widen (k := cells + 1) (n := slots + 11) (by omega) (by omega) (kk _ _ _ _ _ _ _ _ (by simp (disch := omega) only [mUp, mUs]) (by simp (disch := omega) only [mUp, mUs]) hP hD hS (lv_sub hl [2, 3, 4, 5, 6] rfl))
