set_option maxRecDepth 100000 in
set_option maxHeartbeats 4000000 in
theorem lc_unsaidBy {p : Program} {l : Launch} {e : Env} {s : State} {m : MethodId} {args : Array Value} {below : List Frame} {meth : Method} {c : Code} {D : va_G} {cI cJ : ClassId} {sb LN : Nat} {xs : Nat → Int32} {H : Heap} {locs : List Loc} {cells slots : Nat} {Q : State → Prop} {ls : Array Slot} (E9 : lawE p l s m args c D cI cJ sb LN xs) (x0 : Nat) (a b : Nat → Nat) (f f2 : Nat → Int32) (r r2 : Nat → Nat → Int32) (q : Nat) (v : Nat → Int64) (mb : Nat → Nat) (g nw kp : Nat → Int32) (i : Nat) (hi : i + 2 < LN) (hcc : cells + 1 ≤ room_1.cells) (hss : slots + 11 ≤ room_1.slots) (hl : lv_has ls 9 [(4, .int (nI i)), (3, .ref q), (2, .ref (mb 0)), (1, .ref x0), (0, .ref sb)]) (hP : va_P D vwCl (XO x0 a b ++ (DC cI a f r ++ (DC cI b f2 r2 ++ (OUT cJ q v ++ MC cI mb g nw kp)))) H) (hD : va_D (lwA s) (XO x0 a b ++ (DC cI a f r ++ (DC cI b f2 r2 ++ (OUT cJ q v ++ MC cI mb g nw kp))))) (hS : va_S (lwA s) s.heap H locs) (gg : Nat) (x : Nat) (hx1 : xs (i + 1) = nI x) (hg : f 0 = nI gg) (hg2 : gg ≤ 10) (hg0 : 0 < gg) (ux : x < gg) (hans : (nw (38 + x) : Int32) = r 3 x) (hgm : g 1 = nI gg)
    (kk : ∀ (f9 : Nat → Int32) (r9 : Nat → Nat → Int32) (v9 : Nat → Int64) (g9 kp9 : Nat → Int32) (H1 : Heap) (locs1 : List Loc) (ls1 : Array Slot), g9 1 = g 1 → g9 2 = g 2 → va_P D vwCl (XO x0 a b ++ (DC cI a f r ++ (DC cI b f9 r9 ++ (OUT cJ q v9 ++ MC cI mb g9 nw kp9)))) H1 → va_D (lwA s) (XO x0 a b ++ (DC cI a f r ++ (DC cI b f9 r9 ++ (OUT cJ q v9 ++ MC cI mb g9 nw kp9)))) → va_S (lwA s) s.heap H1 locs1 → lv_has ls1 9 [(4, .int (nI i)), (3, .ref q), (2, .ref (mb 0)), (1, .ref x0), (0, .ref sb)] → W p l e room_1 s m args below meth c H1 locs1 (cells + 1) (slots + 11) Q (F0 m 1548 ls1 [])) : W p l e room_1 s m args below meth c H locs cells slots Q (F0 m 874 ls []) := by
  obtain ⟨⟨hx, hb, hml, hown, hts⟩, hN, hE, hZ, hK, hX, hbl, hlt, hLN⟩ := E9
  have hA : ∀ q : Nat, s.heap.size ≤ q → lwA s q := fun _ h => h
  have hK1 : va_K D vwCl [(cI, .int)] s := hK.sub [0] rfl
  refine lv_aload_n hx hb dL_law_874 rfl (lv_at hl 3 rfl) ?_
  refine lv_aload_n hx hb dL_law_875 rfl (lv_at hl 4 rfl) ?_
  refine lv_iload hx hb dL_law_876 (lv_at hl 0 rfl) ?_
  refine lv_iconst (v := 1) hx hb dL_law_878 (by decide) ?_
  refine lv_iadd hx hb dL_law_879 ?_
  refine wTop (z := nI (i + 1)) (nI_add i 1) ?_
  refine wSld hx hb hX hbl hS (i + 1) (by omega) hLN hx1 dL_law_880 ?_
  refine lv_aload_n hx hb dL_law_881 rfl (lv_at hl 1 rfl) ?_
  refine wLW (pre := ([] : va_W)) (Wc := XO x0 a b ++ (DC cI a f r ++ (DC cI b f2 r2 ++ OUT cJ q v))) (suf := MC cI mb g nw kp) (As := [.ref x0, .int (nI x), .ref q]) (rest := []) ⟨hx, hb, hml, hown, hts⟩ (mL_unsaidBy l D cI cJ x0 a b f f2 r r2 q v gg x _ hg hg2 hg0 ux) hN hE hZ hA hK hS hP hD rfl (vx_cwSW 3 hts gL_law_L_unsaidBy rfl rfl rfl (by decide +kernel) ⟨Nat.le_of_ble_eq_true rfl, Nat.le_of_ble_eq_true rfl⟩) rfl hl.1 rfl (Nat.le_of_ble_eq_true rfl) dL_law_882 ⟨by omega, by omega⟩ (fun r_882 u_882 H locs hw hP hD hS => ?_)
  have hw : r_882 = 0 := hw
  subst hw
  have hP : va_P D vwCl (XO x0 a b ++ (DC cI a f r ++ (DC cI b f2 r2 ++ (OUT cJ q (vp_updL v 0 ((r 3 x).toInt64)) ++ MC cI mb g nw kp)))) H := hP
  have hD : va_D (lwA s) (XO x0 a b ++ (DC cI a f r ++ (DC cI b f2 r2 ++ (OUT cJ q (vp_updL v 0 ((r 3 x).toInt64)) ++ MC cI mb g nw kp)))) := hD
  refine lv_istore (lv' := [(5, .int 0), (4, .int (nI i)), (3, .ref q), (2, .ref (mb 0)), (1, .ref x0), (0, .ref sb)]) hx hb dL_law_885 hl (by decide) rfl (fun ls hl => ?_)
  refine lv_aload_n hx hb dL_law_887 rfl (lv_at hl 3 rfl) ?_
  refine lv_aload_n hx hb dL_law_888 rfl (lv_at hl 5 rfl) ?_
  refine lv_iload hx hb dL_law_889 (lv_at hl 1 rfl) ?_
  refine lv_iconst (v := 1) hx hb dL_law_891 (by decide) ?_
  refine lv_iadd hx hb dL_law_892 ?_
  refine wTop (z := nI (i + 1)) (nI_add i 1) ?_
  refine wSld hx hb hX hbl hS (i + 1) (by omega) hLN hx1 dL_law_893 ?_
  refine wCVi (pre := XO x0 a b ++ (DC cI a f r ++ (DC cI b f2 r2 ++ OUT cJ q (vp_updL v 0 ((r 3 x).toInt64))))) (Wc := MC cI mb g nw kp) (suf := ([] : va_W)) (As := [.int (nI x)]) (rest := []) ⟨hx, hb, hml, hown, hts⟩ (mX2_unsaidBy l D cI mb g nw kp gg x _ hgm hg2 hg0 ux) hN hA hK1 hS hP hD rfl 0 (r := (RX2, TX2, 7)) rfl rfl (cwV 1 hts gL_law_X2_unsaidBy rfl rfl rfl (by decide +kernel) ⟨Nat.le_of_ble_eq_true rfl, Nat.le_of_ble_eq_true rfl⟩) rfl hl.1 rfl (Nat.le_of_ble_eq_true rfl) dL_law_894 ⟨by omega, by omega⟩ (fun r_894 u_894 H locs hw hP hD hS => ?_)
  have hw : r_894 = nw (38 + x) := hw
  subst hw
  have hP : va_P D vwCl (XO x0 a b ++ (DC cI a f r ++ (DC cI b f2 r2 ++ (OUT cJ q (vp_updL v 0 ((r 3 x).toInt64)) ++ MC cI mb (upd g 0 0) nw kp)))) H := hP
  have hD : va_D (lwA s) (XO x0 a b ++ (DC cI a f r ++ (DC cI b f2 r2 ++ (OUT cJ q (vp_updL v 0 ((r 3 x).toInt64)) ++ MC cI mb (upd g 0 0) nw kp)))) := hD
  refine wTop (z := (r 3 x)) (hans) ?_
  refine lv_istore (lv' := [(6, .int (r 3 x)), (5, .int 0), (4, .int (nI i)), (3, .ref q), (2, .ref (mb 0)), (1, .ref x0), (0, .ref sb)]) hx hb dL_law_897 hl (by decide) rfl (fun ls hl => ?_)
  refine lv_aload_n hx hb dL_law_899 rfl (lv_at hl 4 rfl) ?_
  refine wCVi (pre := XO x0 a b ++ (DC cI a f r ++ (DC cI b f2 r2 ++ OUT cJ q (vp_updL v 0 ((r 3 x).toInt64))))) (Wc := MC cI mb (upd g 0 0) nw kp) (suf := ([] : va_W)) (As := []) (rest := []) ⟨hx, hb, hml, hown, hts⟩ (mX2_thrown l D cI mb (upd g 0 0) nw kp _ ) hN hA hK1 hS hP hD rfl 0 (r := (RX2, TX2, 7)) rfl rfl (cwV 0 hts gL_law_X2_thrown rfl rfl rfl (by decide +kernel) ⟨Nat.le_of_ble_eq_true rfl, Nat.le_of_ble_eq_true rfl⟩) rfl hl.1 rfl (Nat.le_of_ble_eq_true rfl) dL_law_900 ⟨by omega, by omega⟩ (fun r_900 u_900 H locs hw hP hD hS => ?_)
  have hw : r_900 = (upd g 0 0) 0 := hw
  subst hw
  have hP : va_P D vwCl (XO x0 a b ++ (DC cI a f r ++ (DC cI b f2 r2 ++ (OUT cJ q (vp_updL v 0 ((r 3 x).toInt64)) ++ MC cI mb (upd g 0 0) nw kp)))) H := hP
  have hD : va_D (lwA s) (XO x0 a b ++ (DC cI a f r ++ (DC cI b f2 r2 ++ (OUT cJ q (vp_updL v 0 ((r 3 x).toInt64)) ++ MC cI mb (upd g 0 0) nw kp)))) := hD
  refine wTop (z := 0) (by simp (disch := omega) only [mUp, mUs]) ?_
  refine lv_iload hx hb dL_law_903 (lv_at hl 1 rfl) ?_
  refine lv_icmp_eq (tgt := 910) hx hb dL_law_905 (by decide) (fun c_905 => ?_) (fun h9 => absurd (by decide) h9)
  refine lv_iload hx hb dL_law_910 (lv_at hl 1 rfl) ?_
  refine lv_if_ne (tgt := 927) hx hb dL_law_912 (by decide) (fun h9 => absurd (by decide) h9) (fun c_912 => ?_)
  refine lv_aload_n hx hb dL_law_915 rfl (lv_at hl 3 rfl) ?_
  refine lv_iconst (v := 0) hx hb dL_law_916 (by decide) ?_
  refine wLald hx hb hK hP 17 1 rfl rfl (z := ((r 3 x).toInt64)) (pk_uLs) dL_law_917 ?_
  refine lv_iload hx hb dL_law_918 (lv_at hl 0 rfl) ?_
  refine lv_i2l hx hb dL_law_920 rfl ?_
  refine W.lcmp hx hb dL_law_921 ?_
  refine wTop (z := 0) (lcmp_self _) ?_
  refine lv_if_eq (tgt := 927) hx hb dL_law_922 (by decide) (fun c_922 => ?_) (fun h9 => absurd (by decide) h9)
  refine lv_goto (tgt := 1548) hx hb dL_law_927 (by decide) ?_
  exact W.widen (k := cells + 1) (n := slots + 11) (by omega) (by omega) (kk _ _ _ _ _ _ _ _ (by simp (disch := omega) only [mUp, mUs]) (by simp (disch := omega) only [mUp, mUs]) hP hD hS (lv_sub hl [2, 3, 4, 5, 6] rfl))
set_option maxRecDepth 100000 in
set_option maxHeartbeats 4000000 in
theorem lc_unsaidBy1 {p : Program} {l : Launch} {e : Env} {s : State} {m : MethodId} {args : Array Value} {below : List Frame} {meth : Method} {c : Code} {D : va_G} {cI cJ : ClassId} {sb LN : Nat} {xs : Nat → Int32} {H : Heap} {locs : List Loc} {cells slots : Nat} {Q : State → Prop} {ls : Array Slot} (E9 : lawE p l s m args c D cI cJ sb LN xs) (x0 : Nat) (a b : Nat → Nat) (f f2 : Nat → Int32) (r r2 : Nat → Nat → Int32) (q : Nat) (v : Nat → Int64) (mb : Nat → Nat) (g nw kp : Nat → Int32) (i : Nat) (hi : i + 2 < LN) (hcc : cells + 1 ≤ room_1.cells) (hss : slots + 11 ≤ room_1.slots) (hl : lv_has ls 9 [(4, .int (nI i)), (3, .ref q), (2, .ref (mb 0)), (1, .ref x0), (0, .ref sb)]) (hP : va_P D vwCl (XO x0 a b ++ (DC cI a f r ++ (DC cI b f2 r2 ++ (OUT cJ q v ++ MC cI mb g nw kp)))) H) (hD : va_D (lwA s) (XO x0 a b ++ (DC cI a f r ++ (DC cI b f2 r2 ++ (OUT cJ q v ++ MC cI mb g nw kp))))) (hS : va_S (lwA s) s.heap H locs) (x : Int32) (gg : Nat) (hx1 : xs (i + 1) = x) (hbad : x < 0 ∨ f 0 ≤ x) (hg : g 1 = nI gg) (hg2 : gg ≤ 10) (hg0 : 0 < gg) (hbadm : ¬ (0 ≤ x ∧ x < nI gg))
    (kk : ∀ (f9 : Nat → Int32) (r9 : Nat → Nat → Int32) (v9 : Nat → Int64) (g9 kp9 : Nat → Int32) (H1 : Heap) (locs1 : List Loc) (ls1 : Array Slot), g9 1 = g 1 → g9 2 = g 2 → va_P D vwCl (XO x0 a b ++ (DC cI a f r ++ (DC cI b f9 r9 ++ (OUT cJ q v9 ++ MC cI mb g9 nw kp9)))) H1 → va_D (lwA s) (XO x0 a b ++ (DC cI a f r ++ (DC cI b f9 r9 ++ (OUT cJ q v9 ++ MC cI mb g9 nw kp9)))) → va_S (lwA s) s.heap H1 locs1 → lv_has ls1 9 [(4, .int (nI i)), (3, .ref q), (2, .ref (mb 0)), (1, .ref x0), (0, .ref sb)] → W p l e room_1 s m args below meth c H1 locs1 (cells + 1) (slots + 11) Q (F0 m 1548 ls1 [])) : W p l e room_1 s m args below meth c H locs cells slots Q (F0 m 874 ls []) := by
  obtain ⟨⟨hx, hb, hml, hown, hts⟩, hN, hE, hZ, hK, hX, hbl, hlt, hLN⟩ := E9
  have hA : ∀ q : Nat, s.heap.size ≤ q → lwA s q := fun _ h => h
  have hK1 : va_K D vwCl [(cI, .int)] s := hK.sub [0] rfl
  refine lv_aload_n hx hb dL_law_874 rfl (lv_at hl 3 rfl) ?_
  refine lv_aload_n hx hb dL_law_875 rfl (lv_at hl 4 rfl) ?_
  refine lv_iload hx hb dL_law_876 (lv_at hl 0 rfl) ?_
  refine lv_iconst (v := 1) hx hb dL_law_878 (by decide) ?_
  refine lv_iadd hx hb dL_law_879 ?_
  refine wTop (z := nI (i + 1)) (nI_add i 1) ?_
  refine wSld hx hb hX hbl hS (i + 1) (by omega) hLN hx1 dL_law_880 ?_
  refine lv_aload_n hx hb dL_law_881 rfl (lv_at hl 1 rfl) ?_
  refine wLW (pre := ([] : va_W)) (Wc := XO x0 a b ++ (DC cI a f r ++ (DC cI b f2 r2 ++ OUT cJ q v))) (suf := MC cI mb g nw kp) (As := [.ref x0, .int x, .ref q]) (rest := []) ⟨hx, hb, hml, hown, hts⟩ (mL_unsaidBy1 l D cI cJ x0 a b f f2 r r2 q v x _ hlt hbad) hN hE hZ hA hK hS hP hD rfl (vx_cwSW 3 hts gL_law_L_unsaidBy rfl rfl rfl (by decide +kernel) ⟨Nat.le_of_ble_eq_true rfl, Nat.le_of_ble_eq_true rfl⟩) rfl hl.1 rfl (Nat.le_of_ble_eq_true rfl) dL_law_882 ⟨by omega, by omega⟩ (fun r_882 u_882 H locs hw hP hD hS => ?_)
  have hw : r_882 = 1 := hw
  subst hw
  have hP : va_P D vwCl (XO x0 a b ++ (DC cI a f r ++ (DC cI b f2 r2 ++ (OUT cJ q v ++ MC cI mb g nw kp)))) H := hP
  have hD : va_D (lwA s) (XO x0 a b ++ (DC cI a f r ++ (DC cI b f2 r2 ++ (OUT cJ q v ++ MC cI mb g nw kp)))) := hD
  refine lv_istore (lv' := [(5, .int 1), (4, .int (nI i)), (3, .ref q), (2, .ref (mb 0)), (1, .ref x0), (0, .ref sb)]) hx hb dL_law_885 hl (by decide) rfl (fun ls hl => ?_)
  refine lv_aload_n hx hb dL_law_887 rfl (lv_at hl 3 rfl) ?_
  refine lv_aload_n hx hb dL_law_888 rfl (lv_at hl 5 rfl) ?_
  refine lv_iload hx hb dL_law_889 (lv_at hl 1 rfl) ?_
  refine lv_iconst (v := 1) hx hb dL_law_891 (by decide) ?_
  refine lv_iadd hx hb dL_law_892 ?_
  refine wTop (z := nI (i + 1)) (nI_add i 1) ?_
  refine wSld hx hb hX hbl hS (i + 1) (by omega) hLN hx1 dL_law_893 ?_
  refine wCVi (pre := XO x0 a b ++ (DC cI a f r ++ (DC cI b f2 r2 ++ OUT cJ q v))) (Wc := MC cI mb g nw kp) (suf := ([] : va_W)) (As := [.int x]) (rest := []) ⟨hx, hb, hml, hown, hts⟩ (mX2_unsaidBy1 l D cI mb g nw kp gg x _ hg hg2 hg0 hbadm) hN hA hK1 hS hP hD rfl 0 (r := (RX2, TX2, 7)) rfl rfl (cwV 1 hts gL_law_X2_unsaidBy rfl rfl rfl (by decide +kernel) ⟨Nat.le_of_ble_eq_true rfl, Nat.le_of_ble_eq_true rfl⟩) rfl hl.1 rfl (Nat.le_of_ble_eq_true rfl) dL_law_894 ⟨by omega, by omega⟩ (fun r_894 u_894 H locs hw hP hD hS => ?_)
  have hw : r_894 = 0 := hw
  subst hw
  have hP : va_P D vwCl (XO x0 a b ++ (DC cI a f r ++ (DC cI b f2 r2 ++ (OUT cJ q v ++ MC cI mb (upd g 0 1) nw kp)))) H := hP
  have hD : va_D (lwA s) (XO x0 a b ++ (DC cI a f r ++ (DC cI b f2 r2 ++ (OUT cJ q v ++ MC cI mb (upd g 0 1) nw kp)))) := hD
  refine lv_istore (lv' := [(6, .int 0), (5, .int 1), (4, .int (nI i)), (3, .ref q), (2, .ref (mb 0)), (1, .ref x0), (0, .ref sb)]) hx hb dL_law_897 hl (by decide) rfl (fun ls hl => ?_)
  refine lv_aload_n hx hb dL_law_899 rfl (lv_at hl 4 rfl) ?_
  refine wCVi (pre := XO x0 a b ++ (DC cI a f r ++ (DC cI b f2 r2 ++ OUT cJ q v))) (Wc := MC cI mb (upd g 0 1) nw kp) (suf := ([] : va_W)) (As := []) (rest := []) ⟨hx, hb, hml, hown, hts⟩ (mX2_thrown l D cI mb (upd g 0 1) nw kp _ ) hN hA hK1 hS hP hD rfl 0 (r := (RX2, TX2, 7)) rfl rfl (cwV 0 hts gL_law_X2_thrown rfl rfl rfl (by decide +kernel) ⟨Nat.le_of_ble_eq_true rfl, Nat.le_of_ble_eq_true rfl⟩) rfl hl.1 rfl (Nat.le_of_ble_eq_true rfl) dL_law_900 ⟨by omega, by omega⟩ (fun r_900 u_900 H locs hw hP hD hS => ?_)
  have hw : r_900 = (upd g 0 1) 0 := hw
  subst hw
  have hP : va_P D vwCl (XO x0 a b ++ (DC cI a f r ++ (DC cI b f2 r2 ++ (OUT cJ q v ++ MC cI mb (upd g 0 1) nw kp)))) H := hP
  have hD : va_D (lwA s) (XO x0 a b ++ (DC cI a f r ++ (DC cI b f2 r2 ++ (OUT cJ q v ++ MC cI mb (upd g 0 1) nw kp)))) := hD
  refine wTop (z := 1) (by simp (disch := omega) only [mUp, mUs]) ?_
  refine lv_iload hx hb dL_law_903 (lv_at hl 1 rfl) ?_
  refine lv_icmp_eq (tgt := 910) hx hb dL_law_905 (by decide) (fun c_905 => ?_) (fun h9 => absurd (by decide) h9)
  refine lv_iload hx hb dL_law_910 (lv_at hl 1 rfl) ?_
  refine lv_if_ne (tgt := 927) hx hb dL_law_912 (by decide) (fun c_912 => ?_) (fun h9 => absurd h9 (by decide))
  refine lv_goto (tgt := 1548) hx hb dL_law_927 (by decide) ?_
  exact W.widen (k := cells + 1) (n := slots + 11) (by omega) (by omega) (kk _ _ _ _ _ _ _ _ (by simp (disch := omega) only [mUp, mUs]) (by simp (disch := omega) only [mUp, mUs]) hP hD hS (lv_sub hl [2, 3, 4, 5, 6] rfl))
set_option maxRecDepth 100000 in
set_option maxHeartbeats 4000000 in
theorem lc_isUnderWay0 {p : Program} {l : Launch} {e : Env} {s : State} {m : MethodId} {args : Array Value} {below : List Frame} {meth : Method} {c : Code} {D : va_G} {cI cJ : ClassId} {sb LN : Nat} {xs : Nat → Int32} {H : Heap} {locs : List Loc} {cells slots : Nat} {Q : State → Prop} {ls : Array Slot} (E9 : lawE p l s m args c D cI cJ sb LN xs) (x0 : Nat) (a b : Nat → Nat) (f f2 : Nat → Int32) (r r2 : Nat → Nat → Int32) (q : Nat) (v : Nat → Int64) (mb : Nat → Nat) (g nw kp : Nat → Int32) (i : Nat) (hi : i + 2 < LN) (hcc : cells + 1 ≤ room_1.cells) (hss : slots + 11 ≤ room_1.slots) (hl : lv_has ls 9 [(4, .int (nI i)), (3, .ref q), (2, .ref (mb 0)), (1, .ref x0), (0, .ref sb)]) (hP : va_P D vwCl (XO x0 a b ++ (DC cI a f r ++ (DC cI b f2 r2 ++ (OUT cJ q v ++ MC cI mb g nw kp)))) H) (hD : va_D (lwA s) (XO x0 a b ++ (DC cI a f r ++ (DC cI b f2 r2 ++ (OUT cJ q v ++ MC cI mb g nw kp))))) (hS : va_S (lwA s) s.heap H locs) (gg : Nat) (x : Nat) (y : Nat) (hx1 : xs (i + 1) = nI x) (hx2 : xs (i + 2) = nI y) (hg : f 0 = nI gg) (hg2 : gg ≤ 10) (hg0 : 0 < gg) (ux : x < gg) (uy : y < gg) (hfree : r 4 (x * 10 + y) = -1) (hans : (if 0 < nw (148 + (10 * x + y)) then 1 else 0 : Int32) = 0) (hgm : g 1 = nI gg)
    (kk : ∀ (f9 : Nat → Int32) (r9 : Nat → Nat → Int32) (v9 : Nat → Int64) (g9 kp9 : Nat → Int32) (H1 : Heap) (locs1 : List Loc) (ls1 : Array Slot), g9 1 = g 1 → g9 2 = g 2 → va_P D vwCl (XO x0 a b ++ (DC cI a f r ++ (DC cI b f9 r9 ++ (OUT cJ q v9 ++ MC cI mb g9 nw kp9)))) H1 → va_D (lwA s) (XO x0 a b ++ (DC cI a f r ++ (DC cI b f9 r9 ++ (OUT cJ q v9 ++ MC cI mb g9 nw kp9)))) → va_S (lwA s) s.heap H1 locs1 → lv_has ls1 9 [(4, .int (nI i)), (3, .ref q), (2, .ref (mb 0)), (1, .ref x0), (0, .ref sb)] → W p l e room_1 s m args below meth c H1 locs1 (cells + 1) (slots + 11) Q (F0 m 1548 ls1 [])) : W p l e room_1 s m args below meth c H locs cells slots Q (F0 m 930 ls []) := by
  obtain ⟨⟨hx, hb, hml, hown, hts⟩, hN, hE, hZ, hK, hX, hbl, hlt, hLN⟩ := E9
  have hA : ∀ q : Nat, s.heap.size ≤ q → lwA s q := fun _ h => h
  have hK1 : va_K D vwCl [(cI, .int)] s := hK.sub [0] rfl
  refine lv_aload_n hx hb dL_law_930 rfl (lv_at hl 3 rfl) ?_
  refine lv_aload_n hx hb dL_law_931 rfl (lv_at hl 4 rfl) ?_
  refine lv_iload hx hb dL_law_932 (lv_at hl 0 rfl) ?_
  refine lv_iconst (v := 1) hx hb dL_law_934 (by decide) ?_
  refine lv_iadd hx hb dL_law_935 ?_
  refine wTop (z := nI (i + 1)) (nI_add i 1) ?_
  refine wSld hx hb hX hbl hS (i + 1) (by omega) hLN hx1 dL_law_936 ?_
  refine lv_aload_n hx hb dL_law_937 rfl (lv_at hl 4 rfl) ?_
  refine lv_iload hx hb dL_law_938 (lv_at hl 0 rfl) ?_
  refine lv_iconst (v := 2) hx hb dL_law_940 (by decide) ?_
  refine lv_iadd hx hb dL_law_941 ?_
  refine wTop (z := nI (i + 2)) (nI_add i 2) ?_
  refine wSld hx hb hX hbl hS (i + 2) (by omega) hLN hx2 dL_law_942 ?_
  refine lv_aload_n hx hb dL_law_943 rfl (lv_at hl 1 rfl) ?_
  refine wLW (pre := ([] : va_W)) (Wc := XO x0 a b ++ (DC cI a f r ++ (DC cI b f2 r2 ++ OUT cJ q v))) (suf := MC cI mb g nw kp) (As := [.ref x0, .int (nI x), .int (nI y), .ref q]) (rest := []) ⟨hx, hb, hml, hown, hts⟩ (mL_isUnderWay0 l D cI cJ x0 a b f f2 r r2 q v gg x y _ hg hg2 hg0 ux uy hfree) hN hE hZ hA hK hS hP hD rfl (vx_cwSW 4 hts gL_law_L_isUnderWay rfl rfl rfl (by decide +kernel) ⟨Nat.le_of_ble_eq_true rfl, Nat.le_of_ble_eq_true rfl⟩) rfl hl.1 rfl (Nat.le_of_ble_eq_true rfl) dL_law_944 ⟨by omega, by omega⟩ (fun r_944 u_944 H locs hw hP hD hS => ?_)
  have hw : r_944 = 0 := hw
  subst hw
  have hP : va_P D vwCl (XO x0 a b ++ (DC cI a f r ++ (DC cI b f2 r2 ++ (OUT cJ q (vp_updL v 0 (0)) ++ MC cI mb g nw kp)))) H := hP
  have hD : va_D (lwA s) (XO x0 a b ++ (DC cI a f r ++ (DC cI b f2 r2 ++ (OUT cJ q (vp_updL v 0 (0)) ++ MC cI mb g nw kp)))) := hD
  refine lv_istore (lv' := [(5, .int 0), (4, .int (nI i)), (3, .ref q), (2, .ref (mb 0)), (1, .ref x0), (0, .ref sb)]) hx hb dL_law_947 hl (by decide) rfl (fun ls hl => ?_)
  refine lv_aload_n hx hb dL_law_949 rfl (lv_at hl 3 rfl) ?_
  refine lv_aload_n hx hb dL_law_950 rfl (lv_at hl 5 rfl) ?_
  refine lv_iload hx hb dL_law_951 (lv_at hl 1 rfl) ?_
  refine lv_iconst (v := 1) hx hb dL_law_953 (by decide) ?_
  refine lv_iadd hx hb dL_law_954 ?_
  refine wTop (z := nI (i + 1)) (nI_add i 1) ?_
  refine wSld hx hb hX hbl hS (i + 1) (by omega) hLN hx1 dL_law_955 ?_
  refine lv_aload_n hx hb dL_law_956 rfl (lv_at hl 5 rfl) ?_
  refine lv_iload hx hb dL_law_957 (lv_at hl 1 rfl) ?_
  refine lv_iconst (v := 2) hx hb dL_law_959 (by decide) ?_
  refine lv_iadd hx hb dL_law_960 ?_
  refine wTop (z := nI (i + 2)) (nI_add i 2) ?_
  refine wSld hx hb hX hbl hS (i + 2) (by omega) hLN hx2 dL_law_961 ?_
  refine wCVi (pre := XO x0 a b ++ (DC cI a f r ++ (DC cI b f2 r2 ++ OUT cJ q (vp_updL v 0 (0))))) (Wc := MC cI mb g nw kp) (suf := ([] : va_W)) (As := [.int (nI x), .int (nI y)]) (rest := []) ⟨hx, hb, hml, hown, hts⟩ (mX2_isUnderWay l D cI mb g nw kp gg x y _ hgm hg2 hg0 ux uy) hN hA hK1 hS hP hD rfl 0 (r := (RX2, TX2, 7)) rfl rfl (cwV 2 hts gL_law_X2_isUnderWay rfl rfl rfl (by decide +kernel) ⟨Nat.le_of_ble_eq_true rfl, Nat.le_of_ble_eq_true rfl⟩) rfl hl.1 rfl (Nat.le_of_ble_eq_true rfl) dL_law_962 ⟨by omega, by omega⟩ (fun r_962 u_962 H locs hw hP hD hS => ?_)
  have hw : r_962 = if 0 < nw (148 + (10 * x + y)) then 1 else 0 := hw
  subst hw
  have hP : va_P D vwCl (XO x0 a b ++ (DC cI a f r ++ (DC cI b f2 r2 ++ (OUT cJ q (vp_updL v 0 (0)) ++ MC cI mb (upd g 0 0) nw kp)))) H := hP
  have hD : va_D (lwA s) (XO x0 a b ++ (DC cI a f r ++ (DC cI b f2 r2 ++ (OUT cJ q (vp_updL v 0 (0)) ++ MC cI mb (upd g 0 0) nw kp)))) := hD
  refine wTop (z := 0) (hans) ?_
  refine lv_istore (lv' := [(6, .int 0), (5, .int 0), (4, .int (nI i)), (3, .ref q), (2, .ref (mb 0)), (1, .ref x0), (0, .ref sb)]) hx hb dL_law_965 hl (by decide) rfl (fun ls hl => ?_)
  refine lv_aload_n hx hb dL_law_967 rfl (lv_at hl 4 rfl) ?_
  refine wCVi (pre := XO x0 a b ++ (DC cI a f r ++ (DC cI b f2 r2 ++ OUT cJ q (vp_updL v 0 (0))))) (Wc := MC cI mb (upd g 0 0) nw kp) (suf := ([] : va_W)) (As := []) (rest := []) ⟨hx, hb, hml, hown, hts⟩ (mX2_thrown l D cI mb (upd g 0 0) nw kp _ ) hN hA hK1 hS hP hD rfl 0 (r := (RX2, TX2, 7)) rfl rfl (cwV 0 hts gL_law_X2_thrown rfl rfl rfl (by decide +kernel) ⟨Nat.le_of_ble_eq_true rfl, Nat.le_of_ble_eq_true rfl⟩) rfl hl.1 rfl (Nat.le_of_ble_eq_true rfl) dL_law_968 ⟨by omega, by omega⟩ (fun r_968 u_968 H locs hw hP hD hS => ?_)
  have hw : r_968 = (upd g 0 0) 0 := hw
  subst hw
  have hP : va_P D vwCl (XO x0 a b ++ (DC cI a f r ++ (DC cI b f2 r2 ++ (OUT cJ q (vp_updL v 0 (0)) ++ MC cI mb (upd g 0 0) nw kp)))) H := hP
  have hD : va_D (lwA s) (XO x0 a b ++ (DC cI a f r ++ (DC cI b f2 r2 ++ (OUT cJ q (vp_updL v 0 (0)) ++ MC cI mb (upd g 0 0) nw kp)))) := hD
  refine wTop (z := 0) (by simp (disch := omega) only [mUp, mUs]) ?_
  refine lv_iload hx hb dL_law_971 (lv_at hl 1 rfl) ?_
  refine lv_icmp_eq (tgt := 978) hx hb dL_law_973 (by decide) (fun c_973 => ?_) (fun h9 => absurd (by decide) h9)
  refine lv_iload hx hb dL_law_978 (lv_at hl 1 rfl) ?_
  refine lv_if_ne (tgt := 1002) hx hb dL_law_980 (by decide) (fun h9 => absurd (by decide) h9) (fun c_980 => ?_)
  refine lv_aload_n hx hb dL_law_983 rfl (lv_at hl 3 rfl) ?_
  refine lv_iconst (v := 0) hx hb dL_law_984 (by decide) ?_
  refine wLald hx hb hK hP 17 1 rfl rfl (z := 0) (pk_uLs) dL_law_985 ?_
  refine lv_iload hx hb dL_law_986 (lv_at hl 0 rfl) ?_
  refine lv_if_eq (tgt := 995) hx hb dL_law_988 (by decide) (fun c_988 => ?_) (fun h9 => absurd (by decide) h9)
  refine lv_lconst (v := 0) hx hb dL_law_995 (by decide) ?_
  refine W.lcmp hx hb dL_law_996 ?_
  refine wTop (z := 0) (lcmp_self _) ?_
  refine lv_if_eq (tgt := 1002) hx hb dL_law_997 (by decide) (fun c_997 => ?_) (fun h9 => absurd (by decide) h9)
  refine lv_goto (tgt := 1548) hx hb dL_law_1002 (by decide) ?_
  exact W.widen (k := cells + 1) (n := slots + 11) (by omega) (by omega) (kk _ _ _ _ _ _ _ _ (by simp (disch := omega) only [mUp, mUs]) (by simp (disch := omega) only [mUp, mUs]) hP hD hS (lv_sub hl [2, 3, 4, 5, 6] rfl))
set_option maxRecDepth 100000 in
set_option maxHeartbeats 4000000 in
theorem lc_isUnderWay5 {p : Program} {l : Launch} {e : Env} {s : State} {m : MethodId} {args : Array Value} {below : List Frame} {meth : Method} {c : Code} {D : va_G} {cI cJ : ClassId} {sb LN : Nat} {xs : Nat → Int32} {H : Heap} {locs : List Loc} {cells slots : Nat} {Q : State → Prop} {ls : Array Slot} (E9 : lawE p l s m args c D cI cJ sb LN xs) (x0 : Nat) (a b : Nat → Nat) (f f2 : Nat → Int32) (r r2 : Nat → Nat → Int32) (q : Nat) (v : Nat → Int64) (mb : Nat → Nat) (g nw kp : Nat → Int32) (i : Nat) (hi : i + 2 < LN) (hcc : cells + 1 ≤ room_1.cells) (hss : slots + 11 ≤ room_1.slots) (hl : lv_has ls 9 [(4, .int (nI i)), (3, .ref q), (2, .ref (mb 0)), (1, .ref x0), (0, .ref sb)]) (hP : va_P D vwCl (XO x0 a b ++ (DC cI a f r ++ (DC cI b f2 r2 ++ (OUT cJ q v ++ MC cI mb g nw kp)))) H) (hD : va_D (lwA s) (XO x0 a b ++ (DC cI a f r ++ (DC cI b f2 r2 ++ (OUT cJ q v ++ MC cI mb g nw kp))))) (hS : va_S (lwA s) s.heap H locs) (gg : Nat) (x : Nat) (y : Nat) (hx1 : xs (i + 1) = nI x) (hx2 : xs (i + 2) = nI y) (hg : f 0 = nI gg) (hg2 : gg ≤ 10) (hg0 : 0 < gg) (ux : x < gg) (uy : y < gg) (hway : ¬ r 4 (x * 10 + y) = -1) (hans : (if 0 < nw (148 + (10 * x + y)) then 1 else 0 : Int32) = 1) (hgm : g 1 = nI gg)
    (kk : ∀ (f9 : Nat → Int32) (r9 : Nat → Nat → Int32) (v9 : Nat → Int64) (g9 kp9 : Nat → Int32) (H1 : Heap) (locs1 : List Loc) (ls1 : Array Slot), g9 1 = g 1 → g9 2 = g 2 → va_P D vwCl (XO x0 a b ++ (DC cI a f r ++ (DC cI b f9 r9 ++ (OUT cJ q v9 ++ MC cI mb g9 nw kp9)))) H1 → va_D (lwA s) (XO x0 a b ++ (DC cI a f r ++ (DC cI b f9 r9 ++ (OUT cJ q v9 ++ MC cI mb g9 nw kp9)))) → va_S (lwA s) s.heap H1 locs1 → lv_has ls1 9 [(4, .int (nI i)), (3, .ref q), (2, .ref (mb 0)), (1, .ref x0), (0, .ref sb)] → W p l e room_1 s m args below meth c H1 locs1 (cells + 1) (slots + 11) Q (F0 m 1548 ls1 [])) : W p l e room_1 s m args below meth c H locs cells slots Q (F0 m 930 ls []) := by
  obtain ⟨⟨hx, hb, hml, hown, hts⟩, hN, hE, hZ, hK, hX, hbl, hlt, hLN⟩ := E9
  have hA : ∀ q : Nat, s.heap.size ≤ q → lwA s q := fun _ h => h
  have hK1 : va_K D vwCl [(cI, .int)] s := hK.sub [0] rfl
  refine lv_aload_n hx hb dL_law_930 rfl (lv_at hl 3 rfl) ?_
  refine lv_aload_n hx hb dL_law_931 rfl (lv_at hl 4 rfl) ?_
  refine lv_iload hx hb dL_law_932 (lv_at hl 0 rfl) ?_
  refine lv_iconst (v := 1) hx hb dL_law_934 (by decide) ?_
  refine lv_iadd hx hb dL_law_935 ?_
  refine wTop (z := nI (i + 1)) (nI_add i 1) ?_
  refine wSld hx hb hX hbl hS (i + 1) (by omega) hLN hx1 dL_law_936 ?_
  refine lv_aload_n hx hb dL_law_937 rfl (lv_at hl 4 rfl) ?_
  refine lv_iload hx hb dL_law_938 (lv_at hl 0 rfl) ?_
  refine lv_iconst (v := 2) hx hb dL_law_940 (by decide) ?_
  refine lv_iadd hx hb dL_law_941 ?_
  refine wTop (z := nI (i + 2)) (nI_add i 2) ?_
  refine wSld hx hb hX hbl hS (i + 2) (by omega) hLN hx2 dL_law_942 ?_
  refine lv_aload_n hx hb dL_law_943 rfl (lv_at hl 1 rfl) ?_
  refine wLW (pre := ([] : va_W)) (Wc := XO x0 a b ++ (DC cI a f r ++ (DC cI b f2 r2 ++ OUT cJ q v))) (suf := MC cI mb g nw kp) (As := [.ref x0, .int (nI x), .int (nI y), .ref q]) (rest := []) ⟨hx, hb, hml, hown, hts⟩ (mL_isUnderWay5 l D cI cJ x0 a b f f2 r r2 q v gg x y _ hg hg2 hg0 ux uy hway) hN hE hZ hA hK hS hP hD rfl (vx_cwSW 4 hts gL_law_L_isUnderWay rfl rfl rfl (by decide +kernel) ⟨Nat.le_of_ble_eq_true rfl, Nat.le_of_ble_eq_true rfl⟩) rfl hl.1 rfl (Nat.le_of_ble_eq_true rfl) dL_law_944 ⟨by omega, by omega⟩ (fun r_944 u_944 H locs hw hP hD hS => ?_)
  have hw : r_944 = 0 := hw
  subst hw
  have hP : va_P D vwCl (XO x0 a b ++ (DC cI a f r ++ (DC cI b f2 r2 ++ (OUT cJ q (vp_updL v 0 (1)) ++ MC cI mb g nw kp)))) H := hP
  have hD : va_D (lwA s) (XO x0 a b ++ (DC cI a f r ++ (DC cI b f2 r2 ++ (OUT cJ q (vp_updL v 0 (1)) ++ MC cI mb g nw kp)))) := hD
  refine lv_istore (lv' := [(5, .int 0), (4, .int (nI i)), (3, .ref q), (2, .ref (mb 0)), (1, .ref x0), (0, .ref sb)]) hx hb dL_law_947 hl (by decide) rfl (fun ls hl => ?_)
  refine lv_aload_n hx hb dL_law_949 rfl (lv_at hl 3 rfl) ?_
  refine lv_aload_n hx hb dL_law_950 rfl (lv_at hl 5 rfl) ?_
  refine lv_iload hx hb dL_law_951 (lv_at hl 1 rfl) ?_
  refine lv_iconst (v := 1) hx hb dL_law_953 (by decide) ?_
  refine lv_iadd hx hb dL_law_954 ?_
  refine wTop (z := nI (i + 1)) (nI_add i 1) ?_
  refine wSld hx hb hX hbl hS (i + 1) (by omega) hLN hx1 dL_law_955 ?_
  refine lv_aload_n hx hb dL_law_956 rfl (lv_at hl 5 rfl) ?_
  refine lv_iload hx hb dL_law_957 (lv_at hl 1 rfl) ?_
  refine lv_iconst (v := 2) hx hb dL_law_959 (by decide) ?_
  refine lv_iadd hx hb dL_law_960 ?_
  refine wTop (z := nI (i + 2)) (nI_add i 2) ?_
  refine wSld hx hb hX hbl hS (i + 2) (by omega) hLN hx2 dL_law_961 ?_
  refine wCVi (pre := XO x0 a b ++ (DC cI a f r ++ (DC cI b f2 r2 ++ OUT cJ q (vp_updL v 0 (1))))) (Wc := MC cI mb g nw kp) (suf := ([] : va_W)) (As := [.int (nI x), .int (nI y)]) (rest := []) ⟨hx, hb, hml, hown, hts⟩ (mX2_isUnderWay l D cI mb g nw kp gg x y _ hgm hg2 hg0 ux uy) hN hA hK1 hS hP hD rfl 0 (r := (RX2, TX2, 7)) rfl rfl (cwV 2 hts gL_law_X2_isUnderWay rfl rfl rfl (by decide +kernel) ⟨Nat.le_of_ble_eq_true rfl, Nat.le_of_ble_eq_true rfl⟩) rfl hl.1 rfl (Nat.le_of_ble_eq_true rfl) dL_law_962 ⟨by omega, by omega⟩ (fun r_962 u_962 H locs hw hP hD hS => ?_)
  have hw : r_962 = if 0 < nw (148 + (10 * x + y)) then 1 else 0 := hw
  subst hw
  have hP : va_P D vwCl (XO x0 a b ++ (DC cI a f r ++ (DC cI b f2 r2 ++ (OUT cJ q (vp_updL v 0 (1)) ++ MC cI mb (upd g 0 0) nw kp)))) H := hP
  have hD : va_D (lwA s) (XO x0 a b ++ (DC cI a f r ++ (DC cI b f2 r2 ++ (OUT cJ q (vp_updL v 0 (1)) ++ MC cI mb (upd g 0 0) nw kp)))) := hD
  refine wTop (z := 1) (hans) ?_
  refine lv_istore (lv' := [(6, .int 1), (5, .int 0), (4, .int (nI i)), (3, .ref q), (2, .ref (mb 0)), (1, .ref x0), (0, .ref sb)]) hx hb dL_law_965 hl (by decide) rfl (fun ls hl => ?_)
  refine lv_aload_n hx hb dL_law_967 rfl (lv_at hl 4 rfl) ?_
  refine wCVi (pre := XO x0 a b ++ (DC cI a f r ++ (DC cI b f2 r2 ++ OUT cJ q (vp_updL v 0 (1))))) (Wc := MC cI mb (upd g 0 0) nw kp) (suf := ([] : va_W)) (As := []) (rest := []) ⟨hx, hb, hml, hown, hts⟩ (mX2_thrown l D cI mb (upd g 0 0) nw kp _ ) hN hA hK1 hS hP hD rfl 0 (r := (RX2, TX2, 7)) rfl rfl (cwV 0 hts gL_law_X2_thrown rfl rfl rfl (by decide +kernel) ⟨Nat.le_of_ble_eq_true rfl, Nat.le_of_ble_eq_true rfl⟩) rfl hl.1 rfl (Nat.le_of_ble_eq_true rfl) dL_law_968 ⟨by omega, by omega⟩ (fun r_968 u_968 H locs hw hP hD hS => ?_)
  have hw : r_968 = (upd g 0 0) 0 := hw
  subst hw
  have hP : va_P D vwCl (XO x0 a b ++ (DC cI a f r ++ (DC cI b f2 r2 ++ (OUT cJ q (vp_updL v 0 (1)) ++ MC cI mb (upd g 0 0) nw kp)))) H := hP
  have hD : va_D (lwA s) (XO x0 a b ++ (DC cI a f r ++ (DC cI b f2 r2 ++ (OUT cJ q (vp_updL v 0 (1)) ++ MC cI mb (upd g 0 0) nw kp)))) := hD
  refine wTop (z := 0) (by simp (disch := omega) only [mUp, mUs]) ?_
  refine lv_iload hx hb dL_law_971 (lv_at hl 1 rfl) ?_
  refine lv_icmp_eq (tgt := 978) hx hb dL_law_973 (by decide) (fun c_973 => ?_) (fun h9 => absurd (by decide) h9)
  refine lv_iload hx hb dL_law_978 (lv_at hl 1 rfl) ?_
  refine lv_if_ne (tgt := 1002) hx hb dL_law_980 (by decide) (fun h9 => absurd (by decide) h9) (fun c_980 => ?_)
  refine lv_aload_n hx hb dL_law_983 rfl (lv_at hl 3 rfl) ?_
  refine lv_iconst (v := 0) hx hb dL_law_984 (by decide) ?_
  refine wLald hx hb hK hP 17 1 rfl rfl (z := 1) (pk_uLs) dL_law_985 ?_
  refine lv_iload hx hb dL_law_986 (lv_at hl 0 rfl) ?_
  refine lv_if_eq (tgt := 995) hx hb dL_law_988 (by decide) (fun h9 => absurd h9 (by decide)) (fun c_988 => ?_)
  refine lv_lconst (v := 1) hx hb dL_law_991 (by decide) ?_
  refine lv_goto (tgt := 996) hx hb dL_law_992 (by decide) ?_
  refine W.lcmp hx hb dL_law_996 ?_
  refine wTop (z := 0) (lcmp_self _) ?_
  refine lv_if_eq (tgt := 1002) hx hb dL_law_997 (by decide) (fun c_997 => ?_) (fun h9 => absurd (by decide) h9)
  refine lv_goto (tgt := 1548) hx hb dL_law_1002 (by decide) ?_
  exact W.widen (k := cells + 1) (n := slots + 11) (by omega) (by omega) (kk _ _ _ _ _ _ _ _ (by simp (disch := omega) only [mUp, mUs]) (by simp (disch := omega) only [mUp, mUs]) hP hD hS (lv_sub hl [2, 3, 4, 5, 6] rfl))
set_option maxRecDepth 100000 in
set_option maxHeartbeats 4000000 in
theorem lc_isUnderWay1 {p : Program} {l : Launch} {e : Env} {s : State} {m : MethodId} {args : Array Value} {below : List Frame} {meth : Method} {c : Code} {D : va_G} {cI cJ : ClassId} {sb LN : Nat} {xs : Nat → Int32} {H : Heap} {locs : List Loc} {cells slots : Nat} {Q : State → Prop} {ls : Array Slot} (E9 : lawE p l s m args c D cI cJ sb LN xs) (x0 : Nat) (a b : Nat → Nat) (f f2 : Nat → Int32) (r r2 : Nat → Nat → Int32) (q : Nat) (v : Nat → Int64) (mb : Nat → Nat) (g nw kp : Nat → Int32) (i : Nat) (hi : i + 2 < LN) (hcc : cells + 1 ≤ room_1.cells) (hss : slots + 11 ≤ room_1.slots) (hl : lv_has ls 9 [(4, .int (nI i)), (3, .ref q), (2, .ref (mb 0)), (1, .ref x0), (0, .ref sb)]) (hP : va_P D vwCl (XO x0 a b ++ (DC cI a f r ++ (DC cI b f2 r2 ++ (OUT cJ q v ++ MC cI mb g nw kp)))) H) (hD : va_D (lwA s) (XO x0 a b ++ (DC cI a f r ++ (DC cI b f2 r2 ++ (OUT cJ q v ++ MC cI mb g nw kp))))) (hS : va_S (lwA s) s.heap H locs) (x : Int32) (y : Int32) (gg : Nat) (hx1 : xs (i + 1) = x) (hx2 : xs (i + 2) = y) (hbad : x < 0 ∨ f 0 ≤ x) (hg : g 1 = nI gg) (hg2 : gg ≤ 10) (hg0 : 0 < gg) (hbadm : ¬ (0 ≤ x ∧ x < nI gg) ∨ ¬ (0 ≤ y ∧ y < nI gg))
    (kk : ∀ (f9 : Nat → Int32) (r9 : Nat → Nat → Int32) (v9 : Nat → Int64) (g9 kp9 : Nat → Int32) (H1 : Heap) (locs1 : List Loc) (ls1 : Array Slot), g9 1 = g 1 → g9 2 = g 2 → va_P D vwCl (XO x0 a b ++ (DC cI a f r ++ (DC cI b f9 r9 ++ (OUT cJ q v9 ++ MC cI mb g9 nw kp9)))) H1 → va_D (lwA s) (XO x0 a b ++ (DC cI a f r ++ (DC cI b f9 r9 ++ (OUT cJ q v9 ++ MC cI mb g9 nw kp9)))) → va_S (lwA s) s.heap H1 locs1 → lv_has ls1 9 [(4, .int (nI i)), (3, .ref q), (2, .ref (mb 0)), (1, .ref x0), (0, .ref sb)] → W p l e room_1 s m args below meth c H1 locs1 (cells + 1) (slots + 11) Q (F0 m 1548 ls1 [])) : W p l e room_1 s m args below meth c H locs cells slots Q (F0 m 930 ls []) := by
  obtain ⟨⟨hx, hb, hml, hown, hts⟩, hN, hE, hZ, hK, hX, hbl, hlt, hLN⟩ := E9
  have hA : ∀ q : Nat, s.heap.size ≤ q → lwA s q := fun _ h => h
  have hK1 : va_K D vwCl [(cI, .int)] s := hK.sub [0] rfl
  refine lv_aload_n hx hb dL_law_930 rfl (lv_at hl 3 rfl) ?_
  refine lv_aload_n hx hb dL_law_931 rfl (lv_at hl 4 rfl) ?_
  refine lv_iload hx hb dL_law_932 (lv_at hl 0 rfl) ?_
  refine lv_iconst (v := 1) hx hb dL_law_934 (by decide) ?_
  refine lv_iadd hx hb dL_law_935 ?_
  refine wTop (z := nI (i + 1)) (nI_add i 1) ?_
  refine wSld hx hb hX hbl hS (i + 1) (by omega) hLN hx1 dL_law_936 ?_
  refine lv_aload_n hx hb dL_law_937 rfl (lv_at hl 4 rfl) ?_
  refine lv_iload hx hb dL_law_938 (lv_at hl 0 rfl) ?_
  refine lv_iconst (v := 2) hx hb dL_law_940 (by decide) ?_
  refine lv_iadd hx hb dL_law_941 ?_
  refine wTop (z := nI (i + 2)) (nI_add i 2) ?_
  refine wSld hx hb hX hbl hS (i + 2) (by omega) hLN hx2 dL_law_942 ?_
  refine lv_aload_n hx hb dL_law_943 rfl (lv_at hl 1 rfl) ?_
  refine wLW (pre := ([] : va_W)) (Wc := XO x0 a b ++ (DC cI a f r ++ (DC cI b f2 r2 ++ OUT cJ q v))) (suf := MC cI mb g nw kp) (As := [.ref x0, .int x, .int y, .ref q]) (rest := []) ⟨hx, hb, hml, hown, hts⟩ (mL_isUnderWay1 l D cI cJ x0 a b f f2 r r2 q v x y _ hlt hbad) hN hE hZ hA hK hS hP hD rfl (vx_cwSW 4 hts gL_law_L_isUnderWay rfl rfl rfl (by decide +kernel) ⟨Nat.le_of_ble_eq_true rfl, Nat.le_of_ble_eq_true rfl⟩) rfl hl.1 rfl (Nat.le_of_ble_eq_true rfl) dL_law_944 ⟨by omega, by omega⟩ (fun r_944 u_944 H locs hw hP hD hS => ?_)
  have hw : r_944 = 1 := hw
  subst hw
  have hP : va_P D vwCl (XO x0 a b ++ (DC cI a f r ++ (DC cI b f2 r2 ++ (OUT cJ q v ++ MC cI mb g nw kp)))) H := hP
  have hD : va_D (lwA s) (XO x0 a b ++ (DC cI a f r ++ (DC cI b f2 r2 ++ (OUT cJ q v ++ MC cI mb g nw kp)))) := hD
  refine lv_istore (lv' := [(5, .int 1), (4, .int (nI i)), (3, .ref q), (2, .ref (mb 0)), (1, .ref x0), (0, .ref sb)]) hx hb dL_law_947 hl (by decide) rfl (fun ls hl => ?_)
  refine lv_aload_n hx hb dL_law_949 rfl (lv_at hl 3 rfl) ?_
  refine lv_aload_n hx hb dL_law_950 rfl (lv_at hl 5 rfl) ?_
  refine lv_iload hx hb dL_law_951 (lv_at hl 1 rfl) ?_
  refine lv_iconst (v := 1) hx hb dL_law_953 (by decide) ?_
  refine lv_iadd hx hb dL_law_954 ?_
  refine wTop (z := nI (i + 1)) (nI_add i 1) ?_
  refine wSld hx hb hX hbl hS (i + 1) (by omega) hLN hx1 dL_law_955 ?_
  refine lv_aload_n hx hb dL_law_956 rfl (lv_at hl 5 rfl) ?_
  refine lv_iload hx hb dL_law_957 (lv_at hl 1 rfl) ?_
  refine lv_iconst (v := 2) hx hb dL_law_959 (by decide) ?_
  refine lv_iadd hx hb dL_law_960 ?_
  refine wTop (z := nI (i + 2)) (nI_add i 2) ?_
  refine wSld hx hb hX hbl hS (i + 2) (by omega) hLN hx2 dL_law_961 ?_
  refine wCVi (pre := XO x0 a b ++ (DC cI a f r ++ (DC cI b f2 r2 ++ OUT cJ q v))) (Wc := MC cI mb g nw kp) (suf := ([] : va_W)) (As := [.int x, .int y]) (rest := []) ⟨hx, hb, hml, hown, hts⟩ (mX2_isUnderWay1 l D cI mb g nw kp gg x y _ hg hg2 hg0 hbadm) hN hA hK1 hS hP hD rfl 0 (r := (RX2, TX2, 7)) rfl rfl (cwV 2 hts gL_law_X2_isUnderWay rfl rfl rfl (by decide +kernel) ⟨Nat.le_of_ble_eq_true rfl, Nat.le_of_ble_eq_true rfl⟩) rfl hl.1 rfl (Nat.le_of_ble_eq_true rfl) dL_law_962 ⟨by omega, by omega⟩ (fun r_962 u_962 H locs hw hP hD hS => ?_)
  have hw : r_962 = 0 := hw
  subst hw
  have hP : va_P D vwCl (XO x0 a b ++ (DC cI a f r ++ (DC cI b f2 r2 ++ (OUT cJ q v ++ MC cI mb (upd g 0 1) nw kp)))) H := hP
  have hD : va_D (lwA s) (XO x0 a b ++ (DC cI a f r ++ (DC cI b f2 r2 ++ (OUT cJ q v ++ MC cI mb (upd g 0 1) nw kp)))) := hD
  refine lv_istore (lv' := [(6, .int 0), (5, .int 1), (4, .int (nI i)), (3, .ref q), (2, .ref (mb 0)), (1, .ref x0), (0, .ref sb)]) hx hb dL_law_965 hl (by decide) rfl (fun ls hl => ?_)
  refine lv_aload_n hx hb dL_law_967 rfl (lv_at hl 4 rfl) ?_
  refine wCVi (pre := XO x0 a b ++ (DC cI a f r ++ (DC cI b f2 r2 ++ OUT cJ q v))) (Wc := MC cI mb (upd g 0 1) nw kp) (suf := ([] : va_W)) (As := []) (rest := []) ⟨hx, hb, hml, hown, hts⟩ (mX2_thrown l D cI mb (upd g 0 1) nw kp _ ) hN hA hK1 hS hP hD rfl 0 (r := (RX2, TX2, 7)) rfl rfl (cwV 0 hts gL_law_X2_thrown rfl rfl rfl (by decide +kernel) ⟨Nat.le_of_ble_eq_true rfl, Nat.le_of_ble_eq_true rfl⟩) rfl hl.1 rfl (Nat.le_of_ble_eq_true rfl) dL_law_968 ⟨by omega, by omega⟩ (fun r_968 u_968 H locs hw hP hD hS => ?_)
  have hw : r_968 = (upd g 0 1) 0 := hw
  subst hw
  have hP : va_P D vwCl (XO x0 a b ++ (DC cI a f r ++ (DC cI b f2 r2 ++ (OUT cJ q v ++ MC cI mb (upd g 0 1) nw kp)))) H := hP
  have hD : va_D (lwA s) (XO x0 a b ++ (DC cI a f r ++ (DC cI b f2 r2 ++ (OUT cJ q v ++ MC cI mb (upd g 0 1) nw kp)))) := hD
  refine wTop (z := 1) (by simp (disch := omega) only [mUp, mUs]) ?_
  refine lv_iload hx hb dL_law_971 (lv_at hl 1 rfl) ?_
  refine lv_icmp_eq (tgt := 978) hx hb dL_law_973 (by decide) (fun c_973 => ?_) (fun h9 => absurd (by decide) h9)
  refine lv_iload hx hb dL_law_978 (lv_at hl 1 rfl) ?_
  refine lv_if_ne (tgt := 1002) hx hb dL_law_980 (by decide) (fun c_980 => ?_) (fun h9 => absurd h9 (by decide))
  refine lv_goto (tgt := 1548) hx hb dL_law_1002 (by decide) ?_
  exact W.widen (k := cells + 1) (n := slots + 11) (by omega) (by omega) (kk _ _ _ _ _ _ _ _ (by simp (disch := omega) only [mUp, mUs]) (by simp (disch := omega) only [mUp, mUs]) hP hD hS (lv_sub hl [2, 3, 4, 5, 6] rfl))
set_option maxRecDepth 100000 in
set_option maxHeartbeats 4000000 in
theorem lc_isUnderWay2 {p : Program} {l : Launch} {e : Env} {s : State} {m : MethodId} {args : Array Value} {below : List Frame} {meth : Method} {c : Code} {D : va_G} {cI cJ : ClassId} {sb LN : Nat} {xs : Nat → Int32} {H : Heap} {locs : List Loc} {cells slots : Nat} {Q : State → Prop} {ls : Array Slot} (E9 : lawE p l s m args c D cI cJ sb LN xs) (x0 : Nat) (a b : Nat → Nat) (f f2 : Nat → Int32) (r r2 : Nat → Nat → Int32) (q : Nat) (v : Nat → Int64) (mb : Nat → Nat) (g nw kp : Nat → Int32) (i : Nat) (hi : i + 2 < LN) (hcc : cells + 1 ≤ room_1.cells) (hss : slots + 11 ≤ room_1.slots) (hl : lv_has ls 9 [(4, .int (nI i)), (3, .ref q), (2, .ref (mb 0)), (1, .ref x0), (0, .ref sb)]) (hP : va_P D vwCl (XO x0 a b ++ (DC cI a f r ++ (DC cI b f2 r2 ++ (OUT cJ q v ++ MC cI mb g nw kp)))) H) (hD : va_D (lwA s) (XO x0 a b ++ (DC cI a f r ++ (DC cI b f2 r2 ++ (OUT cJ q v ++ MC cI mb g nw kp))))) (hS : va_S (lwA s) s.heap H locs) (gg : Nat) (x : Nat) (y : Int32) (hx1 : xs (i + 1) = nI x) (hx2 : xs (i + 2) = y) (hg : f 0 = nI gg) (hg2 : gg ≤ 10) (hg0 : 0 < gg) (ux : x < gg) (hbad : y < 0 ∨ f 0 ≤ y) (hgm : g 1 = nI gg) (hbadm : ¬ (0 ≤ (nI x) ∧ (nI x) < nI gg) ∨ ¬ (0 ≤ y ∧ y < nI gg))
    (kk : ∀ (f9 : Nat → Int32) (r9 : Nat → Nat → Int32) (v9 : Nat → Int64) (g9 kp9 : Nat → Int32) (H1 : Heap) (locs1 : List Loc) (ls1 : Array Slot), g9 1 = g 1 → g9 2 = g 2 → va_P D vwCl (XO x0 a b ++ (DC cI a f r ++ (DC cI b f9 r9 ++ (OUT cJ q v9 ++ MC cI mb g9 nw kp9)))) H1 → va_D (lwA s) (XO x0 a b ++ (DC cI a f r ++ (DC cI b f9 r9 ++ (OUT cJ q v9 ++ MC cI mb g9 nw kp9)))) → va_S (lwA s) s.heap H1 locs1 → lv_has ls1 9 [(4, .int (nI i)), (3, .ref q), (2, .ref (mb 0)), (1, .ref x0), (0, .ref sb)] → W p l e room_1 s m args below meth c H1 locs1 (cells + 1) (slots + 11) Q (F0 m 1548 ls1 [])) : W p l e room_1 s m args below meth c H locs cells slots Q (F0 m 930 ls []) := by
  obtain ⟨⟨hx, hb, hml, hown, hts⟩, hN, hE, hZ, hK, hX, hbl, hlt, hLN⟩ := E9
  have hA : ∀ q : Nat, s.heap.size ≤ q → lwA s q := fun _ h => h
  have hK1 : va_K D vwCl [(cI, .int)] s := hK.sub [0] rfl
  refine lv_aload_n hx hb dL_law_930 rfl (lv_at hl 3 rfl) ?_
  refine lv_aload_n hx hb dL_law_931 rfl (lv_at hl 4 rfl) ?_
  refine lv_iload hx hb dL_law_932 (lv_at hl 0 rfl) ?_
  refine lv_iconst (v := 1) hx hb dL_law_934 (by decide) ?_
  refine lv_iadd hx hb dL_law_935 ?_
  refine wTop (z := nI (i + 1)) (nI_add i 1) ?_
  refine wSld hx hb hX hbl hS (i + 1) (by omega) hLN hx1 dL_law_936 ?_
  refine lv_aload_n hx hb dL_law_937 rfl (lv_at hl 4 rfl) ?_
  refine lv_iload hx hb dL_law_938 (lv_at hl 0 rfl) ?_
  refine lv_iconst (v := 2) hx hb dL_law_940 (by decide) ?_
  refine lv_iadd hx hb dL_law_941 ?_
  refine wTop (z := nI (i + 2)) (nI_add i 2) ?_
  refine wSld hx hb hX hbl hS (i + 2) (by omega) hLN hx2 dL_law_942 ?_
  refine lv_aload_n hx hb dL_law_943 rfl (lv_at hl 1 rfl) ?_
  refine wLW (pre := ([] : va_W)) (Wc := XO x0 a b ++ (DC cI a f r ++ (DC cI b f2 r2 ++ OUT cJ q v))) (suf := MC cI mb g nw kp) (As := [.ref x0, .int (nI x), .int y, .ref q]) (rest := []) ⟨hx, hb, hml, hown, hts⟩ (mL_isUnderWay2 l D cI cJ x0 a b f f2 r r2 q v gg x y _ hlt hg hg2 hg0 ux hbad) hN hE hZ hA hK hS hP hD rfl (vx_cwSW 4 hts gL_law_L_isUnderWay rfl rfl rfl (by decide +kernel) ⟨Nat.le_of_ble_eq_true rfl, Nat.le_of_ble_eq_true rfl⟩) rfl hl.1 rfl (Nat.le_of_ble_eq_true rfl) dL_law_944 ⟨by omega, by omega⟩ (fun r_944 u_944 H locs hw hP hD hS => ?_)
  have hw : r_944 = 1 := hw
  subst hw
  have hP : va_P D vwCl (XO x0 a b ++ (DC cI a f r ++ (DC cI b f2 r2 ++ (OUT cJ q v ++ MC cI mb g nw kp)))) H := hP
  have hD : va_D (lwA s) (XO x0 a b ++ (DC cI a f r ++ (DC cI b f2 r2 ++ (OUT cJ q v ++ MC cI mb g nw kp)))) := hD
  refine lv_istore (lv' := [(5, .int 1), (4, .int (nI i)), (3, .ref q), (2, .ref (mb 0)), (1, .ref x0), (0, .ref sb)]) hx hb dL_law_947 hl (by decide) rfl (fun ls hl => ?_)
  refine lv_aload_n hx hb dL_law_949 rfl (lv_at hl 3 rfl) ?_
  refine lv_aload_n hx hb dL_law_950 rfl (lv_at hl 5 rfl) ?_
  refine lv_iload hx hb dL_law_951 (lv_at hl 1 rfl) ?_
  refine lv_iconst (v := 1) hx hb dL_law_953 (by decide) ?_
  refine lv_iadd hx hb dL_law_954 ?_
  refine wTop (z := nI (i + 1)) (nI_add i 1) ?_
  refine wSld hx hb hX hbl hS (i + 1) (by omega) hLN hx1 dL_law_955 ?_
  refine lv_aload_n hx hb dL_law_956 rfl (lv_at hl 5 rfl) ?_
  refine lv_iload hx hb dL_law_957 (lv_at hl 1 rfl) ?_
  refine lv_iconst (v := 2) hx hb dL_law_959 (by decide) ?_
  refine lv_iadd hx hb dL_law_960 ?_
  refine wTop (z := nI (i + 2)) (nI_add i 2) ?_
  refine wSld hx hb hX hbl hS (i + 2) (by omega) hLN hx2 dL_law_961 ?_
  refine wCVi (pre := XO x0 a b ++ (DC cI a f r ++ (DC cI b f2 r2 ++ OUT cJ q v))) (Wc := MC cI mb g nw kp) (suf := ([] : va_W)) (As := [.int (nI x), .int y]) (rest := []) ⟨hx, hb, hml, hown, hts⟩ (mX2_isUnderWay1 l D cI mb g nw kp gg (nI x) y _ hgm hg2 hg0 hbadm) hN hA hK1 hS hP hD rfl 0 (r := (RX2, TX2, 7)) rfl rfl (cwV 2 hts gL_law_X2_isUnderWay rfl rfl rfl (by decide +kernel) ⟨Nat.le_of_ble_eq_true rfl, Nat.le_of_ble_eq_true rfl⟩) rfl hl.1 rfl (Nat.le_of_ble_eq_true rfl) dL_law_962 ⟨by omega, by omega⟩ (fun r_962 u_962 H locs hw hP hD hS => ?_)
  have hw : r_962 = 0 := hw
  subst hw
  have hP : va_P D vwCl (XO x0 a b ++ (DC cI a f r ++ (DC cI b f2 r2 ++ (OUT cJ q v ++ MC cI mb (upd g 0 1) nw kp)))) H := hP
  have hD : va_D (lwA s) (XO x0 a b ++ (DC cI a f r ++ (DC cI b f2 r2 ++ (OUT cJ q v ++ MC cI mb (upd g 0 1) nw kp)))) := hD
  refine lv_istore (lv' := [(6, .int 0), (5, .int 1), (4, .int (nI i)), (3, .ref q), (2, .ref (mb 0)), (1, .ref x0), (0, .ref sb)]) hx hb dL_law_965 hl (by decide) rfl (fun ls hl => ?_)
  refine lv_aload_n hx hb dL_law_967 rfl (lv_at hl 4 rfl) ?_
  refine wCVi (pre := XO x0 a b ++ (DC cI a f r ++ (DC cI b f2 r2 ++ OUT cJ q v))) (Wc := MC cI mb (upd g 0 1) nw kp) (suf := ([] : va_W)) (As := []) (rest := []) ⟨hx, hb, hml, hown, hts⟩ (mX2_thrown l D cI mb (upd g 0 1) nw kp _ ) hN hA hK1 hS hP hD rfl 0 (r := (RX2, TX2, 7)) rfl rfl (cwV 0 hts gL_law_X2_thrown rfl rfl rfl (by decide +kernel) ⟨Nat.le_of_ble_eq_true rfl, Nat.le_of_ble_eq_true rfl⟩) rfl hl.1 rfl (Nat.le_of_ble_eq_true rfl) dL_law_968 ⟨by omega, by omega⟩ (fun r_968 u_968 H locs hw hP hD hS => ?_)
  have hw : r_968 = (upd g 0 1) 0 := hw
  subst hw
  have hP : va_P D vwCl (XO x0 a b ++ (DC cI a f r ++ (DC cI b f2 r2 ++ (OUT cJ q v ++ MC cI mb (upd g 0 1) nw kp)))) H := hP
  have hD : va_D (lwA s) (XO x0 a b ++ (DC cI a f r ++ (DC cI b f2 r2 ++ (OUT cJ q v ++ MC cI mb (upd g 0 1) nw kp)))) := hD
  refine wTop (z := 1) (by simp (disch := omega) only [mUp, mUs]) ?_
  refine lv_iload hx hb dL_law_971 (lv_at hl 1 rfl) ?_
  refine lv_icmp_eq (tgt := 978) hx hb dL_law_973 (by decide) (fun c_973 => ?_) (fun h9 => absurd (by decide) h9)
  refine lv_iload hx hb dL_law_978 (lv_at hl 1 rfl) ?_
  refine lv_if_ne (tgt := 1002) hx hb dL_law_980 (by decide) (fun c_980 => ?_) (fun h9 => absurd h9 (by decide))
  refine lv_goto (tgt := 1548) hx hb dL_law_1002 (by decide) ?_
  exact W.widen (k := cells + 1) (n := slots + 11) (by omega) (by omega) (kk _ _ _ _ _ _ _ _ (by simp (disch := omega) only [mUp, mUs]) (by simp (disch := omega) only [mUp, mUs]) hP hD hS (lv_sub hl [2, 3, 4, 5, 6] rfl))
set_option maxRecDepth 100000 in
set_option maxHeartbeats 4000000 in
theorem lc_secondsToGo {p : Program} {l : Launch} {e : Env} {s : State} {m : MethodId} {args : Array Value} {below : List Frame} {meth : Method} {c : Code} {D : va_G} {cI cJ : ClassId} {sb LN : Nat} {xs : Nat → Int32} {H : Heap} {locs : List Loc} {cells slots : Nat} {Q : State → Prop} {ls : Array Slot} (E9 : lawE p l s m args c D cI cJ sb LN xs) (x0 : Nat) (a b : Nat → Nat) (f f2 : Nat → Int32) (r r2 : Nat → Nat → Int32) (q : Nat) (v : Nat → Int64) (mb : Nat → Nat) (g nw kp : Nat → Int32) (i : Nat) (hi : i + 2 < LN) (hcc : cells + 1 ≤ room_1.cells) (hss : slots + 11 ≤ room_1.slots) (hl : lv_has ls 9 [(4, .int (nI i)), (3, .ref q), (2, .ref (mb 0)), (1, .ref x0), (0, .ref sb)]) (hP : va_P D vwCl (XO x0 a b ++ (DC cI a f r ++ (DC cI b f2 r2 ++ (OUT cJ q v ++ MC cI mb g nw kp)))) H) (hD : va_D (lwA s) (XO x0 a b ++ (DC cI a f r ++ (DC cI b f2 r2 ++ (OUT cJ q v ++ MC cI mb g nw kp))))) (hS : va_S (lwA s) s.heap H locs) (gg : Nat) (x : Nat) (y : Nat) (hx1 : xs (i + 1) = nI x) (hx2 : xs (i + 2) = nI y) (hg : f 0 = nI gg) (hg2 : gg ≤ 10) (hg0 : 0 < gg) (ux : x < gg) (uy : y < gg) (hans : (nw (48 + (10 * x + y)) : Int32) = dToGo (r 4) (x * 10 + y)) (hgm : g 1 = nI gg)
    (kk : ∀ (f9 : Nat → Int32) (r9 : Nat → Nat → Int32) (v9 : Nat → Int64) (g9 kp9 : Nat → Int32) (H1 : Heap) (locs1 : List Loc) (ls1 : Array Slot), g9 1 = g 1 → g9 2 = g 2 → va_P D vwCl (XO x0 a b ++ (DC cI a f r ++ (DC cI b f9 r9 ++ (OUT cJ q v9 ++ MC cI mb g9 nw kp9)))) H1 → va_D (lwA s) (XO x0 a b ++ (DC cI a f r ++ (DC cI b f9 r9 ++ (OUT cJ q v9 ++ MC cI mb g9 nw kp9)))) → va_S (lwA s) s.heap H1 locs1 → lv_has ls1 9 [(4, .int (nI i)), (3, .ref q), (2, .ref (mb 0)), (1, .ref x0), (0, .ref sb)] → W p l e room_1 s m args below meth c H1 locs1 (cells + 1) (slots + 11) Q (F0 m 1548 ls1 [])) : W p l e room_1 s m args below meth c H locs cells slots Q (F0 m 1005 ls []) := by
  obtain ⟨⟨hx, hb, hml, hown, hts⟩, hN, hE, hZ, hK, hX, hbl, hlt, hLN⟩ := E9
  have hA : ∀ q : Nat, s.heap.size ≤ q → lwA s q := fun _ h => h
  have hK1 : va_K D vwCl [(cI, .int)] s := hK.sub [0] rfl
  refine lv_aload_n hx hb dL_law_1005 rfl (lv_at hl 3 rfl) ?_
  refine lv_aload_n hx hb dL_law_1006 rfl (lv_at hl 4 rfl) ?_
  refine lv_iload hx hb dL_law_1007 (lv_at hl 0 rfl) ?_
  refine lv_iconst (v := 1) hx hb dL_law_1009 (by decide) ?_
  refine lv_iadd hx hb dL_law_1010 ?_
  refine wTop (z := nI (i + 1)) (nI_add i 1) ?_
  refine wSld hx hb hX hbl hS (i + 1) (by omega) hLN hx1 dL_law_1011 ?_
  refine lv_aload_n hx hb dL_law_1012 rfl (lv_at hl 4 rfl) ?_
  refine lv_iload hx hb dL_law_1013 (lv_at hl 0 rfl) ?_
  refine lv_iconst (v := 2) hx hb dL_law_1015 (by decide) ?_
  refine lv_iadd hx hb dL_law_1016 ?_
  refine wTop (z := nI (i + 2)) (nI_add i 2) ?_
  refine wSld hx hb hX hbl hS (i + 2) (by omega) hLN hx2 dL_law_1017 ?_
  refine lv_aload_n hx hb dL_law_1018 rfl (lv_at hl 1 rfl) ?_
  refine wLW (pre := ([] : va_W)) (Wc := XO x0 a b ++ (DC cI a f r ++ (DC cI b f2 r2 ++ OUT cJ q v))) (suf := MC cI mb g nw kp) (As := [.ref x0, .int (nI x), .int (nI y), .ref q]) (rest := []) ⟨hx, hb, hml, hown, hts⟩ (mL_secondsToGo l D cI cJ x0 a b f f2 r r2 q v gg x y _ hg hg2 hg0 ux uy) hN hE hZ hA hK hS hP hD rfl (vx_cwSW 4 hts gL_law_L_secondsToGo rfl rfl rfl (by decide +kernel) ⟨Nat.le_of_ble_eq_true rfl, Nat.le_of_ble_eq_true rfl⟩) rfl hl.1 rfl (Nat.le_of_ble_eq_true rfl) dL_law_1019 ⟨by omega, by omega⟩ (fun r_1019 u_1019 H locs hw hP hD hS => ?_)
  have hw : r_1019 = 0 := hw
  subst hw
  have hP : va_P D vwCl (XO x0 a b ++ (DC cI a f r ++ (DC cI b f2 r2 ++ (OUT cJ q (vp_updL v 0 ((dToGo (r 4) (x * 10 + y)).toInt64)) ++ MC cI mb g nw kp)))) H := hP
  have hD : va_D (lwA s) (XO x0 a b ++ (DC cI a f r ++ (DC cI b f2 r2 ++ (OUT cJ q (vp_updL v 0 ((dToGo (r 4) (x * 10 + y)).toInt64)) ++ MC cI mb g nw kp)))) := hD
  refine lv_istore (lv' := [(5, .int 0), (4, .int (nI i)), (3, .ref q), (2, .ref (mb 0)), (1, .ref x0), (0, .ref sb)]) hx hb dL_law_1022 hl (by decide) rfl (fun ls hl => ?_)
  refine lv_aload_n hx hb dL_law_1024 rfl (lv_at hl 3 rfl) ?_
  refine lv_aload_n hx hb dL_law_1025 rfl (lv_at hl 5 rfl) ?_
  refine lv_iload hx hb dL_law_1026 (lv_at hl 1 rfl) ?_
  refine lv_iconst (v := 1) hx hb dL_law_1028 (by decide) ?_
  refine lv_iadd hx hb dL_law_1029 ?_
  refine wTop (z := nI (i + 1)) (nI_add i 1) ?_
  refine wSld hx hb hX hbl hS (i + 1) (by omega) hLN hx1 dL_law_1030 ?_
  refine lv_aload_n hx hb dL_law_1031 rfl (lv_at hl 5 rfl) ?_
  refine lv_iload hx hb dL_law_1032 (lv_at hl 1 rfl) ?_
  refine lv_iconst (v := 2) hx hb dL_law_1034 (by decide) ?_
  refine lv_iadd hx hb dL_law_1035 ?_
  refine wTop (z := nI (i + 2)) (nI_add i 2) ?_
  refine wSld hx hb hX hbl hS (i + 2) (by omega) hLN hx2 dL_law_1036 ?_
  refine wCVi (pre := XO x0 a b ++ (DC cI a f r ++ (DC cI b f2 r2 ++ OUT cJ q (vp_updL v 0 ((dToGo (r 4) (x * 10 + y)).toInt64))))) (Wc := MC cI mb g nw kp) (suf := ([] : va_W)) (As := [.int (nI x), .int (nI y)]) (rest := []) ⟨hx, hb, hml, hown, hts⟩ (mX2_secondsToGo l D cI mb g nw kp gg x y _ hgm hg2 hg0 ux uy) hN hA hK1 hS hP hD rfl 0 (r := (RX2, TX2, 7)) rfl rfl (cwV 2 hts gL_law_X2_secondsToGo rfl rfl rfl (by decide +kernel) ⟨Nat.le_of_ble_eq_true rfl, Nat.le_of_ble_eq_true rfl⟩) rfl hl.1 rfl (Nat.le_of_ble_eq_true rfl) dL_law_1037 ⟨by omega, by omega⟩ (fun r_1037 u_1037 H locs hw hP hD hS => ?_)
  have hw : r_1037 = nw (48 + (10 * x + y)) := hw
  subst hw
  have hP : va_P D vwCl (XO x0 a b ++ (DC cI a f r ++ (DC cI b f2 r2 ++ (OUT cJ q (vp_updL v 0 ((dToGo (r 4) (x * 10 + y)).toInt64)) ++ MC cI mb (upd g 0 0) nw kp)))) H := hP
  have hD : va_D (lwA s) (XO x0 a b ++ (DC cI a f r ++ (DC cI b f2 r2 ++ (OUT cJ q (vp_updL v 0 ((dToGo (r 4) (x * 10 + y)).toInt64)) ++ MC cI mb (upd g 0 0) nw kp)))) := hD
  refine wTop (z := (dToGo (r 4) (x * 10 + y))) (hans) ?_
  refine lv_istore (lv' := [(6, .int (dToGo (r 4) (x * 10 + y))), (5, .int 0), (4, .int (nI i)), (3, .ref q), (2, .ref (mb 0)), (1, .ref x0), (0, .ref sb)]) hx hb dL_law_1040 hl (by decide) rfl (fun ls hl => ?_)
  refine lv_aload_n hx hb dL_law_1042 rfl (lv_at hl 4 rfl) ?_
  refine wCVi (pre := XO x0 a b ++ (DC cI a f r ++ (DC cI b f2 r2 ++ OUT cJ q (vp_updL v 0 ((dToGo (r 4) (x * 10 + y)).toInt64))))) (Wc := MC cI mb (upd g 0 0) nw kp) (suf := ([] : va_W)) (As := []) (rest := []) ⟨hx, hb, hml, hown, hts⟩ (mX2_thrown l D cI mb (upd g 0 0) nw kp _ ) hN hA hK1 hS hP hD rfl 0 (r := (RX2, TX2, 7)) rfl rfl (cwV 0 hts gL_law_X2_thrown rfl rfl rfl (by decide +kernel) ⟨Nat.le_of_ble_eq_true rfl, Nat.le_of_ble_eq_true rfl⟩) rfl hl.1 rfl (Nat.le_of_ble_eq_true rfl) dL_law_1043 ⟨by omega, by omega⟩ (fun r_1043 u_1043 H locs hw hP hD hS => ?_)
  have hw : r_1043 = (upd g 0 0) 0 := hw
  subst hw
  have hP : va_P D vwCl (XO x0 a b ++ (DC cI a f r ++ (DC cI b f2 r2 ++ (OUT cJ q (vp_updL v 0 ((dToGo (r 4) (x * 10 + y)).toInt64)) ++ MC cI mb (upd g 0 0) nw kp)))) H := hP
  have hD : va_D (lwA s) (XO x0 a b ++ (DC cI a f r ++ (DC cI b f2 r2 ++ (OUT cJ q (vp_updL v 0 ((dToGo (r 4) (x * 10 + y)).toInt64)) ++ MC cI mb (upd g 0 0) nw kp)))) := hD
  refine wTop (z := 0) (by simp (disch := omega) only [mUp, mUs]) ?_
  refine lv_iload hx hb dL_law_1046 (lv_at hl 1 rfl) ?_
  refine lv_icmp_eq (tgt := 1053) hx hb dL_law_1048 (by decide) (fun c_1048 => ?_) (fun h9 => absurd (by decide) h9)
  refine lv_iload hx hb dL_law_1053 (lv_at hl 1 rfl) ?_
  refine lv_if_ne (tgt := 1070) hx hb dL_law_1055 (by decide) (fun h9 => absurd (by decide) h9) (fun c_1055 => ?_)
  refine lv_aload_n hx hb dL_law_1058 rfl (lv_at hl 3 rfl) ?_
  refine lv_iconst (v := 0) hx hb dL_law_1059 (by decide) ?_
  refine wLald hx hb hK hP 17 1 rfl rfl (z := ((dToGo (r 4) (x * 10 + y)).toInt64)) (pk_uLs) dL_law_1060 ?_
  refine lv_iload hx hb dL_law_1061 (lv_at hl 0 rfl) ?_
  refine lv_i2l hx hb dL_law_1063 rfl ?_
  refine W.lcmp hx hb dL_law_1064 ?_
  refine wTop (z := 0) (lcmp_self _) ?_
  refine lv_if_eq (tgt := 1070) hx hb dL_law_1065 (by decide) (fun c_1065 => ?_) (fun h9 => absurd (by decide) h9)
  refine lv_goto (tgt := 1548) hx hb dL_law_1070 (by decide) ?_
  exact W.widen (k := cells + 1) (n := slots + 11) (by omega) (by omega) (kk _ _ _ _ _ _ _ _ (by simp (disch := omega) only [mUp, mUs]) (by simp (disch := omega) only [mUp, mUs]) hP hD hS (lv_sub hl [2, 3, 4, 5, 6] rfl))
set_option maxRecDepth 100000 in
set_option maxHeartbeats 4000000 in
theorem lc_secondsToGo1 {p : Program} {l : Launch} {e : Env} {s : State} {m : MethodId} {args : Array Value} {below : List Frame} {meth : Method} {c : Code} {D : va_G} {cI cJ : ClassId} {sb LN : Nat} {xs : Nat → Int32} {H : Heap} {locs : List Loc} {cells slots : Nat} {Q : State → Prop} {ls : Array Slot} (E9 : lawE p l s m args c D cI cJ sb LN xs) (x0 : Nat) (a b : Nat → Nat) (f f2 : Nat → Int32) (r r2 : Nat → Nat → Int32) (q : Nat) (v : Nat → Int64) (mb : Nat → Nat) (g nw kp : Nat → Int32) (i : Nat) (hi : i + 2 < LN) (hcc : cells + 1 ≤ room_1.cells) (hss : slots + 11 ≤ room_1.slots) (hl : lv_has ls 9 [(4, .int (nI i)), (3, .ref q), (2, .ref (mb 0)), (1, .ref x0), (0, .ref sb)]) (hP : va_P D vwCl (XO x0 a b ++ (DC cI a f r ++ (DC cI b f2 r2 ++ (OUT cJ q v ++ MC cI mb g nw kp)))) H) (hD : va_D (lwA s) (XO x0 a b ++ (DC cI a f r ++ (DC cI b f2 r2 ++ (OUT cJ q v ++ MC cI mb g nw kp))))) (hS : va_S (lwA s) s.heap H locs) (x : Int32) (y : Int32) (gg : Nat) (hx1 : xs (i + 1) = x) (hx2 : xs (i + 2) = y) (hbad : x < 0 ∨ f 0 ≤ x) (hg : g 1 = nI gg) (hg2 : gg ≤ 10) (hg0 : 0 < gg) (hbadm : ¬ (0 ≤ x ∧ x < nI gg) ∨ ¬ (0 ≤ y ∧ y < nI gg))
    (kk : ∀ (f9 : Nat → Int32) (r9 : Nat → Nat → Int32) (v9 : Nat → Int64) (g9 kp9 : Nat → Int32) (H1 : Heap) (locs1 : List Loc) (ls1 : Array Slot), g9 1 = g 1 → g9 2 = g 2 → va_P D vwCl (XO x0 a b ++ (DC cI a f r ++ (DC cI b f9 r9 ++ (OUT cJ q v9 ++ MC cI mb g9 nw kp9)))) H1 → va_D (lwA s) (XO x0 a b ++ (DC cI a f r ++ (DC cI b f9 r9 ++ (OUT cJ q v9 ++ MC cI mb g9 nw kp9)))) → va_S (lwA s) s.heap H1 locs1 → lv_has ls1 9 [(4, .int (nI i)), (3, .ref q), (2, .ref (mb 0)), (1, .ref x0), (0, .ref sb)] → W p l e room_1 s m args below meth c H1 locs1 (cells + 1) (slots + 11) Q (F0 m 1548 ls1 [])) : W p l e room_1 s m args below meth c H locs cells slots Q (F0 m 1005 ls []) := by
  obtain ⟨⟨hx, hb, hml, hown, hts⟩, hN, hE, hZ, hK, hX, hbl, hlt, hLN⟩ := E9
  have hA : ∀ q : Nat, s.heap.size ≤ q → lwA s q := fun _ h => h
  have hK1 : va_K D vwCl [(cI, .int)] s := hK.sub [0] rfl
  refine lv_aload_n hx hb dL_law_1005 rfl (lv_at hl 3 rfl) ?_
  refine lv_aload_n hx hb dL_law_1006 rfl (lv_at hl 4 rfl) ?_
  refine lv_iload hx hb dL_law_1007 (lv_at hl 0 rfl) ?_
  refine lv_iconst (v := 1) hx hb dL_law_1009 (by decide) ?_
  refine lv_iadd hx hb dL_law_1010 ?_
  refine wTop (z := nI (i + 1)) (nI_add i 1) ?_
  refine wSld hx hb hX hbl hS (i + 1) (by omega) hLN hx1 dL_law_1011 ?_
  refine lv_aload_n hx hb dL_law_1012 rfl (lv_at hl 4 rfl) ?_
  refine lv_iload hx hb dL_law_1013 (lv_at hl 0 rfl) ?_
  refine lv_iconst (v := 2) hx hb dL_law_1015 (by decide) ?_
  refine lv_iadd hx hb dL_law_1016 ?_
  refine wTop (z := nI (i + 2)) (nI_add i 2) ?_
  refine wSld hx hb hX hbl hS (i + 2) (by omega) hLN hx2 dL_law_1017 ?_
  refine lv_aload_n hx hb dL_law_1018 rfl (lv_at hl 1 rfl) ?_
  refine wLW (pre := ([] : va_W)) (Wc := XO x0 a b ++ (DC cI a f r ++ (DC cI b f2 r2 ++ OUT cJ q v))) (suf := MC cI mb g nw kp) (As := [.ref x0, .int x, .int y, .ref q]) (rest := []) ⟨hx, hb, hml, hown, hts⟩ (mL_secondsToGo1 l D cI cJ x0 a b f f2 r r2 q v x y _ hlt hbad) hN hE hZ hA hK hS hP hD rfl (vx_cwSW 4 hts gL_law_L_secondsToGo rfl rfl rfl (by decide +kernel) ⟨Nat.le_of_ble_eq_true rfl, Nat.le_of_ble_eq_true rfl⟩) rfl hl.1 rfl (Nat.le_of_ble_eq_true rfl) dL_law_1019 ⟨by omega, by omega⟩ (fun r_1019 u_1019 H locs hw hP hD hS => ?_)
  have hw : r_1019 = 1 := hw
  subst hw
  have hP : va_P D vwCl (XO x0 a b ++ (DC cI a f r ++ (DC cI b f2 r2 ++ (OUT cJ q v ++ MC cI mb g nw kp)))) H := hP
  have hD : va_D (lwA s) (XO x0 a b ++ (DC cI a f r ++ (DC cI b f2 r2 ++ (OUT cJ q v ++ MC cI mb g nw kp)))) := hD
  refine lv_istore (lv' := [(5, .int 1), (4, .int (nI i)), (3, .ref q), (2, .ref (mb 0)), (1, .ref x0), (0, .ref sb)]) hx hb dL_law_1022 hl (by decide) rfl (fun ls hl => ?_)
  refine lv_aload_n hx hb dL_law_1024 rfl (lv_at hl 3 rfl) ?_
  refine lv_aload_n hx hb dL_law_1025 rfl (lv_at hl 5 rfl) ?_
  refine lv_iload hx hb dL_law_1026 (lv_at hl 1 rfl) ?_
  refine lv_iconst (v := 1) hx hb dL_law_1028 (by decide) ?_
  refine lv_iadd hx hb dL_law_1029 ?_
  refine wTop (z := nI (i + 1)) (nI_add i 1) ?_
  refine wSld hx hb hX hbl hS (i + 1) (by omega) hLN hx1 dL_law_1030 ?_
  refine lv_aload_n hx hb dL_law_1031 rfl (lv_at hl 5 rfl) ?_
  refine lv_iload hx hb dL_law_1032 (lv_at hl 1 rfl) ?_
  refine lv_iconst (v := 2) hx hb dL_law_1034 (by decide) ?_
  refine lv_iadd hx hb dL_law_1035 ?_
  refine wTop (z := nI (i + 2)) (nI_add i 2) ?_
  refine wSld hx hb hX hbl hS (i + 2) (by omega) hLN hx2 dL_law_1036 ?_
  refine wCVi (pre := XO x0 a b ++ (DC cI a f r ++ (DC cI b f2 r2 ++ OUT cJ q v))) (Wc := MC cI mb g nw kp) (suf := ([] : va_W)) (As := [.int x, .int y]) (rest := []) ⟨hx, hb, hml, hown, hts⟩ (mX2_secondsToGo1 l D cI mb g nw kp gg x y _ hg hg2 hg0 hbadm) hN hA hK1 hS hP hD rfl 0 (r := (RX2, TX2, 7)) rfl rfl (cwV 2 hts gL_law_X2_secondsToGo rfl rfl rfl (by decide +kernel) ⟨Nat.le_of_ble_eq_true rfl, Nat.le_of_ble_eq_true rfl⟩) rfl hl.1 rfl (Nat.le_of_ble_eq_true rfl) dL_law_1037 ⟨by omega, by omega⟩ (fun r_1037 u_1037 H locs hw hP hD hS => ?_)
  have hw : r_1037 = 0 := hw
  subst hw
  have hP : va_P D vwCl (XO x0 a b ++ (DC cI a f r ++ (DC cI b f2 r2 ++ (OUT cJ q v ++ MC cI mb (upd g 0 1) nw kp)))) H := hP
  have hD : va_D (lwA s) (XO x0 a b ++ (DC cI a f r ++ (DC cI b f2 r2 ++ (OUT cJ q v ++ MC cI mb (upd g 0 1) nw kp)))) := hD
  refine lv_istore (lv' := [(6, .int 0), (5, .int 1), (4, .int (nI i)), (3, .ref q), (2, .ref (mb 0)), (1, .ref x0), (0, .ref sb)]) hx hb dL_law_1040 hl (by decide) rfl (fun ls hl => ?_)
  refine lv_aload_n hx hb dL_law_1042 rfl (lv_at hl 4 rfl) ?_
  refine wCVi (pre := XO x0 a b ++ (DC cI a f r ++ (DC cI b f2 r2 ++ OUT cJ q v))) (Wc := MC cI mb (upd g 0 1) nw kp) (suf := ([] : va_W)) (As := []) (rest := []) ⟨hx, hb, hml, hown, hts⟩ (mX2_thrown l D cI mb (upd g 0 1) nw kp _ ) hN hA hK1 hS hP hD rfl 0 (r := (RX2, TX2, 7)) rfl rfl (cwV 0 hts gL_law_X2_thrown rfl rfl rfl (by decide +kernel) ⟨Nat.le_of_ble_eq_true rfl, Nat.le_of_ble_eq_true rfl⟩) rfl hl.1 rfl (Nat.le_of_ble_eq_true rfl) dL_law_1043 ⟨by omega, by omega⟩ (fun r_1043 u_1043 H locs hw hP hD hS => ?_)
  have hw : r_1043 = (upd g 0 1) 0 := hw
  subst hw
  have hP : va_P D vwCl (XO x0 a b ++ (DC cI a f r ++ (DC cI b f2 r2 ++ (OUT cJ q v ++ MC cI mb (upd g 0 1) nw kp)))) H := hP
  have hD : va_D (lwA s) (XO x0 a b ++ (DC cI a f r ++ (DC cI b f2 r2 ++ (OUT cJ q v ++ MC cI mb (upd g 0 1) nw kp)))) := hD
  refine wTop (z := 1) (by simp (disch := omega) only [mUp, mUs]) ?_
  refine lv_iload hx hb dL_law_1046 (lv_at hl 1 rfl) ?_
  refine lv_icmp_eq (tgt := 1053) hx hb dL_law_1048 (by decide) (fun c_1048 => ?_) (fun h9 => absurd (by decide) h9)
  refine lv_iload hx hb dL_law_1053 (lv_at hl 1 rfl) ?_
  refine lv_if_ne (tgt := 1070) hx hb dL_law_1055 (by decide) (fun c_1055 => ?_) (fun h9 => absurd h9 (by decide))
  refine lv_goto (tgt := 1548) hx hb dL_law_1070 (by decide) ?_
  exact W.widen (k := cells + 1) (n := slots + 11) (by omega) (by omega) (kk _ _ _ _ _ _ _ _ (by simp (disch := omega) only [mUp, mUs]) (by simp (disch := omega) only [mUp, mUs]) hP hD hS (lv_sub hl [2, 3, 4, 5, 6] rfl))
set_option maxRecDepth 100000 in
set_option maxHeartbeats 4000000 in
theorem lc_secondsToGo2 {p : Program} {l : Launch} {e : Env} {s : State} {m : MethodId} {args : Array Value} {below : List Frame} {meth : Method} {c : Code} {D : va_G} {cI cJ : ClassId} {sb LN : Nat} {xs : Nat → Int32} {H : Heap} {locs : List Loc} {cells slots : Nat} {Q : State → Prop} {ls : Array Slot} (E9 : lawE p l s m args c D cI cJ sb LN xs) (x0 : Nat) (a b : Nat → Nat) (f f2 : Nat → Int32) (r r2 : Nat → Nat → Int32) (q : Nat) (v : Nat → Int64) (mb : Nat → Nat) (g nw kp : Nat → Int32) (i : Nat) (hi : i + 2 < LN) (hcc : cells + 1 ≤ room_1.cells) (hss : slots + 11 ≤ room_1.slots) (hl : lv_has ls 9 [(4, .int (nI i)), (3, .ref q), (2, .ref (mb 0)), (1, .ref x0), (0, .ref sb)]) (hP : va_P D vwCl (XO x0 a b ++ (DC cI a f r ++ (DC cI b f2 r2 ++ (OUT cJ q v ++ MC cI mb g nw kp)))) H) (hD : va_D (lwA s) (XO x0 a b ++ (DC cI a f r ++ (DC cI b f2 r2 ++ (OUT cJ q v ++ MC cI mb g nw kp))))) (hS : va_S (lwA s) s.heap H locs) (gg : Nat) (x : Nat) (y : Int32) (hx1 : xs (i + 1) = nI x) (hx2 : xs (i + 2) = y) (hg : f 0 = nI gg) (hg2 : gg ≤ 10) (hg0 : 0 < gg) (ux : x < gg) (hbad : y < 0 ∨ f 0 ≤ y) (hgm : g 1 = nI gg) (hbadm : ¬ (0 ≤ (nI x) ∧ (nI x) < nI gg) ∨ ¬ (0 ≤ y ∧ y < nI gg))
    (kk : ∀ (f9 : Nat → Int32) (r9 : Nat → Nat → Int32) (v9 : Nat → Int64) (g9 kp9 : Nat → Int32) (H1 : Heap) (locs1 : List Loc) (ls1 : Array Slot), g9 1 = g 1 → g9 2 = g 2 → va_P D vwCl (XO x0 a b ++ (DC cI a f r ++ (DC cI b f9 r9 ++ (OUT cJ q v9 ++ MC cI mb g9 nw kp9)))) H1 → va_D (lwA s) (XO x0 a b ++ (DC cI a f r ++ (DC cI b f9 r9 ++ (OUT cJ q v9 ++ MC cI mb g9 nw kp9)))) → va_S (lwA s) s.heap H1 locs1 → lv_has ls1 9 [(4, .int (nI i)), (3, .ref q), (2, .ref (mb 0)), (1, .ref x0), (0, .ref sb)] → W p l e room_1 s m args below meth c H1 locs1 (cells + 1) (slots + 11) Q (F0 m 1548 ls1 [])) : W p l e room_1 s m args below meth c H locs cells slots Q (F0 m 1005 ls []) := by
  obtain ⟨⟨hx, hb, hml, hown, hts⟩, hN, hE, hZ, hK, hX, hbl, hlt, hLN⟩ := E9
  have hA : ∀ q : Nat, s.heap.size ≤ q → lwA s q := fun _ h => h
  have hK1 : va_K D vwCl [(cI, .int)] s := hK.sub [0] rfl
  refine lv_aload_n hx hb dL_law_1005 rfl (lv_at hl 3 rfl) ?_
  refine lv_aload_n hx hb dL_law_1006 rfl (lv_at hl 4 rfl) ?_
  refine lv_iload hx hb dL_law_1007 (lv_at hl 0 rfl) ?_
  refine lv_iconst (v := 1) hx hb dL_law_1009 (by decide) ?_
  refine lv_iadd hx hb dL_law_1010 ?_
  refine wTop (z := nI (i + 1)) (nI_add i 1) ?_
  refine wSld hx hb hX hbl hS (i + 1) (by omega) hLN hx1 dL_law_1011 ?_
  refine lv_aload_n hx hb dL_law_1012 rfl (lv_at hl 4 rfl) ?_
  refine lv_iload hx hb dL_law_1013 (lv_at hl 0 rfl) ?_
  refine lv_iconst (v := 2) hx hb dL_law_1015 (by decide) ?_
  refine lv_iadd hx hb dL_law_1016 ?_
  refine wTop (z := nI (i + 2)) (nI_add i 2) ?_
  refine wSld hx hb hX hbl hS (i + 2) (by omega) hLN hx2 dL_law_1017 ?_
  refine lv_aload_n hx hb dL_law_1018 rfl (lv_at hl 1 rfl) ?_
  refine wLW (pre := ([] : va_W)) (Wc := XO x0 a b ++ (DC cI a f r ++ (DC cI b f2 r2 ++ OUT cJ q v))) (suf := MC cI mb g nw kp) (As := [.ref x0, .int (nI x), .int y, .ref q]) (rest := []) ⟨hx, hb, hml, hown, hts⟩ (mL_secondsToGo2 l D cI cJ x0 a b f f2 r r2 q v gg x y _ hlt hg hg2 hg0 ux hbad) hN hE hZ hA hK hS hP hD rfl (vx_cwSW 4 hts gL_law_L_secondsToGo rfl rfl rfl (by decide +kernel) ⟨Nat.le_of_ble_eq_true rfl, Nat.le_of_ble_eq_true rfl⟩) rfl hl.1 rfl (Nat.le_of_ble_eq_true rfl) dL_law_1019 ⟨by omega, by omega⟩ (fun r_1019 u_1019 H locs hw hP hD hS => ?_)
  have hw : r_1019 = 1 := hw
  subst hw
  have hP : va_P D vwCl (XO x0 a b ++ (DC cI a f r ++ (DC cI b f2 r2 ++ (OUT cJ q v ++ MC cI mb g nw kp)))) H := hP
  have hD : va_D (lwA s) (XO x0 a b ++ (DC cI a f r ++ (DC cI b f2 r2 ++ (OUT cJ q v ++ MC cI mb g nw kp)))) := hD
  refine lv_istore (lv' := [(5, .int 1), (4, .int (nI i)), (3, .ref q), (2, .ref (mb 0)), (1, .ref x0), (0, .ref sb)]) hx hb dL_law_1022 hl (by decide) rfl (fun ls hl => ?_)
  refine lv_aload_n hx hb dL_law_1024 rfl (lv_at hl 3 rfl) ?_
  refine lv_aload_n hx hb dL_law_1025 rfl (lv_at hl 5 rfl) ?_
  refine lv_iload hx hb dL_law_1026 (lv_at hl 1 rfl) ?_
  refine lv_iconst (v := 1) hx hb dL_law_1028 (by decide) ?_
  refine lv_iadd hx hb dL_law_1029 ?_
  refine wTop (z := nI (i + 1)) (nI_add i 1) ?_
  refine wSld hx hb hX hbl hS (i + 1) (by omega) hLN hx1 dL_law_1030 ?_
  refine lv_aload_n hx hb dL_law_1031 rfl (lv_at hl 5 rfl) ?_
  refine lv_iload hx hb dL_law_1032 (lv_at hl 1 rfl) ?_
  refine lv_iconst (v := 2) hx hb dL_law_1034 (by decide) ?_
  refine lv_iadd hx hb dL_law_1035 ?_
  refine wTop (z := nI (i + 2)) (nI_add i 2) ?_
  refine wSld hx hb hX hbl hS (i + 2) (by omega) hLN hx2 dL_law_1036 ?_
  refine wCVi (pre := XO x0 a b ++ (DC cI a f r ++ (DC cI b f2 r2 ++ OUT cJ q v))) (Wc := MC cI mb g nw kp) (suf := ([] : va_W)) (As := [.int (nI x), .int y]) (rest := []) ⟨hx, hb, hml, hown, hts⟩ (mX2_secondsToGo1 l D cI mb g nw kp gg (nI x) y _ hgm hg2 hg0 hbadm) hN hA hK1 hS hP hD rfl 0 (r := (RX2, TX2, 7)) rfl rfl (cwV 2 hts gL_law_X2_secondsToGo rfl rfl rfl (by decide +kernel) ⟨Nat.le_of_ble_eq_true rfl, Nat.le_of_ble_eq_true rfl⟩) rfl hl.1 rfl (Nat.le_of_ble_eq_true rfl) dL_law_1037 ⟨by omega, by omega⟩ (fun r_1037 u_1037 H locs hw hP hD hS => ?_)
  have hw : r_1037 = 0 := hw
  subst hw
  have hP : va_P D vwCl (XO x0 a b ++ (DC cI a f r ++ (DC cI b f2 r2 ++ (OUT cJ q v ++ MC cI mb (upd g 0 1) nw kp)))) H := hP
  have hD : va_D (lwA s) (XO x0 a b ++ (DC cI a f r ++ (DC cI b f2 r2 ++ (OUT cJ q v ++ MC cI mb (upd g 0 1) nw kp)))) := hD
  refine lv_istore (lv' := [(6, .int 0), (5, .int 1), (4, .int (nI i)), (3, .ref q), (2, .ref (mb 0)), (1, .ref x0), (0, .ref sb)]) hx hb dL_law_1040 hl (by decide) rfl (fun ls hl => ?_)
  refine lv_aload_n hx hb dL_law_1042 rfl (lv_at hl 4 rfl) ?_
  refine wCVi (pre := XO x0 a b ++ (DC cI a f r ++ (DC cI b f2 r2 ++ OUT cJ q v))) (Wc := MC cI mb (upd g 0 1) nw kp) (suf := ([] : va_W)) (As := []) (rest := []) ⟨hx, hb, hml, hown, hts⟩ (mX2_thrown l D cI mb (upd g 0 1) nw kp _ ) hN hA hK1 hS hP hD rfl 0 (r := (RX2, TX2, 7)) rfl rfl (cwV 0 hts gL_law_X2_thrown rfl rfl rfl (by decide +kernel) ⟨Nat.le_of_ble_eq_true rfl, Nat.le_of_ble_eq_true rfl⟩) rfl hl.1 rfl (Nat.le_of_ble_eq_true rfl) dL_law_1043 ⟨by omega, by omega⟩ (fun r_1043 u_1043 H locs hw hP hD hS => ?_)
  have hw : r_1043 = (upd g 0 1) 0 := hw
  subst hw
  have hP : va_P D vwCl (XO x0 a b ++ (DC cI a f r ++ (DC cI b f2 r2 ++ (OUT cJ q v ++ MC cI mb (upd g 0 1) nw kp)))) H := hP
  have hD : va_D (lwA s) (XO x0 a b ++ (DC cI a f r ++ (DC cI b f2 r2 ++ (OUT cJ q v ++ MC cI mb (upd g 0 1) nw kp)))) := hD
  refine wTop (z := 1) (by simp (disch := omega) only [mUp, mUs]) ?_
  refine lv_iload hx hb dL_law_1046 (lv_at hl 1 rfl) ?_
  refine lv_icmp_eq (tgt := 1053) hx hb dL_law_1048 (by decide) (fun c_1048 => ?_) (fun h9 => absurd (by decide) h9)
  refine lv_iload hx hb dL_law_1053 (lv_at hl 1 rfl) ?_
  refine lv_if_ne (tgt := 1070) hx hb dL_law_1055 (by decide) (fun c_1055 => ?_) (fun h9 => absurd h9 (by decide))
  refine lv_goto (tgt := 1548) hx hb dL_law_1070 (by decide) ?_
  exact W.widen (k := cells + 1) (n := slots + 11) (by omega) (by omega) (kk _ _ _ _ _ _ _ _ (by simp (disch := omega) only [mUp, mUs]) (by simp (disch := omega) only [mUp, mUs]) hP hD hS (lv_sub hl [2, 3, 4, 5, 6] rfl))
set_option maxRecDepth 100000 in
set_option maxHeartbeats 4000000 in
theorem lc_caughtBy {p : Program} {l : Launch} {e : Env} {s : State} {m : MethodId} {args : Array Value} {below : List Frame} {meth : Method} {c : Code} {D : va_G} {cI cJ : ClassId} {sb LN : Nat} {xs : Nat → Int32} {H : Heap} {locs : List Loc} {cells slots : Nat} {Q : State → Prop} {ls : Array Slot} (E9 : lawE p l s m args c D cI cJ sb LN xs) (x0 : Nat) (a b : Nat → Nat) (f f2 : Nat → Int32) (r r2 : Nat → Nat → Int32) (q : Nat) (v : Nat → Int64) (mb : Nat → Nat) (g nw kp : Nat → Int32) (i : Nat) (hi : i + 2 < LN) (hcc : cells + 1 ≤ room_1.cells) (hss : slots + 11 ≤ room_1.slots) (hl : lv_has ls 9 [(4, .int (nI i)), (3, .ref q), (2, .ref (mb 0)), (1, .ref x0), (0, .ref sb)]) (hP : va_P D vwCl (XO x0 a b ++ (DC cI a f r ++ (DC cI b f2 r2 ++ (OUT cJ q v ++ MC cI mb g nw kp)))) H) (hD : va_D (lwA s) (XO x0 a b ++ (DC cI a f r ++ (DC cI b f2 r2 ++ (OUT cJ q v ++ MC cI mb g nw kp))))) (hS : va_S (lwA s) s.heap H locs) (gg : Nat) (x : Nat) (y : Nat) (hx1 : xs (i + 1) = nI x) (hx2 : xs (i + 2) = nI y) (hg : f 0 = nI gg) (hg2 : gg ≤ 10) (hg0 : 0 < gg) (ux : x < gg) (uy : y < gg) (hans : (nw (248 + (10 * x + y)) : Int32) = r 5 (x * 10 + y)) (hgm : g 1 = nI gg)
    (kk : ∀ (f9 : Nat → Int32) (r9 : Nat → Nat → Int32) (v9 : Nat → Int64) (g9 kp9 : Nat → Int32) (H1 : Heap) (locs1 : List Loc) (ls1 : Array Slot), g9 1 = g 1 → g9 2 = g 2 → va_P D vwCl (XO x0 a b ++ (DC cI a f r ++ (DC cI b f9 r9 ++ (OUT cJ q v9 ++ MC cI mb g9 nw kp9)))) H1 → va_D (lwA s) (XO x0 a b ++ (DC cI a f r ++ (DC cI b f9 r9 ++ (OUT cJ q v9 ++ MC cI mb g9 nw kp9)))) → va_S (lwA s) s.heap H1 locs1 → lv_has ls1 9 [(4, .int (nI i)), (3, .ref q), (2, .ref (mb 0)), (1, .ref x0), (0, .ref sb)] → W p l e room_1 s m args below meth c H1 locs1 (cells + 1) (slots + 11) Q (F0 m 1548 ls1 [])) : W p l e room_1 s m args below meth c H locs cells slots Q (F0 m 1073 ls []) := by
  obtain ⟨⟨hx, hb, hml, hown, hts⟩, hN, hE, hZ, hK, hX, hbl, hlt, hLN⟩ := E9
  have hA : ∀ q : Nat, s.heap.size ≤ q → lwA s q := fun _ h => h
  have hK1 : va_K D vwCl [(cI, .int)] s := hK.sub [0] rfl
  refine lv_aload_n hx hb dL_law_1073 rfl (lv_at hl 3 rfl) ?_
  refine lv_aload_n hx hb dL_law_1074 rfl (lv_at hl 4 rfl) ?_
  refine lv_iload hx hb dL_law_1075 (lv_at hl 0 rfl) ?_
  refine lv_iconst (v := 1) hx hb dL_law_1077 (by decide) ?_
  refine lv_iadd hx hb dL_law_1078 ?_
  refine wTop (z := nI (i + 1)) (nI_add i 1) ?_
  refine wSld hx hb hX hbl hS (i + 1) (by omega) hLN hx1 dL_law_1079 ?_
  refine lv_aload_n hx hb dL_law_1080 rfl (lv_at hl 4 rfl) ?_
  refine lv_iload hx hb dL_law_1081 (lv_at hl 0 rfl) ?_
  refine lv_iconst (v := 2) hx hb dL_law_1083 (by decide) ?_
  refine lv_iadd hx hb dL_law_1084 ?_
  refine wTop (z := nI (i + 2)) (nI_add i 2) ?_
  refine wSld hx hb hX hbl hS (i + 2) (by omega) hLN hx2 dL_law_1085 ?_
  refine lv_aload_n hx hb dL_law_1086 rfl (lv_at hl 1 rfl) ?_
  refine wLW (pre := ([] : va_W)) (Wc := XO x0 a b ++ (DC cI a f r ++ (DC cI b f2 r2 ++ OUT cJ q v))) (suf := MC cI mb g nw kp) (As := [.ref x0, .int (nI x), .int (nI y), .ref q]) (rest := []) ⟨hx, hb, hml, hown, hts⟩ (mL_caughtBy l D cI cJ x0 a b f f2 r r2 q v gg x y _ hg hg2 hg0 ux uy) hN hE hZ hA hK hS hP hD rfl (vx_cwSW 4 hts gL_law_L_caughtBy rfl rfl rfl (by decide +kernel) ⟨Nat.le_of_ble_eq_true rfl, Nat.le_of_ble_eq_true rfl⟩) rfl hl.1 rfl (Nat.le_of_ble_eq_true rfl) dL_law_1087 ⟨by omega, by omega⟩ (fun r_1087 u_1087 H locs hw hP hD hS => ?_)
  have hw : r_1087 = 0 := hw
  subst hw
  have hP : va_P D vwCl (XO x0 a b ++ (DC cI a f r ++ (DC cI b f2 r2 ++ (OUT cJ q (vp_updL v 0 ((r 5 (x * 10 + y)).toInt64)) ++ MC cI mb g nw kp)))) H := hP
  have hD : va_D (lwA s) (XO x0 a b ++ (DC cI a f r ++ (DC cI b f2 r2 ++ (OUT cJ q (vp_updL v 0 ((r 5 (x * 10 + y)).toInt64)) ++ MC cI mb g nw kp)))) := hD
  refine lv_istore (lv' := [(5, .int 0), (4, .int (nI i)), (3, .ref q), (2, .ref (mb 0)), (1, .ref x0), (0, .ref sb)]) hx hb dL_law_1090 hl (by decide) rfl (fun ls hl => ?_)
  refine lv_aload_n hx hb dL_law_1092 rfl (lv_at hl 3 rfl) ?_
  refine lv_aload_n hx hb dL_law_1093 rfl (lv_at hl 5 rfl) ?_
  refine lv_iload hx hb dL_law_1094 (lv_at hl 1 rfl) ?_
  refine lv_iconst (v := 1) hx hb dL_law_1096 (by decide) ?_
  refine lv_iadd hx hb dL_law_1097 ?_
  refine wTop (z := nI (i + 1)) (nI_add i 1) ?_
  refine wSld hx hb hX hbl hS (i + 1) (by omega) hLN hx1 dL_law_1098 ?_
  refine lv_aload_n hx hb dL_law_1099 rfl (lv_at hl 5 rfl) ?_
  refine lv_iload hx hb dL_law_1100 (lv_at hl 1 rfl) ?_
  refine lv_iconst (v := 2) hx hb dL_law_1102 (by decide) ?_
  refine lv_iadd hx hb dL_law_1103 ?_
  refine wTop (z := nI (i + 2)) (nI_add i 2) ?_
  refine wSld hx hb hX hbl hS (i + 2) (by omega) hLN hx2 dL_law_1104 ?_
  refine wCVi (pre := XO x0 a b ++ (DC cI a f r ++ (DC cI b f2 r2 ++ OUT cJ q (vp_updL v 0 ((r 5 (x * 10 + y)).toInt64))))) (Wc := MC cI mb g nw kp) (suf := ([] : va_W)) (As := [.int (nI x), .int (nI y)]) (rest := []) ⟨hx, hb, hml, hown, hts⟩ (mX2_caughtBy l D cI mb g nw kp gg x y _ hgm hg2 hg0 ux uy) hN hA hK1 hS hP hD rfl 0 (r := (RX2, TX2, 7)) rfl rfl (cwV 2 hts gL_law_X2_caughtBy rfl rfl rfl (by decide +kernel) ⟨Nat.le_of_ble_eq_true rfl, Nat.le_of_ble_eq_true rfl⟩) rfl hl.1 rfl (Nat.le_of_ble_eq_true rfl) dL_law_1105 ⟨by omega, by omega⟩ (fun r_1105 u_1105 H locs hw hP hD hS => ?_)
  have hw : r_1105 = nw (248 + (10 * x + y)) := hw
  subst hw
  have hP : va_P D vwCl (XO x0 a b ++ (DC cI a f r ++ (DC cI b f2 r2 ++ (OUT cJ q (vp_updL v 0 ((r 5 (x * 10 + y)).toInt64)) ++ MC cI mb (upd g 0 0) nw kp)))) H := hP
  have hD : va_D (lwA s) (XO x0 a b ++ (DC cI a f r ++ (DC cI b f2 r2 ++ (OUT cJ q (vp_updL v 0 ((r 5 (x * 10 + y)).toInt64)) ++ MC cI mb (upd g 0 0) nw kp)))) := hD
  refine wTop (z := (r 5 (x * 10 + y))) (hans) ?_
  refine lv_istore (lv' := [(6, .int (r 5 (x * 10 + y))), (5, .int 0), (4, .int (nI i)), (3, .ref q), (2, .ref (mb 0)), (1, .ref x0), (0, .ref sb)]) hx hb dL_law_1108 hl (by decide) rfl (fun ls hl => ?_)
  refine lv_aload_n hx hb dL_law_1110 rfl (lv_at hl 4 rfl) ?_
  refine wCVi (pre := XO x0 a b ++ (DC cI a f r ++ (DC cI b f2 r2 ++ OUT cJ q (vp_updL v 0 ((r 5 (x * 10 + y)).toInt64))))) (Wc := MC cI mb (upd g 0 0) nw kp) (suf := ([] : va_W)) (As := []) (rest := []) ⟨hx, hb, hml, hown, hts⟩ (mX2_thrown l D cI mb (upd g 0 0) nw kp _ ) hN hA hK1 hS hP hD rfl 0 (r := (RX2, TX2, 7)) rfl rfl (cwV 0 hts gL_law_X2_thrown rfl rfl rfl (by decide +kernel) ⟨Nat.le_of_ble_eq_true rfl, Nat.le_of_ble_eq_true rfl⟩) rfl hl.1 rfl (Nat.le_of_ble_eq_true rfl) dL_law_1111 ⟨by omega, by omega⟩ (fun r_1111 u_1111 H locs hw hP hD hS => ?_)
  have hw : r_1111 = (upd g 0 0) 0 := hw
  subst hw
  have hP : va_P D vwCl (XO x0 a b ++ (DC cI a f r ++ (DC cI b f2 r2 ++ (OUT cJ q (vp_updL v 0 ((r 5 (x * 10 + y)).toInt64)) ++ MC cI mb (upd g 0 0) nw kp)))) H := hP
  have hD : va_D (lwA s) (XO x0 a b ++ (DC cI a f r ++ (DC cI b f2 r2 ++ (OUT cJ q (vp_updL v 0 ((r 5 (x * 10 + y)).toInt64)) ++ MC cI mb (upd g 0 0) nw kp)))) := hD
  refine wTop (z := 0) (by simp (disch := omega) only [mUp, mUs]) ?_
  refine lv_iload hx hb dL_law_1114 (lv_at hl 1 rfl) ?_
  refine lv_icmp_eq (tgt := 1121) hx hb dL_law_1116 (by decide) (fun c_1116 => ?_) (fun h9 => absurd (by decide) h9)
  refine lv_iload hx hb dL_law_1121 (lv_at hl 1 rfl) ?_
  refine lv_if_ne (tgt := 1138) hx hb dL_law_1123 (by decide) (fun h9 => absurd (by decide) h9) (fun c_1123 => ?_)
  refine lv_aload_n hx hb dL_law_1126 rfl (lv_at hl 3 rfl) ?_
  refine lv_iconst (v := 0) hx hb dL_law_1127 (by decide) ?_
  refine wLald hx hb hK hP 17 1 rfl rfl (z := ((r 5 (x * 10 + y)).toInt64)) (pk_uLs) dL_law_1128 ?_
  refine lv_iload hx hb dL_law_1129 (lv_at hl 0 rfl) ?_
  refine lv_i2l hx hb dL_law_1131 rfl ?_
  refine W.lcmp hx hb dL_law_1132 ?_
  refine wTop (z := 0) (lcmp_self _) ?_
  refine lv_if_eq (tgt := 1138) hx hb dL_law_1133 (by decide) (fun c_1133 => ?_) (fun h9 => absurd (by decide) h9)
  refine lv_goto (tgt := 1548) hx hb dL_law_1138 (by decide) ?_
  exact W.widen (k := cells + 1) (n := slots + 11) (by omega) (by omega) (kk _ _ _ _ _ _ _ _ (by simp (disch := omega) only [mUp, mUs]) (by simp (disch := omega) only [mUp, mUs]) hP hD hS (lv_sub hl [2, 3, 4, 5, 6] rfl))
set_option maxRecDepth 100000 in
set_option maxHeartbeats 4000000 in
theorem lc_caughtBy1 {p : Program} {l : Launch} {e : Env} {s : State} {m : MethodId} {args : Array Value} {below : List Frame} {meth : Method} {c : Code} {D : va_G} {cI cJ : ClassId} {sb LN : Nat} {xs : Nat → Int32} {H : Heap} {locs : List Loc} {cells slots : Nat} {Q : State → Prop} {ls : Array Slot} (E9 : lawE p l s m args c D cI cJ sb LN xs) (x0 : Nat) (a b : Nat → Nat) (f f2 : Nat → Int32) (r r2 : Nat → Nat → Int32) (q : Nat) (v : Nat → Int64) (mb : Nat → Nat) (g nw kp : Nat → Int32) (i : Nat) (hi : i + 2 < LN) (hcc : cells + 1 ≤ room_1.cells) (hss : slots + 11 ≤ room_1.slots) (hl : lv_has ls 9 [(4, .int (nI i)), (3, .ref q), (2, .ref (mb 0)), (1, .ref x0), (0, .ref sb)]) (hP : va_P D vwCl (XO x0 a b ++ (DC cI a f r ++ (DC cI b f2 r2 ++ (OUT cJ q v ++ MC cI mb g nw kp)))) H) (hD : va_D (lwA s) (XO x0 a b ++ (DC cI a f r ++ (DC cI b f2 r2 ++ (OUT cJ q v ++ MC cI mb g nw kp))))) (hS : va_S (lwA s) s.heap H locs) (x : Int32) (y : Int32) (gg : Nat) (hx1 : xs (i + 1) = x) (hx2 : xs (i + 2) = y) (hbad : x < 0 ∨ f 0 ≤ x) (hg : g 1 = nI gg) (hg2 : gg ≤ 10) (hg0 : 0 < gg) (hbadm : ¬ (0 ≤ x ∧ x < nI gg) ∨ ¬ (0 ≤ y ∧ y < nI gg))
    (kk : ∀ (f9 : Nat → Int32) (r9 : Nat → Nat → Int32) (v9 : Nat → Int64) (g9 kp9 : Nat → Int32) (H1 : Heap) (locs1 : List Loc) (ls1 : Array Slot), g9 1 = g 1 → g9 2 = g 2 → va_P D vwCl (XO x0 a b ++ (DC cI a f r ++ (DC cI b f9 r9 ++ (OUT cJ q v9 ++ MC cI mb g9 nw kp9)))) H1 → va_D (lwA s) (XO x0 a b ++ (DC cI a f r ++ (DC cI b f9 r9 ++ (OUT cJ q v9 ++ MC cI mb g9 nw kp9)))) → va_S (lwA s) s.heap H1 locs1 → lv_has ls1 9 [(4, .int (nI i)), (3, .ref q), (2, .ref (mb 0)), (1, .ref x0), (0, .ref sb)] → W p l e room_1 s m args below meth c H1 locs1 (cells + 1) (slots + 11) Q (F0 m 1548 ls1 [])) : W p l e room_1 s m args below meth c H locs cells slots Q (F0 m 1073 ls []) := by
  obtain ⟨⟨hx, hb, hml, hown, hts⟩, hN, hE, hZ, hK, hX, hbl, hlt, hLN⟩ := E9
  have hA : ∀ q : Nat, s.heap.size ≤ q → lwA s q := fun _ h => h
  have hK1 : va_K D vwCl [(cI, .int)] s := hK.sub [0] rfl
  refine lv_aload_n hx hb dL_law_1073 rfl (lv_at hl 3 rfl) ?_
  refine lv_aload_n hx hb dL_law_1074 rfl (lv_at hl 4 rfl) ?_
  refine lv_iload hx hb dL_law_1075 (lv_at hl 0 rfl) ?_
  refine lv_iconst (v := 1) hx hb dL_law_1077 (by decide) ?_
  refine lv_iadd hx hb dL_law_1078 ?_
  refine wTop (z := nI (i + 1)) (nI_add i 1) ?_
  refine wSld hx hb hX hbl hS (i + 1) (by omega) hLN hx1 dL_law_1079 ?_
  refine lv_aload_n hx hb dL_law_1080 rfl (lv_at hl 4 rfl) ?_
  refine lv_iload hx hb dL_law_1081 (lv_at hl 0 rfl) ?_
  refine lv_iconst (v := 2) hx hb dL_law_1083 (by decide) ?_
  refine lv_iadd hx hb dL_law_1084 ?_
  refine wTop (z := nI (i + 2)) (nI_add i 2) ?_
  refine wSld hx hb hX hbl hS (i + 2) (by omega) hLN hx2 dL_law_1085 ?_
  refine lv_aload_n hx hb dL_law_1086 rfl (lv_at hl 1 rfl) ?_
  refine wLW (pre := ([] : va_W)) (Wc := XO x0 a b ++ (DC cI a f r ++ (DC cI b f2 r2 ++ OUT cJ q v))) (suf := MC cI mb g nw kp) (As := [.ref x0, .int x, .int y, .ref q]) (rest := []) ⟨hx, hb, hml, hown, hts⟩ (mL_caughtBy1 l D cI cJ x0 a b f f2 r r2 q v x y _ hlt hbad) hN hE hZ hA hK hS hP hD rfl (vx_cwSW 4 hts gL_law_L_caughtBy rfl rfl rfl (by decide +kernel) ⟨Nat.le_of_ble_eq_true rfl, Nat.le_of_ble_eq_true rfl⟩) rfl hl.1 rfl (Nat.le_of_ble_eq_true rfl) dL_law_1087 ⟨by omega, by omega⟩ (fun r_1087 u_1087 H locs hw hP hD hS => ?_)
  have hw : r_1087 = 1 := hw
  subst hw
  have hP : va_P D vwCl (XO x0 a b ++ (DC cI a f r ++ (DC cI b f2 r2 ++ (OUT cJ q v ++ MC cI mb g nw kp)))) H := hP
  have hD : va_D (lwA s) (XO x0 a b ++ (DC cI a f r ++ (DC cI b f2 r2 ++ (OUT cJ q v ++ MC cI mb g nw kp)))) := hD
  refine lv_istore (lv' := [(5, .int 1), (4, .int (nI i)), (3, .ref q), (2, .ref (mb 0)), (1, .ref x0), (0, .ref sb)]) hx hb dL_law_1090 hl (by decide) rfl (fun ls hl => ?_)
  refine lv_aload_n hx hb dL_law_1092 rfl (lv_at hl 3 rfl) ?_
  refine lv_aload_n hx hb dL_law_1093 rfl (lv_at hl 5 rfl) ?_
  refine lv_iload hx hb dL_law_1094 (lv_at hl 1 rfl) ?_
  refine lv_iconst (v := 1) hx hb dL_law_1096 (by decide) ?_
  refine lv_iadd hx hb dL_law_1097 ?_
  refine wTop (z := nI (i + 1)) (nI_add i 1) ?_
  refine wSld hx hb hX hbl hS (i + 1) (by omega) hLN hx1 dL_law_1098 ?_
  refine lv_aload_n hx hb dL_law_1099 rfl (lv_at hl 5 rfl) ?_
  refine lv_iload hx hb dL_law_1100 (lv_at hl 1 rfl) ?_
  refine lv_iconst (v := 2) hx hb dL_law_1102 (by decide) ?_
  refine lv_iadd hx hb dL_law_1103 ?_
  refine wTop (z := nI (i + 2)) (nI_add i 2) ?_
  refine wSld hx hb hX hbl hS (i + 2) (by omega) hLN hx2 dL_law_1104 ?_
  refine wCVi (pre := XO x0 a b ++ (DC cI a f r ++ (DC cI b f2 r2 ++ OUT cJ q v))) (Wc := MC cI mb g nw kp) (suf := ([] : va_W)) (As := [.int x, .int y]) (rest := []) ⟨hx, hb, hml, hown, hts⟩ (mX2_caughtBy1 l D cI mb g nw kp gg x y _ hg hg2 hg0 hbadm) hN hA hK1 hS hP hD rfl 0 (r := (RX2, TX2, 7)) rfl rfl (cwV 2 hts gL_law_X2_caughtBy rfl rfl rfl (by decide +kernel) ⟨Nat.le_of_ble_eq_true rfl, Nat.le_of_ble_eq_true rfl⟩) rfl hl.1 rfl (Nat.le_of_ble_eq_true rfl) dL_law_1105 ⟨by omega, by omega⟩ (fun r_1105 u_1105 H locs hw hP hD hS => ?_)
  have hw : r_1105 = 0 := hw
  subst hw
  have hP : va_P D vwCl (XO x0 a b ++ (DC cI a f r ++ (DC cI b f2 r2 ++ (OUT cJ q v ++ MC cI mb (upd g 0 1) nw kp)))) H := hP
  have hD : va_D (lwA s) (XO x0 a b ++ (DC cI a f r ++ (DC cI b f2 r2 ++ (OUT cJ q v ++ MC cI mb (upd g 0 1) nw kp)))) := hD
  refine lv_istore (lv' := [(6, .int 0), (5, .int 1), (4, .int (nI i)), (3, .ref q), (2, .ref (mb 0)), (1, .ref x0), (0, .ref sb)]) hx hb dL_law_1108 hl (by decide) rfl (fun ls hl => ?_)
  refine lv_aload_n hx hb dL_law_1110 rfl (lv_at hl 4 rfl) ?_
  refine wCVi (pre := XO x0 a b ++ (DC cI a f r ++ (DC cI b f2 r2 ++ OUT cJ q v))) (Wc := MC cI mb (upd g 0 1) nw kp) (suf := ([] : va_W)) (As := []) (rest := []) ⟨hx, hb, hml, hown, hts⟩ (mX2_thrown l D cI mb (upd g 0 1) nw kp _ ) hN hA hK1 hS hP hD rfl 0 (r := (RX2, TX2, 7)) rfl rfl (cwV 0 hts gL_law_X2_thrown rfl rfl rfl (by decide +kernel) ⟨Nat.le_of_ble_eq_true rfl, Nat.le_of_ble_eq_true rfl⟩) rfl hl.1 rfl (Nat.le_of_ble_eq_true rfl) dL_law_1111 ⟨by omega, by omega⟩ (fun r_1111 u_1111 H locs hw hP hD hS => ?_)
  have hw : r_1111 = (upd g 0 1) 0 := hw
  subst hw
  have hP : va_P D vwCl (XO x0 a b ++ (DC cI a f r ++ (DC cI b f2 r2 ++ (OUT cJ q v ++ MC cI mb (upd g 0 1) nw kp)))) H := hP
  have hD : va_D (lwA s) (XO x0 a b ++ (DC cI a f r ++ (DC cI b f2 r2 ++ (OUT cJ q v ++ MC cI mb (upd g 0 1) nw kp)))) := hD
  refine wTop (z := 1) (by simp (disch := omega) only [mUp, mUs]) ?_
  refine lv_iload hx hb dL_law_1114 (lv_at hl 1 rfl) ?_
  refine lv_icmp_eq (tgt := 1121) hx hb dL_law_1116 (by decide) (fun c_1116 => ?_) (fun h9 => absurd (by decide) h9)
  refine lv_iload hx hb dL_law_1121 (lv_at hl 1 rfl) ?_
  refine lv_if_ne (tgt := 1138) hx hb dL_law_1123 (by decide) (fun c_1123 => ?_) (fun h9 => absurd h9 (by decide))
  refine lv_goto (tgt := 1548) hx hb dL_law_1138 (by decide) ?_
  exact W.widen (k := cells + 1) (n := slots + 11) (by omega) (by omega) (kk _ _ _ _ _ _ _ _ (by simp (disch := omega) only [mUp, mUs]) (by simp (disch := omega) only [mUp, mUs]) hP hD hS (lv_sub hl [2, 3, 4, 5, 6] rfl))
set_option maxRecDepth 100000 in
set_option maxHeartbeats 4000000 in
theorem lc_caughtBy2 {p : Program} {l : Launch} {e : Env} {s : State} {m : MethodId} {args : Array Value} {below : List Frame} {meth : Method} {c : Code} {D : va_G} {cI cJ : ClassId} {sb LN : Nat} {xs : Nat → Int32} {H : Heap} {locs : List Loc} {cells slots : Nat} {Q : State → Prop} {ls : Array Slot} (E9 : lawE p l s m args c D cI cJ sb LN xs) (x0 : Nat) (a b : Nat → Nat) (f f2 : Nat → Int32) (r r2 : Nat → Nat → Int32) (q : Nat) (v : Nat → Int64) (mb : Nat → Nat) (g nw kp : Nat → Int32) (i : Nat) (hi : i + 2 < LN) (hcc : cells + 1 ≤ room_1.cells) (hss : slots + 11 ≤ room_1.slots) (hl : lv_has ls 9 [(4, .int (nI i)), (3, .ref q), (2, .ref (mb 0)), (1, .ref x0), (0, .ref sb)]) (hP : va_P D vwCl (XO x0 a b ++ (DC cI a f r ++ (DC cI b f2 r2 ++ (OUT cJ q v ++ MC cI mb g nw kp)))) H) (hD : va_D (lwA s) (XO x0 a b ++ (DC cI a f r ++ (DC cI b f2 r2 ++ (OUT cJ q v ++ MC cI mb g nw kp))))) (hS : va_S (lwA s) s.heap H locs) (gg : Nat) (x : Nat) (y : Int32) (hx1 : xs (i + 1) = nI x) (hx2 : xs (i + 2) = y) (hg : f 0 = nI gg) (hg2 : gg ≤ 10) (hg0 : 0 < gg) (ux : x < gg) (hbad : y < 0 ∨ f 0 ≤ y) (hgm : g 1 = nI gg) (hbadm : ¬ (0 ≤ (nI x) ∧ (nI x) < nI gg) ∨ ¬ (0 ≤ y ∧ y < nI gg))
    (kk : ∀ (f9 : Nat → Int32) (r9 : Nat → Nat → Int32) (v9 : Nat → Int64) (g9 kp9 : Nat → Int32) (H1 : Heap) (locs1 : List Loc) (ls1 : Array Slot), g9 1 = g 1 → g9 2 = g 2 → va_P D vwCl (XO x0 a b ++ (DC cI a f r ++ (DC cI b f9 r9 ++ (OUT cJ q v9 ++ MC cI mb g9 nw kp9)))) H1 → va_D (lwA s) (XO x0 a b ++ (DC cI a f r ++ (DC cI b f9 r9 ++ (OUT cJ q v9 ++ MC cI mb g9 nw kp9)))) → va_S (lwA s) s.heap H1 locs1 → lv_has ls1 9 [(4, .int (nI i)), (3, .ref q), (2, .ref (mb 0)), (1, .ref x0), (0, .ref sb)] → W p l e room_1 s m args below meth c H1 locs1 (cells + 1) (slots + 11) Q (F0 m 1548 ls1 [])) : W p l e room_1 s m args below meth c H locs cells slots Q (F0 m 1073 ls []) := by
  obtain ⟨⟨hx, hb, hml, hown, hts⟩, hN, hE, hZ, hK, hX, hbl, hlt, hLN⟩ := E9
  have hA : ∀ q : Nat, s.heap.size ≤ q → lwA s q := fun _ h => h
  have hK1 : va_K D vwCl [(cI, .int)] s := hK.sub [0] rfl
  refine lv_aload_n hx hb dL_law_1073 rfl (lv_at hl 3 rfl) ?_
  refine lv_aload_n hx hb dL_law_1074 rfl (lv_at hl 4 rfl) ?_
  refine lv_iload hx hb dL_law_1075 (lv_at hl 0 rfl) ?_
  refine lv_iconst (v := 1) hx hb dL_law_1077 (by decide) ?_
  refine lv_iadd hx hb dL_law_1078 ?_
  refine wTop (z := nI (i + 1)) (nI_add i 1) ?_
  refine wSld hx hb hX hbl hS (i + 1) (by omega) hLN hx1 dL_law_1079 ?_
  refine lv_aload_n hx hb dL_law_1080 rfl (lv_at hl 4 rfl) ?_
  refine lv_iload hx hb dL_law_1081 (lv_at hl 0 rfl) ?_
  refine lv_iconst (v := 2) hx hb dL_law_1083 (by decide) ?_
  refine lv_iadd hx hb dL_law_1084 ?_
  refine wTop (z := nI (i + 2)) (nI_add i 2) ?_
  refine wSld hx hb hX hbl hS (i + 2) (by omega) hLN hx2 dL_law_1085 ?_
  refine lv_aload_n hx hb dL_law_1086 rfl (lv_at hl 1 rfl) ?_
  refine wLW (pre := ([] : va_W)) (Wc := XO x0 a b ++ (DC cI a f r ++ (DC cI b f2 r2 ++ OUT cJ q v))) (suf := MC cI mb g nw kp) (As := [.ref x0, .int (nI x), .int y, .ref q]) (rest := []) ⟨hx, hb, hml, hown, hts⟩ (mL_caughtBy2 l D cI cJ x0 a b f f2 r r2 q v gg x y _ hlt hg hg2 hg0 ux hbad) hN hE hZ hA hK hS hP hD rfl (vx_cwSW 4 hts gL_law_L_caughtBy rfl rfl rfl (by decide +kernel) ⟨Nat.le_of_ble_eq_true rfl, Nat.le_of_ble_eq_true rfl⟩) rfl hl.1 rfl (Nat.le_of_ble_eq_true rfl) dL_law_1087 ⟨by omega, by omega⟩ (fun r_1087 u_1087 H locs hw hP hD hS => ?_)
  have hw : r_1087 = 1 := hw
  subst hw
  have hP : va_P D vwCl (XO x0 a b ++ (DC cI a f r ++ (DC cI b f2 r2 ++ (OUT cJ q v ++ MC cI mb g nw kp)))) H := hP
  have hD : va_D (lwA s) (XO x0 a b ++ (DC cI a f r ++ (DC cI b f2 r2 ++ (OUT cJ q v ++ MC cI mb g nw kp)))) := hD
  refine lv_istore (lv' := [(5, .int 1), (4, .int (nI i)), (3, .ref q), (2, .ref (mb 0)), (1, .ref x0), (0, .ref sb)]) hx hb dL_law_1090 hl (by decide) rfl (fun ls hl => ?_)
  refine lv_aload_n hx hb dL_law_1092 rfl (lv_at hl 3 rfl) ?_
  refine lv_aload_n hx hb dL_law_1093 rfl (lv_at hl 5 rfl) ?_
  refine lv_iload hx hb dL_law_1094 (lv_at hl 1 rfl) ?_
  refine lv_iconst (v := 1) hx hb dL_law_1096 (by decide) ?_
  refine lv_iadd hx hb dL_law_1097 ?_
  refine wTop (z := nI (i + 1)) (nI_add i 1) ?_
  refine wSld hx hb hX hbl hS (i + 1) (by omega) hLN hx1 dL_law_1098 ?_
  refine lv_aload_n hx hb dL_law_1099 rfl (lv_at hl 5 rfl) ?_
  refine lv_iload hx hb dL_law_1100 (lv_at hl 1 rfl) ?_
  refine lv_iconst (v := 2) hx hb dL_law_1102 (by decide) ?_
  refine lv_iadd hx hb dL_law_1103 ?_
  refine wTop (z := nI (i + 2)) (nI_add i 2) ?_
  refine wSld hx hb hX hbl hS (i + 2) (by omega) hLN hx2 dL_law_1104 ?_
  refine wCVi (pre := XO x0 a b ++ (DC cI a f r ++ (DC cI b f2 r2 ++ OUT cJ q v))) (Wc := MC cI mb g nw kp) (suf := ([] : va_W)) (As := [.int (nI x), .int y]) (rest := []) ⟨hx, hb, hml, hown, hts⟩ (mX2_caughtBy1 l D cI mb g nw kp gg (nI x) y _ hgm hg2 hg0 hbadm) hN hA hK1 hS hP hD rfl 0 (r := (RX2, TX2, 7)) rfl rfl (cwV 2 hts gL_law_X2_caughtBy rfl rfl rfl (by decide +kernel) ⟨Nat.le_of_ble_eq_true rfl, Nat.le_of_ble_eq_true rfl⟩) rfl hl.1 rfl (Nat.le_of_ble_eq_true rfl) dL_law_1105 ⟨by omega, by omega⟩ (fun r_1105 u_1105 H locs hw hP hD hS => ?_)
  have hw : r_1105 = 0 := hw
  subst hw
  have hP : va_P D vwCl (XO x0 a b ++ (DC cI a f r ++ (DC cI b f2 r2 ++ (OUT cJ q v ++ MC cI mb (upd g 0 1) nw kp)))) H := hP
  have hD : va_D (lwA s) (XO x0 a b ++ (DC cI a f r ++ (DC cI b f2 r2 ++ (OUT cJ q v ++ MC cI mb (upd g 0 1) nw kp)))) := hD
  refine lv_istore (lv' := [(6, .int 0), (5, .int 1), (4, .int (nI i)), (3, .ref q), (2, .ref (mb 0)), (1, .ref x0), (0, .ref sb)]) hx hb dL_law_1108 hl (by decide) rfl (fun ls hl => ?_)
  refine lv_aload_n hx hb dL_law_1110 rfl (lv_at hl 4 rfl) ?_
  refine wCVi (pre := XO x0 a b ++ (DC cI a f r ++ (DC cI b f2 r2 ++ OUT cJ q v))) (Wc := MC cI mb (upd g 0 1) nw kp) (suf := ([] : va_W)) (As := []) (rest := []) ⟨hx, hb, hml, hown, hts⟩ (mX2_thrown l D cI mb (upd g 0 1) nw kp _ ) hN hA hK1 hS hP hD rfl 0 (r := (RX2, TX2, 7)) rfl rfl (cwV 0 hts gL_law_X2_thrown rfl rfl rfl (by decide +kernel) ⟨Nat.le_of_ble_eq_true rfl, Nat.le_of_ble_eq_true rfl⟩) rfl hl.1 rfl (Nat.le_of_ble_eq_true rfl) dL_law_1111 ⟨by omega, by omega⟩ (fun r_1111 u_1111 H locs hw hP hD hS => ?_)
  have hw : r_1111 = (upd g 0 1) 0 := hw
  subst hw
  have hP : va_P D vwCl (XO x0 a b ++ (DC cI a f r ++ (DC cI b f2 r2 ++ (OUT cJ q v ++ MC cI mb (upd g 0 1) nw kp)))) H := hP
  have hD : va_D (lwA s) (XO x0 a b ++ (DC cI a f r ++ (DC cI b f2 r2 ++ (OUT cJ q v ++ MC cI mb (upd g 0 1) nw kp)))) := hD
  refine wTop (z := 1) (by simp (disch := omega) only [mUp, mUs]) ?_
  refine lv_iload hx hb dL_law_1114 (lv_at hl 1 rfl) ?_
  refine lv_icmp_eq (tgt := 1121) hx hb dL_law_1116 (by decide) (fun c_1116 => ?_) (fun h9 => absurd (by decide) h9)
  refine lv_iload hx hb dL_law_1121 (lv_at hl 1 rfl) ?_
  refine lv_if_ne (tgt := 1138) hx hb dL_law_1123 (by decide) (fun c_1123 => ?_) (fun h9 => absurd h9 (by decide))
  refine lv_goto (tgt := 1548) hx hb dL_law_1138 (by decide) ?_
  exact W.widen (k := cells + 1) (n := slots + 11) (by omega) (by omega) (kk _ _ _ _ _ _ _ _ (by simp (disch := omega) only [mUp, mUs]) (by simp (disch := omega) only [mUp, mUs]) hP hD hS (lv_sub hl [2, 3, 4, 5, 6] rfl))
set_option maxRecDepth 100000 in
set_option maxHeartbeats 4000000 in
theorem lc_allUnsaidIn {p : Program} {l : Launch} {e : Env} {s : State} {m : MethodId} {args : Array Value} {below : List Frame} {meth : Method} {c : Code} {D : va_G} {cI cJ : ClassId} {sb LN : Nat} {xs : Nat → Int32} {H : Heap} {locs : List Loc} {cells slots : Nat} {Q : State → Prop} {ls : Array Slot} (E9 : lawE p l s m args c D cI cJ sb LN xs) (x0 : Nat) (a b : Nat → Nat) (f f2 : Nat → Int32) (r r2 : Nat → Nat → Int32) (q : Nat) (v : Nat → Int64) (mb : Nat → Nat) (g nw kp : Nat → Int32) (i : Nat) (hi : i + 2 < LN) (hcc : cells + 1 ≤ room_1.cells) (hss : slots + 11 ≤ room_1.slots) (hl : lv_has ls 9 [(4, .int (nI i)), (3, .ref q), (2, .ref (mb 0)), (1, .ref x0), (0, .ref sb)]) (hP : va_P D vwCl (XO x0 a b ++ (DC cI a f r ++ (DC cI b f2 r2 ++ (OUT cJ q v ++ MC cI mb g nw kp)))) H) (hD : va_D (lwA s) (XO x0 a b ++ (DC cI a f r ++ (DC cI b f2 r2 ++ (OUT cJ q v ++ MC cI mb g nw kp))))) (hS : va_S (lwA s) s.heap H locs) (gg : Nat) (n : Nat) (L : List Nat) (li : Nat) (hx1 : xs (i + 1) = nI n) (hg : f 0 = nI gg) (hg2 : gg ≤ 10) (hg0 : 0 < gg) (n1 : 1 ≤ n) (n2 : n ≤ 120) (hk : ∀ i, i < n → dOk (dGo (f, r) L i).1.1 (dGo (f, r) L i).1.2 (dGo (f, r) L i).2) (hg9 : (dGo (f, r) L n).1.1 0 = nI gg) (hans : (mSum (mSecs (g 5) (g 2) (nw, g 6) n).1 gg : Int32) = dSum ((dGo (f, r) L n).1.2 3) gg + (dGo (f, r) L n).1.1 6) (hgm : g 1 = nI gg) (hl0 : g 2 = nI li) (hl1 : 0 < li) (hl2 : li ≤ 30) (hs : ∀ i, i < n → mOk (mSecs (g 5) (g 2) (nw, g 6) i).1)
    (kk : ∀ (f9 : Nat → Int32) (r9 : Nat → Nat → Int32) (v9 : Nat → Int64) (g9 kp9 : Nat → Int32) (H1 : Heap) (locs1 : List Loc) (ls1 : Array Slot), g9 1 = g 1 → g9 2 = g 2 → va_P D vwCl (XO x0 a b ++ (DC cI a f r ++ (DC cI b f9 r9 ++ (OUT cJ q v9 ++ MC cI mb g9 nw kp9)))) H1 → va_D (lwA s) (XO x0 a b ++ (DC cI a f r ++ (DC cI b f9 r9 ++ (OUT cJ q v9 ++ MC cI mb g9 nw kp9)))) → va_S (lwA s) s.heap H1 locs1 → lv_has ls1 9 [(4, .int (nI i)), (3, .ref q), (2, .ref (mb 0)), (1, .ref x0), (0, .ref sb)] → W p l e room_1 s m args below meth c H1 locs1 (cells + 1) (slots + 11) Q (F0 m 1548 ls1 [])) : W p l e room_1 s m args below meth c H locs cells slots Q (F0 m 1232 ls []) := by
  obtain ⟨⟨hx, hb, hml, hown, hts⟩, hN, hE, hZ, hK, hX, hbl, hlt, hLN⟩ := E9
  have hA : ∀ q : Nat, s.heap.size ≤ q → lwA s q := fun _ h => h
  have hK1 : va_K D vwCl [(cI, .int)] s := hK.sub [0] rfl
  refine lv_aload_n hx hb dL_law_1232 rfl (lv_at hl 3 rfl) ?_
  refine lv_aload_n hx hb dL_law_1233 rfl (lv_at hl 4 rfl) ?_
  refine lv_iload hx hb dL_law_1234 (lv_at hl 0 rfl) ?_
  refine lv_iconst (v := 1) hx hb dL_law_1236 (by decide) ?_
  refine lv_iadd hx hb dL_law_1237 ?_
  refine wTop (z := nI (i + 1)) (nI_add i 1) ?_
  refine wSld hx hb hX hbl hS (i + 1) (by omega) hLN hx1 dL_law_1238 ?_
  refine lv_aload_n hx hb dL_law_1239 rfl (lv_at hl 1 rfl) ?_
  refine wLW (pre := ([] : va_W)) (Wc := XO x0 a b ++ (DC cI a f r ++ (DC cI b f2 r2 ++ OUT cJ q v))) (suf := MC cI mb g nw kp) (As := [.ref x0, .int (nI n), .ref q]) (rest := []) ⟨hx, hb, hml, hown, hts⟩ (mL_allUnsaidIn l D cI cJ x0 a b f f2 r r2 q v gg n L _ hg hg2 hg0 n1 n2 hk hg9) hN hE hZ hA hK hS hP hD rfl (vx_cwSW 3 hts gL_law_L_allUnsaidIn rfl rfl rfl (by decide +kernel) ⟨Nat.le_of_ble_eq_true rfl, Nat.le_of_ble_eq_true rfl⟩) rfl hl.1 rfl (Nat.le_of_ble_eq_true rfl) dL_law_1240 ⟨by omega, by omega⟩ (fun r_1240 u_1240 H locs hw hP hD hS => ?_)
  have hw : r_1240 = 0 := hw
  subst hw
  have hP : va_P D vwCl (XO x0 a b ++ (DC cI a f r ++ (DC cI b (dGo (f, r) L n).1.1 (dGo (f, r) L n).1.2 ++ (OUT cJ q (vp_updL v 0 ((dSum ((dGo (f, r) L n).1.2 3) gg + (dGo (f, r) L n).1.1 6).toInt64)) ++ MC cI mb g nw kp)))) H := hP
  have hD : va_D (lwA s) (XO x0 a b ++ (DC cI a f r ++ (DC cI b (dGo (f, r) L n).1.1 (dGo (f, r) L n).1.2 ++ (OUT cJ q (vp_updL v 0 ((dSum ((dGo (f, r) L n).1.2 3) gg + (dGo (f, r) L n).1.1 6).toInt64)) ++ MC cI mb g nw kp)))) := hD
  refine lv_istore (lv' := [(5, .int 0), (4, .int (nI i)), (3, .ref q), (2, .ref (mb 0)), (1, .ref x0), (0, .ref sb)]) hx hb dL_law_1243 hl (by decide) rfl (fun ls hl => ?_)
  refine lv_aload_n hx hb dL_law_1245 rfl (lv_at hl 3 rfl) ?_
  refine lv_aload_n hx hb dL_law_1246 rfl (lv_at hl 5 rfl) ?_
  refine lv_iload hx hb dL_law_1247 (lv_at hl 1 rfl) ?_
  refine lv_iconst (v := 1) hx hb dL_law_1249 (by decide) ?_
  refine lv_iadd hx hb dL_law_1250 ?_
  refine wTop (z := nI (i + 1)) (nI_add i 1) ?_
  refine wSld hx hb hX hbl hS (i + 1) (by omega) hLN hx1 dL_law_1251 ?_
  refine wCVi (pre := XO x0 a b ++ (DC cI a f r ++ (DC cI b (dGo (f, r) L n).1.1 (dGo (f, r) L n).1.2 ++ OUT cJ q (vp_updL v 0 ((dSum ((dGo (f, r) L n).1.2 3) gg + (dGo (f, r) L n).1.1 6).toInt64))))) (Wc := MC cI mb g nw kp) (suf := ([] : va_W)) (As := [.int (nI n)]) (rest := []) ⟨hx, hb, hml, hown, hts⟩ (mX2_allUnsaidIn l D cI mb g nw kp gg li n _ hgm hg2 hg0 hl0 hl1 hl2 n1 n2 hs) hN hA hK1 hS hP hD rfl 0 (r := (RX2, TX2, 7)) rfl rfl (cwV 1 hts gL_law_X2_allUnsaidIn rfl rfl rfl (by decide +kernel) ⟨Nat.le_of_ble_eq_true rfl, Nat.le_of_ble_eq_true rfl⟩) rfl hl.1 rfl (Nat.le_of_ble_eq_true rfl) dL_law_1252 ⟨by omega, by omega⟩ (fun r_1252 u_1252 H locs hw hP hD hS => ?_)
  have hw : r_1252 = mSum (mSecs (g 5) (g 2) (nw, g 6) n).1 gg := hw
  subst hw
  have hP : va_P D vwCl (XO x0 a b ++ (DC cI a f r ++ (DC cI b (dGo (f, r) L n).1.1 (dGo (f, r) L n).1.2 ++ (OUT cJ q (vp_updL v 0 ((dSum ((dGo (f, r) L n).1.2 3) gg + (dGo (f, r) L n).1.1 6).toInt64)) ++ MC cI mb (upd (upd g 0 0) 6 u_1252) nw nw)))) H := hP
  have hD : va_D (lwA s) (XO x0 a b ++ (DC cI a f r ++ (DC cI b (dGo (f, r) L n).1.1 (dGo (f, r) L n).1.2 ++ (OUT cJ q (vp_updL v 0 ((dSum ((dGo (f, r) L n).1.2 3) gg + (dGo (f, r) L n).1.1 6).toInt64)) ++ MC cI mb (upd (upd g 0 0) 6 u_1252) nw nw)))) := hD
  refine wTop (z := (dSum ((dGo (f, r) L n).1.2 3) gg + (dGo (f, r) L n).1.1 6)) (hans) ?_
  refine lv_istore (lv' := [(6, .int (dSum ((dGo (f, r) L n).1.2 3) gg + (dGo (f, r) L n).1.1 6)), (5, .int 0), (4, .int (nI i)), (3, .ref q), (2, .ref (mb 0)), (1, .ref x0), (0, .ref sb)]) hx hb dL_law_1255 hl (by decide) rfl (fun ls hl => ?_)
  refine lv_aload_n hx hb dL_law_1257 rfl (lv_at hl 4 rfl) ?_
  refine wCVi (pre := XO x0 a b ++ (DC cI a f r ++ (DC cI b (dGo (f, r) L n).1.1 (dGo (f, r) L n).1.2 ++ OUT cJ q (vp_updL v 0 ((dSum ((dGo (f, r) L n).1.2 3) gg + (dGo (f, r) L n).1.1 6).toInt64))))) (Wc := MC cI mb (upd (upd g 0 0) 6 u_1252) nw nw) (suf := ([] : va_W)) (As := []) (rest := []) ⟨hx, hb, hml, hown, hts⟩ (mX2_thrown l D cI mb (upd (upd g 0 0) 6 u_1252) nw nw _ ) hN hA hK1 hS hP hD rfl 0 (r := (RX2, TX2, 7)) rfl rfl (cwV 0 hts gL_law_X2_thrown rfl rfl rfl (by decide +kernel) ⟨Nat.le_of_ble_eq_true rfl, Nat.le_of_ble_eq_true rfl⟩) rfl hl.1 rfl (Nat.le_of_ble_eq_true rfl) dL_law_1258 ⟨by omega, by omega⟩ (fun r_1258 u_1258 H locs hw hP hD hS => ?_)
  have hw : r_1258 = (upd (upd g 0 0) 6 u_1252) 0 := hw
  subst hw
  have hP : va_P D vwCl (XO x0 a b ++ (DC cI a f r ++ (DC cI b (dGo (f, r) L n).1.1 (dGo (f, r) L n).1.2 ++ (OUT cJ q (vp_updL v 0 ((dSum ((dGo (f, r) L n).1.2 3) gg + (dGo (f, r) L n).1.1 6).toInt64)) ++ MC cI mb (upd (upd g 0 0) 6 u_1252) nw nw)))) H := hP
  have hD : va_D (lwA s) (XO x0 a b ++ (DC cI a f r ++ (DC cI b (dGo (f, r) L n).1.1 (dGo (f, r) L n).1.2 ++ (OUT cJ q (vp_updL v 0 ((dSum ((dGo (f, r) L n).1.2 3) gg + (dGo (f, r) L n).1.1 6).toInt64)) ++ MC cI mb (upd (upd g 0 0) 6 u_1252) nw nw)))) := hD
  refine wTop (z := 0) (by simp (disch := omega) only [mUp, mUs]) ?_
  refine lv_iload hx hb dL_law_1261 (lv_at hl 1 rfl) ?_
  refine lv_icmp_eq (tgt := 1268) hx hb dL_law_1263 (by decide) (fun c_1263 => ?_) (fun h9 => absurd (by decide) h9)
  refine lv_iload hx hb dL_law_1268 (lv_at hl 1 rfl) ?_
  refine lv_if_ne (tgt := 1285) hx hb dL_law_1270 (by decide) (fun h9 => absurd (by decide) h9) (fun c_1270 => ?_)
  refine lv_aload_n hx hb dL_law_1273 rfl (lv_at hl 3 rfl) ?_
  refine lv_iconst (v := 0) hx hb dL_law_1274 (by decide) ?_
  refine wLald hx hb hK hP 17 1 rfl rfl (z := ((dSum ((dGo (f, r) L n).1.2 3) gg + (dGo (f, r) L n).1.1 6).toInt64)) (pk_uLs) dL_law_1275 ?_
  refine lv_iload hx hb dL_law_1276 (lv_at hl 0 rfl) ?_
  refine lv_i2l hx hb dL_law_1278 rfl ?_
  refine W.lcmp hx hb dL_law_1279 ?_
  refine wTop (z := 0) (lcmp_self _) ?_
  refine lv_if_eq (tgt := 1285) hx hb dL_law_1280 (by decide) (fun c_1280 => ?_) (fun h9 => absurd (by decide) h9)
  refine lv_goto (tgt := 1548) hx hb dL_law_1285 (by decide) ?_
  exact W.widen (k := cells + 1) (n := slots + 11) (by omega) (by omega) (kk _ _ _ _ _ _ _ _ (by simp (disch := omega) only [mUp, mUs]) (by simp (disch := omega) only [mUp, mUs]) hP hD hS (lv_sub hl [2, 3, 4, 5, 6] rfl))
set_option maxRecDepth 100000 in
set_option maxHeartbeats 4000000 in
theorem lc_allUnsaidIn1 {p : Program} {l : Launch} {e : Env} {s : State} {m : MethodId} {args : Array Value} {below : List Frame} {meth : Method} {c : Code} {D : va_G} {cI cJ : ClassId} {sb LN : Nat} {xs : Nat → Int32} {H : Heap} {locs : List Loc} {cells slots : Nat} {Q : State → Prop} {ls : Array Slot} (E9 : lawE p l s m args c D cI cJ sb LN xs) (x0 : Nat) (a b : Nat → Nat) (f f2 : Nat → Int32) (r r2 : Nat → Nat → Int32) (q : Nat) (v : Nat → Int64) (mb : Nat → Nat) (g nw kp : Nat → Int32) (i : Nat) (hi : i + 2 < LN) (hcc : cells + 1 ≤ room_1.cells) (hss : slots + 11 ≤ room_1.slots) (hl : lv_has ls 9 [(4, .int (nI i)), (3, .ref q), (2, .ref (mb 0)), (1, .ref x0), (0, .ref sb)]) (hP : va_P D vwCl (XO x0 a b ++ (DC cI a f r ++ (DC cI b f2 r2 ++ (OUT cJ q v ++ MC cI mb g nw kp)))) H) (hD : va_D (lwA s) (XO x0 a b ++ (DC cI a f r ++ (DC cI b f2 r2 ++ (OUT cJ q v ++ MC cI mb g nw kp))))) (hS : va_S (lwA s) s.heap H locs) (w : Int32) (hx1 : xs (i + 1) = w) (hbad : w < 1 ∨ 120 < w) (hbadm : ¬ (1 ≤ w ∧ w ≤ 120))
    (kk : ∀ (f9 : Nat → Int32) (r9 : Nat → Nat → Int32) (v9 : Nat → Int64) (g9 kp9 : Nat → Int32) (H1 : Heap) (locs1 : List Loc) (ls1 : Array Slot), g9 1 = g 1 → g9 2 = g 2 → va_P D vwCl (XO x0 a b ++ (DC cI a f r ++ (DC cI b f9 r9 ++ (OUT cJ q v9 ++ MC cI mb g9 nw kp9)))) H1 → va_D (lwA s) (XO x0 a b ++ (DC cI a f r ++ (DC cI b f9 r9 ++ (OUT cJ q v9 ++ MC cI mb g9 nw kp9)))) → va_S (lwA s) s.heap H1 locs1 → lv_has ls1 9 [(4, .int (nI i)), (3, .ref q), (2, .ref (mb 0)), (1, .ref x0), (0, .ref sb)] → W p l e room_1 s m args below meth c H1 locs1 (cells + 1) (slots + 11) Q (F0 m 1548 ls1 [])) : W p l e room_1 s m args below meth c H locs cells slots Q (F0 m 1232 ls []) := by
  obtain ⟨⟨hx, hb, hml, hown, hts⟩, hN, hE, hZ, hK, hX, hbl, hlt, hLN⟩ := E9
  have hA : ∀ q : Nat, s.heap.size ≤ q → lwA s q := fun _ h => h
  have hK1 : va_K D vwCl [(cI, .int)] s := hK.sub [0] rfl
  refine lv_aload_n hx hb dL_law_1232 rfl (lv_at hl 3 rfl) ?_
  refine lv_aload_n hx hb dL_law_1233 rfl (lv_at hl 4 rfl) ?_
  refine lv_iload hx hb dL_law_1234 (lv_at hl 0 rfl) ?_
  refine lv_iconst (v := 1) hx hb dL_law_1236 (by decide) ?_
  refine lv_iadd hx hb dL_law_1237 ?_
  refine wTop (z := nI (i + 1)) (nI_add i 1) ?_
  refine wSld hx hb hX hbl hS (i + 1) (by omega) hLN hx1 dL_law_1238 ?_
  refine lv_aload_n hx hb dL_law_1239 rfl (lv_at hl 1 rfl) ?_
  refine wLW (pre := ([] : va_W)) (Wc := XO x0 a b ++ (DC cI a f r ++ (DC cI b f2 r2 ++ OUT cJ q v))) (suf := MC cI mb g nw kp) (As := [.ref x0, .int w, .ref q]) (rest := []) ⟨hx, hb, hml, hown, hts⟩ (mL_allUnsaidIn1 l D cI cJ x0 a b f f2 r r2 q v w _ hlt hbad) hN hE hZ hA hK hS hP hD rfl (vx_cwSW 3 hts gL_law_L_allUnsaidIn rfl rfl rfl (by decide +kernel) ⟨Nat.le_of_ble_eq_true rfl, Nat.le_of_ble_eq_true rfl⟩) rfl hl.1 rfl (Nat.le_of_ble_eq_true rfl) dL_law_1240 ⟨by omega, by omega⟩ (fun r_1240 u_1240 H locs hw hP hD hS => ?_)
  have hw : r_1240 = 1 := hw
  subst hw
  have hP : va_P D vwCl (XO x0 a b ++ (DC cI a f r ++ (DC cI b f2 r2 ++ (OUT cJ q v ++ MC cI mb g nw kp)))) H := hP
  have hD : va_D (lwA s) (XO x0 a b ++ (DC cI a f r ++ (DC cI b f2 r2 ++ (OUT cJ q v ++ MC cI mb g nw kp)))) := hD
  refine lv_istore (lv' := [(5, .int 1), (4, .int (nI i)), (3, .ref q), (2, .ref (mb 0)), (1, .ref x0), (0, .ref sb)]) hx hb dL_law_1243 hl (by decide) rfl (fun ls hl => ?_)
  refine lv_aload_n hx hb dL_law_1245 rfl (lv_at hl 3 rfl) ?_
  refine lv_aload_n hx hb dL_law_1246 rfl (lv_at hl 5 rfl) ?_
  refine lv_iload hx hb dL_law_1247 (lv_at hl 1 rfl) ?_
  refine lv_iconst (v := 1) hx hb dL_law_1249 (by decide) ?_
  refine lv_iadd hx hb dL_law_1250 ?_
  refine wTop (z := nI (i + 1)) (nI_add i 1) ?_
  refine wSld hx hb hX hbl hS (i + 1) (by omega) hLN hx1 dL_law_1251 ?_
  refine wCVi (pre := XO x0 a b ++ (DC cI a f r ++ (DC cI b f2 r2 ++ OUT cJ q v))) (Wc := MC cI mb g nw kp) (suf := ([] : va_W)) (As := [.int w]) (rest := []) ⟨hx, hb, hml, hown, hts⟩ (mX2_allUnsaidIn1 l D cI mb g nw kp w _ hbadm) hN hA hK1 hS hP hD rfl 0 (r := (RX2, TX2, 7)) rfl rfl (cwV 1 hts gL_law_X2_allUnsaidIn rfl rfl rfl (by decide +kernel) ⟨Nat.le_of_ble_eq_true rfl, Nat.le_of_ble_eq_true rfl⟩) rfl hl.1 rfl (Nat.le_of_ble_eq_true rfl) dL_law_1252 ⟨by omega, by omega⟩ (fun r_1252 u_1252 H locs hw hP hD hS => ?_)
  have hw : r_1252 = 0 := hw
  subst hw
  have hP : va_P D vwCl (XO x0 a b ++ (DC cI a f r ++ (DC cI b f2 r2 ++ (OUT cJ q v ++ MC cI mb (upd g 0 1) nw kp)))) H := hP
  have hD : va_D (lwA s) (XO x0 a b ++ (DC cI a f r ++ (DC cI b f2 r2 ++ (OUT cJ q v ++ MC cI mb (upd g 0 1) nw kp)))) := hD
  refine lv_istore (lv' := [(6, .int 0), (5, .int 1), (4, .int (nI i)), (3, .ref q), (2, .ref (mb 0)), (1, .ref x0), (0, .ref sb)]) hx hb dL_law_1255 hl (by decide) rfl (fun ls hl => ?_)
  refine lv_aload_n hx hb dL_law_1257 rfl (lv_at hl 4 rfl) ?_
  refine wCVi (pre := XO x0 a b ++ (DC cI a f r ++ (DC cI b f2 r2 ++ OUT cJ q v))) (Wc := MC cI mb (upd g 0 1) nw kp) (suf := ([] : va_W)) (As := []) (rest := []) ⟨hx, hb, hml, hown, hts⟩ (mX2_thrown l D cI mb (upd g 0 1) nw kp _ ) hN hA hK1 hS hP hD rfl 0 (r := (RX2, TX2, 7)) rfl rfl (cwV 0 hts gL_law_X2_thrown rfl rfl rfl (by decide +kernel) ⟨Nat.le_of_ble_eq_true rfl, Nat.le_of_ble_eq_true rfl⟩) rfl hl.1 rfl (Nat.le_of_ble_eq_true rfl) dL_law_1258 ⟨by omega, by omega⟩ (fun r_1258 u_1258 H locs hw hP hD hS => ?_)
  have hw : r_1258 = (upd g 0 1) 0 := hw
  subst hw
  have hP : va_P D vwCl (XO x0 a b ++ (DC cI a f r ++ (DC cI b f2 r2 ++ (OUT cJ q v ++ MC cI mb (upd g 0 1) nw kp)))) H := hP
  have hD : va_D (lwA s) (XO x0 a b ++ (DC cI a f r ++ (DC cI b f2 r2 ++ (OUT cJ q v ++ MC cI mb (upd g 0 1) nw kp)))) := hD
  refine wTop (z := 1) (by simp (disch := omega) only [mUp, mUs]) ?_
  refine lv_iload hx hb dL_law_1261 (lv_at hl 1 rfl) ?_
  refine lv_icmp_eq (tgt := 1268) hx hb dL_law_1263 (by decide) (fun c_1263 => ?_) (fun h9 => absurd (by decide) h9)
  refine lv_iload hx hb dL_law_1268 (lv_at hl 1 rfl) ?_
  refine lv_if_ne (tgt := 1285) hx hb dL_law_1270 (by decide) (fun c_1270 => ?_) (fun h9 => absurd h9 (by decide))
  refine lv_goto (tgt := 1548) hx hb dL_law_1285 (by decide) ?_
  exact W.widen (k := cells + 1) (n := slots + 11) (by omega) (by omega) (kk _ _ _ _ _ _ _ _ (by simp (disch := omega) only [mUp, mUs]) (by simp (disch := omega) only [mUp, mUs]) hP hD hS (lv_sub hl [2, 3, 4, 5, 6] rfl))
set_option maxRecDepth 100000 in
set_option maxHeartbeats 4000000 in
theorem lc_wouldLeave {p : Program} {l : Launch} {e : Env} {s : State} {m : MethodId} {args : Array Value} {below : List Frame} {meth : Method} {c : Code} {D : va_G} {cI cJ : ClassId} {sb LN : Nat} {xs : Nat → Int32} {H : Heap} {locs : List Loc} {cells slots : Nat} {Q : State → Prop} {ls : Array Slot} (E9 : lawE p l s m args c D cI cJ sb LN xs) (x0 : Nat) (a b : Nat → Nat) (f f2 : Nat → Int32) (r r2 : Nat → Nat → Int32) (q : Nat) (v : Nat → Int64) (mb : Nat → Nat) (g nw kp : Nat → Int32) (i : Nat) (hi : i + 2 < LN) (hcc : cells + 1 ≤ room_1.cells) (hss : slots + 11 ≤ room_1.slots) (hl : lv_has ls 9 [(4, .int (nI i)), (3, .ref q), (2, .ref (mb 0)), (1, .ref x0), (0, .ref sb)]) (hP : va_P D vwCl (XO x0 a b ++ (DC cI a f r ++ (DC cI b f2 r2 ++ (OUT cJ q v ++ MC cI mb g nw kp)))) H) (hD : va_D (lwA s) (XO x0 a b ++ (DC cI a f r ++ (DC cI b f2 r2 ++ (OUT cJ q v ++ MC cI mb g nw kp))))) (hS : va_S (lwA s) s.heap H locs) (gg : Nat) (x : Nat) (y : Nat) (li : Nat) (t : Nat) (hx1 : xs (i + 1) = nI x) (hx2 : xs (i + 2) = nI y) (hg : f 0 = nI gg) (hg2 : gg ≤ 10) (hg0 : 0 < gg) (ux : x < gg) (uy : y < gg) (hne : ¬ nI x = nI y) (hfree : r 4 (x * 10 + y) = -1) (hans : ((mSecs (nI (10 * x + y)) (g 2) (mSend (g 1) nw x y, g 6) t).2 : Int32) = dFate f (r 4) x y 0) (hgm : g 1 = nI gg) (hl0 : g 2 = nI li) (hl1 : 0 < li) (hl2 : li ≤ 30) (hcode : mCode nw x y = 0) (h1 : ∀ i, i < t → 0 < (mSecs (nI (10 * x + y)) (g 2) (mSend (g 1) nw x y, g 6) i).1 (148 + (10 * x + y)) ∧ mOk (mSecs (nI (10 * x + y)) (g 2) (mSend (g 1) nw x y, g 6) i).1) (h2 : ¬ 0 < (mSecs (nI (10 * x + y)) (g 2) (mSend (g 1) nw x y, g 6) t).1 (148 + (10 * x + y)))
    (kk : ∀ (f9 : Nat → Int32) (r9 : Nat → Nat → Int32) (v9 : Nat → Int64) (g9 kp9 : Nat → Int32) (H1 : Heap) (locs1 : List Loc) (ls1 : Array Slot), g9 1 = g 1 → g9 2 = g 2 → va_P D vwCl (XO x0 a b ++ (DC cI a f r ++ (DC cI b f9 r9 ++ (OUT cJ q v9 ++ MC cI mb g9 nw kp9)))) H1 → va_D (lwA s) (XO x0 a b ++ (DC cI a f r ++ (DC cI b f9 r9 ++ (OUT cJ q v9 ++ MC cI mb g9 nw kp9)))) → va_S (lwA s) s.heap H1 locs1 → lv_has ls1 9 [(4, .int (nI i)), (3, .ref q), (2, .ref (mb 0)), (1, .ref x0), (0, .ref sb)] → W p l e room_1 s m args below meth c H1 locs1 (cells + 1) (slots + 11) Q (F0 m 1548 ls1 [])) : W p l e room_1 s m args below meth c H locs cells slots Q (F0 m 1301 ls []) := by
  obtain ⟨⟨hx, hb, hml, hown, hts⟩, hN, hE, hZ, hK, hX, hbl, hlt, hLN⟩ := E9
  have hA : ∀ q : Nat, s.heap.size ≤ q → lwA s q := fun _ h => h
  have hK1 : va_K D vwCl [(cI, .int)] s := hK.sub [0] rfl
  refine lv_aload_n hx hb dL_law_1301 rfl (lv_at hl 3 rfl) ?_
  refine lv_aload_n hx hb dL_law_1302 rfl (lv_at hl 4 rfl) ?_
  refine lv_iload hx hb dL_law_1303 (lv_at hl 0 rfl) ?_
  refine lv_iconst (v := 1) hx hb dL_law_1305 (by decide) ?_
  refine lv_iadd hx hb dL_law_1306 ?_
  refine wTop (z := nI (i + 1)) (nI_add i 1) ?_
  refine wSld hx hb hX hbl hS (i + 1) (by omega) hLN hx1 dL_law_1307 ?_
  refine lv_aload_n hx hb dL_law_1308 rfl (lv_at hl 4 rfl) ?_
  refine lv_iload hx hb dL_law_1309 (lv_at hl 0 rfl) ?_
  refine lv_iconst (v := 2) hx hb dL_law_1311 (by decide) ?_
  refine lv_iadd hx hb dL_law_1312 ?_
  refine wTop (z := nI (i + 2)) (nI_add i 2) ?_
  refine wSld hx hb hX hbl hS (i + 2) (by omega) hLN hx2 dL_law_1313 ?_
  refine lv_aload_n hx hb dL_law_1314 rfl (lv_at hl 1 rfl) ?_
  refine wLW (pre := ([] : va_W)) (Wc := XO x0 a b ++ (DC cI a f r ++ (DC cI b f2 r2 ++ OUT cJ q v))) (suf := MC cI mb g nw kp) (As := [.ref x0, .int (nI x), .int (nI y), .ref q]) (rest := []) ⟨hx, hb, hml, hown, hts⟩ (mL_wouldLeave l D cI cJ x0 a b f f2 r r2 q v gg x y _ hg hg2 hg0 ux uy hne hfree) hN hE hZ hA hK hS hP hD rfl (vx_cwSW 4 hts gL_law_L_wouldLeave rfl rfl rfl (by decide +kernel) ⟨Nat.le_of_ble_eq_true rfl, Nat.le_of_ble_eq_true rfl⟩) rfl hl.1 rfl (Nat.le_of_ble_eq_true rfl) dL_law_1315 ⟨by omega, by omega⟩ (fun r_1315 u_1315 H locs hw hP hD hS => ?_)
  have hw : r_1315 = 0 := hw
  subst hw
  have hP : va_P D vwCl (XO x0 a b ++ (DC cI a f r ++ (DC cI b f2 r2 ++ (OUT cJ q (vp_updL v 0 ((dFate f (r 4) x y 0).toInt64)) ++ MC cI mb g nw kp)))) H := hP
  have hD : va_D (lwA s) (XO x0 a b ++ (DC cI a f r ++ (DC cI b f2 r2 ++ (OUT cJ q (vp_updL v 0 ((dFate f (r 4) x y 0).toInt64)) ++ MC cI mb g nw kp)))) := hD
  refine lv_istore (lv' := [(5, .int 0), (4, .int (nI i)), (3, .ref q), (2, .ref (mb 0)), (1, .ref x0), (0, .ref sb)]) hx hb dL_law_1318 hl (by decide) rfl (fun ls hl => ?_)
  refine lv_aload_n hx hb dL_law_1320 rfl (lv_at hl 3 rfl) ?_
  refine lv_aload_n hx hb dL_law_1321 rfl (lv_at hl 5 rfl) ?_
  refine lv_iload hx hb dL_law_1322 (lv_at hl 1 rfl) ?_
  refine lv_iconst (v := 1) hx hb dL_law_1324 (by decide) ?_
  refine lv_iadd hx hb dL_law_1325 ?_
  refine wTop (z := nI (i + 1)) (nI_add i 1) ?_
  refine wSld hx hb hX hbl hS (i + 1) (by omega) hLN hx1 dL_law_1326 ?_
  refine lv_aload_n hx hb dL_law_1327 rfl (lv_at hl 5 rfl) ?_
  refine lv_iload hx hb dL_law_1328 (lv_at hl 1 rfl) ?_
  refine lv_iconst (v := 2) hx hb dL_law_1330 (by decide) ?_
  refine lv_iadd hx hb dL_law_1331 ?_
  refine wTop (z := nI (i + 2)) (nI_add i 2) ?_
  refine wSld hx hb hX hbl hS (i + 2) (by omega) hLN hx2 dL_law_1332 ?_
  refine wCVi (pre := XO x0 a b ++ (DC cI a f r ++ (DC cI b f2 r2 ++ OUT cJ q (vp_updL v 0 ((dFate f (r 4) x y 0).toInt64))))) (Wc := MC cI mb g nw kp) (suf := ([] : va_W)) (As := [.int (nI x), .int (nI y)]) (rest := []) ⟨hx, hb, hml, hown, hts⟩ (mX2_wouldLeave l D cI mb g nw kp gg li x y t _ hgm hg2 hg0 hl0 hl1 hl2 ux uy hcode h1 h2) hN hA hK1 hS hP hD rfl 0 (r := (RX2, TX2, 7)) rfl rfl (cwV 2 hts gL_law_X2_wouldLeave rfl rfl rfl (by decide +kernel) ⟨Nat.le_of_ble_eq_true rfl, Nat.le_of_ble_eq_true rfl⟩) rfl hl.1 rfl (Nat.le_of_ble_eq_true rfl) dL_law_1333 ⟨by omega, by omega⟩ (fun r_1333 u_1333 H locs hw hP hD hS => ?_)
  have hw : r_1333 = (mSecs (nI (10 * x + y)) (g 2) (mSend (g 1) nw x y, g 6) t).2 := hw
  subst hw
  have hP : va_P D vwCl (XO x0 a b ++ (DC cI a f r ++ (DC cI b f2 r2 ++ (OUT cJ q (vp_updL v 0 ((dFate f (r 4) x y 0).toInt64)) ++ MC cI mb (upd (upd (upd g 0 (mCode nw x y)) 5 (nI (10 * x + y))) 6 (mSecs (nI (10 * x + y)) (g 2) (mSend (g 1) nw x y, g 6) t).2) nw nw)))) H := hP
  have hD : va_D (lwA s) (XO x0 a b ++ (DC cI a f r ++ (DC cI b f2 r2 ++ (OUT cJ q (vp_updL v 0 ((dFate f (r 4) x y 0).toInt64)) ++ MC cI mb (upd (upd (upd g 0 (mCode nw x y)) 5 (nI (10 * x + y))) 6 (mSecs (nI (10 * x + y)) (g 2) (mSend (g 1) nw x y, g 6) t).2) nw nw)))) := hD
  refine wTop (z := (dFate f (r 4) x y 0)) (hans) ?_
  refine lv_istore (lv' := [(6, .int (dFate f (r 4) x y 0)), (5, .int 0), (4, .int (nI i)), (3, .ref q), (2, .ref (mb 0)), (1, .ref x0), (0, .ref sb)]) hx hb dL_law_1336 hl (by decide) rfl (fun ls hl => ?_)
  refine lv_aload_n hx hb dL_law_1338 rfl (lv_at hl 4 rfl) ?_
  refine wCVi (pre := XO x0 a b ++ (DC cI a f r ++ (DC cI b f2 r2 ++ OUT cJ q (vp_updL v 0 ((dFate f (r 4) x y 0).toInt64))))) (Wc := MC cI mb (upd (upd (upd g 0 (mCode nw x y)) 5 (nI (10 * x + y))) 6 (mSecs (nI (10 * x + y)) (g 2) (mSend (g 1) nw x y, g 6) t).2) nw nw) (suf := ([] : va_W)) (As := []) (rest := []) ⟨hx, hb, hml, hown, hts⟩ (mX2_thrown l D cI mb (upd (upd (upd g 0 (mCode nw x y)) 5 (nI (10 * x + y))) 6 (mSecs (nI (10 * x + y)) (g 2) (mSend (g 1) nw x y, g 6) t).2) nw nw _ ) hN hA hK1 hS hP hD rfl 0 (r := (RX2, TX2, 7)) rfl rfl (cwV 0 hts gL_law_X2_thrown rfl rfl rfl (by decide +kernel) ⟨Nat.le_of_ble_eq_true rfl, Nat.le_of_ble_eq_true rfl⟩) rfl hl.1 rfl (Nat.le_of_ble_eq_true rfl) dL_law_1339 ⟨by omega, by omega⟩ (fun r_1339 u_1339 H locs hw hP hD hS => ?_)
  have hw : r_1339 = (upd (upd (upd g 0 (mCode nw x y)) 5 (nI (10 * x + y))) 6 (mSecs (nI (10 * x + y)) (g 2) (mSend (g 1) nw x y, g 6) t).2) 0 := hw
  subst hw
  have hP : va_P D vwCl (XO x0 a b ++ (DC cI a f r ++ (DC cI b f2 r2 ++ (OUT cJ q (vp_updL v 0 ((dFate f (r 4) x y 0).toInt64)) ++ MC cI mb (upd (upd (upd g 0 (mCode nw x y)) 5 (nI (10 * x + y))) 6 (mSecs (nI (10 * x + y)) (g 2) (mSend (g 1) nw x y, g 6) t).2) nw nw)))) H := hP
  have hD : va_D (lwA s) (XO x0 a b ++ (DC cI a f r ++ (DC cI b f2 r2 ++ (OUT cJ q (vp_updL v 0 ((dFate f (r 4) x y 0).toInt64)) ++ MC cI mb (upd (upd (upd g 0 (mCode nw x y)) 5 (nI (10 * x + y))) 6 (mSecs (nI (10 * x + y)) (g 2) (mSend (g 1) nw x y, g 6) t).2) nw nw)))) := hD
  refine wTop (z := 0) (by simp (disch := omega) only [mUp, mUs]; exact hcode) ?_
  refine lv_iload hx hb dL_law_1342 (lv_at hl 1 rfl) ?_
  refine lv_icmp_eq (tgt := 1349) hx hb dL_law_1344 (by decide) (fun c_1344 => ?_) (fun h9 => absurd (by decide) h9)
  refine lv_iload hx hb dL_law_1349 (lv_at hl 1 rfl) ?_
  refine lv_if_ne (tgt := 1366) hx hb dL_law_1351 (by decide) (fun h9 => absurd (by decide) h9) (fun c_1351 => ?_)
  refine lv_aload_n hx hb dL_law_1354 rfl (lv_at hl 3 rfl) ?_
  refine lv_iconst (v := 0) hx hb dL_law_1355 (by decide) ?_
  refine wLald hx hb hK hP 17 1 rfl rfl (z := ((dFate f (r 4) x y 0).toInt64)) (pk_uLs) dL_law_1356 ?_
  refine lv_iload hx hb dL_law_1357 (lv_at hl 0 rfl) ?_
  refine lv_i2l hx hb dL_law_1359 rfl ?_
  refine W.lcmp hx hb dL_law_1360 ?_
  refine wTop (z := 0) (lcmp_self _) ?_
  refine lv_if_eq (tgt := 1366) hx hb dL_law_1361 (by decide) (fun c_1361 => ?_) (fun h9 => absurd (by decide) h9)
  refine lv_goto (tgt := 1548) hx hb dL_law_1366 (by decide) ?_
  exact W.widen (k := cells + 1) (n := slots + 11) (by omega) (by omega) (kk _ _ _ _ _ _ _ _ (by simp (disch := omega) only [mUp, mUs]) (by simp (disch := omega) only [mUp, mUs]) hP hD hS (lv_sub hl [2, 3, 4, 5, 6] rfl))
set_option maxRecDepth 100000 in
set_option maxHeartbeats 4000000 in
theorem lc_wouldLeave1 {p : Program} {l : Launch} {e : Env} {s : State} {m : MethodId} {args : Array Value} {below : List Frame} {meth : Method} {c : Code} {D : va_G} {cI cJ : ClassId} {sb LN : Nat} {xs : Nat → Int32} {H : Heap} {locs : List Loc} {cells slots : Nat} {Q : State → Prop} {ls : Array Slot} (E9 : lawE p l s m args c D cI cJ sb LN xs) (x0 : Nat) (a b : Nat → Nat) (f f2 : Nat → Int32) (r r2 : Nat → Nat → Int32) (q : Nat) (v : Nat → Int64) (mb : Nat → Nat) (g nw kp : Nat → Int32) (i : Nat) (hi : i + 2 < LN) (hcc : cells + 1 ≤ room_1.cells) (hss : slots + 11 ≤ room_1.slots) (hl : lv_has ls 9 [(4, .int (nI i)), (3, .ref q), (2, .ref (mb 0)), (1, .ref x0), (0, .ref sb)]) (hP : va_P D vwCl (XO x0 a b ++ (DC cI a f r ++ (DC cI b f2 r2 ++ (OUT cJ q v ++ MC cI mb g nw kp)))) H) (hD : va_D (lwA s) (XO x0 a b ++ (DC cI a f r ++ (DC cI b f2 r2 ++ (OUT cJ q v ++ MC cI mb g nw kp))))) (hS : va_S (lwA s) s.heap H locs) (x : Int32) (y : Int32) (gg : Nat) (hx1 : xs (i + 1) = x) (hx2 : xs (i + 2) = y) (hbad : x < 0 ∨ f 0 ≤ x) (hg : g 1 = nI gg) (hg2 : gg ≤ 10) (hg0 : 0 < gg) (hbadm : ¬ (0 ≤ x ∧ x < nI gg) ∨ ¬ (0 ≤ y ∧ y < nI gg))
    (kk : ∀ (f9 : Nat → Int32) (r9 : Nat → Nat → Int32) (v9 : Nat → Int64) (g9 kp9 : Nat → Int32) (H1 : Heap) (locs1 : List Loc) (ls1 : Array Slot), g9 1 = g 1 → g9 2 = g 2 → va_P D vwCl (XO x0 a b ++ (DC cI a f r ++ (DC cI b f9 r9 ++ (OUT cJ q v9 ++ MC cI mb g9 nw kp9)))) H1 → va_D (lwA s) (XO x0 a b ++ (DC cI a f r ++ (DC cI b f9 r9 ++ (OUT cJ q v9 ++ MC cI mb g9 nw kp9)))) → va_S (lwA s) s.heap H1 locs1 → lv_has ls1 9 [(4, .int (nI i)), (3, .ref q), (2, .ref (mb 0)), (1, .ref x0), (0, .ref sb)] → W p l e room_1 s m args below meth c H1 locs1 (cells + 1) (slots + 11) Q (F0 m 1548 ls1 [])) : W p l e room_1 s m args below meth c H locs cells slots Q (F0 m 1301 ls []) := by
  obtain ⟨⟨hx, hb, hml, hown, hts⟩, hN, hE, hZ, hK, hX, hbl, hlt, hLN⟩ := E9
  have hA : ∀ q : Nat, s.heap.size ≤ q → lwA s q := fun _ h => h
  have hK1 : va_K D vwCl [(cI, .int)] s := hK.sub [0] rfl
  refine lv_aload_n hx hb dL_law_1301 rfl (lv_at hl 3 rfl) ?_
  refine lv_aload_n hx hb dL_law_1302 rfl (lv_at hl 4 rfl) ?_
  refine lv_iload hx hb dL_law_1303 (lv_at hl 0 rfl) ?_
  refine lv_iconst (v := 1) hx hb dL_law_1305 (by decide) ?_
  refine lv_iadd hx hb dL_law_1306 ?_
  refine wTop (z := nI (i + 1)) (nI_add i 1) ?_
  refine wSld hx hb hX hbl hS (i + 1) (by omega) hLN hx1 dL_law_1307 ?_
  refine lv_aload_n hx hb dL_law_1308 rfl (lv_at hl 4 rfl) ?_
  refine lv_iload hx hb dL_law_1309 (lv_at hl 0 rfl) ?_
  refine lv_iconst (v := 2) hx hb dL_law_1311 (by decide) ?_
  refine lv_iadd hx hb dL_law_1312 ?_
  refine wTop (z := nI (i + 2)) (nI_add i 2) ?_
  refine wSld hx hb hX hbl hS (i + 2) (by omega) hLN hx2 dL_law_1313 ?_
  refine lv_aload_n hx hb dL_law_1314 rfl (lv_at hl 1 rfl) ?_
  refine wLW (pre := ([] : va_W)) (Wc := XO x0 a b ++ (DC cI a f r ++ (DC cI b f2 r2 ++ OUT cJ q v))) (suf := MC cI mb g nw kp) (As := [.ref x0, .int x, .int y, .ref q]) (rest := []) ⟨hx, hb, hml, hown, hts⟩ (mL_wouldLeave1 l D cI cJ x0 a b f f2 r r2 q v x y _ hlt hbad) hN hE hZ hA hK hS hP hD rfl (vx_cwSW 4 hts gL_law_L_wouldLeave rfl rfl rfl (by decide +kernel) ⟨Nat.le_of_ble_eq_true rfl, Nat.le_of_ble_eq_true rfl⟩) rfl hl.1 rfl (Nat.le_of_ble_eq_true rfl) dL_law_1315 ⟨by omega, by omega⟩ (fun r_1315 u_1315 H locs hw hP hD hS => ?_)
  have hw : r_1315 = 1 := hw
  subst hw
  have hP : va_P D vwCl (XO x0 a b ++ (DC cI a f r ++ (DC cI b f2 r2 ++ (OUT cJ q v ++ MC cI mb g nw kp)))) H := hP
  have hD : va_D (lwA s) (XO x0 a b ++ (DC cI a f r ++ (DC cI b f2 r2 ++ (OUT cJ q v ++ MC cI mb g nw kp)))) := hD
  refine lv_istore (lv' := [(5, .int 1), (4, .int (nI i)), (3, .ref q), (2, .ref (mb 0)), (1, .ref x0), (0, .ref sb)]) hx hb dL_law_1318 hl (by decide) rfl (fun ls hl => ?_)
  refine lv_aload_n hx hb dL_law_1320 rfl (lv_at hl 3 rfl) ?_
  refine lv_aload_n hx hb dL_law_1321 rfl (lv_at hl 5 rfl) ?_
  refine lv_iload hx hb dL_law_1322 (lv_at hl 1 rfl) ?_
  refine lv_iconst (v := 1) hx hb dL_law_1324 (by decide) ?_
  refine lv_iadd hx hb dL_law_1325 ?_
  refine wTop (z := nI (i + 1)) (nI_add i 1) ?_
  refine wSld hx hb hX hbl hS (i + 1) (by omega) hLN hx1 dL_law_1326 ?_
  refine lv_aload_n hx hb dL_law_1327 rfl (lv_at hl 5 rfl) ?_
  refine lv_iload hx hb dL_law_1328 (lv_at hl 1 rfl) ?_
  refine lv_iconst (v := 2) hx hb dL_law_1330 (by decide) ?_
  refine lv_iadd hx hb dL_law_1331 ?_
  refine wTop (z := nI (i + 2)) (nI_add i 2) ?_
  refine wSld hx hb hX hbl hS (i + 2) (by omega) hLN hx2 dL_law_1332 ?_
  refine wCVi (pre := XO x0 a b ++ (DC cI a f r ++ (DC cI b f2 r2 ++ OUT cJ q v))) (Wc := MC cI mb g nw kp) (suf := ([] : va_W)) (As := [.int x, .int y]) (rest := []) ⟨hx, hb, hml, hown, hts⟩ (mX2_wouldLeave1 l D cI mb g nw kp gg x y _ hg hg2 hg0 hbadm) hN hA hK1 hS hP hD rfl 0 (r := (RX2, TX2, 7)) rfl rfl (cwV 2 hts gL_law_X2_wouldLeave rfl rfl rfl (by decide +kernel) ⟨Nat.le_of_ble_eq_true rfl, Nat.le_of_ble_eq_true rfl⟩) rfl hl.1 rfl (Nat.le_of_ble_eq_true rfl) dL_law_1333 ⟨by omega, by omega⟩ (fun r_1333 u_1333 H locs hw hP hD hS => ?_)
  have hw : r_1333 = 0 := hw
  subst hw
  have hP : va_P D vwCl (XO x0 a b ++ (DC cI a f r ++ (DC cI b f2 r2 ++ (OUT cJ q v ++ MC cI mb (upd g 0 1) nw kp)))) H := hP
  have hD : va_D (lwA s) (XO x0 a b ++ (DC cI a f r ++ (DC cI b f2 r2 ++ (OUT cJ q v ++ MC cI mb (upd g 0 1) nw kp)))) := hD
  refine lv_istore (lv' := [(6, .int 0), (5, .int 1), (4, .int (nI i)), (3, .ref q), (2, .ref (mb 0)), (1, .ref x0), (0, .ref sb)]) hx hb dL_law_1336 hl (by decide) rfl (fun ls hl => ?_)
  refine lv_aload_n hx hb dL_law_1338 rfl (lv_at hl 4 rfl) ?_
  refine wCVi (pre := XO x0 a b ++ (DC cI a f r ++ (DC cI b f2 r2 ++ OUT cJ q v))) (Wc := MC cI mb (upd g 0 1) nw kp) (suf := ([] : va_W)) (As := []) (rest := []) ⟨hx, hb, hml, hown, hts⟩ (mX2_thrown l D cI mb (upd g 0 1) nw kp _ ) hN hA hK1 hS hP hD rfl 0 (r := (RX2, TX2, 7)) rfl rfl (cwV 0 hts gL_law_X2_thrown rfl rfl rfl (by decide +kernel) ⟨Nat.le_of_ble_eq_true rfl, Nat.le_of_ble_eq_true rfl⟩) rfl hl.1 rfl (Nat.le_of_ble_eq_true rfl) dL_law_1339 ⟨by omega, by omega⟩ (fun r_1339 u_1339 H locs hw hP hD hS => ?_)
  have hw : r_1339 = (upd g 0 1) 0 := hw
  subst hw
  have hP : va_P D vwCl (XO x0 a b ++ (DC cI a f r ++ (DC cI b f2 r2 ++ (OUT cJ q v ++ MC cI mb (upd g 0 1) nw kp)))) H := hP
  have hD : va_D (lwA s) (XO x0 a b ++ (DC cI a f r ++ (DC cI b f2 r2 ++ (OUT cJ q v ++ MC cI mb (upd g 0 1) nw kp)))) := hD
  refine wTop (z := 1) (by simp (disch := omega) only [mUp, mUs]) ?_
  refine lv_iload hx hb dL_law_1342 (lv_at hl 1 rfl) ?_
  refine lv_icmp_eq (tgt := 1349) hx hb dL_law_1344 (by decide) (fun c_1344 => ?_) (fun h9 => absurd (by decide) h9)
  refine lv_iload hx hb dL_law_1349 (lv_at hl 1 rfl) ?_
  refine lv_if_ne (tgt := 1366) hx hb dL_law_1351 (by decide) (fun c_1351 => ?_) (fun h9 => absurd h9 (by decide))
  refine lv_goto (tgt := 1548) hx hb dL_law_1366 (by decide) ?_
  exact W.widen (k := cells + 1) (n := slots + 11) (by omega) (by omega) (kk _ _ _ _ _ _ _ _ (by simp (disch := omega) only [mUp, mUs]) (by simp (disch := omega) only [mUp, mUs]) hP hD hS (lv_sub hl [2, 3, 4, 5, 6] rfl))
set_option maxRecDepth 100000 in
set_option maxHeartbeats 4000000 in
theorem lc_wouldLeave2 {p : Program} {l : Launch} {e : Env} {s : State} {m : MethodId} {args : Array Value} {below : List Frame} {meth : Method} {c : Code} {D : va_G} {cI cJ : ClassId} {sb LN : Nat} {xs : Nat → Int32} {H : Heap} {locs : List Loc} {cells slots : Nat} {Q : State → Prop} {ls : Array Slot} (E9 : lawE p l s m args c D cI cJ sb LN xs) (x0 : Nat) (a b : Nat → Nat) (f f2 : Nat → Int32) (r r2 : Nat → Nat → Int32) (q : Nat) (v : Nat → Int64) (mb : Nat → Nat) (g nw kp : Nat → Int32) (i : Nat) (hi : i + 2 < LN) (hcc : cells + 1 ≤ room_1.cells) (hss : slots + 11 ≤ room_1.slots) (hl : lv_has ls 9 [(4, .int (nI i)), (3, .ref q), (2, .ref (mb 0)), (1, .ref x0), (0, .ref sb)]) (hP : va_P D vwCl (XO x0 a b ++ (DC cI a f r ++ (DC cI b f2 r2 ++ (OUT cJ q v ++ MC cI mb g nw kp)))) H) (hD : va_D (lwA s) (XO x0 a b ++ (DC cI a f r ++ (DC cI b f2 r2 ++ (OUT cJ q v ++ MC cI mb g nw kp))))) (hS : va_S (lwA s) s.heap H locs) (gg : Nat) (x : Nat) (y : Int32) (hx1 : xs (i + 1) = nI x) (hx2 : xs (i + 2) = y) (hg : f 0 = nI gg) (hg2 : gg ≤ 10) (hg0 : 0 < gg) (ux : x < gg) (hbad : y < 0 ∨ f 0 ≤ y) (hgm : g 1 = nI gg) (hbadm : ¬ (0 ≤ (nI x) ∧ (nI x) < nI gg) ∨ ¬ (0 ≤ y ∧ y < nI gg))
    (kk : ∀ (f9 : Nat → Int32) (r9 : Nat → Nat → Int32) (v9 : Nat → Int64) (g9 kp9 : Nat → Int32) (H1 : Heap) (locs1 : List Loc) (ls1 : Array Slot), g9 1 = g 1 → g9 2 = g 2 → va_P D vwCl (XO x0 a b ++ (DC cI a f r ++ (DC cI b f9 r9 ++ (OUT cJ q v9 ++ MC cI mb g9 nw kp9)))) H1 → va_D (lwA s) (XO x0 a b ++ (DC cI a f r ++ (DC cI b f9 r9 ++ (OUT cJ q v9 ++ MC cI mb g9 nw kp9)))) → va_S (lwA s) s.heap H1 locs1 → lv_has ls1 9 [(4, .int (nI i)), (3, .ref q), (2, .ref (mb 0)), (1, .ref x0), (0, .ref sb)] → W p l e room_1 s m args below meth c H1 locs1 (cells + 1) (slots + 11) Q (F0 m 1548 ls1 [])) : W p l e room_1 s m args below meth c H locs cells slots Q (F0 m 1301 ls []) := by
  obtain ⟨⟨hx, hb, hml, hown, hts⟩, hN, hE, hZ, hK, hX, hbl, hlt, hLN⟩ := E9
  have hA : ∀ q : Nat, s.heap.size ≤ q → lwA s q := fun _ h => h
  have hK1 : va_K D vwCl [(cI, .int)] s := hK.sub [0] rfl
  refine lv_aload_n hx hb dL_law_1301 rfl (lv_at hl 3 rfl) ?_
  refine lv_aload_n hx hb dL_law_1302 rfl (lv_at hl 4 rfl) ?_
  refine lv_iload hx hb dL_law_1303 (lv_at hl 0 rfl) ?_
  refine lv_iconst (v := 1) hx hb dL_law_1305 (by decide) ?_
  refine lv_iadd hx hb dL_law_1306 ?_
  refine wTop (z := nI (i + 1)) (nI_add i 1) ?_
  refine wSld hx hb hX hbl hS (i + 1) (by omega) hLN hx1 dL_law_1307 ?_
  refine lv_aload_n hx hb dL_law_1308 rfl (lv_at hl 4 rfl) ?_
  refine lv_iload hx hb dL_law_1309 (lv_at hl 0 rfl) ?_
  refine lv_iconst (v := 2) hx hb dL_law_1311 (by decide) ?_
  refine lv_iadd hx hb dL_law_1312 ?_
  refine wTop (z := nI (i + 2)) (nI_add i 2) ?_
  refine wSld hx hb hX hbl hS (i + 2) (by omega) hLN hx2 dL_law_1313 ?_
  refine lv_aload_n hx hb dL_law_1314 rfl (lv_at hl 1 rfl) ?_
  refine wLW (pre := ([] : va_W)) (Wc := XO x0 a b ++ (DC cI a f r ++ (DC cI b f2 r2 ++ OUT cJ q v))) (suf := MC cI mb g nw kp) (As := [.ref x0, .int (nI x), .int y, .ref q]) (rest := []) ⟨hx, hb, hml, hown, hts⟩ (mL_wouldLeave2 l D cI cJ x0 a b f f2 r r2 q v gg x y _ hlt hg hg2 hg0 ux hbad) hN hE hZ hA hK hS hP hD rfl (vx_cwSW 4 hts gL_law_L_wouldLeave rfl rfl rfl (by decide +kernel) ⟨Nat.le_of_ble_eq_true rfl, Nat.le_of_ble_eq_true rfl⟩) rfl hl.1 rfl (Nat.le_of_ble_eq_true rfl) dL_law_1315 ⟨by omega, by omega⟩ (fun r_1315 u_1315 H locs hw hP hD hS => ?_)
  have hw : r_1315 = 1 := hw
  subst hw
  have hP : va_P D vwCl (XO x0 a b ++ (DC cI a f r ++ (DC cI b f2 r2 ++ (OUT cJ q v ++ MC cI mb g nw kp)))) H := hP
  have hD : va_D (lwA s) (XO x0 a b ++ (DC cI a f r ++ (DC cI b f2 r2 ++ (OUT cJ q v ++ MC cI mb g nw kp)))) := hD
  refine lv_istore (lv' := [(5, .int 1), (4, .int (nI i)), (3, .ref q), (2, .ref (mb 0)), (1, .ref x0), (0, .ref sb)]) hx hb dL_law_1318 hl (by decide) rfl (fun ls hl => ?_)
  refine lv_aload_n hx hb dL_law_1320 rfl (lv_at hl 3 rfl) ?_
  refine lv_aload_n hx hb dL_law_1321 rfl (lv_at hl 5 rfl) ?_
  refine lv_iload hx hb dL_law_1322 (lv_at hl 1 rfl) ?_
  refine lv_iconst (v := 1) hx hb dL_law_1324 (by decide) ?_
  refine lv_iadd hx hb dL_law_1325 ?_
  refine wTop (z := nI (i + 1)) (nI_add i 1) ?_
  refine wSld hx hb hX hbl hS (i + 1) (by omega) hLN hx1 dL_law_1326 ?_
  refine lv_aload_n hx hb dL_law_1327 rfl (lv_at hl 5 rfl) ?_
  refine lv_iload hx hb dL_law_1328 (lv_at hl 1 rfl) ?_
  refine lv_iconst (v := 2) hx hb dL_law_1330 (by decide) ?_
  refine lv_iadd hx hb dL_law_1331 ?_
  refine wTop (z := nI (i + 2)) (nI_add i 2) ?_
  refine wSld hx hb hX hbl hS (i + 2) (by omega) hLN hx2 dL_law_1332 ?_
  refine wCVi (pre := XO x0 a b ++ (DC cI a f r ++ (DC cI b f2 r2 ++ OUT cJ q v))) (Wc := MC cI mb g nw kp) (suf := ([] : va_W)) (As := [.int (nI x), .int y]) (rest := []) ⟨hx, hb, hml, hown, hts⟩ (mX2_wouldLeave1 l D cI mb g nw kp gg (nI x) y _ hgm hg2 hg0 hbadm) hN hA hK1 hS hP hD rfl 0 (r := (RX2, TX2, 7)) rfl rfl (cwV 2 hts gL_law_X2_wouldLeave rfl rfl rfl (by decide +kernel) ⟨Nat.le_of_ble_eq_true rfl, Nat.le_of_ble_eq_true rfl⟩) rfl hl.1 rfl (Nat.le_of_ble_eq_true rfl) dL_law_1333 ⟨by omega, by omega⟩ (fun r_1333 u_1333 H locs hw hP hD hS => ?_)
  have hw : r_1333 = 0 := hw
  subst hw
  have hP : va_P D vwCl (XO x0 a b ++ (DC cI a f r ++ (DC cI b f2 r2 ++ (OUT cJ q v ++ MC cI mb (upd g 0 1) nw kp)))) H := hP
  have hD : va_D (lwA s) (XO x0 a b ++ (DC cI a f r ++ (DC cI b f2 r2 ++ (OUT cJ q v ++ MC cI mb (upd g 0 1) nw kp)))) := hD
  refine lv_istore (lv' := [(6, .int 0), (5, .int 1), (4, .int (nI i)), (3, .ref q), (2, .ref (mb 0)), (1, .ref x0), (0, .ref sb)]) hx hb dL_law_1336 hl (by decide) rfl (fun ls hl => ?_)
  refine lv_aload_n hx hb dL_law_1338 rfl (lv_at hl 4 rfl) ?_
  refine wCVi (pre := XO x0 a b ++ (DC cI a f r ++ (DC cI b f2 r2 ++ OUT cJ q v))) (Wc := MC cI mb (upd g 0 1) nw kp) (suf := ([] : va_W)) (As := []) (rest := []) ⟨hx, hb, hml, hown, hts⟩ (mX2_thrown l D cI mb (upd g 0 1) nw kp _ ) hN hA hK1 hS hP hD rfl 0 (r := (RX2, TX2, 7)) rfl rfl (cwV 0 hts gL_law_X2_thrown rfl rfl rfl (by decide +kernel) ⟨Nat.le_of_ble_eq_true rfl, Nat.le_of_ble_eq_true rfl⟩) rfl hl.1 rfl (Nat.le_of_ble_eq_true rfl) dL_law_1339 ⟨by omega, by omega⟩ (fun r_1339 u_1339 H locs hw hP hD hS => ?_)
  have hw : r_1339 = (upd g 0 1) 0 := hw
  subst hw
  have hP : va_P D vwCl (XO x0 a b ++ (DC cI a f r ++ (DC cI b f2 r2 ++ (OUT cJ q v ++ MC cI mb (upd g 0 1) nw kp)))) H := hP
  have hD : va_D (lwA s) (XO x0 a b ++ (DC cI a f r ++ (DC cI b f2 r2 ++ (OUT cJ q v ++ MC cI mb (upd g 0 1) nw kp)))) := hD
  refine wTop (z := 1) (by simp (disch := omega) only [mUp, mUs]) ?_
  refine lv_iload hx hb dL_law_1342 (lv_at hl 1 rfl) ?_
  refine lv_icmp_eq (tgt := 1349) hx hb dL_law_1344 (by decide) (fun c_1344 => ?_) (fun h9 => absurd (by decide) h9)
  refine lv_iload hx hb dL_law_1349 (lv_at hl 1 rfl) ?_
  refine lv_if_ne (tgt := 1366) hx hb dL_law_1351 (by decide) (fun c_1351 => ?_) (fun h9 => absurd h9 (by decide))
  refine lv_goto (tgt := 1548) hx hb dL_law_1366 (by decide) ?_
  exact W.widen (k := cells + 1) (n := slots + 11) (by omega) (by omega) (kk _ _ _ _ _ _ _ _ (by simp (disch := omega) only [mUp, mUs]) (by simp (disch := omega) only [mUp, mUs]) hP hD hS (lv_sub hl [2, 3, 4, 5, 6] rfl))
set_option maxRecDepth 100000 in
set_option maxHeartbeats 4000000 in
theorem lc_wouldLeave3 {p : Program} {l : Launch} {e : Env} {s : State} {m : MethodId} {args : Array Value} {below : List Frame} {meth : Method} {c : Code} {D : va_G} {cI cJ : ClassId} {sb LN : Nat} {xs : Nat → Int32} {H : Heap} {locs : List Loc} {cells slots : Nat} {Q : State → Prop} {ls : Array Slot} (E9 : lawE p l s m args c D cI cJ sb LN xs) (x0 : Nat) (a b : Nat → Nat) (f f2 : Nat → Int32) (r r2 : Nat → Nat → Int32) (q : Nat) (v : Nat → Int64) (mb : Nat → Nat) (g nw kp : Nat → Int32) (i : Nat) (hi : i + 2 < LN) (hcc : cells + 1 ≤ room_1.cells) (hss : slots + 11 ≤ room_1.slots) (hl : lv_has ls 9 [(4, .int (nI i)), (3, .ref q), (2, .ref (mb 0)), (1, .ref x0), (0, .ref sb)]) (hP : va_P D vwCl (XO x0 a b ++ (DC cI a f r ++ (DC cI b f2 r2 ++ (OUT cJ q v ++ MC cI mb g nw kp)))) H) (hD : va_D (lwA s) (XO x0 a b ++ (DC cI a f r ++ (DC cI b f2 r2 ++ (OUT cJ q v ++ MC cI mb g nw kp))))) (hS : va_S (lwA s) s.heap H locs) (gg : Nat) (x : Nat) (hx1 : xs (i + 1) = nI x) (hx2 : xs (i + 2) = nI x) (hg : f 0 = nI gg) (hg2 : gg ≤ 10) (hg0 : 0 < gg) (ux : x < gg) (hcd : mCode nw x x = 2) (hgm : g 1 = nI gg) (hcode : ¬ mCode nw x x = 0)
    (kk : ∀ (f9 : Nat → Int32) (r9 : Nat → Nat → Int32) (v9 : Nat → Int64) (g9 kp9 : Nat → Int32) (H1 : Heap) (locs1 : List Loc) (ls1 : Array Slot), g9 1 = g 1 → g9 2 = g 2 → va_P D vwCl (XO x0 a b ++ (DC cI a f r ++ (DC cI b f9 r9 ++ (OUT cJ q v9 ++ MC cI mb g9 nw kp9)))) H1 → va_D (lwA s) (XO x0 a b ++ (DC cI a f r ++ (DC cI b f9 r9 ++ (OUT cJ q v9 ++ MC cI mb g9 nw kp9)))) → va_S (lwA s) s.heap H1 locs1 → lv_has ls1 9 [(4, .int (nI i)), (3, .ref q), (2, .ref (mb 0)), (1, .ref x0), (0, .ref sb)] → W p l e room_1 s m args below meth c H1 locs1 (cells + 1) (slots + 11) Q (F0 m 1548 ls1 [])) : W p l e room_1 s m args below meth c H locs cells slots Q (F0 m 1301 ls []) := by
  obtain ⟨⟨hx, hb, hml, hown, hts⟩, hN, hE, hZ, hK, hX, hbl, hlt, hLN⟩ := E9
  have hA : ∀ q : Nat, s.heap.size ≤ q → lwA s q := fun _ h => h
  have hK1 : va_K D vwCl [(cI, .int)] s := hK.sub [0] rfl
  refine lv_aload_n hx hb dL_law_1301 rfl (lv_at hl 3 rfl) ?_
  refine lv_aload_n hx hb dL_law_1302 rfl (lv_at hl 4 rfl) ?_
  refine lv_iload hx hb dL_law_1303 (lv_at hl 0 rfl) ?_
  refine lv_iconst (v := 1) hx hb dL_law_1305 (by decide) ?_
  refine lv_iadd hx hb dL_law_1306 ?_
  refine wTop (z := nI (i + 1)) (nI_add i 1) ?_
  refine wSld hx hb hX hbl hS (i + 1) (by omega) hLN hx1 dL_law_1307 ?_
  refine lv_aload_n hx hb dL_law_1308 rfl (lv_at hl 4 rfl) ?_
  refine lv_iload hx hb dL_law_1309 (lv_at hl 0 rfl) ?_
  refine lv_iconst (v := 2) hx hb dL_law_1311 (by decide) ?_
  refine lv_iadd hx hb dL_law_1312 ?_
  refine wTop (z := nI (i + 2)) (nI_add i 2) ?_
  refine wSld hx hb hX hbl hS (i + 2) (by omega) hLN hx2 dL_law_1313 ?_
  refine lv_aload_n hx hb dL_law_1314 rfl (lv_at hl 1 rfl) ?_
  refine wLW (pre := ([] : va_W)) (Wc := XO x0 a b ++ (DC cI a f r ++ (DC cI b f2 r2 ++ OUT cJ q v))) (suf := MC cI mb g nw kp) (As := [.ref x0, .int (nI x), .int (nI x), .ref q]) (rest := []) ⟨hx, hb, hml, hown, hts⟩ (mL_wouldLeave3 l D cI cJ x0 a b f f2 r r2 q v gg x _ hlt hg hg2 hg0 ux) hN hE hZ hA hK hS hP hD rfl (vx_cwSW 4 hts gL_law_L_wouldLeave rfl rfl rfl (by decide +kernel) ⟨Nat.le_of_ble_eq_true rfl, Nat.le_of_ble_eq_true rfl⟩) rfl hl.1 rfl (Nat.le_of_ble_eq_true rfl) dL_law_1315 ⟨by omega, by omega⟩ (fun r_1315 u_1315 H locs hw hP hD hS => ?_)
  have hw : r_1315 = 2 := hw
  subst hw
  have hP : va_P D vwCl (XO x0 a b ++ (DC cI a f r ++ (DC cI b f2 r2 ++ (OUT cJ q v ++ MC cI mb g nw kp)))) H := hP
  have hD : va_D (lwA s) (XO x0 a b ++ (DC cI a f r ++ (DC cI b f2 r2 ++ (OUT cJ q v ++ MC cI mb g nw kp)))) := hD
  refine lv_istore (lv' := [(5, .int 2), (4, .int (nI i)), (3, .ref q), (2, .ref (mb 0)), (1, .ref x0), (0, .ref sb)]) hx hb dL_law_1318 hl (by decide) rfl (fun ls hl => ?_)
  refine lv_aload_n hx hb dL_law_1320 rfl (lv_at hl 3 rfl) ?_
  refine lv_aload_n hx hb dL_law_1321 rfl (lv_at hl 5 rfl) ?_
  refine lv_iload hx hb dL_law_1322 (lv_at hl 1 rfl) ?_
  refine lv_iconst (v := 1) hx hb dL_law_1324 (by decide) ?_
  refine lv_iadd hx hb dL_law_1325 ?_
  refine wTop (z := nI (i + 1)) (nI_add i 1) ?_
  refine wSld hx hb hX hbl hS (i + 1) (by omega) hLN hx1 dL_law_1326 ?_
  refine lv_aload_n hx hb dL_law_1327 rfl (lv_at hl 5 rfl) ?_
  refine lv_iload hx hb dL_law_1328 (lv_at hl 1 rfl) ?_
  refine lv_iconst (v := 2) hx hb dL_law_1330 (by decide) ?_
  refine lv_iadd hx hb dL_law_1331 ?_
  refine wTop (z := nI (i + 2)) (nI_add i 2) ?_
  refine wSld hx hb hX hbl hS (i + 2) (by omega) hLN hx2 dL_law_1332 ?_
  refine wCVi (pre := XO x0 a b ++ (DC cI a f r ++ (DC cI b f2 r2 ++ OUT cJ q v))) (Wc := MC cI mb g nw kp) (suf := ([] : va_W)) (As := [.int (nI x), .int (nI x)]) (rest := []) ⟨hx, hb, hml, hown, hts⟩ (mX2_wouldLeave2 l D cI mb g nw kp gg x x _ hgm hg2 hg0 ux ux hcode) hN hA hK1 hS hP hD rfl 0 (r := (RX2, TX2, 7)) rfl rfl (cwV 2 hts gL_law_X2_wouldLeave rfl rfl rfl (by decide +kernel) ⟨Nat.le_of_ble_eq_true rfl, Nat.le_of_ble_eq_true rfl⟩) rfl hl.1 rfl (Nat.le_of_ble_eq_true rfl) dL_law_1333 ⟨by omega, by omega⟩ (fun r_1333 u_1333 H locs hw hP hD hS => ?_)
  have hw : r_1333 = 0 := hw
  subst hw
  have hP : va_P D vwCl (XO x0 a b ++ (DC cI a f r ++ (DC cI b f2 r2 ++ (OUT cJ q v ++ MC cI mb (upd g 0 (mCode nw x x)) nw kp)))) H := hP
  have hD : va_D (lwA s) (XO x0 a b ++ (DC cI a f r ++ (DC cI b f2 r2 ++ (OUT cJ q v ++ MC cI mb (upd g 0 (mCode nw x x)) nw kp)))) := hD
  refine lv_istore (lv' := [(6, .int 0), (5, .int 2), (4, .int (nI i)), (3, .ref q), (2, .ref (mb 0)), (1, .ref x0), (0, .ref sb)]) hx hb dL_law_1336 hl (by decide) rfl (fun ls hl => ?_)
  refine lv_aload_n hx hb dL_law_1338 rfl (lv_at hl 4 rfl) ?_
  refine wCVi (pre := XO x0 a b ++ (DC cI a f r ++ (DC cI b f2 r2 ++ OUT cJ q v))) (Wc := MC cI mb (upd g 0 (mCode nw x x)) nw kp) (suf := ([] : va_W)) (As := []) (rest := []) ⟨hx, hb, hml, hown, hts⟩ (mX2_thrown l D cI mb (upd g 0 (mCode nw x x)) nw kp _ ) hN hA hK1 hS hP hD rfl 0 (r := (RX2, TX2, 7)) rfl rfl (cwV 0 hts gL_law_X2_thrown rfl rfl rfl (by decide +kernel) ⟨Nat.le_of_ble_eq_true rfl, Nat.le_of_ble_eq_true rfl⟩) rfl hl.1 rfl (Nat.le_of_ble_eq_true rfl) dL_law_1339 ⟨by omega, by omega⟩ (fun r_1339 u_1339 H locs hw hP hD hS => ?_)
  have hw : r_1339 = (upd g 0 (mCode nw x x)) 0 := hw
  subst hw
  have hP : va_P D vwCl (XO x0 a b ++ (DC cI a f r ++ (DC cI b f2 r2 ++ (OUT cJ q v ++ MC cI mb (upd g 0 (mCode nw x x)) nw kp)))) H := hP
  have hD : va_D (lwA s) (XO x0 a b ++ (DC cI a f r ++ (DC cI b f2 r2 ++ (OUT cJ q v ++ MC cI mb (upd g 0 (mCode nw x x)) nw kp)))) := hD
  refine wTop (z := 2) (by simp (disch := omega) only [mUp, mUs]; exact hcd) ?_
  refine lv_iload hx hb dL_law_1342 (lv_at hl 1 rfl) ?_
  refine lv_icmp_eq (tgt := 1349) hx hb dL_law_1344 (by decide) (fun c_1344 => ?_) (fun h9 => absurd (by decide) h9)
  refine lv_iload hx hb dL_law_1349 (lv_at hl 1 rfl) ?_
  refine lv_if_ne (tgt := 1366) hx hb dL_law_1351 (by decide) (fun c_1351 => ?_) (fun h9 => absurd h9 (by decide))
  refine lv_goto (tgt := 1548) hx hb dL_law_1366 (by decide) ?_
  exact W.widen (k := cells + 1) (n := slots + 11) (by omega) (by omega) (kk _ _ _ _ _ _ _ _ (by simp (disch := omega) only [mUp, mUs]) (by simp (disch := omega) only [mUp, mUs]) hP hD hS (lv_sub hl [2, 3, 4, 5, 6] rfl))
set_option maxRecDepth 100000 in
set_option maxHeartbeats 4000000 in
theorem lc_wouldLeave4 {p : Program} {l : Launch} {e : Env} {s : State} {m : MethodId} {args : Array Value} {below : List Frame} {meth : Method} {c : Code} {D : va_G} {cI cJ : ClassId} {sb LN : Nat} {xs : Nat → Int32} {H : Heap} {locs : List Loc} {cells slots : Nat} {Q : State → Prop} {ls : Array Slot} (E9 : lawE p l s m args c D cI cJ sb LN xs) (x0 : Nat) (a b : Nat → Nat) (f f2 : Nat → Int32) (r r2 : Nat → Nat → Int32) (q : Nat) (v : Nat → Int64) (mb : Nat → Nat) (g nw kp : Nat → Int32) (i : Nat) (hi : i + 2 < LN) (hcc : cells + 1 ≤ room_1.cells) (hss : slots + 11 ≤ room_1.slots) (hl : lv_has ls 9 [(4, .int (nI i)), (3, .ref q), (2, .ref (mb 0)), (1, .ref x0), (0, .ref sb)]) (hP : va_P D vwCl (XO x0 a b ++ (DC cI a f r ++ (DC cI b f2 r2 ++ (OUT cJ q v ++ MC cI mb g nw kp)))) H) (hD : va_D (lwA s) (XO x0 a b ++ (DC cI a f r ++ (DC cI b f2 r2 ++ (OUT cJ q v ++ MC cI mb g nw kp))))) (hS : va_S (lwA s) s.heap H locs) (gg : Nat) (x : Nat) (y : Nat) (hx1 : xs (i + 1) = nI x) (hx2 : xs (i + 2) = nI y) (hg : f 0 = nI gg) (hg2 : gg ≤ 10) (hg0 : 0 < gg) (ux : x < gg) (uy : y < gg) (hne : ¬ nI x = nI y) (hway : ¬ r 4 (x * 10 + y) = -1) (hcd : mCode nw x y = 3) (hgm : g 1 = nI gg) (hcode : ¬ mCode nw x y = 0)
    (kk : ∀ (f9 : Nat → Int32) (r9 : Nat → Nat → Int32) (v9 : Nat → Int64) (g9 kp9 : Nat → Int32) (H1 : Heap) (locs1 : List Loc) (ls1 : Array Slot), g9 1 = g 1 → g9 2 = g 2 → va_P D vwCl (XO x0 a b ++ (DC cI a f r ++ (DC cI b f9 r9 ++ (OUT cJ q v9 ++ MC cI mb g9 nw kp9)))) H1 → va_D (lwA s) (XO x0 a b ++ (DC cI a f r ++ (DC cI b f9 r9 ++ (OUT cJ q v9 ++ MC cI mb g9 nw kp9)))) → va_S (lwA s) s.heap H1 locs1 → lv_has ls1 9 [(4, .int (nI i)), (3, .ref q), (2, .ref (mb 0)), (1, .ref x0), (0, .ref sb)] → W p l e room_1 s m args below meth c H1 locs1 (cells + 1) (slots + 11) Q (F0 m 1548 ls1 [])) : W p l e room_1 s m args below meth c H locs cells slots Q (F0 m 1301 ls []) := by
  obtain ⟨⟨hx, hb, hml, hown, hts⟩, hN, hE, hZ, hK, hX, hbl, hlt, hLN⟩ := E9
  have hA : ∀ q : Nat, s.heap.size ≤ q → lwA s q := fun _ h => h
  have hK1 : va_K D vwCl [(cI, .int)] s := hK.sub [0] rfl
  refine lv_aload_n hx hb dL_law_1301 rfl (lv_at hl 3 rfl) ?_
  refine lv_aload_n hx hb dL_law_1302 rfl (lv_at hl 4 rfl) ?_
  refine lv_iload hx hb dL_law_1303 (lv_at hl 0 rfl) ?_
  refine lv_iconst (v := 1) hx hb dL_law_1305 (by decide) ?_
  refine lv_iadd hx hb dL_law_1306 ?_
  refine wTop (z := nI (i + 1)) (nI_add i 1) ?_
  refine wSld hx hb hX hbl hS (i + 1) (by omega) hLN hx1 dL_law_1307 ?_
  refine lv_aload_n hx hb dL_law_1308 rfl (lv_at hl 4 rfl) ?_
  refine lv_iload hx hb dL_law_1309 (lv_at hl 0 rfl) ?_
  refine lv_iconst (v := 2) hx hb dL_law_1311 (by decide) ?_
  refine lv_iadd hx hb dL_law_1312 ?_
  refine wTop (z := nI (i + 2)) (nI_add i 2) ?_
  refine wSld hx hb hX hbl hS (i + 2) (by omega) hLN hx2 dL_law_1313 ?_
  refine lv_aload_n hx hb dL_law_1314 rfl (lv_at hl 1 rfl) ?_
  refine wLW (pre := ([] : va_W)) (Wc := XO x0 a b ++ (DC cI a f r ++ (DC cI b f2 r2 ++ OUT cJ q v))) (suf := MC cI mb g nw kp) (As := [.ref x0, .int (nI x), .int (nI y), .ref q]) (rest := []) ⟨hx, hb, hml, hown, hts⟩ (mL_wouldLeave4 l D cI cJ x0 a b f f2 r r2 q v gg x y _ hlt hg hg2 hg0 ux uy hne hway) hN hE hZ hA hK hS hP hD rfl (vx_cwSW 4 hts gL_law_L_wouldLeave rfl rfl rfl (by decide +kernel) ⟨Nat.le_of_ble_eq_true rfl, Nat.le_of_ble_eq_true rfl⟩) rfl hl.1 rfl (Nat.le_of_ble_eq_true rfl) dL_law_1315 ⟨by omega, by omega⟩ (fun r_1315 u_1315 H locs hw hP hD hS => ?_)
  have hw : r_1315 = 3 := hw
  subst hw
  have hP : va_P D vwCl (XO x0 a b ++ (DC cI a f r ++ (DC cI b f2 r2 ++ (OUT cJ q v ++ MC cI mb g nw kp)))) H := hP
  have hD : va_D (lwA s) (XO x0 a b ++ (DC cI a f r ++ (DC cI b f2 r2 ++ (OUT cJ q v ++ MC cI mb g nw kp)))) := hD
  refine lv_istore (lv' := [(5, .int 3), (4, .int (nI i)), (3, .ref q), (2, .ref (mb 0)), (1, .ref x0), (0, .ref sb)]) hx hb dL_law_1318 hl (by decide) rfl (fun ls hl => ?_)
  refine lv_aload_n hx hb dL_law_1320 rfl (lv_at hl 3 rfl) ?_
  refine lv_aload_n hx hb dL_law_1321 rfl (lv_at hl 5 rfl) ?_
  refine lv_iload hx hb dL_law_1322 (lv_at hl 1 rfl) ?_
  refine lv_iconst (v := 1) hx hb dL_law_1324 (by decide) ?_
  refine lv_iadd hx hb dL_law_1325 ?_
  refine wTop (z := nI (i + 1)) (nI_add i 1) ?_
  refine wSld hx hb hX hbl hS (i + 1) (by omega) hLN hx1 dL_law_1326 ?_
  refine lv_aload_n hx hb dL_law_1327 rfl (lv_at hl 5 rfl) ?_
  refine lv_iload hx hb dL_law_1328 (lv_at hl 1 rfl) ?_
  refine lv_iconst (v := 2) hx hb dL_law_1330 (by decide) ?_
  refine lv_iadd hx hb dL_law_1331 ?_
  refine wTop (z := nI (i + 2)) (nI_add i 2) ?_
  refine wSld hx hb hX hbl hS (i + 2) (by omega) hLN hx2 dL_law_1332 ?_
  refine wCVi (pre := XO x0 a b ++ (DC cI a f r ++ (DC cI b f2 r2 ++ OUT cJ q v))) (Wc := MC cI mb g nw kp) (suf := ([] : va_W)) (As := [.int (nI x), .int (nI y)]) (rest := []) ⟨hx, hb, hml, hown, hts⟩ (mX2_wouldLeave2 l D cI mb g nw kp gg x y _ hgm hg2 hg0 ux uy hcode) hN hA hK1 hS hP hD rfl 0 (r := (RX2, TX2, 7)) rfl rfl (cwV 2 hts gL_law_X2_wouldLeave rfl rfl rfl (by decide +kernel) ⟨Nat.le_of_ble_eq_true rfl, Nat.le_of_ble_eq_true rfl⟩) rfl hl.1 rfl (Nat.le_of_ble_eq_true rfl) dL_law_1333 ⟨by omega, by omega⟩ (fun r_1333 u_1333 H locs hw hP hD hS => ?_)
  have hw : r_1333 = 0 := hw
  subst hw
  have hP : va_P D vwCl (XO x0 a b ++ (DC cI a f r ++ (DC cI b f2 r2 ++ (OUT cJ q v ++ MC cI mb (upd g 0 (mCode nw x y)) nw kp)))) H := hP
  have hD : va_D (lwA s) (XO x0 a b ++ (DC cI a f r ++ (DC cI b f2 r2 ++ (OUT cJ q v ++ MC cI mb (upd g 0 (mCode nw x y)) nw kp)))) := hD
  refine lv_istore (lv' := [(6, .int 0), (5, .int 3), (4, .int (nI i)), (3, .ref q), (2, .ref (mb 0)), (1, .ref x0), (0, .ref sb)]) hx hb dL_law_1336 hl (by decide) rfl (fun ls hl => ?_)
  refine lv_aload_n hx hb dL_law_1338 rfl (lv_at hl 4 rfl) ?_
  refine wCVi (pre := XO x0 a b ++ (DC cI a f r ++ (DC cI b f2 r2 ++ OUT cJ q v))) (Wc := MC cI mb (upd g 0 (mCode nw x y)) nw kp) (suf := ([] : va_W)) (As := []) (rest := []) ⟨hx, hb, hml, hown, hts⟩ (mX2_thrown l D cI mb (upd g 0 (mCode nw x y)) nw kp _ ) hN hA hK1 hS hP hD rfl 0 (r := (RX2, TX2, 7)) rfl rfl (cwV 0 hts gL_law_X2_thrown rfl rfl rfl (by decide +kernel) ⟨Nat.le_of_ble_eq_true rfl, Nat.le_of_ble_eq_true rfl⟩) rfl hl.1 rfl (Nat.le_of_ble_eq_true rfl) dL_law_1339 ⟨by omega, by omega⟩ (fun r_1339 u_1339 H locs hw hP hD hS => ?_)
  have hw : r_1339 = (upd g 0 (mCode nw x y)) 0 := hw
  subst hw
  have hP : va_P D vwCl (XO x0 a b ++ (DC cI a f r ++ (DC cI b f2 r2 ++ (OUT cJ q v ++ MC cI mb (upd g 0 (mCode nw x y)) nw kp)))) H := hP
  have hD : va_D (lwA s) (XO x0 a b ++ (DC cI a f r ++ (DC cI b f2 r2 ++ (OUT cJ q v ++ MC cI mb (upd g 0 (mCode nw x y)) nw kp)))) := hD
  refine wTop (z := 3) (by simp (disch := omega) only [mUp, mUs]; exact hcd) ?_
  refine lv_iload hx hb dL_law_1342 (lv_at hl 1 rfl) ?_
  refine lv_icmp_eq (tgt := 1349) hx hb dL_law_1344 (by decide) (fun c_1344 => ?_) (fun h9 => absurd (by decide) h9)
  refine lv_iload hx hb dL_law_1349 (lv_at hl 1 rfl) ?_
  refine lv_if_ne (tgt := 1366) hx hb dL_law_1351 (by decide) (fun c_1351 => ?_) (fun h9 => absurd h9 (by decide))
  refine lv_goto (tgt := 1548) hx hb dL_law_1366 (by decide) ?_
  exact W.widen (k := cells + 1) (n := slots + 11) (by omega) (by omega) (kk _ _ _ _ _ _ _ _ (by simp (disch := omega) only [mUp, mUs]) (by simp (disch := omega) only [mUp, mUs]) hP hD hS (lv_sub hl [2, 3, 4, 5, 6] rfl))
set_option maxRecDepth 100000 in
set_option maxHeartbeats 4000000 in
theorem lc_bestMoment {p : Program} {l : Launch} {e : Env} {s : State} {m : MethodId} {args : Array Value} {below : List Frame} {meth : Method} {c : Code} {D : va_G} {cI cJ : ClassId} {sb LN : Nat} {xs : Nat → Int32} {H : Heap} {locs : List Loc} {cells slots : Nat} {Q : State → Prop} {ls : Array Slot} (E9 : lawE p l s m args c D cI cJ sb LN xs) (x0 : Nat) (a b : Nat → Nat) (f f2 : Nat → Int32) (r r2 : Nat → Nat → Int32) (q : Nat) (v : Nat → Int64) (mb : Nat → Nat) (g nw kp : Nat → Int32) (i : Nat) (hi : i + 2 < LN) (hcc : cells + 1 ≤ room_1.cells) (hss : slots + 11 ≤ room_1.slots) (hl : lv_has ls 9 [(4, .int (nI i)), (3, .ref q), (2, .ref (mb 0)), (1, .ref x0), (0, .ref sb)]) (hP : va_P D vwCl (XO x0 a b ++ (DC cI a f r ++ (DC cI b f2 r2 ++ (OUT cJ q v ++ MC cI mb g nw kp)))) H) (hD : va_D (lwA s) (XO x0 a b ++ (DC cI a f r ++ (DC cI b f2 r2 ++ (OUT cJ q v ++ MC cI mb g nw kp))))) (hS : va_S (lwA s) s.heap H locs) (gg : Nat) (x : Nat) (y : Nat) (li : Nat) (tt : Nat → Nat) (B : Nat → Int32) (hx1 : xs (i + 1) = nI x) (hx2 : xs (i + 2) = nI y) (hg : f 0 = nI gg) (hg2 : gg ≤ 10) (hg0 : 0 < gg) (ux : x < gg) (uy : y < gg) (hne : ¬ nI x = nI y) (hfree : r 4 (x * 10 + y) = -1) (hans : (mBest B 61 0 : Int32) = dBest (fun k => dFate f (r 4) x y (nI k)) 61 0) (hgm : g 1 = nI gg) (hl0 : g 2 = nI li) (hl1 : 0 < li) (hl2 : li ≤ 30) (hcode : mCode nw x y = 0) (hZm : ∀ (k : Nat) (mk en : Int32) (i : Nat), k ≤ 60 → i < k → mOk (mSecs mk (g 2) (nw, en) i).1) (hB : ∀ (k : Nat) (mk en : Int32), k ≤ 60 → (∀ i, i < tt k → 0 < (mSecs (nI (10 * x + y)) (g 2) (mSend (g 1) (mSecs mk (g 2) (nw, en) k).1 x y, (mSecs mk (g 2) (nw, en) k).2) i).1 (148 + (10 * x + y)) ∧ mOk (mSecs (nI (10 * x + y)) (g 2) (mSend (g 1) (mSecs mk (g 2) (nw, en) k).1 x y, (mSecs mk (g 2) (nw, en) k).2) i).1) ∧ ¬ 0 < (mSecs (nI (10 * x + y)) (g 2) (mSend (g 1) (mSecs mk (g 2) (nw, en) k).1 x y, (mSecs mk (g 2) (nw, en) k).2) (tt k)).1 (148 + (10 * x + y)) ∧ (mSecs (nI (10 * x + y)) (g 2) (mSend (g 1) (mSecs mk (g 2) (nw, en) k).1 x y, (mSecs mk (g 2) (nw, en) k).2) (tt k)).2 = B k)
    (kk : ∀ (f9 : Nat → Int32) (r9 : Nat → Nat → Int32) (v9 : Nat → Int64) (g9 kp9 : Nat → Int32) (H1 : Heap) (locs1 : List Loc) (ls1 : Array Slot), g9 1 = g 1 → g9 2 = g 2 → va_P D vwCl (XO x0 a b ++ (DC cI a f r ++ (DC cI b f9 r9 ++ (OUT cJ q v9 ++ MC cI mb g9 nw kp9)))) H1 → va_D (lwA s) (XO x0 a b ++ (DC cI a f r ++ (DC cI b f9 r9 ++ (OUT cJ q v9 ++ MC cI mb g9 nw kp9)))) → va_S (lwA s) s.heap H1 locs1 → lv_has ls1 9 [(4, .int (nI i)), (3, .ref q), (2, .ref (mb 0)), (1, .ref x0), (0, .ref sb)] → W p l e room_1 s m args below meth c H1 locs1 (cells + 1) (slots + 11) Q (F0 m 1548 ls1 [])) : W p l e room_1 s m args below meth c H locs cells slots Q (F0 m 1369 ls []) := by
  obtain ⟨⟨hx, hb, hml, hown, hts⟩, hN, hE, hZ, hK, hX, hbl, hlt, hLN⟩ := E9
  have hA : ∀ q : Nat, s.heap.size ≤ q → lwA s q := fun _ h => h
  have hK1 : va_K D vwCl [(cI, .int)] s := hK.sub [0] rfl
  refine lv_aload_n hx hb dL_law_1369 rfl (lv_at hl 3 rfl) ?_
  refine lv_aload_n hx hb dL_law_1370 rfl (lv_at hl 4 rfl) ?_
  refine lv_iload hx hb dL_law_1371 (lv_at hl 0 rfl) ?_
  refine lv_iconst (v := 1) hx hb dL_law_1373 (by decide) ?_
  refine lv_iadd hx hb dL_law_1374 ?_
  refine wTop (z := nI (i + 1)) (nI_add i 1) ?_
  refine wSld hx hb hX hbl hS (i + 1) (by omega) hLN hx1 dL_law_1375 ?_
  refine lv_aload_n hx hb dL_law_1376 rfl (lv_at hl 4 rfl) ?_
  refine lv_iload hx hb dL_law_1377 (lv_at hl 0 rfl) ?_
  refine lv_iconst (v := 2) hx hb dL_law_1379 (by decide) ?_
  refine lv_iadd hx hb dL_law_1380 ?_
  refine wTop (z := nI (i + 2)) (nI_add i 2) ?_
  refine wSld hx hb hX hbl hS (i + 2) (by omega) hLN hx2 dL_law_1381 ?_
  refine lv_aload_n hx hb dL_law_1382 rfl (lv_at hl 1 rfl) ?_
  refine wLW (pre := ([] : va_W)) (Wc := XO x0 a b ++ (DC cI a f r ++ (DC cI b f2 r2 ++ OUT cJ q v))) (suf := MC cI mb g nw kp) (As := [.ref x0, .int (nI x), .int (nI y), .ref q]) (rest := []) ⟨hx, hb, hml, hown, hts⟩ (mL_bestMoment l D cI cJ x0 a b f f2 r r2 q v gg x y _ hg hg2 hg0 ux uy hne hfree) hN hE hZ hA hK hS hP hD rfl (vx_cwSW 4 hts gL_law_L_bestMoment rfl rfl rfl (by decide +kernel) ⟨Nat.le_of_ble_eq_true rfl, Nat.le_of_ble_eq_true rfl⟩) rfl hl.1 rfl (Nat.le_of_ble_eq_true rfl) dL_law_1383 ⟨by omega, by omega⟩ (fun r_1383 u_1383 H locs hw hP hD hS => ?_)
  have hw : r_1383 = 0 := hw
  subst hw
  have hP : va_P D vwCl (XO x0 a b ++ (DC cI a f r ++ (DC cI b f2 r2 ++ (OUT cJ q (vp_updL v 0 ((dBest (fun k => dFate f (r 4) x y (nI k)) 61 0).toInt64)) ++ MC cI mb g nw kp)))) H := hP
  have hD : va_D (lwA s) (XO x0 a b ++ (DC cI a f r ++ (DC cI b f2 r2 ++ (OUT cJ q (vp_updL v 0 ((dBest (fun k => dFate f (r 4) x y (nI k)) 61 0).toInt64)) ++ MC cI mb g nw kp)))) := hD
  refine lv_istore (lv' := [(5, .int 0), (4, .int (nI i)), (3, .ref q), (2, .ref (mb 0)), (1, .ref x0), (0, .ref sb)]) hx hb dL_law_1386 hl (by decide) rfl (fun ls hl => ?_)
  refine lv_aload_n hx hb dL_law_1388 rfl (lv_at hl 3 rfl) ?_
  refine lv_aload_n hx hb dL_law_1389 rfl (lv_at hl 5 rfl) ?_
  refine lv_iload hx hb dL_law_1390 (lv_at hl 1 rfl) ?_
  refine lv_iconst (v := 1) hx hb dL_law_1392 (by decide) ?_
  refine lv_iadd hx hb dL_law_1393 ?_
  refine wTop (z := nI (i + 1)) (nI_add i 1) ?_
  refine wSld hx hb hX hbl hS (i + 1) (by omega) hLN hx1 dL_law_1394 ?_
  refine lv_aload_n hx hb dL_law_1395 rfl (lv_at hl 5 rfl) ?_
  refine lv_iload hx hb dL_law_1396 (lv_at hl 1 rfl) ?_
  refine lv_iconst (v := 2) hx hb dL_law_1398 (by decide) ?_
  refine lv_iadd hx hb dL_law_1399 ?_
  refine wTop (z := nI (i + 2)) (nI_add i 2) ?_
  refine wSld hx hb hX hbl hS (i + 2) (by omega) hLN hx2 dL_law_1400 ?_
  refine wCVi (pre := XO x0 a b ++ (DC cI a f r ++ (DC cI b f2 r2 ++ OUT cJ q (vp_updL v 0 ((dBest (fun k => dFate f (r 4) x y (nI k)) 61 0).toInt64))))) (Wc := MC cI mb g nw kp) (suf := ([] : va_W)) (As := [.int (nI x), .int (nI y)]) (rest := []) ⟨hx, hb, hml, hown, hts⟩ (mX2_bestMoment l D cI mb g nw kp gg li x y tt B _ hgm hg2 hg0 hl0 hl1 hl2 ux uy hcode hZm hB) hN hA hK1 hS hP hD rfl 0 (r := (RX2, TX2, 7)) rfl rfl (cwV 2 hts gL_law_X2_bestMoment rfl rfl rfl (by decide +kernel) ⟨Nat.le_of_ble_eq_true rfl, Nat.le_of_ble_eq_true rfl⟩) rfl hl.1 rfl (Nat.le_of_ble_eq_true rfl) dL_law_1401 ⟨by omega, by omega⟩ (fun r_1401 u_1401 H locs hw hP hD hS => ?_)
  have hw : r_1401 = mBest B 61 0 := hw
  subst hw
  have hP : va_P D vwCl (XO x0 a b ++ (DC cI a f r ++ (DC cI b f2 r2 ++ (OUT cJ q (vp_updL v 0 ((dBest (fun k => dFate f (r 4) x y (nI k)) 61 0).toInt64)) ++ MC cI mb (upd (upd (upd g 0 (mCode nw x y)) 5 u_1401.1) 6 u_1401.2) nw nw)))) H := hP
  have hD : va_D (lwA s) (XO x0 a b ++ (DC cI a f r ++ (DC cI b f2 r2 ++ (OUT cJ q (vp_updL v 0 ((dBest (fun k => dFate f (r 4) x y (nI k)) 61 0).toInt64)) ++ MC cI mb (upd (upd (upd g 0 (mCode nw x y)) 5 u_1401.1) 6 u_1401.2) nw nw)))) := hD
  refine wTop (z := (dBest (fun k => dFate f (r 4) x y (nI k)) 61 0)) (hans) ?_
  refine lv_istore (lv' := [(6, .int (dBest (fun k => dFate f (r 4) x y (nI k)) 61 0)), (5, .int 0), (4, .int (nI i)), (3, .ref q), (2, .ref (mb 0)), (1, .ref x0), (0, .ref sb)]) hx hb dL_law_1404 hl (by decide) rfl (fun ls hl => ?_)
  refine lv_aload_n hx hb dL_law_1406 rfl (lv_at hl 4 rfl) ?_
  refine wCVi (pre := XO x0 a b ++ (DC cI a f r ++ (DC cI b f2 r2 ++ OUT cJ q (vp_updL v 0 ((dBest (fun k => dFate f (r 4) x y (nI k)) 61 0).toInt64))))) (Wc := MC cI mb (upd (upd (upd g 0 (mCode nw x y)) 5 u_1401.1) 6 u_1401.2) nw nw) (suf := ([] : va_W)) (As := []) (rest := []) ⟨hx, hb, hml, hown, hts⟩ (mX2_thrown l D cI mb (upd (upd (upd g 0 (mCode nw x y)) 5 u_1401.1) 6 u_1401.2) nw nw _ ) hN hA hK1 hS hP hD rfl 0 (r := (RX2, TX2, 7)) rfl rfl (cwV 0 hts gL_law_X2_thrown rfl rfl rfl (by decide +kernel) ⟨Nat.le_of_ble_eq_true rfl, Nat.le_of_ble_eq_true rfl⟩) rfl hl.1 rfl (Nat.le_of_ble_eq_true rfl) dL_law_1407 ⟨by omega, by omega⟩ (fun r_1407 u_1407 H locs hw hP hD hS => ?_)
  have hw : r_1407 = (upd (upd (upd g 0 (mCode nw x y)) 5 u_1401.1) 6 u_1401.2) 0 := hw
  subst hw
  have hP : va_P D vwCl (XO x0 a b ++ (DC cI a f r ++ (DC cI b f2 r2 ++ (OUT cJ q (vp_updL v 0 ((dBest (fun k => dFate f (r 4) x y (nI k)) 61 0).toInt64)) ++ MC cI mb (upd (upd (upd g 0 (mCode nw x y)) 5 u_1401.1) 6 u_1401.2) nw nw)))) H := hP
  have hD : va_D (lwA s) (XO x0 a b ++ (DC cI a f r ++ (DC cI b f2 r2 ++ (OUT cJ q (vp_updL v 0 ((dBest (fun k => dFate f (r 4) x y (nI k)) 61 0).toInt64)) ++ MC cI mb (upd (upd (upd g 0 (mCode nw x y)) 5 u_1401.1) 6 u_1401.2) nw nw)))) := hD
  refine wTop (z := 0) (by simp (disch := omega) only [mUp, mUs]; exact hcode) ?_
  refine lv_iload hx hb dL_law_1410 (lv_at hl 1 rfl) ?_
  refine lv_icmp_eq (tgt := 1417) hx hb dL_law_1412 (by decide) (fun c_1412 => ?_) (fun h9 => absurd (by decide) h9)
  refine lv_iload hx hb dL_law_1417 (lv_at hl 1 rfl) ?_
  refine lv_if_ne (tgt := 1434) hx hb dL_law_1419 (by decide) (fun h9 => absurd (by decide) h9) (fun c_1419 => ?_)
  refine lv_aload_n hx hb dL_law_1422 rfl (lv_at hl 3 rfl) ?_
  refine lv_iconst (v := 0) hx hb dL_law_1423 (by decide) ?_
  refine wLald hx hb hK hP 17 1 rfl rfl (z := ((dBest (fun k => dFate f (r 4) x y (nI k)) 61 0).toInt64)) (pk_uLs) dL_law_1424 ?_
  refine lv_iload hx hb dL_law_1425 (lv_at hl 0 rfl) ?_
  refine lv_i2l hx hb dL_law_1427 rfl ?_
  refine W.lcmp hx hb dL_law_1428 ?_
  refine wTop (z := 0) (lcmp_self _) ?_
  refine lv_if_eq (tgt := 1434) hx hb dL_law_1429 (by decide) (fun c_1429 => ?_) (fun h9 => absurd (by decide) h9)
  refine lv_goto (tgt := 1548) hx hb dL_law_1434 (by decide) ?_
  exact W.widen (k := cells + 1) (n := slots + 11) (by omega) (by omega) (kk _ _ _ _ _ _ _ _ (by simp (disch := omega) only [mUp, mUs]) (by simp (disch := omega) only [mUp, mUs]) hP hD hS (lv_sub hl [2, 3, 4, 5, 6] rfl))
set_option maxRecDepth 100000 in
set_option maxHeartbeats 4000000 in
theorem lc_bestMoment1 {p : Program} {l : Launch} {e : Env} {s : State} {m : MethodId} {args : Array Value} {below : List Frame} {meth : Method} {c : Code} {D : va_G} {cI cJ : ClassId} {sb LN : Nat} {xs : Nat → Int32} {H : Heap} {locs : List Loc} {cells slots : Nat} {Q : State → Prop} {ls : Array Slot} (E9 : lawE p l s m args c D cI cJ sb LN xs) (x0 : Nat) (a b : Nat → Nat) (f f2 : Nat → Int32) (r r2 : Nat → Nat → Int32) (q : Nat) (v : Nat → Int64) (mb : Nat → Nat) (g nw kp : Nat → Int32) (i : Nat) (hi : i + 2 < LN) (hcc : cells + 1 ≤ room_1.cells) (hss : slots + 11 ≤ room_1.slots) (hl : lv_has ls 9 [(4, .int (nI i)), (3, .ref q), (2, .ref (mb 0)), (1, .ref x0), (0, .ref sb)]) (hP : va_P D vwCl (XO x0 a b ++ (DC cI a f r ++ (DC cI b f2 r2 ++ (OUT cJ q v ++ MC cI mb g nw kp)))) H) (hD : va_D (lwA s) (XO x0 a b ++ (DC cI a f r ++ (DC cI b f2 r2 ++ (OUT cJ q v ++ MC cI mb g nw kp))))) (hS : va_S (lwA s) s.heap H locs) (x : Int32) (y : Int32) (gg : Nat) (hx1 : xs (i + 1) = x) (hx2 : xs (i + 2) = y) (hbad : x < 0 ∨ f 0 ≤ x) (hg : g 1 = nI gg) (hg2 : gg ≤ 10) (hg0 : 0 < gg) (hbadm : ¬ (0 ≤ x ∧ x < nI gg) ∨ ¬ (0 ≤ y ∧ y < nI gg))
    (kk : ∀ (f9 : Nat → Int32) (r9 : Nat → Nat → Int32) (v9 : Nat → Int64) (g9 kp9 : Nat → Int32) (H1 : Heap) (locs1 : List Loc) (ls1 : Array Slot), g9 1 = g 1 → g9 2 = g 2 → va_P D vwCl (XO x0 a b ++ (DC cI a f r ++ (DC cI b f9 r9 ++ (OUT cJ q v9 ++ MC cI mb g9 nw kp9)))) H1 → va_D (lwA s) (XO x0 a b ++ (DC cI a f r ++ (DC cI b f9 r9 ++ (OUT cJ q v9 ++ MC cI mb g9 nw kp9)))) → va_S (lwA s) s.heap H1 locs1 → lv_has ls1 9 [(4, .int (nI i)), (3, .ref q), (2, .ref (mb 0)), (1, .ref x0), (0, .ref sb)] → W p l e room_1 s m args below meth c H1 locs1 (cells + 1) (slots + 11) Q (F0 m 1548 ls1 [])) : W p l e room_1 s m args below meth c H locs cells slots Q (F0 m 1369 ls []) := by
  obtain ⟨⟨hx, hb, hml, hown, hts⟩, hN, hE, hZ, hK, hX, hbl, hlt, hLN⟩ := E9
  have hA : ∀ q : Nat, s.heap.size ≤ q → lwA s q := fun _ h => h
  have hK1 : va_K D vwCl [(cI, .int)] s := hK.sub [0] rfl
  refine lv_aload_n hx hb dL_law_1369 rfl (lv_at hl 3 rfl) ?_
  refine lv_aload_n hx hb dL_law_1370 rfl (lv_at hl 4 rfl) ?_
  refine lv_iload hx hb dL_law_1371 (lv_at hl 0 rfl) ?_
  refine lv_iconst (v := 1) hx hb dL_law_1373 (by decide) ?_
  refine lv_iadd hx hb dL_law_1374 ?_
  refine wTop (z := nI (i + 1)) (nI_add i 1) ?_
  refine wSld hx hb hX hbl hS (i + 1) (by omega) hLN hx1 dL_law_1375 ?_
  refine lv_aload_n hx hb dL_law_1376 rfl (lv_at hl 4 rfl) ?_
  refine lv_iload hx hb dL_law_1377 (lv_at hl 0 rfl) ?_
  refine lv_iconst (v := 2) hx hb dL_law_1379 (by decide) ?_
  refine lv_iadd hx hb dL_law_1380 ?_
  refine wTop (z := nI (i + 2)) (nI_add i 2) ?_
  refine wSld hx hb hX hbl hS (i + 2) (by omega) hLN hx2 dL_law_1381 ?_
  refine lv_aload_n hx hb dL_law_1382 rfl (lv_at hl 1 rfl) ?_
  refine wLW (pre := ([] : va_W)) (Wc := XO x0 a b ++ (DC cI a f r ++ (DC cI b f2 r2 ++ OUT cJ q v))) (suf := MC cI mb g nw kp) (As := [.ref x0, .int x, .int y, .ref q]) (rest := []) ⟨hx, hb, hml, hown, hts⟩ (mL_bestMoment1 l D cI cJ x0 a b f f2 r r2 q v x y _ hlt hbad) hN hE hZ hA hK hS hP hD rfl (vx_cwSW 4 hts gL_law_L_bestMoment rfl rfl rfl (by decide +kernel) ⟨Nat.le_of_ble_eq_true rfl, Nat.le_of_ble_eq_true rfl⟩) rfl hl.1 rfl (Nat.le_of_ble_eq_true rfl) dL_law_1383 ⟨by omega, by omega⟩ (fun r_1383 u_1383 H locs hw hP hD hS => ?_)
  have hw : r_1383 = 1 := hw
  subst hw
  have hP : va_P D vwCl (XO x0 a b ++ (DC cI a f r ++ (DC cI b f2 r2 ++ (OUT cJ q v ++ MC cI mb g nw kp)))) H := hP
  have hD : va_D (lwA s) (XO x0 a b ++ (DC cI a f r ++ (DC cI b f2 r2 ++ (OUT cJ q v ++ MC cI mb g nw kp)))) := hD
  refine lv_istore (lv' := [(5, .int 1), (4, .int (nI i)), (3, .ref q), (2, .ref (mb 0)), (1, .ref x0), (0, .ref sb)]) hx hb dL_law_1386 hl (by decide) rfl (fun ls hl => ?_)
  refine lv_aload_n hx hb dL_law_1388 rfl (lv_at hl 3 rfl) ?_
  refine lv_aload_n hx hb dL_law_1389 rfl (lv_at hl 5 rfl) ?_
  refine lv_iload hx hb dL_law_1390 (lv_at hl 1 rfl) ?_
  refine lv_iconst (v := 1) hx hb dL_law_1392 (by decide) ?_
  refine lv_iadd hx hb dL_law_1393 ?_
  refine wTop (z := nI (i + 1)) (nI_add i 1) ?_
  refine wSld hx hb hX hbl hS (i + 1) (by omega) hLN hx1 dL_law_1394 ?_
  refine lv_aload_n hx hb dL_law_1395 rfl (lv_at hl 5 rfl) ?_
  refine lv_iload hx hb dL_law_1396 (lv_at hl 1 rfl) ?_
  refine lv_iconst (v := 2) hx hb dL_law_1398 (by decide) ?_
  refine lv_iadd hx hb dL_law_1399 ?_
  refine wTop (z := nI (i + 2)) (nI_add i 2) ?_
  refine wSld hx hb hX hbl hS (i + 2) (by omega) hLN hx2 dL_law_1400 ?_
  refine wCVi (pre := XO x0 a b ++ (DC cI a f r ++ (DC cI b f2 r2 ++ OUT cJ q v))) (Wc := MC cI mb g nw kp) (suf := ([] : va_W)) (As := [.int x, .int y]) (rest := []) ⟨hx, hb, hml, hown, hts⟩ (mX2_bestMoment1 l D cI mb g nw kp gg x y _ hg hg2 hg0 hbadm) hN hA hK1 hS hP hD rfl 0 (r := (RX2, TX2, 7)) rfl rfl (cwV 2 hts gL_law_X2_bestMoment rfl rfl rfl (by decide +kernel) ⟨Nat.le_of_ble_eq_true rfl, Nat.le_of_ble_eq_true rfl⟩) rfl hl.1 rfl (Nat.le_of_ble_eq_true rfl) dL_law_1401 ⟨by omega, by omega⟩ (fun r_1401 u_1401 H locs hw hP hD hS => ?_)
  have hw : r_1401 = 0 := hw
  subst hw
  have hP : va_P D vwCl (XO x0 a b ++ (DC cI a f r ++ (DC cI b f2 r2 ++ (OUT cJ q v ++ MC cI mb (upd g 0 1) nw kp)))) H := hP
  have hD : va_D (lwA s) (XO x0 a b ++ (DC cI a f r ++ (DC cI b f2 r2 ++ (OUT cJ q v ++ MC cI mb (upd g 0 1) nw kp)))) := hD
  refine lv_istore (lv' := [(6, .int 0), (5, .int 1), (4, .int (nI i)), (3, .ref q), (2, .ref (mb 0)), (1, .ref x0), (0, .ref sb)]) hx hb dL_law_1404 hl (by decide) rfl (fun ls hl => ?_)
  refine lv_aload_n hx hb dL_law_1406 rfl (lv_at hl 4 rfl) ?_
  refine wCVi (pre := XO x0 a b ++ (DC cI a f r ++ (DC cI b f2 r2 ++ OUT cJ q v))) (Wc := MC cI mb (upd g 0 1) nw kp) (suf := ([] : va_W)) (As := []) (rest := []) ⟨hx, hb, hml, hown, hts⟩ (mX2_thrown l D cI mb (upd g 0 1) nw kp _ ) hN hA hK1 hS hP hD rfl 0 (r := (RX2, TX2, 7)) rfl rfl (cwV 0 hts gL_law_X2_thrown rfl rfl rfl (by decide +kernel) ⟨Nat.le_of_ble_eq_true rfl, Nat.le_of_ble_eq_true rfl⟩) rfl hl.1 rfl (Nat.le_of_ble_eq_true rfl) dL_law_1407 ⟨by omega, by omega⟩ (fun r_1407 u_1407 H locs hw hP hD hS => ?_)
  have hw : r_1407 = (upd g 0 1) 0 := hw
  subst hw
  have hP : va_P D vwCl (XO x0 a b ++ (DC cI a f r ++ (DC cI b f2 r2 ++ (OUT cJ q v ++ MC cI mb (upd g 0 1) nw kp)))) H := hP
  have hD : va_D (lwA s) (XO x0 a b ++ (DC cI a f r ++ (DC cI b f2 r2 ++ (OUT cJ q v ++ MC cI mb (upd g 0 1) nw kp)))) := hD
  refine wTop (z := 1) (by simp (disch := omega) only [mUp, mUs]) ?_
  refine lv_iload hx hb dL_law_1410 (lv_at hl 1 rfl) ?_
  refine lv_icmp_eq (tgt := 1417) hx hb dL_law_1412 (by decide) (fun c_1412 => ?_) (fun h9 => absurd (by decide) h9)
  refine lv_iload hx hb dL_law_1417 (lv_at hl 1 rfl) ?_
  refine lv_if_ne (tgt := 1434) hx hb dL_law_1419 (by decide) (fun c_1419 => ?_) (fun h9 => absurd h9 (by decide))
  refine lv_goto (tgt := 1548) hx hb dL_law_1434 (by decide) ?_
  exact W.widen (k := cells + 1) (n := slots + 11) (by omega) (by omega) (kk _ _ _ _ _ _ _ _ (by simp (disch := omega) only [mUp, mUs]) (by simp (disch := omega) only [mUp, mUs]) hP hD hS (lv_sub hl [2, 3, 4, 5, 6] rfl))
set_option maxRecDepth 100000 in
set_option maxHeartbeats 4000000 in
theorem lc_bestMoment2 {p : Program} {l : Launch} {e : Env} {s : State} {m : MethodId} {args : Array Value} {below : List Frame} {meth : Method} {c : Code} {D : va_G} {cI cJ : ClassId} {sb LN : Nat} {xs : Nat → Int32} {H : Heap} {locs : List Loc} {cells slots : Nat} {Q : State → Prop} {ls : Array Slot} (E9 : lawE p l s m args c D cI cJ sb LN xs) (x0 : Nat) (a b : Nat → Nat) (f f2 : Nat → Int32) (r r2 : Nat → Nat → Int32) (q : Nat) (v : Nat → Int64) (mb : Nat → Nat) (g nw kp : Nat → Int32) (i : Nat) (hi : i + 2 < LN) (hcc : cells + 1 ≤ room_1.cells) (hss : slots + 11 ≤ room_1.slots) (hl : lv_has ls 9 [(4, .int (nI i)), (3, .ref q), (2, .ref (mb 0)), (1, .ref x0), (0, .ref sb)]) (hP : va_P D vwCl (XO x0 a b ++ (DC cI a f r ++ (DC cI b f2 r2 ++ (OUT cJ q v ++ MC cI mb g nw kp)))) H) (hD : va_D (lwA s) (XO x0 a b ++ (DC cI a f r ++ (DC cI b f2 r2 ++ (OUT cJ q v ++ MC cI mb g nw kp))))) (hS : va_S (lwA s) s.heap H locs) (gg : Nat) (x : Nat) (y : Int32) (hx1 : xs (i + 1) = nI x) (hx2 : xs (i + 2) = y) (hg : f 0 = nI gg) (hg2 : gg ≤ 10) (hg0 : 0 < gg) (ux : x < gg) (hbad : y < 0 ∨ f 0 ≤ y) (hgm : g 1 = nI gg) (hbadm : ¬ (0 ≤ (nI x) ∧ (nI x) < nI gg) ∨ ¬ (0 ≤ y ∧ y < nI gg))
    (kk : ∀ (f9 : Nat → Int32) (r9 : Nat → Nat → Int32) (v9 : Nat → Int64) (g9 kp9 : Nat → Int32) (H1 : Heap) (locs1 : List Loc) (ls1 : Array Slot), g9 1 = g 1 → g9 2 = g 2 → va_P D vwCl (XO x0 a b ++ (DC cI a f r ++ (DC cI b f9 r9 ++ (OUT cJ q v9 ++ MC cI mb g9 nw kp9)))) H1 → va_D (lwA s) (XO x0 a b ++ (DC cI a f r ++ (DC cI b f9 r9 ++ (OUT cJ q v9 ++ MC cI mb g9 nw kp9)))) → va_S (lwA s) s.heap H1 locs1 → lv_has ls1 9 [(4, .int (nI i)), (3, .ref q), (2, .ref (mb 0)), (1, .ref x0), (0, .ref sb)] → W p l e room_1 s m args below meth c H1 locs1 (cells + 1) (slots + 11) Q (F0 m 1548 ls1 [])) : W p l e room_1 s m args below meth c H locs cells slots Q (F0 m 1369 ls []) := by
  obtain ⟨⟨hx, hb, hml, hown, hts⟩, hN, hE, hZ, hK, hX, hbl, hlt, hLN⟩ := E9
  have hA : ∀ q : Nat, s.heap.size ≤ q → lwA s q := fun _ h => h
  have hK1 : va_K D vwCl [(cI, .int)] s := hK.sub [0] rfl
  refine lv_aload_n hx hb dL_law_1369 rfl (lv_at hl 3 rfl) ?_
  refine lv_aload_n hx hb dL_law_1370 rfl (lv_at hl 4 rfl) ?_
  refine lv_iload hx hb dL_law_1371 (lv_at hl 0 rfl) ?_
  refine lv_iconst (v := 1) hx hb dL_law_1373 (by decide) ?_
  refine lv_iadd hx hb dL_law_1374 ?_
  refine wTop (z := nI (i + 1)) (nI_add i 1) ?_
  refine wSld hx hb hX hbl hS (i + 1) (by omega) hLN hx1 dL_law_1375 ?_
  refine lv_aload_n hx hb dL_law_1376 rfl (lv_at hl 4 rfl) ?_
  refine lv_iload hx hb dL_law_1377 (lv_at hl 0 rfl) ?_
  refine lv_iconst (v := 2) hx hb dL_law_1379 (by decide) ?_
  refine lv_iadd hx hb dL_law_1380 ?_
  refine wTop (z := nI (i + 2)) (nI_add i 2) ?_
  refine wSld hx hb hX hbl hS (i + 2) (by omega) hLN hx2 dL_law_1381 ?_
  refine lv_aload_n hx hb dL_law_1382 rfl (lv_at hl 1 rfl) ?_
  refine wLW (pre := ([] : va_W)) (Wc := XO x0 a b ++ (DC cI a f r ++ (DC cI b f2 r2 ++ OUT cJ q v))) (suf := MC cI mb g nw kp) (As := [.ref x0, .int (nI x), .int y, .ref q]) (rest := []) ⟨hx, hb, hml, hown, hts⟩ (mL_bestMoment2 l D cI cJ x0 a b f f2 r r2 q v gg x y _ hlt hg hg2 hg0 ux hbad) hN hE hZ hA hK hS hP hD rfl (vx_cwSW 4 hts gL_law_L_bestMoment rfl rfl rfl (by decide +kernel) ⟨Nat.le_of_ble_eq_true rfl, Nat.le_of_ble_eq_true rfl⟩) rfl hl.1 rfl (Nat.le_of_ble_eq_true rfl) dL_law_1383 ⟨by omega, by omega⟩ (fun r_1383 u_1383 H locs hw hP hD hS => ?_)
  have hw : r_1383 = 1 := hw
  subst hw
  have hP : va_P D vwCl (XO x0 a b ++ (DC cI a f r ++ (DC cI b f2 r2 ++ (OUT cJ q v ++ MC cI mb g nw kp)))) H := hP
  have hD : va_D (lwA s) (XO x0 a b ++ (DC cI a f r ++ (DC cI b f2 r2 ++ (OUT cJ q v ++ MC cI mb g nw kp)))) := hD
  refine lv_istore (lv' := [(5, .int 1), (4, .int (nI i)), (3, .ref q), (2, .ref (mb 0)), (1, .ref x0), (0, .ref sb)]) hx hb dL_law_1386 hl (by decide) rfl (fun ls hl => ?_)
  refine lv_aload_n hx hb dL_law_1388 rfl (lv_at hl 3 rfl) ?_
  refine lv_aload_n hx hb dL_law_1389 rfl (lv_at hl 5 rfl) ?_
  refine lv_iload hx hb dL_law_1390 (lv_at hl 1 rfl) ?_
  refine lv_iconst (v := 1) hx hb dL_law_1392 (by decide) ?_
  refine lv_iadd hx hb dL_law_1393 ?_
  refine wTop (z := nI (i + 1)) (nI_add i 1) ?_
  refine wSld hx hb hX hbl hS (i + 1) (by omega) hLN hx1 dL_law_1394 ?_
  refine lv_aload_n hx hb dL_law_1395 rfl (lv_at hl 5 rfl) ?_
  refine lv_iload hx hb dL_law_1396 (lv_at hl 1 rfl) ?_
  refine lv_iconst (v := 2) hx hb dL_law_1398 (by decide) ?_
  refine lv_iadd hx hb dL_law_1399 ?_
  refine wTop (z := nI (i + 2)) (nI_add i 2) ?_
  refine wSld hx hb hX hbl hS (i + 2) (by omega) hLN hx2 dL_law_1400 ?_
  refine wCVi (pre := XO x0 a b ++ (DC cI a f r ++ (DC cI b f2 r2 ++ OUT cJ q v))) (Wc := MC cI mb g nw kp) (suf := ([] : va_W)) (As := [.int (nI x), .int y]) (rest := []) ⟨hx, hb, hml, hown, hts⟩ (mX2_bestMoment1 l D cI mb g nw kp gg (nI x) y _ hgm hg2 hg0 hbadm) hN hA hK1 hS hP hD rfl 0 (r := (RX2, TX2, 7)) rfl rfl (cwV 2 hts gL_law_X2_bestMoment rfl rfl rfl (by decide +kernel) ⟨Nat.le_of_ble_eq_true rfl, Nat.le_of_ble_eq_true rfl⟩) rfl hl.1 rfl (Nat.le_of_ble_eq_true rfl) dL_law_1401 ⟨by omega, by omega⟩ (fun r_1401 u_1401 H locs hw hP hD hS => ?_)
  have hw : r_1401 = 0 := hw
  subst hw
  have hP : va_P D vwCl (XO x0 a b ++ (DC cI a f r ++ (DC cI b f2 r2 ++ (OUT cJ q v ++ MC cI mb (upd g 0 1) nw kp)))) H := hP
  have hD : va_D (lwA s) (XO x0 a b ++ (DC cI a f r ++ (DC cI b f2 r2 ++ (OUT cJ q v ++ MC cI mb (upd g 0 1) nw kp)))) := hD
  refine lv_istore (lv' := [(6, .int 0), (5, .int 1), (4, .int (nI i)), (3, .ref q), (2, .ref (mb 0)), (1, .ref x0), (0, .ref sb)]) hx hb dL_law_1404 hl (by decide) rfl (fun ls hl => ?_)
  refine lv_aload_n hx hb dL_law_1406 rfl (lv_at hl 4 rfl) ?_
  refine wCVi (pre := XO x0 a b ++ (DC cI a f r ++ (DC cI b f2 r2 ++ OUT cJ q v))) (Wc := MC cI mb (upd g 0 1) nw kp) (suf := ([] : va_W)) (As := []) (rest := []) ⟨hx, hb, hml, hown, hts⟩ (mX2_thrown l D cI mb (upd g 0 1) nw kp _ ) hN hA hK1 hS hP hD rfl 0 (r := (RX2, TX2, 7)) rfl rfl (cwV 0 hts gL_law_X2_thrown rfl rfl rfl (by decide +kernel) ⟨Nat.le_of_ble_eq_true rfl, Nat.le_of_ble_eq_true rfl⟩) rfl hl.1 rfl (Nat.le_of_ble_eq_true rfl) dL_law_1407 ⟨by omega, by omega⟩ (fun r_1407 u_1407 H locs hw hP hD hS => ?_)
  have hw : r_1407 = (upd g 0 1) 0 := hw
  subst hw
  have hP : va_P D vwCl (XO x0 a b ++ (DC cI a f r ++ (DC cI b f2 r2 ++ (OUT cJ q v ++ MC cI mb (upd g 0 1) nw kp)))) H := hP
  have hD : va_D (lwA s) (XO x0 a b ++ (DC cI a f r ++ (DC cI b f2 r2 ++ (OUT cJ q v ++ MC cI mb (upd g 0 1) nw kp)))) := hD
  refine wTop (z := 1) (by simp (disch := omega) only [mUp, mUs]) ?_
  refine lv_iload hx hb dL_law_1410 (lv_at hl 1 rfl) ?_
  refine lv_icmp_eq (tgt := 1417) hx hb dL_law_1412 (by decide) (fun c_1412 => ?_) (fun h9 => absurd (by decide) h9)
  refine lv_iload hx hb dL_law_1417 (lv_at hl 1 rfl) ?_
  refine lv_if_ne (tgt := 1434) hx hb dL_law_1419 (by decide) (fun c_1419 => ?_) (fun h9 => absurd h9 (by decide))
  refine lv_goto (tgt := 1548) hx hb dL_law_1434 (by decide) ?_
  exact W.widen (k := cells + 1) (n := slots + 11) (by omega) (by omega) (kk _ _ _ _ _ _ _ _ (by simp (disch := omega) only [mUp, mUs]) (by simp (disch := omega) only [mUp, mUs]) hP hD hS (lv_sub hl [2, 3, 4, 5, 6] rfl))
set_option maxRecDepth 100000 in
set_option maxHeartbeats 4000000 in
theorem lc_bestMoment3 {p : Program} {l : Launch} {e : Env} {s : State} {m : MethodId} {args : Array Value} {below : List Frame} {meth : Method} {c : Code} {D : va_G} {cI cJ : ClassId} {sb LN : Nat} {xs : Nat → Int32} {H : Heap} {locs : List Loc} {cells slots : Nat} {Q : State → Prop} {ls : Array Slot} (E9 : lawE p l s m args c D cI cJ sb LN xs) (x0 : Nat) (a b : Nat → Nat) (f f2 : Nat → Int32) (r r2 : Nat → Nat → Int32) (q : Nat) (v : Nat → Int64) (mb : Nat → Nat) (g nw kp : Nat → Int32) (i : Nat) (hi : i + 2 < LN) (hcc : cells + 1 ≤ room_1.cells) (hss : slots + 11 ≤ room_1.slots) (hl : lv_has ls 9 [(4, .int (nI i)), (3, .ref q), (2, .ref (mb 0)), (1, .ref x0), (0, .ref sb)]) (hP : va_P D vwCl (XO x0 a b ++ (DC cI a f r ++ (DC cI b f2 r2 ++ (OUT cJ q v ++ MC cI mb g nw kp)))) H) (hD : va_D (lwA s) (XO x0 a b ++ (DC cI a f r ++ (DC cI b f2 r2 ++ (OUT cJ q v ++ MC cI mb g nw kp))))) (hS : va_S (lwA s) s.heap H locs) (gg : Nat) (x : Nat) (hx1 : xs (i + 1) = nI x) (hx2 : xs (i + 2) = nI x) (hg : f 0 = nI gg) (hg2 : gg ≤ 10) (hg0 : 0 < gg) (ux : x < gg) (hcd : mCode nw x x = 2) (hgm : g 1 = nI gg) (hcode : ¬ mCode nw x x = 0)
    (kk : ∀ (f9 : Nat → Int32) (r9 : Nat → Nat → Int32) (v9 : Nat → Int64) (g9 kp9 : Nat → Int32) (H1 : Heap) (locs1 : List Loc) (ls1 : Array Slot), g9 1 = g 1 → g9 2 = g 2 → va_P D vwCl (XO x0 a b ++ (DC cI a f r ++ (DC cI b f9 r9 ++ (OUT cJ q v9 ++ MC cI mb g9 nw kp9)))) H1 → va_D (lwA s) (XO x0 a b ++ (DC cI a f r ++ (DC cI b f9 r9 ++ (OUT cJ q v9 ++ MC cI mb g9 nw kp9)))) → va_S (lwA s) s.heap H1 locs1 → lv_has ls1 9 [(4, .int (nI i)), (3, .ref q), (2, .ref (mb 0)), (1, .ref x0), (0, .ref sb)] → W p l e room_1 s m args below meth c H1 locs1 (cells + 1) (slots + 11) Q (F0 m 1548 ls1 [])) : W p l e room_1 s m args below meth c H locs cells slots Q (F0 m 1369 ls []) := by
  obtain ⟨⟨hx, hb, hml, hown, hts⟩, hN, hE, hZ, hK, hX, hbl, hlt, hLN⟩ := E9
  have hA : ∀ q : Nat, s.heap.size ≤ q → lwA s q := fun _ h => h
  have hK1 : va_K D vwCl [(cI, .int)] s := hK.sub [0] rfl
  refine lv_aload_n hx hb dL_law_1369 rfl (lv_at hl 3 rfl) ?_
  refine lv_aload_n hx hb dL_law_1370 rfl (lv_at hl 4 rfl) ?_
  refine lv_iload hx hb dL_law_1371 (lv_at hl 0 rfl) ?_
  refine lv_iconst (v := 1) hx hb dL_law_1373 (by decide) ?_
  refine lv_iadd hx hb dL_law_1374 ?_
  refine wTop (z := nI (i + 1)) (nI_add i 1) ?_
  refine wSld hx hb hX hbl hS (i + 1) (by omega) hLN hx1 dL_law_1375 ?_
  refine lv_aload_n hx hb dL_law_1376 rfl (lv_at hl 4 rfl) ?_
  refine lv_iload hx hb dL_law_1377 (lv_at hl 0 rfl) ?_
  refine lv_iconst (v := 2) hx hb dL_law_1379 (by decide) ?_
  refine lv_iadd hx hb dL_law_1380 ?_
  refine wTop (z := nI (i + 2)) (nI_add i 2) ?_
  refine wSld hx hb hX hbl hS (i + 2) (by omega) hLN hx2 dL_law_1381 ?_
  refine lv_aload_n hx hb dL_law_1382 rfl (lv_at hl 1 rfl) ?_
  refine wLW (pre := ([] : va_W)) (Wc := XO x0 a b ++ (DC cI a f r ++ (DC cI b f2 r2 ++ OUT cJ q v))) (suf := MC cI mb g nw kp) (As := [.ref x0, .int (nI x), .int (nI x), .ref q]) (rest := []) ⟨hx, hb, hml, hown, hts⟩ (mL_bestMoment3 l D cI cJ x0 a b f f2 r r2 q v gg x _ hlt hg hg2 hg0 ux) hN hE hZ hA hK hS hP hD rfl (vx_cwSW 4 hts gL_law_L_bestMoment rfl rfl rfl (by decide +kernel) ⟨Nat.le_of_ble_eq_true rfl, Nat.le_of_ble_eq_true rfl⟩) rfl hl.1 rfl (Nat.le_of_ble_eq_true rfl) dL_law_1383 ⟨by omega, by omega⟩ (fun r_1383 u_1383 H locs hw hP hD hS => ?_)
  have hw : r_1383 = 2 := hw
  subst hw
  have hP : va_P D vwCl (XO x0 a b ++ (DC cI a f r ++ (DC cI b f2 r2 ++ (OUT cJ q v ++ MC cI mb g nw kp)))) H := hP
  have hD : va_D (lwA s) (XO x0 a b ++ (DC cI a f r ++ (DC cI b f2 r2 ++ (OUT cJ q v ++ MC cI mb g nw kp)))) := hD
  refine lv_istore (lv' := [(5, .int 2), (4, .int (nI i)), (3, .ref q), (2, .ref (mb 0)), (1, .ref x0), (0, .ref sb)]) hx hb dL_law_1386 hl (by decide) rfl (fun ls hl => ?_)
  refine lv_aload_n hx hb dL_law_1388 rfl (lv_at hl 3 rfl) ?_
  refine lv_aload_n hx hb dL_law_1389 rfl (lv_at hl 5 rfl) ?_
  refine lv_iload hx hb dL_law_1390 (lv_at hl 1 rfl) ?_
  refine lv_iconst (v := 1) hx hb dL_law_1392 (by decide) ?_
  refine lv_iadd hx hb dL_law_1393 ?_
  refine wTop (z := nI (i + 1)) (nI_add i 1) ?_
  refine wSld hx hb hX hbl hS (i + 1) (by omega) hLN hx1 dL_law_1394 ?_
  refine lv_aload_n hx hb dL_law_1395 rfl (lv_at hl 5 rfl) ?_
  refine lv_iload hx hb dL_law_1396 (lv_at hl 1 rfl) ?_
  refine lv_iconst (v := 2) hx hb dL_law_1398 (by decide) ?_
  refine lv_iadd hx hb dL_law_1399 ?_
  refine wTop (z := nI (i + 2)) (nI_add i 2) ?_
  refine wSld hx hb hX hbl hS (i + 2) (by omega) hLN hx2 dL_law_1400 ?_
  refine wCVi (pre := XO x0 a b ++ (DC cI a f r ++ (DC cI b f2 r2 ++ OUT cJ q v))) (Wc := MC cI mb g nw kp) (suf := ([] : va_W)) (As := [.int (nI x), .int (nI x)]) (rest := []) ⟨hx, hb, hml, hown, hts⟩ (mX2_bestMoment2 l D cI mb g nw kp gg x x _ hgm hg2 hg0 ux ux hcode) hN hA hK1 hS hP hD rfl 0 (r := (RX2, TX2, 7)) rfl rfl (cwV 2 hts gL_law_X2_bestMoment rfl rfl rfl (by decide +kernel) ⟨Nat.le_of_ble_eq_true rfl, Nat.le_of_ble_eq_true rfl⟩) rfl hl.1 rfl (Nat.le_of_ble_eq_true rfl) dL_law_1401 ⟨by omega, by omega⟩ (fun r_1401 u_1401 H locs hw hP hD hS => ?_)
  have hw : r_1401 = 0 := hw
  subst hw
  have hP : va_P D vwCl (XO x0 a b ++ (DC cI a f r ++ (DC cI b f2 r2 ++ (OUT cJ q v ++ MC cI mb (upd g 0 (mCode nw x x)) nw kp)))) H := hP
  have hD : va_D (lwA s) (XO x0 a b ++ (DC cI a f r ++ (DC cI b f2 r2 ++ (OUT cJ q v ++ MC cI mb (upd g 0 (mCode nw x x)) nw kp)))) := hD
  refine lv_istore (lv' := [(6, .int 0), (5, .int 2), (4, .int (nI i)), (3, .ref q), (2, .ref (mb 0)), (1, .ref x0), (0, .ref sb)]) hx hb dL_law_1404 hl (by decide) rfl (fun ls hl => ?_)
  refine lv_aload_n hx hb dL_law_1406 rfl (lv_at hl 4 rfl) ?_
  refine wCVi (pre := XO x0 a b ++ (DC cI a f r ++ (DC cI b f2 r2 ++ OUT cJ q v))) (Wc := MC cI mb (upd g 0 (mCode nw x x)) nw kp) (suf := ([] : va_W)) (As := []) (rest := []) ⟨hx, hb, hml, hown, hts⟩ (mX2_thrown l D cI mb (upd g 0 (mCode nw x x)) nw kp _ ) hN hA hK1 hS hP hD rfl 0 (r := (RX2, TX2, 7)) rfl rfl (cwV 0 hts gL_law_X2_thrown rfl rfl rfl (by decide +kernel) ⟨Nat.le_of_ble_eq_true rfl, Nat.le_of_ble_eq_true rfl⟩) rfl hl.1 rfl (Nat.le_of_ble_eq_true rfl) dL_law_1407 ⟨by omega, by omega⟩ (fun r_1407 u_1407 H locs hw hP hD hS => ?_)
  have hw : r_1407 = (upd g 0 (mCode nw x x)) 0 := hw
  subst hw
  have hP : va_P D vwCl (XO x0 a b ++ (DC cI a f r ++ (DC cI b f2 r2 ++ (OUT cJ q v ++ MC cI mb (upd g 0 (mCode nw x x)) nw kp)))) H := hP
  have hD : va_D (lwA s) (XO x0 a b ++ (DC cI a f r ++ (DC cI b f2 r2 ++ (OUT cJ q v ++ MC cI mb (upd g 0 (mCode nw x x)) nw kp)))) := hD
  refine wTop (z := 2) (by simp (disch := omega) only [mUp, mUs]; exact hcd) ?_
  refine lv_iload hx hb dL_law_1410 (lv_at hl 1 rfl) ?_
  refine lv_icmp_eq (tgt := 1417) hx hb dL_law_1412 (by decide) (fun c_1412 => ?_) (fun h9 => absurd (by decide) h9)
  refine lv_iload hx hb dL_law_1417 (lv_at hl 1 rfl) ?_
  refine lv_if_ne (tgt := 1434) hx hb dL_law_1419 (by decide) (fun c_1419 => ?_) (fun h9 => absurd h9 (by decide))
  refine lv_goto (tgt := 1548) hx hb dL_law_1434 (by decide) ?_
  exact W.widen (k := cells + 1) (n := slots + 11) (by omega) (by omega) (kk _ _ _ _ _ _ _ _ (by simp (disch := omega) only [mUp, mUs]) (by simp (disch := omega) only [mUp, mUs]) hP hD hS (lv_sub hl [2, 3, 4, 5, 6] rfl))
set_option maxRecDepth 100000 in
set_option maxHeartbeats 4000000 in
theorem lc_bestMoment4 {p : Program} {l : Launch} {e : Env} {s : State} {m : MethodId} {args : Array Value} {below : List Frame} {meth : Method} {c : Code} {D : va_G} {cI cJ : ClassId} {sb LN : Nat} {xs : Nat → Int32} {H : Heap} {locs : List Loc} {cells slots : Nat} {Q : State → Prop} {ls : Array Slot} (E9 : lawE p l s m args c D cI cJ sb LN xs) (x0 : Nat) (a b : Nat → Nat) (f f2 : Nat → Int32) (r r2 : Nat → Nat → Int32) (q : Nat) (v : Nat → Int64) (mb : Nat → Nat) (g nw kp : Nat → Int32) (i : Nat) (hi : i + 2 < LN) (hcc : cells + 1 ≤ room_1.cells) (hss : slots + 11 ≤ room_1.slots) (hl : lv_has ls 9 [(4, .int (nI i)), (3, .ref q), (2, .ref (mb 0)), (1, .ref x0), (0, .ref sb)]) (hP : va_P D vwCl (XO x0 a b ++ (DC cI a f r ++ (DC cI b f2 r2 ++ (OUT cJ q v ++ MC cI mb g nw kp)))) H) (hD : va_D (lwA s) (XO x0 a b ++ (DC cI a f r ++ (DC cI b f2 r2 ++ (OUT cJ q v ++ MC cI mb g nw kp))))) (hS : va_S (lwA s) s.heap H locs) (gg : Nat) (x : Nat) (y : Nat) (hx1 : xs (i + 1) = nI x) (hx2 : xs (i + 2) = nI y) (hg : f 0 = nI gg) (hg2 : gg ≤ 10) (hg0 : 0 < gg) (ux : x < gg) (uy : y < gg) (hne : ¬ nI x = nI y) (hway : ¬ r 4 (x * 10 + y) = -1) (hcd : mCode nw x y = 3) (hgm : g 1 = nI gg) (hcode : ¬ mCode nw x y = 0)
    (kk : ∀ (f9 : Nat → Int32) (r9 : Nat → Nat → Int32) (v9 : Nat → Int64) (g9 kp9 : Nat → Int32) (H1 : Heap) (locs1 : List Loc) (ls1 : Array Slot), g9 1 = g 1 → g9 2 = g 2 → va_P D vwCl (XO x0 a b ++ (DC cI a f r ++ (DC cI b f9 r9 ++ (OUT cJ q v9 ++ MC cI mb g9 nw kp9)))) H1 → va_D (lwA s) (XO x0 a b ++ (DC cI a f r ++ (DC cI b f9 r9 ++ (OUT cJ q v9 ++ MC cI mb g9 nw kp9)))) → va_S (lwA s) s.heap H1 locs1 → lv_has ls1 9 [(4, .int (nI i)), (3, .ref q), (2, .ref (mb 0)), (1, .ref x0), (0, .ref sb)] → W p l e room_1 s m args below meth c H1 locs1 (cells + 1) (slots + 11) Q (F0 m 1548 ls1 [])) : W p l e room_1 s m args below meth c H locs cells slots Q (F0 m 1369 ls []) := by
  obtain ⟨⟨hx, hb, hml, hown, hts⟩, hN, hE, hZ, hK, hX, hbl, hlt, hLN⟩ := E9
  have hA : ∀ q : Nat, s.heap.size ≤ q → lwA s q := fun _ h => h
  have hK1 : va_K D vwCl [(cI, .int)] s := hK.sub [0] rfl
  refine lv_aload_n hx hb dL_law_1369 rfl (lv_at hl 3 rfl) ?_
  refine lv_aload_n hx hb dL_law_1370 rfl (lv_at hl 4 rfl) ?_
  refine lv_iload hx hb dL_law_1371 (lv_at hl 0 rfl) ?_
  refine lv_iconst (v := 1) hx hb dL_law_1373 (by decide) ?_
  refine lv_iadd hx hb dL_law_1374 ?_
  refine wTop (z := nI (i + 1)) (nI_add i 1) ?_
  refine wSld hx hb hX hbl hS (i + 1) (by omega) hLN hx1 dL_law_1375 ?_
  refine lv_aload_n hx hb dL_law_1376 rfl (lv_at hl 4 rfl) ?_
  refine lv_iload hx hb dL_law_1377 (lv_at hl 0 rfl) ?_
  refine lv_iconst (v := 2) hx hb dL_law_1379 (by decide) ?_
  refine lv_iadd hx hb dL_law_1380 ?_
  refine wTop (z := nI (i + 2)) (nI_add i 2) ?_
  refine wSld hx hb hX hbl hS (i + 2) (by omega) hLN hx2 dL_law_1381 ?_
  refine lv_aload_n hx hb dL_law_1382 rfl (lv_at hl 1 rfl) ?_
  refine wLW (pre := ([] : va_W)) (Wc := XO x0 a b ++ (DC cI a f r ++ (DC cI b f2 r2 ++ OUT cJ q v))) (suf := MC cI mb g nw kp) (As := [.ref x0, .int (nI x), .int (nI y), .ref q]) (rest := []) ⟨hx, hb, hml, hown, hts⟩ (mL_bestMoment4 l D cI cJ x0 a b f f2 r r2 q v gg x y _ hlt hg hg2 hg0 ux uy hne hway) hN hE hZ hA hK hS hP hD rfl (vx_cwSW 4 hts gL_law_L_bestMoment rfl rfl rfl (by decide +kernel) ⟨Nat.le_of_ble_eq_true rfl, Nat.le_of_ble_eq_true rfl⟩) rfl hl.1 rfl (Nat.le_of_ble_eq_true rfl) dL_law_1383 ⟨by omega, by omega⟩ (fun r_1383 u_1383 H locs hw hP hD hS => ?_)
  have hw : r_1383 = 3 := hw
  subst hw
  have hP : va_P D vwCl (XO x0 a b ++ (DC cI a f r ++ (DC cI b f2 r2 ++ (OUT cJ q v ++ MC cI mb g nw kp)))) H := hP
  have hD : va_D (lwA s) (XO x0 a b ++ (DC cI a f r ++ (DC cI b f2 r2 ++ (OUT cJ q v ++ MC cI mb g nw kp)))) := hD
  refine lv_istore (lv' := [(5, .int 3), (4, .int (nI i)), (3, .ref q), (2, .ref (mb 0)), (1, .ref x0), (0, .ref sb)]) hx hb dL_law_1386 hl (by decide) rfl (fun ls hl => ?_)
  refine lv_aload_n hx hb dL_law_1388 rfl (lv_at hl 3 rfl) ?_
  refine lv_aload_n hx hb dL_law_1389 rfl (lv_at hl 5 rfl) ?_
  refine lv_iload hx hb dL_law_1390 (lv_at hl 1 rfl) ?_
  refine lv_iconst (v := 1) hx hb dL_law_1392 (by decide) ?_
  refine lv_iadd hx hb dL_law_1393 ?_
  refine wTop (z := nI (i + 1)) (nI_add i 1) ?_
  refine wSld hx hb hX hbl hS (i + 1) (by omega) hLN hx1 dL_law_1394 ?_
  refine lv_aload_n hx hb dL_law_1395 rfl (lv_at hl 5 rfl) ?_
  refine lv_iload hx hb dL_law_1396 (lv_at hl 1 rfl) ?_
  refine lv_iconst (v := 2) hx hb dL_law_1398 (by decide) ?_
  refine lv_iadd hx hb dL_law_1399 ?_
  refine wTop (z := nI (i + 2)) (nI_add i 2) ?_
  refine wSld hx hb hX hbl hS (i + 2) (by omega) hLN hx2 dL_law_1400 ?_
  refine wCVi (pre := XO x0 a b ++ (DC cI a f r ++ (DC cI b f2 r2 ++ OUT cJ q v))) (Wc := MC cI mb g nw kp) (suf := ([] : va_W)) (As := [.int (nI x), .int (nI y)]) (rest := []) ⟨hx, hb, hml, hown, hts⟩ (mX2_bestMoment2 l D cI mb g nw kp gg x y _ hgm hg2 hg0 ux uy hcode) hN hA hK1 hS hP hD rfl 0 (r := (RX2, TX2, 7)) rfl rfl (cwV 2 hts gL_law_X2_bestMoment rfl rfl rfl (by decide +kernel) ⟨Nat.le_of_ble_eq_true rfl, Nat.le_of_ble_eq_true rfl⟩) rfl hl.1 rfl (Nat.le_of_ble_eq_true rfl) dL_law_1401 ⟨by omega, by omega⟩ (fun r_1401 u_1401 H locs hw hP hD hS => ?_)
  have hw : r_1401 = 0 := hw
  subst hw
  have hP : va_P D vwCl (XO x0 a b ++ (DC cI a f r ++ (DC cI b f2 r2 ++ (OUT cJ q v ++ MC cI mb (upd g 0 (mCode nw x y)) nw kp)))) H := hP
  have hD : va_D (lwA s) (XO x0 a b ++ (DC cI a f r ++ (DC cI b f2 r2 ++ (OUT cJ q v ++ MC cI mb (upd g 0 (mCode nw x y)) nw kp)))) := hD
  refine lv_istore (lv' := [(6, .int 0), (5, .int 3), (4, .int (nI i)), (3, .ref q), (2, .ref (mb 0)), (1, .ref x0), (0, .ref sb)]) hx hb dL_law_1404 hl (by decide) rfl (fun ls hl => ?_)
  refine lv_aload_n hx hb dL_law_1406 rfl (lv_at hl 4 rfl) ?_
  refine wCVi (pre := XO x0 a b ++ (DC cI a f r ++ (DC cI b f2 r2 ++ OUT cJ q v))) (Wc := MC cI mb (upd g 0 (mCode nw x y)) nw kp) (suf := ([] : va_W)) (As := []) (rest := []) ⟨hx, hb, hml, hown, hts⟩ (mX2_thrown l D cI mb (upd g 0 (mCode nw x y)) nw kp _ ) hN hA hK1 hS hP hD rfl 0 (r := (RX2, TX2, 7)) rfl rfl (cwV 0 hts gL_law_X2_thrown rfl rfl rfl (by decide +kernel) ⟨Nat.le_of_ble_eq_true rfl, Nat.le_of_ble_eq_true rfl⟩) rfl hl.1 rfl (Nat.le_of_ble_eq_true rfl) dL_law_1407 ⟨by omega, by omega⟩ (fun r_1407 u_1407 H locs hw hP hD hS => ?_)
  have hw : r_1407 = (upd g 0 (mCode nw x y)) 0 := hw
  subst hw
  have hP : va_P D vwCl (XO x0 a b ++ (DC cI a f r ++ (DC cI b f2 r2 ++ (OUT cJ q v ++ MC cI mb (upd g 0 (mCode nw x y)) nw kp)))) H := hP
  have hD : va_D (lwA s) (XO x0 a b ++ (DC cI a f r ++ (DC cI b f2 r2 ++ (OUT cJ q v ++ MC cI mb (upd g 0 (mCode nw x y)) nw kp)))) := hD
  refine wTop (z := 3) (by simp (disch := omega) only [mUp, mUs]; exact hcd) ?_
  refine lv_iload hx hb dL_law_1410 (lv_at hl 1 rfl) ?_
  refine lv_icmp_eq (tgt := 1417) hx hb dL_law_1412 (by decide) (fun c_1412 => ?_) (fun h9 => absurd (by decide) h9)
  refine lv_iload hx hb dL_law_1417 (lv_at hl 1 rfl) ?_
  refine lv_if_ne (tgt := 1434) hx hb dL_law_1419 (by decide) (fun c_1419 => ?_) (fun h9 => absurd h9 (by decide))
  refine lv_goto (tgt := 1548) hx hb dL_law_1434 (by decide) ?_
  exact W.widen (k := cells + 1) (n := slots + 11) (by omega) (by omega) (kk _ _ _ _ _ _ _ _ (by simp (disch := omega) only [mUp, mUs]) (by simp (disch := omega) only [mUp, mUs]) hP hD hS (lv_sub hl [2, 3, 4, 5, 6] rfl))
set_option maxRecDepth 100000 in
set_option maxHeartbeats 4000000 in
theorem lc_ratingIn {p : Program} {l : Launch} {e : Env} {s : State} {m : MethodId} {args : Array Value} {below : List Frame} {meth : Method} {c : Code} {D : va_G} {cI cJ : ClassId} {sb LN : Nat} {xs : Nat → Int32} {H : Heap} {locs : List Loc} {cells slots : Nat} {Q : State → Prop} {ls : Array Slot} (E9 : lawE p l s m args c D cI cJ sb LN xs) (x0 : Nat) (a b : Nat → Nat) (f f2 : Nat → Int32) (r r2 : Nat → Nat → Int32) (q : Nat) (v : Nat → Int64) (mb : Nat → Nat) (g nw kp : Nat → Int32) (i : Nat) (hi : i + 2 < LN) (hcc : cells + 1 ≤ room_1.cells) (hss : slots + 11 ≤ room_1.slots) (hl : lv_has ls 9 [(4, .int (nI i)), (3, .ref q), (2, .ref (mb 0)), (1, .ref x0), (0, .ref sb)]) (hP : va_P D vwCl (XO x0 a b ++ (DC cI a f r ++ (DC cI b f2 r2 ++ (OUT cJ q v ++ MC cI mb g nw kp)))) H) (hD : va_D (lwA s) (XO x0 a b ++ (DC cI a f r ++ (DC cI b f2 r2 ++ (OUT cJ q v ++ MC cI mb g nw kp))))) (hS : va_S (lwA s) s.heap H locs) (gg : Nat) (n : Nat) (L : List Nat) (li : Nat) (hx1 : xs (i + 1) = nI n) (hg : f 0 = nI gg) (hg2 : gg ≤ 10) (hg0 : 0 < gg) (n1 : 1 ≤ n) (n2 : n ≤ 120) (hk : ∀ i, i < n → dOk (dGo (f, r) L i).1.1 (dGo (f, r) L i).1.2 (dGo (f, r) L i).2) (hg9 : (dGo (f, r) L n).1.1 0 = nI gg) (hans : (mRate (g 1) (mSecs (g 5) (g 2) (nw, g 6) n).1 gg : Int32) = dRate ((dGo (f, r) L n).1.1 0) ((dGo (f, r) L n).1.1 6) ((dGo (f, r) L n).1.2 3) gg) (hgm : g 1 = nI gg) (hl0 : g 2 = nI li) (hl1 : 0 < li) (hl2 : li ≤ 30) (hs : ∀ i, i < n → mOk (mSecs (g 5) (g 2) (nw, g 6) i).1)
    (kk : ∀ (f9 : Nat → Int32) (r9 : Nat → Nat → Int32) (v9 : Nat → Int64) (g9 kp9 : Nat → Int32) (H1 : Heap) (locs1 : List Loc) (ls1 : Array Slot), g9 1 = g 1 → g9 2 = g 2 → va_P D vwCl (XO x0 a b ++ (DC cI a f r ++ (DC cI b f9 r9 ++ (OUT cJ q v9 ++ MC cI mb g9 nw kp9)))) H1 → va_D (lwA s) (XO x0 a b ++ (DC cI a f r ++ (DC cI b f9 r9 ++ (OUT cJ q v9 ++ MC cI mb g9 nw kp9)))) → va_S (lwA s) s.heap H1 locs1 → lv_has ls1 9 [(4, .int (nI i)), (3, .ref q), (2, .ref (mb 0)), (1, .ref x0), (0, .ref sb)] → W p l e room_1 s m args below meth c H1 locs1 (cells + 1) (slots + 11) Q (F0 m 1548 ls1 [])) : W p l e room_1 s m args below meth c H locs cells slots Q (F0 m 1437 ls []) := by
  obtain ⟨⟨hx, hb, hml, hown, hts⟩, hN, hE, hZ, hK, hX, hbl, hlt, hLN⟩ := E9
  have hA : ∀ q : Nat, s.heap.size ≤ q → lwA s q := fun _ h => h
  have hK1 : va_K D vwCl [(cI, .int)] s := hK.sub [0] rfl
  refine lv_aload_n hx hb dL_law_1437 rfl (lv_at hl 3 rfl) ?_
  refine lv_aload_n hx hb dL_law_1438 rfl (lv_at hl 4 rfl) ?_
  refine lv_iload hx hb dL_law_1439 (lv_at hl 0 rfl) ?_
  refine lv_iconst (v := 1) hx hb dL_law_1441 (by decide) ?_
  refine lv_iadd hx hb dL_law_1442 ?_
  refine wTop (z := nI (i + 1)) (nI_add i 1) ?_
  refine wSld hx hb hX hbl hS (i + 1) (by omega) hLN hx1 dL_law_1443 ?_
  refine lv_aload_n hx hb dL_law_1444 rfl (lv_at hl 1 rfl) ?_
  refine wLW (pre := ([] : va_W)) (Wc := XO x0 a b ++ (DC cI a f r ++ (DC cI b f2 r2 ++ OUT cJ q v))) (suf := MC cI mb g nw kp) (As := [.ref x0, .int (nI n), .ref q]) (rest := []) ⟨hx, hb, hml, hown, hts⟩ (mL_ratingIn l D cI cJ x0 a b f f2 r r2 q v gg n L _ hg hg2 hg0 n1 n2 hk hg9) hN hE hZ hA hK hS hP hD rfl (vx_cwSW 3 hts gL_law_L_ratingIn rfl rfl rfl (by decide +kernel) ⟨Nat.le_of_ble_eq_true rfl, Nat.le_of_ble_eq_true rfl⟩) rfl hl.1 rfl (Nat.le_of_ble_eq_true rfl) dL_law_1445 ⟨by omega, by omega⟩ (fun r_1445 u_1445 H locs hw hP hD hS => ?_)
  have hw : r_1445 = 0 := hw
  subst hw
  have hP : va_P D vwCl (XO x0 a b ++ (DC cI a f r ++ (DC cI b (dGo (f, r) L n).1.1 (dGo (f, r) L n).1.2 ++ (OUT cJ q (vp_updL v 0 ((dRate ((dGo (f, r) L n).1.1 0) ((dGo (f, r) L n).1.1 6) ((dGo (f, r) L n).1.2 3) gg).toInt64)) ++ MC cI mb g nw kp)))) H := hP
  have hD : va_D (lwA s) (XO x0 a b ++ (DC cI a f r ++ (DC cI b (dGo (f, r) L n).1.1 (dGo (f, r) L n).1.2 ++ (OUT cJ q (vp_updL v 0 ((dRate ((dGo (f, r) L n).1.1 0) ((dGo (f, r) L n).1.1 6) ((dGo (f, r) L n).1.2 3) gg).toInt64)) ++ MC cI mb g nw kp)))) := hD
  refine lv_istore (lv' := [(5, .int 0), (4, .int (nI i)), (3, .ref q), (2, .ref (mb 0)), (1, .ref x0), (0, .ref sb)]) hx hb dL_law_1448 hl (by decide) rfl (fun ls hl => ?_)
  refine lv_aload_n hx hb dL_law_1450 rfl (lv_at hl 3 rfl) ?_
  refine lv_aload_n hx hb dL_law_1451 rfl (lv_at hl 5 rfl) ?_
  refine lv_iload hx hb dL_law_1452 (lv_at hl 1 rfl) ?_
  refine lv_iconst (v := 1) hx hb dL_law_1454 (by decide) ?_
  refine lv_iadd hx hb dL_law_1455 ?_
  refine wTop (z := nI (i + 1)) (nI_add i 1) ?_
  refine wSld hx hb hX hbl hS (i + 1) (by omega) hLN hx1 dL_law_1456 ?_
  refine wCVi (pre := XO x0 a b ++ (DC cI a f r ++ (DC cI b (dGo (f, r) L n).1.1 (dGo (f, r) L n).1.2 ++ OUT cJ q (vp_updL v 0 ((dRate ((dGo (f, r) L n).1.1 0) ((dGo (f, r) L n).1.1 6) ((dGo (f, r) L n).1.2 3) gg).toInt64))))) (Wc := MC cI mb g nw kp) (suf := ([] : va_W)) (As := [.int (nI n)]) (rest := []) ⟨hx, hb, hml, hown, hts⟩ (mX2_ratingIn l D cI mb g nw kp gg li n _ hgm hg2 hg0 hl0 hl1 hl2 n1 n2 hs) hN hA hK1 hS hP hD rfl 0 (r := (RX2, TX2, 7)) rfl rfl (cwV 1 hts gL_law_X2_ratingIn rfl rfl rfl (by decide +kernel) ⟨Nat.le_of_ble_eq_true rfl, Nat.le_of_ble_eq_true rfl⟩) rfl hl.1 rfl (Nat.le_of_ble_eq_true rfl) dL_law_1457 ⟨by omega, by omega⟩ (fun r_1457 u_1457 H locs hw hP hD hS => ?_)
  have hw : r_1457 = mRate (g 1) (mSecs (g 5) (g 2) (nw, g 6) n).1 gg := hw
  subst hw
  have hP : va_P D vwCl (XO x0 a b ++ (DC cI a f r ++ (DC cI b (dGo (f, r) L n).1.1 (dGo (f, r) L n).1.2 ++ (OUT cJ q (vp_updL v 0 ((dRate ((dGo (f, r) L n).1.1 0) ((dGo (f, r) L n).1.1 6) ((dGo (f, r) L n).1.2 3) gg).toInt64)) ++ MC cI mb (upd (upd g 0 0) 6 u_1457) nw nw)))) H := hP
  have hD : va_D (lwA s) (XO x0 a b ++ (DC cI a f r ++ (DC cI b (dGo (f, r) L n).1.1 (dGo (f, r) L n).1.2 ++ (OUT cJ q (vp_updL v 0 ((dRate ((dGo (f, r) L n).1.1 0) ((dGo (f, r) L n).1.1 6) ((dGo (f, r) L n).1.2 3) gg).toInt64)) ++ MC cI mb (upd (upd g 0 0) 6 u_1457) nw nw)))) := hD
  refine wTop (z := (dRate ((dGo (f, r) L n).1.1 0) ((dGo (f, r) L n).1.1 6) ((dGo (f, r) L n).1.2 3) gg)) (hans) ?_
  refine lv_istore (lv' := [(6, .int (dRate ((dGo (f, r) L n).1.1 0) ((dGo (f, r) L n).1.1 6) ((dGo (f, r) L n).1.2 3) gg)), (5, .int 0), (4, .int (nI i)), (3, .ref q), (2, .ref (mb 0)), (1, .ref x0), (0, .ref sb)]) hx hb dL_law_1460 hl (by decide) rfl (fun ls hl => ?_)
  refine lv_aload_n hx hb dL_law_1462 rfl (lv_at hl 4 rfl) ?_
  refine wCVi (pre := XO x0 a b ++ (DC cI a f r ++ (DC cI b (dGo (f, r) L n).1.1 (dGo (f, r) L n).1.2 ++ OUT cJ q (vp_updL v 0 ((dRate ((dGo (f, r) L n).1.1 0) ((dGo (f, r) L n).1.1 6) ((dGo (f, r) L n).1.2 3) gg).toInt64))))) (Wc := MC cI mb (upd (upd g 0 0) 6 u_1457) nw nw) (suf := ([] : va_W)) (As := []) (rest := []) ⟨hx, hb, hml, hown, hts⟩ (mX2_thrown l D cI mb (upd (upd g 0 0) 6 u_1457) nw nw _ ) hN hA hK1 hS hP hD rfl 0 (r := (RX2, TX2, 7)) rfl rfl (cwV 0 hts gL_law_X2_thrown rfl rfl rfl (by decide +kernel) ⟨Nat.le_of_ble_eq_true rfl, Nat.le_of_ble_eq_true rfl⟩) rfl hl.1 rfl (Nat.le_of_ble_eq_true rfl) dL_law_1463 ⟨by omega, by omega⟩ (fun r_1463 u_1463 H locs hw hP hD hS => ?_)
  have hw : r_1463 = (upd (upd g 0 0) 6 u_1457) 0 := hw
  subst hw
  have hP : va_P D vwCl (XO x0 a b ++ (DC cI a f r ++ (DC cI b (dGo (f, r) L n).1.1 (dGo (f, r) L n).1.2 ++ (OUT cJ q (vp_updL v 0 ((dRate ((dGo (f, r) L n).1.1 0) ((dGo (f, r) L n).1.1 6) ((dGo (f, r) L n).1.2 3) gg).toInt64)) ++ MC cI mb (upd (upd g 0 0) 6 u_1457) nw nw)))) H := hP
  have hD : va_D (lwA s) (XO x0 a b ++ (DC cI a f r ++ (DC cI b (dGo (f, r) L n).1.1 (dGo (f, r) L n).1.2 ++ (OUT cJ q (vp_updL v 0 ((dRate ((dGo (f, r) L n).1.1 0) ((dGo (f, r) L n).1.1 6) ((dGo (f, r) L n).1.2 3) gg).toInt64)) ++ MC cI mb (upd (upd g 0 0) 6 u_1457) nw nw)))) := hD
  refine wTop (z := 0) (by simp (disch := omega) only [mUp, mUs]) ?_
  refine lv_iload hx hb dL_law_1466 (lv_at hl 1 rfl) ?_
  refine lv_icmp_eq (tgt := 1473) hx hb dL_law_1468 (by decide) (fun c_1468 => ?_) (fun h9 => absurd (by decide) h9)
  refine lv_iload hx hb dL_law_1473 (lv_at hl 1 rfl) ?_
  refine lv_if_ne (tgt := 1490) hx hb dL_law_1475 (by decide) (fun h9 => absurd (by decide) h9) (fun c_1475 => ?_)
  refine lv_aload_n hx hb dL_law_1478 rfl (lv_at hl 3 rfl) ?_
  refine lv_iconst (v := 0) hx hb dL_law_1479 (by decide) ?_
  refine wLald hx hb hK hP 17 1 rfl rfl (z := ((dRate ((dGo (f, r) L n).1.1 0) ((dGo (f, r) L n).1.1 6) ((dGo (f, r) L n).1.2 3) gg).toInt64)) (pk_uLs) dL_law_1480 ?_
  refine lv_iload hx hb dL_law_1481 (lv_at hl 0 rfl) ?_
  refine lv_i2l hx hb dL_law_1483 rfl ?_
  refine W.lcmp hx hb dL_law_1484 ?_
  refine wTop (z := 0) (lcmp_self _) ?_
  refine lv_if_eq (tgt := 1490) hx hb dL_law_1485 (by decide) (fun c_1485 => ?_) (fun h9 => absurd (by decide) h9)
  refine lv_goto (tgt := 1548) hx hb dL_law_1490 (by decide) ?_
  exact W.widen (k := cells + 1) (n := slots + 11) (by omega) (by omega) (kk _ _ _ _ _ _ _ _ (by simp (disch := omega) only [mUp, mUs]) (by simp (disch := omega) only [mUp, mUs]) hP hD hS (lv_sub hl [2, 3, 4, 5, 6] rfl))
set_option maxRecDepth 100000 in
set_option maxHeartbeats 4000000 in
theorem lc_ratingIn1 {p : Program} {l : Launch} {e : Env} {s : State} {m : MethodId} {args : Array Value} {below : List Frame} {meth : Method} {c : Code} {D : va_G} {cI cJ : ClassId} {sb LN : Nat} {xs : Nat → Int32} {H : Heap} {locs : List Loc} {cells slots : Nat} {Q : State → Prop} {ls : Array Slot} (E9 : lawE p l s m args c D cI cJ sb LN xs) (x0 : Nat) (a b : Nat → Nat) (f f2 : Nat → Int32) (r r2 : Nat → Nat → Int32) (q : Nat) (v : Nat → Int64) (mb : Nat → Nat) (g nw kp : Nat → Int32) (i : Nat) (hi : i + 2 < LN) (hcc : cells + 1 ≤ room_1.cells) (hss : slots + 11 ≤ room_1.slots) (hl : lv_has ls 9 [(4, .int (nI i)), (3, .ref q), (2, .ref (mb 0)), (1, .ref x0), (0, .ref sb)]) (hP : va_P D vwCl (XO x0 a b ++ (DC cI a f r ++ (DC cI b f2 r2 ++ (OUT cJ q v ++ MC cI mb g nw kp)))) H) (hD : va_D (lwA s) (XO x0 a b ++ (DC cI a f r ++ (DC cI b f2 r2 ++ (OUT cJ q v ++ MC cI mb g nw kp))))) (hS : va_S (lwA s) s.heap H locs) (w : Int32) (hx1 : xs (i + 1) = w) (hbad : w < 1 ∨ 120 < w) (hbadm : ¬ (1 ≤ w ∧ w ≤ 120))
    (kk : ∀ (f9 : Nat → Int32) (r9 : Nat → Nat → Int32) (v9 : Nat → Int64) (g9 kp9 : Nat → Int32) (H1 : Heap) (locs1 : List Loc) (ls1 : Array Slot), g9 1 = g 1 → g9 2 = g 2 → va_P D vwCl (XO x0 a b ++ (DC cI a f r ++ (DC cI b f9 r9 ++ (OUT cJ q v9 ++ MC cI mb g9 nw kp9)))) H1 → va_D (lwA s) (XO x0 a b ++ (DC cI a f r ++ (DC cI b f9 r9 ++ (OUT cJ q v9 ++ MC cI mb g9 nw kp9)))) → va_S (lwA s) s.heap H1 locs1 → lv_has ls1 9 [(4, .int (nI i)), (3, .ref q), (2, .ref (mb 0)), (1, .ref x0), (0, .ref sb)] → W p l e room_1 s m args below meth c H1 locs1 (cells + 1) (slots + 11) Q (F0 m 1548 ls1 [])) : W p l e room_1 s m args below meth c H locs cells slots Q (F0 m 1437 ls []) := by
  obtain ⟨⟨hx, hb, hml, hown, hts⟩, hN, hE, hZ, hK, hX, hbl, hlt, hLN⟩ := E9
  have hA : ∀ q : Nat, s.heap.size ≤ q → lwA s q := fun _ h => h
  have hK1 : va_K D vwCl [(cI, .int)] s := hK.sub [0] rfl
  refine lv_aload_n hx hb dL_law_1437 rfl (lv_at hl 3 rfl) ?_
  refine lv_aload_n hx hb dL_law_1438 rfl (lv_at hl 4 rfl) ?_
  refine lv_iload hx hb dL_law_1439 (lv_at hl 0 rfl) ?_
  refine lv_iconst (v := 1) hx hb dL_law_1441 (by decide) ?_
  refine lv_iadd hx hb dL_law_1442 ?_
  refine wTop (z := nI (i + 1)) (nI_add i 1) ?_
  refine wSld hx hb hX hbl hS (i + 1) (by omega) hLN hx1 dL_law_1443 ?_
  refine lv_aload_n hx hb dL_law_1444 rfl (lv_at hl 1 rfl) ?_
  refine wLW (pre := ([] : va_W)) (Wc := XO x0 a b ++ (DC cI a f r ++ (DC cI b f2 r2 ++ OUT cJ q v))) (suf := MC cI mb g nw kp) (As := [.ref x0, .int w, .ref q]) (rest := []) ⟨hx, hb, hml, hown, hts⟩ (mL_ratingIn1 l D cI cJ x0 a b f f2 r r2 q v w _ hlt hbad) hN hE hZ hA hK hS hP hD rfl (vx_cwSW 3 hts gL_law_L_ratingIn rfl rfl rfl (by decide +kernel) ⟨Nat.le_of_ble_eq_true rfl, Nat.le_of_ble_eq_true rfl⟩) rfl hl.1 rfl (Nat.le_of_ble_eq_true rfl) dL_law_1445 ⟨by omega, by omega⟩ (fun r_1445 u_1445 H locs hw hP hD hS => ?_)
  have hw : r_1445 = 1 := hw
  subst hw
  have hP : va_P D vwCl (XO x0 a b ++ (DC cI a f r ++ (DC cI b f2 r2 ++ (OUT cJ q v ++ MC cI mb g nw kp)))) H := hP
  have hD : va_D (lwA s) (XO x0 a b ++ (DC cI a f r ++ (DC cI b f2 r2 ++ (OUT cJ q v ++ MC cI mb g nw kp)))) := hD
  refine lv_istore (lv' := [(5, .int 1), (4, .int (nI i)), (3, .ref q), (2, .ref (mb 0)), (1, .ref x0), (0, .ref sb)]) hx hb dL_law_1448 hl (by decide) rfl (fun ls hl => ?_)
  refine lv_aload_n hx hb dL_law_1450 rfl (lv_at hl 3 rfl) ?_
  refine lv_aload_n hx hb dL_law_1451 rfl (lv_at hl 5 rfl) ?_
  refine lv_iload hx hb dL_law_1452 (lv_at hl 1 rfl) ?_
  refine lv_iconst (v := 1) hx hb dL_law_1454 (by decide) ?_
  refine lv_iadd hx hb dL_law_1455 ?_
  refine wTop (z := nI (i + 1)) (nI_add i 1) ?_
  refine wSld hx hb hX hbl hS (i + 1) (by omega) hLN hx1 dL_law_1456 ?_
  refine wCVi (pre := XO x0 a b ++ (DC cI a f r ++ (DC cI b f2 r2 ++ OUT cJ q v))) (Wc := MC cI mb g nw kp) (suf := ([] : va_W)) (As := [.int w]) (rest := []) ⟨hx, hb, hml, hown, hts⟩ (mX2_ratingIn1 l D cI mb g nw kp w _ hbadm) hN hA hK1 hS hP hD rfl 0 (r := (RX2, TX2, 7)) rfl rfl (cwV 1 hts gL_law_X2_ratingIn rfl rfl rfl (by decide +kernel) ⟨Nat.le_of_ble_eq_true rfl, Nat.le_of_ble_eq_true rfl⟩) rfl hl.1 rfl (Nat.le_of_ble_eq_true rfl) dL_law_1457 ⟨by omega, by omega⟩ (fun r_1457 u_1457 H locs hw hP hD hS => ?_)
  have hw : r_1457 = 0 := hw
  subst hw
  have hP : va_P D vwCl (XO x0 a b ++ (DC cI a f r ++ (DC cI b f2 r2 ++ (OUT cJ q v ++ MC cI mb (upd g 0 1) nw kp)))) H := hP
  have hD : va_D (lwA s) (XO x0 a b ++ (DC cI a f r ++ (DC cI b f2 r2 ++ (OUT cJ q v ++ MC cI mb (upd g 0 1) nw kp)))) := hD
  refine lv_istore (lv' := [(6, .int 0), (5, .int 1), (4, .int (nI i)), (3, .ref q), (2, .ref (mb 0)), (1, .ref x0), (0, .ref sb)]) hx hb dL_law_1460 hl (by decide) rfl (fun ls hl => ?_)
  refine lv_aload_n hx hb dL_law_1462 rfl (lv_at hl 4 rfl) ?_
  refine wCVi (pre := XO x0 a b ++ (DC cI a f r ++ (DC cI b f2 r2 ++ OUT cJ q v))) (Wc := MC cI mb (upd g 0 1) nw kp) (suf := ([] : va_W)) (As := []) (rest := []) ⟨hx, hb, hml, hown, hts⟩ (mX2_thrown l D cI mb (upd g 0 1) nw kp _ ) hN hA hK1 hS hP hD rfl 0 (r := (RX2, TX2, 7)) rfl rfl (cwV 0 hts gL_law_X2_thrown rfl rfl rfl (by decide +kernel) ⟨Nat.le_of_ble_eq_true rfl, Nat.le_of_ble_eq_true rfl⟩) rfl hl.1 rfl (Nat.le_of_ble_eq_true rfl) dL_law_1463 ⟨by omega, by omega⟩ (fun r_1463 u_1463 H locs hw hP hD hS => ?_)
  have hw : r_1463 = (upd g 0 1) 0 := hw
  subst hw
  have hP : va_P D vwCl (XO x0 a b ++ (DC cI a f r ++ (DC cI b f2 r2 ++ (OUT cJ q v ++ MC cI mb (upd g 0 1) nw kp)))) H := hP
  have hD : va_D (lwA s) (XO x0 a b ++ (DC cI a f r ++ (DC cI b f2 r2 ++ (OUT cJ q v ++ MC cI mb (upd g 0 1) nw kp)))) := hD
  refine wTop (z := 1) (by simp (disch := omega) only [mUp, mUs]) ?_
  refine lv_iload hx hb dL_law_1466 (lv_at hl 1 rfl) ?_
  refine lv_icmp_eq (tgt := 1473) hx hb dL_law_1468 (by decide) (fun c_1468 => ?_) (fun h9 => absurd (by decide) h9)
  refine lv_iload hx hb dL_law_1473 (lv_at hl 1 rfl) ?_
  refine lv_if_ne (tgt := 1490) hx hb dL_law_1475 (by decide) (fun c_1475 => ?_) (fun h9 => absurd h9 (by decide))
  refine lv_goto (tgt := 1548) hx hb dL_law_1490 (by decide) ?_
  exact W.widen (k := cells + 1) (n := slots + 11) (by omega) (by omega) (kk _ _ _ _ _ _ _ _ (by simp (disch := omega) only [mUp, mUs]) (by simp (disch := omega) only [mUp, mUs]) hP hD hS (lv_sub hl [2, 3, 4, 5, 6] rfl))
