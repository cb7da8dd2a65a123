set_option maxRecDepth 100000 in
set_option maxHeartbeats 8000000 in
/-- a round of the law -/
theorem law_round {p : Program} {l : Launch} {e : Env} {s : State} {m : MethodId} {args : Array Value} {below : List Frame} {meth : Method} {c : Code} {D : va_G} {cI cR : ClassId} {A : Nat → Prop} {sb LN : Nat} {xs : Nat → Int32} {Q : State → Prop} (E9 : lawE p s m args c D cI cR A sb LN xs) (x0 : Nat) (pa pb : Nat → Nat) (f2 : Nat → Int32) (r2 : Nat → Nat → Int32) (a ca ga : Nat → Nat) (n k : Nat) (f : Nat → Int32) (r G : Nat → Nat → Int32) (li : Nat) (L : List Nat) (K t c0 s0 : Nat) (hI : InvC n li f r L K) (hT : InvT n k (r 4) L G) (hK9 : K ≤ 9000000) (ht : t < 32) (hc0 : c0 ≤ 100000) (hs0 : s0 ≤ 1000000) (hk9 : ∀ (v : aS), aInv (K + 24400) v → ∀ (H : Heap) (locs : List Loc) (ls : Array Slot), va_P D vwCl (XO x0 pa pb ++ (DC cI pa v.2.1.1 v.2.1.2.1 ++ (DC cI pb f2 r2 ++ (SC cI cR v.2.2.1 v.2.2.2.1 v.2.2.2.2 v.1.1 v.1.2.2 v.2.1.1 v.2.1.2.1 ++ (CW cI v.2.2.2.1 v.1.1 (v.2.1.2.1 5) ++ RW cI v.2.2.2.2 v.1.2.2 3 v.2.1.2.2.1))))) H → va_D A (XO x0 pa pb ++ (DC cI pa v.2.1.1 v.2.1.2.1 ++ (DC cI pb f2 r2 ++ (SC cI cR v.2.2.1 v.2.2.2.1 v.2.2.2.2 v.1.1 v.1.2.2 v.2.1.1 v.2.1.2.1 ++ (CW cI v.2.2.2.1 v.1.1 (v.2.1.2.1 5) ++ RW cI v.2.2.2.2 v.1.2.2 3 v.2.1.2.2.1))))) → va_S A s.heap H locs → lv_has ls 27 [(3, .int (nI (t + 1))), (2, .ref (v.2.2.1 0)), (1, .ref x0), (0, .ref sb)] → W p l e room_1 s m args below meth c H locs (c0 + 40) (s0 + 400) Q (F0 m 16 ls [])) (H : Heap) (locs : List Loc) (ls : Array Slot) (hP : va_P D vwCl (XO x0 pa pb ++ (DC cI pa f r ++ (DC cI pb f2 r2 ++ (SC cI cR a ca ga n k f r ++ (CW cI ca n (r 5) ++ RW cI ga k 3 G))))) H) (hD : va_D A (XO x0 pa pb ++ (DC cI pa f r ++ (DC cI pb f2 r2 ++ (SC cI cR a ca ga n k f r ++ (CW cI ca n (r 5) ++ RW cI ga k 3 G)))))) (hS : va_S A s.heap H locs) (hl : lv_has ls 27 [(3, .int (nI t)), (2, .ref (a 0)), (1, .ref x0), (0, .ref sb)]) : W p l e room_1 s m args below meth c H locs c0 s0 Q (F0 m 16 ls []) := by
  obtain ⟨⟨hx, hb, hml, hown, hts⟩, hN, hK, hX, hbl, hLN, hA, hbA⟩ := E9
  have hK1 : va_K D vwCl [(cI, .int)] s := hK.sub [0] rfl
  have hg : f 0 = nI n := hI.1.2.2.2.2.1
  have hn0 : 2 ≤ n := hI.1.1
  have hn1 : n ≤ 10 := hI.1.2.1
  have hk : k ≤ 100 := hT.1
  refine lv_iload_n hx hb dL_law_16 rfl (lv_at hl 0 rfl) ?_
  refine lv_bipush (v := 32) hx hb dL_law_17 (by decide) ?_
  refine lv_icmp_ge (tgt := 865) hx hb dL_law_19 (by decide) (fun h9 => absurd h9 (nI_ge (b := 32) ht (by decide))) (fun c_19 => ?_)
  have c_19n := mt (nI_leI (a := 32) (b := t) (by omega) (by omega)).mpr c_19
  refine lv_aload_n hx hb dL_law_22 rfl (lv_at hl 3 rfl) ?_
  refine lv_iload_n hx hb dL_law_23 rfl (lv_at hl 0 rfl) ?_
  refine lv_bipush (v := 16) hx hb dL_law_24 (by decide) ?_
  refine lv_irem hx hb dL_law_26 (by decide) ?_
  refine wTop (z := nI (t % 16)) (pk_rem (a := t) (d := 16) (by omega) (by decide) (by decide)) ?_
  refine wCSic (pre := ([] : va_W)) (Wc := ([] : va_W)) (suf := XO x0 pa pb ++ (DC cI pa f r ++ (DC cI pb f2 r2 ++ (SC cI cR a ca ga n k f r ++ (CW cI ca n (r 5) ++ RW cI ga k 3 G))))) (As := [.ref sb, .int (nI (t % 16))]) (rest := []) ⟨hx, hb, hml, hown, hts⟩ (mL_cell l D cI cR (t % 16) _ sb LN xs (by omega) hLN) hN hA hX hbl hbA hK hS hP hD (by simp only [List.append_assoc, List.append_nil, List.nil_append]) (va_cwS 2 hts gL_law_L_cell rfl rfl rfl (by decide +kernel) ⟨Nat.le_of_ble_eq_true rfl, Nat.le_of_ble_eq_true rfl⟩) rfl hl.1 rfl (Nat.le_of_ble_eq_true rfl) dL_law_27 ⟨by show c0 + 0 ≤ 1200172; omega, by show s0 + 0 ≤ 5500668; omega⟩ (fun r_27 u_27 H locs hw hP hD hS => ?_)
  have hP : va_P D vwCl (XO x0 pa pb ++ (DC cI pa f r ++ (DC cI pb f2 r2 ++ (SC cI cR a ca ga n k f r ++ (CW cI ca n (r 5) ++ RW cI ga k 3 G))))) H := by simpa only [List.append_assoc, List.append_nil, List.nil_append] using hP
  have hD : va_D A (XO x0 pa pb ++ (DC cI pa f r ++ (DC cI pb f2 r2 ++ (SC cI cR a ca ga n k f r ++ (CW cI ca n (r 5) ++ RW cI ga k 3 G))))) := by simpa only [List.append_assoc, List.append_nil, List.nil_append] using hD
  refine lv_iload_n hx hb dL_law_30 rfl (lv_at hl 0 rfl) ?_
  refine lv_bipush (v := 16) hx hb dL_law_31 (by decide) ?_
  refine lv_idiv hx hb dL_law_33 (by decide) ?_
  refine wTop (z := nI (t / 16)) (pk_div (a := t) (d := 16) (by omega) (by decide) (by decide)) ?_
  refine lv_iconst (v := 3) hx hb dL_law_34 (by decide) ?_
  refine lv_imul hx hb dL_law_35 ?_
  refine wTop (z := nI ((t / 16) * 3)) (pk_mul (t / 16) 3) ?_
  refine lv_ishr hx hb dL_law_36 ?_
  refine lv_topi (fun x36 ex36 => ?_)
  refine lv_sipush (v := 571) hx hb dL_law_37 (by decide) ?_
  refine lv_iload_n hx hb dL_law_40 rfl (lv_at hl 0 rfl) ?_
  refine lv_imul hx hb dL_law_41 ?_
  refine wTop (z := nI (571 * t)) (pk_mul 571 t) ?_
  refine lv_iadd hx hb dL_law_42 ?_
  refine lv_istore (lv' := [(4, .int (x36 + (nI (571 * t)))), (3, .int (nI t)), (2, .ref (a 0)), (1, .ref x0), (0, .ref sb)]) hx hb dL_law_43 hl (by decide) rfl (fun ls hl => ?_)
  refine lv_aload_n hx hb dL_law_45 rfl (lv_at hl 2 rfl) ?_
  refine lv_ifnull hx hb dL_law_46 ?_
  refine lv_aload_n hx hb dL_law_49 rfl (lv_at hl 3 rfl) ?_
  refine lv_aload_n hx hb dL_law_50 rfl (lv_at hl 2 rfl) ?_
  refine lv_iload hx hb dL_law_51 (lv_at hl 0 rfl) ?_
  refine wCSrm (pre := ([] : va_W)) (Wc := XO x0 pa pb ++ (DC cI pa f r ++ (DC cI pb f2 r2 ++ (SC cI cR a ca ga n k f r ++ (CW cI ca n (r 5) ++ RW cI ga k 3 G))))) (suf := ([] : va_W)) (As := [.ref x0, .ref (a 0), .int (x36 + (nI (571 * t)))]) (rest := []) ⟨hx, hb, hml, hown, hts⟩ (mL_act l D cI cR x0 pa pb f2 r2 a ca ga n k f r G li L K (x36 + (nI (571 * t))) _ hI hT hK9) hN hA hK hS hP hD (by simp only [List.append_assoc, List.append_nil, List.nil_append]) (va_cwS 3 hts gL_law_L_act rfl rfl rfl (by decide +kernel) ⟨Nat.le_of_ble_eq_true rfl, Nat.le_of_ble_eq_true rfl⟩) rfl hl.1 rfl (Nat.le_of_ble_eq_true rfl) dL_law_53 ⟨by show (c0 + 0) + 17 ≤ 1200172; omega, by show (s0 + 0) + 175 ≤ 5500668; omega⟩ (fun u_53 H locs hw hP hD hS => ?_)
  have hP : va_P D vwCl (XO x0 pa pb ++ (DC cI pa u_53.2.1.1 u_53.2.1.2.1 ++ (DC cI pb f2 r2 ++ (SC cI cR u_53.2.2.1 u_53.2.2.2.1 u_53.2.2.2.2 u_53.1.1 u_53.1.2.2 u_53.2.1.1 u_53.2.1.2.1 ++ (CW cI u_53.2.2.2.1 u_53.1.1 (u_53.2.1.2.1 5) ++ RW cI u_53.2.2.2.2 u_53.1.2.2 3 u_53.2.1.2.2.1))))) H := by simpa only [List.append_assoc, List.append_nil, List.nil_append] using hP
  have hD : va_D A (XO x0 pa pb ++ (DC cI pa u_53.2.1.1 u_53.2.1.2.1 ++ (DC cI pb f2 r2 ++ (SC cI cR u_53.2.2.1 u_53.2.2.2.1 u_53.2.2.2.2 u_53.1.1 u_53.1.2.2 u_53.2.1.1 u_53.2.1.2.1 ++ (CW cI u_53.2.2.2.1 u_53.1.1 (u_53.2.1.2.1 5) ++ RW cI u_53.2.2.2.2 u_53.1.2.2 3 u_53.2.1.2.2.1))))) := by simpa only [List.append_assoc, List.append_nil, List.nil_append] using hD
  obtain ⟨⟨n, li, k⟩, ⟨f, r, G, L⟩, a, ca, ga⟩ := u_53
  have hI : InvC n li f r L (K + 24000) := hw.1
  have hT : InvT n k (r 4) L G := hw.2
  have hg : f 0 = nI n := hI.1.2.2.2.2.1
  have hn0 : 2 ≤ n := hI.1.1
  have hn1 : n ≤ 10 := hI.1.2.1
  have hk : k ≤ 100 := hT.1
  have hn2 : n * n ≤ 10 * 10 := Nat.mul_le_mul hn1 hn1
  have hg9 : (dSec f r L).1 0 = nI n := (inv_sec hI).1.2.2.2.2.1
  have hP : va_P D vwCl (XO x0 pa pb ++ (DC cI pa f r ++ (DC cI pb f2 r2 ++ (SC cI cR a ca ga n k f r ++ (CW cI ca n (r 5) ++ RW cI ga k 3 G))))) H := hP
  have hD : va_D A (XO x0 pa pb ++ (DC cI pa f r ++ (DC cI pb f2 r2 ++ (SC cI cR a ca ga n k f r ++ (CW cI ca n (r 5) ++ RW cI ga k 3 G))))) := hD
  refine lv_astore_n (lv' := [(2, .ref (a 0)), (4, .int (x36 + (nI (571 * t)))), (3, .int (nI t)), (1, .ref x0), (0, .ref sb)]) hx hb dL_law_56 rfl hl (by decide) rfl (fun ls hl => ?_)
  refine lv_aload_n hx hb dL_law_57 rfl (lv_at hl 0 rfl) ?_
  refine lv_ifnonnull (tgt := 63) hx hb dL_law_58 (by decide) ?_
  refine lv_aload_n hx hb dL_law_63 rfl (lv_at hl 3 rfl) ?_
  refine wCVi (pre := ([] : va_W)) (Wc := XO x0 pa pb ++ (DC cI pa f r ++ DC cI pb f2 r2)) (suf := SC cI cR a ca ga n k f r ++ (CW cI ca n (r 5) ++ RW cI ga k 3 G)) (As := []) (rest := []) ⟨hx, hb, hml, hown, hts⟩ (mX1_guests l D cI x0 pa pb f f2 r r2 _) hN hA hK1 hS hP hD (by simp only [List.append_assoc, List.append_nil, List.nil_append]) 0 (r := (RX1, TX1, 2)) rfl rfl (cwV 0 hts gL_law_X1_guests rfl rfl rfl (by decide +kernel) ⟨Nat.le_of_ble_eq_true rfl, Nat.le_of_ble_eq_true rfl⟩) rfl hl.1 rfl (Nat.le_of_ble_eq_true rfl) dL_law_64 ⟨by show ((c0 + 0) + 17) ≤ 1200172; omega, by show ((s0 + 0) + 175) ≤ 5500668; omega⟩ (fun r_64 u_64 H locs hw hP hD hS => ?_)
  have hw : r_64 = f 0 := hw
  subst hw
  have hP : va_P D vwCl (XO x0 pa pb ++ (DC cI pa f r ++ (DC cI pb f2 r2 ++ (SC cI cR a ca ga n k f r ++ (CW cI ca n (r 5) ++ RW cI ga k 3 G))))) H := by simpa only [List.append_assoc, List.append_nil, List.nil_append] using hP
  have hD : va_D A (XO x0 pa pb ++ (DC cI pa f r ++ (DC cI pb f2 r2 ++ (SC cI cR a ca ga n k f r ++ (CW cI ca n (r 5) ++ RW cI ga k 3 G))))) := by simpa only [List.append_assoc, List.append_nil, List.nil_append] using hD
  refine wTop (z := nI n) (hg) ?_
  refine lv_istore (lv' := [(5, .int (nI n)), (2, .ref (a 0)), (4, .int (x36 + (nI (571 * t)))), (3, .int (nI t)), (1, .ref x0), (0, .ref sb)]) hx hb dL_law_67 hl (by decide) rfl (fun ls hl => ?_)
  refine lv_iload hx hb dL_law_69 (lv_at hl 0 rfl) ?_
  refine lv_iload hx hb dL_law_71 (lv_at hl 0 rfl) ?_
  refine wMnaF hx hb hown (hts (.classLink RL 96 "[[I") (by decide +kernel)) (hts (.arrayClass .int) (by decide +kernel)) hN hK hP hD hS hA 1 0 rfl rfl n n rfl rfl (by omega) (by omega) ⟨by show ((c0 + 0) + 17) + (1 + n) ≤ 1200172; omega, by show ((s0 + 0) + 175) + (n + n * n) ≤ 5500668; omega⟩ dL_law_73 (fun q73 r73 H hP hD hS => ?_)
  have hP : va_P D vwCl ([QA cR q73 n (RF n r73)] ++ (XO x0 pa pb ++ (DC cI pa f r ++ (DC cI pb f2 r2 ++ (SC cI cR a ca ga n k f r ++ (CW cI ca n (r 5) ++ (RW cI ga k 3 G ++ RW cI r73 n n (fun _ _ => 0)))))))) H := by simpa only [List.append_assoc, List.append_nil, List.nil_append] using hP
  have hD : va_D A ([QA cR q73 n (RF n r73)] ++ (XO x0 pa pb ++ (DC cI pa f r ++ (DC cI pb f2 r2 ++ (SC cI cR a ca ga n k f r ++ (CW cI ca n (r 5) ++ (RW cI ga k 3 G ++ RW cI r73 n n (fun _ _ => 0)))))))) := by simpa only [List.append_assoc, List.append_nil, List.nil_append] using hD
  refine lv_astore (lv' := [(6, .ref q73), (5, .int (nI n)), (2, .ref (a 0)), (4, .int (x36 + (nI (571 * t)))), (3, .int (nI t)), (1, .ref x0), (0, .ref sb)]) hx hb dL_law_77 hl (by decide) rfl (fun ls hl => ?_)
  refine lv_iload hx hb dL_law_79 (lv_at hl 1 rfl) ?_
  refine lv_iload hx hb dL_law_81 (lv_at hl 1 rfl) ?_
  refine wMnaF hx hb hown (hts (.classLink RL 96 "[[I") (by decide +kernel)) (hts (.arrayClass .int) (by decide +kernel)) hN hK hP hD hS hA 1 0 rfl rfl n n rfl rfl (by omega) (by omega) ⟨by show (((c0 + 0) + 17) + 1 + n) + (1 + n) ≤ 1200172; omega, by show (((s0 + 0) + 175) + n + n * n) + (n + n * n) ≤ 5500668; omega⟩ dL_law_83 (fun q83 r83 H hP hD hS => ?_)
  have hP : va_P D vwCl ([QA cR q83 n (RF n r83)] ++ ([QA cR q73 n (RF n r73)] ++ (XO x0 pa pb ++ (DC cI pa f r ++ (DC cI pb f2 r2 ++ (SC cI cR a ca ga n k f r ++ (CW cI ca n (r 5) ++ (RW cI ga k 3 G ++ (RW cI r73 n n (fun _ _ => 0) ++ RW cI r83 n n (fun _ _ => 0)))))))))) H := by simpa only [List.append_assoc, List.append_nil, List.nil_append] using hP
  have hD : va_D A ([QA cR q83 n (RF n r83)] ++ ([QA cR q73 n (RF n r73)] ++ (XO x0 pa pb ++ (DC cI pa f r ++ (DC cI pb f2 r2 ++ (SC cI cR a ca ga n k f r ++ (CW cI ca n (r 5) ++ (RW cI ga k 3 G ++ (RW cI r73 n n (fun _ _ => 0) ++ RW cI r83 n n (fun _ _ => 0)))))))))) := by simpa only [List.append_assoc, List.append_nil, List.nil_append] using hD
  refine lv_astore (lv' := [(7, .ref q83), (6, .ref q73), (5, .int (nI n)), (2, .ref (a 0)), (4, .int (x36 + (nI (571 * t)))), (3, .int (nI t)), (1, .ref x0), (0, .ref sb)]) hx hb dL_law_87 hl (by decide) rfl (fun ls hl => ?_)
  refine lv_iconst (v := 0) hx hb dL_law_89 (by decide) ?_
  refine lv_istore (lv' := [(8, .int 0), (7, .ref q83), (6, .ref q73), (5, .int (nI n)), (2, .ref (a 0)), (4, .int (x36 + (nI (571 * t)))), (3, .int (nI t)), (1, .ref x0), (0, .ref sb)]) hx hb dL_law_90 hl (by decide) rfl (fun ls hl => ?_)
  refine lv_iconst (v := 0) hx hb dL_law_92 (by decide) ?_
  refine lv_istore (lv' := [(9, .int 0), (8, .int 0), (7, .ref q83), (6, .ref q73), (5, .int (nI n)), (2, .ref (a 0)), (4, .int (x36 + (nI (571 * t)))), (3, .int (nI t)), (1, .ref x0), (0, .ref sb)]) hx hb dL_law_93 hl (by decide) rfl (fun ls hl => ?_)
  refine lv_iconst (v := 0) hx hb dL_law_95 (by decide) ?_
  refine lv_istore (lv' := [(10, .int 0), (9, .int 0), (8, .int 0), (7, .ref q83), (6, .ref q73), (5, .int (nI n)), (2, .ref (a 0)), (4, .int (x36 + (nI (571 * t)))), (3, .int (nI t)), (1, .ref x0), (0, .ref sb)]) hx hb dL_law_96 hl (by decide) rfl (fun ls hl => ?_)
  refine lv_iconst (v := 0) hx hb dL_law_98 (by decide) ?_
  refine lv_istore (lv' := [(11, .int 0), (10, .int 0), (9, .int 0), (8, .int 0), (7, .ref q83), (6, .ref q73), (5, .int (nI n)), (2, .ref (a 0)), (4, .int (x36 + (nI (571 * t)))), (3, .int (nI t)), (1, .ref x0), (0, .ref sb)]) hx hb dL_law_99 hl (by decide) rfl (fun ls hl => ?_)
  have loop101 : ∀ (j i101 : Nat), i101 + j = n → ∀ (H : Heap) (locs : List Loc) (ls : Array Slot), va_P D vwCl ([QA cR q83 n (RF n r83)] ++ ([QA cR q73 n (RF n r73)] ++ (XO x0 pa pb ++ (DC cI pa f r ++ (DC cI pb f2 r2 ++ (SC cI cR a ca ga n k f r ++ (CW cI ca n (r 5) ++ (RW cI ga k 3 G ++ (RW cI r73 n n (gRow (dToGo (r 4)) i101 0) ++ RW cI r83 n n (gRow (r 5) i101 0)))))))))) H → va_D A ([QA cR q83 n (RF n r83)] ++ ([QA cR q73 n (RF n r73)] ++ (XO x0 pa pb ++ (DC cI pa f r ++ (DC cI pb f2 r2 ++ (SC cI cR a ca ga n k f r ++ (CW cI ca n (r 5) ++ (RW cI ga k 3 G ++ (RW cI r73 n n (gRow (dToGo (r 4)) i101 0) ++ RW cI r83 n n (gRow (r 5) i101 0)))))))))) → va_S A s.heap H locs → lv_has ls 27 [(11, .int (nI i101)), (8, .int (acc2 (qW (r 4)) n 0 i101)), (9, .int (dSum (r 3) i101)), (10, .int (acc2 (r 5) n 0 i101)), (5, .int (nI n)), (6, .ref q73), (7, .ref q83), (3, .int (nI t)), (2, .ref (a 0)), (1, .ref x0), (0, .ref sb)] → W p l e room_1 s m args below meth c H locs ((((c0 + 0) + 17) + 1 + n) + 1 + n) ((((s0 + 0) + 175) + n + n * n) + n + n * n) Q (F0 m 101 ls []) := by
    intro j
    induction j with
    | zero =>
      intro i101 hi101 H locs ls hP hD hS hl
      have ez : n = i101 := by omega
      subst ez
      refine lv_iload hx hb dL_law_101 (lv_at hl 0 rfl) ?_
      refine lv_iload hx hb dL_law_103 (lv_at hl 4 rfl) ?_
      refine lv_icmp_ge (tgt := 319) hx hb dL_law_105 (by decide) (fun c_105 => ?_) (fun h9 => absurd (nI_le (Nat.le_refl _) (by omega)) h9)
      have c_105n := (nI_leI (a := n) (b := n) (by omega) (by omega)).mp c_105
      have join442 : ∀ (H : Heap) (locs : List Loc) (ls : Array Slot), va_P D vwCl ([QA cR q83 n (RF n r83)] ++ ([QA cR q73 n (RF n r73)] ++ (XO x0 pa pb ++ (DC cI pa f r ++ (DC cI pb f2 r2 ++ (SC cI cR a ca ga n k f r ++ (CW cI ca n (r 5) ++ (RW cI ga k 3 G ++ (RW cI r73 n n (gRow (dToGo (r 4)) n 0) ++ RW cI r83 n n (gRow (r 5) n 0)))))))))) H → va_D A ([QA cR q83 n (RF n r83)] ++ ([QA cR q73 n (RF n r73)] ++ (XO x0 pa pb ++ (DC cI pa f r ++ (DC cI pb f2 r2 ++ (SC cI cR a ca ga n k f r ++ (CW cI ca n (r 5) ++ (RW cI ga k 3 G ++ (RW cI r73 n n (gRow (dToGo (r 4)) n 0) ++ RW cI r83 n n (gRow (r 5) n 0)))))))))) → va_S A s.heap H locs → lv_has ls 27 [(11, .int (f 6)), (12, .int (f 5)), (13, .int (f 3)), (14, .int (f 4)), (15, .int (f 7)), (16, .int (f 8)), (9, .int (dSum (r 3) n)), (10, .int (acc2 (r 5) n 0 n)), (5, .int (nI n)), (6, .ref q73), (7, .ref q83), (3, .int (nI t)), (2, .ref (a 0)), (1, .ref x0), (0, .ref sb)] → W p l e room_1 s m args below meth c H locs ((((c0 + 0) + 17) + 1 + n) + 1 + n) ((((s0 + 0) + 175) + n + n * n) + n + n * n) Q (F0 m 442 ls []) := by
        intro  H locs ls hP hD hS hl
        refine lv_iload hx hb dL_law_442 (lv_at hl 3 rfl) ?_
        refine lv_bipush (v := 60) hx hb dL_law_444 (by decide) ?_
        refine lv_icmp_gt (tgt := 472) hx hb dL_law_446 (by decide) (fun h9 => absurd h9 (q_60 hI)) (fun c_446 => ?_)
        refine lv_iload hx hb dL_law_449 (lv_at hl 2 rfl) ?_
        refine lv_iload hx hb dL_law_451 (lv_at hl 8 rfl) ?_
        refine lv_icmp_ge (tgt := 472) hx hb dL_law_453 (by decide) (fun h9 => absurd h9 (q_spk hI)) (fun c_453 => ?_)
        refine lv_aload_n hx hb dL_law_456 rfl (lv_at hl 13 rfl) ?_
        refine lv_aload_n hx hb dL_law_457 rfl (lv_at hl 13 rfl) ?_
        refine wCVi (pre := [QA cR q83 n (RF n r83)] ++ [QA cR q73 n (RF n r73)]) (Wc := XO x0 pa pb ++ (DC cI pa f r ++ DC cI pb f2 r2)) (suf := SC cI cR a ca ga n k f r ++ (CW cI ca n (r 5) ++ (RW cI ga k 3 G ++ (RW cI r73 n n (gRow (dToGo (r 4)) n 0) ++ RW cI r83 n n (gRow (r 5) n 0))))) (As := []) (rest := [.ref x0]) ⟨hx, hb, hml, hown, hts⟩ (mX1_quietest l D cI x0 pa pb f f2 r r2 n _ hg hn1 (by omega)) hN hA hK1 hS hP hD (by simp only [List.append_assoc, List.append_nil, List.nil_append]) 0 (r := (RX1, TX1, 2)) rfl rfl (cwV 0 hts gL_law_X1_quietest rfl rfl rfl (by decide +kernel) ⟨Nat.le_of_ble_eq_true rfl, Nat.le_of_ble_eq_true rfl⟩) rfl hl.1 rfl (Nat.le_of_ble_eq_true rfl) dL_law_458 ⟨by show ((((c0 + 0) + 17) + 1 + n) + 1 + n) ≤ 1200172; omega, by show ((((s0 + 0) + 175) + n + n * n) + n + n * n) ≤ 5500668; omega⟩ (fun r_458 u_458 H locs hw hP hD hS => ?_)
        have hw : r_458 = nI (dQuiet (r 3) (n - 1)) := hw
        subst hw
        have hP : va_P D vwCl ([QA cR q83 n (RF n r83)] ++ ([QA cR q73 n (RF n r73)] ++ (XO x0 pa pb ++ (DC cI pa f r ++ (DC cI pb f2 r2 ++ (SC cI cR a ca ga n k f r ++ (CW cI ca n (r 5) ++ (RW cI ga k 3 G ++ (RW cI r73 n n (gRow (dToGo (r 4)) n 0) ++ RW cI r83 n n (gRow (r 5) n 0)))))))))) H := by simpa only [List.append_assoc, List.append_nil, List.nil_append] using hP
        have hD : va_D A ([QA cR q83 n (RF n r83)] ++ ([QA cR q73 n (RF n r73)] ++ (XO x0 pa pb ++ (DC cI pa f r ++ (DC cI pb f2 r2 ++ (SC cI cR a ca ga n k f r ++ (CW cI ca n (r 5) ++ (RW cI ga k 3 G ++ (RW cI r73 n n (gRow (dToGo (r 4)) n 0) ++ RW cI r83 n n (gRow (r 5) n 0)))))))))) := by simpa only [List.append_assoc, List.append_nil, List.nil_append] using hD
        refine wCVi (pre := [QA cR q83 n (RF n r83)] ++ [QA cR q73 n (RF n r73)]) (Wc := XO x0 pa pb ++ (DC cI pa f r ++ DC cI pb f2 r2)) (suf := SC cI cR a ca ga n k f r ++ (CW cI ca n (r 5) ++ (RW cI ga k 3 G ++ (RW cI r73 n n (gRow (dToGo (r 4)) n 0) ++ RW cI r83 n n (gRow (r 5) n 0))))) (As := [.int (nI (dQuiet (r 3) (n - 1)))]) (rest := []) ⟨hx, hb, hml, hown, hts⟩ (mX1_unsaidBy l D cI x0 pa pb f f2 r r2 n (dQuiet (r 3) (n - 1)) _ hg hn1 (by omega) (by have := dQuiet_le (r 3) (n - 1); omega)) hN hA hK1 hS hP hD (by simp only [List.append_assoc, List.append_nil, List.nil_append]) 0 (r := (RX1, TX1, 2)) rfl rfl (cwV 1 hts gL_law_X1_unsaidBy rfl rfl rfl (by decide +kernel) ⟨Nat.le_of_ble_eq_true rfl, Nat.le_of_ble_eq_true rfl⟩) rfl hl.1 rfl (Nat.le_of_ble_eq_true rfl) dL_law_461 ⟨by show ((((c0 + 0) + 17) + 1 + n) + 1 + n) ≤ 1200172; omega, by show ((((s0 + 0) + 175) + n + n * n) + n + n * n) ≤ 5500668; omega⟩ (fun r_461 u_461 H locs hw hP hD hS => ?_)
        have hw : r_461 = r 3 (dQuiet (r 3) (n - 1)) := hw
        subst hw
        have hP : va_P D vwCl ([QA cR q83 n (RF n r83)] ++ ([QA cR q73 n (RF n r73)] ++ (XO x0 pa pb ++ (DC cI pa f r ++ (DC cI pb f2 r2 ++ (SC cI cR a ca ga n k f r ++ (CW cI ca n (r 5) ++ (RW cI ga k 3 G ++ (RW cI r73 n n (gRow (dToGo (r 4)) n 0) ++ RW cI r83 n n (gRow (r 5) n 0)))))))))) H := by simpa only [List.append_assoc, List.append_nil, List.nil_append] using hP
        have hD : va_D A ([QA cR q83 n (RF n r83)] ++ ([QA cR q73 n (RF n r73)] ++ (XO x0 pa pb ++ (DC cI pa f r ++ (DC cI pb f2 r2 ++ (SC cI cR a ca ga n k f r ++ (CW cI ca n (r 5) ++ (RW cI ga k 3 G ++ (RW cI r73 n n (gRow (dToGo (r 4)) n 0) ++ RW cI r83 n n (gRow (r 5) n 0)))))))))) := by simpa only [List.append_assoc, List.append_nil, List.nil_append] using hD
        refine lv_iload hx hb dL_law_464 (lv_at hl 8 rfl) ?_
        refine lv_imul hx hb dL_law_466 ?_
        refine lv_iload hx hb dL_law_467 (lv_at hl 6 rfl) ?_
        refine lv_icmp_ge (tgt := 474) hx hb dL_law_469 (by decide) (fun c_469 => ?_) (fun h9 => absurd (q_quiet hI (by omega)) h9)
        have join578 : ∀ (H : Heap) (locs : List Loc) (ls : Array Slot), va_P D vwCl ([QA cR q83 n (RF n r83)] ++ ([QA cR q73 n (RF n r73)] ++ (XO x0 pa pb ++ (DC cI pa (dSec f r L).1 (dSec f r L).2 ++ (DC cI pb f2 r2 ++ (SC cI cR a ca ga n k (dSec f r L).1 (dSec f r L).2 ++ (CW cI ca n ((dSec f r L).2 5) ++ (RW cI ga k 3 (sPass k (f, r, G)).2.2 ++ (RW cI r73 n n (gRow (dToGo (r 4)) n 0) ++ RW cI r83 n n (gRow (r 5) n 0)))))))))) H → va_D A ([QA cR q83 n (RF n r83)] ++ ([QA cR q73 n (RF n r73)] ++ (XO x0 pa pb ++ (DC cI pa (dSec f r L).1 (dSec f r L).2 ++ (DC cI pb f2 r2 ++ (SC cI cR a ca ga n k (dSec f r L).1 (dSec f r L).2 ++ (CW cI ca n ((dSec f r L).2 5) ++ (RW cI ga k 3 (sPass k (f, r, G)).2.2 ++ (RW cI r73 n n (gRow (dToGo (r 4)) n 0) ++ RW cI r83 n n (gRow (r 5) n 0)))))))))) → va_S A s.heap H locs → lv_has ls 27 [(11, .int (f 6)), (15, .int (f 7)), (16, .int (f 8)), (10, .int (acc2 (r 5) n 0 n)), (18, .int (dSum ((dSec f r L).2 3) n + (dSec f r L).1 6 - (dSum (r 3) n + f 6))), (19, .int ((dSec f r L).1 3)), (5, .int (nI n)), (6, .ref q73), (7, .ref q83), (3, .int (nI t)), (2, .ref (a 0)), (1, .ref x0), (0, .ref sb)] → W p l e room_1 s m args below meth c H locs ((((c0 + 0) + 17) + 1 + n) + 1 + n) ((((s0 + 0) + 175) + n + n * n) + n + n * n) Q (F0 m 578 ls []) := by
          intro  H locs ls hP hD hS hl
          refine lv_iconst (v := 0) hx hb dL_law_578 (by decide) ?_
          refine lv_istore (lv' := [(20, .int 0), (11, .int (f 6)), (15, .int (f 7)), (16, .int (f 8)), (10, .int (acc2 (r 5) n 0 n)), (18, .int (dSum ((dSec f r L).2 3) n + (dSec f r L).1 6 - (dSum (r 3) n + f 6))), (19, .int ((dSec f r L).1 3)), (5, .int (nI n)), (6, .ref q73), (7, .ref q83), (3, .int (nI t)), (2, .ref (a 0)), (1, .ref x0), (0, .ref sb)]) hx hb dL_law_579 hl (by decide) rfl (fun ls hl => ?_)
          refine lv_iconst (v := 0) hx hb dL_law_581 (by decide) ?_
          refine lv_istore (lv' := [(21, .int 0), (20, .int 0), (11, .int (f 6)), (15, .int (f 7)), (16, .int (f 8)), (10, .int (acc2 (r 5) n 0 n)), (18, .int (dSum ((dSec f r L).2 3) n + (dSec f r L).1 6 - (dSum (r 3) n + f 6))), (19, .int ((dSec f r L).1 3)), (5, .int (nI n)), (6, .ref q73), (7, .ref q83), (3, .int (nI t)), (2, .ref (a 0)), (1, .ref x0), (0, .ref sb)]) hx hb dL_law_582 hl (by decide) rfl (fun ls hl => ?_)
          refine lv_iconst (v := 0) hx hb dL_law_584 (by decide) ?_
          refine lv_istore (lv' := [(22, .int 0), (21, .int 0), (20, .int 0), (11, .int (f 6)), (15, .int (f 7)), (16, .int (f 8)), (10, .int (acc2 (r 5) n 0 n)), (18, .int (dSum ((dSec f r L).2 3) n + (dSec f r L).1 6 - (dSum (r 3) n + f 6))), (19, .int ((dSec f r L).1 3)), (5, .int (nI n)), (6, .ref q73), (7, .ref q83), (3, .int (nI t)), (2, .ref (a 0)), (1, .ref x0), (0, .ref sb)]) hx hb dL_law_585 hl (by decide) rfl (fun ls hl => ?_)
          have loop587 : ∀ (j i587 : Nat), i587 + j = n → ∀ (H : Heap) (locs : List Loc) (ls : Array Slot), va_P D vwCl ([QA cR q83 n (RF n r83)] ++ ([QA cR q73 n (RF n r73)] ++ (XO x0 pa pb ++ (DC cI pa (dSec f r L).1 (dSec f r L).2 ++ (DC cI pb f2 r2 ++ (SC cI cR a ca ga n k (dSec f r L).1 (dSec f r L).2 ++ (CW cI ca n ((dSec f r L).2 5) ++ (RW cI ga k 3 (sPass k (f, r, G)).2.2 ++ (RW cI r73 n n (gRow (dToGo (r 4)) n 0) ++ RW cI r83 n n (gRow (r 5) n 0)))))))))) H → va_D A ([QA cR q83 n (RF n r83)] ++ ([QA cR q73 n (RF n r73)] ++ (XO x0 pa pb ++ (DC cI pa (dSec f r L).1 (dSec f r L).2 ++ (DC cI pb f2 r2 ++ (SC cI cR a ca ga n k (dSec f r L).1 (dSec f r L).2 ++ (CW cI ca n ((dSec f r L).2 5) ++ (RW cI ga k 3 (sPass k (f, r, G)).2.2 ++ (RW cI r73 n n (gRow (dToGo (r 4)) n 0) ++ RW cI r83 n n (gRow (r 5) n 0)))))))))) → va_S A s.heap H locs → lv_has ls 27 [(22, .int (nI i587)), (20, .int (acc2 (qO (r 4) ((dSec f r L).2 4)) n 0 i587)), (21, .int (acc2 ((dSec f r L).2 5) n 0 i587)), (10, .int (acc2 (r 5) n 0 n)), (11, .int (f 6)), (15, .int (f 7)), (16, .int (f 8)), (18, .int (dSum ((dSec f r L).2 3) n + (dSec f r L).1 6 - (dSum (r 3) n + f 6))), (19, .int ((dSec f r L).1 3)), (5, .int (nI n)), (6, .ref q73), (7, .ref q83), (3, .int (nI t)), (2, .ref (a 0)), (1, .ref x0), (0, .ref sb)] → W p l e room_1 s m args below meth c H locs ((((c0 + 0) + 17) + 1 + n) + 1 + n) ((((s0 + 0) + 175) + n + n * n) + n + n * n) Q (F0 m 587 ls []) := by
            intro j
            induction j with
            | zero =>
              intro i587 hi587 H locs ls hP hD hS hl
              have ez : n = i587 := by omega
              subst ez
              refine lv_iload hx hb dL_law_587 (lv_at hl 0 rfl) ?_
              refine lv_iload hx hb dL_law_589 (lv_at hl 9 rfl) ?_
              refine lv_icmp_ge (tgt := 797) hx hb dL_law_591 (by decide) (fun c_591 => ?_) (fun h9 => absurd (nI_le (Nat.le_refl _) (by omega)) h9)
              have c_591n := (nI_leI (a := n) (b := n) (by omega) (by omega)).mp c_591
              refine lv_aload_n hx hb dL_law_797 rfl (lv_at hl 14 rfl) ?_
              refine wCVi (pre := [QA cR q83 n (RF n r83)] ++ [QA cR q73 n (RF n r73)]) (Wc := XO x0 pa pb ++ (DC cI pa (dSec f r L).1 (dSec f r L).2 ++ DC cI pb f2 r2)) (suf := SC cI cR a ca ga n k (dSec f r L).1 (dSec f r L).2 ++ (CW cI ca n ((dSec f r L).2 5) ++ (RW cI ga k 3 (sPass k (f, r, G)).2.2 ++ (RW cI r73 n n (gRow (dToGo (r 4)) n 0) ++ RW cI r83 n n (gRow (r 5) n 0))))) (As := []) (rest := []) ⟨hx, hb, hml, hown, hts⟩ (mX1_meetings l D cI x0 pa pb (dSec f r L).1 f2 (dSec f r L).2 r2 _) hN hA hK1 hS hP hD (by simp only [List.append_assoc, List.append_nil, List.nil_append]) 0 (r := (RX1, TX1, 2)) rfl rfl (cwV 0 hts gL_law_X1_meetings rfl rfl rfl (by decide +kernel) ⟨Nat.le_of_ble_eq_true rfl, Nat.le_of_ble_eq_true rfl⟩) rfl hl.1 rfl (Nat.le_of_ble_eq_true rfl) dL_law_798 ⟨by show ((((c0 + 0) + 17) + 1 + n) + 1 + n) ≤ 1200172; omega, by show ((((s0 + 0) + 175) + n + n * n) + n + n * n) ≤ 5500668; omega⟩ (fun r_798 u_798 H locs hw hP hD hS => ?_)
              have hw : r_798 = (dSec f r L).1 7 := hw
              subst hw
              have hP : va_P D vwCl ([QA cR q83 n (RF n r83)] ++ ([QA cR q73 n (RF n r73)] ++ (XO x0 pa pb ++ (DC cI pa (dSec f r L).1 (dSec f r L).2 ++ (DC cI pb f2 r2 ++ (SC cI cR a ca ga n k (dSec f r L).1 (dSec f r L).2 ++ (CW cI ca n ((dSec f r L).2 5) ++ (RW cI ga k 3 (sPass k (f, r, G)).2.2 ++ (RW cI r73 n n (gRow (dToGo (r 4)) n 0) ++ RW cI r83 n n (gRow (r 5) n 0)))))))))) H := by simpa only [List.append_assoc, List.append_nil, List.nil_append] using hP
              have hD : va_D A ([QA cR q83 n (RF n r83)] ++ ([QA cR q73 n (RF n r73)] ++ (XO x0 pa pb ++ (DC cI pa (dSec f r L).1 (dSec f r L).2 ++ (DC cI pb f2 r2 ++ (SC cI cR a ca ga n k (dSec f r L).1 (dSec f r L).2 ++ (CW cI ca n ((dSec f r L).2 5) ++ (RW cI ga k 3 (sPass k (f, r, G)).2.2 ++ (RW cI r73 n n (gRow (dToGo (r 4)) n 0) ++ RW cI r83 n n (gRow (r 5) n 0)))))))))) := by simpa only [List.append_assoc, List.append_nil, List.nil_append] using hD
              refine lv_iload hx hb dL_law_801 (lv_at hl 5 rfl) ?_
              refine lv_isub hx hb dL_law_803 ?_
              refine lv_istore (lv' := [(22, .int (((dSec f r L).1 7) - (f 7))), (20, .int (acc2 (qO (r 4) ((dSec f r L).2 4)) n 0 n)), (21, .int (acc2 ((dSec f r L).2 5) n 0 n)), (10, .int (acc2 (r 5) n 0 n)), (11, .int (f 6)), (15, .int (f 7)), (16, .int (f 8)), (18, .int (dSum ((dSec f r L).2 3) n + (dSec f r L).1 6 - (dSum (r 3) n + f 6))), (19, .int ((dSec f r L).1 3)), (5, .int (nI n)), (6, .ref q73), (7, .ref q83), (3, .int (nI t)), (2, .ref (a 0)), (1, .ref x0), (0, .ref sb)]) hx hb dL_law_804 hl (by decide) rfl (fun ls hl => ?_)
              refine lv_aload_n hx hb dL_law_806 rfl (lv_at hl 14 rfl) ?_
              refine wCVi (pre := [QA cR q83 n (RF n r83)] ++ [QA cR q73 n (RF n r73)]) (Wc := XO x0 pa pb ++ (DC cI pa (dSec f r L).1 (dSec f r L).2 ++ DC cI pb f2 r2)) (suf := SC cI cR a ca ga n k (dSec f r L).1 (dSec f r L).2 ++ (CW cI ca n ((dSec f r L).2 5) ++ (RW cI ga k 3 (sPass k (f, r, G)).2.2 ++ (RW cI r73 n n (gRow (dToGo (r 4)) n 0) ++ RW cI r83 n n (gRow (r 5) n 0))))) (As := []) (rest := []) ⟨hx, hb, hml, hown, hts⟩ (mX1_lostGlances l D cI x0 pa pb (dSec f r L).1 f2 (dSec f r L).2 r2 _) hN hA hK1 hS hP hD (by simp only [List.append_assoc, List.append_nil, List.nil_append]) 0 (r := (RX1, TX1, 2)) rfl rfl (cwV 0 hts gL_law_X1_lostGlances rfl rfl rfl (by decide +kernel) ⟨Nat.le_of_ble_eq_true rfl, Nat.le_of_ble_eq_true rfl⟩) rfl hl.1 rfl (Nat.le_of_ble_eq_true rfl) dL_law_807 ⟨by show ((((c0 + 0) + 17) + 1 + n) + 1 + n) ≤ 1200172; omega, by show ((((s0 + 0) + 175) + n + n * n) + n + n * n) ≤ 5500668; omega⟩ (fun r_807 u_807 H locs hw hP hD hS => ?_)
              have hw : r_807 = (dSec f r L).1 8 := hw
              subst hw
              have hP : va_P D vwCl ([QA cR q83 n (RF n r83)] ++ ([QA cR q73 n (RF n r73)] ++ (XO x0 pa pb ++ (DC cI pa (dSec f r L).1 (dSec f r L).2 ++ (DC cI pb f2 r2 ++ (SC cI cR a ca ga n k (dSec f r L).1 (dSec f r L).2 ++ (CW cI ca n ((dSec f r L).2 5) ++ (RW cI ga k 3 (sPass k (f, r, G)).2.2 ++ (RW cI r73 n n (gRow (dToGo (r 4)) n 0) ++ RW cI r83 n n (gRow (r 5) n 0)))))))))) H := by simpa only [List.append_assoc, List.append_nil, List.nil_append] using hP
              have hD : va_D A ([QA cR q83 n (RF n r83)] ++ ([QA cR q73 n (RF n r73)] ++ (XO x0 pa pb ++ (DC cI pa (dSec f r L).1 (dSec f r L).2 ++ (DC cI pb f2 r2 ++ (SC cI cR a ca ga n k (dSec f r L).1 (dSec f r L).2 ++ (CW cI ca n ((dSec f r L).2 5) ++ (RW cI ga k 3 (sPass k (f, r, G)).2.2 ++ (RW cI r73 n n (gRow (dToGo (r 4)) n 0) ++ RW cI r83 n n (gRow (r 5) n 0)))))))))) := by simpa only [List.append_assoc, List.append_nil, List.nil_append] using hD
              refine lv_iload hx hb dL_law_810 (lv_at hl 6 rfl) ?_
              refine lv_isub hx hb dL_law_812 ?_
              refine lv_istore (lv' := [(23, .int (((dSec f r L).1 8) - (f 8))), (22, .int (((dSec f r L).1 7) - (f 7))), (20, .int (acc2 (qO (r 4) ((dSec f r L).2 4)) n 0 n)), (21, .int (acc2 ((dSec f r L).2 5) n 0 n)), (10, .int (acc2 (r 5) n 0 n)), (11, .int (f 6)), (15, .int (f 7)), (16, .int (f 8)), (18, .int (dSum ((dSec f r L).2 3) n + (dSec f r L).1 6 - (dSum (r 3) n + f 6))), (19, .int ((dSec f r L).1 3)), (5, .int (nI n)), (6, .ref q73), (7, .ref q83), (3, .int (nI t)), (2, .ref (a 0)), (1, .ref x0), (0, .ref sb)]) hx hb dL_law_813 hl (by decide) rfl (fun ls hl => ?_)
              refine lv_iload hx hb dL_law_815 (lv_at hl 2 rfl) ?_
              refine lv_iconst (v := 2) hx hb dL_law_817 (by decide) ?_
              refine lv_iload hx hb dL_law_818 (lv_at hl 1 rfl) ?_
              refine lv_imul hx hb dL_law_820 ?_
              refine lv_iload hx hb dL_law_821 (lv_at hl 0 rfl) ?_
              refine lv_iadd hx hb dL_law_823 ?_
              refine lv_iload hx hb dL_law_824 (lv_at hl 3 rfl) ?_
              refine lv_iadd hx hb dL_law_826 ?_
              refine lv_iload hx hb dL_law_827 (lv_at hl 4 rfl) ?_
              refine lv_isub hx hb dL_law_829 ?_
              refine lv_icmp_ne (tgt := 857) hx hb dL_law_830 (by decide) (fun h9 => absurd ((q_books hI).1) h9) (fun c_830 => ?_)
              refine lv_iload hx hb dL_law_833 (lv_at hl 8 rfl) ?_
              refine lv_bipush (v := 6) hx hb dL_law_835 (by decide) ?_
              refine lv_iload hx hb dL_law_837 (lv_at hl 1 rfl) ?_
              refine lv_imul hx hb dL_law_839 ?_
              refine lv_iload hx hb dL_law_840 (lv_at hl 3 rfl) ?_
              refine lv_iadd hx hb dL_law_842 ?_
              refine lv_iload hx hb dL_law_843 (lv_at hl 4 rfl) ?_
              refine lv_isub hx hb dL_law_845 ?_
              refine lv_aload_n hx hb dL_law_846 rfl (lv_at hl 15 rfl) ?_
              refine wCVi (pre := [QA cR q83 n (RF n r83)] ++ [QA cR q73 n (RF n r73)]) (Wc := XO x0 pa pb ++ (DC cI pa (dSec f r L).1 (dSec f r L).2 ++ DC cI pb f2 r2)) (suf := SC cI cR a ca ga n k (dSec f r L).1 (dSec f r L).2 ++ (CW cI ca n ((dSec f r L).2 5) ++ (RW cI ga k 3 (sPass k (f, r, G)).2.2 ++ (RW cI r73 n n (gRow (dToGo (r 4)) n 0) ++ RW cI r83 n n (gRow (r 5) n 0))))) (As := []) (rest := [.int (((6 * (((dSec f r L).1 7) - (f 7))) + (acc2 ((dSec f r L).2 5) n 0 n)) - (acc2 (r 5) n 0 n)), .int (dSum ((dSec f r L).2 3) n + (dSec f r L).1 6 - (dSum (r 3) n + f 6))]) ⟨hx, hb, hml, hown, hts⟩ (mX1_unsaidInPauses l D cI x0 pa pb (dSec f r L).1 f2 (dSec f r L).2 r2 _) hN hA hK1 hS hP hD (by simp only [List.append_assoc, List.append_nil, List.nil_append]) 0 (r := (RX1, TX1, 2)) rfl rfl (cwV 0 hts gL_law_X1_unsaidInPauses rfl rfl rfl (by decide +kernel) ⟨Nat.le_of_ble_eq_true rfl, Nat.le_of_ble_eq_true rfl⟩) rfl hl.1 rfl (Nat.le_of_ble_eq_true rfl) dL_law_847 ⟨by show ((((c0 + 0) + 17) + 1 + n) + 1 + n) ≤ 1200172; omega, by show ((((s0 + 0) + 175) + n + n * n) + n + n * n) ≤ 5500668; omega⟩ (fun r_847 u_847 H locs hw hP hD hS => ?_)
              have hw : r_847 = (dSec f r L).1 6 := hw
              subst hw
              have hP : va_P D vwCl ([QA cR q83 n (RF n r83)] ++ ([QA cR q73 n (RF n r73)] ++ (XO x0 pa pb ++ (DC cI pa (dSec f r L).1 (dSec f r L).2 ++ (DC cI pb f2 r2 ++ (SC cI cR a ca ga n k (dSec f r L).1 (dSec f r L).2 ++ (CW cI ca n ((dSec f r L).2 5) ++ (RW cI ga k 3 (sPass k (f, r, G)).2.2 ++ (RW cI r73 n n (gRow (dToGo (r 4)) n 0) ++ RW cI r83 n n (gRow (r 5) n 0)))))))))) H := by simpa only [List.append_assoc, List.append_nil, List.nil_append] using hP
              have hD : va_D A ([QA cR q83 n (RF n r83)] ++ ([QA cR q73 n (RF n r73)] ++ (XO x0 pa pb ++ (DC cI pa (dSec f r L).1 (dSec f r L).2 ++ (DC cI pb f2 r2 ++ (SC cI cR a ca ga n k (dSec f r L).1 (dSec f r L).2 ++ (CW cI ca n ((dSec f r L).2 5) ++ (RW cI ga k 3 (sPass k (f, r, G)).2.2 ++ (RW cI r73 n n (gRow (dToGo (r 4)) n 0) ++ RW cI r83 n n (gRow (r 5) n 0)))))))))) := by simpa only [List.append_assoc, List.append_nil, List.nil_append] using hD
              refine lv_iadd hx hb dL_law_850 ?_
              refine lv_iload hx hb dL_law_851 (lv_at hl 5 rfl) ?_
              refine lv_isub hx hb dL_law_853 ?_
              refine lv_icmp_eq (tgt := 859) hx hb dL_law_854 (by decide) (fun c_854 => ?_) (fun h9 => absurd ((q_books hI).2) h9)
              refine lv_iinc (v := nI (t + 1)) (lv' := [(3, .int (nI (t + 1))), (23, .int (((dSec f r L).1 8) - (f 8))), (22, .int (((dSec f r L).1 7) - (f 7))), (20, .int (acc2 (qO (r 4) ((dSec f r L).2 4)) n 0 n)), (21, .int (acc2 ((dSec f r L).2 5) n 0 n)), (10, .int (acc2 (r 5) n 0 n)), (11, .int (f 6)), (15, .int (f 7)), (16, .int (f 8)), (18, .int (dSum ((dSec f r L).2 3) n + (dSec f r L).1 6 - (dSum (r 3) n + f 6))), (19, .int ((dSec f r L).1 3)), (5, .int (nI n)), (6, .ref q73), (7, .ref q83), (2, .ref (a 0)), (1, .ref x0), (0, .ref sb)]) hx hb dL_law_859 hl (k := 13) rfl (nI_1 t) (by decide) rfl (fun ls hl => ?_)
              refine lv_goto (tgt := 16) hx hb dL_law_862 (by decide) ?_
              have hP := wDropP (X := [QA cR q83 n (RF n r83)] ++ [QA cR q73 n (RF n r73)]) (Y := XO x0 pa pb ++ (DC cI pa (dSec f r L).1 (dSec f r L).2 ++ (DC cI pb f2 r2 ++ (SC cI cR a ca ga n k (dSec f r L).1 (dSec f r L).2 ++ (CW cI ca n ((dSec f r L).2 5) ++ RW cI ga k 3 (sPass k (f, r, G)).2.2))))) (Z := RW cI r73 n n (gRow (dToGo (r 4)) n 0) ++ RW cI r83 n n (gRow (r 5) n 0)) (by simpa only [List.append_assoc] using hP)
              have hD := wDropD (X := [QA cR q83 n (RF n r83)] ++ [QA cR q73 n (RF n r73)]) (Y := XO x0 pa pb ++ (DC cI pa (dSec f r L).1 (dSec f r L).2 ++ (DC cI pb f2 r2 ++ (SC cI cR a ca ga n k (dSec f r L).1 (dSec f r L).2 ++ (CW cI ca n ((dSec f r L).2 5) ++ RW cI ga k 3 (sPass k (f, r, G)).2.2))))) (Z := RW cI r73 n n (gRow (dToGo (r 4)) n 0) ++ RW cI r83 n n (gRow (r 5) n 0)) (by simpa only [List.append_assoc] using hD)
              refine W.widen (k := c0 + 40) (n := s0 + 400) (by omega) (by omega) ?_
              exact hk9 ((n, li, k), ((dSec f r L).1, (dSec f r L).2, (sPass k (f, r, G)).2.2, dKeep ((dSec f r L).2 4) L), (a, ca, ga)) ⟨(inv_sec hI).mono (by omega), (both_sec hI hT Same.rf).2⟩ H locs ls hP hD hS (lv_sub hl [0, 14, 15, 16] rfl)
            | succ j ih587 =>
              intro i587 hi587 H locs ls hP hD hS hl
              refine lv_iload hx hb dL_law_587 (lv_at hl 0 rfl) ?_
              refine lv_iload hx hb dL_law_589 (lv_at hl 9 rfl) ?_
              refine lv_icmp_ge (tgt := 797) hx hb dL_law_591 (by decide) (fun h9 => absurd h9 (nI_ge (by omega) (by omega))) (fun c_591 => ?_)
              have c_591n := mt (nI_leI (a := n) (b := i587) (by omega) (by omega)).mpr c_591
              refine lv_iconst (v := 0) hx hb dL_law_594 (by decide) ?_
              refine lv_istore (lv' := [(23, .int 0), (22, .int (nI i587)), (20, .int (acc2 (qO (r 4) ((dSec f r L).2 4)) n 0 i587)), (21, .int (acc2 ((dSec f r L).2 5) n 0 i587)), (10, .int (acc2 (r 5) n 0 n)), (11, .int (f 6)), (15, .int (f 7)), (16, .int (f 8)), (18, .int (dSum ((dSec f r L).2 3) n + (dSec f r L).1 6 - (dSum (r 3) n + f 6))), (19, .int ((dSec f r L).1 3)), (5, .int (nI n)), (6, .ref q73), (7, .ref q83), (3, .int (nI t)), (2, .ref (a 0)), (1, .ref x0), (0, .ref sb)]) hx hb dL_law_595 hl (by decide) rfl (fun ls hl => ?_)
              have loop597 : ∀ (j i597 : Nat), i597 + j = n → ∀ (H : Heap) (locs : List Loc) (ls : Array Slot), va_P D vwCl ([QA cR q83 n (RF n r83)] ++ ([QA cR q73 n (RF n r73)] ++ (XO x0 pa pb ++ (DC cI pa (dSec f r L).1 (dSec f r L).2 ++ (DC cI pb f2 r2 ++ (SC cI cR a ca ga n k (dSec f r L).1 (dSec f r L).2 ++ (CW cI ca n ((dSec f r L).2 5) ++ (RW cI ga k 3 (sPass k (f, r, G)).2.2 ++ (RW cI r73 n n (gRow (dToGo (r 4)) n 0) ++ RW cI r83 n n (gRow (r 5) n 0)))))))))) H → va_D A ([QA cR q83 n (RF n r83)] ++ ([QA cR q73 n (RF n r73)] ++ (XO x0 pa pb ++ (DC cI pa (dSec f r L).1 (dSec f r L).2 ++ (DC cI pb f2 r2 ++ (SC cI cR a ca ga n k (dSec f r L).1 (dSec f r L).2 ++ (CW cI ca n ((dSec f r L).2 5) ++ (RW cI ga k 3 (sPass k (f, r, G)).2.2 ++ (RW cI r73 n n (gRow (dToGo (r 4)) n 0) ++ RW cI r83 n n (gRow (r 5) n 0)))))))))) → va_S A s.heap H locs → lv_has ls 27 [(23, .int (nI i597)), (20, .int (acc1 (qO (r 4) ((dSec f r L).2 4)) i587 (acc2 (qO (r 4) ((dSec f r L).2 4)) n 0 i587) i597)), (21, .int (acc1 ((dSec f r L).2 5) i587 (acc2 ((dSec f r L).2 5) n 0 i587) i597)), (22, .int (nI i587)), (10, .int (acc2 (r 5) n 0 n)), (11, .int (f 6)), (15, .int (f 7)), (16, .int (f 8)), (18, .int (dSum ((dSec f r L).2 3) n + (dSec f r L).1 6 - (dSum (r 3) n + f 6))), (19, .int ((dSec f r L).1 3)), (5, .int (nI n)), (6, .ref q73), (7, .ref q83), (3, .int (nI t)), (2, .ref (a 0)), (1, .ref x0), (0, .ref sb)] → W p l e room_1 s m args below meth c H locs ((((c0 + 0) + 17) + 1 + n) + 1 + n) ((((s0 + 0) + 175) + n + n * n) + n + n * n) Q (F0 m 597 ls []) := by
                intro j
                induction j with
                | zero =>
                  intro i597 hi597 H locs ls hP hD hS hl
                  have ez : n = i597 := by omega
                  subst ez
                  refine lv_iload hx hb dL_law_597 (lv_at hl 0 rfl) ?_
                  refine lv_iload hx hb dL_law_599 (lv_at hl 10 rfl) ?_
                  refine lv_icmp_ge (tgt := 791) hx hb dL_law_601 (by decide) (fun c_601 => ?_) (fun h9 => absurd (nI_le (Nat.le_refl _) (by omega)) h9)
                  have c_601n := (nI_leI (a := n) (b := n) (by omega) (by omega)).mp c_601
                  refine lv_iinc (v := nI (i587 + 1)) (lv' := [(22, .int (nI (i587 + 1))), (23, .int (nI n)), (20, .int (acc1 (qO (r 4) ((dSec f r L).2 4)) i587 (acc2 (qO (r 4) ((dSec f r L).2 4)) n 0 i587) n)), (21, .int (acc1 ((dSec f r L).2 5) i587 (acc2 ((dSec f r L).2 5) n 0 i587) n)), (10, .int (acc2 (r 5) n 0 n)), (11, .int (f 6)), (15, .int (f 7)), (16, .int (f 8)), (18, .int (dSum ((dSec f r L).2 3) n + (dSec f r L).1 6 - (dSum (r 3) n + f 6))), (19, .int ((dSec f r L).1 3)), (5, .int (nI n)), (6, .ref q73), (7, .ref q83), (3, .int (nI t)), (2, .ref (a 0)), (1, .ref x0), (0, .ref sb)]) hx hb dL_law_791 hl (k := 3) rfl (nI_1 i587) (by decide) rfl (fun ls hl => ?_)
                  refine lv_goto (tgt := 587) hx hb dL_law_794 (by decide) ?_
                  exact ih587 (i587 + 1) (by omega) _ _ _ hP hD hS (lv_sub hl [0, 2, 3, 4, 5, 6, 7, 8, 9, 10, 11, 12, 13, 14, 15, 16] rfl)
                | succ j ih597 =>
                  intro i597 hi597 H locs ls hP hD hS hl
                  refine lv_iload hx hb dL_law_597 (lv_at hl 0 rfl) ?_
                  refine lv_iload hx hb dL_law_599 (lv_at hl 10 rfl) ?_
                  refine lv_icmp_ge (tgt := 791) hx hb dL_law_601 (by decide) (fun h9 => absurd h9 (nI_ge (by omega) (by omega))) (fun c_601 => ?_)
                  have c_601n := mt (nI_leI (a := n) (b := i597) (by omega) (by omega)).mpr c_601
                  refine lv_aload_n hx hb dL_law_604 rfl (lv_at hl 15 rfl) ?_
                  refine lv_iload hx hb dL_law_605 (lv_at hl 3 rfl) ?_
                  refine lv_iload hx hb dL_law_607 (lv_at hl 0 rfl) ?_
                  refine wCVi (pre := [QA cR q83 n (RF n r83)] ++ [QA cR q73 n (RF n r73)]) (Wc := XO x0 pa pb ++ (DC cI pa (dSec f r L).1 (dSec f r L).2 ++ DC cI pb f2 r2)) (suf := SC cI cR a ca ga n k (dSec f r L).1 (dSec f r L).2 ++ (CW cI ca n ((dSec f r L).2 5) ++ (RW cI ga k 3 (sPass k (f, r, G)).2.2 ++ (RW cI r73 n n (gRow (dToGo (r 4)) n 0) ++ RW cI r83 n n (gRow (r 5) n 0))))) (As := [.int (nI i587), .int (nI i597)]) (rest := []) ⟨hx, hb, hml, hown, hts⟩ (mX1_secondsToGo l D cI x0 pa pb (dSec f r L).1 f2 (dSec f r L).2 r2 n i587 i597 _ hg9 hn1 (by omega) (by omega) (by omega)) hN hA hK1 hS hP hD (by simp only [List.append_assoc, List.append_nil, List.nil_append]) 0 (r := (RX1, TX1, 2)) rfl rfl (cwV 2 hts gL_law_X1_secondsToGo rfl rfl rfl (by decide +kernel) ⟨Nat.le_of_ble_eq_true rfl, Nat.le_of_ble_eq_true rfl⟩) rfl hl.1 rfl (Nat.le_of_ble_eq_true rfl) dL_law_609 ⟨by show ((((c0 + 0) + 17) + 1 + n) + 1 + n) ≤ 1200172; omega, by show ((((s0 + 0) + 175) + n + n * n) + n + n * n) ≤ 5500668; omega⟩ (fun r_609 u_609 H locs hw hP hD hS => ?_)
                  have hw : r_609 = dToGo ((dSec f r L).2 4) (i587 * 10 + i597) := hw
                  subst hw
                  have hP : va_P D vwCl ([QA cR q83 n (RF n r83)] ++ ([QA cR q73 n (RF n r73)] ++ (XO x0 pa pb ++ (DC cI pa (dSec f r L).1 (dSec f r L).2 ++ (DC cI pb f2 r2 ++ (SC cI cR a ca ga n k (dSec f r L).1 (dSec f r L).2 ++ (CW cI ca n ((dSec f r L).2 5) ++ (RW cI ga k 3 (sPass k (f, r, G)).2.2 ++ (RW cI r73 n n (gRow (dToGo (r 4)) n 0) ++ RW cI r83 n n (gRow (r 5) n 0)))))))))) H := by simpa only [List.append_assoc, List.append_nil, List.nil_append] using hP
                  have hD : va_D A ([QA cR q83 n (RF n r83)] ++ ([QA cR q73 n (RF n r73)] ++ (XO x0 pa pb ++ (DC cI pa (dSec f r L).1 (dSec f r L).2 ++ (DC cI pb f2 r2 ++ (SC cI cR a ca ga n k (dSec f r L).1 (dSec f r L).2 ++ (CW cI ca n ((dSec f r L).2 5) ++ (RW cI ga k 3 (sPass k (f, r, G)).2.2 ++ (RW cI r73 n n (gRow (dToGo (r 4)) n 0) ++ RW cI r83 n n (gRow (r 5) n 0)))))))))) := by simpa only [List.append_assoc, List.append_nil, List.nil_append] using hD
                  refine lv_istore (lv' := [(24, .int (dToGo ((dSec f r L).2 4) (i587 * 10 + i597))), (23, .int (nI i597)), (20, .int (acc1 (qO (r 4) ((dSec f r L).2 4)) i587 (acc2 (qO (r 4) ((dSec f r L).2 4)) n 0 i587) i597)), (21, .int (acc1 ((dSec f r L).2 5) i587 (acc2 ((dSec f r L).2 5) n 0 i587) i597)), (22, .int (nI i587)), (10, .int (acc2 (r 5) n 0 n)), (11, .int (f 6)), (15, .int (f 7)), (16, .int (f 8)), (18, .int (dSum ((dSec f r L).2 3) n + (dSec f r L).1 6 - (dSum (r 3) n + f 6))), (19, .int ((dSec f r L).1 3)), (5, .int (nI n)), (6, .ref q73), (7, .ref q83), (3, .int (nI t)), (2, .ref (a 0)), (1, .ref x0), (0, .ref sb)]) hx hb dL_law_612 hl (by decide) rfl (fun ls hl => ?_)
                  refine lv_aload_n hx hb dL_law_614 rfl (lv_at hl 16 rfl) ?_
                  refine lv_iload hx hb dL_law_615 (lv_at hl 4 rfl) ?_
                  refine lv_iload hx hb dL_law_617 (lv_at hl 1 rfl) ?_
                  refine wCVi (pre := [QA cR q83 n (RF n r83)] ++ [QA cR q73 n (RF n r73)]) (Wc := XO x0 pa pb ++ (DC cI pa (dSec f r L).1 (dSec f r L).2 ++ DC cI pb f2 r2)) (suf := SC cI cR a ca ga n k (dSec f r L).1 (dSec f r L).2 ++ (CW cI ca n ((dSec f r L).2 5) ++ (RW cI ga k 3 (sPass k (f, r, G)).2.2 ++ (RW cI r73 n n (gRow (dToGo (r 4)) n 0) ++ RW cI r83 n n (gRow (r 5) n 0))))) (As := [.int (nI i587), .int (nI i597)]) (rest := []) ⟨hx, hb, hml, hown, hts⟩ (mX1_caughtBy l D cI x0 pa pb (dSec f r L).1 f2 (dSec f r L).2 r2 n i587 i597 _ hg9 hn1 (by omega) (by omega) (by omega)) hN hA hK1 hS hP hD (by simp only [List.append_assoc, List.append_nil, List.nil_append]) 0 (r := (RX1, TX1, 2)) rfl rfl (cwV 2 hts gL_law_X1_caughtBy rfl rfl rfl (by decide +kernel) ⟨Nat.le_of_ble_eq_true rfl, Nat.le_of_ble_eq_true rfl⟩) rfl hl.1 rfl (Nat.le_of_ble_eq_true rfl) dL_law_619 ⟨by show ((((c0 + 0) + 17) + 1 + n) + 1 + n) ≤ 1200172; omega, by show ((((s0 + 0) + 175) + n + n * n) + n + n * n) ≤ 5500668; omega⟩ (fun r_619 u_619 H locs hw hP hD hS => ?_)
                  have hw : r_619 = (dSec f r L).2 5 (i587 * 10 + i597) := hw
                  subst hw
                  have hP : va_P D vwCl ([QA cR q83 n (RF n r83)] ++ ([QA cR q73 n (RF n r73)] ++ (XO x0 pa pb ++ (DC cI pa (dSec f r L).1 (dSec f r L).2 ++ (DC cI pb f2 r2 ++ (SC cI cR a ca ga n k (dSec f r L).1 (dSec f r L).2 ++ (CW cI ca n ((dSec f r L).2 5) ++ (RW cI ga k 3 (sPass k (f, r, G)).2.2 ++ (RW cI r73 n n (gRow (dToGo (r 4)) n 0) ++ RW cI r83 n n (gRow (r 5) n 0)))))))))) H := by simpa only [List.append_assoc, List.append_nil, List.nil_append] using hP
                  have hD : va_D A ([QA cR q83 n (RF n r83)] ++ ([QA cR q73 n (RF n r73)] ++ (XO x0 pa pb ++ (DC cI pa (dSec f r L).1 (dSec f r L).2 ++ (DC cI pb f2 r2 ++ (SC cI cR a ca ga n k (dSec f r L).1 (dSec f r L).2 ++ (CW cI ca n ((dSec f r L).2 5) ++ (RW cI ga k 3 (sPass k (f, r, G)).2.2 ++ (RW cI r73 n n (gRow (dToGo (r 4)) n 0) ++ RW cI r83 n n (gRow (r 5) n 0)))))))))) := by simpa only [List.append_assoc, List.append_nil, List.nil_append] using hD
                  refine lv_aload hx hb dL_law_622 (lv_at hl 13 rfl) ?_
                  refine lv_iload hx hb dL_law_624 (lv_at hl 4 rfl) ?_
                  refine wAald hx hb hK hP 0 1 rfl rfl i587 rfl (by omega) (by omega) (RF_in (by omega)) dL_law_626 ?_
                  refine lv_iload hx hb dL_law_627 (lv_at hl 1 rfl) ?_
                  refine wIaldR (pre := [QA cR q83 n (RF n r83)] ++ ([QA cR q73 n (RF n r73)] ++ (XO x0 pa pb ++ (DC cI pa (dSec f r L).1 (dSec f r L).2 ++ (DC cI pb f2 r2 ++ (SC cI cR a ca ga n k (dSec f r L).1 (dSec f r L).2 ++ (CW cI ca n ((dSec f r L).2 5) ++ (RW cI ga k 3 (sPass k (f, r, G)).2.2 ++ RW cI r73 n n (gRow (dToGo (r 4)) n 0))))))))) (suf := ([] : va_W)) (bb := r83) (N := n) (len := n) (v := gRow (r 5) n 0) hx hb hK hP 0 (by simp only [List.append_assoc, List.append_nil, List.nil_append]) rfl i587 (by omega) i597 rfl (by omega) (by omega) dL_law_629 ?_
                  refine wTop (z := r 5 (i587 * 10 + i597)) (gRow_in (Or.inl (by omega))) ?_
                  refine lv_isub hx hb dL_law_630 ?_
                  refine lv_istore (lv' := [(25, .int (((dSec f r L).2 5 (i587 * 10 + i597)) - (r 5 (i587 * 10 + i597)))), (24, .int (dToGo ((dSec f r L).2 4) (i587 * 10 + i597))), (23, .int (nI i597)), (20, .int (acc1 (qO (r 4) ((dSec f r L).2 4)) i587 (acc2 (qO (r 4) ((dSec f r L).2 4)) n 0 i587) i597)), (21, .int (acc1 ((dSec f r L).2 5) i587 (acc2 ((dSec f r L).2 5) n 0 i587) i597)), (22, .int (nI i587)), (10, .int (acc2 (r 5) n 0 n)), (11, .int (f 6)), (15, .int (f 7)), (16, .int (f 8)), (18, .int (dSum ((dSec f r L).2 3) n + (dSec f r L).1 6 - (dSum (r 3) n + f 6))), (19, .int ((dSec f r L).1 3)), (5, .int (nI n)), (6, .ref q73), (7, .ref q83), (3, .int (nI t)), (2, .ref (a 0)), (1, .ref x0), (0, .ref sb)]) hx hb dL_law_631 hl (by decide) rfl (fun ls hl => ?_)
                  refine lv_iload hx hb dL_law_633 (lv_at hl 4 rfl) ?_
                  refine lv_aload_n hx hb dL_law_635 rfl (lv_at hl 17 rfl) ?_
                  refine lv_iload hx hb dL_law_636 (lv_at hl 5 rfl) ?_
                  refine lv_iload hx hb dL_law_638 (lv_at hl 2 rfl) ?_
                  refine wCVi (pre := [QA cR q83 n (RF n r83)] ++ [QA cR q73 n (RF n r73)]) (Wc := XO x0 pa pb ++ (DC cI pa (dSec f r L).1 (dSec f r L).2 ++ DC cI pb f2 r2)) (suf := SC cI cR a ca ga n k (dSec f r L).1 (dSec f r L).2 ++ (CW cI ca n ((dSec f r L).2 5) ++ (RW cI ga k 3 (sPass k (f, r, G)).2.2 ++ (RW cI r73 n n (gRow (dToGo (r 4)) n 0) ++ RW cI r83 n n (gRow (r 5) n 0))))) (As := [.int (nI i587), .int (nI i597)]) (rest := [.int (acc1 ((dSec f r L).2 5) i587 (acc2 ((dSec f r L).2 5) n 0 i587) i597)]) ⟨hx, hb, hml, hown, hts⟩ (mX1_caughtBy l D cI x0 pa pb (dSec f r L).1 f2 (dSec f r L).2 r2 n i587 i597 _ hg9 hn1 (by omega) (by omega) (by omega)) hN hA hK1 hS hP hD (by simp only [List.append_assoc, List.append_nil, List.nil_append]) 0 (r := (RX1, TX1, 2)) rfl rfl (cwV 2 hts gL_law_X1_caughtBy rfl rfl rfl (by decide +kernel) ⟨Nat.le_of_ble_eq_true rfl, Nat.le_of_ble_eq_true rfl⟩) rfl hl.1 rfl (Nat.le_of_ble_eq_true rfl) dL_law_640 ⟨by show ((((c0 + 0) + 17) + 1 + n) + 1 + n) ≤ 1200172; omega, by show ((((s0 + 0) + 175) + n + n * n) + n + n * n) ≤ 5500668; omega⟩ (fun r_640 u_640 H locs hw hP hD hS => ?_)
                  have hw : r_640 = (dSec f r L).2 5 (i587 * 10 + i597) := hw
                  subst hw
                  have hP : va_P D vwCl ([QA cR q83 n (RF n r83)] ++ ([QA cR q73 n (RF n r73)] ++ (XO x0 pa pb ++ (DC cI pa (dSec f r L).1 (dSec f r L).2 ++ (DC cI pb f2 r2 ++ (SC cI cR a ca ga n k (dSec f r L).1 (dSec f r L).2 ++ (CW cI ca n ((dSec f r L).2 5) ++ (RW cI ga k 3 (sPass k (f, r, G)).2.2 ++ (RW cI r73 n n (gRow (dToGo (r 4)) n 0) ++ RW cI r83 n n (gRow (r 5) n 0)))))))))) H := by simpa only [List.append_assoc, List.append_nil, List.nil_append] using hP
                  have hD : va_D A ([QA cR q83 n (RF n r83)] ++ ([QA cR q73 n (RF n r73)] ++ (XO x0 pa pb ++ (DC cI pa (dSec f r L).1 (dSec f r L).2 ++ (DC cI pb f2 r2 ++ (SC cI cR a ca ga n k (dSec f r L).1 (dSec f r L).2 ++ (CW cI ca n ((dSec f r L).2 5) ++ (RW cI ga k 3 (sPass k (f, r, G)).2.2 ++ (RW cI r73 n n (gRow (dToGo (r 4)) n 0) ++ RW cI r83 n n (gRow (r 5) n 0)))))))))) := by simpa only [List.append_assoc, List.append_nil, List.nil_append] using hD
                  refine lv_iadd hx hb dL_law_643 ?_
                  refine wTop (z := acc1 ((dSec f r L).2 5) i587 (acc2 ((dSec f r L).2 5) n 0 i587) (i597 + 1)) (rfl) ?_
                  refine lv_istore (lv' := [(21, .int (acc1 ((dSec f r L).2 5) i587 (acc2 ((dSec f r L).2 5) n 0 i587) (i597 + 1))), (25, .int (((dSec f r L).2 5 (i587 * 10 + i597)) - (r 5 (i587 * 10 + i597)))), (24, .int (dToGo ((dSec f r L).2 4) (i587 * 10 + i597))), (23, .int (nI i597)), (20, .int (acc1 (qO (r 4) ((dSec f r L).2 4)) i587 (acc2 (qO (r 4) ((dSec f r L).2 4)) n 0 i587) i597)), (22, .int (nI i587)), (10, .int (acc2 (r 5) n 0 n)), (11, .int (f 6)), (15, .int (f 7)), (16, .int (f 8)), (18, .int (dSum ((dSec f r L).2 3) n + (dSec f r L).1 6 - (dSum (r 3) n + f 6))), (19, .int ((dSec f r L).1 3)), (5, .int (nI n)), (6, .ref q73), (7, .ref q83), (3, .int (nI t)), (2, .ref (a 0)), (1, .ref x0), (0, .ref sb)]) hx hb dL_law_644 hl (by decide) rfl (fun ls hl => ?_)
                  have join695 : ∀ (H : Heap) (locs : List Loc) (ls : Array Slot), va_P D vwCl ([QA cR q83 n (RF n r83)] ++ ([QA cR q73 n (RF n r73)] ++ (XO x0 pa pb ++ (DC cI pa (dSec f r L).1 (dSec f r L).2 ++ (DC cI pb f2 r2 ++ (SC cI cR a ca ga n k (dSec f r L).1 (dSec f r L).2 ++ (CW cI ca n ((dSec f r L).2 5) ++ (RW cI ga k 3 (sPass k (f, r, G)).2.2 ++ (RW cI r73 n n (gRow (dToGo (r 4)) n 0) ++ RW cI r83 n n (gRow (r 5) n 0)))))))))) H → va_D A ([QA cR q83 n (RF n r83)] ++ ([QA cR q73 n (RF n r73)] ++ (XO x0 pa pb ++ (DC cI pa (dSec f r L).1 (dSec f r L).2 ++ (DC cI pb f2 r2 ++ (SC cI cR a ca ga n k (dSec f r L).1 (dSec f r L).2 ++ (CW cI ca n ((dSec f r L).2 5) ++ (RW cI ga k 3 (sPass k (f, r, G)).2.2 ++ (RW cI r73 n n (gRow (dToGo (r 4)) n 0) ++ RW cI r83 n n (gRow (r 5) n 0)))))))))) → va_S A s.heap H locs → lv_has ls 27 [(24, .int (dToGo ((dSec f r L).2 4) (i587 * 10 + i597))), (20, .int (acc1 (qO (r 4) ((dSec f r L).2 4)) i587 (acc2 (qO (r 4) ((dSec f r L).2 4)) n 0 i587) i597)), (21, .int (acc1 ((dSec f r L).2 5) i587 (acc2 ((dSec f r L).2 5) n 0 i587) (i597 + 1))), (23, .int (nI i597)), (22, .int (nI i587)), (10, .int (acc2 (r 5) n 0 n)), (11, .int (f 6)), (15, .int (f 7)), (16, .int (f 8)), (18, .int (dSum ((dSec f r L).2 3) n + (dSec f r L).1 6 - (dSum (r 3) n + f 6))), (19, .int ((dSec f r L).1 3)), (5, .int (nI n)), (6, .ref q73), (7, .ref q83), (3, .int (nI t)), (2, .ref (a 0)), (1, .ref x0), (0, .ref sb)] → W p l e room_1 s m args below meth c H locs ((((c0 + 0) + 17) + 1 + n) + 1 + n) ((((s0 + 0) + 175) + n + n * n) + n + n * n) Q (F0 m 695 ls []) := by
                    intro  H locs ls hP hD hS hl
                    refine lv_aload hx hb dL_law_695 (lv_at hl 12 rfl) ?_
                    refine lv_iload hx hb dL_law_697 (lv_at hl 4 rfl) ?_
                    refine wAald hx hb hK hP 1 1 rfl rfl i587 rfl (by omega) (by omega) (RF_in (by omega)) dL_law_699 ?_
                    refine lv_iload hx hb dL_law_700 (lv_at hl 3 rfl) ?_
                    refine wIaldR (pre := [QA cR q83 n (RF n r83)] ++ ([QA cR q73 n (RF n r73)] ++ (XO x0 pa pb ++ (DC cI pa (dSec f r L).1 (dSec f r L).2 ++ (DC cI pb f2 r2 ++ (SC cI cR a ca ga n k (dSec f r L).1 (dSec f r L).2 ++ (CW cI ca n ((dSec f r L).2 5) ++ RW cI ga k 3 (sPass k (f, r, G)).2.2))))))) (suf := RW cI r83 n n (gRow (r 5) n 0)) (bb := r73) (N := n) (len := n) (v := gRow (dToGo (r 4)) n 0) hx hb hK hP 0 (by simp only [List.append_assoc, List.append_nil, List.nil_append]) rfl i587 (by omega) i597 rfl (by omega) (by omega) dL_law_702 ?_
                    refine wTop (z := dToGo (r 4) (i587 * 10 + i597)) (gRow_in (Or.inl (by omega))) ?_
                    refine lv_if_ne (tgt := 713) hx hb dL_law_703 (by decide) (fun c_703 => ?_) (fun c_703 => ?_)
                    · refine lv_iload hx hb dL_law_713 (lv_at hl 1 rfl) ?_
                      refine lv_iload hx hb dL_law_715 (lv_at hl 0 rfl) ?_
                      refine lv_if_ne (tgt := 724) hx hb dL_law_717 (by decide) (fun c_717 => ?_) (fun c_717 => ?_)
                      · refine lv_iconst (v := 0) hx hb dL_law_724 (by decide) ?_
                        refine lv_iadd hx hb dL_law_725 ?_
                        refine wTop (z := acc1 (qO (r 4) ((dSec f r L).2 4)) i587 (acc2 (qO (r 4) ((dSec f r L).2 4)) n 0 i587) (i597 + 1)) (by rw [acc1, qO_2 c_703 c_717]) ?_
                        refine lv_istore (lv' := [(20, .int (acc1 (qO (r 4) ((dSec f r L).2 4)) i587 (acc2 (qO (r 4) ((dSec f r L).2 4)) n 0 i587) (i597 + 1))), (24, .int (dToGo ((dSec f r L).2 4) (i587 * 10 + i597))), (21, .int (acc1 ((dSec f r L).2 5) i587 (acc2 ((dSec f r L).2 5) n 0 i587) (i597 + 1))), (23, .int (nI i597)), (22, .int (nI i587)), (10, .int (acc2 (r 5) n 0 n)), (11, .int (f 6)), (15, .int (f 7)), (16, .int (f 8)), (18, .int (dSum ((dSec f r L).2 3) n + (dSec f r L).1 6 - (dSum (r 3) n + f 6))), (19, .int ((dSec f r L).1 3)), (5, .int (nI n)), (6, .ref q73), (7, .ref q83), (3, .int (nI t)), (2, .ref (a 0)), (1, .ref x0), (0, .ref sb)]) hx hb dL_law_726 hl (by decide) rfl (fun ls hl => ?_)
                        refine lv_aload hx hb dL_law_728 (lv_at hl 12 rfl) ?_
                        refine lv_iload hx hb dL_law_730 (lv_at hl 4 rfl) ?_
                        refine wAald hx hb hK hP 1 1 rfl rfl i587 rfl (by omega) (by omega) (RF_in (by omega)) dL_law_732 ?_
                        refine lv_iload hx hb dL_law_733 (lv_at hl 3 rfl) ?_
                        refine wIaldR (pre := [QA cR q83 n (RF n r83)] ++ ([QA cR q73 n (RF n r73)] ++ (XO x0 pa pb ++ (DC cI pa (dSec f r L).1 (dSec f r L).2 ++ (DC cI pb f2 r2 ++ (SC cI cR a ca ga n k (dSec f r L).1 (dSec f r L).2 ++ (CW cI ca n ((dSec f r L).2 5) ++ RW cI ga k 3 (sPass k (f, r, G)).2.2))))))) (suf := RW cI r83 n n (gRow (r 5) n 0)) (bb := r73) (N := n) (len := n) (v := gRow (dToGo (r 4)) n 0) hx hb hK hP 0 (by simp only [List.append_assoc, List.append_nil, List.nil_append]) rfl i587 (by omega) i597 rfl (by omega) (by omega) dL_law_735 ?_
                        refine wTop (z := dToGo (r 4) (i587 * 10 + i597)) (gRow_in (Or.inl (by omega))) ?_
                        refine lv_iconst (v := 1) hx hb dL_law_736 (by decide) ?_
                        refine lv_icmp_eq (tgt := 752) hx hb dL_law_737 (by decide) (fun c_737 => ?_) (fun c_737 => ?_)
                        · refine lv_iconst (v := 1) hx hb dL_law_752 (by decide) ?_
                          refine lv_goto (tgt := 757) hx hb dL_law_753 (by decide) ?_
                          refine lv_istore (lv' := [(26, .int 1), (20, .int (acc1 (qO (r 4) ((dSec f r L).2 4)) i587 (acc2 (qO (r 4) ((dSec f r L).2 4)) n 0 i587) (i597 + 1))), (24, .int (dToGo ((dSec f r L).2 4) (i587 * 10 + i597))), (21, .int (acc1 ((dSec f r L).2 5) i587 (acc2 ((dSec f r L).2 5) n 0 i587) (i597 + 1))), (23, .int (nI i597)), (22, .int (nI i587)), (10, .int (acc2 (r 5) n 0 n)), (11, .int (f 6)), (15, .int (f 7)), (16, .int (f 8)), (18, .int (dSum ((dSec f r L).2 3) n + (dSec f r L).1 6 - (dSum (r 3) n + f 6))), (19, .int ((dSec f r L).1 3)), (5, .int (nI n)), (6, .ref q73), (7, .ref q83), (3, .int (nI t)), (2, .ref (a 0)), (1, .ref x0), (0, .ref sb)]) hx hb dL_law_757 hl (by decide) rfl (fun ls hl => ?_)
                          refine lv_iload hx hb dL_law_759 (lv_at hl 2 rfl) ?_
                          refine lv_iload hx hb dL_law_761 (lv_at hl 0 rfl) ?_
                          refine lv_if_eq (tgt := 770) hx hb dL_law_763 (by decide) (fun h9 => absurd h9 (by decide)) (fun c_763 => ?_)
                          refine lv_iconst (v := 0) hx hb dL_law_766 (by decide) ?_
                          refine lv_goto (tgt := 780) hx hb dL_law_767 (by decide) ?_
                          refine lv_icmp_eq (tgt := 785) hx hb dL_law_780 (by decide) (fun c_780 => ?_) (fun h9 => absurd (q_its1 hI (by omega) (by omega) (Or.inl c_737)) h9)
                          refine lv_iinc (v := nI (i597 + 1)) (lv' := [(23, .int (nI (i597 + 1))), (26, .int 1), (20, .int (acc1 (qO (r 4) ((dSec f r L).2 4)) i587 (acc2 (qO (r 4) ((dSec f r L).2 4)) n 0 i587) (i597 + 1))), (24, .int (dToGo ((dSec f r L).2 4) (i587 * 10 + i597))), (21, .int (acc1 ((dSec f r L).2 5) i587 (acc2 ((dSec f r L).2 5) n 0 i587) (i597 + 1))), (22, .int (nI i587)), (10, .int (acc2 (r 5) n 0 n)), (11, .int (f 6)), (15, .int (f 7)), (16, .int (f 8)), (18, .int (dSum ((dSec f r L).2 3) n + (dSec f r L).1 6 - (dSum (r 3) n + f 6))), (19, .int ((dSec f r L).1 3)), (5, .int (nI n)), (6, .ref q73), (7, .ref q83), (3, .int (nI t)), (2, .ref (a 0)), (1, .ref x0), (0, .ref sb)]) hx hb dL_law_785 hl (k := 4) rfl (nI_1 i597) (by decide) rfl (fun ls hl => ?_)
                          refine lv_goto (tgt := 597) hx hb dL_law_788 (by decide) ?_
                          exact ih597 (i597 + 1) (by omega) _ _ _ hP hD hS (lv_sub hl [0, 2, 4, 5, 6, 7, 8, 9, 10, 11, 12, 13, 14, 15, 16, 17, 18] rfl)
                        · refine lv_aload hx hb dL_law_740 (lv_at hl 12 rfl) ?_
                          refine lv_iload hx hb dL_law_742 (lv_at hl 3 rfl) ?_
                          refine wAald hx hb hK hP 1 1 rfl rfl i597 rfl (by omega) (by omega) (RF_in (by omega)) dL_law_744 ?_
                          refine lv_iload hx hb dL_law_745 (lv_at hl 4 rfl) ?_
                          refine wIaldR (pre := [QA cR q83 n (RF n r83)] ++ ([QA cR q73 n (RF n r73)] ++ (XO x0 pa pb ++ (DC cI pa (dSec f r L).1 (dSec f r L).2 ++ (DC cI pb f2 r2 ++ (SC cI cR a ca ga n k (dSec f r L).1 (dSec f r L).2 ++ (CW cI ca n ((dSec f r L).2 5) ++ RW cI ga k 3 (sPass k (f, r, G)).2.2))))))) (suf := RW cI r83 n n (gRow (r 5) n 0)) (bb := r73) (N := n) (len := n) (v := gRow (dToGo (r 4)) n 0) hx hb hK hP 0 (by simp only [List.append_assoc, List.append_nil, List.nil_append]) rfl i597 (by omega) i587 rfl (by omega) (by omega) dL_law_747 ?_
                          refine wTop (z := dToGo (r 4) (i597 * 10 + i587)) (gRow_in (Or.inl (by omega))) ?_
                          refine lv_iconst (v := 1) hx hb dL_law_748 (by decide) ?_
                          refine lv_icmp_ne (tgt := 756) hx hb dL_law_749 (by decide) (fun c_749 => ?_) (fun c_749 => ?_)
                          · refine lv_iconst (v := 0) hx hb dL_law_756 (by decide) ?_
                            refine lv_istore (lv' := [(26, .int 0), (20, .int (acc1 (qO (r 4) ((dSec f r L).2 4)) i587 (acc2 (qO (r 4) ((dSec f r L).2 4)) n 0 i587) (i597 + 1))), (24, .int (dToGo ((dSec f r L).2 4) (i587 * 10 + i597))), (21, .int (acc1 ((dSec f r L).2 5) i587 (acc2 ((dSec f r L).2 5) n 0 i587) (i597 + 1))), (23, .int (nI i597)), (22, .int (nI i587)), (10, .int (acc2 (r 5) n 0 n)), (11, .int (f 6)), (15, .int (f 7)), (16, .int (f 8)), (18, .int (dSum ((dSec f r L).2 3) n + (dSec f r L).1 6 - (dSum (r 3) n + f 6))), (19, .int ((dSec f r L).1 3)), (5, .int (nI n)), (6, .ref q73), (7, .ref q83), (3, .int (nI t)), (2, .ref (a 0)), (1, .ref x0), (0, .ref sb)]) hx hb dL_law_757 hl (by decide) rfl (fun ls hl => ?_)
                            refine lv_iload hx hb dL_law_759 (lv_at hl 2 rfl) ?_
                            refine lv_iload hx hb dL_law_761 (lv_at hl 0 rfl) ?_
                            refine lv_if_eq (tgt := 770) hx hb dL_law_763 (by decide) (fun c_763 => ?_) (fun h9 => absurd (by decide) h9)
                            refine lv_aload hx hb dL_law_770 (lv_at hl 13 rfl) ?_
                            refine lv_iload hx hb dL_law_772 (lv_at hl 5 rfl) ?_
                            refine wAald hx hb hK hP 1 1 rfl rfl i587 rfl (by omega) (by omega) (RF_in (by omega)) dL_law_774 ?_
                            refine lv_iload hx hb dL_law_775 (lv_at hl 4 rfl) ?_
                            refine wIaldR (pre := [QA cR q83 n (RF n r83)] ++ ([QA cR q73 n (RF n r73)] ++ (XO x0 pa pb ++ (DC cI pa (dSec f r L).1 (dSec f r L).2 ++ (DC cI pb f2 r2 ++ (SC cI cR a ca ga n k (dSec f r L).1 (dSec f r L).2 ++ (CW cI ca n ((dSec f r L).2 5) ++ RW cI ga k 3 (sPass k (f, r, G)).2.2))))))) (suf := RW cI r83 n n (gRow (r 5) n 0)) (bb := r73) (N := n) (len := n) (v := gRow (dToGo (r 4)) n 0) hx hb hK hP 0 (by simp only [List.append_assoc, List.append_nil, List.nil_append]) rfl i587 (by omega) i597 rfl (by omega) (by omega) dL_law_777 ?_
                            refine wTop (z := dToGo (r 4) (i587 * 10 + i597)) (gRow_in (Or.inl (by omega))) ?_
                            refine lv_iconst (v := 1) hx hb dL_law_778 (by decide) ?_
                            refine lv_isub hx hb dL_law_779 ?_
                            refine lv_icmp_eq (tgt := 785) hx hb dL_law_780 (by decide) (fun c_780 => ?_) (fun h9 => absurd (q_its2 hI (by omega) (by omega) c_703 c_737 c_749) h9)
                            refine lv_iinc (v := nI (i597 + 1)) (lv' := [(23, .int (nI (i597 + 1))), (26, .int 0), (20, .int (acc1 (qO (r 4) ((dSec f r L).2 4)) i587 (acc2 (qO (r 4) ((dSec f r L).2 4)) n 0 i587) (i597 + 1))), (24, .int (dToGo ((dSec f r L).2 4) (i587 * 10 + i597))), (21, .int (acc1 ((dSec f r L).2 5) i587 (acc2 ((dSec f r L).2 5) n 0 i587) (i597 + 1))), (22, .int (nI i587)), (10, .int (acc2 (r 5) n 0 n)), (11, .int (f 6)), (15, .int (f 7)), (16, .int (f 8)), (18, .int (dSum ((dSec f r L).2 3) n + (dSec f r L).1 6 - (dSum (r 3) n + f 6))), (19, .int ((dSec f r L).1 3)), (5, .int (nI n)), (6, .ref q73), (7, .ref q83), (3, .int (nI t)), (2, .ref (a 0)), (1, .ref x0), (0, .ref sb)]) hx hb dL_law_785 hl (k := 4) rfl (nI_1 i597) (by decide) rfl (fun ls hl => ?_)
                            refine lv_goto (tgt := 597) hx hb dL_law_788 (by decide) ?_
                            exact ih597 (i597 + 1) (by omega) _ _ _ hP hD hS (lv_sub hl [0, 2, 4, 5, 6, 7, 8, 9, 10, 11, 12, 13, 14, 15, 16, 17, 18] rfl)
                          · refine lv_iconst (v := 1) hx hb dL_law_752 (by decide) ?_
                            refine lv_goto (tgt := 757) hx hb dL_law_753 (by decide) ?_
                            refine lv_istore (lv' := [(26, .int 1), (20, .int (acc1 (qO (r 4) ((dSec f r L).2 4)) i587 (acc2 (qO (r 4) ((dSec f r L).2 4)) n 0 i587) (i597 + 1))), (24, .int (dToGo ((dSec f r L).2 4) (i587 * 10 + i597))), (21, .int (acc1 ((dSec f r L).2 5) i587 (acc2 ((dSec f r L).2 5) n 0 i587) (i597 + 1))), (23, .int (nI i597)), (22, .int (nI i587)), (10, .int (acc2 (r 5) n 0 n)), (11, .int (f 6)), (15, .int (f 7)), (16, .int (f 8)), (18, .int (dSum ((dSec f r L).2 3) n + (dSec f r L).1 6 - (dSum (r 3) n + f 6))), (19, .int ((dSec f r L).1 3)), (5, .int (nI n)), (6, .ref q73), (7, .ref q83), (3, .int (nI t)), (2, .ref (a 0)), (1, .ref x0), (0, .ref sb)]) hx hb dL_law_757 hl (by decide) rfl (fun ls hl => ?_)
                            refine lv_iload hx hb dL_law_759 (lv_at hl 2 rfl) ?_
                            refine lv_iload hx hb dL_law_761 (lv_at hl 0 rfl) ?_
                            refine lv_if_eq (tgt := 770) hx hb dL_law_763 (by decide) (fun h9 => absurd h9 (by decide)) (fun c_763 => ?_)
                            refine lv_iconst (v := 0) hx hb dL_law_766 (by decide) ?_
                            refine lv_goto (tgt := 780) hx hb dL_law_767 (by decide) ?_
                            refine lv_icmp_eq (tgt := 785) hx hb dL_law_780 (by decide) (fun c_780 => ?_) (fun h9 => absurd (q_its1 hI (by omega) (by omega) (Or.inr c_749)) h9)
                            refine lv_iinc (v := nI (i597 + 1)) (lv' := [(23, .int (nI (i597 + 1))), (26, .int 1), (20, .int (acc1 (qO (r 4) ((dSec f r L).2 4)) i587 (acc2 (qO (r 4) ((dSec f r L).2 4)) n 0 i587) (i597 + 1))), (24, .int (dToGo ((dSec f r L).2 4) (i587 * 10 + i597))), (21, .int (acc1 ((dSec f r L).2 5) i587 (acc2 ((dSec f r L).2 5) n 0 i587) (i597 + 1))), (22, .int (nI i587)), (10, .int (acc2 (r 5) n 0 n)), (11, .int (f 6)), (15, .int (f 7)), (16, .int (f 8)), (18, .int (dSum ((dSec f r L).2 3) n + (dSec f r L).1 6 - (dSum (r 3) n + f 6))), (19, .int ((dSec f r L).1 3)), (5, .int (nI n)), (6, .ref q73), (7, .ref q83), (3, .int (nI t)), (2, .ref (a 0)), (1, .ref x0), (0, .ref sb)]) hx hb dL_law_785 hl (k := 4) rfl (nI_1 i597) (by decide) rfl (fun ls hl => ?_)
                            refine lv_goto (tgt := 597) hx hb dL_law_788 (by decide) ?_
                            exact ih597 (i597 + 1) (by omega) _ _ _ hP hD hS (lv_sub hl [0, 2, 4, 5, 6, 7, 8, 9, 10, 11, 12, 13, 14, 15, 16, 17, 18] rfl)
                      · refine lv_iconst (v := 1) hx hb dL_law_720 (by decide) ?_
                        refine lv_goto (tgt := 725) hx hb dL_law_721 (by decide) ?_
                        refine lv_iadd hx hb dL_law_725 ?_
                        refine wTop (z := acc1 (qO (r 4) ((dSec f r L).2 4)) i587 (acc2 (qO (r 4) ((dSec f r L).2 4)) n 0 i587) (i597 + 1)) (by rw [acc1, qO_1 c_703 c_717]) ?_
                        refine lv_istore (lv' := [(20, .int (acc1 (qO (r 4) ((dSec f r L).2 4)) i587 (acc2 (qO (r 4) ((dSec f r L).2 4)) n 0 i587) (i597 + 1))), (24, .int (dToGo ((dSec f r L).2 4) (i587 * 10 + i597))), (21, .int (acc1 ((dSec f r L).2 5) i587 (acc2 ((dSec f r L).2 5) n 0 i587) (i597 + 1))), (23, .int (nI i597)), (22, .int (nI i587)), (10, .int (acc2 (r 5) n 0 n)), (11, .int (f 6)), (15, .int (f 7)), (16, .int (f 8)), (18, .int (dSum ((dSec f r L).2 3) n + (dSec f r L).1 6 - (dSum (r 3) n + f 6))), (19, .int ((dSec f r L).1 3)), (5, .int (nI n)), (6, .ref q73), (7, .ref q83), (3, .int (nI t)), (2, .ref (a 0)), (1, .ref x0), (0, .ref sb)]) hx hb dL_law_726 hl (by decide) rfl (fun ls hl => ?_)
                        refine lv_aload hx hb dL_law_728 (lv_at hl 12 rfl) ?_
                        refine lv_iload hx hb dL_law_730 (lv_at hl 4 rfl) ?_
                        refine wAald hx hb hK hP 1 1 rfl rfl i587 rfl (by omega) (by omega) (RF_in (by omega)) dL_law_732 ?_
                        refine lv_iload hx hb dL_law_733 (lv_at hl 3 rfl) ?_
                        refine wIaldR (pre := [QA cR q83 n (RF n r83)] ++ ([QA cR q73 n (RF n r73)] ++ (XO x0 pa pb ++ (DC cI pa (dSec f r L).1 (dSec f r L).2 ++ (DC cI pb f2 r2 ++ (SC cI cR a ca ga n k (dSec f r L).1 (dSec f r L).2 ++ (CW cI ca n ((dSec f r L).2 5) ++ RW cI ga k 3 (sPass k (f, r, G)).2.2))))))) (suf := RW cI r83 n n (gRow (r 5) n 0)) (bb := r73) (N := n) (len := n) (v := gRow (dToGo (r 4)) n 0) hx hb hK hP 0 (by simp only [List.append_assoc, List.append_nil, List.nil_append]) rfl i587 (by omega) i597 rfl (by omega) (by omega) dL_law_735 ?_
                        refine wTop (z := dToGo (r 4) (i587 * 10 + i597)) (gRow_in (Or.inl (by omega))) ?_
                        refine lv_iconst (v := 1) hx hb dL_law_736 (by decide) ?_
                        refine lv_icmp_eq (tgt := 752) hx hb dL_law_737 (by decide) (fun c_737 => ?_) (fun c_737 => ?_)
                        · refine lv_iconst (v := 1) hx hb dL_law_752 (by decide) ?_
                          refine lv_goto (tgt := 757) hx hb dL_law_753 (by decide) ?_
                          refine lv_istore (lv' := [(26, .int 1), (20, .int (acc1 (qO (r 4) ((dSec f r L).2 4)) i587 (acc2 (qO (r 4) ((dSec f r L).2 4)) n 0 i587) (i597 + 1))), (24, .int (dToGo ((dSec f r L).2 4) (i587 * 10 + i597))), (21, .int (acc1 ((dSec f r L).2 5) i587 (acc2 ((dSec f r L).2 5) n 0 i587) (i597 + 1))), (23, .int (nI i597)), (22, .int (nI i587)), (10, .int (acc2 (r 5) n 0 n)), (11, .int (f 6)), (15, .int (f 7)), (16, .int (f 8)), (18, .int (dSum ((dSec f r L).2 3) n + (dSec f r L).1 6 - (dSum (r 3) n + f 6))), (19, .int ((dSec f r L).1 3)), (5, .int (nI n)), (6, .ref q73), (7, .ref q83), (3, .int (nI t)), (2, .ref (a 0)), (1, .ref x0), (0, .ref sb)]) hx hb dL_law_757 hl (by decide) rfl (fun ls hl => ?_)
                          refine lv_iload hx hb dL_law_759 (lv_at hl 2 rfl) ?_
                          refine lv_iload hx hb dL_law_761 (lv_at hl 0 rfl) ?_
                          refine lv_if_eq (tgt := 770) hx hb dL_law_763 (by decide) (fun h9 => absurd h9 (by decide)) (fun c_763 => ?_)
                          refine lv_iconst (v := 0) hx hb dL_law_766 (by decide) ?_
                          refine lv_goto (tgt := 780) hx hb dL_law_767 (by decide) ?_
                          refine lv_icmp_eq (tgt := 785) hx hb dL_law_780 (by decide) (fun c_780 => ?_) (fun h9 => absurd (q_its1 hI (by omega) (by omega) (Or.inl c_737)) h9)
                          refine lv_iinc (v := nI (i597 + 1)) (lv' := [(23, .int (nI (i597 + 1))), (26, .int 1), (20, .int (acc1 (qO (r 4) ((dSec f r L).2 4)) i587 (acc2 (qO (r 4) ((dSec f r L).2 4)) n 0 i587) (i597 + 1))), (24, .int (dToGo ((dSec f r L).2 4) (i587 * 10 + i597))), (21, .int (acc1 ((dSec f r L).2 5) i587 (acc2 ((dSec f r L).2 5) n 0 i587) (i597 + 1))), (22, .int (nI i587)), (10, .int (acc2 (r 5) n 0 n)), (11, .int (f 6)), (15, .int (f 7)), (16, .int (f 8)), (18, .int (dSum ((dSec f r L).2 3) n + (dSec f r L).1 6 - (dSum (r 3) n + f 6))), (19, .int ((dSec f r L).1 3)), (5, .int (nI n)), (6, .ref q73), (7, .ref q83), (3, .int (nI t)), (2, .ref (a 0)), (1, .ref x0), (0, .ref sb)]) hx hb dL_law_785 hl (k := 4) rfl (nI_1 i597) (by decide) rfl (fun ls hl => ?_)
                          refine lv_goto (tgt := 597) hx hb dL_law_788 (by decide) ?_
                          exact ih597 (i597 + 1) (by omega) _ _ _ hP hD hS (lv_sub hl [0, 2, 4, 5, 6, 7, 8, 9, 10, 11, 12, 13, 14, 15, 16, 17, 18] rfl)
                        · refine lv_aload hx hb dL_law_740 (lv_at hl 12 rfl) ?_
                          refine lv_iload hx hb dL_law_742 (lv_at hl 3 rfl) ?_
                          refine wAald hx hb hK hP 1 1 rfl rfl i597 rfl (by omega) (by omega) (RF_in (by omega)) dL_law_744 ?_
                          refine lv_iload hx hb dL_law_745 (lv_at hl 4 rfl) ?_
                          refine wIaldR (pre := [QA cR q83 n (RF n r83)] ++ ([QA cR q73 n (RF n r73)] ++ (XO x0 pa pb ++ (DC cI pa (dSec f r L).1 (dSec f r L).2 ++ (DC cI pb f2 r2 ++ (SC cI cR a ca ga n k (dSec f r L).1 (dSec f r L).2 ++ (CW cI ca n ((dSec f r L).2 5) ++ RW cI ga k 3 (sPass k (f, r, G)).2.2))))))) (suf := RW cI r83 n n (gRow (r 5) n 0)) (bb := r73) (N := n) (len := n) (v := gRow (dToGo (r 4)) n 0) hx hb hK hP 0 (by simp only [List.append_assoc, List.append_nil, List.nil_append]) rfl i597 (by omega) i587 rfl (by omega) (by omega) dL_law_747 ?_
                          refine wTop (z := dToGo (r 4) (i597 * 10 + i587)) (gRow_in (Or.inl (by omega))) ?_
                          refine lv_iconst (v := 1) hx hb dL_law_748 (by decide) ?_
                          refine lv_icmp_ne (tgt := 756) hx hb dL_law_749 (by decide) (fun c_749 => ?_) (fun c_749 => ?_)
                          · refine lv_iconst (v := 0) hx hb dL_law_756 (by decide) ?_
                            refine lv_istore (lv' := [(26, .int 0), (20, .int (acc1 (qO (r 4) ((dSec f r L).2 4)) i587 (acc2 (qO (r 4) ((dSec f r L).2 4)) n 0 i587) (i597 + 1))), (24, .int (dToGo ((dSec f r L).2 4) (i587 * 10 + i597))), (21, .int (acc1 ((dSec f r L).2 5) i587 (acc2 ((dSec f r L).2 5) n 0 i587) (i597 + 1))), (23, .int (nI i597)), (22, .int (nI i587)), (10, .int (acc2 (r 5) n 0 n)), (11, .int (f 6)), (15, .int (f 7)), (16, .int (f 8)), (18, .int (dSum ((dSec f r L).2 3) n + (dSec f r L).1 6 - (dSum (r 3) n + f 6))), (19, .int ((dSec f r L).1 3)), (5, .int (nI n)), (6, .ref q73), (7, .ref q83), (3, .int (nI t)), (2, .ref (a 0)), (1, .ref x0), (0, .ref sb)]) hx hb dL_law_757 hl (by decide) rfl (fun ls hl => ?_)
                            refine lv_iload hx hb dL_law_759 (lv_at hl 2 rfl) ?_
                            refine lv_iload hx hb dL_law_761 (lv_at hl 0 rfl) ?_
                            refine lv_if_eq (tgt := 770) hx hb dL_law_763 (by decide) (fun c_763 => ?_) (fun h9 => absurd (by decide) h9)
                            refine lv_aload hx hb dL_law_770 (lv_at hl 13 rfl) ?_
                            refine lv_iload hx hb dL_law_772 (lv_at hl 5 rfl) ?_
                            refine wAald hx hb hK hP 1 1 rfl rfl i587 rfl (by omega) (by omega) (RF_in (by omega)) dL_law_774 ?_
                            refine lv_iload hx hb dL_law_775 (lv_at hl 4 rfl) ?_
                            refine wIaldR (pre := [QA cR q83 n (RF n r83)] ++ ([QA cR q73 n (RF n r73)] ++ (XO x0 pa pb ++ (DC cI pa (dSec f r L).1 (dSec f r L).2 ++ (DC cI pb f2 r2 ++ (SC cI cR a ca ga n k (dSec f r L).1 (dSec f r L).2 ++ (CW cI ca n ((dSec f r L).2 5) ++ RW cI ga k 3 (sPass k (f, r, G)).2.2))))))) (suf := RW cI r83 n n (gRow (r 5) n 0)) (bb := r73) (N := n) (len := n) (v := gRow (dToGo (r 4)) n 0) hx hb hK hP 0 (by simp only [List.append_assoc, List.append_nil, List.nil_append]) rfl i587 (by omega) i597 rfl (by omega) (by omega) dL_law_777 ?_
                            refine wTop (z := dToGo (r 4) (i587 * 10 + i597)) (gRow_in (Or.inl (by omega))) ?_
                            refine lv_iconst (v := 1) hx hb dL_law_778 (by decide) ?_
                            refine lv_isub hx hb dL_law_779 ?_
                            refine lv_icmp_eq (tgt := 785) hx hb dL_law_780 (by decide) (fun c_780 => ?_) (fun h9 => absurd (q_its2 hI (by omega) (by omega) c_703 c_737 c_749) h9)
                            refine lv_iinc (v := nI (i597 + 1)) (lv' := [(23, .int (nI (i597 + 1))), (26, .int 0), (20, .int (acc1 (qO (r 4) ((dSec f r L).2 4)) i587 (acc2 (qO (r 4) ((dSec f r L).2 4)) n 0 i587) (i597 + 1))), (24, .int (dToGo ((dSec f r L).2 4) (i587 * 10 + i597))), (21, .int (acc1 ((dSec f r L).2 5) i587 (acc2 ((dSec f r L).2 5) n 0 i587) (i597 + 1))), (22, .int (nI i587)), (10, .int (acc2 (r 5) n 0 n)), (11, .int (f 6)), (15, .int (f 7)), (16, .int (f 8)), (18, .int (dSum ((dSec f r L).2 3) n + (dSec f r L).1 6 - (dSum (r 3) n + f 6))), (19, .int ((dSec f r L).1 3)), (5, .int (nI n)), (6, .ref q73), (7, .ref q83), (3, .int (nI t)), (2, .ref (a 0)), (1, .ref x0), (0, .ref sb)]) hx hb dL_law_785 hl (k := 4) rfl (nI_1 i597) (by decide) rfl (fun ls hl => ?_)
                            refine lv_goto (tgt := 597) hx hb dL_law_788 (by decide) ?_
                            exact ih597 (i597 + 1) (by omega) _ _ _ hP hD hS (lv_sub hl [0, 2, 4, 5, 6, 7, 8, 9, 10, 11, 12, 13, 14, 15, 16, 17, 18] rfl)
                          · refine lv_iconst (v := 1) hx hb dL_law_752 (by decide) ?_
                            refine lv_goto (tgt := 757) hx hb dL_law_753 (by decide) ?_
                            refine lv_istore (lv' := [(26, .int 1), (20, .int (acc1 (qO (r 4) ((dSec f r L).2 4)) i587 (acc2 (qO (r 4) ((dSec f r L).2 4)) n 0 i587) (i597 + 1))), (24, .int (dToGo ((dSec f r L).2 4) (i587 * 10 + i597))), (21, .int (acc1 ((dSec f r L).2 5) i587 (acc2 ((dSec f r L).2 5) n 0 i587) (i597 + 1))), (23, .int (nI i597)), (22, .int (nI i587)), (10, .int (acc2 (r 5) n 0 n)), (11, .int (f 6)), (15, .int (f 7)), (16, .int (f 8)), (18, .int (dSum ((dSec f r L).2 3) n + (dSec f r L).1 6 - (dSum (r 3) n + f 6))), (19, .int ((dSec f r L).1 3)), (5, .int (nI n)), (6, .ref q73), (7, .ref q83), (3, .int (nI t)), (2, .ref (a 0)), (1, .ref x0), (0, .ref sb)]) hx hb dL_law_757 hl (by decide) rfl (fun ls hl => ?_)
                            refine lv_iload hx hb dL_law_759 (lv_at hl 2 rfl) ?_
                            refine lv_iload hx hb dL_law_761 (lv_at hl 0 rfl) ?_
                            refine lv_if_eq (tgt := 770) hx hb dL_law_763 (by decide) (fun h9 => absurd h9 (by decide)) (fun c_763 => ?_)
                            refine lv_iconst (v := 0) hx hb dL_law_766 (by decide) ?_
                            refine lv_goto (tgt := 780) hx hb dL_law_767 (by decide) ?_
                            refine lv_icmp_eq (tgt := 785) hx hb dL_law_780 (by decide) (fun c_780 => ?_) (fun h9 => absurd (q_its1 hI (by omega) (by omega) (Or.inr c_749)) h9)
                            refine lv_iinc (v := nI (i597 + 1)) (lv' := [(23, .int (nI (i597 + 1))), (26, .int 1), (20, .int (acc1 (qO (r 4) ((dSec f r L).2 4)) i587 (acc2 (qO (r 4) ((dSec f r L).2 4)) n 0 i587) (i597 + 1))), (24, .int (dToGo ((dSec f r L).2 4) (i587 * 10 + i597))), (21, .int (acc1 ((dSec f r L).2 5) i587 (acc2 ((dSec f r L).2 5) n 0 i587) (i597 + 1))), (22, .int (nI i587)), (10, .int (acc2 (r 5) n 0 n)), (11, .int (f 6)), (15, .int (f 7)), (16, .int (f 8)), (18, .int (dSum ((dSec f r L).2 3) n + (dSec f r L).1 6 - (dSum (r 3) n + f 6))), (19, .int ((dSec f r L).1 3)), (5, .int (nI n)), (6, .ref q73), (7, .ref q83), (3, .int (nI t)), (2, .ref (a 0)), (1, .ref x0), (0, .ref sb)]) hx hb dL_law_785 hl (k := 4) rfl (nI_1 i597) (by decide) rfl (fun ls hl => ?_)
                            refine lv_goto (tgt := 597) hx hb dL_law_788 (by decide) ?_
                            exact ih597 (i597 + 1) (by omega) _ _ _ hP hD hS (lv_sub hl [0, 2, 4, 5, 6, 7, 8, 9, 10, 11, 12, 13, 14, 15, 16, 17, 18] rfl)
                    · refine lv_iload hx hb dL_law_706 (lv_at hl 0 rfl) ?_
                      refine lv_if_eq (tgt := 785) hx hb dL_law_708 (by decide) (fun c_708 => ?_) (fun h9 => absurd (q_its0 hI (by omega) c_703) h9)
                      refine lv_iinc (v := nI (i597 + 1)) (lv' := [(23, .int (nI (i597 + 1))), (24, .int (dToGo ((dSec f r L).2 4) (i587 * 10 + i597))), (20, .int (acc1 (qO (r 4) ((dSec f r L).2 4)) i587 (acc2 (qO (r 4) ((dSec f r L).2 4)) n 0 i587) i597)), (21, .int (acc1 ((dSec f r L).2 5) i587 (acc2 ((dSec f r L).2 5) n 0 i587) (i597 + 1))), (22, .int (nI i587)), (10, .int (acc2 (r 5) n 0 n)), (11, .int (f 6)), (15, .int (f 7)), (16, .int (f 8)), (18, .int (dSum ((dSec f r L).2 3) n + (dSec f r L).1 6 - (dSum (r 3) n + f 6))), (19, .int ((dSec f r L).1 3)), (5, .int (nI n)), (6, .ref q73), (7, .ref q83), (3, .int (nI t)), (2, .ref (a 0)), (1, .ref x0), (0, .ref sb)]) hx hb dL_law_785 hl (k := 3) rfl (nI_1 i597) (by decide) rfl (fun ls hl => ?_)
                      refine lv_goto (tgt := 597) hx hb dL_law_788 (by decide) ?_
                      have eo : acc1 (qO (r 4) ((dSec f r L).2 4)) i587 (acc2 (qO (r 4) ((dSec f r L).2 4)) n 0 i587) (i597 + 1) = acc1 (qO (r 4) ((dSec f r L).2 4)) i587 (acc2 (qO (r 4) ((dSec f r L).2 4)) n 0 i587) i597 := by rw [acc1, qO_0 c_703, Int32.add_zero]
                      have hl : lv_has ls 27 [(23, .int (nI (i597 + 1))), (24, .int (dToGo ((dSec f r L).2 4) (i587 * 10 + i597))), (20, .int (acc1 (qO (r 4) ((dSec f r L).2 4)) i587 (acc2 (qO (r 4) ((dSec f r L).2 4)) n 0 i587) (i597 + 1))), (21, .int (acc1 ((dSec f r L).2 5) i587 (acc2 ((dSec f r L).2 5) n 0 i587) (i597 + 1))), (22, .int (nI i587)), (10, .int (acc2 (r 5) n 0 n)), (11, .int (f 6)), (15, .int (f 7)), (16, .int (f 8)), (18, .int (dSum ((dSec f r L).2 3) n + (dSec f r L).1 6 - (dSum (r 3) n + f 6))), (19, .int ((dSec f r L).1 3)), (5, .int (nI n)), (6, .ref q73), (7, .ref q83), (3, .int (nI t)), (2, .ref (a 0)), (1, .ref x0), (0, .ref sb)] := by rw [eo]; exact hl
                      exact ih597 (i597 + 1) (by omega) _ _ _ hP hD hS (lv_sub hl [0, 2, 3, 4, 5, 6, 7, 8, 9, 10, 11, 12, 13, 14, 15, 16, 17] rfl)
                  refine lv_iload hx hb dL_law_646 (lv_at hl 1 rfl) ?_
                  refine lv_if_lt (tgt := 693) hx hb dL_law_648 (by decide) (fun h9 => absurd h9 (q_gets0 hI (by omega) (by omega))) (fun c_648 => ?_)
                  refine lv_iload hx hb dL_law_651 (lv_at hl 1 rfl) ?_
                  refine lv_iconst (v := 1) hx hb dL_law_653 (by decide) ?_
                  refine lv_icmp_gt (tgt := 693) hx hb dL_law_654 (by decide) (fun h9 => absurd h9 (q_gets1 hI (by omega) (by omega))) (fun c_654 => ?_)
                  refine lv_iload hx hb dL_law_657 (lv_at hl 1 rfl) ?_
                  refine lv_iconst (v := 1) hx hb dL_law_659 (by decide) ?_
                  refine lv_icmp_ne (tgt := 695) hx hb dL_law_660 (by decide) (fun c_660 => ?_) (fun c_660 => ?_)
                  · exact join695  _ _ _ hP hD hS (lv_sub hl [2, 4, 0, 3, 5, 6, 7, 8, 9, 10, 11, 12, 13, 14, 15, 16, 17, 18] rfl)
                  · refine lv_aload hx hb dL_law_663 (lv_at hl 13 rfl) ?_
                    refine lv_iload hx hb dL_law_665 (lv_at hl 5 rfl) ?_
                    refine wAald hx hb hK hP 1 1 rfl rfl i587 rfl (by omega) (by omega) (RF_in (by omega)) dL_law_667 ?_
                    refine lv_iload hx hb dL_law_668 (lv_at hl 3 rfl) ?_
                    refine wIaldR (pre := [QA cR q83 n (RF n r83)] ++ ([QA cR q73 n (RF n r73)] ++ (XO x0 pa pb ++ (DC cI pa (dSec f r L).1 (dSec f r L).2 ++ (DC cI pb f2 r2 ++ (SC cI cR a ca ga n k (dSec f r L).1 (dSec f r L).2 ++ (CW cI ca n ((dSec f r L).2 5) ++ RW cI ga k 3 (sPass k (f, r, G)).2.2))))))) (suf := RW cI r83 n n (gRow (r 5) n 0)) (bb := r73) (N := n) (len := n) (v := gRow (dToGo (r 4)) n 0) hx hb hK hP 0 (by simp only [List.append_assoc, List.append_nil, List.nil_append]) rfl i587 (by omega) i597 rfl (by omega) (by omega) dL_law_670 ?_
                    refine wTop (z := dToGo (r 4) (i587 * 10 + i597)) (gRow_in (Or.inl (by omega))) ?_
                    refine lv_iconst (v := 1) hx hb dL_law_671 (by decide) ?_
                    refine lv_icmp_ne (tgt := 693) hx hb dL_law_672 (by decide) (fun h9 => absurd ((q_gets2 hI (by omega) (by omega) c_660).1) h9) (fun c_672 => ?_)
                    refine lv_aload hx hb dL_law_675 (lv_at hl 13 rfl) ?_
                    refine lv_iload hx hb dL_law_677 (lv_at hl 3 rfl) ?_
                    refine wAald hx hb hK hP 1 1 rfl rfl i597 rfl (by omega) (by omega) (RF_in (by omega)) dL_law_679 ?_
                    refine lv_iload hx hb dL_law_680 (lv_at hl 5 rfl) ?_
                    refine wIaldR (pre := [QA cR q83 n (RF n r83)] ++ ([QA cR q73 n (RF n r73)] ++ (XO x0 pa pb ++ (DC cI pa (dSec f r L).1 (dSec f r L).2 ++ (DC cI pb f2 r2 ++ (SC cI cR a ca ga n k (dSec f r L).1 (dSec f r L).2 ++ (CW cI ca n ((dSec f r L).2 5) ++ RW cI ga k 3 (sPass k (f, r, G)).2.2))))))) (suf := RW cI r83 n n (gRow (r 5) n 0)) (bb := r73) (N := n) (len := n) (v := gRow (dToGo (r 4)) n 0) hx hb hK hP 0 (by simp only [List.append_assoc, List.append_nil, List.nil_append]) rfl i597 (by omega) i587 rfl (by omega) (by omega) dL_law_682 ?_
                    refine wTop (z := dToGo (r 4) (i597 * 10 + i587)) (gRow_in (Or.inl (by omega))) ?_
                    refine lv_if_gt (tgt := 693) hx hb dL_law_683 (by decide) (fun h9 => absurd h9 ((q_gets2 hI (by omega) (by omega) c_660).2.1)) (fun c_683 => ?_)
                    refine lv_iload hx hb dL_law_686 (lv_at hl 11 rfl) ?_
                    refine lv_iload hx hb dL_law_688 (lv_at hl 3 rfl) ?_
                    refine lv_icmp_ne (tgt := 695) hx hb dL_law_690 (by decide) (fun c_690 => ?_) (fun h9 => absurd h9 ((q_gets2 hI (by omega) (by omega) c_660).2.2))
                    exact join695  _ _ _ hP hD hS (lv_sub hl [2, 4, 0, 3, 5, 6, 7, 8, 9, 10, 11, 12, 13, 14, 15, 16, 17, 18] rfl)
              exact loop597 n 0 (by omega) _ _ _ hP hD hS (lv_sub hl [0, 2, 3, 1, 4, 5, 6, 7, 8, 9, 10, 11, 12, 13, 14, 15, 16] rfl)
          exact loop587 n 0 (by omega) _ _ _ hP hD hS (lv_sub hl [0, 2, 1, 6, 3, 4, 5, 7, 8, 9, 10, 11, 12, 13, 14, 15] rfl)
        refine lv_aload_n hx hb dL_law_474 rfl (lv_at hl 13 rfl) ?_
        refine lv_iconst (v := 1) hx hb dL_law_475 (by decide) ?_
        refine wCVi (pre := [QA cR q83 n (RF n r83)] ++ [QA cR q73 n (RF n r73)]) (Wc := XO x0 pa pb ++ (DC cI pa f r ++ DC cI pb f2 r2)) (suf := SC cI cR a ca ga n k f r ++ (CW cI ca n (r 5) ++ (RW cI ga k 3 G ++ (RW cI r73 n n (gRow (dToGo (r 4)) n 0) ++ RW cI r83 n n (gRow (r 5) n 0))))) (As := [.int 1]) (rest := []) ⟨hx, hb, hml, hown, hts⟩ (mX1_pass l D cI x0 pa pb f f2 r r2 n 1 L _ hg hn1 (by omega) (by omega) (by omega) (fun i _ => (inv_go hI i).dok) (inv_go hI 1).1.2.2.2.2.1) hN hA hK1 hS hP hD (by simp only [List.append_assoc, List.append_nil, List.nil_append]) 0 (r := (RX1, TX1, 2)) rfl rfl (cwV 1 hts gL_law_X1_pass rfl rfl rfl (by decide +kernel) ⟨Nat.le_of_ble_eq_true rfl, Nat.le_of_ble_eq_true rfl⟩) rfl hl.1 rfl (Nat.le_of_ble_eq_true rfl) dL_law_476 ⟨by show ((((c0 + 0) + 17) + 1 + n) + 1 + n) ≤ 1200172; omega, by show ((((s0 + 0) + 175) + n + n * n) + n + n * n) ≤ 5500668; omega⟩ (fun r_476 u_476 H locs hw hP hD hS => ?_)
        have hw : r_476 = dSum ((dGo (f, r) L 1).1.2 3) n + (dGo (f, r) L 1).1.1 6 - (dSum (r 3) n + f 6) := hw
        subst hw
        have hP : va_P D vwCl ([QA cR q83 n (RF n r83)] ++ ([QA cR q73 n (RF n r73)] ++ (XO x0 pa pb ++ (DC cI pa (dGo (f, r) L 1).1.1 (dGo (f, r) L 1).1.2 ++ (DC cI pb f2 r2 ++ (SC cI cR a ca ga n k f r ++ (CW cI ca n (r 5) ++ (RW cI ga k 3 G ++ (RW cI r73 n n (gRow (dToGo (r 4)) n 0) ++ RW cI r83 n n (gRow (r 5) n 0)))))))))) H := by simpa only [List.append_assoc, List.append_nil, List.nil_append] using hP
        have hD : va_D A ([QA cR q83 n (RF n r83)] ++ ([QA cR q73 n (RF n r73)] ++ (XO x0 pa pb ++ (DC cI pa (dGo (f, r) L 1).1.1 (dGo (f, r) L 1).1.2 ++ (DC cI pb f2 r2 ++ (SC cI cR a ca ga n k f r ++ (CW cI ca n (r 5) ++ (RW cI ga k 3 G ++ (RW cI r73 n n (gRow (dToGo (r 4)) n 0) ++ RW cI r83 n n (gRow (r 5) n 0)))))))))) := by simpa only [List.append_assoc, List.append_nil, List.nil_append] using hD
        have hP : va_P D vwCl ([QA cR q83 n (RF n r83)] ++ ([QA cR q73 n (RF n r73)] ++ (XO x0 pa pb ++ (DC cI pa (dSec f r L).1 (dSec f r L).2 ++ (DC cI pb f2 r2 ++ (SC cI cR a ca ga n k f r ++ (CW cI ca n (r 5) ++ (RW cI ga k 3 G ++ (RW cI r73 n n (gRow (dToGo (r 4)) n 0) ++ RW cI r83 n n (gRow (r 5) n 0)))))))))) H := hP
        have hD : va_D A ([QA cR q83 n (RF n r83)] ++ ([QA cR q73 n (RF n r73)] ++ (XO x0 pa pb ++ (DC cI pa (dSec f r L).1 (dSec f r L).2 ++ (DC cI pb f2 r2 ++ (SC cI cR a ca ga n k f r ++ (CW cI ca n (r 5) ++ (RW cI ga k 3 G ++ (RW cI r73 n n (gRow (dToGo (r 4)) n 0) ++ RW cI r83 n n (gRow (r 5) n 0)))))))))) := hD
        refine wTop (z := dSum ((dSec f r L).2 3) n + (dSec f r L).1 6 - (dSum (r 3) n + f 6)) (rfl) ?_
        refine lv_istore (lv' := [(18, .int (dSum ((dSec f r L).2 3) n + (dSec f r L).1 6 - (dSum (r 3) n + f 6))), (11, .int (f 6)), (12, .int (f 5)), (13, .int (f 3)), (14, .int (f 4)), (15, .int (f 7)), (16, .int (f 8)), (9, .int (dSum (r 3) n)), (10, .int (acc2 (r 5) n 0 n)), (5, .int (nI n)), (6, .ref q73), (7, .ref q83), (3, .int (nI t)), (2, .ref (a 0)), (1, .ref x0), (0, .ref sb)]) hx hb dL_law_479 hl (by decide) rfl (fun ls hl => ?_)
        refine lv_aload_n hx hb dL_law_481 rfl (lv_at hl 13 rfl) ?_
        refine wCVi (pre := [QA cR q83 n (RF n r83)] ++ ([QA cR q73 n (RF n r73)] ++ (XO x0 pa pb ++ (DC cI pa (dSec f r L).1 (dSec f r L).2 ++ DC cI pb f2 r2)))) (Wc := SC cI cR a ca ga n k f r ++ (CW cI ca n (r 5) ++ RW cI ga k 3 G)) (suf := RW cI r73 n n (gRow (dToGo (r 4)) n 0) ++ RW cI r83 n n (gRow (r 5) n 0)) (As := []) (rest := []) ⟨hx, hb, hml, hown, hts⟩ (mX2_pass l D cI cR a ca ga n k f r G _ hg hn0 hn1 hk hI.spk (q_lim hI) (pok_go hI hT Same.rf 0).2.2.2) hN hA hK hS hP hD (by simp only [List.append_assoc, List.append_nil, List.nil_append]) 0 (r := (RX2, TX2, 15)) rfl rfl (cwV 0 hts gL_law_X2_pass rfl rfl rfl (by decide +kernel) ⟨Nat.le_of_ble_eq_true rfl, Nat.le_of_ble_eq_true rfl⟩) rfl hl.1 rfl (Nat.le_of_ble_eq_true rfl) dL_law_482 ⟨by show ((((c0 + 0) + 17) + 1 + n) + 1 + n) ≤ 1200172; omega, by show ((((s0 + 0) + 175) + n + n * n) + n + n * n) ≤ 5500668; omega⟩ (fun r_482 u_482 H locs hw hP hD hS => ?_)
        subst hw
        have hP : va_P D vwCl ([QA cR q83 n (RF n r83)] ++ ([QA cR q73 n (RF n r73)] ++ (XO x0 pa pb ++ (DC cI pa (dSec f r L).1 (dSec f r L).2 ++ (DC cI pb f2 r2 ++ (SC cI cR a ca ga n k (sPass k (f, r, G)).1 (sPass k (f, r, G)).2.1 ++ (CW cI ca n ((sPass k (f, r, G)).2.1 5) ++ (RW cI ga k 3 (sPass k (f, r, G)).2.2 ++ (RW cI r73 n n (gRow (dToGo (r 4)) n 0) ++ RW cI r83 n n (gRow (r 5) n 0)))))))))) H := by simpa only [List.append_assoc, List.append_nil, List.nil_append] using hP
        have hD : va_D A ([QA cR q83 n (RF n r83)] ++ ([QA cR q73 n (RF n r73)] ++ (XO x0 pa pb ++ (DC cI pa (dSec f r L).1 (dSec f r L).2 ++ (DC cI pb f2 r2 ++ (SC cI cR a ca ga n k (sPass k (f, r, G)).1 (sPass k (f, r, G)).2.1 ++ (CW cI ca n ((sPass k (f, r, G)).2.1 5) ++ (RW cI ga k 3 (sPass k (f, r, G)).2.2 ++ (RW cI r73 n n (gRow (dToGo (r 4)) n 0) ++ RW cI r83 n n (gRow (r 5) n 0)))))))))) := by simpa only [List.append_assoc, List.append_nil, List.nil_append] using hD
        rw [SCsame (both_sec hI hT Same.rf).1] at hP hD
        have hP : va_P D vwCl ([QA cR q83 n (RF n r83)] ++ ([QA cR q73 n (RF n r73)] ++ (XO x0 pa pb ++ (DC cI pa (dSec f r L).1 (dSec f r L).2 ++ (DC cI pb f2 r2 ++ (SC cI cR a ca ga n k (dSec f r L).1 (dSec f r L).2 ++ (CW cI ca n ((dSec f r L).2 5) ++ (RW cI ga k 3 (sPass k (f, r, G)).2.2 ++ (RW cI r73 n n (gRow (dToGo (r 4)) n 0) ++ RW cI r83 n n (gRow (r 5) n 0)))))))))) H := hP
        have hD : va_D A ([QA cR q83 n (RF n r83)] ++ ([QA cR q73 n (RF n r73)] ++ (XO x0 pa pb ++ (DC cI pa (dSec f r L).1 (dSec f r L).2 ++ (DC cI pb f2 r2 ++ (SC cI cR a ca ga n k (dSec f r L).1 (dSec f r L).2 ++ (CW cI ca n ((dSec f r L).2 5) ++ (RW cI ga k 3 (sPass k (f, r, G)).2.2 ++ (RW cI r73 n n (gRow (dToGo (r 4)) n 0) ++ RW cI r83 n n (gRow (r 5) n 0)))))))))) := hD
        refine lv_pop hx hb dL_law_485 rfl ?_
        refine lv_aload_n hx hb dL_law_486 rfl (lv_at hl 14 rfl) ?_
        refine wCVi (pre := [QA cR q83 n (RF n r83)] ++ [QA cR q73 n (RF n r73)]) (Wc := XO x0 pa pb ++ (DC cI pa (dSec f r L).1 (dSec f r L).2 ++ DC cI pb f2 r2)) (suf := SC cI cR a ca ga n k (dSec f r L).1 (dSec f r L).2 ++ (CW cI ca n ((dSec f r L).2 5) ++ (RW cI ga k 3 (sPass k (f, r, G)).2.2 ++ (RW cI r73 n n (gRow (dToGo (r 4)) n 0) ++ RW cI r83 n n (gRow (r 5) n 0))))) (As := []) (rest := []) ⟨hx, hb, hml, hown, hts⟩ (mX1_speaker l D cI x0 pa pb (dSec f r L).1 f2 (dSec f r L).2 r2 _) hN hA hK1 hS hP hD (by simp only [List.append_assoc, List.append_nil, List.nil_append]) 0 (r := (RX1, TX1, 2)) rfl rfl (cwV 0 hts gL_law_X1_speaker rfl rfl rfl (by decide +kernel) ⟨Nat.le_of_ble_eq_true rfl, Nat.le_of_ble_eq_true rfl⟩) rfl hl.1 rfl (Nat.le_of_ble_eq_true rfl) dL_law_487 ⟨by show ((((c0 + 0) + 17) + 1 + n) + 1 + n) ≤ 1200172; omega, by show ((((s0 + 0) + 175) + n + n * n) + n + n * n) ≤ 5500668; omega⟩ (fun r_487 u_487 H locs hw hP hD hS => ?_)
        have hw : r_487 = (dSec f r L).1 3 := hw
        subst hw
        have hP : va_P D vwCl ([QA cR q83 n (RF n r83)] ++ ([QA cR q73 n (RF n r73)] ++ (XO x0 pa pb ++ (DC cI pa (dSec f r L).1 (dSec f r L).2 ++ (DC cI pb f2 r2 ++ (SC cI cR a ca ga n k (dSec f r L).1 (dSec f r L).2 ++ (CW cI ca n ((dSec f r L).2 5) ++ (RW cI ga k 3 (sPass k (f, r, G)).2.2 ++ (RW cI r73 n n (gRow (dToGo (r 4)) n 0) ++ RW cI r83 n n (gRow (r 5) n 0)))))))))) H := by simpa only [List.append_assoc, List.append_nil, List.nil_append] using hP
        have hD : va_D A ([QA cR q83 n (RF n r83)] ++ ([QA cR q73 n (RF n r73)] ++ (XO x0 pa pb ++ (DC cI pa (dSec f r L).1 (dSec f r L).2 ++ (DC cI pb f2 r2 ++ (SC cI cR a ca ga n k (dSec f r L).1 (dSec f r L).2 ++ (CW cI ca n ((dSec f r L).2 5) ++ (RW cI ga k 3 (sPass k (f, r, G)).2.2 ++ (RW cI r73 n n (gRow (dToGo (r 4)) n 0) ++ RW cI r83 n n (gRow (r 5) n 0)))))))))) := by simpa only [List.append_assoc, List.append_nil, List.nil_append] using hD
        refine lv_istore (lv' := [(19, .int ((dSec f r L).1 3)), (18, .int (dSum ((dSec f r L).2 3) n + (dSec f r L).1 6 - (dSum (r 3) n + f 6))), (11, .int (f 6)), (12, .int (f 5)), (13, .int (f 3)), (14, .int (f 4)), (15, .int (f 7)), (16, .int (f 8)), (9, .int (dSum (r 3) n)), (10, .int (acc2 (r 5) n 0 n)), (5, .int (nI n)), (6, .ref q73), (7, .ref q83), (3, .int (nI t)), (2, .ref (a 0)), (1, .ref x0), (0, .ref sb)]) hx hb dL_law_490 hl (by decide) rfl (fun ls hl => ?_)
        refine lv_aload_n hx hb dL_law_492 rfl (lv_at hl 15 rfl) ?_
        refine wCVi (pre := [QA cR q83 n (RF n r83)] ++ [QA cR q73 n (RF n r73)]) (Wc := XO x0 pa pb ++ (DC cI pa (dSec f r L).1 (dSec f r L).2 ++ DC cI pb f2 r2)) (suf := SC cI cR a ca ga n k (dSec f r L).1 (dSec f r L).2 ++ (CW cI ca n ((dSec f r L).2 5) ++ (RW cI ga k 3 (sPass k (f, r, G)).2.2 ++ (RW cI r73 n n (gRow (dToGo (r 4)) n 0) ++ RW cI r83 n n (gRow (r 5) n 0))))) (As := []) (rest := []) ⟨hx, hb, hml, hown, hts⟩ (mX1_pause l D cI x0 pa pb (dSec f r L).1 f2 (dSec f r L).2 r2 _) hN hA hK1 hS hP hD (by simp only [List.append_assoc, List.append_nil, List.nil_append]) 0 (r := (RX1, TX1, 2)) rfl rfl (cwV 0 hts gL_law_X1_pause rfl rfl rfl (by decide +kernel) ⟨Nat.le_of_ble_eq_true rfl, Nat.le_of_ble_eq_true rfl⟩) rfl hl.1 rfl (Nat.le_of_ble_eq_true rfl) dL_law_493 ⟨by show ((((c0 + 0) + 17) + 1 + n) + 1 + n) ≤ 1200172; omega, by show ((((s0 + 0) + 175) + n + n * n) + n + n * n) ≤ 5500668; omega⟩ (fun r_493 u_493 H locs hw hP hD hS => ?_)
        have hw : r_493 = (dSec f r L).1 5 := hw
        subst hw
        have hP : va_P D vwCl ([QA cR q83 n (RF n r83)] ++ ([QA cR q73 n (RF n r73)] ++ (XO x0 pa pb ++ (DC cI pa (dSec f r L).1 (dSec f r L).2 ++ (DC cI pb f2 r2 ++ (SC cI cR a ca ga n k (dSec f r L).1 (dSec f r L).2 ++ (CW cI ca n ((dSec f r L).2 5) ++ (RW cI ga k 3 (sPass k (f, r, G)).2.2 ++ (RW cI r73 n n (gRow (dToGo (r 4)) n 0) ++ RW cI r83 n n (gRow (r 5) n 0)))))))))) H := by simpa only [List.append_assoc, List.append_nil, List.nil_append] using hP
        have hD : va_D A ([QA cR q83 n (RF n r83)] ++ ([QA cR q73 n (RF n r73)] ++ (XO x0 pa pb ++ (DC cI pa (dSec f r L).1 (dSec f r L).2 ++ (DC cI pb f2 r2 ++ (SC cI cR a ca ga n k (dSec f r L).1 (dSec f r L).2 ++ (CW cI ca n ((dSec f r L).2 5) ++ (RW cI ga k 3 (sPass k (f, r, G)).2.2 ++ (RW cI r73 n n (gRow (dToGo (r 4)) n 0) ++ RW cI r83 n n (gRow (r 5) n 0)))))))))) := by simpa only [List.append_assoc, List.append_nil, List.nil_append] using hD
        refine lv_iload hx hb dL_law_496 (lv_at hl 4 rfl) ?_
        refine lv_if_ge (tgt := 508) hx hb dL_law_498 (by decide) (fun c_498 => ?_) (fun c_498 => ?_)
        · refine lv_iconst (v := 0) hx hb dL_law_508 (by decide) ?_
          refine lv_icmp_ne (tgt := 576) hx hb dL_law_509 (by decide) (fun h9 => absurd (q_pause0 c_498) h9) (fun c_509 => ?_)
          refine lv_aload_n hx hb dL_law_512 rfl (lv_at hl 15 rfl) ?_
          refine wCVi (pre := [QA cR q83 n (RF n r83)] ++ [QA cR q73 n (RF n r73)]) (Wc := XO x0 pa pb ++ (DC cI pa (dSec f r L).1 (dSec f r L).2 ++ DC cI pb f2 r2)) (suf := SC cI cR a ca ga n k (dSec f r L).1 (dSec f r L).2 ++ (CW cI ca n ((dSec f r L).2 5) ++ (RW cI ga k 3 (sPass k (f, r, G)).2.2 ++ (RW cI r73 n n (gRow (dToGo (r 4)) n 0) ++ RW cI r83 n n (gRow (r 5) n 0))))) (As := []) (rest := []) ⟨hx, hb, hml, hown, hts⟩ (mX1_unsaidInPauses l D cI x0 pa pb (dSec f r L).1 f2 (dSec f r L).2 r2 _) hN hA hK1 hS hP hD (by simp only [List.append_assoc, List.append_nil, List.nil_append]) 0 (r := (RX1, TX1, 2)) rfl rfl (cwV 0 hts gL_law_X1_unsaidInPauses rfl rfl rfl (by decide +kernel) ⟨Nat.le_of_ble_eq_true rfl, Nat.le_of_ble_eq_true rfl⟩) rfl hl.1 rfl (Nat.le_of_ble_eq_true rfl) dL_law_513 ⟨by show ((((c0 + 0) + 17) + 1 + n) + 1 + n) ≤ 1200172; omega, by show ((((s0 + 0) + 175) + n + n * n) + n + n * n) ≤ 5500668; omega⟩ (fun r_513 u_513 H locs hw hP hD hS => ?_)
          have hw : r_513 = (dSec f r L).1 6 := hw
          subst hw
          have hP : va_P D vwCl ([QA cR q83 n (RF n r83)] ++ ([QA cR q73 n (RF n r73)] ++ (XO x0 pa pb ++ (DC cI pa (dSec f r L).1 (dSec f r L).2 ++ (DC cI pb f2 r2 ++ (SC cI cR a ca ga n k (dSec f r L).1 (dSec f r L).2 ++ (CW cI ca n ((dSec f r L).2 5) ++ (RW cI ga k 3 (sPass k (f, r, G)).2.2 ++ (RW cI r73 n n (gRow (dToGo (r 4)) n 0) ++ RW cI r83 n n (gRow (r 5) n 0)))))))))) H := by simpa only [List.append_assoc, List.append_nil, List.nil_append] using hP
          have hD : va_D A ([QA cR q83 n (RF n r83)] ++ ([QA cR q73 n (RF n r73)] ++ (XO x0 pa pb ++ (DC cI pa (dSec f r L).1 (dSec f r L).2 ++ (DC cI pb f2 r2 ++ (SC cI cR a ca ga n k (dSec f r L).1 (dSec f r L).2 ++ (CW cI ca n ((dSec f r L).2 5) ++ (RW cI ga k 3 (sPass k (f, r, G)).2.2 ++ (RW cI r73 n n (gRow (dToGo (r 4)) n 0) ++ RW cI r83 n n (gRow (r 5) n 0)))))))))) := by simpa only [List.append_assoc, List.append_nil, List.nil_append] using hD
          refine lv_iload hx hb dL_law_516 (lv_at hl 2 rfl) ?_
          refine lv_isub hx hb dL_law_518 ?_
          refine lv_iload hx hb dL_law_519 (lv_at hl 4 rfl) ?_
          refine lv_if_ge (tgt := 540) hx hb dL_law_521 (by decide) (fun c_521 => ?_) (fun h9 => absurd (c_498) h9)
          refine lv_iconst (v := 0) hx hb dL_law_540 (by decide) ?_
          refine lv_icmp_ne (tgt := 576) hx hb dL_law_541 (by decide) (fun h9 => absurd (q_quiet0 c_498) h9) (fun c_541 => ?_)
          refine lv_iload hx hb dL_law_544 (lv_at hl 0 rfl) ?_
          refine lv_iload hx hb dL_law_546 (lv_at hl 5 rfl) ?_
          refine lv_iconst (v := 1) hx hb dL_law_548 (by decide) ?_
          refine lv_icmp_le (tgt := 557) hx hb dL_law_549 (by decide) (fun c_549 => ?_) (fun c_549 => ?_)
          · refine lv_iconst (v := (-1)) hx hb dL_law_557 (by decide) ?_
            refine lv_icmp_ne (tgt := 576) hx hb dL_law_558 (by decide) (fun h9 => absurd ((q_still hI).2.1 c_549) h9) (fun c_558 => ?_)
            refine lv_aload_n hx hb dL_law_561 rfl (lv_at hl 15 rfl) ?_
            refine wCVi (pre := [QA cR q83 n (RF n r83)] ++ [QA cR q73 n (RF n r73)]) (Wc := XO x0 pa pb ++ (DC cI pa (dSec f r L).1 (dSec f r L).2 ++ DC cI pb f2 r2)) (suf := SC cI cR a ca ga n k (dSec f r L).1 (dSec f r L).2 ++ (CW cI ca n ((dSec f r L).2 5) ++ (RW cI ga k 3 (sPass k (f, r, G)).2.2 ++ (RW cI r73 n n (gRow (dToGo (r 4)) n 0) ++ RW cI r83 n n (gRow (r 5) n 0))))) (As := []) (rest := []) ⟨hx, hb, hml, hown, hts⟩ (mX1_secondsToSpeak l D cI x0 pa pb (dSec f r L).1 f2 (dSec f r L).2 r2 _) hN hA hK1 hS hP hD (by simp only [List.append_assoc, List.append_nil, List.nil_append]) 0 (r := (RX1, TX1, 2)) rfl rfl (cwV 0 hts gL_law_X1_secondsToSpeak rfl rfl rfl (by decide +kernel) ⟨Nat.le_of_ble_eq_true rfl, Nat.le_of_ble_eq_true rfl⟩) rfl hl.1 rfl (Nat.le_of_ble_eq_true rfl) dL_law_562 ⟨by show ((((c0 + 0) + 17) + 1 + n) + 1 + n) ≤ 1200172; omega, by show ((((s0 + 0) + 175) + n + n * n) + n + n * n) ≤ 5500668; omega⟩ (fun r_562 u_562 H locs hw hP hD hS => ?_)
            have hw : r_562 = (dSec f r L).1 4 := hw
            subst hw
            have hP : va_P D vwCl ([QA cR q83 n (RF n r83)] ++ ([QA cR q73 n (RF n r73)] ++ (XO x0 pa pb ++ (DC cI pa (dSec f r L).1 (dSec f r L).2 ++ (DC cI pb f2 r2 ++ (SC cI cR a ca ga n k (dSec f r L).1 (dSec f r L).2 ++ (CW cI ca n ((dSec f r L).2 5) ++ (RW cI ga k 3 (sPass k (f, r, G)).2.2 ++ (RW cI r73 n n (gRow (dToGo (r 4)) n 0) ++ RW cI r83 n n (gRow (r 5) n 0)))))))))) H := by simpa only [List.append_assoc, List.append_nil, List.nil_append] using hP
            have hD : va_D A ([QA cR q83 n (RF n r83)] ++ ([QA cR q73 n (RF n r73)] ++ (XO x0 pa pb ++ (DC cI pa (dSec f r L).1 (dSec f r L).2 ++ (DC cI pb f2 r2 ++ (SC cI cR a ca ga n k (dSec f r L).1 (dSec f r L).2 ++ (CW cI ca n ((dSec f r L).2 5) ++ (RW cI ga k 3 (sPass k (f, r, G)).2.2 ++ (RW cI r73 n n (gRow (dToGo (r 4)) n 0) ++ RW cI r83 n n (gRow (r 5) n 0)))))))))) := by simpa only [List.append_assoc, List.append_nil, List.nil_append] using hD
            refine lv_iconst (v := 0) hx hb dL_law_565 (by decide) ?_
            refine lv_iload hx hb dL_law_566 (lv_at hl 5 rfl) ?_
            refine lv_iconst (v := 1) hx hb dL_law_568 (by decide) ?_
            refine lv_isub hx hb dL_law_569 ?_
            refine va_mmax hx hb (hml.trans hl.1.symm) hown (hts (.methodLink RL 145 Lib.Math.max.name) (by decide +kernel)) (hts (.static Lib.Math.max.name) (by decide +kernel)) (hts (.initialized "java/lang/Math") (by decide +kernel)) (hts (.code Lib.Math.max.name Lib.Math.max.code 2 (some .int)) (by decide +kernel)) (Nat.le_of_ble_eq_true rfl) (Nat.le_of_ble_eq_true rfl) (by show ((((c0 + 0) + 17) + 1 + n) + 1 + n) ≤ 1200172; omega) (by show ((((s0 + 0) + 175) + n + n * n) + n + n * n) ≤ 5500668; omega) dL_law_570 ?_
            refine lv_icmp_eq (tgt := 578) hx hb dL_law_573 (by decide) (fun c_573 => ?_) (fun h9 => absurd ((q_still hI).2.2) h9)
            exact join578  _ _ _ hP hD hS (lv_sub hl [2, 6, 7, 9, 1, 0, 10, 11, 12, 13, 14, 15, 16] rfl)
          · refine lv_iload hx hb dL_law_552 (lv_at hl 4 rfl) ?_
            refine lv_goto (tgt := 558) hx hb dL_law_554 (by decide) ?_
            refine lv_icmp_ne (tgt := 576) hx hb dL_law_558 (by decide) (fun h9 => absurd ((q_still hI).1 c_549) h9) (fun c_558 => ?_)
            refine lv_aload_n hx hb dL_law_561 rfl (lv_at hl 15 rfl) ?_
            refine wCVi (pre := [QA cR q83 n (RF n r83)] ++ [QA cR q73 n (RF n r73)]) (Wc := XO x0 pa pb ++ (DC cI pa (dSec f r L).1 (dSec f r L).2 ++ DC cI pb f2 r2)) (suf := SC cI cR a ca ga n k (dSec f r L).1 (dSec f r L).2 ++ (CW cI ca n ((dSec f r L).2 5) ++ (RW cI ga k 3 (sPass k (f, r, G)).2.2 ++ (RW cI r73 n n (gRow (dToGo (r 4)) n 0) ++ RW cI r83 n n (gRow (r 5) n 0))))) (As := []) (rest := []) ⟨hx, hb, hml, hown, hts⟩ (mX1_secondsToSpeak l D cI x0 pa pb (dSec f r L).1 f2 (dSec f r L).2 r2 _) hN hA hK1 hS hP hD (by simp only [List.append_assoc, List.append_nil, List.nil_append]) 0 (r := (RX1, TX1, 2)) rfl rfl (cwV 0 hts gL_law_X1_secondsToSpeak rfl rfl rfl (by decide +kernel) ⟨Nat.le_of_ble_eq_true rfl, Nat.le_of_ble_eq_true rfl⟩) rfl hl.1 rfl (Nat.le_of_ble_eq_true rfl) dL_law_562 ⟨by show ((((c0 + 0) + 17) + 1 + n) + 1 + n) ≤ 1200172; omega, by show ((((s0 + 0) + 175) + n + n * n) + n + n * n) ≤ 5500668; omega⟩ (fun r_562 u_562 H locs hw hP hD hS => ?_)
            have hw : r_562 = (dSec f r L).1 4 := hw
            subst hw
            have hP : va_P D vwCl ([QA cR q83 n (RF n r83)] ++ ([QA cR q73 n (RF n r73)] ++ (XO x0 pa pb ++ (DC cI pa (dSec f r L).1 (dSec f r L).2 ++ (DC cI pb f2 r2 ++ (SC cI cR a ca ga n k (dSec f r L).1 (dSec f r L).2 ++ (CW cI ca n ((dSec f r L).2 5) ++ (RW cI ga k 3 (sPass k (f, r, G)).2.2 ++ (RW cI r73 n n (gRow (dToGo (r 4)) n 0) ++ RW cI r83 n n (gRow (r 5) n 0)))))))))) H := by simpa only [List.append_assoc, List.append_nil, List.nil_append] using hP
            have hD : va_D A ([QA cR q83 n (RF n r83)] ++ ([QA cR q73 n (RF n r73)] ++ (XO x0 pa pb ++ (DC cI pa (dSec f r L).1 (dSec f r L).2 ++ (DC cI pb f2 r2 ++ (SC cI cR a ca ga n k (dSec f r L).1 (dSec f r L).2 ++ (CW cI ca n ((dSec f r L).2 5) ++ (RW cI ga k 3 (sPass k (f, r, G)).2.2 ++ (RW cI r73 n n (gRow (dToGo (r 4)) n 0) ++ RW cI r83 n n (gRow (r 5) n 0)))))))))) := by simpa only [List.append_assoc, List.append_nil, List.nil_append] using hD
            refine lv_iconst (v := 0) hx hb dL_law_565 (by decide) ?_
            refine lv_iload hx hb dL_law_566 (lv_at hl 5 rfl) ?_
            refine lv_iconst (v := 1) hx hb dL_law_568 (by decide) ?_
            refine lv_isub hx hb dL_law_569 ?_
            refine va_mmax hx hb (hml.trans hl.1.symm) hown (hts (.methodLink RL 145 Lib.Math.max.name) (by decide +kernel)) (hts (.static Lib.Math.max.name) (by decide +kernel)) (hts (.initialized "java/lang/Math") (by decide +kernel)) (hts (.code Lib.Math.max.name Lib.Math.max.code 2 (some .int)) (by decide +kernel)) (Nat.le_of_ble_eq_true rfl) (Nat.le_of_ble_eq_true rfl) (by show ((((c0 + 0) + 17) + 1 + n) + 1 + n) ≤ 1200172; omega) (by show ((((s0 + 0) + 175) + n + n * n) + n + n * n) ≤ 5500668; omega) dL_law_570 ?_
            refine lv_icmp_eq (tgt := 578) hx hb dL_law_573 (by decide) (fun c_573 => ?_) (fun h9 => absurd ((q_still hI).2.2) h9)
            exact join578  _ _ _ hP hD hS (lv_sub hl [2, 6, 7, 9, 1, 0, 10, 11, 12, 13, 14, 15, 16] rfl)
        · refine lv_iload hx hb dL_law_501 (lv_at hl 3 rfl) ?_
          refine lv_iconst (v := 1) hx hb dL_law_503 (by decide) ?_
          refine lv_iadd hx hb dL_law_504 ?_
          refine lv_goto (tgt := 509) hx hb dL_law_505 (by decide) ?_
          refine lv_icmp_ne (tgt := 576) hx hb dL_law_509 (by decide) (fun h9 => absurd (q_pause1 hI c_498) h9) (fun c_509 => ?_)
          refine lv_aload_n hx hb dL_law_512 rfl (lv_at hl 15 rfl) ?_
          refine wCVi (pre := [QA cR q83 n (RF n r83)] ++ [QA cR q73 n (RF n r73)]) (Wc := XO x0 pa pb ++ (DC cI pa (dSec f r L).1 (dSec f r L).2 ++ DC cI pb f2 r2)) (suf := SC cI cR a ca ga n k (dSec f r L).1 (dSec f r L).2 ++ (CW cI ca n ((dSec f r L).2 5) ++ (RW cI ga k 3 (sPass k (f, r, G)).2.2 ++ (RW cI r73 n n (gRow (dToGo (r 4)) n 0) ++ RW cI r83 n n (gRow (r 5) n 0))))) (As := []) (rest := []) ⟨hx, hb, hml, hown, hts⟩ (mX1_unsaidInPauses l D cI x0 pa pb (dSec f r L).1 f2 (dSec f r L).2 r2 _) hN hA hK1 hS hP hD (by simp only [List.append_assoc, List.append_nil, List.nil_append]) 0 (r := (RX1, TX1, 2)) rfl rfl (cwV 0 hts gL_law_X1_unsaidInPauses rfl rfl rfl (by decide +kernel) ⟨Nat.le_of_ble_eq_true rfl, Nat.le_of_ble_eq_true rfl⟩) rfl hl.1 rfl (Nat.le_of_ble_eq_true rfl) dL_law_513 ⟨by show ((((c0 + 0) + 17) + 1 + n) + 1 + n) ≤ 1200172; omega, by show ((((s0 + 0) + 175) + n + n * n) + n + n * n) ≤ 5500668; omega⟩ (fun r_513 u_513 H locs hw hP hD hS => ?_)
          have hw : r_513 = (dSec f r L).1 6 := hw
          subst hw
          have hP : va_P D vwCl ([QA cR q83 n (RF n r83)] ++ ([QA cR q73 n (RF n r73)] ++ (XO x0 pa pb ++ (DC cI pa (dSec f r L).1 (dSec f r L).2 ++ (DC cI pb f2 r2 ++ (SC cI cR a ca ga n k (dSec f r L).1 (dSec f r L).2 ++ (CW cI ca n ((dSec f r L).2 5) ++ (RW cI ga k 3 (sPass k (f, r, G)).2.2 ++ (RW cI r73 n n (gRow (dToGo (r 4)) n 0) ++ RW cI r83 n n (gRow (r 5) n 0)))))))))) H := by simpa only [List.append_assoc, List.append_nil, List.nil_append] using hP
          have hD : va_D A ([QA cR q83 n (RF n r83)] ++ ([QA cR q73 n (RF n r73)] ++ (XO x0 pa pb ++ (DC cI pa (dSec f r L).1 (dSec f r L).2 ++ (DC cI pb f2 r2 ++ (SC cI cR a ca ga n k (dSec f r L).1 (dSec f r L).2 ++ (CW cI ca n ((dSec f r L).2 5) ++ (RW cI ga k 3 (sPass k (f, r, G)).2.2 ++ (RW cI r73 n n (gRow (dToGo (r 4)) n 0) ++ RW cI r83 n n (gRow (r 5) n 0)))))))))) := by simpa only [List.append_assoc, List.append_nil, List.nil_append] using hD
          refine lv_iload hx hb dL_law_516 (lv_at hl 2 rfl) ?_
          refine lv_isub hx hb dL_law_518 ?_
          refine lv_iload hx hb dL_law_519 (lv_at hl 4 rfl) ?_
          refine lv_if_ge (tgt := 540) hx hb dL_law_521 (by decide) (fun h9 => absurd h9 (c_498)) (fun c_521 => ?_)
          refine lv_iload hx hb dL_law_524 (lv_at hl 3 rfl) ?_
          refine lv_iconst (v := 1) hx hb dL_law_526 (by decide) ?_
          refine lv_iadd hx hb dL_law_527 ?_
          refine lv_aload_n hx hb dL_law_528 rfl (lv_at hl 15 rfl) ?_
          refine wCVi (pre := [QA cR q83 n (RF n r83)] ++ [QA cR q73 n (RF n r73)]) (Wc := XO x0 pa pb ++ (DC cI pa (dSec f r L).1 (dSec f r L).2 ++ DC cI pb f2 r2)) (suf := SC cI cR a ca ga n k (dSec f r L).1 (dSec f r L).2 ++ (CW cI ca n ((dSec f r L).2 5) ++ (RW cI ga k 3 (sPass k (f, r, G)).2.2 ++ (RW cI r73 n n (gRow (dToGo (r 4)) n 0) ++ RW cI r83 n n (gRow (r 5) n 0))))) (As := []) (rest := [.int ((f 5) + 1), .int (((dSec f r L).1 6) - (f 6))]) ⟨hx, hb, hml, hown, hts⟩ (mX1_limit l D cI x0 pa pb (dSec f r L).1 f2 (dSec f r L).2 r2 _) hN hA hK1 hS hP hD (by simp only [List.append_assoc, List.append_nil, List.nil_append]) 0 (r := (RX1, TX1, 2)) rfl rfl (cwV 0 hts gL_law_X1_limit rfl rfl rfl (by decide +kernel) ⟨Nat.le_of_ble_eq_true rfl, Nat.le_of_ble_eq_true rfl⟩) rfl hl.1 rfl (Nat.le_of_ble_eq_true rfl) dL_law_529 ⟨by show ((((c0 + 0) + 17) + 1 + n) + 1 + n) ≤ 1200172; omega, by show ((((s0 + 0) + 175) + n + n * n) + n + n * n) ≤ 5500668; omega⟩ (fun r_529 u_529 H locs hw hP hD hS => ?_)
          have hw : r_529 = (dSec f r L).1 2 := hw
          subst hw
          have hP : va_P D vwCl ([QA cR q83 n (RF n r83)] ++ ([QA cR q73 n (RF n r73)] ++ (XO x0 pa pb ++ (DC cI pa (dSec f r L).1 (dSec f r L).2 ++ (DC cI pb f2 r2 ++ (SC cI cR a ca ga n k (dSec f r L).1 (dSec f r L).2 ++ (CW cI ca n ((dSec f r L).2 5) ++ (RW cI ga k 3 (sPass k (f, r, G)).2.2 ++ (RW cI r73 n n (gRow (dToGo (r 4)) n 0) ++ RW cI r83 n n (gRow (r 5) n 0)))))))))) H := by simpa only [List.append_assoc, List.append_nil, List.nil_append] using hP
          have hD : va_D A ([QA cR q83 n (RF n r83)] ++ ([QA cR q73 n (RF n r73)] ++ (XO x0 pa pb ++ (DC cI pa (dSec f r L).1 (dSec f r L).2 ++ (DC cI pb f2 r2 ++ (SC cI cR a ca ga n k (dSec f r L).1 (dSec f r L).2 ++ (CW cI ca n ((dSec f r L).2 5) ++ (RW cI ga k 3 (sPass k (f, r, G)).2.2 ++ (RW cI r73 n n (gRow (dToGo (r 4)) n 0) ++ RW cI r83 n n (gRow (r 5) n 0)))))))))) := by simpa only [List.append_assoc, List.append_nil, List.nil_append] using hD
          refine wTop (z := f 2) (sc2) ?_
          refine lv_irem hx hb dL_law_532 (fun e => absurd (q_lim hI) (by rw [e]; decide)) ?_
          refine lv_if_ne (tgt := 540) hx hb dL_law_533 (by decide) (fun c_533 => ?_) (fun c_533 => ?_)
          · refine lv_iconst (v := 0) hx hb dL_law_540 (by decide) ?_
            refine lv_icmp_ne (tgt := 576) hx hb dL_law_541 (by decide) (fun h9 => absurd (q_quiet2 hI c_498 c_533) h9) (fun c_541 => ?_)
            refine lv_iload hx hb dL_law_544 (lv_at hl 0 rfl) ?_
            refine lv_iload hx hb dL_law_546 (lv_at hl 5 rfl) ?_
            refine lv_iconst (v := 1) hx hb dL_law_548 (by decide) ?_
            refine lv_icmp_le (tgt := 557) hx hb dL_law_549 (by decide) (fun c_549 => ?_) (fun c_549 => ?_)
            · refine lv_iconst (v := (-1)) hx hb dL_law_557 (by decide) ?_
              refine lv_icmp_ne (tgt := 576) hx hb dL_law_558 (by decide) (fun h9 => absurd ((q_still hI).2.1 c_549) h9) (fun c_558 => ?_)
              refine lv_aload_n hx hb dL_law_561 rfl (lv_at hl 15 rfl) ?_
              refine wCVi (pre := [QA cR q83 n (RF n r83)] ++ [QA cR q73 n (RF n r73)]) (Wc := XO x0 pa pb ++ (DC cI pa (dSec f r L).1 (dSec f r L).2 ++ DC cI pb f2 r2)) (suf := SC cI cR a ca ga n k (dSec f r L).1 (dSec f r L).2 ++ (CW cI ca n ((dSec f r L).2 5) ++ (RW cI ga k 3 (sPass k (f, r, G)).2.2 ++ (RW cI r73 n n (gRow (dToGo (r 4)) n 0) ++ RW cI r83 n n (gRow (r 5) n 0))))) (As := []) (rest := []) ⟨hx, hb, hml, hown, hts⟩ (mX1_secondsToSpeak l D cI x0 pa pb (dSec f r L).1 f2 (dSec f r L).2 r2 _) hN hA hK1 hS hP hD (by simp only [List.append_assoc, List.append_nil, List.nil_append]) 0 (r := (RX1, TX1, 2)) rfl rfl (cwV 0 hts gL_law_X1_secondsToSpeak rfl rfl rfl (by decide +kernel) ⟨Nat.le_of_ble_eq_true rfl, Nat.le_of_ble_eq_true rfl⟩) rfl hl.1 rfl (Nat.le_of_ble_eq_true rfl) dL_law_562 ⟨by show ((((c0 + 0) + 17) + 1 + n) + 1 + n) ≤ 1200172; omega, by show ((((s0 + 0) + 175) + n + n * n) + n + n * n) ≤ 5500668; omega⟩ (fun r_562 u_562 H locs hw hP hD hS => ?_)
              have hw : r_562 = (dSec f r L).1 4 := hw
              subst hw
              have hP : va_P D vwCl ([QA cR q83 n (RF n r83)] ++ ([QA cR q73 n (RF n r73)] ++ (XO x0 pa pb ++ (DC cI pa (dSec f r L).1 (dSec f r L).2 ++ (DC cI pb f2 r2 ++ (SC cI cR a ca ga n k (dSec f r L).1 (dSec f r L).2 ++ (CW cI ca n ((dSec f r L).2 5) ++ (RW cI ga k 3 (sPass k (f, r, G)).2.2 ++ (RW cI r73 n n (gRow (dToGo (r 4)) n 0) ++ RW cI r83 n n (gRow (r 5) n 0)))))))))) H := by simpa only [List.append_assoc, List.append_nil, List.nil_append] using hP
              have hD : va_D A ([QA cR q83 n (RF n r83)] ++ ([QA cR q73 n (RF n r73)] ++ (XO x0 pa pb ++ (DC cI pa (dSec f r L).1 (dSec f r L).2 ++ (DC cI pb f2 r2 ++ (SC cI cR a ca ga n k (dSec f r L).1 (dSec f r L).2 ++ (CW cI ca n ((dSec f r L).2 5) ++ (RW cI ga k 3 (sPass k (f, r, G)).2.2 ++ (RW cI r73 n n (gRow (dToGo (r 4)) n 0) ++ RW cI r83 n n (gRow (r 5) n 0)))))))))) := by simpa only [List.append_assoc, List.append_nil, List.nil_append] using hD
              refine lv_iconst (v := 0) hx hb dL_law_565 (by decide) ?_
              refine lv_iload hx hb dL_law_566 (lv_at hl 5 rfl) ?_
              refine lv_iconst (v := 1) hx hb dL_law_568 (by decide) ?_
              refine lv_isub hx hb dL_law_569 ?_
              refine va_mmax hx hb (hml.trans hl.1.symm) hown (hts (.methodLink RL 145 Lib.Math.max.name) (by decide +kernel)) (hts (.static Lib.Math.max.name) (by decide +kernel)) (hts (.initialized "java/lang/Math") (by decide +kernel)) (hts (.code Lib.Math.max.name Lib.Math.max.code 2 (some .int)) (by decide +kernel)) (Nat.le_of_ble_eq_true rfl) (Nat.le_of_ble_eq_true rfl) (by show ((((c0 + 0) + 17) + 1 + n) + 1 + n) ≤ 1200172; omega) (by show ((((s0 + 0) + 175) + n + n * n) + n + n * n) ≤ 5500668; omega) dL_law_570 ?_
              refine lv_icmp_eq (tgt := 578) hx hb dL_law_573 (by decide) (fun c_573 => ?_) (fun h9 => absurd ((q_still hI).2.2) h9)
              exact join578  _ _ _ hP hD hS (lv_sub hl [2, 6, 7, 9, 1, 0, 10, 11, 12, 13, 14, 15, 16] rfl)
            · refine lv_iload hx hb dL_law_552 (lv_at hl 4 rfl) ?_
              refine lv_goto (tgt := 558) hx hb dL_law_554 (by decide) ?_
              refine lv_icmp_ne (tgt := 576) hx hb dL_law_558 (by decide) (fun h9 => absurd ((q_still hI).1 c_549) h9) (fun c_558 => ?_)
              refine lv_aload_n hx hb dL_law_561 rfl (lv_at hl 15 rfl) ?_
              refine wCVi (pre := [QA cR q83 n (RF n r83)] ++ [QA cR q73 n (RF n r73)]) (Wc := XO x0 pa pb ++ (DC cI pa (dSec f r L).1 (dSec f r L).2 ++ DC cI pb f2 r2)) (suf := SC cI cR a ca ga n k (dSec f r L).1 (dSec f r L).2 ++ (CW cI ca n ((dSec f r L).2 5) ++ (RW cI ga k 3 (sPass k (f, r, G)).2.2 ++ (RW cI r73 n n (gRow (dToGo (r 4)) n 0) ++ RW cI r83 n n (gRow (r 5) n 0))))) (As := []) (rest := []) ⟨hx, hb, hml, hown, hts⟩ (mX1_secondsToSpeak l D cI x0 pa pb (dSec f r L).1 f2 (dSec f r L).2 r2 _) hN hA hK1 hS hP hD (by simp only [List.append_assoc, List.append_nil, List.nil_append]) 0 (r := (RX1, TX1, 2)) rfl rfl (cwV 0 hts gL_law_X1_secondsToSpeak rfl rfl rfl (by decide +kernel) ⟨Nat.le_of_ble_eq_true rfl, Nat.le_of_ble_eq_true rfl⟩) rfl hl.1 rfl (Nat.le_of_ble_eq_true rfl) dL_law_562 ⟨by show ((((c0 + 0) + 17) + 1 + n) + 1 + n) ≤ 1200172; omega, by show ((((s0 + 0) + 175) + n + n * n) + n + n * n) ≤ 5500668; omega⟩ (fun r_562 u_562 H locs hw hP hD hS => ?_)
              have hw : r_562 = (dSec f r L).1 4 := hw
              subst hw
              have hP : va_P D vwCl ([QA cR q83 n (RF n r83)] ++ ([QA cR q73 n (RF n r73)] ++ (XO x0 pa pb ++ (DC cI pa (dSec f r L).1 (dSec f r L).2 ++ (DC cI pb f2 r2 ++ (SC cI cR a ca ga n k (dSec f r L).1 (dSec f r L).2 ++ (CW cI ca n ((dSec f r L).2 5) ++ (RW cI ga k 3 (sPass k (f, r, G)).2.2 ++ (RW cI r73 n n (gRow (dToGo (r 4)) n 0) ++ RW cI r83 n n (gRow (r 5) n 0)))))))))) H := by simpa only [List.append_assoc, List.append_nil, List.nil_append] using hP
              have hD : va_D A ([QA cR q83 n (RF n r83)] ++ ([QA cR q73 n (RF n r73)] ++ (XO x0 pa pb ++ (DC cI pa (dSec f r L).1 (dSec f r L).2 ++ (DC cI pb f2 r2 ++ (SC cI cR a ca ga n k (dSec f r L).1 (dSec f r L).2 ++ (CW cI ca n ((dSec f r L).2 5) ++ (RW cI ga k 3 (sPass k (f, r, G)).2.2 ++ (RW cI r73 n n (gRow (dToGo (r 4)) n 0) ++ RW cI r83 n n (gRow (r 5) n 0)))))))))) := by simpa only [List.append_assoc, List.append_nil, List.nil_append] using hD
              refine lv_iconst (v := 0) hx hb dL_law_565 (by decide) ?_
              refine lv_iload hx hb dL_law_566 (lv_at hl 5 rfl) ?_
              refine lv_iconst (v := 1) hx hb dL_law_568 (by decide) ?_
              refine lv_isub hx hb dL_law_569 ?_
              refine va_mmax hx hb (hml.trans hl.1.symm) hown (hts (.methodLink RL 145 Lib.Math.max.name) (by decide +kernel)) (hts (.static Lib.Math.max.name) (by decide +kernel)) (hts (.initialized "java/lang/Math") (by decide +kernel)) (hts (.code Lib.Math.max.name Lib.Math.max.code 2 (some .int)) (by decide +kernel)) (Nat.le_of_ble_eq_true rfl) (Nat.le_of_ble_eq_true rfl) (by show ((((c0 + 0) + 17) + 1 + n) + 1 + n) ≤ 1200172; omega) (by show ((((s0 + 0) + 175) + n + n * n) + n + n * n) ≤ 5500668; omega) dL_law_570 ?_
              refine lv_icmp_eq (tgt := 578) hx hb dL_law_573 (by decide) (fun c_573 => ?_) (fun h9 => absurd ((q_still hI).2.2) h9)
              exact join578  _ _ _ hP hD hS (lv_sub hl [2, 6, 7, 9, 1, 0, 10, 11, 12, 13, 14, 15, 16] rfl)
          · refine lv_iconst (v := 1) hx hb dL_law_536 (by decide) ?_
            refine lv_goto (tgt := 541) hx hb dL_law_537 (by decide) ?_
            refine lv_icmp_ne (tgt := 576) hx hb dL_law_541 (by decide) (fun h9 => absurd (q_quiet1 hI c_498 c_533) h9) (fun c_541 => ?_)
            refine lv_iload hx hb dL_law_544 (lv_at hl 0 rfl) ?_
            refine lv_iload hx hb dL_law_546 (lv_at hl 5 rfl) ?_
            refine lv_iconst (v := 1) hx hb dL_law_548 (by decide) ?_
            refine lv_icmp_le (tgt := 557) hx hb dL_law_549 (by decide) (fun c_549 => ?_) (fun c_549 => ?_)
            · refine lv_iconst (v := (-1)) hx hb dL_law_557 (by decide) ?_
              refine lv_icmp_ne (tgt := 576) hx hb dL_law_558 (by decide) (fun h9 => absurd ((q_still hI).2.1 c_549) h9) (fun c_558 => ?_)
              refine lv_aload_n hx hb dL_law_561 rfl (lv_at hl 15 rfl) ?_
              refine wCVi (pre := [QA cR q83 n (RF n r83)] ++ [QA cR q73 n (RF n r73)]) (Wc := XO x0 pa pb ++ (DC cI pa (dSec f r L).1 (dSec f r L).2 ++ DC cI pb f2 r2)) (suf := SC cI cR a ca ga n k (dSec f r L).1 (dSec f r L).2 ++ (CW cI ca n ((dSec f r L).2 5) ++ (RW cI ga k 3 (sPass k (f, r, G)).2.2 ++ (RW cI r73 n n (gRow (dToGo (r 4)) n 0) ++ RW cI r83 n n (gRow (r 5) n 0))))) (As := []) (rest := []) ⟨hx, hb, hml, hown, hts⟩ (mX1_secondsToSpeak l D cI x0 pa pb (dSec f r L).1 f2 (dSec f r L).2 r2 _) hN hA hK1 hS hP hD (by simp only [List.append_assoc, List.append_nil, List.nil_append]) 0 (r := (RX1, TX1, 2)) rfl rfl (cwV 0 hts gL_law_X1_secondsToSpeak rfl rfl rfl (by decide +kernel) ⟨Nat.le_of_ble_eq_true rfl, Nat.le_of_ble_eq_true rfl⟩) rfl hl.1 rfl (Nat.le_of_ble_eq_true rfl) dL_law_562 ⟨by show ((((c0 + 0) + 17) + 1 + n) + 1 + n) ≤ 1200172; omega, by show ((((s0 + 0) + 175) + n + n * n) + n + n * n) ≤ 5500668; omega⟩ (fun r_562 u_562 H locs hw hP hD hS => ?_)
              have hw : r_562 = (dSec f r L).1 4 := hw
              subst hw
              have hP : va_P D vwCl ([QA cR q83 n (RF n r83)] ++ ([QA cR q73 n (RF n r73)] ++ (XO x0 pa pb ++ (DC cI pa (dSec f r L).1 (dSec f r L).2 ++ (DC cI pb f2 r2 ++ (SC cI cR a ca ga n k (dSec f r L).1 (dSec f r L).2 ++ (CW cI ca n ((dSec f r L).2 5) ++ (RW cI ga k 3 (sPass k (f, r, G)).2.2 ++ (RW cI r73 n n (gRow (dToGo (r 4)) n 0) ++ RW cI r83 n n (gRow (r 5) n 0)))))))))) H := by simpa only [List.append_assoc, List.append_nil, List.nil_append] using hP
              have hD : va_D A ([QA cR q83 n (RF n r83)] ++ ([QA cR q73 n (RF n r73)] ++ (XO x0 pa pb ++ (DC cI pa (dSec f r L).1 (dSec f r L).2 ++ (DC cI pb f2 r2 ++ (SC cI cR a ca ga n k (dSec f r L).1 (dSec f r L).2 ++ (CW cI ca n ((dSec f r L).2 5) ++ (RW cI ga k 3 (sPass k (f, r, G)).2.2 ++ (RW cI r73 n n (gRow (dToGo (r 4)) n 0) ++ RW cI r83 n n (gRow (r 5) n 0)))))))))) := by simpa only [List.append_assoc, List.append_nil, List.nil_append] using hD
              refine lv_iconst (v := 0) hx hb dL_law_565 (by decide) ?_
              refine lv_iload hx hb dL_law_566 (lv_at hl 5 rfl) ?_
              refine lv_iconst (v := 1) hx hb dL_law_568 (by decide) ?_
              refine lv_isub hx hb dL_law_569 ?_
              refine va_mmax hx hb (hml.trans hl.1.symm) hown (hts (.methodLink RL 145 Lib.Math.max.name) (by decide +kernel)) (hts (.static Lib.Math.max.name) (by decide +kernel)) (hts (.initialized "java/lang/Math") (by decide +kernel)) (hts (.code Lib.Math.max.name Lib.Math.max.code 2 (some .int)) (by decide +kernel)) (Nat.le_of_ble_eq_true rfl) (Nat.le_of_ble_eq_true rfl) (by show ((((c0 + 0) + 17) + 1 + n) + 1 + n) ≤ 1200172; omega) (by show ((((s0 + 0) + 175) + n + n * n) + n + n * n) ≤ 5500668; omega) dL_law_570 ?_
              refine lv_icmp_eq (tgt := 578) hx hb dL_law_573 (by decide) (fun c_573 => ?_) (fun h9 => absurd ((q_still hI).2.2) h9)
              exact join578  _ _ _ hP hD hS (lv_sub hl [2, 6, 7, 9, 1, 0, 10, 11, 12, 13, 14, 15, 16] rfl)
            · refine lv_iload hx hb dL_law_552 (lv_at hl 4 rfl) ?_
              refine lv_goto (tgt := 558) hx hb dL_law_554 (by decide) ?_
              refine lv_icmp_ne (tgt := 576) hx hb dL_law_558 (by decide) (fun h9 => absurd ((q_still hI).1 c_549) h9) (fun c_558 => ?_)
              refine lv_aload_n hx hb dL_law_561 rfl (lv_at hl 15 rfl) ?_
              refine wCVi (pre := [QA cR q83 n (RF n r83)] ++ [QA cR q73 n (RF n r73)]) (Wc := XO x0 pa pb ++ (DC cI pa (dSec f r L).1 (dSec f r L).2 ++ DC cI pb f2 r2)) (suf := SC cI cR a ca ga n k (dSec f r L).1 (dSec f r L).2 ++ (CW cI ca n ((dSec f r L).2 5) ++ (RW cI ga k 3 (sPass k (f, r, G)).2.2 ++ (RW cI r73 n n (gRow (dToGo (r 4)) n 0) ++ RW cI r83 n n (gRow (r 5) n 0))))) (As := []) (rest := []) ⟨hx, hb, hml, hown, hts⟩ (mX1_secondsToSpeak l D cI x0 pa pb (dSec f r L).1 f2 (dSec f r L).2 r2 _) hN hA hK1 hS hP hD (by simp only [List.append_assoc, List.append_nil, List.nil_append]) 0 (r := (RX1, TX1, 2)) rfl rfl (cwV 0 hts gL_law_X1_secondsToSpeak rfl rfl rfl (by decide +kernel) ⟨Nat.le_of_ble_eq_true rfl, Nat.le_of_ble_eq_true rfl⟩) rfl hl.1 rfl (Nat.le_of_ble_eq_true rfl) dL_law_562 ⟨by show ((((c0 + 0) + 17) + 1 + n) + 1 + n) ≤ 1200172; omega, by show ((((s0 + 0) + 175) + n + n * n) + n + n * n) ≤ 5500668; omega⟩ (fun r_562 u_562 H locs hw hP hD hS => ?_)
              have hw : r_562 = (dSec f r L).1 4 := hw
              subst hw
              have hP : va_P D vwCl ([QA cR q83 n (RF n r83)] ++ ([QA cR q73 n (RF n r73)] ++ (XO x0 pa pb ++ (DC cI pa (dSec f r L).1 (dSec f r L).2 ++ (DC cI pb f2 r2 ++ (SC cI cR a ca ga n k (dSec f r L).1 (dSec f r L).2 ++ (CW cI ca n ((dSec f r L).2 5) ++ (RW cI ga k 3 (sPass k (f, r, G)).2.2 ++ (RW cI r73 n n (gRow (dToGo (r 4)) n 0) ++ RW cI r83 n n (gRow (r 5) n 0)))))))))) H := by simpa only [List.append_assoc, List.append_nil, List.nil_append] using hP
              have hD : va_D A ([QA cR q83 n (RF n r83)] ++ ([QA cR q73 n (RF n r73)] ++ (XO x0 pa pb ++ (DC cI pa (dSec f r L).1 (dSec f r L).2 ++ (DC cI pb f2 r2 ++ (SC cI cR a ca ga n k (dSec f r L).1 (dSec f r L).2 ++ (CW cI ca n ((dSec f r L).2 5) ++ (RW cI ga k 3 (sPass k (f, r, G)).2.2 ++ (RW cI r73 n n (gRow (dToGo (r 4)) n 0) ++ RW cI r83 n n (gRow (r 5) n 0)))))))))) := by simpa only [List.append_assoc, List.append_nil, List.nil_append] using hD
              refine lv_iconst (v := 0) hx hb dL_law_565 (by decide) ?_
              refine lv_iload hx hb dL_law_566 (lv_at hl 5 rfl) ?_
              refine lv_iconst (v := 1) hx hb dL_law_568 (by decide) ?_
              refine lv_isub hx hb dL_law_569 ?_
              refine va_mmax hx hb (hml.trans hl.1.symm) hown (hts (.methodLink RL 145 Lib.Math.max.name) (by decide +kernel)) (hts (.static Lib.Math.max.name) (by decide +kernel)) (hts (.initialized "java/lang/Math") (by decide +kernel)) (hts (.code Lib.Math.max.name Lib.Math.max.code 2 (some .int)) (by decide +kernel)) (Nat.le_of_ble_eq_true rfl) (Nat.le_of_ble_eq_true rfl) (by show ((((c0 + 0) + 17) + 1 + n) + 1 + n) ≤ 1200172; omega) (by show ((((s0 + 0) + 175) + n + n * n) + n + n * n) ≤ 5500668; omega) dL_law_570 ?_
              refine lv_icmp_eq (tgt := 578) hx hb dL_law_573 (by decide) (fun c_573 => ?_) (fun h9 => absurd ((q_still hI).2.2) h9)
              exact join578  _ _ _ hP hD hS (lv_sub hl [2, 6, 7, 9, 1, 0, 10, 11, 12, 13, 14, 15, 16] rfl)
      refine lv_aload_n hx hb dL_law_319 rfl (lv_at hl 9 rfl) ?_
      refine wCVi (pre := [QA cR q83 n (RF n r83)] ++ [QA cR q73 n (RF n r73)]) (Wc := XO x0 pa pb ++ (DC cI pa f r ++ DC cI pb f2 r2)) (suf := SC cI cR a ca ga n k f r ++ (CW cI ca n (r 5) ++ (RW cI ga k 3 G ++ (RW cI r73 n n (gRow (dToGo (r 4)) n 0) ++ RW cI r83 n n (gRow (r 5) n 0))))) (As := []) (rest := []) ⟨hx, hb, hml, hown, hts⟩ (mX1_unsaidInPauses l D cI x0 pa pb f f2 r r2 _) hN hA hK1 hS hP hD (by simp only [List.append_assoc, List.append_nil, List.nil_append]) 0 (r := (RX1, TX1, 2)) rfl rfl (cwV 0 hts gL_law_X1_unsaidInPauses rfl rfl rfl (by decide +kernel) ⟨Nat.le_of_ble_eq_true rfl, Nat.le_of_ble_eq_true rfl⟩) rfl hl.1 rfl (Nat.le_of_ble_eq_true rfl) dL_law_320 ⟨by show ((((c0 + 0) + 17) + 1 + n) + 1 + n) ≤ 1200172; omega, by show ((((s0 + 0) + 175) + n + n * n) + n + n * n) ≤ 5500668; omega⟩ (fun r_320 u_320 H locs hw hP hD hS => ?_)
      have hw : r_320 = f 6 := hw
      subst hw
      have hP : va_P D vwCl ([QA cR q83 n (RF n r83)] ++ ([QA cR q73 n (RF n r73)] ++ (XO x0 pa pb ++ (DC cI pa f r ++ (DC cI pb f2 r2 ++ (SC cI cR a ca ga n k f r ++ (CW cI ca n (r 5) ++ (RW cI ga k 3 G ++ (RW cI r73 n n (gRow (dToGo (r 4)) n 0) ++ RW cI r83 n n (gRow (r 5) n 0)))))))))) H := by simpa only [List.append_assoc, List.append_nil, List.nil_append] using hP
      have hD : va_D A ([QA cR q83 n (RF n r83)] ++ ([QA cR q73 n (RF n r73)] ++ (XO x0 pa pb ++ (DC cI pa f r ++ (DC cI pb f2 r2 ++ (SC cI cR a ca ga n k f r ++ (CW cI ca n (r 5) ++ (RW cI ga k 3 G ++ (RW cI r73 n n (gRow (dToGo (r 4)) n 0) ++ RW cI r83 n n (gRow (r 5) n 0)))))))))) := by simpa only [List.append_assoc, List.append_nil, List.nil_append] using hD
      refine lv_istore (lv' := [(11, .int (f 6)), (8, .int (acc2 (qW (r 4)) n 0 n)), (9, .int (dSum (r 3) n)), (10, .int (acc2 (r 5) n 0 n)), (5, .int (nI n)), (6, .ref q73), (7, .ref q83), (3, .int (nI t)), (2, .ref (a 0)), (1, .ref x0), (0, .ref sb)]) hx hb dL_law_323 hl (by decide) rfl (fun ls hl => ?_)
      refine lv_aload_n hx hb dL_law_325 rfl (lv_at hl 9 rfl) ?_
      refine wCVi (pre := [QA cR q83 n (RF n r83)] ++ [QA cR q73 n (RF n r73)]) (Wc := XO x0 pa pb ++ (DC cI pa f r ++ DC cI pb f2 r2)) (suf := SC cI cR a ca ga n k f r ++ (CW cI ca n (r 5) ++ (RW cI ga k 3 G ++ (RW cI r73 n n (gRow (dToGo (r 4)) n 0) ++ RW cI r83 n n (gRow (r 5) n 0))))) (As := []) (rest := []) ⟨hx, hb, hml, hown, hts⟩ (mX1_pause l D cI x0 pa pb f f2 r r2 _) hN hA hK1 hS hP hD (by simp only [List.append_assoc, List.append_nil, List.nil_append]) 0 (r := (RX1, TX1, 2)) rfl rfl (cwV 0 hts gL_law_X1_pause rfl rfl rfl (by decide +kernel) ⟨Nat.le_of_ble_eq_true rfl, Nat.le_of_ble_eq_true rfl⟩) rfl hl.1 rfl (Nat.le_of_ble_eq_true rfl) dL_law_326 ⟨by show ((((c0 + 0) + 17) + 1 + n) + 1 + n) ≤ 1200172; omega, by show ((((s0 + 0) + 175) + n + n * n) + n + n * n) ≤ 5500668; omega⟩ (fun r_326 u_326 H locs hw hP hD hS => ?_)
      have hw : r_326 = f 5 := hw
      subst hw
      have hP : va_P D vwCl ([QA cR q83 n (RF n r83)] ++ ([QA cR q73 n (RF n r73)] ++ (XO x0 pa pb ++ (DC cI pa f r ++ (DC cI pb f2 r2 ++ (SC cI cR a ca ga n k f r ++ (CW cI ca n (r 5) ++ (RW cI ga k 3 G ++ (RW cI r73 n n (gRow (dToGo (r 4)) n 0) ++ RW cI r83 n n (gRow (r 5) n 0)))))))))) H := by simpa only [List.append_assoc, List.append_nil, List.nil_append] using hP
      have hD : va_D A ([QA cR q83 n (RF n r83)] ++ ([QA cR q73 n (RF n r73)] ++ (XO x0 pa pb ++ (DC cI pa f r ++ (DC cI pb f2 r2 ++ (SC cI cR a ca ga n k f r ++ (CW cI ca n (r 5) ++ (RW cI ga k 3 G ++ (RW cI r73 n n (gRow (dToGo (r 4)) n 0) ++ RW cI r83 n n (gRow (r 5) n 0)))))))))) := by simpa only [List.append_assoc, List.append_nil, List.nil_append] using hD
      refine lv_istore (lv' := [(12, .int (f 5)), (11, .int (f 6)), (8, .int (acc2 (qW (r 4)) n 0 n)), (9, .int (dSum (r 3) n)), (10, .int (acc2 (r 5) n 0 n)), (5, .int (nI n)), (6, .ref q73), (7, .ref q83), (3, .int (nI t)), (2, .ref (a 0)), (1, .ref x0), (0, .ref sb)]) hx hb dL_law_329 hl (by decide) rfl (fun ls hl => ?_)
      refine lv_aload_n hx hb dL_law_331 rfl (lv_at hl 10 rfl) ?_
      refine wCVi (pre := [QA cR q83 n (RF n r83)] ++ [QA cR q73 n (RF n r73)]) (Wc := XO x0 pa pb ++ (DC cI pa f r ++ DC cI pb f2 r2)) (suf := SC cI cR a ca ga n k f r ++ (CW cI ca n (r 5) ++ (RW cI ga k 3 G ++ (RW cI r73 n n (gRow (dToGo (r 4)) n 0) ++ RW cI r83 n n (gRow (r 5) n 0))))) (As := []) (rest := []) ⟨hx, hb, hml, hown, hts⟩ (mX1_speaker l D cI x0 pa pb f f2 r r2 _) hN hA hK1 hS hP hD (by simp only [List.append_assoc, List.append_nil, List.nil_append]) 0 (r := (RX1, TX1, 2)) rfl rfl (cwV 0 hts gL_law_X1_speaker rfl rfl rfl (by decide +kernel) ⟨Nat.le_of_ble_eq_true rfl, Nat.le_of_ble_eq_true rfl⟩) rfl hl.1 rfl (Nat.le_of_ble_eq_true rfl) dL_law_332 ⟨by show ((((c0 + 0) + 17) + 1 + n) + 1 + n) ≤ 1200172; omega, by show ((((s0 + 0) + 175) + n + n * n) + n + n * n) ≤ 5500668; omega⟩ (fun r_332 u_332 H locs hw hP hD hS => ?_)
      have hw : r_332 = f 3 := hw
      subst hw
      have hP : va_P D vwCl ([QA cR q83 n (RF n r83)] ++ ([QA cR q73 n (RF n r73)] ++ (XO x0 pa pb ++ (DC cI pa f r ++ (DC cI pb f2 r2 ++ (SC cI cR a ca ga n k f r ++ (CW cI ca n (r 5) ++ (RW cI ga k 3 G ++ (RW cI r73 n n (gRow (dToGo (r 4)) n 0) ++ RW cI r83 n n (gRow (r 5) n 0)))))))))) H := by simpa only [List.append_assoc, List.append_nil, List.nil_append] using hP
      have hD : va_D A ([QA cR q83 n (RF n r83)] ++ ([QA cR q73 n (RF n r73)] ++ (XO x0 pa pb ++ (DC cI pa f r ++ (DC cI pb f2 r2 ++ (SC cI cR a ca ga n k f r ++ (CW cI ca n (r 5) ++ (RW cI ga k 3 G ++ (RW cI r73 n n (gRow (dToGo (r 4)) n 0) ++ RW cI r83 n n (gRow (r 5) n 0)))))))))) := by simpa only [List.append_assoc, List.append_nil, List.nil_append] using hD
      refine lv_istore (lv' := [(13, .int (f 3)), (12, .int (f 5)), (11, .int (f 6)), (8, .int (acc2 (qW (r 4)) n 0 n)), (9, .int (dSum (r 3) n)), (10, .int (acc2 (r 5) n 0 n)), (5, .int (nI n)), (6, .ref q73), (7, .ref q83), (3, .int (nI t)), (2, .ref (a 0)), (1, .ref x0), (0, .ref sb)]) hx hb dL_law_335 hl (by decide) rfl (fun ls hl => ?_)
      refine lv_aload_n hx hb dL_law_337 rfl (lv_at hl 11 rfl) ?_
      refine wCVi (pre := [QA cR q83 n (RF n r83)] ++ [QA cR q73 n (RF n r73)]) (Wc := XO x0 pa pb ++ (DC cI pa f r ++ DC cI pb f2 r2)) (suf := SC cI cR a ca ga n k f r ++ (CW cI ca n (r 5) ++ (RW cI ga k 3 G ++ (RW cI r73 n n (gRow (dToGo (r 4)) n 0) ++ RW cI r83 n n (gRow (r 5) n 0))))) (As := []) (rest := []) ⟨hx, hb, hml, hown, hts⟩ (mX1_secondsToSpeak l D cI x0 pa pb f f2 r r2 _) hN hA hK1 hS hP hD (by simp only [List.append_assoc, List.append_nil, List.nil_append]) 0 (r := (RX1, TX1, 2)) rfl rfl (cwV 0 hts gL_law_X1_secondsToSpeak rfl rfl rfl (by decide +kernel) ⟨Nat.le_of_ble_eq_true rfl, Nat.le_of_ble_eq_true rfl⟩) rfl hl.1 rfl (Nat.le_of_ble_eq_true rfl) dL_law_338 ⟨by show ((((c0 + 0) + 17) + 1 + n) + 1 + n) ≤ 1200172; omega, by show ((((s0 + 0) + 175) + n + n * n) + n + n * n) ≤ 5500668; omega⟩ (fun r_338 u_338 H locs hw hP hD hS => ?_)
      have hw : r_338 = f 4 := hw
      subst hw
      have hP : va_P D vwCl ([QA cR q83 n (RF n r83)] ++ ([QA cR q73 n (RF n r73)] ++ (XO x0 pa pb ++ (DC cI pa f r ++ (DC cI pb f2 r2 ++ (SC cI cR a ca ga n k f r ++ (CW cI ca n (r 5) ++ (RW cI ga k 3 G ++ (RW cI r73 n n (gRow (dToGo (r 4)) n 0) ++ RW cI r83 n n (gRow (r 5) n 0)))))))))) H := by simpa only [List.append_assoc, List.append_nil, List.nil_append] using hP
      have hD : va_D A ([QA cR q83 n (RF n r83)] ++ ([QA cR q73 n (RF n r73)] ++ (XO x0 pa pb ++ (DC cI pa f r ++ (DC cI pb f2 r2 ++ (SC cI cR a ca ga n k f r ++ (CW cI ca n (r 5) ++ (RW cI ga k 3 G ++ (RW cI r73 n n (gRow (dToGo (r 4)) n 0) ++ RW cI r83 n n (gRow (r 5) n 0)))))))))) := by simpa only [List.append_assoc, List.append_nil, List.nil_append] using hD
      refine lv_istore (lv' := [(14, .int (f 4)), (13, .int (f 3)), (12, .int (f 5)), (11, .int (f 6)), (8, .int (acc2 (qW (r 4)) n 0 n)), (9, .int (dSum (r 3) n)), (10, .int (acc2 (r 5) n 0 n)), (5, .int (nI n)), (6, .ref q73), (7, .ref q83), (3, .int (nI t)), (2, .ref (a 0)), (1, .ref x0), (0, .ref sb)]) hx hb dL_law_341 hl (by decide) rfl (fun ls hl => ?_)
      refine lv_aload_n hx hb dL_law_343 rfl (lv_at hl 12 rfl) ?_
      refine wCVi (pre := [QA cR q83 n (RF n r83)] ++ [QA cR q73 n (RF n r73)]) (Wc := XO x0 pa pb ++ (DC cI pa f r ++ DC cI pb f2 r2)) (suf := SC cI cR a ca ga n k f r ++ (CW cI ca n (r 5) ++ (RW cI ga k 3 G ++ (RW cI r73 n n (gRow (dToGo (r 4)) n 0) ++ RW cI r83 n n (gRow (r 5) n 0))))) (As := []) (rest := []) ⟨hx, hb, hml, hown, hts⟩ (mX1_meetings l D cI x0 pa pb f f2 r r2 _) hN hA hK1 hS hP hD (by simp only [List.append_assoc, List.append_nil, List.nil_append]) 0 (r := (RX1, TX1, 2)) rfl rfl (cwV 0 hts gL_law_X1_meetings rfl rfl rfl (by decide +kernel) ⟨Nat.le_of_ble_eq_true rfl, Nat.le_of_ble_eq_true rfl⟩) rfl hl.1 rfl (Nat.le_of_ble_eq_true rfl) dL_law_344 ⟨by show ((((c0 + 0) + 17) + 1 + n) + 1 + n) ≤ 1200172; omega, by show ((((s0 + 0) + 175) + n + n * n) + n + n * n) ≤ 5500668; omega⟩ (fun r_344 u_344 H locs hw hP hD hS => ?_)
      have hw : r_344 = f 7 := hw
      subst hw
      have hP : va_P D vwCl ([QA cR q83 n (RF n r83)] ++ ([QA cR q73 n (RF n r73)] ++ (XO x0 pa pb ++ (DC cI pa f r ++ (DC cI pb f2 r2 ++ (SC cI cR a ca ga n k f r ++ (CW cI ca n (r 5) ++ (RW cI ga k 3 G ++ (RW cI r73 n n (gRow (dToGo (r 4)) n 0) ++ RW cI r83 n n (gRow (r 5) n 0)))))))))) H := by simpa only [List.append_assoc, List.append_nil, List.nil_append] using hP
      have hD : va_D A ([QA cR q83 n (RF n r83)] ++ ([QA cR q73 n (RF n r73)] ++ (XO x0 pa pb ++ (DC cI pa f r ++ (DC cI pb f2 r2 ++ (SC cI cR a ca ga n k f r ++ (CW cI ca n (r 5) ++ (RW cI ga k 3 G ++ (RW cI r73 n n (gRow (dToGo (r 4)) n 0) ++ RW cI r83 n n (gRow (r 5) n 0)))))))))) := by simpa only [List.append_assoc, List.append_nil, List.nil_append] using hD
      refine lv_istore (lv' := [(15, .int (f 7)), (14, .int (f 4)), (13, .int (f 3)), (12, .int (f 5)), (11, .int (f 6)), (8, .int (acc2 (qW (r 4)) n 0 n)), (9, .int (dSum (r 3) n)), (10, .int (acc2 (r 5) n 0 n)), (5, .int (nI n)), (6, .ref q73), (7, .ref q83), (3, .int (nI t)), (2, .ref (a 0)), (1, .ref x0), (0, .ref sb)]) hx hb dL_law_347 hl (by decide) rfl (fun ls hl => ?_)
      refine lv_aload_n hx hb dL_law_349 rfl (lv_at hl 13 rfl) ?_
      refine wCVi (pre := [QA cR q83 n (RF n r83)] ++ [QA cR q73 n (RF n r73)]) (Wc := XO x0 pa pb ++ (DC cI pa f r ++ DC cI pb f2 r2)) (suf := SC cI cR a ca ga n k f r ++ (CW cI ca n (r 5) ++ (RW cI ga k 3 G ++ (RW cI r73 n n (gRow (dToGo (r 4)) n 0) ++ RW cI r83 n n (gRow (r 5) n 0))))) (As := []) (rest := []) ⟨hx, hb, hml, hown, hts⟩ (mX1_lostGlances l D cI x0 pa pb f f2 r r2 _) hN hA hK1 hS hP hD (by simp only [List.append_assoc, List.append_nil, List.nil_append]) 0 (r := (RX1, TX1, 2)) rfl rfl (cwV 0 hts gL_law_X1_lostGlances rfl rfl rfl (by decide +kernel) ⟨Nat.le_of_ble_eq_true rfl, Nat.le_of_ble_eq_true rfl⟩) rfl hl.1 rfl (Nat.le_of_ble_eq_true rfl) dL_law_350 ⟨by show ((((c0 + 0) + 17) + 1 + n) + 1 + n) ≤ 1200172; omega, by show ((((s0 + 0) + 175) + n + n * n) + n + n * n) ≤ 5500668; omega⟩ (fun r_350 u_350 H locs hw hP hD hS => ?_)
      have hw : r_350 = f 8 := hw
      subst hw
      have hP : va_P D vwCl ([QA cR q83 n (RF n r83)] ++ ([QA cR q73 n (RF n r73)] ++ (XO x0 pa pb ++ (DC cI pa f r ++ (DC cI pb f2 r2 ++ (SC cI cR a ca ga n k f r ++ (CW cI ca n (r 5) ++ (RW cI ga k 3 G ++ (RW cI r73 n n (gRow (dToGo (r 4)) n 0) ++ RW cI r83 n n (gRow (r 5) n 0)))))))))) H := by simpa only [List.append_assoc, List.append_nil, List.nil_append] using hP
      have hD : va_D A ([QA cR q83 n (RF n r83)] ++ ([QA cR q73 n (RF n r73)] ++ (XO x0 pa pb ++ (DC cI pa f r ++ (DC cI pb f2 r2 ++ (SC cI cR a ca ga n k f r ++ (CW cI ca n (r 5) ++ (RW cI ga k 3 G ++ (RW cI r73 n n (gRow (dToGo (r 4)) n 0) ++ RW cI r83 n n (gRow (r 5) n 0)))))))))) := by simpa only [List.append_assoc, List.append_nil, List.nil_append] using hD
      refine lv_istore (lv' := [(16, .int (f 8)), (15, .int (f 7)), (14, .int (f 4)), (13, .int (f 3)), (12, .int (f 5)), (11, .int (f 6)), (8, .int (acc2 (qW (r 4)) n 0 n)), (9, .int (dSum (r 3) n)), (10, .int (acc2 (r 5) n 0 n)), (5, .int (nI n)), (6, .ref q73), (7, .ref q83), (3, .int (nI t)), (2, .ref (a 0)), (1, .ref x0), (0, .ref sb)]) hx hb dL_law_353 hl (by decide) rfl (fun ls hl => ?_)
      refine lv_iload hx hb dL_law_355 (lv_at hl 7 rfl) ?_
      refine lv_iload hx hb dL_law_357 (lv_at hl 5 rfl) ?_
      refine lv_iadd hx hb dL_law_359 ?_
      refine lv_istore (lv' := [(17, .int ((dSum (r 3) n) + (f 6))), (16, .int (f 8)), (15, .int (f 7)), (14, .int (f 4)), (13, .int (f 3)), (12, .int (f 5)), (11, .int (f 6)), (8, .int (acc2 (qW (r 4)) n 0 n)), (9, .int (dSum (r 3) n)), (10, .int (acc2 (r 5) n 0 n)), (5, .int (nI n)), (6, .ref q73), (7, .ref q83), (3, .int (nI t)), (2, .ref (a 0)), (1, .ref x0), (0, .ref sb)]) hx hb dL_law_360 hl (by decide) rfl (fun ls hl => ?_)
      refine lv_iload hx hb dL_law_362 (lv_at hl 7 rfl) ?_
      refine lv_aload_n hx hb dL_law_364 rfl (lv_at hl 15 rfl) ?_
      refine wCVi (pre := [QA cR q83 n (RF n r83)] ++ [QA cR q73 n (RF n r73)]) (Wc := XO x0 pa pb ++ (DC cI pa f r ++ DC cI pb f2 r2)) (suf := SC cI cR a ca ga n k f r ++ (CW cI ca n (r 5) ++ (RW cI ga k 3 G ++ (RW cI r73 n n (gRow (dToGo (r 4)) n 0) ++ RW cI r83 n n (gRow (r 5) n 0))))) (As := []) (rest := [.int (acc2 (qW (r 4)) n 0 n)]) ⟨hx, hb, hml, hown, hts⟩ (mX1_glancesUnderWay l D cI x0 pa pb f f2 r r2 _) hN hA hK1 hS hP hD (by simp only [List.append_assoc, List.append_nil, List.nil_append]) 0 (r := (RX1, TX1, 2)) rfl rfl (cwV 0 hts gL_law_X1_glancesUnderWay rfl rfl rfl (by decide +kernel) ⟨Nat.le_of_ble_eq_true rfl, Nat.le_of_ble_eq_true rfl⟩) rfl hl.1 rfl (Nat.le_of_ble_eq_true rfl) dL_law_365 ⟨by show ((((c0 + 0) + 17) + 1 + n) + 1 + n) ≤ 1200172; omega, by show ((((s0 + 0) + 175) + n + n * n) + n + n * n) ≤ 5500668; omega⟩ (fun r_365 u_365 H locs hw hP hD hS => ?_)
      have hw : r_365 = f 9 := hw
      subst hw
      have hP : va_P D vwCl ([QA cR q83 n (RF n r83)] ++ ([QA cR q73 n (RF n r73)] ++ (XO x0 pa pb ++ (DC cI pa f r ++ (DC cI pb f2 r2 ++ (SC cI cR a ca ga n k f r ++ (CW cI ca n (r 5) ++ (RW cI ga k 3 G ++ (RW cI r73 n n (gRow (dToGo (r 4)) n 0) ++ RW cI r83 n n (gRow (r 5) n 0)))))))))) H := by simpa only [List.append_assoc, List.append_nil, List.nil_append] using hP
      have hD : va_D A ([QA cR q83 n (RF n r83)] ++ ([QA cR q73 n (RF n r73)] ++ (XO x0 pa pb ++ (DC cI pa f r ++ (DC cI pb f2 r2 ++ (SC cI cR a ca ga n k f r ++ (CW cI ca n (r 5) ++ (RW cI ga k 3 G ++ (RW cI r73 n n (gRow (dToGo (r 4)) n 0) ++ RW cI r83 n n (gRow (r 5) n 0)))))))))) := by simpa only [List.append_assoc, List.append_nil, List.nil_append] using hD
      refine lv_icmp_ne (tgt := 472) hx hb dL_law_368 (by decide) (fun h9 => absurd (q_way hI) h9) (fun c_368 => ?_)
      refine lv_iload hx hb dL_law_371 (lv_at hl 0 rfl) ?_
      refine lv_aload_n hx hb dL_law_373 rfl (lv_at hl 15 rfl) ?_
      refine wCVi (pre := [QA cR q83 n (RF n r83)] ++ [QA cR q73 n (RF n r73)]) (Wc := XO x0 pa pb ++ (DC cI pa f r ++ DC cI pb f2 r2)) (suf := SC cI cR a ca ga n k f r ++ (CW cI ca n (r 5) ++ (RW cI ga k 3 G ++ (RW cI r73 n n (gRow (dToGo (r 4)) n 0) ++ RW cI r83 n n (gRow (r 5) n 0))))) (As := []) (rest := [.int ((dSum (r 3) n) + (f 6))]) ⟨hx, hb, hml, hown, hts⟩ (mX1_allUnsaid l D cI x0 pa pb f f2 r r2 n _ hg hn1 (by omega)) hN hA hK1 hS hP hD (by simp only [List.append_assoc, List.append_nil, List.nil_append]) 0 (r := (RX1, TX1, 2)) rfl rfl (cwV 0 hts gL_law_X1_allUnsaid rfl rfl rfl (by decide +kernel) ⟨Nat.le_of_ble_eq_true rfl, Nat.le_of_ble_eq_true rfl⟩) rfl hl.1 rfl (Nat.le_of_ble_eq_true rfl) dL_law_374 ⟨by show ((((c0 + 0) + 17) + 1 + n) + 1 + n) ≤ 1200172; omega, by show ((((s0 + 0) + 175) + n + n * n) + n + n * n) ≤ 5500668; omega⟩ (fun r_374 u_374 H locs hw hP hD hS => ?_)
      have hw : r_374 = dSum (r 3) n + f 6 := hw
      subst hw
      have hP : va_P D vwCl ([QA cR q83 n (RF n r83)] ++ ([QA cR q73 n (RF n r73)] ++ (XO x0 pa pb ++ (DC cI pa f r ++ (DC cI pb f2 r2 ++ (SC cI cR a ca ga n k f r ++ (CW cI ca n (r 5) ++ (RW cI ga k 3 G ++ (RW cI r73 n n (gRow (dToGo (r 4)) n 0) ++ RW cI r83 n n (gRow (r 5) n 0)))))))))) H := by simpa only [List.append_assoc, List.append_nil, List.nil_append] using hP
      have hD : va_D A ([QA cR q83 n (RF n r83)] ++ ([QA cR q73 n (RF n r73)] ++ (XO x0 pa pb ++ (DC cI pa f r ++ (DC cI pb f2 r2 ++ (SC cI cR a ca ga n k f r ++ (CW cI ca n (r 5) ++ (RW cI ga k 3 G ++ (RW cI r73 n n (gRow (dToGo (r 4)) n 0) ++ RW cI r83 n n (gRow (r 5) n 0)))))))))) := by simpa only [List.append_assoc, List.append_nil, List.nil_append] using hD
      refine lv_icmp_ne (tgt := 472) hx hb dL_law_377 (by decide) (fun h9 => absurd (rfl) h9) (fun c_377 => ?_)
      refine lv_aload_n hx hb dL_law_380 rfl (lv_at hl 15 rfl) ?_
      refine wCVi (pre := [QA cR q83 n (RF n r83)] ++ [QA cR q73 n (RF n r73)]) (Wc := XO x0 pa pb ++ (DC cI pa f r ++ DC cI pb f2 r2)) (suf := SC cI cR a ca ga n k f r ++ (CW cI ca n (r 5) ++ (RW cI ga k 3 G ++ (RW cI r73 n n (gRow (dToGo (r 4)) n 0) ++ RW cI r83 n n (gRow (r 5) n 0))))) (As := []) (rest := []) ⟨hx, hb, hml, hown, hts⟩ (mX1_rating l D cI x0 pa pb f f2 r r2 n _ hg hn1 (by omega)) hN hA hK1 hS hP hD (by simp only [List.append_assoc, List.append_nil, List.nil_append]) 0 (r := (RX1, TX1, 2)) rfl rfl (cwV 0 hts gL_law_X1_rating rfl rfl rfl (by decide +kernel) ⟨Nat.le_of_ble_eq_true rfl, Nat.le_of_ble_eq_true rfl⟩) rfl hl.1 rfl (Nat.le_of_ble_eq_true rfl) dL_law_381 ⟨by show ((((c0 + 0) + 17) + 1 + n) + 1 + n) ≤ 1200172; omega, by show ((((s0 + 0) + 175) + n + n * n) + n + n * n) ≤ 5500668; omega⟩ (fun r_381 u_381 H locs hw hP hD hS => ?_)
      have hw : r_381 = dRate (f 0) (f 6) (r 3) n := hw
      subst hw
      have hP : va_P D vwCl ([QA cR q83 n (RF n r83)] ++ ([QA cR q73 n (RF n r73)] ++ (XO x0 pa pb ++ (DC cI pa f r ++ (DC cI pb f2 r2 ++ (SC cI cR a ca ga n k f r ++ (CW cI ca n (r 5) ++ (RW cI ga k 3 G ++ (RW cI r73 n n (gRow (dToGo (r 4)) n 0) ++ RW cI r83 n n (gRow (r 5) n 0)))))))))) H := by simpa only [List.append_assoc, List.append_nil, List.nil_append] using hP
      have hD : va_D A ([QA cR q83 n (RF n r83)] ++ ([QA cR q73 n (RF n r73)] ++ (XO x0 pa pb ++ (DC cI pa f r ++ (DC cI pb f2 r2 ++ (SC cI cR a ca ga n k f r ++ (CW cI ca n (r 5) ++ (RW cI ga k 3 G ++ (RW cI r73 n n (gRow (dToGo (r 4)) n 0) ++ RW cI r83 n n (gRow (r 5) n 0)))))))))) := by simpa only [List.append_assoc, List.append_nil, List.nil_append] using hD
      refine lv_iconst (v := 0) hx hb dL_law_384 (by decide) ?_
      refine lv_bipush (v := 10) hx hb dL_law_385 (by decide) ?_
      refine lv_iload hx hb dL_law_387 (lv_at hl 0 rfl) ?_
      refine lv_iload hx hb dL_law_389 (lv_at hl 10 rfl) ?_
      refine lv_idiv hx hb dL_law_391 (nI_ne0 (by omega) (by omega)) ?_
      refine lv_iconst (v := 4) hx hb dL_law_392 (by decide) ?_
      refine lv_isub hx hb dL_law_393 ?_
      refine va_mabs hx hb (hml.trans hl.1.symm) hown (hts (.methodLink RL 140 Lib.Math.abs.name) (by decide +kernel)) (hts (.static Lib.Math.abs.name) (by decide +kernel)) (hts (.initialized "java/lang/Math") (by decide +kernel)) (hts (.code Lib.Math.abs.name Lib.Math.abs.code 1 (some .int)) (by decide +kernel)) (Nat.le_of_ble_eq_true rfl) (Nat.le_of_ble_eq_true rfl) (by show ((((c0 + 0) + 17) + 1 + n) + 1 + n) ≤ 1200172; omega) (by show ((((s0 + 0) + 175) + n + n * n) + n + n * n) ≤ 5500668; omega) dL_law_394 ?_
      refine lv_isub hx hb dL_law_397 ?_
      refine va_mmax hx hb (hml.trans hl.1.symm) hown (hts (.methodLink RL 145 Lib.Math.max.name) (by decide +kernel)) (hts (.static Lib.Math.max.name) (by decide +kernel)) (hts (.initialized "java/lang/Math") (by decide +kernel)) (hts (.code Lib.Math.max.name Lib.Math.max.code 2 (some .int)) (by decide +kernel)) (Nat.le_of_ble_eq_true rfl) (Nat.le_of_ble_eq_true rfl) (by show ((((c0 + 0) + 17) + 1 + n) + 1 + n) ≤ 1200172; omega) (by show ((((s0 + 0) + 175) + n + n * n) + n + n * n) ≤ 5500668; omega) dL_law_398 ?_
      refine lv_icmp_ne (tgt := 472) hx hb dL_law_401 (by decide) (fun h9 => absurd (by rw [dRate, hg]) h9) (fun c_401 => ?_)
      refine lv_aload_n hx hb dL_law_404 rfl (lv_at hl 15 rfl) ?_
      refine wCVd (pre := [QA cR q83 n (RF n r83)] ++ [QA cR q73 n (RF n r73)]) (Wc := XO x0 pa pb ++ (DC cI pa f r ++ DC cI pb f2 r2)) (suf := SC cI cR a ca ga n k f r ++ (CW cI ca n (r 5) ++ (RW cI ga k 3 G ++ (RW cI r73 n n (gRow (dToGo (r 4)) n 0) ++ RW cI r83 n n (gRow (r 5) n 0))))) (As := []) (rest := []) ⟨hx, hb, hml, hown, hts⟩ (mX1_meanUnsaid l D cI x0 pa pb f f2 r r2 n _ hg hn1 (by omega) (by rw [hg]; exact mean_nn _ hn0 hn1)) hN hA hK1 hS hP hD (by simp only [List.append_assoc, List.append_nil, List.nil_append]) 0 (r := (RX1, TX1, 2)) rfl rfl (cwV 0 hts gL_law_X1_meanUnsaid rfl rfl rfl (by decide +kernel) ⟨Nat.le_of_ble_eq_true rfl, Nat.le_of_ble_eq_true rfl⟩) rfl hl.1 rfl (Nat.le_of_ble_eq_true rfl) dL_law_405 ⟨by show ((((c0 + 0) + 17) + 1 + n) + 1 + n) ≤ 1200172; omega, by show ((((s0 + 0) + 175) + n + n * n) + n + n * n) ≤ 5500668; omega⟩ (fun r_405 u_405 H locs hw hP hD hS => ?_)
      have hw : r_405 = FP.ddiv (FP.i2d (dSum (r 3) n)) (FP.i2d (f 0)) := hw
      subst hw
      have hP : va_P D vwCl ([QA cR q83 n (RF n r83)] ++ ([QA cR q73 n (RF n r73)] ++ (XO x0 pa pb ++ (DC cI pa f r ++ (DC cI pb f2 r2 ++ (SC cI cR a ca ga n k f r ++ (CW cI ca n (r 5) ++ (RW cI ga k 3 G ++ (RW cI r73 n n (gRow (dToGo (r 4)) n 0) ++ RW cI r83 n n (gRow (r 5) n 0)))))))))) H := by simpa only [List.append_assoc, List.append_nil, List.nil_append] using hP
      have hD : va_D A ([QA cR q83 n (RF n r83)] ++ ([QA cR q73 n (RF n r73)] ++ (XO x0 pa pb ++ (DC cI pa f r ++ (DC cI pb f2 r2 ++ (SC cI cR a ca ga n k f r ++ (CW cI ca n (r 5) ++ (RW cI ga k 3 G ++ (RW cI r73 n n (gRow (dToGo (r 4)) n 0) ++ RW cI r83 n n (gRow (r 5) n 0)))))))))) := by simpa only [List.append_assoc, List.append_nil, List.nil_append] using hD
      refine wTopd (z := FP.ddiv (FP.i2d (dSum (r 3) n)) (FP.i2d (nI n))) (by rw [hg]) ?_
      refine lv_iload hx hb dL_law_408 (lv_at hl 8 rfl) ?_
      refine lv_i2d hx hb dL_law_410 ?_
      refine lv_iload hx hb dL_law_411 (lv_at hl 10 rfl) ?_
      refine lv_i2d hx hb dL_law_413 ?_
      refine lv_ddiv hx hb dL_law_414 (mean_nn _ hn0 hn1) ?_
      refine lv_dcmp hx hb dL_law_415 ?_
      refine lv_if_ne (tgt := 472) hx hb dL_law_416 (by decide) (fun h9 => absurd (dcmp_self' (mean_nn _ hn0 hn1)) h9) (fun c_416 => ?_)
      refine lv_iload hx hb dL_law_419 (lv_at hl 3 rfl) ?_
      refine lv_if_le (tgt := 428) hx hb dL_law_421 (by decide) (fun c_421 => ?_) (fun c_421 => ?_)
      · refine lv_iconst (v := 0) hx hb dL_law_428 (by decide) ?_
        refine lv_iload hx hb dL_law_429 (lv_at hl 4 rfl) ?_
        refine lv_if_lt (tgt := 438) hx hb dL_law_431 (by decide) (fun c_431 => ?_) (fun h9 => absurd (q_left0 hI c_421) h9)
        refine lv_iconst (v := 0) hx hb dL_law_438 (by decide) ?_
        refine lv_icmp_ne (tgt := 472) hx hb dL_law_439 (by decide) (fun h9 => absurd (by decide) h9) (fun c_439 => ?_)
        have c_439n := (nI_eq (a := 0) (b := 0) (by omega) (by omega)).mp c_439
        exact join442  _ _ _ hP hD hS (lv_sub hl [6, 5, 4, 3, 2, 1, 8, 9, 10, 11, 12, 13, 14, 15, 16] rfl)
      · refine lv_iconst (v := 1) hx hb dL_law_424 (by decide) ?_
        refine lv_goto (tgt := 429) hx hb dL_law_425 (by decide) ?_
        refine lv_iload hx hb dL_law_429 (lv_at hl 4 rfl) ?_
        refine lv_if_lt (tgt := 438) hx hb dL_law_431 (by decide) (fun h9 => absurd h9 (q_left1 hI c_421)) (fun c_431 => ?_)
        refine lv_iconst (v := 1) hx hb dL_law_434 (by decide) ?_
        refine lv_goto (tgt := 439) hx hb dL_law_435 (by decide) ?_
        refine lv_icmp_ne (tgt := 472) hx hb dL_law_439 (by decide) (fun h9 => absurd (by decide) h9) (fun c_439 => ?_)
        have c_439n := (nI_eq (a := 1) (b := 1) (by omega) (by omega)).mp c_439
        exact join442  _ _ _ hP hD hS (lv_sub hl [6, 5, 4, 3, 2, 1, 8, 9, 10, 11, 12, 13, 14, 15, 16] rfl)
    | succ j ih101 =>
      intro i101 hi101 H locs ls hP hD hS hl
      refine lv_iload hx hb dL_law_101 (lv_at hl 0 rfl) ?_
      refine lv_iload hx hb dL_law_103 (lv_at hl 4 rfl) ?_
      refine lv_icmp_ge (tgt := 319) hx hb dL_law_105 (by decide) (fun h9 => absurd h9 (nI_ge (by omega) (by omega))) (fun c_105 => ?_)
      have c_105n := mt (nI_leI (a := n) (b := i101) (by omega) (by omega)).mpr c_105
      refine lv_iload hx hb dL_law_108 (lv_at hl 2 rfl) ?_
      refine lv_aload_n hx hb dL_law_110 rfl (lv_at hl 9 rfl) ?_
      refine lv_iload hx hb dL_law_111 (lv_at hl 0 rfl) ?_
      refine wCVi (pre := [QA cR q83 n (RF n r83)] ++ [QA cR q73 n (RF n r73)]) (Wc := XO x0 pa pb ++ (DC cI pa f r ++ DC cI pb f2 r2)) (suf := SC cI cR a ca ga n k f r ++ (CW cI ca n (r 5) ++ (RW cI ga k 3 G ++ (RW cI r73 n n (gRow (dToGo (r 4)) i101 0) ++ RW cI r83 n n (gRow (r 5) i101 0))))) (As := [.int (nI i101)]) (rest := [.int (dSum (r 3) i101)]) ⟨hx, hb, hml, hown, hts⟩ (mX1_unsaidBy l D cI x0 pa pb f f2 r r2 n i101 _ hg hn1 (by omega) (by omega)) hN hA hK1 hS hP hD (by simp only [List.append_assoc, List.append_nil, List.nil_append]) 0 (r := (RX1, TX1, 2)) rfl rfl (cwV 1 hts gL_law_X1_unsaidBy rfl rfl rfl (by decide +kernel) ⟨Nat.le_of_ble_eq_true rfl, Nat.le_of_ble_eq_true rfl⟩) rfl hl.1 rfl (Nat.le_of_ble_eq_true rfl) dL_law_113 ⟨by show ((((c0 + 0) + 17) + 1 + n) + 1 + n) ≤ 1200172; omega, by show ((((s0 + 0) + 175) + n + n * n) + n + n * n) ≤ 5500668; omega⟩ (fun r_113 u_113 H locs hw hP hD hS => ?_)
      have hw : r_113 = r 3 i101 := hw
      subst hw
      have hP : va_P D vwCl ([QA cR q83 n (RF n r83)] ++ ([QA cR q73 n (RF n r73)] ++ (XO x0 pa pb ++ (DC cI pa f r ++ (DC cI pb f2 r2 ++ (SC cI cR a ca ga n k f r ++ (CW cI ca n (r 5) ++ (RW cI ga k 3 G ++ (RW cI r73 n n (gRow (dToGo (r 4)) i101 0) ++ RW cI r83 n n (gRow (r 5) i101 0)))))))))) H := by simpa only [List.append_assoc, List.append_nil, List.nil_append] using hP
      have hD : va_D A ([QA cR q83 n (RF n r83)] ++ ([QA cR q73 n (RF n r73)] ++ (XO x0 pa pb ++ (DC cI pa f r ++ (DC cI pb f2 r2 ++ (SC cI cR a ca ga n k f r ++ (CW cI ca n (r 5) ++ (RW cI ga k 3 G ++ (RW cI r73 n n (gRow (dToGo (r 4)) i101 0) ++ RW cI r83 n n (gRow (r 5) i101 0)))))))))) := by simpa only [List.append_assoc, List.append_nil, List.nil_append] using hD
      refine lv_iadd hx hb dL_law_116 ?_
      refine wTop (z := dSum (r 3) (i101 + 1)) (rfl) ?_
      refine lv_istore (lv' := [(9, .int (dSum (r 3) (i101 + 1))), (11, .int (nI i101)), (8, .int (acc2 (qW (r 4)) n 0 i101)), (10, .int (acc2 (r 5) n 0 i101)), (5, .int (nI n)), (6, .ref q73), (7, .ref q83), (3, .int (nI t)), (2, .ref (a 0)), (1, .ref x0), (0, .ref sb)]) hx hb dL_law_117 hl (by decide) rfl (fun ls hl => ?_)
      refine lv_iconst (v := 0) hx hb dL_law_119 (by decide) ?_
      refine lv_istore (lv' := [(12, .int 0), (9, .int (dSum (r 3) (i101 + 1))), (11, .int (nI i101)), (8, .int (acc2 (qW (r 4)) n 0 i101)), (10, .int (acc2 (r 5) n 0 i101)), (5, .int (nI n)), (6, .ref q73), (7, .ref q83), (3, .int (nI t)), (2, .ref (a 0)), (1, .ref x0), (0, .ref sb)]) hx hb dL_law_120 hl (by decide) rfl (fun ls hl => ?_)
      have loop122 : ∀ (j i122 : Nat), i122 + j = n → ∀ (H : Heap) (locs : List Loc) (ls : Array Slot), va_P D vwCl ([QA cR q83 n (RF n r83)] ++ ([QA cR q73 n (RF n r73)] ++ (XO x0 pa pb ++ (DC cI pa f r ++ (DC cI pb f2 r2 ++ (SC cI cR a ca ga n k f r ++ (CW cI ca n (r 5) ++ (RW cI ga k 3 G ++ (RW cI r73 n n (gRow (dToGo (r 4)) i101 i122) ++ RW cI r83 n n (gRow (r 5) i101 i122)))))))))) H → va_D A ([QA cR q83 n (RF n r83)] ++ ([QA cR q73 n (RF n r73)] ++ (XO x0 pa pb ++ (DC cI pa f r ++ (DC cI pb f2 r2 ++ (SC cI cR a ca ga n k f r ++ (CW cI ca n (r 5) ++ (RW cI ga k 3 G ++ (RW cI r73 n n (gRow (dToGo (r 4)) i101 i122) ++ RW cI r83 n n (gRow (r 5) i101 i122)))))))))) → va_S A s.heap H locs → lv_has ls 27 [(12, .int (nI i122)), (8, .int (acc1 (qW (r 4)) i101 (acc2 (qW (r 4)) n 0 i101) i122)), (9, .int (dSum (r 3) (i101 + 1))), (10, .int (acc1 (r 5) i101 (acc2 (r 5) n 0 i101) i122)), (11, .int (nI i101)), (5, .int (nI n)), (6, .ref q73), (7, .ref q83), (3, .int (nI t)), (2, .ref (a 0)), (1, .ref x0), (0, .ref sb)] → W p l e room_1 s m args below meth c H locs ((((c0 + 0) + 17) + 1 + n) + 1 + n) ((((s0 + 0) + 175) + n + n * n) + n + n * n) Q (F0 m 122 ls []) := by
        intro j
        induction j with
        | zero =>
          intro i122 hi122 H locs ls hP hD hS hl
          have ez : n = i122 := by omega
          subst ez
          refine lv_iload hx hb dL_law_122 (lv_at hl 0 rfl) ?_
          refine lv_iload hx hb dL_law_124 (lv_at hl 5 rfl) ?_
          refine lv_icmp_ge (tgt := 313) hx hb dL_law_126 (by decide) (fun c_126 => ?_) (fun h9 => absurd (nI_le (Nat.le_refl _) (by omega)) h9)
          have c_126n := (nI_leI (a := n) (b := n) (by omega) (by omega)).mp c_126
          refine lv_iinc (v := nI (i101 + 1)) (lv' := [(11, .int (nI (i101 + 1))), (12, .int (nI n)), (8, .int (acc1 (qW (r 4)) i101 (acc2 (qW (r 4)) n 0 i101) n)), (9, .int (dSum (r 3) (i101 + 1))), (10, .int (acc1 (r 5) i101 (acc2 (r 5) n 0 i101) n)), (5, .int (nI n)), (6, .ref q73), (7, .ref q83), (3, .int (nI t)), (2, .ref (a 0)), (1, .ref x0), (0, .ref sb)]) hx hb dL_law_313 hl (k := 4) rfl (nI_1 i101) (by decide) rfl (fun ls hl => ?_)
          refine lv_goto (tgt := 101) hx hb dL_law_316 (by decide) ?_
          have e9 := RW_cgm (D := D) (cI := cI) (b := r73) (pre := [QA cR q83 n (RF n r83)] ++ ([QA cR q73 n (RF n r73)] ++ (XO x0 pa pb ++ (DC cI pa f r ++ (DC cI pb f2 r2 ++ (SC cI cR a ca ga n k f r ++ (CW cI ca n (r 5) ++ RW cI ga k 3 G))))))) (suf := RW cI r83 n n (gRow (r 5) i101 n)) (gRow_end (F := dToGo (r 4)) (a := i101) (n := n))
          have hP := e9.P (by simpa only [List.append_assoc, List.append_nil, List.nil_append] using hP)
          have hD := e9.D (by simpa only [List.append_assoc, List.append_nil, List.nil_append] using hD)
          have hP : va_P D vwCl ([QA cR q83 n (RF n r83)] ++ ([QA cR q73 n (RF n r73)] ++ (XO x0 pa pb ++ (DC cI pa f r ++ (DC cI pb f2 r2 ++ (SC cI cR a ca ga n k f r ++ (CW cI ca n (r 5) ++ (RW cI ga k 3 G ++ (RW cI r73 n n (gRow (dToGo (r 4)) (i101 + 1) 0) ++ RW cI r83 n n (gRow (r 5) i101 n)))))))))) H := by simpa only [List.append_assoc, List.append_nil, List.nil_append] using hP
          have hD : va_D A ([QA cR q83 n (RF n r83)] ++ ([QA cR q73 n (RF n r73)] ++ (XO x0 pa pb ++ (DC cI pa f r ++ (DC cI pb f2 r2 ++ (SC cI cR a ca ga n k f r ++ (CW cI ca n (r 5) ++ (RW cI ga k 3 G ++ (RW cI r73 n n (gRow (dToGo (r 4)) (i101 + 1) 0) ++ RW cI r83 n n (gRow (r 5) i101 n)))))))))) := by simpa only [List.append_assoc, List.append_nil, List.nil_append] using hD
          have e9 := RW_cgm (D := D) (cI := cI) (b := r83) (pre := [QA cR q83 n (RF n r83)] ++ ([QA cR q73 n (RF n r73)] ++ (XO x0 pa pb ++ (DC cI pa f r ++ (DC cI pb f2 r2 ++ (SC cI cR a ca ga n k f r ++ (CW cI ca n (r 5) ++ (RW cI ga k 3 G ++ RW cI r73 n n (gRow (dToGo (r 4)) (i101 + 1) 0))))))))) (suf := ([] : va_W)) (gRow_end (F := r 5) (a := i101) (n := n))
          have hP := e9.P (by simpa only [List.append_assoc, List.append_nil, List.nil_append] using hP)
          have hD := e9.D (by simpa only [List.append_assoc, List.append_nil, List.nil_append] using hD)
          have hP : va_P D vwCl ([QA cR q83 n (RF n r83)] ++ ([QA cR q73 n (RF n r73)] ++ (XO x0 pa pb ++ (DC cI pa f r ++ (DC cI pb f2 r2 ++ (SC cI cR a ca ga n k f r ++ (CW cI ca n (r 5) ++ (RW cI ga k 3 G ++ (RW cI r73 n n (gRow (dToGo (r 4)) (i101 + 1) 0) ++ RW cI r83 n n (gRow (r 5) (i101 + 1) 0)))))))))) H := by simpa only [List.append_assoc, List.append_nil, List.nil_append] using hP
          have hD : va_D A ([QA cR q83 n (RF n r83)] ++ ([QA cR q73 n (RF n r73)] ++ (XO x0 pa pb ++ (DC cI pa f r ++ (DC cI pb f2 r2 ++ (SC cI cR a ca ga n k f r ++ (CW cI ca n (r 5) ++ (RW cI ga k 3 G ++ (RW cI r73 n n (gRow (dToGo (r 4)) (i101 + 1) 0) ++ RW cI r83 n n (gRow (r 5) (i101 + 1) 0)))))))))) := by simpa only [List.append_assoc, List.append_nil, List.nil_append] using hD
          exact ih101 (i101 + 1) (by omega) _ _ _ hP hD hS (lv_sub hl [0, 2, 3, 4, 5, 6, 7, 8, 9, 10, 11] rfl)
        | succ j ih122 =>
          intro i122 hi122 H locs ls hP hD hS hl
          refine lv_iload hx hb dL_law_122 (lv_at hl 0 rfl) ?_
          refine lv_iload hx hb dL_law_124 (lv_at hl 5 rfl) ?_
          refine lv_icmp_ge (tgt := 313) hx hb dL_law_126 (by decide) (fun h9 => absurd h9 (nI_ge (by omega) (by omega))) (fun c_126 => ?_)
          have c_126n := mt (nI_leI (a := n) (b := i122) (by omega) (by omega)).mpr c_126
          have h5 := sN_le (n := n) hn1 (show i101 < n by omega) (show i122 < n by omega)
          have h5b := sN_le (n := n) hn1 (show i122 < n by omega) (show i101 < n by omega)
          refine lv_aload_n hx hb dL_law_129 rfl (lv_at hl 10 rfl) ?_
          refine lv_iload hx hb dL_law_130 (lv_at hl 4 rfl) ?_
          refine lv_iload hx hb dL_law_132 (lv_at hl 0 rfl) ?_
          refine wCVi (pre := [QA cR q83 n (RF n r83)] ++ [QA cR q73 n (RF n r73)]) (Wc := XO x0 pa pb ++ (DC cI pa f r ++ DC cI pb f2 r2)) (suf := SC cI cR a ca ga n k f r ++ (CW cI ca n (r 5) ++ (RW cI ga k 3 G ++ (RW cI r73 n n (gRow (dToGo (r 4)) i101 i122) ++ RW cI r83 n n (gRow (r 5) i101 i122))))) (As := [.int (nI i101), .int (nI i122)]) (rest := []) ⟨hx, hb, hml, hown, hts⟩ (mX1_seatsApart l D cI x0 pa pb f f2 r r2 n i101 i122 _ hg hn1 (by omega) (by omega) (by omega)) hN hA hK1 hS hP hD (by simp only [List.append_assoc, List.append_nil, List.nil_append]) 0 (r := (RX1, TX1, 2)) rfl rfl (cwV 2 hts gL_law_X1_seatsApart rfl rfl rfl (by decide +kernel) ⟨Nat.le_of_ble_eq_true rfl, Nat.le_of_ble_eq_true rfl⟩) rfl hl.1 rfl (Nat.le_of_ble_eq_true rfl) dL_law_134 ⟨by show ((((c0 + 0) + 17) + 1 + n) + 1 + n) ≤ 1200172; omega, by show ((((s0 + 0) + 175) + n + n * n) + n + n * n) ≤ 5500668; omega⟩ (fun r_134 u_134 H locs hw hP hD hS => ?_)
          have hw : r_134 = dSeats (f 0) (nI i101) (nI i122) := hw
          subst hw
          have hP : va_P D vwCl ([QA cR q83 n (RF n r83)] ++ ([QA cR q73 n (RF n r73)] ++ (XO x0 pa pb ++ (DC cI pa f r ++ (DC cI pb f2 r2 ++ (SC cI cR a ca ga n k f r ++ (CW cI ca n (r 5) ++ (RW cI ga k 3 G ++ (RW cI r73 n n (gRow (dToGo (r 4)) i101 i122) ++ RW cI r83 n n (gRow (r 5) i101 i122)))))))))) H := by simpa only [List.append_assoc, List.append_nil, List.nil_append] using hP
          have hD : va_D A ([QA cR q83 n (RF n r83)] ++ ([QA cR q73 n (RF n r73)] ++ (XO x0 pa pb ++ (DC cI pa f r ++ (DC cI pb f2 r2 ++ (SC cI cR a ca ga n k f r ++ (CW cI ca n (r 5) ++ (RW cI ga k 3 G ++ (RW cI r73 n n (gRow (dToGo (r 4)) i101 i122) ++ RW cI r83 n n (gRow (r 5) i101 i122)))))))))) := by simpa only [List.append_assoc, List.append_nil, List.nil_append] using hD
          refine wTop (z := nI (sN n i101 i122)) (by rw [hg]; exact sN_eq hn1 (by omega) (by omega)) ?_
          refine lv_istore (lv' := [(13, .int (nI (sN n i101 i122))), (12, .int (nI i122)), (8, .int (acc1 (qW (r 4)) i101 (acc2 (qW (r 4)) n 0 i101) i122)), (9, .int (dSum (r 3) (i101 + 1))), (10, .int (acc1 (r 5) i101 (acc2 (r 5) n 0 i101) i122)), (11, .int (nI i101)), (5, .int (nI n)), (6, .ref q73), (7, .ref q83), (3, .int (nI t)), (2, .ref (a 0)), (1, .ref x0), (0, .ref sb)]) hx hb dL_law_137 hl (by decide) rfl (fun ls hl => ?_)
          refine lv_aload hx hb dL_law_139 (lv_at hl 7 rfl) ?_
          refine lv_iload hx hb dL_law_141 (lv_at hl 5 rfl) ?_
          refine wAald hx hb hK hP 1 1 rfl rfl i101 rfl (by omega) (by omega) (RF_in (by omega)) dL_law_143 ?_
          refine lv_iload hx hb dL_law_144 (lv_at hl 1 rfl) ?_
          refine lv_aload_n hx hb dL_law_146 rfl (lv_at hl 11 rfl) ?_
          refine lv_iload hx hb dL_law_147 (lv_at hl 5 rfl) ?_
          refine lv_iload hx hb dL_law_149 (lv_at hl 1 rfl) ?_
          refine wCVi (pre := [QA cR q83 n (RF n r83)] ++ [QA cR q73 n (RF n r73)]) (Wc := XO x0 pa pb ++ (DC cI pa f r ++ DC cI pb f2 r2)) (suf := SC cI cR a ca ga n k f r ++ (CW cI ca n (r 5) ++ (RW cI ga k 3 G ++ (RW cI r73 n n (gRow (dToGo (r 4)) i101 i122) ++ RW cI r83 n n (gRow (r 5) i101 i122))))) (As := [.int (nI i101), .int (nI i122)]) (rest := [.int (nI i122), .ref (r73 i101)]) ⟨hx, hb, hml, hown, hts⟩ (mX1_secondsToGo l D cI x0 pa pb f f2 r r2 n i101 i122 _ hg hn1 (by omega) (by omega) (by omega)) hN hA hK1 hS hP hD (by simp only [List.append_assoc, List.append_nil, List.nil_append]) 0 (r := (RX1, TX1, 2)) rfl rfl (cwV 2 hts gL_law_X1_secondsToGo rfl rfl rfl (by decide +kernel) ⟨Nat.le_of_ble_eq_true rfl, Nat.le_of_ble_eq_true rfl⟩) rfl hl.1 rfl (Nat.le_of_ble_eq_true rfl) dL_law_151 ⟨by show ((((c0 + 0) + 17) + 1 + n) + 1 + n) ≤ 1200172; omega, by show ((((s0 + 0) + 175) + n + n * n) + n + n * n) ≤ 5500668; omega⟩ (fun r_151 u_151 H locs hw hP hD hS => ?_)
          have hw : r_151 = dToGo (r 4) (i101 * 10 + i122) := hw
          subst hw
          have hP : va_P D vwCl ([QA cR q83 n (RF n r83)] ++ ([QA cR q73 n (RF n r73)] ++ (XO x0 pa pb ++ (DC cI pa f r ++ (DC cI pb f2 r2 ++ (SC cI cR a ca ga n k f r ++ (CW cI ca n (r 5) ++ (RW cI ga k 3 G ++ (RW cI r73 n n (gRow (dToGo (r 4)) i101 i122) ++ RW cI r83 n n (gRow (r 5) i101 i122)))))))))) H := by simpa only [List.append_assoc, List.append_nil, List.nil_append] using hP
          have hD : va_D A ([QA cR q83 n (RF n r83)] ++ ([QA cR q73 n (RF n r73)] ++ (XO x0 pa pb ++ (DC cI pa f r ++ (DC cI pb f2 r2 ++ (SC cI cR a ca ga n k f r ++ (CW cI ca n (r 5) ++ (RW cI ga k 3 G ++ (RW cI r73 n n (gRow (dToGo (r 4)) i101 i122) ++ RW cI r83 n n (gRow (r 5) i101 i122)))))))))) := by simpa only [List.append_assoc, List.append_nil, List.nil_append] using hD
          refine wIastR (pre := [QA cR q83 n (RF n r83)] ++ ([QA cR q73 n (RF n r73)] ++ (XO x0 pa pb ++ (DC cI pa f r ++ (DC cI pb f2 r2 ++ (SC cI cR a ca ga n k f r ++ (CW cI ca n (r 5) ++ RW cI ga k 3 G))))))) (suf := RW cI r83 n n (gRow (r 5) i101 i122)) (bb := r73) (N := n) (len := n) (v := gRow (dToGo (r 4)) i101 i122) (W1 := [QA cR q83 n (RF n r83)] ++ ([QA cR q73 n (RF n r73)] ++ (XO x0 pa pb ++ (DC cI pa f r ++ (DC cI pb f2 r2 ++ (SC cI cR a ca ga n k f r ++ (CW cI ca n (r 5) ++ (RW cI ga k 3 G ++ (RW cI r73 n n (gUp (gRow (dToGo (r 4)) i101 i122) i101 i122 (dToGo (r 4) (i101 * 10 + i122))) ++ RW cI r83 n n (gRow (r 5) i101 i122)))))))))) hx hb hK hP hD hS 0 (by simp only [List.append_assoc, List.append_nil, List.nil_append]) rfl i101 (by omega) i122 rfl (by omega) (by omega) (by simp only [List.append_assoc, List.append_nil, List.nil_append]) dL_law_154 (fun H locs hP hD hS => ?_)
          have eg : gUp (gRow (dToGo (r 4)) i101 i122) i101 i122 (dToGo (r 4) (i101 * 10 + i122)) = gRow (dToGo (r 4)) i101 (i122 + 1) := gRow_up
          rw [eg] at hP hD
          refine lv_aload hx hb dL_law_155 (lv_at hl 8 rfl) ?_
          refine lv_iload hx hb dL_law_157 (lv_at hl 5 rfl) ?_
          refine wAald hx hb hK hP 0 1 rfl rfl i101 rfl (by omega) (by omega) (RF_in (by omega)) dL_law_159 ?_
          refine lv_iload hx hb dL_law_160 (lv_at hl 1 rfl) ?_
          refine lv_aload_n hx hb dL_law_162 rfl (lv_at hl 11 rfl) ?_
          refine lv_iload hx hb dL_law_163 (lv_at hl 5 rfl) ?_
          refine lv_iload hx hb dL_law_165 (lv_at hl 1 rfl) ?_
          refine wCVi (pre := [QA cR q83 n (RF n r83)] ++ [QA cR q73 n (RF n r73)]) (Wc := XO x0 pa pb ++ (DC cI pa f r ++ DC cI pb f2 r2)) (suf := SC cI cR a ca ga n k f r ++ (CW cI ca n (r 5) ++ (RW cI ga k 3 G ++ (RW cI r73 n n (gRow (dToGo (r 4)) i101 (i122 + 1)) ++ RW cI r83 n n (gRow (r 5) i101 i122))))) (As := [.int (nI i101), .int (nI i122)]) (rest := [.int (nI i122), .ref (r83 i101)]) ⟨hx, hb, hml, hown, hts⟩ (mX1_caughtBy l D cI x0 pa pb f f2 r r2 n i101 i122 _ hg hn1 (by omega) (by omega) (by omega)) hN hA hK1 hS hP hD (by simp only [List.append_assoc, List.append_nil, List.nil_append]) 0 (r := (RX1, TX1, 2)) rfl rfl (cwV 2 hts gL_law_X1_caughtBy rfl rfl rfl (by decide +kernel) ⟨Nat.le_of_ble_eq_true rfl, Nat.le_of_ble_eq_true rfl⟩) rfl hl.1 rfl (Nat.le_of_ble_eq_true rfl) dL_law_167 ⟨by show ((((c0 + 0) + 17) + 1 + n) + 1 + n) ≤ 1200172; omega, by show ((((s0 + 0) + 175) + n + n * n) + n + n * n) ≤ 5500668; omega⟩ (fun r_167 u_167 H locs hw hP hD hS => ?_)
          have hw : r_167 = r 5 (i101 * 10 + i122) := hw
          subst hw
          have hP : va_P D vwCl ([QA cR q83 n (RF n r83)] ++ ([QA cR q73 n (RF n r73)] ++ (XO x0 pa pb ++ (DC cI pa f r ++ (DC cI pb f2 r2 ++ (SC cI cR a ca ga n k f r ++ (CW cI ca n (r 5) ++ (RW cI ga k 3 G ++ (RW cI r73 n n (gRow (dToGo (r 4)) i101 (i122 + 1)) ++ RW cI r83 n n (gRow (r 5) i101 i122)))))))))) H := by simpa only [List.append_assoc, List.append_nil, List.nil_append] using hP
          have hD : va_D A ([QA cR q83 n (RF n r83)] ++ ([QA cR q73 n (RF n r73)] ++ (XO x0 pa pb ++ (DC cI pa f r ++ (DC cI pb f2 r2 ++ (SC cI cR a ca ga n k f r ++ (CW cI ca n (r 5) ++ (RW cI ga k 3 G ++ (RW cI r73 n n (gRow (dToGo (r 4)) i101 (i122 + 1)) ++ RW cI r83 n n (gRow (r 5) i101 i122)))))))))) := by simpa only [List.append_assoc, List.append_nil, List.nil_append] using hD
          refine wIastR (pre := [QA cR q83 n (RF n r83)] ++ ([QA cR q73 n (RF n r73)] ++ (XO x0 pa pb ++ (DC cI pa f r ++ (DC cI pb f2 r2 ++ (SC cI cR a ca ga n k f r ++ (CW cI ca n (r 5) ++ (RW cI ga k 3 G ++ RW cI r73 n n (gRow (dToGo (r 4)) i101 (i122 + 1)))))))))) (suf := ([] : va_W)) (bb := r83) (N := n) (len := n) (v := gRow (r 5) i101 i122) (W1 := [QA cR q83 n (RF n r83)] ++ ([QA cR q73 n (RF n r73)] ++ (XO x0 pa pb ++ (DC cI pa f r ++ (DC cI pb f2 r2 ++ (SC cI cR a ca ga n k f r ++ (CW cI ca n (r 5) ++ (RW cI ga k 3 G ++ (RW cI r73 n n (gRow (dToGo (r 4)) i101 (i122 + 1)) ++ RW cI r83 n n (gUp (gRow (r 5) i101 i122) i101 i122 (r 5 (i101 * 10 + i122)))))))))))) hx hb hK hP hD hS 0 (by simp only [List.append_assoc, List.append_nil, List.nil_append]) rfl i101 (by omega) i122 rfl (by omega) (by omega) (by simp only [List.append_assoc, List.append_nil, List.nil_append]) dL_law_170 (fun H locs hP hD hS => ?_)
          have eg : gUp (gRow (r 5) i101 i122) i101 i122 (r 5 (i101 * 10 + i122)) = gRow (r 5) i101 (i122 + 1) := gRow_up
          rw [eg] at hP hD
          refine lv_iload hx hb dL_law_171 (lv_at hl 4 rfl) ?_
          refine lv_aload hx hb dL_law_173 (lv_at hl 8 rfl) ?_
          refine lv_iload hx hb dL_law_175 (lv_at hl 5 rfl) ?_
          refine wAald hx hb hK hP 0 1 rfl rfl i101 rfl (by omega) (by omega) (RF_in (by omega)) dL_law_177 ?_
          refine lv_iload hx hb dL_law_178 (lv_at hl 1 rfl) ?_
          refine wIaldR (pre := [QA cR q83 n (RF n r83)] ++ ([QA cR q73 n (RF n r73)] ++ (XO x0 pa pb ++ (DC cI pa f r ++ (DC cI pb f2 r2 ++ (SC cI cR a ca ga n k f r ++ (CW cI ca n (r 5) ++ (RW cI ga k 3 G ++ RW cI r73 n n (gRow (dToGo (r 4)) i101 (i122 + 1)))))))))) (suf := ([] : va_W)) (bb := r83) (N := n) (len := n) (v := gRow (r 5) i101 (i122 + 1)) hx hb hK hP 0 (by simp only [List.append_assoc, List.append_nil, List.nil_append]) rfl i101 (by omega) i122 rfl (by omega) (by omega) dL_law_180 ?_
          refine wTop (z := r 5 (i101 * 10 + i122)) (gRow_in (Or.inr ⟨rfl, Nat.lt_succ_self _⟩)) ?_
          refine lv_iadd hx hb dL_law_181 ?_
          refine wTop (z := acc1 (r 5) i101 (acc2 (r 5) n 0 i101) (i122 + 1)) (rfl) ?_
          refine lv_istore (lv' := [(10, .int (acc1 (r 5) i101 (acc2 (r 5) n 0 i101) (i122 + 1))), (13, .int (nI (sN n i101 i122))), (12, .int (nI i122)), (8, .int (acc1 (qW (r 4)) i101 (acc2 (qW (r 4)) n 0 i101) i122)), (9, .int (dSum (r 3) (i101 + 1))), (11, .int (nI i101)), (5, .int (nI n)), (6, .ref q73), (7, .ref q83), (3, .int (nI t)), (2, .ref (a 0)), (1, .ref x0), (0, .ref sb)]) hx hb dL_law_182 hl (by decide) rfl (fun ls hl => ?_)
          refine lv_iload hx hb dL_law_184 (lv_at hl 3 rfl) ?_
          refine lv_aload hx hb dL_law_186 (lv_at hl 7 rfl) ?_
          refine lv_iload hx hb dL_law_188 (lv_at hl 5 rfl) ?_
          refine wAald hx hb hK hP 1 1 rfl rfl i101 rfl (by omega) (by omega) (RF_in (by omega)) dL_law_190 ?_
          refine lv_iload hx hb dL_law_191 (lv_at hl 2 rfl) ?_
          refine wIaldR (pre := [QA cR q83 n (RF n r83)] ++ ([QA cR q73 n (RF n r73)] ++ (XO x0 pa pb ++ (DC cI pa f r ++ (DC cI pb f2 r2 ++ (SC cI cR a ca ga n k f r ++ (CW cI ca n (r 5) ++ RW cI ga k 3 G))))))) (suf := RW cI r83 n n (gRow (r 5) i101 (i122 + 1))) (bb := r73) (N := n) (len := n) (v := gRow (dToGo (r 4)) i101 (i122 + 1)) hx hb hK hP 0 (by simp only [List.append_assoc, List.append_nil, List.nil_append]) rfl i101 (by omega) i122 rfl (by omega) (by omega) dL_law_193 ?_
          refine wTop (z := dToGo (r 4) (i101 * 10 + i122)) (gRow_in (Or.inr ⟨rfl, Nat.lt_succ_self _⟩)) ?_
          refine lv_if_le (tgt := 201) hx hb dL_law_194 (by decide) (fun c_194 => ?_) (fun c_194 => ?_)
          · refine lv_iconst (v := 0) hx hb dL_law_201 (by decide) ?_
            refine lv_iadd hx hb dL_law_202 ?_
            refine wTop (z := acc1 (qW (r 4)) i101 (acc2 (qW (r 4)) n 0 i101) (i122 + 1)) (by rw [acc1, qW_0 c_194]) ?_
            refine lv_istore (lv' := [(8, .int (acc1 (qW (r 4)) i101 (acc2 (qW (r 4)) n 0 i101) (i122 + 1))), (10, .int (acc1 (r 5) i101 (acc2 (r 5) n 0 i101) (i122 + 1))), (13, .int (nI (sN n i101 i122))), (12, .int (nI i122)), (9, .int (dSum (r 3) (i101 + 1))), (11, .int (nI i101)), (5, .int (nI n)), (6, .ref q73), (7, .ref q83), (3, .int (nI t)), (2, .ref (a 0)), (1, .ref x0), (0, .ref sb)]) hx hb dL_law_203 hl (by decide) rfl (fun ls hl => ?_)
            refine lv_iload hx hb dL_law_205 (lv_at hl 2 rfl) ?_
            refine lv_aload_n hx hb dL_law_207 rfl (lv_at hl 11 rfl) ?_
            refine lv_iload hx hb dL_law_208 (lv_at hl 3 rfl) ?_
            refine lv_iload hx hb dL_law_210 (lv_at hl 5 rfl) ?_
            refine wCVi (pre := [QA cR q83 n (RF n r83)] ++ [QA cR q73 n (RF n r73)]) (Wc := XO x0 pa pb ++ (DC cI pa f r ++ DC cI pb f2 r2)) (suf := SC cI cR a ca ga n k f r ++ (CW cI ca n (r 5) ++ (RW cI ga k 3 G ++ (RW cI r73 n n (gRow (dToGo (r 4)) i101 (i122 + 1)) ++ RW cI r83 n n (gRow (r 5) i101 (i122 + 1)))))) (As := [.int (nI i122), .int (nI i101)]) (rest := [.int (nI (sN n i101 i122))]) ⟨hx, hb, hml, hown, hts⟩ (mX1_seatsApart l D cI x0 pa pb f f2 r r2 n i122 i101 _ hg hn1 (by omega) (by omega) (by omega)) hN hA hK1 hS hP hD (by simp only [List.append_assoc, List.append_nil, List.nil_append]) 0 (r := (RX1, TX1, 2)) rfl rfl (cwV 2 hts gL_law_X1_seatsApart rfl rfl rfl (by decide +kernel) ⟨Nat.le_of_ble_eq_true rfl, Nat.le_of_ble_eq_true rfl⟩) rfl hl.1 rfl (Nat.le_of_ble_eq_true rfl) dL_law_212 ⟨by show ((((c0 + 0) + 17) + 1 + n) + 1 + n) ≤ 1200172; omega, by show ((((s0 + 0) + 175) + n + n * n) + n + n * n) ≤ 5500668; omega⟩ (fun r_212 u_212 H locs hw hP hD hS => ?_)
            have hw : r_212 = dSeats (f 0) (nI i122) (nI i101) := hw
            subst hw
            have hP : va_P D vwCl ([QA cR q83 n (RF n r83)] ++ ([QA cR q73 n (RF n r73)] ++ (XO x0 pa pb ++ (DC cI pa f r ++ (DC cI pb f2 r2 ++ (SC cI cR a ca ga n k f r ++ (CW cI ca n (r 5) ++ (RW cI ga k 3 G ++ (RW cI r73 n n (gRow (dToGo (r 4)) i101 (i122 + 1)) ++ RW cI r83 n n (gRow (r 5) i101 (i122 + 1))))))))))) H := by simpa only [List.append_assoc, List.append_nil, List.nil_append] using hP
            have hD : va_D A ([QA cR q83 n (RF n r83)] ++ ([QA cR q73 n (RF n r73)] ++ (XO x0 pa pb ++ (DC cI pa f r ++ (DC cI pb f2 r2 ++ (SC cI cR a ca ga n k f r ++ (CW cI ca n (r 5) ++ (RW cI ga k 3 G ++ (RW cI r73 n n (gRow (dToGo (r 4)) i101 (i122 + 1)) ++ RW cI r83 n n (gRow (r 5) i101 (i122 + 1))))))))))) := by simpa only [List.append_assoc, List.append_nil, List.nil_append] using hD
            refine wTop (z := nI (sN n i122 i101)) (by rw [hg]; exact sN_eq hn1 (by omega) (by omega)) ?_
            refine lv_icmp_ne (tgt := 305) hx hb dL_law_215 (by decide) (fun h9 => absurd (congrArg nI (sN_sym n i101 i122)) h9) (fun c_215 => ?_)
            have c_215n := (nI_eq (a := (sN n i101 i122)) (b := (sN n i122 i101)) (by omega) (by omega)).mp c_215
            refine lv_iload hx hb dL_law_218 (lv_at hl 2 rfl) ?_
            refine lv_iload hx hb dL_law_220 (lv_at hl 6 rfl) ?_
            refine lv_iconst (v := 2) hx hb dL_law_222 (by decide) ?_
            refine lv_idiv hx hb dL_law_223 (by decide) ?_
            refine wTop (z := nI (n / 2)) (pk_div (a := n) (d := 2) (by omega) (by decide) (by decide)) ?_
            refine lv_icmp_gt (tgt := 305) hx hb dL_law_224 (by decide) (fun h9 => absurd h9 (nI_nlt (sN_half (by omega) (by omega)) (by omega))) (fun c_224 => ?_)
            have c_224n := mt (nI_ltI (a := (n / 2)) (b := (sN n i101 i122)) (by omega) (by omega)).mpr c_224
            refine lv_iload hx hb dL_law_227 (lv_at hl 2 rfl) ?_
            refine lv_if_ne (tgt := 236) hx hb dL_law_229 (by decide) (fun c_229 => ?_) (fun c_229 => ?_)
            · refine lv_iconst (v := 0) hx hb dL_law_236 (by decide) ?_
              refine lv_iload hx hb dL_law_237 (lv_at hl 5 rfl) ?_
              refine lv_iload hx hb dL_law_239 (lv_at hl 3 rfl) ?_
              refine lv_icmp_ne (tgt := 248) hx hb dL_law_241 (by decide) (fun c_241 => ?_) (fun h9 => absurd h9 (fun e => c_229 ((sN_zero hn1 (by omega) (by omega)).mpr e)))
              have c_241n := mt (nI_eq (a := i101) (b := i122) (by omega) (by omega)).mpr c_241
              refine lv_iconst (v := 0) hx hb dL_law_248 (by decide) ?_
              refine lv_icmp_ne (tgt := 305) hx hb dL_law_249 (by decide) (fun h9 => absurd (by decide) h9) (fun c_249 => ?_)
              have c_249n := (nI_eq (a := 0) (b := 0) (by omega) (by omega)).mp c_249
              refine lv_aload hx hb dL_law_252 (lv_at hl 7 rfl) ?_
              refine lv_iload hx hb dL_law_254 (lv_at hl 5 rfl) ?_
              refine wAald hx hb hK hP 1 1 rfl rfl i101 rfl (by omega) (by omega) (RF_in (by omega)) dL_law_256 ?_
              refine lv_iload hx hb dL_law_257 (lv_at hl 3 rfl) ?_
              refine wIaldR (pre := [QA cR q83 n (RF n r83)] ++ ([QA cR q73 n (RF n r73)] ++ (XO x0 pa pb ++ (DC cI pa f r ++ (DC cI pb f2 r2 ++ (SC cI cR a ca ga n k f r ++ (CW cI ca n (r 5) ++ RW cI ga k 3 G))))))) (suf := RW cI r83 n n (gRow (r 5) i101 (i122 + 1))) (bb := r73) (N := n) (len := n) (v := gRow (dToGo (r 4)) i101 (i122 + 1)) hx hb hK hP 0 (by simp only [List.append_assoc, List.append_nil, List.nil_append]) rfl i101 (by omega) i122 rfl (by omega) (by omega) dL_law_259 ?_
              refine wTop (z := dToGo (r 4) (i101 * 10 + i122)) (gRow_in (Or.inr ⟨rfl, Nat.lt_succ_self _⟩)) ?_
              refine lv_iconst (v := 2) hx hb dL_law_260 (by decide) ?_
              refine lv_iload hx hb dL_law_261 (lv_at hl 2 rfl) ?_
              refine lv_imul hx hb dL_law_263 ?_
              refine wTop (z := nI (2 * (sN n i101 i122))) (pk_mul 2 (sN n i101 i122)) ?_
              refine lv_icmp_gt (tgt := 305) hx hb dL_law_264 (by decide) (fun h9 => absurd h9 (q_far hI (by omega) (by omega))) (fun c_264 => ?_)
              refine lv_aload_n hx hb dL_law_267 rfl (lv_at hl 11 rfl) ?_
              refine lv_iload hx hb dL_law_268 (lv_at hl 5 rfl) ?_
              refine lv_iload hx hb dL_law_270 (lv_at hl 3 rfl) ?_
              refine wCVi (pre := [QA cR q83 n (RF n r83)] ++ [QA cR q73 n (RF n r73)]) (Wc := XO x0 pa pb ++ (DC cI pa f r ++ DC cI pb f2 r2)) (suf := SC cI cR a ca ga n k f r ++ (CW cI ca n (r 5) ++ (RW cI ga k 3 G ++ (RW cI r73 n n (gRow (dToGo (r 4)) i101 (i122 + 1)) ++ RW cI r83 n n (gRow (r 5) i101 (i122 + 1)))))) (As := [.int (nI i101), .int (nI i122)]) (rest := []) ⟨hx, hb, hml, hown, hts⟩ (mX1_isUnderWay l D cI x0 pa pb f f2 r r2 n i101 i122 _ hg hn1 (by omega) (by omega) (by omega)) hN hA hK1 hS hP hD (by simp only [List.append_assoc, List.append_nil, List.nil_append]) 0 (r := (RX1, TX1, 2)) rfl rfl (cwV 2 hts gL_law_X1_isUnderWay rfl rfl rfl (by decide +kernel) ⟨Nat.le_of_ble_eq_true rfl, Nat.le_of_ble_eq_true rfl⟩) rfl hl.1 rfl (Nat.le_of_ble_eq_true rfl) dL_law_272 ⟨by show ((((c0 + 0) + 17) + 1 + n) + 1 + n) ≤ 1200172; omega, by show ((((s0 + 0) + 175) + n + n * n) + n + n * n) ≤ 5500668; omega⟩ (fun r_272 u_272 H locs hw hP hD hS => ?_)
              have hw : r_272 = if r 4 (i101 * 10 + i122) = -1 then 0 else 1 := hw
              subst hw
              have hP : va_P D vwCl ([QA cR q83 n (RF n r83)] ++ ([QA cR q73 n (RF n r73)] ++ (XO x0 pa pb ++ (DC cI pa f r ++ (DC cI pb f2 r2 ++ (SC cI cR a ca ga n k f r ++ (CW cI ca n (r 5) ++ (RW cI ga k 3 G ++ (RW cI r73 n n (gRow (dToGo (r 4)) i101 (i122 + 1)) ++ RW cI r83 n n (gRow (r 5) i101 (i122 + 1))))))))))) H := by simpa only [List.append_assoc, List.append_nil, List.nil_append] using hP
              have hD : va_D A ([QA cR q83 n (RF n r83)] ++ ([QA cR q73 n (RF n r73)] ++ (XO x0 pa pb ++ (DC cI pa f r ++ (DC cI pb f2 r2 ++ (SC cI cR a ca ga n k f r ++ (CW cI ca n (r 5) ++ (RW cI ga k 3 G ++ (RW cI r73 n n (gRow (dToGo (r 4)) i101 (i122 + 1)) ++ RW cI r83 n n (gRow (r 5) i101 (i122 + 1))))))))))) := by simpa only [List.append_assoc, List.append_nil, List.nil_append] using hD
              refine lv_aload hx hb dL_law_275 (lv_at hl 7 rfl) ?_
              refine lv_iload hx hb dL_law_277 (lv_at hl 5 rfl) ?_
              refine wAald hx hb hK hP 1 1 rfl rfl i101 rfl (by omega) (by omega) (RF_in (by omega)) dL_law_279 ?_
              refine lv_iload hx hb dL_law_280 (lv_at hl 3 rfl) ?_
              refine wIaldR (pre := [QA cR q83 n (RF n r83)] ++ ([QA cR q73 n (RF n r73)] ++ (XO x0 pa pb ++ (DC cI pa f r ++ (DC cI pb f2 r2 ++ (SC cI cR a ca ga n k f r ++ (CW cI ca n (r 5) ++ RW cI ga k 3 G))))))) (suf := RW cI r83 n n (gRow (r 5) i101 (i122 + 1))) (bb := r73) (N := n) (len := n) (v := gRow (dToGo (r 4)) i101 (i122 + 1)) hx hb hK hP 0 (by simp only [List.append_assoc, List.append_nil, List.nil_append]) rfl i101 (by omega) i122 rfl (by omega) (by omega) dL_law_282 ?_
              refine wTop (z := dToGo (r 4) (i101 * 10 + i122)) (gRow_in (Or.inr ⟨rfl, Nat.lt_succ_self _⟩)) ?_
              refine lv_if_le (tgt := 290) hx hb dL_law_283 (by decide) (fun c_283 => ?_) (fun c_283 => ?_)
              · refine lv_iconst (v := 0) hx hb dL_law_290 (by decide) ?_
                refine lv_icmp_ne (tgt := 305) hx hb dL_law_291 (by decide) (fun h9 => absurd (if_pos (q_under0 hI (by omega) c_283)) h9) (fun c_291 => ?_)
                refine lv_aload hx hb dL_law_294 (lv_at hl 8 rfl) ?_
                refine lv_iload hx hb dL_law_296 (lv_at hl 5 rfl) ?_
                refine wAald hx hb hK hP 0 1 rfl rfl i101 rfl (by omega) (by omega) (RF_in (by omega)) dL_law_298 ?_
                refine lv_iload hx hb dL_law_299 (lv_at hl 5 rfl) ?_
                refine wIaldR (pre := [QA cR q83 n (RF n r83)] ++ ([QA cR q73 n (RF n r73)] ++ (XO x0 pa pb ++ (DC cI pa f r ++ (DC cI pb f2 r2 ++ (SC cI cR a ca ga n k f r ++ (CW cI ca n (r 5) ++ (RW cI ga k 3 G ++ RW cI r73 n n (gRow (dToGo (r 4)) i101 (i122 + 1)))))))))) (suf := ([] : va_W)) (bb := r83) (N := n) (len := n) (v := gRow (r 5) i101 (i122 + 1)) hx hb hK hP 0 (by simp only [List.append_assoc, List.append_nil, List.nil_append]) rfl i101 (by omega) i101 rfl (by omega) (by omega) dL_law_301 ?_
                refine wTop (z := 0) (gRow_diag hI.2.2.2.2.2.2.2.1 (by omega)) ?_
                refine lv_if_le (tgt := 307) hx hb dL_law_302 (by decide) (fun c_302 => ?_) (fun h9 => absurd (by decide) h9)
                refine lv_iinc (v := nI (i122 + 1)) (lv' := [(12, .int (nI (i122 + 1))), (8, .int (acc1 (qW (r 4)) i101 (acc2 (qW (r 4)) n 0 i101) (i122 + 1))), (10, .int (acc1 (r 5) i101 (acc2 (r 5) n 0 i101) (i122 + 1))), (13, .int (nI (sN n i101 i122))), (9, .int (dSum (r 3) (i101 + 1))), (11, .int (nI i101)), (5, .int (nI n)), (6, .ref q73), (7, .ref q83), (3, .int (nI t)), (2, .ref (a 0)), (1, .ref x0), (0, .ref sb)]) hx hb dL_law_307 hl (k := 3) rfl (nI_1 i122) (by decide) rfl (fun ls hl => ?_)
                refine lv_goto (tgt := 122) hx hb dL_law_310 (by decide) ?_
                exact ih122 (i122 + 1) (by omega) _ _ _ hP hD hS (lv_sub hl [0, 1, 4, 2, 5, 6, 7, 8, 9, 10, 11, 12] rfl)
              · refine lv_iconst (v := 1) hx hb dL_law_286 (by decide) ?_
                refine lv_goto (tgt := 291) hx hb dL_law_287 (by decide) ?_
                refine lv_icmp_ne (tgt := 305) hx hb dL_law_291 (by decide) (fun h9 => absurd (if_neg (q_under1 hI (by omega) c_283)) h9) (fun c_291 => ?_)
                refine lv_aload hx hb dL_law_294 (lv_at hl 8 rfl) ?_
                refine lv_iload hx hb dL_law_296 (lv_at hl 5 rfl) ?_
                refine wAald hx hb hK hP 0 1 rfl rfl i101 rfl (by omega) (by omega) (RF_in (by omega)) dL_law_298 ?_
                refine lv_iload hx hb dL_law_299 (lv_at hl 5 rfl) ?_
                refine wIaldR (pre := [QA cR q83 n (RF n r83)] ++ ([QA cR q73 n (RF n r73)] ++ (XO x0 pa pb ++ (DC cI pa f r ++ (DC cI pb f2 r2 ++ (SC cI cR a ca ga n k f r ++ (CW cI ca n (r 5) ++ (RW cI ga k 3 G ++ RW cI r73 n n (gRow (dToGo (r 4)) i101 (i122 + 1)))))))))) (suf := ([] : va_W)) (bb := r83) (N := n) (len := n) (v := gRow (r 5) i101 (i122 + 1)) hx hb hK hP 0 (by simp only [List.append_assoc, List.append_nil, List.nil_append]) rfl i101 (by omega) i101 rfl (by omega) (by omega) dL_law_301 ?_
                refine wTop (z := 0) (gRow_diag hI.2.2.2.2.2.2.2.1 (by omega)) ?_
                refine lv_if_le (tgt := 307) hx hb dL_law_302 (by decide) (fun c_302 => ?_) (fun h9 => absurd (by decide) h9)
                refine lv_iinc (v := nI (i122 + 1)) (lv' := [(12, .int (nI (i122 + 1))), (8, .int (acc1 (qW (r 4)) i101 (acc2 (qW (r 4)) n 0 i101) (i122 + 1))), (10, .int (acc1 (r 5) i101 (acc2 (r 5) n 0 i101) (i122 + 1))), (13, .int (nI (sN n i101 i122))), (9, .int (dSum (r 3) (i101 + 1))), (11, .int (nI i101)), (5, .int (nI n)), (6, .ref q73), (7, .ref q83), (3, .int (nI t)), (2, .ref (a 0)), (1, .ref x0), (0, .ref sb)]) hx hb dL_law_307 hl (k := 3) rfl (nI_1 i122) (by decide) rfl (fun ls hl => ?_)
                refine lv_goto (tgt := 122) hx hb dL_law_310 (by decide) ?_
                exact ih122 (i122 + 1) (by omega) _ _ _ hP hD hS (lv_sub hl [0, 1, 4, 2, 5, 6, 7, 8, 9, 10, 11, 12] rfl)
            · refine lv_iconst (v := 1) hx hb dL_law_232 (by decide) ?_
              refine lv_goto (tgt := 237) hx hb dL_law_233 (by decide) ?_
              refine lv_iload hx hb dL_law_237 (lv_at hl 5 rfl) ?_
              refine lv_iload hx hb dL_law_239 (lv_at hl 3 rfl) ?_
              refine lv_icmp_ne (tgt := 248) hx hb dL_law_241 (by decide) (fun h9 => absurd ((sN_zero hn1 (by omega) (by omega)).mp c_229) h9) (fun c_241 => ?_)
              have c_241n := (nI_eq (a := i101) (b := i122) (by omega) (by omega)).mp c_241
              refine lv_iconst (v := 1) hx hb dL_law_244 (by decide) ?_
              refine lv_goto (tgt := 249) hx hb dL_law_245 (by decide) ?_
              refine lv_icmp_ne (tgt := 305) hx hb dL_law_249 (by decide) (fun h9 => absurd (by decide) h9) (fun c_249 => ?_)
              have c_249n := (nI_eq (a := 1) (b := 1) (by omega) (by omega)).mp c_249
              refine lv_aload hx hb dL_law_252 (lv_at hl 7 rfl) ?_
              refine lv_iload hx hb dL_law_254 (lv_at hl 5 rfl) ?_
              refine wAald hx hb hK hP 1 1 rfl rfl i101 rfl (by omega) (by omega) (RF_in (by omega)) dL_law_256 ?_
              refine lv_iload hx hb dL_law_257 (lv_at hl 3 rfl) ?_
              refine wIaldR (pre := [QA cR q83 n (RF n r83)] ++ ([QA cR q73 n (RF n r73)] ++ (XO x0 pa pb ++ (DC cI pa f r ++ (DC cI pb f2 r2 ++ (SC cI cR a ca ga n k f r ++ (CW cI ca n (r 5) ++ RW cI ga k 3 G))))))) (suf := RW cI r83 n n (gRow (r 5) i101 (i122 + 1))) (bb := r73) (N := n) (len := n) (v := gRow (dToGo (r 4)) i101 (i122 + 1)) hx hb hK hP 0 (by simp only [List.append_assoc, List.append_nil, List.nil_append]) rfl i101 (by omega) i122 rfl (by omega) (by omega) dL_law_259 ?_
              refine wTop (z := dToGo (r 4) (i101 * 10 + i122)) (gRow_in (Or.inr ⟨rfl, Nat.lt_succ_self _⟩)) ?_
              refine lv_iconst (v := 2) hx hb dL_law_260 (by decide) ?_
              refine lv_iload hx hb dL_law_261 (lv_at hl 2 rfl) ?_
              refine lv_imul hx hb dL_law_263 ?_
              refine wTop (z := nI (2 * (sN n i101 i122))) (pk_mul 2 (sN n i101 i122)) ?_
              refine lv_icmp_gt (tgt := 305) hx hb dL_law_264 (by decide) (fun h9 => absurd h9 (q_far hI (by omega) (by omega))) (fun c_264 => ?_)
              refine lv_aload_n hx hb dL_law_267 rfl (lv_at hl 11 rfl) ?_
              refine lv_iload hx hb dL_law_268 (lv_at hl 5 rfl) ?_
              refine lv_iload hx hb dL_law_270 (lv_at hl 3 rfl) ?_
              refine wCVi (pre := [QA cR q83 n (RF n r83)] ++ [QA cR q73 n (RF n r73)]) (Wc := XO x0 pa pb ++ (DC cI pa f r ++ DC cI pb f2 r2)) (suf := SC cI cR a ca ga n k f r ++ (CW cI ca n (r 5) ++ (RW cI ga k 3 G ++ (RW cI r73 n n (gRow (dToGo (r 4)) i101 (i122 + 1)) ++ RW cI r83 n n (gRow (r 5) i101 (i122 + 1)))))) (As := [.int (nI i101), .int (nI i122)]) (rest := []) ⟨hx, hb, hml, hown, hts⟩ (mX1_isUnderWay l D cI x0 pa pb f f2 r r2 n i101 i122 _ hg hn1 (by omega) (by omega) (by omega)) hN hA hK1 hS hP hD (by simp only [List.append_assoc, List.append_nil, List.nil_append]) 0 (r := (RX1, TX1, 2)) rfl rfl (cwV 2 hts gL_law_X1_isUnderWay rfl rfl rfl (by decide +kernel) ⟨Nat.le_of_ble_eq_true rfl, Nat.le_of_ble_eq_true rfl⟩) rfl hl.1 rfl (Nat.le_of_ble_eq_true rfl) dL_law_272 ⟨by show ((((c0 + 0) + 17) + 1 + n) + 1 + n) ≤ 1200172; omega, by show ((((s0 + 0) + 175) + n + n * n) + n + n * n) ≤ 5500668; omega⟩ (fun r_272 u_272 H locs hw hP hD hS => ?_)
              have hw : r_272 = if r 4 (i101 * 10 + i122) = -1 then 0 else 1 := hw
              subst hw
              have hP : va_P D vwCl ([QA cR q83 n (RF n r83)] ++ ([QA cR q73 n (RF n r73)] ++ (XO x0 pa pb ++ (DC cI pa f r ++ (DC cI pb f2 r2 ++ (SC cI cR a ca ga n k f r ++ (CW cI ca n (r 5) ++ (RW cI ga k 3 G ++ (RW cI r73 n n (gRow (dToGo (r 4)) i101 (i122 + 1)) ++ RW cI r83 n n (gRow (r 5) i101 (i122 + 1))))))))))) H := by simpa only [List.append_assoc, List.append_nil, List.nil_append] using hP
              have hD : va_D A ([QA cR q83 n (RF n r83)] ++ ([QA cR q73 n (RF n r73)] ++ (XO x0 pa pb ++ (DC cI pa f r ++ (DC cI pb f2 r2 ++ (SC cI cR a ca ga n k f r ++ (CW cI ca n (r 5) ++ (RW cI ga k 3 G ++ (RW cI r73 n n (gRow (dToGo (r 4)) i101 (i122 + 1)) ++ RW cI r83 n n (gRow (r 5) i101 (i122 + 1))))))))))) := by simpa only [List.append_assoc, List.append_nil, List.nil_append] using hD
              refine lv_aload hx hb dL_law_275 (lv_at hl 7 rfl) ?_
              refine lv_iload hx hb dL_law_277 (lv_at hl 5 rfl) ?_
              refine wAald hx hb hK hP 1 1 rfl rfl i101 rfl (by omega) (by omega) (RF_in (by omega)) dL_law_279 ?_
              refine lv_iload hx hb dL_law_280 (lv_at hl 3 rfl) ?_
              refine wIaldR (pre := [QA cR q83 n (RF n r83)] ++ ([QA cR q73 n (RF n r73)] ++ (XO x0 pa pb ++ (DC cI pa f r ++ (DC cI pb f2 r2 ++ (SC cI cR a ca ga n k f r ++ (CW cI ca n (r 5) ++ RW cI ga k 3 G))))))) (suf := RW cI r83 n n (gRow (r 5) i101 (i122 + 1))) (bb := r73) (N := n) (len := n) (v := gRow (dToGo (r 4)) i101 (i122 + 1)) hx hb hK hP 0 (by simp only [List.append_assoc, List.append_nil, List.nil_append]) rfl i101 (by omega) i122 rfl (by omega) (by omega) dL_law_282 ?_
              refine wTop (z := dToGo (r 4) (i101 * 10 + i122)) (gRow_in (Or.inr ⟨rfl, Nat.lt_succ_self _⟩)) ?_
              refine lv_if_le (tgt := 290) hx hb dL_law_283 (by decide) (fun c_283 => ?_) (fun c_283 => ?_)
              · refine lv_iconst (v := 0) hx hb dL_law_290 (by decide) ?_
                refine lv_icmp_ne (tgt := 305) hx hb dL_law_291 (by decide) (fun h9 => absurd (if_pos (q_under0 hI (by omega) c_283)) h9) (fun c_291 => ?_)
                refine lv_aload hx hb dL_law_294 (lv_at hl 8 rfl) ?_
                refine lv_iload hx hb dL_law_296 (lv_at hl 5 rfl) ?_
                refine wAald hx hb hK hP 0 1 rfl rfl i101 rfl (by omega) (by omega) (RF_in (by omega)) dL_law_298 ?_
                refine lv_iload hx hb dL_law_299 (lv_at hl 5 rfl) ?_
                refine wIaldR (pre := [QA cR q83 n (RF n r83)] ++ ([QA cR q73 n (RF n r73)] ++ (XO x0 pa pb ++ (DC cI pa f r ++ (DC cI pb f2 r2 ++ (SC cI cR a ca ga n k f r ++ (CW cI ca n (r 5) ++ (RW cI ga k 3 G ++ RW cI r73 n n (gRow (dToGo (r 4)) i101 (i122 + 1)))))))))) (suf := ([] : va_W)) (bb := r83) (N := n) (len := n) (v := gRow (r 5) i101 (i122 + 1)) hx hb hK hP 0 (by simp only [List.append_assoc, List.append_nil, List.nil_append]) rfl i101 (by omega) i101 rfl (by omega) (by omega) dL_law_301 ?_
                refine wTop (z := 0) (gRow_diag hI.2.2.2.2.2.2.2.1 (by omega)) ?_
                refine lv_if_le (tgt := 307) hx hb dL_law_302 (by decide) (fun c_302 => ?_) (fun h9 => absurd (by decide) h9)
                refine lv_iinc (v := nI (i122 + 1)) (lv' := [(12, .int (nI (i122 + 1))), (8, .int (acc1 (qW (r 4)) i101 (acc2 (qW (r 4)) n 0 i101) (i122 + 1))), (10, .int (acc1 (r 5) i101 (acc2 (r 5) n 0 i101) (i122 + 1))), (13, .int (nI (sN n i101 i122))), (9, .int (dSum (r 3) (i101 + 1))), (11, .int (nI i101)), (5, .int (nI n)), (6, .ref q73), (7, .ref q83), (3, .int (nI t)), (2, .ref (a 0)), (1, .ref x0), (0, .ref sb)]) hx hb dL_law_307 hl (k := 3) rfl (nI_1 i122) (by decide) rfl (fun ls hl => ?_)
                refine lv_goto (tgt := 122) hx hb dL_law_310 (by decide) ?_
                exact ih122 (i122 + 1) (by omega) _ _ _ hP hD hS (lv_sub hl [0, 1, 4, 2, 5, 6, 7, 8, 9, 10, 11, 12] rfl)
              · refine lv_iconst (v := 1) hx hb dL_law_286 (by decide) ?_
                refine lv_goto (tgt := 291) hx hb dL_law_287 (by decide) ?_
                refine lv_icmp_ne (tgt := 305) hx hb dL_law_291 (by decide) (fun h9 => absurd (if_neg (q_under1 hI (by omega) c_283)) h9) (fun c_291 => ?_)
                refine lv_aload hx hb dL_law_294 (lv_at hl 8 rfl) ?_
                refine lv_iload hx hb dL_law_296 (lv_at hl 5 rfl) ?_
                refine wAald hx hb hK hP 0 1 rfl rfl i101 rfl (by omega) (by omega) (RF_in (by omega)) dL_law_298 ?_
                refine lv_iload hx hb dL_law_299 (lv_at hl 5 rfl) ?_
                refine wIaldR (pre := [QA cR q83 n (RF n r83)] ++ ([QA cR q73 n (RF n r73)] ++ (XO x0 pa pb ++ (DC cI pa f r ++ (DC cI pb f2 r2 ++ (SC cI cR a ca ga n k f r ++ (CW cI ca n (r 5) ++ (RW cI ga k 3 G ++ RW cI r73 n n (gRow (dToGo (r 4)) i101 (i122 + 1)))))))))) (suf := ([] : va_W)) (bb := r83) (N := n) (len := n) (v := gRow (r 5) i101 (i122 + 1)) hx hb hK hP 0 (by simp only [List.append_assoc, List.append_nil, List.nil_append]) rfl i101 (by omega) i101 rfl (by omega) (by omega) dL_law_301 ?_
                refine wTop (z := 0) (gRow_diag hI.2.2.2.2.2.2.2.1 (by omega)) ?_
                refine lv_if_le (tgt := 307) hx hb dL_law_302 (by decide) (fun c_302 => ?_) (fun h9 => absurd (by decide) h9)
                refine lv_iinc (v := nI (i122 + 1)) (lv' := [(12, .int (nI (i122 + 1))), (8, .int (acc1 (qW (r 4)) i101 (acc2 (qW (r 4)) n 0 i101) (i122 + 1))), (10, .int (acc1 (r 5) i101 (acc2 (r 5) n 0 i101) (i122 + 1))), (13, .int (nI (sN n i101 i122))), (9, .int (dSum (r 3) (i101 + 1))), (11, .int (nI i101)), (5, .int (nI n)), (6, .ref q73), (7, .ref q83), (3, .int (nI t)), (2, .ref (a 0)), (1, .ref x0), (0, .ref sb)]) hx hb dL_law_307 hl (k := 3) rfl (nI_1 i122) (by decide) rfl (fun ls hl => ?_)
                refine lv_goto (tgt := 122) hx hb dL_law_310 (by decide) ?_
                exact ih122 (i122 + 1) (by omega) _ _ _ hP hD hS (lv_sub hl [0, 1, 4, 2, 5, 6, 7, 8, 9, 10, 11, 12] rfl)
          · refine lv_iconst (v := 1) hx hb dL_law_197 (by decide) ?_
            refine lv_goto (tgt := 202) hx hb dL_law_198 (by decide) ?_
            refine lv_iadd hx hb dL_law_202 ?_
            refine wTop (z := acc1 (qW (r 4)) i101 (acc2 (qW (r 4)) n 0 i101) (i122 + 1)) (by rw [acc1, qW_1 c_194]) ?_
            refine lv_istore (lv' := [(8, .int (acc1 (qW (r 4)) i101 (acc2 (qW (r 4)) n 0 i101) (i122 + 1))), (10, .int (acc1 (r 5) i101 (acc2 (r 5) n 0 i101) (i122 + 1))), (13, .int (nI (sN n i101 i122))), (12, .int (nI i122)), (9, .int (dSum (r 3) (i101 + 1))), (11, .int (nI i101)), (5, .int (nI n)), (6, .ref q73), (7, .ref q83), (3, .int (nI t)), (2, .ref (a 0)), (1, .ref x0), (0, .ref sb)]) hx hb dL_law_203 hl (by decide) rfl (fun ls hl => ?_)
            refine lv_iload hx hb dL_law_205 (lv_at hl 2 rfl) ?_
            refine lv_aload_n hx hb dL_law_207 rfl (lv_at hl 11 rfl) ?_
            refine lv_iload hx hb dL_law_208 (lv_at hl 3 rfl) ?_
            refine lv_iload hx hb dL_law_210 (lv_at hl 5 rfl) ?_
            refine wCVi (pre := [QA cR q83 n (RF n r83)] ++ [QA cR q73 n (RF n r73)]) (Wc := XO x0 pa pb ++ (DC cI pa f r ++ DC cI pb f2 r2)) (suf := SC cI cR a ca ga n k f r ++ (CW cI ca n (r 5) ++ (RW cI ga k 3 G ++ (RW cI r73 n n (gRow (dToGo (r 4)) i101 (i122 + 1)) ++ RW cI r83 n n (gRow (r 5) i101 (i122 + 1)))))) (As := [.int (nI i122), .int (nI i101)]) (rest := [.int (nI (sN n i101 i122))]) ⟨hx, hb, hml, hown, hts⟩ (mX1_seatsApart l D cI x0 pa pb f f2 r r2 n i122 i101 _ hg hn1 (by omega) (by omega) (by omega)) hN hA hK1 hS hP hD (by simp only [List.append_assoc, List.append_nil, List.nil_append]) 0 (r := (RX1, TX1, 2)) rfl rfl (cwV 2 hts gL_law_X1_seatsApart rfl rfl rfl (by decide +kernel) ⟨Nat.le_of_ble_eq_true rfl, Nat.le_of_ble_eq_true rfl⟩) rfl hl.1 rfl (Nat.le_of_ble_eq_true rfl) dL_law_212 ⟨by show ((((c0 + 0) + 17) + 1 + n) + 1 + n) ≤ 1200172; omega, by show ((((s0 + 0) + 175) + n + n * n) + n + n * n) ≤ 5500668; omega⟩ (fun r_212 u_212 H locs hw hP hD hS => ?_)
            have hw : r_212 = dSeats (f 0) (nI i122) (nI i101) := hw
            subst hw
            have hP : va_P D vwCl ([QA cR q83 n (RF n r83)] ++ ([QA cR q73 n (RF n r73)] ++ (XO x0 pa pb ++ (DC cI pa f r ++ (DC cI pb f2 r2 ++ (SC cI cR a ca ga n k f r ++ (CW cI ca n (r 5) ++ (RW cI ga k 3 G ++ (RW cI r73 n n (gRow (dToGo (r 4)) i101 (i122 + 1)) ++ RW cI r83 n n (gRow (r 5) i101 (i122 + 1))))))))))) H := by simpa only [List.append_assoc, List.append_nil, List.nil_append] using hP
            have hD : va_D A ([QA cR q83 n (RF n r83)] ++ ([QA cR q73 n (RF n r73)] ++ (XO x0 pa pb ++ (DC cI pa f r ++ (DC cI pb f2 r2 ++ (SC cI cR a ca ga n k f r ++ (CW cI ca n (r 5) ++ (RW cI ga k 3 G ++ (RW cI r73 n n (gRow (dToGo (r 4)) i101 (i122 + 1)) ++ RW cI r83 n n (gRow (r 5) i101 (i122 + 1))))))))))) := by simpa only [List.append_assoc, List.append_nil, List.nil_append] using hD
            refine wTop (z := nI (sN n i122 i101)) (by rw [hg]; exact sN_eq hn1 (by omega) (by omega)) ?_
            refine lv_icmp_ne (tgt := 305) hx hb dL_law_215 (by decide) (fun h9 => absurd (congrArg nI (sN_sym n i101 i122)) h9) (fun c_215 => ?_)
            have c_215n := (nI_eq (a := (sN n i101 i122)) (b := (sN n i122 i101)) (by omega) (by omega)).mp c_215
            refine lv_iload hx hb dL_law_218 (lv_at hl 2 rfl) ?_
            refine lv_iload hx hb dL_law_220 (lv_at hl 6 rfl) ?_
            refine lv_iconst (v := 2) hx hb dL_law_222 (by decide) ?_
            refine lv_idiv hx hb dL_law_223 (by decide) ?_
            refine wTop (z := nI (n / 2)) (pk_div (a := n) (d := 2) (by omega) (by decide) (by decide)) ?_
            refine lv_icmp_gt (tgt := 305) hx hb dL_law_224 (by decide) (fun h9 => absurd h9 (nI_nlt (sN_half (by omega) (by omega)) (by omega))) (fun c_224 => ?_)
            have c_224n := mt (nI_ltI (a := (n / 2)) (b := (sN n i101 i122)) (by omega) (by omega)).mpr c_224
            refine lv_iload hx hb dL_law_227 (lv_at hl 2 rfl) ?_
            refine lv_if_ne (tgt := 236) hx hb dL_law_229 (by decide) (fun c_229 => ?_) (fun c_229 => ?_)
            · refine lv_iconst (v := 0) hx hb dL_law_236 (by decide) ?_
              refine lv_iload hx hb dL_law_237 (lv_at hl 5 rfl) ?_
              refine lv_iload hx hb dL_law_239 (lv_at hl 3 rfl) ?_
              refine lv_icmp_ne (tgt := 248) hx hb dL_law_241 (by decide) (fun c_241 => ?_) (fun h9 => absurd h9 (fun e => c_229 ((sN_zero hn1 (by omega) (by omega)).mpr e)))
              have c_241n := mt (nI_eq (a := i101) (b := i122) (by omega) (by omega)).mpr c_241
              refine lv_iconst (v := 0) hx hb dL_law_248 (by decide) ?_
              refine lv_icmp_ne (tgt := 305) hx hb dL_law_249 (by decide) (fun h9 => absurd (by decide) h9) (fun c_249 => ?_)
              have c_249n := (nI_eq (a := 0) (b := 0) (by omega) (by omega)).mp c_249
              refine lv_aload hx hb dL_law_252 (lv_at hl 7 rfl) ?_
              refine lv_iload hx hb dL_law_254 (lv_at hl 5 rfl) ?_
              refine wAald hx hb hK hP 1 1 rfl rfl i101 rfl (by omega) (by omega) (RF_in (by omega)) dL_law_256 ?_
              refine lv_iload hx hb dL_law_257 (lv_at hl 3 rfl) ?_
              refine wIaldR (pre := [QA cR q83 n (RF n r83)] ++ ([QA cR q73 n (RF n r73)] ++ (XO x0 pa pb ++ (DC cI pa f r ++ (DC cI pb f2 r2 ++ (SC cI cR a ca ga n k f r ++ (CW cI ca n (r 5) ++ RW cI ga k 3 G))))))) (suf := RW cI r83 n n (gRow (r 5) i101 (i122 + 1))) (bb := r73) (N := n) (len := n) (v := gRow (dToGo (r 4)) i101 (i122 + 1)) hx hb hK hP 0 (by simp only [List.append_assoc, List.append_nil, List.nil_append]) rfl i101 (by omega) i122 rfl (by omega) (by omega) dL_law_259 ?_
              refine wTop (z := dToGo (r 4) (i101 * 10 + i122)) (gRow_in (Or.inr ⟨rfl, Nat.lt_succ_self _⟩)) ?_
              refine lv_iconst (v := 2) hx hb dL_law_260 (by decide) ?_
              refine lv_iload hx hb dL_law_261 (lv_at hl 2 rfl) ?_
              refine lv_imul hx hb dL_law_263 ?_
              refine wTop (z := nI (2 * (sN n i101 i122))) (pk_mul 2 (sN n i101 i122)) ?_
              refine lv_icmp_gt (tgt := 305) hx hb dL_law_264 (by decide) (fun h9 => absurd h9 (q_far hI (by omega) (by omega))) (fun c_264 => ?_)
              refine lv_aload_n hx hb dL_law_267 rfl (lv_at hl 11 rfl) ?_
              refine lv_iload hx hb dL_law_268 (lv_at hl 5 rfl) ?_
              refine lv_iload hx hb dL_law_270 (lv_at hl 3 rfl) ?_
              refine wCVi (pre := [QA cR q83 n (RF n r83)] ++ [QA cR q73 n (RF n r73)]) (Wc := XO x0 pa pb ++ (DC cI pa f r ++ DC cI pb f2 r2)) (suf := SC cI cR a ca ga n k f r ++ (CW cI ca n (r 5) ++ (RW cI ga k 3 G ++ (RW cI r73 n n (gRow (dToGo (r 4)) i101 (i122 + 1)) ++ RW cI r83 n n (gRow (r 5) i101 (i122 + 1)))))) (As := [.int (nI i101), .int (nI i122)]) (rest := []) ⟨hx, hb, hml, hown, hts⟩ (mX1_isUnderWay l D cI x0 pa pb f f2 r r2 n i101 i122 _ hg hn1 (by omega) (by omega) (by omega)) hN hA hK1 hS hP hD (by simp only [List.append_assoc, List.append_nil, List.nil_append]) 0 (r := (RX1, TX1, 2)) rfl rfl (cwV 2 hts gL_law_X1_isUnderWay rfl rfl rfl (by decide +kernel) ⟨Nat.le_of_ble_eq_true rfl, Nat.le_of_ble_eq_true rfl⟩) rfl hl.1 rfl (Nat.le_of_ble_eq_true rfl) dL_law_272 ⟨by show ((((c0 + 0) + 17) + 1 + n) + 1 + n) ≤ 1200172; omega, by show ((((s0 + 0) + 175) + n + n * n) + n + n * n) ≤ 5500668; omega⟩ (fun r_272 u_272 H locs hw hP hD hS => ?_)
              have hw : r_272 = if r 4 (i101 * 10 + i122) = -1 then 0 else 1 := hw
              subst hw
              have hP : va_P D vwCl ([QA cR q83 n (RF n r83)] ++ ([QA cR q73 n (RF n r73)] ++ (XO x0 pa pb ++ (DC cI pa f r ++ (DC cI pb f2 r2 ++ (SC cI cR a ca ga n k f r ++ (CW cI ca n (r 5) ++ (RW cI ga k 3 G ++ (RW cI r73 n n (gRow (dToGo (r 4)) i101 (i122 + 1)) ++ RW cI r83 n n (gRow (r 5) i101 (i122 + 1))))))))))) H := by simpa only [List.append_assoc, List.append_nil, List.nil_append] using hP
              have hD : va_D A ([QA cR q83 n (RF n r83)] ++ ([QA cR q73 n (RF n r73)] ++ (XO x0 pa pb ++ (DC cI pa f r ++ (DC cI pb f2 r2 ++ (SC cI cR a ca ga n k f r ++ (CW cI ca n (r 5) ++ (RW cI ga k 3 G ++ (RW cI r73 n n (gRow (dToGo (r 4)) i101 (i122 + 1)) ++ RW cI r83 n n (gRow (r 5) i101 (i122 + 1))))))))))) := by simpa only [List.append_assoc, List.append_nil, List.nil_append] using hD
              refine lv_aload hx hb dL_law_275 (lv_at hl 7 rfl) ?_
              refine lv_iload hx hb dL_law_277 (lv_at hl 5 rfl) ?_
              refine wAald hx hb hK hP 1 1 rfl rfl i101 rfl (by omega) (by omega) (RF_in (by omega)) dL_law_279 ?_
              refine lv_iload hx hb dL_law_280 (lv_at hl 3 rfl) ?_
              refine wIaldR (pre := [QA cR q83 n (RF n r83)] ++ ([QA cR q73 n (RF n r73)] ++ (XO x0 pa pb ++ (DC cI pa f r ++ (DC cI pb f2 r2 ++ (SC cI cR a ca ga n k f r ++ (CW cI ca n (r 5) ++ RW cI ga k 3 G))))))) (suf := RW cI r83 n n (gRow (r 5) i101 (i122 + 1))) (bb := r73) (N := n) (len := n) (v := gRow (dToGo (r 4)) i101 (i122 + 1)) hx hb hK hP 0 (by simp only [List.append_assoc, List.append_nil, List.nil_append]) rfl i101 (by omega) i122 rfl (by omega) (by omega) dL_law_282 ?_
              refine wTop (z := dToGo (r 4) (i101 * 10 + i122)) (gRow_in (Or.inr ⟨rfl, Nat.lt_succ_self _⟩)) ?_
              refine lv_if_le (tgt := 290) hx hb dL_law_283 (by decide) (fun c_283 => ?_) (fun c_283 => ?_)
              · refine lv_iconst (v := 0) hx hb dL_law_290 (by decide) ?_
                refine lv_icmp_ne (tgt := 305) hx hb dL_law_291 (by decide) (fun h9 => absurd (if_pos (q_under0 hI (by omega) c_283)) h9) (fun c_291 => ?_)
                refine lv_aload hx hb dL_law_294 (lv_at hl 8 rfl) ?_
                refine lv_iload hx hb dL_law_296 (lv_at hl 5 rfl) ?_
                refine wAald hx hb hK hP 0 1 rfl rfl i101 rfl (by omega) (by omega) (RF_in (by omega)) dL_law_298 ?_
                refine lv_iload hx hb dL_law_299 (lv_at hl 5 rfl) ?_
                refine wIaldR (pre := [QA cR q83 n (RF n r83)] ++ ([QA cR q73 n (RF n r73)] ++ (XO x0 pa pb ++ (DC cI pa f r ++ (DC cI pb f2 r2 ++ (SC cI cR a ca ga n k f r ++ (CW cI ca n (r 5) ++ (RW cI ga k 3 G ++ RW cI r73 n n (gRow (dToGo (r 4)) i101 (i122 + 1)))))))))) (suf := ([] : va_W)) (bb := r83) (N := n) (len := n) (v := gRow (r 5) i101 (i122 + 1)) hx hb hK hP 0 (by simp only [List.append_assoc, List.append_nil, List.nil_append]) rfl i101 (by omega) i101 rfl (by omega) (by omega) dL_law_301 ?_
                refine wTop (z := 0) (gRow_diag hI.2.2.2.2.2.2.2.1 (by omega)) ?_
                refine lv_if_le (tgt := 307) hx hb dL_law_302 (by decide) (fun c_302 => ?_) (fun h9 => absurd (by decide) h9)
                refine lv_iinc (v := nI (i122 + 1)) (lv' := [(12, .int (nI (i122 + 1))), (8, .int (acc1 (qW (r 4)) i101 (acc2 (qW (r 4)) n 0 i101) (i122 + 1))), (10, .int (acc1 (r 5) i101 (acc2 (r 5) n 0 i101) (i122 + 1))), (13, .int (nI (sN n i101 i122))), (9, .int (dSum (r 3) (i101 + 1))), (11, .int (nI i101)), (5, .int (nI n)), (6, .ref q73), (7, .ref q83), (3, .int (nI t)), (2, .ref (a 0)), (1, .ref x0), (0, .ref sb)]) hx hb dL_law_307 hl (k := 3) rfl (nI_1 i122) (by decide) rfl (fun ls hl => ?_)
                refine lv_goto (tgt := 122) hx hb dL_law_310 (by decide) ?_
                exact ih122 (i122 + 1) (by omega) _ _ _ hP hD hS (lv_sub hl [0, 1, 4, 2, 5, 6, 7, 8, 9, 10, 11, 12] rfl)
              · refine lv_iconst (v := 1) hx hb dL_law_286 (by decide) ?_
                refine lv_goto (tgt := 291) hx hb dL_law_287 (by decide) ?_
                refine lv_icmp_ne (tgt := 305) hx hb dL_law_291 (by decide) (fun h9 => absurd (if_neg (q_under1 hI (by omega) c_283)) h9) (fun c_291 => ?_)
                refine lv_aload hx hb dL_law_294 (lv_at hl 8 rfl) ?_
                refine lv_iload hx hb dL_law_296 (lv_at hl 5 rfl) ?_
                refine wAald hx hb hK hP 0 1 rfl rfl i101 rfl (by omega) (by omega) (RF_in (by omega)) dL_law_298 ?_
                refine lv_iload hx hb dL_law_299 (lv_at hl 5 rfl) ?_
                refine wIaldR (pre := [QA cR q83 n (RF n r83)] ++ ([QA cR q73 n (RF n r73)] ++ (XO x0 pa pb ++ (DC cI pa f r ++ (DC cI pb f2 r2 ++ (SC cI cR a ca ga n k f r ++ (CW cI ca n (r 5) ++ (RW cI ga k 3 G ++ RW cI r73 n n (gRow (dToGo (r 4)) i101 (i122 + 1)))))))))) (suf := ([] : va_W)) (bb := r83) (N := n) (len := n) (v := gRow (r 5) i101 (i122 + 1)) hx hb hK hP 0 (by simp only [List.append_assoc, List.append_nil, List.nil_append]) rfl i101 (by omega) i101 rfl (by omega) (by omega) dL_law_301 ?_
                refine wTop (z := 0) (gRow_diag hI.2.2.2.2.2.2.2.1 (by omega)) ?_
                refine lv_if_le (tgt := 307) hx hb dL_law_302 (by decide) (fun c_302 => ?_) (fun h9 => absurd (by decide) h9)
                refine lv_iinc (v := nI (i122 + 1)) (lv' := [(12, .int (nI (i122 + 1))), (8, .int (acc1 (qW (r 4)) i101 (acc2 (qW (r 4)) n 0 i101) (i122 + 1))), (10, .int (acc1 (r 5) i101 (acc2 (r 5) n 0 i101) (i122 + 1))), (13, .int (nI (sN n i101 i122))), (9, .int (dSum (r 3) (i101 + 1))), (11, .int (nI i101)), (5, .int (nI n)), (6, .ref q73), (7, .ref q83), (3, .int (nI t)), (2, .ref (a 0)), (1, .ref x0), (0, .ref sb)]) hx hb dL_law_307 hl (k := 3) rfl (nI_1 i122) (by decide) rfl (fun ls hl => ?_)
                refine lv_goto (tgt := 122) hx hb dL_law_310 (by decide) ?_
                exact ih122 (i122 + 1) (by omega) _ _ _ hP hD hS (lv_sub hl [0, 1, 4, 2, 5, 6, 7, 8, 9, 10, 11, 12] rfl)
            · refine lv_iconst (v := 1) hx hb dL_law_232 (by decide) ?_
              refine lv_goto (tgt := 237) hx hb dL_law_233 (by decide) ?_
              refine lv_iload hx hb dL_law_237 (lv_at hl 5 rfl) ?_
              refine lv_iload hx hb dL_law_239 (lv_at hl 3 rfl) ?_
              refine lv_icmp_ne (tgt := 248) hx hb dL_law_241 (by decide) (fun h9 => absurd ((sN_zero hn1 (by omega) (by omega)).mp c_229) h9) (fun c_241 => ?_)
              have c_241n := (nI_eq (a := i101) (b := i122) (by omega) (by omega)).mp c_241
              refine lv_iconst (v := 1) hx hb dL_law_244 (by decide) ?_
              refine lv_goto (tgt := 249) hx hb dL_law_245 (by decide) ?_
              refine lv_icmp_ne (tgt := 305) hx hb dL_law_249 (by decide) (fun h9 => absurd (by decide) h9) (fun c_249 => ?_)
              have c_249n := (nI_eq (a := 1) (b := 1) (by omega) (by omega)).mp c_249
              refine lv_aload hx hb dL_law_252 (lv_at hl 7 rfl) ?_
              refine lv_iload hx hb dL_law_254 (lv_at hl 5 rfl) ?_
              refine wAald hx hb hK hP 1 1 rfl rfl i101 rfl (by omega) (by omega) (RF_in (by omega)) dL_law_256 ?_
              refine lv_iload hx hb dL_law_257 (lv_at hl 3 rfl) ?_
              refine wIaldR (pre := [QA cR q83 n (RF n r83)] ++ ([QA cR q73 n (RF n r73)] ++ (XO x0 pa pb ++ (DC cI pa f r ++ (DC cI pb f2 r2 ++ (SC cI cR a ca ga n k f r ++ (CW cI ca n (r 5) ++ RW cI ga k 3 G))))))) (suf := RW cI r83 n n (gRow (r 5) i101 (i122 + 1))) (bb := r73) (N := n) (len := n) (v := gRow (dToGo (r 4)) i101 (i122 + 1)) hx hb hK hP 0 (by simp only [List.append_assoc, List.append_nil, List.nil_append]) rfl i101 (by omega) i122 rfl (by omega) (by omega) dL_law_259 ?_
              refine wTop (z := dToGo (r 4) (i101 * 10 + i122)) (gRow_in (Or.inr ⟨rfl, Nat.lt_succ_self _⟩)) ?_
              refine lv_iconst (v := 2) hx hb dL_law_260 (by decide) ?_
              refine lv_iload hx hb dL_law_261 (lv_at hl 2 rfl) ?_
              refine lv_imul hx hb dL_law_263 ?_
              refine wTop (z := nI (2 * (sN n i101 i122))) (pk_mul 2 (sN n i101 i122)) ?_
              refine lv_icmp_gt (tgt := 305) hx hb dL_law_264 (by decide) (fun h9 => absurd h9 (q_far hI (by omega) (by omega))) (fun c_264 => ?_)
              refine lv_aload_n hx hb dL_law_267 rfl (lv_at hl 11 rfl) ?_
              refine lv_iload hx hb dL_law_268 (lv_at hl 5 rfl) ?_
              refine lv_iload hx hb dL_law_270 (lv_at hl 3 rfl) ?_
              refine wCVi (pre := [QA cR q83 n (RF n r83)] ++ [QA cR q73 n (RF n r73)]) (Wc := XO x0 pa pb ++ (DC cI pa f r ++ DC cI pb f2 r2)) (suf := SC cI cR a ca ga n k f r ++ (CW cI ca n (r 5) ++ (RW cI ga k 3 G ++ (RW cI r73 n n (gRow (dToGo (r 4)) i101 (i122 + 1)) ++ RW cI r83 n n (gRow (r 5) i101 (i122 + 1)))))) (As := [.int (nI i101), .int (nI i122)]) (rest := []) ⟨hx, hb, hml, hown, hts⟩ (mX1_isUnderWay l D cI x0 pa pb f f2 r r2 n i101 i122 _ hg hn1 (by omega) (by omega) (by omega)) hN hA hK1 hS hP hD (by simp only [List.append_assoc, List.append_nil, List.nil_append]) 0 (r := (RX1, TX1, 2)) rfl rfl (cwV 2 hts gL_law_X1_isUnderWay rfl rfl rfl (by decide +kernel) ⟨Nat.le_of_ble_eq_true rfl, Nat.le_of_ble_eq_true rfl⟩) rfl hl.1 rfl (Nat.le_of_ble_eq_true rfl) dL_law_272 ⟨by show ((((c0 + 0) + 17) + 1 + n) + 1 + n) ≤ 1200172; omega, by show ((((s0 + 0) + 175) + n + n * n) + n + n * n) ≤ 5500668; omega⟩ (fun r_272 u_272 H locs hw hP hD hS => ?_)
              have hw : r_272 = if r 4 (i101 * 10 + i122) = -1 then 0 else 1 := hw
              subst hw
              have hP : va_P D vwCl ([QA cR q83 n (RF n r83)] ++ ([QA cR q73 n (RF n r73)] ++ (XO x0 pa pb ++ (DC cI pa f r ++ (DC cI pb f2 r2 ++ (SC cI cR a ca ga n k f r ++ (CW cI ca n (r 5) ++ (RW cI ga k 3 G ++ (RW cI r73 n n (gRow (dToGo (r 4)) i101 (i122 + 1)) ++ RW cI r83 n n (gRow (r 5) i101 (i122 + 1))))))))))) H := by simpa only [List.append_assoc, List.append_nil, List.nil_append] using hP
              have hD : va_D A ([QA cR q83 n (RF n r83)] ++ ([QA cR q73 n (RF n r73)] ++ (XO x0 pa pb ++ (DC cI pa f r ++ (DC cI pb f2 r2 ++ (SC cI cR a ca ga n k f r ++ (CW cI ca n (r 5) ++ (RW cI ga k 3 G ++ (RW cI r73 n n (gRow (dToGo (r 4)) i101 (i122 + 1)) ++ RW cI r83 n n (gRow (r 5) i101 (i122 + 1))))))))))) := by simpa only [List.append_assoc, List.append_nil, List.nil_append] using hD
              refine lv_aload hx hb dL_law_275 (lv_at hl 7 rfl) ?_
              refine lv_iload hx hb dL_law_277 (lv_at hl 5 rfl) ?_
              refine wAald hx hb hK hP 1 1 rfl rfl i101 rfl (by omega) (by omega) (RF_in (by omega)) dL_law_279 ?_
              refine lv_iload hx hb dL_law_280 (lv_at hl 3 rfl) ?_
              refine wIaldR (pre := [QA cR q83 n (RF n r83)] ++ ([QA cR q73 n (RF n r73)] ++ (XO x0 pa pb ++ (DC cI pa f r ++ (DC cI pb f2 r2 ++ (SC cI cR a ca ga n k f r ++ (CW cI ca n (r 5) ++ RW cI ga k 3 G))))))) (suf := RW cI r83 n n (gRow (r 5) i101 (i122 + 1))) (bb := r73) (N := n) (len := n) (v := gRow (dToGo (r 4)) i101 (i122 + 1)) hx hb hK hP 0 (by simp only [List.append_assoc, List.append_nil, List.nil_append]) rfl i101 (by omega) i122 rfl (by omega) (by omega) dL_law_282 ?_
              refine wTop (z := dToGo (r 4) (i101 * 10 + i122)) (gRow_in (Or.inr ⟨rfl, Nat.lt_succ_self _⟩)) ?_
              refine lv_if_le (tgt := 290) hx hb dL_law_283 (by decide) (fun c_283 => ?_) (fun c_283 => ?_)
              · refine lv_iconst (v := 0) hx hb dL_law_290 (by decide) ?_
                refine lv_icmp_ne (tgt := 305) hx hb dL_law_291 (by decide) (fun h9 => absurd (if_pos (q_under0 hI (by omega) c_283)) h9) (fun c_291 => ?_)
                refine lv_aload hx hb dL_law_294 (lv_at hl 8 rfl) ?_
                refine lv_iload hx hb dL_law_296 (lv_at hl 5 rfl) ?_
                refine wAald hx hb hK hP 0 1 rfl rfl i101 rfl (by omega) (by omega) (RF_in (by omega)) dL_law_298 ?_
                refine lv_iload hx hb dL_law_299 (lv_at hl 5 rfl) ?_
                refine wIaldR (pre := [QA cR q83 n (RF n r83)] ++ ([QA cR q73 n (RF n r73)] ++ (XO x0 pa pb ++ (DC cI pa f r ++ (DC cI pb f2 r2 ++ (SC cI cR a ca ga n k f r ++ (CW cI ca n (r 5) ++ (RW cI ga k 3 G ++ RW cI r73 n n (gRow (dToGo (r 4)) i101 (i122 + 1)))))))))) (suf := ([] : va_W)) (bb := r83) (N := n) (len := n) (v := gRow (r 5) i101 (i122 + 1)) hx hb hK hP 0 (by simp only [List.append_assoc, List.append_nil, List.nil_append]) rfl i101 (by omega) i101 rfl (by omega) (by omega) dL_law_301 ?_
                refine wTop (z := 0) (gRow_diag hI.2.2.2.2.2.2.2.1 (by omega)) ?_
                refine lv_if_le (tgt := 307) hx hb dL_law_302 (by decide) (fun c_302 => ?_) (fun h9 => absurd (by decide) h9)
                refine lv_iinc (v := nI (i122 + 1)) (lv' := [(12, .int (nI (i122 + 1))), (8, .int (acc1 (qW (r 4)) i101 (acc2 (qW (r 4)) n 0 i101) (i122 + 1))), (10, .int (acc1 (r 5) i101 (acc2 (r 5) n 0 i101) (i122 + 1))), (13, .int (nI (sN n i101 i122))), (9, .int (dSum (r 3) (i101 + 1))), (11, .int (nI i101)), (5, .int (nI n)), (6, .ref q73), (7, .ref q83), (3, .int (nI t)), (2, .ref (a 0)), (1, .ref x0), (0, .ref sb)]) hx hb dL_law_307 hl (k := 3) rfl (nI_1 i122) (by decide) rfl (fun ls hl => ?_)
                refine lv_goto (tgt := 122) hx hb dL_law_310 (by decide) ?_
                exact ih122 (i122 + 1) (by omega) _ _ _ hP hD hS (lv_sub hl [0, 1, 4, 2, 5, 6, 7, 8, 9, 10, 11, 12] rfl)
              · refine lv_iconst (v := 1) hx hb dL_law_286 (by decide) ?_
                refine lv_goto (tgt := 291) hx hb dL_law_287 (by decide) ?_
                refine lv_icmp_ne (tgt := 305) hx hb dL_law_291 (by decide) (fun h9 => absurd (if_neg (q_under1 hI (by omega) c_283)) h9) (fun c_291 => ?_)
                refine lv_aload hx hb dL_law_294 (lv_at hl 8 rfl) ?_
                refine lv_iload hx hb dL_law_296 (lv_at hl 5 rfl) ?_
                refine wAald hx hb hK hP 0 1 rfl rfl i101 rfl (by omega) (by omega) (RF_in (by omega)) dL_law_298 ?_
                refine lv_iload hx hb dL_law_299 (lv_at hl 5 rfl) ?_
                refine wIaldR (pre := [QA cR q83 n (RF n r83)] ++ ([QA cR q73 n (RF n r73)] ++ (XO x0 pa pb ++ (DC cI pa f r ++ (DC cI pb f2 r2 ++ (SC cI cR a ca ga n k f r ++ (CW cI ca n (r 5) ++ (RW cI ga k 3 G ++ RW cI r73 n n (gRow (dToGo (r 4)) i101 (i122 + 1)))))))))) (suf := ([] : va_W)) (bb := r83) (N := n) (len := n) (v := gRow (r 5) i101 (i122 + 1)) hx hb hK hP 0 (by simp only [List.append_assoc, List.append_nil, List.nil_append]) rfl i101 (by omega) i101 rfl (by omega) (by omega) dL_law_301 ?_
                refine wTop (z := 0) (gRow_diag hI.2.2.2.2.2.2.2.1 (by omega)) ?_
                refine lv_if_le (tgt := 307) hx hb dL_law_302 (by decide) (fun c_302 => ?_) (fun h9 => absurd (by decide) h9)
                refine lv_iinc (v := nI (i122 + 1)) (lv' := [(12, .int (nI (i122 + 1))), (8, .int (acc1 (qW (r 4)) i101 (acc2 (qW (r 4)) n 0 i101) (i122 + 1))), (10, .int (acc1 (r 5) i101 (acc2 (r 5) n 0 i101) (i122 + 1))), (13, .int (nI (sN n i101 i122))), (9, .int (dSum (r 3) (i101 + 1))), (11, .int (nI i101)), (5, .int (nI n)), (6, .ref q73), (7, .ref q83), (3, .int (nI t)), (2, .ref (a 0)), (1, .ref x0), (0, .ref sb)]) hx hb dL_law_307 hl (k := 3) rfl (nI_1 i122) (by decide) rfl (fun ls hl => ?_)
                refine lv_goto (tgt := 122) hx hb dL_law_310 (by decide) ?_
                exact ih122 (i122 + 1) (by omega) _ _ _ hP hD hS (lv_sub hl [0, 1, 4, 2, 5, 6, 7, 8, 9, 10, 11, 12] rfl)
      exact loop122 n 0 (by omega) _ _ _ hP hD hS (lv_sub hl [0, 3, 1, 4, 2, 5, 6, 7, 8, 9, 10, 11] rfl)
  have hP : va_P D vwCl ([QA cR q83 n (RF n r83)] ++ ([QA cR q73 n (RF n r73)] ++ (XO x0 pa pb ++ (DC cI pa f r ++ (DC cI pb f2 r2 ++ (SC cI cR a ca ga n k f r ++ (CW cI ca n (r 5) ++ (RW cI ga k 3 G ++ (RW cI r73 n n (gRow (dToGo (r 4)) 0 0) ++ RW cI r83 n n (gRow (r 5) 0 0)))))))))) H := by rw [gRow_0, gRow_0]; exact hP
  have hD : va_D A ([QA cR q83 n (RF n r83)] ++ ([QA cR q73 n (RF n r73)] ++ (XO x0 pa pb ++ (DC cI pa f r ++ (DC cI pb f2 r2 ++ (SC cI cR a ca ga n k f r ++ (CW cI ca n (r 5) ++ (RW cI ga k 3 G ++ (RW cI r73 n n (gRow (dToGo (r 4)) 0 0) ++ RW cI r83 n n (gRow (r 5) 0 0)))))))))) := by rw [gRow_0, gRow_0]; exact hD
  exact loop101 n 0 (by omega) _ _ _ hP hD hS (lv_sub hl [0, 3, 2, 1, 6, 5, 4, 9, 7, 10, 11] rfl)
