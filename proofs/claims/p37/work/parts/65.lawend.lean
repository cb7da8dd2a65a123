set_option maxRecDepth 100000 in
set_option maxHeartbeats 8000000 in
/-- the end of the law -/
theorem law_end {p : Program} {l : Launch} {e : Env} {s : State} {m : MethodId} {args : Array Value} {below : List Frame} {meth : Method} {c : Code} {D : va_G} {cI cR : ClassId} {A : Nat → Prop} {sb LN : Nat} {xs : Nat → Int32} {Q : State → Prop} (E9 : lawE p s m args c D cI cR A sb LN xs) (x0 : Nat) (pa pb : Nat → Nat) (f2 : Nat → Int32) (r2 : Nat → Nat → Int32) (a ca ga : Nat → Nat) (n k : Nat) (f : Nat → Int32) (r G : Nat → Nat → Int32) (li : Nat) (L : List Nat) (K c0 s0 : Nat) (hI : InvC n li f r L K) (hT : InvT n k (r 4) L G) (hK9 : K ≤ 9000000) (hc0 : c0 ≤ 100000) (hs0 : s0 ≤ 1000000) (hret : ∀ (H : Heap) (locs : List Loc) (ls : Array Slot) (cells slots : Nat), va_S A s.heap H locs → cells ≤ 1200172 → slots ≤ 5500668 → W p l e room_1 s m args below meth c H locs cells slots Q (F0 m 882 ls [.int 1])) (H : Heap) (locs : List Loc) (ls : Array Slot) (hP : va_P D vwCl (XO x0 pa pb ++ (DC cI pa f r ++ (DC cI pb f2 r2 ++ (SC cI cR a ca ga n k f r ++ (CW cI ca n (r 5) ++ RW cI ga k 3 G))))) H) (hD : va_D A (XO x0 pa pb ++ (DC cI pa f r ++ (DC cI pb f2 r2 ++ (SC cI cR a ca ga n k f r ++ (CW cI ca n (r 5) ++ RW cI ga k 3 G)))))) (hS : va_S A s.heap H locs) (hl : lv_has ls 27 [(3, .int (nI 32)), (2, .ref (a 0)), (1, .ref x0), (0, .ref sb)]) : W p l e room_1 s m args below meth c H locs c0 s0 Q (F0 m 16 ls []) := by
  obtain ⟨⟨hx, hb, hml, hown, hts⟩, hN, hK, hX, hbl, hLN, hA, hbA⟩ := E9
  have hK1 : va_K D vwCl [(cI, .int)] s := hK.sub [0] rfl
  have hg : f 0 = nI n := hI.1.2.2.2.2.1
  have hn0 : 2 ≤ n := hI.1.1
  have hn1 : n ≤ 10 := hI.1.2.1
  have hk : k ≤ 100 := hT.1
  refine lv_iload_n hx hb dL_law_16 rfl (lv_at hl 0 rfl) ?_
  refine lv_bipush (v := 32) hx hb dL_law_17 (by decide) ?_
  refine lv_icmp_ge (tgt := 865) hx hb dL_law_19 (by decide) (fun c_19 => ?_) (fun h9 => absurd (Int32.le_refl _) h9)
  have c_19n := (nI_leI (a := 32) (b := 32) (by omega) (by omega)).mp c_19
  refine lv_aload_n hx hb dL_law_865 rfl (lv_at hl 1 rfl) ?_
  refine lv_ifnull hx hb dL_law_866 ?_
  refine lv_aload_n hx hb dL_law_869 rfl (lv_at hl 1 rfl) ?_
  refine lv_aload_n hx hb dL_law_870 rfl (lv_at hl 2 rfl) ?_
  refine wCVi (pre := ([] : va_W)) (Wc := XO x0 pa pb ++ (DC cI pa f r ++ (DC cI pb f2 r2 ++ (SC cI cR a ca ga n k f r ++ (CW cI ca n (r 5) ++ RW cI ga k 3 G))))) (suf := ([] : va_W)) (As := [.ref x0]) (rest := []) ⟨hx, hb, hml, hown, hts⟩ (mX2_isSame l D cI cR x0 pa pb f2 r2 a ca ga n k f r G _ hg hn0 hn1 hk hI.h34 (by rw [hT.cnt]; exact hI.2.1) (rate_eq hI (by omega)) (find_A hI hT) (find_B hI hT) (by rw [hg]; exact mean_nn _ hn0 hn1)) hN hA hK hS hP hD (by simp only [List.append_assoc, List.append_nil, List.nil_append]) 17 (r := (RX2, TX2, 15)) rfl rfl (cwV 1 hts gL_law_X2_isSame rfl rfl rfl (by decide +kernel) ⟨Nat.le_of_ble_eq_true rfl, Nat.le_of_ble_eq_true rfl⟩) rfl hl.1 rfl (Nat.le_of_ble_eq_true rfl) dL_law_871 ⟨by show c0 ≤ 1200172; omega, by show s0 ≤ 5500668; omega⟩ (fun r_871 u_871 H locs hw hP hD hS => ?_)
  have hw : r_871 = 1 := hw
  subst hw
  have hP : va_P D vwCl (XO x0 pa pb ++ (DC cI pa f r ++ (DC cI pb f2 r2 ++ (SC cI cR a ca ga n k f r ++ (CW cI ca n (r 5) ++ RW cI ga k 3 G))))) H := by simpa only [List.append_assoc, List.append_nil, List.nil_append] using hP
  have hD : va_D A (XO x0 pa pb ++ (DC cI pa f r ++ (DC cI pb f2 r2 ++ (SC cI cR a ca ga n k f r ++ (CW cI ca n (r 5) ++ RW cI ga k 3 G))))) := by simpa only [List.append_assoc, List.append_nil, List.nil_append] using hD
  refine lv_if_eq (tgt := 881) hx hb dL_law_874 (by decide) (fun h9 => absurd h9 (by decide)) (fun c_874 => ?_)
  refine lv_iconst (v := 1) hx hb dL_law_877 (by decide) ?_
  refine lv_goto (tgt := 882) hx hb dL_law_878 (by decide) ?_
  exact hret H locs ls _ _ hS (by omega) (by omega)
