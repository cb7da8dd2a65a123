set_option maxRecDepth 100000 in
set_option maxHeartbeats 8000000 in
/-- the dinner that the law begins with -/
theorem law_begin {p : Program} {l : Launch} {e : Env} {s : State} {m : MethodId} {args : Array Value} {below : List Frame} {meth : Method} {c : Code} {D : va_G} {cI cR : ClassId} {A : Nat → Prop} {sb LN : Nat} {xs : Nat → Int32} {Q : State → Prop} (E9 : lawE p s m args c D cI cR A sb LN xs) (x0 : Nat) (pa pb : Nat → Nat) (f2 : Nat → Int32) (r2 : Nat → Nat → Int32) (c0 s0 : Nat) (hc0 : c0 ≤ 500) (hs0 : s0 ≤ 5000) (hk9 : ∀ (v : aS), aInv 1512000 v → ∀ (H : Heap) (locs : List Loc) (ls : Array Slot), va_P D vwCl (XO x0 pa pb ++ (DC cI pa v.2.1.1 v.2.1.2.1 ++ (DC cI pb f2 r2 ++ (SC cI cR v.2.2.1 v.2.2.2.1 v.2.2.2.2 v.1.1 v.1.2.2 v.2.1.1 v.2.1.2.1 ++ (CW cI v.2.2.2.1 v.1.1 (v.2.1.2.1 5) ++ RW cI v.2.2.2.2 v.1.2.2 3 v.2.1.2.2.1))))) H → va_D A (XO x0 pa pb ++ (DC cI pa v.2.1.1 v.2.1.2.1 ++ (DC cI pb f2 r2 ++ (SC cI cR v.2.2.1 v.2.2.2.1 v.2.2.2.2 v.1.1 v.1.2.2 v.2.1.1 v.2.1.2.1 ++ (CW cI v.2.2.2.1 v.1.1 (v.2.1.2.1 5) ++ RW cI v.2.2.2.2 v.1.2.2 3 v.2.1.2.2.1))))) → va_S A s.heap H locs → lv_has ls 27 [(3, .int (nI 0)), (2, .ref (v.2.2.1 0)), (1, .ref x0), (0, .ref sb)] → W p l e room_1 s m args below meth c H locs 2000 20000 Q (F0 m 16 ls [])) (H : Heap) (locs : List Loc) (ls : Array Slot) (hP : va_P D vwCl (XO x0 pa pb ++ (DC cI pa dF0 dR0 ++ DC cI pb f2 r2)) H) (hD : va_D A (XO x0 pa pb ++ (DC cI pa dF0 dR0 ++ DC cI pb f2 r2))) (hS : va_S A s.heap H locs) (hl : lv_has ls 27 [(1, .ref x0), (0, .ref sb)]) : W p l e room_1 s m args below meth c H locs c0 s0 Q (F0 m 8 ls []) := by
  obtain ⟨⟨hx, hb, hml, hown, hts⟩, hN, hK, hX, hbl, hLN, hA, hbA⟩ := E9
  have hK1 : va_K D vwCl [(cI, .int)] s := hK.sub [0] rfl
  refine lv_aload_n hx hb dL_law_8 rfl (lv_at hl 0 rfl) ?_
  refine lv_aload_n hx hb dL_law_9 rfl (lv_at hl 1 rfl) ?_
  refine wCSrc (pre := ([] : va_W)) (Wc := XO x0 pa pb ++ (DC cI pa dF0 dR0 ++ DC cI pb f2 r2)) (suf := ([] : va_W)) (As := [.ref x0, .ref sb]) (rest := []) ⟨hx, hb, hml, hown, hts⟩ (mL_build l D cI cR x0 pa pb f2 r2 _ sb LN xs hLN) hN hA hX hbl hbA hK hS hP hD (rfl) (va_cwS 2 hts gL_law_L_build rfl rfl rfl (by decide +kernel) ⟨Nat.le_of_ble_eq_true rfl, Nat.le_of_ble_eq_true rfl⟩) rfl hl.1 rfl (Nat.le_of_ble_eq_true rfl) dL_law_10 ⟨by show c0 + 1105 ≤ 1200172; omega, by show s0 + 11375 ≤ 5500668; omega⟩ (fun u_10 H locs hw hP hD hS => ?_)
  have hP : va_P D vwCl (XO x0 pa pb ++ (DC cI pa u_10.2.1.1 u_10.2.1.2.1 ++ (DC cI pb f2 r2 ++ (SC cI cR u_10.2.2.1 u_10.2.2.2.1 u_10.2.2.2.2 u_10.1.1 u_10.1.2.2 u_10.2.1.1 u_10.2.1.2.1 ++ (CW cI u_10.2.2.2.1 u_10.1.1 (u_10.2.1.2.1 5) ++ RW cI u_10.2.2.2.2 u_10.1.2.2 3 u_10.2.1.2.2.1))))) H := by simpa only [List.append_assoc, List.append_nil, List.nil_append] using hP
  have hD : va_D A (XO x0 pa pb ++ (DC cI pa u_10.2.1.1 u_10.2.1.2.1 ++ (DC cI pb f2 r2 ++ (SC cI cR u_10.2.2.1 u_10.2.2.2.1 u_10.2.2.2.2 u_10.1.1 u_10.1.2.2 u_10.2.1.1 u_10.2.1.2.1 ++ (CW cI u_10.2.2.2.1 u_10.1.1 (u_10.2.1.2.1 5) ++ RW cI u_10.2.2.2.2 u_10.1.2.2 3 u_10.2.1.2.2.1))))) := by simpa only [List.append_assoc, List.append_nil, List.nil_append] using hD
  refine lv_astore_n (lv' := [(2, .ref (u_10.2.2.1 0)), (1, .ref x0), (0, .ref sb)]) hx hb dL_law_13 rfl hl (by decide) rfl (fun ls hl => ?_)
  refine lv_iconst (v := 0) hx hb dL_law_14 (by decide) ?_
  refine lv_istore_n (lv' := [(3, .int 0), (2, .ref (u_10.2.2.1 0)), (1, .ref x0), (0, .ref sb)]) hx hb dL_law_15 rfl hl (by decide) rfl (fun ls hl => ?_)
  refine W.widen (k := 2000) (n := 20000) (by omega) (by omega) ?_
  exact hk9 u_10 hw H locs ls hP hD hS (lv_sub hl [0, 1, 2, 3] rfl)
/-- the law's thirty-two rounds -/
theorem law_loop {p : Program} {l : Launch} {e : Env} {s : State} {m : MethodId} {args : Array Value} {below : List Frame} {meth : Method} {c : Code} {D : va_G} {cI cR : ClassId} {A : Nat → Prop} {sb LN : Nat} {xs : Nat → Int32} {Q : State → Prop} (E9 : lawE p s m args c D cI cR A sb LN xs) (x0 : Nat) (pa pb : Nat → Nat) (f2 : Nat → Int32) (r2 : Nat → Nat → Int32)
    (hret : ∀ (H : Heap) (locs : List Loc) (ls : Array Slot) (cells slots : Nat), va_S A s.heap H locs → cells ≤ 1200172 → slots ≤ 5500668 → W p l e room_1 s m args below meth c H locs cells slots Q (F0 m 882 ls [.int 1])) :
    ∀ (j t c0 s0 : Nat) (v : aS), t + j = 32 → aInv (1512000 + 24400 * t) v → c0 ≤ 2000 + 40 * t → s0 ≤ 20000 + 400 * t → ∀ (H : Heap) (locs : List Loc) (ls : Array Slot), va_P D vwCl (XO x0 pa pb ++ (DC cI pa v.2.1.1 v.2.1.2.1 ++ (DC cI pb f2 r2 ++ (SC cI cR v.2.2.1 v.2.2.2.1 v.2.2.2.2 v.1.1 v.1.2.2 v.2.1.1 v.2.1.2.1 ++ (CW cI v.2.2.2.1 v.1.1 (v.2.1.2.1 5) ++ RW cI v.2.2.2.2 v.1.2.2 3 v.2.1.2.2.1))))) H → va_D A (XO x0 pa pb ++ (DC cI pa v.2.1.1 v.2.1.2.1 ++ (DC cI pb f2 r2 ++ (SC cI cR v.2.2.1 v.2.2.2.1 v.2.2.2.2 v.1.1 v.1.2.2 v.2.1.1 v.2.1.2.1 ++ (CW cI v.2.2.2.1 v.1.1 (v.2.1.2.1 5) ++ RW cI v.2.2.2.2 v.1.2.2 3 v.2.1.2.2.1))))) → va_S A s.heap H locs → lv_has ls 27 [(3, .int (nI t)), (2, .ref (v.2.2.1 0)), (1, .ref x0), (0, .ref sb)] → W p l e room_1 s m args below meth c H locs c0 s0 Q (F0 m 16 ls []) := by
  intro j
  induction j with
  | zero =>
    intro t c0 s0 v ht hv hc hs H locs ls hP hD hS hl
    obtain ⟨⟨n, li, k⟩, ⟨f, r, G, L⟩, a, ca, ga⟩ := v
    have et : t = 32 := by omega
    subst et
    exact law_end E9 x0 pa pb f2 r2 a ca ga n k f r G li L _ c0 s0 hv.1 hv.2 (by omega) (by omega) (by omega) hret H locs ls hP hD hS hl
  | succ j ih =>
    intro t c0 s0 v ht hv hc hs H locs ls hP hD hS hl
    obtain ⟨⟨n, li, k⟩, ⟨f, r, G, L⟩, a, ca, ga⟩ := v
    exact law_round E9 x0 pa pb f2 r2 a ca ga n k f r G li L (1512000 + 24400 * t) t c0 s0 hv.1 hv.2 (by omega) (by omega) (by omega) (by omega) (fun v hv H locs ls hP hD hS hl => ih (t + 1) (c0 + 40) (s0 + 400) v (by omega) (by rw [show 1512000 + 24400 * (t + 1) = 1512000 + 24400 * t + 24400 by omega]; exact hv) (by omega) (by omega) H locs ls hP hD hS hl) H locs ls hP hD hS hl
