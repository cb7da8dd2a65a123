abbrev rmX2_send : Room := { frames := 1, cells := 2, slots := 110, locals := 23 }
set_option maxRecDepth 100000 in
set_option maxHeartbeats 4000000 in
/-- send -/
theorem mX2_send (l : Launch) (D : va_G) (cI cR : ClassId) (a ca ga : Nat → Nat) (n k : Nat) (f : Nat → Int32) (r G : Nat → Nat → Int32) (x y : Nat) (sz : Nat) (hg : f 0 = nI n) (hn0 : 2 ≤ n) (hn1 : n ≤ 10) (hk : k ≤ 100) (ux : x < n) (uy : y < n) : wCt l yX2_send wsX2_send rmX2_send D [(cI, .int), (cR, .array .int)] [.ref (a 0), .int (nI x), .int (nI y)] (SC cI cR a ca ga n k f r ++ (CW cI ca n (r 5) ++ RW cI ga k 3 G)) sz 2 110 (wQi D (fun v (_ : Nat × Nat) => v = nI (2 * sN n x y)) (fun u : Nat × Nat => SC cI cR (va_up a 6 u.1) ca (sGa ga G k u.2) n (sCnt G k + 1) f r ++ (CW cI ca n (r 5) ++ RW cI (sGa ga G k u.2) (sCnt G k + 1) 3 (sGn G k (nI x) (nI y) (nI (2 * sN n x y)))))) := by
  refine wMet cX2_send 10 (some .int) (by decide) rfl (Nat.le_of_ble_eq_true rfl) ?_
  intro p e s m args below meth c A Q ls hQ hx hb hr hml hown hlocks hin hts hN hP hK hD hA hS hl
  have hK1 : va_K D vwCl [(cI, .int)] s := hK.sub [0] rfl
  have hl : lv_has ls 10 [(0, .ref (a 0)), (1, .int (nI x)), (2, .int (nI y))] := hl
  have hown : s.vm.findClass RX2 = some m.cls := hown
  have hw2 : ∀ w ∈ wsX20, w.before args s = true := fun w h => hts w (List.mem_cons_of_mem _ (List.mem_append_right _ h))
  have k18 := hts (.fieldLink RX2 18 "PauseLedgerLaw$Sim" "glances" "[[I") (by decide +kernel)
  refine lv_iconst (v := 0) hx hb dX2_send_0 (by decide) ?_
  refine lv_istore_n (lv' := [(3, .int 0), (0, .ref (a 0)), (1, .int (nI x)), (2, .int (nI y))]) hx hb dX2_send_1 rfl hl (by decide) rfl (fun ls hl => ?_)
  refine lv_aload_n hx hb dX2_send_2 rfl (lv_at hl 1 rfl) ?_
  refine va_get (D := D) (ci := 2) (v := .ref (a 6)) (C := RX2) (T := TX2) (N := 15) hx hb hw2 (fun _ h => h) hown hK hP 0 rfl rfl 14 (by decide) k18 (fun _ h9 => h9) rfl dX2_send_3 ?_
  refine lv_astore (lv' := [(4, .ref (a 6)), (3, .int 0), (0, .ref (a 0)), (1, .int (nI x)), (2, .int (nI y))]) hx hb dX2_send_6 hl (by decide) rfl (fun ls hl => ?_)
  refine lv_aload hx hb dX2_send_8 (lv_at hl 0 rfl) ?_
  refine va_alen (v := nI k) hx hb hK hP 1 1 rfl rfl rfl dX2_send_10 ?_
  refine lv_istore (lv' := [(5, .int (nI k)), (4, .ref (a 6)), (3, .int 0), (0, .ref (a 0)), (1, .int (nI x)), (2, .int (nI y))]) hx hb dX2_send_11 hl (by decide) rfl (fun ls hl => ?_)
  refine lv_iconst (v := 0) hx hb dX2_send_13 (by decide) ?_
  refine lv_istore (lv' := [(6, .int 0), (5, .int (nI k)), (4, .ref (a 6)), (3, .int 0), (0, .ref (a 0)), (1, .int (nI x)), (2, .int (nI y))]) hx hb dX2_send_14 hl (by decide) rfl (fun ls hl => ?_)
  have loop16 : ∀ (j i16 : Nat), i16 + j = k → ∀ (H : Heap) (locs : List Loc) (ls : Array Slot), va_P D vwCl (SC cI cR a ca ga n k f r ++ (CW cI ca n (r 5) ++ RW cI ga k 3 G)) H → va_D A (SC cI cR a ca ga n k f r ++ (CW cI ca n (r 5) ++ RW cI ga k 3 G)) → va_S A s.heap H locs → lv_has ls 10 [(6, .int (nI i16)), (3, .int (nI (sCnt G i16))), (0, .ref (a 0)), (1, .int (nI x)), (2, .int (nI y)), (4, .ref (a 6)), (5, .int (nI k))] → W p l e rmX2_send s m args below meth c H locs 0 0 Q (F0 m 16 ls []) := by
    intro j
    induction j with
    | zero =>
      intro i16 hi16 H locs ls hP hD hS hl
      have ez : k = i16 := by omega
      subst ez
      have hcs := sCnt_le G k
      refine lv_iload hx hb dX2_send_16 (lv_at hl 0 rfl) ?_
      refine lv_iload hx hb dX2_send_18 (lv_at hl 6 rfl) ?_
      refine lv_icmp_ge (tgt := 51) hx hb dX2_send_20 (by decide) (fun c_20 => ?_) (fun h9 => absurd (nI_le (Nat.le_refl _) (by omega)) h9)
      have c_20n := (nI_leI (a := k) (b := k) (by omega) (by omega)).mp c_20
      refine lv_iload_n hx hb dX2_send_51 rfl (lv_at hl 1 rfl) ?_
      refine lv_iconst (v := 1) hx hb dX2_send_52 (by decide) ?_
      refine lv_iadd hx hb dX2_send_53 ?_
      refine wTop (z := nI ((sCnt G k) + 1)) (nI_add (sCnt G k) 1) ?_
      refine wAnewF hx hb hown (hts (.classLink RX2 16 "[I") (by decide +kernel)) hN hK hP hD hS hA 1 rfl ((sCnt G k) + 1) rfl (by omega) ⟨by show 0 + (1) ≤ 2; omega, by show 0 + (((sCnt G k) + 1)) ≤ 110; omega⟩ dX2_send_54 (fun q54 H hP hD hS => ?_)
      have hP : va_P D vwCl ([QA cR q54 ((sCnt G k) + 1) (fun _ => none)] ++ (SC cI cR a ca ga n k f r ++ (CW cI ca n (r 5) ++ RW cI ga k 3 G))) H := hP
      have hD : va_D A ([QA cR q54 ((sCnt G k) + 1) (fun _ => none)] ++ (SC cI cR a ca ga n k f r ++ (CW cI ca n (r 5) ++ RW cI ga k 3 G))) := hD
      refine lv_astore (lv' := [(4, .ref q54), (6, .int (nI k)), (3, .int (nI (sCnt G k))), (0, .ref (a 0)), (1, .int (nI x)), (2, .int (nI y)), (5, .int (nI k))]) hx hb dX2_send_57 hl (by decide) rfl (fun ls hl => ?_)
      refine lv_iconst (v := 0) hx hb dX2_send_59 (by decide) ?_
      refine lv_istore (lv' := [(5, .int 0), (4, .ref q54), (6, .int (nI k)), (3, .int (nI (sCnt G k))), (0, .ref (a 0)), (1, .int (nI x)), (2, .int (nI y))]) hx hb dX2_send_60 hl (by decide) rfl (fun ls hl => ?_)
      refine lv_aload_n hx hb dX2_send_62 rfl (lv_at hl 4 rfl) ?_
      refine va_get (D := D) (ci := 2) (v := .ref (a 6)) (C := RX2) (T := TX2) (N := 15) hx hb hw2 (fun _ h => h) hown hK hP 1 rfl rfl 14 (by decide) k18 (fun _ h9 => h9) rfl dX2_send_63 ?_
      refine lv_astore (lv' := [(6, .ref (a 6)), (5, .int 0), (4, .ref q54), (3, .int (nI (sCnt G k))), (0, .ref (a 0)), (1, .int (nI x)), (2, .int (nI y))]) hx hb dX2_send_66 hl (by decide) rfl (fun ls hl => ?_)
      refine lv_aload hx hb dX2_send_68 (lv_at hl 0 rfl) ?_
      refine va_alen (v := nI k) hx hb hK hP 2 1 rfl rfl rfl dX2_send_70 ?_
      refine lv_istore (lv' := [(7, .int (nI k)), (6, .ref (a 6)), (5, .int 0), (4, .ref q54), (3, .int (nI (sCnt G k))), (0, .ref (a 0)), (1, .int (nI x)), (2, .int (nI y))]) hx hb dX2_send_71 hl (by decide) rfl (fun ls hl => ?_)
      refine lv_iconst (v := 0) hx hb dX2_send_73 (by decide) ?_
      refine lv_istore (lv' := [(8, .int 0), (7, .int (nI k)), (6, .ref (a 6)), (5, .int 0), (4, .ref q54), (3, .int (nI (sCnt G k))), (0, .ref (a 0)), (1, .int (nI x)), (2, .int (nI y))]) hx hb dX2_send_74 hl (by decide) rfl (fun ls hl => ?_)
      have loop76 : ∀ (j i76 : Nat), i76 + j = k → ∀ (H : Heap) (locs : List Loc) (ls : Array Slot), va_P D vwCl ([QA cR q54 (sCnt G k + 1) (sMk ga G k i76)] ++ (SC cI cR a ca ga n k f r ++ (CW cI ca n (r 5) ++ RW cI ga k 3 G))) H → va_D A ([QA cR q54 (sCnt G k + 1) (sMk ga G k i76)] ++ (SC cI cR a ca ga n k f r ++ (CW cI ca n (r 5) ++ RW cI ga k 3 G))) → va_S A s.heap H locs → lv_has ls 10 [(8, .int (nI i76)), (5, .int (nI (sCnt G i76))), (0, .ref (a 0)), (1, .int (nI x)), (2, .int (nI y)), (3, .int (nI (sCnt G k))), (4, .ref q54), (6, .ref (a 6)), (7, .int (nI k))] → W p l e rmX2_send s m args below meth c H locs (0 + 1) (0 + ((sCnt G k) + 1)) Q (F0 m 76 ls []) := by
        intro j
        induction j with
        | zero =>
          intro i76 hi76 H locs ls hP hD hS hl
          have ez : k = i76 := by omega
          subst ez
          refine lv_iload hx hb dX2_send_76 (lv_at hl 0 rfl) ?_
          refine lv_iload hx hb dX2_send_78 (lv_at hl 8 rfl) ?_
          refine lv_icmp_ge (tgt := 116) hx hb dX2_send_80 (by decide) (fun c_80 => ?_) (fun h9 => absurd (nI_le (Nat.le_refl _) (by omega)) h9)
          have c_80n := (nI_leI (a := k) (b := k) (by omega) (by omega)).mp c_80
          refine lv_aload hx hb dX2_send_116 (lv_at hl 6 rfl) ?_
          refine lv_iload_n hx hb dX2_send_118 rfl (lv_at hl 5 rfl) ?_
          refine lv_iconst (v := 3) hx hb dX2_send_119 (by decide) ?_
          refine wNewiF hx hb (hts (.arrayClass .int) (by decide +kernel)) hK hP hD hS hA 0 rfl 3 rfl (by omega) ⟨by show (0 + 1) + (1) ≤ 2; omega, by show (0 + ((sCnt G k) + 1)) + (3) ≤ 110; omega⟩ dX2_send_120 (fun q120 H hP hD hS => ?_)
          have hP : va_P D vwCl ([(q120, .inl (cI, 3, .inl (fun _ => 0)))] ++ ([QA cR q54 (sCnt G k + 1) (sMk ga G k k)] ++ (SC cI cR a ca ga n k f r ++ (CW cI ca n (r 5) ++ RW cI ga k 3 G)))) H := hP
          have hD : va_D A ([(q120, .inl (cI, 3, .inl (fun _ => 0)))] ++ ([QA cR q54 (sCnt G k + 1) (sMk ga G k k)] ++ (SC cI cR a ca ga n k f r ++ (CW cI ca n (r 5) ++ RW cI ga k 3 G)))) := hD
          refine lv_dup hx hb dX2_send_122 rfl ?_
          refine lv_iconst (v := 0) hx hb dX2_send_123 (by decide) ?_
          refine lv_iload_n hx hb dX2_send_124 rfl (lv_at hl 3 rfl) ?_
          refine wIast hx hb hK hP hD hS 0 0 rfl rfl 0 rfl (by decide) (by decide) dX2_send_125 (fun H locs hP hD hS => ?_)
          have hP : va_P D vwCl ([(q120, .inl (cI, 3, .inl (upd (fun _ => 0) 0 (nI x))))] ++ ([QA cR q54 (sCnt G k + 1) (sMk ga G k k)] ++ (SC cI cR a ca ga n k f r ++ (CW cI ca n (r 5) ++ RW cI ga k 3 G)))) H := hP
          have hD : va_D A ([(q120, .inl (cI, 3, .inl (upd (fun _ => 0) 0 (nI x))))] ++ ([QA cR q54 (sCnt G k + 1) (sMk ga G k k)] ++ (SC cI cR a ca ga n k f r ++ (CW cI ca n (r 5) ++ RW cI ga k 3 G)))) := hD
          refine lv_dup hx hb dX2_send_126 rfl ?_
          refine lv_iconst (v := 1) hx hb dX2_send_127 (by decide) ?_
          refine lv_iload_n hx hb dX2_send_128 rfl (lv_at hl 4 rfl) ?_
          refine wIast hx hb hK hP hD hS 0 0 rfl rfl 1 rfl (by decide) (by decide) dX2_send_129 (fun H locs hP hD hS => ?_)
          have hP : va_P D vwCl ([(q120, .inl (cI, 3, .inl (upd (upd (fun _ => 0) 0 (nI x)) 1 (nI y))))] ++ ([QA cR q54 (sCnt G k + 1) (sMk ga G k k)] ++ (SC cI cR a ca ga n k f r ++ (CW cI ca n (r 5) ++ RW cI ga k 3 G)))) H := hP
          have hD : va_D A ([(q120, .inl (cI, 3, .inl (upd (upd (fun _ => 0) 0 (nI x)) 1 (nI y))))] ++ ([QA cR q54 (sCnt G k + 1) (sMk ga G k k)] ++ (SC cI cR a ca ga n k f r ++ (CW cI ca n (r 5) ++ RW cI ga k 3 G)))) := hD
          refine lv_dup hx hb dX2_send_130 rfl ?_
          refine lv_iconst (v := 2) hx hb dX2_send_131 (by decide) ?_
          refine lv_iconst (v := 2) hx hb dX2_send_132 (by decide) ?_
          refine lv_aload_n hx hb dX2_send_133 rfl (lv_at hl 2 rfl) ?_
          refine lv_iload_n hx hb dX2_send_134 rfl (lv_at hl 3 rfl) ?_
          refine lv_iload_n hx hb dX2_send_135 rfl (lv_at hl 4 rfl) ?_
          refine wCVi (pre := [(q120, .inl (cI, 3, .inl (upd (upd (fun _ => 0) 0 (nI x)) 1 (nI y))))] ++ [QA cR q54 (sCnt G k + 1) (sMk ga G k k)]) (Wc := SC cI cR a ca ga n k f r ++ (CW cI ca n (r 5) ++ RW cI ga k 3 G)) (suf := ([] : va_W)) (As := [.int (nI x), .int (nI y)]) (rest := [.int 2, .int 2, .ref q120, .ref q120, .int (nI (sCnt G k)), .ref q54]) ⟨hx, hb, hml, hown, hts⟩ (mX2_apart l D cI cR a ca ga n k f r G x y _ hg hn0 hn1 hk ux uy) hN hA hK hS hP hD (by simp only [List.append_assoc, List.append_nil, List.nil_append]) 0 (r := (RX2, TX2, 15)) rfl rfl (cwV 2 hts gX2_send_X2_apart rfl rfl rfl (by decide +kernel) ⟨Nat.le_of_ble_eq_true rfl, Nat.le_of_ble_eq_true rfl⟩) rfl hl.1 rfl (Nat.le_of_ble_eq_true rfl) dX2_send_136 ⟨by show ((0 + 1) + 1) ≤ 2; omega, by show ((0 + ((sCnt G k) + 1)) + 3) ≤ 110; omega⟩ (fun r_136 u_136 H locs hw hP hD hS => ?_)
          have hw : r_136 = nI (sN n x y) := hw
          subst hw
          have hP : va_P D vwCl ([(q120, .inl (cI, 3, .inl (upd (upd (fun _ => 0) 0 (nI x)) 1 (nI y))))] ++ ([QA cR q54 (sCnt G k + 1) (sMk ga G k k)] ++ (SC cI cR a ca ga n k f r ++ (CW cI ca n (r 5) ++ RW cI ga k 3 G)))) H := by simpa only [List.append_assoc, List.append_nil, List.nil_append] using hP
          have hD : va_D A ([(q120, .inl (cI, 3, .inl (upd (upd (fun _ => 0) 0 (nI x)) 1 (nI y))))] ++ ([QA cR q54 (sCnt G k + 1) (sMk ga G k k)] ++ (SC cI cR a ca ga n k f r ++ (CW cI ca n (r 5) ++ RW cI ga k 3 G)))) := by simpa only [List.append_assoc, List.append_nil, List.nil_append] using hD
          refine lv_imul hx hb dX2_send_139 ?_
          refine wTop (z := nI (2 * (sN n x y))) (pk_mul 2 (sN n x y)) ?_
          refine wIast hx hb hK hP hD hS 0 0 rfl rfl 2 rfl (by decide) (by decide) dX2_send_140 (fun H locs hP hD hS => ?_)
          have hP : va_P D vwCl ([(q120, .inl (cI, 3, .inl (upd (upd (upd (fun _ => 0) 0 (nI x)) 1 (nI y)) 2 (nI (2 * (sN n x y))))))] ++ ([QA cR q54 (sCnt G k + 1) (sMk ga G k k)] ++ (SC cI cR a ca ga n k f r ++ (CW cI ca n (r 5) ++ RW cI ga k 3 G)))) H := hP
          have hD : va_D A ([(q120, .inl (cI, 3, .inl (upd (upd (upd (fun _ => 0) 0 (nI x)) 1 (nI y)) 2 (nI (2 * (sN n x y))))))] ++ ([QA cR q54 (sCnt G k + 1) (sMk ga G k k)] ++ (SC cI cR a ca ga n k f r ++ (CW cI ca n (r 5) ++ RW cI ga k 3 G)))) := hD
          refine wAast hx hb hN hK hP hD hS 1 0 1 0 rfl rfl rfl rfl (sCnt G k) rfl (by omega) (by omega) dX2_send_141 (fun H locs hP hD hS => ?_)
          have hP : va_P D vwCl ([(q120, .inl (cI, 3, .inl (upd (upd (upd (fun _ => 0) 0 (nI x)) 1 (nI y)) 2 (nI (2 * (sN n x y))))))] ++ ([QA cR q54 (sCnt G k + 1) (va_up (sMk ga G k k) (sCnt G k) (some q120))] ++ (SC cI cR a ca ga n k f r ++ (CW cI ca n (r 5) ++ RW cI ga k 3 G)))) H := hP
          have hD : va_D A ([(q120, .inl (cI, 3, .inl (upd (upd (upd (fun _ => 0) 0 (nI x)) 1 (nI y)) 2 (nI (2 * (sN n x y))))))] ++ ([QA cR q54 (sCnt G k + 1) (va_up (sMk ga G k k) (sCnt G k) (some q120))] ++ (SC cI cR a ca ga n k f r ++ (CW cI ca n (r 5) ++ RW cI ga k 3 G)))) := hD
          refine lv_aload_n hx hb dX2_send_142 rfl (lv_at hl 2 rfl) ?_
          refine lv_aload hx hb dX2_send_143 (lv_at hl 6 rfl) ?_
          refine va_put (D := D) (ci := 2) (v := .ref q54) (ty := .array (.array .int)) (C := RX2) (T := TX2) (N := 15) hx hb hw2 (fun _ h => h) tyX2 tyX2_ok nmX2 hown hK hP hD hS 2 rfl rfl 14 (by decide) k18 (fun _ h9 => h9) rfl (by decide +kernel) rfl rfl (Nat.le_of_ble_eq_true rfl) dX2_send_145 (fun H locs hP hD hS => ?_)
          have hP : va_P D vwCl ([(q120, .inl (cI, 3, .inl (upd (upd (upd (fun _ => 0) 0 (nI x)) 1 (nI y)) 2 (nI (2 * (sN n x y))))))] ++ ([QA cR q54 (sCnt G k + 1) (va_up (sMk ga G k k) (sCnt G k) (some q120))] ++ ([(a 0, .inr (2, [.int (f 0), .int (f 2), .int (f 1), .int (f 3), .int (f 4), .int (f 5), .int (f 6), .int (f 7), .int (f 8), .ref (a 1), .ref (a 2), .ref (a 3), .ref (a 4), .ref (a 5), .ref q54])), QA cR (a 6) k (RF k ga), (a 1, .inl (cI, n, .inl (r 0))), (a 2, .inl (cI, n, .inl (r 1))), (a 3, .inl (cI, n, .inl (r 2))), (a 4, .inl (cI, n, .inl (r 3))), QA cR (a 5) n (RF n ca)] ++ (CW cI ca n (r 5) ++ RW cI ga k 3 G)))) H := hP
          have hD : va_D A ([(q120, .inl (cI, 3, .inl (upd (upd (upd (fun _ => 0) 0 (nI x)) 1 (nI y)) 2 (nI (2 * (sN n x y))))))] ++ ([QA cR q54 (sCnt G k + 1) (va_up (sMk ga G k k) (sCnt G k) (some q120))] ++ ([(a 0, .inr (2, [.int (f 0), .int (f 2), .int (f 1), .int (f 3), .int (f 4), .int (f 5), .int (f 6), .int (f 7), .int (f 8), .ref (a 1), .ref (a 2), .ref (a 3), .ref (a 4), .ref (a 5), .ref q54])), QA cR (a 6) k (RF k ga), (a 1, .inl (cI, n, .inl (r 0))), (a 2, .inl (cI, n, .inl (r 1))), (a 3, .inl (cI, n, .inl (r 2))), (a 4, .inl (cI, n, .inl (r 3))), QA cR (a 5) n (RF n ca)] ++ (CW cI ca n (r 5) ++ RW cI ga k 3 G)))) := hD
          refine lv_aload hx hb dX2_send_148 (lv_at hl 6 rfl) ?_
          refine lv_iload_n hx hb dX2_send_150 rfl (lv_at hl 5 rfl) ?_
          refine wAald hx hb hK hP 1 1 rfl rfl (sCnt G k) rfl (by omega) (by omega) (vaUs) dX2_send_151 ?_
          refine lv_iconst (v := 2) hx hb dX2_send_152 (by decide) ?_
          refine wIald hx hb hK hP 0 0 rfl rfl 2 rfl (by decide) (by decide) dX2_send_153 ?_
          have hP := sendP (x := nI x) (y := nI y) (w := nI (2 * sN n x y)) hP
          have hD := sendD (x := nI x) (y := nI y) (w := nI (2 * sN n x y)) hD
          refine W.widen (k := 2) (n := 110) (by omega) (by omega) ?_
          exact wRi hQ hx hb hr hlocks hP hD hS dX2_send_154 (q54, q120) (mUs) rfl
        | succ j ih76 =>
          intro i76 hi76 H locs ls hP hD hS hl
          have hc7 := sCnt_le G i76
          have hm7 := sCnt_mono G i76 (k - i76)
          rw [show i76 + (k - i76) = k by omega] at hm7
          refine lv_iload hx hb dX2_send_76 (lv_at hl 0 rfl) ?_
          refine lv_iload hx hb dX2_send_78 (lv_at hl 8 rfl) ?_
          refine lv_icmp_ge (tgt := 116) hx hb dX2_send_80 (by decide) (fun h9 => absurd h9 (nI_ge (by omega) (by omega))) (fun c_80 => ?_)
          have c_80n := mt (nI_leI (a := k) (b := i76) (by omega) (by omega)).mpr c_80
          refine lv_aload hx hb dX2_send_83 (lv_at hl 7 rfl) ?_
          refine lv_iload hx hb dX2_send_85 (lv_at hl 0 rfl) ?_
          refine wAald hx hb hK hP 2 1 rfl rfl i76 rfl (by omega) (by omega) (RF_in (by omega)) dX2_send_87 ?_
          refine lv_astore (lv' := [(9, .ref (ga i76)), (8, .int (nI i76)), (5, .int (nI (sCnt G i76))), (0, .ref (a 0)), (1, .int (nI x)), (2, .int (nI y)), (3, .int (nI (sCnt G k))), (4, .ref q54), (6, .ref (a 6)), (7, .int (nI k))]) hx hb dX2_send_88 hl (by decide) rfl (fun ls hl => ?_)
          refine lv_aload hx hb dX2_send_90 (lv_at hl 0 rfl) ?_
          refine lv_iconst (v := 2) hx hb dX2_send_92 (by decide) ?_
          refine wIaldR (pre := [QA cR q54 (sCnt G k + 1) (sMk ga G k i76)] ++ (SC cI cR a ca ga n k f r ++ CW cI ca n (r 5))) (suf := ([] : va_W)) (bb := ga) (N := k) (len := 3) (v := G) hx hb hK hP 0 (by simp only [List.append_assoc, List.append_nil, List.nil_append]) rfl i76 (by omega) 2 rfl (by decide) (by decide) dX2_send_93 ?_
          refine lv_if_ge (tgt := 100) hx hb dX2_send_94 (by decide) (fun c_94 => ?_) (fun c_94 => ?_)
          · refine lv_aload hx hb dX2_send_100 (lv_at hl 7 rfl) ?_
            refine lv_iload hx hb dX2_send_102 (lv_at hl 2 rfl) ?_
            refine lv_aload hx hb dX2_send_104 (lv_at hl 0 rfl) ?_
            refine wAastR (pre := [QA cR q54 (sCnt G k + 1) (sMk ga G k i76)] ++ (SC cI cR a ca ga n k f r ++ CW cI ca n (r 5))) (suf := ([] : va_W)) (bb := ga) (N2 := k) (len := 3) (v2 := G) hx hb hN hK hP hD hS 0 1 0 rfl rfl (by simp only [List.append_assoc, List.append_nil, List.nil_append]) i76 (by omega) rfl (sCnt G i76) rfl (by omega) (by omega) dX2_send_106 (fun H locs hP hD hS => ?_)
            have hP : va_P D vwCl ([QA cR q54 (sCnt G k + 1) (va_up (sMk ga G k i76) (sCnt G i76) (some (ga i76)))] ++ (SC cI cR a ca ga n k f r ++ (CW cI ca n (r 5) ++ RW cI ga k 3 G))) H := hP
            have hD : va_D A ([QA cR q54 (sCnt G k + 1) (va_up (sMk ga G k i76) (sCnt G i76) (some (ga i76)))] ++ (SC cI cR a ca ga n k f r ++ (CW cI ca n (r 5) ++ RW cI ga k 3 G))) := hD
            refine lv_iinc (v := nI ((sCnt G i76) + 1)) (lv' := [(5, .int (nI ((sCnt G i76) + 1))), (9, .ref (ga i76)), (8, .int (nI i76)), (0, .ref (a 0)), (1, .int (nI x)), (2, .int (nI y)), (3, .int (nI (sCnt G k))), (4, .ref q54), (6, .ref (a 6)), (7, .int (nI k))]) hx hb dX2_send_107 hl (k := 2) rfl (nI_1 (sCnt G i76)) (by decide) rfl (fun ls hl => ?_)
            refine lv_iinc (v := nI (i76 + 1)) (lv' := [(8, .int (nI (i76 + 1))), (5, .int (nI ((sCnt G i76) + 1))), (9, .ref (ga i76)), (0, .ref (a 0)), (1, .int (nI x)), (2, .int (nI y)), (3, .int (nI (sCnt G k))), (4, .ref q54), (6, .ref (a 6)), (7, .int (nI k))]) hx hb dX2_send_110 hl (k := 2) rfl (nI_1 i76) (by decide) rfl (fun ls hl => ?_)
            refine lv_goto (tgt := 76) hx hb dX2_send_113 (by decide) ?_
            have e76 : sCnt G (i76 + 1) = sCnt G i76 + 1 := sCnt_t c_94
            have hP : va_P D vwCl ([QA cR q54 (sCnt G k + 1) (sMk ga G k (i76 + 1))] ++ (SC cI cR a ca ga n k f r ++ (CW cI ca n (r 5) ++ RW cI ga k 3 G))) H := by rw [← sMk_t (show i76 < k by omega) c_94]; exact hP
            have hD : va_D A ([QA cR q54 (sCnt G k + 1) (sMk ga G k (i76 + 1))] ++ (SC cI cR a ca ga n k f r ++ (CW cI ca n (r 5) ++ RW cI ga k 3 G))) := by rw [← sMk_t (show i76 < k by omega) c_94]; exact hD
            have hl : lv_has ls 10 [(8, .int (nI (i76 + 1))), (5, .int (nI (sCnt G (i76 + 1)))), (9, .ref (ga i76)), (0, .ref (a 0)), (1, .int (nI x)), (2, .int (nI y)), (3, .int (nI (sCnt G k))), (4, .ref q54), (6, .ref (a 6)), (7, .int (nI k))] := by rw [e76]; exact hl
            exact ih76 (i76 + 1) (by omega) _ _ _ hP hD hS (lv_sub hl [0, 1, 3, 4, 5, 6, 7, 8, 9] rfl)
          · refine lv_goto (tgt := 110) hx hb dX2_send_97 (by decide) ?_
            refine lv_iinc (v := nI (i76 + 1)) (lv' := [(8, .int (nI (i76 + 1))), (9, .ref (ga i76)), (5, .int (nI (sCnt G i76))), (0, .ref (a 0)), (1, .int (nI x)), (2, .int (nI y)), (3, .int (nI (sCnt G k))), (4, .ref q54), (6, .ref (a 6)), (7, .int (nI k))]) hx hb dX2_send_110 hl (k := 1) rfl (nI_1 i76) (by decide) rfl (fun ls hl => ?_)
            refine lv_goto (tgt := 76) hx hb dX2_send_113 (by decide) ?_
            have e76 : sCnt G (i76 + 1) = sCnt G i76 := sCnt_f c_94
            have hP : va_P D vwCl ([QA cR q54 (sCnt G k + 1) (sMk ga G k (i76 + 1))] ++ (SC cI cR a ca ga n k f r ++ (CW cI ca n (r 5) ++ RW cI ga k 3 G))) H := by rw [sMk_f c_94]; exact hP
            have hD : va_D A ([QA cR q54 (sCnt G k + 1) (sMk ga G k (i76 + 1))] ++ (SC cI cR a ca ga n k f r ++ (CW cI ca n (r 5) ++ RW cI ga k 3 G))) := by rw [sMk_f c_94]; exact hD
            have hl : lv_has ls 10 [(8, .int (nI (i76 + 1))), (9, .ref (ga i76)), (5, .int (nI (sCnt G (i76 + 1)))), (0, .ref (a 0)), (1, .int (nI x)), (2, .int (nI y)), (3, .int (nI (sCnt G k))), (4, .ref q54), (6, .ref (a 6)), (7, .int (nI k))] := by rw [e76]; exact hl
            exact ih76 (i76 + 1) (by omega) _ _ _ hP hD hS (lv_sub hl [0, 2, 3, 4, 5, 6, 7, 8, 9] rfl)
      have hP : va_P D vwCl ([QA cR q54 (sCnt G k + 1) (sMk ga G k 0)] ++ (SC cI cR a ca ga n k f r ++ (CW cI ca n (r 5) ++ RW cI ga k 3 G))) H := by rw [sMk_0]; exact hP
      have hD : va_D A ([QA cR q54 (sCnt G k + 1) (sMk ga G k 0)] ++ (SC cI cR a ca ga n k f r ++ (CW cI ca n (r 5) ++ RW cI ga k 3 G))) := by rw [sMk_0]; exact hD
      exact loop76 k 0 (by omega) _ _ _ hP hD hS (lv_sub hl [0, 3, 6, 7, 8, 5, 4, 2, 1] rfl)
    | succ j ih16 =>
      intro i16 hi16 H locs ls hP hD hS hl
      have hcs := sCnt_le G i16
      refine lv_iload hx hb dX2_send_16 (lv_at hl 0 rfl) ?_
      refine lv_iload hx hb dX2_send_18 (lv_at hl 6 rfl) ?_
      refine lv_icmp_ge (tgt := 51) hx hb dX2_send_20 (by decide) (fun h9 => absurd h9 (nI_ge (by omega) (by omega))) (fun c_20 => ?_)
      have c_20n := mt (nI_leI (a := k) (b := i16) (by omega) (by omega)).mpr c_20
      refine lv_aload hx hb dX2_send_23 (lv_at hl 5 rfl) ?_
      refine lv_iload hx hb dX2_send_25 (lv_at hl 0 rfl) ?_
      refine wAald hx hb hK hP 1 1 rfl rfl i16 rfl (by omega) (by omega) (RF_in (by omega)) dX2_send_27 ?_
      refine lv_astore (lv' := [(7, .ref (ga i16)), (6, .int (nI i16)), (3, .int (nI (sCnt G i16))), (0, .ref (a 0)), (1, .int (nI x)), (2, .int (nI y)), (4, .ref (a 6)), (5, .int (nI k))]) hx hb dX2_send_28 hl (by decide) rfl (fun ls hl => ?_)
      refine lv_iload_n hx hb dX2_send_30 rfl (lv_at hl 2 rfl) ?_
      refine lv_aload hx hb dX2_send_31 (lv_at hl 0 rfl) ?_
      refine lv_iconst (v := 2) hx hb dX2_send_33 (by decide) ?_
      refine wIaldR (pre := SC cI cR a ca ga n k f r ++ CW cI ca n (r 5)) (suf := ([] : va_W)) (bb := ga) (N := k) (len := 3) (v := G) hx hb hK hP 0 (by simp only [List.append_assoc, List.append_nil, List.nil_append]) rfl i16 (by omega) 2 rfl (by decide) (by decide) dX2_send_34 ?_
      refine lv_if_lt (tgt := 42) hx hb dX2_send_35 (by decide) (fun c_35 => ?_) (fun c_35 => ?_)
      · refine lv_iconst (v := 0) hx hb dX2_send_42 (by decide) ?_
        refine lv_iadd hx hb dX2_send_43 ?_
        refine wTop (z := nI ((sCnt G i16) + 0)) (nI_add (sCnt G i16) 0) ?_
        refine lv_istore_n (lv' := [(3, .int (nI ((sCnt G i16) + 0))), (7, .ref (ga i16)), (6, .int (nI i16)), (0, .ref (a 0)), (1, .int (nI x)), (2, .int (nI y)), (4, .ref (a 6)), (5, .int (nI k))]) hx hb dX2_send_44 rfl hl (by decide) rfl (fun ls hl => ?_)
        refine lv_iinc (v := nI (i16 + 1)) (lv' := [(6, .int (nI (i16 + 1))), (3, .int (nI ((sCnt G i16) + 0))), (7, .ref (ga i16)), (0, .ref (a 0)), (1, .int (nI x)), (2, .int (nI y)), (4, .ref (a 6)), (5, .int (nI k))]) hx hb dX2_send_45 hl (k := 2) rfl (nI_1 i16) (by decide) rfl (fun ls hl => ?_)
        refine lv_goto (tgt := 16) hx hb dX2_send_48 (by decide) ?_
        have e16 : sCnt G (i16 + 1) = sCnt G i16 + 0 := sCnt_f (Int32.not_le.mpr c_35)
        have hl : lv_has ls 10 [(6, .int (nI (i16 + 1))), (3, .int (nI (sCnt G (i16 + 1)))), (7, .ref (ga i16)), (0, .ref (a 0)), (1, .int (nI x)), (2, .int (nI y)), (4, .ref (a 6)), (5, .int (nI k))] := by rw [e16]; exact hl
        exact ih16 (i16 + 1) (by omega) _ _ _ hP hD hS (lv_sub hl [0, 1, 3, 4, 5, 6, 7] rfl)
      · refine lv_iconst (v := 1) hx hb dX2_send_38 (by decide) ?_
        refine lv_goto (tgt := 43) hx hb dX2_send_39 (by decide) ?_
        refine lv_iadd hx hb dX2_send_43 ?_
        refine wTop (z := nI ((sCnt G i16) + 1)) (nI_add (sCnt G i16) 1) ?_
        refine lv_istore_n (lv' := [(3, .int (nI ((sCnt G i16) + 1))), (7, .ref (ga i16)), (6, .int (nI i16)), (0, .ref (a 0)), (1, .int (nI x)), (2, .int (nI y)), (4, .ref (a 6)), (5, .int (nI k))]) hx hb dX2_send_44 rfl hl (by decide) rfl (fun ls hl => ?_)
        refine lv_iinc (v := nI (i16 + 1)) (lv' := [(6, .int (nI (i16 + 1))), (3, .int (nI ((sCnt G i16) + 1))), (7, .ref (ga i16)), (0, .ref (a 0)), (1, .int (nI x)), (2, .int (nI y)), (4, .ref (a 6)), (5, .int (nI k))]) hx hb dX2_send_45 hl (k := 2) rfl (nI_1 i16) (by decide) rfl (fun ls hl => ?_)
        refine lv_goto (tgt := 16) hx hb dX2_send_48 (by decide) ?_
        have e16 : sCnt G (i16 + 1) = sCnt G i16 + 1 := sCnt_t (Int32.not_lt.mp c_35)
        have hl : lv_has ls 10 [(6, .int (nI (i16 + 1))), (3, .int (nI (sCnt G (i16 + 1)))), (7, .ref (ga i16)), (0, .ref (a 0)), (1, .int (nI x)), (2, .int (nI y)), (4, .ref (a 6)), (5, .int (nI k))] := by rw [e16]; exact hl
        exact ih16 (i16 + 1) (by omega) _ _ _ hP hD hS (lv_sub hl [0, 1, 3, 4, 5, 6, 7] rfl)
  exact loop16 k 0 (by omega) _ _ _ hP hD hS (lv_sub hl [0, 3, 4, 5, 6, 2, 1] rfl)
