abbrev rmX2_pass : Room := { frames := 1, cells := 0, slots := 0, locals := 23 }
set_option maxRecDepth 100000 in
set_option maxHeartbeats 4000000 in
/-- pass -/
theorem mX2_pass (l : Launch) (D : va_G) (cI cR : ClassId) (a ca ga : Nat → Nat) (n k : Nat) (f : Nat → Int32) (r G : Nat → Nat → Int32) (sz : Nat) (hg : f 0 = nI n) (hn0 : 2 ≤ n) (hn1 : n ≤ 10) (hk : k ≤ 100) (hs : f 3 = -1 ∨ ∃ q, q < n ∧ f 3 = nI q) (hli : 0 < f 2) (hok : ∀ i, i < k → ∃ x y : Nat, x < n ∧ y < n ∧ G i 0 = nI x ∧ G i 1 = nI y) : wCt l yX2_pass wsX2_pass rmX2_pass D [(cI, .int), (cR, .array .int)] [.ref (a 0)] (SC cI cR a ca ga n k f r ++ (CW cI ca n (r 5) ++ RW cI ga k 3 G)) sz 0 0 (wQi D (fun _ (u : sS) => u = sPass k (f, r, G)) (fun u : sS => SC cI cR a ca ga n k u.1 u.2.1 ++ (CW cI ca n (u.2.1 5) ++ RW cI ga k 3 u.2.2))) := by
  refine wMet cX2_pass 9 (some .int) (by decide) rfl (Nat.le_of_ble_eq_true rfl) ?_
  intro p e s m args below meth c A Q ls hQ hx hb hr hml hown hlocks hin hts hN hP hK hD hA hS hl
  have hK1 : va_K D vwCl [(cI, .int)] s := hK.sub [0] rfl
  have hl : lv_has ls 9 [(0, .ref (a 0))] := hl
  have hown : s.vm.findClass RX2 = some m.cls := hown
  have hw2 : ∀ w ∈ wsX20, w.before args s = true := fun w h => hts w (List.mem_cons_of_mem _ (List.mem_append_right _ h))
  have k7 := hts (.fieldLink RX2 7 "PauseLedgerLaw$Sim" "limit" "I") (by decide +kernel)
  have k13 := hts (.fieldLink RX2 13 "PauseLedgerLaw$Sim" "speaker" "I") (by decide +kernel)
  have k18 := hts (.fieldLink RX2 18 "PauseLedgerLaw$Sim" "glances" "[[I") (by decide +kernel)
  have k25 := hts (.fieldLink RX2 25 "PauseLedgerLaw$Sim" "spoken" "[I") (by decide +kernel)
  have k34 := hts (.fieldLink RX2 34 "PauseLedgerLaw$Sim" "unsaid" "[I") (by decide +kernel)
  have k38 := hts (.fieldLink RX2 38 "PauseLedgerLaw$Sim" "caught" "[[I") (by decide +kernel)
  have k44 := hts (.fieldLink RX2 44 "PauseLedgerLaw$Sim" "second" "I") (by decide +kernel)
  have k47 := hts (.fieldLink RX2 47 "PauseLedgerLaw$Sim" "left" "I") (by decide +kernel)
  have k50 := hts (.fieldLink RX2 50 "PauseLedgerLaw$Sim" "pause" "I") (by decide +kernel)
  have k53 := hts (.fieldLink RX2 53 "PauseLedgerLaw$Sim" "quiet" "I") (by decide +kernel)
  have k56 := hts (.fieldLink RX2 56 "PauseLedgerLaw$Sim" "met" "I") (by decide +kernel)
  have k59 := hts (.fieldLink RX2 59 "PauseLedgerLaw$Sim" "lost" "I") (by decide +kernel)
  have join107 : ∀ (f1 : Nat → Int32) (r1 : Nat → Nat → Int32) (o1 : Option Nat), dTalk f r = (f1, r1) → ∀ (H : Heap) (locs : List Loc) (ls : Array Slot), va_P D vwCl (SC cI cR a ca ga n k f1 r1 ++ (CW cI ca n (r1 5) ++ RW cI ga k 3 G)) H → va_D A (SC cI cR a ca ga n k f1 r1 ++ (CW cI ca n (r1 5) ++ RW cI ga k 3 G)) → va_S A s.heap H locs → lv_has ls 9 [(1, va_rf o1), (0, .ref (a 0))] → W p l e rmX2_pass s m args below meth c H locs 0 0 Q (F0 m 107 ls []) := by
    intro f1 r1 o1 he H locs ls hP hD hS hl
    refine lv_iconst (v := (-1)) hx hb dX2_pass_107 (by decide) ?_
    refine lv_istore_n (lv' := [(2, .int (-1)), (1, va_rf o1), (0, .ref (a 0))]) hx hb dX2_pass_108 rfl hl (by decide) (by cases o1 <;> rfl) (fun ls hl => ?_)
    refine lv_aload_n hx hb dX2_pass_109 rfl (lv_at hl 2 rfl) ?_
    refine va_get (D := D) (ci := 2) (v := .ref (a 6)) (C := RX2) (T := TX2) (N := 15) hx hb hw2 (fun _ h => h) hown hK hP 0 rfl rfl 14 (by decide) k18 (fun _ h9 => h9) rfl dX2_pass_110 ?_
    refine lv_astore_n (lv' := [(3, .ref (a 6)), (2, .int (-1)), (1, va_rf o1), (0, .ref (a 0))]) hx hb dX2_pass_113 rfl hl (by decide) (by cases o1 <;> rfl) (fun ls hl => ?_)
    refine lv_aload_n hx hb dX2_pass_114 rfl (lv_at hl 0 rfl) ?_
    refine va_alen (v := nI k) hx hb hK hP 1 1 rfl rfl rfl dX2_pass_115 ?_
    refine lv_istore (lv' := [(4, .int (nI k)), (3, .ref (a 6)), (2, .int (-1)), (1, va_rf o1), (0, .ref (a 0))]) hx hb dX2_pass_116 hl (by decide) (by cases o1 <;> rfl) (fun ls hl => ?_)
    refine lv_iconst (v := 0) hx hb dX2_pass_118 (by decide) ?_
    refine lv_istore (lv' := [(5, .int 0), (4, .int (nI k)), (3, .ref (a 6)), (2, .int (-1)), (1, va_rf o1), (0, .ref (a 0))]) hx hb dX2_pass_119 hl (by decide) (by cases o1 <;> rfl) (fun ls hl => ?_)
    have loop121 : ∀ (j i121 : Nat), i121 + j = k → ∀ (H : Heap) (locs : List Loc) (ls : Array Slot), va_P D vwCl (SC cI cR a ca ga n k f1 r1 ++ (CW cI ca n (r1 5) ++ RW cI ga k 3 (sDec G i121))) H → va_D A (SC cI cR a ca ga n k f1 r1 ++ (CW cI ca n (r1 5) ++ RW cI ga k 3 (sDec G i121))) → va_S A s.heap H locs → lv_has ls 9 [(5, .int (nI i121)), (0, .ref (a 0)), (1, va_rf o1), (2, .int (-1)), (3, .ref (a 6)), (4, .int (nI k))] → W p l e rmX2_pass s m args below meth c H locs 0 0 Q (F0 m 121 ls []) := by
      intro j
      induction j with
      | zero =>
        intro i121 hi121 H locs ls hP hD hS hl
        have ez : k = i121 := by omega
        subst ez
        refine lv_iload hx hb dX2_pass_121 (lv_at hl 0 rfl) ?_
        refine lv_iload hx hb dX2_pass_123 (lv_at hl 5 rfl) ?_
        refine lv_icmp_ge (tgt := 155) hx hb dX2_pass_125 (by decide) (fun c_125 => ?_) (fun h9 => absurd (nI_le (Nat.le_refl _) (by omega)) h9)
        have c_125n := (nI_leI (a := k) (b := k) (by omega) (by omega)).mp c_125
        refine lv_aload_n hx hb dX2_pass_155 rfl (lv_at hl 1 rfl) ?_
        refine va_get (D := D) (ci := 2) (v := .ref (a 6)) (C := RX2) (T := TX2) (N := 15) hx hb hw2 (fun _ h => h) hown hK hP 0 rfl rfl 14 (by decide) k18 (fun _ h9 => h9) rfl dX2_pass_156 ?_
        refine lv_astore_n (lv' := [(3, .ref (a 6)), (5, .int (nI k)), (0, .ref (a 0)), (1, va_rf o1), (2, .int (-1)), (4, .int (nI k))]) hx hb dX2_pass_159 rfl hl (by decide) (by cases o1 <;> rfl) (fun ls hl => ?_)
        refine lv_aload_n hx hb dX2_pass_160 rfl (lv_at hl 0 rfl) ?_
        refine va_alen (v := nI k) hx hb hK hP 1 1 rfl rfl rfl dX2_pass_161 ?_
        refine lv_istore (lv' := [(4, .int (nI k)), (3, .ref (a 6)), (5, .int (nI k)), (0, .ref (a 0)), (1, va_rf o1), (2, .int (-1))]) hx hb dX2_pass_162 hl (by decide) (by cases o1 <;> rfl) (fun ls hl => ?_)
        refine lv_iconst (v := 0) hx hb dX2_pass_164 (by decide) ?_
        refine lv_istore (lv' := [(5, .int 0), (4, .int (nI k)), (3, .ref (a 6)), (0, .ref (a 0)), (1, va_rf o1), (2, .int (-1))]) hx hb dX2_pass_165 hl (by decide) (by cases o1 <;> rfl) (fun ls hl => ?_)
        have loop167 : ∀ (j i167 : Nat) (e2 : Int32), i167 + j = k → ∀ (H : Heap) (locs : List Loc) (ls : Array Slot), va_P D vwCl (SC cI cR a ca ga n k (sArrs k (f1, r1, sDec G k) i167).1 (sArrs k (f1, r1, sDec G k) i167).2.1 ++ (CW cI ca n ((sArrs k (f1, r1, sDec G k) i167).2.1 5) ++ RW cI ga k 3 (sArrs k (f1, r1, sDec G k) i167).2.2)) H → va_D A (SC cI cR a ca ga n k (sArrs k (f1, r1, sDec G k) i167).1 (sArrs k (f1, r1, sDec G k) i167).2.1 ++ (CW cI ca n ((sArrs k (f1, r1, sDec G k) i167).2.1 5) ++ RW cI ga k 3 (sArrs k (f1, r1, sDec G k) i167).2.2)) → va_S A s.heap H locs → lv_has ls 9 [(5, .int (nI i167)), (0, .ref (a 0)), (1, va_rf o1), (2, .int e2), (3, .ref (a 6)), (4, .int (nI k))] → W p l e rmX2_pass s m args below meth c H locs 0 0 Q (F0 m 167 ls []) := by
          intro j
          induction j with
          | zero =>
            intro i167 e2 hi167 H locs ls hP hD hS hl
            have ez : k = i167 := by omega
            subst ez
            refine lv_iload hx hb dX2_pass_167 (lv_at hl 0 rfl) ?_
            refine lv_iload hx hb dX2_pass_169 (lv_at hl 5 rfl) ?_
            refine lv_icmp_ge (tgt := 358) hx hb dX2_pass_171 (by decide) (fun c_171 => ?_) (fun h9 => absurd (nI_le (Nat.le_refl _) (by omega)) h9)
            have c_171n := (nI_leI (a := k) (b := k) (by omega) (by omega)).mp c_171
            refine lv_aload_n hx hb dX2_pass_358 rfl (lv_at hl 1 rfl) ?_
            refine lv_dup hx hb dX2_pass_359 rfl ?_
            refine va_get (D := D) (ci := 2) (v := .int ((sArrs k (f1, r1, sDec G k) k).1 1)) (C := RX2) (T := TX2) (N := 15) hx hb hw2 (fun _ h => h) hown hK hP 0 rfl rfl 2 (by decide) k44 (fun _ h9 => h9) rfl dX2_pass_360 ?_
            refine lv_iconst (v := 1) hx hb dX2_pass_363 (by decide) ?_
            refine lv_iadd hx hb dX2_pass_364 ?_
            refine va_put (D := D) (ci := 2) (v := .int (((sArrs k (f1, r1, sDec G k) k).1 1) + 1)) (ty := .int) (C := RX2) (T := TX2) (N := 15) hx hb hw2 (fun _ h => h) tyX2 tyX2_ok nmX2 hown hK hP hD hS 0 rfl rfl 2 (by decide) k44 (fun _ h9 => h9) rfl (by decide +kernel) rfl rfl (Nat.le_of_ble_eq_true rfl) dX2_pass_365 (fun H locs hP hD hS => ?_)
            have hP : va_P D vwCl (SC cI cR a ca ga n k (upd (sArrs k (f1, r1, sDec G k) k).1 1 (((sArrs k (f1, r1, sDec G k) k).1 1) + 1)) (sArrs k (f1, r1, sDec G k) k).2.1 ++ (CW cI ca n ((sArrs k (f1, r1, sDec G k) k).2.1 5) ++ RW cI ga k 3 (sArrs k (f1, r1, sDec G k) k).2.2)) H := hP
            have hD : va_D A (SC cI cR a ca ga n k (upd (sArrs k (f1, r1, sDec G k) k).1 1 (((sArrs k (f1, r1, sDec G k) k).1 1) + 1)) (sArrs k (f1, r1, sDec G k) k).2.1 ++ (CW cI ca n ((sArrs k (f1, r1, sDec G k) k).2.1 5) ++ RW cI ga k 3 (sArrs k (f1, r1, sDec G k) k).2.2)) := hD
            refine lv_iload_n hx hb dX2_pass_368 rfl (lv_at hl 3 rfl) ?_
            exact wRi hQ hx hb hr hlocks hP hD hS dX2_pass_369 ((upd (sArrs k (f1, r1, sDec G k) k).1 1 (((sArrs k (f1, r1, sDec G k) k).1 1) + 1)), (sArrs k (f1, r1, sDec G k) k).2.1, (sArrs k (f1, r1, sDec G k) k).2.2) (by simp only [sPass, he]) rfl
          | succ j ih167 =>
            intro i167 e2 hi167 H locs ls hP hD hS hl
            obtain ⟨x, y, ux, uy, ex, ey⟩ := hok i167 (by omega)
            have ex : (sArrs k (f1, r1, sDec G k) i167).2.2 i167 0 = nI x := (sArrs_c (by decide) _).trans ((sDec_c (by decide) _).trans ex)
            have ey : (sArrs k (f1, r1, sDec G k) i167).2.2 i167 1 = nI y := (sArrs_c (by decide) _).trans ((sDec_c (by decide) _).trans ey)
            have edx : dN ((sArrs k (f1, r1, sDec G k) i167).2.2 i167 0) = x := by rw [ex]; exact dN_nI (by omega)
            have edy : dN ((sArrs k (f1, r1, sDec G k) i167).2.2 i167 1) = y := by rw [ey]; exact dN_nI (by omega)
            have hg9 : (sArrs k (f1, r1, sDec G k) i167).1 0 = nI n := (sArrs_f (by decide) (by decide) _).trans ((congrArg (fun q => q.1 0) he).symm.trans ((dTalk_f (by decide) (by decide) (by decide) (by decide) f r).trans hg))
            refine lv_iload hx hb dX2_pass_167 (lv_at hl 0 rfl) ?_
            refine lv_iload hx hb dX2_pass_169 (lv_at hl 5 rfl) ?_
            refine lv_icmp_ge (tgt := 358) hx hb dX2_pass_171 (by decide) (fun h9 => absurd h9 (nI_ge (by omega) (by omega))) (fun c_171 => ?_)
            have c_171n := mt (nI_leI (a := k) (b := i167) (by omega) (by omega)).mpr c_171
            refine lv_aload_n hx hb dX2_pass_174 rfl (lv_at hl 4 rfl) ?_
            refine lv_iload hx hb dX2_pass_175 (lv_at hl 0 rfl) ?_
            refine wAald hx hb hK hP 1 1 rfl rfl i167 rfl (by omega) (by omega) (RF_in (by omega)) dX2_pass_177 ?_
            refine lv_astore (lv' := [(6, .ref (ga i167)), (5, .int (nI i167)), (0, .ref (a 0)), (1, va_rf o1), (2, .int e2), (3, .ref (a 6)), (4, .int (nI k))]) hx hb dX2_pass_178 hl (by decide) (by cases o1 <;> rfl) (fun ls hl => ?_)
            refine lv_aload hx hb dX2_pass_180 (lv_at hl 0 rfl) ?_
            refine lv_iconst (v := 2) hx hb dX2_pass_182 (by decide) ?_
            refine wIaldR (pre := SC cI cR a ca ga n k (sArrs k (f1, r1, sDec G k) i167).1 (sArrs k (f1, r1, sDec G k) i167).2.1 ++ CW cI ca n ((sArrs k (f1, r1, sDec G k) i167).2.1 5)) (suf := ([] : va_W)) (bb := ga) (N := k) (len := 3) (v := (sArrs k (f1, r1, sDec G k) i167).2.2) hx hb hK hP 0 (by simp only [List.append_assoc, List.append_nil, List.nil_append]) rfl i167 (by omega) 2 rfl (by decide) (by decide) dX2_pass_183 ?_
            refine lv_if_eq (tgt := 190) hx hb dX2_pass_184 (by decide) (fun c_184 => ?_) (fun c_184 => ?_)
            · refine lv_aload_n hx hb dX2_pass_190 rfl (lv_at hl 2 rfl) ?_
              refine lv_aload hx hb dX2_pass_191 (lv_at hl 0 rfl) ?_
              refine lv_iconst (v := 1) hx hb dX2_pass_193 (by decide) ?_
              refine wIaldR (pre := SC cI cR a ca ga n k (sArrs k (f1, r1, sDec G k) i167).1 (sArrs k (f1, r1, sDec G k) i167).2.1 ++ CW cI ca n ((sArrs k (f1, r1, sDec G k) i167).2.1 5)) (suf := ([] : va_W)) (bb := ga) (N := k) (len := 3) (v := (sArrs k (f1, r1, sDec G k) i167).2.2) hx hb hK hP 0 (by simp only [List.append_assoc, List.append_nil, List.nil_append]) rfl i167 (by omega) 1 rfl (by decide) (by decide) dX2_pass_194 ?_
              refine lv_aload hx hb dX2_pass_195 (lv_at hl 0 rfl) ?_
              refine lv_iconst (v := 0) hx hb dX2_pass_197 (by decide) ?_
              refine wIaldR (pre := SC cI cR a ca ga n k (sArrs k (f1, r1, sDec G k) i167).1 (sArrs k (f1, r1, sDec G k) i167).2.1 ++ CW cI ca n ((sArrs k (f1, r1, sDec G k) i167).2.1 5)) (suf := ([] : va_W)) (bb := ga) (N := k) (len := 3) (v := (sArrs k (f1, r1, sDec G k) i167).2.2) hx hb hK hP 0 (by simp only [List.append_assoc, List.append_nil, List.nil_append]) rfl i167 (by omega) 0 rfl (by decide) (by decide) dX2_pass_198 ?_
              refine wCVi (pre := ([] : va_W)) (Wc := SC cI cR a ca ga n k (sArrs k (f1, r1, sDec G k) i167).1 (sArrs k (f1, r1, sDec G k) i167).2.1 ++ (CW cI ca n ((sArrs k (f1, r1, sDec G k) i167).2.1 5) ++ RW cI ga k 3 (sArrs k (f1, r1, sDec G k) i167).2.2)) (suf := ([] : va_W)) (As := [.int ((sArrs k (f1, r1, sDec G k) i167).2.2 i167 1), .int ((sArrs k (f1, r1, sDec G k) i167).2.2 i167 0)]) (rest := []) ⟨hx, hb, hml, hown, hts⟩ (mX2_find l D cI cR a ca ga n k (sArrs k (f1, r1, sDec G k) i167).1 (sArrs k (f1, r1, sDec G k) i167).2.1 (sArrs k (f1, r1, sDec G k) i167).2.2 ((sArrs k (f1, r1, sDec G k) i167).2.2 i167 1) ((sArrs k (f1, r1, sDec G k) i167).2.2 i167 0) _ hg9 hn0 hn1 hk) hN hA hK hS hP hD (by simp only [List.append_assoc, List.append_nil, List.nil_append]) 0 (r := (RX2, TX2, 15)) rfl rfl (cwV 2 hts gX2_pass_X2_find rfl rfl rfl (by decide +kernel) ⟨Nat.le_of_ble_eq_true rfl, Nat.le_of_ble_eq_true rfl⟩) rfl hl.1 rfl (Nat.le_of_ble_eq_true rfl) dX2_pass_199 ⟨by show 0 ≤ 0; omega, by show 0 ≤ 0; omega⟩ (fun r_199 u_199 H locs hw hP hD hS => ?_)
              have hw : r_199 = sFind (sArrs k (f1, r1, sDec G k) i167).2.2 ((sArrs k (f1, r1, sDec G k) i167).2.2 i167 1) ((sArrs k (f1, r1, sDec G k) i167).2.2 i167 0) k 0 := hw
              subst hw
              have hP : va_P D vwCl (SC cI cR a ca ga n k (sArrs k (f1, r1, sDec G k) i167).1 (sArrs k (f1, r1, sDec G k) i167).2.1 ++ (CW cI ca n ((sArrs k (f1, r1, sDec G k) i167).2.1 5) ++ RW cI ga k 3 (sArrs k (f1, r1, sDec G k) i167).2.2)) H := by simpa only [List.append_assoc, List.append_nil, List.nil_append] using hP
              have hD : va_D A (SC cI cR a ca ga n k (sArrs k (f1, r1, sDec G k) i167).1 (sArrs k (f1, r1, sDec G k) i167).2.1 ++ (CW cI ca n ((sArrs k (f1, r1, sDec G k) i167).2.1 5) ++ RW cI ga k 3 (sArrs k (f1, r1, sDec G k) i167).2.2)) := by simpa only [List.append_assoc, List.append_nil, List.nil_append] using hD
              refine lv_istore (lv' := [(7, .int (sFind (sArrs k (f1, r1, sDec G k) i167).2.2 ((sArrs k (f1, r1, sDec G k) i167).2.2 i167 1) ((sArrs k (f1, r1, sDec G k) i167).2.2 i167 0) k 0)), (6, .ref (ga i167)), (5, .int (nI i167)), (0, .ref (a 0)), (1, va_rf o1), (2, .int e2), (3, .ref (a 6)), (4, .int (nI k))]) hx hb dX2_pass_202 hl (by decide) (by cases o1 <;> rfl) (fun ls hl => ?_)
              refine lv_aload hx hb dX2_pass_204 (lv_at hl 1 rfl) ?_
              refine lv_iconst (v := 2) hx hb dX2_pass_206 (by decide) ?_
              refine lv_iconst (v := (-1)) hx hb dX2_pass_207 (by decide) ?_
              refine wIastR (pre := SC cI cR a ca ga n k (sArrs k (f1, r1, sDec G k) i167).1 (sArrs k (f1, r1, sDec G k) i167).2.1 ++ CW cI ca n ((sArrs k (f1, r1, sDec G k) i167).2.1 5)) (suf := ([] : va_W)) (bb := ga) (N := k) (len := 3) (v := (sArrs k (f1, r1, sDec G k) i167).2.2) (W1 := SC cI cR a ca ga n k (sArrs k (f1, r1, sDec G k) i167).1 (sArrs k (f1, r1, sDec G k) i167).2.1 ++ (CW cI ca n ((sArrs k (f1, r1, sDec G k) i167).2.1 5) ++ RW cI ga k 3 (gUp (sArrs k (f1, r1, sDec G k) i167).2.2 i167 2 (-1)))) hx hb hK hP hD hS 0 (by simp only [List.append_assoc, List.append_nil, List.nil_append]) rfl i167 (by omega) 2 rfl (by decide) (by decide) (by simp only [List.append_assoc, List.append_nil, List.nil_append]) dX2_pass_208 (fun H locs hP hD hS => ?_)
              refine lv_iload hx hb dX2_pass_209 (lv_at hl 0 rfl) ?_
              refine lv_if_lt (tgt := 281) hx hb dX2_pass_211 (by decide) (fun c_211 => ?_) (fun c_211 => ?_)
              · have c2 : ¬ 0 ≤ sBack k (sArrs k (f1, r1, sDec G k) i167) i167 := Int32.not_le.mpr c_211
                refine lv_aload_n hx hb dX2_pass_281 rfl (lv_at hl 3 rfl) ?_
                refine va_get (D := D) (ci := 2) (v := .int ((sArrs k (f1, r1, sDec G k) i167).1 3)) (C := RX2) (T := TX2) (N := 15) hx hb hw2 (fun _ h => h) hown hK hP 0 rfl rfl 3 (by decide) k13 (fun _ h9 => h9) rfl dX2_pass_282 ?_
                refine lv_aload hx hb dX2_pass_285 (lv_at hl 1 rfl) ?_
                refine lv_iconst (v := 1) hx hb dX2_pass_287 (by decide) ?_
                refine wIaldR (pre := SC cI cR a ca ga n k (sArrs k (f1, r1, sDec G k) i167).1 (sArrs k (f1, r1, sDec G k) i167).2.1 ++ CW cI ca n ((sArrs k (f1, r1, sDec G k) i167).2.1 5)) (suf := ([] : va_W)) (bb := ga) (N := k) (len := 3) (v := gUp (sArrs k (f1, r1, sDec G k) i167).2.2 i167 2 (-1)) hx hb hK hP 0 (by simp only [List.append_assoc, List.append_nil, List.nil_append]) rfl i167 (by omega) 1 rfl (by decide) (by decide) dX2_pass_288 ?_
                refine wTop (z := nI y) (by rw [gUp_j (by decide)]; exact ey) ?_
                refine lv_icmp_ne (tgt := 313) hx hb dX2_pass_289 (by decide) (fun c_289 => ?_) (fun c_289 => ?_)
                · have c9 : ¬ (sArrs k (f1, r1, sDec G k) i167).1 3 = (sArrs k (f1, r1, sDec G k) i167).2.2 i167 1 := by rw [ey]; exact c_289
                  refine lv_aload_n hx hb dX2_pass_313 rfl (lv_at hl 3 rfl) ?_
                  refine va_get (D := D) (ci := 2) (v := .ref (a 5)) (C := RX2) (T := TX2) (N := 15) hx hb hw2 (fun _ h => h) hown hK hP 0 rfl rfl 13 (by decide) k38 (fun _ h9 => h9) rfl dX2_pass_314 ?_
                  refine lv_aload hx hb dX2_pass_317 (lv_at hl 1 rfl) ?_
                  refine lv_iconst (v := 0) hx hb dX2_pass_319 (by decide) ?_
                  refine wIaldR (pre := SC cI cR a ca ga n k (sArrs k (f1, r1, sDec G k) i167).1 (sArrs k (f1, r1, sDec G k) i167).2.1 ++ CW cI ca n ((sArrs k (f1, r1, sDec G k) i167).2.1 5)) (suf := ([] : va_W)) (bb := ga) (N := k) (len := 3) (v := gUp (sArrs k (f1, r1, sDec G k) i167).2.2 i167 2 (-1)) hx hb hK hP 0 (by simp only [List.append_assoc, List.append_nil, List.nil_append]) rfl i167 (by omega) 0 rfl (by decide) (by decide) dX2_pass_320 ?_
                  refine wTop (z := nI x) (by rw [gUp_j (by decide)]; exact ex) ?_
                  refine wAald hx hb hK hP 6 1 rfl rfl x rfl (by omega) (by omega) (RF_in (by omega)) dX2_pass_321 ?_
                  refine lv_aload hx hb dX2_pass_322 (lv_at hl 1 rfl) ?_
                  refine lv_iconst (v := 1) hx hb dX2_pass_324 (by decide) ?_
                  refine wIaldR (pre := SC cI cR a ca ga n k (sArrs k (f1, r1, sDec G k) i167).1 (sArrs k (f1, r1, sDec G k) i167).2.1 ++ CW cI ca n ((sArrs k (f1, r1, sDec G k) i167).2.1 5)) (suf := ([] : va_W)) (bb := ga) (N := k) (len := 3) (v := gUp (sArrs k (f1, r1, sDec G k) i167).2.2 i167 2 (-1)) hx hb hK hP 0 (by simp only [List.append_assoc, List.append_nil, List.nil_append]) rfl i167 (by omega) 1 rfl (by decide) (by decide) dX2_pass_325 ?_
                  refine wTop (z := nI y) (by rw [gUp_j (by decide)]; exact ey) ?_
                  refine lv_dup2_11 hx hb dX2_pass_326 rfl rfl ?_
                  refine wIaldR (pre := SC cI cR a ca ga n k (sArrs k (f1, r1, sDec G k) i167).1 (sArrs k (f1, r1, sDec G k) i167).2.1) (suf := RW cI ga k 3 (gUp (sArrs k (f1, r1, sDec G k) i167).2.2 i167 2 (-1))) (bb := ca) (N := n) (len := n) (v := fun i j => ((sArrs k (f1, r1, sDec G k) i167).2.1 5) (i * 10 + j)) hx hb hK hP 0 (by simp only [CW, List.append_assoc, List.append_nil, List.nil_append]) rfl x (by omega) y rfl (by omega) (by omega) dX2_pass_327 ?_
                  refine lv_iconst (v := 1) hx hb dX2_pass_328 (by decide) ?_
                  refine lv_iadd hx hb dX2_pass_329 ?_
                  refine wIastC (pre := SC cI cR a ca ga n k (sArrs k (f1, r1, sDec G k) i167).1 (sArrs k (f1, r1, sDec G k) i167).2.1) (suf := RW cI ga k 3 (gUp (sArrs k (f1, r1, sDec G k) i167).2.2 i167 2 (-1))) (bb := ca) (N := n) (r5 := (sArrs k (f1, r1, sDec G k) i167).2.1 5) (W1 := SC cI cR a ca ga n k (sArrs k (f1, r1, sDec G k) i167).1 (va_up (sArrs k (f1, r1, sDec G k) i167).2.1 5 (upd ((sArrs k (f1, r1, sDec G k) i167).2.1 5) (x * 10 + y) ((((sArrs k (f1, r1, sDec G k) i167).2.1 5) (x * 10 + y)) + 1))) ++ (CW cI ca n (upd ((sArrs k (f1, r1, sDec G k) i167).2.1 5) (x * 10 + y) ((((sArrs k (f1, r1, sDec G k) i167).2.1 5) (x * 10 + y)) + 1)) ++ RW cI ga k 3 (gUp (sArrs k (f1, r1, sDec G k) i167).2.2 i167 2 (-1)))) hx hb hK hP hD hS 0 (by simp only [List.append_assoc, List.append_nil, List.nil_append]) rfl x (by omega) y rfl (by omega) (by omega) (rfl) dX2_pass_330 (fun H locs hP hD hS => ?_)
                  refine lv_aload_n hx hb dX2_pass_331 rfl (lv_at hl 3 rfl) ?_
                  refine va_get (D := D) (ci := 2) (v := .ref (a 4)) (C := RX2) (T := TX2) (N := 15) hx hb hw2 (fun _ h => h) hown hK hP 0 rfl rfl 12 (by decide) k34 (fun _ h9 => h9) rfl dX2_pass_332 ?_
                  refine lv_aload hx hb dX2_pass_335 (lv_at hl 1 rfl) ?_
                  refine lv_iconst (v := 0) hx hb dX2_pass_337 (by decide) ?_
                  refine wIaldR (pre := SC cI cR a ca ga n k (sArrs k (f1, r1, sDec G k) i167).1 (va_up (sArrs k (f1, r1, sDec G k) i167).2.1 5 (upd ((sArrs k (f1, r1, sDec G k) i167).2.1 5) (x * 10 + y) ((((sArrs k (f1, r1, sDec G k) i167).2.1 5) (x * 10 + y)) + 1))) ++ CW cI ca n (upd ((sArrs k (f1, r1, sDec G k) i167).2.1 5) (x * 10 + y) ((((sArrs k (f1, r1, sDec G k) i167).2.1 5) (x * 10 + y)) + 1))) (suf := ([] : va_W)) (bb := ga) (N := k) (len := 3) (v := gUp (sArrs k (f1, r1, sDec G k) i167).2.2 i167 2 (-1)) hx hb hK hP 0 (by simp only [List.append_assoc, List.append_nil, List.nil_append]) rfl i167 (by omega) 0 rfl (by decide) (by decide) dX2_pass_338 ?_
                  refine wTop (z := nI x) (by rw [gUp_j (by decide)]; exact ex) ?_
                  refine lv_dup2_11 hx hb dX2_pass_339 rfl rfl ?_
                  refine wIald hx hb hK hP 5 0 rfl rfl x rfl (by omega) (by omega) dX2_pass_340 ?_
                  refine lv_iconst (v := 1) hx hb dX2_pass_341 (by decide) ?_
                  refine lv_iadd hx hb dX2_pass_342 ?_
                  refine wIast hx hb hK hP hD hS 5 0 rfl rfl x rfl (by omega) (by omega) dX2_pass_343 (fun H locs hP hD hS => ?_)
                  have hP : va_P D vwCl (SC cI cR a ca ga n k (sArrs k (f1, r1, sDec G k) i167).1 (va_up (va_up (sArrs k (f1, r1, sDec G k) i167).2.1 3 (upd ((sArrs k (f1, r1, sDec G k) i167).2.1 3) x ((((sArrs k (f1, r1, sDec G k) i167).2.1 3) x) + 1))) 5 (upd ((sArrs k (f1, r1, sDec G k) i167).2.1 5) (x * 10 + y) ((((sArrs k (f1, r1, sDec G k) i167).2.1 5) (x * 10 + y)) + 1))) ++ (CW cI ca n (upd ((sArrs k (f1, r1, sDec G k) i167).2.1 5) (x * 10 + y) ((((sArrs k (f1, r1, sDec G k) i167).2.1 5) (x * 10 + y)) + 1)) ++ RW cI ga k 3 (gUp (sArrs k (f1, r1, sDec G k) i167).2.2 i167 2 (-1)))) H := hP
                  have hD : va_D A (SC cI cR a ca ga n k (sArrs k (f1, r1, sDec G k) i167).1 (va_up (va_up (sArrs k (f1, r1, sDec G k) i167).2.1 3 (upd ((sArrs k (f1, r1, sDec G k) i167).2.1 3) x ((((sArrs k (f1, r1, sDec G k) i167).2.1 3) x) + 1))) 5 (upd ((sArrs k (f1, r1, sDec G k) i167).2.1 5) (x * 10 + y) ((((sArrs k (f1, r1, sDec G k) i167).2.1 5) (x * 10 + y)) + 1))) ++ (CW cI ca n (upd ((sArrs k (f1, r1, sDec G k) i167).2.1 5) (x * 10 + y) ((((sArrs k (f1, r1, sDec G k) i167).2.1 5) (x * 10 + y)) + 1)) ++ RW cI ga k 3 (gUp (sArrs k (f1, r1, sDec G k) i167).2.2 i167 2 (-1)))) := hD
                  refine lv_aload hx hb dX2_pass_344 (lv_at hl 1 rfl) ?_
                  refine wAloadO_n hx hb dX2_pass_346 rfl (lv_at hl 4 rfl) ?_
                  refine lv_acmp_ne (rx := some (ga i167)) (ry := o1) (tgt := 352) hx hb dX2_pass_347 (by decide) (fun c_347 => ?_) (fun c_347 => ?_)
                  · refine lv_iinc (v := nI (i167 + 1)) (lv' := [(5, .int (nI (i167 + 1))), (7, .int (sFind (sArrs k (f1, r1, sDec G k) i167).2.2 ((sArrs k (f1, r1, sDec G k) i167).2.2 i167 1) ((sArrs k (f1, r1, sDec G k) i167).2.2 i167 0) k 0)), (6, .ref (ga i167)), (0, .ref (a 0)), (1, va_rf o1), (2, .int e2), (3, .ref (a 6)), (4, .int (nI k))]) hx hb dX2_pass_352 hl (k := 2) rfl (nI_1 i167) (by decide) (by cases o1 <;> rfl) (fun ls hl => ?_)
                    refine lv_goto (tgt := 167) hx hb dX2_pass_355 (by decide) ?_
                    have e167 : sArrs k (f1, r1, sDec G k) (i167 + 1) = ((sArrs k (f1, r1, sDec G k) i167).1, (va_up (va_up (sArrs k (f1, r1, sDec G k) i167).2.1 3 (upd ((sArrs k (f1, r1, sDec G k) i167).2.1 3) x ((((sArrs k (f1, r1, sDec G k) i167).2.1 3) x) + 1))) 5 (upd ((sArrs k (f1, r1, sDec G k) i167).2.1 5) (x * 10 + y) ((((sArrs k (f1, r1, sDec G k) i167).2.1 5) (x * 10 + y)) + 1))), gUp (sArrs k (f1, r1, sDec G k) i167).2.2 i167 2 (-1)) := by rw [sArrs, if_pos c_184, sArr, if_neg c2, if_neg c9]; simp only [edx, edy]
                    have hP : va_P D vwCl (SC cI cR a ca ga n k (sArrs k (f1, r1, sDec G k) (i167 + 1)).1 (sArrs k (f1, r1, sDec G k) (i167 + 1)).2.1 ++ (CW cI ca n ((sArrs k (f1, r1, sDec G k) (i167 + 1)).2.1 5) ++ RW cI ga k 3 (sArrs k (f1, r1, sDec G k) (i167 + 1)).2.2)) H := by rw [e167]; exact hP
                    have hD : va_D A (SC cI cR a ca ga n k (sArrs k (f1, r1, sDec G k) (i167 + 1)).1 (sArrs k (f1, r1, sDec G k) (i167 + 1)).2.1 ++ (CW cI ca n ((sArrs k (f1, r1, sDec G k) (i167 + 1)).2.1 5) ++ RW cI ga k 3 (sArrs k (f1, r1, sDec G k) (i167 + 1)).2.2)) := by rw [e167]; exact hD
                    exact ih167 (i167 + 1) e2 (by omega) _ _ _ hP hD hS (lv_sub hl [0, 3, 4, 5, 6, 7] rfl)
                  · refine lv_iconst (v := 1) hx hb dX2_pass_350 (by decide) ?_
                    refine lv_istore_n (lv' := [(2, .int 1), (7, .int (sFind (sArrs k (f1, r1, sDec G k) i167).2.2 ((sArrs k (f1, r1, sDec G k) i167).2.2 i167 1) ((sArrs k (f1, r1, sDec G k) i167).2.2 i167 0) k 0)), (6, .ref (ga i167)), (5, .int (nI i167)), (0, .ref (a 0)), (1, va_rf o1), (3, .ref (a 6)), (4, .int (nI k))]) hx hb dX2_pass_351 rfl hl (by decide) (by cases o1 <;> rfl) (fun ls hl => ?_)
                    refine lv_iinc (v := nI (i167 + 1)) (lv' := [(5, .int (nI (i167 + 1))), (2, .int 1), (7, .int (sFind (sArrs k (f1, r1, sDec G k) i167).2.2 ((sArrs k (f1, r1, sDec G k) i167).2.2 i167 1) ((sArrs k (f1, r1, sDec G k) i167).2.2 i167 0) k 0)), (6, .ref (ga i167)), (0, .ref (a 0)), (1, va_rf o1), (3, .ref (a 6)), (4, .int (nI k))]) hx hb dX2_pass_352 hl (k := 3) rfl (nI_1 i167) (by decide) (by cases o1 <;> rfl) (fun ls hl => ?_)
                    refine lv_goto (tgt := 167) hx hb dX2_pass_355 (by decide) ?_
                    have e167 : sArrs k (f1, r1, sDec G k) (i167 + 1) = ((sArrs k (f1, r1, sDec G k) i167).1, (va_up (va_up (sArrs k (f1, r1, sDec G k) i167).2.1 3 (upd ((sArrs k (f1, r1, sDec G k) i167).2.1 3) x ((((sArrs k (f1, r1, sDec G k) i167).2.1 3) x) + 1))) 5 (upd ((sArrs k (f1, r1, sDec G k) i167).2.1 5) (x * 10 + y) ((((sArrs k (f1, r1, sDec G k) i167).2.1 5) (x * 10 + y)) + 1))), gUp (sArrs k (f1, r1, sDec G k) i167).2.2 i167 2 (-1)) := by rw [sArrs, if_pos c_184, sArr, if_neg c2, if_neg c9]; simp only [edx, edy]
                    have hP : va_P D vwCl (SC cI cR a ca ga n k (sArrs k (f1, r1, sDec G k) (i167 + 1)).1 (sArrs k (f1, r1, sDec G k) (i167 + 1)).2.1 ++ (CW cI ca n ((sArrs k (f1, r1, sDec G k) (i167 + 1)).2.1 5) ++ RW cI ga k 3 (sArrs k (f1, r1, sDec G k) (i167 + 1)).2.2)) H := by rw [e167]; exact hP
                    have hD : va_D A (SC cI cR a ca ga n k (sArrs k (f1, r1, sDec G k) (i167 + 1)).1 (sArrs k (f1, r1, sDec G k) (i167 + 1)).2.1 ++ (CW cI ca n ((sArrs k (f1, r1, sDec G k) (i167 + 1)).2.1 5) ++ RW cI ga k 3 (sArrs k (f1, r1, sDec G k) (i167 + 1)).2.2)) := by rw [e167]; exact hD
                    exact ih167 (i167 + 1) 1 (by omega) _ _ _ hP hD hS (lv_sub hl [0, 4, 5, 1, 6, 7] rfl)
                · have c9 : (sArrs k (f1, r1, sDec G k) i167).1 3 = (sArrs k (f1, r1, sDec G k) i167).2.2 i167 1 := by rw [ey]; exact c_289
                  refine lv_aload_n hx hb dX2_pass_292 rfl (lv_at hl 3 rfl) ?_
                  refine lv_dup hx hb dX2_pass_293 rfl ?_
                  refine va_get (D := D) (ci := 2) (v := .int ((sArrs k (f1, r1, sDec G k) i167).1 8)) (C := RX2) (T := TX2) (N := 15) hx hb hw2 (fun _ h => h) hown hK hP 0 rfl rfl 8 (by decide) k59 (fun _ h9 => h9) rfl dX2_pass_294 ?_
                  refine lv_iconst (v := 1) hx hb dX2_pass_297 (by decide) ?_
                  refine lv_iadd hx hb dX2_pass_298 ?_
                  refine va_put (D := D) (ci := 2) (v := .int (((sArrs k (f1, r1, sDec G k) i167).1 8) + 1)) (ty := .int) (C := RX2) (T := TX2) (N := 15) hx hb hw2 (fun _ h => h) tyX2 tyX2_ok nmX2 hown hK hP hD hS 0 rfl rfl 8 (by decide) k59 (fun _ h9 => h9) rfl (by decide +kernel) rfl rfl (Nat.le_of_ble_eq_true rfl) dX2_pass_299 (fun H locs hP hD hS => ?_)
                  have hP : va_P D vwCl (SC cI cR a ca ga n k (upd (sArrs k (f1, r1, sDec G k) i167).1 8 (((sArrs k (f1, r1, sDec G k) i167).1 8) + 1)) (sArrs k (f1, r1, sDec G k) i167).2.1 ++ (CW cI ca n ((sArrs k (f1, r1, sDec G k) i167).2.1 5) ++ RW cI ga k 3 (gUp (sArrs k (f1, r1, sDec G k) i167).2.2 i167 2 (-1)))) H := hP
                  have hD : va_D A (SC cI cR a ca ga n k (upd (sArrs k (f1, r1, sDec G k) i167).1 8 (((sArrs k (f1, r1, sDec G k) i167).1 8) + 1)) (sArrs k (f1, r1, sDec G k) i167).2.1 ++ (CW cI ca n ((sArrs k (f1, r1, sDec G k) i167).2.1 5) ++ RW cI ga k 3 (gUp (sArrs k (f1, r1, sDec G k) i167).2.2 i167 2 (-1)))) := hD
                  refine lv_aload hx hb dX2_pass_302 (lv_at hl 1 rfl) ?_
                  refine wAloadO_n hx hb dX2_pass_304 rfl (lv_at hl 4 rfl) ?_
                  refine lv_acmp_ne (rx := some (ga i167)) (ry := o1) (tgt := 352) hx hb dX2_pass_305 (by decide) (fun c_305 => ?_) (fun c_305 => ?_)
                  · refine lv_iinc (v := nI (i167 + 1)) (lv' := [(5, .int (nI (i167 + 1))), (7, .int (sFind (sArrs k (f1, r1, sDec G k) i167).2.2 ((sArrs k (f1, r1, sDec G k) i167).2.2 i167 1) ((sArrs k (f1, r1, sDec G k) i167).2.2 i167 0) k 0)), (6, .ref (ga i167)), (0, .ref (a 0)), (1, va_rf o1), (2, .int e2), (3, .ref (a 6)), (4, .int (nI k))]) hx hb dX2_pass_352 hl (k := 2) rfl (nI_1 i167) (by decide) (by cases o1 <;> rfl) (fun ls hl => ?_)
                    refine lv_goto (tgt := 167) hx hb dX2_pass_355 (by decide) ?_
                    have e167 : sArrs k (f1, r1, sDec G k) (i167 + 1) = ((upd (sArrs k (f1, r1, sDec G k) i167).1 8 (((sArrs k (f1, r1, sDec G k) i167).1 8) + 1)), (sArrs k (f1, r1, sDec G k) i167).2.1, gUp (sArrs k (f1, r1, sDec G k) i167).2.2 i167 2 (-1)) := by rw [sArrs, if_pos c_184, sArr, if_neg c2, if_pos c9]
                    have hP : va_P D vwCl (SC cI cR a ca ga n k (sArrs k (f1, r1, sDec G k) (i167 + 1)).1 (sArrs k (f1, r1, sDec G k) (i167 + 1)).2.1 ++ (CW cI ca n ((sArrs k (f1, r1, sDec G k) (i167 + 1)).2.1 5) ++ RW cI ga k 3 (sArrs k (f1, r1, sDec G k) (i167 + 1)).2.2)) H := by rw [e167]; exact hP
                    have hD : va_D A (SC cI cR a ca ga n k (sArrs k (f1, r1, sDec G k) (i167 + 1)).1 (sArrs k (f1, r1, sDec G k) (i167 + 1)).2.1 ++ (CW cI ca n ((sArrs k (f1, r1, sDec G k) (i167 + 1)).2.1 5) ++ RW cI ga k 3 (sArrs k (f1, r1, sDec G k) (i167 + 1)).2.2)) := by rw [e167]; exact hD
                    exact ih167 (i167 + 1) e2 (by omega) _ _ _ hP hD hS (lv_sub hl [0, 3, 4, 5, 6, 7] rfl)
                  · refine lv_iconst (v := 0) hx hb dX2_pass_308 (by decide) ?_
                    refine lv_istore_n (lv' := [(2, .int 0), (7, .int (sFind (sArrs k (f1, r1, sDec G k) i167).2.2 ((sArrs k (f1, r1, sDec G k) i167).2.2 i167 1) ((sArrs k (f1, r1, sDec G k) i167).2.2 i167 0) k 0)), (6, .ref (ga i167)), (5, .int (nI i167)), (0, .ref (a 0)), (1, va_rf o1), (3, .ref (a 6)), (4, .int (nI k))]) hx hb dX2_pass_309 rfl hl (by decide) (by cases o1 <;> rfl) (fun ls hl => ?_)
                    refine lv_goto (tgt := 352) hx hb dX2_pass_310 (by decide) ?_
                    refine lv_iinc (v := nI (i167 + 1)) (lv' := [(5, .int (nI (i167 + 1))), (2, .int 0), (7, .int (sFind (sArrs k (f1, r1, sDec G k) i167).2.2 ((sArrs k (f1, r1, sDec G k) i167).2.2 i167 1) ((sArrs k (f1, r1, sDec G k) i167).2.2 i167 0) k 0)), (6, .ref (ga i167)), (0, .ref (a 0)), (1, va_rf o1), (3, .ref (a 6)), (4, .int (nI k))]) hx hb dX2_pass_352 hl (k := 3) rfl (nI_1 i167) (by decide) (by cases o1 <;> rfl) (fun ls hl => ?_)
                    refine lv_goto (tgt := 167) hx hb dX2_pass_355 (by decide) ?_
                    have e167 : sArrs k (f1, r1, sDec G k) (i167 + 1) = ((upd (sArrs k (f1, r1, sDec G k) i167).1 8 (((sArrs k (f1, r1, sDec G k) i167).1 8) + 1)), (sArrs k (f1, r1, sDec G k) i167).2.1, gUp (sArrs k (f1, r1, sDec G k) i167).2.2 i167 2 (-1)) := by rw [sArrs, if_pos c_184, sArr, if_neg c2, if_pos c9]
                    have hP : va_P D vwCl (SC cI cR a ca ga n k (sArrs k (f1, r1, sDec G k) (i167 + 1)).1 (sArrs k (f1, r1, sDec G k) (i167 + 1)).2.1 ++ (CW cI ca n ((sArrs k (f1, r1, sDec G k) (i167 + 1)).2.1 5) ++ RW cI ga k 3 (sArrs k (f1, r1, sDec G k) (i167 + 1)).2.2)) H := by rw [e167]; exact hP
                    have hD : va_D A (SC cI cR a ca ga n k (sArrs k (f1, r1, sDec G k) (i167 + 1)).1 (sArrs k (f1, r1, sDec G k) (i167 + 1)).2.1 ++ (CW cI ca n ((sArrs k (f1, r1, sDec G k) (i167 + 1)).2.1 5) ++ RW cI ga k 3 (sArrs k (f1, r1, sDec G k) (i167 + 1)).2.2)) := by rw [e167]; exact hD
                    exact ih167 (i167 + 1) 0 (by omega) _ _ _ hP hD hS (lv_sub hl [0, 4, 5, 1, 6, 7] rfl)
              · have c2 : 0 ≤ sBack k (sArrs k (f1, r1, sDec G k) i167) i167 := Int32.not_lt.mp c_211
                obtain ⟨q, hq, eb, ed⟩ := sFind_in hk (Int32.not_lt.mp c_211)
                refine lv_aload_n hx hb dX2_pass_214 rfl (lv_at hl 3 rfl) ?_
                refine va_get (D := D) (ci := 2) (v := .ref (a 6)) (C := RX2) (T := TX2) (N := 15) hx hb hw2 (fun _ h => h) hown hK hP 0 rfl rfl 14 (by decide) k18 (fun _ h9 => h9) rfl dX2_pass_215 ?_
                refine lv_iload hx hb dX2_pass_218 (lv_at hl 0 rfl) ?_
                refine wAald hx hb hK hP 1 1 rfl rfl q eb (by omega) (by omega) (RF_in (by omega)) dX2_pass_220 ?_
                refine lv_astore (lv' := [(8, .ref (ga q)), (7, .int (sFind (sArrs k (f1, r1, sDec G k) i167).2.2 ((sArrs k (f1, r1, sDec G k) i167).2.2 i167 1) ((sArrs k (f1, r1, sDec G k) i167).2.2 i167 0) k 0)), (6, .ref (ga i167)), (5, .int (nI i167)), (0, .ref (a 0)), (1, va_rf o1), (2, .int e2), (3, .ref (a 6)), (4, .int (nI k))]) hx hb dX2_pass_221 hl (by decide) (by cases o1 <;> rfl) (fun ls hl => ?_)
                refine lv_aload hx hb dX2_pass_223 (lv_at hl 0 rfl) ?_
                refine lv_iconst (v := 2) hx hb dX2_pass_225 (by decide) ?_
                refine lv_iconst (v := (-1)) hx hb dX2_pass_226 (by decide) ?_
                refine wIastR (pre := SC cI cR a ca ga n k (sArrs k (f1, r1, sDec G k) i167).1 (sArrs k (f1, r1, sDec G k) i167).2.1 ++ CW cI ca n ((sArrs k (f1, r1, sDec G k) i167).2.1 5)) (suf := ([] : va_W)) (bb := ga) (N := k) (len := 3) (v := gUp (sArrs k (f1, r1, sDec G k) i167).2.2 i167 2 (-1)) (W1 := SC cI cR a ca ga n k (sArrs k (f1, r1, sDec G k) i167).1 (sArrs k (f1, r1, sDec G k) i167).2.1 ++ (CW cI ca n ((sArrs k (f1, r1, sDec G k) i167).2.1 5) ++ RW cI ga k 3 (gUp (gUp (sArrs k (f1, r1, sDec G k) i167).2.2 i167 2 (-1)) q 2 (-1)))) hx hb hK hP hD hS 0 (by simp only [List.append_assoc, List.append_nil, List.nil_append]) rfl q (by omega) 2 rfl (by decide) (by decide) (by simp only [List.append_assoc, List.append_nil, List.nil_append]) dX2_pass_227 (fun H locs hP hD hS => ?_)
                refine lv_aload_n hx hb dX2_pass_228 rfl (lv_at hl 4 rfl) ?_
                refine va_get (D := D) (ci := 2) (v := .ref (a 4)) (C := RX2) (T := TX2) (N := 15) hx hb hw2 (fun _ h => h) hown hK hP 0 rfl rfl 12 (by decide) k34 (fun _ h9 => h9) rfl dX2_pass_229 ?_
                refine lv_aload hx hb dX2_pass_232 (lv_at hl 2 rfl) ?_
                refine lv_iconst (v := 0) hx hb dX2_pass_234 (by decide) ?_
                refine wIaldR (pre := SC cI cR a ca ga n k (sArrs k (f1, r1, sDec G k) i167).1 (sArrs k (f1, r1, sDec G k) i167).2.1 ++ CW cI ca n ((sArrs k (f1, r1, sDec G k) i167).2.1 5)) (suf := ([] : va_W)) (bb := ga) (N := k) (len := 3) (v := gUp (gUp (sArrs k (f1, r1, sDec G k) i167).2.2 i167 2 (-1)) q 2 (-1)) hx hb hK hP 0 (by simp only [List.append_assoc, List.append_nil, List.nil_append]) rfl i167 (by omega) 0 rfl (by decide) (by decide) dX2_pass_235 ?_
                refine wTop (z := nI x) (by rw [gUp_j (by decide), gUp_j (by decide)]; exact ex) ?_
                refine lv_dup2_11 hx hb dX2_pass_236 rfl rfl ?_
                refine wIald hx hb hK hP 5 0 rfl rfl x rfl (by omega) (by omega) dX2_pass_237 ?_
                refine lv_iconst (v := 3) hx hb dX2_pass_238 (by decide) ?_
                refine lv_iadd hx hb dX2_pass_239 ?_
                refine wIast hx hb hK hP hD hS 5 0 rfl rfl x rfl (by omega) (by omega) dX2_pass_240 (fun H locs hP hD hS => ?_)
                have hP : va_P D vwCl (SC cI cR a ca ga n k (sArrs k (f1, r1, sDec G k) i167).1 (va_up (sArrs k (f1, r1, sDec G k) i167).2.1 3 (upd ((sArrs k (f1, r1, sDec G k) i167).2.1 3) x ((((sArrs k (f1, r1, sDec G k) i167).2.1 3) x) + 3))) ++ (CW cI ca n ((sArrs k (f1, r1, sDec G k) i167).2.1 5) ++ RW cI ga k 3 (gUp (gUp (sArrs k (f1, r1, sDec G k) i167).2.2 i167 2 (-1)) q 2 (-1)))) H := hP
                have hD : va_D A (SC cI cR a ca ga n k (sArrs k (f1, r1, sDec G k) i167).1 (va_up (sArrs k (f1, r1, sDec G k) i167).2.1 3 (upd ((sArrs k (f1, r1, sDec G k) i167).2.1 3) x ((((sArrs k (f1, r1, sDec G k) i167).2.1 3) x) + 3))) ++ (CW cI ca n ((sArrs k (f1, r1, sDec G k) i167).2.1 5) ++ RW cI ga k 3 (gUp (gUp (sArrs k (f1, r1, sDec G k) i167).2.2 i167 2 (-1)) q 2 (-1)))) := hD
                refine lv_aload_n hx hb dX2_pass_241 rfl (lv_at hl 4 rfl) ?_
                refine va_get (D := D) (ci := 2) (v := .ref (a 4)) (C := RX2) (T := TX2) (N := 15) hx hb hw2 (fun _ h => h) hown hK hP 0 rfl rfl 12 (by decide) k34 (fun _ h9 => h9) rfl dX2_pass_242 ?_
                refine lv_aload hx hb dX2_pass_245 (lv_at hl 2 rfl) ?_
                refine lv_iconst (v := 1) hx hb dX2_pass_247 (by decide) ?_
                refine wIaldR (pre := SC cI cR a ca ga n k (sArrs k (f1, r1, sDec G k) i167).1 (va_up (sArrs k (f1, r1, sDec G k) i167).2.1 3 (upd ((sArrs k (f1, r1, sDec G k) i167).2.1 3) x ((((sArrs k (f1, r1, sDec G k) i167).2.1 3) x) + 3))) ++ CW cI ca n ((sArrs k (f1, r1, sDec G k) i167).2.1 5)) (suf := ([] : va_W)) (bb := ga) (N := k) (len := 3) (v := gUp (gUp (sArrs k (f1, r1, sDec G k) i167).2.2 i167 2 (-1)) q 2 (-1)) hx hb hK hP 0 (by simp only [List.append_assoc, List.append_nil, List.nil_append]) rfl i167 (by omega) 1 rfl (by decide) (by decide) dX2_pass_248 ?_
                refine wTop (z := nI y) (by rw [gUp_j (by decide), gUp_j (by decide)]; exact ey) ?_
                refine lv_dup2_11 hx hb dX2_pass_249 rfl rfl ?_
                refine wIald hx hb hK hP 5 0 rfl rfl y rfl (by omega) (by omega) dX2_pass_250 ?_
                refine lv_iconst (v := 3) hx hb dX2_pass_251 (by decide) ?_
                refine lv_iadd hx hb dX2_pass_252 ?_
                refine wIast hx hb hK hP hD hS 5 0 rfl rfl y rfl (by omega) (by omega) dX2_pass_253 (fun H locs hP hD hS => ?_)
                have hP : va_P D vwCl (SC cI cR a ca ga n k (sArrs k (f1, r1, sDec G k) i167).1 (va_up (sArrs k (f1, r1, sDec G k) i167).2.1 3 (upd (upd ((sArrs k (f1, r1, sDec G k) i167).2.1 3) x ((((sArrs k (f1, r1, sDec G k) i167).2.1 3) x) + 3)) y (((upd ((sArrs k (f1, r1, sDec G k) i167).2.1 3) x ((((sArrs k (f1, r1, sDec G k) i167).2.1 3) x) + 3)) y) + 3))) ++ (CW cI ca n ((sArrs k (f1, r1, sDec G k) i167).2.1 5) ++ RW cI ga k 3 (gUp (gUp (sArrs k (f1, r1, sDec G k) i167).2.2 i167 2 (-1)) q 2 (-1)))) H := hP
                have hD : va_D A (SC cI cR a ca ga n k (sArrs k (f1, r1, sDec G k) i167).1 (va_up (sArrs k (f1, r1, sDec G k) i167).2.1 3 (upd (upd ((sArrs k (f1, r1, sDec G k) i167).2.1 3) x ((((sArrs k (f1, r1, sDec G k) i167).2.1 3) x) + 3)) y (((upd ((sArrs k (f1, r1, sDec G k) i167).2.1 3) x ((((sArrs k (f1, r1, sDec G k) i167).2.1 3) x) + 3)) y) + 3))) ++ (CW cI ca n ((sArrs k (f1, r1, sDec G k) i167).2.1 5) ++ RW cI ga k 3 (gUp (gUp (sArrs k (f1, r1, sDec G k) i167).2.2 i167 2 (-1)) q 2 (-1)))) := hD
                refine lv_aload_n hx hb dX2_pass_254 rfl (lv_at hl 4 rfl) ?_
                refine lv_dup hx hb dX2_pass_255 rfl ?_
                refine va_get (D := D) (ci := 2) (v := .int ((sArrs k (f1, r1, sDec G k) i167).1 7)) (C := RX2) (T := TX2) (N := 15) hx hb hw2 (fun _ h => h) hown hK hP 0 rfl rfl 7 (by decide) k56 (fun _ h9 => h9) rfl dX2_pass_256 ?_
                refine lv_iconst (v := 1) hx hb dX2_pass_259 (by decide) ?_
                refine lv_iadd hx hb dX2_pass_260 ?_
                refine va_put (D := D) (ci := 2) (v := .int (((sArrs k (f1, r1, sDec G k) i167).1 7) + 1)) (ty := .int) (C := RX2) (T := TX2) (N := 15) hx hb hw2 (fun _ h => h) tyX2 tyX2_ok nmX2 hown hK hP hD hS 0 rfl rfl 7 (by decide) k56 (fun _ h9 => h9) rfl (by decide +kernel) rfl rfl (Nat.le_of_ble_eq_true rfl) dX2_pass_261 (fun H locs hP hD hS => ?_)
                have hP : va_P D vwCl (SC cI cR a ca ga n k (upd (sArrs k (f1, r1, sDec G k) i167).1 7 (((sArrs k (f1, r1, sDec G k) i167).1 7) + 1)) (va_up (sArrs k (f1, r1, sDec G k) i167).2.1 3 (upd (upd ((sArrs k (f1, r1, sDec G k) i167).2.1 3) x ((((sArrs k (f1, r1, sDec G k) i167).2.1 3) x) + 3)) y (((upd ((sArrs k (f1, r1, sDec G k) i167).2.1 3) x ((((sArrs k (f1, r1, sDec G k) i167).2.1 3) x) + 3)) y) + 3))) ++ (CW cI ca n ((sArrs k (f1, r1, sDec G k) i167).2.1 5) ++ RW cI ga k 3 (gUp (gUp (sArrs k (f1, r1, sDec G k) i167).2.2 i167 2 (-1)) q 2 (-1)))) H := hP
                have hD : va_D A (SC cI cR a ca ga n k (upd (sArrs k (f1, r1, sDec G k) i167).1 7 (((sArrs k (f1, r1, sDec G k) i167).1 7) + 1)) (va_up (sArrs k (f1, r1, sDec G k) i167).2.1 3 (upd (upd ((sArrs k (f1, r1, sDec G k) i167).2.1 3) x ((((sArrs k (f1, r1, sDec G k) i167).2.1 3) x) + 3)) y (((upd ((sArrs k (f1, r1, sDec G k) i167).2.1 3) x ((((sArrs k (f1, r1, sDec G k) i167).2.1 3) x) + 3)) y) + 3))) ++ (CW cI ca n ((sArrs k (f1, r1, sDec G k) i167).2.1 5) ++ RW cI ga k 3 (gUp (gUp (sArrs k (f1, r1, sDec G k) i167).2.2 i167 2 (-1)) q 2 (-1)))) := hD
                refine lv_aload hx hb dX2_pass_264 (lv_at hl 2 rfl) ?_
                refine wAloadO_n hx hb dX2_pass_266 rfl (lv_at hl 5 rfl) ?_
                refine lv_acmp_eq (rx := some (ga i167)) (ry := o1) (tgt := 276) hx hb dX2_pass_267 (by decide) (fun c_267 => ?_) (fun c_267 => ?_)
                · refine lv_iconst (v := 3) hx hb dX2_pass_276 (by decide) ?_
                  refine lv_istore_n (lv' := [(2, .int 3), (8, .ref (ga q)), (7, .int (sFind (sArrs k (f1, r1, sDec G k) i167).2.2 ((sArrs k (f1, r1, sDec G k) i167).2.2 i167 1) ((sArrs k (f1, r1, sDec G k) i167).2.2 i167 0) k 0)), (6, .ref (ga i167)), (5, .int (nI i167)), (0, .ref (a 0)), (1, va_rf o1), (3, .ref (a 6)), (4, .int (nI k))]) hx hb dX2_pass_277 rfl hl (by decide) (by cases o1 <;> rfl) (fun ls hl => ?_)
                  refine lv_goto (tgt := 352) hx hb dX2_pass_278 (by decide) ?_
                  refine lv_iinc (v := nI (i167 + 1)) (lv' := [(5, .int (nI (i167 + 1))), (2, .int 3), (8, .ref (ga q)), (7, .int (sFind (sArrs k (f1, r1, sDec G k) i167).2.2 ((sArrs k (f1, r1, sDec G k) i167).2.2 i167 1) ((sArrs k (f1, r1, sDec G k) i167).2.2 i167 0) k 0)), (6, .ref (ga i167)), (0, .ref (a 0)), (1, va_rf o1), (3, .ref (a 6)), (4, .int (nI k))]) hx hb dX2_pass_352 hl (k := 4) rfl (nI_1 i167) (by decide) (by cases o1 <;> rfl) (fun ls hl => ?_)
                  refine lv_goto (tgt := 167) hx hb dX2_pass_355 (by decide) ?_
                  have e167 : sArrs k (f1, r1, sDec G k) (i167 + 1) = ((upd (sArrs k (f1, r1, sDec G k) i167).1 7 (((sArrs k (f1, r1, sDec G k) i167).1 7) + 1)), (va_up (sArrs k (f1, r1, sDec G k) i167).2.1 3 (upd (upd ((sArrs k (f1, r1, sDec G k) i167).2.1 3) x ((((sArrs k (f1, r1, sDec G k) i167).2.1 3) x) + 3)) y (((upd ((sArrs k (f1, r1, sDec G k) i167).2.1 3) x ((((sArrs k (f1, r1, sDec G k) i167).2.1 3) x) + 3)) y) + 3))), gUp (gUp (sArrs k (f1, r1, sDec G k) i167).2.2 i167 2 (-1)) q 2 (-1)) := by rw [sArrs, if_pos c_184, sArr, if_pos c2]; simp only [sBack, ed, edx, edy]
                  have hP : va_P D vwCl (SC cI cR a ca ga n k (sArrs k (f1, r1, sDec G k) (i167 + 1)).1 (sArrs k (f1, r1, sDec G k) (i167 + 1)).2.1 ++ (CW cI ca n ((sArrs k (f1, r1, sDec G k) (i167 + 1)).2.1 5) ++ RW cI ga k 3 (sArrs k (f1, r1, sDec G k) (i167 + 1)).2.2)) H := by rw [e167]; exact hP
                  have hD : va_D A (SC cI cR a ca ga n k (sArrs k (f1, r1, sDec G k) (i167 + 1)).1 (sArrs k (f1, r1, sDec G k) (i167 + 1)).2.1 ++ (CW cI ca n ((sArrs k (f1, r1, sDec G k) (i167 + 1)).2.1 5) ++ RW cI ga k 3 (sArrs k (f1, r1, sDec G k) (i167 + 1)).2.2)) := by rw [e167]; exact hD
                  exact ih167 (i167 + 1) 3 (by omega) _ _ _ hP hD hS (lv_sub hl [0, 5, 6, 1, 7, 8] rfl)
                · refine lv_aload hx hb dX2_pass_270 (lv_at hl 0 rfl) ?_
                  refine wAloadO_n hx hb dX2_pass_272 rfl (lv_at hl 5 rfl) ?_
                  refine lv_acmp_ne (rx := some (ga q)) (ry := o1) (tgt := 278) hx hb dX2_pass_273 (by decide) (fun c_273 => ?_) (fun c_273 => ?_)
                  · refine lv_goto (tgt := 352) hx hb dX2_pass_278 (by decide) ?_
                    refine lv_iinc (v := nI (i167 + 1)) (lv' := [(5, .int (nI (i167 + 1))), (8, .ref (ga q)), (7, .int (sFind (sArrs k (f1, r1, sDec G k) i167).2.2 ((sArrs k (f1, r1, sDec G k) i167).2.2 i167 1) ((sArrs k (f1, r1, sDec G k) i167).2.2 i167 0) k 0)), (6, .ref (ga i167)), (0, .ref (a 0)), (1, va_rf o1), (2, .int e2), (3, .ref (a 6)), (4, .int (nI k))]) hx hb dX2_pass_352 hl (k := 3) rfl (nI_1 i167) (by decide) (by cases o1 <;> rfl) (fun ls hl => ?_)
                    refine lv_goto (tgt := 167) hx hb dX2_pass_355 (by decide) ?_
                    have e167 : sArrs k (f1, r1, sDec G k) (i167 + 1) = ((upd (sArrs k (f1, r1, sDec G k) i167).1 7 (((sArrs k (f1, r1, sDec G k) i167).1 7) + 1)), (va_up (sArrs k (f1, r1, sDec G k) i167).2.1 3 (upd (upd ((sArrs k (f1, r1, sDec G k) i167).2.1 3) x ((((sArrs k (f1, r1, sDec G k) i167).2.1 3) x) + 3)) y (((upd ((sArrs k (f1, r1, sDec G k) i167).2.1 3) x ((((sArrs k (f1, r1, sDec G k) i167).2.1 3) x) + 3)) y) + 3))), gUp (gUp (sArrs k (f1, r1, sDec G k) i167).2.2 i167 2 (-1)) q 2 (-1)) := by rw [sArrs, if_pos c_184, sArr, if_pos c2]; simp only [sBack, ed, edx, edy]
                    have hP : va_P D vwCl (SC cI cR a ca ga n k (sArrs k (f1, r1, sDec G k) (i167 + 1)).1 (sArrs k (f1, r1, sDec G k) (i167 + 1)).2.1 ++ (CW cI ca n ((sArrs k (f1, r1, sDec G k) (i167 + 1)).2.1 5) ++ RW cI ga k 3 (sArrs k (f1, r1, sDec G k) (i167 + 1)).2.2)) H := by rw [e167]; exact hP
                    have hD : va_D A (SC cI cR a ca ga n k (sArrs k (f1, r1, sDec G k) (i167 + 1)).1 (sArrs k (f1, r1, sDec G k) (i167 + 1)).2.1 ++ (CW cI ca n ((sArrs k (f1, r1, sDec G k) (i167 + 1)).2.1 5) ++ RW cI ga k 3 (sArrs k (f1, r1, sDec G k) (i167 + 1)).2.2)) := by rw [e167]; exact hD
                    exact ih167 (i167 + 1) e2 (by omega) _ _ _ hP hD hS (lv_sub hl [0, 4, 5, 6, 7, 8] rfl)
                  · refine lv_iconst (v := 3) hx hb dX2_pass_276 (by decide) ?_
                    refine lv_istore_n (lv' := [(2, .int 3), (8, .ref (ga q)), (7, .int (sFind (sArrs k (f1, r1, sDec G k) i167).2.2 ((sArrs k (f1, r1, sDec G k) i167).2.2 i167 1) ((sArrs k (f1, r1, sDec G k) i167).2.2 i167 0) k 0)), (6, .ref (ga i167)), (5, .int (nI i167)), (0, .ref (a 0)), (1, va_rf o1), (3, .ref (a 6)), (4, .int (nI k))]) hx hb dX2_pass_277 rfl hl (by decide) (by cases o1 <;> rfl) (fun ls hl => ?_)
                    refine lv_goto (tgt := 352) hx hb dX2_pass_278 (by decide) ?_
                    refine lv_iinc (v := nI (i167 + 1)) (lv' := [(5, .int (nI (i167 + 1))), (2, .int 3), (8, .ref (ga q)), (7, .int (sFind (sArrs k (f1, r1, sDec G k) i167).2.2 ((sArrs k (f1, r1, sDec G k) i167).2.2 i167 1) ((sArrs k (f1, r1, sDec G k) i167).2.2 i167 0) k 0)), (6, .ref (ga i167)), (0, .ref (a 0)), (1, va_rf o1), (3, .ref (a 6)), (4, .int (nI k))]) hx hb dX2_pass_352 hl (k := 4) rfl (nI_1 i167) (by decide) (by cases o1 <;> rfl) (fun ls hl => ?_)
                    refine lv_goto (tgt := 167) hx hb dX2_pass_355 (by decide) ?_
                    have e167 : sArrs k (f1, r1, sDec G k) (i167 + 1) = ((upd (sArrs k (f1, r1, sDec G k) i167).1 7 (((sArrs k (f1, r1, sDec G k) i167).1 7) + 1)), (va_up (sArrs k (f1, r1, sDec G k) i167).2.1 3 (upd (upd ((sArrs k (f1, r1, sDec G k) i167).2.1 3) x ((((sArrs k (f1, r1, sDec G k) i167).2.1 3) x) + 3)) y (((upd ((sArrs k (f1, r1, sDec G k) i167).2.1 3) x ((((sArrs k (f1, r1, sDec G k) i167).2.1 3) x) + 3)) y) + 3))), gUp (gUp (sArrs k (f1, r1, sDec G k) i167).2.2 i167 2 (-1)) q 2 (-1)) := by rw [sArrs, if_pos c_184, sArr, if_pos c2]; simp only [sBack, ed, edx, edy]
                    have hP : va_P D vwCl (SC cI cR a ca ga n k (sArrs k (f1, r1, sDec G k) (i167 + 1)).1 (sArrs k (f1, r1, sDec G k) (i167 + 1)).2.1 ++ (CW cI ca n ((sArrs k (f1, r1, sDec G k) (i167 + 1)).2.1 5) ++ RW cI ga k 3 (sArrs k (f1, r1, sDec G k) (i167 + 1)).2.2)) H := by rw [e167]; exact hP
                    have hD : va_D A (SC cI cR a ca ga n k (sArrs k (f1, r1, sDec G k) (i167 + 1)).1 (sArrs k (f1, r1, sDec G k) (i167 + 1)).2.1 ++ (CW cI ca n ((sArrs k (f1, r1, sDec G k) (i167 + 1)).2.1 5) ++ RW cI ga k 3 (sArrs k (f1, r1, sDec G k) (i167 + 1)).2.2)) := by rw [e167]; exact hD
                    exact ih167 (i167 + 1) 3 (by omega) _ _ _ hP hD hS (lv_sub hl [0, 5, 6, 1, 7, 8] rfl)
            · refine lv_goto (tgt := 352) hx hb dX2_pass_187 (by decide) ?_
              refine lv_iinc (v := nI (i167 + 1)) (lv' := [(5, .int (nI (i167 + 1))), (6, .ref (ga i167)), (0, .ref (a 0)), (1, va_rf o1), (2, .int e2), (3, .ref (a 6)), (4, .int (nI k))]) hx hb dX2_pass_352 hl (k := 1) rfl (nI_1 i167) (by decide) (by cases o1 <;> rfl) (fun ls hl => ?_)
              refine lv_goto (tgt := 167) hx hb dX2_pass_355 (by decide) ?_
              have e167 : sArrs k (f1, r1, sDec G k) (i167 + 1) = (sArrs k (f1, r1, sDec G k) i167) := by rw [sArrs, if_neg c_184]
              have hP : va_P D vwCl (SC cI cR a ca ga n k (sArrs k (f1, r1, sDec G k) (i167 + 1)).1 (sArrs k (f1, r1, sDec G k) (i167 + 1)).2.1 ++ (CW cI ca n ((sArrs k (f1, r1, sDec G k) (i167 + 1)).2.1 5) ++ RW cI ga k 3 (sArrs k (f1, r1, sDec G k) (i167 + 1)).2.2)) H := by rw [e167]; exact hP
              have hD : va_D A (SC cI cR a ca ga n k (sArrs k (f1, r1, sDec G k) (i167 + 1)).1 (sArrs k (f1, r1, sDec G k) (i167 + 1)).2.1 ++ (CW cI ca n ((sArrs k (f1, r1, sDec G k) (i167 + 1)).2.1 5) ++ RW cI ga k 3 (sArrs k (f1, r1, sDec G k) (i167 + 1)).2.2)) := by rw [e167]; exact hD
              exact ih167 (i167 + 1) e2 (by omega) _ _ _ hP hD hS (lv_sub hl [0, 2, 3, 4, 5, 6] rfl)
        exact loop167 k 0 (-1) (by omega) _ _ _ hP hD hS (lv_sub hl [0, 3, 4, 5, 2, 1] rfl)
      | succ j ih121 =>
        intro i121 hi121 H locs ls hP hD hS hl
        refine lv_iload hx hb dX2_pass_121 (lv_at hl 0 rfl) ?_
        refine lv_iload hx hb dX2_pass_123 (lv_at hl 5 rfl) ?_
        refine lv_icmp_ge (tgt := 155) hx hb dX2_pass_125 (by decide) (fun h9 => absurd h9 (nI_ge (by omega) (by omega))) (fun c_125 => ?_)
        have c_125n := mt (nI_leI (a := k) (b := i121) (by omega) (by omega)).mpr c_125
        refine lv_aload_n hx hb dX2_pass_128 rfl (lv_at hl 4 rfl) ?_
        refine lv_iload hx hb dX2_pass_129 (lv_at hl 0 rfl) ?_
        refine wAald hx hb hK hP 1 1 rfl rfl i121 rfl (by omega) (by omega) (RF_in (by omega)) dX2_pass_131 ?_
        refine lv_astore (lv' := [(6, .ref (ga i121)), (5, .int (nI i121)), (0, .ref (a 0)), (1, va_rf o1), (2, .int (-1)), (3, .ref (a 6)), (4, .int (nI k))]) hx hb dX2_pass_132 hl (by decide) (by cases o1 <;> rfl) (fun ls hl => ?_)
        refine lv_aload hx hb dX2_pass_134 (lv_at hl 0 rfl) ?_
        refine lv_iconst (v := 2) hx hb dX2_pass_136 (by decide) ?_
        refine wIaldR (pre := SC cI cR a ca ga n k f1 r1 ++ CW cI ca n (r1 5)) (suf := ([] : va_W)) (bb := ga) (N := k) (len := 3) (v := (sDec G i121)) hx hb hK hP 0 (by simp only [List.append_assoc, List.append_nil, List.nil_append]) rfl i121 (by omega) 2 rfl (by decide) (by decide) dX2_pass_137 ?_
        refine lv_if_le (tgt := 149) hx hb dX2_pass_138 (by decide) (fun c_138 => ?_) (fun c_138 => ?_)
        · refine lv_iinc (v := nI (i121 + 1)) (lv' := [(5, .int (nI (i121 + 1))), (6, .ref (ga i121)), (0, .ref (a 0)), (1, va_rf o1), (2, .int (-1)), (3, .ref (a 6)), (4, .int (nI k))]) hx hb dX2_pass_149 hl (k := 1) rfl (nI_1 i121) (by decide) (by cases o1 <;> rfl) (fun ls hl => ?_)
          refine lv_goto (tgt := 121) hx hb dX2_pass_152 (by decide) ?_
          have e121 : sDec G (i121 + 1) = sDec G i121 := by rw [sDec, if_neg (Int32.not_lt.mpr c_138)]
          have hP : va_P D vwCl (SC cI cR a ca ga n k f1 r1 ++ (CW cI ca n (r1 5) ++ RW cI ga k 3 (sDec G (i121 + 1)))) H := by rw [e121]; exact hP
          have hD : va_D A (SC cI cR a ca ga n k f1 r1 ++ (CW cI ca n (r1 5) ++ RW cI ga k 3 (sDec G (i121 + 1)))) := by rw [e121]; exact hD
          exact ih121 (i121 + 1) (by omega) _ _ _ hP hD hS (lv_sub hl [0, 2, 3, 4, 5, 6] rfl)
        · refine lv_aload hx hb dX2_pass_141 (lv_at hl 0 rfl) ?_
          refine lv_iconst (v := 2) hx hb dX2_pass_143 (by decide) ?_
          refine lv_dup2_11 hx hb dX2_pass_144 rfl rfl ?_
          refine wIaldR (pre := SC cI cR a ca ga n k f1 r1 ++ CW cI ca n (r1 5)) (suf := ([] : va_W)) (bb := ga) (N := k) (len := 3) (v := (sDec G i121)) hx hb hK hP 0 (by simp only [List.append_assoc, List.append_nil, List.nil_append]) rfl i121 (by omega) 2 rfl (by decide) (by decide) dX2_pass_145 ?_
          refine lv_iconst (v := 1) hx hb dX2_pass_146 (by decide) ?_
          refine lv_isub hx hb dX2_pass_147 ?_
          refine wIastR (pre := SC cI cR a ca ga n k f1 r1 ++ CW cI ca n (r1 5)) (suf := ([] : va_W)) (bb := ga) (N := k) (len := 3) (v := (sDec G i121)) (W1 := SC cI cR a ca ga n k f1 r1 ++ (CW cI ca n (r1 5) ++ RW cI ga k 3 (gUp (sDec G i121) i121 2 (((sDec G i121) i121 2) - 1)))) hx hb hK hP hD hS 0 (by simp only [List.append_assoc, List.append_nil, List.nil_append]) rfl i121 (by omega) 2 rfl (by decide) (by decide) (by simp only [List.append_assoc, List.append_nil, List.nil_append]) dX2_pass_148 (fun H locs hP hD hS => ?_)
          refine lv_iinc (v := nI (i121 + 1)) (lv' := [(5, .int (nI (i121 + 1))), (6, .ref (ga i121)), (0, .ref (a 0)), (1, va_rf o1), (2, .int (-1)), (3, .ref (a 6)), (4, .int (nI k))]) hx hb dX2_pass_149 hl (k := 1) rfl (nI_1 i121) (by decide) (by cases o1 <;> rfl) (fun ls hl => ?_)
          refine lv_goto (tgt := 121) hx hb dX2_pass_152 (by decide) ?_
          have e121 : sDec G (i121 + 1) = gUp (sDec G i121) i121 2 (sDec G i121 i121 2 - 1) := by rw [sDec, if_pos (Int32.not_le.mp c_138)]
          have hP : va_P D vwCl (SC cI cR a ca ga n k f1 r1 ++ (CW cI ca n (r1 5) ++ RW cI ga k 3 (sDec G (i121 + 1)))) H := by rw [e121]; exact hP
          have hD : va_D A (SC cI cR a ca ga n k f1 r1 ++ (CW cI ca n (r1 5) ++ RW cI ga k 3 (sDec G (i121 + 1)))) := by rw [e121]; exact hD
          exact ih121 (i121 + 1) (by omega) _ _ _ hP hD hS (lv_sub hl [0, 2, 3, 4, 5, 6] rfl)
    exact loop121 k 0 (by omega) _ _ _ hP hD hS (lv_sub hl [0, 5, 4, 3, 2, 1] rfl)
  have join82 : ∀ (f1 : Nat → Int32) (r1 : Nat → Nat → Int32), dTalk f r = (f1, r1) → ∀ (H : Heap) (locs : List Loc) (ls : Array Slot), va_P D vwCl (SC cI cR a ca ga n k f1 r1 ++ (CW cI ca n (r1 5) ++ RW cI ga k 3 G)) H → va_D A (SC cI cR a ca ga n k f1 r1 ++ (CW cI ca n (r1 5) ++ RW cI ga k 3 G)) → va_S A s.heap H locs → lv_has ls 9 [(0, .ref (a 0))] → W p l e rmX2_pass s m args below meth c H locs 0 0 Q (F0 m 82 ls []) := by
    intro f1 r1 he H locs ls hP hD hS hl
    refine lv_aload_n hx hb dX2_pass_82 rfl (lv_at hl 0 rfl) ?_
    refine va_get (D := D) (ci := 2) (v := .ref (a 6)) (C := RX2) (T := TX2) (N := 15) hx hb hw2 (fun _ h => h) hown hK hP 0 rfl rfl 14 (by decide) k18 (fun _ h9 => h9) rfl dX2_pass_83 ?_
    refine va_alen (v := nI k) hx hb hK hP 1 1 rfl rfl rfl dX2_pass_86 ?_
    refine lv_if_ne (tgt := 94) hx hb dX2_pass_87 (by decide) (fun c_87 => ?_) (fun c_87 => ?_)
    · have hk0 : 0 < k := by
        rcases Nat.eq_zero_or_pos k with h | h
        · exact absurd (by rw [h]; rfl) c_87
        · exact h
      refine lv_aload_n hx hb dX2_pass_94 rfl (lv_at hl 0 rfl) ?_
      refine va_get (D := D) (ci := 2) (v := .ref (a 6)) (C := RX2) (T := TX2) (N := 15) hx hb hw2 (fun _ h => h) hown hK hP 0 rfl rfl 14 (by decide) k18 (fun _ h9 => h9) rfl dX2_pass_95 ?_
      refine lv_aload_n hx hb dX2_pass_98 rfl (lv_at hl 0 rfl) ?_
      refine va_get (D := D) (ci := 2) (v := .ref (a 6)) (C := RX2) (T := TX2) (N := 15) hx hb hw2 (fun _ h => h) hown hK hP 0 rfl rfl 14 (by decide) k18 (fun _ h9 => h9) rfl dX2_pass_99 ?_
      refine va_alen (v := nI k) hx hb hK hP 1 1 rfl rfl rfl dX2_pass_102 ?_
      refine lv_iconst (v := 1) hx hb dX2_pass_103 (by decide) ?_
      refine lv_isub hx hb dX2_pass_104 ?_
      refine wTop (z := nI (k - 1)) (nI_m1' hk0) ?_
      refine wAald hx hb hK hP 1 1 rfl rfl (k - 1) rfl (by omega) (by omega) (RF_in (by omega)) dX2_pass_105 ?_
      refine lv_astore_n (lv' := [(1, .ref (ga (k - 1))), (0, .ref (a 0))]) hx hb dX2_pass_106 rfl hl (by decide) rfl (fun ls hl => ?_)
      exact join107 f1 r1 (some (ga (k - 1))) he _ _ _ hP hD hS (lv_sub hl [0, 1] rfl)
    · refine lv_null hx hb dX2_pass_90 ?_
      refine lv_goto (tgt := 106) hx hb dX2_pass_91 (by decide) ?_
      refine lv_astore_nN (lv' := [(1, .null), (0, .ref (a 0))]) hx hb dX2_pass_106 rfl hl (by decide) rfl (fun ls hl => ?_)
      exact join107 f1 r1 none he _ _ _ hP hD hS (lv_sub hl [0, 1] rfl)
  refine lv_aload_n hx hb dX2_pass_0 rfl (lv_at hl 0 rfl) ?_
  refine va_get (D := D) (ci := 2) (v := .int (f 3)) (C := RX2) (T := TX2) (N := 15) hx hb hw2 (fun _ h => h) hown hK hP 0 rfl rfl 3 (by decide) k13 (fun _ h9 => h9) rfl dX2_pass_1 ?_
  refine lv_if_ge (tgt := 42) hx hb dX2_pass_4 (by decide) (fun c_4 => ?_) (fun c_4 => ?_)
  · have t3 : ¬ f 3 = -1 := fun e => absurd c_4 (by rw [e]; decide)
    obtain ⟨q, hq, eq⟩ := hs.resolve_left t3
    have en : dN (f 3) = q := by rw [eq]; exact dN_nI (by omega)
    refine lv_aload_n hx hb dX2_pass_42 rfl (lv_at hl 0 rfl) ?_
    refine lv_iconst (v := 0) hx hb dX2_pass_43 (by decide) ?_
    refine va_put (D := D) (ci := 2) (v := .int 0) (ty := .int) (C := RX2) (T := TX2) (N := 15) hx hb hw2 (fun _ h => h) tyX2 tyX2_ok nmX2 hown hK hP hD hS 0 rfl rfl 5 (by decide) k50 (fun _ h9 => h9) rfl (by decide +kernel) rfl rfl (Nat.le_of_ble_eq_true rfl) dX2_pass_44 (fun H locs hP hD hS => ?_)
    have hP : va_P D vwCl (SC cI cR a ca ga n k (upd f 5 0) r ++ (CW cI ca n (r 5) ++ RW cI ga k 3 G)) H := hP
    have hD : va_D A (SC cI cR a ca ga n k (upd f 5 0) r ++ (CW cI ca n (r 5) ++ RW cI ga k 3 G)) := hD
    refine lv_aload_n hx hb dX2_pass_47 rfl (lv_at hl 0 rfl) ?_
    refine va_get (D := D) (ci := 2) (v := .ref (a 1)) (C := RX2) (T := TX2) (N := 15) hx hb hw2 (fun _ h => h) hown hK hP 0 rfl rfl 9 (by decide) k25 (fun _ h9 => h9) rfl dX2_pass_48 ?_
    refine lv_aload_n hx hb dX2_pass_51 rfl (lv_at hl 0 rfl) ?_
    refine va_get (D := D) (ci := 2) (v := .int (f 3)) (C := RX2) (T := TX2) (N := 15) hx hb hw2 (fun _ h => h) hown hK hP 0 rfl rfl 3 (by decide) k13 (fun _ h9 => h9) rfl dX2_pass_52 ?_
    refine lv_dup2_11 hx hb dX2_pass_55 rfl rfl ?_
    refine wIald hx hb hK hP 2 0 rfl rfl q eq (by omega) (by omega) dX2_pass_56 ?_
    refine lv_iconst (v := 1) hx hb dX2_pass_57 (by decide) ?_
    refine lv_iadd hx hb dX2_pass_58 ?_
    refine wIast hx hb hK hP hD hS 2 0 rfl rfl q eq (by omega) (by omega) dX2_pass_59 (fun H locs hP hD hS => ?_)
    have hP : va_P D vwCl (SC cI cR a ca ga n k (upd f 5 0) (va_up r 0 (upd (r 0) q (((r 0) q) + 1))) ++ (CW cI ca n (r 5) ++ RW cI ga k 3 G)) H := hP
    have hD : va_D A (SC cI cR a ca ga n k (upd f 5 0) (va_up r 0 (upd (r 0) q (((r 0) q) + 1))) ++ (CW cI ca n (r 5) ++ RW cI ga k 3 G)) := hD
    refine lv_aload_n hx hb dX2_pass_60 rfl (lv_at hl 0 rfl) ?_
    refine lv_dup hx hb dX2_pass_61 rfl ?_
    refine va_get (D := D) (ci := 2) (v := .int (f 4)) (C := RX2) (T := TX2) (N := 15) hx hb hw2 (fun _ h => h) hown hK hP 0 rfl rfl 4 (by decide) k47 (fun _ h9 => h9) rfl dX2_pass_62 ?_
    refine lv_iconst (v := 1) hx hb dX2_pass_65 (by decide) ?_
    refine lv_isub hx hb dX2_pass_66 ?_
    refine va_put (D := D) (ci := 2) (v := .int ((f 4) - 1)) (ty := .int) (C := RX2) (T := TX2) (N := 15) hx hb hw2 (fun _ h => h) tyX2 tyX2_ok nmX2 hown hK hP hD hS 0 rfl rfl 4 (by decide) k47 (fun _ h9 => h9) rfl (by decide +kernel) rfl rfl (Nat.le_of_ble_eq_true rfl) dX2_pass_67 (fun H locs hP hD hS => ?_)
    have hP : va_P D vwCl (SC cI cR a ca ga n k (upd (upd f 4 ((f 4) - 1)) 5 0) (va_up r 0 (upd (r 0) q (((r 0) q) + 1))) ++ (CW cI ca n (r 5) ++ RW cI ga k 3 G)) H := hP
    have hD : va_D A (SC cI cR a ca ga n k (upd (upd f 4 ((f 4) - 1)) 5 0) (va_up r 0 (upd (r 0) q (((r 0) q) + 1))) ++ (CW cI ca n (r 5) ++ RW cI ga k 3 G)) := hD
    refine lv_aload_n hx hb dX2_pass_70 rfl (lv_at hl 0 rfl) ?_
    refine va_get (D := D) (ci := 2) (v := .int ((f 4) - 1)) (C := RX2) (T := TX2) (N := 15) hx hb hw2 (fun _ h => h) hown hK hP 0 rfl rfl 4 (by decide) k47 (fun _ h9 => h9) rfl dX2_pass_71 ?_
    refine lv_if_ne (tgt := 82) hx hb dX2_pass_74 (by decide) (fun c_74 => ?_) (fun c_74 => ?_)
    · exact join82 (upd (upd f 4 ((f 4) - 1)) 5 0) (va_up r 0 (upd (r 0) q (((r 0) q) + 1))) (by simp only [dTalk, dBm, if_pos hli, if_neg t3, en, if_neg c_74]) _ _ _ hP hD hS (lv_sub hl [0] rfl)
    · refine lv_aload_n hx hb dX2_pass_77 rfl (lv_at hl 0 rfl) ?_
      refine lv_iconst (v := (-1)) hx hb dX2_pass_78 (by decide) ?_
      refine va_put (D := D) (ci := 2) (v := .int (-1)) (ty := .int) (C := RX2) (T := TX2) (N := 15) hx hb hw2 (fun _ h => h) tyX2 tyX2_ok nmX2 hown hK hP hD hS 0 rfl rfl 3 (by decide) k13 (fun _ h9 => h9) rfl (by decide +kernel) rfl rfl (Nat.le_of_ble_eq_true rfl) dX2_pass_79 (fun H locs hP hD hS => ?_)
      have hP : va_P D vwCl (SC cI cR a ca ga n k (upd (upd (upd f 3 (-1)) 4 ((f 4) - 1)) 5 0) (va_up r 0 (upd (r 0) q (((r 0) q) + 1))) ++ (CW cI ca n (r 5) ++ RW cI ga k 3 G)) H := hP
      have hD : va_D A (SC cI cR a ca ga n k (upd (upd (upd f 3 (-1)) 4 ((f 4) - 1)) 5 0) (va_up r 0 (upd (r 0) q (((r 0) q) + 1))) ++ (CW cI ca n (r 5) ++ RW cI ga k 3 G)) := hD
      exact join82 (upd (upd (upd f 3 (-1)) 4 ((f 4) - 1)) 5 0) (va_up r 0 (upd (r 0) q (((r 0) q) + 1))) (by simp only [dTalk, dBm, if_pos hli, if_neg t3, en, if_pos c_74]) _ _ _ hP hD hS (lv_sub hl [0] rfl)
  · have t3 : f 3 = -1 := hs.resolve_right (fun ⟨q, hq, e⟩ => c_4 (by rw [e]; exact nI_pos' (by omega)))
    refine lv_aload_n hx hb dX2_pass_7 rfl (lv_at hl 0 rfl) ?_
    refine lv_dup hx hb dX2_pass_8 rfl ?_
    refine va_get (D := D) (ci := 2) (v := .int (f 5)) (C := RX2) (T := TX2) (N := 15) hx hb hw2 (fun _ h => h) hown hK hP 0 rfl rfl 5 (by decide) k50 (fun _ h9 => h9) rfl dX2_pass_9 ?_
    refine lv_iconst (v := 1) hx hb dX2_pass_12 (by decide) ?_
    refine lv_iadd hx hb dX2_pass_13 ?_
    refine va_put (D := D) (ci := 2) (v := .int ((f 5) + 1)) (ty := .int) (C := RX2) (T := TX2) (N := 15) hx hb hw2 (fun _ h => h) tyX2 tyX2_ok nmX2 hown hK hP hD hS 0 rfl rfl 5 (by decide) k50 (fun _ h9 => h9) rfl (by decide +kernel) rfl rfl (Nat.le_of_ble_eq_true rfl) dX2_pass_14 (fun H locs hP hD hS => ?_)
    have hP : va_P D vwCl (SC cI cR a ca ga n k (upd f 5 ((f 5) + 1)) r ++ (CW cI ca n (r 5) ++ RW cI ga k 3 G)) H := hP
    have hD : va_D A (SC cI cR a ca ga n k (upd f 5 ((f 5) + 1)) r ++ (CW cI ca n (r 5) ++ RW cI ga k 3 G)) := hD
    refine lv_aload_n hx hb dX2_pass_17 rfl (lv_at hl 0 rfl) ?_
    refine va_get (D := D) (ci := 2) (v := .int ((f 5) + 1)) (C := RX2) (T := TX2) (N := 15) hx hb hw2 (fun _ h => h) hown hK hP 0 rfl rfl 5 (by decide) k50 (fun _ h9 => h9) rfl dX2_pass_18 ?_
    refine lv_aload_n hx hb dX2_pass_21 rfl (lv_at hl 0 rfl) ?_
    refine va_get (D := D) (ci := 2) (v := .int (f 2)) (C := RX2) (T := TX2) (N := 15) hx hb hw2 (fun _ h => h) hown hK hP 0 rfl rfl 1 (by decide) k7 (fun _ h9 => h9) rfl dX2_pass_22 ?_
    refine lv_irem hx hb dX2_pass_25 (fun e => absurd hli (by rw [e]; decide)) ?_
    refine lv_if_ne (tgt := 82) hx hb dX2_pass_26 (by decide) (fun c_26 => ?_) (fun c_26 => ?_)
    · exact join82 (upd f 5 ((f 5) + 1)) r (by simp only [dTalk, dBm, if_pos hli, if_pos t3, if_neg c_26]) _ _ _ hP hD hS (lv_sub hl [0] rfl)
    · refine lv_aload_n hx hb dX2_pass_29 rfl (lv_at hl 0 rfl) ?_
      refine lv_dup hx hb dX2_pass_30 rfl ?_
      refine va_get (D := D) (ci := 2) (v := .int (f 6)) (C := RX2) (T := TX2) (N := 15) hx hb hw2 (fun _ h => h) hown hK hP 0 rfl rfl 6 (by decide) k53 (fun _ h9 => h9) rfl dX2_pass_31 ?_
      refine lv_iconst (v := 1) hx hb dX2_pass_34 (by decide) ?_
      refine lv_iadd hx hb dX2_pass_35 ?_
      refine va_put (D := D) (ci := 2) (v := .int ((f 6) + 1)) (ty := .int) (C := RX2) (T := TX2) (N := 15) hx hb hw2 (fun _ h => h) tyX2 tyX2_ok nmX2 hown hK hP hD hS 0 rfl rfl 6 (by decide) k53 (fun _ h9 => h9) rfl (by decide +kernel) rfl rfl (Nat.le_of_ble_eq_true rfl) dX2_pass_36 (fun H locs hP hD hS => ?_)
      have hP : va_P D vwCl (SC cI cR a ca ga n k (upd (upd f 5 ((f 5) + 1)) 6 ((f 6) + 1)) r ++ (CW cI ca n (r 5) ++ RW cI ga k 3 G)) H := hP
      have hD : va_D A (SC cI cR a ca ga n k (upd (upd f 5 ((f 5) + 1)) 6 ((f 6) + 1)) r ++ (CW cI ca n (r 5) ++ RW cI ga k 3 G)) := hD
      refine lv_goto (tgt := 82) hx hb dX2_pass_39 (by decide) ?_
      exact join82 (upd (upd f 5 ((f 5) + 1)) 6 ((f 6) + 1)) r (by simp only [dTalk, dBm, if_pos hli, if_pos t3, if_pos c_26]) _ _ _ hP hD hS (lv_sub hl [0] rfl)
abbrev rmX2_behind : Room := { frames := 2, cells := 0, slots := 0, locals := 51 }
set_option maxRecDepth 100000 in
set_option maxHeartbeats 4000000 in
/-- behind -/
theorem mX2_behind (l : Launch) (D : va_G) (cI cR : ClassId) (a ca ga : Nat → Nat) (n k : Nat) (f : Nat → Int32) (r G : Nat → Nat → Int32) (c9 : Nat) (sz : Nat) (hg : f 0 = nI n) (hn0 : 2 ≤ n) (hn1 : n ≤ 10) (hk : k ≤ 100) (hc : c9 < 2 ^ 31) (hp : ∀ i, i < c9 → pOk n k (sGo k (f, r, G) i)) : wCt l yX2_behind wsX2_behind rmX2_behind D [(cI, .int), (cR, .array .int)] [.ref (a 0), .int (nI c9)] (SC cI cR a ca ga n k f r ++ (CW cI ca n (r 5) ++ RW cI ga k 3 G)) sz 0 0 (wQr D (fun u : sS => u = sGo k (f, r, G) c9) (fun u : sS => SC cI cR a ca ga n k u.1 u.2.1 ++ (CW cI ca n (u.2.1 5) ++ RW cI ga k 3 u.2.2)) (fun _ : sS => a 0)) := by
  refine wMet cX2_behind 3 (some (.object "PauseLedgerLaw$Sim")) (by decide) rfl (Nat.le_of_ble_eq_true rfl) ?_
  intro p e s m args below meth c A Q ls hQ hx hb hr hml hown hlocks hin hts hN hP hK hD hA hS hl
  have hK1 : va_K D vwCl [(cI, .int)] s := hK.sub [0] rfl
  have hl : lv_has ls 3 [(0, .ref (a 0)), (1, .int (nI c9))] := hl
  have hown : s.vm.findClass RX2 = some m.cls := hown
  refine lv_iconst (v := 0) hx hb dX2_behind_0 (by decide) ?_
  refine lv_istore_n (lv' := [(2, .int 0), (0, .ref (a 0)), (1, .int (nI c9))]) hx hb dX2_behind_1 rfl hl (by decide) rfl (fun ls hl => ?_)
  have loop2 : ∀ (j i2 : Nat), i2 + j = c9 → ∀ (H : Heap) (locs : List Loc) (ls : Array Slot), va_P D vwCl (SC cI cR a ca ga n k (sGo k (f, r, G) i2).1 (sGo k (f, r, G) i2).2.1 ++ (CW cI ca n ((sGo k (f, r, G) i2).2.1 5) ++ RW cI ga k 3 (sGo k (f, r, G) i2).2.2)) H → va_D A (SC cI cR a ca ga n k (sGo k (f, r, G) i2).1 (sGo k (f, r, G) i2).2.1 ++ (CW cI ca n ((sGo k (f, r, G) i2).2.1 5) ++ RW cI ga k 3 (sGo k (f, r, G) i2).2.2)) → va_S A s.heap H locs → lv_has ls 3 [(2, .int (nI i2)), (0, .ref (a 0)), (1, .int (nI c9))] → W p l e rmX2_behind s m args below meth c H locs 0 0 Q (F0 m 2 ls []) := by
    intro j
    induction j with
    | zero =>
      intro i2 hi2 H locs ls hP hD hS hl
      have ez : c9 = i2 := by omega
      subst ez
      refine lv_iload_n hx hb dX2_behind_2 rfl (lv_at hl 0 rfl) ?_
      refine lv_iload_n hx hb dX2_behind_3 rfl (lv_at hl 2 rfl) ?_
      refine lv_icmp_ge (tgt := 18) hx hb dX2_behind_4 (by decide) (fun c_4 => ?_) (fun h9 => absurd (nI_le (by omega) (by omega)) h9)
      have c_4n := (nI_leI (a := c9) (b := c9) (by omega) (by omega)).mp c_4
      refine lv_aload_n hx hb dX2_behind_18 rfl (lv_at hl 1 rfl) ?_
      exact wRr hQ hx hb hr (Or.inl ⟨_, rfl⟩) hlocks hP hD hS dX2_behind_19 (sGo k (f, r, G) c9) (rfl) rfl rfl
    | succ j ih2 =>
      intro i2 hi2 H locs ls hP hD hS hl
      refine lv_iload_n hx hb dX2_behind_2 rfl (lv_at hl 0 rfl) ?_
      refine lv_iload_n hx hb dX2_behind_3 rfl (lv_at hl 2 rfl) ?_
      refine lv_icmp_ge (tgt := 18) hx hb dX2_behind_4 (by decide) (fun h9 => absurd h9 (nI_ge (by omega) (by omega))) (fun c_4 => ?_)
      have c_4n := mt (nI_leI (a := c9) (b := i2) (by omega) (by omega)).mpr c_4
      refine lv_aload_n hx hb dX2_behind_7 rfl (lv_at hl 1 rfl) ?_
      refine wCVi (pre := ([] : va_W)) (Wc := SC cI cR a ca ga n k (sGo k (f, r, G) i2).1 (sGo k (f, r, G) i2).2.1 ++ (CW cI ca n ((sGo k (f, r, G) i2).2.1 5) ++ RW cI ga k 3 (sGo k (f, r, G) i2).2.2)) (suf := ([] : va_W)) (As := []) (rest := []) ⟨hx, hb, hml, hown, hts⟩ (mX2_pass l D cI cR a ca ga n k (sGo k (f, r, G) i2).1 (sGo k (f, r, G) i2).2.1 (sGo k (f, r, G) i2).2.2 _ (hp i2 (by omega)).1 hn0 hn1 hk (hp i2 (by omega)).2.1 (hp i2 (by omega)).2.2.1 (hp i2 (by omega)).2.2.2) hN hA hK hS hP hD (by simp only [List.append_assoc, List.append_nil, List.nil_append]) 0 (r := (RX2, TX2, 15)) rfl rfl (cwV 0 hts gX2_behind_X2_pass rfl rfl rfl (by decide +kernel) ⟨Nat.le_of_ble_eq_true rfl, Nat.le_of_ble_eq_true rfl⟩) rfl hl.1 rfl (Nat.le_of_ble_eq_true rfl) dX2_behind_8 ⟨by show 0 ≤ 0; omega, by show 0 ≤ 0; omega⟩ (fun r_8 u_8 H locs hw hP hD hS => ?_)
      subst hw
      have hP : va_P D vwCl (SC cI cR a ca ga n k (sPass k ((sGo k (f, r, G) i2).1, (sGo k (f, r, G) i2).2.1, (sGo k (f, r, G) i2).2.2)).1 (sPass k ((sGo k (f, r, G) i2).1, (sGo k (f, r, G) i2).2.1, (sGo k (f, r, G) i2).2.2)).2.1 ++ (CW cI ca n ((sPass k ((sGo k (f, r, G) i2).1, (sGo k (f, r, G) i2).2.1, (sGo k (f, r, G) i2).2.2)).2.1 5) ++ RW cI ga k 3 (sPass k ((sGo k (f, r, G) i2).1, (sGo k (f, r, G) i2).2.1, (sGo k (f, r, G) i2).2.2)).2.2)) H := by simpa only [List.append_assoc, List.append_nil, List.nil_append] using hP
      have hD : va_D A (SC cI cR a ca ga n k (sPass k ((sGo k (f, r, G) i2).1, (sGo k (f, r, G) i2).2.1, (sGo k (f, r, G) i2).2.2)).1 (sPass k ((sGo k (f, r, G) i2).1, (sGo k (f, r, G) i2).2.1, (sGo k (f, r, G) i2).2.2)).2.1 ++ (CW cI ca n ((sPass k ((sGo k (f, r, G) i2).1, (sGo k (f, r, G) i2).2.1, (sGo k (f, r, G) i2).2.2)).2.1 5) ++ RW cI ga k 3 (sPass k ((sGo k (f, r, G) i2).1, (sGo k (f, r, G) i2).2.1, (sGo k (f, r, G) i2).2.2)).2.2)) := by simpa only [List.append_assoc, List.append_nil, List.nil_append] using hD
      refine lv_pop hx hb dX2_behind_11 rfl ?_
      refine lv_iinc (v := nI (i2 + 1)) (lv' := [(2, .int (nI (i2 + 1))), (0, .ref (a 0)), (1, .int (nI c9))]) hx hb dX2_behind_12 hl (k := 0) rfl (nI_1 i2) (by decide) rfl (fun ls hl => ?_)
      refine lv_goto (tgt := 2) hx hb dX2_behind_15 (by decide) ?_
      exact ih2 (i2 + 1) (by omega) _ _ _ hP hD hS (lv_sub hl [0, 1, 2] rfl)
  exact loop2 c9 0 (by omega) _ _ _ hP hD hS (lv_sub hl [0, 1, 2] rfl)
