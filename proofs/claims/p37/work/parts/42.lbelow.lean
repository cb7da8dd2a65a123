abbrev rmL_below : Room := { frames := 0, cells := 0, slots := 0, locals := 0 }
set_option maxRecDepth 100000 in
set_option maxHeartbeats 4000000 in
/-- below -/
theorem mL_below (l : Launch) (D : va_G) (cI cR : ClassId) (v : Int32) (nn : Nat) (sz : Nat) (h1 : 0 < nn) (h2 : nn < 2 ^ 31) : wCt l yL_below wsL_below rmL_below D [(cI, .int), (cR, .array .int)] [.int v, .int (nI nn)] (([] : va_W)) sz 0 0 (wQi D (fun z9 (u : Nat) => z9 = nI u ∧ u < nn) (fun _ : Nat => ([] : va_W))) := by
  refine wMet cL_below 2 (some .int) (by decide) rfl (Nat.le_of_ble_eq_true rfl) ?_
  intro p e s m args below meth c A Q ls hQ hx hb hr hml hown hlocks hin hts hN hP hK hD hA hS hl
  have hK1 : va_K D vwCl [(cI, .int)] s := hK.sub [0] rfl
  have hl : lv_has ls 2 [(0, .int v), (1, .int (nI nn))] := hl
  have hown : s.vm.findClass RL = some m.cls := hown
  obtain ⟨t, ht, et⟩ := below_ex v
  refine lv_iload_n hx hb dL_below_0 rfl (lv_at hl 0 rfl) ?_
  refine lv_ldc (v := 2147483647) hx hb hown (hts (.constant RL 7 (2147483647)) (by decide +kernel)) dL_below_1 ?_
  refine lv_iand hx hb dL_below_3 ?_
  refine wTop (z := nI t) (et) ?_
  refine lv_iload_n hx hb dL_below_4 rfl (lv_at hl 1 rfl) ?_
  refine lv_irem hx hb dL_below_5 (nI_ne0 (by omega) (by omega)) ?_
  refine wTop (z := nI (t % nn)) (pk_rem (a := t) (d := nn) (by omega) (by omega) (by omega)) ?_
  exact wRi hQ hx hb hr hlocks hP hD hS dL_below_6 (t % nn) (⟨rfl, Nat.mod_lt _ h1⟩) rfl
abbrev rmL_cell : Room := { frames := 0, cells := 0, slots := 0, locals := 0 }
set_option maxRecDepth 100000 in
set_option maxHeartbeats 4000000 in
/-- cell -/
theorem mL_cell (l : Launch) (D : va_G) (cI cR : ClassId) (kk : Nat) (sz sb LN : Nat) (xs : Nat → Int32) (hkk : kk < 2 ^ 31) (hLN : LN < 2 ^ 31) : wCc l yL_cell wsL_cell rmL_cell D [(cI, .int), (cR, .array .int)] [.ref sb, .int (nI kk)] (([] : va_W)) sz 0 0 sb LN xs (wQi D (fun _ (_ : Unit) => True) (fun _ : Unit => ([] : va_W))) := by
  refine wMetC cL_cell 2 (some .int) (by decide) rfl (Nat.le_of_ble_eq_true rfl) ?_
  intro p e s m args below meth c A Q ls hQ hx hb hr hml hown hlocks hin hts hN hP hK hD hA hS hl hX hbl hbA
  have hK1 : va_K D vwCl [(cI, .int)] s := hK.sub [0] rfl
  have hl : lv_has ls 2 [(0, .ref sb), (1, .int (nI kk))] := hl
  have hown : s.vm.findClass RL = some m.cls := hown
  refine lv_iload_n hx hb dL_cell_0 rfl (lv_at hl 1 rfl) ?_
  refine lv_aload_n hx hb dL_cell_1 rfl (lv_at hl 0 rfl) ?_
  refine va_slen hx hb hX hbl hbA hS dL_cell_2 ?_
  refine wTop (z := nI LN) (rfl) ?_
  refine lv_icmp_ge (tgt := 12) hx hb dL_cell_3 (by decide) (fun c_3 => ?_) (fun c_3 => ?_)
  · have c_3n := (nI_leI (a := LN) (b := kk) (by omega) (by omega)).mp c_3
    refine lv_ldc (v := 790386105) hx hb hown (hts (.constant RL 8 (790386105)) (by decide +kernel)) dL_cell_12 ?_
    refine lv_iload_n hx hb dL_cell_14 rfl (lv_at hl 1 rfl) ?_
    refine lv_iconst (v := 3) hx hb dL_cell_15 (by decide) ?_
    refine lv_iadd hx hb dL_cell_16 ?_
    refine wTop (z := nI (kk + 3)) (nI_add kk 3) ?_
    refine lv_imul hx hb dL_cell_17 ?_
    refine wTop (z := nI (790386105 * (kk + 3))) (pk_mul 790386105 (kk + 3)) ?_
    exact wRi hQ hx hb hr hlocks hP hD hS dL_cell_18 () (trivial) rfl
  · have c_3n := mt (nI_leI (a := LN) (b := kk) (by omega) (by omega)).mpr c_3
    refine lv_aload_n hx hb dL_cell_6 rfl (lv_at hl 0 rfl) ?_
    refine lv_iload_n hx hb dL_cell_7 rfl (lv_at hl 1 rfl) ?_
    refine va_sld hx hb hX hbl hbA hS (vp_in_nI (n := kk) (N := LN) (by omega) (by omega)) dL_cell_8 ?_
    refine lv_topi (fun x8 ex8 => ?_)
    refine lv_goto (tgt := 18) hx hb dL_cell_9 (by decide) ?_
    exact wRi hQ hx hb hr hlocks hP hD hS dL_cell_18 () (trivial) rfl
