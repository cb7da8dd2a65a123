/-! The law's loop: round by round, to the end of the script. -/
section LLP
theorem lt3 {LN i : Nat} (h : LN < 2 ^ 20) (h2 : i < 2 ^ 20) : (nI LN - 3 < nI i) ↔ LN < i + 3 := by
  have e : (nI LN - nI 3).toInt = (LN : Int) - 3 := pk_sub_toInt (by omega) (by omega)
  have e2 : (nI LN - 3 : Int32) = nI LN - nI 3 := rfl
  rw [e2, Int32.lt_iff_toInt_lt, e, nI_toInt (by omega)]
  omega
set_option maxRecDepth 100000 in
set_option maxHeartbeats 4000000 in
theorem law_loop {p : Program} {l : Launch} {e : Env} {s : State} {m : MethodId} {args : Array Value} {below : List Frame} {meth : Method} {c : Code} {D : va_G} {cI cJ : ClassId} {sb LN : Nat} {xs : Nat → Int32} {Q : State → Prop} (E9 : lawE p l s m args c D cI cJ sb LN xs) (hLN0 : LN ≤ 1536) (x0 : Nat) (a b : Nat → Nat) (q : Nat) (mb : Nat → Nat)
    (hret : ∀ (H : Heap) (locs : List Loc) (ls : Array Slot) (cells slots : Nat), (∀ z ∈ locs, s.heap.size ≤ z.base) → cells ≤ 601024 → slots ≤ 7293034 → W p l e room_1 s m args below meth c H locs cells slots Q (F0 m 1554 ls [])) (n : Nat) :
    ∀ (i k gg li : Nat) (L : List Nat) (f f2 : Nat → Int32) (r r2 : Nat → Nat → Int32) (v : Nat → Int64) (g nw kp : Nat → Int32) (H : Heap) (locs : List Loc) (ls : Array Slot) (cells slots : Nat), LN ≤ i + 3 * n + 2 → i + 3 * n ≤ 2000 → k + n ≤ 2000 → cells + n ≤ 601024 → slots + 11 * n ≤ 7293034 → RelS gg li f r L nw k → g 1 = nI gg → g 2 = nI li → va_P D vwCl (XO x0 a b ++ (DC cI a f r ++ (DC cI b f2 r2 ++ (OUT cJ q v ++ MC cI mb g nw kp)))) H → va_D (lwA s) (XO x0 a b ++ (DC cI a f r ++ (DC cI b f2 r2 ++ (OUT cJ q v ++ MC cI mb g nw kp)))) → va_S (lwA s) s.heap H locs → lv_has ls 9 [(4, .int (nI i)), (3, .ref q), (2, .ref (mb 0)), (1, .ref x0), (0, .ref sb)] → W p l e room_1 s m args below meth c H locs cells slots Q (F0 m 23 ls []) := by
  have E0 := E9
  obtain ⟨⟨hx, hb, hml, hown, hts⟩, hN, hE, hZ, hK, hX, hbl, hlt, hLN⟩ := E9
  induction n with
  | zero =>
    intro i k gg li L f f2 r r2 v g nw kp H locs ls cells slots b1 b2 b3 b4 b5 R hg1 hg2 hP hD hS hl
    refine lv_iload hx hb dL_law_23 (lv_at hl 0 rfl) ?_
    refine lv_aload_n hx hb dL_law_25 rfl (lv_at hl 4 rfl) ?_
    refine va_slen hx hb hX hbl (Nat.not_le.mpr hbl) hS dL_law_26 ?_
    refine wTop (z := nI LN) rfl ?_
    refine lv_iconst (v := 3) hx hb dL_law_27 (by decide) ?_
    refine lv_isub hx hb dL_law_28 ?_
    refine lv_icmp_gt (tgt := 1554) hx hb dL_law_29 (by decide) (fun c9 => ?_) (fun c9 => ?_)
    · exact hret H locs ls cells slots (fun z hz => hS.2.2 z hz) (by omega) (by omega)
    · exact absurd ((lt3 (by omega) (by omega)).mpr (by omega)) c9
  | succ n ih =>
    intro i k gg li L f f2 r r2 v g nw kp H locs ls cells slots b1 b2 b3 b4 b5 R hg1 hg2 hP hD hS hl
    refine lv_iload hx hb dL_law_23 (lv_at hl 0 rfl) ?_
    refine lv_aload_n hx hb dL_law_25 rfl (lv_at hl 4 rfl) ?_
    refine va_slen hx hb hX hbl (Nat.not_le.mpr hbl) hS dL_law_26 ?_
    refine wTop (z := nI LN) rfl ?_
    refine lv_iconst (v := 3) hx hb dL_law_27 (by decide) ?_
    refine lv_isub hx hb dL_law_28 ?_
    refine lv_icmp_gt (tgt := 1554) hx hb dL_law_29 (by decide) (fun c9 => ?_) (fun c9 => ?_)
    · exact hret H locs ls cells slots (fun z hz => hS.2.2 z hz) (by omega) (by omega)
    have hi : i + 2 < LN := by
      apply Nat.lt_of_not_le
      intro h
      exact c9 ((lt3 (by omega) (by omega)).mpr (by omega))
    have hcc : cells + 1 ≤ room_1.cells := by
      show cells + 1 ≤ 601024
      omega
    have hss : slots + 11 ≤ room_1.slots := by
      show slots + 11 ≤ 7293034
      omega
    have kk : lawK p l e s m args below meth c Q D cI cJ sb x0 a b q mb i cells slots k := by
      intro gg li k2 L f f2 r r2 v g nw kp H locs ls R2 hk2 h1 h2 hP hD hS hl
      refine lv_iinc (v := nI (i + 3)) (lv' := [(4, .int (nI (i + 3))), (3, .ref q), (2, .ref (mb 0)), (1, .ref x0), (0, .ref sb)]) hx hb dL_law_1548 hl (k := 0) rfl (nI_add i 3) (by decide) rfl (fun ls hl => ?_)
      refine lv_goto (tgt := 23) hx hb dL_law_1551 (by decide) ?_
      exact ih (i + 3) k2 gg li L f f2 r r2 v g nw kp H locs ls (cells + 1) (slots + 11) (by omega) (by omega) (by omega) (by omega) (by omega) R2 h1 h2 hP hD hS hl
    have hk : k < 2000 := by omega
    refine lv_aload_n hx hb dL_law_32 rfl (lv_at hl 4 rfl) ?_
    refine lv_iload hx hb dL_law_33 (lv_at hl 0 rfl) ?_
    refine wSld hx hb hX hbl hS i (by omega) hLN rfl dL_law_35 ?_
    refine lv_bipush (v := 63) hx hb dL_law_36 (by decide) ?_
    refine lv_iand hx hb dL_law_38 ?_
    obtain ⟨j, hj, ej⟩ := pk_andE (xs i) (m := 63) 6 (by decide)
    refine wTop (z := nI j) ej ?_
    by_cases h34 : j < 34
    · match j, h34 with
      | 0, _ => exact lv_tableIn (x := nI 0) (off := 149) (tgt := 188) hx hb dL_law_39 (by decide) (by decide) (by decide) (by decide) (cs_newDinner E0 x0 a b f f2 r r2 q v mb g nw kp i hi hcc hss hl hP hD hS R hk hg1 hg2 kk)
      | 1, _ => exact lv_tableIn (x := nI 1) (off := 205) (tgt := 244) hx hb dL_law_39 (by decide) (by decide) (by decide) (by decide) (cs_setLimit E0 x0 a b f f2 r r2 q v mb g nw kp i hi hcc hss hl hP hD hS R hk hg1 hg2 kk)
      | 2, _ => exact lv_tableIn (x := nI 2) (off := 261) (tgt := 300) hx hb dL_law_39 (by decide) (by decide) (by decide) (by decide) (cs_speak E0 x0 a b f f2 r r2 q v mb g nw kp i hi hcc hss hl hP hD hS R hk hg1 hg2 kk)
      | 3, _ => exact lv_tableIn (x := nI 3) (off := 329) (tgt := 368) hx hb dL_law_39 (by decide) (by decide) (by decide) (by decide) (cs_cough E0 x0 a b f f2 r r2 q v mb g nw kp i hi hcc hss hl hP hD hS R hk hg1 hg2 kk)
      | 4, _ => exact lv_tableIn (x := nI 4) (off := 397) (tgt := 436) hx hb dL_law_39 (by decide) (by decide) (by decide) (by decide) (cs_glance E0 x0 a b f f2 r r2 q v mb g nw kp i hi hcc hss hl hP hD hS R hk hg1 hg2 kk)
      | 5, _ => exact lv_tableIn (x := nI 5) (off := 465) (tgt := 504) hx hb dL_law_39 (by decide) (by decide) (by decide) (by decide) (cs_pass E0 x0 a b f f2 r r2 q v mb g nw kp i hi hcc hss hl hP hD hS R hk hg1 hg2 kk)
      | 6, _ => exact lv_tableIn (x := nI 6) (off := 521) (tgt := 560) hx hb dL_law_39 (by decide) (by decide) (by decide) (by decide) (cs_guests E0 x0 a b f f2 r r2 q v mb g nw kp i hi hcc hss hl hP hD hS R hk hg1 hg2 kk)
      | 7, _ => exact lv_tableIn (x := nI 7) (off := 534) (tgt := 573) hx hb dL_law_39 (by decide) (by decide) (by decide) (by decide) (cs_seconds E0 x0 a b f f2 r r2 q v mb g nw kp i hi hcc hss hl hP hD hS R hk hg1 hg2 kk)
      | 8, _ => exact lv_tableIn (x := nI 8) (off := 547) (tgt := 586) hx hb dL_law_39 (by decide) (by decide) (by decide) (by decide) (cs_limit E0 x0 a b f f2 r r2 q v mb g nw kp i hi hcc hss hl hP hD hS R hk hg1 hg2 kk)
      | 9, _ => exact lv_tableIn (x := nI 9) (off := 560) (tgt := 599) hx hb dL_law_39 (by decide) (by decide) (by decide) (by decide) (cs_seatsApart E0 x0 a b f f2 r r2 q v mb g nw kp i hi hcc hss hl hP hD hS R hk hg1 hg2 kk)
      | 10, _ => exact lv_tableIn (x := nI 10) (off := 628) (tgt := 667) hx hb dL_law_39 (by decide) (by decide) (by decide) (by decide) (cs_speaker E0 x0 a b f f2 r r2 q v mb g nw kp i hi hcc hss hl hP hD hS R hk hg1 hg2 kk)
      | 11, _ => exact lv_tableIn (x := nI 11) (off := 641) (tgt := 680) hx hb dL_law_39 (by decide) (by decide) (by decide) (by decide) (cs_secondsToSpeak E0 x0 a b f f2 r r2 q v mb g nw kp i hi hcc hss hl hP hD hS R hk hg1 hg2 kk)
      | 12, _ => exact lv_tableIn (x := nI 12) (off := 654) (tgt := 693) hx hb dL_law_39 (by decide) (by decide) (by decide) (by decide) (cs_pause E0 x0 a b f f2 r r2 q v mb g nw kp i hi hcc hss hl hP hD hS R hk hg1 hg2 kk)
      | 13, _ => exact lv_tableIn (x := nI 13) (off := 667) (tgt := 706) hx hb dL_law_39 (by decide) (by decide) (by decide) (by decide) (cs_spokenBy E0 x0 a b f f2 r r2 q v mb g nw kp i hi hcc hss hl hP hD hS R hk hg1 hg2 kk)
      | 14, _ => exact lv_tableIn (x := nI 14) (off := 723) (tgt := 762) hx hb dL_law_39 (by decide) (by decide) (by decide) (by decide) (cs_interruptionsBy E0 x0 a b f f2 r r2 q v mb g nw kp i hi hcc hss hl hP hD hS R hk hg1 hg2 kk)
      | 15, _ => exact lv_tableIn (x := nI 15) (off := 779) (tgt := 818) hx hb dL_law_39 (by decide) (by decide) (by decide) (by decide) (cs_coughsOf E0 x0 a b f f2 r r2 q v mb g nw kp i hi hcc hss hl hP hD hS R hk hg1 hg2 kk)
      | 16, _ => exact lv_tableIn (x := nI 16) (off := 835) (tgt := 874) hx hb dL_law_39 (by decide) (by decide) (by decide) (by decide) (cs_unsaidBy E0 x0 a b f f2 r r2 q v mb g nw kp i hi hcc hss hl hP hD hS R hk hg1 hg2 kk)
      | 17, _ => exact lv_tableIn (x := nI 17) (off := 891) (tgt := 930) hx hb dL_law_39 (by decide) (by decide) (by decide) (by decide) (cs_isUnderWay E0 x0 a b f f2 r r2 q v mb g nw kp i hi hcc hss hl hP hD hS R hk hg1 hg2 kk)
      | 18, _ => exact lv_tableIn (x := nI 18) (off := 966) (tgt := 1005) hx hb dL_law_39 (by decide) (by decide) (by decide) (by decide) (cs_secondsToGo E0 x0 a b f f2 r r2 q v mb g nw kp i hi hcc hss hl hP hD hS R hk hg1 hg2 kk)
      | 19, _ => exact lv_tableIn (x := nI 19) (off := 1034) (tgt := 1073) hx hb dL_law_39 (by decide) (by decide) (by decide) (by decide) (cs_caughtBy E0 x0 a b f f2 r r2 q v mb g nw kp i hi hcc hss hl hP hD hS R hk hg1 hg2 kk)
      | 20, _ => exact lv_tableIn (x := nI 20) (off := 1102) (tgt := 1141) hx hb dL_law_39 (by decide) (by decide) (by decide) (by decide) (cs_unsaidInPauses E0 x0 a b f f2 r r2 q v mb g nw kp i hi hcc hss hl hP hD hS R hk hg1 hg2 kk)
      | 21, _ => exact lv_tableIn (x := nI 21) (off := 1115) (tgt := 1154) hx hb dL_law_39 (by decide) (by decide) (by decide) (by decide) (cs_allUnsaid E0 x0 a b f f2 r r2 q v mb g nw kp i hi hcc hss hl hP hD hS R hk hg1 hg2 kk)
      | 22, _ => exact lv_tableIn (x := nI 22) (off := 1128) (tgt := 1167) hx hb dL_law_39 (by decide) (by decide) (by decide) (by decide) (cs_glancesUnderWay E0 x0 a b f f2 r r2 q v mb g nw kp i hi hcc hss hl hP hD hS R hk hg1 hg2 kk)
      | 23, _ => exact lv_tableIn (x := nI 23) (off := 1141) (tgt := 1180) hx hb dL_law_39 (by decide) (by decide) (by decide) (by decide) (cs_meetings E0 x0 a b f f2 r r2 q v mb g nw kp i hi hcc hss hl hP hD hS R hk hg1 hg2 kk)
      | 24, _ => exact lv_tableIn (x := nI 24) (off := 1154) (tgt := 1193) hx hb dL_law_39 (by decide) (by decide) (by decide) (by decide) (cs_lostGlances E0 x0 a b f f2 r r2 q v mb g nw kp i hi hcc hss hl hP hD hS R hk hg1 hg2 kk)
      | 25, _ => exact lv_tableIn (x := nI 25) (off := 1167) (tgt := 1206) hx hb dL_law_39 (by decide) (by decide) (by decide) (by decide) (cs_quietest E0 x0 a b f f2 r r2 q v mb g nw kp i hi hcc hss hl hP hD hS R hk hg1 hg2 kk)
      | 26, _ => exact lv_tableIn (x := nI 26) (off := 1180) (tgt := 1219) hx hb dL_law_39 (by decide) (by decide) (by decide) (by decide) (cs_rating E0 x0 a b f f2 r r2 q v mb g nw kp i hi hcc hss hl hP hD hS R hk hg1 hg2 kk)
      | 27, _ => exact lv_tableIn (x := nI 27) (off := 1193) (tgt := 1232) hx hb dL_law_39 (by decide) (by decide) (by decide) (by decide) (cs_allUnsaidIn E0 x0 a b f f2 r r2 q v mb g nw kp i hi hcc hss hl hP hD hS R hk hg1 hg2 kk)
      | 28, _ => exact lv_tableIn (x := nI 28) (off := 1249) (tgt := 1288) hx hb dL_law_39 (by decide) (by decide) (by decide) (by decide) (cs_secondsUntilPauseCounts E0 x0 a b f f2 r r2 q v mb g nw kp i hi hcc hss hl hP hD hS R hk hg1 hg2 kk)
      | 29, _ => exact lv_tableIn (x := nI 29) (off := 1262) (tgt := 1301) hx hb dL_law_39 (by decide) (by decide) (by decide) (by decide) (cs_wouldLeave E0 x0 a b f f2 r r2 q v mb g nw kp i hi hcc hss hl hP hD hS R hk hg1 hg2 kk)
      | 30, _ => exact lv_tableIn (x := nI 30) (off := 1330) (tgt := 1369) hx hb dL_law_39 (by decide) (by decide) (by decide) (by decide) (cs_bestMoment E0 x0 a b f f2 r r2 q v mb g nw kp i hi hcc hss hl hP hD hS R hk hg1 hg2 kk)
      | 31, _ => exact lv_tableIn (x := nI 31) (off := 1398) (tgt := 1437) hx hb dL_law_39 (by decide) (by decide) (by decide) (by decide) (cs_ratingIn E0 x0 a b f f2 r r2 q v mb g nw kp i hi hcc hss hl hP hD hS R hk hg1 hg2 kk)
      | 32, _ => exact lv_tableIn (x := nI 32) (off := 1454) (tgt := 1493) hx hb dL_law_39 (by decide) (by decide) (by decide) (by decide) (cs_meanUnsaid E0 x0 a b f f2 r r2 q v mb g nw kp i hi hcc hss hl hP hD hS R hk hg1 hg2 kk)
      | 33, _ => exact lv_tableIn (x := nI 33) (off := 1495) (tgt := 1534) hx hb dL_law_39 (by decide) (by decide) (by decide) (by decide) (cs_digest E0 x0 a b f f2 r r2 q v mb g nw kp i hi hcc hss hl hP hD hS R hk hg1 hg2 kk)
      | j + 34, h => exact absurd h (by omega)
    · refine lv_tableOut (x := nI j) (tgt := 1548) hx hb dL_law_39 (Or.inr (by rw [nI_toInt (by omega)]; omega)) (by decide) ?_
      exact W.widen (k := cells + 1) (n := slots + 11) (by omega) (by omega) (kk gg li k L f f2 r r2 v g nw kp H locs ls R (Nat.le_succ k) hg1 hg2 hP hD hS hl)
end LLP
