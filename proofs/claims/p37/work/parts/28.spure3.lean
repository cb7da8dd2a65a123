/-! A new dinner of the law; what is compared. -/
section SP4
def sF0 (n : Nat) : Nat → Int32 := upd (upd (upd (fun _ => 0) 0 (nI n)) 2 5) 3 (-1)
theorem and_nn (v : Int32) : ¬ (v &&& 2147483647) < 0 := by
  intro h
  rw [Int32.lt_iff_toInt_lt] at h
  have e : (v &&& 2147483647).toInt = (v.toBitVec &&& (2147483647 : Int32).toBitVec).toInt := rfl
  have h0 : (0 : Int32).toInt = 0 := by decide
  rw [h0, e, BitVec.toInt_eq_msb_cond, BitVec.msb_and, show (2147483647 : Int32).toBitVec.msb = false from by decide, Bool.and_false, if_neg (by decide)] at h
  omega
theorem below_ex (v : Int32) : ∃ t : Nat, t < 2 ^ 31 ∧ (v &&& 2147483647) = nI t := nI_of (and_nn v)
theorem dQ_s (u : Nat → Int32) : ∀ i, (if u (dQuiet u (i - 1)) < u i then i else dQuiet u (i - 1)) = dQuiet u i
  | 0 => by
    show (if u 0 < u 0 then 0 else 0) = 0
    split <;> rfl
  | i + 1 => rfl
theorem dcmp_self' {a : UInt64} (h : vf_n64 a) : Op.cmpValue (FP.dcmp a a) CmpOp.l = 0 := by
  have hm : FP.Core.val64 a ≠ .nan := by
    refine (FP.Core.ne_nan a).mpr ?_
    have h2 : a &&& 0x7fffffffffffffff ≤ 0x7ff0000000000000 := h
    rw [UInt64.le_iff_toNat_le, UInt64.toNat_and] at h2
    have k : (0x7fffffffffffffff : UInt64).toNat = 2 ^ 63 - 1 := by decide
    rw [k, Nat.and_two_pow_sub_one_eq_mod] at h2
    exact h2
  have e : FP.dcmp a a = some .eq := FP.Core.dcmp_self hm
  rw [e]
  rfl
end SP4
