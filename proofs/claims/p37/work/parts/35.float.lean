section RelK
theorem i2d_small : ∀ gg : Fin 11, 2 ≤ gg.val → ∃ c : Fin (2 ^ 53), 0 < c.val ∧ FP.Core.val64 (FP.Core.i2d (nI gg.val)) = .fin false c.val (FP.Core.val64 (FP.Core.i2d (nI gg.val)) |> fun d => match d with | .fin _ _ q => q | _ => 0) := by
  intro gg h
  have hb := gg.isLt
  rcases (show gg.val = 2 ∨ gg.val = 3 ∨ gg.val = 4 ∨ gg.val = 5 ∨ gg.val = 6 ∨ gg.val = 7 ∨ gg.val = 8 ∨ gg.val = 9 ∨ gg.val = 10 by omega) with e | e | e | e | e | e | e | e | e <;> rw [e]
  · exact ⟨⟨2 ^ 52, by decide⟩, by decide, by decide +kernel⟩
  · exact ⟨⟨3 * 2 ^ 51, by decide⟩, by decide, by decide +kernel⟩
  · exact ⟨⟨2 ^ 52, by decide⟩, by decide, by decide +kernel⟩
  · exact ⟨⟨5 * 2 ^ 50, by decide⟩, by decide, by decide +kernel⟩
  · exact ⟨⟨6 * 2 ^ 50, by decide⟩, by decide, by decide +kernel⟩
  · exact ⟨⟨7 * 2 ^ 50, by decide⟩, by decide, by decide +kernel⟩
  · exact ⟨⟨2 ^ 52, by decide⟩, by decide, by decide +kernel⟩
  · exact ⟨⟨9 * 2 ^ 49, by decide⟩, by decide, by decide +kernel⟩
  · exact ⟨⟨10 * 2 ^ 49, by decide⟩, by decide, by decide +kernel⟩
theorem mean_nn (a : Int32) {gg : Nat} (h2 : 2 ≤ gg) (h10 : gg ≤ 10) : vf_n64 (FP.ddiv (FP.i2d a) (FP.i2d (nI gg))) := by
  obtain ⟨c, hc, e⟩ := i2d_small ⟨gg, by omega⟩ h2
  dsimp only at e
  have hn : FP.Core.val64 (FP.Core.ddiv (FP.Core.i2d a) (FP.Core.i2d (nI gg))) ≠ .nan := by
    rw [FP.Core.val64_ddiv, e, FP.Core.val64_i2d]
    have hr : FP.Core.round FP.Core.b64 (FP.Core.ofInt a.toInt) ≠ .nan := by
      unfold FP.Core.ofInt FP.Core.round
      exact FP.Core.roundRatio_ne_nan _ _ _ _ _
    generalize FP.Core.round FP.Core.b64 (FP.Core.ofInt a.toInt) = d at hr
    cases d with
    | nan => exact absurd rfl hr
    | inf s => exact FP.Core.Datum.noConfusion
    | fin s c2 q2 =>
      unfold FP.Core.quotient
      dsimp only
      rw [if_neg (by omega)]
      exact FP.Core.roundRatio_ne_nan _ _ _ _ _
  have hm := (FP.Core.ne_nan _).mp hn
  show (FP.Core.ddiv (FP.Core.i2d a) (FP.Core.i2d (nI gg))) &&& 0x7fffffffffffffff ≤ 0x7ff0000000000000
  rw [UInt64.le_iff_toNat_le, UInt64.toNat_and]
  have k : (0x7fffffffffffffff : UInt64).toNat = 2 ^ 63 - 1 := by decide
  rw [k, Nat.and_two_pow_sub_one_eq_mod]
  exact hm
end RelK
