/-! a double that is no NaN is equal to itself -/
section S99p
theorem dcmp_self {r : UInt64} (h : vf_n64 r) : FP.dcmp r r = some .eq := by
  have hn : r.toNat % 2 ^ 63 ≤ 9218868437227405312 := by
    have h1 : (r &&& 0x7fffffffffffffff).toNat ≤ (0x7ff0000000000000 : UInt64).toNat := UInt64.le_iff_toNat_le.mp h
    rw [UInt64.toNat_and, show (0x7fffffffffffffff : UInt64).toNat = 2 ^ 63 - 1 from rfl, Nat.and_two_pow_sub_one_eq_mod] at h1
    exact h1
  have hd : FP.Core.decode FP.Core.b64 r.toNat ≠ .nan := by
    intro e
    unfold FP.Core.decode at e
    split at e
    · next h1 =>
      split at e
      · cases e
      · next h2 =>
        have g1 : r.toNat / 2 ^ 52 % 2 ^ 11 = 2 ^ 11 - 1 := h1
        have g2 : ¬ r.toNat % 2 ^ 52 = 0 := h2
        omega
    · split at e <;> cases e
  show FP.Core.order (FP.Core.decode FP.Core.b64 r.toNat) (FP.Core.decode FP.Core.b64 r.toNat) = some .eq
  cases hx : FP.Core.decode FP.Core.b64 r.toNat with
  | nan => exact absurd hx hd
  | inf s => simp [FP.Core.order]
  | fin s c q => simp [FP.Core.order]
end S99p
