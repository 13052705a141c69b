/-! further pure rows -/
theorem nb_53 {k u d s : Nat} (hk : k ≤ 1000000000) (hu1 : 1 ≤ u) (hs : s = k * 2 ^ d) (hlt : ∀ e, e < d → k * 2 ^ e < 4503599627370496 * u) : s / u < 9007199254740992 := by
  have h2 : s < 9007199254740992 * u := by
    cases d with
    | zero => rw [Nat.pow_zero, Nat.mul_one] at hs; omega
    | succ e =>
      have h := hlt e (Nat.lt_succ_self e)
      rw [Nat.pow_succ, ← Nat.mul_assoc] at hs
      omega
  exact (Nat.div_lt_iff_lt_mul (by omega)).mpr h2
