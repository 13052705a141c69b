/-! further rows of the reference's bits -/
theorem bo_c {E q N : Nat} (h : E * 4503599627370496 + (q + 1 - 4503599627370496) = N) (hq : q + 1 = 9007199254740992) : (E + 1) * 4503599627370496 + (4503599627370496 - 4503599627370496) = N := by
  rw [← h, hq, Nat.add_mul, Nat.one_mul, Nat.sub_self, Nat.add_zero]
