theorem bw_lo {x y z : Int32} (h : ¬ x ≤ y) (hz : x < z) : bw x y z = x := by
  have h1 := Int32.not_le.mp h
  unfold bw
  rw [if_neg (show ¬ z < y from fun q => absurd (Int32.lt_trans (Int32.lt_trans hz q) h1) Int32.lt_irrefl), if_neg (fun q => absurd (Int32.lt_trans q h1) Int32.lt_irrefl)]
theorem bw_hi {x y z : Int32} (hz : x < z) (h : ¬ y ≤ z) : bw x y z = z := by
  have h1 := Int32.not_le.mp h
  unfold bw
  rw [if_pos h1, if_pos hz]
theorem bw_in {x y z : Int32} (h : x ≤ y) (h2 : y ≤ z) : bw x y z = y := by
  unfold bw
  rw [if_neg (fun q => absurd h2 (Int32.not_le.mpr q))]
  by_cases q : x < y
  · rw [if_pos q]
  · rw [if_neg q]
    exact Int32.le_antisymm h (Int32.not_lt.mp q)
theorem uOf_D (x : Int32) : uOf x = uD (x.toBitVec.toNat % 2 ^ 2) := by
  unfold uOf uD
  rcases (by omega : x.toBitVec.toNat % 2 ^ 2 = 0 ∨ x.toBitVec.toNat % 2 ^ 2 = 1 ∨ x.toBitVec.toNat % 2 ^ 2 = 2 ∨ x.toBitVec.toNat % 2 ^ 2 = 3) with e | e | e | e <;> rw [e] <;> rfl
