/-! what a new object keeps -/
def uOf (x : Int32) : Nat := [1, 10, 100, 1000].getD (x.toBitVec.toNat % 2 ^ 2) 0
theorem uOf_ok (x : Int32) : 1 ≤ uOf x ∧ uOf x ≤ 1000 := by
  unfold uOf
  rcases (by omega : x.toBitVec.toNat % 2 ^ 2 = 0 ∨ x.toBitVec.toNat % 2 ^ 2 = 1 ∨ x.toBitVec.toNat % 2 ^ 2 = 2 ∨ x.toBitVec.toNat % 2 ^ 2 = 3) with e | e | e | e <;> rw [e] <;> decide
/-- the nearest of lo .. hi -/
def bN (lo : Nat) (x : Int32) (hi : Nat) : Nat := (bw (nI lo) x (nI hi)).toNatClampNeg
theorem bw_ok {lo hi : Nat} (x : Int32) (h : lo ≤ hi) (hh : hi < 2 ^ 31) : bw (nI lo) x (nI hi) = nI (bN lo x hi) ∧ lo ≤ bN lo x hi ∧ bN lo x hi ≤ hi := by
  have key : ∃ k, lo ≤ k ∧ k ≤ hi ∧ bw (nI lo) x (nI hi) = nI k := by
    unfold bw
    by_cases h1 : nI hi < x
    · rw [if_pos h1]
      by_cases h2 : nI lo < nI hi
      · rw [if_pos h2]
        exact ⟨hi, h, Nat.le_refl _, rfl⟩
      · rw [if_neg h2]
        exact ⟨lo, Nat.le_refl _, h, rfl⟩
    · rw [if_neg h1]
      by_cases h2 : nI lo < x
      · rw [if_pos h2]
        have a1 := Int32.lt_iff_toInt_lt.mp h2
        have a2 := Int32.le_iff_toInt_le.mp (Int32.not_lt.mp h1)
        rw [nI_toInt (by omega)] at a1 a2
        refine ⟨x.toInt.toNat, by omega, by omega, ?_⟩
        apply Int32.toInt_inj.mp
        rw [nI_toInt (by omega)]
        omega
      · rw [if_neg h2]
        exact ⟨lo, Nat.le_refl _, h, rfl⟩
  obtain ⟨k, k1, k2, k3⟩ := key
  have e : bN lo x hi = k := by unfold bN; rw [k3]; exact nI_clamp (by omega)
  rw [e]
  exact ⟨k3, k1, k2⟩
