/-! an empty point, seen by both -/
theorem eP_1 {b : Nat → Nat} {n t lo : Nat} (h : eP b n t lo = 1) : t + 16 ≤ n ∧ 9218868437227405312 < pN b t 8 lo % 9223372036854775808 ∧ 9218868437227405312 < pN b (t + 8) 8 lo % 9223372036854775808 := by
  unfold eP at h
  split at h
  · assumption
  · cases h
theorem eP_i {b : Nat → Nat} {n t lo : Nat} (h1 : t + 16 ≤ n) (h2 : 9218868437227405312 < pN b t 8 lo % 9223372036854775808) (h3 : 9218868437227405312 < pN b (t + 8) 8 lo % 9223372036854775808) : eP b n t lo = 1 := by
  unfold eP
  rw [if_pos ⟨h1, h2, h3⟩]
/-- the number that a point's look ahead has left -/
def nmP (b : Nat → Nat) (n t lo nm : Nat) : Nat := if t + 16 ≤ n then pN b (t + 8) 8 lo else nm
