/-! the reference's questions: pure rows -/
theorem sub1_toInt {n : Nat} (h : n < 2 ^ 30) : (nI n - nI 1).toInt = (n : Int) - 1 := pk_sub_toInt h (by decide)
theorem out_m {z : Int32} {n : Nat} (hn : n < 2 ^ 30) (h : z < 0 ∨ nI n ≤ z) : z < nI 0 ∨ nI n - nI 1 < z := by
  rcases h with h | h
  · exact Or.inl h
  · refine Or.inr (Int32.lt_iff_toInt_lt.mpr ?_)
    have q := Int32.le_iff_toInt_le.mp h
    rw [nI_toInt (by omega)] at q
    rw [sub1_toInt hn]
    omega
theorem in_m {j n : Nat} (hn : n < 2 ^ 30) (h : j < n) : ¬ nI n - nI 1 < nI j := by
  intro q
  have q2 := Int32.lt_iff_toInt_lt.mp q
  rw [sub1_toInt hn, nI_toInt (by omega)] at q2
  omega
theorem in_0 {j : Nat} (h : j < 2 ^ 31) : ¬ nI j < nI 0 := nI_pos h
theorem cpy_s (f g : Nat → Nat) (k : Nat) : va_up (va_cpy f g 0 0 k) k (f k) = va_cpy f g 0 0 (k + 1) := by
  funext j
  simp only [va_up, va_cpy]
  by_cases h : j = k
  · subst h
    rw [if_pos rfl, if_pos (by omega)]
    congr 1
    omega
  · rw [if_neg h]
    by_cases h2 : j < k
    · rw [if_pos (by omega), if_pos (by omega)]
    · rw [if_neg (by omega), if_neg (by omega)]
theorem cpy_0 (f g : Nat → Nat) : va_cpy f g 0 0 0 = g := by
  funext j
  simp only [va_cpy]
  rw [if_neg (by omega)]
/-- a byte of a long -/
theorem sh_l {v m : Nat} (hm : m ≤ 7) : (lN v >>> ((nI (8 * m)).toInt64 &&& 63)) &&& lN 255 = lN (v / 2 ^ (8 * m) % 256) := by
  have key : ∀ m, m ≤ 7 → (((nI (8 * m)).toInt64 &&& 63).toBitVec.smod 64).toNat = 8 * m := by decide
  have e : (lN v >>> ((nI (8 * m)).toInt64 &&& 63)).toBitVec = (BitVec.ofNat 64 v).sshiftRight (8 * m) := by
    show (lN v).toBitVec.sshiftRight (((nI (8 * m)).toInt64 &&& 63).toBitVec.smod 64).toNat = _
    rw [key m hm]
    rfl
  apply Int64.toBitVec_inj.mp
  apply BitVec.eq_of_toNat_eq
  rw [Int64.toBitVec_and, e, BitVec.toNat_and, wb_tn (by decide), wb_tn (by omega)]
  rw [show (255 : Nat) = 2 ^ 8 - 1 from rfl, Nat.and_two_pow_sub_one_eq_mod, show (256 : Nat) = 2 ^ 8 from rfl]
  apply Nat.eq_of_testBit_eq
  intro i
  rw [Nat.testBit_mod_two_pow, Nat.testBit_mod_two_pow, Nat.testBit_div_two_pow]
  by_cases hi : i < 8
  · simp only [hi, decide_true, Bool.true_and]
    rw [← BitVec.getLsbD, BitVec.getLsbD_sshiftRight]
    have h1 : 8 * m + i < 64 := by omega
    have h2 : ¬ 64 ≤ i := by omega
    simp only [h1, h2, decide_false, Bool.not_false, Bool.true_and, if_true]
    rw [BitVec.getLsbD_ofNat, show decide (8 * m + i < 64) = true from decide_eq_true h1, Bool.true_and, Nat.add_comm]
  · simp [hi]
