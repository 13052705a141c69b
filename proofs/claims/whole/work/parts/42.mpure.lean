/-! pure rows of the reference -/
theorem out_s {z : Int32} (h : z < 0 ∨ nI 4 ≤ z) : z < nI 0 ∨ nI 3 < z := by
  rcases h with h | h
  · exact Or.inl h
  · refine Or.inr (Int32.lt_iff_toInt_lt.mpr ?_)
    have q := Int32.le_iff_toInt_le.mp h
    rw [nI_toInt (by decide)] at q
    rw [nI_toInt (by decide)]
    omega
/-- a byte of an int -/
theorem sh_b {w s : Nat} (hw : w < 2 ^ 32) (hs : s = 0 ∨ s = 8 ∨ s = 16 ∨ s = 24) : (nI w >>> (nI s &&& 31)) &&& nI 255 = nI (w / 2 ^ s % 256) := by
  have key : ∀ s, (s = 0 ∨ s = 8 ∨ s = 16 ∨ s = 24) → ((nI s &&& 31).toBitVec.smod 32).toNat = s := by
    intro s h
    rcases h with h | h | h | h <;> subst h <;> decide
  rw [pk_and _ 8 (by decide)]
  congr 1
  have e : (nI w >>> (nI s &&& 31)).toBitVec = (nI w).toBitVec.sshiftRight s := by
    show (nI w).toBitVec.sshiftRight ((nI s &&& 31).toBitVec.smod 32).toNat = _
    rw [key s hs]
  rw [e]
  apply Nat.eq_of_testBit_eq
  intro i
  rw [show (256 : Nat) = 2 ^ 8 from rfl, Nat.testBit_mod_two_pow, Nat.testBit_mod_two_pow, Nat.testBit_div_two_pow]
  by_cases hi : i < 8
  · simp only [hi, decide_true, Bool.true_and]
    show ((nI w).toBitVec.sshiftRight s).toNat.testBit i = _
    rw [← BitVec.getLsbD, BitVec.getLsbD_sshiftRight]
    have h1 : s + i < 32 := by omega
    have h2 : ¬ 32 ≤ i := by omega
    simp only [h1, h2, decide_false, Bool.not_false, Bool.true_and, if_true]
    show (BitVec.ofNat 32 w).getLsbD (s + i) = _
    rw [BitVec.getLsbD_ofNat]
    simp [h1, Nat.add_comm]
  · simp [hi]
