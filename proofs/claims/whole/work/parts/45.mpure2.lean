/-! the reference's numbers out of bytes -/
def tkL (b : Nat → Nat) (a : Nat) : Nat → Nat
  | 0 => 0
  | k + 1 => tkL b a k + b (a + k) * 2 ^ (8 * k)
def tkB (b : Nat → Nat) (a len : Nat) : Nat → Nat
  | 0 => 0
  | k + 1 => tkB b a len k + b (a + k) * 2 ^ (8 * (len - 1 - k))
def tkI (b : Nat → Nat) (a len lo k : Nat) : Nat := if lo = 0 then tkB b a len k else tkL b a k
theorem tkL_lt {b : Nat → Nat} (hb : ∀ j, b j < 256) (a : Nat) : ∀ k, tkL b a k < 2 ^ (8 * k)
  | 0 => Nat.two_pow_pos _
  | k + 1 => by
    have h1 := tkL_lt hb a k
    have h2 := hb (a + k)
    have h3 : b (a + k) * 2 ^ (8 * k) ≤ 255 * 2 ^ (8 * k) := Nat.mul_le_mul_right _ (by omega)
    have e : 2 ^ (8 * (k + 1)) = 256 * 2 ^ (8 * k) := by rw [show 8 * (k + 1) = 8 + 8 * k by omega, Nat.pow_add]
    show tkL b a k + b (a + k) * 2 ^ (8 * k) < 2 ^ (8 * (k + 1))
    omega
theorem tkL_c (b : Nat → Nat) (a : Nat) : ∀ k, tkL b a (k + 1) = b a + 256 * tkL b (a + 1) k
  | 0 => by
    show 0 + b (a + 0) * 2 ^ (8 * 0) = b a + 256 * 0
    simp
  | k + 1 => by
    have h := tkL_c b a k
    have e : 2 ^ (8 * (k + 1)) = 256 * 2 ^ (8 * k) := by rw [show 8 * (k + 1) = 8 + 8 * k by omega, Nat.pow_add]
    show tkL b a (k + 1) + b (a + (k + 1)) * 2 ^ (8 * (k + 1)) = b a + 256 * (tkL b (a + 1) k + b (a + 1 + k) * 2 ^ (8 * k))
    rw [h, e, show a + (k + 1) = a + 1 + k by omega, Nat.mul_add, Nat.mul_left_comm, Nat.add_assoc]
theorem pL_tk (b : Nat → Nat) (a len : Nat) : ∀ k, k ≤ len → pL b a len k = tkL b (a + len - k) k
  | 0, _ => rfl
  | k + 1, h => by
    have h1 := pL_tk b a len k (by omega)
    show pL b a len k * 256 + b (a + len - 1 - k) = tkL b (a + len - (k + 1)) (k + 1)
    rw [h1, tkL_c, show a + len - (k + 1) + 1 = a + len - k by omega, show a + len - 1 - k = a + len - (k + 1) by omega]
    omega
theorem tkB_pB (b : Nat → Nat) (a len : Nat) : ∀ k, k ≤ len → tkB b a len k = pB b a k * 2 ^ (8 * (len - k))
  | 0, _ => by
    show 0 = 0 * _
    rw [Nat.zero_mul]
  | k + 1, h => by
    have h1 := tkB_pB b a len k (by omega)
    have e : 2 ^ (8 * (len - k)) = 256 * 2 ^ (8 * (len - 1 - k)) := by rw [show 8 * (len - k) = 8 + 8 * (len - 1 - k) by omega, Nat.pow_add]
    show tkB b a len k + b (a + k) * 2 ^ (8 * (len - 1 - k)) = (pB b a k * 256 + b (a + k)) * 2 ^ (8 * (len - (k + 1)))
    rw [h1, e, show len - (k + 1) = len - 1 - k by omega, Nat.add_mul, Nat.mul_assoc]
theorem tkI_pN (b : Nat → Nat) (a len lo : Nat) : tkI b a len lo len = pN b a len lo := by
  unfold tkI pN pI
  by_cases h : lo = 0
  · rw [if_pos h, if_pos h, tkB_pB b a len len (Nat.le_refl _), Nat.sub_self]
    simp
  · rw [if_neg h, if_neg h, pL_tk b a len len (Nat.le_refl _), Nat.add_sub_cancel]
theorem tk_step {b : Nat → Nat} (hb : ∀ j, b j < 256) {a len lo k s : Nat} (hl : len ≤ 8) (hk : k < len) (hs : s = if lo = 0 then len - 1 - k else k) :
    lN (tkI b a len lo k) ||| (lN (b (a + k)) <<< ((nI (8 * s)).toInt64 &&& 63)) = lN (tkI b a len lo (k + 1)) := by
  have hs8 : s < 8 := by rw [hs]; split <;> omega
  have h2 := hb (a + k)
  rw [wb_shl _ (by omega)]
  have p64 : ∀ m, m ≤ 8 → 2 ^ (8 * m) ≤ 2 ^ 64 := fun m h => Nat.pow_le_pow_right (by decide) (by omega)
  unfold tkI
  by_cases h : lo = 0
  · rw [if_pos h] at hs
    rw [if_pos h, if_pos h, tkB_pB b a len k (by omega)]
    have e : 2 ^ (8 * (len - k)) = 256 * 2 ^ (8 * s) := by rw [hs, show 8 * (len - k) = 8 + 8 * (len - 1 - k) by omega, Nat.pow_add]
    have e2 : b (a + k) * 2 ^ (8 * s) < 2 ^ (8 * (len - k)) := by
      rw [e]
      exact (Nat.mul_lt_mul_right (Nat.two_pow_pos _)).mpr h2
    have hp := pB_lt hb a k
    have e3 : pB b a k * 2 ^ (8 * (len - k)) + b (a + k) * 2 ^ (8 * s) < 2 ^ 64 := by
      have q1 : (pB b a k + 1) * 2 ^ (8 * (len - k)) ≤ 256 ^ k * 2 ^ (8 * (len - k)) := Nat.mul_le_mul_right _ hp
      have q2 : 256 ^ k * 2 ^ (8 * (len - k)) = 2 ^ (8 * len) := by
        rw [show (256 : Nat) = 2 ^ 8 from rfl, ← Nat.pow_mul, ← Nat.pow_add]
        congr 1
        omega
      have q3 := p64 len hl
      rw [Nat.add_mul, Nat.one_mul] at q1
      omega
    rw [g_or (k := 8 * (len - k)) rfl e2 e3]
    congr 1
    show _ = tkB b a len k + b (a + k) * 2 ^ (8 * (len - 1 - k))
    rw [tkB_pB b a len k (by omega), hs]
  · rw [if_neg h] at hs
    rw [if_neg h, if_neg h]
    subst hs
    have hp := tkL_lt hb a s
    have e3 : tkL b a s + b (a + s) * 2 ^ (8 * s) < 2 ^ 64 := Nat.lt_of_lt_of_le (tkL_lt hb a (s + 1)) (p64 (s + 1) (by omega))
    rw [g_or' (k := 8 * s) rfl hp e3]
    rfl
def uD (d : Nat) : Nat := if d = 0 then 1 else if d = 1 then 10 else if d = 2 then 100 else 1000
theorem uD_ok (d : Nat) : 1 ≤ uD d ∧ uD d ≤ 1000 := by
  unfold uD
  split
  · omega
  · split
    · omega
    · split <;> omega
theorem ex_E {v : Nat} : v / 4503599627370496 % 2048 = rE v := by unfold rE; omega
theorem none_iff {v : Nat} : 9218868437227405312 < v % 9223372036854775808 ↔ rE v = 2047 ∧ ¬ v % 4503599627370496 = 0 := by unfold rE; omega
/-- the reference's kind: -1 when there is none -/
def kM7 (w : Nat) : Int32 := if kOf w = 0 then -1 else nI (kOf w)
theorem k_out17 {m : Nat} (h : ¬ (1 ≤ m ∧ m ≤ 7)) (hm : m < 1000) : nI m < nI 1 ∨ nI 7 < nI m := by
  rcases Nat.lt_or_ge m 1 with q | q
  · exact Or.inl (nI_lt q (by decide))
  · exact Or.inr (nI_lt (by omega) (by omega))
theorem kM7_no {w : Nat} (h : ¬ (w % 536870912 < 4000 ∧ 1 ≤ w % 536870912 % 1000 ∧ w % 536870912 % 1000 ≤ 7)) : (-1 : Int32) = kM7 w := by
  have e : kOf w = 0 := by unfold kOf; rw [if_neg h]
  unfold kM7
  rw [if_pos e]
theorem kM7_yes {w : Nat} (h : w % 536870912 < 4000 ∧ 1 ≤ w % 536870912 % 1000 ∧ w % 536870912 % 1000 ≤ 7) : nI (w % 536870912 % 1000) = kM7 w := by
  have e : kOf w = w % 536870912 % 1000 := by unfold kOf; rw [if_pos h]
  unfold kM7
  rw [e, if_neg (by omega)]
