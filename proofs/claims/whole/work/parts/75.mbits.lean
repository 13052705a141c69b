/-! the reference's way to the bits of a fraction -/
theorem bo_j {u j : Nat} (hu : 1 ≤ u) (hb : u * 2 ^ j ≤ 1000000000) : j < 30 := by
  have h1 : 2 ^ j ≤ u * 2 ^ j := Nat.le_mul_of_pos_left _ hu
  have h2 : 2 ^ j < 2 ^ 30 := by omega
  exact (Nat.pow_lt_pow_iff_right (a := 2) (by decide)).mp h2
theorem bo_i {k i b : Nat} (hk : 1 ≤ k) (hb : b ≤ 1000000000) (h : k * 2 ^ i < 2 * b) : i < 31 := by
  have h1 : 2 ^ i ≤ k * 2 ^ i := Nat.le_mul_of_pos_left _ hk
  have h2 : 2 ^ i < 2 ^ 31 := by omega
  exact (Nat.pow_lt_pow_iff_right (a := 2) (by decide)).mp h2
theorem bo_d (u j : Nat) : 2 * (u * 2 ^ j) = u * 2 ^ (j + 1) := by rw [Nat.pow_succ, ← Nat.mul_assoc u]; omega
theorem bo_s1 {A b q a t : Nat} (h : A * 2 ^ t = 2 * (q * b) + a) (hb : b ≤ a) : A * 2 ^ (t + 1) = 2 * ((2 * q + 1) * b) + 2 * (a - b) := by
  rw [← bo_d, h, Nat.add_mul, Nat.mul_assoc]; omega
theorem bo_s0 {A b q a t : Nat} (h : A * 2 ^ t = 2 * (q * b) + a) : A * 2 ^ (t + 1) = 2 * ((2 * q + 0) * b) + 2 * a := by
  rw [← bo_d, h, Nat.add_zero, Nat.mul_assoc]; omega
theorem bo_q {A b q a : Nat} (h1 : b ≤ A) (h2 : A < 2 * b) (hd : A * 2 ^ 53 = 2 * (q * b) + a) (ha : a < 2 * b) : 4503599627370496 ≤ q ∧ q < 9007199254740992 := by
  have e1 : 9007199254740992 * b ≤ 2 * (q * b) + a := by rw [← hd]; omega
  have e2 : 2 * (q * b) + a < 18014398509481984 * b := by rw [← hd]; omega
  constructor
  · rcases Nat.lt_or_ge q 4503599627370496 with z | z
    · have h := Nat.mul_le_mul_right b (show q + 1 ≤ 4503599627370496 from z)
      rw [Nat.add_mul] at h
      omega
    · exact z
  · rcases Nat.lt_or_ge q 9007199254740992 with z | z
    · exact z
    · have h := Nat.mul_le_mul_right b z
      omega
theorem bo_eq {k u i j q a c : Nat} (hk1 : 1 ≤ k) (hu1 : 1 ≤ u) (hu : u ≤ 1000) (hj : j < 30) (h1 : u * 2 ^ j ≤ k * 2 ^ i) (h2 : k * 2 ^ i < 2 * (u * 2 ^ j))
    (hd : k * 2 ^ i * 2 ^ 53 = 2 * (q * (u * 2 ^ j)) + a) (ha : a < 2 * (u * 2 ^ j)) (hc : c = if u * 2 ^ j < a ∨ (a = u * 2 ^ j ∧ q % 2 = 1) then 1 else 0) :
    (1023 + j - i) * 4503599627370496 + (q + c - 4503599627370496) = nBits k u := by
  have pj : 0 < 2 ^ j := Nat.two_pow_pos j
  have hij : i < j + 11 := by
    have e1 : 2 ^ i ≤ k * 2 ^ i := Nat.le_mul_of_pos_left _ hk1
    have e2 : u * 2 ^ j ≤ 1000 * 2 ^ j := Nat.mul_le_mul_right _ hu
    have e3 : 2 ^ (j + 11) = 2 ^ j * 2048 := Nat.pow_add 2 j 11
    have e4 : 2 ^ i < 2 ^ (j + 11) := by omega
    exact (Nat.pow_lt_pow_iff_right (a := 2) (by decide)).mp e4
  obtain ⟨d, hdd⟩ : ∃ d, d = 52 + i - j := ⟨_, rfl⟩
  have ep : 2 ^ d * 2 ^ j = 2 ^ i * 2 ^ 52 := by rw [← Nat.pow_add, ← Nat.pow_add]; congr 1; omega
  obtain ⟨s, hs⟩ : ∃ s, s = k * 2 ^ d := ⟨_, rfl⟩
  have es : s * 2 ^ j = k * 2 ^ i * 4503599627370496 := by rw [hs, Nat.mul_assoc, ep, ← Nat.mul_assoc]
  have hge : 4503599627370496 * u ≤ s := by
    apply Nat.le_of_mul_le_mul_right _ pj
    rw [es, Nat.mul_assoc 4503599627370496]; omega
  have hup : s < 9007199254740992 * u := by
    apply Nat.lt_of_mul_lt_mul_right (a := 2 ^ j)
    rw [es, Nat.mul_assoc 9007199254740992]; omega
  have hlt : ∀ e, e < d → k * 2 ^ e < 4503599627370496 * u := by
    intro e he
    have e1 : k * 2 ^ (e + 1) ≤ k * 2 ^ d := Nat.mul_le_mul_left _ (Nat.pow_le_pow_right (by decide) he)
    rw [← bo_d, ← hs] at e1
    omega
  obtain ⟨r, hr⟩ : ∃ r, a = 2 * r := ⟨a / 2, by omega⟩
  have e5 : s * 2 ^ j = q * (u * 2 ^ j) + r := by
    obtain ⟨A, hA⟩ : ∃ A, A = k * 2 ^ i := ⟨_, rfl⟩
    rw [← hA] at es hd
    omega
  have hrl : r < u * 2 ^ j := by omega
  have eq1 : s / u = q := by
    rw [← Nat.mul_div_mul_right s u pj, e5, Nat.mul_comm q]
    rw [Nat.mul_add_div (by omega), Nat.div_eq_of_lt hrl, Nat.add_zero]
  have eq2 : s % u * 2 ^ j = r := by
    rw [← Nat.mul_mod_mul_right (2 ^ j) s u, e5, Nat.mul_comm q, Nat.mul_add_mod, Nat.mod_eq_of_lt hrl]
  have key := nb_eq (q := c) (show d < 63 by omega) hs hge hlt (by
    rw [hc, eq1]
    unfold rUp
    have l1 : u < 2 * (s % u) ↔ u * 2 ^ j < a := by
      rw [hr, ← eq2, ← Nat.mul_assoc, Nat.mul_lt_mul_right pj]
    have l2 : 2 * (s % u) = u ↔ a = u * 2 ^ j := by
      rw [hr, ← eq2, ← Nat.mul_assoc]
      constructor
      · intro z; rw [z]
      · intro z; exact Nat.eq_of_mul_eq_mul_right pj z
    simp only [l1, l2])
  rw [eq1] at key
  rw [← key]
  rw [show 1075 - d = 1023 + j - i by omega]
theorem bo_e {i j : Nat} (hi : i < 31) (hj : j < 30) : lN j - lN i + lN 1023 = lN (1023 + j - i) := by
  apply Int64.toInt_inj.mp
  rw [Int64.toInt_add, Int64.toInt_sub, pk_lT (by omega), pk_lT (by omega), pk_lT (by decide), pk_lT (by omega), Int.bmod_eq_of_le (n := (j : Int) - i) (by omega) (by omega), Int.bmod_eq_of_le (by omega) (by omega)]
  omega
theorem bo_e1 {i j : Nat} (hi : i < 31) (hj : j < 30) : lN j - lN i + lN 1 + lN 1023 = lN (1023 + j - i + 1) := by
  apply Int64.toInt_inj.mp
  rw [Int64.toInt_add, Int64.toInt_add, Int64.toInt_sub, pk_lT (by omega), pk_lT (by omega), pk_lT (by decide), pk_lT (by decide), pk_lT (by omega), Int.bmod_eq_of_le (n := (j : Int) - i) (by omega) (by omega), Int.bmod_eq_of_le (n := (j : Int) - i + _) (by omega) (by omega), Int.bmod_eq_of_le (by omega) (by omega)]
  omega
theorem bo_m {i j : Nat} (hi : i < 31) (hj : j < 30) : lN j - lN i - lN 1 = lN j - lN (i + 1) := by
  apply Int64.toInt_inj.mp
  rw [Int64.toInt_sub, Int64.toInt_sub, Int64.toInt_sub, pk_lT (by omega), pk_lT (by omega), pk_lT (by decide), pk_lT (by omega), Int.bmod_eq_of_le (n := (j : Int) - i) (by omega) (by omega), Int.bmod_eq_of_le (by omega) (by omega), Int.bmod_eq_of_le (by omega) (by omega)]
  omega
theorem bo_n {k : Nat} : - -nI k = nI k := Int32.neg_neg
/-- c values from value q on, behind n bytes -/
def wCv (fv : Nat → Int32) (u lo : Nat) (b : Nat → Nat) (n q : Nat) : Nat → Nat → Nat
  | 0 => b
  | c + 1 => pA (wCv fv u lo b n q c) (n + 8 * c) (wB (fv (q + c)) u) 8 lo 8
theorem wCv_S (fv : Nat → Int32) (u lo : Nat) (b : Nat → Nat) (n q c : Nat) : pA (wCv fv u lo b n q c) (n + 8 * c) (wB (fv (q + c)) u) 8 lo 8 = wCv fv u lo b n q (c + 1) := rfl
theorem wCv_Co {fv fx : Nat → Int32} {u lo : Nat} {b : Nat → Nat} {n q Q : Nat} : ∀ c, (∀ i, i < 2 * c → fx (Q + i) = fv (2 * q + i)) → wCv fx u lo b n Q (2 * c) = wCo fv u lo b n q c
  | 0, _ => rfl
  | c + 1, h => by
    have ih := wCv_Co (u := u) (lo := lo) (b := b) (n := n) c (fun i hi => h i (by omega))
    show pA (pA (wCv fx u lo b n Q (2 * c)) (n + 8 * (2 * c)) (wB (fx (Q + 2 * c)) u) 8 lo 8) (n + 8 * (2 * c + 1)) (wB (fx (Q + (2 * c + 1))) u) 8 lo 8 = pA (pA (wCo fv u lo b n q c) (n + 16 * c) (wB (fv (2 * (q + c))) u) 8 lo 8) (n + 16 * c + 8) (wB (fv (2 * (q + c) + 1)) u) 8 lo 8
    rw [ih, h (2 * c) (by omega), h (2 * c + 1) (by omega), show n + 8 * (2 * c) = n + 16 * c by omega, show n + 8 * (2 * c + 1) = n + 16 * c + 8 by omega, show 2 * q + 2 * c = 2 * (q + c) by omega, show 2 * q + (2 * c + 1) = 2 * (q + c) + 1 by omega]
theorem bo_0 (j : Nat) : lN j = lN j - lN 0 := by
  show lN j = lN j - 0
  rw [Int64.sub_zero]
theorem bo_sh (E : Nat) : lN E <<< ((nI 52).toInt64 &&& 63) = lN (E * 4503599627370496) := wb_shl E (k := 52) (by decide)
theorem pA_1 (b : Nat → Nat) (n v lo : Nat) : pA b n v 1 lo 1 = pA b n v 1 0 1 := by
  show va_up b (n + 0) (v / 2 ^ (8 * (if lo = 0 then 1 - 1 - 0 else 0)) % 256) = va_up b (n + 0) (v / 2 ^ (8 * (if 0 = 0 then 1 - 1 - 0 else 0)) % 256)
  split <;> rfl
