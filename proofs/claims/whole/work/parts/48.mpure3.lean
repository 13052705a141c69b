/-! rounding, a halving a step -/
def mP (v u : Nat) : Nat := (v % 4503599627370496 + if 0 < rE v then 4503599627370496 else 0) * u
def mH (v : Nat) : Nat := if 0 < rE v then 1075 - rE v else 1074
def rl (P j : Nat) : Nat := if j = 0 then 0 else P / 2 ^ (j - 1) % 2
def rm (P j : Nat) : Nat := if j = 0 then 0 else if P % 2 ^ (j - 1) = 0 then 0 else 1
theorem mP_lt {v u : Nat} (hu : u ≤ 1000) : mP v u < 2 ^ 63 := by
  unfold mP
  have h1 : (v % 4503599627370496 + if 0 < rE v then 4503599627370496 else 0) ≤ 9007199254740992 := by split <;> omega
  have h2 := Nat.mul_le_mul h1 hu
  omega
theorem rl_le (P j : Nat) : rl P j ≤ 1 := by unfold rl; split <;> omega
theorem rm_le (P j : Nat) : rm P j ≤ 1 := by
  unfold rm
  split
  · omega
  · split <;> omega
theorem rl_s (P j : Nat) : P / 2 ^ j % 2 = rl P (j + 1) := by
  unfold rl
  rw [if_neg (by omega)]
  rfl
theorem dv_s (P j : Nat) : P / 2 ^ j / 2 = P / 2 ^ (j + 1) := by rw [Nat.div_div_eq_div_mul, ← Nat.pow_succ]
theorem md_s (P j : Nat) : P % 2 ^ (j + 1) = P / 2 ^ j % 2 * 2 ^ j + P % 2 ^ j := by
  rw [Nat.pow_succ, Nat.mod_mul, Nat.mul_comm (2 ^ j)]
  omega
theorem rl_S (P j : Nat) : rl P (j + 1) = P / 2 ^ j % 2 := rfl
theorem rm_S (P j : Nat) : rm P (j + 1) = if P % 2 ^ j = 0 then 0 else 1 := rfl
theorem rm_s1 {P j : Nat} (h : ¬ rm P j = 0 ∨ 0 < rl P j) : 1 = rm P (j + 1) := by
  rw [rm_S]
  cases j with
  | zero =>
    have h1 : rm P 0 = 0 := rfl
    have h2 : rl P 0 = 0 := rfl
    omega
  | succ j =>
    rw [rm_S, rl_S] at h
    have e := md_s P j
    have p := Nat.two_pow_pos j
    have z : ¬ P % 2 ^ (j + 1) = 0 := by
      rcases h with h | h
      · by_cases q : P % 2 ^ j = 0
        · rw [if_pos q] at h; omega
        · omega
      · have : 1 * 2 ^ j ≤ P / 2 ^ j % 2 * 2 ^ j := Nat.mul_le_mul_right _ h
        omega
    rw [if_neg z]
theorem rm_s0 {P j : Nat} (h1 : rm P j = 0) (h2 : rl P j ≤ 0) : 0 = rm P (j + 1) := by
  rw [rm_S]
  cases j with
  | zero => rw [if_pos (by rw [Nat.pow_zero]; exact Nat.mod_one P)]
  | succ j =>
    rw [rm_S] at h1
    rw [rl_S] at h2
    have e := md_s P j
    have q : P % 2 ^ j = 0 := by
      by_cases q : P % 2 ^ j = 0
      · exact q
      · rw [if_neg q] at h1; omega
    have z : P / 2 ^ j % 2 = 0 := by omega
    rw [z, Nat.zero_mul, q] at e
    rw [if_pos e]
/-- at the end of the halvings -/
theorem rd_h {P h : Nat} (h1 : 1 ≤ h) : rRnd P h = P / 2 ^ h + if 0 < rl P h ∧ (¬ rm P h = 0 ∨ P / 2 ^ h % 2 = 1) then 1 else 0 := by
  obtain ⟨g, rfl⟩ : ∃ g, h = g + 1 := ⟨h - 1, by omega⟩
  unfold rRnd rUp
  rw [rl_S, rm_S]
  have e := md_s P g
  have d := Nat.div_add_mod P (2 ^ (g + 1))
  have m : P - P / 2 ^ (g + 1) * 2 ^ (g + 1) = P % 2 ^ (g + 1) := by rw [Nat.mul_comm]; omega
  rw [m, Nat.one_mul, show g + 1 - 1 = g by omega, e]
  have l1 : P / 2 ^ g % 2 ≤ 1 := by omega
  have p := Nat.two_pow_pos g
  have q := Nat.mod_lt P p
  congr 1
  rcases (by omega : P / 2 ^ g % 2 = 0 ∨ P / 2 ^ g % 2 = 1) with z | z
  · rw [z, Nat.zero_mul, Nat.zero_add]
    rw [if_neg (by omega), if_neg (by omega)]
  · rw [z, Nat.one_mul]
    by_cases y : P % 2 ^ g = 0
    · rw [y, if_pos rfl, Nat.add_zero]
      by_cases x : P / 2 ^ (g + 1) % 2 = 1
      · rw [if_pos (Or.inr ⟨rfl, x⟩), if_pos ⟨by omega, Or.inr x⟩]
      · rw [if_neg (by omega), if_neg (by omega)]
    · rw [if_neg y, if_pos (Or.inl (by omega)), if_pos ⟨by omega, Or.inl (by omega)⟩]
/-- nothing is left ahead of the end -/
theorem rd_0 {P h j : Nat} (hj : j ≤ h) (h1 : 1 ≤ h) (hv : P / 2 ^ j = 0) (hl : rl P j ≤ 0) : rRnd P h = 0 := by
  have hp : P < 2 ^ (h - 1) := by
    cases j with
    | zero =>
      have : P = 0 := by rw [Nat.pow_zero, Nat.div_one] at hv; exact hv
      rw [this]
      exact Nat.two_pow_pos _
    | succ j =>
      unfold rl at hl
      rw [if_neg (by omega)] at hl
      have hl : P / 2 ^ j % 2 ≤ 0 := hl
      have h2 : P / 2 ^ j / 2 = 0 := by rw [dv_s]; exact hv
      have h3 : P / 2 ^ j = 0 := by omega
      have h4 : P < 2 ^ j := by
        rcases Nat.lt_or_ge P (2 ^ j) with q | q
        · exact q
        · have := Nat.div_pos q (Nat.two_pow_pos j); omega
      exact Nat.lt_of_lt_of_le h4 (Nat.pow_le_pow_right (by decide) (by omega))
  have e : 2 ^ h = 2 * 2 ^ (h - 1) := by rw [show h = (h - 1) + 1 by omega, Nat.pow_succ, Nat.mul_comm]; rfl
  have z : P / 2 ^ h = 0 := Nat.div_eq_of_lt (by omega)
  unfold rRnd rUp
  rw [z, Nat.zero_mul, Nat.sub_zero, Nat.one_mul, if_neg (by omega)]
/-- the reference's rounding is the class's -/
theorem mr_mag {v u : Nat} (hE : rE v < 1075) (hu : u ≤ 1000) : rRnd (mP v u) (mH v) = rMag v u := by
  unfold rMag
  rw [if_neg (by omega)]
  have hp := mP_lt (v := v) hu
  by_cases h : 63 < 1075 - rE v
  · rw [if_pos h]
    have hh : 64 ≤ mH v := by unfold mH; split <;> omega
    refine rd_0 (j := 64) hh (by omega) (Nat.div_eq_of_lt (by omega)) ?_
    unfold rl
    rw [if_neg (by decide), Nat.div_eq_of_lt (show mP v u < 2 ^ (64 - 1) from hp)]
    decide
  · rw [if_neg h]
    have e0 : 0 < rE v := by omega
    have e1 : mH v = 1075 - rE v := by unfold mH; rw [if_pos e0]
    have e2 : mP v u = rP v u := by unfold mP rP; rw [if_pos e0, Nat.add_comm]
    rw [e1, e2]
theorem rMag_lt {v u : Nat} (hu : u ≤ 1000) : rMag v u < 2 ^ 63 := by
  unfold rMag
  split
  · decide
  · split
    · decide
    · rename_i h1 h2
      unfold rRnd
      have h3 := rUp_le (rP v u / 2 ^ (1075 - rE v)) (rP v u - rP v u / 2 ^ (1075 - rE v) * 2 ^ (1075 - rE v)) (1 * 2 ^ (1075 - rE v - 1))
      have h4 := rP_lt (v := v) hu
      have h5 : rP v u / 2 ^ (1075 - rE v) ≤ rP v u / 2 ^ 1 := Nat.div_le_div_left (Nat.pow_le_pow_right (by decide) (by omega)) (by decide)
      omega
theorem ng_neg {k : Nat} (h : k < 2 ^ 31) : (-lN k).toInt = -(k : Int) := by
  rw [Int64.toInt_neg, pk_lT (by omega), Int.bmod_eq_of_le (by omega) (by omega)]
theorem ng_ge {k : Nat} (h : k < 2 ^ 31) : lN 0 ≤ -lN k ↔ k = 0 := by
  rw [Int64.le_iff_toInt_le, ng_neg h]
  have z : (lN 0).toInt = 0 := rfl
  rw [z]; omega
theorem ng_gt {k : Nat} (h : k < 2 ^ 31) : ¬ lN 0 < -lN k := by
  rw [Int64.lt_iff_toInt_lt, ng_neg h]
  have z : (lN 0).toInt = 0 := rfl
  rw [z]; omega
theorem ng_sub {E : Nat} (h : E < 1075) : lN E - lN 1075 = -lN (1075 - E) := by
  apply Int64.toInt_inj.mp
  rw [ng_neg (by omega), Int64.toInt_sub, pk_lT (by omega), pk_lT (by decide), Int.bmod_eq_of_le (by omega) (by omega)]
  omega
theorem ng_inc {k : Nat} (h : k < 2 ^ 31) (h1 : 1 ≤ k) : -lN k + lN 1 = -lN (k - 1) := by
  apply Int64.toInt_inj.mp
  rw [ng_neg (by omega), Int64.toInt_add, ng_neg h, pk_lT (by decide), Int.bmod_eq_of_le (by omega) (by omega)]
  omega
theorem mP_ge {v u : Nat} (hE : 0 < rE v) (hu : 1 ≤ u) : 4503599627370496 ≤ mP v u := by
  unfold mP
  rw [if_pos hE]
  have h := Nat.mul_le_mul (show 4503599627370496 ≤ v % 4503599627370496 + 4503599627370496 by omega) hu
  omega
