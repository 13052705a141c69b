/-! writing, as functions: the state is (bytes, how many, the next plan number, the next point) -/
def fvOk (z : Int32) : Prop := ∃ k : Nat, k ≤ 1000000000 ∧ (z = nI k ∨ z = -nI k)
/-- the bits of the fraction nearest to z / u -/
def wB (z : Int32) (u : Nat) : Nat := if z = 0 then 0 else if 0 < z then nBits z.toInt.toNat u else nBits (-z.toInt).toNat u + 9223372036854775808
abbrev wrS : Type := (Nat → Nat) × Nat × Nat × Nat
/-- c coordinates from point q on, behind n bytes -/
def wCo (fv : Nat → Int32) (u lo : Nat) (b : Nat → Nat) (n q : Nat) : Nat → Nat → Nat
  | 0 => b
  | c + 1 => pA (pA (wCo fv u lo b n q c) (n + 16 * c) (wB (fv (2 * (q + c))) u) 8 lo 8) (n + 16 * c + 8) (wB (fv (2 * (q + c) + 1)) u) 8 lo 8
/-- r rings -/
def wRi (pf : Nat → Nat) (fv : Nat → Int32) (u lo : Nat) (y : wrS) : Nat → wrS
  | 0 => y
  | r + 1 => (wCo fv u lo (pA (wRi pf fv u lo y r).1 (wRi pf fv u lo y r).2.1 (pf (wRi pf fv u lo y r).2.2.1) 4 lo 4) ((wRi pf fv u lo y r).2.1 + 4) (wRi pf fv u lo y r).2.2.2 (pf (wRi pf fv u lo y r).2.2.1), (wRi pf fv u lo y r).2.1 + 4 + 16 * pf (wRi pf fv u lo y r).2.2.1, (wRi pf fv u lo y r).2.2.1 + 1, (wRi pf fv u lo y r).2.2.2 + pf (wRi pf fv u lo y r).2.2.1)
def wRg (pf : Nat → Nat) (pn vh : Nat) (y : wrS) : Prop := y.2.2.1 < pn ∧ y.2.2.2 + pf y.2.2.1 ≤ vh ∧ y.2.1 + 4 + 16 * pf y.2.2.1 ≤ 65536
/-- a shape's head: order and kind -/
def wHd (pf : Nat → Nat) (lo : Nat) (b : Nat → Nat) (n i : Nat) : Nat → Nat := pA (pA b n lo 1 0 1) (n + 1) (pf i) 4 lo 4
/-- a shape without its parts -/
def wSt (pf : Nat → Nat) (fv : Nat → Int32) (u lo : Nat) (b : Nat → Nat) (n i q : Nat) : wrS :=
  if pf i = 1 then
    if pf (i + 1) = 0 then (pA (pA (wHd pf lo b n i) (n + 1 + 4) 9221120237041090560 8 lo 8) (n + 1 + 4 + 8) 9221120237041090560 8 lo 8, n + 1 + 4 + 8 + 8, i + 1 + 1, q)
    else (wCo fv u lo (wHd pf lo b n i) (n + 1 + 4) q 1, n + 1 + 4 + 16 * 1, i + 1 + 1, q + 1)
  else if pf i = 2 then (wCo fv u lo (pA (wHd pf lo b n i) (n + 1 + 4) (pf (i + 1)) 4 lo 4) (n + 1 + 4 + 4) q (pf (i + 1)), n + 1 + 4 + 4 + 16 * pf (i + 1), i + 1 + 1, q + pf (i + 1))
  else if pf i = 3 then wRi pf fv u lo (pA (wHd pf lo b n i) (n + 1 + 4) (pf (i + 1)) 4 lo 4, n + 1 + 4 + 4, i + 1 + 1, q) (pf (i + 1))
  else (pA (wHd pf lo b n i) (n + 1 + 4) (pf (i + 1)) 4 lo 4, n + 1 + 4 + 4, i + 1 + 1, q)
def wSg (pf : Nat → Nat) (fv : Nat → Int32) (u lo pn vh : Nat) (b : Nat → Nat) (n i q : Nat) : Prop :=
  i + 2 ≤ pn ∧ pf i ≤ 7 ∧ pf (i + 1) < 2 ^ 32 ∧ n + 9 ≤ 65536 ∧ (pf i = 1 → n + 21 ≤ 65536 ∧ (pf (i + 1) = 0 ∨ q + 1 ≤ vh)) ∧ (pf i = 2 → q + pf (i + 1) ≤ vh ∧ n + 1 + 4 + 4 + 16 * pf (i + 1) ≤ 65536) ∧
  (pf i = 3 → ∀ r, r < pf (i + 1) → wRg pf pn vh (wRi pf fv u lo (pA (wHd pf lo b n i) (n + 1 + 4) (pf (i + 1)) 4 lo 4, n + 1 + 4 + 4, i + 1 + 1, q) r))
def wSy (pf : Nat → Nat) (fv : Nat → Int32) (u lo : Nat) : wrS → wrS
  | (b, n, i, q) => wSt pf fv u lo b n i q
/-- the state behind k shapes -/
def wIt (pf : Nat → Nat) (fv : Nat → Int32) (u lo : Nat) (y : wrS) : Nat → wrS
  | 0 => y
  | k + 1 => wSy pf fv u lo (wIt pf fv u lo y k)
theorem wB_pos {k u : Nat} (h1 : 1 ≤ k) (h : k < 2 ^ 31) : nBits k u = wB (nI k) u := by
  unfold wB
  rw [if_neg (nI_ne0 h1 h), if_pos (show 0 < nI k from nI_lt (a := 0) h1 h), nI_toInt h]
  rfl
theorem wB_neg {k u : Nat} (h1 : 1 ≤ k) (h : k < 2 ^ 31) : nBits k u + 9223372036854775808 = wB (-nI k) u := by
  unfold wB
  rw [if_neg (nb_ne h1 h), if_neg (fun q => nb_nge h1 h (Int32.le_of_lt q)), nb_negI h]
  simp
theorem nDf_min {k lim : Nat} : ∀ (f d0 e : Nat), d0 ≤ e → e < nDf k lim f d0 → k * 2 ^ e < lim
  | 0, d0, e, h1, h2 => by
    have h3 : e < d0 := h2
    omega
  | f + 1, d0, e, h1, h2 => by
    have h3 : e < if lim ≤ k * 2 ^ d0 then d0 else nDf k lim f (d0 + 1) := h2
    by_cases q : lim ≤ k * 2 ^ d0
    · rw [if_pos q] at h3
      omega
    · rw [if_neg q] at h3
      by_cases z : d0 = e
      · subst z
        omega
      · exact nDf_min f (d0 + 1) e (by omega) h3
theorem nBits_lt {k u : Nat} (hk1 : 1 ≤ k) (hk : k ≤ 1000000000) (hu1 : 1 ≤ u) (hu2 : u ≤ 1000) : nBits k u < 2 ^ 63 := by
  have hlt : ∀ e, e < nD k u → k * 2 ^ e < 4503599627370496 * u := fun e h => nDf_min 63 0 e (Nat.zero_le _) h
  unfold nBits
  obtain ⟨s, hs⟩ : ∃ s, s = k * 2 ^ nD k u := ⟨_, rfl⟩
  obtain ⟨d, hd⟩ : ∃ d, d = nD k u := ⟨_, rfl⟩
  rw [← hs, ← hd]
  have h2 : s < 9007199254740992 * u := by
    rw [← hd] at hs hlt
    cases d with
    | zero => rw [Nat.pow_zero, Nat.mul_one] at hs; omega
    | succ e =>
      have h := hlt e (Nat.lt_succ_self e)
      rw [Nat.pow_succ, ← Nat.mul_assoc] at hs
      omega
  have h3 : s / u < 9007199254740992 := (Nat.div_lt_iff_lt_mul (by omega)).mpr h2
  have h4 := rUp_le (s / u) (2 * (s % u)) u
  omega
theorem wB_lt {z : Int32} {u : Nat} (hz : fvOk z) (hu1 : 1 ≤ u) (hu2 : u ≤ 1000) : wB z u < 2 ^ 64 := by
  obtain ⟨k, hk, hz⟩ := hz
  by_cases h0 : k = 0
  · have e : z = 0 := by subst h0; rcases hz with h | h <;> rw [h] <;> rfl
    unfold wB
    rw [if_pos e]
    decide
  · have h1 := nBits_lt (by omega) hk hu1 hu2
    rcases hz with h | h
    · rw [h, ← wB_pos (by omega) (by omega)]
      omega
    · rw [h, ← wB_neg (by omega) (by omega)]
      omega
theorem k_max0 {k : Nat} (h : k < 2 ^ 31) : (if nI 0 < nI k then nI k else nI 0) = nI k := by
  by_cases q : nI 0 < nI k
  · rw [if_pos q]
  · rw [if_neg q]
    have : ¬ 0 < k := fun z => q (nI_lt z h)
    rw [show k = 0 by omega]
def liken (pn pn2 : Nat) (f f2 : Nat → Int32) (vn vn2 : Nat) (g g2 : Nat → Int32) : Prop := pn = pn2 ∧ (∀ i, i < pn → f i = f2 i) ∧ vn = vn2 ∧ ∀ i, i < vn → g i = g2 i
/-- an int, as a long's bits -/
def sx (k : Nat) : Nat := if k < 2147483648 then k else k + 18446744069414584320
theorem sx_lt {k : Nat} (h : k < 2 ^ 32) : sx k < 2 ^ 64 := by unfold sx; split <;> omega
theorem sx_eq {k : Nat} (h : k < 2 ^ 32) : (nI k).toInt64 = lN (sx k) := by
  unfold sx
  split
  · rename_i q
    exact nI_l q
  · rename_i q
    apply Int64.toBitVec_inj.mp
    apply BitVec.eq_of_toInt_eq
    have e1 : (nI k).toInt64.toBitVec.toInt = (nI k).toInt := Int32.toInt_toInt64 (nI k)
    rw [e1]
    have e2 : (nI k).toInt = (BitVec.ofNat 32 k).toInt := rfl
    have e3 : (lN (k + 18446744069414584320)).toBitVec = BitVec.ofNat 64 (k + 18446744069414584320) := rfl
    rw [e2, e3, BitVec.toInt_eq_toNat_cond, BitVec.toInt_eq_toNat_cond, BitVec.toNat_ofNat, BitVec.toNat_ofNat]
    rw [Nat.mod_eq_of_lt h, Nat.mod_eq_of_lt (show k + 18446744069414584320 < 2 ^ 64 by omega)]
    split <;> split <;> omega
theorem sx_byte {c k : Nat} (hc : c < 2 ^ 32) (hk : k ≤ 3) : sx c / 2 ^ (8 * k) % 256 = c / 2 ^ (8 * k) % 256 := by
  unfold sx
  split
  · rfl
  · rcases (by omega : k = 0 ∨ k = 1 ∨ k = 2 ∨ k = 3) with e | e | e | e <;> subst e <;> omega
theorem pA_sx {b : Nat → Nat} {n lo c : Nat} (hc : c < 2 ^ 32) : pA b n (sx c) 4 lo 4 = pA b n c 4 lo 4 := by
  have h : ∀ i, i ≤ 4 → pA b n (sx c) 4 lo i = pA b n c 4 lo i := by
    intro i
    induction i with
    | zero => intro _; rfl
    | succ i ih =>
      intro hi
      show va_up (pA b n (sx c) 4 lo i) (n + i) (sx c / 2 ^ (8 * (if lo = 0 then 4 - 1 - i else i)) % 256) = va_up (pA b n c 4 lo i) (n + i) (c / 2 ^ (8 * (if lo = 0 then 4 - 1 - i else i)) % 256)
      rw [ih (by omega), sx_byte hc (by split <;> omega)]
  exact h 4 (Nat.le_refl 4)
theorem tab_out {z : Int32} (h : z < 0 ∨ nI 3 < z) : z.toInt < 0 ∨ 3 < z.toInt := by
  rcases h with h | h
  · exact Or.inl (Int32.lt_iff_toInt_lt.mp h)
  · exact Or.inr (by have q := Int32.lt_iff_toInt_lt.mp h; rw [nI_toInt (by decide)] at q; exact q)
def wSgy (pf : Nat → Nat) (fv : Nat → Int32) (u lo pn vh : Nat) : wrS → Prop
  | (b, n, i, q) => wSg pf fv u lo pn vh b n i q
theorem wRi_ok {pf : Nat → Nat} {fv : Nat → Int32} {u lo pn vh : Nat} {y : wrS} (h1 : y.2.1 ≤ 65536) (h2 : y.2.2.1 ≤ pn) (h3 : y.2.2.2 ≤ vh) : ∀ r, (∀ j, j < r → wRg pf pn vh (wRi pf fv u lo y j)) → (wRi pf fv u lo y r).2.1 ≤ 65536 ∧ (wRi pf fv u lo y r).2.2.1 ≤ pn ∧ (wRi pf fv u lo y r).2.2.2 ≤ vh
  | 0, _ => ⟨h1, h2, h3⟩
  | r + 1, hg => by
    obtain ⟨g1, g2, g3⟩ := hg r (Nat.lt_succ_self r)
    exact ⟨g3, g1, g2⟩
theorem wSt_ok {pf : Nat → Nat} {fv : Nat → Int32} {u lo pn vh : Nat} {b : Nat → Nat} {n i q : Nat} (hg : wSg pf fv u lo pn vh b n i q) (hq : q ≤ vh) : (wSt pf fv u lo b n i q).2.1 ≤ 65536 ∧ (wSt pf fv u lo b n i q).2.2.1 ≤ pn ∧ (wSt pf fv u lo b n i q).2.2.2 ≤ vh := by
  obtain ⟨g1, g2, g3, g4, g5, g6, g7⟩ := hg
  unfold wSt
  by_cases h1 : pf i = 1
  · have g8 := g5 h1
    rw [if_pos h1]
    by_cases h0 : pf (i + 1) = 0
    · rw [if_pos h0]
      exact ⟨by show n + 1 + 4 + 8 + 8 ≤ 65536; omega, g1, hq⟩
    · rw [if_neg h0]
      exact ⟨by show n + 1 + 4 + 16 * 1 ≤ 65536; omega, g1, by show q + 1 ≤ vh; omega⟩
  · rw [if_neg h1]
    by_cases h2 : pf i = 2
    · have g8 := g6 h2
      rw [if_pos h2]
      exact ⟨by show n + 1 + 4 + 4 + 16 * pf (i + 1) ≤ 65536; omega, g1, g8.1⟩
    · rw [if_neg h2]
      by_cases h3 : pf i = 3
      · rw [if_pos h3]
        exact wRi_ok (by show n + 1 + 4 + 4 ≤ 65536; omega) g1 hq _ (g7 h3)
      · rw [if_neg h3]
        exact ⟨by show n + 1 + 4 + 4 ≤ 65536; omega, g1, hq⟩
theorem rings_lt {pf : Nat → Nat} {fv : Nat → Int32} {u lo pn vh R : Nat} {y : wrS} (h : ∀ r, r < R → wRg pf pn vh (wRi pf fv u lo y r)) (hp : pn ≤ 4096) : R < 2 ^ 31 := by
  rcases Nat.lt_or_ge R 8192 with q | q
  · omega
  · have e : ∀ r, y.2.2.1 + r = (wRi pf fv u lo y r).2.2.1 := by
      intro r
      induction r with
      | zero => rfl
      | succ r ih => show y.2.2.1 + (r + 1) = (wRi pf fv u lo y r).2.2.1 + 1; omega
    have h2 := (h 8000 (by omega)).1
    rw [← e] at h2
    omega
