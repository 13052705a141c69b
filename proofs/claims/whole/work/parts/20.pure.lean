/-! the words of the state: bytes, counts, numbers as naturals -/
def bF (b : Nat → Nat) : Nat → Int32 := fun j => sb_b (b j)
def iF (d : Nat → Nat) : Nat → Int32 := fun j => nI (d j)
def lF (d : Nat → Nat) : Nat → Int64 := fun j => lN (d j)
theorem nI_mod (q : Nat) : nI q = nI (q % 2 ^ 32) := by
  show Int32.ofNat q = Int32.ofNat (q % 2 ^ 32)
  apply Int32.toBitVec_inj.mp
  show BitVec.ofNat 32 q = BitVec.ofNat 32 (q % 2 ^ 32)
  apply BitVec.eq_of_toNat_eq
  simp
theorem sb_mod (q : Nat) : sb_b q = sb_b (q % 256) := by
  have h : (nI q).toInt8 = (nI (q % 256)).toInt8 := by
    apply Int8.toBitVec_inj.mp
    apply BitVec.eq_of_toNat_eq
    show ((BitVec.ofNat 32 q).signExtend 8).toNat = ((BitVec.ofNat 32 (q % 256)).signExtend 8).toNat
    rw [BitVec.signExtend_eq_setWidth_of_le _ (by decide), BitVec.signExtend_eq_setWidth_of_le _ (by decide)]
    simp only [BitVec.toNat_setWidth, BitVec.toNat_ofNat]
    omega
  unfold sb_b
  rw [h]
theorem bF_put (b : Nat → Nat) (k q : Nat) : upd (bF b) k (vp_nar .byte (sb_b q)) = bF (va_up b k (q % 256)) := by
  funext j
  show (if j = k then vp_nar .byte (sb_b q) else bF b j) = sb_b (va_up b k (q % 256) j)
  rw [show vp_nar .byte (sb_b q) = sb_b q from pk_vb _]
  by_cases h : j = k
  · subst h
    rw [if_pos rfl, va_up_self, ← sb_mod]
  · rw [if_neg h, va_up_ne _ _ h]
    rfl
theorem iF_put (d : Nat → Nat) (k q : Nat) : upd (iF d) k (nI q) = iF (va_up d k q) := by
  funext j
  by_cases h : j = k
  · subst h
    simp [upd, iF, va_up]
  · simp [upd, iF, va_up, h]
theorem lF_put (d : Nat → Nat) (k q : Nat) : vp_updL (lF d) k (lN q) = lF (va_up d k q) := by
  funext j
  by_cases h : j = k
  · subst h
    simp [vp_updL, lF, va_up]
  · simp [vp_updL, lF, va_up, h]
/-- the number that k bytes from a on tell, the highest first -/
def pB (b : Nat → Nat) (a : Nat) : Nat → Nat
  | 0 => 0
  | k + 1 => pB b a k * 256 + b (a + k)
/-- .. the lowest first, of len bytes: the k highest of them -/
def pL (b : Nat → Nat) (a len : Nat) : Nat → Nat
  | 0 => 0
  | k + 1 => pL b a len k * 256 + b (a + len - 1 - k)
/-- the first i bytes read of len, in the order lo (0: highest first) -/
def pI (b : Nat → Nat) (a len lo i : Nat) : Nat := if lo = 0 then pB b a i else pL b a len i
def pN (b : Nat → Nat) (a len lo : Nat) : Nat := pI b a len lo len
theorem pB_lt {b : Nat → Nat} (hb : ∀ j, b j < 256) (a : Nat) : ∀ k, pB b a k < 256 ^ k
  | 0 => Nat.lt_of_sub_eq_succ rfl
  | k + 1 => by
    have h1 := pB_lt hb a k
    have h2 := hb (a + k)
    show pB b a k * 256 + b (a + k) < 256 ^ (k + 1)
    rw [Nat.pow_succ]
    omega
theorem pL_lt {b : Nat → Nat} (hb : ∀ j, b j < 256) (a len : Nat) : ∀ k, pL b a len k < 256 ^ k
  | 0 => Nat.lt_of_sub_eq_succ rfl
  | k + 1 => by
    have h1 := pL_lt hb a len k
    have h2 := hb (a + len - 1 - k)
    show pL b a len k * 256 + b (a + len - 1 - k) < 256 ^ (k + 1)
    rw [Nat.pow_succ]
    omega
theorem pI_lt {b : Nat → Nat} (hb : ∀ j, b j < 256) (a len lo k : Nat) : pI b a len lo k < 256 ^ k := by
  unfold pI
  split
  · exact pB_lt hb a k
  · exact pL_lt hb a len k
theorem p256 {k : Nat} (h : k ≤ 7) : 256 ^ k ≤ 256 ^ 7 := Nat.pow_le_pow_right (by decide) h
/-- a step of the reading loop -/
theorem pI_step {b : Nat → Nat} (hb : ∀ j, b j < 256) {a len lo i : Nat} (hi : i < 8) {q : Nat} (hq : q = if lo = 0 then a + i else a + len - 1 - i) :
    lN (pI b a len lo i) <<< ((nI 8).toInt64 &&& 63) ||| (nI (b q)).toInt64 = lN (pI b a len lo (i + 1)) := by
  have h1 := pI_lt hb a len lo i
  have h2 := hb q
  have h3 : 256 ^ i ≤ 256 ^ 7 := p256 (by omega)
  rw [wb_shl _ (by decide), nI_l (by omega), g_or (k := 8) rfl h2 (by omega)]
  subst hq
  unfold pI
  split <;> rfl
/-- the bytes of a row when i of len bytes of the number v have been laid behind n, in the order lo -/
def pA (b : Nat → Nat) (n v len lo : Nat) : Nat → Nat → Nat
  | 0 => b
  | i + 1 => va_up (pA b n v len lo i) (n + i) (v / 2 ^ (8 * (if lo = 0 then len - 1 - i else i)) % 256)
theorem pA_lt {b : Nat → Nat} (hb : ∀ j, b j < 256) (n v len lo : Nat) : ∀ i j, pA b n v len lo i j < 256
  | 0, j => hb j
  | i + 1, j => by
    show va_up _ _ _ j < 256
    unfold va_up
    split
    · exact Nat.mod_lt _ (by decide)
    · exact pA_lt hb n v len lo i j
/-- between(x, y, z) -/
def bw (x y z : Int32) : Int32 := if x < (if z < y then z else y) then (if z < y then z else y) else x
theorem bw_cut {j n : Nat} (h : j ≤ n) (hn : n < 2 ^ 31) : bw (nI 0) (nI j) (nI n) = nI j := by
  unfold bw
  have h1 : ¬ nI n < nI j := nI_nlt h hn
  rw [if_neg h1]
  by_cases h0 : nI 0 < nI j
  · rw [if_pos h0]
  · rw [if_neg h0]
    have : ¬ 0 < j := fun q => h0 (nI_lt q (by omega))
    rw [show j = 0 by omega]
theorem bF_and {b : Nat → Nat} (hb : ∀ j, b j < 256) (q : Nat) : bF b q &&& nI 255 = nI (b q) := (sb_byte _ (hb q)).1
theorem bF_fit (b : Nat → Nat) (q : Nat) : fits .byte (.int (bF b q)) = true := sb_fitB _
theorem bF_cpy (f g : Nat → Nat) (sp dp n : Nat) : va_cpy (bF f) (bF g) sp dp n = bF (va_cpy f g sp dp n) := by
  funext j
  simp only [va_cpy, bF]
  split <;> rfl
/-- of a type: the kind (0: none of those that could be), whether there are more coordinates, whether a mark follows -/
def kOf (w : Nat) : Nat := if w % 536870912 < 4000 ∧ 1 ≤ w % 536870912 % 1000 ∧ w % 536870912 % 1000 ≤ 7 then w % 536870912 % 1000 else 0
def tMore (w : Nat) : Nat := if ¬ w / 1073741824 = 0 ∨ 1000 ≤ w % 536870912 then 1 else 0
def tMark (w : Nat) : Nat := if ¬ w / 536870912 % 2 = 0 then 1 else 0
theorem and_hi {w : Nat} (hw : w < 2 ^ 32) : w &&& 3221225472 = 0 ↔ w / 1073741824 = 0 := by
  constructor
  · intro h
    have h30 : (w &&& 3221225472).testBit 30 = false := by rw [h]; simp
    have h31 : (w &&& 3221225472).testBit 31 = false := by rw [h]; simp
    rw [Nat.testBit_and] at h30 h31
    have e30 : Nat.testBit 3221225472 30 = true := by decide
    have e31 : Nat.testBit 3221225472 31 = true := by decide
    rw [e30, Bool.and_true, Nat.testBit_eq_decide_div_mod_eq] at h30
    rw [e31, Bool.and_true, Nat.testBit_eq_decide_div_mod_eq] at h31
    simp at h30 h31
    omega
  · intro h
    apply Nat.eq_of_testBit_eq
    intro i
    rw [Nat.testBit_and, Nat.zero_testBit]
    by_cases hi : i < 30
    · have : Nat.testBit 3221225472 i = false := by
        rw [show 3221225472 = 3 * 2 ^ 30 from rfl, Nat.testBit_mul_two_pow, show decide (30 ≤ i) = false from decide_eq_false (by omega)]
        rfl
      rw [this, Bool.and_false]
    · have : w.testBit i = false := Nat.testBit_lt_two_pow (Nat.lt_of_lt_of_le (show w < 2 ^ 30 by omega) (Nat.pow_le_pow_right (by decide) (by omega)))
      rw [this, Bool.false_and]
theorem and_29 {w : Nat} : w &&& 536870912 = 0 ↔ w / 536870912 % 2 = 0 := by
  constructor
  · intro h
    have h29 : (w &&& 536870912).testBit 29 = false := by rw [h]; simp
    rw [Nat.testBit_and] at h29
    have e29 : Nat.testBit 536870912 29 = true := by decide
    rw [e29, Bool.and_true, Nat.testBit_eq_decide_div_mod_eq] at h29
    simp at h29
    omega
  · intro h
    apply Nat.eq_of_testBit_eq
    intro i
    rw [Nat.testBit_and, Nat.zero_testBit]
    by_cases hi : i = 29
    · subst hi
      have : w.testBit 29 = false := by rw [Nat.testBit_eq_decide_div_mod_eq]; simp; omega
      rw [this, Bool.false_and]
    · have : Nat.testBit 536870912 i = false := by
        rw [show 536870912 = 2 ^ 29 from rfl, Nat.testBit_two_pow]
        simp; omega
      rw [this, Bool.and_false]
theorem nI_eq0 {w : Nat} (hw : w < 2 ^ 32) : nI w = 0 ↔ w = 0 := by
  constructor
  · intro h
    have h1 := congrArg (fun x : Int32 => x.toBitVec.toNat) h
    simp only [pk_tn hw] at h1
    exact h1
  · intro h
    rw [h]; rfl
theorem nI_and (a b : Nat) : nI a &&& nI b = nI (a &&& b) := by
  apply Int32.toBitVec_inj.mp
  apply BitVec.eq_of_toNat_eq
  show (BitVec.ofNat 32 a &&& BitVec.ofNat 32 b).toNat = (BitVec.ofNat 32 (a &&& b)).toNat
  rw [BitVec.toNat_and, BitVec.toNat_ofNat, BitVec.toNat_ofNat, BitVec.toNat_ofNat]
  apply Nat.eq_of_testBit_eq
  intro i
  simp only [Nat.testBit_and, Nat.testBit_mod_two_pow]
  cases decide (i < 32) <;> simp
theorem mb_more {w : Nat} (hw : w < 2 ^ 32) : nI w &&& (-1073741824) = 0 ↔ w / 1073741824 = 0 := by
  rw [show (-1073741824 : Int32) = nI 3221225472 from by decide, nI_and, nI_eq0 (Nat.lt_of_le_of_lt Nat.and_le_left hw), and_hi hw]
theorem mb_mark {w : Nat} (hw : w < 2 ^ 32) : nI w &&& nI 536870912 = 0 ↔ w / 536870912 % 2 = 0 := by
  rw [nI_and, nI_eq0 (Nat.lt_of_le_of_lt Nat.and_le_left hw), and_29]
/-- whether a quotient q with the rest r is rounded up, h being the half -/
def rUp (q r h : Nat) : Nat := if h < r ∨ (r = h ∧ q % 2 = 1) then 1 else 0
theorem rUp_le (q r h : Nat) : rUp q r h ≤ 1 := by unfold rUp; split <;> omega
/-- of the 64 bits v: E, and (2 to the power 52 + F) * u -/
def rE (v : Nat) : Nat := v % 9223372036854775808 / 4503599627370496
def rP (v u : Nat) : Nat := (4503599627370496 + v % 4503599627370496) * u
def rRnd (p h : Nat) : Nat := p / 2 ^ h + rUp (p / 2 ^ h) (p - p / 2 ^ h * 2 ^ h) (1 * 2 ^ (h - 1))
def rMag (v u : Nat) : Nat := if 1075 ≤ rE v then 4611686018427387904 else if 63 < 1075 - rE v then 0 else rRnd (rP v u) (1075 - rE v)
def rVal (v u : Nat) : Int64 := if v < 9223372036854775808 then lN (rMag v u) else -lN (rMag v u)
theorem rE_lt {v : Nat} : rE v < 2048 := by unfold rE; omega
theorem rP_lt {v u : Nat} (hu : u ≤ 1000) : rP v u < 2 ^ 63 := by
  have h1 : 4503599627370496 + v % 4503599627370496 ≤ 9007199254740992 := by omega
  have h2 : rP v u ≤ 9007199254740992 * 1000 := Nat.mul_le_mul h1 hu
  omega
theorem lN_sgn {v : Nat} (hv : v < 2 ^ 64) : lN 0 ≤ lN v ↔ v < 9223372036854775808 := by
  rw [Int64.le_iff_toInt_le]
  have h0 : (lN 0).toInt = 0 := rfl
  rw [h0]
  have h1 : (lN v).toInt = (BitVec.ofNat 64 v).toInt := rfl
  rw [h1, BitVec.toInt_eq_toNat_cond, BitVec.toNat_ofNat, Nat.mod_eq_of_lt hv]
  split <;> omega
theorem rv_pos {v u x : Nat} (hv : v < 2 ^ 64) (hs : lN 0 ≤ lN v) (hx : x = rMag v u) : lN x = rVal v u := by
  unfold rVal; rw [if_pos ((lN_sgn hv).mp hs), hx]
theorem rv_neg {v u x : Nat} (hv : v < 2 ^ 64) (hs : ¬ lN 0 ≤ lN v) (hx : x = rMag v u) : -lN x = rVal v u := by
  unfold rVal; rw [if_neg (fun q => hs ((lN_sgn hv).mpr q)), hx]
theorem rm_far {v u : Nat} (h : 1075 ≤ rE v) : 4611686018427387904 = rMag v u := by unfold rMag; rw [if_pos h]
theorem rm_0 {v u : Nat} (h : rE v < 1075) (h2 : 63 < 1075 - rE v) : 0 = rMag v u := by unfold rMag; rw [if_neg (by omega), if_pos h2]
theorem rm_n {v u p h q : Nat} (hp : p = rP v u) (hh : h = 1075 - rE v) (h1 : rE v < 1075) (h2 : h ≤ 63) (hq : q = rUp (p / 2 ^ h) (p - p / 2 ^ h * 2 ^ h) (1 * 2 ^ (h - 1))) : p / 2 ^ h + q = rMag v u := by
  unfold rMag
  rw [if_neg (by omega), if_neg (by omega), ← hh, ← hp, hq]
  rfl
theorem pw_le {h : Nat} (h1 : h ≤ 63) : 1 * 2 ^ (h - 1) < 2 ^ 63 := by
  rw [Nat.one_mul]
  exact Nat.pow_lt_pow_right (by decide) (by omega)
theorem sub_neg0 {v : Nat} (h : 1075 ≤ rE v) : ¬ 0 < nI 1075 - nI (rE v) := by
  have h0 := rE_lt (v := v)
  intro q
  have q2 := Int32.lt_iff_toInt_lt.mp q
  rw [pk_sub_toInt (by decide) (by omega)] at q2
  have z : (0 : Int32).toInt = 0 := rfl
  rw [z] at q2
  omega
/-- how often k is doubled till it is lim or more -/
def nDf (k lim : Nat) : Nat → Nat → Nat
  | 0, d => d
  | f + 1, d => if lim ≤ k * 2 ^ d then d else nDf k lim f (d + 1)
theorem nDf_eq {k lim d : Nat} (hge : lim ≤ k * 2 ^ d) : ∀ (f d0 : Nat), (∀ e, d0 ≤ e → e < d → k * 2 ^ e < lim) → d0 ≤ d → d < d0 + f → nDf k lim f d0 = d
  | 0, d0, _, h1, h2 => by omega
  | f + 1, d0, hl, h1, h2 => by
    unfold nDf
    by_cases q : d0 = d
    · subst q
      rw [if_pos hge]
    · rw [if_neg (by have := hl d0 (Nat.le_refl _) (by omega); omega)]
      exact nDf_eq hge f (d0 + 1) (fun e h3 h4 => hl e (by omega) h4) (by omega) (by omega)
def nD (k u : Nat) : Nat := nDf k (4503599627370496 * u) 63 0
/-- the bits of the fraction nearest to k / u, k not 0 -/
def nBits (k u : Nat) : Nat := (1075 - nD k u) * 2 ^ 52 + (k * 2 ^ nD k u / u + rUp (k * 2 ^ nD k u / u) (2 * (k * 2 ^ nD k u % u)) u - 4503599627370496)
theorem nb_eq {k u d s q : Nat} (hd : d < 63) (hs : s = k * 2 ^ d) (hge : 4503599627370496 * u ≤ s) (hlt : ∀ e, e < d → k * 2 ^ e < 4503599627370496 * u) (hq : q = rUp (s / u) (2 * (s % u)) u) :
    (1075 - d) * 2 ^ 52 + (s / u + q - 4503599627370496) = nBits k u := by
  have h : nD k u = d := nDf_eq (by rw [← hs]; exact hge) 63 0 (fun e _ h => hlt e h) (Nat.zero_le _) (by omega)
  unfold nBits
  rw [h, ← hs, ← hq]
theorem nb_up {k u d : Nat} (hk : k ≤ 1000000000) (hu : u ≤ 1000) (hlt : ∀ e, e < d → k * 2 ^ e < 4503599627370496 * u) (hk1 : 1 ≤ k) : k * 2 ^ d < 2 ^ 63 ∧ d < 63 := by
  cases d with
  | zero => exact ⟨by omega, by omega⟩
  | succ e =>
    have h := hlt e (Nat.lt_succ_self e)
    have h1 : 4503599627370496 * u ≤ 4503599627370496 * 1000 := Nat.mul_le_mul_left _ hu
    have h2 : 2 ^ e ≤ k * 2 ^ e := Nat.le_mul_of_pos_left _ hk1
    refine ⟨by rw [Nat.pow_succ, ← Nat.mul_assoc]; omega, ?_⟩
    have h3 : 2 ^ e < 2 ^ 62 := by omega
    have := (Nat.pow_lt_pow_iff_right (a := 2) (by decide)).mp h3
    omega
theorem nb_dbl (k d : Nat) : lN (k * 2 ^ d) <<< ((nI 1).toInt64 &&& 63) = lN (k * 2 ^ (d + 1)) := by
  rw [wb_shl _ (by decide), Nat.mul_assoc, ← Nat.pow_add]
theorem nb_abs {k : Nat} (h1 : 1 ≤ k) (h2 : k < 2 ^ 31) : (if 0 < lN k then lN k else -lN k) = lN k := if_pos ((pk_lLT (a := 0) (by decide) (by omega)).mpr (by omega))
theorem nb_absM {k : Nat} (h1 : 1 ≤ k) (h2 : k < 2 ^ 31) : (if 0 < -lN k then -lN k else - -lN k) = lN k := by
  have h3 : (-lN k).toInt = -(k : Int) := by
    rw [Int64.toInt_neg, pk_lT (by omega)]
    rw [Int.bmod_eq_of_le (by omega) (by omega)]
  have h4 : ¬ 0 < -lN k := by
    rw [Int64.lt_iff_toInt_lt, h3]
    have z : (0 : Int64).toInt = 0 := rfl
    rw [z]; omega
  rw [if_neg h4, Int64.neg_neg]
theorem nb_negI {k : Nat} (h2 : k < 2 ^ 31) : (-nI k).toInt = -(k : Int) := sb_negT h2
theorem nb_ne {k : Nat} (h1 : 1 ≤ k) (h2 : k < 2 ^ 31) : ¬ -nI k = 0 := by
  intro q
  have := congrArg Int32.toInt q
  rw [nb_negI h2] at this
  have z : (0 : Int32).toInt = 0 := rfl
  rw [z] at this; omega
theorem nb_nge {k : Nat} (h1 : 1 ≤ k) (h2 : k < 2 ^ 31) : ¬ 0 ≤ -nI k := by
  intro q
  have := Int32.le_iff_toInt_le.mp q
  rw [nb_negI h2] at this
  have z : (0 : Int32).toInt = 0 := rfl
  rw [z] at this; omega
theorem nb_negL {k : Nat} (h2 : k < 2 ^ 31) : (-nI k).toInt64 = -lN k := by
  apply Int64.toInt_inj.mp
  rw [Int32.toInt_toInt64, nb_negI h2, Int64.toInt_neg, pk_lT (by omega), Int.bmod_eq_of_le (by omega) (by omega)]
theorem nb_sgn {x : Nat} (hx : x < 2 ^ 63) : lN x ||| (-9223372036854775808) = lN (x + 9223372036854775808) := by
  rw [show (-9223372036854775808 : Int64) = lN (1 * 9223372036854775808) from by decide]
  exact g_or' (k := 63) (b := 1) (p := 9223372036854775808) rfl (by omega) (by omega)
theorem nb_q {s u : Nat} (hu : 1 ≤ u) (hs : 4503599627370496 * u ≤ s) : 4503599627370496 ≤ s / u := (Nat.le_div_iff_mul_le (by omega)).mpr hs
