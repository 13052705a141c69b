/-! the reference's shape, as a function: 0 something is wrong, 1 finished, 2 its parts are awaited -/
theorem pf_lI {a : Nat} (h : a < 2 ^ 63) : (lN a).toInt = (a : Int) := pk_lT h
theorem lshr_n {a k : Nat} (ha : a < 2 ^ 62) (hk : (((nI k).toInt64 &&& 63).toBitVec.smod 64).toNat = k) : lN a >>> ((nI k).toInt64 &&& 63) = lN (a / 2 ^ k) := by
  have e : (lN a >>> ((nI k).toInt64 &&& 63)).toBitVec = (lN a).toBitVec.sshiftRight k := by
    show (lN a).toBitVec.sshiftRight (((nI k).toInt64 &&& 63).toBitVec.smod 64).toNat = _
    rw [hk]
  apply Int64.toInt_inj.mp
  have h1 : (lN a >>> ((nI k).toInt64 &&& 63)).toInt = ((lN a).toBitVec.sshiftRight k).toInt := congrArg BitVec.toInt e
  rw [h1, BitVec.toInt_sshiftRight]
  have h2 : (lN a).toBitVec.toInt = (a : Int) := pk_lT (by omega)
  have h3 : a / 2 ^ k ≤ a := Nat.div_le_self a (2 ^ k)
  rw [h2, pk_lT (by omega), Int.shiftRight_eq_div_pow]
  norm_cast
def mPar (ok : Nat → Nat) (dp : Nat) : Nat := if dp = 0 then 7 else ok (dp - 1)
theorem mPar_ok {ok : Nat → Nat} {dp : Nat} (h : ∀ j, j < dp → 4 ≤ ok j ∧ ok j ≤ 7) : 4 ≤ mPar ok dp ∧ mPar ok dp ≤ 7 := by
  unfold mPar
  split
  · decide
  · exact h (dp - 1) (by omega)
abbrev msS : Type := Nat × Nat × Nat × Nat × Nat × Int32 × (Nat → Nat) × (Nat → Int32) × (Nat → Nat) × (Nat → Nat) × (Nat → Nat) × (Nat → Nat)
def mT1 (lo q x : Nat) (pd pm ok ol : Nat → Nat) : Nat × mcS → Nat × msS
  | (k, t, wr, pl, nm, vz, pq, fx) => (k, t, lo, wr, pl, nm, vz, pq, fx, pd, if k = 0 then pm else va_up pm q x, ok, ol)
def mT3 (lo q x : Nat) (ok ol : Nat → Nat) : Nat × mrS → Nat × msS
  | (k, t, wr, pl, nm, vz, pq, fx, pd, pm) => (k, t, lo, wr, pl, nm, vz, pq, fx, pd, if k = 0 then pm else va_up pm q x, ok, ol)
def mTail (b : Nat → Nat) (n u PT PN sl dp K y lo wr pl m : Nat) (vz : Int32) (pq : Nat → Nat) (fx : Nat → Int32) (pd pm ok ol : Nat → Nat) : Nat × msS :=
  if PN < pd sl + 2 then (0, y, lo, 7, y, m, vz, pq, fx, pd, pm, ok, ol)
  else if K = 1 then
    if eP b n y lo = 1 then (1, y + 8 + 8, lo, wr, pl, pN b (y + 8) 8 lo, vz, pq, fx, va_up pd sl (pd sl + 1 + 1), va_up (va_up pm (4096 * sl + pd sl) K) (4096 * sl + (pd sl + 1)) 0, ok, ol)
    else mT1 lo (4096 * sl + (pd sl + 1)) 1 (va_up pd sl (pd sl + 1 + 1)) (va_up (va_up pm (4096 * sl + pd sl) K) (4096 * sl + (pd sl + 1)) 0) ok ol (mCoord b n u PT sl lo y wr pl (nmP b n y lo m) vz pq fx)
  else if n < y + 4 then (0, y, lo, 3, y, m, vz, pq, fx, va_up pd sl (pd sl + 1 + 1), va_up (va_up pm (4096 * sl + pd sl) K) (4096 * sl + (pd sl + 1)) 0, ok, ol)
  else if K = 2 then mT1 lo (4096 * sl + (pd sl + 1)) (pN b y 4 lo) (va_up pd sl (pd sl + 1 + 1)) (va_up (va_up pm (4096 * sl + pd sl) K) (4096 * sl + (pd sl + 1)) 0) ok ol (mCos b n u PT sl lo (pN b y 4 lo) (y + 4, wr, pl, pN b y 4 lo, vz, pq, fx))
  else if K = 3 then mT3 lo (4096 * sl + (pd sl + 1)) (pN b y 4 lo) ok ol (mRs b n u PT PN sl lo (pN b y 4 lo) (y + 4, wr, pl, pN b y 4 lo, vz, pq, fx, va_up pd sl (pd sl + 1 + 1), va_up (va_up pm (4096 * sl + pd sl) K) (4096 * sl + (pd sl + 1)) 0))
  else if pN b y 4 lo = 0 then (1, y + 4, lo, wr, pl, pN b y 4 lo, vz, pq, fx, va_up pd sl (pd sl + 1 + 1), va_up (va_up (va_up pm (4096 * sl + pd sl) K) (4096 * sl + (pd sl + 1)) 0) (4096 * sl + (pd sl + 1)) (pN b y 4 lo), ok, ol)
  else (2, y + 4, lo, wr, pl, pN b y 4 lo, vz, pq, fx, va_up pd sl (pd sl + 1 + 1), va_up (va_up (va_up pm (4096 * sl + pd sl) K) (4096 * sl + (pd sl + 1)) 0) (4096 * sl + (pd sl + 1)) (pN b y 4 lo), va_up ok dp K, va_up ol dp (pN b y 4 lo))
def mSh2 (b : Nat → Nat) (n u PT PN sl dp T f lo wr pl : Nat) (vz : Int32) (pq : Nat → Nat) (fx : Nat → Int32) (pd pm ok ol : Nat → Nat) : Nat × msS :=
  if kOf T = 0 ∨ (mPar ok dp < 7 ∧ ¬ kOf T = mPar ok dp - 3) then (0, f + 4, lo, 2, f, T, vz, pq, fx, pd, pm, ok, ol)
  else if tMore T = 1 then (0, f + 4, lo, 9, f, T, vz, pq, fx, pd, pm, ok, ol)
  else if kOf T = 7 ∧ nCol ok dp = 50 then (0, f + 4, lo, 6, f, T, vz, pq, fx, pd, pm, ok, ol)
  else if tMark T = 1 then (if n < f + 4 + 4 then (0, f + 4, lo, 3, f + 4, T, vz, pq, fx, pd, pm, ok, ol) else mTail b n u PT PN sl dp (kOf T) (f + 4 + 4) lo wr pl (pN b (f + 4) 4 lo) vz pq fx pd pm ok ol)
  else mTail b n u PT PN sl dp (kOf T) (f + 4) lo wr pl T vz pq fx pd pm ok ol
def mShape (b : Nat → Nat) (n u PT PN sl dp t lo wr pl nm : Nat) (vz : Int32) (pq : Nat → Nat) (fx : Nat → Int32) (pd pm ok ol : Nat → Nat) : Nat × msS :=
  if n ≤ t then (0, t, lo, 3, t, nm, vz, pq, fx, pd, pm, ok, ol)
  else if 1 < b t then (0, t, lo, 1, t, nm, vz, pq, fx, pd, pm, ok, ol)
  else if n < t + 1 + 4 then (0, t + 1, b t, 3, t + 1, nm, vz, pq, fx, pd, pm, ok, ol)
  else mSh2 b n u PT PN sl dp (pN b (t + 1) 4 (b t)) (t + 1) (b t) wr pl vz pq fx pd pm ok ol
/-- what shape answers -/
def rS (k dp : Nat) : Int32 := if k = 0 then -1 else if k = 1 then nI dp else nI (dp + 1)
theorem kM7_0 {w : Nat} (h : kOf w = 0) : kM7 w = -1 := if_pos h
theorem kM7_n {w : Nat} (h : ¬ kOf w = 0) : kM7 w = nI (kOf w) := if_neg h
theorem mRs_k {b : Nat → Nat} {n u PT PN sl lo : Nat} : ∀ {c : Nat} {y z : mrS} {k : Nat}, mRs b n u PT PN sl lo c y = (k, z) → k ≤ 1
  | 0, y, z, k, h => by
    have h : (1, y) = (k, z) := h
    cases h
    exact Nat.le_refl 1
  | c + 1, (t, wr, pl, nm, vz, pq, fx, pd, pm), z, k, h => by
    change (if (mRing b n u PT PN sl lo (t, wr, pl, nm, vz, pq, fx, pd, pm)).1 = 0 then mRing b n u PT PN sl lo (t, wr, pl, nm, vz, pq, fx, pd, pm) else mRs b n u PT PN sl lo c (mRing b n u PT PN sl lo (t, wr, pl, nm, vz, pq, fx, pd, pm)).2) = _ at h
    by_cases q : (mRing b n u PT PN sl lo (t, wr, pl, nm, vz, pq, fx, pd, pm)).1 = 0
    · rw [if_pos q] at h
      rw [h] at q
      have q : k = 0 := q
      omega
    · rw [if_neg q] at h
      exact mRs_k h
