/-! rings, as a function -/
abbrev mrS : Type := Nat × Nat × Nat × Nat × Int32 × (Nat → Nat) × (Nat → Int32) × (Nat → Nat) × (Nat → Nat)
def mRg2 (sl c : Nat) (pd pm : Nat → Nat) : Nat × mcS → Nat × mrS
  | (k, t, wr, pl, nm, vz, pq, fx) => (k, t, wr, pl, nm, vz, pq, fx, va_up pd sl (pd sl + 1), if k = 0 then va_up pm (4096 * sl + pd sl) 0 else va_up (va_up pm (4096 * sl + pd sl) 0) (4096 * sl + pd sl) c)
def mRing (b : Nat → Nat) (n u PT PN sl lo : Nat) : mrS → Nat × mrS
  | (t, wr, pl, nm, vz, pq, fx, pd, pm) =>
    if PN < pd sl + 1 then (0, t, 7, t, nm, vz, pq, fx, pd, pm)
    else if n < t + 4 then (0, t, 3, t, nm, vz, pq, fx, pd, pm)
    else if pN b t 4 lo = 0 then (0, t + 4, 4, t, pN b t 4 lo, vz, pq, fx, pd, pm)
    else mRg2 sl (pN b t 4 lo) pd pm (mCos b n u PT sl lo (pN b t 4 lo) (t + 4, wr, pl, pN b t 4 lo, vz, pq, fx))
def mRs (b : Nat → Nat) (n u PT PN sl lo : Nat) : Nat → mrS → Nat × mrS
  | 0, y => (1, y)
  | c + 1, y => if (mRing b n u PT PN sl lo y).1 = 0 then mRing b n u PT PN sl lo y else mRs b n u PT PN sl lo c (mRing b n u PT PN sl lo y).2
theorem mRing_eq (b : Nat → Nat) (n u PT PN sl lo t wr pl nm : Nat) (vz : Int32) (pq : Nat → Nat) (fx : Nat → Int32) (pd pm : Nat → Nat) : mRing b n u PT PN sl lo (t, wr, pl, nm, vz, pq, fx, pd, pm) =
    if PN < pd sl + 1 then (0, t, 7, t, nm, vz, pq, fx, pd, pm)
    else if n < t + 4 then (0, t, 3, t, nm, vz, pq, fx, pd, pm)
    else if pN b t 4 lo = 0 then (0, t + 4, 4, t, pN b t 4 lo, vz, pq, fx, pd, pm)
    else mRg2 sl (pN b t 4 lo) pd pm (mCos b n u PT sl lo (pN b t 4 lo) (t + 4, wr, pl, pN b t 4 lo, vz, pq, fx)) := rfl
theorem mRs_step {b : Nat → Nat} {n u PT PN sl lo c k : Nat} {y : mrS} {Z z : Nat × mrS} (h : mRs b n u PT PN sl lo (c - k) y = Z) (hk : k < c) (hz : mRing b n u PT PN sl lo y = z) : (z.1 = 0 → z = Z) ∧ (¬ z.1 = 0 → mRs b n u PT PN sl lo (c - (k + 1)) z.2 = Z) := by
  rw [show c - k = (c - (k + 1)) + 1 by omega] at h
  change (if (mRing b n u PT PN sl lo y).1 = 0 then mRing b n u PT PN sl lo y else mRs b n u PT PN sl lo (c - (k + 1)) (mRing b n u PT PN sl lo y).2) = Z at h
  rw [hz] at h
  refine ⟨fun q => ?_, fun q => ?_⟩
  · rw [if_pos q] at h; exact h
  · rw [if_neg q] at h; exact h
theorem mCos_bd {b : Nat → Nat} {n u PT sl lo : Nat} : ∀ (c t wr pl nm : Nat) (vz : Int32) (pq : Nat → Nat) (fx : Nat → Int32) (k1 t1 wr1 pl1 nm1 : Nat) (vz1 : Int32) (pq1 : Nat → Nat) (fx1 : Nat → Int32), mCos b n u PT sl lo c (t, wr, pl, nm, vz, pq, fx) = (k1, t1, wr1, pl1, nm1, vz1, pq1, fx1) → t ≤ n → pq sl ≤ PT → k1 ≤ 1 ∧ t1 ≤ n ∧ pq1 sl ≤ PT
  | 0, t, wr, pl, nm, vz, pq, fx, k1, t1, wr1, pl1, nm1, vz1, pq1, fx1, hs, ht, hq => by
    have hs : (1, t, wr, pl, nm, vz, pq, fx) = (k1, t1, wr1, pl1, nm1, vz1, pq1, fx1) := hs
    cases hs
    exact ⟨Nat.le_refl 1, ht, hq⟩
  | c + 1, t, wr, pl, nm, vz, pq, fx, k1, t1, wr1, pl1, nm1, vz1, pq1, fx1, hs, ht, hq => by
    change (if (mCoord b n u PT sl lo t wr pl nm vz pq fx).1 = 0 then mCoord b n u PT sl lo t wr pl nm vz pq fx else mCos b n u PT sl lo c (mCoord b n u PT sl lo t wr pl nm vz pq fx).2) = _ at hs
    obtain ⟨⟨k2, t2, wr2, pl2, nm2, vz2, pq2, fx2⟩, hz⟩ : ∃ z, z = mCoord b n u PT sl lo t wr pl nm vz pq fx := ⟨_, rfl⟩
    obtain ⟨a1, a2, a3⟩ := mCoord_bd hz.symm ht hq
    rw [← hz] at hs
    by_cases q : k2 = 0
    · rw [if_pos (show (k2, t2, wr2, pl2, nm2, vz2, pq2, fx2).1 = 0 from q)] at hs
      cases hs
      exact ⟨a1, a2, a3⟩
    · rw [if_neg (show ¬ (k2, t2, wr2, pl2, nm2, vz2, pq2, fx2).1 = 0 from q)] at hs
      exact mCos_bd c t2 wr2 pl2 nm2 vz2 pq2 fx2 k1 t1 wr1 pl1 nm1 vz1 pq1 fx1 hs a2 a3
/-- how many of the first d are collections -/
def nCol (ok : Nat → Nat) : Nat → Nat
  | 0 => 0
  | d + 1 => nCol ok d + if ok d = 7 then 1 else 0
theorem nCol_le (ok : Nat → Nat) : ∀ d, nCol ok d ≤ d
  | 0 => Nat.le_refl 0
  | d + 1 => by
    have h := nCol_le ok d
    show nCol ok d + (if ok d = 7 then 1 else 0) ≤ d + 1
    split <;> omega
