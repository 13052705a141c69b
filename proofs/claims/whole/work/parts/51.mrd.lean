/-! the reference's reading as functions -/
abbrev mcS : Type := Nat × Nat × Nat × Nat × Int32 × (Nat → Nat) × (Nat → Int32)
def mRd (v u y wr pl : Nat) (vz : Int32) : Nat × Nat × Nat × Int32 :=
  if rE v = 2047 then (0, 4, y, vz) else if 1000000000 < rMag v u then (0, 5, y, vz) else (1, wr, pl, (rVal v u).toInt32)
/-- a value: taken and rounded -/
def mVal (b : Nat → Nat) (n u lo t wr pl nm : Nat) (vz : Int32) : Nat × Nat × Nat × Nat × Nat × Int32 :=
  if n < t + 8 then (0, t, 3, t, nm, vz)
  else match mRd (pN b t 8 lo) u t wr pl vz with
    | (k, wr, pl, vz) => (k, t + 8, wr, pl, pN b t 8 lo, vz)
/-- the second value, and the point -/
def mCo2 (b : Nat → Nat) (n u sl lo t wr pl nm : Nat) (vz : Int32) (pq : Nat → Nat) (fx : Nat → Int32) : Nat × mcS :=
  match mVal b n u lo t wr pl nm vz with
  | (0, t, wr, pl, nm, v2) => (0, t, wr, pl, nm, v2, pq, fx)
  | (_, t, wr, pl, nm, v2) => (1, t, wr, pl, nm, v2, va_up pq sl (pq sl + 1), upd (upd fx (2 * (4096 * sl + pq sl)) vz) (2 * (4096 * sl + pq sl) + 1) v2)
def mCoord (b : Nat → Nat) (n u PT sl lo t wr pl nm : Nat) (vz : Int32) (pq : Nat → Nat) (fx : Nat → Int32) : Nat × mcS :=
  if PT < pq sl + 1 then (0, t, 7, t, nm, vz, pq, fx)
  else match mVal b n u lo t wr pl nm vz with
    | (0, t, wr, pl, nm, v1) => (0, t, wr, pl, nm, v1, pq, fx)
    | (_, t, wr, pl, nm, v1) => mCo2 b n u sl lo t wr pl nm v1 pq fx
def mCoy (b : Nat → Nat) (n u PT sl lo : Nat) : mcS → Nat × mcS
  | (t, wr, pl, nm, vz, pq, fx) => mCoord b n u PT sl lo t wr pl nm vz pq fx
/-- c coordinates -/
def mCos (b : Nat → Nat) (n u PT sl lo : Nat) : Nat → mcS → Nat × mcS
  | 0, y => (1, y)
  | c + 1, y => if (mCoy b n u PT sl lo y).1 = 0 then mCoy b n u PT sl lo y else mCos b n u PT sl lo c (mCoy b n u PT sl lo y).2
theorem mRd_k {v u y wr pl : Nat} {vz : Int32} {k1 wr1 pl1 : Nat} {vz1 : Int32} (hs : mRd v u y wr pl vz = (k1, wr1, pl1, vz1)) : k1 ≤ 1 := by
  unfold mRd at hs
  split at hs
  · cases hs; omega
  · split at hs <;> (cases hs; omega)
theorem mVal_bd {b : Nat → Nat} {n u lo t wr pl nm : Nat} {vz : Int32} {k1 t1 wr1 pl1 nm1 : Nat} {vz1 : Int32} (hs : mVal b n u lo t wr pl nm vz = (k1, t1, wr1, pl1, nm1, vz1)) (ht : t ≤ n) : k1 ≤ 1 ∧ t1 ≤ n := by
  unfold mVal at hs
  split at hs
  · cases hs; exact ⟨by omega, ht⟩
  · obtain ⟨⟨k2, wr2, pl2, vz2⟩, hz⟩ : ∃ z, z = mRd (pN b t 8 lo) u t wr pl vz := ⟨_, rfl⟩
    rw [← hz] at hs
    have h := mRd_k hz.symm
    cases hs
    exact ⟨h, by omega⟩
theorem mCo2_bd {b : Nat → Nat} {n u sl lo t wr pl nm PT : Nat} {vz : Int32} {pq : Nat → Nat} {fx : Nat → Int32} {k1 t1 wr1 pl1 nm1 : Nat} {vz1 : Int32} {pq1 : Nat → Nat} {fx1 : Nat → Int32} (hs : mCo2 b n u sl lo t wr pl nm vz pq fx = (k1, t1, wr1, pl1, nm1, vz1, pq1, fx1)) (ht : t ≤ n) (hq : pq sl + 1 ≤ PT) : k1 ≤ 1 ∧ t1 ≤ n ∧ pq1 sl ≤ PT := by
  unfold mCo2 at hs
  obtain ⟨⟨k2, t2, wr2, pl2, nm2, vz2⟩, hz⟩ : ∃ z, z = mVal b n u lo t wr pl nm vz := ⟨_, rfl⟩
  have h := mVal_bd hz.symm ht
  rw [← hz] at hs
  match k2, hs with
  | 0, hs => cases hs; exact ⟨by omega, h.2, by omega⟩
  | _ + 1, hs => cases hs; exact ⟨by omega, h.2, by rw [va_up_self]; exact hq⟩
theorem mCoord_bd {b : Nat → Nat} {n u PT sl lo t wr pl nm : Nat} {vz : Int32} {pq : Nat → Nat} {fx : Nat → Int32} {k1 t1 wr1 pl1 nm1 : Nat} {vz1 : Int32} {pq1 : Nat → Nat} {fx1 : Nat → Int32} (hs : mCoord b n u PT sl lo t wr pl nm vz pq fx = (k1, t1, wr1, pl1, nm1, vz1, pq1, fx1)) (ht : t ≤ n) (hq : pq sl ≤ PT) : k1 ≤ 1 ∧ t1 ≤ n ∧ pq1 sl ≤ PT := by
  unfold mCoord at hs
  split at hs
  · cases hs; exact ⟨by omega, ht, hq⟩
  · obtain ⟨⟨k2, t2, wr2, pl2, nm2, vz2⟩, hz⟩ : ∃ z, z = mVal b n u lo t wr pl nm vz := ⟨_, rfl⟩
    have h := mVal_bd hz.symm ht
    rw [← hz] at hs
    match k2, hs with
    | 0, hs => cases hs; exact ⟨by omega, h.2, hq⟩
    | _ + 1, hs => exact mCo2_bd hs h.2 (by omega)
theorem mCos_end {b : Nat → Nat} {n u PT sl lo c : Nat} {Z y : Nat × mcS} : True := trivial
theorem mCos_step {b : Nat → Nat} {n u PT sl lo c k : Nat} {y : mcS} {Z z : Nat × mcS} (h : mCos b n u PT sl lo (c - k) y = Z) (hk : k < c) (hz : mCoy b n u PT sl lo y = z) : (z.1 = 0 → z = Z) ∧ (¬ z.1 = 0 → mCos b n u PT sl lo (c - (k + 1)) z.2 = Z) := by
  rw [show c - k = (c - (k + 1)) + 1 by omega] at h
  change (if (mCoy b n u PT sl lo y).1 = 0 then mCoy b n u PT sl lo y else mCos b n u PT sl lo (c - (k + 1)) (mCoy b n u PT sl lo y).2) = Z at h
  rw [hz] at h
  refine ⟨fun q => ?_, fun q => ?_⟩
  · rw [if_pos q] at h; exact h
  · rw [if_neg q] at h; exact h
