/-! the reader's steps as functions: (1, the state) or (0, the state with what was wrong and its place) -/
abbrev rdS : Type := Nat × Nat × Nat × Nat × Nat × Nat × Nat × (Nat → Nat) × (Nat → Nat) × (Nat → Nat) × (Nat → Int32)
/-- an empty POINT stands here -/
def eP (b : Nat → Nat) (n t lo : Nat) : Nat := if t + 16 ≤ n ∧ 9218868437227405312 < pN b t 8 lo % 9223372036854775808 ∧ 9218868437227405312 < pN b (t + 8) 8 lo % 9223372036854775808 then 1 else 0
/-- what a kind's items are -/
def iOf (k : Nat) : Nat := if k = 2 then 9 else if k = 3 then 8 else if k = 7 then 0 else k - 3
/-- a value of a coordinate -/
def sVal (b : Nat → Nat) (n u : Nat) (w t lo wr pl pn vn : Nat) (cl cd pf : Nat → Nat) (fv : Nat → Int32) : Nat × rdS :=
    if n < t + 8 then (0, (w, t, lo, 3, t, pn, vn, cl, cd, pf, fv))
    else if 9218868437227405312 ≤ pN b t 8 lo % 9223372036854775808 then (0, (w, t + 8, lo, 4, t, pn, vn, cl, cd, pf, fv))
    else if rVal (pN b t 8 lo) u < -1000000000 ∨ 1000000000 < rVal (pN b t 8 lo) u then (0, (w, t + 8, lo, 5, t, pn, vn, cl, cd, pf, fv))
    else (1, (w, t + 8, lo, wr, pl, pn, vn + 1, cl, cd, pf, upd fv vn (rVal (pN b t 8 lo) u).toInt32))
/-- a coordinate -/
def sCoord (b : Nat → Nat) (n u VN : Nat) (w t lo wr pl pn vn : Nat) (cl cd pf : Nat → Nat) (fv : Nat → Int32) : Nat × rdS :=
  if VN < vn + 2 then (0, (w, t, lo, 7, t, pn, vn, cl, cd, pf, fv))
  else match sVal b n u w t lo wr pl pn vn cl cd pf fv with
    | (0, y) => (0, y)
    | (_, (w, t, lo, wr, pl, pn, vn, cl, cd, pf, fv)) => sVal b n u w t lo wr pl pn vn cl cd pf fv
/-- a ring -/
def sRing (b : Nat → Nat) (n PN : Nat) (w t lo wr pl pn vn : Nat) (cl cd pf : Nat → Nat) (fv : Nat → Int32) : Nat × rdS :=
    if PN < pn + 1 then (0, (w, t, lo, 7, t, pn, vn, cl, cd, pf, fv))
    else if n < t + 4 then (0, (w, t, lo, 3, t, pn, vn, cl, cd, pf, fv))
    else if pN b t 4 lo = 0 then (0, (w, t + 4, lo, 4, t, pn, vn, cl, cd, pf, fv))
    else (1, (w + 1, t + 4, lo, wr, pl, pn + 1, vn, va_up cl w (pN b t 4 lo), va_up cd w 9, va_up pf pn (pN b t 4 lo), fv))
/-- behind a shape's kind, which stands in the plan -/
def sBody (b : Nat → Nat) (n kind : Nat) (w t lo wr pl pn vn : Nat) (cl cd pf : Nat → Nat) (fv : Nat → Int32) : Nat × rdS :=
    if kind = 1 then
      if eP b n t lo = 1 then (1, (w, t + 16, lo, wr, pl, pn + 1, vn, cl, cd, va_up pf pn 0, fv))
      else (1, (w + 1, t, lo, wr, pl, pn + 1, vn, va_up cl w 1, va_up cd w 9, va_up pf pn 1, fv))
    else if n < t + 4 then (0, (w, t, lo, 3, t, pn, vn, cl, cd, pf, fv))
    else (1, (w + 1, t + 4, lo, wr, pl, pn + 1, vn, va_up cl w (pN b t 4 lo), va_up cd w (iOf kind), va_up pf pn (pN b t 4 lo), fv))
/-- behind a shape's type T, which began at y -/
def sType (b : Nat → Nat) (n PN due T y : Nat) (w t lo wr pl pn vn : Nat) (cl cd pf : Nat → Nat) (fv : Nat → Int32) : Nat × rdS :=
    if kOf T = 0 ∨ (¬ due = 0 ∧ ¬ due = kOf T) then (0, (w, t, lo, 2, y, pn, vn, cl, cd, pf, fv))
    else if tMore T = 1 then (0, (w, t, lo, 9, y, pn, vn, cl, cd, pf, fv))
    else if kOf T = 7 ∧ 50 ≤ w - 1 then (0, (w, t, lo, 6, y, pn, vn, cl, cd, pf, fv))
    else if tMark T = 1 ∧ n < t + 4 then (0, (w, t, lo, 3, t, pn, vn, cl, cd, pf, fv))
    else if PN < pn + 2 then (0, (w, t + 4 * tMark T, lo, 7, t + 4 * tMark T, pn, vn, cl, cd, pf, fv))
    else sBody b n (kOf T) w (t + 4 * tMark T) lo wr pl (pn + 1) vn cl cd (va_up pf pn (kOf T)) fv
/-- a shape -/
def sShape (b : Nat → Nat) (n PN due : Nat) (w t lo wr pl pn vn : Nat) (cl cd pf : Nat → Nat) (fv : Nat → Int32) : Nat × rdS :=
    if n < t + 1 then (0, (w, t, lo, 3, t, pn, vn, cl, cd, pf, fv))
    else if 1 < b t then (0, (w, t, lo, 1, t, pn, vn, cl, cd, pf, fv))
    else if n < t + 1 + 4 then (0, (w, t + 1, b t, 3, t + 1, pn, vn, cl, cd, pf, fv))
    else sType b n PN due (pN b (t + 1) 4 (b t)) (t + 1) w (t + 1 + 4) (b t) wr pl pn vn cl cd pf fv
/-- an item of what waits innermost -/
def sItem (b : Nat → Nat) (n u PN VN : Nat) (w t lo wr pl pn vn : Nat) (cl cd pf : Nat → Nat) (fv : Nat → Int32) : Nat × rdS :=
    if cd (w - 1) = 9 then sCoord b n u VN w t lo wr pl pn vn (va_up cl (w - 1) (cl (w - 1) - 1)) cd pf fv
    else if cd (w - 1) = 8 then sRing b n PN w t lo wr pl pn vn (va_up cl (w - 1) (cl (w - 1) - 1)) cd pf fv
    else sShape b n PN (cd (w - 1)) w t lo wr pl pn vn (va_up cl (w - 1) (cl (w - 1) - 1)) cd pf fv
theorem pN_lt {b : Nat → Nat} (hb : ∀ j, b j < 256) (t lo : Nat) : pN b t 8 lo < 2 ^ 64 := pI_lt hb t 8 lo 8
theorem pN_lt4 {b : Nat → Nat} (hb : ∀ j, b j < 256) (t lo : Nat) : pN b t 4 lo < 2 ^ 32 := pI_lt hb t 4 lo 4
theorem eP_le (b : Nat → Nat) (n t lo : Nat) : eP b n t lo ≤ 1 := by unfold eP; split <;> omega
theorem eP_lt {b : Nat → Nat} {n t lo : Nat} : eP b n t lo < 2 ^ 31 := Nat.lt_of_le_of_lt (eP_le b n t lo) (by decide)
theorem ite_lt {c : Prop} [Decidable c] : (if c then 1 else 0) < 2 ^ 31 := by split <;> decide
theorem ite_ne {c : Prop} [Decidable c] (h : ¬ (if c then 1 else 0) = 0) : c := by
  by_cases q : c
  · exact q
  · rw [if_neg q] at h; exact absurd rfl h
theorem ite_p {c : Prop} [Decidable c] (q : c) : (if c then 1 else 0) = 1 := if_pos q
theorem kOf_le (w : Nat) : kOf w ≤ 7 := by unfold kOf; split <;> omega
theorem tMore_le (w : Nat) : tMore w ≤ 1 := by unfold tMore; split <;> omega
theorem tMark_le (w : Nat) : tMark w ≤ 1 := by unfold tMark; split <;> omega
theorem sVal_bd {b : Nat → Nat} {n u : Nat} {w t lo wr pl pn vn : Nat} {cl cd pf : Nat → Nat} {fv : Nat → Int32} {k1 w1 t1 lo1 wr1 pl1 pn1 vn1 : Nat} {cl1 cd1 pf1 : Nat → Nat} {fv1 : Nat → Int32}
    (hs : sVal b n u w t lo wr pl pn vn cl cd pf fv = (k1, (w1, t1, lo1, wr1, pl1, pn1, vn1, cl1, cd1, pf1, fv1))) (ht : t ≤ n) : k1 ≤ 1 ∧ w1 = w ∧ t1 ≤ n ∧ lo1 = lo ∧ pn1 = pn ∧ vn1 ≤ vn + 1 := by
  unfold sVal at hs
  split at hs
  · cases hs; exact ⟨by omega, rfl, by omega, rfl, rfl, by omega⟩
  · split at hs
    · cases hs; exact ⟨by omega, rfl, by omega, rfl, rfl, by omega⟩
    · split at hs
      · cases hs; exact ⟨by omega, rfl, by omega, rfl, rfl, by omega⟩
      · cases hs; exact ⟨by omega, rfl, by omega, rfl, rfl, by omega⟩
/-- what still waits, the finished left -/
def popZ (cl : Nat → Nat) : Nat → Nat
  | 0 => 0
  | w + 1 => if cl w = 0 then popZ cl w else w + 1
theorem popZ_0 {cl : Nat → Nat} {v : Nat} (h : cl v = 0) : popZ cl (v + 1) = popZ cl v := by
  show (if cl v = 0 then popZ cl v else v + 1) = _
  rw [if_pos h]
theorem popZ_n {cl : Nat → Nat} {v : Nat} (h1 : 0 < v) (h : ¬ cl (v - 1) = 0) : popZ cl v = v := by
  cases v with
  | zero => omega
  | succ v => exact if_neg (show ¬ cl v = 0 from h)
