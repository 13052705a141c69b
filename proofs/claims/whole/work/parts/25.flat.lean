/-! the plan read flat: shapes one behind the other, (bytes, plan numbers, points) behind so many -/
def rSum (pf : Nat → Nat) (i : Nat) : Nat → Nat
  | 0 => 0
  | r + 1 => rSum pf i r + pf (i + r)
def gSt (pf : Nat → Nat) : Nat × Nat × Nat → Nat × Nat × Nat
  | (n, i, q) => if pf i = 1 then (n + 21, i + 2, if pf (i + 1) = 0 then q else q + 1) else if pf i = 2 then (n + 9 + 16 * pf (i + 1), i + 2, q + pf (i + 1))
    else if pf i = 3 then (n + 9 + (4 * pf (i + 1) + 16 * rSum pf (i + 2) (pf (i + 1))), i + 2 + pf (i + 1), q + rSum pf (i + 2) (pf (i + 1))) else (n + 9, i + 2, q)
theorem gSt_eq (pf : Nat → Nat) (n i q : Nat) : gSt pf (n, i, q) = if pf i = 1 then (n + 21, i + 2, if pf (i + 1) = 0 then q else q + 1) else if pf i = 2 then (n + 9 + 16 * pf (i + 1), i + 2, q + pf (i + 1))
    else if pf i = 3 then (n + 9 + (4 * pf (i + 1) + 16 * rSum pf (i + 2) (pf (i + 1))), i + 2 + pf (i + 1), q + rSum pf (i + 2) (pf (i + 1))) else (n + 9, i + 2, q) := rfl
def gIt (pf : Nat → Nat) : Nat → Nat × Nat × Nat
  | 0 => (0, 0, 0)
  | j + 1 => gSt pf (gIt pf j)
theorem rSum_congr {f g : Nat → Nat} {i : Nat} : ∀ r, (∀ j, i ≤ j → j < i + r → g j = f j) → rSum g i r = rSum f i r
  | 0, _ => rfl
  | r + 1, h => by
    show rSum g i r + g (i + r) = rSum f i r + f (i + r)
    rw [rSum_congr r (fun j h1 h2 => h j h1 (by omega)), h (i + r) (by omega) (by omega)]
theorem gSt_i (pf : Nat → Nat) (n i q : Nat) : i + 2 ≤ (gSt pf (n, i, q)).2.1 ∧ n ≤ (gSt pf (n, i, q)).1 ∧ q ≤ (gSt pf (n, i, q)).2.2 := by
  rw [gSt_eq]
  by_cases h1 : pf i = 1
  · simp only [h1, if_true]
    refine ⟨Nat.le_refl _, by omega, ?_⟩
    split <;> omega
  · by_cases h2 : pf i = 2
    · simp only [h2]
      exact ⟨Nat.le_refl _, by simp; omega, by simp⟩
    · by_cases h3 : pf i = 3
      · simp only [h3]
        exact ⟨by simp, by simp; omega, by simp⟩
      · simp only [h1, h2, h3, if_false]
        exact ⟨Nat.le_refl _, by omega, Nat.le_refl _⟩
theorem gSt_congr {f g : Nat → Nat} {n i q : Nat} (h : ∀ j, j < (gSt f (n, i, q)).2.1 → g j = f j) : gSt g (n, i, q) = gSt f (n, i, q) := by
  have hi := (gSt_i f n i q).1
  have e0 := h i (by omega)
  have e1 := h (i + 1) (by omega)
  rw [gSt_eq, gSt_eq]
  simp only [e0, e1]
  by_cases h3 : f i = 3
  · have e2 : rSum g (i + 2) (f (i + 1)) = rSum f (i + 2) (f (i + 1)) := by
      refine rSum_congr _ (fun j h4 h5 => h j ?_)
      rw [gSt_eq]
      simp only [h3]
      simp
      omega
    rw [e2]
  · simp only [h3, if_false]
theorem gIt_mono1 (pf : Nat → Nat) (j : Nat) : (gIt pf j).2.1 + 2 ≤ (gIt pf (j + 1)).2.1 ∧ (gIt pf j).1 ≤ (gIt pf (j + 1)).1 ∧ (gIt pf j).2.2 ≤ (gIt pf (j + 1)).2.2 := gSt_i pf _ _ _
theorem gIt_mono (pf : Nat → Nat) : ∀ (k j : Nat), j ≤ k → (gIt pf j).2.1 ≤ (gIt pf k).2.1 ∧ (gIt pf j).1 ≤ (gIt pf k).1 ∧ (gIt pf j).2.2 ≤ (gIt pf k).2.2
  | 0, j, h => by
    have e : j = 0 := by omega
    subst e
    exact ⟨Nat.le_refl _, Nat.le_refl _, Nat.le_refl _⟩
  | k + 1, j, h => by
    by_cases e : j = k + 1
    · subst e
      exact ⟨Nat.le_refl _, Nat.le_refl _, Nat.le_refl _⟩
    · obtain ⟨a1, a2, a3⟩ := gIt_mono pf k j (by omega)
      obtain ⟨b1, b2, b3⟩ := gIt_mono1 pf k
      exact ⟨by omega, by omega, by omega⟩
theorem gIt_le (pf : Nat → Nat) : ∀ j, 2 * j ≤ (gIt pf j).2.1
  | 0 => Nat.le_refl 0
  | j + 1 => by
    have h := gIt_le pf j
    have h2 := (gIt_mono1 pf j).1
    omega
theorem gIt_congr {f g : Nat → Nat} : ∀ J, (∀ j, j < (gIt f J).2.1 → g j = f j) → gIt g J = gIt f J
  | 0, _ => rfl
  | J + 1, h => by
    show gSt g (gIt g J) = gSt f (gIt f J)
    rw [gIt_congr J (fun j hj => h j (by have := (gIt_mono1 f J).1; omega))]
    exact gSt_congr h
def gOK (pf : Nat → Nat) (J N i0 q0 : Nat) : Prop := gIt pf J = (N, i0, q0) ∧ ∀ j, j < J → 1 ≤ pf (gIt pf j).2.1 ∧ pf (gIt pf j).2.1 ≤ 7 ∧ (pf (gIt pf j).2.1 = 1 → pf ((gIt pf j).2.1 + 1) ≤ 1)
theorem gOK_congr {f g : Nat → Nat} {J N i0 q0 : Nat} (h : gOK f J N i0 q0) (hc : ∀ j, j < i0 → g j = f j) : gOK g J N i0 q0 := by
  have hi : (gIt f J).2.1 = i0 := by rw [h.1]
  refine ⟨?_, fun j hj => ?_⟩
  · rw [gIt_congr J (fun j hj => hc j (by omega))]
    exact h.1
  · have m1 := (gIt_mono1 f j).1
    have m2 := (gIt_mono f J (j + 1) (by omega)).1
    rw [gIt_congr j (fun z hz => hc z (by omega)), hc (gIt f j).2.1 (by omega), hc ((gIt f j).2.1 + 1) (by omega)]
    exact h.2 j hj
theorem gOK_up {f : Nat → Nat} {J N i0 q0 k x : Nat} (h : gOK f J N i0 q0) (hk : i0 ≤ k) : gOK (va_up f k x) J N i0 q0 :=
  gOK_congr h (fun j hj => if_neg (by omega))
theorem gOK_step {f : Nat → Nat} {J N i0 q0 N1 i1 q1 : Nat} (h : gOK f J N i0 q0) (h1 : 1 ≤ f i0) (h7 : f i0 ≤ 7) (hp : f i0 = 1 → f (i0 + 1) ≤ 1) (hs : gSt f (N, i0, q0) = (N1, i1, q1)) : gOK f (J + 1) N1 i1 q1 := by
  refine ⟨?_, fun j hj => ?_⟩
  · show gSt f (gIt f J) = _
    rw [h.1, hs]
  · by_cases e : j = J
    · subst e
      rw [h.1]
      exact ⟨h1, h7, hp⟩
    · exact h.2 j (by omega)
/-- no ring and no coordinate is awaited below m -/
def lowOK (cd : Nat → Nat) (m : Nat) : Prop := ∀ i, i < m → ¬ cd i = 8 ∧ ¬ cd i = 9
def PIa (w t pn vn : Nat) (cl cd pf : Nat → Nat) : Prop := ∃ J N i0 q0, gOK pf J N i0 q0 ∧ lowOK cd w ∧ pn = i0 ∧ vn = 2 * q0 ∧ N ≤ t
def PIb (w t pn vn : Nat) (cl cd pf : Nat → Nat) : Prop := ∃ J N i0 q0 d, gOK pf J N i0 q0 ∧ 1 ≤ w ∧ cd (w - 1) = 9 ∧ lowOK cd (w - 1) ∧ pn = i0 + 2 ∧ cl (w - 1) + d = pf (i0 + 1) ∧ vn = 2 * (q0 + d) ∧
  ((pf i0 = 1 ∧ pf (i0 + 1) = 1 ∧ N + 5 + 16 * d ≤ t) ∨ (pf i0 = 2 ∧ N + 9 + 16 * d ≤ t))
def PIc (w t pn vn : Nat) (cl cd pf : Nat → Nat) : Prop := ∃ J N i0 q0 d, gOK pf J N i0 q0 ∧ 1 ≤ w ∧ cd (w - 1) = 8 ∧ lowOK cd (w - 1) ∧ pf i0 = 3 ∧ cl (w - 1) + d = pf (i0 + 1) ∧ pn = i0 + 2 + d ∧ vn = 2 * (q0 + rSum pf (i0 + 2) d) ∧ N + 9 + (4 * d + 16 * rSum pf (i0 + 2) d) ≤ t
def PId (w t pn vn : Nat) (cl cd pf : Nat → Nat) : Prop := ∃ J N i0 q0 d g, gOK pf J N i0 q0 ∧ 2 ≤ w ∧ cd (w - 1) = 9 ∧ cd (w - 2) = 8 ∧ lowOK cd (w - 2) ∧ pf i0 = 3 ∧ cl (w - 2) + (d + 1) = pf (i0 + 1) ∧ pn = i0 + 2 + d + 1 ∧ cl (w - 1) + g = pf (i0 + 2 + d) ∧ vn = 2 * (q0 + rSum pf (i0 + 2) d + g) ∧ N + 9 + (4 * (d + 1) + 16 * (rSum pf (i0 + 2) d + g)) ≤ t
def PI (w t pn vn : Nat) (cl cd pf : Nat → Nat) : Prop := PIa w t pn vn cl cd pf ∨ PIb w t pn vn cl cd pf ∨ PIc w t pn vn cl cd pf ∨ PId w t pn vn cl cd pf
section PIS
variable {w t pn vn : Nat} {cl cd pf : Nat → Nat}
theorem PI_pop1 (h : PI (w + 1) t pn vn cl cd pf) (h0 : cl w = 0) : PI w t pn vn cl cd pf := by
  rcases h with h | h | h | h
  · obtain ⟨J, N, i0, q0, a1, a2, a3, a4, a5⟩ := h
    exact Or.inl ⟨J, N, i0, q0, a1, fun i hi => a2 i (by omega), a3, a4, a5⟩
  · obtain ⟨J, N, i0, q0, d, a1, a2, a3, a4, a5, a6, a7, a8⟩ := h
    have a6 : cl w + d = pf (i0 + 1) := a6
    have a4 : lowOK cd w := a4
    rcases a8 with ⟨b1, b2, b3⟩ | ⟨b1, b2⟩
    · refine Or.inl ⟨J + 1, N + 21, i0 + 2, q0 + 1, gOK_step a1 (by omega) (by omega) (fun _ => by omega) ?_, a4, a5, by omega, by omega⟩
      rw [gSt_eq]
      rw [if_pos b1, if_neg (by omega)]
    · refine Or.inl ⟨J + 1, N + 9 + 16 * pf (i0 + 1), i0 + 2, q0 + pf (i0 + 1), gOK_step a1 (by omega) (by omega) (fun z => by omega) ?_, a4, a5, by omega, by omega⟩
      rw [gSt_eq]
      rw [if_neg (by omega), if_pos b1]
  · obtain ⟨J, N, i0, q0, d, a1, a2, a3, a4, a5, a6, a7, a8, a9⟩ := h
    have a6 : cl w + d = pf (i0 + 1) := a6
    have a4 : lowOK cd w := a4
    have e : d = pf (i0 + 1) := by omega
    subst e
    refine Or.inl ⟨J + 1, N + 9 + (4 * pf (i0 + 1) + 16 * rSum pf (i0 + 2) (pf (i0 + 1))), i0 + 2 + pf (i0 + 1), q0 + rSum pf (i0 + 2) (pf (i0 + 1)), gOK_step a1 (by omega) (by omega) (fun z => by omega) ?_, a4, a7, a8, a9⟩
    rw [gSt_eq]
    rw [if_neg (by omega), if_neg (by omega), if_pos a5]
  · obtain ⟨J, N, i0, q0, d, g, a1, a2, a3, a4, a5, a6, a7, a8, a9, b1, b2⟩ := h
    have a9 : cl w + g = pf (i0 + 2 + d) := a9
    have e : w + 1 - 2 = w - 1 := by omega
    rw [e] at a4 a5 a7
    have s1 : rSum pf (i0 + 2) (d + 1) = rSum pf (i0 + 2) d + pf (i0 + 2 + d) := rfl
    exact Or.inr (Or.inr (Or.inl ⟨J, N, i0, q0, d + 1, a1, by omega, a4, a5, a6, a7, by omega, by omega, by omega⟩))
theorem PI_pop : ∀ w, PI w t pn vn cl cd pf → PI (popZ cl w) t pn vn cl cd pf
  | 0, h => h
  | w + 1, h => by
    by_cases h0 : cl w = 0
    · rw [popZ_0 h0]
      exact PI_pop w (PI_pop1 h h0)
    · rw [popZ_n (Nat.succ_pos w) h0]
      exact h
theorem PI_end (h : PI 0 t pn vn cl cd pf) : ∃ J N q0, gOK pf J N pn q0 ∧ vn = 2 * q0 ∧ N ≤ t := by
  rcases h with h | h | h | h
  · obtain ⟨J, N, i0, q0, a1, a2, a3, a4, a5⟩ := h
    subst a3
    exact ⟨J, N, q0, a1, a4, a5⟩
  · obtain ⟨J, N, i0, q0, d, a1, a2, _⟩ := h; omega
  · obtain ⟨J, N, i0, q0, d, a1, a2, _⟩ := h; omega
  · obtain ⟨J, N, i0, q0, d, g, a1, a2, _⟩ := h; omega
theorem PI_0 {cd : Nat → Nat} : PI 1 0 0 0 (va_up cl 0 1) (va_up cd 0 0) pf := by
  refine Or.inl ⟨0, 0, 0, 0, ⟨rfl, fun j hj => absurd hj (Nat.not_lt_zero _)⟩, fun i hi => ?_, rfl, rfl, Nat.le_refl 0⟩
  have e : i = 0 := by omega
  subst e
  have q : va_up cd 0 0 0 = 0 := if_pos rfl
  rw [q]
  exact ⟨by decide, by decide⟩
/-- a coordinate -/
theorem PI_coord (h : PI w t pn vn cl cd pf) (hw : 1 ≤ w) (h9 : cd (w - 1) = 9) (hc : 1 ≤ cl (w - 1)) : PI w (t + 16) pn (vn + 2) (va_up cl (w - 1) (cl (w - 1) - 1)) cd pf := by
  have u1 : va_up cl (w - 1) (cl (w - 1) - 1) (w - 1) = cl (w - 1) - 1 := if_pos rfl
  rcases h with h | h | h | h
  · obtain ⟨J, N, i0, q0, a1, a2, a3, a4, a5⟩ := h
    exact absurd h9 (a2 (w - 1) (by omega)).2
  · obtain ⟨J, N, i0, q0, d, a1, a2, a3, a4, a5, a6, a7, a8⟩ := h
    refine Or.inr (Or.inl ⟨J, N, i0, q0, d + 1, a1, a2, a3, a4, a5, ?_, by omega, ?_⟩)
    · rw [u1]; omega
    · rcases a8 with ⟨b1, b2, b3⟩ | ⟨b1, b2⟩
      · exact Or.inl ⟨b1, b2, by omega⟩
      · exact Or.inr ⟨b1, by omega⟩
  · obtain ⟨J, N, i0, q0, d, a1, a2, a3, _⟩ := h
    omega
  · obtain ⟨J, N, i0, q0, d, g, a1, a2, a3, a4, a5, a6, a7, a8, a9, b1, b2⟩ := h
    have u2 : va_up cl (w - 1) (cl (w - 1) - 1) (w - 2) = cl (w - 2) := if_neg (by omega)
    refine Or.inr (Or.inr (Or.inr ⟨J, N, i0, q0, d, g + 1, a1, a2, a3, a4, a5, a6, ?_, a8, ?_, by omega, by omega⟩))
    · rw [u2]; exact a7
    · rw [u1]; omega
/-- a ring of c points -/
theorem PI_ring {c : Nat} (h : PI w t pn vn cl cd pf) (hw : 1 ≤ w) (h8 : cd (w - 1) = 8) (hc : 1 ≤ cl (w - 1)) : PI (w + 1) (t + 4) (pn + 1) vn (va_up (va_up cl (w - 1) (cl (w - 1) - 1)) w c) (va_up cd w 9) (va_up pf pn c) := by
  rcases h with h | h | h | h
  · obtain ⟨J, N, i0, q0, a1, a2, a3, a4, a5⟩ := h
    exact absurd h8 (a2 (w - 1) (by omega)).1
  · obtain ⟨J, N, i0, q0, d, a1, a2, a3, _⟩ := h
    omega
  · obtain ⟨J, N, i0, q0, d, a1, a2, a3, a4, a5, a6, a7, a8, a9⟩ := h
    have e1 : w + 1 - 1 = w := by omega
    have e2 : w + 1 - 2 = w - 1 := by omega
    have n1 : va_up pf pn c (i0 + 1) = pf (i0 + 1) := if_neg (by omega)
    have n0 : va_up pf pn c i0 = pf i0 := if_neg (by omega)
    have n2 : va_up pf pn c (i0 + 2 + d) = c := if_pos a7.symm
    have n3 : rSum (va_up pf pn c) (i0 + 2) d = rSum pf (i0 + 2) d := rSum_congr d (fun j h1 h2 => if_neg (by omega))
    have c1 : va_up (va_up cl (w - 1) (cl (w - 1) - 1)) w c w = c := if_pos rfl
    have c2 : va_up (va_up cl (w - 1) (cl (w - 1) - 1)) w c (w - 1) = cl (w - 1) - 1 := by
      have q1 : va_up (va_up cl (w - 1) (cl (w - 1) - 1)) w c (w - 1) = va_up cl (w - 1) (cl (w - 1) - 1) (w - 1) := if_neg (by omega)
      rw [q1]
      exact if_pos rfl
    have d1 : va_up cd w 9 w = 9 := if_pos rfl
    have d2 : va_up cd w 9 (w - 1) = cd (w - 1) := if_neg (by omega)
    refine Or.inr (Or.inr (Or.inr ⟨J, N, i0, q0, d, 0, gOK_up a1 (by omega), by omega, ?_, ?_, ?_, ?_, ?_, ?_, ?_, ?_, ?_⟩))
    · rw [e1]; exact d1
    · rw [e2, d2]; exact h8
    · rw [e2]
      intro i hi
      have q : va_up cd w 9 i = cd i := if_neg (by omega)
      rw [q]
      exact a4 i hi
    · rw [n0]; exact a5
    · rw [e2, c2, n1]; omega
    · omega
    · rw [e1, c1, n2]; rfl
    · rw [n3]; omega
    · rw [n3]; omega
  · obtain ⟨J, N, i0, q0, d, g, a1, a2, a3, a4, _⟩ := h
    omega
/-- a shape's head: what stands in (a) -/
theorem PI_low (h : PI w t pn vn cl cd pf) (hw : 1 ≤ w) (h8 : ¬ cd (w - 1) = 8) (h9 : ¬ cd (w - 1) = 9) : PIa w t pn vn cl cd pf := by
  rcases h with h | h | h | h
  · exact h
  · obtain ⟨J, N, i0, q0, d, a1, a2, a3, _⟩ := h; exact absurd a3 h9
  · obtain ⟨J, N, i0, q0, d, a1, a2, a3, _⟩ := h; exact absurd a3 h8
  · obtain ⟨J, N, i0, q0, d, g, a1, a2, a3, _⟩ := h; exact absurd a3 h9
theorem low_push {d : Nat} (h : lowOK cd w) : lowOK (va_up cd w d) w := by
  intro i hi
  have q : va_up cd w d i = cd i := if_neg (by omega)
  rw [q]
  exact h i hi
theorem low_push1 {d : Nat} (h : lowOK cd w) (h8 : ¬ d = 8) (h9 : ¬ d = 9) : lowOK (va_up cd w d) (w + 1) := by
  intro i hi
  by_cases e : i = w
  · subst e
    have q : va_up cd i d i = d := if_pos rfl
    rw [q]
    exact ⟨h8, h9⟩
  · exact low_push h i (by omega)
theorem PI_shape {k c t1 d : Nat} (h : PIa w t pn vn cl cd pf) (hk2 : 2 ≤ k) (hk7 : k ≤ 7) (ht : t + 9 ≤ t1) (hd : d = iOf k) {cl2 : Nat → Nat} : PI (w + 1) t1 (pn + 1 + 1) vn (va_up cl2 w c) (va_up cd w d) (va_up (va_up pf pn k) (pn + 1) c) := by
  obtain ⟨J, N, i0, q0, a1, a2, a3, a4, a5⟩ := h
  subst a3
  have g1 : gOK (va_up (va_up pf pn k) (pn + 1) c) J N pn q0 := gOK_up (gOK_up a1 (Nat.le_refl _)) (by omega)
  have p0 : va_up (va_up pf pn k) (pn + 1) c pn = k := by
    have q1 : va_up (va_up pf pn k) (pn + 1) c pn = va_up pf pn k pn := if_neg (by omega)
    rw [q1]
    exact if_pos rfl
  have p1 : va_up (va_up pf pn k) (pn + 1) c (pn + 1) = c := if_pos rfl
  have e1 : w + 1 - 1 = w := by omega
  have c1 : va_up cl2 w c w = c := if_pos rfl
  have d1 : va_up cd w d w = d := if_pos rfl
  by_cases k2 : k = 2
  · subst k2
    have hd : d = 9 := hd
    refine Or.inr (Or.inl ⟨J, N, pn, q0, 0, g1, by omega, ?_, ?_, rfl, ?_, by omega, Or.inr ⟨p0, by omega⟩⟩)
    · rw [e1, d1]; exact hd
    · rw [e1]; exact low_push a2
    · rw [e1, c1, p1]; rfl
  · by_cases k3 : k = 3
    · subst k3
      have hd : d = 8 := hd
      refine Or.inr (Or.inr (Or.inl ⟨J, N, pn, q0, 0, g1, by omega, ?_, ?_, p0, ?_, rfl, a4, ?_⟩))
      · rw [e1, d1]; exact hd
      · rw [e1]; exact low_push a2
      · rw [e1, c1, p1]; rfl
      · show N + 9 + (4 * 0 + 16 * 0) ≤ t1
        omega
    · have hd8 : ¬ d = 8 ∧ ¬ d = 9 := by
        rw [hd]
        rcases (iOf_ok hk2 hk7).2 with ⟨e, q⟩ | ⟨e, q⟩ | ⟨e, q⟩ | ⟨e, q⟩ | ⟨e, q⟩ | ⟨e, q⟩ <;> omega
      refine Or.inl ⟨J + 1, N + 9, pn + 2, q0, gOK_step g1 (by omega) (by omega) (fun z => by rw [p0] at z; omega) ?_, low_push1 a2 hd8.1 hd8.2, rfl, a4, by omega⟩
      rw [gSt_eq]
      rw [p0, if_neg (by omega), if_neg k2, if_neg k3]
theorem PI_empty {t1 : Nat} (h : PIa w t pn vn cl cd pf) (ht : t + 21 ≤ t1) {cl2 : Nat → Nat} : PI w t1 (pn + 1 + 1) vn cl2 cd (va_up (va_up pf pn 1) (pn + 1) 0) := by
  obtain ⟨J, N, i0, q0, a1, a2, a3, a4, a5⟩ := h
  subst a3
  have g1 : gOK (va_up (va_up pf pn 1) (pn + 1) 0) J N pn q0 := gOK_up (gOK_up a1 (Nat.le_refl _)) (by omega)
  have p0 : va_up (va_up pf pn 1) (pn + 1) 0 pn = 1 := by
    have q1 : va_up (va_up pf pn 1) (pn + 1) 0 pn = va_up pf pn 1 pn := if_neg (by omega)
    rw [q1]
    exact if_pos rfl
  have p1 : va_up (va_up pf pn 1) (pn + 1) 0 (pn + 1) = 0 := if_pos rfl
  refine Or.inl ⟨J + 1, N + 21, pn + 2, q0, gOK_step g1 (by omega) (by omega) (fun _ => by rw [p1]; omega) ?_, a2, rfl, a4, by omega⟩
  rw [gSt_eq]
  rw [p0, if_pos rfl, p1, if_pos rfl]
theorem PI_point {t1 : Nat} (h : PIa w t pn vn cl cd pf) (ht : t + 5 ≤ t1) {cl2 : Nat → Nat} : PI (w + 1) t1 (pn + 1 + 1) vn (va_up cl2 w 1) (va_up cd w 9) (va_up (va_up pf pn 1) (pn + 1) 1) := by
  obtain ⟨J, N, i0, q0, a1, a2, a3, a4, a5⟩ := h
  subst a3
  have g1 : gOK (va_up (va_up pf pn 1) (pn + 1) 1) J N pn q0 := gOK_up (gOK_up a1 (Nat.le_refl _)) (by omega)
  have p0 : va_up (va_up pf pn 1) (pn + 1) 1 pn = 1 := by
    have q1 : va_up (va_up pf pn 1) (pn + 1) 1 pn = va_up pf pn 1 pn := if_neg (by omega)
    rw [q1]
    exact if_pos rfl
  have p1 : va_up (va_up pf pn 1) (pn + 1) 1 (pn + 1) = 1 := if_pos rfl
  have e1 : w + 1 - 1 = w := by omega
  have c1 : va_up cl2 w 1 w = 1 := if_pos rfl
  have d1 : va_up cd w 9 w = 9 := if_pos rfl
  refine Or.inr (Or.inl ⟨J, N, pn, q0, 0, g1, by omega, ?_, ?_, rfl, ?_, by omega, Or.inl ⟨p0, p1, by omega⟩⟩)
  · rw [e1]; exact d1
  · rw [e1]; exact low_push a2
  · rw [e1, c1, p1]
end PIS
section PIT
variable {b : Nat → Nat} {n u PN VN w t lo wr pl pn vn : Nat} {cl cd pf : Nat → Nat} {fv : Nat → Int32} {w1 t1 lo1 wr1 pl1 pn1 vn1 : Nat} {cl1 cd1 pf1 : Nat → Nat} {fv1 : Nat → Int32}
theorem rv_ok {z : Int64} (h1 : ¬ z < -1000000000) (h2 : ¬ 1000000000 < z) : fvOk z.toInt32 := by
  have a1 : -1000000000 ≤ z.toInt := by
    have := Int64.le_iff_toInt_le.mp (Int64.not_lt.mp h1)
    have e : (-1000000000 : Int64).toInt = -1000000000 := by decide
    omega
  have a2 : z.toInt ≤ 1000000000 := by
    have := Int64.le_iff_toInt_le.mp (Int64.not_lt.mp h2)
    have e : (1000000000 : Int64).toInt = 1000000000 := by decide
    omega
  have a3 : z.toInt32.toInt = z.toInt := by
    rw [Int64.toInt_toInt32]
    exact Int.bmod_eq_of_le (by omega) (by omega)
  rcases Int.lt_or_le z.toInt 0 with h | h
  · refine ⟨(-z.toInt).toNat, by omega, Or.inr ?_⟩
    apply Int32.toInt_inj.mp
    rw [nb_negI (by omega), a3]
    omega
  · refine ⟨z.toInt.toNat, by omega, Or.inl ?_⟩
    apply Int32.toInt_inj.mp
    rw [nI_toInt (by omega), a3]
    omega
theorem fv_up {z : Int32} (h : ∀ j, j < vn → fvOk (fv j)) (hz : fvOk z) : ∀ j, j < vn + 1 → fvOk (upd fv vn z j) := by
  intro j hj
  by_cases e : j = vn
  · subst e
    rw [pk_us]; exact hz
  · rw [pk_un e]; exact h j (by omega)
theorem sVal_1 (hs : sVal b n u w t lo wr pl pn vn cl cd pf fv = (1, (w1, t1, lo1, wr1, pl1, pn1, vn1, cl1, cd1, pf1, fv1))) (hf : ∀ j, j < vn → fvOk (fv j)) :
    w1 = w ∧ t1 = t + 8 ∧ lo1 = lo ∧ wr1 = wr ∧ pl1 = pl ∧ pn1 = pn ∧ vn1 = vn + 1 ∧ cl1 = cl ∧ cd1 = cd ∧ pf1 = pf ∧ ∀ j, j < vn1 → fvOk (fv1 j) := by
  unfold sVal at hs
  split at hs
  · cases hs
  · split at hs
    · cases hs
    · split at hs
      · cases hs
      · rename_i q
        cases hs
        exact ⟨rfl, rfl, rfl, rfl, rfl, rfl, rfl, rfl, rfl, rfl, fv_up hf (rv_ok (fun z => q (Or.inl z)) (fun z => q (Or.inr z)))⟩
theorem sCoord_1 (hs : sCoord b n u VN w t lo wr pl pn vn cl cd pf fv = (1, (w1, t1, lo1, wr1, pl1, pn1, vn1, cl1, cd1, pf1, fv1))) (hf : ∀ j, j < vn → fvOk (fv j)) :
    w1 = w ∧ t1 = t + 16 ∧ wr1 = wr ∧ pl1 = pl ∧ pn1 = pn ∧ vn1 = vn + 2 ∧ cl1 = cl ∧ cd1 = cd ∧ pf1 = pf ∧ ∀ j, j < vn1 → fvOk (fv1 j) := by
  unfold sCoord at hs
  split at hs
  · cases hs
  · obtain ⟨⟨k2, w2, t2, lo2, wr2, pl2, pn2, vn2, cl2, cd2, pf2, fv2⟩, hz⟩ : ∃ z, z = sVal b n u w t lo wr pl pn vn cl cd pf fv := ⟨_, rfl⟩
    rw [← hz] at hs
    match k2, hz, hs with
    | 0, hz, hs => cases hs
    | 1, hz, hs =>
      obtain ⟨rfl, rfl, rfl, rfl, rfl, rfl, rfl, rfl, rfl, rfl, hf2⟩ := sVal_1 hz.symm hf
      obtain ⟨rfl, rfl, rfl, rfl, rfl, rfl, rfl, rfl, rfl, rfl, hf3⟩ := sVal_1 hs hf2
      exact ⟨rfl, rfl, rfl, rfl, rfl, rfl, rfl, rfl, rfl, hf3⟩
    | k + 2, hz, hs =>
      exfalso
      unfold sVal at hz
      split at hz
      · cases hz
      · split at hz
        · cases hz
        · split at hz <;> cases hz
end PIT
