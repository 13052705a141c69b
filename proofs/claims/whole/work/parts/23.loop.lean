/-! the reader's loop as a function, and what holds of the row of what waits -/
def sIt (b : Nat → Nat) (n u PN VN : Nat) : rdS → Nat × rdS
  | (w, t, lo, wr, pl, pn, vn, cl, cd, pf, fv) => sItem b n u PN VN w t lo wr pl pn vn cl cd pf fv
def sPop : rdS → rdS
  | (w, t, lo, wr, pl, pn, vn, cl, cd, pf, fv) => (popZ cl w, t, lo, wr, pl, pn, vn, cl, cd, pf, fv)
def sLoop (b : Nat → Nat) (n u PN VN : Nat) : Nat → rdS → Nat × rdS
  | 0, y => (1, y)
  | f + 1, y => if y.1 = 0 then (1, y) else if (sIt b n u PN VN y).1 = 0 then (0, sPop (sIt b n u PN VN y).2) else sLoop b n u PN VN f (sPop (sIt b n u PN VN y).2)
def sEnd (n : Nat) : Nat × rdS → Nat × rdS
  | (k, (w, t, lo, wr, pl, pn, vn, cl, cd, pf, fv)) => if k = 1 then (if t < n then (0, (w, t, lo, 8, t, 0, 0, cl, cd, pf, fv)) else (1, (w, t, lo, wr, pl, pn, vn, cl, cd, pf, fv))) else (0, (w, t, lo, wr, pl, 0, 0, cl, cd, pf, fv))
def sAll (b : Nat → Nat) (n u PN VN lo : Nat) (cl cd pf : Nat → Nat) (fv : Nat → Int32) : Nat × rdS :=
  sEnd n (sLoop b n u PN VN 8192 (1, 0, lo, 0, 0, 0, 0, va_up cl 0 1, va_up cd 0 0, pf, fv))
def okd (d : Nat) : Prop := d = 0 ∨ d = 1 ∨ d = 2 ∨ d = 3 ∨ d = 8 ∨ d = 9
def rkd (d : Nat) : Nat := if d = 0 then 0 else if d = 3 then 1 else if d = 9 then 3 else 2
theorem rkd_le (d : Nat) : rkd d ≤ 3 := by
  unfold rkd
  split
  · omega
  · split
    · omega
    · split <;> omega
theorem rkd_le2 {d : Nat} (h : ¬ d = 9) : rkd d ≤ 2 := by
  unfold rkd
  split
  · omega
  · split
    · omega
    · simp [h]
def rOK (n PN VN w t lo pn vn : Nat) (cl cd : Nat → Nat) : Prop :=
  t ≤ n ∧ lo < 2 ∧ pn ≤ PN ∧ vn ≤ VN ∧ (∀ i, i < w → okd (cd i) ∧ i ≤ 50 + rkd (cd i)) ∧ ∀ i, cl i < 2 ^ 32
section RO
variable {n PN VN w t lo pn vn : Nat} {cl cd : Nat → Nat}
theorem rOK_w (h : rOK n PN VN w t lo pn vn cl cd) : w ≤ 54 := by
  rcases Nat.lt_or_ge 54 w with q | q
  · have h1 := (h.2.2.2.2.1 54 q).2
    have h2 := rkd_le (cd 54)
    omega
  · exact q
theorem rOK_cd (h : rOK n PN VN w t lo pn vn cl cd) (h1 : 1 ≤ w) : cd (w - 1) ≤ 9 ∧ (¬ cd (w - 1) = 9 → w < 54) := by
  obtain ⟨hd, hi⟩ := h.2.2.2.2.1 (w - 1) (by omega)
  refine ⟨by unfold okd at hd; omega, fun q => ?_⟩
  have h2 := rkd_le2 q
  omega
theorem rOK_0 {lo : Nat} (hlo : lo < 2) (hcl : ∀ i, cl i < 2 ^ 32) : rOK n PN VN 1 0 lo 0 0 (va_up cl 0 1) (va_up cd 0 0) := by
  refine ⟨Nat.zero_le _, hlo, Nat.zero_le _, Nat.zero_le _, fun i hi => ?_, fun i => ?_⟩
  · have e : i = 0 := by omega
    subst e
    have q : va_up cd 0 0 0 = 0 := if_pos rfl
    rw [q]
    exact ⟨Or.inl rfl, Nat.zero_le _⟩
  · unfold va_up
    split
    · decide
    · exact hcl i
theorem popZ_le (cl : Nat → Nat) : ∀ w, popZ cl w ≤ w
  | 0 => Nat.le_refl 0
  | w + 1 => by
    show (if cl w = 0 then popZ cl w else w + 1) ≤ w + 1
    split
    · exact Nat.le_trans (popZ_le cl w) (Nat.le_succ w)
    · exact Nat.le_refl _
theorem popZ_top (cl : Nat → Nat) : ∀ w, popZ cl w = 0 ∨ 1 ≤ cl (popZ cl w - 1)
  | 0 => Or.inl rfl
  | w + 1 => by
    by_cases h : cl w = 0
    · rw [popZ_0 h]
      exact popZ_top cl w
    · rw [popZ_n (Nat.succ_pos w) h]
      refine Or.inr ?_
      show 1 ≤ cl w
      omega
theorem rOK_pop (h : rOK n PN VN w t lo pn vn cl cd) : rOK n PN VN (popZ cl w) t lo pn vn cl cd :=
  ⟨h.1, h.2.1, h.2.2.1, h.2.2.2.1, fun i hi => h.2.2.2.2.1 i (Nat.lt_of_lt_of_le hi (popZ_le cl w)), h.2.2.2.2.2⟩
theorem up_lt {f : Nat → Nat} {k x m : Nat} (h : ∀ i, f i < m) (hx : x < m) : ∀ i, va_up f k x i < m := by
  intro i
  unfold va_up
  split
  · exact hx
  · exact h i
theorem rOK_dec (h : rOK n PN VN w t lo pn vn cl cd) (k : Nat) : rOK n PN VN w t lo pn vn (va_up cl k (cl k - 1)) cd :=
  ⟨h.1, h.2.1, h.2.2.1, h.2.2.2.1, h.2.2.2.2.1, up_lt h.2.2.2.2.2 (Nat.lt_of_le_of_lt (Nat.sub_le _ _) (h.2.2.2.2.2 k))⟩
theorem rOK_mv {t2 lo2 pn2 vn2 : Nat} (h : rOK n PN VN w t lo pn vn cl cd) (ht : t2 ≤ n) (hlo : lo2 < 2) (hp : pn2 ≤ PN) (hv : vn2 ≤ VN) : rOK n PN VN w t2 lo2 pn2 vn2 cl cd :=
  ⟨ht, hlo, hp, hv, h.2.2.2.2.1, h.2.2.2.2.2⟩
theorem rOK_push {c d : Nat} (h : rOK n PN VN w t lo pn vn cl cd) (hd : okd d) (hw : w ≤ 50 + rkd d) (hc : c < 2 ^ 32) : rOK n PN VN (w + 1) t lo pn vn (va_up cl w c) (va_up cd w d) := by
  refine ⟨h.1, h.2.1, h.2.2.1, h.2.2.2.1, fun i hi => ?_, up_lt h.2.2.2.2.2 hc⟩
  by_cases e : i = w
  · subst e
    have q : va_up cd i d i = d := if_pos rfl
    rw [q]
    exact ⟨hd, hw⟩
  · have q : va_up cd w d i = cd i := if_neg e
    rw [q]
    exact h.2.2.2.2.1 i (by omega)
variable {b : Nat → Nat} {u wr pl : Nat} {pf : Nat → Nat} {fv : Nat → Int32} {k1 w1 t1 lo1 wr1 pl1 pn1 vn1 : Nat} {cl1 cd1 pf1 : Nat → Nat} {fv1 : Nat → Int32}
theorem sVal_ok (hok : rOK n PN VN w t lo pn vn cl cd) (hv : vn < VN) (hs : sVal b n u w t lo wr pl pn vn cl cd pf fv = (k1, (w1, t1, lo1, wr1, pl1, pn1, vn1, cl1, cd1, pf1, fv1))) : k1 ≤ 1 ∧ rOK n PN VN w1 t1 lo1 pn1 vn1 cl1 cd1 ∧ vn1 ≤ vn + 1 := by
  unfold sVal at hs
  have h1 := hok.1
  have h2 := hok.2.1
  have h3 := hok.2.2.1
  have h4 := hok.2.2.2.1
  split at hs
  · cases hs; exact ⟨by omega, hok, by omega⟩
  · split at hs
    · cases hs; exact ⟨by omega, rOK_mv hok (by omega) h2 h3 h4, by omega⟩
    · split at hs
      · cases hs; exact ⟨by omega, rOK_mv hok (by omega) h2 h3 h4, by omega⟩
      · cases hs; exact ⟨by omega, rOK_mv hok (by omega) h2 h3 (by omega), by omega⟩
theorem sCoord_ok (hok : rOK n PN VN w t lo pn vn cl cd) (hs : sCoord b n u VN w t lo wr pl pn vn cl cd pf fv = (k1, (w1, t1, lo1, wr1, pl1, pn1, vn1, cl1, cd1, pf1, fv1))) : k1 ≤ 1 ∧ rOK n PN VN w1 t1 lo1 pn1 vn1 cl1 cd1 := by
  unfold sCoord at hs
  split at hs
  · cases hs; exact ⟨by omega, hok⟩
  · obtain ⟨⟨k2, w2, t2, lo2, wr2, pl2, pn2, vn2, cl2, cd2, pf2, fv2⟩, hz⟩ : ∃ z, z = sVal b n u w t lo wr pl pn vn cl cd pf fv := ⟨_, rfl⟩
    obtain ⟨a1, a2, a3⟩ := sVal_ok hok (by omega) hz.symm
    rw [← hz] at hs
    match k2, hs with
    | 0, hs => cases hs; exact ⟨by omega, a2⟩
    | _ + 1, hs =>
      obtain ⟨b1, b2, b3⟩ := sVal_ok a2 (by omega) hs
      exact ⟨b1, b2⟩
theorem sRing_ok (hok : rOK n PN VN w t lo pn vn cl cd) (h8 : w ≤ 53) (hb : ∀ j, b j < 256) (hs : sRing b n PN w t lo wr pl pn vn cl cd pf fv = (k1, (w1, t1, lo1, wr1, pl1, pn1, vn1, cl1, cd1, pf1, fv1))) : k1 ≤ 1 ∧ rOK n PN VN w1 t1 lo1 pn1 vn1 cl1 cd1 := by
  unfold sRing at hs
  have h1 := hok.1
  have h2 := hok.2.1
  have h3 := hok.2.2.1
  have h4 := hok.2.2.2.1
  split at hs
  · cases hs; exact ⟨by omega, hok⟩
  · split at hs
    · cases hs; exact ⟨by omega, hok⟩
    · split at hs
      · cases hs; exact ⟨by omega, rOK_mv hok (by omega) h2 h3 h4⟩
      · cases hs; exact ⟨by omega, rOK_push (rOK_mv hok (by omega) h2 (by omega) h4) (Or.inr (Or.inr (Or.inr (Or.inr (Or.inr rfl))))) (by rw [show rkd 9 = 3 from rfl]; omega) (pN_lt4 hb t lo)⟩
theorem iOf_ok {k : Nat} (h2 : 2 ≤ k) (h7 : k ≤ 7) : okd (iOf k) ∧ (k = 7 ∧ iOf k = 0 ∨ k = 6 ∧ iOf k = 3 ∨ k = 5 ∧ iOf k = 2 ∨ k = 4 ∧ iOf k = 1 ∨ k = 3 ∧ iOf k = 8 ∨ k = 2 ∧ iOf k = 9) := by
  rcases (by omega : k = 2 ∨ k = 3 ∨ k = 4 ∨ k = 5 ∨ k = 6 ∨ k = 7) with e | e | e | e | e | e <;> subst e <;> (unfold okd iOf; decide)
theorem rk_in {w due k : Nat} (hd : due = 0 ∨ due = 1 ∨ due = 2 ∨ due = 3) (hw1 : 1 ≤ w) (hw : w - 1 ≤ 50 + rkd due) (hk : due = 0 ∨ due = k) (h2 : 2 ≤ k) (h7 : k ≤ 7) (hdeep : ¬ (k = 7 ∧ 50 ≤ w - 1)) : w ≤ 50 + rkd (iOf k) := by
  have r0 : rkd 0 = 0 := rfl
  have r1 : rkd 1 = 2 := rfl
  have r2 : rkd 2 = 2 := rfl
  have r3 : rkd 3 = 1 := rfl
  have r8 : rkd 8 = 2 := rfl
  have r9 : rkd 9 = 3 := rfl
  rcases (iOf_ok h2 h7).2 with ⟨e, q⟩ | ⟨e, q⟩ | ⟨e, q⟩ | ⟨e, q⟩ | ⟨e, q⟩ | ⟨e, q⟩ <;> rw [q] <;> rcases hd with d | d | d | d <;> subst d <;> omega
theorem rk_pt {w due : Nat} (hd : due = 0 ∨ due = 1 ∨ due = 2 ∨ due = 3) (hw1 : 1 ≤ w) (hw : w - 1 ≤ 50 + rkd due) : w ≤ 50 + rkd 9 := by
  have r0 : rkd 0 = 0 := rfl
  have r1 : rkd 1 = 2 := rfl
  have r2 : rkd 2 = 2 := rfl
  have r3 : rkd 3 = 1 := rfl
  have r9 : rkd 9 = 3 := rfl
  rcases hd with d | d | d | d <;> subst d <;> omega
theorem sBody_ok {kind : Nat} (hok : rOK n PN VN w t lo pn vn cl cd) (hp : pn + 1 ≤ PN) (hk1 : 1 ≤ kind) (hk7 : kind ≤ 7) (h9 : w ≤ 50 + rkd 9) (hw : 2 ≤ kind → w ≤ 50 + rkd (iOf kind)) (hb : ∀ j, b j < 256) (hs : sBody b n kind w t lo wr pl pn vn cl cd pf fv = (k1, (w1, t1, lo1, wr1, pl1, pn1, vn1, cl1, cd1, pf1, fv1))) : k1 ≤ 1 ∧ rOK n PN VN w1 t1 lo1 pn1 vn1 cl1 cd1 := by
  unfold sBody at hs
  have h1 := hok.1
  have h2 := hok.2.1
  have h4 := hok.2.2.2.1
  split at hs
  · split at hs
    · rename_i q
      unfold eP at q
      cases hs
      refine ⟨by omega, rOK_mv hok ?_ h2 (by omega) h4⟩
      split at q
      · rename_i z; exact z.1
      · cases q
    · cases hs; exact ⟨by omega, rOK_push (rOK_mv hok h1 h2 (by omega) h4) (Or.inr (Or.inr (Or.inr (Or.inr (Or.inr rfl))))) h9 (by decide)⟩
  · split at hs
    · cases hs; exact ⟨by omega, hok⟩
    · cases hs; exact ⟨by omega, rOK_push (rOK_mv hok (by omega) h2 (by omega) h4) (iOf_ok (by omega) hk7).1 (hw (by omega)) (pN_lt4 hb t lo)⟩
theorem sType_ok {due T y : Nat} (hok : rOK n PN VN w t lo pn vn cl cd) (hw1 : 1 ≤ w) (hd : due = 0 ∨ due = 1 ∨ due = 2 ∨ due = 3) (hw : w - 1 ≤ 50 + rkd due) (hb : ∀ j, b j < 256) (hs : sType b n PN due T y w t lo wr pl pn vn cl cd pf fv = (k1, (w1, t1, lo1, wr1, pl1, pn1, vn1, cl1, cd1, pf1, fv1))) : k1 ≤ 1 ∧ rOK n PN VN w1 t1 lo1 pn1 vn1 cl1 cd1 := by
  unfold sType at hs
  have h1 := hok.1
  have h2 := hok.2.1
  have h3 := hok.2.2.1
  have h4 := hok.2.2.2.1
  have hm := tMark_le T
  have hk := kOf_le T
  split at hs
  · cases hs; exact ⟨by omega, hok⟩
  · split at hs
    · cases hs; exact ⟨by omega, hok⟩
    · split at hs
      · cases hs; exact ⟨by omega, hok⟩
      · split at hs
        · cases hs; exact ⟨by omega, hok⟩
        · split at hs
          · cases hs; exact ⟨by omega, rOK_mv hok (by omega) h2 h3 h4⟩
          · exact sBody_ok (rOK_mv hok (by omega) h2 (by omega) h4) (by omega) (by omega) hk (rk_pt hd hw1 hw) (fun q => rk_in hd hw1 hw (by omega) q hk (by assumption)) hb hs
theorem sShape_ok {due : Nat} (hok : rOK n PN VN w t lo pn vn cl cd) (hw1 : 1 ≤ w) (hd : due = 0 ∨ due = 1 ∨ due = 2 ∨ due = 3) (hw : w - 1 ≤ 50 + rkd due) (hb : ∀ j, b j < 256) (hs : sShape b n PN due w t lo wr pl pn vn cl cd pf fv = (k1, (w1, t1, lo1, wr1, pl1, pn1, vn1, cl1, cd1, pf1, fv1))) : k1 ≤ 1 ∧ rOK n PN VN w1 t1 lo1 pn1 vn1 cl1 cd1 := by
  unfold sShape at hs
  have h3 := hok.2.2.1
  have h4 := hok.2.2.2.1
  split at hs
  · cases hs; exact ⟨by omega, hok⟩
  · split at hs
    · cases hs; exact ⟨by omega, hok⟩
    · split at hs
      · cases hs; exact ⟨by omega, rOK_mv hok (by omega) (by omega) h3 h4⟩
      · exact sType_ok (rOK_mv hok (by omega) (by omega) h3 h4) hw1 hd hw hb hs
theorem sItem_ok (hok : rOK n PN VN w t lo pn vn cl cd) (hw1 : 1 ≤ w) (hs : sItem b n u PN VN w t lo wr pl pn vn cl cd pf fv = (k1, (w1, t1, lo1, wr1, pl1, pn1, vn1, cl1, cd1, pf1, fv1))) (hb : ∀ j, b j < 256) : k1 ≤ 1 ∧ rOK n PN VN w1 t1 lo1 pn1 vn1 cl1 cd1 := by
  unfold sItem at hs
  obtain ⟨hd, hi⟩ := hok.2.2.2.2.1 (w - 1) (by omega)
  have hok2 := rOK_dec hok (w - 1)
  split at hs
  · exact sCoord_ok hok2 hs
  · split at hs
    · rename_i q1 q2
      have h2 := rkd_le2 q1
      exact sRing_ok hok2 (by omega) hb hs
    · exact sShape_ok hok2 hw1 (by unfold okd at hd; omega) hi hb hs
theorem sLoop_w0 {f : Nat} {y : rdS} (h : y.1 = 0) : sLoop b n u PN VN f y = (1, y) := by
  cases f with
  | zero => rfl
  | succ f => show (if y.1 = 0 then (1, y) else _) = _; rw [if_pos h]
theorem sLoop_end {i g : Nat} {Z : Nat × rdS} (h : (g = 1 ∧ sLoop b n u PN VN (8192 - i) (w, t, lo, wr, pl, pn, vn, cl, cd, pf, fv) = Z) ∨ (g = 0 ∧ (0, (w, t, lo, wr, pl, pn, vn, cl, cd, pf, fv)) = Z)) (q : g = 0 ∨ 8192 ≤ i ∨ w = 0) : (g, (w, t, lo, wr, pl, pn, vn, cl, cd, pf, fv)) = Z := by
  rcases h with ⟨h1, h2⟩ | ⟨h1, h2⟩
  · subst h1
    rcases q with q | q | q
    · cases q
    · rw [show 8192 - i = 0 by omega] at h2
      exact h2
    · rw [sLoop_w0 (show (w, t, lo, wr, pl, pn, vn, cl, cd, pf, fv).1 = 0 from q)] at h2
      exact h2
  · subst h1
    exact h2
theorem sLoop_step {i g : Nat} {Z : Nat × rdS} (h : (g = 1 ∧ sLoop b n u PN VN (8192 - i) (w, t, lo, wr, pl, pn, vn, cl, cd, pf, fv) = Z) ∨ (g = 0 ∧ (0, (w, t, lo, wr, pl, pn, vn, cl, cd, pf, fv)) = Z)) (hg : g = 1) (hw1 : 1 ≤ w) (hi : i < 8192)
    (hs : sItem b n u PN VN w t lo wr pl pn vn cl cd pf fv = (k1, (w1, t1, lo1, wr1, pl1, pn1, vn1, cl1, cd1, pf1, fv1))) (hk : k1 ≤ 1) :
    (k1 = 1 ∧ sLoop b n u PN VN (8192 - (i + 1)) (popZ cl1 w1, t1, lo1, wr1, pl1, pn1, vn1, cl1, cd1, pf1, fv1) = Z) ∨ (k1 = 0 ∧ (0, (popZ cl1 w1, t1, lo1, wr1, pl1, pn1, vn1, cl1, cd1, pf1, fv1)) = Z) := by
  rcases h with ⟨_, h2⟩ | ⟨h1, _⟩
  · rw [show 8192 - i = (8192 - (i + 1)) + 1 by omega] at h2
    change (if w = 0 then _ else if (sItem b n u PN VN w t lo wr pl pn vn cl cd pf fv).1 = 0 then (0, sPop (sItem b n u PN VN w t lo wr pl pn vn cl cd pf fv).2) else sLoop b n u PN VN (8192 - (i + 1)) (sPop (sItem b n u PN VN w t lo wr pl pn vn cl cd pf fv).2)) = Z at h2
    rw [if_neg (by omega), hs] at h2
    by_cases q : k1 = 0
    · subst q
      exact Or.inr ⟨rfl, h2⟩
    · rw [if_neg (show ¬ (k1, (w1, t1, lo1, wr1, pl1, pn1, vn1, cl1, cd1, pf1, fv1)).1 = 0 from q)] at h2
      exact Or.inl ⟨by omega, h2⟩
  · omega
end RO
