/-! a finished item keeps what the plan is, and takes room -/
section PIU
variable {b : Nat → Nat} {n u PN VN w t lo wr pl pn vn : Nat} {cl cd pf : Nat → Nat} {fv : Nat → Int32} {w1 t1 lo1 wr1 pl1 pn1 vn1 : Nat} {cl1 cd1 pf1 : Nat → Nat} {fv1 : Nat → Int32}
theorem sBody_1 {k y t0 : Nat} (hk1 : 1 ≤ k) (hk7 : k ≤ 7) (h : PIa w t0 pn vn cl cd pf) (hy : t0 + 5 ≤ y) {cl2 : Nat → Nat} (hs : sBody b n k w y lo wr pl (pn + 1) vn cl2 cd (va_up pf pn k) fv = (1, (w1, t1, lo1, wr1, pl1, pn1, vn1, cl1, cd1, pf1, fv1))) :
    PI w1 t1 pn1 vn1 cl1 cd1 pf1 ∧ fv1 = fv ∧ vn1 = vn ∧ pn1 = pn + 1 + 1 ∧ wr1 = wr ∧ pl1 = pl := by
  unfold sBody at hs
  split at hs
  · rename_i k1
    subst k1
    split at hs
    · cases hs
      exact ⟨PI_empty h (by omega), rfl, rfl, rfl, rfl, rfl⟩
    · cases hs
      exact ⟨PI_point h (by omega), rfl, rfl, rfl, rfl, rfl⟩
  · split at hs
    · cases hs
    · cases hs
      exact ⟨PI_shape h (by omega) hk7 (by omega) rfl, rfl, rfl, rfl, rfl, rfl⟩
theorem sType_1 {due T y t0 : Nat} (h : PIa w t0 pn vn cl cd pf) (hy : t0 + 5 ≤ t) {cl2 : Nat → Nat} (hs : sType b n PN due T y w t lo wr pl pn vn cl2 cd pf fv = (1, (w1, t1, lo1, wr1, pl1, pn1, vn1, cl1, cd1, pf1, fv1))) :
    PI w1 t1 pn1 vn1 cl1 cd1 pf1 ∧ fv1 = fv ∧ vn1 = vn ∧ pn1 = pn + 1 + 1 ∧ wr1 = wr ∧ pl1 = pl := by
  unfold sType at hs
  have hk := kOf_le T
  split at hs
  · cases hs
  · split at hs
    · cases hs
    · split at hs
      · cases hs
      · split at hs
        · cases hs
        · split at hs
          · cases hs
          · exact sBody_1 (by omega) hk h (by omega) hs
theorem sShape_1 {due : Nat} (h : PIa w t pn vn cl cd pf) {cl2 : Nat → Nat} (hs : sShape b n PN due w t lo wr pl pn vn cl2 cd pf fv = (1, (w1, t1, lo1, wr1, pl1, pn1, vn1, cl1, cd1, pf1, fv1))) :
    PI w1 t1 pn1 vn1 cl1 cd1 pf1 ∧ fv1 = fv ∧ vn1 = vn ∧ pn1 = pn + 1 + 1 ∧ wr1 = wr ∧ pl1 = pl := by
  unfold sShape at hs
  split at hs
  · cases hs
  · split at hs
    · cases hs
    · split at hs
      · cases hs
      · exact sType_1 h (by omega) hs
theorem sItem_1 (hPI : PI w t pn vn cl cd pf) (hw : 1 ≤ w) (hc : 1 ≤ cl (w - 1)) (hf : ∀ j, j < vn → fvOk (fv j)) (hs : sItem b n u PN VN w t lo wr pl pn vn cl cd pf fv = (1, (w1, t1, lo1, wr1, pl1, pn1, vn1, cl1, cd1, pf1, fv1))) :
    PI w1 t1 pn1 vn1 cl1 cd1 pf1 ∧ (∀ j, j < vn1 → fvOk (fv1 j)) ∧ pn + vn / 2 + 1 ≤ pn1 + vn1 / 2 ∧ (cd (w - 1) = 0 → pn + vn / 2 + 2 ≤ pn1 + vn1 / 2) ∧ wr1 = wr ∧ pl1 = pl := by
  unfold sItem at hs
  split at hs
  · rename_i h9
    obtain ⟨rfl, rfl, rfl, rfl, rfl, rfl, rfl, rfl, rfl, hf2⟩ := sCoord_1 hs hf
    exact ⟨PI_coord hPI hw h9 hc, hf2, by omega, by omega, rfl, rfl⟩
  · split at hs
    · rename_i h9 h8
      unfold sRing at hs
      split at hs
      · cases hs
      · split at hs
        · cases hs
        · split at hs
          · cases hs
          · cases hs
            exact ⟨PI_ring hPI hw h8 hc, hf, by omega, by omega, rfl, rfl⟩
    · rename_i h9 h8
      obtain ⟨a1, rfl, rfl, rfl, rfl, rfl⟩ := sShape_1 (PI_low hPI hw h8 h9) hs
      exact ⟨a1, hf, by omega, by omega, rfl, rfl⟩
/-- the loop that ends well: all is finished, the plan is whole -/
theorem sLoop_1 {b : Nat → Nat} {n u PN VN : Nat} (hb : ∀ j, b j < 256) : ∀ (f w t lo wr pl pn vn : Nat) (cl cd pf : Nat → Nat) (fv : Nat → Int32) (w1 t1 lo1 wr1 pl1 pn1 vn1 : Nat) (cl1 cd1 pf1 : Nat → Nat) (fv1 : Nat → Int32),
    rOK n PN VN w t lo pn vn cl cd → (w = 0 ∨ 1 ≤ cl (w - 1)) → PI w t pn vn cl cd pf → (∀ j, j < vn → fvOk (fv j)) → PN + VN / 2 < pn + vn / 2 + f →
    sLoop b n u PN VN f (w, t, lo, wr, pl, pn, vn, cl, cd, pf, fv) = (1, (w1, t1, lo1, wr1, pl1, pn1, vn1, cl1, cd1, pf1, fv1)) →
    w1 = 0 ∧ rOK n PN VN w1 t1 lo1 pn1 vn1 cl1 cd1 ∧ PI 0 t1 pn1 vn1 cl1 cd1 pf1 ∧ (∀ j, j < vn1 → fvOk (fv1 j)) ∧ wr1 = wr ∧ pl1 = pl
  | 0, w, t, lo, wr, pl, pn, vn, cl, cd, pf, fv, w1, t1, lo1, wr1, pl1, pn1, vn1, cl1, cd1, pf1, fv1, hok, htop, hPI, hf, hm, hs => by
    have h1 := hok.2.2.1
    have h2 := hok.2.2.2.1
    omega
  | f + 1, w, t, lo, wr, pl, pn, vn, cl, cd, pf, fv, w1, t1, lo1, wr1, pl1, pn1, vn1, cl1, cd1, pf1, fv1, hok, htop, hPI, hf, hm, hs => by
    by_cases h0 : w = 0
    · rw [sLoop_w0 (show (w, t, lo, wr, pl, pn, vn, cl, cd, pf, fv).1 = 0 from h0)] at hs
      cases hs
      subst h0
      exact ⟨rfl, hok, hPI, hf, rfl, rfl⟩
    · change (if w = 0 then _ else if (sItem b n u PN VN w t lo wr pl pn vn cl cd pf fv).1 = 0 then (0, sPop (sItem b n u PN VN w t lo wr pl pn vn cl cd pf fv).2) else sLoop b n u PN VN f (sPop (sItem b n u PN VN w t lo wr pl pn vn cl cd pf fv).2)) = _ at hs
      rw [if_neg h0] at hs
      obtain ⟨⟨k2, w2, t2, lo2, wr2, pl2, pn2, vn2, cl2, cd2, pf2, fv2⟩, hz⟩ : ∃ z, z = sItem b n u PN VN w t lo wr pl pn vn cl cd pf fv := ⟨_, rfl⟩
      obtain ⟨bk, ok2⟩ := sItem_ok hok (by omega) hz.symm hb
      rw [← hz] at hs
      by_cases k0 : k2 = 0
      · rw [if_pos (show (k2, (w2, t2, lo2, wr2, pl2, pn2, vn2, cl2, cd2, pf2, fv2)).1 = 0 from k0)] at hs
        cases hs
      · rw [if_neg (show ¬ (k2, (w2, t2, lo2, wr2, pl2, pn2, vn2, cl2, cd2, pf2, fv2)).1 = 0 from k0)] at hs
        have k1 : k2 = 1 := by omega
        subst k1
        obtain ⟨a1, a2, a3, a4, a5, a6⟩ := sItem_1 hPI (by omega) (by omega) hf hz.symm
        subst a5
        subst a6
        exact sLoop_1 hb f (popZ cl2 w2) t2 lo2 wr2 pl2 pn2 vn2 cl2 cd2 pf2 fv2 w1 t1 lo1 wr1 pl1 pn1 vn1 cl1 cd1 pf1 fv1 (rOK_pop ok2) (popZ_top cl2 w2) (PI_pop w2 a1) a2 (by omega) hs
/-- .. and has no less than it began with -/
theorem sLoop_m {b : Nat → Nat} {n u PN VN : Nat} (hb : ∀ j, b j < 256) : ∀ (f w t lo wr pl pn vn : Nat) (cl cd pf : Nat → Nat) (fv : Nat → Int32) (w1 t1 lo1 wr1 pl1 pn1 vn1 : Nat) (cl1 cd1 pf1 : Nat → Nat) (fv1 : Nat → Int32),
    rOK n PN VN w t lo pn vn cl cd → (w = 0 ∨ 1 ≤ cl (w - 1)) → PI w t pn vn cl cd pf → (∀ j, j < vn → fvOk (fv j)) →
    sLoop b n u PN VN f (w, t, lo, wr, pl, pn, vn, cl, cd, pf, fv) = (1, (w1, t1, lo1, wr1, pl1, pn1, vn1, cl1, cd1, pf1, fv1)) → pn + vn / 2 ≤ pn1 + vn1 / 2
  | 0, w, t, lo, wr, pl, pn, vn, cl, cd, pf, fv, w1, t1, lo1, wr1, pl1, pn1, vn1, cl1, cd1, pf1, fv1, hok, htop, hPI, hf, hs => by
    have hs : (1, (w, t, lo, wr, pl, pn, vn, cl, cd, pf, fv)) = (1, (w1, t1, lo1, wr1, pl1, pn1, vn1, cl1, cd1, pf1, fv1)) := hs
    cases hs
    exact Nat.le_refl _
  | f + 1, w, t, lo, wr, pl, pn, vn, cl, cd, pf, fv, w1, t1, lo1, wr1, pl1, pn1, vn1, cl1, cd1, pf1, fv1, hok, htop, hPI, hf, hs => by
    by_cases h0 : w = 0
    · rw [sLoop_w0 (show (w, t, lo, wr, pl, pn, vn, cl, cd, pf, fv).1 = 0 from h0)] at hs
      cases hs
      exact Nat.le_refl _
    · change (if w = 0 then _ else if (sItem b n u PN VN w t lo wr pl pn vn cl cd pf fv).1 = 0 then (0, sPop (sItem b n u PN VN w t lo wr pl pn vn cl cd pf fv).2) else sLoop b n u PN VN f (sPop (sItem b n u PN VN w t lo wr pl pn vn cl cd pf fv).2)) = _ at hs
      rw [if_neg h0] at hs
      obtain ⟨⟨k2, w2, t2, lo2, wr2, pl2, pn2, vn2, cl2, cd2, pf2, fv2⟩, hz⟩ : ∃ z, z = sItem b n u PN VN w t lo wr pl pn vn cl cd pf fv := ⟨_, rfl⟩
      obtain ⟨bk, ok2⟩ := sItem_ok hok (by omega) hz.symm hb
      rw [← hz] at hs
      by_cases k0 : k2 = 0
      · rw [if_pos (show (k2, (w2, t2, lo2, wr2, pl2, pn2, vn2, cl2, cd2, pf2, fv2)).1 = 0 from k0)] at hs
        cases hs
      · rw [if_neg (show ¬ (k2, (w2, t2, lo2, wr2, pl2, pn2, vn2, cl2, cd2, pf2, fv2)).1 = 0 from k0)] at hs
        have k1 : k2 = 1 := by omega
        subst k1
        obtain ⟨a1, a2, a3, a4, a5, a6⟩ := sItem_1 hPI (by omega) (by omega) hf hz.symm
        have h := sLoop_m hb f (popZ cl2 w2) t2 lo2 wr2 pl2 pn2 vn2 cl2 cd2 pf2 fv2 w1 t1 lo1 wr1 pl1 pn1 vn1 cl1 cd1 pf1 fv1 (rOK_pop ok2) (popZ_top cl2 w2) (PI_pop w2 a1) a2 hs
        omega
end PIU
