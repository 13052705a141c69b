/-! the whole reading: what holds behind it in any case, and when all was fine -/
section RA
variable {b : Nat → Nat} {n u PN VN w t lo wr pl pn vn : Nat} {cl cd pf : Nat → Nat} {fv : Nat → Int32} {k1 w1 t1 lo1 wr1 pl1 pn1 vn1 : Nat} {cl1 cd1 pf1 : Nat → Nat} {fv1 : Nat → Int32}
def rX (n wr pl : Nat) (pf : Nat → Nat) : Prop := wr ≤ 9 ∧ pl ≤ n ∧ ∀ j, pf j < 2 ^ 32
theorem rX_w {x y : Nat} (h : rX n wr pl pf) (hx : x ≤ 9) (hy : y ≤ n) : rX n x y pf := ⟨hx, hy, h.2.2⟩
theorem rX_p {k x : Nat} (h : rX n wr pl pf) (hx : x < 2 ^ 32) : rX n wr pl (va_up pf k x) := ⟨h.1, h.2.1, up_lt h.2.2 hx⟩
theorem sVal_x (ht : t ≤ n) (hX : rX n wr pl pf) (hs : sVal b n u w t lo wr pl pn vn cl cd pf fv = (k1, (w1, t1, lo1, wr1, pl1, pn1, vn1, cl1, cd1, pf1, fv1))) : rX n wr1 pl1 pf1 ∧ t1 ≤ n := by
  unfold sVal at hs
  split at hs
  · cases hs; exact ⟨rX_w hX (by decide) ht, ht⟩
  · split at hs
    · cases hs; exact ⟨rX_w hX (by decide) ht, by omega⟩
    · split at hs
      · cases hs; exact ⟨rX_w hX (by decide) ht, by omega⟩
      · cases hs; exact ⟨hX, by omega⟩
theorem sCoord_x (ht : t ≤ n) (hX : rX n wr pl pf) (hs : sCoord b n u VN w t lo wr pl pn vn cl cd pf fv = (k1, (w1, t1, lo1, wr1, pl1, pn1, vn1, cl1, cd1, pf1, fv1))) : rX n wr1 pl1 pf1 := by
  unfold sCoord at hs
  split at hs
  · cases hs; exact rX_w hX (by decide) ht
  · obtain ⟨⟨k2, w2, t2, lo2, wr2, pl2, pn2, vn2, cl2, cd2, pf2, fv2⟩, hz⟩ : ∃ z, z = sVal b n u w t lo wr pl pn vn cl cd pf fv := ⟨_, rfl⟩
    obtain ⟨a1, a2⟩ := sVal_x ht hX hz.symm
    rw [← hz] at hs
    match k2, hs with
    | 0, hs => cases hs; exact a1
    | _ + 1, hs => exact (sVal_x a2 a1 hs).1
theorem sRing_x (hb : ∀ j, b j < 256) (ht : t ≤ n) (hX : rX n wr pl pf) (hs : sRing b n PN w t lo wr pl pn vn cl cd pf fv = (k1, (w1, t1, lo1, wr1, pl1, pn1, vn1, cl1, cd1, pf1, fv1))) : rX n wr1 pl1 pf1 := by
  unfold sRing at hs
  split at hs
  · cases hs; exact rX_w hX (by decide) ht
  · split at hs
    · cases hs; exact rX_w hX (by decide) ht
    · split at hs
      · cases hs; exact rX_w hX (by decide) ht
      · cases hs; exact rX_p hX (pN_lt4 hb t lo)
theorem sBody_x {kind : Nat} (hb : ∀ j, b j < 256) (ht : t ≤ n) (hX : rX n wr pl pf) (hs : sBody b n kind w t lo wr pl pn vn cl cd pf fv = (k1, (w1, t1, lo1, wr1, pl1, pn1, vn1, cl1, cd1, pf1, fv1))) : rX n wr1 pl1 pf1 := by
  unfold sBody at hs
  split at hs
  · split at hs
    · cases hs; exact rX_p hX (by decide)
    · cases hs; exact rX_p hX (by decide)
  · split at hs
    · cases hs; exact rX_w hX (by decide) ht
    · cases hs; exact rX_p hX (pN_lt4 hb t lo)
theorem sType_x {due T y : Nat} (hb : ∀ j, b j < 256) (hy : y ≤ n) (ht : t ≤ n) (hX : rX n wr pl pf) (hs : sType b n PN due T y w t lo wr pl pn vn cl cd pf fv = (k1, (w1, t1, lo1, wr1, pl1, pn1, vn1, cl1, cd1, pf1, fv1))) : rX n wr1 pl1 pf1 := by
  unfold sType at hs
  have hm := tMark_le T
  have hk := kOf_le T
  split at hs
  · cases hs; exact rX_w hX (by decide) hy
  · split at hs
    · cases hs; exact rX_w hX (by decide) hy
    · split at hs
      · cases hs; exact rX_w hX (by decide) hy
      · split at hs
        · cases hs; exact rX_w hX (by decide) ht
        · split at hs
          · cases hs; exact rX_w hX (by decide) (by omega)
          · exact sBody_x hb (by omega) (rX_p hX (by omega)) hs
theorem sShape_x {due : Nat} (hb : ∀ j, b j < 256) (ht : t ≤ n) (hX : rX n wr pl pf) (hs : sShape b n PN due w t lo wr pl pn vn cl cd pf fv = (k1, (w1, t1, lo1, wr1, pl1, pn1, vn1, cl1, cd1, pf1, fv1))) : rX n wr1 pl1 pf1 := by
  unfold sShape at hs
  split at hs
  · cases hs; exact rX_w hX (by decide) ht
  · split at hs
    · cases hs; exact rX_w hX (by decide) ht
    · split at hs
      · cases hs; exact rX_w hX (by decide) (by omega)
      · exact sType_x hb (by omega) (by omega) hX hs
theorem sItem_x (hb : ∀ j, b j < 256) (ht : t ≤ n) (hX : rX n wr pl pf) (hs : sItem b n u PN VN w t lo wr pl pn vn cl cd pf fv = (k1, (w1, t1, lo1, wr1, pl1, pn1, vn1, cl1, cd1, pf1, fv1))) : rX n wr1 pl1 pf1 := by
  unfold sItem at hs
  split at hs
  · exact sCoord_x ht hX hs
  · split at hs
    · exact sRing_x hb ht hX hs
    · exact sShape_x hb ht hX hs
theorem sLoop_x {b : Nat → Nat} {n u PN VN : Nat} (hb : ∀ j, b j < 256) : ∀ (f w t lo wr pl pn vn : Nat) (cl cd pf : Nat → Nat) (fv : Nat → Int32) (k1 w1 t1 lo1 wr1 pl1 pn1 vn1 : Nat) (cl1 cd1 pf1 : Nat → Nat) (fv1 : Nat → Int32),
    rOK n PN VN w t lo pn vn cl cd → (w = 0 ∨ 1 ≤ cl (w - 1)) → rX n wr pl pf →
    sLoop b n u PN VN f (w, t, lo, wr, pl, pn, vn, cl, cd, pf, fv) = (k1, (w1, t1, lo1, wr1, pl1, pn1, vn1, cl1, cd1, pf1, fv1)) → k1 ≤ 1 ∧ rOK n PN VN w1 t1 lo1 pn1 vn1 cl1 cd1 ∧ rX n wr1 pl1 pf1
  | 0, w, t, lo, wr, pl, pn, vn, cl, cd, pf, fv, k1, w1, t1, lo1, wr1, pl1, pn1, vn1, cl1, cd1, pf1, fv1, hok, htop, hX, hs => by
    have hs : (1, (w, t, lo, wr, pl, pn, vn, cl, cd, pf, fv)) = (k1, (w1, t1, lo1, wr1, pl1, pn1, vn1, cl1, cd1, pf1, fv1)) := hs
    cases hs
    exact ⟨Nat.le_refl 1, hok, hX⟩
  | f + 1, w, t, lo, wr, pl, pn, vn, cl, cd, pf, fv, k1, w1, t1, lo1, wr1, pl1, pn1, vn1, cl1, cd1, pf1, fv1, hok, htop, hX, hs => by
    by_cases h0 : w = 0
    · rw [sLoop_w0 (show (w, t, lo, wr, pl, pn, vn, cl, cd, pf, fv).1 = 0 from h0)] at hs
      cases hs
      exact ⟨Nat.le_refl 1, hok, hX⟩
    · change (if w = 0 then _ else if (sItem b n u PN VN w t lo wr pl pn vn cl cd pf fv).1 = 0 then (0, sPop (sItem b n u PN VN w t lo wr pl pn vn cl cd pf fv).2) else sLoop b n u PN VN f (sPop (sItem b n u PN VN w t lo wr pl pn vn cl cd pf fv).2)) = _ at hs
      rw [if_neg h0] at hs
      obtain ⟨⟨k2, w2, t2, lo2, wr2, pl2, pn2, vn2, cl2, cd2, pf2, fv2⟩, hz⟩ : ∃ z, z = sItem b n u PN VN w t lo wr pl pn vn cl cd pf fv := ⟨_, rfl⟩
      obtain ⟨bk, ok2⟩ := sItem_ok hok (by omega) hz.symm hb
      have x2 := sItem_x hb hok.1 hX hz.symm
      rw [← hz] at hs
      by_cases k0 : k2 = 0
      · rw [if_pos (show (k2, (w2, t2, lo2, wr2, pl2, pn2, vn2, cl2, cd2, pf2, fv2)).1 = 0 from k0)] at hs
        cases hs
        exact ⟨Nat.zero_le _, rOK_pop ok2, x2⟩
      · rw [if_neg (show ¬ (k2, (w2, t2, lo2, wr2, pl2, pn2, vn2, cl2, cd2, pf2, fv2)).1 = 0 from k0)] at hs
        exact sLoop_x hb f (popZ cl2 w2) t2 lo2 wr2 pl2 pn2 vn2 cl2 cd2 pf2 fv2 k1 w1 t1 lo1 wr1 pl1 pn1 vn1 cl1 cd1 pf1 fv1 (rOK_pop ok2) (popZ_top cl2 w2) x2 hs
/-- in any case -/
theorem sAll_x (hb : ∀ j, b j < 256) (hlo : lo < 2) (hcl : ∀ i, cl i < 2 ^ 32) (hpf : ∀ j, pf j < 2 ^ 32) (hs : sAll b n u PN VN lo cl cd pf fv = (k1, (w1, t1, lo1, wr1, pl1, pn1, vn1, cl1, cd1, pf1, fv1))) :
    k1 ≤ 1 ∧ lo1 < 2 ∧ pn1 ≤ PN ∧ vn1 ≤ VN ∧ (∀ i, cl1 i < 2 ^ 32) ∧ (∀ j, pf1 j < 2 ^ 32) ∧ wr1 ≤ 9 ∧ pl1 ≤ n ∧ (k1 = 0 → pn1 = 0 ∧ vn1 = 0) := by
  unfold sAll at hs
  obtain ⟨⟨k2, w2, t2, lo2, wr2, pl2, pn2, vn2, cl2, cd2, pf2, fv2⟩, hz⟩ : ∃ z, z = sLoop b n u PN VN 8192 (1, 0, lo, 0, 0, 0, 0, va_up cl 0 1, va_up cd 0 0, pf, fv) := ⟨_, rfl⟩
  obtain ⟨a1, a2, a3⟩ := sLoop_x hb 8192 1 0 lo 0 0 0 0 (va_up cl 0 1) (va_up cd 0 0) pf fv k2 w2 t2 lo2 wr2 pl2 pn2 vn2 cl2 cd2 pf2 fv2 (rOK_0 hlo hcl) (Or.inr (Nat.le_refl 1)) ⟨Nat.zero_le _, Nat.zero_le _, hpf⟩ hz.symm
  obtain ⟨c1, c2, c3, c4, c5, c6⟩ := a2
  obtain ⟨d1, d2, d3⟩ := a3
  rw [← hz] at hs
  change (if k2 = 1 then (if t2 < n then _ else _) else _) = _ at hs
  by_cases q : k2 = 1
  · rw [if_pos q] at hs
    by_cases q2 : t2 < n
    · rw [if_pos q2] at hs
      cases hs
      exact ⟨Nat.zero_le _, c2, Nat.zero_le _, Nat.zero_le _, c6, d3, by decide, c1, fun _ => ⟨rfl, rfl⟩⟩
    · rw [if_neg q2] at hs
      cases hs
      exact ⟨Nat.le_refl _, c2, c3, c4, c6, d3, d1, d2, fun q => by cases q⟩
  · rw [if_neg q] at hs
    cases hs
    exact ⟨Nat.zero_le _, c2, Nat.zero_le _, Nat.zero_le _, c6, d3, d1, d2, fun _ => ⟨rfl, rfl⟩⟩
theorem sLoop_succ (b : Nat → Nat) (n u PN VN f : Nat) (y : rdS) : sLoop b n u PN VN (f + 1) y = if y.1 = 0 then (1, y) else if (sIt b n u PN VN y).1 = 0 then (0, sPop (sIt b n u PN VN y).2) else sLoop b n u PN VN f (sPop (sIt b n u PN VN y).2) := rfl
/-- when all was fine -/
theorem sAll_1 (hb : ∀ j, b j < 256) (hlo : lo < 2) (hcl : ∀ i, cl i < 2 ^ 32) (hPN : PN ≤ 4096) (hVN : VN ≤ 8192) (hs : sAll b n u PN VN lo cl cd pf fv = (1, (w1, t1, lo1, wr1, pl1, pn1, vn1, cl1, cd1, pf1, fv1))) :
    (∃ J N q0, gOK pf1 J N pn1 q0 ∧ vn1 = 2 * q0 ∧ N ≤ n) ∧ 2 ≤ pn1 ∧ (∀ j, j < vn1 → fvOk (fv1 j)) ∧ wr1 = 0 ∧ pl1 = 0 := by
  unfold sAll at hs
  obtain ⟨⟨k2, w2, t2, lo2, wr2, pl2, pn2, vn2, cl2, cd2, pf2, fv2⟩, hz⟩ : ∃ z, z = sLoop b n u PN VN 8192 (1, 0, lo, 0, 0, 0, 0, va_up cl 0 1, va_up cd 0 0, pf, fv) := ⟨_, rfl⟩
  rw [← hz] at hs
  change (if k2 = 1 then (if t2 < n then _ else _) else _) = _ at hs
  by_cases q : k2 = 1
  · rw [if_pos q] at hs
    by_cases q2 : t2 < n
    · rw [if_pos q2] at hs
      cases hs
    · rw [if_neg q2] at hs
      cases hs
      subst q
      have hok := rOK_0 (n := n) (PN := PN) (VN := VN) (cd := cd) hlo hcl
      have hz := hz.symm
      rw [show (8192 : Nat) = 8191 + 1 from rfl, sLoop_succ] at hz
      change (if 1 = 0 then _ else if (sItem b n u PN VN 1 0 lo 0 0 0 0 (va_up cl 0 1) (va_up cd 0 0) pf fv).1 = 0 then (0, sPop (sItem b n u PN VN 1 0 lo 0 0 0 0 (va_up cl 0 1) (va_up cd 0 0) pf fv).2) else sLoop b n u PN VN 8191 (sPop (sItem b n u PN VN 1 0 lo 0 0 0 0 (va_up cl 0 1) (va_up cd 0 0) pf fv).2)) = _ at hz
      rw [if_neg (by decide)] at hz
      obtain ⟨⟨k3, w3, t3, lo3, wr3, pl3, pn3, vn3, cl3, cd3, pf3, fv3⟩, hy⟩ : ∃ z, z = sItem b n u PN VN 1 0 lo 0 0 0 0 (va_up cl 0 1) (va_up cd 0 0) pf fv := ⟨_, rfl⟩
      obtain ⟨bk, ok3⟩ := sItem_ok hok (Nat.le_refl 1) hy.symm hb
      rw [← hy] at hz
      by_cases k0 : k3 = 0
      · rw [if_pos (show (k3, (w3, t3, lo3, wr3, pl3, pn3, vn3, cl3, cd3, pf3, fv3)).1 = 0 from k0)] at hz
        cases hz
      · rw [if_neg (show ¬ (k3, (w3, t3, lo3, wr3, pl3, pn3, vn3, cl3, cd3, pf3, fv3)).1 = 0 from k0)] at hz
        have k1 : k3 = 1 := by omega
        subst k1
        obtain ⟨a1, a2, a3, a4, a5, a6⟩ := sItem_1 PI_0 (Nat.le_refl 1) (Nat.le_refl 1) (fun j hj => absurd hj (Nat.not_lt_zero _)) hy.symm
        have a4 := a4 (if_pos rfl)
        obtain ⟨c0, c1, c2, c3, c4, c5⟩ := sLoop_1 hb 8191 (popZ cl3 w3) t3 lo3 wr3 pl3 pn3 vn3 cl3 cd3 pf3 fv3 w1 t1 lo1 wr1 pl1 pn1 vn1 cl1 cd1 pf1 fv1 (rOK_pop ok3) (popZ_top cl3 w3) (PI_pop w3 a1) a2 (by omega) hz
        obtain ⟨J, N, q0, d1, d2, d3⟩ := PI_end c2
        have hmm := sLoop_m hb 8191 (popZ cl3 w3) t3 lo3 wr3 pl3 pn3 vn3 cl3 cd3 pf3 fv3 w1 t1 lo1 wr1 pl1 pn1 vn1 cl1 cd1 pf1 fv1 (rOK_pop ok3) (popZ_top cl3 w3) (PI_pop w3 a1) a2 hz
        have ht := c1.1
        refine ⟨⟨J, N, q0, d1, d2, by omega⟩, ?_, c3, by rw [c4, a5], by rw [c5, a6]⟩
        have g1 := gIt_le pf1 J
        rw [d1.1] at g1
        have g1 : 2 * J ≤ pn1 := g1
        rcases Nat.eq_zero_or_pos J with z | z
        · subst z
          have e : (0, 0, 0) = (N, pn1, q0) := d1.1
          cases e
          omega
        · omega
  · rw [if_neg q] at hs
    cases hs
end RA
