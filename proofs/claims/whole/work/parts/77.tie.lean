/-! the class's reading and the reference's, side by side -/
theorem rg_iff {v u : Nat} (hu : u ≤ 1000) : (rVal v u < -1000000000 ∨ 1000000000 < rVal v u) ↔ 1000000000 < rMag v u := by
  have hm := rMag_lt (v := v) hu
  have e1 : (-1000000000 : Int64).toInt = -1000000000 := by decide
  have e2 : (1000000000 : Int64).toInt = 1000000000 := by decide
  rw [Int64.lt_iff_toInt_lt, Int64.lt_iff_toInt_lt, e1, e2]
  unfold rVal
  split
  · rw [pk_lT hm]; omega
  · rw [Int64.toInt_neg, pk_lT hm, Int.bmod_eq_of_le (by omega) (by omega)]; omega
theorem inf_iff {v : Nat} : 9218868437227405312 ≤ v % 9223372036854775808 ↔ rE v = 2047 := by unfold rE; omega
theorem val_rel {b : Nat → Nat} {n u lo t wr pl nm k1 t1 wr1 pl1 nm1 : Nat} {vz vz1 : Int32} (w pn vn : Nat) (cl cd pf : Nat → Nat) (fv : Nat → Int32) (hu : u ≤ 1000) (hm : mVal b n u lo t wr pl nm vz = (k1, t1, wr1, pl1, nm1, vz1)) :
    (k1 = 0 ∧ ∃ t2, sVal b n u w t lo wr pl pn vn cl cd pf fv = (0, (w, t2, lo, wr1, pl1, pn, vn, cl, cd, pf, fv))) ∨
    (k1 = 1 ∧ wr1 = wr ∧ pl1 = pl ∧ t1 = t + 8 ∧ sVal b n u w t lo wr pl pn vn cl cd pf fv = (1, (w, t1, lo, wr, pl, pn, vn + 1, cl, cd, pf, upd fv vn vz1))) := by
  unfold mVal at hm
  unfold sVal
  by_cases h1 : n < t + 8
  · rw [if_pos h1] at hm
    cases hm
    exact Or.inl ⟨rfl, t, if_pos h1⟩
  rw [if_neg h1] at hm
  rw [if_neg h1]
  unfold mRd at hm
  by_cases h2 : rE (pN b t 8 lo) = 2047
  · rw [if_pos h2] at hm
    cases hm
    exact Or.inl ⟨rfl, t + 8, if_pos (inf_iff.mpr h2)⟩
  rw [if_neg h2] at hm
  rw [if_neg (fun q => h2 (inf_iff.mp q))]
  by_cases h3 : 1000000000 < rMag (pN b t 8 lo) u
  · rw [if_pos h3] at hm
    cases hm
    exact Or.inl ⟨rfl, t + 8, if_pos ((rg_iff hu).mpr h3)⟩
  rw [if_neg h3] at hm
  cases hm
  exact Or.inr ⟨rfl, rfl, rfl, rfl, if_neg (fun q => h3 ((rg_iff hu).mp q))⟩
def Rv (sl vn : Nat) (pq : Nat → Nat) (fv fx : Nat → Int32) : Prop := vn = 2 * pq sl ∧ ∀ i, i < vn → fv i = fx (8192 * sl + i)
def Rp (sl pn wh : Nat) (pd pf pm : Nat → Nat) : Prop := pn = pd sl ∧ ∀ i, i < pn → i ≠ wh → pf i = pm (4096 * sl + i)
def Fu (PN VN pn vn f : Nat) : Prop := pn ≤ PN ∧ vn ≤ VN ∧ PN + VN / 2 < pn + vn / 2 + f
def oE (Z : Nat × rdS) (wr pl : Nat) : Prop := Z.1 = 0 ∧ Z.2.2.2.2.1 = wr ∧ Z.2.2.2.2.2.1 = pl
theorem Rv_put {sl vn : Nat} {pq : Nat → Nat} {fv fx : Nat → Int32} {x y : Int32} (h : Rv sl vn pq fv fx) : Rv sl (vn + 2) (va_up pq sl (pq sl + 1)) (upd (upd fv vn x) (vn + 1) y) (upd (upd fx (2 * (4096 * sl + pq sl)) x) (2 * (4096 * sl + pq sl) + 1) y) := by
  obtain ⟨h1, h2⟩ := h
  refine ⟨by rw [va_up_self]; omega, fun i hi => ?_⟩
  by_cases e1 : i = vn + 1
  · subst e1
    rw [pk_us, show 8192 * sl + (vn + 1) = 2 * (4096 * sl + pq sl) + 1 by omega, pk_us]
  · rw [pk_un e1, pk_un (show 8192 * sl + i ≠ 2 * (4096 * sl + pq sl) + 1 by omega)]
    by_cases e2 : i = vn
    · subst e2
      rw [pk_us, show 8192 * sl + i = 2 * (4096 * sl + pq sl) by omega, pk_us]
    · rw [pk_un e2, pk_un (show 8192 * sl + i ≠ 2 * (4096 * sl + pq sl) by omega)]
      exact h2 i (by omega)
theorem co_rel {b : Nat → Nat} {n u PT VN sl lo t wr pl nm k1 t1 wr1 pl1 nm1 : Nat} {vz vz1 : Int32} {pq pq1 : Nat → Nat} {fx fx1 : Nat → Int32} (w pn vn : Nat) (cl cd pf : Nat → Nat) (fv : Nat → Int32) (hu : u ≤ 1000) (hV : VN = 2 * PT) (hR : Rv sl vn pq fv fx)
    (hm : mCoord b n u PT sl lo t wr pl nm vz pq fx = (k1, t1, wr1, pl1, nm1, vz1, pq1, fx1)) :
    (k1 = 0 ∧ ∃ w2 t2 lo2 pn2 vn2 cl2 cd2 pf2 fv2, sCoord b n u VN w t lo wr pl pn vn cl cd pf fv = (0, (w2, t2, lo2, wr1, pl1, pn2, vn2, cl2, cd2, pf2, fv2))) ∨
    (k1 = 1 ∧ wr1 = wr ∧ pl1 = pl ∧ vn + 2 ≤ VN ∧ ∃ fv1, Rv sl (vn + 2) pq1 fv1 fx1 ∧ sCoord b n u VN w t lo wr pl pn vn cl cd pf fv = (1, (w, t1, lo, wr, pl, pn, vn + 2, cl, cd, pf, fv1))) := by
  unfold mCoord at hm
  unfold sCoord
  by_cases h1 : PT < pq sl + 1
  · rw [if_pos h1] at hm
    cases hm
    refine Or.inl ⟨rfl, w, t, lo, pn, vn, cl, cd, pf, fv, if_pos (by have := hR.1; omega)⟩
  rw [if_neg h1] at hm
  rw [if_neg (show ¬ VN < vn + 2 by have := hR.1; omega)]
  obtain ⟨⟨k2, t2, wr2, pl2, nm2, vz2⟩, hz⟩ : ∃ z, z = mVal b n u lo t wr pl nm vz := ⟨_, rfl⟩
  rw [← hz] at hm
  rcases val_rel w pn vn cl cd pf fv hu hz.symm with ⟨c1, t3, c2⟩ | ⟨c1, c2, c3, c4, c5⟩
  · subst c1
    have hm : (0, t2, wr2, pl2, nm2, vz2, pq, fx) = (k1, t1, wr1, pl1, nm1, vz1, pq1, fx1) := hm
    cases hm
    rw [c2]
    exact Or.inl ⟨rfl, w, t3, lo, pn, vn, cl, cd, pf, fv, rfl⟩
  · subst c1
    have hm : mCo2 b n u sl lo t2 wr2 pl2 nm2 vz2 pq fx = (k1, t1, wr1, pl1, nm1, vz1, pq1, fx1) := hm
    rw [c5]
    unfold mCo2 at hm
    subst c2
    subst c3
    obtain ⟨⟨k3, t3, wr3, pl3, nm3, vz3⟩, hy⟩ : ∃ z, z = mVal b n u lo t2 wr2 pl2 nm2 vz2 := ⟨_, rfl⟩
    rw [← hy] at hm
    show (k1 = 0 ∧ ∃ w2 t4 lo2 pn2 vn2 cl2 cd2 pf2 fv2, sVal b n u w t2 lo wr2 pl2 pn (vn + 1) cl cd pf (upd fv vn vz2) = (0, (w2, t4, lo2, wr1, pl1, pn2, vn2, cl2, cd2, pf2, fv2))) ∨ (k1 = 1 ∧ wr1 = wr2 ∧ pl1 = pl2 ∧ vn + 2 ≤ VN ∧ ∃ fv1, Rv sl (vn + 2) pq1 fv1 fx1 ∧ sVal b n u w t2 lo wr2 pl2 pn (vn + 1) cl cd pf (upd fv vn vz2) = (1, (w, t1, lo, wr2, pl2, pn, vn + 2, cl, cd, pf, fv1)))
    rcases val_rel w pn (vn + 1) cl cd pf (upd fv vn vz2) hu hy.symm with ⟨c1, t4, c2⟩ | ⟨c1, c2, c3, c6, c7⟩
    · subst c1
      have hm : (0, t3, wr3, pl3, nm3, vz3, pq, fx) = (k1, t1, wr1, pl1, nm1, vz1, pq1, fx1) := hm
      cases hm
      exact Or.inl ⟨rfl, w, t4, lo, pn, vn + 1, cl, cd, pf, _, c2⟩
    · subst c1
      have hm : (1, t3, wr3, pl3, nm3, vz3, va_up pq sl (pq sl + 1), upd (upd fx (2 * (4096 * sl + pq sl)) vz2) (2 * (4096 * sl + pq sl) + 1) vz3) = (k1, t1, wr1, pl1, nm1, vz1, pq1, fx1) := hm
      cases hm
      exact Or.inr ⟨rfl, c2, c3, by have := hR.1; omega, _, Rv_put hR, c7⟩
theorem Fu_s {PN VN pn vn f : Nat} (h : Fu PN VN pn vn f) : ∃ f', f = f' + 1 := by
  obtain ⟨h1, h2, h3⟩ := h
  exact ⟨f - 1, by omega⟩
/-- c coordinates -/
theorem cos_rel {b : Nat → Nat} {n u PT PN VN sl lo : Nat} (hu : u ≤ 1000) (hV : VN = 2 * PT) : ∀ (c f w t wr pl pn vn nm : Nat) (vz : Int32) (cl cd pf pq : Nat → Nat) (fv fx : Nat → Int32) (k1 t1 wr1 pl1 nm1 : Nat) (vz1 : Int32) (pq1 : Nat → Nat) (fx1 : Nat → Int32),
    1 ≤ w → cd (w - 1) = 9 → cl (w - 1) = c → Rv sl vn pq fv fx → Fu PN VN pn vn f → mCos b n u PT sl lo c (t, wr, pl, nm, vz, pq, fx) = (k1, t1, wr1, pl1, nm1, vz1, pq1, fx1) →
    (k1 = 0 ∧ oE (sLoop b n u PN VN f (popZ cl w, t, lo, wr, pl, pn, vn, cl, cd, pf, fv)) wr1 pl1) ∨
    (k1 = 1 ∧ wr1 = wr ∧ pl1 = pl ∧ ∃ f1 vn1 cl1 fv1, Rv sl vn1 pq1 fv1 fx1 ∧ Fu PN VN pn vn1 f1 ∧ cl1 (w - 1) = 0 ∧ (∀ i, i ≠ w - 1 → cl1 i = cl i) ∧
      sLoop b n u PN VN f (popZ cl w, t, lo, wr, pl, pn, vn, cl, cd, pf, fv) = sLoop b n u PN VN f1 (popZ cl1 w, t1, lo, wr, pl, pn, vn1, cl1, cd, pf, fv1)) := by
  intro c
  induction c with
  | zero =>
    intro f w t wr pl pn vn nm vz cl cd pf pq fv fx k1 t1 wr1 pl1 nm1 vz1 pq1 fx1 hw hd hc hR hF hm
    have hm : (1, t, wr, pl, nm, vz, pq, fx) = (k1, t1, wr1, pl1, nm1, vz1, pq1, fx1) := hm
    cases hm
    exact Or.inr ⟨rfl, rfl, rfl, f, vn, cl, fv, hR, hF, hc, fun _ _ => rfl, rfl⟩
  | succ c ih =>
    intro f w t wr pl pn vn nm vz cl cd pf pq fv fx k1 t1 wr1 pl1 nm1 vz1 pq1 fx1 hw hd hc hR hF hm
    change (if (mCoord b n u PT sl lo t wr pl nm vz pq fx).1 = 0 then mCoord b n u PT sl lo t wr pl nm vz pq fx else mCos b n u PT sl lo c (mCoord b n u PT sl lo t wr pl nm vz pq fx).2) = _ at hm
    obtain ⟨f', rfl⟩ := Fu_s hF
    rw [popZ_n hw (by omega)]
    have hs : sLoop b n u PN VN (f' + 1) (w, t, lo, wr, pl, pn, vn, cl, cd, pf, fv) = if (sCoord b n u VN w t lo wr pl pn vn (va_up cl (w - 1) (cl (w - 1) - 1)) cd pf fv).1 = 0 then (0, sPop (sCoord b n u VN w t lo wr pl pn vn (va_up cl (w - 1) (cl (w - 1) - 1)) cd pf fv).2) else sLoop b n u PN VN f' (sPop (sCoord b n u VN w t lo wr pl pn vn (va_up cl (w - 1) (cl (w - 1) - 1)) cd pf fv).2) := by
      rw [sLoop_succ, if_neg (show ¬ (w, t, lo, wr, pl, pn, vn, cl, cd, pf, fv).1 = 0 from by show ¬ w = 0; omega)]
      have e : sIt b n u PN VN (w, t, lo, wr, pl, pn, vn, cl, cd, pf, fv) = sCoord b n u VN w t lo wr pl pn vn (va_up cl (w - 1) (cl (w - 1) - 1)) cd pf fv := by
        show sItem b n u PN VN w t lo wr pl pn vn cl cd pf fv = _
        unfold sItem
        rw [if_pos hd]
      rw [e]
    rw [hs]
    obtain ⟨⟨k2, t2, wr2, pl2, nm2, vz2, pq2, fx2⟩, hz⟩ : ∃ z, z = mCoord b n u PT sl lo t wr pl nm vz pq fx := ⟨_, rfl⟩
    rw [← hz] at hm
    rcases co_rel w pn vn (va_up cl (w - 1) (cl (w - 1) - 1)) cd pf fv hu hV hR hz.symm with ⟨c1, w3, t3, lo3, pn3, vn3, cl3, cd3, pf3, fv3, c2⟩ | ⟨c1, c2, c3, c4, fv3, c5, c6⟩
    · subst c1
      rw [if_pos rfl] at hm
      cases hm
      rw [c2]
      exact Or.inl ⟨rfl, rfl, rfl, rfl⟩
    · subst c1
      subst c2
      subst c3
      rw [if_neg (by exact Nat.one_ne_zero)] at hm
      rw [c6]
      have u1 : va_up cl (w - 1) (cl (w - 1) - 1) (w - 1) = c := by rw [va_up_self, hc]; rfl
      have F2 : Fu PN VN pn (vn + 2) f' := by obtain ⟨q1, q2, q3⟩ := hF; exact ⟨q1, c4, by omega⟩
      rcases ih f' w t2 wr2 pl2 pn (vn + 2) nm2 vz2 (va_up cl (w - 1) (cl (w - 1) - 1)) cd pf pq2 fv3 fx2 k1 t1 wr1 pl1 nm1 vz1 pq1 fx1 hw hd u1 c5 F2 hm with ⟨d1, d2⟩ | ⟨d1, d2, d3, f1, vn1, cl1, fv1, d4, d5, d6, d7, d8⟩
      · exact Or.inl ⟨d1, d2⟩
      · refine Or.inr ⟨d1, d2, d3, f1, vn1, cl1, fv1, d4, d5, d6, fun i hi => ?_, d8⟩
        rw [d7 i hi]
        exact va_up_ne _ _ hi
theorem Rp_add {sl pn wh x : Nat} {pd pf pm pm2 : Nat → Nat} (h : Rp sl pn wh pd pf pm) (h1 : ∀ j, j ≠ 4096 * sl + pd sl → pm2 j = pm j) (h2 : pm2 (4096 * sl + pd sl) = x) : Rp sl (pn + 1) wh (va_up pd sl (pd sl + 1)) (va_up pf pn x) pm2 := by
  obtain ⟨a1, a2⟩ := h
  refine ⟨by rw [va_up_self, a1], fun i hi hn => ?_⟩
  by_cases e : i = pn
  · subst e
    rw [va_up_self, a1, h2]
  · rw [va_up_ne _ _ e, h1 _ (by omega)]
    exact a2 i (by omega) hn
/-- r rings -/
theorem rs_rel {b : Nat → Nat} {n u PT PN VN sl lo : Nat} (hu : u ≤ 1000) (hV : VN = 2 * PT) : ∀ (r f w t wr pl pn vn nm wh : Nat) (vz : Int32) (cl cd pf pq pd pm : Nat → Nat) (fv fx : Nat → Int32) (k1 t1 wr1 pl1 nm1 : Nat) (vz1 : Int32) (pq1 : Nat → Nat) (fx1 : Nat → Int32) (pd1 pm1 : Nat → Nat),
    1 ≤ w → cd (w - 1) = 8 → cl (w - 1) = r → Rv sl vn pq fv fx → Rp sl pn wh pd pf pm → wh < pn → Fu PN VN pn vn f → mRs b n u PT PN sl lo r (t, wr, pl, nm, vz, pq, fx, pd, pm) = (k1, t1, wr1, pl1, nm1, vz1, pq1, fx1, pd1, pm1) →
    (k1 = 0 ∧ oE (sLoop b n u PN VN f (popZ cl w, t, lo, wr, pl, pn, vn, cl, cd, pf, fv)) wr1 pl1) ∨
    (k1 = 1 ∧ wr1 = wr ∧ pl1 = pl ∧ ∃ f1 pn1 vn1 cl1 cd1 pf1 fv1, Rv sl vn1 pq1 fv1 fx1 ∧ Rp sl pn1 wh pd1 pf1 pm1 ∧ Fu PN VN pn1 vn1 f1 ∧ pn ≤ pn1 ∧ (∀ i, i < pn → pf1 i = pf i) ∧ cl1 (w - 1) = 0 ∧ (∀ i, i < w - 1 → cl1 i = cl i) ∧ (∀ i, i < w → cd1 i = cd i) ∧
      sLoop b n u PN VN f (popZ cl w, t, lo, wr, pl, pn, vn, cl, cd, pf, fv) = sLoop b n u PN VN f1 (popZ cl1 w, t1, lo, wr, pl, pn1, vn1, cl1, cd1, pf1, fv1)) := by
  intro r
  induction r with
  | zero =>
    intro f w t wr pl pn vn nm wh vz cl cd pf pq pd pm fv fx k1 t1 wr1 pl1 nm1 vz1 pq1 fx1 pd1 pm1 hw hd hc hR hQ hwh hF hm
    have hm : (1, t, wr, pl, nm, vz, pq, fx, pd, pm) = (k1, t1, wr1, pl1, nm1, vz1, pq1, fx1, pd1, pm1) := hm
    cases hm
    exact Or.inr ⟨rfl, rfl, rfl, f, pn, vn, cl, cd, pf, fv, hR, hQ, hF, Nat.le_refl _, fun _ _ => rfl, hc, fun _ _ => rfl, fun _ _ => rfl, rfl⟩
  | succ r ih =>
    intro f w t wr pl pn vn nm wh vz cl cd pf pq pd pm fv fx k1 t1 wr1 pl1 nm1 vz1 pq1 fx1 pd1 pm1 hw hd hc hR hQ hwh hF hm
    change (if (mRing b n u PT PN sl lo (t, wr, pl, nm, vz, pq, fx, pd, pm)).1 = 0 then mRing b n u PT PN sl lo (t, wr, pl, nm, vz, pq, fx, pd, pm) else mRs b n u PT PN sl lo r (mRing b n u PT PN sl lo (t, wr, pl, nm, vz, pq, fx, pd, pm)).2) = _ at hm
    obtain ⟨f', rfl⟩ := Fu_s hF
    rw [popZ_n hw (by omega)]
    obtain ⟨cl', hcl'⟩ : ∃ z, z = va_up cl (w - 1) (cl (w - 1) - 1) := ⟨_, rfl⟩
    have u1 : cl' (w - 1) = r := by rw [hcl', va_up_self, hc]; rfl
    have u2 : ∀ i, i < w - 1 → cl' i = cl i := fun i hi => by rw [hcl']; exact va_up_ne _ _ (by omega)
    have hs : sLoop b n u PN VN (f' + 1) (w, t, lo, wr, pl, pn, vn, cl, cd, pf, fv) = if (sRing b n PN w t lo wr pl pn vn cl' cd pf fv).1 = 0 then (0, sPop (sRing b n PN w t lo wr pl pn vn cl' cd pf fv).2) else sLoop b n u PN VN f' (sPop (sRing b n PN w t lo wr pl pn vn cl' cd pf fv).2) := by
      rw [sLoop_succ, if_neg (show ¬ (w, t, lo, wr, pl, pn, vn, cl, cd, pf, fv).1 = 0 from by show ¬ w = 0; omega)]
      have e : sIt b n u PN VN (w, t, lo, wr, pl, pn, vn, cl, cd, pf, fv) = sRing b n PN w t lo wr pl pn vn cl' cd pf fv := by
        show sItem b n u PN VN w t lo wr pl pn vn cl cd pf fv = _
        unfold sItem
        rw [if_neg (by omega), if_pos hd, hcl']
      rw [e]
    rw [hs]
    clear hs
    unfold sRing
    rw [mRing_eq] at hm
    have hp := hQ.1
    by_cases h1 : PN < pd sl + 1
    · rw [if_pos h1] at hm
      rw [if_pos (show PN < pn + 1 by omega)]
      cases hm
      exact Or.inl ⟨rfl, rfl, rfl, rfl⟩
    rw [if_neg h1] at hm
    rw [if_neg (show ¬ PN < pn + 1 by omega)]
    by_cases h2 : n < t + 4
    · rw [if_pos h2] at hm
      rw [if_pos h2]
      cases hm
      exact Or.inl ⟨rfl, rfl, rfl, rfl⟩
    rw [if_neg h2] at hm
    rw [if_neg h2]
    by_cases h3 : pN b t 4 lo = 0
    · rw [if_pos h3] at hm
      rw [if_pos h3]
      cases hm
      exact Or.inl ⟨rfl, rfl, rfl, rfl⟩
    rw [if_neg h3] at hm
    rw [if_neg h3]
    obtain ⟨c, hcc⟩ : ∃ c, c = pN b t 4 lo := ⟨_, rfl⟩
    rw [← hcc] at hm h3 ⊢
    obtain ⟨⟨k2, t2, wr2, pl2, nm2, vz2, pq2, fx2⟩, hz⟩ : ∃ z, z = mCos b n u PT sl lo c (t + 4, wr, pl, c, vz, pq, fx) := ⟨_, rfl⟩
    rw [← hz] at hm
    have F2 : Fu PN VN (pn + 1) vn f' := by obtain ⟨q1, q2, q3⟩ := hF; exact ⟨by omega, q2, by omega⟩
    rw [if_neg (show ¬ ((1, (w + 1, t + 4, lo, wr, pl, pn + 1, vn, va_up cl' w c, va_up cd w 9, va_up pf pn c, fv)) : Nat × rdS).1 = 0 from Nat.one_ne_zero)]
    show (k1 = 0 ∧ oE (sLoop b n u PN VN f' (popZ (va_up cl' w c) (w + 1), t + 4, lo, wr, pl, pn + 1, vn, va_up cl' w c, va_up cd w 9, va_up pf pn c, fv)) wr1 pl1) ∨ (k1 = 1 ∧ wr1 = wr ∧ pl1 = pl ∧ ∃ f1 pn1 vn1 cl1 cd1 pf1 fv1, Rv sl vn1 pq1 fv1 fx1 ∧ Rp sl pn1 wh pd1 pf1 pm1 ∧ Fu PN VN pn1 vn1 f1 ∧ pn ≤ pn1 ∧ (∀ i, i < pn → pf1 i = pf i) ∧ cl1 (w - 1) = 0 ∧ (∀ i, i < w - 1 → cl1 i = cl i) ∧ (∀ i, i < w → cd1 i = cd i) ∧
      sLoop b n u PN VN f' (popZ (va_up cl' w c) (w + 1), t + 4, lo, wr, pl, pn + 1, vn, va_up cl' w c, va_up cd w 9, va_up pf pn c, fv) = sLoop b n u PN VN f1 (popZ cl1 w, t1, lo, wr, pl, pn1, vn1, cl1, cd1, pf1, fv1))
    rcases cos_rel (PN := PN) hu hV c f' (w + 1) (t + 4) wr pl (pn + 1) vn c vz (va_up cl' w c) (va_up cd w 9) (va_up pf pn c) pq fv fx k2 t2 wr2 pl2 nm2 vz2 pq2 fx2 (by omega) (va_up_self _ _ _) (va_up_self _ _ _) hR F2 hz.symm with ⟨c1, c2⟩ | ⟨c1, c2, c3, f3, vn3, cl3, fv3, c4, c5, c6, c7, c8⟩
    · subst c1
      rw [if_pos (show (mRg2 sl c pd pm (0, t2, wr2, pl2, nm2, vz2, pq2, fx2)).1 = 0 from rfl)] at hm
      have hm : (0, t2, wr2, pl2, nm2, vz2, pq2, fx2, va_up pd sl (pd sl + 1), va_up pm (4096 * sl + pd sl) 0) = (k1, t1, wr1, pl1, nm1, vz1, pq1, fx1, pd1, pm1) := hm
      cases hm
      exact Or.inl ⟨rfl, c2⟩
    · subst c1
      subst c2
      subst c3
      rw [if_neg (show ¬ (mRg2 sl c pd pm (1, t2, wr2, pl2, nm2, vz2, pq2, fx2)).1 = 0 from Nat.one_ne_zero)] at hm
      have hm : mRs b n u PT PN sl lo r (t2, wr2, pl2, nm2, vz2, pq2, fx2, va_up pd sl (pd sl + 1), va_up (va_up pm (4096 * sl + pd sl) 0) (4096 * sl + pd sl) c) = (k1, t1, wr1, pl1, nm1, vz1, pq1, fx1, pd1, pm1) := hm
      rw [c8, popZ_0 (show cl3 w = 0 from c6)]
      have w1 : cl3 (w - 1) = r := by rw [c7 (w - 1) (by omega), va_up_ne _ _ (show w - 1 ≠ w by omega), u1]
      have Q2 := Rp_add (x := c) (pm2 := va_up (va_up pm (4096 * sl + pd sl) 0) (4096 * sl + pd sl) c) hQ (fun j hj => by rw [va_up_ne _ _ hj, va_up_ne _ _ hj]) (va_up_self _ _ _)
      rcases ih f3 w t2 wr2 pl2 (pn + 1) vn3 nm2 wh vz2 cl3 (va_up cd w 9) (va_up pf pn c) pq2 (va_up pd sl (pd sl + 1)) _ fv3 fx2 k1 t1 wr1 pl1 nm1 vz1 pq1 fx1 pd1 pm1 hw (by rw [va_up_ne _ _ (show w - 1 ≠ w by omega)]; exact hd) w1 c4 Q2 (by omega) c5 hm with ⟨d1, d2⟩ | ⟨d1, d2, d3, f1, pn1, vn1, cl1, cd1, pf1, fv1, d4, d5, d6, d7, d8, d9, e1, e2, e3⟩
      · exact Or.inl ⟨d1, d2⟩
      · refine Or.inr ⟨d1, d2, d3, f1, pn1, vn1, cl1, cd1, pf1, fv1, d4, d5, d6, by omega, fun i hi => ?_, d9, fun i hi => ?_, fun i hi => ?_, e3⟩
        · rw [d8 i (by omega)]; exact va_up_ne _ _ (by omega)
        · rw [e1 i hi, c7 i (by omega), va_up_ne _ _ (show i ≠ w by omega), u2 i hi]
        · rw [e2 i hi]; exact va_up_ne _ _ (by omega)
def Rq (sl pn : Nat) (pd pf pm : Nat → Nat) : Prop := pn = pd sl ∧ ∀ i, i < pn → pf i = pm (4096 * sl + i)
theorem Rq_p {sl pn wh : Nat} {pd pf pm : Nat → Nat} (h : Rq sl pn pd pf pm) : Rp sl pn wh pd pf pm := ⟨h.1, fun i hi _ => h.2 i hi⟩
/-- a shape's two plan numbers; the second may still be owed -/
theorem Rp_two {sl pn K c wh : Nat} {pd pf pm pm2 : Nat → Nat} (h : Rq sl pn pd pf pm) (h1 : ∀ j, j ≠ 4096 * sl + pd sl → j ≠ 4096 * sl + (pd sl + 1) → pm2 j = pm j) (h2 : pm2 (4096 * sl + pd sl) = K) (h3 : wh = pn + 1 ∨ pm2 (4096 * sl + (pd sl + 1)) = c) : Rp sl (pn + 1 + 1) wh (va_up pd sl (pd sl + 1 + 1)) (va_up (va_up pf pn K) (pn + 1) c) pm2 := by
  obtain ⟨a1, a2⟩ := h
  refine ⟨by rw [va_up_self, a1], fun i hi hn => ?_⟩
  by_cases e : i = pn + 1
  · subst e
    rcases h3 with q | q
    · omega
    · rw [va_up_self, a1, q]
  · rw [va_up_ne _ _ e]
    by_cases e2 : i = pn
    · subst e2
      rw [va_up_self, a1, h2]
    · rw [va_up_ne _ _ e2, h1 _ (by omega) (by omega)]
      exact a2 i (by omega)
theorem Rq_two {sl pn K c : Nat} {pd pf pm pm2 : Nat → Nat} (h : Rq sl pn pd pf pm) (h1 : ∀ j, j ≠ 4096 * sl + pd sl → j ≠ 4096 * sl + (pd sl + 1) → pm2 j = pm j) (h2 : pm2 (4096 * sl + pd sl) = K) (h3 : pm2 (4096 * sl + (pd sl + 1)) = c) : Rq sl (pn + 1 + 1) (va_up pd sl (pd sl + 1 + 1)) (va_up (va_up pf pn K) (pn + 1) c) pm2 := by
  obtain ⟨a1, a2⟩ := Rp_two (wh := pn + 1 + 1) h h1 h2 (Or.inr h3)
  exact ⟨a1, fun i hi => a2 i hi (by omega)⟩
theorem mCos_one {b : Nat → Nat} {n u PT sl lo t wr pl nm : Nat} {vz : Int32} {pq : Nat → Nat} {fx : Nat → Int32} (ht : t ≤ n) (hq : pq sl ≤ PT) : mCos b n u PT sl lo 1 (t, wr, pl, nm, vz, pq, fx) = mCoord b n u PT sl lo t wr pl nm vz pq fx := by
  show (if (mCoord b n u PT sl lo t wr pl nm vz pq fx).1 = 0 then mCoord b n u PT sl lo t wr pl nm vz pq fx else (1, (mCoord b n u PT sl lo t wr pl nm vz pq fx).2)) = _
  obtain ⟨⟨k2, t2, wr2, pl2, nm2, vz2, pq2, fx2⟩, hz⟩ : ∃ z, z = mCoord b n u PT sl lo t wr pl nm vz pq fx := ⟨_, rfl⟩
  have h := (mCoord_bd hz.symm ht hq).1
  rw [← hz]
  by_cases q : k2 = 0
  · rw [if_pos (show (k2, t2, wr2, pl2, nm2, vz2, pq2, fx2).1 = 0 from q)]
  · rw [if_neg (show ¬ (k2, t2, wr2, pl2, nm2, vz2, pq2, fx2).1 = 0 from q), show k2 = 1 by omega]
def sAft (b : Nat → Nat) (n u PN VN f : Nat) (Z : Nat × rdS) : Nat × rdS := if Z.1 = 0 then (0, sPop Z.2) else sLoop b n u PN VN f (sPop Z.2)
theorem sAft_1 (b : Nat → Nat) (n u PN VN f w t lo wr pl pn vn : Nat) (cl cd pf : Nat → Nat) (fv : Nat → Int32) : sAft b n u PN VN f (1, (w, t, lo, wr, pl, pn, vn, cl, cd, pf, fv)) = sLoop b n u PN VN f (popZ cl w, t, lo, wr, pl, pn, vn, cl, cd, pf, fv) := rfl
theorem sAft_0 (b : Nat → Nat) (n u PN VN f w t lo wr pl pn vn : Nat) (cl cd pf : Nat → Nat) (fv : Nat → Int32) : oE (sAft b n u PN VN f (0, (w, t, lo, wr, pl, pn, vn, cl, cd, pf, fv))) wr pl := ⟨rfl, rfl, rfl⟩
/-- what is told of a shape: something is wrong; it is finished; its parts are awaited -/
def shO (b : Nat → Nat) (n u PN VN sl dp lo wr pl : Nat) (cl cd : Nat → Nat) (ok ol : Nat → Nat) (X : Nat × rdS) : Nat × msS → Prop
  | (k1, t1, lo1, wr1, pl1, _, _, pq1, fx1, pd1, pm1, ok1, ol1) =>
    (k1 = 0 ∧ oE X wr1 pl1) ∨
    (k1 = 1 ∧ lo1 = lo ∧ wr1 = wr ∧ pl1 = pl ∧ ok1 = ok ∧ ol1 = ol ∧ ∃ f1 pn1 vn1 cl1 cd1 pf1 fv1, Rv sl vn1 pq1 fv1 fx1 ∧ Rq sl pn1 pd1 pf1 pm1 ∧ Fu PN VN pn1 vn1 f1 ∧ (∀ i, i < dp + 1 → cl1 i = cl i) ∧ (∀ i, i < dp + 1 → cd1 i = cd i) ∧
      X = sLoop b n u PN VN f1 (popZ cl1 (dp + 1), t1, lo, wr, pl, pn1, vn1, cl1, cd1, pf1, fv1)) ∨
    (k1 = 2 ∧ lo1 = lo ∧ wr1 = wr ∧ pl1 = pl ∧ ∃ K c f1 pn1 vn1 cl1 cd1 pf1 fv1, 4 ≤ K ∧ ¬ c = 0 ∧ ok1 = va_up ok dp K ∧ ol1 = va_up ol dp c ∧ Rv sl vn1 pq1 fv1 fx1 ∧ Rq sl pn1 pd1 pf1 pm1 ∧ Fu PN VN pn1 vn1 f1 ∧ (∀ i, i < dp + 1 → cl1 i = cl i) ∧ (∀ i, i < dp + 1 → cd1 i = cd i) ∧ cl1 (dp + 1) = c ∧ cd1 (dp + 1) = iOf K ∧
      X = sLoop b n u PN VN f1 (dp + 1 + 1, t1, lo, wr, pl, pn1, vn1, cl1, cd1, pf1, fv1))
def Fh (PN VN pn vn f : Nat) : Prop := pn ≤ PN ∧ vn ≤ VN ∧ PN + VN / 2 ≤ pn + vn / 2 + f ∧ 1 ≤ f
theorem Fu_h {PN VN pn vn f : Nat} (h : Fu PN VN pn vn f) : Fh PN VN pn vn f := by
  obtain ⟨h1, h2, h3⟩ := h
  exact ⟨h1, h2, by omega, by omega⟩
theorem tail_rel {b : Nat → Nat} {n u PT PN VN sl dp K y lo wr pl m pn vn f : Nat} {vz : Int32} {pq : Nat → Nat} {fx : Nat → Int32} {pd pm ok ol cl cd pf : Nat → Nat} {fv : Nat → Int32} (hu : u ≤ 1000) (hV : VN = 2 * PT) (hK1 : 1 ≤ K) (hK7 : K ≤ 7) (hy : y ≤ n) (hR : Rv sl vn pq fv fx) (hQ : Rq sl pn pd pf pm) (hF : Fh PN VN pn vn (f + 1)) :
    shO b n u PN VN sl dp lo wr pl cl cd ok ol (sAft b n u PN VN f (if PN < pn + 2 then (0, (dp + 1, y, lo, 7, y, pn, vn, cl, cd, pf, fv)) else sBody b n K (dp + 1) y lo wr pl (pn + 1) vn cl cd (va_up pf pn K) fv)) (mTail b n u PT PN sl dp K y lo wr pl m vz pq fx pd pm ok ol) := by
  have hp := hQ.1
  have hv := hR.1
  obtain ⟨hF1, hF2, hF3, hF4⟩ := id hF
  unfold mTail
  by_cases h1 : PN < pd sl + 2
  · rw [if_pos h1, if_pos (show PN < pn + 2 by omega)]
    exact Or.inl ⟨rfl, sAft_0 _ _ _ _ _ _ _ _ _ _ _ _ _ _ _ _ _⟩
  rw [if_neg h1, if_neg (show ¬ PN < pn + 2 by omega)]
  have F2 : Fu PN VN (pn + 1 + 1) vn f := ⟨by omega, hF2, by omega⟩
  unfold sBody
  by_cases h2 : K = 1
  · rw [if_pos h2, if_pos h2]
    by_cases h3 : eP b n y lo = 1
    · rw [if_pos h3, if_pos h3, sAft_1]
      refine Or.inr (Or.inl ⟨rfl, rfl, rfl, rfl, rfl, rfl, f, pn + 1 + 1, vn, cl, cd, _, fv, hR, Rq_two hQ (fun j q1 q2 => by rw [va_up_ne _ _ q2, va_up_ne _ _ q1]) (by rw [va_up_ne _ _ (by omega), va_up_self]) (va_up_self _ _ _), F2, fun _ _ => rfl, fun _ _ => rfl, rfl⟩)
    · rw [if_neg h3, if_neg h3, sAft_1]
      obtain ⟨⟨k2, t2, wr2, pl2, nm2, vz2, pq2, fx2⟩, hz⟩ : ∃ z, z = mCoord b n u PT sl lo y wr pl (nmP b n y lo m) vz pq fx := ⟨_, rfl⟩
      rw [← hz]
      rcases cos_rel (PN := PN) hu hV 1 f (dp + 1 + 1) y wr pl (pn + 1 + 1) vn (nmP b n y lo m) vz (va_up cl (dp + 1) 1) (va_up cd (dp + 1) 9) (va_up (va_up pf pn K) (pn + 1) 1) pq fv fx k2 t2 wr2 pl2 nm2 vz2 pq2 fx2 (by omega) (va_up_self _ _ _) (va_up_self _ _ _) hR F2 (by rw [mCos_one hy (by omega)]; exact hz.symm) with ⟨c1, c2⟩ | ⟨c1, c2, c3, f3, vn3, cl3, fv3, c4, c5, c6, c7, c8⟩
      · subst c1
        exact Or.inl ⟨rfl, c2⟩
      · subst c1
        rw [c8, popZ_0 (show cl3 (dp + 1) = 0 from c6)]
        refine Or.inr (Or.inl ⟨rfl, rfl, c2, c3, rfl, rfl, f3, pn + 1 + 1, vn3, cl3, _, _, fv3, c4, Rq_two hQ (fun j q1 q2 => ?_) ?_ ?_, c5, fun i hi => ?_, fun i hi => ?_, rfl⟩)
        · show va_up _ _ _ j = _
          rw [va_up_ne _ _ q2, va_up_ne _ _ q2, va_up_ne _ _ q1]
        · show va_up _ _ _ (4096 * sl + pd sl) = _
          rw [va_up_ne _ _ (by omega), va_up_ne _ _ (by omega), va_up_self]
        · exact va_up_self _ _ _
        · rw [c7 i (by omega)]; exact va_up_ne _ _ (by omega)
        · exact va_up_ne _ _ (by omega)
  rw [if_neg h2, if_neg h2]
  by_cases h3 : n < y + 4
  · rw [if_pos h3, if_pos h3]
    exact Or.inl ⟨rfl, sAft_0 _ _ _ _ _ _ _ _ _ _ _ _ _ _ _ _ _⟩
  rw [if_neg h3, if_neg h3, sAft_1]
  obtain ⟨c, hc⟩ : ∃ c, c = pN b y 4 lo := ⟨_, rfl⟩
  rw [← hc]
  by_cases h4 : K = 2
  · rw [if_pos h4]
    have e9 : iOf K = 9 := by rw [h4]; rfl
    rw [e9]
    obtain ⟨⟨k2, t2, wr2, pl2, nm2, vz2, pq2, fx2⟩, hz⟩ : ∃ z, z = mCos b n u PT sl lo c (y + 4, wr, pl, c, vz, pq, fx) := ⟨_, rfl⟩
    rw [← hz]
    rcases cos_rel (PN := PN) hu hV c f (dp + 1 + 1) (y + 4) wr pl (pn + 1 + 1) vn c vz (va_up cl (dp + 1) c) (va_up cd (dp + 1) 9) (va_up (va_up pf pn K) (pn + 1) c) pq fv fx k2 t2 wr2 pl2 nm2 vz2 pq2 fx2 (by omega) (va_up_self _ _ _) (va_up_self _ _ _) hR F2 hz.symm with ⟨c1, c2⟩ | ⟨c1, c2, c3, f3, vn3, cl3, fv3, c4, c5, c6, c7, c8⟩
    · subst c1
      exact Or.inl ⟨rfl, c2⟩
    · subst c1
      rw [c8, popZ_0 (show cl3 (dp + 1) = 0 from c6)]
      refine Or.inr (Or.inl ⟨rfl, rfl, c2, c3, rfl, rfl, f3, pn + 1 + 1, vn3, cl3, _, _, fv3, c4, Rq_two hQ (fun j q1 q2 => ?_) ?_ ?_, c5, fun i hi => ?_, fun i hi => ?_, rfl⟩)
      · show va_up _ _ _ j = _
        rw [va_up_ne _ _ q2, va_up_ne _ _ q2, va_up_ne _ _ q1]
      · show va_up _ _ _ (4096 * sl + pd sl) = _
        rw [va_up_ne _ _ (by omega), va_up_ne _ _ (by omega), va_up_self]
      · exact va_up_self _ _ _
      · rw [c7 i (by omega)]; exact va_up_ne _ _ (by omega)
      · exact va_up_ne _ _ (by omega)
  rw [if_neg h4]
  by_cases h5 : K = 3
  · rw [if_pos h5]
    have e8 : iOf K = 8 := by rw [h5]; rfl
    rw [e8]
    obtain ⟨⟨k2, t2, wr2, pl2, nm2, vz2, pq2, fx2, pd2, pm2⟩, hz⟩ : ∃ z, z = mRs b n u PT PN sl lo c (y + 4, wr, pl, c, vz, pq, fx, va_up pd sl (pd sl + 1 + 1), va_up (va_up pm (4096 * sl + pd sl) K) (4096 * sl + (pd sl + 1)) 0) := ⟨_, rfl⟩
    rw [← hz]
    have Q2 : Rp sl (pn + 1 + 1) (pn + 1) (va_up pd sl (pd sl + 1 + 1)) (va_up (va_up pf pn K) (pn + 1) c) (va_up (va_up pm (4096 * sl + pd sl) K) (4096 * sl + (pd sl + 1)) 0) := Rp_two hQ (fun j q1 q2 => by rw [va_up_ne _ _ q2, va_up_ne _ _ q1]) (by rw [va_up_ne _ _ (by omega), va_up_self]) (Or.inl rfl)
    rcases rs_rel (PN := PN) hu hV c f (dp + 1 + 1) (y + 4) wr pl (pn + 1 + 1) vn c (pn + 1) vz (va_up cl (dp + 1) c) (va_up cd (dp + 1) 8) (va_up (va_up pf pn K) (pn + 1) c) pq _ _ fv fx k2 t2 wr2 pl2 nm2 vz2 pq2 fx2 pd2 pm2 (by omega) (va_up_self _ _ _) (va_up_self _ _ _) hR Q2 (by omega) F2 hz.symm with ⟨c1, c2⟩ | ⟨c1, c2, c3, f1, pn1, vn1, cl1, cd1, pf1, fv1, d4, d5, d6, d7, d8, d9, e1, e2, e3⟩
    · subst c1
      exact Or.inl ⟨rfl, c2⟩
    · subst c1
      rw [e3, popZ_0 (show cl1 (dp + 1) = 0 from d9)]
      refine Or.inr (Or.inl ⟨rfl, rfl, c2, c3, rfl, rfl, f1, pn1, vn1, cl1, cd1, pf1, fv1, d4, ⟨d5.1, fun i hi => ?_⟩, d6, fun i hi => ?_, fun i hi => ?_, rfl⟩)
      · show pf1 i = va_up pm2 (4096 * sl + (pd sl + 1)) c (4096 * sl + i)
        by_cases e : i = pn + 1
        · subst e
          rw [← hp, va_up_self, d8 (pn + 1) (by omega), va_up_self]
        · rw [va_up_ne _ _ (by omega)]
          exact d5.2 i hi e
      · rw [e1 i (by omega)]; exact va_up_ne _ _ (by omega)
      · rw [e2 i (by omega)]; exact va_up_ne _ _ (by omega)
  rw [if_neg h5]
  have Q3 : Rq sl (pn + 1 + 1) (va_up pd sl (pd sl + 1 + 1)) (va_up (va_up pf pn K) (pn + 1) c) (va_up (va_up (va_up pm (4096 * sl + pd sl) K) (4096 * sl + (pd sl + 1)) 0) (4096 * sl + (pd sl + 1)) c) := Rq_two hQ (fun j q1 q2 => by rw [va_up_ne _ _ q2, va_up_ne _ _ q2, va_up_ne _ _ q1]) (by rw [va_up_ne _ _ (by omega), va_up_ne _ _ (by omega), va_up_self]) (va_up_self _ _ _)
  by_cases h6 : c = 0
  · rw [if_pos h6, popZ_0 (show va_up cl (dp + 1) c (dp + 1) = 0 by rw [va_up_self]; exact h6)]
    exact Or.inr (Or.inl ⟨rfl, rfl, rfl, rfl, rfl, rfl, f, pn + 1 + 1, vn, _, _, _, fv, hR, Q3, F2, fun i hi => va_up_ne _ _ (by omega), fun i hi => va_up_ne _ _ (by omega), rfl⟩)
  · rw [if_neg h6, popZ_n (by omega) (show ¬ va_up cl (dp + 1) c (dp + 1 + 1 - 1) = 0 from fun q => h6 (by rw [← q]; exact (va_up_self _ _ _).symm))]
    exact Or.inr (Or.inr ⟨rfl, rfl, rfl, rfl, K, c, f, pn + 1 + 1, vn, _, _, _, fv, by omega, h6, rfl, rfl, hR, Q3, F2, fun i hi => va_up_ne _ _ (by omega), fun i hi => va_up_ne _ _ (by omega), va_up_self _ _ _, va_up_self _ _ _, rfl⟩)
theorem sh_rel {b : Nat → Nat} {n u PT PN VN sl dp due t lo lo0 wr pl nm pn vn f : Nat} {vz : Int32} {pq : Nat → Nat} {fx : Nat → Int32} {pd pm ok ol cl cd pf : Nat → Nat} {fv : Nat → Int32} (hu : u ≤ 1000) (hV : VN = 2 * PT) (hR : Rv sl vn pq fv fx) (hQ : Rq sl pn pd pf pm) (hF : Fh PN VN pn vn (f + 1))
    (hdue : (mPar ok dp = 7 ∧ due = 0) ∨ (4 ≤ mPar ok dp ∧ mPar ok dp ≤ 6 ∧ due = mPar ok dp - 3)) (hdeep : mPar ok dp = 7 → (nCol ok dp = 50 ↔ 50 ≤ dp)) :
    shO b n u PN VN sl dp (b t) wr pl cl cd ok ol (sAft b n u PN VN f (sShape b n PN due (dp + 1) t lo0 wr pl pn vn cl cd pf fv)) (mShape b n u PT PN sl dp t lo wr pl nm vz pq fx pd pm ok ol) := by
  unfold mShape sShape
  by_cases h1 : n ≤ t
  · rw [if_pos h1, if_pos (show n < t + 1 by omega)]
    exact Or.inl ⟨rfl, sAft_0 _ _ _ _ _ _ _ _ _ _ _ _ _ _ _ _ _⟩
  rw [if_neg h1, if_neg (show ¬ n < t + 1 by omega)]
  by_cases h2 : 1 < b t
  · rw [if_pos h2, if_pos h2]
    exact Or.inl ⟨rfl, sAft_0 _ _ _ _ _ _ _ _ _ _ _ _ _ _ _ _ _⟩
  rw [if_neg h2, if_neg h2]
  by_cases h3 : n < t + 1 + 4
  · rw [if_pos h3, if_pos h3]
    exact Or.inl ⟨rfl, sAft_0 _ _ _ _ _ _ _ _ _ _ _ _ _ _ _ _ _⟩
  rw [if_neg h3, if_neg h3]
  generalize pN b (t + 1) 4 (b t) = T
  unfold mSh2 sType
  have hK := kOf_le T
  have hM := tMark_le T
  by_cases h4 : kOf T = 0 ∨ (mPar ok dp < 7 ∧ ¬ kOf T = mPar ok dp - 3)
  · rw [if_pos h4, if_pos (show kOf T = 0 ∨ (¬ due = 0 ∧ ¬ due = kOf T) by omega)]
    exact Or.inl ⟨rfl, sAft_0 _ _ _ _ _ _ _ _ _ _ _ _ _ _ _ _ _⟩
  rw [if_neg h4, if_neg (show ¬ (kOf T = 0 ∨ (¬ due = 0 ∧ ¬ due = kOf T)) by omega)]
  by_cases h5 : tMore T = 1
  · rw [if_pos h5, if_pos h5]
    exact Or.inl ⟨rfl, sAft_0 _ _ _ _ _ _ _ _ _ _ _ _ _ _ _ _ _⟩
  rw [if_neg h5, if_neg h5]
  have d7 : kOf T = 7 → (nCol ok dp = 50 ↔ 50 ≤ dp) := fun q => hdeep (by omega)
  by_cases h6 : kOf T = 7 ∧ nCol ok dp = 50
  · rw [if_pos h6, if_pos (show kOf T = 7 ∧ 50 ≤ dp + 1 - 1 from ⟨h6.1, (d7 h6.1).mp h6.2⟩)]
    exact Or.inl ⟨rfl, sAft_0 _ _ _ _ _ _ _ _ _ _ _ _ _ _ _ _ _⟩
  rw [if_neg h6, if_neg (show ¬ (kOf T = 7 ∧ 50 ≤ dp + 1 - 1) from fun q => h6 ⟨q.1, (d7 q.1).mpr q.2⟩)]
  by_cases h7 : tMark T = 1
  · rw [if_pos h7]
    by_cases h8 : n < t + 1 + 4 + 4
    · rw [if_pos h8, if_pos ⟨h7, h8⟩]
      exact Or.inl ⟨rfl, sAft_0 _ _ _ _ _ _ _ _ _ _ _ _ _ _ _ _ _⟩
    rw [if_neg h8, if_neg (fun q => h8 q.2), h7]
    exact tail_rel hu hV (by omega) hK (show t + 1 + 4 + 4 ≤ n by omega) hR hQ hF
  · have e0 : tMark T = 0 := by omega
    rw [if_neg h7, if_neg (fun q => h7 q.1), e0]
    exact tail_rel hu hV (by omega) hK (show t + 1 + 4 ≤ n by omega) hR hQ hF
/-! what waits, seen by both -/
def HR (dp : Nat) (cl ol : Nat → Nat) : Prop := cl 0 = (if dp = 0 then 1 else 0) ∧ ∀ i, i < dp → cl (i + 1) = if i + 1 = dp then ol i else ol i - 1
def IR (dp : Nat) (cl ol : Nat → Nat) : Prop := cl 0 = 0 ∧ ∀ i, i < dp → cl (i + 1) = ol i - 1
def HD (dp : Nat) (cd ok : Nat → Nat) : Prop := cd 0 = 0 ∧ ∀ i, i < dp → cd (i + 1) = iOf (ok i)
theorem HR_dec {dp : Nat} {cl ol : Nat → Nat} (h : HR dp cl ol) : IR dp (va_up cl dp (cl dp - 1)) ol := by
  obtain ⟨h1, h2⟩ := h
  refine ⟨?_, fun i hi => ?_⟩
  · by_cases e : dp = 0
    · subst e
      rw [if_pos rfl] at h1
      rw [va_up_self, h1]
    · rw [va_up_ne _ _ (by omega), h1, if_neg e]
  · have h3 := h2 i hi
    by_cases e : i + 1 = dp
    · subst e
      rw [if_pos rfl] at h3
      rw [va_up_self, h3]
    · rw [if_neg e] at h3
      rw [va_up_ne _ _ e]; exact h3
theorem HR_top {dp : Nat} {cl ol : Nat → Nat} (h : HR dp cl ol) (h1 : ∀ j, j < dp → 1 ≤ ol j) : ¬ cl dp = 0 := by
  match dp, h, h1 with
  | 0, h, _ => rw [h.1]; decide
  | d + 1, h, h1 =>
    have a := h.2 d (by omega)
    rw [if_pos rfl] at a
    have c := h1 d (by omega)
    omega
theorem pop_rel {cl : Nat → Nat} : ∀ (dp : Nat) (ol : Nat → Nat), IR dp cl ol → (∀ j, j < dp → 1 ≤ ol j) →
    ((mPop dp ol).1 = 1 ∧ popZ cl (dp + 1) = 0) ∨ ((mPop dp ol).1 = 0 ∧ popZ cl (dp + 1) = (mPop dp ol).2.1 + 1 ∧ HR (mPop dp ol).2.1 cl (mPop dp ol).2.2 ∧ (mPop dp ol).2.1 ≤ dp)
  | 0, ol, h, _ => Or.inl ⟨rfl, by rw [popZ_0 h.1]; rfl⟩
  | d + 1, ol, h, h1 => by
    have a := h.2 d (by omega)
    rw [mPop_s]
    by_cases e : ol d - 1 = 0
    · rw [if_pos e, popZ_0 (show cl (d + 1) = 0 by omega)]
      have h2 : IR d cl (va_up ol d (ol d - 1)) := ⟨h.1, fun i hi => by rw [va_up_ne _ _ (by omega)]; exact h.2 i (by omega)⟩
      rcases pop_rel d (va_up ol d (ol d - 1)) h2 (fun j hj => by rw [va_up_ne _ _ (by omega)]; exact h1 j (by omega)) with ⟨c1, c2⟩ | ⟨c1, c2, c3, c4⟩
      · exact Or.inl ⟨c1, c2⟩
      · exact Or.inr ⟨c1, c2, c3, by omega⟩
    · rw [if_neg e, popZ_n (by omega) (show ¬ cl (d + 1 + 1 - 1) = 0 from fun q => e (by rw [← a]; exact q))]
      refine Or.inr ⟨rfl, rfl, ⟨?_, fun i hi => ?_⟩, Nat.le_refl _⟩
      · show cl 0 = if d + 1 = 0 then 1 else 0
        rw [if_neg (by omega)]; exact h.1
      · show cl (i + 1) = if i + 1 = d + 1 then va_up ol d (ol d - 1) i else va_up ol d (ol d - 1) i - 1
        have hi : i < d + 1 := hi
        by_cases q : i = d
        · subst q
          rw [if_pos rfl, va_up_self]; exact a
        · rw [if_neg (by omega), va_up_ne _ _ q]; exact h.2 i hi
theorem oE_end {n wr pl : Nat} {Z : Nat × rdS} (h : oE Z wr pl) : oE (sEnd n Z) wr pl := by
  obtain ⟨k, w, t, lo, wr2, pl2, pn, vn, cl, cd, pf, fv⟩ := Z
  obtain ⟨h1, h2, h3⟩ := h
  have h1 : k = 0 := h1
  subst h1
  exact ⟨rfl, h2, h3⟩
theorem due_rel {dp : Nat} {cd ok ol : Nat → Nat} (h : HD dp cd ok) (hj : jI dp ok ol) : (mPar ok dp = 7 ∧ cd dp = 0) ∨ (4 ≤ mPar ok dp ∧ mPar ok dp ≤ 6 ∧ cd dp = mPar ok dp - 3) := by
  unfold mPar
  match dp, h, hj with
  | 0, h, _ => exact Or.inl ⟨if_pos rfl, h.1⟩
  | d + 1, h, hj =>
    have a := h.2 d (by omega)
    have c := hj.1 d (by omega)
    rw [if_neg (by omega), show d + 1 - 1 = d from rfl, a]
    rcases (by omega : ok d = 4 ∨ ok d = 5 ∨ ok d = 6 ∨ ok d = 7) with e | e | e | e <;> rw [e]
    · exact Or.inr ⟨by decide, by decide, rfl⟩
    · exact Or.inr ⟨by decide, by decide, rfl⟩
    · exact Or.inr ⟨by decide, by decide, rfl⟩
    · exact Or.inl ⟨rfl, rfl⟩
theorem deep_rel {dp : Nat} {ok ol : Nat → Nat} (hj : jI dp ok ol) (hp : mPar ok dp = 7) : nCol ok dp = 50 ↔ 50 ≤ dp := by
  have e : nCol ok dp = dp := by
    refine nCol_all dp (fun j q => ?_)
    by_cases z : j + 1 < dp
    · exact hj.2.1 j z
    · unfold mPar at hp
      rw [if_neg (by omega), show dp - 1 = j by omega] at hp
      exact hp
  have h3 := hj.2.2.1
  rw [e] at h3 ⊢
  omega
theorem sEnd_1 {n w t lo wr pl pn vn : Nat} {cl cd pf : Nat → Nat} {fv : Nat → Int32} (h : ¬ t < n) : sEnd n (1, (w, t, lo, wr, pl, pn, vn, cl, cd, pf, fv)) = (1, (w, t, lo, wr, pl, pn, vn, cl, cd, pf, fv)) := by
  show (if (1 : Nat) = 1 then (if t < n then (0, (w, t, lo, 8, t, 0, 0, cl, cd, pf, fv)) else (1, (w, t, lo, wr, pl, pn, vn, cl, cd, pf, fv))) else (0, (w, t, lo, wr, pl, 0, 0, cl, cd, pf, fv)) : Nat × rdS) = _
  rw [if_pos rfl, if_neg h]
theorem sEnd_8 {n w t lo wr pl pn vn : Nat} {cl cd pf : Nat → Nat} {fv : Nat → Int32} (h : t < n) : oE (sEnd n (1, (w, t, lo, wr, pl, pn, vn, cl, cd, pf, fv))) 8 t := by
  show oE (if (1 : Nat) = 1 then (if t < n then (0, (w, t, lo, 8, t, 0, 0, cl, cd, pf, fv)) else (1, (w, t, lo, wr, pl, pn, vn, cl, cd, pf, fv))) else (0, (w, t, lo, wr, pl, 0, 0, cl, cd, pf, fv)) : Nat × rdS) 8 t
  rw [if_pos rfl, if_pos h]
  exact ⟨rfl, rfl, rfl⟩
set_option maxRecDepth 100000 in
theorem all_rel {b : Nat → Nat} {n u PT PN VN sl : Nat} (hb : ∀ j, b j < 256) (hu : u ≤ 1000) (hV : VN = 2 * PT) : ∀ (g dp t lo lo0 wr pl nm pn vn f : Nat) (vz : Int32) (pq : Nat → Nat) (fx : Nat → Int32) (pd pm ok ol cl cd pf : Nat → Nat) (fv : Nat → Int32) (k1 t1 lo1 wr1 pl1 nm1 : Nat) (vz1 : Int32) (pq1 : Nat → Nat) (fx1 : Nat → Int32) (pd1 pm1 ok1 ol1 : Nat → Nat),
    n - t < g → t ≤ n → lo < 2 → jI dp ok ol → HR dp cl ol → HD dp cd ok → Rv sl vn pq fv fx → Rq sl pn pd pf pm → Fh PN VN pn vn f →
    mAll b n u PT PN sl g dp (t, lo, wr, pl, nm, vz, pq, fx, pd, pm, ok, ol) = (k1, t1, lo1, wr1, pl1, nm1, vz1, pq1, fx1, pd1, pm1, ok1, ol1) →
    (k1 = 0 ∧ oE (sEnd n (sLoop b n u PN VN f (dp + 1, t, lo0, wr, pl, pn, vn, cl, cd, pf, fv))) wr1 pl1) ∨
    (k1 = 1 ∧ wr1 = wr ∧ pl1 = pl ∧ ∃ w2 t2 lo2 pn1 vn1 cl1 cd1 pf1 fv1, Rv sl vn1 pq1 fv1 fx1 ∧ Rq sl pn1 pd1 pf1 pm1 ∧ sEnd n (sLoop b n u PN VN f (dp + 1, t, lo0, wr, pl, pn, vn, cl, cd, pf, fv)) = (1, (w2, t2, lo2, wr, pl, pn1, vn1, cl1, cd1, pf1, fv1))) := by
  intro g
  induction g with
  | zero =>
    intro dp t lo lo0 wr pl nm pn vn f vz pq fx pd pm ok ol cl cd pf fv k1 t1 lo1 wr1 pl1 nm1 vz1 pq1 fx1 pd1 pm1 ok1 ol1 hg ht hlo hj hH hD hR hQ hF hm
    exact absurd hg (Nat.not_lt_zero _)
  | succ g ih =>
    intro dp t lo lo0 wr pl nm pn vn f vz pq fx pd pm ok ol cl cd pf fv k1 t1 lo1 wr1 pl1 nm1 vz1 pq1 fx1 pd1 pm1 ok1 ol1 hg ht hlo hj hH hD hR hQ hF hm
    obtain ⟨f', rfl⟩ : ∃ f', f = f' + 1 := ⟨f - 1, by have := hF.2.2.2; omega⟩
    have hdue := due_rel hD hj
    have n9 : ¬ cd dp = 9 := by omega
    have n8 : ¬ cd dp = 8 := by omega
    obtain ⟨cl', hcl'⟩ : ∃ z, z = va_up cl dp (cl dp - 1) := ⟨_, rfl⟩
    have hI : IR dp cl' ol := by rw [hcl']; exact HR_dec hH
    have hs : sLoop b n u PN VN (f' + 1) (dp + 1, t, lo0, wr, pl, pn, vn, cl, cd, pf, fv) = sAft b n u PN VN f' (sShape b n PN (cd dp) (dp + 1) t lo0 wr pl pn vn cl' cd pf fv) := by
      rw [sLoop_succ, if_neg (show ¬ (dp + 1, t, lo0, wr, pl, pn, vn, cl, cd, pf, fv).1 = 0 from Nat.succ_ne_zero dp)]
      have e : sIt b n u PN VN (dp + 1, t, lo0, wr, pl, pn, vn, cl, cd, pf, fv) = sShape b n PN (cd dp) (dp + 1) t lo0 wr pl pn vn cl' cd pf fv := by
        show sItem b n u PN VN (dp + 1) t lo0 wr pl pn vn cl cd pf fv = _
        unfold sItem
        rw [if_neg (show ¬ cd (dp + 1 - 1) = 9 from n9), if_neg (show ¬ cd (dp + 1 - 1) = 8 from n8), hcl']
        rfl
      rw [e]
      rfl
    rw [hs]
    have hrel := sh_rel (b := b) (n := n) (lo := lo) (lo0 := lo0) (t := t) (wr := wr) (pl := pl) (nm := nm) (vz := vz) (cl := cl') (cd := cd) (ol := ol) hu hV hR hQ hF hdue (deep_rel hj)
    have hq : pq sl ≤ PT := by have a := hR.1; have c := hF.2.1; omega
    have hd : pd sl ≤ PN := by have a := hQ.1; have c := hF.1; omega
    have hbd := mShape_bd (b := b) u wr pl nm vz fx pm ol hb ht hlo hq hd hj.1
    obtain ⟨⟨kc, tc, loc, wrc, plc, nmc, vzc, pqc, fxc, pdc, pmc, okc, olc⟩, hz⟩ : ∃ z, z = mShape b n u PT PN sl dp t lo wr pl nm vz pq fx pd pm ok ol := ⟨_, rfl⟩
    have hx := mAll_x hm (show n - t < g + 1 from hg) hz
    rw [← hz] at hrel hbd
    obtain ⟨b1, b2, b3, b4, b5, b6, b7, b8⟩ := hbd
    obtain ⟨x1, x2, x3, x4⟩ := hx
    rcases hrel with ⟨c1, c2⟩ | ⟨c1, c2, c3, c4, c5, c6, f1, pn1, vn1, cl1, cd1, pf1, fv1, d1, d2, d3, d4, d5, d6⟩ | ⟨c1, c2, c3, c4, K, c, f1, pn1, vn1, cl1, cd1, pf1, fv1, d1, d2, d3, d4, d5, d6, d7, d8, d9, e1, e2, e3⟩
    · have h := x1 c1
      cases h
      exact Or.inl ⟨rfl, oE_end c2⟩
    · subst c3
      subst c4
      subst c5
      subst c6
      have b9 := b2 (by rw [c1]; decide)
      rw [d6]
      have hI1 : IR dp cl1 olc := ⟨by rw [d4 0 (by omega)]; exact hI.1, fun i hi => by rw [d4 (i + 1) (by omega)]; exact hI.2 i hi⟩
      rcases pop_rel dp olc hI1 hj.2.2.2.1 with ⟨p1, p2⟩ | ⟨p1, p2, p3, p4⟩
      · rw [p2]
        have h := x4 c1 (by rw [p1]; decide)
        have w0 : sLoop b n u PN VN f1 (0, tc, b t, wrc, plc, pn1, vn1, cl1, cd1, pf1, fv1) = (1, (0, tc, b t, wrc, plc, pn1, vn1, cl1, cd1, pf1, fv1)) := sLoop_w0 rfl
        rw [w0]
        clear b2 b7 b8 x1 x2 x3 x4
        by_cases q : tc = n
        · rw [mEnd_1 q] at h
          cases h
          exact Or.inr ⟨rfl, rfl, rfl, _, _, _, _, _, _, _, _, _, d1, d2, sEnd_1 (by omega)⟩
        · rw [mEnd_0 q] at h
          cases h
          exact Or.inl ⟨rfl, sEnd_8 (by omega)⟩
      · rw [p2]
        have h := x3 c1 p1
        clear b7 b8 x1 x2 x3 x4
        have hj2 := (mPop_bd dp olc hj).2
        exact ih _ _ _ _ _ _ _ _ _ _ _ _ _ _ _ _ _ _ _ _ _ _ _ _ _ _ _ _ _ _ _ _ _ _ (by omega) b3 b4 hj2 p3 ⟨by rw [d5 0 (by omega)]; exact hD.1, fun i hi => by rw [d5 (i + 1) (by omega)]; exact hD.2 i (by omega)⟩ d1 d2 (Fu_h d3) h
    · subst c3
      subst c4
      have b9 := b2 (by rw [c1]; decide)
      obtain ⟨s1, K2, c9, s2, s3, s4, s5, s6, s7, s8⟩ := b8 c1
      have eK : K2 = K := by
        have := congrFun (s5.symm.trans d3) dp
        rw [va_up_self, va_up_self] at this
        exact this
      have eC : c9 = c := by
        have := congrFun (s6.symm.trans d4) dp
        rw [va_up_self, va_up_self] at this
        exact this
      subst eK
      subst eC
      have hjn : jI (dp + 1) okc olc := by rw [s5, s6]; exact jI_push hj s1 s2 s3 s4 s7 s8
      rw [e3]
      have h := x2 c1
      clear b2 b7 b8 x1 x2 x3 x4
      refine ih _ _ _ _ _ _ _ _ _ _ _ _ _ _ _ _ _ _ _ _ _ _ _ _ _ _ _ _ _ _ _ _ _ _ (by omega) b3 b4 hjn ⟨?_, fun i hi => ?_⟩ ⟨?_, fun i hi => ?_⟩ d5 d6 (Fu_h d7) h
      · rw [if_neg (by omega), d8 0 (by omega)]; exact hI.1
      · by_cases q : i = dp
        · subst q
          rw [if_pos rfl, e1, d4, va_up_self]
        · rw [if_neg (by omega), d8 (i + 1) (by omega), d4, va_up_ne _ _ q]
          exact hI.2 i (by omega)
      · rw [d9 0 (by omega)]; exact hD.1
      · by_cases q : i = dp
        · subst q
          rw [e2, d3, va_up_self]
        · rw [d9 (i + 1) (by omega), d3, va_up_ne _ _ q]
          exact hD.2 i (by omega)
/-- the class's read and the reference's -/
theorem rd_rel {b : Nat → Nat} {n u PT PN VN sl lo lo' nm : Nat} {vz : Int32} {pq : Nat → Nat} {fx : Nat → Int32} {pd pm ok ol cl cd pf : Nat → Nat} {fv : Nat → Int32} {k1 t1 lo1 wr1 pl1 nm1 : Nat} {vz1 : Int32} {pq1 : Nat → Nat} {fx1 : Nat → Int32} {pd1 pm1 ok1 ol1 : Nat → Nat} {k2 w2 t2 lo2 wr2 pl2 pn2 vn2 : Nat} {cl2 cd2 pf2 : Nat → Nat} {fv2 : Nat → Int32}
    (hb : ∀ j, b j < 256) (hu : u ≤ 1000) (hV : VN = 2 * PT) (hPN : PN ≤ 4096) (hPT : PT ≤ 4096) (hlo : lo' < 2) (hok : ∀ j, ok j < 2 ^ 31) (hol : ∀ j, ol j < 2 ^ 32)
    (hm : mAll b n u PT PN sl (n + 1) 0 (0, lo', 0, 0, nm, vz, va_up pq sl 0, fx, va_up pd sl 0, pm, ok, ol) = (k1, t1, lo1, wr1, pl1, nm1, vz1, pq1, fx1, pd1, pm1, ok1, ol1))
    (hs : sAll b n u PN VN lo cl cd pf fv = (k2, (w2, t2, lo2, wr2, pl2, pn2, vn2, cl2, cd2, pf2, fv2))) :
    k1 = k2 ∧ wr1 = wr2 ∧ pl1 = pl2 ∧ (k1 = 1 → Rv sl vn2 pq1 fv2 fx1 ∧ Rq sl pn2 pd1 pf2 pm1) := by
  unfold sAll at hs
  have h := all_rel (PN := PN) hb hu hV (n + 1) 0 0 lo' lo 0 0 nm 0 0 8192 vz (va_up pq sl 0) fx (va_up pd sl 0) pm ok ol (va_up cl 0 1) (va_up cd 0 0) pf fv k1 t1 lo1 wr1 pl1 nm1 vz1 pq1 fx1 pd1 pm1 ok1 ol1 (by omega) (Nat.zero_le _) hlo (jI_0 hol hok) ⟨by rw [va_up_self, if_pos rfl], fun i hi => absurd hi (Nat.not_lt_zero _)⟩ ⟨va_up_self _ _ _, fun i hi => absurd hi (Nat.not_lt_zero _)⟩ ⟨by rw [va_up_self], fun i hi => absurd hi (Nat.not_lt_zero _)⟩ ⟨by rw [va_up_self], fun i hi => absurd hi (Nat.not_lt_zero _)⟩ ⟨Nat.zero_le _, Nat.zero_le _, by omega, by omega⟩ hm
  rw [show (0 : Nat) + 1 = 1 from rfl, hs] at h
  rcases h with ⟨c1, c2, c3, c4⟩ | ⟨c1, c2, c3, w3, t3, lo3, pn3, vn3, cl3, cd3, pf3, fv3, c4, c5, c6⟩
  · have c2 : k2 = 0 := c2
    exact ⟨by rw [c1, c2], c3.symm, c4.symm, fun q => absurd (c1.symm.trans q) (by decide)⟩
  · cases c6
    exact ⟨c1, c2, c3, fun _ => ⟨c4, c5⟩⟩
