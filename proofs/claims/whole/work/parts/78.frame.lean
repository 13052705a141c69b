/-! what the reference's reading leaves alone -/
def kq (sl : Nat) (f g : Nat → Nat) : Prop := ∀ s, s ≠ sl → g s = f s
def kx (sl : Nat) (f g : Nat → Int32) : Prop := ∀ j, (j < 8192 * sl ∨ 8192 * sl + 8192 ≤ j) → g j = f j
def km (sl : Nat) (f g : Nat → Nat) : Prop := ∀ j, (j < 4096 * sl ∨ 4096 * sl + 4096 ≤ j) → g j = f j
theorem kq_r {sl : Nat} {f : Nat → Nat} : kq sl f f := fun _ _ => rfl
theorem kx_r {sl : Nat} {f : Nat → Int32} : kx sl f f := fun _ _ => rfl
theorem km_r {sl : Nat} {f : Nat → Nat} : km sl f f := fun _ _ => rfl
theorem kq_t {sl : Nat} {f g h : Nat → Nat} (a : kq sl f g) (c : kq sl g h) : kq sl f h := fun s q => (c s q).trans (a s q)
theorem kx_t {sl : Nat} {f g h : Nat → Int32} (a : kx sl f g) (c : kx sl g h) : kx sl f h := fun s q => (c s q).trans (a s q)
theorem km_t {sl : Nat} {f g h : Nat → Nat} (a : km sl f g) (c : km sl g h) : km sl f h := fun s q => (c s q).trans (a s q)
theorem kq_u {sl x : Nat} {f g : Nat → Nat} (a : kq sl f g) : kq sl f (va_up g sl x) := fun s q => by rw [va_up_ne _ _ q]; exact a s q
theorem km_u {sl i x : Nat} {f g : Nat → Nat} (a : km sl f g) (h : i < 4096) : km sl f (va_up g (4096 * sl + i) x) := fun s q => by rw [va_up_ne _ _ (by omega)]; exact a s q
theorem mCo2_fr {b : Nat → Nat} {n u sl lo t wr pl nm : Nat} {vz : Int32} {pq : Nat → Nat} {fx : Nat → Int32} {k1 t1 wr1 pl1 nm1 : Nat} {vz1 : Int32} {pq1 : Nat → Nat} {fx1 : Nat → Int32} (hs : mCo2 b n u sl lo t wr pl nm vz pq fx = (k1, t1, wr1, pl1, nm1, vz1, pq1, fx1)) (hq : pq sl < 4096) : kq sl pq pq1 ∧ kx sl fx fx1 := by
  unfold mCo2 at hs
  obtain ⟨⟨k2, t2, wr2, pl2, nm2, vz2⟩, hz⟩ : ∃ z, z = mVal b n u lo t wr pl nm vz := ⟨_, rfl⟩
  rw [← hz] at hs
  match k2, hs with
  | 0, hs => cases hs; exact ⟨kq_r, kx_r⟩
  | _ + 1, hs => cases hs; exact ⟨kq_u kq_r, fun j q => by rw [pk_un (by omega), pk_un (by omega)]⟩
theorem mCoord_fr {b : Nat → Nat} {n u PT sl lo t wr pl nm : Nat} {vz : Int32} {pq : Nat → Nat} {fx : Nat → Int32} {k1 t1 wr1 pl1 nm1 : Nat} {vz1 : Int32} {pq1 : Nat → Nat} {fx1 : Nat → Int32} (hs : mCoord b n u PT sl lo t wr pl nm vz pq fx = (k1, t1, wr1, pl1, nm1, vz1, pq1, fx1)) (hP : PT ≤ 4096) : kq sl pq pq1 ∧ kx sl fx fx1 := by
  unfold mCoord at hs
  split at hs
  · cases hs; exact ⟨kq_r, kx_r⟩
  · obtain ⟨⟨k2, t2, wr2, pl2, nm2, vz2⟩, hz⟩ : ∃ z, z = mVal b n u lo t wr pl nm vz := ⟨_, rfl⟩
    rw [← hz] at hs
    match k2, hs with
    | 0, hs => cases hs; exact ⟨kq_r, kx_r⟩
    | _ + 1, hs => exact mCo2_fr hs (by omega)
theorem mCos_fr {b : Nat → Nat} {n u PT sl lo : Nat} (hP : PT ≤ 4096) : ∀ (c t wr pl nm : Nat) (vz : Int32) (pq : Nat → Nat) (fx : Nat → Int32) (k1 t1 wr1 pl1 nm1 : Nat) (vz1 : Int32) (pq1 : Nat → Nat) (fx1 : Nat → Int32), mCos b n u PT sl lo c (t, wr, pl, nm, vz, pq, fx) = (k1, t1, wr1, pl1, nm1, vz1, pq1, fx1) → kq sl pq pq1 ∧ kx sl fx fx1 := by
  intro c
  induction c with
  | zero =>
    intro t wr pl nm vz pq fx k1 t1 wr1 pl1 nm1 vz1 pq1 fx1 hs
    have hs : (1, t, wr, pl, nm, vz, pq, fx) = (k1, t1, wr1, pl1, nm1, vz1, pq1, fx1) := hs
    cases hs
    exact ⟨kq_r, kx_r⟩
  | succ c ih =>
    intro t wr pl nm vz pq fx k1 t1 wr1 pl1 nm1 vz1 pq1 fx1 hs
    change (if (mCoord b n u PT sl lo t wr pl nm vz pq fx).1 = 0 then mCoord b n u PT sl lo t wr pl nm vz pq fx else mCos b n u PT sl lo c (mCoord b n u PT sl lo t wr pl nm vz pq fx).2) = _ at hs
    obtain ⟨⟨k2, t2, wr2, pl2, nm2, vz2, pq2, fx2⟩, hz⟩ : ∃ z, z = mCoord b n u PT sl lo t wr pl nm vz pq fx := ⟨_, rfl⟩
    have a := mCoord_fr hz.symm hP
    rw [← hz] at hs
    by_cases q : k2 = 0
    · rw [if_pos (show (k2, t2, wr2, pl2, nm2, vz2, pq2, fx2).1 = 0 from q)] at hs
      cases hs
      exact a
    · rw [if_neg (show ¬ (k2, t2, wr2, pl2, nm2, vz2, pq2, fx2).1 = 0 from q)] at hs
      have c2 := ih t2 wr2 pl2 nm2 vz2 pq2 fx2 k1 t1 wr1 pl1 nm1 vz1 pq1 fx1 hs
      exact ⟨kq_t a.1 c2.1, kx_t a.2 c2.2⟩
def fR (sl : Nat) (pq : Nat → Nat) (fx : Nat → Int32) (pd pm : Nat → Nat) : Nat × mrS → Prop
  | (_, _, _, _, _, _, pq1, fx1, pd1, pm1) => kq sl pq pq1 ∧ kx sl fx fx1 ∧ kq sl pd pd1 ∧ km sl pm pm1
theorem fR_i {sl k t wr pl nm : Nat} {vz : Int32} {pq pq1 : Nat → Nat} {fx fx1 : Nat → Int32} {pd pm pd1 pm1 : Nat → Nat} (h : kq sl pq pq1 ∧ kx sl fx fx1 ∧ kq sl pd pd1 ∧ km sl pm pm1) : fR sl pq fx pd pm (k, t, wr, pl, nm, vz, pq1, fx1, pd1, pm1) := h
theorem mRing_fr {b : Nat → Nat} {n u PT PN sl lo t wr pl nm : Nat} {vz : Int32} {pq : Nat → Nat} {fx : Nat → Int32} {pd pm : Nat → Nat} (hP : PT ≤ 4096) (hN : PN ≤ 4096) : fR sl pq fx pd pm (mRing b n u PT PN sl lo (t, wr, pl, nm, vz, pq, fx, pd, pm)) := by
  rw [mRing_eq]
  by_cases h1 : PN < pd sl + 1
  · rw [if_pos h1]; exact fR_i ⟨kq_r, kx_r, kq_r, km_r⟩
  rw [if_neg h1]
  by_cases h2 : n < t + 4
  · rw [if_pos h2]; exact fR_i ⟨kq_r, kx_r, kq_r, km_r⟩
  rw [if_neg h2]
  by_cases h3 : pN b t 4 lo = 0
  · rw [if_pos h3]; exact fR_i ⟨kq_r, kx_r, kq_r, km_r⟩
  rw [if_neg h3]
  obtain ⟨⟨k2, t2, wr2, pl2, nm2, vz2, pq2, fx2⟩, hz⟩ : ∃ z, z = mCos b n u PT sl lo (pN b t 4 lo) (t + 4, wr, pl, pN b t 4 lo, vz, pq, fx) := ⟨_, rfl⟩
  obtain ⟨a1, a2⟩ := mCos_fr hP _ _ _ _ _ _ _ _ _ _ _ _ _ _ _ _ hz.symm
  rw [← hz]
  refine fR_i ⟨a1, a2, kq_u kq_r, ?_⟩
  split
  · exact km_u km_r (by omega)
  · exact km_u (km_u km_r (by omega)) (by omega)
theorem mRs_fr {b : Nat → Nat} {n u PT PN sl lo : Nat} (hP : PT ≤ 4096) (hN : PN ≤ 4096) : ∀ (c t wr pl nm : Nat) (vz : Int32) (pq : Nat → Nat) (fx : Nat → Int32) (pd pm : Nat → Nat), fR sl pq fx pd pm (mRs b n u PT PN sl lo c (t, wr, pl, nm, vz, pq, fx, pd, pm)) := by
  intro c
  induction c with
  | zero => intro t wr pl nm vz pq fx pd pm; exact fR_i ⟨kq_r, kx_r, kq_r, km_r⟩
  | succ c ih =>
    intro t wr pl nm vz pq fx pd pm
    change fR sl pq fx pd pm (if (mRing b n u PT PN sl lo (t, wr, pl, nm, vz, pq, fx, pd, pm)).1 = 0 then mRing b n u PT PN sl lo (t, wr, pl, nm, vz, pq, fx, pd, pm) else mRs b n u PT PN sl lo c (mRing b n u PT PN sl lo (t, wr, pl, nm, vz, pq, fx, pd, pm)).2)
    have h := mRing_fr (b := b) (n := n) (u := u) (sl := sl) (lo := lo) (t := t) (wr := wr) (pl := pl) (nm := nm) (vz := vz) (pq := pq) (fx := fx) (pd := pd) (pm := pm) hP hN
    obtain ⟨⟨k2, t2, wr2, pl2, nm2, vz2, pq2, fx2, pd2, pm2⟩, hz⟩ : ∃ z, z = mRing b n u PT PN sl lo (t, wr, pl, nm, vz, pq, fx, pd, pm) := ⟨_, rfl⟩
    rw [← hz] at h ⊢
    obtain ⟨a1, a2, a3, a4⟩ : kq sl pq pq2 ∧ kx sl fx fx2 ∧ kq sl pd pd2 ∧ km sl pm pm2 := h
    by_cases q : k2 = 0
    · rw [if_pos (show (k2, t2, wr2, pl2, nm2, vz2, pq2, fx2, pd2, pm2).1 = 0 from q)]
      exact fR_i ⟨a1, a2, a3, a4⟩
    · rw [if_neg (show ¬ (k2, t2, wr2, pl2, nm2, vz2, pq2, fx2, pd2, pm2).1 = 0 from q)]
      have h3 := ih t2 wr2 pl2 nm2 vz2 pq2 fx2 pd2 pm2
      obtain ⟨⟨k3, t3, wr3, pl3, nm3, vz3, pq3, fx3, pd3, pm3⟩, hy⟩ : ∃ z, z = mRs b n u PT PN sl lo c (t2, wr2, pl2, nm2, vz2, pq2, fx2, pd2, pm2) := ⟨_, rfl⟩
      show fR sl pq fx pd pm (mRs b n u PT PN sl lo c (t2, wr2, pl2, nm2, vz2, pq2, fx2, pd2, pm2))
      rw [← hy] at h3 ⊢
      obtain ⟨c1, c2, c3, c4⟩ : kq sl pq2 pq3 ∧ kx sl fx2 fx3 ∧ kq sl pd2 pd3 ∧ km sl pm2 pm3 := h3
      exact fR_i ⟨kq_t a1 c1, kx_t a2 c2, kq_t a3 c3, km_t a4 c4⟩
def fS (sl : Nat) (pq : Nat → Nat) (fx : Nat → Int32) (pd pm : Nat → Nat) : Nat × msS → Prop
  | (_, _, _, _, _, _, _, pq1, fx1, pd1, pm1, _, _) => kq sl pq pq1 ∧ kx sl fx fx1 ∧ kq sl pd pd1 ∧ km sl pm pm1
theorem fS_i {sl k t lo wr pl nm : Nat} {vz : Int32} {pq pq1 : Nat → Nat} {fx fx1 : Nat → Int32} {pd pm pd1 pm1 ok ol : Nat → Nat} (h : kq sl pq pq1 ∧ kx sl fx fx1 ∧ kq sl pd pd1 ∧ km sl pm pm1) : fS sl pq fx pd pm (k, t, lo, wr, pl, nm, vz, pq1, fx1, pd1, pm1, ok, ol) := h
theorem fS_r {sl k t lo wr pl nm : Nat} {vz : Int32} {pq : Nat → Nat} {fx : Nat → Int32} {pd pm ok ol : Nat → Nat} : fS sl pq fx pd pm (k, t, lo, wr, pl, nm, vz, pq, fx, pd, pm, ok, ol) := ⟨kq_r, kx_r, kq_r, km_r⟩
theorem mTail_fr {b : Nat → Nat} {n u PT PN sl dp K y lo wr pl m : Nat} {vz : Int32} {pq : Nat → Nat} {fx : Nat → Int32} {pd pm ok ol : Nat → Nat} (hP : PT ≤ 4096) (hN : PN ≤ 4096) : fS sl pq fx pd pm (mTail b n u PT PN sl dp K y lo wr pl m vz pq fx pd pm ok ol) := by
  unfold mTail
  by_cases h1 : PN < pd sl + 2
  · rw [if_pos h1]; exact fS_r
  rw [if_neg h1]
  have m2 : km sl pm (va_up (va_up pm (4096 * sl + pd sl) K) (4096 * sl + (pd sl + 1)) 0) := km_u (km_u km_r (by omega)) (by omega)
  have m3 : ∀ x, km sl pm (va_up (va_up (va_up pm (4096 * sl + pd sl) K) (4096 * sl + (pd sl + 1)) 0) (4096 * sl + (pd sl + 1)) x) := fun x => km_u m2 (by omega)
  have d2 : kq sl pd (va_up pd sl (pd sl + 1 + 1)) := kq_u kq_r
  by_cases h2 : K = 1
  · rw [if_pos h2]
    by_cases h3 : eP b n y lo = 1
    · rw [if_pos h3]; exact fS_i ⟨kq_r, kx_r, d2, m2⟩
    rw [if_neg h3]
    obtain ⟨⟨k2, t2, wr2, pl2, nm2, vz2, pq2, fx2⟩, hz⟩ : ∃ z, z = mCoord b n u PT sl lo y wr pl (nmP b n y lo m) vz pq fx := ⟨_, rfl⟩
    obtain ⟨a1, a2⟩ := mCoord_fr hz.symm hP
    rw [← hz]
    refine fS_i ⟨a1, a2, d2, ?_⟩
    split
    · exact m2
    · exact m3 1
  rw [if_neg h2]
  by_cases h3 : n < y + 4
  · rw [if_pos h3]; exact fS_i ⟨kq_r, kx_r, d2, m2⟩
  rw [if_neg h3]
  by_cases h4 : K = 2
  · rw [if_pos h4]
    obtain ⟨⟨k2, t2, wr2, pl2, nm2, vz2, pq2, fx2⟩, hz⟩ : ∃ z, z = mCos b n u PT sl lo (pN b y 4 lo) (y + 4, wr, pl, pN b y 4 lo, vz, pq, fx) := ⟨_, rfl⟩
    obtain ⟨a1, a2⟩ := mCos_fr hP _ _ _ _ _ _ _ _ _ _ _ _ _ _ _ _ hz.symm
    rw [← hz]
    refine fS_i ⟨a1, a2, d2, ?_⟩
    split
    · exact m2
    · exact m3 _
  rw [if_neg h4]
  by_cases h5 : K = 3
  · rw [if_pos h5]
    have h6 := mRs_fr (b := b) (n := n) (u := u) (sl := sl) (lo := lo) hP hN (pN b y 4 lo) (y + 4) wr pl (pN b y 4 lo) vz pq fx (va_up pd sl (pd sl + 1 + 1)) (va_up (va_up pm (4096 * sl + pd sl) K) (4096 * sl + (pd sl + 1)) 0)
    obtain ⟨⟨k2, t2, wr2, pl2, nm2, vz2, pq2, fx2, pd2, pm2⟩, hz⟩ : ∃ z, z = mRs b n u PT PN sl lo (pN b y 4 lo) (y + 4, wr, pl, pN b y 4 lo, vz, pq, fx, va_up pd sl (pd sl + 1 + 1), va_up (va_up pm (4096 * sl + pd sl) K) (4096 * sl + (pd sl + 1)) 0) := ⟨_, rfl⟩
    rw [← hz] at h6 ⊢
    obtain ⟨c1, c2, c3, c4⟩ : kq sl pq pq2 ∧ kx sl fx fx2 ∧ kq sl (va_up pd sl (pd sl + 1 + 1)) pd2 ∧ km sl (va_up (va_up pm (4096 * sl + pd sl) K) (4096 * sl + (pd sl + 1)) 0) pm2 := h6
    refine fS_i ⟨c1, c2, kq_t d2 c3, ?_⟩
    split
    · exact km_t m2 c4
    · exact km_u (km_t m2 c4) (by omega)
  rw [if_neg h5]
  by_cases h6 : pN b y 4 lo = 0
  · rw [if_pos h6]; exact fS_i ⟨kq_r, kx_r, d2, m3 _⟩
  rw [if_neg h6]
  exact fS_i ⟨kq_r, kx_r, d2, m3 _⟩
theorem mShape_fr {b : Nat → Nat} {n u PT PN sl dp t lo wr pl nm : Nat} {vz : Int32} {pq : Nat → Nat} {fx : Nat → Int32} {pd pm ok ol : Nat → Nat} (hP : PT ≤ 4096) (hN : PN ≤ 4096) : fS sl pq fx pd pm (mShape b n u PT PN sl dp t lo wr pl nm vz pq fx pd pm ok ol) := by
  unfold mShape
  by_cases h1 : n ≤ t
  · rw [if_pos h1]; exact fS_r
  rw [if_neg h1]
  by_cases h2 : 1 < b t
  · rw [if_pos h2]; exact fS_r
  rw [if_neg h2]
  by_cases h3 : n < t + 1 + 4
  · rw [if_pos h3]; exact fS_r
  rw [if_neg h3]
  generalize pN b (t + 1) 4 (b t) = T
  unfold mSh2
  by_cases h4 : kOf T = 0 ∨ (mPar ok dp < 7 ∧ ¬ kOf T = mPar ok dp - 3)
  · rw [if_pos h4]; exact fS_r
  rw [if_neg h4]
  by_cases h5 : tMore T = 1
  · rw [if_pos h5]; exact fS_r
  rw [if_neg h5]
  by_cases h6 : kOf T = 7 ∧ nCol ok dp = 50
  · rw [if_pos h6]; exact fS_r
  rw [if_neg h6]
  by_cases h7 : tMark T = 1
  · rw [if_pos h7]
    by_cases h8 : n < t + 1 + 4 + 4
    · rw [if_pos h8]; exact fS_r
    rw [if_neg h8]
    exact mTail_fr hP hN
  rw [if_neg h7]
  exact mTail_fr hP hN
/-- behind the whole reading -/
theorem mAll_fr {b : Nat → Nat} {n u PT PN sl : Nat} (hb : ∀ j, b j < 256) (hP : PT ≤ 4096) (hN : PN ≤ 4096) : ∀ (g dp t lo wr pl nm : Nat) (vz : Int32) (pq : Nat → Nat) (fx : Nat → Int32) (pd pm ok ol : Nat → Nat) (k1 t1 lo1 wr1 pl1 nm1 : Nat) (vz1 : Int32) (pq1 : Nat → Nat) (fx1 : Nat → Int32) (pd1 pm1 ok1 ol1 : Nat → Nat),
    n - t < g → t ≤ n → lo < 2 → jI dp ok ol → pq sl ≤ PT → pd sl ≤ PN →
    mAll b n u PT PN sl g dp (t, lo, wr, pl, nm, vz, pq, fx, pd, pm, ok, ol) = (k1, t1, lo1, wr1, pl1, nm1, vz1, pq1, fx1, pd1, pm1, ok1, ol1) →
    (kq sl pq pq1 ∧ kx sl fx fx1 ∧ kq sl pd pd1 ∧ km sl pm pm1) ∧ lo1 < 2 ∧ (∀ j, ok1 j < 2 ^ 31) ∧ (∀ j, ol1 j < 2 ^ 32) := by
  intro g
  induction g with
  | zero =>
    intro dp t lo wr pl nm vz pq fx pd pm ok ol k1 t1 lo1 wr1 pl1 nm1 vz1 pq1 fx1 pd1 pm1 ok1 ol1 hg
    exact absurd hg (Nat.not_lt_zero _)
  | succ g ih =>
    intro dp t lo wr pl nm vz pq fx pd pm ok ol k1 t1 lo1 wr1 pl1 nm1 vz1 pq1 fx1 pd1 pm1 ok1 ol1 hg ht hlo hj hq hd hm
    have hbd := mShape_bd (b := b) u wr pl nm vz fx pm ol hb ht hlo hq hd hj.1
    have hfr := mShape_fr (b := b) (n := n) (u := u) (sl := sl) (dp := dp) (t := t) (lo := lo) (wr := wr) (pl := pl) (nm := nm) (vz := vz) (pq := pq) (fx := fx) (pd := pd) (pm := pm) (ok := ok) (ol := ol) hP hN
    obtain ⟨⟨kc, tc, loc, wrc, plc, nmc, vzc, pqc, fxc, pdc, pmc, okc, olc⟩, hz⟩ : ∃ z, z = mShape b n u PT PN sl dp t lo wr pl nm vz pq fx pd pm ok ol := ⟨_, rfl⟩
    obtain ⟨x1, x2, x3, x4⟩ := mAll_x hm (show n - t < g + 1 from hg) hz
    rw [← hz] at hbd hfr
    obtain ⟨b1, b2, b3, b4, b5, b6, b7, b8⟩ := hbd
    obtain ⟨f1, f2, f3, f4⟩ : kq sl pq pqc ∧ kx sl fx fxc ∧ kq sl pd pdc ∧ km sl pm pmc := hfr
    rcases (show kc = 0 ∨ kc = 1 ∨ kc = 2 by omega) with e | e | e
    · obtain ⟨c1, c2⟩ := b7 (by rw [e]; decide)
      have h := x1 e
      cases h
      subst c1
      subst c2
      exact ⟨⟨f1, f2, f3, f4⟩, b4, hj.2.2.2.2.2, hj.2.2.2.2.1⟩
    · obtain ⟨c1, c2⟩ := b7 (by rw [e]; decide)
      have b9 := b2 (by rw [e]; decide)
      subst c1
      subst c2
      have hj2 := mPop_bd dp olc hj
      by_cases p : (mPop dp olc).1 = 0
      · have h := x3 e p
        clear b7 b8 x1 x2 x3 x4
        obtain ⟨⟨r1, r2, r3, r4⟩, r5⟩ := ih _ _ _ _ _ _ _ _ _ _ _ _ _ _ _ _ _ _ _ _ _ _ _ _ _ _ (by omega) b3 b4 hj2.2 b5 b6 h
        exact ⟨⟨kq_t f1 r1, kx_t f2 r2, kq_t f3 r3, km_t f4 r4⟩, r5⟩
      · have h := x4 e p
        by_cases q : tc = n
        · rw [mEnd_1 q] at h
          cases h
          exact ⟨⟨f1, f2, f3, f4⟩, b4, hj2.2.2.2.2.2.2, hj2.2.2.2.2.2.1⟩
        · rw [mEnd_0 q] at h
          cases h
          exact ⟨⟨f1, f2, f3, f4⟩, b4, hj2.2.2.2.2.2.2, hj2.2.2.2.2.2.1⟩
    · have b9 := b2 (by rw [e]; decide)
      obtain ⟨s1, K2, c9, s2, s3, s4, s5, s6, s7, s8⟩ := b8 e
      have hjn : jI (dp + 1) okc olc := by rw [s5, s6]; exact jI_push hj s1 s2 s3 s4 s7 s8
      have h := x2 e
      clear b2 b7 b8 x1 x2 x3 x4
      obtain ⟨⟨r1, r2, r3, r4⟩, r5⟩ := ih _ _ _ _ _ _ _ _ _ _ _ _ _ _ _ _ _ _ _ _ _ _ _ _ _ _ (by omega) b3 b4 hjn b5 b6 h
      exact ⟨⟨kq_t f1 r1, kx_t f2 r2, kq_t f3 r3, km_t f4 r4⟩, r5⟩
