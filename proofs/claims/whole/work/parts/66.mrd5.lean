/-! bounds of the reference's shape -/
theorem mVal_mo {b : Nat → Nat} {n u lo t wr pl nm : Nat} {vz : Int32} {k1 t1 wr1 pl1 nm1 : Nat} {vz1 : Int32} (hs : mVal b n u lo t wr pl nm vz = (k1, t1, wr1, pl1, nm1, vz1)) : t ≤ t1 := by
  unfold mVal at hs
  split at hs
  · cases hs; exact Nat.le_refl _
  · obtain ⟨⟨k2, wr2, pl2, vz2⟩, hz⟩ : ∃ z, z = mRd (pN b t 8 lo) u t wr pl vz := ⟨_, rfl⟩
    rw [← hz] at hs
    cases hs
    omega
theorem mCo2_mo {b : Nat → Nat} {n u sl lo t wr pl nm : Nat} {vz : Int32} {pq : Nat → Nat} {fx : Nat → Int32} {k1 t1 wr1 pl1 nm1 : Nat} {vz1 : Int32} {pq1 : Nat → Nat} {fx1 : Nat → Int32} (hs : mCo2 b n u sl lo t wr pl nm vz pq fx = (k1, t1, wr1, pl1, nm1, vz1, pq1, fx1)) : t ≤ t1 := by
  unfold mCo2 at hs
  obtain ⟨⟨k2, t2, wr2, pl2, nm2, vz2⟩, hz⟩ : ∃ z, z = mVal b n u lo t wr pl nm vz := ⟨_, rfl⟩
  have h := mVal_mo hz.symm
  rw [← hz] at hs
  match k2, hs with
  | 0, hs => cases hs; exact h
  | _ + 1, hs => cases hs; exact h
theorem mCoord_mo {b : Nat → Nat} {n u PT sl lo t wr pl nm : Nat} {vz : Int32} {pq : Nat → Nat} {fx : Nat → Int32} {k1 t1 wr1 pl1 nm1 : Nat} {vz1 : Int32} {pq1 : Nat → Nat} {fx1 : Nat → Int32} (hs : mCoord b n u PT sl lo t wr pl nm vz pq fx = (k1, t1, wr1, pl1, nm1, vz1, pq1, fx1)) : t ≤ t1 := by
  unfold mCoord at hs
  split at hs
  · cases hs; exact Nat.le_refl _
  · obtain ⟨⟨k2, t2, wr2, pl2, nm2, vz2⟩, hz⟩ : ∃ z, z = mVal b n u lo t wr pl nm vz := ⟨_, rfl⟩
    have h := mVal_mo hz.symm
    rw [← hz] at hs
    match k2, hs with
    | 0, hs => cases hs; exact h
    | _ + 1, hs => exact Nat.le_trans h (mCo2_mo hs)
theorem mCos_mo {b : Nat → Nat} {n u PT sl lo : Nat} : ∀ (c t wr pl nm : Nat) (vz : Int32) (pq : Nat → Nat) (fx : Nat → Int32) (k1 t1 wr1 pl1 nm1 : Nat) (vz1 : Int32) (pq1 : Nat → Nat) (fx1 : Nat → Int32), mCos b n u PT sl lo c (t, wr, pl, nm, vz, pq, fx) = (k1, t1, wr1, pl1, nm1, vz1, pq1, fx1) → t ≤ t1
  | 0, t, wr, pl, nm, vz, pq, fx, k1, t1, wr1, pl1, nm1, vz1, pq1, fx1, hs => by
    have hs : (1, t, wr, pl, nm, vz, pq, fx) = (k1, t1, wr1, pl1, nm1, vz1, pq1, fx1) := hs
    cases hs
    exact Nat.le_refl _
  | c + 1, t, wr, pl, nm, vz, pq, fx, k1, t1, wr1, pl1, nm1, vz1, pq1, fx1, hs => by
    change (if (mCoord b n u PT sl lo t wr pl nm vz pq fx).1 = 0 then mCoord b n u PT sl lo t wr pl nm vz pq fx else mCos b n u PT sl lo c (mCoord b n u PT sl lo t wr pl nm vz pq fx).2) = _ at hs
    obtain ⟨⟨k2, t2, wr2, pl2, nm2, vz2, pq2, fx2⟩, hz⟩ : ∃ z, z = mCoord b n u PT sl lo t wr pl nm vz pq fx := ⟨_, rfl⟩
    have a2 := mCoord_mo hz.symm
    rw [← hz] at hs
    by_cases q : k2 = 0
    · rw [if_pos (show (k2, t2, wr2, pl2, nm2, vz2, pq2, fx2).1 = 0 from q)] at hs
      cases hs
      exact a2
    · rw [if_neg (show ¬ (k2, t2, wr2, pl2, nm2, vz2, pq2, fx2).1 = 0 from q)] at hs
      exact Nat.le_trans a2 (mCos_mo c t2 wr2 pl2 nm2 vz2 pq2 fx2 k1 t1 wr1 pl1 nm1 vz1 pq1 fx1 hs)
def bR (n PT PN sl t : Nat) : Nat × mrS → Prop
  | (_, t1, _, _, _, _, pq1, _, pd1, _) => t ≤ t1 ∧ t1 ≤ n ∧ pq1 sl ≤ PT ∧ pd1 sl ≤ PN
theorem bR_i {n PT PN sl t k1 t1 wr1 pl1 nm1 : Nat} {vz1 : Int32} {pq1 : Nat → Nat} {fx1 : Nat → Int32} {pd1 pm1 : Nat → Nat} (h : t ≤ t1 ∧ t1 ≤ n ∧ pq1 sl ≤ PT ∧ pd1 sl ≤ PN) : bR n PT PN sl t (k1, t1, wr1, pl1, nm1, vz1, pq1, fx1, pd1, pm1) := h
theorem mRing_bd (b : Nat → Nat) {n PT PN sl t : Nat} (u lo wr pl nm : Nat) (vz : Int32) {pq : Nat → Nat} (fx : Nat → Int32) {pd : Nat → Nat} (pm : Nat → Nat) (ht : t ≤ n) (hq : pq sl ≤ PT) (hd : pd sl ≤ PN) : bR n PT PN sl t (mRing b n u PT PN sl lo (t, wr, pl, nm, vz, pq, fx, pd, pm)) := by
  rw [mRing_eq]
  by_cases h1 : PN < pd sl + 1
  · rw [if_pos h1]; exact bR_i ⟨Nat.le_refl _, ht, hq, hd⟩
  rw [if_neg h1]
  by_cases h2 : n < t + 4
  · rw [if_pos h2]; exact bR_i ⟨Nat.le_refl _, ht, hq, hd⟩
  rw [if_neg h2]
  by_cases h3 : pN b t 4 lo = 0
  · rw [if_pos h3]; exact bR_i ⟨by omega, by omega, hq, hd⟩
  rw [if_neg h3]
  obtain ⟨⟨k2, t2, wr2, pl2, nm2, vz2, pq2, fx2⟩, hz⟩ : ∃ z, z = mCos b n u PT sl lo (pN b t 4 lo) (t + 4, wr, pl, pN b t 4 lo, vz, pq, fx) := ⟨_, rfl⟩
  obtain ⟨a1, a2, a3⟩ := mCos_bd _ _ _ _ _ _ _ _ _ _ _ _ _ _ _ _ hz.symm (by omega) hq
  have a4 := mCos_mo _ _ _ _ _ _ _ _ _ _ _ _ _ _ _ _ hz.symm
  rw [← hz]
  exact bR_i ⟨by omega, a2, a3, by rw [va_up_self]; omega⟩
theorem mRs_bd {b : Nat → Nat} {n u PT PN sl lo : Nat} : ∀ (c t wr pl nm : Nat) (vz : Int32) (pq : Nat → Nat) (fx : Nat → Int32) (pd pm : Nat → Nat), t ≤ n → pq sl ≤ PT → pd sl ≤ PN → bR n PT PN sl t (mRs b n u PT PN sl lo c (t, wr, pl, nm, vz, pq, fx, pd, pm))
  | 0, t, wr, pl, nm, vz, pq, fx, pd, pm, ht, hq, hd => bR_i ⟨Nat.le_refl _, ht, hq, hd⟩
  | c + 1, t, wr, pl, nm, vz, pq, fx, pd, pm, ht, hq, hd => by
    change bR n PT PN sl t (if (mRing b n u PT PN sl lo (t, wr, pl, nm, vz, pq, fx, pd, pm)).1 = 0 then mRing b n u PT PN sl lo (t, wr, pl, nm, vz, pq, fx, pd, pm) else mRs b n u PT PN sl lo c (mRing b n u PT PN sl lo (t, wr, pl, nm, vz, pq, fx, pd, pm)).2)
    have h := mRing_bd b u lo wr pl nm vz fx pm ht hq hd
    obtain ⟨⟨k2, t2, wr2, pl2, nm2, vz2, pq2, fx2, pd2, pm2⟩, hz⟩ : ∃ z, z = mRing b n u PT PN sl lo (t, wr, pl, nm, vz, pq, fx, pd, pm) := ⟨_, rfl⟩
    rw [← hz] at h ⊢
    obtain ⟨a1, a2, a3, a4⟩ : t ≤ t2 ∧ t2 ≤ n ∧ pq2 sl ≤ PT ∧ pd2 sl ≤ PN := h
    by_cases q : k2 = 0
    · rw [if_pos (show (k2, t2, wr2, pl2, nm2, vz2, pq2, fx2, pd2, pm2).1 = 0 from q)]
      exact bR_i ⟨a1, a2, a3, a4⟩
    · rw [if_neg (show ¬ (k2, t2, wr2, pl2, nm2, vz2, pq2, fx2, pd2, pm2).1 = 0 from q)]
      have h3 := mRs_bd (b := b) (u := u) (lo := lo) c t2 wr2 pl2 nm2 vz2 pq2 fx2 pd2 pm2 a2 a3 a4
      obtain ⟨⟨k3, t3, wr3, pl3, nm3, vz3, pq3, fx3, pd3, pm3⟩, hy⟩ : ∃ z, z = mRs b n u PT PN sl lo c (t2, wr2, pl2, nm2, vz2, pq2, fx2, pd2, pm2) := ⟨_, rfl⟩
      show bR n PT PN sl t (mRs b n u PT PN sl lo c (t2, wr2, pl2, nm2, vz2, pq2, fx2, pd2, pm2))
      rw [← hy] at h3 ⊢
      obtain ⟨c1, c2, c3, c4⟩ : t2 ≤ t3 ∧ t3 ≤ n ∧ pq3 sl ≤ PT ∧ pd3 sl ≤ PN := h3
      exact bR_i ⟨Nat.le_trans a1 c1, c2, c3, c4⟩
/-- what holds behind a shape's tail -/
def bT (n PT PN sl dp K y lo : Nat) (ok ol : Nat → Nat) : Nat × msS → Prop
  | (k1, t1, lo1, _, _, _, _, pq1, _, pd1, _, ok1, ol1) => k1 ≤ 2 ∧ y ≤ t1 ∧ t1 ≤ n ∧ lo1 = lo ∧ pq1 sl ≤ PT ∧ pd1 sl ≤ PN ∧ (¬ k1 = 2 → ok1 = ok ∧ ol1 = ol) ∧ (k1 = 2 → ¬ K = 1 ∧ ¬ K = 2 ∧ ¬ K = 3 ∧ ∃ c, ok1 = va_up ok dp K ∧ ol1 = va_up ol dp c ∧ ¬ c = 0 ∧ c < 2 ^ 32)
theorem bT_i {n PT PN sl dp K y lo : Nat} {ok ol : Nat → Nat} {k1 t1 lo1 wr1 pl1 nm1 : Nat} {vz1 : Int32} {pq1 : Nat → Nat} {fx1 : Nat → Int32} {pd1 pm1 ok1 ol1 : Nat → Nat} (h : k1 ≤ 2 ∧ y ≤ t1 ∧ t1 ≤ n ∧ lo1 = lo ∧ pq1 sl ≤ PT ∧ pd1 sl ≤ PN ∧ (¬ k1 = 2 → ok1 = ok ∧ ol1 = ol) ∧ (k1 = 2 → ¬ K = 1 ∧ ¬ K = 2 ∧ ¬ K = 3 ∧ ∃ c, ok1 = va_up ok dp K ∧ ol1 = va_up ol dp c ∧ ¬ c = 0 ∧ c < 2 ^ 32)) : bT n PT PN sl dp K y lo ok ol (k1, t1, lo1, wr1, pl1, nm1, vz1, pq1, fx1, pd1, pm1, ok1, ol1) := h
theorem mTail_bd {b : Nat → Nat} {n PT PN sl y : Nat} (u dp K lo wr pl m : Nat) (vz : Int32) {pq : Nat → Nat} (fx : Nat → Int32) {pd : Nat → Nat} (pm ok ol : Nat → Nat) (hb : ∀ j, b j < 256) (hy : y ≤ n) (hq : pq sl ≤ PT) (hd : pd sl ≤ PN) : bT n PT PN sl dp K y lo ok ol (mTail b n u PT PN sl dp K y lo wr pl m vz pq fx pd pm ok ol) := by
  unfold mTail
  by_cases h1 : PN < pd sl + 2
  · rw [if_pos h1]; exact bT_i ⟨by omega, Nat.le_refl _, hy, rfl, hq, hd, fun _ => ⟨rfl, rfl⟩, fun h => absurd h (by decide)⟩
  rw [if_neg h1]
  have hd2 : va_up pd sl (pd sl + 1 + 1) sl ≤ PN := by rw [va_up_self]; omega
  by_cases h2 : K = 1
  · rw [if_pos h2]
    by_cases h3 : eP b n y lo = 1
    · rw [if_pos h3]
      have q := (eP_1 h3).1
      exact bT_i ⟨by omega, by omega, by omega, rfl, hq, hd2, fun _ => ⟨rfl, rfl⟩, fun h => absurd h (by decide)⟩
    rw [if_neg h3]
    obtain ⟨⟨k2, t2, wr2, pl2, nm2, vz2, pq2, fx2⟩, hz⟩ : ∃ z, z = mCoord b n u PT sl lo y wr pl (nmP b n y lo m) vz pq fx := ⟨_, rfl⟩
    obtain ⟨a1, a2, a3⟩ := mCoord_bd hz.symm hy hq
    have a4 := mCoord_mo hz.symm
    rw [← hz]
    exact bT_i ⟨by omega, a4, a2, rfl, a3, hd2, fun _ => ⟨rfl, rfl⟩, fun h => absurd h (by omega)⟩
  rw [if_neg h2]
  by_cases h3 : n < y + 4
  · rw [if_pos h3]; exact bT_i ⟨by omega, Nat.le_refl _, hy, rfl, hq, hd2, fun _ => ⟨rfl, rfl⟩, fun h => absurd h (by decide)⟩
  rw [if_neg h3]
  by_cases h4 : K = 2
  · rw [if_pos h4]
    obtain ⟨⟨k2, t2, wr2, pl2, nm2, vz2, pq2, fx2⟩, hz⟩ : ∃ z, z = mCos b n u PT sl lo (pN b y 4 lo) (y + 4, wr, pl, pN b y 4 lo, vz, pq, fx) := ⟨_, rfl⟩
    obtain ⟨a1, a2, a3⟩ := mCos_bd _ _ _ _ _ _ _ _ _ _ _ _ _ _ _ _ hz.symm (by omega) hq
    have a4 := mCos_mo _ _ _ _ _ _ _ _ _ _ _ _ _ _ _ _ hz.symm
    rw [← hz]
    exact bT_i ⟨by omega, by omega, a2, rfl, a3, hd2, fun _ => ⟨rfl, rfl⟩, fun h => absurd h (by omega)⟩
  rw [if_neg h4]
  by_cases h5 : K = 3
  · rw [if_pos h5]
    have h6 := mRs_bd (b := b) (u := u) (lo := lo) (pN b y 4 lo) (y + 4) wr pl (pN b y 4 lo) vz pq fx (va_up pd sl (pd sl + 1 + 1)) (va_up (va_up pm (4096 * sl + pd sl) K) (4096 * sl + (pd sl + 1)) 0) (show y + 4 ≤ n by omega) hq hd2
    obtain ⟨⟨k2, t2, wr2, pl2, nm2, vz2, pq2, fx2, pd2, pm2⟩, hz⟩ : ∃ z, z = mRs b n u PT PN sl lo (pN b y 4 lo) (y + 4, wr, pl, pN b y 4 lo, vz, pq, fx, va_up pd sl (pd sl + 1 + 1), va_up (va_up pm (4096 * sl + pd sl) K) (4096 * sl + (pd sl + 1)) 0) := ⟨_, rfl⟩
    have a1 := mRs_k hz.symm
    rw [← hz] at h6 ⊢
    obtain ⟨c1, c2, c3, c4⟩ : y + 4 ≤ t2 ∧ t2 ≤ n ∧ pq2 sl ≤ PT ∧ pd2 sl ≤ PN := h6
    exact bT_i ⟨by omega, by omega, c2, rfl, c3, c4, fun _ => ⟨rfl, rfl⟩, fun h => absurd h (by omega)⟩
  rw [if_neg h5]
  by_cases h6 : pN b y 4 lo = 0
  · rw [if_pos h6]; exact bT_i ⟨by omega, by omega, by omega, rfl, hq, hd2, fun _ => ⟨rfl, rfl⟩, fun h => absurd h (by decide)⟩
  rw [if_neg h6]
  exact bT_i ⟨by omega, by omega, by omega, rfl, hq, hd2, fun h => absurd rfl h, fun _ => ⟨h2, h4, h5, _, rfl, rfl, h6, pN_lt4 hb y lo⟩⟩
/-- what holds behind a shape -/
def bS (n PT PN sl dp t : Nat) (ok ol : Nat → Nat) : Nat × msS → Prop
  | (k1, t1, lo1, _, _, _, _, pq1, _, pd1, _, ok1, ol1) => k1 ≤ 2 ∧ (¬ k1 = 0 → t + 5 ≤ t1) ∧ t1 ≤ n ∧ lo1 < 2 ∧ pq1 sl ≤ PT ∧ pd1 sl ≤ PN ∧ (¬ k1 = 2 → ok1 = ok ∧ ol1 = ol) ∧ (k1 = 2 → mPar ok dp = 7 ∧ ∃ K c, 4 ≤ K ∧ K ≤ 7 ∧ ¬ (K = 7 ∧ nCol ok dp = 50) ∧ ok1 = va_up ok dp K ∧ ol1 = va_up ol dp c ∧ ¬ c = 0 ∧ c < 2 ^ 32)
theorem bS_0 {n PT PN sl dp t : Nat} {ok ol : Nat → Nat} {t1 lo1 wr1 pl1 nm1 : Nat} {vz1 : Int32} {pq1 : Nat → Nat} {fx1 : Nat → Int32} {pd1 pm1 : Nat → Nat} (h1 : t1 ≤ n) (h2 : lo1 < 2) (h3 : pq1 sl ≤ PT) (h4 : pd1 sl ≤ PN) : bS n PT PN sl dp t ok ol (0, t1, lo1, wr1, pl1, nm1, vz1, pq1, fx1, pd1, pm1, ok, ol) := ⟨by omega, fun h => absurd rfl h, h1, h2, h3, h4, fun _ => ⟨rfl, rfl⟩, fun h => absurd h (by decide)⟩
theorem bT_S {n PT PN sl dp K y lo t : Nat} {ok ol : Nat → Nat} {z : Nat × msS} (h : bT n PT PN sl dp K y lo ok ol z) (hy : t + 5 ≤ y) (hlo : lo < 2) (h0 : ¬ (K = 0 ∨ (mPar ok dp < 7 ∧ ¬ K = mPar ok dp - 3))) (h7 : ¬ (K = 7 ∧ nCol ok dp = 50)) (hK : K ≤ 7) (hp : mPar ok dp ≤ 7) : bS n PT PN sl dp t ok ol z := by
  obtain ⟨k1, t1, lo1, wr1, pl1, nm1, vz1, pq1, fx1, pd1, pm1, ok1, ol1⟩ := z
  obtain ⟨a1, a2, a3, a4, a5, a6, a7, a8⟩ := h
  have e5 : t + 5 ≤ t1 := Nat.le_trans hy a2
  refine ⟨a1, fun _ => e5, a3, a4 ▸ hlo, a5, a6, a7, fun h => ?_⟩
  obtain ⟨c1, c2, c3, c, d1, d2, d3, d4⟩ := a8 h
  clear a8 a7
  have e7 : mPar ok dp = 7 := by omega
  have e4 : 4 ≤ K := by omega
  exact ⟨e7, K, c, e4, hK, h7, d1, d2, d3, d4⟩
theorem mShape_bd {b : Nat → Nat} {n PT PN sl dp t lo : Nat} (u wr pl nm : Nat) (vz : Int32) {pq : Nat → Nat} (fx : Nat → Int32) {pd : Nat → Nat} (pm : Nat → Nat) {ok : Nat → Nat} (ol : Nat → Nat) (hb : ∀ j, b j < 256) (ht : t ≤ n) (hlo : lo < 2) (hq : pq sl ≤ PT) (hd : pd sl ≤ PN) (hok : ∀ j, j < dp → 4 ≤ ok j ∧ ok j ≤ 7) : bS n PT PN sl dp t ok ol (mShape b n u PT PN sl dp t lo wr pl nm vz pq fx pd pm ok ol) := by
  have hp := mPar_ok hok
  unfold mShape
  by_cases h1 : n ≤ t
  · rw [if_pos h1]; exact bS_0 ht hlo hq hd
  rw [if_neg h1]
  by_cases h2 : 1 < b t
  · rw [if_pos h2]; exact bS_0 ht hlo hq hd
  rw [if_neg h2]
  by_cases h3 : n < t + 1 + 4
  · rw [if_pos h3]; exact bS_0 (by omega) (by omega) hq hd
  rw [if_neg h3]
  generalize pN b (t + 1) 4 (b t) = T
  unfold mSh2
  have hK := kOf_le T
  by_cases h4 : kOf T = 0 ∨ (mPar ok dp < 7 ∧ ¬ kOf T = mPar ok dp - 3)
  · rw [if_pos h4]; exact bS_0 (by omega) (by omega) hq hd
  rw [if_neg h4]
  by_cases h5 : tMore T = 1
  · rw [if_pos h5]; exact bS_0 (by omega) (by omega) hq hd
  rw [if_neg h5]
  by_cases h6 : kOf T = 7 ∧ nCol ok dp = 50
  · rw [if_pos h6]; exact bS_0 (by omega) (by omega) hq hd
  rw [if_neg h6]
  by_cases h7 : tMark T = 1
  · rw [if_pos h7]
    by_cases h8 : n < t + 1 + 4 + 4
    · rw [if_pos h8]; exact bS_0 (by omega) (by omega) hq hd
    rw [if_neg h8]
    exact bT_S (mTail_bd u dp (kOf T) (b t) wr pl _ vz fx pm ok ol hb (show t + 1 + 4 + 4 ≤ n by omega) hq hd) (by omega) (by omega) h4 h6 hK hp.2
  rw [if_neg h7]
  exact bT_S (mTail_bd u dp (kOf T) (b t) wr pl _ vz fx pm ok ol hb (show t + 1 + 4 ≤ n by omega) hq hd) (by omega) (by omega) h4 h6 hK hp.2
/-! the open shapes: what holds of their rows -/
def jI (dp : Nat) (ok ol : Nat → Nat) : Prop := (∀ j, j < dp → 4 ≤ ok j ∧ ok j ≤ 7) ∧ (∀ j, j + 1 < dp → ok j = 7) ∧ nCol ok dp ≤ 50 ∧ (∀ j, j < dp → 1 ≤ ol j) ∧ (∀ j, ol j < 2 ^ 32) ∧ ∀ j, ok j < 2 ^ 31
theorem nCol_all {ok : Nat → Nat} : ∀ d, (∀ j, j < d → ok j = 7) → nCol ok d = d
  | 0, _ => rfl
  | d + 1, h => by
    show nCol ok d + (if ok d = 7 then 1 else 0) = d + 1
    rw [nCol_all d (fun j q => h j (by omega)), if_pos (h d (by omega))]
theorem nCol_eq {f g : Nat → Nat} : ∀ d, (∀ j, j < d → f j = g j) → nCol f d = nCol g d
  | 0, _ => rfl
  | d + 1, h => by
    show nCol f d + (if f d = 7 then 1 else 0) = nCol g d + (if g d = 7 then 1 else 0)
    rw [nCol_eq d (fun j q => h j (by omega)), h d (by omega)]
theorem nCol_s (ok : Nat → Nat) (d : Nat) : nCol ok (d + 1) = nCol ok d + if ok d = 7 then 1 else 0 := rfl
theorem jI_dp {dp : Nat} {ok ol : Nat → Nat} (h : jI dp ok ol) : dp ≤ 51 := by
  obtain ⟨_, h2, h3, _⟩ := h
  match dp, h2, h3 with
  | 0, _, _ => omega
  | d + 1, h2, h3 =>
    have e := nCol_all d (fun j q => h2 j (by omega))
    rw [nCol_s, e] at h3
    omega
theorem jI_0 {ok ol : Nat → Nat} (h1 : ∀ j, ol j < 2 ^ 32) (h2 : ∀ j, ok j < 2 ^ 31) : jI 0 ok ol := ⟨fun j q => absurd q (by omega), fun j q => absurd q (by omega), Nat.zero_le _, fun j q => absurd q (by omega), h1, h2⟩
theorem jI_push {dp K c : Nat} {ok ol : Nat → Nat} (h : jI dp ok ol) (hp : mPar ok dp = 7) (h4 : 4 ≤ K) (h7 : K ≤ 7) (hn : ¬ (K = 7 ∧ nCol ok dp = 50)) (hc : ¬ c = 0) (hc2 : c < 2 ^ 32) : jI (dp + 1) (va_up ok dp K) (va_up ol dp c) := by
  obtain ⟨a1, a2, a3, a4, a5, a6⟩ := h
  refine ⟨fun j q => ?_, fun j q => ?_, ?_, fun j q => ?_, fun j => ?_, fun j => ?_⟩
  · by_cases e : j = dp
    · subst e; rw [va_up_self]; exact ⟨h4, h7⟩
    · rw [va_up_ne _ _ e]; exact a1 j (by omega)
  · rw [va_up_ne _ _ (show j ≠ dp by omega)]
    by_cases e : j + 1 = dp
    · unfold mPar at hp
      rw [if_neg (by omega), show dp - 1 = j by omega] at hp
      exact hp
    · exact a2 j (by omega)
  · rw [nCol_s, va_up_self, nCol_eq (f := va_up ok dp K) (g := ok) dp (fun j q => va_up_ne _ _ (by omega))]
    by_cases e : K = 7
    · rw [if_pos e]; have : ¬ nCol ok dp = 50 := fun q => hn ⟨e, q⟩
      omega
    · rw [if_neg e]; exact a3
  · by_cases e : j = dp
    · subst e; rw [va_up_self]; omega
    · rw [va_up_ne _ _ e]; exact a4 j (by omega)
  · by_cases e : j = dp
    · subst e; rw [va_up_self]; exact hc2
    · rw [va_up_ne _ _ e]; exact a5 j
  · by_cases e : j = dp
    · subst e; rw [va_up_self]; omega
    · rw [va_up_ne _ _ e]; exact a6 j
theorem jI_less {d x : Nat} {ok ol : Nat → Nat} (h : jI (d + 1) ok ol) (hx : x < 2 ^ 32) : jI d ok (va_up ol d x) := by
  obtain ⟨a1, a2, a3, a4, a5, a6⟩ := h
  refine ⟨fun j q => a1 j (by omega), fun j q => a2 j (by omega), ?_, fun j q => ?_, fun j => ?_, a6⟩
  · rw [nCol_s] at a3; omega
  · rw [va_up_ne _ _ (show j ≠ d by omega)]; exact a4 j (by omega)
  · by_cases e : j = d
    · subst e; rw [va_up_self]; exact hx
    · rw [va_up_ne _ _ e]; exact a5 j
theorem jI_set {d x : Nat} {ok ol : Nat → Nat} (h : jI (d + 1) ok ol) (h0 : ¬ x = 0) (hx : x < 2 ^ 32) : jI (d + 1) ok (va_up ol d x) := by
  obtain ⟨a1, a2, a3, a4, a5, a6⟩ := h
  refine ⟨a1, a2, a3, fun j q => ?_, fun j => ?_, a6⟩
  · by_cases e : j = d
    · subst e; rw [va_up_self]; omega
    · rw [va_up_ne _ _ e]; exact a4 j q
  · by_cases e : j = d
    · subst e; rw [va_up_self]; exact hx
    · rw [va_up_ne _ _ e]; exact a5 j
/-- a finished shape closes those that wait for it alone: (all ended, depth, what is left) -/
def mPop : Nat → (Nat → Nat) → Nat × Nat × (Nat → Nat)
  | 0, ol => (1, 0, ol)
  | d + 1, ol => if ol d - 1 = 0 then mPop d (va_up ol d (ol d - 1)) else (0, d + 1, va_up ol d (ol d - 1))
theorem mPop_s (d : Nat) (ol : Nat → Nat) : mPop (d + 1) ol = if ol d - 1 = 0 then mPop d (va_up ol d (ol d - 1)) else (0, d + 1, va_up ol d (ol d - 1)) := rfl
theorem mPop_bd {ok : Nat → Nat} : ∀ (d : Nat) (ol : Nat → Nat), jI d ok ol → (mPop d ol).1 ≤ 1 ∧ jI (mPop d ol).2.1 ok (mPop d ol).2.2
  | 0, ol, h => ⟨Nat.le_refl 1, h⟩
  | d + 1, ol, h => by
    have hx : ol d - 1 < 2 ^ 32 := Nat.lt_of_le_of_lt (Nat.sub_le _ _) (h.2.2.2.2.1 d)
    rw [mPop_s]
    by_cases e : ol d - 1 = 0
    · rw [if_pos e]; exact mPop_bd d _ (jI_less h hx)
    · rw [if_neg e]; exact ⟨Nat.zero_le 1, jI_set h e hx⟩
def mEnd (n : Nat) : msS → Nat × msS
  | (t, lo, wr, pl, nm, vz, pq, fx, pd, pm, ok, ol) => if t = n then (1, t, lo, wr, pl, nm, vz, pq, fx, pd, pm, ok, ol) else (0, t, lo, 8, t, nm, vz, pq, fx, pd, pm, ok, ol)
def mShy (b : Nat → Nat) (n u PT PN sl dp : Nat) : msS → Nat × msS
  | (t, lo, wr, pl, nm, vz, pq, fx, pd, pm, ok, ol) => mShape b n u PT PN sl dp t lo wr pl nm vz pq fx pd pm ok ol
/-- behind a shape: wrong, closed, or opened -/
def mNx (n dp : Nat) (G : Nat → msS → Nat × msS) : Nat × msS → Nat × msS
  | (k, t, lo, wr, pl, nm, vz, pq, fx, pd, pm, ok, ol) =>
    if k = 0 then (0, t, lo, wr, pl, nm, vz, pq, fx, pd, pm, ok, ol)
    else if k = 2 then G (dp + 1) (t, lo, wr, pl, nm, vz, pq, fx, pd, pm, ok, ol)
    else if (mPop dp ol).1 = 0 then G (mPop dp ol).2.1 (t, lo, wr, pl, nm, vz, pq, fx, pd, pm, ok, (mPop dp ol).2.2)
    else mEnd n (t, lo, wr, pl, nm, vz, pq, fx, pd, pm, ok, (mPop dp ol).2.2)
/-- the reference's reading of all that was fed; g: no more shapes than that -/
def mAll (b : Nat → Nat) (n u PT PN sl : Nat) : Nat → Nat → msS → Nat × msS
  | 0, _, y => (0, y)
  | g + 1, dp, y => mNx n dp (fun d z => mAll b n u PT PN sl g d z) (mShy b n u PT PN sl dp y)
/-! one turn of the reference's reading -/
theorem mAll_x {b : Nat → Nat} {n u PT PN sl g dp t lo wr pl nm : Nat} {vz : Int32} {pq : Nat → Nat} {fx : Nat → Int32} {pd pm ok ol : Nat → Nat} {Z : Nat × msS} {kc tc loc wrc plc nmc : Nat} {vzc : Int32} {pqc : Nat → Nat} {fxc : Nat → Int32} {pdc pmc okc olc : Nat → Nat}
    (hc : mAll b n u PT PN sl g dp (t, lo, wr, pl, nm, vz, pq, fx, pd, pm, ok, ol) = Z) (hg : n - t < g) (hs : (kc, tc, loc, wrc, plc, nmc, vzc, pqc, fxc, pdc, pmc, okc, olc) = mShape b n u PT PN sl dp t lo wr pl nm vz pq fx pd pm ok ol) :
    (kc = 0 → (0, tc, loc, wrc, plc, nmc, vzc, pqc, fxc, pdc, pmc, okc, olc) = Z) ∧
    (kc = 2 → mAll b n u PT PN sl (g - 1) (dp + 1) (tc, loc, wrc, plc, nmc, vzc, pqc, fxc, pdc, pmc, okc, olc) = Z) ∧
    (kc = 1 → (mPop dp olc).1 = 0 → mAll b n u PT PN sl (g - 1) (mPop dp olc).2.1 (tc, loc, wrc, plc, nmc, vzc, pqc, fxc, pdc, pmc, okc, (mPop dp olc).2.2) = Z) ∧
    (kc = 1 → ¬ (mPop dp olc).1 = 0 → mEnd n (tc, loc, wrc, plc, nmc, vzc, pqc, fxc, pdc, pmc, okc, (mPop dp olc).2.2) = Z) := by
  rw [show g = (g - 1) + 1 by omega] at hc
  change mNx n dp (fun d z => mAll b n u PT PN sl (g - 1) d z) (mShape b n u PT PN sl dp t lo wr pl nm vz pq fx pd pm ok ol) = Z at hc
  rw [← hs] at hc
  change (if kc = 0 then (0, tc, loc, wrc, plc, nmc, vzc, pqc, fxc, pdc, pmc, okc, olc)
    else if kc = 2 then mAll b n u PT PN sl (g - 1) (dp + 1) (tc, loc, wrc, plc, nmc, vzc, pqc, fxc, pdc, pmc, okc, olc)
    else if (mPop dp olc).1 = 0 then mAll b n u PT PN sl (g - 1) (mPop dp olc).2.1 (tc, loc, wrc, plc, nmc, vzc, pqc, fxc, pdc, pmc, okc, (mPop dp olc).2.2)
    else mEnd n (tc, loc, wrc, plc, nmc, vzc, pqc, fxc, pdc, pmc, okc, (mPop dp olc).2.2)) = Z at hc
  refine ⟨fun q => ?_, fun q => ?_, fun q r => ?_, fun q r => ?_⟩
  · rw [if_pos q] at hc; exact hc
  · rw [if_neg (by omega), if_pos q] at hc; exact hc
  · rw [if_neg (by omega), if_neg (by omega), if_pos r] at hc; exact hc
  · rw [if_neg (by omega), if_neg (by omega), if_neg r] at hc; exact hc
theorem mPop_p {d : Nat} (ol : Nat → Nat) (h : ¬ d = 0) : mPop d ol = if ol (d - 1) - 1 = 0 then mPop (d - 1) (va_up ol (d - 1) (ol (d - 1) - 1)) else (0, d, va_up ol (d - 1) (ol (d - 1) - 1)) := by
  match d, h with
  | d + 1, _ => rfl
theorem rS_0 {k dp : Nat} (h : k = 0) : rS k dp = -1 := if_pos h
theorem rS_1 {k dp : Nat} (h : k = 1) : rS k dp = nI dp := by unfold rS; rw [if_neg (by omega), if_pos h]
theorem rS_2 {k dp : Nat} (h : k = 2) : rS k dp = nI (dp + 1) := by unfold rS; rw [if_neg (by omega), if_neg (by omega)]
theorem mEnd_1 {n t lo wr pl nm : Nat} {vz : Int32} {pq : Nat → Nat} {fx : Nat → Int32} {pd pm ok ol : Nat → Nat} (h : t = n) : mEnd n (t, lo, wr, pl, nm, vz, pq, fx, pd, pm, ok, ol) = (1, t, lo, wr, pl, nm, vz, pq, fx, pd, pm, ok, ol) := if_pos h
theorem mEnd_0 {n t lo wr pl nm : Nat} {vz : Int32} {pq : Nat → Nat} {fx : Nat → Int32} {pd pm ok ol : Nat → Nat} (h : ¬ t = n) : mEnd n (t, lo, wr, pl, nm, vz, pq, fx, pd, pm, ok, ol) = (0, t, lo, 8, t, nm, vz, pq, fx, pd, pm, ok, ol) := if_neg h
theorem jI_lessp {d x : Nat} {ok ol : Nat → Nat} (h : jI d ok ol) (hd : ¬ d = 0) (hx : x < 2 ^ 32) : jI (d - 1) ok (va_up ol (d - 1) x) := by
  match d, hd, h with
  | d + 1, _, h => exact jI_less h hx
theorem jI_setp {d x : Nat} {ok ol : Nat → Nat} (h : jI d ok ol) (hd : ¬ d = 0) (h0 : ¬ x = 0) (hx : x < 2 ^ 32) : jI d ok (va_up ol (d - 1) x) := by
  match d, hd, h with
  | d + 1, _, h => exact jI_set h h0 hx
