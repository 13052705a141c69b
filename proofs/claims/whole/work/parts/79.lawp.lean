/-! what the law's loop stands on: pure rows -/
theorem z_in (z : Int32) {m : Nat} (hm : m < 2 ^ 31) : (z < 0 ∨ nI m ≤ z) ∨ ∃ k, k < m ∧ z = nI k := by
  have h0 : (0 : Int32).toInt = 0 := rfl
  rcases Int.lt_or_le z.toInt 0 with h | h
  · exact Or.inl (Or.inl (Int32.lt_iff_toInt_lt.mpr (by rw [h0]; exact h)))
  · rcases Int.lt_or_le z.toInt m with q | q
    · refine Or.inr ⟨z.toInt.toNat, by omega, ?_⟩
      apply Int32.toInt_inj.mp
      rw [nI_toInt (by omega)]
      omega
    · exact Or.inl (Or.inr (Int32.le_iff_toInt_le.mpr (by rw [nI_toInt hm]; exact q)))
theorem z_lt {z : Int32} {m : Nat} (hm : m + 1 < 2 ^ 31) (h : z < 0 ∨ nI (m + 1) ≤ z) : z < nI 0 ∨ nI m < z := by
  rcases h with h | h
  · exact Or.inl h
  · refine Or.inr (Int32.lt_iff_toInt_lt.mpr ?_)
    have q := Int32.le_iff_toInt_le.mp h
    rw [nI_toInt hm] at q
    rw [nI_toInt (by omega)]
    omega
theorem z_nat (z : Int32) : ∃ k, k < 2 ^ 32 ∧ z = nI k := by
  refine ⟨z.toBitVec.toNat, z.toBitVec.isLt, ?_⟩
  apply Int32.toBitVec_inj.mp
  apply BitVec.eq_of_toNat_eq
  show _ = (BitVec.ofNat 32 z.toBitVec.toNat).toNat
  simp
theorem l_go {L i : Nat} (hL : L ≤ 3075) (hi : i ≤ 6000) (h : ¬ nI L - nI 6 < nI i) : i + 6 ≤ L := by
  rcases Nat.lt_or_ge L (i + 6) with q | q
  · exfalso
    refine h (Int32.lt_iff_toInt_lt.mpr ?_)
    rw [pk_sub_toInt (by omega) (by omega), nI_toInt (by omega)]
    omega
  · exact q
/-- a slot, seen by both -/
def Sl (i PN PT : Nat) (pd pq pm : Nat → Nat) (fx : Nat → Int32) (pn vn : Nat) (pf : Nat → Nat) (fv : Nat → Int32) : Prop :=
  pn ≤ PN ∧ vn ≤ 2 * PT ∧ Rq i pn pd pf pm ∧ Rv i vn pq fv fx ∧ (∀ j, pf j < 2 ^ 32) ∧ (∀ j, j < vn → fvOk (fv j)) ∧ (pn = 0 ∨ ∃ J N q0, gOK pf J N pn q0 ∧ vn = 2 * q0 ∧ N ≤ 65536)
section SL
variable {i PN PT : Nat} {pd pq pm : Nat → Nat} {fx : Nat → Int32} {pn vn : Nat} {pf : Nat → Nat} {fv : Nat → Int32}
theorem Sl_fr {sl : Nat} {pd1 pq1 pm1 : Nat → Nat} {fx1 : Nat → Int32} (h : Sl i PN PT pd pq pm fx pn vn pf fv) (hi : i ≠ sl) (hPN : PN ≤ 4096) (hPT : PT ≤ 4096) (h1 : kq sl pq pq1) (h2 : kx sl fx fx1) (h3 : kq sl pd pd1) (h4 : km sl pm pm1) : Sl i PN PT pd1 pq1 pm1 fx1 pn vn pf fv := by
  obtain ⟨a1, a2, ⟨a3, a4⟩, ⟨a5, a6⟩, a7, a8, a9⟩ := h
  refine ⟨a1, a2, ⟨by rw [h3 i hi]; exact a3, fun j hj => ?_⟩, ⟨by rw [h1 i hi]; exact a5, fun j hj => ?_⟩, a7, a8, a9⟩
  · rw [h4 _ (by omega)]; exact a4 j hj
  · rw [h2 _ (by omega)]; exact a6 j hj
theorem Sl_0 (h : ∀ j, pf j < 2 ^ 32) (hd : pd i = 0) (hq : pq i = 0) : Sl i PN PT pd pq pm fx 0 0 pf fv :=
  ⟨Nat.zero_le _, Nat.zero_le _, ⟨hd.symm, fun j hj => absurd hj (Nat.not_lt_zero _)⟩, ⟨by rw [hq], fun j hj => absurd hj (Nat.not_lt_zero _)⟩, h, fun j hj => absurd hj (Nat.not_lt_zero _), Or.inl rfl⟩
theorem Sl_0' (h : ∀ j, pf j < 2 ^ 32) : Sl i PN PT (va_up pd i 0) (va_up pq i 0) pm fx 0 0 pf fv := Sl_0 h (va_up_self _ _ _) (va_up_self _ _ _)
theorem Sl_pd (h : Sl i PN PT pd pq pm fx pn vn pf fv) : pd i = pn := h.2.2.1.1.symm
theorem Sl_pq (h : Sl i PN PT pd pq pm fx pn vn pf fv) : pq i = vn / 2 := by have := h.2.2.2.1.1; omega
theorem Sl_vn (h : Sl i PN PT pd pq pm fx pn vn pf fv) : vn = 2 * (vn / 2) := by have := h.2.2.2.1.1; omega
theorem Sl_pm (h : Sl i PN PT pd pq pm fx pn vn pf fv) {j : Nat} (hj : j < pn) : pm (4096 * i + j) = pf j := (h.2.2.1.2 j hj).symm
theorem Sl_fx (h : Sl i PN PT pd pq pm fx pn vn pf fv) {j : Nat} (hj : j < vn) : fx (8192 * i + j) = fv j := (h.2.2.2.1.2 j hj).symm
theorem like_1 {k k2 pn2 vn2 : Nat} {pf2 : Nat → Nat} {fv2 : Nat → Int32} (h : Sl k PN PT pd pq pm fx pn vn pf fv) (h2 : Sl k2 PN PT pd pq pm fx pn2 vn2 pf2 fv2) (hl : liken pn pn2 (iF pf) (iF pf2) vn vn2 fv fv2) :
    pd k = pd k2 ∧ pq k = pq k2 ∧ (∀ j, j < pd k2 → iF pm (4096 * k + j) = iF pm (4096 * k2 + j)) ∧ ∀ j, j < 2 * pq k2 → fx (8192 * k + j) = fx (8192 * k2 + j) := by
  obtain ⟨l1, l2, l3, l4⟩ := hl
  have e1 := Sl_pd h
  have e2 := Sl_pd h2
  have e3 := Sl_pq h
  have e4 := Sl_pq h2
  have e5 := Sl_vn h2
  refine ⟨by omega, by omega, fun j hj => ?_, fun j hj => ?_⟩
  · have q := l2 j (by omega)
    show nI (pm (4096 * k + j)) = nI (pm (4096 * k2 + j))
    rw [Sl_pm h (by omega), Sl_pm h2 (by omega)]
    exact q
  · have q := l4 j (by omega)
    rw [Sl_fx h (by omega), Sl_fx h2 (by omega)]
    exact q
theorem like_0 {k k2 pn2 vn2 : Nat} {pf2 : Nat → Nat} {fv2 : Nat → Int32} (h : Sl k PN PT pd pq pm fx pn vn pf fv) (h2 : Sl k2 PN PT pd pq pm fx pn2 vn2 pf2 fv2) (hl : ¬ liken pn pn2 (iF pf) (iF pf2) vn vn2 fv fv2) :
    ¬ (pd k = pd k2 ∧ pq k = pq k2 ∧ (∀ j, j < pd k → iF pm (4096 * k + j) = iF pm (4096 * k2 + j)) ∧ ∀ j, j < 2 * pq k → fx (8192 * k + j) = fx (8192 * k2 + j)) := by
  intro hc
  obtain ⟨l1, l2, l3, l4⟩ := hc
  have e1 := Sl_pd h
  have e2 := Sl_pd h2
  have e3 := Sl_pq h
  have e4 := Sl_pq h2
  have e5 := Sl_vn h2
  have e6 := Sl_vn h
  refine hl ⟨by omega, fun j hj => ?_, by omega, fun j hj => ?_⟩
  · have q : nI (pm (4096 * k + j)) = nI (pm (4096 * k2 + j)) := l3 j (by omega)
    rw [Sl_pm h (by omega), Sl_pm h2 (by omega)] at q
    exact q
  · have q := l4 j (by omega)
    rw [Sl_fx h (by omega), Sl_fx h2 (by omega)] at q
    exact q
end SL
/-! bytes stay bytes -/
theorem cpy_lt {f g : Nat → Nat} (hf : ∀ j, f j < 256) (hg : ∀ j, g j < 256) (sp dp n : Nat) : ∀ j, va_cpy f g sp dp n j < 256 := by
  intro j
  simp only [va_cpy]
  split
  · exact hf _
  · exact hg _
theorem wCo_lt {fv : Nat → Int32} {u lo n q : Nat} {b : Nat → Nat} (hb : ∀ j, b j < 256) : ∀ c j, wCo fv u lo b n q c j < 256
  | 0, j => hb j
  | c + 1, j => pA_lt (pA_lt (wCo_lt hb c) _ _ _ _ _) _ _ _ _ _ j
theorem wRi_lt {pf : Nat → Nat} {fv : Nat → Int32} {u lo : Nat} {y : wrS} (hb : ∀ j, y.1 j < 256) : ∀ r j, (wRi pf fv u lo y r).1 j < 256
  | 0, j => hb j
  | r + 1, j => wCo_lt (pA_lt (wRi_lt hb r) _ _ _ _ _) _ j
theorem wSt_lt {pf : Nat → Nat} {fv : Nat → Int32} {u lo n i q : Nat} {b : Nat → Nat} (hb : ∀ j, b j < 256) : ∀ j, (wSt pf fv u lo b n i q).1 j < 256 := by
  have hh : ∀ j, wHd pf lo b n i j < 256 := pA_lt (pA_lt hb _ _ _ _ _) _ _ _ _ _
  have h4 : ∀ j, pA (wHd pf lo b n i) (n + 1 + 4) (pf (i + 1)) 4 lo 4 j < 256 := pA_lt hh _ _ _ _ _
  unfold wSt
  by_cases h1 : pf i = 1
  · rw [if_pos h1]
    by_cases h0 : pf (i + 1) = 0
    · rw [if_pos h0]; exact pA_lt (pA_lt hh _ _ _ _ _) _ _ _ _ _
    · rw [if_neg h0]; exact wCo_lt hh 1
  rw [if_neg h1]
  by_cases h2 : pf i = 2
  · rw [if_pos h2]; exact wCo_lt h4 _
  rw [if_neg h2]
  by_cases h3 : pf i = 3
  · rw [if_pos h3]; exact wRi_lt (y := (_, _, _, _)) h4 _
  rw [if_neg h3]; exact h4
theorem wIt_lt {pf : Nat → Nat} {fv : Nat → Int32} {u lo : Nat} {b : Nat → Nat} (hb : ∀ j, b j < 256) : ∀ J j, (wIt pf fv u lo (b, 0, 0, 0) J).1 j < 256
  | 0, j => hb j
  | J + 1, j => by
    have h := wIt_lt (pf := pf) (fv := fv) (u := u) (lo := lo) hb J
    obtain ⟨⟨b1, n1, i1, q1⟩, hz⟩ : ∃ z, z = wIt pf fv u lo (b, 0, 0, 0) J := ⟨_, rfl⟩
    show (wSy pf fv u lo (wIt pf fv u lo (b, 0, 0, 0) J)).1 j < 256
    rw [← hz] at h ⊢
    exact wSt_lt h j
theorem pf_le {pf : Nat → Nat} {J N pn q0 : Nat} (h : gOK pf J N pn q0) (hp : 2 ≤ pn) : pf 0 ≤ 7 := by
  rcases Nat.eq_zero_or_pos J with z | z
  · subst z
    have e : (0, 0, 0) = (N, pn, q0) := h.1
    cases e
    omega
  · exact (h.2 0 z).2.1
