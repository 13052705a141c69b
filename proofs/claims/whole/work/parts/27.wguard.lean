/-! a whole plan can be written -/
theorem wRi_idx (pf : Nat → Nat) (fv : Nat → Int32) (u lo : Nat) (b : Nat → Nat) (n i q : Nat) : ∀ r, (wRi pf fv u lo (b, n, i, q) r).2 = (n + (4 * r + 16 * rSum pf i r), i + r, q + rSum pf i r)
  | 0 => rfl
  | r + 1 => by
    have h := wRi_idx pf fv u lo b n i q r
    have h1 : (wRi pf fv u lo (b, n, i, q) r).2.1 = n + (4 * r + 16 * rSum pf i r) := by rw [h]
    have h2 : (wRi pf fv u lo (b, n, i, q) r).2.2.1 = i + r := by rw [h]
    have h3 : (wRi pf fv u lo (b, n, i, q) r).2.2.2 = q + rSum pf i r := by rw [h]
    show ((wRi pf fv u lo (b, n, i, q) r).2.1 + 4 + 16 * pf (wRi pf fv u lo (b, n, i, q) r).2.2.1, (wRi pf fv u lo (b, n, i, q) r).2.2.1 + 1, (wRi pf fv u lo (b, n, i, q) r).2.2.2 + pf (wRi pf fv u lo (b, n, i, q) r).2.2.1) = (n + (4 * (r + 1) + 16 * (rSum pf i r + pf (i + r))), i + (r + 1), q + (rSum pf i r + pf (i + r)))
    rw [h1, h2, h3]
    refine Prod.ext ?_ (Prod.ext ?_ ?_)
    · show n + (4 * r + 16 * rSum pf i r) + 4 + 16 * pf (i + r) = n + (4 * (r + 1) + 16 * (rSum pf i r + pf (i + r)))
      omega
    · show i + r + 1 = i + (r + 1)
      omega
    · show q + rSum pf i r + pf (i + r) = q + (rSum pf i r + pf (i + r))
      omega
theorem wSt_idx (pf : Nat → Nat) (fv : Nat → Int32) (u lo : Nat) (b : Nat → Nat) (n i q : Nat) : (wSt pf fv u lo b n i q).2 = gSt pf (n, i, q) := by
  unfold wSt
  rw [gSt_eq]
  by_cases h1 : pf i = 1
  · rw [if_pos h1, if_pos h1]
    by_cases h0 : pf (i + 1) = 0
    · rw [if_pos h0, if_pos h0]
    · rw [if_neg h0, if_neg h0]
  · rw [if_neg h1, if_neg h1]
    by_cases h2 : pf i = 2
    · rw [if_pos h2, if_pos h2]
    · rw [if_neg h2, if_neg h2]
      by_cases h3 : pf i = 3
      · rw [if_pos h3, if_pos h3]
        exact wRi_idx pf fv u lo _ (n + 9) (i + 2) q (pf (i + 1))
      · rw [if_neg h3, if_neg h3]
theorem wIt_idx (pf : Nat → Nat) (fv : Nat → Int32) (u lo : Nat) (b : Nat → Nat) : ∀ j, (wIt pf fv u lo (b, 0, 0, 0) j).2 = gIt pf j
  | 0 => rfl
  | j + 1 => by
    have h := wIt_idx pf fv u lo b j
    obtain ⟨⟨b1, n1, i1, q1⟩, hz⟩ : ∃ z, z = wIt pf fv u lo (b, 0, 0, 0) j := ⟨_, rfl⟩
    show (wSy pf fv u lo (wIt pf fv u lo (b, 0, 0, 0) j)).2 = gSt pf (gIt pf j)
    rw [← h, ← hz]
    exact wSt_idx pf fv u lo b1 n1 i1 q1
theorem rSum_mono (pf : Nat → Nat) (i : Nat) : ∀ (k j : Nat), j ≤ k → rSum pf i j ≤ rSum pf i k
  | 0, j, h => by
    have e : j = 0 := by omega
    subst e
    exact Nat.le_refl _
  | k + 1, j, h => by
    by_cases e : j = k + 1
    · subst e
      exact Nat.le_refl _
    · have h2 := rSum_mono pf i k j (by omega)
      show rSum pf i j ≤ rSum pf i k + pf (i + k)
      omega
theorem w_gd {pf : Nat → Nat} {fv : Nat → Int32} {u lo pn vh J N : Nat} {b : Nat → Nat} (hg : gOK pf J N pn vh) (hN : N ≤ 65536) (hpf : ∀ j, pf j < 2 ^ 32) :
    (∀ j, j < J → wSgy pf fv u lo pn vh (wIt pf fv u lo (b, 0, 0, 0) j)) ∧ (∃ bf, wIt pf fv u lo (b, 0, 0, 0) J = (bf, N, pn, vh)) ∧ J ≤ pn := by
  refine ⟨fun j hj => ?_, ?_, ?_⟩
  · have h1 := wIt_idx pf fv u lo b j
    obtain ⟨⟨b1, n, i, q⟩, hz⟩ : ∃ z, z = wIt pf fv u lo (b, 0, 0, 0) j := ⟨_, rfl⟩
    rw [← hz] at h1 ⊢
    have h1 : (n, i, q) = gIt pf j := h1
    have hk := hg.2 j hj
    have hm := gIt_mono pf J (j + 1) (by omega)
    rw [hg.1] at hm
    rw [← h1] at hk
    have hs : gIt pf (j + 1) = gSt pf (n, i, q) := by rw [h1]; rfl
    rw [hs] at hm
    have hi := gSt_i pf n i q
    obtain ⟨m1, m2, m3⟩ := hm
    have m1 : (gSt pf (n, i, q)).2.1 ≤ pn := m1
    have m2 : (gSt pf (n, i, q)).1 ≤ N := m2
    have m3 : (gSt pf (n, i, q)).2.2 ≤ vh := m3
    have hk1 : 1 ≤ pf i := hk.1
    have hk7 : pf i ≤ 7 := hk.2.1
    show wSg pf fv u lo pn vh b1 n i q
    have n9 : n + 9 ≤ 65536 := by
      rw [gSt_eq] at m2
      by_cases e1 : pf i = 1
      · rw [if_pos e1] at m2
        have m2 : n + 21 ≤ N := m2
        omega
      · rw [if_neg e1] at m2
        by_cases e2 : pf i = 2
        · rw [if_pos e2] at m2
          have m2 : n + 9 + 16 * pf (i + 1) ≤ N := m2
          omega
        · rw [if_neg e2] at m2
          by_cases e3 : pf i = 3
          · rw [if_pos e3] at m2
            have m2 : n + 9 + (4 * pf (i + 1) + 16 * rSum pf (i + 2) (pf (i + 1))) ≤ N := m2
            omega
          · rw [if_neg e3] at m2
            have m2 : n + 9 ≤ N := m2
            omega
    refine ⟨by omega, hk7, hpf _, n9, fun e1 => ?_, fun e2 => ?_, fun e3 r hr => ?_⟩
    · rw [gSt_eq] at m2 m3
      rw [if_pos e1] at m2 m3
      have m2 : n + 21 ≤ N := m2
      have m3 : (if pf (i + 1) = 0 then q else q + 1) ≤ vh := m3
      refine ⟨by omega, ?_⟩
      by_cases e0 : pf (i + 1) = 0
      · exact Or.inl e0
      · rw [if_neg e0] at m3
        exact Or.inr m3
    · rw [gSt_eq] at m2 m3
      rw [if_neg (by omega), if_pos e2] at m2 m3
      have m2 : n + 9 + 16 * pf (i + 1) ≤ N := m2
      have m3 : q + pf (i + 1) ≤ vh := m3
      exact ⟨m3, by omega⟩
    · rw [gSt_eq] at m1 m2 m3
      rw [if_neg (by omega), if_neg (by omega), if_pos e3] at m1 m2 m3
      have m1 : i + 2 + pf (i + 1) ≤ pn := m1
      have m2 : n + 9 + (4 * pf (i + 1) + 16 * rSum pf (i + 2) (pf (i + 1))) ≤ N := m2
      have m3 : q + rSum pf (i + 2) (pf (i + 1)) ≤ vh := m3
      have s1 := rSum_mono pf (i + 2) (pf (i + 1)) (r + 1) (by omega)
      have s1 : rSum pf (i + 2) r + pf (i + 2 + r) ≤ rSum pf (i + 2) (pf (i + 1)) := s1
      have hx := wRi_idx pf fv u lo (pA (wHd pf lo b1 n i) (n + 1 + 4) (pf (i + 1)) 4 lo 4) (n + 1 + 4 + 4) (i + 1 + 1) q r
      unfold wRg
      rw [hx]
      have hz1 : i + 1 + 1 + r = i + 2 + r := by omega
      refine ⟨?_, ?_, ?_⟩
      · show i + 1 + 1 + r < pn
        omega
      · show q + rSum pf (i + 1 + 1) r + pf (i + 1 + 1 + r) ≤ vh
        have : rSum pf (i + 1 + 1) r = rSum pf (i + 2) r := rfl
        rw [hz1, this]
        omega
      · show n + 1 + 4 + 4 + (4 * r + 16 * rSum pf (i + 1 + 1) r) + 4 + 16 * pf (i + 1 + 1 + r) ≤ 65536
        have : rSum pf (i + 1 + 1) r = rSum pf (i + 2) r := rfl
        rw [hz1, this]
        omega
  · have h1 := wIt_idx pf fv u lo b J
    rw [hg.1] at h1
    obtain ⟨⟨b1, n, i, q⟩, hz⟩ : ∃ z, z = wIt pf fv u lo (b, 0, 0, 0) J := ⟨_, rfl⟩
    rw [← hz] at h1 ⊢
    have h1 : (n, i, q) = (N, pn, vh) := h1
    cases h1
    exact ⟨b1, rfl⟩
  · have h := gIt_le pf J
    rw [hg.1] at h
    have h : 2 * J ≤ pn := h
    omega
theorem w_pt {pf : Nat → Nat} {fv : Nat → Int32} {u lo pn vh J N : Nat} {b : Nat → Nat} (hg : gOK pf J N pn vh) : ∀ j, j < J → 1 ≤ pf (wIt pf fv u lo (b, 0, 0, 0) j).2.2.1 ∧ (pf (wIt pf fv u lo (b, 0, 0, 0) j).2.2.1 = 1 → pf ((wIt pf fv u lo (b, 0, 0, 0) j).2.2.1 + 1) ≤ 1) := by
  intro j hj
  rw [wIt_idx pf fv u lo b j]
  exact ⟨(hg.2 j hj).1, (hg.2 j hj).2.2⟩
