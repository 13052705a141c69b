set_option maxRecDepth 100000 in
set_option maxHeartbeats 4000000 in
theorem law_loop {p : Program} {l : Launch} {e : Env} {s : State} {m : MethodId} {below : List Frame} {meth : Method} {c : Code} {D : va_G} {cI cB cJ cS : ClassId} {A : Nat → Prop} {bs L : Nat} {xs : Nat → Int32} {x sa a ab rs rsb sh0 sn0 sv0 sh1 sn1 sv1 sh2 sn2 sv2 sh3 sn3 sv3 rd jl jd wt mm ma mb mc md me mf mg mh o dg PT PN : Nat} {f : Nat → Option Nat} (C0 : lwC p s m meth c D cI cB cJ cS A bs L xs x sa a ab rs rsb sh0 sn0 sv0 sh1 sn1 sv1 sh2 sn2 sv2 sh3 sn3 sv3 rd jl jd wt mm ma mb mc md me mf mg mh o dg PT PN f) (hA0 : ∀ q, A q → s.heap.size ≤ q) (hr : meth.sig.returnType = ret) (hl9 : l.stackTraces = false) (hL : L ≤ 3075) : ∀ k i9 C9 S9, L - i9 < k → i9 ≤ 6000 → C9 + (L - i9) ≤ 601024 → S9 + (L - i9) ≤ 7293000 → lwK p l e s m below meth c D cI cB cJ cS A bs x sa a ab rs rsb sh0 sn0 sv0 sh1 sn1 sv1 sh2 sn2 sv2 sh3 sn3 sv3 rd jl jd wt mm ma mb mc md me mf mg mh o dg PT PN f 53 i9 C9 S9 := by
  intro k
  induction k with
  | zero =>
    intro i9 C9 S9 h
    exact absurd h (Nat.not_lt_zero _)
  | succ k ih =>
    intro i9 C9 S9 hk hi hc9 hs9 n b sz rb pn0 vn0 pf0 fv0 pn1 vn1 pf1 fv1 pn2 vn2 pf2 fv2 pn3 vn3 pf3 fv3 w tc lc wr pl cl cd vo wo so ro zo zp zq th od sl tm lm nm pm pd pq ok ol fx vz fo hLI H locs ls hP hD hS hl
    obtain ⟨hx, hb, hml, hown, hts, hX, hbl, hbA, hA, hlocks, hK, hZ, hf0, hf1, hf2, hf3, hPN, hPT, hPT1, hdg⟩ := id C0
    refine lv_iload hx hb dL_law_53 (lv_at hl 4 rfl) ?_
    refine lv_aload_n hx hb dL_law_55 rfl (lv_at hl 0 rfl) ?_
    refine va_slen hx hb hX hbl hbA hS dL_law_56 ?_
    refine lv_bipush (v := nI 6) hx hb dL_law_57 (by decide) ?_
    refine lv_isub hx hb dL_law_59 ?_
    refine lv_icmp_gt (tgt := 834) hx hb dL_law_60 (by decide) (fun h => ?_) (fun h => ?_)
    · refine lv_iconst (v := 1) hx hb dL_law_834 (by decide) ?_
      refine va_forget (fun q hq => hA0 _ (hS.2.2 q hq)) ?_
      refine W.widen (k := 601024) (n := 7293000) (by omega) (by omega) ?_
      exact lw_ret hx hb hr hlocks dL_law_835
    · have h6 := l_go hL hi h
      have K : lwK p l e s m below meth c D cI cB cJ cS A bs x sa a ab rs rsb sh0 sn0 sv0 sh1 sn1 sv1 sh2 sn2 sv2 sh3 sn3 sv3 rd jl jd wt mm ma mb mc md me mf mg mh o dg PT PN f 828 i9 (C9 + 1) (S9 + 6) := by
        intro n b sz rb pn0 vn0 pf0 fv0 pn1 vn1 pf1 fv1 pn2 vn2 pf2 fv2 pn3 vn3 pf3 fv3 w tc lc wr pl cl cd vo wo so ro zo zp zq th od sl tm lm nm pm pd pq ok ol fx vz fo hLI H locs ls hP hD hS hl
        refine lv_iinc (v := nI (i9 + 6)) (lv' := [(4, .int (nI (i9 + 6))), (0, .ref bs), (1, .ref x), (2, .ref mm), (3, .ref o)]) hx hb dL_law_828 hl (k := 4) rfl (nI_add _ _) (by decide) rfl (fun ls hl => ?_)
        refine lv_goto (tgt := 53) hx hb dL_law_831 (by decide) ?_
        exact ih (i9 + 6) _ _ (by omega) (by omega) (by omega) (by omega) n b sz rb pn0 vn0 pf0 fv0 pn1 vn1 pf1 fv1 pn2 vn2 pf2 fv2 pn3 vn3 pf3 fv3 w tc lc wr pl cl cd vo wo so ro zo zp zq th od sl tm lm nm pm pd pq ok ol fx vz fo hLI H locs ls hP hD hS (lv_sub hl [1, 2, 3, 4, 0] rfl)
      refine lv_aload_n hx hb dL_law_63 rfl (lv_at hl 0 rfl) ?_
      refine lv_iload hx hb dL_law_64 (lv_at hl 4 rfl) ?_
      refine va_sld hx hb hX hbl hbA hS (vp_in_nI (by omega) (by omega)) dL_law_66 ?_
      refine lv_bipush (v := nI 15) hx hb dL_law_67 (by decide) ?_
      refine lv_iand hx hb dL_law_69 ?_
      refine k_i (show _ = nI ((xs (nI i9).toNatClampNeg).toBitVec.toNat % 2 ^ 4) from pk_and _ 4 (by decide)) ?_
      have hv9 : (xs (nI i9).toNatClampNeg).toBitVec.toNat % 2 ^ 4 < 16 := Nat.mod_lt _ (by decide)
      generalize (xs (nI i9).toNatClampNeg).toBitVec.toNat % 2 ^ 4 = v9 at hv9 ⊢
      rcases (show v9 = 0 ∨ v9 = 1 ∨ v9 = 2 ∨ v9 = 3 ∨ v9 = 4 ∨ v9 = 5 ∨ v9 = 6 ∨ v9 = 7 ∨ v9 = 8 ∨ v9 = 9 ∨ v9 = 10 ∨ 11 ≤ v9 by omega) with rfl | rfl | rfl | rfl | rfl | rfl | rfl | rfl | rfl | rfl | rfl | h11
      · refine lv_tableIn (off := 58) (tgt := 128) hx hb dL_law_70 (by decide) (by decide) (by decide) (by decide) ?_
        exact lw_feed C0 hl9 hL h6 (by omega) (by omega) K n b sz rb pn0 vn0 pf0 fv0 pn1 vn1 pf1 fv1 pn2 vn2 pf2 fv2 pn3 vn3 pf3 fv3 w tc lc wr pl cl cd vo wo so ro zo zp zq th od sl tm lm nm pm pd pq ok ol fx vz fo hLI H locs ls hP hD hS hl
      · refine lv_tableIn (off := 162) (tgt := 232) hx hb dL_law_70 (by decide) (by decide) (by decide) (by decide) ?_
        exact lw_end C0 hl9 hL h6 (by omega) (by omega) K n b sz rb pn0 vn0 pf0 fv0 pn1 vn1 pf1 fv1 pn2 vn2 pf2 fv2 pn3 vn3 pf3 fv3 w tc lc wr pl cl cd vo wo so ro zo zp zq th od sl tm lm nm pm pd pq ok ol fx vz fo hLI H locs ls hP hD hS hl
      · refine lv_tableIn (off := 218) (tgt := 288) hx hb dL_law_70 (by decide) (by decide) (by decide) (by decide) ?_
        exact lw_read C0 hl9 hL h6 (by omega) (by omega) K n b sz rb pn0 vn0 pf0 fv0 pn1 vn1 pf1 fv1 pn2 vn2 pf2 fv2 pn3 vn3 pf3 fv3 w tc lc wr pl cl cd vo wo so ro zo zp zq th od sl tm lm nm pm pd pq ok ol fx vz fo hLI H locs ls hP hD hS hl
      · refine lv_tableIn (off := 274) (tgt := 344) hx hb dL_law_70 (by decide) (by decide) (by decide) (by decide) ?_
        exact lw_fault C0 hl9 hL h6 (by omega) (by omega) K n b sz rb pn0 vn0 pf0 fv0 pn1 vn1 pf1 fv1 pn2 vn2 pf2 fv2 pn3 vn3 pf3 fv3 w tc lc wr pl cl cd vo wo so ro zo zp zq th od sl tm lm nm pm pd pq ok ol fx vz fo hLI H locs ls hP hD hS hl
      · refine lv_tableIn (off := 330) (tgt := 400) hx hb dL_law_70 (by decide) (by decide) (by decide) (by decide) ?_
        exact lw_write C0 hl9 hL h6 (by omega) (by omega) K n b sz rb pn0 vn0 pf0 fv0 pn1 vn1 pf1 fv1 pn2 vn2 pf2 fv2 pn3 vn3 pf3 fv3 w tc lc wr pl cl cd vo wo so ro zo zp zq th od sl tm lm nm pm pd pq ok ol fx vz fo hLI H locs ls hP hD hS hl
      · refine lv_tableIn (off := 398) (tgt := 468) hx hb dL_law_70 (by decide) (by decide) (by decide) (by decide) ?_
        exact lw_again C0 hl9 hL h6 (by omega) (by omega) K n b sz rb pn0 vn0 pf0 fv0 pn1 vn1 pf1 fv1 pn2 vn2 pf2 fv2 pn3 vn3 pf3 fv3 w tc lc wr pl cl cd vo wo so ro zo zp zq th od sl tm lm nm pm pd pq ok ol fx vz fo hLI H locs ls hP hD hS hl
      · refine lv_tableIn (off := 411) (tgt := 481) hx hb dL_law_70 (by decide) (by decide) (by decide) (by decide) ?_
        exact lw_same C0 hl9 hL h6 (by omega) (by omega) K n b sz rb pn0 vn0 pf0 fv0 pn1 vn1 pf1 fv1 pn2 vn2 pf2 fv2 pn3 vn3 pf3 fv3 w tc lc wr pl cl cd vo wo so ro zo zp zq th od sl tm lm nm pm pd pq ok ol fx vz fo hLI H locs ls hP hD hS hl
      · refine lv_tableIn (off := 486) (tgt := 556) hx hb dL_law_70 (by decide) (by decide) (by decide) (by decide) ?_
        exact lw_plan C0 hl9 hL h6 (by omega) (by omega) K n b sz rb pn0 vn0 pf0 fv0 pn1 vn1 pf1 fv1 pn2 vn2 pf2 fv2 pn3 vn3 pf3 fv3 w tc lc wr pl cl cd vo wo so ro zo zp zq th od sl tm lm nm pm pd pq ok ol fx vz fo hLI H locs ls hP hD hS hl
      · refine lv_tableIn (off := 554) (tgt := 624) hx hb dL_law_70 (by decide) (by decide) (by decide) (by decide) ?_
        exact lw_ordinate C0 hl9 hL h6 (by omega) (by omega) K n b sz rb pn0 vn0 pf0 fv0 pn1 vn1 pf1 fv1 pn2 vn2 pf2 fv2 pn3 vn3 pf3 fv3 w tc lc wr pl cl cd vo wo so ro zo zp zq th od sl tm lm nm pm pd pq ok ol fx vz fo hLI H locs ls hP hD hS hl
      · refine lv_tableIn (off := 634) (tgt := 704) hx hb dL_law_70 (by decide) (by decide) (by decide) (by decide) ?_
        exact lw_byteAt C0 hl9 hL h6 (by omega) (by omega) K n b sz rb pn0 vn0 pf0 fv0 pn1 vn1 pf1 fv1 pn2 vn2 pf2 fv2 pn3 vn3 pf3 fv3 w tc lc wr pl cl cd vo wo so ro zo zp zq th od sl tm lm nm pm pd pq ok ol fx vz fo hLI H locs ls hP hD hS hl
      · refine lv_tableIn (off := 690) (tgt := 760) hx hb dL_law_70 (by decide) (by decide) (by decide) (by decide) ?_
        exact lw_count C0 hl9 hL h6 (by omega) (by omega) K n b sz rb pn0 vn0 pf0 fv0 pn1 vn1 pf1 fv1 pn2 vn2 pf2 fv2 pn3 vn3 pf3 fv3 w tc lc wr pl cl cd vo wo so ro zo zp zq th od sl tm lm nm pm pd pq ok ol fx vz fo hLI H locs ls hP hD hS hl
      · refine lv_tableOut (tgt := 828) hx hb dL_law_70 (Or.inr (by rw [nI_toInt (by omega)]; omega)) (by decide) ?_
        refine W.widen (k := C9 + 1) (n := S9 + 6) (by omega) (by omega) ?_
        exact K n b sz rb pn0 vn0 pf0 fv0 pn1 vn1 pf1 fv1 pn2 vn2 pf2 fv2 pn3 vn3 pf3 fv3 w tc lc wr pl cl cd vo wo so ro zo zp zq th od sl tm lm nm pm pd pq ok ol fx vz fo hLI H locs ls hP hD hS hl

