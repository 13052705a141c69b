set_option maxRecDepth 100000 in
set_option maxHeartbeats 4000000 in
theorem c_M_rings (l : Launch) (D : va_G) (cI cB cJ cS : ClassId) (mm ma mb mc md me mf mg mh th dg PT PN n sz od sl t wr pl lo nm : Nat) (b pm pd pq rb ok ol : Nat → Nat) (fx : Nat → Int32) (vz : Int32) (ht : t ≤ n) (hn : n ≤ 65536) (hlo2 : lo < 2) (hb256 : ∀ j, b j < 256) (hsl : sl < 4) (hpd : pd sl ≤ PN) (hPN : PN ≤ 4096) (hpq : pq sl ≤ PT) (hPT : PT ≤ 4096) (hdg : dg < 4) (c9 y : Nat) (hc9 : c9 < 2 ^ 32) (hy : y < 4096) (k1 t1 wr1 pl1 nm1 : Nat) (vz1 : Int32) (pq1 : Nat → Nat) (fx1 : Nat → Int32) (pd1 pm1 : Nat → Nat) (hs : mRs b n (uD dg) PT PN sl lo c9 (t, wr, pl, nm, vz, pq, fx, pd, pm) = (k1, t1, wr1, pl1, nm1, vz1, pq1, fx1, pd1, pm1)) (pm2 : Nat → Nat) (hpm : pm2 = if k1 = 0 then pm1 else va_up pm1 (4096 * sl + y) c9)  : kM l yX7_rings vsX7_rings ({ frames := 4, cells := 0, slots := 0, locals := 98 }) D (kT cI cB cJ cS) [.ref mm, .long (lN c9), .int (nI y)] [(mm, .inr (5, [.int (nI th), .int (nI dg), .int (nI PT), .int (nI PN), .int (nI n), .ref ma, .ref mb, .ref mc, .ref md, .ref me, .int (nI sz), .ref mf, .int (nI od), .int (nI sl), .int (nI t), .int (nI wr), .int (nI pl), .int (nI lo), .long (lN nm), .int vz, .ref mg, .ref mh])), (ma, .inl (cI, 65536, .inl (iF b))), (mb, .inl (cI, 16384, .inl (iF pm))), (mc, .inl (cI, 4, .inl (iF pd))), (md, .inl (cI, 32768, .inl fx)), (me, .inl (cI, 4, .inl (iF pq)))] (kQi D (kT cI cB cJ cS) (fun r (ug : Unit) => r = nI k1) (fun ug => [(mm, .inr (5, [.int (nI th), .int (nI dg), .int (nI PT), .int (nI PN), .int (nI n), .ref ma, .ref mb, .ref mc, .ref md, .ref me, .int (nI sz), .ref mf, .int (nI od), .int (nI sl), .int (nI t1), .int (nI wr1), .int (nI pl1), .int (nI lo), .long (lN nm1), .int vz1, .ref mg, .ref mh])), (ma, .inl (cI, 65536, .inl (iF b))), (mb, .inl (cI, 16384, .inl (iF pm2))), (mc, .inl (cI, 4, .inl (iF pd1))), (md, .inl (cI, 32768, .inl fx1)), (me, .inl (cI, 4, .inl (iF pq1)))])) := by
  refine k_ofW (by decide) rfl (Nat.le_of_ble_eq_true rfl) ?_
  intro p e s m below meth c A ls hx hb hr hts hown hlocks hmn hml hA hP hK hD hS hZ hl
  have inX7 : ∀ w ∈ wsX70, w ∈ vsX7_rings := fun w h => List.mem_cons_of_mem _ (iaX7 w h)
  have F : CallFix p m c cX7_rings 6 s _ vsX7_rings RX7 := ⟨hx, hb, hml, hown, hts⟩
  have hl : lv_has ls 6 [(0, .ref mm), (1, .long (lN c9)), (3, .int (nI y))] := hl
  refine lv_lconst (v := lN 0) hx hb dX7_rings_0 (by decide) ?_
  refine lv_lstore (lv' := [(4, .long (lN 0)), (0, .ref mm), (1, .long (lN c9)), (3, .int (nI y))]) hx hb dX7_rings_1 hl (by decide) rfl (fun ls hl => ?_)
  have loop365 : ∀ (k366 : Nat) (k : Nat) (t : Nat) (wr : Nat) (pl : Nat) (nm : Nat) (vz : Int32) (pq : Nat → Nat) (fx : Nat → Int32) (pd : Nat → Nat) (pm : Nat → Nat) (H : Heap) (locs : List Loc) (ls : Array Slot), c9 - k < k366 → (k ≤ c9) → (t ≤ n) → (pq sl ≤ PT) → (pd sl ≤ PN) → (mRs b n (uD dg) PT PN sl lo (c9 - k) (t, wr, pl, nm, vz, pq, fx, pd, pm) = (k1, t1, wr1, pl1, nm1, vz1, pq1, fx1, pd1, pm1)) → va_P D kCl [(mm, .inr (5, [.int (nI th), .int (nI dg), .int (nI PT), .int (nI PN), .int (nI n), .ref ma, .ref mb, .ref mc, .ref md, .ref me, .int (nI sz), .ref mf, .int (nI od), .int (nI sl), .int (nI t), .int (nI wr), .int (nI pl), .int (nI lo), .long (lN nm), .int vz, .ref mg, .ref mh])), (ma, .inl (cI, 65536, .inl (iF b))), (mb, .inl (cI, 16384, .inl (iF pm))), (mc, .inl (cI, 4, .inl (iF pd))), (md, .inl (cI, 32768, .inl fx)), (me, .inl (cI, 4, .inl (iF pq)))] H → va_D A [(mm, .inr (5, [.int (nI th), .int (nI dg), .int (nI PT), .int (nI PN), .int (nI n), .ref ma, .ref mb, .ref mc, .ref md, .ref me, .int (nI sz), .ref mf, .int (nI od), .int (nI sl), .int (nI t), .int (nI wr), .int (nI pl), .int (nI lo), .long (lN nm), .int vz, .ref mg, .ref mh])), (ma, .inl (cI, 65536, .inl (iF b))), (mb, .inl (cI, 16384, .inl (iF pm))), (mc, .inl (cI, 4, .inl (iF pd))), (md, .inl (cI, 32768, .inl fx)), (me, .inl (cI, 4, .inl (iF pq)))] → va_S A s.heap H locs → lv_has ls 6 [(0, .ref mm), (1, .long (lN c9)), (3, .int (nI y)), (4, .long (lN k))] → W p l e ({ frames := 4, cells := 0, slots := 0, locals := 98 }) s m ([.ref mm, .long (lN c9), .int (nI y)] : List Value).toArray below meth c H locs 0 0 (MQ below ((kQi D (kT cI cB cJ cS) (fun r (ug : Unit) => r = nI k1) (fun ug => [(mm, .inr (5, [.int (nI th), .int (nI dg), .int (nI PT), .int (nI PN), .int (nI n), .ref ma, .ref mb, .ref mc, .ref md, .ref me, .int (nI sz), .ref mf, .int (nI od), .int (nI sl), .int (nI t1), .int (nI wr1), .int (nI pl1), .int (nI lo), .long (lN nm1), .int vz1, .ref mg, .ref mh])), (ma, .inl (cI, 65536, .inl (iF b))), (mb, .inl (cI, 16384, .inl (iF pm2))), (mc, .inl (cI, 4, .inl (iF pd1))), (md, .inl (cI, 32768, .inl fx1)), (me, .inl (cI, 4, .inl (iF pq1)))])) A) ([.ref mm, .long (lN c9), .int (nI y)] : List Value).toArray s ({ frames := 4, cells := 0, slots := 0, locals := 98 } : Room).cells ({ frames := 4, cells := 0, slots := 0, locals := 98 } : Room).slots A) (F0 m 3 ls []) := by
    intro k366
    induction k366 with
    | zero =>
      intro k t wr pl nm vz pq fx pd pm H locs ls hk9
      exact absurd hk9 (Nat.not_lt_zero _)
    | succ k366 ihloop365 =>
      intro k t wr pl nm vz pq fx pd pm H locs ls hk9 hk ht hpq hpd hc hP hD hS hl
      refine lv_lload hx hb dX7_rings_3 (lv_at hl 3 rfl) ?_
      refine lv_lload_n hx hb dX7_rings_5 rfl (lv_at hl 1 rfl) ?_
      refine W.lcmp hx hb dX7_rings_6 ?_
      refine k_lcmpN_ge (tgt := 99) (by omega) (by omega) hx hb dX7_rings_7 (by decide) (fun c367 => ?_) (fun c367 => ?_)
      · skip
        refine lv_aload_n hx hb dX7_rings_99 rfl (lv_at hl 0 rfl) ?_
        refine va_get (D := D) (ci := 5) (v := .ref mb) (C := RX7) (T := TX7) (N := 22) hx hb hts inX7 hown hK hP 0 rfl rfl 6 (by decide) (hts (.fieldLink RX7 14 "ByteShapesModel" "plan" "[I") (List.mem_cons_of_mem _ wd_392)) (fun _ h9 => h9) rfl dX7_rings_100 ?_
        refine lv_sipush (v := nI 4096) hx hb dX7_rings_103 (by decide) ?_
        refine lv_aload_n hx hb dX7_rings_106 rfl (lv_at hl 0 rfl) ?_
        refine va_get (D := D) (ci := 5) (v := .int (nI sl)) (C := RX7) (T := TX7) (N := 22) hx hb hts inX7 hown hK hP 0 rfl rfl 13 (by decide) (hts (.fieldLink RX7 107 "ByteShapesModel" "slot" "I") (List.mem_cons_of_mem _ wd_388)) (fun _ h9 => h9) rfl dX7_rings_107 ?_
        refine lv_imul hx hb dX7_rings_110 ?_
        refine k_i (show _ = nI (4096 * sl) from pk_mul _ _) ?_
        refine lv_iload_n hx hb dX7_rings_111 rfl (lv_at hl 2 rfl) ?_
        refine lv_iadd hx hb dX7_rings_112 ?_
        refine k_i (show _ = nI ((4096 * sl) + y) from nI_add _ _) ?_
        refine lv_lload_n hx hb dX7_rings_113 rfl (lv_at hl 1 rfl) ?_
        refine lv_l2i (v := nI c9) hx hb dX7_rings_114 (lN_i _) ?_
        refine va_iast hx hb hK hP hD hS 2 0 rfl rfl (vp_in_nI (by omega) (by omega)) dX7_rings_115 (fun H locs hP hD hS => ?_)
        rw [show upd (iF pm) (nI ((4096 * sl) + y)).toNatClampNeg (nI c9) = iF (va_up pm (4096 * sl + y) c9) from by rw [nI_clamp (by omega)]; exact iF_put _ _ _] at hP hD
        have hP : va_P D kCl [(mm, .inr (5, [.int (nI th), .int (nI dg), .int (nI PT), .int (nI PN), .int (nI n), .ref ma, .ref mb, .ref mc, .ref md, .ref me, .int (nI sz), .ref mf, .int (nI od), .int (nI sl), .int (nI t), .int (nI wr), .int (nI pl), .int (nI lo), .long (lN nm), .int vz, .ref mg, .ref mh])), (ma, .inl (cI, 65536, .inl (iF b))), (mb, .inl (cI, 16384, .inl (iF (va_up pm (4096 * sl + y) c9)))), (mc, .inl (cI, 4, .inl (iF pd))), (md, .inl (cI, 32768, .inl fx)), (me, .inl (cI, 4, .inl (iF pq)))] H := hP
        have hD : va_D A [(mm, .inr (5, [.int (nI th), .int (nI dg), .int (nI PT), .int (nI PN), .int (nI n), .ref ma, .ref mb, .ref mc, .ref md, .ref me, .int (nI sz), .ref mf, .int (nI od), .int (nI sl), .int (nI t), .int (nI wr), .int (nI pl), .int (nI lo), .long (lN nm), .int vz, .ref mg, .ref mh])), (ma, .inl (cI, 65536, .inl (iF b))), (mb, .inl (cI, 16384, .inl (iF (va_up pm (4096 * sl + y) c9)))), (mc, .inl (cI, 4, .inl (iF pd))), (md, .inl (cI, 32768, .inl fx)), (me, .inl (cI, 4, .inl (iF pq)))] := hD
        refine lv_iconst (v := nI 1) hx hb dX7_rings_116 (by decide) ?_
        have z9 : (1, t, wr, pl, nm, vz, pq, fx, pd, pm) = (k1, t1, wr1, pl1, nm1, vz1, pq1, fx1, pd1, pm1) := by rw [show c9 - k = 0 by omega] at hc; exact hc
        have e0 : (1) = k1 := congrArg (fun z => z.1) z9
        have e1 : (t) = t1 := congrArg (fun z => z.2.1) z9
        have e2 : (wr) = wr1 := congrArg (fun z => z.2.2.1) z9
        have e3 : (pl) = pl1 := congrArg (fun z => z.2.2.2.1) z9
        have e4 : (nm) = nm1 := congrArg (fun z => z.2.2.2.2.1) z9
        have e5 : (vz) = vz1 := congrArg (fun z => z.2.2.2.2.2.1) z9
        have e6 : (pq) = pq1 := congrArg (fun z => z.2.2.2.2.2.2.1) z9
        have e7 : (fx) = fx1 := congrArg (fun z => z.2.2.2.2.2.2.2.1) z9
        have e8 : (pd) = pd1 := congrArg (fun z => z.2.2.2.2.2.2.2.2.1) z9
        have e9 : (pm) = pm1 := congrArg (fun z => z.2.2.2.2.2.2.2.2.2) z9
        exact k_iret () hx hb hr (by first | rfl | decide | exact vp_nar_int _) hlocks hK hP hD hS (by rw [hpm, if_neg (by omega), ← e1, ← e2, ← e3, ← e4, ← e5, ← e6, ← e7, ← e8, ← e9]) (by rw [← e0]) (Nat.le_of_ble_eq_true rfl) (Nat.le_of_ble_eq_true rfl) dX7_rings_117
      · skip
        refine lv_aload_n hx hb dX7_rings_10 rfl (lv_at hl 0 rfl) ?_
        refine lv_iconst (v := nI 1) hx hb dX7_rings_11 (by decide) ?_
        refine lv_iconst (v := nI 0) hx hb dX7_rings_12 (by decide) ?_
        rcases Nat.lt_or_ge PN (pd sl + 1) with h5 | h5
        · skip
          refine k_ci (wr := [(ma, .inl (cI, 65536, .inl (iF b))), (mb, .inl (cI, 16384, .inl (iF pm))), (md, .inl (cI, 32768, .inl fx))]) (k_rv F (c_M_room0 l D cI cB cJ cS mm ma mb mc md me mf mg mh th dg PT PN n sz od sl t wr pl lo nm b pm pd pq rb ok ol fx vz hsl (by omega) (by omega) hPN hPT 1 0 (by decide) (by decide) (by omega)) (cwV 2 hts (g_V wd_411 wd_412 wd_413 wd_373 wd_414) rfl rfl rfl (by decide +kernel) ⟨Nat.le_of_ble_eq_true rfl, Nat.le_of_ble_eq_true rfl⟩) hK hP hD hS hA hZ [0, 3, 5] rfl (by decide) 0 rfl rfl rfl rfl hl.1 rfl (Nat.le_of_ble_eq_true rfl) dX7_rings_13 ⟨Nat.le_of_ble_eq_true rfl, Nat.le_of_ble_eq_true rfl⟩) hP hD hS hA [0, 3, 5] [1, 2, 4] rfl rfl (by decide) (by decide) (fun r u9 H locs hw hP hD hS => ?_)
          subst hw
          have hP : va_P D kCl [(ma, .inl (cI, 65536, .inl (iF b))), (mb, .inl (cI, 16384, .inl (iF pm))), (md, .inl (cI, 32768, .inl fx)), (mm, .inr (5, [.int (nI th), .int (nI dg), .int (nI PT), .int (nI PN), .int (nI n), .ref ma, .ref mb, .ref mc, .ref md, .ref me, .int (nI sz), .ref mf, .int (nI od), .int (nI sl), .int (nI t), .int (nI wr), .int (nI pl), .int (nI lo), .long (lN nm), .int vz, .ref mg, .ref mh])), (mc, .inl (cI, 4, .inl (iF pd))), (me, .inl (cI, 4, .inl (iF pq)))] H := hP
          have hD : va_D A [(ma, .inl (cI, 65536, .inl (iF b))), (mb, .inl (cI, 16384, .inl (iF pm))), (md, .inl (cI, 32768, .inl fx)), (mm, .inr (5, [.int (nI th), .int (nI dg), .int (nI PT), .int (nI PN), .int (nI n), .ref ma, .ref mb, .ref mc, .ref md, .ref me, .int (nI sz), .ref mf, .int (nI od), .int (nI sl), .int (nI t), .int (nI wr), .int (nI pl), .int (nI lo), .long (lN nm), .int vz, .ref mg, .ref mh])), (mc, .inl (cI, 4, .inl (iF pd))), (me, .inl (cI, 4, .inl (iF pq)))] := hD
          refine W.widen (k := 0) (n := 0) (Nat.le_of_ble_eq_true rfl) (Nat.le_of_ble_eq_true rfl) ?_
          refine k_if_ne (tgt := 30) (by omega) hx hb dX7_rings_16 (by decide) (fun c368 => ?_) (fun c368 => ?_)
          · skip
            exact absurd c368 (by omega)
          · skip
            refine lv_aload_n hx hb dX7_rings_19 rfl (lv_at hl 0 rfl) ?_
            refine lv_bipush (v := nI 7) hx hb dX7_rings_20 (by decide) ?_
            refine lv_aload_n hx hb dX7_rings_22 rfl (lv_at hl 0 rfl) ?_
            refine va_get (D := D) (ci := 5) (v := .int (nI t)) (C := RX7) (T := TX7) (N := 22) hx hb hts inX7 hown hK hP 3 rfl rfl 14 (by decide) (hts (.fieldLink RX7 68 "ByteShapesModel" "at" "I") (List.mem_cons_of_mem _ wd_394)) (fun _ h9 => h9) rfl dX7_rings_23 ?_
            refine k_ci (wr := [(ma, .inl (cI, 65536, .inl (iF b))), (mb, .inl (cI, 16384, .inl (iF pm))), (md, .inl (cI, 32768, .inl fx)), (mc, .inl (cI, 4, .inl (iF pd))), (me, .inl (cI, 4, .inl (iF pq)))]) (k_rv F (c_M_wrong l D cI cB cJ cS mm ma mb mc md me mf mg mh th dg PT PN n sz od sl t wr pl lo nm b pm pd pq rb ok ol fx vz 7 t) (cwV 2 hts (g_V wd_395 wd_396 wd_397 wd_373 wd_398) rfl rfl rfl (by decide +kernel) ⟨Nat.le_of_ble_eq_true rfl, Nat.le_of_ble_eq_true rfl⟩) hK hP hD hS hA hZ [3] rfl (by decide) 3 rfl rfl rfl rfl hl.1 rfl (Nat.le_of_ble_eq_true rfl) dX7_rings_26 ⟨Nat.le_of_ble_eq_true rfl, Nat.le_of_ble_eq_true rfl⟩) hP hD hS hA [3] [0, 1, 2, 4, 5] rfl rfl (by decide) (by decide) (fun r u9 H locs hw hP hD hS => ?_)
            subst hw
            have hP : va_P D kCl [(ma, .inl (cI, 65536, .inl (iF b))), (mb, .inl (cI, 16384, .inl (iF pm))), (md, .inl (cI, 32768, .inl fx)), (mc, .inl (cI, 4, .inl (iF pd))), (me, .inl (cI, 4, .inl (iF pq))), (mm, .inr (5, [.int (nI th), .int (nI dg), .int (nI PT), .int (nI PN), .int (nI n), .ref ma, .ref mb, .ref mc, .ref md, .ref me, .int (nI sz), .ref mf, .int (nI od), .int (nI sl), .int (nI t), .int (nI 7), .int (nI t), .int (nI lo), .long (lN nm), .int vz, .ref mg, .ref mh]))] H := hP
            have hD : va_D A [(ma, .inl (cI, 65536, .inl (iF b))), (mb, .inl (cI, 16384, .inl (iF pm))), (md, .inl (cI, 32768, .inl fx)), (mc, .inl (cI, 4, .inl (iF pd))), (me, .inl (cI, 4, .inl (iF pq))), (mm, .inr (5, [.int (nI th), .int (nI dg), .int (nI PT), .int (nI PN), .int (nI n), .ref ma, .ref mb, .ref mc, .ref md, .ref me, .int (nI sz), .ref mf, .int (nI od), .int (nI sl), .int (nI t), .int (nI 7), .int (nI t), .int (nI lo), .long (lN nm), .int vz, .ref mg, .ref mh]))] := hD
            refine W.widen (k := 0) (n := 0) (Nat.le_of_ble_eq_true rfl) (Nat.le_of_ble_eq_true rfl) ?_
            have z9 := (mRs_step hc (by omega) (show mRing b n (uD dg) PT PN sl lo (t, wr, pl, nm, vz, pq, fx, pd, pm) = (0, t, 7, t, nm, vz, pq, fx, pd, pm) from by rw [mRing_eq]; rw [if_pos (by omega)])).1 rfl
            have e0 : (0) = k1 := congrArg (fun z => z.1) z9
            have e1 : (t) = t1 := congrArg (fun z => z.2.1) z9
            have e2 : (7) = wr1 := congrArg (fun z => z.2.2.1) z9
            have e3 : (t) = pl1 := congrArg (fun z => z.2.2.2.1) z9
            have e4 : (nm) = nm1 := congrArg (fun z => z.2.2.2.2.1) z9
            have e5 : (vz) = vz1 := congrArg (fun z => z.2.2.2.2.2.1) z9
            have e6 : (pq) = pq1 := congrArg (fun z => z.2.2.2.2.2.2.1) z9
            have e7 : (fx) = fx1 := congrArg (fun z => z.2.2.2.2.2.2.2.1) z9
            have e8 : (pd) = pd1 := congrArg (fun z => z.2.2.2.2.2.2.2.2.1) z9
            have e9 : (pm) = pm1 := congrArg (fun z => z.2.2.2.2.2.2.2.2.2) z9
            have hP : va_P D kCl [(mm, .inr (5, [.int (nI th), .int (nI dg), .int (nI PT), .int (nI PN), .int (nI n), .ref ma, .ref mb, .ref mc, .ref md, .ref me, .int (nI sz), .ref mf, .int (nI od), .int (nI sl), .int (nI t), .int (nI 7), .int (nI t), .int (nI lo), .long (lN nm), .int vz, .ref mg, .ref mh])), (ma, .inl (cI, 65536, .inl (iF b))), (mb, .inl (cI, 16384, .inl (iF pm))), (mc, .inl (cI, 4, .inl (iF pd))), (md, .inl (cI, 32768, .inl fx)), (me, .inl (cI, 4, .inl (iF pq)))] H := hP.sub [5, 0, 1, 3, 2, 4] rfl
            have hD : va_D A [(mm, .inr (5, [.int (nI th), .int (nI dg), .int (nI PT), .int (nI PN), .int (nI n), .ref ma, .ref mb, .ref mc, .ref md, .ref me, .int (nI sz), .ref mf, .int (nI od), .int (nI sl), .int (nI t), .int (nI 7), .int (nI t), .int (nI lo), .long (lN nm), .int vz, .ref mg, .ref mh])), (ma, .inl (cI, 65536, .inl (iF b))), (mb, .inl (cI, 16384, .inl (iF pm))), (mc, .inl (cI, 4, .inl (iF pd))), (md, .inl (cI, 32768, .inl fx)), (me, .inl (cI, 4, .inl (iF pq)))] := hD.sub [5, 0, 1, 3, 2, 4] (by decide) rfl
            exact k_iret () hx hb hr (by first | rfl | decide | exact vp_nar_int _) hlocks hK hP hD hS (by rw [hpm, if_pos e0.symm, ← e1, ← e2, ← e3, ← e4, ← e5, ← e6, ← e7, ← e8, ← e9]) (by rw [← e0]) (Nat.le_of_ble_eq_true rfl) (Nat.le_of_ble_eq_true rfl) dX7_rings_29
        · skip
          refine k_ci (wr := [(ma, .inl (cI, 65536, .inl (iF b))), (mb, .inl (cI, 16384, .inl (iF pm))), (md, .inl (cI, 32768, .inl fx))]) (k_rv F (c_M_room1 l D cI cB cJ cS mm ma mb mc md me mf mg mh th dg PT PN n sz od sl t wr pl lo nm b pm pd pq rb ok ol fx vz hsl (by omega) (by omega) hPN hPT 1 0 (by decide) (by decide) (by omega)) (cwV 2 hts (g_V wd_411 wd_412 wd_413 wd_373 wd_414) rfl rfl rfl (by decide +kernel) ⟨Nat.le_of_ble_eq_true rfl, Nat.le_of_ble_eq_true rfl⟩) hK hP hD hS hA hZ [0, 3, 5] rfl (by decide) 0 rfl rfl rfl rfl hl.1 rfl (Nat.le_of_ble_eq_true rfl) dX7_rings_13 ⟨Nat.le_of_ble_eq_true rfl, Nat.le_of_ble_eq_true rfl⟩) hP hD hS hA [0, 3, 5] [1, 2, 4] rfl rfl (by decide) (by decide) (fun r u9 H locs hw hP hD hS => ?_)
          subst hw
          have hP : va_P D kCl [(ma, .inl (cI, 65536, .inl (iF b))), (mb, .inl (cI, 16384, .inl (iF pm))), (md, .inl (cI, 32768, .inl fx)), (mm, .inr (5, [.int (nI th), .int (nI dg), .int (nI PT), .int (nI PN), .int (nI n), .ref ma, .ref mb, .ref mc, .ref md, .ref me, .int (nI sz), .ref mf, .int (nI od), .int (nI sl), .int (nI t), .int (nI wr), .int (nI pl), .int (nI lo), .long (lN nm), .int vz, .ref mg, .ref mh])), (mc, .inl (cI, 4, .inl (iF pd))), (me, .inl (cI, 4, .inl (iF pq)))] H := hP
          have hD : va_D A [(ma, .inl (cI, 65536, .inl (iF b))), (mb, .inl (cI, 16384, .inl (iF pm))), (md, .inl (cI, 32768, .inl fx)), (mm, .inr (5, [.int (nI th), .int (nI dg), .int (nI PT), .int (nI PN), .int (nI n), .ref ma, .ref mb, .ref mc, .ref md, .ref me, .int (nI sz), .ref mf, .int (nI od), .int (nI sl), .int (nI t), .int (nI wr), .int (nI pl), .int (nI lo), .long (lN nm), .int vz, .ref mg, .ref mh])), (mc, .inl (cI, 4, .inl (iF pd))), (me, .inl (cI, 4, .inl (iF pq)))] := hD
          refine W.widen (k := 0) (n := 0) (Nat.le_of_ble_eq_true rfl) (Nat.le_of_ble_eq_true rfl) ?_
          refine k_if_ne (tgt := 30) (by omega) hx hb dX7_rings_16 (by decide) (fun c369 => ?_) (fun c369 => ?_)
          · skip
            refine lv_aload_n hx hb dX7_rings_30 rfl (lv_at hl 0 rfl) ?_
            refine lv_iconst (v := nI 4) hx hb dX7_rings_31 (by decide) ?_
            rcases Nat.lt_or_ge n (t + 4) with h4 | h4
            · skip
              refine k_ci (wr := [(mb, .inl (cI, 16384, .inl (iF pm))), (md, .inl (cI, 32768, .inl fx)), (mc, .inl (cI, 4, .inl (iF pd))), (me, .inl (cI, 4, .inl (iF pq)))]) (k_rv F (c_M_take0 l D cI cB cJ cS mm ma mb mc md me mf mg mh th dg PT PN n sz od sl t wr pl lo nm b pm pd pq rb ok ol fx vz (by omega) hn hlo2 hb256 4 (by decide) (by omega)) (cwV 1 hts (g_V wd_415 wd_416 wd_417 wd_373 wd_418) rfl rfl rfl (by decide +kernel) ⟨Nat.le_of_ble_eq_true rfl, Nat.le_of_ble_eq_true rfl⟩) hK hP hD hS hA hZ [3, 0] rfl (by decide) 3 rfl rfl rfl rfl hl.1 rfl (Nat.le_of_ble_eq_true rfl) dX7_rings_32 ⟨Nat.le_of_ble_eq_true rfl, Nat.le_of_ble_eq_true rfl⟩) hP hD hS hA [3, 0] [1, 2, 4, 5] rfl rfl (by decide) (by decide) (fun r u9 H locs hw hP hD hS => ?_)
              subst hw
              have hP : va_P D kCl [(mb, .inl (cI, 16384, .inl (iF pm))), (md, .inl (cI, 32768, .inl fx)), (mc, .inl (cI, 4, .inl (iF pd))), (me, .inl (cI, 4, .inl (iF pq))), (mm, .inr (5, [.int (nI th), .int (nI dg), .int (nI PT), .int (nI PN), .int (nI n), .ref ma, .ref mb, .ref mc, .ref md, .ref me, .int (nI sz), .ref mf, .int (nI od), .int (nI sl), .int (nI t), .int (nI 3), .int (nI t), .int (nI lo), .long (lN nm), .int vz, .ref mg, .ref mh])), (ma, .inl (cI, 65536, .inl (iF b)))] H := hP
              have hD : va_D A [(mb, .inl (cI, 16384, .inl (iF pm))), (md, .inl (cI, 32768, .inl fx)), (mc, .inl (cI, 4, .inl (iF pd))), (me, .inl (cI, 4, .inl (iF pq))), (mm, .inr (5, [.int (nI th), .int (nI dg), .int (nI PT), .int (nI PN), .int (nI n), .ref ma, .ref mb, .ref mc, .ref md, .ref me, .int (nI sz), .ref mf, .int (nI od), .int (nI sl), .int (nI t), .int (nI 3), .int (nI t), .int (nI lo), .long (lN nm), .int vz, .ref mg, .ref mh])), (ma, .inl (cI, 65536, .inl (iF b)))] := hD
              refine W.widen (k := 0) (n := 0) (Nat.le_of_ble_eq_true rfl) (Nat.le_of_ble_eq_true rfl) ?_
              refine k_if_ne (tgt := 40) (by omega) hx hb dX7_rings_35 (by decide) (fun c370 => ?_) (fun c370 => ?_)
              · skip
                exact absurd c370 (by omega)
              · skip
                refine lv_iconst (v := nI 0) hx hb dX7_rings_38 (by decide) ?_
                have z9 := (mRs_step hc (by omega) (show mRing b n (uD dg) PT PN sl lo (t, wr, pl, nm, vz, pq, fx, pd, pm) = (0, t, 3, t, nm, vz, pq, fx, pd, pm) from by rw [mRing_eq]; rw [if_neg (by omega), if_pos (by omega)])).1 rfl
                have e0 : (0) = k1 := congrArg (fun z => z.1) z9
                have e1 : (t) = t1 := congrArg (fun z => z.2.1) z9
                have e2 : (3) = wr1 := congrArg (fun z => z.2.2.1) z9
                have e3 : (t) = pl1 := congrArg (fun z => z.2.2.2.1) z9
                have e4 : (nm) = nm1 := congrArg (fun z => z.2.2.2.2.1) z9
                have e5 : (vz) = vz1 := congrArg (fun z => z.2.2.2.2.2.1) z9
                have e6 : (pq) = pq1 := congrArg (fun z => z.2.2.2.2.2.2.1) z9
                have e7 : (fx) = fx1 := congrArg (fun z => z.2.2.2.2.2.2.2.1) z9
                have e8 : (pd) = pd1 := congrArg (fun z => z.2.2.2.2.2.2.2.2.1) z9
                have e9 : (pm) = pm1 := congrArg (fun z => z.2.2.2.2.2.2.2.2.2) z9
                have hP : va_P D kCl [(mm, .inr (5, [.int (nI th), .int (nI dg), .int (nI PT), .int (nI PN), .int (nI n), .ref ma, .ref mb, .ref mc, .ref md, .ref me, .int (nI sz), .ref mf, .int (nI od), .int (nI sl), .int (nI t), .int (nI 3), .int (nI t), .int (nI lo), .long (lN nm), .int vz, .ref mg, .ref mh])), (ma, .inl (cI, 65536, .inl (iF b))), (mb, .inl (cI, 16384, .inl (iF pm))), (mc, .inl (cI, 4, .inl (iF pd))), (md, .inl (cI, 32768, .inl fx)), (me, .inl (cI, 4, .inl (iF pq)))] H := hP.sub [4, 5, 0, 2, 1, 3] rfl
                have hD : va_D A [(mm, .inr (5, [.int (nI th), .int (nI dg), .int (nI PT), .int (nI PN), .int (nI n), .ref ma, .ref mb, .ref mc, .ref md, .ref me, .int (nI sz), .ref mf, .int (nI od), .int (nI sl), .int (nI t), .int (nI 3), .int (nI t), .int (nI lo), .long (lN nm), .int vz, .ref mg, .ref mh])), (ma, .inl (cI, 65536, .inl (iF b))), (mb, .inl (cI, 16384, .inl (iF pm))), (mc, .inl (cI, 4, .inl (iF pd))), (md, .inl (cI, 32768, .inl fx)), (me, .inl (cI, 4, .inl (iF pq)))] := hD.sub [4, 5, 0, 2, 1, 3] (by decide) rfl
                exact k_iret () hx hb hr (by first | rfl | decide | exact vp_nar_int _) hlocks hK hP hD hS (by rw [hpm, if_pos e0.symm, ← e1, ← e2, ← e3, ← e4, ← e5, ← e6, ← e7, ← e8, ← e9]) (by rw [← e0]) (Nat.le_of_ble_eq_true rfl) (Nat.le_of_ble_eq_true rfl) dX7_rings_39
            · skip
              refine k_ci (wr := [(mb, .inl (cI, 16384, .inl (iF pm))), (md, .inl (cI, 32768, .inl fx)), (mc, .inl (cI, 4, .inl (iF pd))), (me, .inl (cI, 4, .inl (iF pq)))]) (k_rv F (c_M_take1 l D cI cB cJ cS mm ma mb mc md me mf mg mh th dg PT PN n sz od sl t wr pl lo nm b pm pd pq rb ok ol fx vz (by omega) hn hlo2 hb256 4 (by decide) (by omega)) (cwV 1 hts (g_V wd_415 wd_416 wd_417 wd_373 wd_418) rfl rfl rfl (by decide +kernel) ⟨Nat.le_of_ble_eq_true rfl, Nat.le_of_ble_eq_true rfl⟩) hK hP hD hS hA hZ [3, 0] rfl (by decide) 3 rfl rfl rfl rfl hl.1 rfl (Nat.le_of_ble_eq_true rfl) dX7_rings_32 ⟨Nat.le_of_ble_eq_true rfl, Nat.le_of_ble_eq_true rfl⟩) hP hD hS hA [3, 0] [1, 2, 4, 5] rfl rfl (by decide) (by decide) (fun r u9 H locs hw hP hD hS => ?_)
              subst hw
              have hP : va_P D kCl [(mb, .inl (cI, 16384, .inl (iF pm))), (md, .inl (cI, 32768, .inl fx)), (mc, .inl (cI, 4, .inl (iF pd))), (me, .inl (cI, 4, .inl (iF pq))), (mm, .inr (5, [.int (nI th), .int (nI dg), .int (nI PT), .int (nI PN), .int (nI n), .ref ma, .ref mb, .ref mc, .ref md, .ref me, .int (nI sz), .ref mf, .int (nI od), .int (nI sl), .int (nI (t + 4)), .int (nI wr), .int (nI pl), .int (nI lo), .long (lN (pN b t 4 lo)), .int vz, .ref mg, .ref mh])), (ma, .inl (cI, 65536, .inl (iF b)))] H := hP
              have hD : va_D A [(mb, .inl (cI, 16384, .inl (iF pm))), (md, .inl (cI, 32768, .inl fx)), (mc, .inl (cI, 4, .inl (iF pd))), (me, .inl (cI, 4, .inl (iF pq))), (mm, .inr (5, [.int (nI th), .int (nI dg), .int (nI PT), .int (nI PN), .int (nI n), .ref ma, .ref mb, .ref mc, .ref md, .ref me, .int (nI sz), .ref mf, .int (nI od), .int (nI sl), .int (nI (t + 4)), .int (nI wr), .int (nI pl), .int (nI lo), .long (lN (pN b t 4 lo)), .int vz, .ref mg, .ref mh])), (ma, .inl (cI, 65536, .inl (iF b)))] := hD
              refine W.widen (k := 0) (n := 0) (Nat.le_of_ble_eq_true rfl) (Nat.le_of_ble_eq_true rfl) ?_
              refine k_if_ne (tgt := 40) (by omega) hx hb dX7_rings_35 (by decide) (fun c371 => ?_) (fun c371 => ?_)
              · skip
                refine lv_aload_n hx hb dX7_rings_40 rfl (lv_at hl 0 rfl) ?_
                refine va_get (D := D) (ci := 5) (v := .long (lN (pN b t 4 lo))) (C := RX7) (T := TX7) (N := 22) hx hb hts inX7 hown hK hP 4 rfl rfl 18 (by decide) (hts (.fieldLink RX7 75 "ByteShapesModel" "number" "J") (List.mem_cons_of_mem _ wd_399)) (fun _ h9 => h9) rfl dX7_rings_41 ?_
                refine lv_lconst (v := lN 0) hx hb dX7_rings_44 (by decide) ?_
                refine W.lcmp hx hb dX7_rings_45 ?_
                have h432 := pN_lt4 hb256 t lo
                refine k_lcmpN_ne (tgt := 61) (by omega) (by omega) hx hb dX7_rings_46 (by decide) (fun hz0 => ?_) (fun hz0 => ?_)
                · skip
                  refine lv_aload_n hx hb dX7_rings_61 rfl (lv_at hl 0 rfl) ?_
                  refine lv_iconst (v := nI 0) hx hb dX7_rings_62 (by decide) ?_
                  refine k_cv (wr := [(md, .inl (cI, 32768, .inl fx)), (me, .inl (cI, 4, .inl (iF pq))), (ma, .inl (cI, 65536, .inl (iF b)))]) (k_rv F (c_M_say l D cI cB cJ cS mm ma mb mc md me mf mg mh th dg PT PN n sz od sl (t + 4) wr pl lo (pN b t 4 lo) b pm pd pq rb ok ol fx vz hsl (by omega) 0) (cwV 1 hts (g_V wd_434 wd_435 wd_436 wd_373 wd_437) rfl rfl rfl (by decide +kernel) ⟨Nat.le_of_ble_eq_true rfl, Nat.le_of_ble_eq_true rfl⟩) hK hP hD hS hA hZ [4, 0, 2] rfl (by decide) 4 rfl rfl rfl rfl hl.1 rfl (Nat.le_of_ble_eq_true rfl) dX7_rings_63 ⟨Nat.le_of_ble_eq_true rfl, Nat.le_of_ble_eq_true rfl⟩) hP hD hS hA [4, 0, 2] [1, 3, 5] rfl rfl (by decide) (by decide) (fun u9 H locs hw hP hD hS => ?_)
                  have hP : va_P D kCl [(md, .inl (cI, 32768, .inl fx)), (me, .inl (cI, 4, .inl (iF pq))), (ma, .inl (cI, 65536, .inl (iF b))), (mm, .inr (5, [.int (nI th), .int (nI dg), .int (nI PT), .int (nI PN), .int (nI n), .ref ma, .ref mb, .ref mc, .ref md, .ref me, .int (nI sz), .ref mf, .int (nI od), .int (nI sl), .int (nI (t + 4)), .int (nI wr), .int (nI pl), .int (nI lo), .long (lN (pN b t 4 lo)), .int vz, .ref mg, .ref mh])), (mb, .inl (cI, 16384, .inl (iF (va_up pm (4096 * sl + pd sl) 0)))), (mc, .inl (cI, 4, .inl (iF (va_up pd sl (pd sl + 1)))))] H := hP
                  have hD : va_D A [(md, .inl (cI, 32768, .inl fx)), (me, .inl (cI, 4, .inl (iF pq))), (ma, .inl (cI, 65536, .inl (iF b))), (mm, .inr (5, [.int (nI th), .int (nI dg), .int (nI PT), .int (nI PN), .int (nI n), .ref ma, .ref mb, .ref mc, .ref md, .ref me, .int (nI sz), .ref mf, .int (nI od), .int (nI sl), .int (nI (t + 4)), .int (nI wr), .int (nI pl), .int (nI lo), .long (lN (pN b t 4 lo)), .int vz, .ref mg, .ref mh])), (mb, .inl (cI, 16384, .inl (iF (va_up pm (4096 * sl + pd sl) 0)))), (mc, .inl (cI, 4, .inl (iF (va_up pd sl (pd sl + 1)))))] := hD
                  refine W.widen (k := 0) (n := 0) (Nat.le_of_ble_eq_true rfl) (Nat.le_of_ble_eq_true rfl) ?_
                  refine lv_aload_n hx hb dX7_rings_66 rfl (lv_at hl 0 rfl) ?_
                  refine lv_aload_n hx hb dX7_rings_67 rfl (lv_at hl 0 rfl) ?_
                  refine va_get (D := D) (ci := 5) (v := .long (lN (pN b t 4 lo))) (C := RX7) (T := TX7) (N := 22) hx hb hts inX7 hown hK hP 3 rfl rfl 18 (by decide) (hts (.fieldLink RX7 75 "ByteShapesModel" "number" "J") (List.mem_cons_of_mem _ wd_399)) (fun _ h9 => h9) rfl dX7_rings_68 ?_
                  refine lv_aload_n hx hb dX7_rings_71 rfl (lv_at hl 0 rfl) ?_
                  refine va_get (D := D) (ci := 5) (v := .ref mc) (C := RX7) (T := TX7) (N := 22) hx hb hts inX7 hown hK hP 3 rfl rfl 7 (by decide) (hts (.fieldLink RX7 17 "ByteShapesModel" "planned" "[I") (List.mem_cons_of_mem _ wd_387)) (fun _ h9 => h9) rfl dX7_rings_72 ?_
                  refine lv_aload_n hx hb dX7_rings_75 rfl (lv_at hl 0 rfl) ?_
                  refine va_get (D := D) (ci := 5) (v := .int (nI sl)) (C := RX7) (T := TX7) (N := 22) hx hb hts inX7 hown hK hP 3 rfl rfl 13 (by decide) (hts (.fieldLink RX7 107 "ByteShapesModel" "slot" "I") (List.mem_cons_of_mem _ wd_388)) (fun _ h9 => h9) rfl dX7_rings_76 ?_
                  refine va_iald hx hb hK hP 5 0 rfl rfl (vp_in_nI (by omega) (by omega)) dX7_rings_79 ?_
                  refine k_i (show _ = (iF (va_up pd sl (pd sl + 1))) sl from congrArg (iF (va_up pd sl (pd sl + 1))) (nI_clamp (by omega))) ?_
                  refine k_i (show _ = nI (pd sl + 1) from congrArg nI (va_up_self _ _ _)) ?_
                  refine lv_iconst (v := nI 1) hx hb dX7_rings_80 (by decide) ?_
                  refine lv_isub hx hb dX7_rings_81 ?_
                  refine k_i (show _ = nI (pd sl) from by rw [pk_sub (by omega), Nat.add_sub_cancel]) ?_
                  have h432 := pN_lt4 hb256 t lo
                  obtain ⟨⟨kc, tc, wrc, plc, nmc, vzc, pqc, fxc⟩, hsc⟩ : ∃ z, z = mCos b n (uD dg) PT sl lo (pN b t 4 lo) (t + 4, wr, pl, pN b t 4 lo, vz, pq, fx) := ⟨_, rfl⟩
                  obtain ⟨bkc, btc, bqc⟩ := mCos_bd _ _ _ _ _ _ _ _ _ _ _ _ _ _ _ _ hsc.symm (by omega) hpq
                  have hz9 : mRing b n (uD dg) PT PN sl lo (t, wr, pl, nm, vz, pq, fx, pd, pm) = (kc, tc, wrc, plc, nmc, vzc, pqc, fxc, va_up pd sl (pd sl + 1), if kc = 0 then va_up pm (4096 * sl + pd sl) 0 else va_up (va_up pm (4096 * sl + pd sl) 0) (4096 * sl + pd sl) (pN b t 4 lo)) := by rw [mRing_eq, if_neg (by omega), if_neg (by omega), if_neg (by omega), ← hsc]; rfl
                  refine k_ci (wr := []) (k_rv F (c_M_coordinates l D cI cB cJ cS mm ma mb mc md me mf mg mh th dg PT PN n sz od sl (t + 4) wr pl lo (pN b t 4 lo) b (va_up pm (4096 * sl + pd sl) 0) (va_up pd sl (pd sl + 1)) pq rb ok ol fx vz (by omega) hn hlo2 hb256 hsl (by rw [va_up_self]; omega) hPN hpq hPT hdg (pN b t 4 lo) (pd sl) h432 (by omega) kc tc wrc plc nmc vzc pqc fxc hsc.symm (if kc = 0 then va_up pm (4096 * sl + pd sl) 0 else va_up (va_up pm (4096 * sl + pd sl) 0) (4096 * sl + pd sl) (pN b t 4 lo)) rfl) (cwV 2 hts (g_V wd_438 wd_439 wd_440 wd_373 wd_441) rfl rfl rfl (by decide +kernel) ⟨Nat.le_of_ble_eq_true rfl, Nat.le_of_ble_eq_true rfl⟩) hK hP hD hS hA hZ [3, 2, 4, 5, 0, 1] rfl (by decide) 3 rfl rfl rfl rfl hl.1 rfl (Nat.le_of_ble_eq_true rfl) dX7_rings_82 ⟨Nat.le_of_ble_eq_true rfl, Nat.le_of_ble_eq_true rfl⟩) hP hD hS hA [3, 2, 4, 5, 0, 1] [] rfl rfl (by decide) (by decide) (fun r u9 H locs hw hP hD hS => ?_)
                  subst hw
                  have hP : va_P D kCl [(mm, .inr (5, [.int (nI th), .int (nI dg), .int (nI PT), .int (nI PN), .int (nI n), .ref ma, .ref mb, .ref mc, .ref md, .ref me, .int (nI sz), .ref mf, .int (nI od), .int (nI sl), .int (nI tc), .int (nI wrc), .int (nI plc), .int (nI lo), .long (lN nmc), .int vzc, .ref mg, .ref mh])), (ma, .inl (cI, 65536, .inl (iF b))), (mb, .inl (cI, 16384, .inl (iF (if kc = 0 then va_up pm (4096 * sl + pd sl) 0 else va_up (va_up pm (4096 * sl + pd sl) 0) (4096 * sl + pd sl) (pN b t 4 lo))))), (mc, .inl (cI, 4, .inl (iF (va_up pd sl (pd sl + 1))))), (md, .inl (cI, 32768, .inl fxc)), (me, .inl (cI, 4, .inl (iF pqc)))] H := hP
                  have hD : va_D A [(mm, .inr (5, [.int (nI th), .int (nI dg), .int (nI PT), .int (nI PN), .int (nI n), .ref ma, .ref mb, .ref mc, .ref md, .ref me, .int (nI sz), .ref mf, .int (nI od), .int (nI sl), .int (nI tc), .int (nI wrc), .int (nI plc), .int (nI lo), .long (lN nmc), .int vzc, .ref mg, .ref mh])), (ma, .inl (cI, 65536, .inl (iF b))), (mb, .inl (cI, 16384, .inl (iF (if kc = 0 then va_up pm (4096 * sl + pd sl) 0 else va_up (va_up pm (4096 * sl + pd sl) 0) (4096 * sl + pd sl) (pN b t 4 lo))))), (mc, .inl (cI, 4, .inl (iF (va_up pd sl (pd sl + 1))))), (md, .inl (cI, 32768, .inl fxc)), (me, .inl (cI, 4, .inl (iF pqc)))] := hD
                  refine W.widen (k := 0) (n := 0) (Nat.le_of_ble_eq_true rfl) (Nat.le_of_ble_eq_true rfl) ?_
                  refine k_if_ne (tgt := 90) (by omega) hx hb dX7_rings_85 (by decide) (fun hkc => ?_) (fun hkc => ?_)
                  · skip
                    refine lv_lload hx hb dX7_rings_90 (lv_at hl 3 rfl) ?_
                    refine lv_lconst (v := lN 1) hx hb dX7_rings_92 (by decide) ?_
                    refine lv_ladd hx hb dX7_rings_93 ?_
                    refine k_l (show _ = lN (k + 1) from lN_add _ _) ?_
                    refine lv_lstore (lv' := [(4, .long (lN (k + 1))), (0, .ref mm), (1, .long (lN c9)), (3, .int (nI y))]) hx hb dX7_rings_94 hl (by decide) rfl (fun ls hl => ?_)
                    refine lv_goto (tgt := 3) hx hb dX7_rings_96 (by decide) ?_
                    exact ihloop365 (k + 1) tc wrc plc nmc vzc pqc fxc (va_up pd sl (pd sl + 1)) (if kc = 0 then va_up pm (4096 * sl + pd sl) 0 else va_up (va_up pm (4096 * sl + pd sl) 0) (4096 * sl + pd sl) (pN b t 4 lo)) _ _ _ (by omega) (by omega) (btc) (bqc) (by rw [va_up_self]; omega) ((mRs_step hc (by omega) hz9).2 (show ¬ kc = 0 by omega)) (hP.sub [0, 1, 2, 3, 4, 5] rfl) (hD.sub [0, 1, 2, 3, 4, 5] (by decide) rfl) hS (lv_sub hl [1, 2, 3, 0] rfl)
                  · skip
                    refine lv_iconst (v := nI 0) hx hb dX7_rings_88 (by decide) ?_
                    have z9 := (mRs_step hc (by omega) hz9).1 (show kc = 0 by omega)
                    have e0 : (kc) = k1 := congrArg (fun z => z.1) z9
                    have e1 : (tc) = t1 := congrArg (fun z => z.2.1) z9
                    have e2 : (wrc) = wr1 := congrArg (fun z => z.2.2.1) z9
                    have e3 : (plc) = pl1 := congrArg (fun z => z.2.2.2.1) z9
                    have e4 : (nmc) = nm1 := congrArg (fun z => z.2.2.2.2.1) z9
                    have e5 : (vzc) = vz1 := congrArg (fun z => z.2.2.2.2.2.1) z9
                    have e6 : (pqc) = pq1 := congrArg (fun z => z.2.2.2.2.2.2.1) z9
                    have e7 : (fxc) = fx1 := congrArg (fun z => z.2.2.2.2.2.2.2.1) z9
                    have e8 : (va_up pd sl (pd sl + 1)) = pd1 := congrArg (fun z => z.2.2.2.2.2.2.2.2.1) z9
                    have e9 : (if kc = 0 then va_up pm (4096 * sl + pd sl) 0 else va_up (va_up pm (4096 * sl + pd sl) 0) (4096 * sl + pd sl) (pN b t 4 lo)) = pm1 := congrArg (fun z => z.2.2.2.2.2.2.2.2.2) z9
                    exact k_iret () hx hb hr (by first | rfl | decide | exact vp_nar_int _) hlocks hK hP hD hS (by rw [hpm, if_pos (show k1 = 0 by omega), ← e1, ← e2, ← e3, ← e4, ← e5, ← e6, ← e7, ← e8, ← e9]) (by rw [← e0, show kc = 0 by omega]) (Nat.le_of_ble_eq_true rfl) (Nat.le_of_ble_eq_true rfl) dX7_rings_89
                · skip
                  refine lv_aload_n hx hb dX7_rings_49 rfl (lv_at hl 0 rfl) ?_
                  refine lv_iconst (v := nI 4) hx hb dX7_rings_50 (by decide) ?_
                  refine lv_aload_n hx hb dX7_rings_51 rfl (lv_at hl 0 rfl) ?_
                  refine va_get (D := D) (ci := 5) (v := .int (nI (t + 4))) (C := RX7) (T := TX7) (N := 22) hx hb hts inX7 hown hK hP 4 rfl rfl 14 (by decide) (hts (.fieldLink RX7 68 "ByteShapesModel" "at" "I") (List.mem_cons_of_mem _ wd_394)) (fun _ h9 => h9) rfl dX7_rings_52 ?_
                  refine lv_iconst (v := nI 4) hx hb dX7_rings_55 (by decide) ?_
                  refine lv_isub hx hb dX7_rings_56 ?_
                  refine k_i (show _ = nI t from by rw [pk_sub (by omega), Nat.add_sub_cancel]) ?_
                  refine k_ci (wr := [(mb, .inl (cI, 16384, .inl (iF pm))), (md, .inl (cI, 32768, .inl fx)), (mc, .inl (cI, 4, .inl (iF pd))), (me, .inl (cI, 4, .inl (iF pq))), (ma, .inl (cI, 65536, .inl (iF b)))]) (k_rv F (c_M_wrong l D cI cB cJ cS mm ma mb mc md me mf mg mh th dg PT PN n sz od sl (t + 4) wr pl lo (pN b t 4 lo) b pm pd pq rb ok ol fx vz 4 t) (cwV 2 hts (g_V wd_395 wd_396 wd_397 wd_373 wd_398) rfl rfl rfl (by decide +kernel) ⟨Nat.le_of_ble_eq_true rfl, Nat.le_of_ble_eq_true rfl⟩) hK hP hD hS hA hZ [4] rfl (by decide) 4 rfl rfl rfl rfl hl.1 rfl (Nat.le_of_ble_eq_true rfl) dX7_rings_57 ⟨Nat.le_of_ble_eq_true rfl, Nat.le_of_ble_eq_true rfl⟩) hP hD hS hA [4] [0, 1, 2, 3, 5] rfl rfl (by decide) (by decide) (fun r u9 H locs hw hP hD hS => ?_)
                  subst hw
                  have hP : va_P D kCl [(mb, .inl (cI, 16384, .inl (iF pm))), (md, .inl (cI, 32768, .inl fx)), (mc, .inl (cI, 4, .inl (iF pd))), (me, .inl (cI, 4, .inl (iF pq))), (ma, .inl (cI, 65536, .inl (iF b))), (mm, .inr (5, [.int (nI th), .int (nI dg), .int (nI PT), .int (nI PN), .int (nI n), .ref ma, .ref mb, .ref mc, .ref md, .ref me, .int (nI sz), .ref mf, .int (nI od), .int (nI sl), .int (nI (t + 4)), .int (nI 4), .int (nI t), .int (nI lo), .long (lN (pN b t 4 lo)), .int vz, .ref mg, .ref mh]))] H := hP
                  have hD : va_D A [(mb, .inl (cI, 16384, .inl (iF pm))), (md, .inl (cI, 32768, .inl fx)), (mc, .inl (cI, 4, .inl (iF pd))), (me, .inl (cI, 4, .inl (iF pq))), (ma, .inl (cI, 65536, .inl (iF b))), (mm, .inr (5, [.int (nI th), .int (nI dg), .int (nI PT), .int (nI PN), .int (nI n), .ref ma, .ref mb, .ref mc, .ref md, .ref me, .int (nI sz), .ref mf, .int (nI od), .int (nI sl), .int (nI (t + 4)), .int (nI 4), .int (nI t), .int (nI lo), .long (lN (pN b t 4 lo)), .int vz, .ref mg, .ref mh]))] := hD
                  refine W.widen (k := 0) (n := 0) (Nat.le_of_ble_eq_true rfl) (Nat.le_of_ble_eq_true rfl) ?_
                  have z9 := (mRs_step hc (by omega) (show mRing b n (uD dg) PT PN sl lo (t, wr, pl, nm, vz, pq, fx, pd, pm) = (0, t + 4, 4, t, pN b t 4 lo, vz, pq, fx, pd, pm) from by rw [mRing_eq]; rw [if_neg (by omega), if_neg (by omega), if_pos (by omega)])).1 rfl
                  have e0 : (0) = k1 := congrArg (fun z => z.1) z9
                  have e1 : (t + 4) = t1 := congrArg (fun z => z.2.1) z9
                  have e2 : (4) = wr1 := congrArg (fun z => z.2.2.1) z9
                  have e3 : (t) = pl1 := congrArg (fun z => z.2.2.2.1) z9
                  have e4 : (pN b t 4 lo) = nm1 := congrArg (fun z => z.2.2.2.2.1) z9
                  have e5 : (vz) = vz1 := congrArg (fun z => z.2.2.2.2.2.1) z9
                  have e6 : (pq) = pq1 := congrArg (fun z => z.2.2.2.2.2.2.1) z9
                  have e7 : (fx) = fx1 := congrArg (fun z => z.2.2.2.2.2.2.2.1) z9
                  have e8 : (pd) = pd1 := congrArg (fun z => z.2.2.2.2.2.2.2.2.1) z9
                  have e9 : (pm) = pm1 := congrArg (fun z => z.2.2.2.2.2.2.2.2.2) z9
                  have hP : va_P D kCl [(mm, .inr (5, [.int (nI th), .int (nI dg), .int (nI PT), .int (nI PN), .int (nI n), .ref ma, .ref mb, .ref mc, .ref md, .ref me, .int (nI sz), .ref mf, .int (nI od), .int (nI sl), .int (nI (t + 4)), .int (nI 4), .int (nI t), .int (nI lo), .long (lN (pN b t 4 lo)), .int vz, .ref mg, .ref mh])), (ma, .inl (cI, 65536, .inl (iF b))), (mb, .inl (cI, 16384, .inl (iF pm))), (mc, .inl (cI, 4, .inl (iF pd))), (md, .inl (cI, 32768, .inl fx)), (me, .inl (cI, 4, .inl (iF pq)))] H := hP.sub [5, 4, 0, 2, 1, 3] rfl
                  have hD : va_D A [(mm, .inr (5, [.int (nI th), .int (nI dg), .int (nI PT), .int (nI PN), .int (nI n), .ref ma, .ref mb, .ref mc, .ref md, .ref me, .int (nI sz), .ref mf, .int (nI od), .int (nI sl), .int (nI (t + 4)), .int (nI 4), .int (nI t), .int (nI lo), .long (lN (pN b t 4 lo)), .int vz, .ref mg, .ref mh])), (ma, .inl (cI, 65536, .inl (iF b))), (mb, .inl (cI, 16384, .inl (iF pm))), (mc, .inl (cI, 4, .inl (iF pd))), (md, .inl (cI, 32768, .inl fx)), (me, .inl (cI, 4, .inl (iF pq)))] := hD.sub [5, 4, 0, 2, 1, 3] (by decide) rfl
                  exact k_iret () hx hb hr (by first | rfl | decide | exact vp_nar_int _) hlocks hK hP hD hS (by rw [hpm, if_pos e0.symm, ← e1, ← e2, ← e3, ← e4, ← e5, ← e6, ← e7, ← e8, ← e9]) (by rw [← e0]) (Nat.le_of_ble_eq_true rfl) (Nat.le_of_ble_eq_true rfl) dX7_rings_60
              · skip
                exact absurd c371 (by omega)
          · skip
            exact absurd c369 (by omega)
  exact loop365 ((c9 - 0) + 1) 0 t wr pl nm vz pq fx pd pm _ _ _ (Nat.lt_succ_self _) (Nat.zero_le _) (ht) (hpq) (hpd) (hs) (hP.sub [0, 1, 2, 3, 4, 5] rfl) (hD.sub [0, 1, 2, 3, 4, 5] (by decide) rfl) hS (lv_sub hl [1, 2, 3, 0] rfl)

set_option maxRecDepth 100000 in
set_option maxHeartbeats 4000000 in
theorem c_M_collections (l : Launch) (D : va_G) (cI cB cJ cS : ClassId) (mm ma mb mc md me mf mg mh th dg PT PN n sz od sl t wr pl lo nm : Nat) (b pm pd pq rb ok ol : Nat → Nat) (fx : Nat → Int32) (vz : Int32) (d : Nat) (hd : d ≤ 104) (hok : ∀ j, ok j < 2 ^ 31)  : kM l yX7_collections vsX7_collections ({ frames := 0, cells := 0, slots := 0, locals := 0 }) D (kT cI cB cJ cS) [.ref mm, .int (nI d)] [(mm, .inr (5, [.int (nI th), .int (nI dg), .int (nI PT), .int (nI PN), .int (nI n), .ref ma, .ref mb, .ref mc, .ref md, .ref me, .int (nI sz), .ref mf, .int (nI od), .int (nI sl), .int (nI t), .int (nI wr), .int (nI pl), .int (nI lo), .long (lN nm), .int vz, .ref mg, .ref mh])), (mg, .inl (cI, 104, .inl (iF ok)))] (kQi D (kT cI cB cJ cS) (fun r (ug : Unit) => r = nI (nCol ok d)) (fun ug => [(mm, .inr (5, [.int (nI th), .int (nI dg), .int (nI PT), .int (nI PN), .int (nI n), .ref ma, .ref mb, .ref mc, .ref md, .ref me, .int (nI sz), .ref mf, .int (nI od), .int (nI sl), .int (nI t), .int (nI wr), .int (nI pl), .int (nI lo), .long (lN nm), .int vz, .ref mg, .ref mh])), (mg, .inl (cI, 104, .inl (iF ok)))])) := by
  refine k_ofW (by decide) rfl (Nat.le_of_ble_eq_true rfl) ?_
  intro p e s m below meth c A ls hx hb hr hts hown hlocks hmn hml hA hP hK hD hS hZ hl
  have inX7 : ∀ w ∈ wsX70, w ∈ vsX7_collections := fun w h => List.mem_cons_of_mem _ (iaX7 w h)
  have F : CallFix p m c cX7_collections 4 s _ vsX7_collections RX7 := ⟨hx, hb, hml, hown, hts⟩
  have hl : lv_has ls 4 [(0, .ref mm), (1, .int (nI d))] := hl
  refine lv_iconst (v := nI 0) hx hb dX7_collections_0 (by decide) ?_
  refine lv_istore_n (lv' := [(2, .int (nI 0)), (0, .ref mm), (1, .int (nI d))]) hx hb dX7_collections_1 rfl hl (by decide) rfl (fun ls hl => ?_)
  refine lv_iconst (v := nI 0) hx hb dX7_collections_2 (by decide) ?_
  refine lv_istore_n (lv' := [(3, .int (nI 0)), (2, .int (nI 0)), (0, .ref mm), (1, .int (nI d))]) hx hb dX7_collections_3 rfl hl (by decide) rfl (fun ls hl => ?_)
  have loop372 : ∀ (k373 : Nat) (j : Nat) (H : Heap) (locs : List Loc) (ls : Array Slot), d - j < k373 → (j ≤ d) → va_P D kCl [(mm, .inr (5, [.int (nI th), .int (nI dg), .int (nI PT), .int (nI PN), .int (nI n), .ref ma, .ref mb, .ref mc, .ref md, .ref me, .int (nI sz), .ref mf, .int (nI od), .int (nI sl), .int (nI t), .int (nI wr), .int (nI pl), .int (nI lo), .long (lN nm), .int vz, .ref mg, .ref mh])), (mg, .inl (cI, 104, .inl (iF ok)))] H → va_D A [(mm, .inr (5, [.int (nI th), .int (nI dg), .int (nI PT), .int (nI PN), .int (nI n), .ref ma, .ref mb, .ref mc, .ref md, .ref me, .int (nI sz), .ref mf, .int (nI od), .int (nI sl), .int (nI t), .int (nI wr), .int (nI pl), .int (nI lo), .long (lN nm), .int vz, .ref mg, .ref mh])), (mg, .inl (cI, 104, .inl (iF ok)))] → va_S A s.heap H locs → lv_has ls 4 [(0, .ref mm), (1, .int (nI d)), (2, .int (nI (nCol ok j))), (3, .int (nI j))] → W p l e ({ frames := 0, cells := 0, slots := 0, locals := 0 }) s m ([.ref mm, .int (nI d)] : List Value).toArray below meth c H locs 0 0 (MQ below ((kQi D (kT cI cB cJ cS) (fun r (ug : Unit) => r = nI (nCol ok d)) (fun ug => [(mm, .inr (5, [.int (nI th), .int (nI dg), .int (nI PT), .int (nI PN), .int (nI n), .ref ma, .ref mb, .ref mc, .ref md, .ref me, .int (nI sz), .ref mf, .int (nI od), .int (nI sl), .int (nI t), .int (nI wr), .int (nI pl), .int (nI lo), .long (lN nm), .int vz, .ref mg, .ref mh])), (mg, .inl (cI, 104, .inl (iF ok)))])) A) ([.ref mm, .int (nI d)] : List Value).toArray s ({ frames := 0, cells := 0, slots := 0, locals := 0 } : Room).cells ({ frames := 0, cells := 0, slots := 0, locals := 0 } : Room).slots A) (F0 m 4 ls []) := by
    intro k373
    induction k373 with
    | zero =>
      intro j H locs ls hk9
      exact absurd hk9 (Nat.not_lt_zero _)
    | succ k373 ihloop372 =>
      intro j H locs ls hk9 hj hP hD hS hl
      refine lv_iload_n hx hb dX7_collections_4 rfl (lv_at hl 3 rfl) ?_
      refine lv_iload_n hx hb dX7_collections_5 rfl (lv_at hl 1 rfl) ?_
      refine k_icmp_ge (tgt := 34) (by omega) (by omega) hx hb dX7_collections_6 (by decide) (fun c374 => ?_) (fun c374 => ?_)
      · skip
        refine lv_iload_n hx hb dX7_collections_34 rfl (lv_at hl 2 rfl) ?_
        exact k_iret () hx hb hr (by first | rfl | decide | exact vp_nar_int _) hlocks hK hP hD hS (rfl) (by rw [show j = d by omega]) (Nat.le_of_ble_eq_true rfl) (Nat.le_of_ble_eq_true rfl) dX7_collections_35
      · skip
        refine lv_iload_n hx hb dX7_collections_9 rfl (lv_at hl 2 rfl) ?_
        refine lv_aload_n hx hb dX7_collections_10 rfl (lv_at hl 0 rfl) ?_
        refine va_get (D := D) (ci := 5) (v := .ref mg) (C := RX7) (T := TX7) (N := 22) hx hb hts inX7 hown hK hP 0 rfl rfl 20 (by decide) (hts (.fieldLink RX7 31 "ByteShapesModel" "openKind" "[I") (List.mem_cons_of_mem _ wd_442)) (fun _ h9 => h9) rfl dX7_collections_11 ?_
        refine lv_iload_n hx hb dX7_collections_14 rfl (lv_at hl 3 rfl) ?_
        refine va_iald hx hb hK hP 1 0 rfl rfl (vp_in_nI (by omega) (by omega)) dX7_collections_15 ?_
        refine k_i (show _ = (iF ok) j from congrArg (iF ok) (nI_clamp (by omega))) ?_
        refine k_i (show _ = nI (ok j) from rfl) ?_
        refine lv_bipush (v := nI 7) hx hb dX7_collections_16 (by decide) ?_
        have hok9 := hok j
        refine k_icmp_ne (tgt := 25) (by omega) (by omega) hx hb dX7_collections_18 (by decide) (fun h7 => ?_) (fun h7 => ?_)
        · skip
          refine lv_iconst (v := nI 0) hx hb dX7_collections_25 (by decide) ?_
          refine lv_iadd hx hb dX7_collections_26 ?_
          refine k_i (show _ = nI (nCol ok j + 0) from nI_add _ _) ?_
          refine k_i (show _ = nI (nCol ok (j + 1)) from by show nI (nCol ok j + 0) = nI (nCol ok j + if ok j = 7 then 1 else 0); rw [if_neg h7]) ?_
          refine lv_istore_n (lv' := [(2, .int (nI (nCol ok (j + 1)))), (0, .ref mm), (1, .int (nI d)), (3, .int (nI j))]) hx hb dX7_collections_27 rfl hl (by decide) rfl (fun ls hl => ?_)
          refine lv_iinc (v := nI (j + 1)) (lv' := [(3, .int (nI (j + 1))), (2, .int (nI (nCol ok (j + 1)))), (0, .ref mm), (1, .int (nI d))]) hx hb dX7_collections_28 hl (k := 3) rfl (nI_add _ _) (by decide) rfl (fun ls hl => ?_)
          refine lv_goto (tgt := 4) hx hb dX7_collections_31 (by decide) ?_
          exact ihloop372 (j + 1) _ _ _ (by omega) (by omega) (hP.sub [0, 1] rfl) (hD.sub [0, 1] (by decide) rfl) hS (lv_sub hl [2, 3, 1, 0] rfl)
        · skip
          refine lv_iconst (v := nI 1) hx hb dX7_collections_21 (by decide) ?_
          refine lv_goto (tgt := 26) hx hb dX7_collections_22 (by decide) ?_
          refine lv_iadd hx hb dX7_collections_26 ?_
          refine k_i (show _ = nI (nCol ok j + 1) from nI_add _ _) ?_
          refine k_i (show _ = nI (nCol ok (j + 1)) from by show nI (nCol ok j + 1) = nI (nCol ok j + if ok j = 7 then 1 else 0); rw [if_pos h7]) ?_
          refine lv_istore_n (lv' := [(2, .int (nI (nCol ok (j + 1)))), (0, .ref mm), (1, .int (nI d)), (3, .int (nI j))]) hx hb dX7_collections_27 rfl hl (by decide) rfl (fun ls hl => ?_)
          refine lv_iinc (v := nI (j + 1)) (lv' := [(3, .int (nI (j + 1))), (2, .int (nI (nCol ok (j + 1)))), (0, .ref mm), (1, .int (nI d))]) hx hb dX7_collections_28 hl (k := 3) rfl (nI_add _ _) (by decide) rfl (fun ls hl => ?_)
          refine lv_goto (tgt := 4) hx hb dX7_collections_31 (by decide) ?_
          exact ihloop372 (j + 1) _ _ _ (by omega) (by omega) (hP.sub [0, 1] rfl) (hD.sub [0, 1] (by decide) rfl) hS (lv_sub hl [2, 3, 1, 0] rfl)
  exact loop372 ((d - 0) + 1) 0 _ _ _ (Nat.lt_succ_self _) (Nat.zero_le _) (hP.sub [0, 1] rfl) (hD.sub [0, 1] (by decide) rfl) hS (lv_sub hl [2, 3, 1, 0] rfl)

