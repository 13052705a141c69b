set_option maxRecDepth 100000 in
set_option maxHeartbeats 4000000 in
theorem c_M_readAll (l : Launch) (D : va_G) (cI cB cJ cS : ClassId) (mm ma mb mc md me mf mg mh th dg PT PN n sz od sl t wr pl lo nm : Nat) (b pm pd pq rb ok ol : Nat → Nat) (fx : Nat → Int32) (vz : Int32) (ht : t ≤ n) (hn : n ≤ 65536) (hlo2 : lo < 2) (hb256 : ∀ j, b j < 256) (hsl : sl < 4) (hpd : pd sl ≤ PN) (hPN : PN ≤ 4096) (hpq : pq sl ≤ PT) (hPT : PT ≤ 4096) (hdg : dg < 4) (hok : ∀ j, ok j < 2 ^ 31) (hol : ∀ j, ol j < 2 ^ 32) (k1 t1 lo1 wr1 pl1 nm1 : Nat) (vz1 : Int32) (pq1 : Nat → Nat) (fx1 : Nat → Int32) (pd1 pm1 ok1 ol1 : Nat → Nat) (hs : mAll b n (uD dg) PT PN sl (n + 1) 0 (t, lo, wr, pl, nm, vz, pq, fx, pd, pm, ok, ol) = (k1, t1, lo1, wr1, pl1, nm1, vz1, pq1, fx1, pd1, pm1, ok1, ol1))  : kM l yX7_readAll vsX7_readAll ({ frames := 6, cells := 0, slots := 0, locals := 151 }) D (kT cI cB cJ cS) [.ref mm] [(mm, .inr (5, [.int (nI th), .int (nI dg), .int (nI PT), .int (nI PN), .int (nI n), .ref ma, .ref mb, .ref mc, .ref md, .ref me, .int (nI sz), .ref mf, .int (nI od), .int (nI sl), .int (nI t), .int (nI wr), .int (nI pl), .int (nI lo), .long (lN nm), .int vz, .ref mg, .ref mh])), (ma, .inl (cI, 65536, .inl (iF b))), (mb, .inl (cI, 16384, .inl (iF pm))), (mc, .inl (cI, 4, .inl (iF pd))), (md, .inl (cI, 32768, .inl fx)), (me, .inl (cI, 4, .inl (iF pq))), (mg, .inl (cI, 104, .inl (iF ok))), (mh, .inl (cJ, 104, .inr (.inl (lF ol))))] (kQi D (kT cI cB cJ cS) (fun r (ug : Unit) => r = nI k1) (fun ug => [(mm, .inr (5, [.int (nI th), .int (nI dg), .int (nI PT), .int (nI PN), .int (nI n), .ref ma, .ref mb, .ref mc, .ref md, .ref me, .int (nI sz), .ref mf, .int (nI od), .int (nI sl), .int (nI t1), .int (nI wr1), .int (nI pl1), .int (nI lo1), .long (lN nm1), .int vz1, .ref mg, .ref mh])), (ma, .inl (cI, 65536, .inl (iF b))), (mb, .inl (cI, 16384, .inl (iF pm1))), (mc, .inl (cI, 4, .inl (iF pd1))), (md, .inl (cI, 32768, .inl fx1)), (me, .inl (cI, 4, .inl (iF pq1))), (mg, .inl (cI, 104, .inl (iF ok1))), (mh, .inl (cJ, 104, .inr (.inl (lF ol1))))])) := by
  refine k_ofW (by decide) rfl (Nat.le_of_ble_eq_true rfl) ?_
  intro p e s m below meth c A ls hx hb hr hts hown hlocks hmn hml hA hP hK hD hS hZ hl
  have inX7 : ∀ w ∈ wsX70, w ∈ vsX7_readAll := fun w h => List.mem_cons_of_mem _ (iaX7 w h)
  have F : CallFix p m c cX7_readAll 5 s _ vsX7_readAll RX7 := ⟨hx, hb, hml, hown, hts⟩
  have hl : lv_has ls 5 [(0, .ref mm)] := hl
  refine lv_iconst (v := nI 0) hx hb dX7_readAll_0 (by decide) ?_
  refine lv_istore_n (lv' := [(1, .int (nI 0)), (0, .ref mm)]) hx hb dX7_readAll_1 rfl hl (by decide) rfl (fun ls hl => ?_)
  refine lv_iconst (v := nI 1) hx hb dX7_readAll_2 (by decide) ?_
  refine lv_istore_n (lv' := [(2, .int (nI 1)), (1, .int (nI 0)), (0, .ref mm)]) hx hb dX7_readAll_3 rfl hl (by decide) rfl (fun ls hl => ?_)
  have loop468 : ∀ (k469 : Nat) (g9 : Nat) (dp : Nat) (t : Nat) (lo : Nat) (wr : Nat) (pl : Nat) (nm : Nat) (vz : Int32) (pq : Nat → Nat) (fx : Nat → Int32) (pd : Nat → Nat) (pm : Nat → Nat) (ok : Nat → Nat) (ol : Nat → Nat) (H : Heap) (locs : List Loc) (ls : Array Slot), n - t < k469 → (t ≤ n) → (lo < 2) → (pd sl ≤ PN) → (pq sl ≤ PT) → (jI dp ok ol) → (n - t < g9) → (mAll b n (uD dg) PT PN sl g9 dp (t, lo, wr, pl, nm, vz, pq, fx, pd, pm, ok, ol) = (k1, t1, lo1, wr1, pl1, nm1, vz1, pq1, fx1, pd1, pm1, ok1, ol1)) → va_P D kCl [(mm, .inr (5, [.int (nI th), .int (nI dg), .int (nI PT), .int (nI PN), .int (nI n), .ref ma, .ref mb, .ref mc, .ref md, .ref me, .int (nI sz), .ref mf, .int (nI od), .int (nI sl), .int (nI t), .int (nI wr), .int (nI pl), .int (nI lo), .long (lN nm), .int vz, .ref mg, .ref mh])), (ma, .inl (cI, 65536, .inl (iF b))), (mb, .inl (cI, 16384, .inl (iF pm))), (mc, .inl (cI, 4, .inl (iF pd))), (md, .inl (cI, 32768, .inl fx)), (me, .inl (cI, 4, .inl (iF pq))), (mg, .inl (cI, 104, .inl (iF ok))), (mh, .inl (cJ, 104, .inr (.inl (lF ol))))] H → va_D A [(mm, .inr (5, [.int (nI th), .int (nI dg), .int (nI PT), .int (nI PN), .int (nI n), .ref ma, .ref mb, .ref mc, .ref md, .ref me, .int (nI sz), .ref mf, .int (nI od), .int (nI sl), .int (nI t), .int (nI wr), .int (nI pl), .int (nI lo), .long (lN nm), .int vz, .ref mg, .ref mh])), (ma, .inl (cI, 65536, .inl (iF b))), (mb, .inl (cI, 16384, .inl (iF pm))), (mc, .inl (cI, 4, .inl (iF pd))), (md, .inl (cI, 32768, .inl fx)), (me, .inl (cI, 4, .inl (iF pq))), (mg, .inl (cI, 104, .inl (iF ok))), (mh, .inl (cJ, 104, .inr (.inl (lF ol))))] → va_S A s.heap H locs → lv_has ls 5 [(0, .ref mm), (1, .int (nI dp)), (2, .int (nI 1))] → W p l e ({ frames := 6, cells := 0, slots := 0, locals := 151 }) s m ([.ref mm] : List Value).toArray below meth c H locs 0 0 (MQ below ((kQi D (kT cI cB cJ cS) (fun r (ug : Unit) => r = nI k1) (fun ug => [(mm, .inr (5, [.int (nI th), .int (nI dg), .int (nI PT), .int (nI PN), .int (nI n), .ref ma, .ref mb, .ref mc, .ref md, .ref me, .int (nI sz), .ref mf, .int (nI od), .int (nI sl), .int (nI t1), .int (nI wr1), .int (nI pl1), .int (nI lo1), .long (lN nm1), .int vz1, .ref mg, .ref mh])), (ma, .inl (cI, 65536, .inl (iF b))), (mb, .inl (cI, 16384, .inl (iF pm1))), (mc, .inl (cI, 4, .inl (iF pd1))), (md, .inl (cI, 32768, .inl fx1)), (me, .inl (cI, 4, .inl (iF pq1))), (mg, .inl (cI, 104, .inl (iF ok1))), (mh, .inl (cJ, 104, .inr (.inl (lF ol1))))])) A) ([.ref mm] : List Value).toArray s ({ frames := 6, cells := 0, slots := 0, locals := 151 } : Room).cells ({ frames := 6, cells := 0, slots := 0, locals := 151 } : Room).slots A) (F0 m 4 ls []) := by
    intro k469
    induction k469 with
    | zero =>
      intro g9 dp t lo wr pl nm vz pq fx pd pm ok ol H locs ls hk9
      exact absurd hk9 (Nat.not_lt_zero _)
    | succ k469 ihloop468 =>
      intro g9 dp t lo wr pl nm vz pq fx pd pm ok ol H locs ls hk9 ht hlo2 hpd hpq hj hg hc hP hD hS hl
      refine lv_iload_n hx hb dX7_readAll_4 rfl (lv_at hl 2 rfl) ?_
      refine k_if_eq (tgt := 100) (by omega) hx hb dX7_readAll_5 (by decide) (fun c470 => ?_) (fun c470 => ?_)
      · skip
        exact absurd c470 (by omega)
      · skip
        refine lv_iload_n hx hb dX7_readAll_8 rfl (lv_at hl 1 rfl) ?_
        refine lv_istore_n (lv' := [(3, .int (nI dp)), (0, .ref mm), (1, .int (nI dp)), (2, .int (nI 1))]) hx hb dX7_readAll_9 rfl hl (by decide) rfl (fun ls hl => ?_)
        refine lv_aload_n hx hb dX7_readAll_10 rfl (lv_at hl 1 rfl) ?_
        refine lv_iload_n hx hb dX7_readAll_11 rfl (lv_at hl 0 rfl) ?_
        obtain ⟨⟨kc, tc, loc, wrc, plc, nmc, vzc, pqc, fxc, pdc, pmc, okc, olc⟩, hsc⟩ : ∃ z, z = mShape b n (uD dg) PT PN sl dp t lo wr pl nm vz pq fx pd pm ok ol := ⟨_, rfl⟩
        have hbs := mShape_bd (uD dg) wr pl nm vz fx pm ol hb256 ht hlo2 hpq hpd hj.1
        rw [← hsc] at hbs
        have b1 : kc ≤ 2 := by obtain ⟨q, _⟩ := hbs; exact q
        have hx9 := mAll_x hc hg hsc
        have hdp := jI_dp hj
        refine k_ci (wr := []) (k_rv F (c_M_shape l D cI cB cJ cS mm ma mb mc md me mf mg mh th dg PT PN n sz od sl t wr pl lo nm b pm pd pq rb ok ol fx vz ht hn hlo2 hb256 hsl hpd hPN hpq hPT hdg dp (by omega) hj.2.2.2.2.2 hj.1 kc tc loc wrc plc nmc vzc pqc fxc pdc pmc okc olc hsc.symm) (cwV 1 hts (g_V wd_467 wd_468 wd_469 wd_373 wd_470) rfl rfl rfl (by decide +kernel) ⟨Nat.le_of_ble_eq_true rfl, Nat.le_of_ble_eq_true rfl⟩) hK hP hD hS hA hZ [0, 1, 2, 3, 4, 5, 6, 7] rfl (by decide) 0 rfl rfl rfl rfl hl.1 rfl (Nat.le_of_ble_eq_true rfl) dX7_readAll_12 ⟨Nat.le_of_ble_eq_true rfl, Nat.le_of_ble_eq_true rfl⟩) hP hD hS hA [0, 1, 2, 3, 4, 5, 6, 7] [] rfl rfl (by decide) (by decide) (fun r u9 H locs hw hP hD hS => ?_)
        subst hw
        have hP : va_P D kCl [(mm, .inr (5, [.int (nI th), .int (nI dg), .int (nI PT), .int (nI PN), .int (nI n), .ref ma, .ref mb, .ref mc, .ref md, .ref me, .int (nI sz), .ref mf, .int (nI od), .int (nI sl), .int (nI tc), .int (nI wrc), .int (nI plc), .int (nI loc), .long (lN nmc), .int vzc, .ref mg, .ref mh])), (ma, .inl (cI, 65536, .inl (iF b))), (mb, .inl (cI, 16384, .inl (iF pmc))), (mc, .inl (cI, 4, .inl (iF pdc))), (md, .inl (cI, 32768, .inl fxc)), (me, .inl (cI, 4, .inl (iF pqc))), (mg, .inl (cI, 104, .inl (iF okc))), (mh, .inl (cJ, 104, .inr (.inl (lF olc))))] H := hP
        have hD : va_D A [(mm, .inr (5, [.int (nI th), .int (nI dg), .int (nI PT), .int (nI PN), .int (nI n), .ref ma, .ref mb, .ref mc, .ref md, .ref me, .int (nI sz), .ref mf, .int (nI od), .int (nI sl), .int (nI tc), .int (nI wrc), .int (nI plc), .int (nI loc), .long (lN nmc), .int vzc, .ref mg, .ref mh])), (ma, .inl (cI, 65536, .inl (iF b))), (mb, .inl (cI, 16384, .inl (iF pmc))), (mc, .inl (cI, 4, .inl (iF pdc))), (md, .inl (cI, 32768, .inl fxc)), (me, .inl (cI, 4, .inl (iF pqc))), (mg, .inl (cI, 104, .inl (iF okc))), (mh, .inl (cJ, 104, .inr (.inl (lF olc))))] := hD
        refine W.widen (k := 0) (n := 0) (Nat.le_of_ble_eq_true rfl) (Nat.le_of_ble_eq_true rfl) ?_
        rcases (show kc = 0 ∨ kc = 1 ∨ kc = 2 by omega) with h9 | h9 | h9
        · skip
          refine k_i (show _ = (-1) from rS_0 h9) ?_
          have z8 := hx9.1 h9
          refine lv_istore_n (lv' := [(1, .int (-1)), (3, .int (nI dp)), (0, .ref mm), (2, .int (nI 1))]) hx hb dX7_readAll_15 rfl hl (by decide) rfl (fun ls hl => ?_)
          refine lv_iload_n hx hb dX7_readAll_16 rfl (lv_at hl 0 rfl) ?_
          refine lv_if_ge (tgt := 22) hx hb dX7_readAll_17 (by decide) (fun c471 => ?_) (fun c471 => ?_)
          · skip
            exact absurd c471 (by decide)
          · skip
            refine lv_iconst (v := nI 0) hx hb dX7_readAll_20 (by decide) ?_
            have z9 : (0, tc, loc, wrc, plc, nmc, vzc, pqc, fxc, pdc, pmc, okc, olc) = (k1, t1, lo1, wr1, pl1, nm1, vz1, pq1, fx1, pd1, pm1, ok1, ol1) := z8
            have e0 : (0) = k1 := congrArg (fun z => z.1) z9
            have e1 : (tc) = t1 := congrArg (fun z => z.2.1) z9
            have e2 : (loc) = lo1 := congrArg (fun z => z.2.2.1) z9
            have e3 : (wrc) = wr1 := congrArg (fun z => z.2.2.2.1) z9
            have e4 : (plc) = pl1 := congrArg (fun z => z.2.2.2.2.1) z9
            have e5 : (nmc) = nm1 := congrArg (fun z => z.2.2.2.2.2.1) z9
            have e6 : (vzc) = vz1 := congrArg (fun z => z.2.2.2.2.2.2.1) z9
            have e7 : (pqc) = pq1 := congrArg (fun z => z.2.2.2.2.2.2.2.1) z9
            have e8 : (fxc) = fx1 := congrArg (fun z => z.2.2.2.2.2.2.2.2.1) z9
            have e9 : (pdc) = pd1 := congrArg (fun z => z.2.2.2.2.2.2.2.2.2.1) z9
            have e10 : (pmc) = pm1 := congrArg (fun z => z.2.2.2.2.2.2.2.2.2.2.1) z9
            have e11 : (okc) = ok1 := congrArg (fun z => z.2.2.2.2.2.2.2.2.2.2.2.1) z9
            have e12 : (olc) = ol1 := congrArg (fun z => z.2.2.2.2.2.2.2.2.2.2.2.2) z9
            exact k_iret () hx hb hr (by first | rfl | decide | exact vp_nar_int _) hlocks hK hP hD hS (by rw [← e1, ← e2, ← e3, ← e4, ← e5, ← e6, ← e7, ← e8, ← e9, ← e10, ← e11, ← e12]) (by rw [← e0]) (Nat.le_of_ble_eq_true rfl) (Nat.le_of_ble_eq_true rfl) dX7_readAll_21
        · skip
          refine k_i (show _ = nI dp from rS_1 h9) ?_
          obtain ⟨_, b2, b3, b4, b5, b6, b7, b8⟩ := hbs
          have b9 := b2 (by rw [h9]; decide)
          obtain ⟨c1, c2⟩ := b7 (by rw [h9]; decide)
          have hj1 : jI dp okc olc := by rw [c1, c2]; exact hj
          have hp1 := hx9.2.2.1 h9
          have hp2 := hx9.2.2.2 h9
          clear b2 b7 b8 hx9
          refine lv_istore_n (lv' := [(1, .int (nI dp)), (3, .int (nI dp)), (0, .ref mm), (2, .int (nI 1))]) hx hb dX7_readAll_15 rfl hl (by decide) rfl (fun ls hl => ?_)
          refine lv_iload_n hx hb dX7_readAll_16 rfl (lv_at hl 0 rfl) ?_
          refine k_if_ge (tgt := 22) (by omega) hx hb dX7_readAll_17 (by decide) (fun c472 => ?_) (fun c472 => ?_)
          · skip
            refine lv_iload_n hx hb dX7_readAll_22 rfl (lv_at hl 0 rfl) ?_
            refine lv_iload_n hx hb dX7_readAll_23 rfl (lv_at hl 1 rfl) ?_
            refine k_icmp_ne (tgt := 31) (by omega) (by omega) hx hb dX7_readAll_24 (by decide) (fun c473 => ?_) (fun c473 => ?_)
            · skip
              exact absurd c473 (by omega)
            · skip
              refine lv_iconst (v := nI 1) hx hb dX7_readAll_27 (by decide) ?_
              refine lv_goto (tgt := 32) hx hb dX7_readAll_28 (by decide) ?_
              refine lv_istore (lv' := [(4, .int (nI 1)), (1, .int (nI dp)), (3, .int (nI dp)), (0, .ref mm), (2, .int (nI 1))]) hx hb dX7_readAll_32 hl (by decide) rfl (fun ls hl => ?_)
              have loop474 : ∀ (k475 : Nat) (d : Nat) (ol2 : Nat → Nat) (H : Heap) (locs : List Loc) (ls : Array Slot), d < k475 → (jI d okc ol2) → ((mPop d ol2).1 = 0 → mAll b n (uD dg) PT PN sl (g9 - 1) (mPop d ol2).2.1 (tc, loc, wrc, plc, nmc, vzc, pqc, fxc, pdc, pmc, okc, (mPop d ol2).2.2) = (k1, t1, lo1, wr1, pl1, nm1, vz1, pq1, fx1, pd1, pm1, ok1, ol1)) → (¬ (mPop d ol2).1 = 0 → mEnd n (tc, loc, wrc, plc, nmc, vzc, pqc, fxc, pdc, pmc, okc, (mPop d ol2).2.2) = (k1, t1, lo1, wr1, pl1, nm1, vz1, pq1, fx1, pd1, pm1, ok1, ol1)) → va_P D kCl [(mm, .inr (5, [.int (nI th), .int (nI dg), .int (nI PT), .int (nI PN), .int (nI n), .ref ma, .ref mb, .ref mc, .ref md, .ref me, .int (nI sz), .ref mf, .int (nI od), .int (nI sl), .int (nI tc), .int (nI wrc), .int (nI plc), .int (nI loc), .long (lN nmc), .int vzc, .ref mg, .ref mh])), (ma, .inl (cI, 65536, .inl (iF b))), (mb, .inl (cI, 16384, .inl (iF pmc))), (mc, .inl (cI, 4, .inl (iF pdc))), (md, .inl (cI, 32768, .inl fxc)), (me, .inl (cI, 4, .inl (iF pqc))), (mg, .inl (cI, 104, .inl (iF okc))), (mh, .inl (cJ, 104, .inr (.inl (lF ol2))))] H → va_D A [(mm, .inr (5, [.int (nI th), .int (nI dg), .int (nI PT), .int (nI PN), .int (nI n), .ref ma, .ref mb, .ref mc, .ref md, .ref me, .int (nI sz), .ref mf, .int (nI od), .int (nI sl), .int (nI tc), .int (nI wrc), .int (nI plc), .int (nI loc), .long (lN nmc), .int vzc, .ref mg, .ref mh])), (ma, .inl (cI, 65536, .inl (iF b))), (mb, .inl (cI, 16384, .inl (iF pmc))), (mc, .inl (cI, 4, .inl (iF pdc))), (md, .inl (cI, 32768, .inl fxc)), (me, .inl (cI, 4, .inl (iF pqc))), (mg, .inl (cI, 104, .inl (iF okc))), (mh, .inl (cJ, 104, .inr (.inl (lF ol2))))] → va_S A s.heap H locs → lv_has ls 5 [(0, .ref mm), (1, .int (nI d)), (2, .int (nI 1)), (4, .int (nI 1))] → W p l e ({ frames := 6, cells := 0, slots := 0, locals := 151 }) s m ([.ref mm] : List Value).toArray below meth c H locs 0 0 (MQ below ((kQi D (kT cI cB cJ cS) (fun r (ug : Unit) => r = nI k1) (fun ug => [(mm, .inr (5, [.int (nI th), .int (nI dg), .int (nI PT), .int (nI PN), .int (nI n), .ref ma, .ref mb, .ref mc, .ref md, .ref me, .int (nI sz), .ref mf, .int (nI od), .int (nI sl), .int (nI t1), .int (nI wr1), .int (nI pl1), .int (nI lo1), .long (lN nm1), .int vz1, .ref mg, .ref mh])), (ma, .inl (cI, 65536, .inl (iF b))), (mb, .inl (cI, 16384, .inl (iF pm1))), (mc, .inl (cI, 4, .inl (iF pd1))), (md, .inl (cI, 32768, .inl fx1)), (me, .inl (cI, 4, .inl (iF pq1))), (mg, .inl (cI, 104, .inl (iF ok1))), (mh, .inl (cJ, 104, .inr (.inl (lF ol1))))])) A) ([.ref mm] : List Value).toArray s ({ frames := 6, cells := 0, slots := 0, locals := 151 } : Room).cells ({ frames := 6, cells := 0, slots := 0, locals := 151 } : Room).slots A) (F0 m 34 ls []) := by
                intro k475
                induction k475 with
                | zero =>
                  intro d ol2 H locs ls hk9
                  exact absurd hk9 (Nat.not_lt_zero _)
                | succ k475 ihloop474 =>
                  intro d ol2 H locs ls hk9 hj2 hp1 hp2 hP hD hS hl
                  refine lv_iload hx hb dX7_readAll_34 (lv_at hl 3 rfl) ?_
                  refine k_if_eq (tgt := 86) (by omega) hx hb dX7_readAll_36 (by decide) (fun c476 => ?_) (fun c476 => ?_)
                  · skip
                    exact absurd c476 (by omega)
                  · skip
                    have hd51 := jI_dp hj2
                    refine lv_iload_n hx hb dX7_readAll_39 rfl (lv_at hl 1 rfl) ?_
                    refine k_if_le (tgt := 86) (by omega) hx hb dX7_readAll_40 (by decide) (fun hd0 => ?_) (fun hd0 => ?_)
                    · skip
                      refine lv_iload hx hb dX7_readAll_86 (lv_at hl 3 rfl) ?_
                      refine k_if_ne (tgt := 95) (by omega) hx hb dX7_readAll_88 (by decide) (fun c477 => ?_) (fun c477 => ?_)
                      · skip
                        rw [show d = 0 by omega] at hp2
                        have hz : mEnd n (tc, loc, wrc, plc, nmc, vzc, pqc, fxc, pdc, pmc, okc, ol2) = (k1, t1, lo1, wr1, pl1, nm1, vz1, pq1, fx1, pd1, pm1, ok1, ol1) := hp2 (show ¬ 1 = 0 by decide)
                        refine lv_iconst (v := nI 0) hx hb dX7_readAll_95 (by decide) ?_
                        refine lv_istore_n (lv' := [(2, .int (nI 0)), (0, .ref mm), (1, .int (nI d)), (4, .int (nI 1))]) hx hb dX7_readAll_96 rfl hl (by decide) rfl (fun ls hl => ?_)
                        refine lv_goto (tgt := 4) hx hb dX7_readAll_97 (by decide) ?_
                        refine lv_iload_n hx hb dX7_readAll_4 rfl (lv_at hl 0 rfl) ?_
                        refine k_if_eq (tgt := 100) (by omega) hx hb dX7_readAll_5 (by decide) (fun c478 => ?_) (fun c478 => ?_)
                        · skip
                          refine lv_aload_n hx hb dX7_readAll_100 rfl (lv_at hl 1 rfl) ?_
                          refine va_get (D := D) (ci := 5) (v := .int (nI tc)) (C := RX7) (T := TX7) (N := 22) hx hb hts inX7 hown hK hP 0 rfl rfl 14 (by decide) (hts (.fieldLink RX7 68 "ByteShapesModel" "at" "I") (List.mem_cons_of_mem _ wd_394)) (fun _ h9 => h9) rfl dX7_readAll_101 ?_
                          refine lv_aload_n hx hb dX7_readAll_104 rfl (lv_at hl 1 rfl) ?_
                          refine va_get (D := D) (ci := 5) (v := .int (nI n)) (C := RX7) (T := TX7) (N := 22) hx hb hts inX7 hown hK hP 0 rfl rfl 4 (by decide) (hts (.fieldLink RX7 55 "ByteShapesModel" "fed" "I") (List.mem_cons_of_mem _ wd_375)) (fun _ h9 => h9) rfl dX7_readAll_105 ?_
                          refine k_icmp_eq (tgt := 124) (by omega) (by omega) hx hb dX7_readAll_108 (by decide) (fun hend => ?_) (fun hend => ?_)
                          · skip
                            refine lv_iconst (v := nI 1) hx hb dX7_readAll_124 (by decide) ?_
                            refine lv_goto (tgt := 129) hx hb dX7_readAll_125 (by decide) ?_
                            have z9 : (1, tc, loc, wrc, plc, nmc, vzc, pqc, fxc, pdc, pmc, okc, ol2) = (k1, t1, lo1, wr1, pl1, nm1, vz1, pq1, fx1, pd1, pm1, ok1, ol1) := (mEnd_1 (by omega)).symm.trans hz
                            have e0 : (1) = k1 := congrArg (fun z => z.1) z9
                            have e1 : (tc) = t1 := congrArg (fun z => z.2.1) z9
                            have e2 : (loc) = lo1 := congrArg (fun z => z.2.2.1) z9
                            have e3 : (wrc) = wr1 := congrArg (fun z => z.2.2.2.1) z9
                            have e4 : (plc) = pl1 := congrArg (fun z => z.2.2.2.2.1) z9
                            have e5 : (nmc) = nm1 := congrArg (fun z => z.2.2.2.2.2.1) z9
                            have e6 : (vzc) = vz1 := congrArg (fun z => z.2.2.2.2.2.2.1) z9
                            have e7 : (pqc) = pq1 := congrArg (fun z => z.2.2.2.2.2.2.2.1) z9
                            have e8 : (fxc) = fx1 := congrArg (fun z => z.2.2.2.2.2.2.2.2.1) z9
                            have e9 : (pdc) = pd1 := congrArg (fun z => z.2.2.2.2.2.2.2.2.2.1) z9
                            have e10 : (pmc) = pm1 := congrArg (fun z => z.2.2.2.2.2.2.2.2.2.2.1) z9
                            have e11 : (okc) = ok1 := congrArg (fun z => z.2.2.2.2.2.2.2.2.2.2.2.1) z9
                            have e12 : (ol2) = ol1 := congrArg (fun z => z.2.2.2.2.2.2.2.2.2.2.2.2) z9
                            exact k_iret () hx hb hr (by first | rfl | decide | exact vp_nar_int _) hlocks hK hP hD hS (by rw [← e1, ← e2, ← e3, ← e4, ← e5, ← e6, ← e7, ← e8, ← e9, ← e10, ← e11, ← e12]) (by rw [← e0]) (Nat.le_of_ble_eq_true rfl) (Nat.le_of_ble_eq_true rfl) dX7_readAll_129
                          · skip
                            refine lv_aload_n hx hb dX7_readAll_111 rfl (lv_at hl 1 rfl) ?_
                            refine lv_bipush (v := nI 8) hx hb dX7_readAll_112 (by decide) ?_
                            refine lv_aload_n hx hb dX7_readAll_114 rfl (lv_at hl 1 rfl) ?_
                            refine va_get (D := D) (ci := 5) (v := .int (nI tc)) (C := RX7) (T := TX7) (N := 22) hx hb hts inX7 hown hK hP 0 rfl rfl 14 (by decide) (hts (.fieldLink RX7 68 "ByteShapesModel" "at" "I") (List.mem_cons_of_mem _ wd_394)) (fun _ h9 => h9) rfl dX7_readAll_115 ?_
                            refine k_ci (wr := [(ma, .inl (cI, 65536, .inl (iF b))), (mb, .inl (cI, 16384, .inl (iF pmc))), (mc, .inl (cI, 4, .inl (iF pdc))), (md, .inl (cI, 32768, .inl fxc)), (me, .inl (cI, 4, .inl (iF pqc))), (mg, .inl (cI, 104, .inl (iF okc))), (mh, .inl (cJ, 104, .inr (.inl (lF ol2))))]) (k_rv F (c_M_wrong l D cI cB cJ cS mm ma mb mc md me mf mg mh th dg PT PN n sz od sl tc wrc plc loc nmc b pmc pdc pqc rb okc ol2 fxc vzc 8 tc) (cwV 2 hts (g_V wd_395 wd_396 wd_397 wd_373 wd_398) rfl rfl rfl (by decide +kernel) ⟨Nat.le_of_ble_eq_true rfl, Nat.le_of_ble_eq_true rfl⟩) hK hP hD hS hA hZ [0] rfl (by decide) 0 rfl rfl rfl rfl hl.1 rfl (Nat.le_of_ble_eq_true rfl) dX7_readAll_118 ⟨Nat.le_of_ble_eq_true rfl, Nat.le_of_ble_eq_true rfl⟩) hP hD hS hA [0] [1, 2, 3, 4, 5, 6, 7] rfl rfl (by decide) (by decide) (fun r u9 H locs hw hP hD hS => ?_)
                            subst hw
                            have hP : va_P D kCl [(ma, .inl (cI, 65536, .inl (iF b))), (mb, .inl (cI, 16384, .inl (iF pmc))), (mc, .inl (cI, 4, .inl (iF pdc))), (md, .inl (cI, 32768, .inl fxc)), (me, .inl (cI, 4, .inl (iF pqc))), (mg, .inl (cI, 104, .inl (iF okc))), (mh, .inl (cJ, 104, .inr (.inl (lF ol2)))), (mm, .inr (5, [.int (nI th), .int (nI dg), .int (nI PT), .int (nI PN), .int (nI n), .ref ma, .ref mb, .ref mc, .ref md, .ref me, .int (nI sz), .ref mf, .int (nI od), .int (nI sl), .int (nI tc), .int (nI 8), .int (nI tc), .int (nI loc), .long (lN nmc), .int vzc, .ref mg, .ref mh]))] H := hP
                            have hD : va_D A [(ma, .inl (cI, 65536, .inl (iF b))), (mb, .inl (cI, 16384, .inl (iF pmc))), (mc, .inl (cI, 4, .inl (iF pdc))), (md, .inl (cI, 32768, .inl fxc)), (me, .inl (cI, 4, .inl (iF pqc))), (mg, .inl (cI, 104, .inl (iF okc))), (mh, .inl (cJ, 104, .inr (.inl (lF ol2)))), (mm, .inr (5, [.int (nI th), .int (nI dg), .int (nI PT), .int (nI PN), .int (nI n), .ref ma, .ref mb, .ref mc, .ref md, .ref me, .int (nI sz), .ref mf, .int (nI od), .int (nI sl), .int (nI tc), .int (nI 8), .int (nI tc), .int (nI loc), .long (lN nmc), .int vzc, .ref mg, .ref mh]))] := hD
                            refine W.widen (k := 0) (n := 0) (Nat.le_of_ble_eq_true rfl) (Nat.le_of_ble_eq_true rfl) ?_
                            refine k_if_eq (tgt := 128) (by omega) hx hb dX7_readAll_121 (by decide) (fun c479 => ?_) (fun c479 => ?_)
                            · skip
                              refine lv_iconst (v := nI 0) hx hb dX7_readAll_128 (by decide) ?_
                              have z9 : (0, tc, loc, 8, tc, nmc, vzc, pqc, fxc, pdc, pmc, okc, ol2) = (k1, t1, lo1, wr1, pl1, nm1, vz1, pq1, fx1, pd1, pm1, ok1, ol1) := (mEnd_0 (by omega)).symm.trans hz
                              have e0 : (0) = k1 := congrArg (fun z => z.1) z9
                              have e1 : (tc) = t1 := congrArg (fun z => z.2.1) z9
                              have e2 : (loc) = lo1 := congrArg (fun z => z.2.2.1) z9
                              have e3 : (8) = wr1 := congrArg (fun z => z.2.2.2.1) z9
                              have e4 : (tc) = pl1 := congrArg (fun z => z.2.2.2.2.1) z9
                              have e5 : (nmc) = nm1 := congrArg (fun z => z.2.2.2.2.2.1) z9
                              have e6 : (vzc) = vz1 := congrArg (fun z => z.2.2.2.2.2.2.1) z9
                              have e7 : (pqc) = pq1 := congrArg (fun z => z.2.2.2.2.2.2.2.1) z9
                              have e8 : (fxc) = fx1 := congrArg (fun z => z.2.2.2.2.2.2.2.2.1) z9
                              have e9 : (pdc) = pd1 := congrArg (fun z => z.2.2.2.2.2.2.2.2.2.1) z9
                              have e10 : (pmc) = pm1 := congrArg (fun z => z.2.2.2.2.2.2.2.2.2.2.1) z9
                              have e11 : (okc) = ok1 := congrArg (fun z => z.2.2.2.2.2.2.2.2.2.2.2.1) z9
                              have e12 : (ol2) = ol1 := congrArg (fun z => z.2.2.2.2.2.2.2.2.2.2.2.2) z9
                              have hP : va_P D kCl [(mm, .inr (5, [.int (nI th), .int (nI dg), .int (nI PT), .int (nI PN), .int (nI n), .ref ma, .ref mb, .ref mc, .ref md, .ref me, .int (nI sz), .ref mf, .int (nI od), .int (nI sl), .int (nI tc), .int (nI 8), .int (nI tc), .int (nI loc), .long (lN nmc), .int vzc, .ref mg, .ref mh])), (ma, .inl (cI, 65536, .inl (iF b))), (mb, .inl (cI, 16384, .inl (iF pmc))), (mc, .inl (cI, 4, .inl (iF pdc))), (md, .inl (cI, 32768, .inl fxc)), (me, .inl (cI, 4, .inl (iF pqc))), (mg, .inl (cI, 104, .inl (iF okc))), (mh, .inl (cJ, 104, .inr (.inl (lF ol2))))] H := hP.sub [7, 0, 1, 2, 3, 4, 5, 6] rfl
                              have hD : va_D A [(mm, .inr (5, [.int (nI th), .int (nI dg), .int (nI PT), .int (nI PN), .int (nI n), .ref ma, .ref mb, .ref mc, .ref md, .ref me, .int (nI sz), .ref mf, .int (nI od), .int (nI sl), .int (nI tc), .int (nI 8), .int (nI tc), .int (nI loc), .long (lN nmc), .int vzc, .ref mg, .ref mh])), (ma, .inl (cI, 65536, .inl (iF b))), (mb, .inl (cI, 16384, .inl (iF pmc))), (mc, .inl (cI, 4, .inl (iF pdc))), (md, .inl (cI, 32768, .inl fxc)), (me, .inl (cI, 4, .inl (iF pqc))), (mg, .inl (cI, 104, .inl (iF okc))), (mh, .inl (cJ, 104, .inr (.inl (lF ol2))))] := hD.sub [7, 0, 1, 2, 3, 4, 5, 6] (by decide) rfl
                              exact k_iret () hx hb hr (by first | rfl | decide | exact vp_nar_int _) hlocks hK hP hD hS (by rw [← e1, ← e2, ← e3, ← e4, ← e5, ← e6, ← e7, ← e8, ← e9, ← e10, ← e11, ← e12]) (by rw [← e0]) (Nat.le_of_ble_eq_true rfl) (Nat.le_of_ble_eq_true rfl) dX7_readAll_129
                            · skip
                              exact absurd c479 (by omega)
                        · skip
                          exact absurd c478 (by omega)
                      · skip
                        exact absurd c477 (by omega)
                    · skip
                      have ho1 := hj2.2.2.2.1 (d - 1) (by omega)
                      have ho2 := hj2.2.2.2.2.1 (d - 1)
                      refine lv_aload_n hx hb dX7_readAll_43 rfl (lv_at hl 0 rfl) ?_
                      refine va_get (D := D) (ci := 5) (v := .ref mh) (C := RX7) (T := TX7) (N := 22) hx hb hts inX7 hown hK hP 0 rfl rfl 21 (by decide) (hts (.fieldLink RX7 34 "ByteShapesModel" "openLeft" "[J") (List.mem_cons_of_mem _ wd_450)) (fun _ h9 => h9) rfl dX7_readAll_44 ?_
                      refine lv_iload_n hx hb dX7_readAll_47 rfl (lv_at hl 1 rfl) ?_
                      refine lv_iconst (v := nI 1) hx hb dX7_readAll_48 (by decide) ?_
                      refine lv_isub hx hb dX7_readAll_49 ?_
                      refine k_i (show _ = nI (d - 1) from pk_sub (by omega)) ?_
                      refine lv_dup2_11 hx hb dX7_readAll_50 rfl rfl ?_
                      refine va_lald hx hb hK hP 7 2 rfl rfl (vp_in_nI (by omega) (by omega)) dX7_readAll_51 ?_
                      refine k_l (show _ = (lF ol2) (d - 1) from congrArg (lF ol2) (nI_clamp (by omega))) ?_
                      refine k_l (show _ = lN (ol2 (d - 1)) from rfl) ?_
                      refine lv_lconst (v := lN 1) hx hb dX7_readAll_52 (by decide) ?_
                      refine lv_lsub hx hb dX7_readAll_53 ?_
                      refine k_l (show _ = lN ((ol2 (d - 1)) - 1) from lN_sub (by omega)) ?_
                      refine va_last hx hb hK hP hD hS 7 2 rfl rfl (vp_in_nI (by omega) (by omega)) dX7_readAll_54 (fun H locs hP hD hS => ?_)
                      rw [show vp_updL (lF ol2) (nI (d - 1)).toNatClampNeg (lN ((ol2 (d - 1)) - 1)) = lF (va_up ol2 (d - 1) (ol2 (d - 1) - 1)) from by rw [nI_clamp (by omega)]; exact lF_put _ _ _] at hP hD
                      have hP : va_P D kCl [(mm, .inr (5, [.int (nI th), .int (nI dg), .int (nI PT), .int (nI PN), .int (nI n), .ref ma, .ref mb, .ref mc, .ref md, .ref me, .int (nI sz), .ref mf, .int (nI od), .int (nI sl), .int (nI tc), .int (nI wrc), .int (nI plc), .int (nI loc), .long (lN nmc), .int vzc, .ref mg, .ref mh])), (ma, .inl (cI, 65536, .inl (iF b))), (mb, .inl (cI, 16384, .inl (iF pmc))), (mc, .inl (cI, 4, .inl (iF pdc))), (md, .inl (cI, 32768, .inl fxc)), (me, .inl (cI, 4, .inl (iF pqc))), (mg, .inl (cI, 104, .inl (iF okc))), (mh, .inl (cJ, 104, .inr (.inl (lF (va_up ol2 (d - 1) (ol2 (d - 1) - 1))))))] H := hP
                      have hD : va_D A [(mm, .inr (5, [.int (nI th), .int (nI dg), .int (nI PT), .int (nI PN), .int (nI n), .ref ma, .ref mb, .ref mc, .ref md, .ref me, .int (nI sz), .ref mf, .int (nI od), .int (nI sl), .int (nI tc), .int (nI wrc), .int (nI plc), .int (nI loc), .long (lN nmc), .int vzc, .ref mg, .ref mh])), (ma, .inl (cI, 65536, .inl (iF b))), (mb, .inl (cI, 16384, .inl (iF pmc))), (mc, .inl (cI, 4, .inl (iF pdc))), (md, .inl (cI, 32768, .inl fxc)), (me, .inl (cI, 4, .inl (iF pqc))), (mg, .inl (cI, 104, .inl (iF okc))), (mh, .inl (cJ, 104, .inr (.inl (lF (va_up ol2 (d - 1) (ol2 (d - 1) - 1))))))] := hD
                      refine lv_aload_n hx hb dX7_readAll_55 rfl (lv_at hl 0 rfl) ?_
                      refine va_get (D := D) (ci := 5) (v := .ref mh) (C := RX7) (T := TX7) (N := 22) hx hb hts inX7 hown hK hP 0 rfl rfl 21 (by decide) (hts (.fieldLink RX7 34 "ByteShapesModel" "openLeft" "[J") (List.mem_cons_of_mem _ wd_450)) (fun _ h9 => h9) rfl dX7_readAll_56 ?_
                      refine lv_iload_n hx hb dX7_readAll_59 rfl (lv_at hl 1 rfl) ?_
                      refine lv_iconst (v := nI 1) hx hb dX7_readAll_60 (by decide) ?_
                      refine lv_isub hx hb dX7_readAll_61 ?_
                      refine k_i (show _ = nI (d - 1) from pk_sub (by omega)) ?_
                      refine va_lald hx hb hK hP 7 2 rfl rfl (vp_in_nI (by omega) (by omega)) dX7_readAll_62 ?_
                      refine k_l (show _ = (lF (va_up ol2 (d - 1) (ol2 (d - 1) - 1))) (d - 1) from congrArg (lF (va_up ol2 (d - 1) (ol2 (d - 1) - 1))) (nI_clamp (by omega))) ?_
                      refine k_l (show _ = lN (ol2 (d - 1) - 1) from congrArg lN (va_up_self _ _ _)) ?_
                      refine lv_lconst (v := lN 0) hx hb dX7_readAll_63 (by decide) ?_
                      refine W.lcmp hx hb dX7_readAll_64 ?_
                      refine k_lcmpN_ne (tgt := 72) (by omega) (by omega) hx hb dX7_readAll_65 (by decide) (fun hz0 => ?_) (fun hz0 => ?_)
                      · skip
                        refine lv_iconst (v := nI 0) hx hb dX7_readAll_72 (by decide) ?_
                        refine lv_istore (lv' := [(4, .int (nI 0)), (0, .ref mm), (1, .int (nI d)), (2, .int (nI 1))]) hx hb dX7_readAll_73 hl (by decide) rfl (fun ls hl => ?_)
                        refine lv_iload hx hb dX7_readAll_75 (lv_at hl 0 rfl) ?_
                        refine k_if_eq (tgt := 34) (by omega) hx hb dX7_readAll_77 (by decide) (fun c480 => ?_) (fun c480 => ?_)
                        · skip
                          refine lv_iload hx hb dX7_readAll_34 (lv_at hl 0 rfl) ?_
                          refine k_if_eq (tgt := 86) (by omega) hx hb dX7_readAll_36 (by decide) (fun c481 => ?_) (fun c481 => ?_)
                          · skip
                            refine lv_iload hx hb dX7_readAll_86 (lv_at hl 0 rfl) ?_
                            refine k_if_ne (tgt := 95) (by omega) hx hb dX7_readAll_88 (by decide) (fun c482 => ?_) (fun c482 => ?_)
                            · skip
                              exact absurd c482 (by omega)
                            · skip
                              refine lv_iconst (v := nI 1) hx hb dX7_readAll_91 (by decide) ?_
                              refine lv_goto (tgt := 96) hx hb dX7_readAll_92 (by decide) ?_
                              refine lv_istore_n (lv' := [(2, .int (nI 1)), (4, .int (nI 0)), (0, .ref mm), (1, .int (nI d))]) hx hb dX7_readAll_96 rfl hl (by decide) rfl (fun ls hl => ?_)
                              refine lv_goto (tgt := 4) hx hb dX7_readAll_97 (by decide) ?_
                              rw [mPop_p ol2 (by omega), if_neg (show ¬ ol2 (d - 1) - 1 = 0 by omega)] at hp1
                              have hcn : mAll b n (uD dg) PT PN sl (g9 - 1) d (tc, loc, wrc, plc, nmc, vzc, pqc, fxc, pdc, pmc, okc, va_up ol2 (d - 1) (ol2 (d - 1) - 1)) = (k1, t1, lo1, wr1, pl1, nm1, vz1, pq1, fx1, pd1, pm1, ok1, ol1) := hp1 rfl
                              exact ihloop468 (g9 - 1) d tc loc wrc plc nmc vzc pqc fxc pdc pmc okc (va_up ol2 (d - 1) (ol2 (d - 1) - 1)) _ _ _ (by omega) (b3) (b4) (b6) (b5) (jI_setp hj2 (by omega) (by omega) (by omega)) (by omega) (hcn) (hP.sub [0, 1, 2, 3, 4, 5, 6, 7] rfl) (hD.sub [0, 1, 2, 3, 4, 5, 6, 7] (by decide) rfl) hS (lv_sub hl [2, 3, 0] rfl)
                          · skip
                            exact absurd c481 (by omega)
                        · skip
                          exact absurd c480 (by omega)
                      · skip
                        refine lv_iconst (v := nI 1) hx hb dX7_readAll_68 (by decide) ?_
                        refine lv_goto (tgt := 73) hx hb dX7_readAll_69 (by decide) ?_
                        refine lv_istore (lv' := [(4, .int (nI 1)), (0, .ref mm), (1, .int (nI d)), (2, .int (nI 1))]) hx hb dX7_readAll_73 hl (by decide) rfl (fun ls hl => ?_)
                        refine lv_iload hx hb dX7_readAll_75 (lv_at hl 0 rfl) ?_
                        refine k_if_eq (tgt := 34) (by omega) hx hb dX7_readAll_77 (by decide) (fun c483 => ?_) (fun c483 => ?_)
                        · skip
                          exact absurd c483 (by omega)
                        · skip
                          refine lv_iinc (v := nI (d - 1)) (lv' := [(1, .int (nI (d - 1))), (4, .int (nI 1)), (0, .ref mm), (2, .int (nI 1))]) hx hb dX7_readAll_80 hl (k := 2) rfl (show nI d + (-1) = nI (d - 1) from by rw [← pk_sub (show 1 ≤ d by omega), Int32.sub_eq_add_neg]; rfl) (by decide) rfl (fun ls hl => ?_)
                          refine lv_goto (tgt := 34) hx hb dX7_readAll_83 (by decide) ?_
                          rw [mPop_p ol2 (by omega), if_pos (show ol2 (d - 1) - 1 = 0 by omega)] at hp1 hp2
                          exact ihloop474 (d - 1) (va_up ol2 (d - 1) (ol2 (d - 1) - 1)) _ _ _ (by omega) (jI_lessp hj2 (by omega) (by omega)) (hp1) (hp2) (hP.sub [0, 1, 2, 3, 4, 5, 6, 7] rfl) (hD.sub [0, 1, 2, 3, 4, 5, 6, 7] (by decide) rfl) hS (lv_sub hl [2, 0, 3, 1] rfl)
              exact loop474 (dp + 1) dp olc _ _ _ (Nat.lt_succ_self _) (hj1) (hp1) (hp2) (hP.sub [0, 1, 2, 3, 4, 5, 6, 7] rfl) (hD.sub [0, 1, 2, 3, 4, 5, 6, 7] (by decide) rfl) hS (lv_sub hl [3, 1, 4, 0] rfl)
          · skip
            exact c472.elim
        · skip
          refine k_i (show _ = nI (dp + 1) from rS_2 h9) ?_
          obtain ⟨_, b2, b3, b4, b5, b6, b7, b8⟩ := hbs
          have b9 := b2 (by rw [h9]; decide)
          obtain ⟨c1, K9, c9, c2, c3, c4, c5, c6, c7, c8⟩ := b8 h9
          have hjn : jI (dp + 1) okc olc := by rw [c5, c6]; exact jI_push hj c1 c2 c3 c4 c7 c8
          have hcn := hx9.2.1 h9
          clear b2 b7 b8 hx9
          refine lv_istore_n (lv' := [(1, .int (nI (dp + 1))), (3, .int (nI dp)), (0, .ref mm), (2, .int (nI 1))]) hx hb dX7_readAll_15 rfl hl (by decide) rfl (fun ls hl => ?_)
          refine lv_iload_n hx hb dX7_readAll_16 rfl (lv_at hl 0 rfl) ?_
          refine k_if_ge (tgt := 22) (by omega) hx hb dX7_readAll_17 (by decide) (fun c484 => ?_) (fun c484 => ?_)
          · skip
            refine lv_iload_n hx hb dX7_readAll_22 rfl (lv_at hl 0 rfl) ?_
            refine lv_iload_n hx hb dX7_readAll_23 rfl (lv_at hl 1 rfl) ?_
            refine k_icmp_ne (tgt := 31) (by omega) (by omega) hx hb dX7_readAll_24 (by decide) (fun c485 => ?_) (fun c485 => ?_)
            · skip
              refine lv_iconst (v := nI 0) hx hb dX7_readAll_31 (by decide) ?_
              refine lv_istore (lv' := [(4, .int (nI 0)), (1, .int (nI (dp + 1))), (3, .int (nI dp)), (0, .ref mm), (2, .int (nI 1))]) hx hb dX7_readAll_32 hl (by decide) rfl (fun ls hl => ?_)
              refine lv_iload hx hb dX7_readAll_34 (lv_at hl 0 rfl) ?_
              refine k_if_eq (tgt := 86) (by omega) hx hb dX7_readAll_36 (by decide) (fun c486 => ?_) (fun c486 => ?_)
              · skip
                refine lv_iload hx hb dX7_readAll_86 (lv_at hl 0 rfl) ?_
                refine k_if_ne (tgt := 95) (by omega) hx hb dX7_readAll_88 (by decide) (fun c487 => ?_) (fun c487 => ?_)
                · skip
                  exact absurd c487 (by omega)
                · skip
                  refine lv_iconst (v := nI 1) hx hb dX7_readAll_91 (by decide) ?_
                  refine lv_goto (tgt := 96) hx hb dX7_readAll_92 (by decide) ?_
                  refine lv_istore_n (lv' := [(2, .int (nI 1)), (4, .int (nI 0)), (1, .int (nI (dp + 1))), (3, .int (nI dp)), (0, .ref mm)]) hx hb dX7_readAll_96 rfl hl (by decide) rfl (fun ls hl => ?_)
                  refine lv_goto (tgt := 4) hx hb dX7_readAll_97 (by decide) ?_
                  exact ihloop468 (g9 - 1) (dp + 1) tc loc wrc plc nmc vzc pqc fxc pdc pmc okc olc _ _ _ (by omega) (b3) (b4) (b6) (b5) (hjn) (by omega) (hcn) (hP.sub [0, 1, 2, 3, 4, 5, 6, 7] rfl) (hD.sub [0, 1, 2, 3, 4, 5, 6, 7] (by decide) rfl) hS (lv_sub hl [4, 2, 0] rfl)
              · skip
                exact absurd c486 (by omega)
            · skip
              exact absurd c485 (by omega)
          · skip
            exact c484.elim
  exact loop468 ((n - t) + 1) (n + 1) 0 t lo wr pl nm vz pq fx pd pm ok ol _ _ _ (Nat.lt_succ_self _) (ht) (hlo2) (hpd) (hpq) (jI_0 hol hok) (by omega) (hs) (hP.sub [0, 1, 2, 3, 4, 5, 6, 7] rfl) (hD.sub [0, 1, 2, 3, 4, 5, 6, 7] (by decide) rfl) hS (lv_sub hl [2, 1, 0] rfl)

