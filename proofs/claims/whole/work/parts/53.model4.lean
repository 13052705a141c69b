set_option maxRecDepth 100000 in
set_option maxHeartbeats 4000000 in
theorem c_M_round (l : Launch) (D : va_G) (cI cB cJ cS : ClassId) (mm ma mb mc md me mf mg mh th dg PT PN n sz od sl t wr pl lo nm : Nat) (b pm pd pq rb ok ol : Nat → Nat) (fx : Nat → Int32) (vz : Int32) (v y : Nat) (hv : v < 2 ^ 64) (hdg : dg < 4) (k1 wr1 pl1 : Nat) (vz1 : Int32) (hs : mRd v (uD dg) y wr pl vz = (k1, wr1, pl1, vz1)) : kM l yX7_round vsX7_round ({ frames := 1, cells := 0, slots := 0, locals := 22 }) D (kT cI cB cJ cS) [.ref mm, .long (lN v), .int (nI y)] [(mm, .inr (5, [.int (nI th), .int (nI dg), .int (nI PT), .int (nI PN), .int (nI n), .ref ma, .ref mb, .ref mc, .ref md, .ref me, .int (nI sz), .ref mf, .int (nI od), .int (nI sl), .int (nI t), .int (nI wr), .int (nI pl), .int (nI lo), .long (lN nm), .int vz, .ref mg, .ref mh]))] (kQi D (kT cI cB cJ cS) (fun r (ug : Unit) => r = nI k1) (fun ug => [(mm, .inr (5, [.int (nI th), .int (nI dg), .int (nI PT), .int (nI PN), .int (nI n), .ref ma, .ref mb, .ref mc, .ref md, .ref me, .int (nI sz), .ref mf, .int (nI od), .int (nI sl), .int (nI t), .int (nI wr1), .int (nI pl1), .int (nI lo), .long (lN nm), .int vz1, .ref mg, .ref mh]))])) := by
  have hE0 := rE_lt (v := v)
  unfold mRd at hs
  split at hs
  · cases hs
    exact c_M_round4 l D cI cB cJ cS mm ma mb mc md me mf mg mh th dg PT PN n sz od sl t wr pl lo nm b pm pd pq rb ok ol fx vz v y hv hdg (by assumption)
  · split at hs
    · cases hs
      rcases Nat.lt_or_ge (rE v) 1075 with h | h
      · exact c_M_roundB5 l D cI cB cJ cS mm ma mb mc md me mf mg mh th dg PT PN n sz od sl t wr pl lo nm b pm pd pq rb ok ol fx vz v y hv hdg h (by assumption)
      · exact c_M_round5a l D cI cB cJ cS mm ma mb mc md me mf mg mh th dg PT PN n sz od sl t wr pl lo nm b pm pd pq rb ok ol fx vz v y hv hdg h (by omega)
    · rename_i h1 h2
      have h : rE v < 1075 := by
        rcases Nat.lt_or_ge (rE v) 1075 with h | h
        · exact h
        · have z := rm_far (u := uD dg) h
          omega
      cases hs
      exact c_M_roundB1 l D cI cB cJ cS mm ma mb mc md me mf mg mh th dg PT PN n sz od sl t wr pl lo nm b pm pd pq rb ok ol fx vz v y hv hdg h (by omega)

set_option maxRecDepth 100000 in
set_option maxHeartbeats 4000000 in
theorem c_M_coordinate (l : Launch) (D : va_G) (cI cB cJ cS : ClassId) (mm ma mb mc md me mf mg mh th dg PT PN n sz od sl t wr pl lo nm : Nat) (b pm pd pq rb ok ol : Nat → Nat) (fx : Nat → Int32) (vz : Int32) (ht : t ≤ n) (hn : n ≤ 65536) (hlo2 : lo < 2) (hb256 : ∀ j, b j < 256) (hsl : sl < 4) (hpd : pd sl ≤ PN) (hPN : PN ≤ 4096) (hpq : pq sl ≤ PT) (hPT : PT ≤ 4096) (hdg : dg < 4) (k1 t1 wr1 pl1 nm1 : Nat) (vz1 : Int32) (pq1 : Nat → Nat) (fx1 : Nat → Int32) (hs : mCoord b n (uD dg) PT sl lo t wr pl nm vz pq fx = (k1, t1, wr1, pl1, nm1, vz1, pq1, fx1))  : kM l yX7_coordinate vsX7_coordinate ({ frames := 2, cells := 0, slots := 0, locals := 52 }) D (kT cI cB cJ cS) [.ref mm] [(mm, .inr (5, [.int (nI th), .int (nI dg), .int (nI PT), .int (nI PN), .int (nI n), .ref ma, .ref mb, .ref mc, .ref md, .ref me, .int (nI sz), .ref mf, .int (nI od), .int (nI sl), .int (nI t), .int (nI wr), .int (nI pl), .int (nI lo), .long (lN nm), .int vz, .ref mg, .ref mh])), (ma, .inl (cI, 65536, .inl (iF b))), (mc, .inl (cI, 4, .inl (iF pd))), (md, .inl (cI, 32768, .inl fx)), (me, .inl (cI, 4, .inl (iF pq)))] (kQi D (kT cI cB cJ cS) (fun r (ug : Unit) => r = nI k1) (fun ug => [(mm, .inr (5, [.int (nI th), .int (nI dg), .int (nI PT), .int (nI PN), .int (nI n), .ref ma, .ref mb, .ref mc, .ref md, .ref me, .int (nI sz), .ref mf, .int (nI od), .int (nI sl), .int (nI t1), .int (nI wr1), .int (nI pl1), .int (nI lo), .long (lN nm1), .int vz1, .ref mg, .ref mh])), (ma, .inl (cI, 65536, .inl (iF b))), (mc, .inl (cI, 4, .inl (iF pd))), (md, .inl (cI, 32768, .inl fx1)), (me, .inl (cI, 4, .inl (iF pq1)))])) := by
  refine k_ofW (by decide) rfl (Nat.le_of_ble_eq_true rfl) ?_
  intro p e s m below meth c A ls hx hb hr hts hown hlocks hmn hml hA hP hK hD hS hZ hl
  have inX7 : ∀ w ∈ wsX70, w ∈ vsX7_coordinate := fun w h => List.mem_cons_of_mem _ (iaX7 w h)
  have F : CallFix p m c cX7_coordinate 2 s _ vsX7_coordinate RX7 := ⟨hx, hb, hml, hown, hts⟩
  have hl : lv_has ls 2 [(0, .ref mm)] := hl
  refine lv_aload_n hx hb dX7_coordinate_0 rfl (lv_at hl 0 rfl) ?_
  refine lv_iconst (v := nI 0) hx hb dX7_coordinate_1 (by decide) ?_
  refine lv_iconst (v := nI 1) hx hb dX7_coordinate_2 (by decide) ?_
  rcases Nat.lt_or_ge PT (pq sl + 1) with h5 | h5
  · skip
    refine k_ci (wr := [(ma, .inl (cI, 65536, .inl (iF b))), (md, .inl (cI, 32768, .inl fx))]) (k_rv F (c_M_room0 l D cI cB cJ cS mm ma mb mc md me mf mg mh th dg PT PN n sz od sl t wr pl lo nm b pm pd pq rb ok ol fx vz hsl (by omega) (by omega) hPN hPT 0 1 (by decide) (by decide) (by omega)) (cwV 2 hts (g_V wd_411 wd_412 wd_413 wd_373 wd_414) rfl rfl rfl (by decide +kernel) ⟨Nat.le_of_ble_eq_true rfl, Nat.le_of_ble_eq_true rfl⟩) hK hP hD hS hA hZ [0, 2, 4] rfl (by decide) 0 rfl rfl rfl rfl hl.1 rfl (Nat.le_of_ble_eq_true rfl) dX7_coordinate_3 ⟨Nat.le_of_ble_eq_true rfl, Nat.le_of_ble_eq_true rfl⟩) hP hD hS hA [0, 2, 4] [1, 3] rfl rfl (by decide) (by decide) (fun r u9 H locs hw hP hD hS => ?_)
    subst hw
    have hP : va_P D kCl [(ma, .inl (cI, 65536, .inl (iF b))), (md, .inl (cI, 32768, .inl fx)), (mm, .inr (5, [.int (nI th), .int (nI dg), .int (nI PT), .int (nI PN), .int (nI n), .ref ma, .ref mb, .ref mc, .ref md, .ref me, .int (nI sz), .ref mf, .int (nI od), .int (nI sl), .int (nI t), .int (nI wr), .int (nI pl), .int (nI lo), .long (lN nm), .int vz, .ref mg, .ref mh])), (mc, .inl (cI, 4, .inl (iF pd))), (me, .inl (cI, 4, .inl (iF pq)))] H := hP
    have hD : va_D A [(ma, .inl (cI, 65536, .inl (iF b))), (md, .inl (cI, 32768, .inl fx)), (mm, .inr (5, [.int (nI th), .int (nI dg), .int (nI PT), .int (nI PN), .int (nI n), .ref ma, .ref mb, .ref mc, .ref md, .ref me, .int (nI sz), .ref mf, .int (nI od), .int (nI sl), .int (nI t), .int (nI wr), .int (nI pl), .int (nI lo), .long (lN nm), .int vz, .ref mg, .ref mh])), (mc, .inl (cI, 4, .inl (iF pd))), (me, .inl (cI, 4, .inl (iF pq)))] := hD
    refine W.widen (k := 0) (n := 0) (Nat.le_of_ble_eq_true rfl) (Nat.le_of_ble_eq_true rfl) ?_
    refine k_if_ne (tgt := 20) (by omega) hx hb dX7_coordinate_6 (by decide) (fun c349 => ?_) (fun c349 => ?_)
    · skip
      exact absurd c349 (by omega)
    · skip
      refine lv_aload_n hx hb dX7_coordinate_9 rfl (lv_at hl 0 rfl) ?_
      refine lv_bipush (v := nI 7) hx hb dX7_coordinate_10 (by decide) ?_
      refine lv_aload_n hx hb dX7_coordinate_12 rfl (lv_at hl 0 rfl) ?_
      refine va_get (D := D) (ci := 5) (v := .int (nI t)) (C := RX7) (T := TX7) (N := 22) hx hb hts inX7 hown hK hP 2 rfl rfl 14 (by decide) (hts (.fieldLink RX7 68 "ByteShapesModel" "at" "I") (List.mem_cons_of_mem _ wd_394)) (fun _ h9 => h9) rfl dX7_coordinate_13 ?_
      refine k_ci (wr := [(ma, .inl (cI, 65536, .inl (iF b))), (md, .inl (cI, 32768, .inl fx)), (mc, .inl (cI, 4, .inl (iF pd))), (me, .inl (cI, 4, .inl (iF pq)))]) (k_rv F (c_M_wrong l D cI cB cJ cS mm ma mb mc md me mf mg mh th dg PT PN n sz od sl t wr pl lo nm b pm pd pq rb ok ol fx vz 7 t) (cwV 2 hts (g_V wd_395 wd_396 wd_397 wd_373 wd_398) rfl rfl rfl (by decide +kernel) ⟨Nat.le_of_ble_eq_true rfl, Nat.le_of_ble_eq_true rfl⟩) hK hP hD hS hA hZ [2] rfl (by decide) 2 rfl rfl rfl rfl hl.1 rfl (Nat.le_of_ble_eq_true rfl) dX7_coordinate_16 ⟨Nat.le_of_ble_eq_true rfl, Nat.le_of_ble_eq_true rfl⟩) hP hD hS hA [2] [0, 1, 3, 4] rfl rfl (by decide) (by decide) (fun r u9 H locs hw hP hD hS => ?_)
      subst hw
      have hP : va_P D kCl [(ma, .inl (cI, 65536, .inl (iF b))), (md, .inl (cI, 32768, .inl fx)), (mc, .inl (cI, 4, .inl (iF pd))), (me, .inl (cI, 4, .inl (iF pq))), (mm, .inr (5, [.int (nI th), .int (nI dg), .int (nI PT), .int (nI PN), .int (nI n), .ref ma, .ref mb, .ref mc, .ref md, .ref me, .int (nI sz), .ref mf, .int (nI od), .int (nI sl), .int (nI t), .int (nI 7), .int (nI t), .int (nI lo), .long (lN nm), .int vz, .ref mg, .ref mh]))] H := hP
      have hD : va_D A [(ma, .inl (cI, 65536, .inl (iF b))), (md, .inl (cI, 32768, .inl fx)), (mc, .inl (cI, 4, .inl (iF pd))), (me, .inl (cI, 4, .inl (iF pq))), (mm, .inr (5, [.int (nI th), .int (nI dg), .int (nI PT), .int (nI PN), .int (nI n), .ref ma, .ref mb, .ref mc, .ref md, .ref me, .int (nI sz), .ref mf, .int (nI od), .int (nI sl), .int (nI t), .int (nI 7), .int (nI t), .int (nI lo), .long (lN nm), .int vz, .ref mg, .ref mh]))] := hD
      refine W.widen (k := 0) (n := 0) (Nat.le_of_ble_eq_true rfl) (Nat.le_of_ble_eq_true rfl) ?_
      have e9 : mCoord b n (uD dg) PT sl lo t wr pl nm vz pq fx = (0, t, 7, t, nm, vz, pq, fx) := by unfold mCoord; rw [if_pos (by omega)]
      rw [e9] at hs
      cases hs
      have hP : va_P D kCl [(mm, .inr (5, [.int (nI th), .int (nI dg), .int (nI PT), .int (nI PN), .int (nI n), .ref ma, .ref mb, .ref mc, .ref md, .ref me, .int (nI sz), .ref mf, .int (nI od), .int (nI sl), .int (nI t), .int (nI 7), .int (nI t), .int (nI lo), .long (lN nm), .int vz, .ref mg, .ref mh])), (ma, .inl (cI, 65536, .inl (iF b))), (mc, .inl (cI, 4, .inl (iF pd))), (md, .inl (cI, 32768, .inl fx)), (me, .inl (cI, 4, .inl (iF pq)))] H := hP.sub [4, 0, 2, 1, 3] rfl
      have hD : va_D A [(mm, .inr (5, [.int (nI th), .int (nI dg), .int (nI PT), .int (nI PN), .int (nI n), .ref ma, .ref mb, .ref mc, .ref md, .ref me, .int (nI sz), .ref mf, .int (nI od), .int (nI sl), .int (nI t), .int (nI 7), .int (nI t), .int (nI lo), .long (lN nm), .int vz, .ref mg, .ref mh])), (ma, .inl (cI, 65536, .inl (iF b))), (mc, .inl (cI, 4, .inl (iF pd))), (md, .inl (cI, 32768, .inl fx)), (me, .inl (cI, 4, .inl (iF pq)))] := hD.sub [4, 0, 2, 1, 3] (by decide) rfl
      exact k_iret () hx hb hr (by first | rfl | decide | exact vp_nar_int _) hlocks hK hP hD hS (rfl) (rfl) (Nat.le_of_ble_eq_true rfl) (Nat.le_of_ble_eq_true rfl) dX7_coordinate_19
  · skip
    refine k_ci (wr := [(ma, .inl (cI, 65536, .inl (iF b))), (md, .inl (cI, 32768, .inl fx))]) (k_rv F (c_M_room1 l D cI cB cJ cS mm ma mb mc md me mf mg mh th dg PT PN n sz od sl t wr pl lo nm b pm pd pq rb ok ol fx vz hsl (by omega) (by omega) hPN hPT 0 1 (by decide) (by decide) (by omega)) (cwV 2 hts (g_V wd_411 wd_412 wd_413 wd_373 wd_414) rfl rfl rfl (by decide +kernel) ⟨Nat.le_of_ble_eq_true rfl, Nat.le_of_ble_eq_true rfl⟩) hK hP hD hS hA hZ [0, 2, 4] rfl (by decide) 0 rfl rfl rfl rfl hl.1 rfl (Nat.le_of_ble_eq_true rfl) dX7_coordinate_3 ⟨Nat.le_of_ble_eq_true rfl, Nat.le_of_ble_eq_true rfl⟩) hP hD hS hA [0, 2, 4] [1, 3] rfl rfl (by decide) (by decide) (fun r u9 H locs hw hP hD hS => ?_)
    subst hw
    have hP : va_P D kCl [(ma, .inl (cI, 65536, .inl (iF b))), (md, .inl (cI, 32768, .inl fx)), (mm, .inr (5, [.int (nI th), .int (nI dg), .int (nI PT), .int (nI PN), .int (nI n), .ref ma, .ref mb, .ref mc, .ref md, .ref me, .int (nI sz), .ref mf, .int (nI od), .int (nI sl), .int (nI t), .int (nI wr), .int (nI pl), .int (nI lo), .long (lN nm), .int vz, .ref mg, .ref mh])), (mc, .inl (cI, 4, .inl (iF pd))), (me, .inl (cI, 4, .inl (iF pq)))] H := hP
    have hD : va_D A [(ma, .inl (cI, 65536, .inl (iF b))), (md, .inl (cI, 32768, .inl fx)), (mm, .inr (5, [.int (nI th), .int (nI dg), .int (nI PT), .int (nI PN), .int (nI n), .ref ma, .ref mb, .ref mc, .ref md, .ref me, .int (nI sz), .ref mf, .int (nI od), .int (nI sl), .int (nI t), .int (nI wr), .int (nI pl), .int (nI lo), .long (lN nm), .int vz, .ref mg, .ref mh])), (mc, .inl (cI, 4, .inl (iF pd))), (me, .inl (cI, 4, .inl (iF pq)))] := hD
    refine W.widen (k := 0) (n := 0) (Nat.le_of_ble_eq_true rfl) (Nat.le_of_ble_eq_true rfl) ?_
    refine k_if_ne (tgt := 20) (by omega) hx hb dX7_coordinate_6 (by decide) (fun c350 => ?_) (fun c350 => ?_)
    · skip
      refine lv_aload_n hx hb dX7_coordinate_20 rfl (lv_at hl 0 rfl) ?_
      refine lv_bipush (v := nI 8) hx hb dX7_coordinate_21 (by decide) ?_
      rcases Nat.lt_or_ge n (t + 8) with hn1 | hn1
      · skip
        refine k_ci (wr := [(md, .inl (cI, 32768, .inl fx)), (mc, .inl (cI, 4, .inl (iF pd))), (me, .inl (cI, 4, .inl (iF pq)))]) (k_rv F (c_M_take0 l D cI cB cJ cS mm ma mb mc md me mf mg mh th dg PT PN n sz od sl t wr pl lo nm b pm pd pq rb ok ol fx vz (by omega) hn hlo2 hb256 8 (by decide) (by omega)) (cwV 1 hts (g_V wd_415 wd_416 wd_417 wd_373 wd_418) rfl rfl rfl (by decide +kernel) ⟨Nat.le_of_ble_eq_true rfl, Nat.le_of_ble_eq_true rfl⟩) hK hP hD hS hA hZ [2, 0] rfl (by decide) 2 rfl rfl rfl rfl hl.1 rfl (Nat.le_of_ble_eq_true rfl) dX7_coordinate_23 ⟨Nat.le_of_ble_eq_true rfl, Nat.le_of_ble_eq_true rfl⟩) hP hD hS hA [2, 0] [1, 3, 4] rfl rfl (by decide) (by decide) (fun r u9 H locs hw hP hD hS => ?_)
        subst hw
        have hP : va_P D kCl [(md, .inl (cI, 32768, .inl fx)), (mc, .inl (cI, 4, .inl (iF pd))), (me, .inl (cI, 4, .inl (iF pq))), (mm, .inr (5, [.int (nI th), .int (nI dg), .int (nI PT), .int (nI PN), .int (nI n), .ref ma, .ref mb, .ref mc, .ref md, .ref me, .int (nI sz), .ref mf, .int (nI od), .int (nI sl), .int (nI t), .int (nI 3), .int (nI t), .int (nI lo), .long (lN nm), .int vz, .ref mg, .ref mh])), (ma, .inl (cI, 65536, .inl (iF b)))] H := hP
        have hD : va_D A [(md, .inl (cI, 32768, .inl fx)), (mc, .inl (cI, 4, .inl (iF pd))), (me, .inl (cI, 4, .inl (iF pq))), (mm, .inr (5, [.int (nI th), .int (nI dg), .int (nI PT), .int (nI PN), .int (nI n), .ref ma, .ref mb, .ref mc, .ref md, .ref me, .int (nI sz), .ref mf, .int (nI od), .int (nI sl), .int (nI t), .int (nI 3), .int (nI t), .int (nI lo), .long (lN nm), .int vz, .ref mg, .ref mh])), (ma, .inl (cI, 65536, .inl (iF b)))] := hD
        refine W.widen (k := 0) (n := 0) (Nat.le_of_ble_eq_true rfl) (Nat.le_of_ble_eq_true rfl) ?_
        refine k_if_eq (tgt := 47) (by omega) hx hb dX7_coordinate_26 (by decide) (fun c351 => ?_) (fun c351 => ?_)
        · skip
          refine lv_iconst (v := nI 0) hx hb dX7_coordinate_47 (by decide) ?_
          have e9 : mCoord b n (uD dg) PT sl lo t wr pl nm vz pq fx = (0, t, 3, t, nm, vz, pq, fx) := by unfold mCoord; rw [if_neg (by omega)]; unfold mVal; rw [if_pos (by omega)]; rfl
          rw [e9] at hs
          cases hs
          have hP : va_P D kCl [(mm, .inr (5, [.int (nI th), .int (nI dg), .int (nI PT), .int (nI PN), .int (nI n), .ref ma, .ref mb, .ref mc, .ref md, .ref me, .int (nI sz), .ref mf, .int (nI od), .int (nI sl), .int (nI t), .int (nI 3), .int (nI t), .int (nI lo), .long (lN nm), .int vz, .ref mg, .ref mh])), (ma, .inl (cI, 65536, .inl (iF b))), (mc, .inl (cI, 4, .inl (iF pd))), (md, .inl (cI, 32768, .inl fx)), (me, .inl (cI, 4, .inl (iF pq)))] H := hP.sub [3, 4, 1, 0, 2] rfl
          have hD : va_D A [(mm, .inr (5, [.int (nI th), .int (nI dg), .int (nI PT), .int (nI PN), .int (nI n), .ref ma, .ref mb, .ref mc, .ref md, .ref me, .int (nI sz), .ref mf, .int (nI od), .int (nI sl), .int (nI t), .int (nI 3), .int (nI t), .int (nI lo), .long (lN nm), .int vz, .ref mg, .ref mh])), (ma, .inl (cI, 65536, .inl (iF b))), (mc, .inl (cI, 4, .inl (iF pd))), (md, .inl (cI, 32768, .inl fx)), (me, .inl (cI, 4, .inl (iF pq)))] := hD.sub [3, 4, 1, 0, 2] (by decide) rfl
          exact k_iret () hx hb hr (by first | rfl | decide | exact vp_nar_int _) hlocks hK hP hD hS (rfl) (rfl) (Nat.le_of_ble_eq_true rfl) (Nat.le_of_ble_eq_true rfl) dX7_coordinate_48
        · skip
          exact absurd c351 (by omega)
      · skip
        refine k_ci (wr := [(md, .inl (cI, 32768, .inl fx)), (mc, .inl (cI, 4, .inl (iF pd))), (me, .inl (cI, 4, .inl (iF pq)))]) (k_rv F (c_M_take1 l D cI cB cJ cS mm ma mb mc md me mf mg mh th dg PT PN n sz od sl t wr pl lo nm b pm pd pq rb ok ol fx vz (by omega) hn hlo2 hb256 8 (by decide) (by omega)) (cwV 1 hts (g_V wd_415 wd_416 wd_417 wd_373 wd_418) rfl rfl rfl (by decide +kernel) ⟨Nat.le_of_ble_eq_true rfl, Nat.le_of_ble_eq_true rfl⟩) hK hP hD hS hA hZ [2, 0] rfl (by decide) 2 rfl rfl rfl rfl hl.1 rfl (Nat.le_of_ble_eq_true rfl) dX7_coordinate_23 ⟨Nat.le_of_ble_eq_true rfl, Nat.le_of_ble_eq_true rfl⟩) hP hD hS hA [2, 0] [1, 3, 4] rfl rfl (by decide) (by decide) (fun r u9 H locs hw hP hD hS => ?_)
        subst hw
        have hP : va_P D kCl [(md, .inl (cI, 32768, .inl fx)), (mc, .inl (cI, 4, .inl (iF pd))), (me, .inl (cI, 4, .inl (iF pq))), (mm, .inr (5, [.int (nI th), .int (nI dg), .int (nI PT), .int (nI PN), .int (nI n), .ref ma, .ref mb, .ref mc, .ref md, .ref me, .int (nI sz), .ref mf, .int (nI od), .int (nI sl), .int (nI (t + 8)), .int (nI wr), .int (nI pl), .int (nI lo), .long (lN (pN b t 8 lo)), .int vz, .ref mg, .ref mh])), (ma, .inl (cI, 65536, .inl (iF b)))] H := hP
        have hD : va_D A [(md, .inl (cI, 32768, .inl fx)), (mc, .inl (cI, 4, .inl (iF pd))), (me, .inl (cI, 4, .inl (iF pq))), (mm, .inr (5, [.int (nI th), .int (nI dg), .int (nI PT), .int (nI PN), .int (nI n), .ref ma, .ref mb, .ref mc, .ref md, .ref me, .int (nI sz), .ref mf, .int (nI od), .int (nI sl), .int (nI (t + 8)), .int (nI wr), .int (nI pl), .int (nI lo), .long (lN (pN b t 8 lo)), .int vz, .ref mg, .ref mh])), (ma, .inl (cI, 65536, .inl (iF b)))] := hD
        refine W.widen (k := 0) (n := 0) (Nat.le_of_ble_eq_true rfl) (Nat.le_of_ble_eq_true rfl) ?_
        refine k_if_eq (tgt := 47) (by omega) hx hb dX7_coordinate_26 (by decide) (fun c352 => ?_) (fun c352 => ?_)
        · skip
          exact absurd c352 (by omega)
        · skip
          refine lv_aload_n hx hb dX7_coordinate_29 rfl (lv_at hl 0 rfl) ?_
          refine lv_aload_n hx hb dX7_coordinate_30 rfl (lv_at hl 0 rfl) ?_
          refine va_get (D := D) (ci := 5) (v := .long (lN (pN b t 8 lo))) (C := RX7) (T := TX7) (N := 22) hx hb hts inX7 hown hK hP 3 rfl rfl 18 (by decide) (hts (.fieldLink RX7 75 "ByteShapesModel" "number" "J") (List.mem_cons_of_mem _ wd_399)) (fun _ h9 => h9) rfl dX7_coordinate_31 ?_
          refine lv_aload_n hx hb dX7_coordinate_34 rfl (lv_at hl 0 rfl) ?_
          refine va_get (D := D) (ci := 5) (v := .int (nI (t + 8))) (C := RX7) (T := TX7) (N := 22) hx hb hts inX7 hown hK hP 3 rfl rfl 14 (by decide) (hts (.fieldLink RX7 68 "ByteShapesModel" "at" "I") (List.mem_cons_of_mem _ wd_394)) (fun _ h9 => h9) rfl dX7_coordinate_35 ?_
          refine lv_bipush (v := nI 8) hx hb dX7_coordinate_38 (by decide) ?_
          refine lv_isub hx hb dX7_coordinate_40 ?_
          refine k_i (show _ = nI t from by rw [pk_sub (by omega), Nat.add_sub_cancel]) ?_
          have hv1 := pN_lt hb256 t lo
          obtain ⟨⟨k19, wr19, pl19, vz19⟩, hr1⟩ : ∃ z, z = mRd (pN b t 8 lo) (uD dg) t wr pl vz := ⟨_, rfl⟩
          have hk1 := mRd_k hr1.symm
          have ha1 : mVal b n (uD dg) lo t wr pl nm vz = (k19, t + 8, wr19, pl19, pN b t 8 lo, vz19) := by unfold mVal; rw [if_neg (by omega), ← hr1]
          refine k_ci (wr := [(md, .inl (cI, 32768, .inl fx)), (mc, .inl (cI, 4, .inl (iF pd))), (me, .inl (cI, 4, .inl (iF pq))), (ma, .inl (cI, 65536, .inl (iF b)))]) (k_rv F (c_M_round l D cI cB cJ cS mm ma mb mc md me mf mg mh th dg PT PN n sz od sl (t + 8) wr pl lo (pN b t 8 lo) b pm pd pq rb ok ol fx vz (pN b t 8 lo) t hv1 hdg k19 wr19 pl19 vz19 hr1.symm) (cwV 2 hts (g_V wd_419 wd_420 wd_421 wd_373 wd_422) rfl rfl rfl (by decide +kernel) ⟨Nat.le_of_ble_eq_true rfl, Nat.le_of_ble_eq_true rfl⟩) hK hP hD hS hA hZ [3] rfl (by decide) 3 rfl rfl rfl rfl hl.1 rfl (Nat.le_of_ble_eq_true rfl) dX7_coordinate_41 ⟨Nat.le_of_ble_eq_true rfl, Nat.le_of_ble_eq_true rfl⟩) hP hD hS hA [3] [0, 1, 2, 4] rfl rfl (by decide) (by decide) (fun r u9 H locs hw hP hD hS => ?_)
          subst hw
          have hP : va_P D kCl [(md, .inl (cI, 32768, .inl fx)), (mc, .inl (cI, 4, .inl (iF pd))), (me, .inl (cI, 4, .inl (iF pq))), (ma, .inl (cI, 65536, .inl (iF b))), (mm, .inr (5, [.int (nI th), .int (nI dg), .int (nI PT), .int (nI PN), .int (nI n), .ref ma, .ref mb, .ref mc, .ref md, .ref me, .int (nI sz), .ref mf, .int (nI od), .int (nI sl), .int (nI (t + 8)), .int (nI wr19), .int (nI pl19), .int (nI lo), .long (lN (pN b t 8 lo)), .int vz19, .ref mg, .ref mh]))] H := hP
          have hD : va_D A [(md, .inl (cI, 32768, .inl fx)), (mc, .inl (cI, 4, .inl (iF pd))), (me, .inl (cI, 4, .inl (iF pq))), (ma, .inl (cI, 65536, .inl (iF b))), (mm, .inr (5, [.int (nI th), .int (nI dg), .int (nI PT), .int (nI PN), .int (nI n), .ref ma, .ref mb, .ref mc, .ref md, .ref me, .int (nI sz), .ref mf, .int (nI od), .int (nI sl), .int (nI (t + 8)), .int (nI wr19), .int (nI pl19), .int (nI lo), .long (lN (pN b t 8 lo)), .int vz19, .ref mg, .ref mh]))] := hD
          refine W.widen (k := 0) (n := 0) (Nat.le_of_ble_eq_true rfl) (Nat.le_of_ble_eq_true rfl) ?_
          refine k_if_ne (tgt := 49) (by omega) hx hb dX7_coordinate_44 (by decide) (fun c353 => ?_) (fun c353 => ?_)
          · skip
            refine lv_aload_n hx hb dX7_coordinate_49 rfl (lv_at hl 0 rfl) ?_
            refine va_get (D := D) (ci := 5) (v := .int vz19) (C := RX7) (T := TX7) (N := 22) hx hb hts inX7 hown hK hP 4 rfl rfl 19 (by decide) (hts (.fieldLink RX7 104 "ByteShapesModel" "value" "I") (List.mem_cons_of_mem _ wd_410)) (fun _ h9 => h9) rfl dX7_coordinate_50 ?_
            refine lv_istore_n (lv' := [(1, .int vz19), (0, .ref mm)]) hx hb dX7_coordinate_53 rfl hl (by decide) rfl (fun ls hl => ?_)
            refine lv_aload_n hx hb dX7_coordinate_54 rfl (lv_at hl 1 rfl) ?_
            refine lv_bipush (v := nI 8) hx hb dX7_coordinate_55 (by decide) ?_
            rcases Nat.lt_or_ge n (t + 8 + 8) with hn2 | hn2
            · skip
              refine k_ci (wr := [(md, .inl (cI, 32768, .inl fx)), (mc, .inl (cI, 4, .inl (iF pd))), (me, .inl (cI, 4, .inl (iF pq)))]) (k_rv F (c_M_take0 l D cI cB cJ cS mm ma mb mc md me mf mg mh th dg PT PN n sz od sl (t + 8) wr19 pl19 lo (pN b t 8 lo) b pm pd pq rb ok ol fx vz19 (by omega) hn hlo2 hb256 8 (by decide) (by omega)) (cwV 1 hts (g_V wd_415 wd_416 wd_417 wd_373 wd_418) rfl rfl rfl (by decide +kernel) ⟨Nat.le_of_ble_eq_true rfl, Nat.le_of_ble_eq_true rfl⟩) hK hP hD hS hA hZ [4, 3] rfl (by decide) 4 rfl rfl rfl rfl hl.1 rfl (Nat.le_of_ble_eq_true rfl) dX7_coordinate_57 ⟨Nat.le_of_ble_eq_true rfl, Nat.le_of_ble_eq_true rfl⟩) hP hD hS hA [4, 3] [0, 1, 2] rfl rfl (by decide) (by decide) (fun r u9 H locs hw hP hD hS => ?_)
              subst hw
              have hP : va_P D kCl [(md, .inl (cI, 32768, .inl fx)), (mc, .inl (cI, 4, .inl (iF pd))), (me, .inl (cI, 4, .inl (iF pq))), (mm, .inr (5, [.int (nI th), .int (nI dg), .int (nI PT), .int (nI PN), .int (nI n), .ref ma, .ref mb, .ref mc, .ref md, .ref me, .int (nI sz), .ref mf, .int (nI od), .int (nI sl), .int (nI (t + 8)), .int (nI 3), .int (nI (t + 8)), .int (nI lo), .long (lN (pN b t 8 lo)), .int vz19, .ref mg, .ref mh])), (ma, .inl (cI, 65536, .inl (iF b)))] H := hP
              have hD : va_D A [(md, .inl (cI, 32768, .inl fx)), (mc, .inl (cI, 4, .inl (iF pd))), (me, .inl (cI, 4, .inl (iF pq))), (mm, .inr (5, [.int (nI th), .int (nI dg), .int (nI PT), .int (nI PN), .int (nI n), .ref ma, .ref mb, .ref mc, .ref md, .ref me, .int (nI sz), .ref mf, .int (nI od), .int (nI sl), .int (nI (t + 8)), .int (nI 3), .int (nI (t + 8)), .int (nI lo), .long (lN (pN b t 8 lo)), .int vz19, .ref mg, .ref mh])), (ma, .inl (cI, 65536, .inl (iF b)))] := hD
              refine W.widen (k := 0) (n := 0) (Nat.le_of_ble_eq_true rfl) (Nat.le_of_ble_eq_true rfl) ?_
              refine k_if_eq (tgt := 81) (by omega) hx hb dX7_coordinate_60 (by decide) (fun c354 => ?_) (fun c354 => ?_)
              · skip
                refine lv_iconst (v := nI 0) hx hb dX7_coordinate_81 (by decide) ?_
                have e9 : mCoord b n (uD dg) PT sl lo t wr pl nm vz pq fx = (0, t + 8, 3, t + 8, pN b t 8 lo, vz19, pq, fx) := by unfold mCoord; rw [if_neg (by omega), ha1, show k19 = 1 by omega]; show mCo2 b n (uD dg) sl lo (t + 8) wr19 pl19 (pN b t 8 lo) vz19 pq fx = _; unfold mCo2; unfold mVal; rw [if_pos (by omega)]; rfl
                rw [e9] at hs
                cases hs
                have hP : va_P D kCl [(mm, .inr (5, [.int (nI th), .int (nI dg), .int (nI PT), .int (nI PN), .int (nI n), .ref ma, .ref mb, .ref mc, .ref md, .ref me, .int (nI sz), .ref mf, .int (nI od), .int (nI sl), .int (nI (t + 8)), .int (nI 3), .int (nI (t + 8)), .int (nI lo), .long (lN (pN b t 8 lo)), .int vz1, .ref mg, .ref mh])), (ma, .inl (cI, 65536, .inl (iF b))), (mc, .inl (cI, 4, .inl (iF pd))), (md, .inl (cI, 32768, .inl fx)), (me, .inl (cI, 4, .inl (iF pq)))] H := hP.sub [3, 4, 1, 0, 2] rfl
                have hD : va_D A [(mm, .inr (5, [.int (nI th), .int (nI dg), .int (nI PT), .int (nI PN), .int (nI n), .ref ma, .ref mb, .ref mc, .ref md, .ref me, .int (nI sz), .ref mf, .int (nI od), .int (nI sl), .int (nI (t + 8)), .int (nI 3), .int (nI (t + 8)), .int (nI lo), .long (lN (pN b t 8 lo)), .int vz1, .ref mg, .ref mh])), (ma, .inl (cI, 65536, .inl (iF b))), (mc, .inl (cI, 4, .inl (iF pd))), (md, .inl (cI, 32768, .inl fx)), (me, .inl (cI, 4, .inl (iF pq)))] := hD.sub [3, 4, 1, 0, 2] (by decide) rfl
                exact k_iret () hx hb hr (by first | rfl | decide | exact vp_nar_int _) hlocks hK hP hD hS (rfl) (rfl) (Nat.le_of_ble_eq_true rfl) (Nat.le_of_ble_eq_true rfl) dX7_coordinate_82
              · skip
                exact absurd c354 (by omega)
            · skip
              refine k_ci (wr := [(md, .inl (cI, 32768, .inl fx)), (mc, .inl (cI, 4, .inl (iF pd))), (me, .inl (cI, 4, .inl (iF pq)))]) (k_rv F (c_M_take1 l D cI cB cJ cS mm ma mb mc md me mf mg mh th dg PT PN n sz od sl (t + 8) wr19 pl19 lo (pN b t 8 lo) b pm pd pq rb ok ol fx vz19 (by omega) hn hlo2 hb256 8 (by decide) (by omega)) (cwV 1 hts (g_V wd_415 wd_416 wd_417 wd_373 wd_418) rfl rfl rfl (by decide +kernel) ⟨Nat.le_of_ble_eq_true rfl, Nat.le_of_ble_eq_true rfl⟩) hK hP hD hS hA hZ [4, 3] rfl (by decide) 4 rfl rfl rfl rfl hl.1 rfl (Nat.le_of_ble_eq_true rfl) dX7_coordinate_57 ⟨Nat.le_of_ble_eq_true rfl, Nat.le_of_ble_eq_true rfl⟩) hP hD hS hA [4, 3] [0, 1, 2] rfl rfl (by decide) (by decide) (fun r u9 H locs hw hP hD hS => ?_)
              subst hw
              have hP : va_P D kCl [(md, .inl (cI, 32768, .inl fx)), (mc, .inl (cI, 4, .inl (iF pd))), (me, .inl (cI, 4, .inl (iF pq))), (mm, .inr (5, [.int (nI th), .int (nI dg), .int (nI PT), .int (nI PN), .int (nI n), .ref ma, .ref mb, .ref mc, .ref md, .ref me, .int (nI sz), .ref mf, .int (nI od), .int (nI sl), .int (nI (t + 8 + 8)), .int (nI wr19), .int (nI pl19), .int (nI lo), .long (lN (pN b (t + 8) 8 lo)), .int vz19, .ref mg, .ref mh])), (ma, .inl (cI, 65536, .inl (iF b)))] H := hP
              have hD : va_D A [(md, .inl (cI, 32768, .inl fx)), (mc, .inl (cI, 4, .inl (iF pd))), (me, .inl (cI, 4, .inl (iF pq))), (mm, .inr (5, [.int (nI th), .int (nI dg), .int (nI PT), .int (nI PN), .int (nI n), .ref ma, .ref mb, .ref mc, .ref md, .ref me, .int (nI sz), .ref mf, .int (nI od), .int (nI sl), .int (nI (t + 8 + 8)), .int (nI wr19), .int (nI pl19), .int (nI lo), .long (lN (pN b (t + 8) 8 lo)), .int vz19, .ref mg, .ref mh])), (ma, .inl (cI, 65536, .inl (iF b)))] := hD
              refine W.widen (k := 0) (n := 0) (Nat.le_of_ble_eq_true rfl) (Nat.le_of_ble_eq_true rfl) ?_
              refine k_if_eq (tgt := 81) (by omega) hx hb dX7_coordinate_60 (by decide) (fun c355 => ?_) (fun c355 => ?_)
              · skip
                exact absurd c355 (by omega)
              · skip
                refine lv_aload_n hx hb dX7_coordinate_63 rfl (lv_at hl 1 rfl) ?_
                refine lv_aload_n hx hb dX7_coordinate_64 rfl (lv_at hl 1 rfl) ?_
                refine va_get (D := D) (ci := 5) (v := .long (lN (pN b (t + 8) 8 lo))) (C := RX7) (T := TX7) (N := 22) hx hb hts inX7 hown hK hP 3 rfl rfl 18 (by decide) (hts (.fieldLink RX7 75 "ByteShapesModel" "number" "J") (List.mem_cons_of_mem _ wd_399)) (fun _ h9 => h9) rfl dX7_coordinate_65 ?_
                refine lv_aload_n hx hb dX7_coordinate_68 rfl (lv_at hl 1 rfl) ?_
                refine va_get (D := D) (ci := 5) (v := .int (nI (t + 8 + 8))) (C := RX7) (T := TX7) (N := 22) hx hb hts inX7 hown hK hP 3 rfl rfl 14 (by decide) (hts (.fieldLink RX7 68 "ByteShapesModel" "at" "I") (List.mem_cons_of_mem _ wd_394)) (fun _ h9 => h9) rfl dX7_coordinate_69 ?_
                refine lv_bipush (v := nI 8) hx hb dX7_coordinate_72 (by decide) ?_
                refine lv_isub hx hb dX7_coordinate_74 ?_
                refine k_i (show _ = nI (t + 8) from by rw [pk_sub (by omega), Nat.add_sub_cancel]) ?_
                have hv2 := pN_lt hb256 (t + 8) lo
                obtain ⟨⟨k29, wr29, pl29, vz29⟩, hr2⟩ : ∃ z, z = mRd (pN b (t + 8) 8 lo) (uD dg) (t + 8) wr19 pl19 vz19 := ⟨_, rfl⟩
                have hk2 := mRd_k hr2.symm
                have ha2 : mVal b n (uD dg) lo (t + 8) wr19 pl19 (pN b t 8 lo) vz19 = (k29, t + 8 + 8, wr29, pl29, pN b (t + 8) 8 lo, vz29) := by unfold mVal; rw [if_neg (by omega), ← hr2]
                refine k_ci (wr := [(md, .inl (cI, 32768, .inl fx)), (mc, .inl (cI, 4, .inl (iF pd))), (me, .inl (cI, 4, .inl (iF pq))), (ma, .inl (cI, 65536, .inl (iF b)))]) (k_rv F (c_M_round l D cI cB cJ cS mm ma mb mc md me mf mg mh th dg PT PN n sz od sl (t + 8 + 8) wr19 pl19 lo (pN b (t + 8) 8 lo) b pm pd pq rb ok ol fx vz19 (pN b (t + 8) 8 lo) (t + 8) hv2 hdg k29 wr29 pl29 vz29 hr2.symm) (cwV 2 hts (g_V wd_419 wd_420 wd_421 wd_373 wd_422) rfl rfl rfl (by decide +kernel) ⟨Nat.le_of_ble_eq_true rfl, Nat.le_of_ble_eq_true rfl⟩) hK hP hD hS hA hZ [3] rfl (by decide) 3 rfl rfl rfl rfl hl.1 rfl (Nat.le_of_ble_eq_true rfl) dX7_coordinate_75 ⟨Nat.le_of_ble_eq_true rfl, Nat.le_of_ble_eq_true rfl⟩) hP hD hS hA [3] [0, 1, 2, 4] rfl rfl (by decide) (by decide) (fun r u9 H locs hw hP hD hS => ?_)
                subst hw
                have hP : va_P D kCl [(md, .inl (cI, 32768, .inl fx)), (mc, .inl (cI, 4, .inl (iF pd))), (me, .inl (cI, 4, .inl (iF pq))), (ma, .inl (cI, 65536, .inl (iF b))), (mm, .inr (5, [.int (nI th), .int (nI dg), .int (nI PT), .int (nI PN), .int (nI n), .ref ma, .ref mb, .ref mc, .ref md, .ref me, .int (nI sz), .ref mf, .int (nI od), .int (nI sl), .int (nI (t + 8 + 8)), .int (nI wr29), .int (nI pl29), .int (nI lo), .long (lN (pN b (t + 8) 8 lo)), .int vz29, .ref mg, .ref mh]))] H := hP
                have hD : va_D A [(md, .inl (cI, 32768, .inl fx)), (mc, .inl (cI, 4, .inl (iF pd))), (me, .inl (cI, 4, .inl (iF pq))), (ma, .inl (cI, 65536, .inl (iF b))), (mm, .inr (5, [.int (nI th), .int (nI dg), .int (nI PT), .int (nI PN), .int (nI n), .ref ma, .ref mb, .ref mc, .ref md, .ref me, .int (nI sz), .ref mf, .int (nI od), .int (nI sl), .int (nI (t + 8 + 8)), .int (nI wr29), .int (nI pl29), .int (nI lo), .long (lN (pN b (t + 8) 8 lo)), .int vz29, .ref mg, .ref mh]))] := hD
                refine W.widen (k := 0) (n := 0) (Nat.le_of_ble_eq_true rfl) (Nat.le_of_ble_eq_true rfl) ?_
                refine k_if_ne (tgt := 83) (by omega) hx hb dX7_coordinate_78 (by decide) (fun c356 => ?_) (fun c356 => ?_)
                · skip
                  refine lv_aload_n hx hb dX7_coordinate_83 rfl (lv_at hl 1 rfl) ?_
                  refine lv_iload_n hx hb dX7_coordinate_84 rfl (lv_at hl 0 rfl) ?_
                  refine lv_aload_n hx hb dX7_coordinate_85 rfl (lv_at hl 1 rfl) ?_
                  refine va_get (D := D) (ci := 5) (v := .int vz29) (C := RX7) (T := TX7) (N := 22) hx hb hts inX7 hown hK hP 4 rfl rfl 19 (by decide) (hts (.fieldLink RX7 104 "ByteShapesModel" "value" "I") (List.mem_cons_of_mem _ wd_410)) (fun _ h9 => h9) rfl dX7_coordinate_86 ?_
                  refine k_cv (wr := [(mc, .inl (cI, 4, .inl (iF pd))), (ma, .inl (cI, 65536, .inl (iF b)))]) (k_rv F (c_M_put l D cI cB cJ cS mm ma mb mc md me mf mg mh th dg PT PN n sz od sl (t + 8 + 8) wr29 pl29 lo (pN b (t + 8) 8 lo) b pm pd pq rb ok ol fx vz29 hsl (by omega) vz19 vz29) (cwV 2 hts (g_V wd_423 wd_424 wd_425 wd_373 wd_426) rfl rfl rfl (by decide +kernel) ⟨Nat.le_of_ble_eq_true rfl, Nat.le_of_ble_eq_true rfl⟩) hK hP hD hS hA hZ [4, 0, 2] rfl (by decide) 4 rfl rfl rfl rfl hl.1 rfl (Nat.le_of_ble_eq_true rfl) dX7_coordinate_89 ⟨Nat.le_of_ble_eq_true rfl, Nat.le_of_ble_eq_true rfl⟩) hP hD hS hA [4, 0, 2] [1, 3] rfl rfl (by decide) (by decide) (fun u9 H locs hw hP hD hS => ?_)
                  have hP : va_P D kCl [(mc, .inl (cI, 4, .inl (iF pd))), (ma, .inl (cI, 65536, .inl (iF b))), (mm, .inr (5, [.int (nI th), .int (nI dg), .int (nI PT), .int (nI PN), .int (nI n), .ref ma, .ref mb, .ref mc, .ref md, .ref me, .int (nI sz), .ref mf, .int (nI od), .int (nI sl), .int (nI (t + 8 + 8)), .int (nI wr29), .int (nI pl29), .int (nI lo), .long (lN (pN b (t + 8) 8 lo)), .int vz29, .ref mg, .ref mh])), (md, .inl (cI, 32768, .inl (upd (upd fx (2 * (4096 * sl + pq sl)) vz19) (2 * (4096 * sl + pq sl) + 1) vz29))), (me, .inl (cI, 4, .inl (iF (va_up pq sl (pq sl + 1)))))] H := hP
                  have hD : va_D A [(mc, .inl (cI, 4, .inl (iF pd))), (ma, .inl (cI, 65536, .inl (iF b))), (mm, .inr (5, [.int (nI th), .int (nI dg), .int (nI PT), .int (nI PN), .int (nI n), .ref ma, .ref mb, .ref mc, .ref md, .ref me, .int (nI sz), .ref mf, .int (nI od), .int (nI sl), .int (nI (t + 8 + 8)), .int (nI wr29), .int (nI pl29), .int (nI lo), .long (lN (pN b (t + 8) 8 lo)), .int vz29, .ref mg, .ref mh])), (md, .inl (cI, 32768, .inl (upd (upd fx (2 * (4096 * sl + pq sl)) vz19) (2 * (4096 * sl + pq sl) + 1) vz29))), (me, .inl (cI, 4, .inl (iF (va_up pq sl (pq sl + 1)))))] := hD
                  refine W.widen (k := 0) (n := 0) (Nat.le_of_ble_eq_true rfl) (Nat.le_of_ble_eq_true rfl) ?_
                  refine lv_iconst (v := nI 1) hx hb dX7_coordinate_92 (by decide) ?_
                  have e9 : mCoord b n (uD dg) PT sl lo t wr pl nm vz pq fx = (1, t + 8 + 8, wr29, pl29, pN b (t + 8) 8 lo, vz29, va_up pq sl (pq sl + 1), upd (upd fx (2 * (4096 * sl + pq sl)) vz19) (2 * (4096 * sl + pq sl) + 1) vz29) := by unfold mCoord; rw [if_neg (by omega), ha1, show k19 = 1 by omega]; show mCo2 b n (uD dg) sl lo (t + 8) wr19 pl19 (pN b t 8 lo) vz19 pq fx = _; unfold mCo2; rw [ha2, show k29 = 1 by omega]; rfl
                  rw [e9] at hs
                  cases hs
                  have hP : va_P D kCl [(mm, .inr (5, [.int (nI th), .int (nI dg), .int (nI PT), .int (nI PN), .int (nI n), .ref ma, .ref mb, .ref mc, .ref md, .ref me, .int (nI sz), .ref mf, .int (nI od), .int (nI sl), .int (nI (t + 8 + 8)), .int (nI wr1), .int (nI pl1), .int (nI lo), .long (lN (pN b (t + 8) 8 lo)), .int vz1, .ref mg, .ref mh])), (ma, .inl (cI, 65536, .inl (iF b))), (mc, .inl (cI, 4, .inl (iF pd))), (md, .inl (cI, 32768, .inl (upd (upd fx (2 * (4096 * sl + pq sl)) vz19) (2 * (4096 * sl + pq sl) + 1) vz1))), (me, .inl (cI, 4, .inl (iF (va_up pq sl (pq sl + 1)))))] H := hP.sub [2, 1, 0, 3, 4] rfl
                  have hD : va_D A [(mm, .inr (5, [.int (nI th), .int (nI dg), .int (nI PT), .int (nI PN), .int (nI n), .ref ma, .ref mb, .ref mc, .ref md, .ref me, .int (nI sz), .ref mf, .int (nI od), .int (nI sl), .int (nI (t + 8 + 8)), .int (nI wr1), .int (nI pl1), .int (nI lo), .long (lN (pN b (t + 8) 8 lo)), .int vz1, .ref mg, .ref mh])), (ma, .inl (cI, 65536, .inl (iF b))), (mc, .inl (cI, 4, .inl (iF pd))), (md, .inl (cI, 32768, .inl (upd (upd fx (2 * (4096 * sl + pq sl)) vz19) (2 * (4096 * sl + pq sl) + 1) vz1))), (me, .inl (cI, 4, .inl (iF (va_up pq sl (pq sl + 1)))))] := hD.sub [2, 1, 0, 3, 4] (by decide) rfl
                  exact k_iret () hx hb hr (by first | rfl | decide | exact vp_nar_int _) hlocks hK hP hD hS (rfl) (rfl) (Nat.le_of_ble_eq_true rfl) (Nat.le_of_ble_eq_true rfl) dX7_coordinate_93
                · skip
                  refine lv_iconst (v := nI 0) hx hb dX7_coordinate_81 (by decide) ?_
                  have e9 : mCoord b n (uD dg) PT sl lo t wr pl nm vz pq fx = (0, t + 8 + 8, wr29, pl29, pN b (t + 8) 8 lo, vz29, pq, fx) := by unfold mCoord; rw [if_neg (by omega), ha1, show k19 = 1 by omega]; show mCo2 b n (uD dg) sl lo (t + 8) wr19 pl19 (pN b t 8 lo) vz19 pq fx = _; unfold mCo2; rw [ha2, show k29 = 0 by omega]; rfl
                  rw [e9] at hs
                  cases hs
                  have hP : va_P D kCl [(mm, .inr (5, [.int (nI th), .int (nI dg), .int (nI PT), .int (nI PN), .int (nI n), .ref ma, .ref mb, .ref mc, .ref md, .ref me, .int (nI sz), .ref mf, .int (nI od), .int (nI sl), .int (nI (t + 8 + 8)), .int (nI wr1), .int (nI pl1), .int (nI lo), .long (lN (pN b (t + 8) 8 lo)), .int vz1, .ref mg, .ref mh])), (ma, .inl (cI, 65536, .inl (iF b))), (mc, .inl (cI, 4, .inl (iF pd))), (md, .inl (cI, 32768, .inl fx)), (me, .inl (cI, 4, .inl (iF pq)))] H := hP.sub [4, 3, 1, 0, 2] rfl
                  have hD : va_D A [(mm, .inr (5, [.int (nI th), .int (nI dg), .int (nI PT), .int (nI PN), .int (nI n), .ref ma, .ref mb, .ref mc, .ref md, .ref me, .int (nI sz), .ref mf, .int (nI od), .int (nI sl), .int (nI (t + 8 + 8)), .int (nI wr1), .int (nI pl1), .int (nI lo), .long (lN (pN b (t + 8) 8 lo)), .int vz1, .ref mg, .ref mh])), (ma, .inl (cI, 65536, .inl (iF b))), (mc, .inl (cI, 4, .inl (iF pd))), (md, .inl (cI, 32768, .inl fx)), (me, .inl (cI, 4, .inl (iF pq)))] := hD.sub [4, 3, 1, 0, 2] (by decide) rfl
                  exact k_iret () hx hb hr (by first | rfl | decide | exact vp_nar_int _) hlocks hK hP hD hS (rfl) (rfl) (Nat.le_of_ble_eq_true rfl) (Nat.le_of_ble_eq_true rfl) dX7_coordinate_82
          · skip
            refine lv_iconst (v := nI 0) hx hb dX7_coordinate_47 (by decide) ?_
            have e9 : mCoord b n (uD dg) PT sl lo t wr pl nm vz pq fx = (0, t + 8, wr19, pl19, pN b t 8 lo, vz19, pq, fx) := by unfold mCoord; rw [if_neg (by omega), ha1, show k19 = 0 by omega]; rfl
            rw [e9] at hs
            cases hs
            have hP : va_P D kCl [(mm, .inr (5, [.int (nI th), .int (nI dg), .int (nI PT), .int (nI PN), .int (nI n), .ref ma, .ref mb, .ref mc, .ref md, .ref me, .int (nI sz), .ref mf, .int (nI od), .int (nI sl), .int (nI (t + 8)), .int (nI wr1), .int (nI pl1), .int (nI lo), .long (lN (pN b t 8 lo)), .int vz1, .ref mg, .ref mh])), (ma, .inl (cI, 65536, .inl (iF b))), (mc, .inl (cI, 4, .inl (iF pd))), (md, .inl (cI, 32768, .inl fx)), (me, .inl (cI, 4, .inl (iF pq)))] H := hP.sub [4, 3, 1, 0, 2] rfl
            have hD : va_D A [(mm, .inr (5, [.int (nI th), .int (nI dg), .int (nI PT), .int (nI PN), .int (nI n), .ref ma, .ref mb, .ref mc, .ref md, .ref me, .int (nI sz), .ref mf, .int (nI od), .int (nI sl), .int (nI (t + 8)), .int (nI wr1), .int (nI pl1), .int (nI lo), .long (lN (pN b t 8 lo)), .int vz1, .ref mg, .ref mh])), (ma, .inl (cI, 65536, .inl (iF b))), (mc, .inl (cI, 4, .inl (iF pd))), (md, .inl (cI, 32768, .inl fx)), (me, .inl (cI, 4, .inl (iF pq)))] := hD.sub [4, 3, 1, 0, 2] (by decide) rfl
            exact k_iret () hx hb hr (by first | rfl | decide | exact vp_nar_int _) hlocks hK hP hD hS (rfl) (rfl) (Nat.le_of_ble_eq_true rfl) (Nat.le_of_ble_eq_true rfl) dX7_coordinate_48
    · skip
      exact absurd c350 (by omega)

