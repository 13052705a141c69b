set_option maxRecDepth 100000 in
set_option maxHeartbeats 4000000 in
theorem c_M_units (l : Launch) (D : va_G) (cI cB cJ cS : ClassId) (d : Nat) (hd : d < 4)  : kM l yX7_units vsX7_units ({ frames := 0, cells := 0, slots := 0, locals := 0 }) D (kT cI cB cJ cS) [.int (nI d)] [] (kQi D (kT cI cB cJ cS) (fun r (ug : Unit) => r = nI (uD d)) (fun ug => [])) := by
  refine k_ofW (by decide) rfl (Nat.le_of_ble_eq_true rfl) ?_
  intro p e s m below meth c A ls hx hb hr hts hown hlocks hmn hml hA hP hK hD hS hZ hl
  have F : CallFix p m c cX7_units 1 s _ vsX7_units RX7 := ⟨hx, hb, hml, hown, hts⟩
  have hl : lv_has ls 1 [(0, .int (nI d))] := hl
  refine lv_iload_n hx hb dX7_units_0 rfl (lv_at hl 0 rfl) ?_
  refine k_if_ne (tgt := 8) (by omega) hx hb dX7_units_1 (by decide) (fun c296 => ?_) (fun c296 => ?_)
  · skip
    refine lv_iload_n hx hb dX7_units_8 rfl (lv_at hl 0 rfl) ?_
    refine lv_iconst (v := nI 1) hx hb dX7_units_9 (by decide) ?_
    refine k_icmp_ne (tgt := 18) (by omega) (by omega) hx hb dX7_units_10 (by decide) (fun c297 => ?_) (fun c297 => ?_)
    · skip
      refine lv_iload_n hx hb dX7_units_18 rfl (lv_at hl 0 rfl) ?_
      refine lv_iconst (v := nI 2) hx hb dX7_units_19 (by decide) ?_
      refine k_icmp_ne (tgt := 28) (by omega) (by omega) hx hb dX7_units_20 (by decide) (fun c298 => ?_) (fun c298 => ?_)
      · skip
        refine lv_sipush (v := nI 1000) hx hb dX7_units_28 (by decide) ?_
        exact k_iret () hx hb hr (by first | rfl | decide | exact vp_nar_int _) hlocks hK hP hD hS (rfl) (by unfold uD; rw [if_neg (by omega), if_neg (by omega), if_neg (by omega)]) (Nat.le_of_ble_eq_true rfl) (Nat.le_of_ble_eq_true rfl) dX7_units_31
      · skip
        refine lv_bipush (v := nI 100) hx hb dX7_units_23 (by decide) ?_
        refine lv_goto (tgt := 31) hx hb dX7_units_25 (by decide) ?_
        exact k_iret () hx hb hr (by first | rfl | decide | exact vp_nar_int _) hlocks hK hP hD hS (rfl) (by unfold uD; rw [if_neg (by omega), if_neg (by omega), if_pos (by omega)]) (Nat.le_of_ble_eq_true rfl) (Nat.le_of_ble_eq_true rfl) dX7_units_31
    · skip
      refine lv_bipush (v := nI 10) hx hb dX7_units_13 (by decide) ?_
      refine lv_goto (tgt := 31) hx hb dX7_units_15 (by decide) ?_
      exact k_iret () hx hb hr (by first | rfl | decide | exact vp_nar_int _) hlocks hK hP hD hS (rfl) (by unfold uD; rw [if_neg (by omega), if_pos (by omega)]) (Nat.le_of_ble_eq_true rfl) (Nat.le_of_ble_eq_true rfl) dX7_units_31
  · skip
    refine lv_iconst (v := nI 1) hx hb dX7_units_4 (by decide) ?_
    refine lv_goto (tgt := 31) hx hb dX7_units_5 (by decide) ?_
    exact k_iret () hx hb hr (by first | rfl | decide | exact vp_nar_int _) hlocks hK hP hD hS (rfl) (by unfold uD; rw [if_pos (by omega)]) (Nat.le_of_ble_eq_true rfl) (Nat.le_of_ble_eq_true rfl) dX7_units_31

set_option maxRecDepth 100000 in
set_option maxHeartbeats 4000000 in
theorem c_M_exponent (l : Launch) (D : va_G) (cI cB cJ cS : ClassId) (v : Nat) (hv : v < 2 ^ 64)  : kM l yX7_exponent vsX7_exponent ({ frames := 0, cells := 0, slots := 0, locals := 0 }) D (kT cI cB cJ cS) [.long (lN v)] [] (kQl D (kT cI cB cJ cS) (fun r (ug : Unit) => r = lN (rE v)) (fun ug => [])) := by
  refine k_ofW (by decide) rfl (Nat.le_of_ble_eq_true rfl) ?_
  intro p e s m below meth c A ls hx hb hr hts hown hlocks hmn hml hA hP hK hD hS hZ hl
  have F : CallFix p m c cX7_exponent 2 s _ vsX7_exponent RX7 := ⟨hx, hb, hml, hown, hts⟩
  have hl : lv_has ls 2 [(0, .long (lN v))] := hl
  refine lv_lload_n hx hb dX7_exponent_0 rfl (lv_at hl 0 rfl) ?_
  refine lv_bipush (v := nI 52) hx hb dX7_exponent_1 (by decide) ?_
  refine lv_lushr (v := lN (v / 4503599627370496)) hx hb dX7_exponent_3 (wb_shr (k := 52) (by omega) (by decide)) ?_
  refine lv_ldc2 (v := lN 2047) hx hb hown (hts (.constantLong RX7 83 (2047)) (List.mem_cons_of_mem _ wd_382)) dX7_exponent_4 ?_
  refine lv_land hx hb dX7_exponent_7 ?_
  refine k_l (show _ = lN (v / 4503599627370496 % 2048) from g_mask (s := 11) (p := 2048) rfl (by decide) (by omega)) ?_
  exact k_lret () hx hb hr hlocks hK hP hD hS (rfl) (congrArg lN ex_E) (Nat.le_of_ble_eq_true rfl) (Nat.le_of_ble_eq_true rfl) dX7_exponent_8

set_option maxRecDepth 100000 in
set_option maxHeartbeats 4000000 in
theorem c_M_isNone (l : Launch) (D : va_G) (cI cB cJ cS : ClassId) (v : Nat) (hv : v < 2 ^ 64)  : kM l yX7_isNone vsX7_isNone ({ frames := 1, cells := 0, slots := 0, locals := 21 }) D (kT cI cB cJ cS) [.long (lN v)] [] (kQi D (kT cI cB cJ cS) (fun r (ug : Unit) => r = nI (if 9218868437227405312 < v % 9223372036854775808 then 1 else 0)) (fun ug => [])) := by
  refine k_ofW (by decide) rfl (Nat.le_of_ble_eq_true rfl) ?_
  intro p e s m below meth c A ls hx hb hr hts hown hlocks hmn hml hA hP hK hD hS hZ hl
  have F : CallFix p m c cX7_isNone 2 s _ vsX7_isNone RX7 := ⟨hx, hb, hml, hown, hts⟩
  have hl : lv_has ls 2 [(0, .long (lN v))] := hl
  refine lv_lload_n hx hb dX7_isNone_0 rfl (lv_at hl 0 rfl) ?_
  refine k_cl (wr := []) (k_rs F (c_M_exponent l D cI cB cJ cS v hv) (va_cwS 1 hts (g_S wd_384 wd_385 wd_373 wd_386) rfl rfl rfl (by decide +kernel) ⟨Nat.le_of_ble_eq_true rfl, Nat.le_of_ble_eq_true rfl⟩) hK hP hD hS hA hZ [] rfl (by decide) rfl hl.1 rfl (Nat.le_of_ble_eq_true rfl) dX7_isNone_1 ⟨Nat.le_of_ble_eq_true rfl, Nat.le_of_ble_eq_true rfl⟩) hP hD hS hA [] [] rfl rfl (by decide) (by decide) (fun r u9 H locs hw hP hD hS => ?_)
  subst hw
  have hP : va_P D kCl [] H := hP
  have hD : va_D A [] := hD
  refine W.widen (k := 0) (n := 0) (Nat.le_of_ble_eq_true rfl) (Nat.le_of_ble_eq_true rfl) ?_
  refine lv_ldc2 (v := lN 2047) hx hb hown (hts (.constantLong RX7 83 (2047)) (List.mem_cons_of_mem _ wd_382)) dX7_isNone_4 ?_
  refine W.lcmp hx hb dX7_isNone_7 ?_
  have hE0 := rE_lt (v := v)
  refine k_lcmpN_ne (tgt := 25) (by omega) (by omega) hx hb dX7_isNone_8 (by decide) (fun c299 => ?_) (fun c299 => ?_)
  · skip
    refine lv_iconst (v := nI 0) hx hb dX7_isNone_25 (by decide) ?_
    exact k_iret () hx hb hr (by first | rfl | decide | exact vp_nar_int _) hlocks hK hP hD hS (rfl) (by rw [if_neg (fun q => by have z := none_iff.mp q; omega)]) (Nat.le_of_ble_eq_true rfl) (Nat.le_of_ble_eq_true rfl) dX7_isNone_26
  · skip
    refine lv_lload_n hx hb dX7_isNone_11 rfl (lv_at hl 0 rfl) ?_
    refine lv_ldc2 (v := lN 4503599627370495) hx hb hown (hts (.constantLong RX7 89 (4503599627370495)) (List.mem_cons_of_mem _ wd_383)) dX7_isNone_12 ?_
    refine lv_land hx hb dX7_isNone_15 ?_
    refine k_l (show _ = lN (v % 4503599627370496) from g_mask (s := 52) (p := 4503599627370496) rfl (by decide) hv) ?_
    refine lv_lconst (v := lN 0) hx hb dX7_isNone_16 (by decide) ?_
    refine W.lcmp hx hb dX7_isNone_17 ?_
    refine k_lcmpN_eq (tgt := 25) (by omega) (by omega) hx hb dX7_isNone_18 (by decide) (fun c300 => ?_) (fun c300 => ?_)
    · skip
      refine lv_iconst (v := nI 0) hx hb dX7_isNone_25 (by decide) ?_
      exact k_iret () hx hb hr (by first | rfl | decide | exact vp_nar_int _) hlocks hK hP hD hS (rfl) (by rw [if_neg (fun q => by have z := none_iff.mp q; omega)]) (Nat.le_of_ble_eq_true rfl) (Nat.le_of_ble_eq_true rfl) dX7_isNone_26
    · skip
      refine lv_iconst (v := nI 1) hx hb dX7_isNone_21 (by decide) ?_
      refine lv_goto (tgt := 26) hx hb dX7_isNone_22 (by decide) ?_
      exact k_iret () hx hb hr (by first | rfl | decide | exact vp_nar_int _) hlocks hK hP hD hS (rfl) (by rw [if_pos (none_iff.mpr ⟨by omega, by omega⟩)]) (Nat.le_of_ble_eq_true rfl) (Nat.le_of_ble_eq_true rfl) dX7_isNone_26

set_option maxRecDepth 100000 in
set_option maxHeartbeats 4000000 in
theorem c_M_room1 (l : Launch) (D : va_G) (cI cB cJ cS : ClassId) (mm ma mb mc md me mf mg mh th dg PT PN n sz od sl t wr pl lo nm : Nat) (b pm pd pq rb ok ol : Nat → Nat) (fx : Nat → Int32) (vz : Int32) (hsl : sl < 4) (hpd : pd sl ≤ 4096) (hpq : pq sl ≤ 4096) (hPN : PN ≤ 4096) (hPT : PT ≤ 4096) (q p9 : Nat) (hq : q ≤ 2) (hp : p9 ≤ 1) (hyes : pd sl + q ≤ PN ∧ pq sl + p9 ≤ PT)  : kM l yX7_room vsX7_room ({ frames := 0, cells := 0, slots := 0, locals := 0 }) D (kT cI cB cJ cS) [.ref mm, .int (nI q), .int (nI p9)] [(mm, .inr (5, [.int (nI th), .int (nI dg), .int (nI PT), .int (nI PN), .int (nI n), .ref ma, .ref mb, .ref mc, .ref md, .ref me, .int (nI sz), .ref mf, .int (nI od), .int (nI sl), .int (nI t), .int (nI wr), .int (nI pl), .int (nI lo), .long (lN nm), .int vz, .ref mg, .ref mh])), (mc, .inl (cI, 4, .inl (iF pd))), (me, .inl (cI, 4, .inl (iF pq)))] (kQi D (kT cI cB cJ cS) (fun r (ug : Unit) => r = nI 1) (fun ug => [(mm, .inr (5, [.int (nI th), .int (nI dg), .int (nI PT), .int (nI PN), .int (nI n), .ref ma, .ref mb, .ref mc, .ref md, .ref me, .int (nI sz), .ref mf, .int (nI od), .int (nI sl), .int (nI t), .int (nI wr), .int (nI pl), .int (nI lo), .long (lN nm), .int vz, .ref mg, .ref mh])), (mc, .inl (cI, 4, .inl (iF pd))), (me, .inl (cI, 4, .inl (iF pq)))])) := by
  refine k_ofW (by decide) rfl (Nat.le_of_ble_eq_true rfl) ?_
  intro p e s m below meth c A ls hx hb hr hts hown hlocks hmn hml hA hP hK hD hS hZ hl
  have inX7 : ∀ w ∈ wsX70, w ∈ vsX7_room := fun w h => List.mem_cons_of_mem _ (iaX7 w h)
  have F : CallFix p m c cX7_room 3 s _ vsX7_room RX7 := ⟨hx, hb, hml, hown, hts⟩
  have hl : lv_has ls 3 [(0, .ref mm), (1, .int (nI q)), (2, .int (nI p9))] := hl
  refine lv_aload_n hx hb dX7_room_0 rfl (lv_at hl 0 rfl) ?_
  refine va_get (D := D) (ci := 5) (v := .ref mc) (C := RX7) (T := TX7) (N := 22) hx hb hts inX7 hown hK hP 0 rfl rfl 7 (by decide) (hts (.fieldLink RX7 17 "ByteShapesModel" "planned" "[I") (List.mem_cons_of_mem _ wd_387)) (fun _ h9 => h9) rfl dX7_room_1 ?_
  refine lv_aload_n hx hb dX7_room_4 rfl (lv_at hl 0 rfl) ?_
  refine va_get (D := D) (ci := 5) (v := .int (nI sl)) (C := RX7) (T := TX7) (N := 22) hx hb hts inX7 hown hK hP 0 rfl rfl 13 (by decide) (hts (.fieldLink RX7 107 "ByteShapesModel" "slot" "I") (List.mem_cons_of_mem _ wd_388)) (fun _ h9 => h9) rfl dX7_room_5 ?_
  refine va_iald hx hb hK hP 1 0 rfl rfl (vp_in_nI (by omega) (by omega)) dX7_room_8 ?_
  refine k_i (show _ = (iF pd) sl from congrArg (iF pd) (nI_clamp (by omega))) ?_
  refine k_i (show _ = nI (pd sl) from rfl) ?_
  refine lv_iload_n hx hb dX7_room_9 rfl (lv_at hl 1 rfl) ?_
  refine lv_iadd hx hb dX7_room_10 ?_
  refine k_i (show _ = nI ((pd sl) + q) from nI_add _ _) ?_
  refine lv_aload_n hx hb dX7_room_11 rfl (lv_at hl 0 rfl) ?_
  refine va_get (D := D) (ci := 5) (v := .int (nI PN)) (C := RX7) (T := TX7) (N := 22) hx hb hts inX7 hown hK hP 0 rfl rfl 3 (by decide) (hts (.fieldLink RX7 45 "ByteShapesModel" "mostPlan" "I") (List.mem_cons_of_mem _ wd_389)) (fun _ h9 => h9) rfl dX7_room_12 ?_
  refine k_icmp_gt (tgt := 40) (by omega) (by omega) hx hb dX7_room_15 (by decide) (fun c301 => ?_) (fun c301 => ?_)
  · skip
    exact absurd c301 (by omega)
  · skip
    refine lv_aload_n hx hb dX7_room_18 rfl (lv_at hl 0 rfl) ?_
    refine va_get (D := D) (ci := 5) (v := .ref me) (C := RX7) (T := TX7) (N := 22) hx hb hts inX7 hown hK hP 0 rfl rfl 9 (by decide) (hts (.fieldLink RX7 24 "ByteShapesModel" "points" "[I") (List.mem_cons_of_mem _ wd_390)) (fun _ h9 => h9) rfl dX7_room_19 ?_
    refine lv_aload_n hx hb dX7_room_22 rfl (lv_at hl 0 rfl) ?_
    refine va_get (D := D) (ci := 5) (v := .int (nI sl)) (C := RX7) (T := TX7) (N := 22) hx hb hts inX7 hown hK hP 0 rfl rfl 13 (by decide) (hts (.fieldLink RX7 107 "ByteShapesModel" "slot" "I") (List.mem_cons_of_mem _ wd_388)) (fun _ h9 => h9) rfl dX7_room_23 ?_
    refine va_iald hx hb hK hP 2 0 rfl rfl (vp_in_nI (by omega) (by omega)) dX7_room_26 ?_
    refine k_i (show _ = (iF pq) sl from congrArg (iF pq) (nI_clamp (by omega))) ?_
    refine k_i (show _ = nI (pq sl) from rfl) ?_
    refine lv_iload_n hx hb dX7_room_27 rfl (lv_at hl 2 rfl) ?_
    refine lv_iadd hx hb dX7_room_28 ?_
    refine k_i (show _ = nI ((pq sl) + p9) from nI_add _ _) ?_
    refine lv_aload_n hx hb dX7_room_29 rfl (lv_at hl 0 rfl) ?_
    refine va_get (D := D) (ci := 5) (v := .int (nI PT)) (C := RX7) (T := TX7) (N := 22) hx hb hts inX7 hown hK hP 0 rfl rfl 2 (by decide) (hts (.fieldLink RX7 42 "ByteShapesModel" "mostPoints" "I") (List.mem_cons_of_mem _ wd_391)) (fun _ h9 => h9) rfl dX7_room_30 ?_
    refine k_icmp_gt (tgt := 40) (by omega) (by omega) hx hb dX7_room_33 (by decide) (fun c302 => ?_) (fun c302 => ?_)
    · skip
      exact absurd c302 (by omega)
    · skip
      refine lv_iconst (v := nI 1) hx hb dX7_room_36 (by decide) ?_
      refine lv_goto (tgt := 41) hx hb dX7_room_37 (by decide) ?_
      exact k_iret () hx hb hr (by first | rfl | decide | exact vp_nar_int _) hlocks hK hP hD hS (rfl) (rfl) (Nat.le_of_ble_eq_true rfl) (Nat.le_of_ble_eq_true rfl) dX7_room_41

set_option maxRecDepth 100000 in
set_option maxHeartbeats 4000000 in
theorem c_M_room0 (l : Launch) (D : va_G) (cI cB cJ cS : ClassId) (mm ma mb mc md me mf mg mh th dg PT PN n sz od sl t wr pl lo nm : Nat) (b pm pd pq rb ok ol : Nat → Nat) (fx : Nat → Int32) (vz : Int32) (hsl : sl < 4) (hpd : pd sl ≤ 4096) (hpq : pq sl ≤ 4096) (hPN : PN ≤ 4096) (hPT : PT ≤ 4096) (q p9 : Nat) (hq : q ≤ 2) (hp : p9 ≤ 1) (hyes : PN < pd sl + q ∨ PT < pq sl + p9)  : kM l yX7_room vsX7_room ({ frames := 0, cells := 0, slots := 0, locals := 0 }) D (kT cI cB cJ cS) [.ref mm, .int (nI q), .int (nI p9)] [(mm, .inr (5, [.int (nI th), .int (nI dg), .int (nI PT), .int (nI PN), .int (nI n), .ref ma, .ref mb, .ref mc, .ref md, .ref me, .int (nI sz), .ref mf, .int (nI od), .int (nI sl), .int (nI t), .int (nI wr), .int (nI pl), .int (nI lo), .long (lN nm), .int vz, .ref mg, .ref mh])), (mc, .inl (cI, 4, .inl (iF pd))), (me, .inl (cI, 4, .inl (iF pq)))] (kQi D (kT cI cB cJ cS) (fun r (ug : Unit) => r = nI 0) (fun ug => [(mm, .inr (5, [.int (nI th), .int (nI dg), .int (nI PT), .int (nI PN), .int (nI n), .ref ma, .ref mb, .ref mc, .ref md, .ref me, .int (nI sz), .ref mf, .int (nI od), .int (nI sl), .int (nI t), .int (nI wr), .int (nI pl), .int (nI lo), .long (lN nm), .int vz, .ref mg, .ref mh])), (mc, .inl (cI, 4, .inl (iF pd))), (me, .inl (cI, 4, .inl (iF pq)))])) := by
  refine k_ofW (by decide) rfl (Nat.le_of_ble_eq_true rfl) ?_
  intro p e s m below meth c A ls hx hb hr hts hown hlocks hmn hml hA hP hK hD hS hZ hl
  have inX7 : ∀ w ∈ wsX70, w ∈ vsX7_room := fun w h => List.mem_cons_of_mem _ (iaX7 w h)
  have F : CallFix p m c cX7_room 3 s _ vsX7_room RX7 := ⟨hx, hb, hml, hown, hts⟩
  have hl : lv_has ls 3 [(0, .ref mm), (1, .int (nI q)), (2, .int (nI p9))] := hl
  refine lv_aload_n hx hb dX7_room_0 rfl (lv_at hl 0 rfl) ?_
  refine va_get (D := D) (ci := 5) (v := .ref mc) (C := RX7) (T := TX7) (N := 22) hx hb hts inX7 hown hK hP 0 rfl rfl 7 (by decide) (hts (.fieldLink RX7 17 "ByteShapesModel" "planned" "[I") (List.mem_cons_of_mem _ wd_387)) (fun _ h9 => h9) rfl dX7_room_1 ?_
  refine lv_aload_n hx hb dX7_room_4 rfl (lv_at hl 0 rfl) ?_
  refine va_get (D := D) (ci := 5) (v := .int (nI sl)) (C := RX7) (T := TX7) (N := 22) hx hb hts inX7 hown hK hP 0 rfl rfl 13 (by decide) (hts (.fieldLink RX7 107 "ByteShapesModel" "slot" "I") (List.mem_cons_of_mem _ wd_388)) (fun _ h9 => h9) rfl dX7_room_5 ?_
  refine va_iald hx hb hK hP 1 0 rfl rfl (vp_in_nI (by omega) (by omega)) dX7_room_8 ?_
  refine k_i (show _ = (iF pd) sl from congrArg (iF pd) (nI_clamp (by omega))) ?_
  refine k_i (show _ = nI (pd sl) from rfl) ?_
  refine lv_iload_n hx hb dX7_room_9 rfl (lv_at hl 1 rfl) ?_
  refine lv_iadd hx hb dX7_room_10 ?_
  refine k_i (show _ = nI ((pd sl) + q) from nI_add _ _) ?_
  refine lv_aload_n hx hb dX7_room_11 rfl (lv_at hl 0 rfl) ?_
  refine va_get (D := D) (ci := 5) (v := .int (nI PN)) (C := RX7) (T := TX7) (N := 22) hx hb hts inX7 hown hK hP 0 rfl rfl 3 (by decide) (hts (.fieldLink RX7 45 "ByteShapesModel" "mostPlan" "I") (List.mem_cons_of_mem _ wd_389)) (fun _ h9 => h9) rfl dX7_room_12 ?_
  refine k_icmp_gt (tgt := 40) (by omega) (by omega) hx hb dX7_room_15 (by decide) (fun c303 => ?_) (fun c303 => ?_)
  · skip
    refine lv_iconst (v := nI 0) hx hb dX7_room_40 (by decide) ?_
    exact k_iret () hx hb hr (by first | rfl | decide | exact vp_nar_int _) hlocks hK hP hD hS (rfl) (rfl) (Nat.le_of_ble_eq_true rfl) (Nat.le_of_ble_eq_true rfl) dX7_room_41
  · skip
    refine lv_aload_n hx hb dX7_room_18 rfl (lv_at hl 0 rfl) ?_
    refine va_get (D := D) (ci := 5) (v := .ref me) (C := RX7) (T := TX7) (N := 22) hx hb hts inX7 hown hK hP 0 rfl rfl 9 (by decide) (hts (.fieldLink RX7 24 "ByteShapesModel" "points" "[I") (List.mem_cons_of_mem _ wd_390)) (fun _ h9 => h9) rfl dX7_room_19 ?_
    refine lv_aload_n hx hb dX7_room_22 rfl (lv_at hl 0 rfl) ?_
    refine va_get (D := D) (ci := 5) (v := .int (nI sl)) (C := RX7) (T := TX7) (N := 22) hx hb hts inX7 hown hK hP 0 rfl rfl 13 (by decide) (hts (.fieldLink RX7 107 "ByteShapesModel" "slot" "I") (List.mem_cons_of_mem _ wd_388)) (fun _ h9 => h9) rfl dX7_room_23 ?_
    refine va_iald hx hb hK hP 2 0 rfl rfl (vp_in_nI (by omega) (by omega)) dX7_room_26 ?_
    refine k_i (show _ = (iF pq) sl from congrArg (iF pq) (nI_clamp (by omega))) ?_
    refine k_i (show _ = nI (pq sl) from rfl) ?_
    refine lv_iload_n hx hb dX7_room_27 rfl (lv_at hl 2 rfl) ?_
    refine lv_iadd hx hb dX7_room_28 ?_
    refine k_i (show _ = nI ((pq sl) + p9) from nI_add _ _) ?_
    refine lv_aload_n hx hb dX7_room_29 rfl (lv_at hl 0 rfl) ?_
    refine va_get (D := D) (ci := 5) (v := .int (nI PT)) (C := RX7) (T := TX7) (N := 22) hx hb hts inX7 hown hK hP 0 rfl rfl 2 (by decide) (hts (.fieldLink RX7 42 "ByteShapesModel" "mostPoints" "I") (List.mem_cons_of_mem _ wd_391)) (fun _ h9 => h9) rfl dX7_room_30 ?_
    refine k_icmp_gt (tgt := 40) (by omega) (by omega) hx hb dX7_room_33 (by decide) (fun c304 => ?_) (fun c304 => ?_)
    · skip
      refine lv_iconst (v := nI 0) hx hb dX7_room_40 (by decide) ?_
      exact k_iret () hx hb hr (by first | rfl | decide | exact vp_nar_int _) hlocks hK hP hD hS (rfl) (rfl) (Nat.le_of_ble_eq_true rfl) (Nat.le_of_ble_eq_true rfl) dX7_room_41
    · skip
      exact absurd c304 (by omega)

set_option maxRecDepth 100000 in
set_option maxHeartbeats 4000000 in
theorem c_M_say (l : Launch) (D : va_G) (cI cB cJ cS : ClassId) (mm ma mb mc md me mf mg mh th dg PT PN n sz od sl t wr pl lo nm : Nat) (b pm pd pq rb ok ol : Nat → Nat) (fx : Nat → Int32) (vz : Int32) (hsl : sl < 4) (hpd : pd sl < 4096) (v : Nat)  : kM l yX7_say vsX7_say ({ frames := 0, cells := 0, slots := 0, locals := 0 }) D (kT cI cB cJ cS) [.ref mm, .int (nI v)] [(mm, .inr (5, [.int (nI th), .int (nI dg), .int (nI PT), .int (nI PN), .int (nI n), .ref ma, .ref mb, .ref mc, .ref md, .ref me, .int (nI sz), .ref mf, .int (nI od), .int (nI sl), .int (nI t), .int (nI wr), .int (nI pl), .int (nI lo), .long (lN nm), .int vz, .ref mg, .ref mh])), (mb, .inl (cI, 16384, .inl (iF pm))), (mc, .inl (cI, 4, .inl (iF pd)))] (kQv D (kT cI cB cJ cS) (fun (ug : Unit) => True) (fun ug => [(mm, .inr (5, [.int (nI th), .int (nI dg), .int (nI PT), .int (nI PN), .int (nI n), .ref ma, .ref mb, .ref mc, .ref md, .ref me, .int (nI sz), .ref mf, .int (nI od), .int (nI sl), .int (nI t), .int (nI wr), .int (nI pl), .int (nI lo), .long (lN nm), .int vz, .ref mg, .ref mh])), (mb, .inl (cI, 16384, .inl (iF (va_up pm (4096 * sl + pd sl) v)))), (mc, .inl (cI, 4, .inl (iF (va_up pd sl (pd sl + 1)))))])) := by
  refine k_ofW (by decide) rfl (Nat.le_of_ble_eq_true rfl) ?_
  intro p e s m below meth c A ls hx hb hr hts hown hlocks hmn hml hA hP hK hD hS hZ hl
  have inX7 : ∀ w ∈ wsX70, w ∈ vsX7_say := fun w h => List.mem_cons_of_mem _ (iaX7 w h)
  have F : CallFix p m c cX7_say 2 s _ vsX7_say RX7 := ⟨hx, hb, hml, hown, hts⟩
  have hl : lv_has ls 2 [(0, .ref mm), (1, .int (nI v))] := hl
  refine lv_aload_n hx hb dX7_say_0 rfl (lv_at hl 0 rfl) ?_
  refine va_get (D := D) (ci := 5) (v := .ref mb) (C := RX7) (T := TX7) (N := 22) hx hb hts inX7 hown hK hP 0 rfl rfl 6 (by decide) (hts (.fieldLink RX7 14 "ByteShapesModel" "plan" "[I") (List.mem_cons_of_mem _ wd_392)) (fun _ h9 => h9) rfl dX7_say_1 ?_
  refine lv_sipush (v := nI 4096) hx hb dX7_say_4 (by decide) ?_
  refine lv_aload_n hx hb dX7_say_7 rfl (lv_at hl 0 rfl) ?_
  refine va_get (D := D) (ci := 5) (v := .int (nI sl)) (C := RX7) (T := TX7) (N := 22) hx hb hts inX7 hown hK hP 0 rfl rfl 13 (by decide) (hts (.fieldLink RX7 107 "ByteShapesModel" "slot" "I") (List.mem_cons_of_mem _ wd_388)) (fun _ h9 => h9) rfl dX7_say_8 ?_
  refine lv_imul hx hb dX7_say_11 ?_
  refine k_i (show _ = nI (4096 * sl) from pk_mul _ _) ?_
  refine lv_aload_n hx hb dX7_say_12 rfl (lv_at hl 0 rfl) ?_
  refine va_get (D := D) (ci := 5) (v := .ref mc) (C := RX7) (T := TX7) (N := 22) hx hb hts inX7 hown hK hP 0 rfl rfl 7 (by decide) (hts (.fieldLink RX7 17 "ByteShapesModel" "planned" "[I") (List.mem_cons_of_mem _ wd_387)) (fun _ h9 => h9) rfl dX7_say_13 ?_
  refine lv_aload_n hx hb dX7_say_16 rfl (lv_at hl 0 rfl) ?_
  refine va_get (D := D) (ci := 5) (v := .int (nI sl)) (C := RX7) (T := TX7) (N := 22) hx hb hts inX7 hown hK hP 0 rfl rfl 13 (by decide) (hts (.fieldLink RX7 107 "ByteShapesModel" "slot" "I") (List.mem_cons_of_mem _ wd_388)) (fun _ h9 => h9) rfl dX7_say_17 ?_
  refine va_iald hx hb hK hP 2 0 rfl rfl (vp_in_nI (by omega) (by omega)) dX7_say_20 ?_
  refine k_i (show _ = (iF pd) sl from congrArg (iF pd) (nI_clamp (by omega))) ?_
  refine k_i (show _ = nI (pd sl) from rfl) ?_
  refine lv_iadd hx hb dX7_say_21 ?_
  refine k_i (show _ = nI ((4096 * sl) + (pd sl)) from nI_add _ _) ?_
  refine lv_iload_n hx hb dX7_say_22 rfl (lv_at hl 1 rfl) ?_
  refine va_iast hx hb hK hP hD hS 1 0 rfl rfl (vp_in_nI (by omega) (by omega)) dX7_say_23 (fun H locs hP hD hS => ?_)
  rw [show upd (iF pm) (nI ((4096 * sl) + (pd sl))).toNatClampNeg (nI v) = iF (va_up pm (4096 * sl + pd sl) v) from by rw [nI_clamp (by omega)]; exact iF_put _ _ _] at hP hD
  have hP : va_P D kCl [(mm, .inr (5, [.int (nI th), .int (nI dg), .int (nI PT), .int (nI PN), .int (nI n), .ref ma, .ref mb, .ref mc, .ref md, .ref me, .int (nI sz), .ref mf, .int (nI od), .int (nI sl), .int (nI t), .int (nI wr), .int (nI pl), .int (nI lo), .long (lN nm), .int vz, .ref mg, .ref mh])), (mb, .inl (cI, 16384, .inl (iF (va_up pm (4096 * sl + pd sl) v)))), (mc, .inl (cI, 4, .inl (iF pd)))] H := hP
  have hD : va_D A [(mm, .inr (5, [.int (nI th), .int (nI dg), .int (nI PT), .int (nI PN), .int (nI n), .ref ma, .ref mb, .ref mc, .ref md, .ref me, .int (nI sz), .ref mf, .int (nI od), .int (nI sl), .int (nI t), .int (nI wr), .int (nI pl), .int (nI lo), .long (lN nm), .int vz, .ref mg, .ref mh])), (mb, .inl (cI, 16384, .inl (iF (va_up pm (4096 * sl + pd sl) v)))), (mc, .inl (cI, 4, .inl (iF pd)))] := hD
  refine lv_aload_n hx hb dX7_say_24 rfl (lv_at hl 0 rfl) ?_
  refine va_get (D := D) (ci := 5) (v := .ref mc) (C := RX7) (T := TX7) (N := 22) hx hb hts inX7 hown hK hP 0 rfl rfl 7 (by decide) (hts (.fieldLink RX7 17 "ByteShapesModel" "planned" "[I") (List.mem_cons_of_mem _ wd_387)) (fun _ h9 => h9) rfl dX7_say_25 ?_
  refine lv_aload_n hx hb dX7_say_28 rfl (lv_at hl 0 rfl) ?_
  refine va_get (D := D) (ci := 5) (v := .int (nI sl)) (C := RX7) (T := TX7) (N := 22) hx hb hts inX7 hown hK hP 0 rfl rfl 13 (by decide) (hts (.fieldLink RX7 107 "ByteShapesModel" "slot" "I") (List.mem_cons_of_mem _ wd_388)) (fun _ h9 => h9) rfl dX7_say_29 ?_
  refine lv_dup2_11 hx hb dX7_say_32 rfl rfl ?_
  refine va_iald hx hb hK hP 2 0 rfl rfl (vp_in_nI (by omega) (by omega)) dX7_say_33 ?_
  refine k_i (show _ = (iF pd) sl from congrArg (iF pd) (nI_clamp (by omega))) ?_
  refine k_i (show _ = nI (pd sl) from rfl) ?_
  refine lv_iconst (v := nI 1) hx hb dX7_say_34 (by decide) ?_
  refine lv_iadd hx hb dX7_say_35 ?_
  refine k_i (show _ = nI ((pd sl) + 1) from nI_add _ _) ?_
  refine va_iast hx hb hK hP hD hS 2 0 rfl rfl (vp_in_nI (by omega) (by omega)) dX7_say_36 (fun H locs hP hD hS => ?_)
  rw [show upd (iF pd) (nI sl).toNatClampNeg (nI ((pd sl) + 1)) = iF (va_up pd sl (pd sl + 1)) from by rw [nI_clamp (by omega)]; exact iF_put _ _ _] at hP hD
  have hP : va_P D kCl [(mm, .inr (5, [.int (nI th), .int (nI dg), .int (nI PT), .int (nI PN), .int (nI n), .ref ma, .ref mb, .ref mc, .ref md, .ref me, .int (nI sz), .ref mf, .int (nI od), .int (nI sl), .int (nI t), .int (nI wr), .int (nI pl), .int (nI lo), .long (lN nm), .int vz, .ref mg, .ref mh])), (mb, .inl (cI, 16384, .inl (iF (va_up pm (4096 * sl + pd sl) v)))), (mc, .inl (cI, 4, .inl (iF (va_up pd sl (pd sl + 1)))))] H := hP
  have hD : va_D A [(mm, .inr (5, [.int (nI th), .int (nI dg), .int (nI PT), .int (nI PN), .int (nI n), .ref ma, .ref mb, .ref mc, .ref md, .ref me, .int (nI sz), .ref mf, .int (nI od), .int (nI sl), .int (nI t), .int (nI wr), .int (nI pl), .int (nI lo), .long (lN nm), .int vz, .ref mg, .ref mh])), (mb, .inl (cI, 16384, .inl (iF (va_up pm (4096 * sl + pd sl) v)))), (mc, .inl (cI, 4, .inl (iF (va_up pd sl (pd sl + 1)))))] := hD
  exact k_vret () hx hb hr hlocks hK hP hD hS (rfl) (trivial) (Nat.le_of_ble_eq_true rfl) (Nat.le_of_ble_eq_true rfl) dX7_say_37

set_option maxRecDepth 100000 in
set_option maxHeartbeats 4000000 in
theorem c_M_put (l : Launch) (D : va_G) (cI cB cJ cS : ClassId) (mm ma mb mc md me mf mg mh th dg PT PN n sz od sl t wr pl lo nm : Nat) (b pm pd pq rb ok ol : Nat → Nat) (fx : Nat → Int32) (vz : Int32) (hsl : sl < 4) (hpq : pq sl < 4096) (z1 z2 : Int32)  : kM l yX7_put vsX7_put ({ frames := 0, cells := 0, slots := 0, locals := 0 }) D (kT cI cB cJ cS) [.ref mm, .int z1, .int z2] [(mm, .inr (5, [.int (nI th), .int (nI dg), .int (nI PT), .int (nI PN), .int (nI n), .ref ma, .ref mb, .ref mc, .ref md, .ref me, .int (nI sz), .ref mf, .int (nI od), .int (nI sl), .int (nI t), .int (nI wr), .int (nI pl), .int (nI lo), .long (lN nm), .int vz, .ref mg, .ref mh])), (md, .inl (cI, 32768, .inl fx)), (me, .inl (cI, 4, .inl (iF pq)))] (kQv D (kT cI cB cJ cS) (fun (ug : Unit) => True) (fun ug => [(mm, .inr (5, [.int (nI th), .int (nI dg), .int (nI PT), .int (nI PN), .int (nI n), .ref ma, .ref mb, .ref mc, .ref md, .ref me, .int (nI sz), .ref mf, .int (nI od), .int (nI sl), .int (nI t), .int (nI wr), .int (nI pl), .int (nI lo), .long (lN nm), .int vz, .ref mg, .ref mh])), (md, .inl (cI, 32768, .inl (upd (upd fx (2 * (4096 * sl + pq sl)) z1) (2 * (4096 * sl + pq sl) + 1) z2))), (me, .inl (cI, 4, .inl (iF (va_up pq sl (pq sl + 1)))))])) := by
  refine k_ofW (by decide) rfl (Nat.le_of_ble_eq_true rfl) ?_
  intro p e s m below meth c A ls hx hb hr hts hown hlocks hmn hml hA hP hK hD hS hZ hl
  have inX7 : ∀ w ∈ wsX70, w ∈ vsX7_put := fun w h => List.mem_cons_of_mem _ (iaX7 w h)
  have F : CallFix p m c cX7_put 4 s _ vsX7_put RX7 := ⟨hx, hb, hml, hown, hts⟩
  have hl : lv_has ls 4 [(0, .ref mm), (1, .int z1), (2, .int z2)] := hl
  refine lv_iconst (v := nI 2) hx hb dX7_put_0 (by decide) ?_
  refine lv_sipush (v := nI 4096) hx hb dX7_put_1 (by decide) ?_
  refine lv_aload_n hx hb dX7_put_4 rfl (lv_at hl 0 rfl) ?_
  refine va_get (D := D) (ci := 5) (v := .int (nI sl)) (C := RX7) (T := TX7) (N := 22) hx hb hts inX7 hown hK hP 0 rfl rfl 13 (by decide) (hts (.fieldLink RX7 107 "ByteShapesModel" "slot" "I") (List.mem_cons_of_mem _ wd_388)) (fun _ h9 => h9) rfl dX7_put_5 ?_
  refine lv_imul hx hb dX7_put_8 ?_
  refine k_i (show _ = nI (4096 * sl) from pk_mul _ _) ?_
  refine lv_aload_n hx hb dX7_put_9 rfl (lv_at hl 0 rfl) ?_
  refine va_get (D := D) (ci := 5) (v := .ref me) (C := RX7) (T := TX7) (N := 22) hx hb hts inX7 hown hK hP 0 rfl rfl 9 (by decide) (hts (.fieldLink RX7 24 "ByteShapesModel" "points" "[I") (List.mem_cons_of_mem _ wd_390)) (fun _ h9 => h9) rfl dX7_put_10 ?_
  refine lv_aload_n hx hb dX7_put_13 rfl (lv_at hl 0 rfl) ?_
  refine va_get (D := D) (ci := 5) (v := .int (nI sl)) (C := RX7) (T := TX7) (N := 22) hx hb hts inX7 hown hK hP 0 rfl rfl 13 (by decide) (hts (.fieldLink RX7 107 "ByteShapesModel" "slot" "I") (List.mem_cons_of_mem _ wd_388)) (fun _ h9 => h9) rfl dX7_put_14 ?_
  refine va_iald hx hb hK hP 2 0 rfl rfl (vp_in_nI (by omega) (by omega)) dX7_put_17 ?_
  refine k_i (show _ = (iF pq) sl from congrArg (iF pq) (nI_clamp (by omega))) ?_
  refine k_i (show _ = nI (pq sl) from rfl) ?_
  refine lv_iadd hx hb dX7_put_18 ?_
  refine k_i (show _ = nI ((4096 * sl) + (pq sl)) from nI_add _ _) ?_
  refine lv_imul hx hb dX7_put_19 ?_
  refine k_i (show _ = nI (2 * ((4096 * sl) + (pq sl))) from pk_mul _ _) ?_
  refine lv_istore_n (lv' := [(3, .int (nI (2 * ((4096 * sl) + (pq sl))))), (0, .ref mm), (1, .int z1), (2, .int z2)]) hx hb dX7_put_20 rfl hl (by decide) rfl (fun ls hl => ?_)
  refine lv_aload_n hx hb dX7_put_21 rfl (lv_at hl 1 rfl) ?_
  refine va_get (D := D) (ci := 5) (v := .ref md) (C := RX7) (T := TX7) (N := 22) hx hb hts inX7 hown hK hP 0 rfl rfl 8 (by decide) (hts (.fieldLink RX7 21 "ByteShapesModel" "xy" "[I") (List.mem_cons_of_mem _ wd_393)) (fun _ h9 => h9) rfl dX7_put_22 ?_
  refine lv_iload_n hx hb dX7_put_25 rfl (lv_at hl 0 rfl) ?_
  refine lv_iload_n hx hb dX7_put_26 rfl (lv_at hl 2 rfl) ?_
  refine va_iast hx hb hK hP hD hS 1 0 rfl rfl (vp_in_nI (by omega) (by omega)) dX7_put_27 (fun H locs hP hD hS => ?_)
  rw [show upd fx (nI (2 * ((4096 * sl) + (pq sl)))).toNatClampNeg z1 = upd fx (2 * ((4096 * sl) + (pq sl))) z1 from by rw [nI_clamp (by omega)]] at hP hD
  have hP : va_P D kCl [(mm, .inr (5, [.int (nI th), .int (nI dg), .int (nI PT), .int (nI PN), .int (nI n), .ref ma, .ref mb, .ref mc, .ref md, .ref me, .int (nI sz), .ref mf, .int (nI od), .int (nI sl), .int (nI t), .int (nI wr), .int (nI pl), .int (nI lo), .long (lN nm), .int vz, .ref mg, .ref mh])), (md, .inl (cI, 32768, .inl (upd fx (2 * ((4096 * sl) + (pq sl))) z1))), (me, .inl (cI, 4, .inl (iF pq)))] H := hP
  have hD : va_D A [(mm, .inr (5, [.int (nI th), .int (nI dg), .int (nI PT), .int (nI PN), .int (nI n), .ref ma, .ref mb, .ref mc, .ref md, .ref me, .int (nI sz), .ref mf, .int (nI od), .int (nI sl), .int (nI t), .int (nI wr), .int (nI pl), .int (nI lo), .long (lN nm), .int vz, .ref mg, .ref mh])), (md, .inl (cI, 32768, .inl (upd fx (2 * ((4096 * sl) + (pq sl))) z1))), (me, .inl (cI, 4, .inl (iF pq)))] := hD
  refine lv_aload_n hx hb dX7_put_28 rfl (lv_at hl 1 rfl) ?_
  refine va_get (D := D) (ci := 5) (v := .ref md) (C := RX7) (T := TX7) (N := 22) hx hb hts inX7 hown hK hP 0 rfl rfl 8 (by decide) (hts (.fieldLink RX7 21 "ByteShapesModel" "xy" "[I") (List.mem_cons_of_mem _ wd_393)) (fun _ h9 => h9) rfl dX7_put_29 ?_
  refine lv_iload_n hx hb dX7_put_32 rfl (lv_at hl 0 rfl) ?_
  refine lv_iconst (v := nI 1) hx hb dX7_put_33 (by decide) ?_
  refine lv_iadd hx hb dX7_put_34 ?_
  refine k_i (show _ = nI ((2 * ((4096 * sl) + (pq sl))) + 1) from nI_add _ _) ?_
  refine lv_iload_n hx hb dX7_put_35 rfl (lv_at hl 3 rfl) ?_
  refine va_iast hx hb hK hP hD hS 1 0 rfl rfl (vp_in_nI (by omega) (by omega)) dX7_put_36 (fun H locs hP hD hS => ?_)
  rw [show upd (upd fx (2 * ((4096 * sl) + (pq sl))) z1) (nI ((2 * ((4096 * sl) + (pq sl))) + 1)).toNatClampNeg z2 = upd (upd fx (2 * ((4096 * sl) + (pq sl))) z1) ((2 * ((4096 * sl) + (pq sl))) + 1) z2 from by rw [nI_clamp (by omega)]] at hP hD
  have hP : va_P D kCl [(mm, .inr (5, [.int (nI th), .int (nI dg), .int (nI PT), .int (nI PN), .int (nI n), .ref ma, .ref mb, .ref mc, .ref md, .ref me, .int (nI sz), .ref mf, .int (nI od), .int (nI sl), .int (nI t), .int (nI wr), .int (nI pl), .int (nI lo), .long (lN nm), .int vz, .ref mg, .ref mh])), (md, .inl (cI, 32768, .inl (upd (upd fx (2 * ((4096 * sl) + (pq sl))) z1) ((2 * ((4096 * sl) + (pq sl))) + 1) z2))), (me, .inl (cI, 4, .inl (iF pq)))] H := hP
  have hD : va_D A [(mm, .inr (5, [.int (nI th), .int (nI dg), .int (nI PT), .int (nI PN), .int (nI n), .ref ma, .ref mb, .ref mc, .ref md, .ref me, .int (nI sz), .ref mf, .int (nI od), .int (nI sl), .int (nI t), .int (nI wr), .int (nI pl), .int (nI lo), .long (lN nm), .int vz, .ref mg, .ref mh])), (md, .inl (cI, 32768, .inl (upd (upd fx (2 * ((4096 * sl) + (pq sl))) z1) ((2 * ((4096 * sl) + (pq sl))) + 1) z2))), (me, .inl (cI, 4, .inl (iF pq)))] := hD
  refine lv_aload_n hx hb dX7_put_37 rfl (lv_at hl 1 rfl) ?_
  refine va_get (D := D) (ci := 5) (v := .ref me) (C := RX7) (T := TX7) (N := 22) hx hb hts inX7 hown hK hP 0 rfl rfl 9 (by decide) (hts (.fieldLink RX7 24 "ByteShapesModel" "points" "[I") (List.mem_cons_of_mem _ wd_390)) (fun _ h9 => h9) rfl dX7_put_38 ?_
  refine lv_aload_n hx hb dX7_put_41 rfl (lv_at hl 1 rfl) ?_
  refine va_get (D := D) (ci := 5) (v := .int (nI sl)) (C := RX7) (T := TX7) (N := 22) hx hb hts inX7 hown hK hP 0 rfl rfl 13 (by decide) (hts (.fieldLink RX7 107 "ByteShapesModel" "slot" "I") (List.mem_cons_of_mem _ wd_388)) (fun _ h9 => h9) rfl dX7_put_42 ?_
  refine lv_dup2_11 hx hb dX7_put_45 rfl rfl ?_
  refine va_iald hx hb hK hP 2 0 rfl rfl (vp_in_nI (by omega) (by omega)) dX7_put_46 ?_
  refine k_i (show _ = (iF pq) sl from congrArg (iF pq) (nI_clamp (by omega))) ?_
  refine k_i (show _ = nI (pq sl) from rfl) ?_
  refine lv_iconst (v := nI 1) hx hb dX7_put_47 (by decide) ?_
  refine lv_iadd hx hb dX7_put_48 ?_
  refine k_i (show _ = nI ((pq sl) + 1) from nI_add _ _) ?_
  refine va_iast hx hb hK hP hD hS 2 0 rfl rfl (vp_in_nI (by omega) (by omega)) dX7_put_49 (fun H locs hP hD hS => ?_)
  rw [show upd (iF pq) (nI sl).toNatClampNeg (nI ((pq sl) + 1)) = iF (va_up pq sl (pq sl + 1)) from by rw [nI_clamp (by omega)]; exact iF_put _ _ _] at hP hD
  have hP : va_P D kCl [(mm, .inr (5, [.int (nI th), .int (nI dg), .int (nI PT), .int (nI PN), .int (nI n), .ref ma, .ref mb, .ref mc, .ref md, .ref me, .int (nI sz), .ref mf, .int (nI od), .int (nI sl), .int (nI t), .int (nI wr), .int (nI pl), .int (nI lo), .long (lN nm), .int vz, .ref mg, .ref mh])), (md, .inl (cI, 32768, .inl (upd (upd fx (2 * ((4096 * sl) + (pq sl))) z1) ((2 * ((4096 * sl) + (pq sl))) + 1) z2))), (me, .inl (cI, 4, .inl (iF (va_up pq sl (pq sl + 1)))))] H := hP
  have hD : va_D A [(mm, .inr (5, [.int (nI th), .int (nI dg), .int (nI PT), .int (nI PN), .int (nI n), .ref ma, .ref mb, .ref mc, .ref md, .ref me, .int (nI sz), .ref mf, .int (nI od), .int (nI sl), .int (nI t), .int (nI wr), .int (nI pl), .int (nI lo), .long (lN nm), .int vz, .ref mg, .ref mh])), (md, .inl (cI, 32768, .inl (upd (upd fx (2 * ((4096 * sl) + (pq sl))) z1) ((2 * ((4096 * sl) + (pq sl))) + 1) z2))), (me, .inl (cI, 4, .inl (iF (va_up pq sl (pq sl + 1)))))] := hD
  exact k_vret () hx hb hr hlocks hK hP hD hS (rfl) (trivial) (Nat.le_of_ble_eq_true rfl) (Nat.le_of_ble_eq_true rfl) dX7_put_50

set_option maxRecDepth 100000 in
set_option maxHeartbeats 4000000 in
theorem c_M_kindOf (l : Launch) (D : va_G) (cI cB cJ cS : ClassId) (w : Nat) (hw : w < 2 ^ 32)  : kM l yX7_kindOf vsX7_kindOf ({ frames := 1, cells := 0, slots := 0, locals := 22 }) D (kT cI cB cJ cS) [.int (nI (w % 536870912))] [] (kQi D (kT cI cB cJ cS) (fun r (ug : Unit) => r = kM7 w) (fun ug => [])) := by
  refine k_ofW (by decide) rfl (Nat.le_of_ble_eq_true rfl) ?_
  intro p e s m below meth c A ls hx hb hr hts hown hlocks hmn hml hA hP hK hD hS hZ hl
  have F : CallFix p m c cX7_kindOf 2 s _ vsX7_kindOf RX7 := ⟨hx, hb, hml, hown, hts⟩
  have hl : lv_has ls 2 [(0, .int (nI (w % 536870912)))] := hl
  refine lv_iload_n hx hb dX7_kindOf_0 rfl (lv_at hl 0 rfl) ?_
  refine lv_sipush (v := nI 1000) hx hb dX7_kindOf_1 (by decide) ?_
  refine lv_irem hx hb dX7_kindOf_4 (by decide) ?_
  refine k_i (show _ = nI (w % 536870912 % 1000) from pk_rem (by omega) (by decide) (by decide)) ?_
  refine lv_istore_n (lv' := [(1, .int (nI (w % 536870912 % 1000))), (0, .int (nI (w % 536870912)))]) hx hb dX7_kindOf_5 rfl hl (by decide) rfl (fun ls hl => ?_)
  refine lv_iload_n hx hb dX7_kindOf_6 rfl (lv_at hl 1 rfl) ?_
  refine lv_sipush (v := nI 1000) hx hb dX7_kindOf_7 (by decide) ?_
  refine lv_idiv hx hb dX7_kindOf_10 (by decide) ?_
  refine k_i (show _ = nI (w % 536870912 / 1000) from pk_div (by omega) (by decide) (by decide)) ?_
  refine lv_iconst (v := nI 3) hx hb dX7_kindOf_11 (by decide) ?_
  refine k_icmp_gt (tgt := 29) (by omega) (by omega) hx hb dX7_kindOf_12 (by decide) (fun h3 => ?_) (fun h3 => ?_)
  · skip
    refine lv_iconst (v := (-1)) hx hb dX7_kindOf_29 (by decide) ?_
    exact k_iret () hx hb hr (by first | rfl | decide | exact vp_nar_int _) hlocks hK hP hD hS (rfl) (kM7_no (by omega)) (Nat.le_of_ble_eq_true rfl) (Nat.le_of_ble_eq_true rfl) dX7_kindOf_30
  · skip
    refine lv_iload_n hx hb dX7_kindOf_15 rfl (lv_at hl 0 rfl) ?_
    refine lv_iconst (v := nI 1) hx hb dX7_kindOf_16 (by decide) ?_
    refine lv_bipush (v := nI 7) hx hb dX7_kindOf_17 (by decide) ?_
    rcases Classical.em (1 ≤ w % 536870912 % 1000 ∧ w % 536870912 % 1000 ≤ 7) with hk | hk
    · skip
      refine k_ci (wr := []) (k_rs F (c_M_within1 l D cI cB cJ cS (w % 536870912 % 1000) 1 7 hk.1 hk.2 (by decide)) (va_cwS 3 hts (g_S wd_371 wd_372 wd_373 wd_374) rfl rfl rfl (by decide +kernel) ⟨Nat.le_of_ble_eq_true rfl, Nat.le_of_ble_eq_true rfl⟩) hK hP hD hS hA hZ [] rfl (by decide) rfl hl.1 rfl (Nat.le_of_ble_eq_true rfl) dX7_kindOf_19 ⟨Nat.le_of_ble_eq_true rfl, Nat.le_of_ble_eq_true rfl⟩) hP hD hS hA [] [] rfl rfl (by decide) (by decide) (fun r u9 H locs hw hP hD hS => ?_)
      subst hw
      have hP : va_P D kCl [] H := hP
      have hD : va_D A [] := hD
      refine W.widen (k := 0) (n := 0) (Nat.le_of_ble_eq_true rfl) (Nat.le_of_ble_eq_true rfl) ?_
      refine k_if_eq (tgt := 29) (by omega) hx hb dX7_kindOf_22 (by decide) (fun c305 => ?_) (fun c305 => ?_)
      · skip
        exact absurd c305 (by omega)
      · skip
        refine lv_iload_n hx hb dX7_kindOf_25 rfl (lv_at hl 0 rfl) ?_
        refine lv_goto (tgt := 30) hx hb dX7_kindOf_26 (by decide) ?_
        exact k_iret () hx hb hr (by first | rfl | decide | exact vp_nar_int _) hlocks hK hP hD hS (rfl) (kM7_yes ⟨by omega, hk.1, hk.2⟩) (Nat.le_of_ble_eq_true rfl) (Nat.le_of_ble_eq_true rfl) dX7_kindOf_30
    · skip
      refine k_ci (wr := []) (k_rs F (c_M_within0 l D cI cB cJ cS (nI (w % 536870912 % 1000)) 1 7 (k_out17 hk (by omega))) (va_cwS 3 hts (g_S wd_371 wd_372 wd_373 wd_374) rfl rfl rfl (by decide +kernel) ⟨Nat.le_of_ble_eq_true rfl, Nat.le_of_ble_eq_true rfl⟩) hK hP hD hS hA hZ [] rfl (by decide) rfl hl.1 rfl (Nat.le_of_ble_eq_true rfl) dX7_kindOf_19 ⟨Nat.le_of_ble_eq_true rfl, Nat.le_of_ble_eq_true rfl⟩) hP hD hS hA [] [] rfl rfl (by decide) (by decide) (fun r u9 H locs hw hP hD hS => ?_)
      subst hw
      have hP : va_P D kCl [] H := hP
      have hD : va_D A [] := hD
      refine W.widen (k := 0) (n := 0) (Nat.le_of_ble_eq_true rfl) (Nat.le_of_ble_eq_true rfl) ?_
      refine k_if_eq (tgt := 29) (by omega) hx hb dX7_kindOf_22 (by decide) (fun c306 => ?_) (fun c306 => ?_)
      · skip
        refine lv_iconst (v := (-1)) hx hb dX7_kindOf_29 (by decide) ?_
        exact k_iret () hx hb hr (by first | rfl | decide | exact vp_nar_int _) hlocks hK hP hD hS (rfl) (kM7_no (by omega)) (Nat.le_of_ble_eq_true rfl) (Nat.le_of_ble_eq_true rfl) dX7_kindOf_30
      · skip
        exact absurd c306 (by omega)

