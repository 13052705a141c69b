set_option maxRecDepth 100000 in
set_option maxHeartbeats 4000000 in
theorem c_Kind_ofType (l : Launch) (D : va_G) (cI cB cJ cS : ClassId) (w : Nat) (hw : w < 2 ^ 32)  : kM l yX1_ofType vsX1_ofType ({ frames := 0, cells := 0, slots := 0, locals := 0 }) D (kT cI cB cJ cS) [.int (nI w)] [] (kQi D (kT cI cB cJ cS) (fun r (ug : Unit) => r = nI (kOf w)) (fun ug => [])) := by
  refine k_ofW (by decide) rfl (Nat.le_of_ble_eq_true rfl) ?_
  intro p e s m below meth c A ls hx hb hr hts hown hlocks hmn hml hA hP hK hD hS hZ hl
  have F : CallFix p m c cX1_ofType 4 s _ vsX1_ofType RX1 := ⟨hx, hb, hml, hown, hts⟩
  have hl : lv_has ls 4 [(0, .int (nI w))] := hl
  refine lv_iload_n hx hb dX1_ofType_0 rfl (lv_at hl 0 rfl) ?_
  refine lv_ldc (v := nI 536870911) hx hb hown (hts (.constant RX1 9 (536870911)) (List.mem_cons_of_mem _ wd_17)) dX1_ofType_1 ?_
  refine lv_iand hx hb dX1_ofType_3 ?_
  refine k_i (show _ = nI (w % 536870912) from pk_andN hw 29 (by decide)) ?_
  refine lv_istore_n (lv' := [(1, .int (nI (w % 536870912))), (0, .int (nI w))]) hx hb dX1_ofType_4 rfl hl (by decide) rfl (fun ls hl => ?_)
  refine lv_iload_n hx hb dX1_ofType_5 rfl (lv_at hl 0 rfl) ?_
  refine lv_sipush (v := nI 1000) hx hb dX1_ofType_6 (by decide) ?_
  refine lv_irem hx hb dX1_ofType_9 (by decide) ?_
  refine k_i (show _ = nI (w % 536870912 % 1000) from pk_rem (by omega) (by decide) (by decide)) ?_
  refine lv_istore_n (lv' := [(2, .int (nI (w % 536870912 % 1000))), (1, .int (nI (w % 536870912))), (0, .int (nI w))]) hx hb dX1_ofType_10 rfl hl (by decide) rfl (fun ls hl => ?_)
  refine lv_iload_n hx hb dX1_ofType_11 rfl (lv_at hl 1 rfl) ?_
  refine lv_sipush (v := nI 4000) hx hb dX1_ofType_12 (by decide) ?_
  refine k_icmp_ge (tgt := 33) (by omega) (by omega) hx hb dX1_ofType_15 (by decide) (fun c13 => ?_) (fun c13 => ?_)
  · skip
    refine lv_iconst (v := nI 0) hx hb dX1_ofType_33 (by decide) ?_
    refine lv_istore_n (lv' := [(3, .int (nI 0)), (2, .int (nI (w % 536870912 % 1000))), (1, .int (nI (w % 536870912))), (0, .int (nI w))]) hx hb dX1_ofType_34 rfl hl (by decide) rfl (fun ls hl => ?_)
    refine lv_iload_n hx hb dX1_ofType_35 rfl (lv_at hl 0 rfl) ?_
    refine k_if_eq (tgt := 43) (by omega) hx hb dX1_ofType_36 (by decide) (fun c14 => ?_) (fun c14 => ?_)
    · skip
      refine lv_iconst (v := nI 0) hx hb dX1_ofType_43 (by decide) ?_
      exact k_iret () hx hb hr (by first | rfl | decide | exact vp_nar_int _) hlocks hK hP hD hS (rfl) (by unfold kOf; rw [if_neg (by omega)]) (Nat.le_of_ble_eq_true rfl) (Nat.le_of_ble_eq_true rfl) dX1_ofType_44
    · skip
      exact absurd c14 (by omega)
  · skip
    refine lv_iload_n hx hb dX1_ofType_18 rfl (lv_at hl 0 rfl) ?_
    refine lv_iconst (v := nI 1) hx hb dX1_ofType_19 (by decide) ?_
    refine k_icmp_lt (tgt := 33) (by omega) (by omega) hx hb dX1_ofType_20 (by decide) (fun c15 => ?_) (fun c15 => ?_)
    · skip
      refine lv_iconst (v := nI 0) hx hb dX1_ofType_33 (by decide) ?_
      refine lv_istore_n (lv' := [(3, .int (nI 0)), (2, .int (nI (w % 536870912 % 1000))), (1, .int (nI (w % 536870912))), (0, .int (nI w))]) hx hb dX1_ofType_34 rfl hl (by decide) rfl (fun ls hl => ?_)
      refine lv_iload_n hx hb dX1_ofType_35 rfl (lv_at hl 0 rfl) ?_
      refine k_if_eq (tgt := 43) (by omega) hx hb dX1_ofType_36 (by decide) (fun c16 => ?_) (fun c16 => ?_)
      · skip
        refine lv_iconst (v := nI 0) hx hb dX1_ofType_43 (by decide) ?_
        exact k_iret () hx hb hr (by first | rfl | decide | exact vp_nar_int _) hlocks hK hP hD hS (rfl) (by unfold kOf; rw [if_neg (by omega)]) (Nat.le_of_ble_eq_true rfl) (Nat.le_of_ble_eq_true rfl) dX1_ofType_44
      · skip
        exact absurd c16 (by omega)
    · skip
      refine lv_iload_n hx hb dX1_ofType_23 rfl (lv_at hl 0 rfl) ?_
      refine lv_bipush (v := nI 7) hx hb dX1_ofType_24 (by decide) ?_
      refine k_icmp_gt (tgt := 33) (by omega) (by omega) hx hb dX1_ofType_26 (by decide) (fun c17 => ?_) (fun c17 => ?_)
      · skip
        refine lv_iconst (v := nI 0) hx hb dX1_ofType_33 (by decide) ?_
        refine lv_istore_n (lv' := [(3, .int (nI 0)), (2, .int (nI (w % 536870912 % 1000))), (1, .int (nI (w % 536870912))), (0, .int (nI w))]) hx hb dX1_ofType_34 rfl hl (by decide) rfl (fun ls hl => ?_)
        refine lv_iload_n hx hb dX1_ofType_35 rfl (lv_at hl 0 rfl) ?_
        refine k_if_eq (tgt := 43) (by omega) hx hb dX1_ofType_36 (by decide) (fun c18 => ?_) (fun c18 => ?_)
        · skip
          refine lv_iconst (v := nI 0) hx hb dX1_ofType_43 (by decide) ?_
          exact k_iret () hx hb hr (by first | rfl | decide | exact vp_nar_int _) hlocks hK hP hD hS (rfl) (by unfold kOf; rw [if_neg (by omega)]) (Nat.le_of_ble_eq_true rfl) (Nat.le_of_ble_eq_true rfl) dX1_ofType_44
        · skip
          exact absurd c18 (by omega)
      · skip
        refine lv_iconst (v := nI 1) hx hb dX1_ofType_29 (by decide) ?_
        refine lv_goto (tgt := 34) hx hb dX1_ofType_30 (by decide) ?_
        refine lv_istore_n (lv' := [(3, .int (nI 1)), (2, .int (nI (w % 536870912 % 1000))), (1, .int (nI (w % 536870912))), (0, .int (nI w))]) hx hb dX1_ofType_34 rfl hl (by decide) rfl (fun ls hl => ?_)
        refine lv_iload_n hx hb dX1_ofType_35 rfl (lv_at hl 0 rfl) ?_
        refine k_if_eq (tgt := 43) (by omega) hx hb dX1_ofType_36 (by decide) (fun c19 => ?_) (fun c19 => ?_)
        · skip
          exact absurd c19 (by omega)
        · skip
          refine lv_iload_n hx hb dX1_ofType_39 rfl (lv_at hl 1 rfl) ?_
          refine lv_goto (tgt := 44) hx hb dX1_ofType_40 (by decide) ?_
          exact k_iret () hx hb hr (by first | rfl | decide | exact vp_nar_int _) hlocks hK hP hD hS (rfl) (by unfold kOf; rw [if_pos (by omega)]) (Nat.le_of_ble_eq_true rfl) (Nat.le_of_ble_eq_true rfl) dX1_ofType_44

set_option maxRecDepth 100000 in
set_option maxHeartbeats 4000000 in
theorem c_Kind_hasMore (l : Launch) (D : va_G) (cI cB cJ cS : ClassId) (w : Nat) (hw : w < 2 ^ 32)  : kM l yX1_hasMoreCoordinates vsX1_hasMoreCoordinates ({ frames := 0, cells := 0, slots := 0, locals := 0 }) D (kT cI cB cJ cS) [.int (nI w)] [] (kQi D (kT cI cB cJ cS) (fun r (ug : Unit) => r = nI (tMore w)) (fun ug => [])) := by
  refine k_ofW (by decide) rfl (Nat.le_of_ble_eq_true rfl) ?_
  intro p e s m below meth c A ls hx hb hr hts hown hlocks hmn hml hA hP hK hD hS hZ hl
  have F : CallFix p m c cX1_hasMoreCoordinates 1 s _ vsX1_hasMoreCoordinates RX1 := ⟨hx, hb, hml, hown, hts⟩
  have hl : lv_has ls 1 [(0, .int (nI w))] := hl
  refine lv_iload_n hx hb dX1_hasMoreCoordinates_0 rfl (lv_at hl 0 rfl) ?_
  refine lv_ldc (v := (-1073741824)) hx hb hown (hts (.constant RX1 10 (-1073741824)) (List.mem_cons_of_mem _ wd_18)) dX1_hasMoreCoordinates_1 ?_
  refine lv_iand hx hb dX1_hasMoreCoordinates_3 ?_
  refine lv_if_ne (tgt := 17) hx hb dX1_hasMoreCoordinates_4 (by decide) (fun hm => ?_) (fun hm => ?_)
  · skip
    refine lv_iconst (v := nI 1) hx hb dX1_hasMoreCoordinates_17 (by decide) ?_
    refine lv_goto (tgt := 22) hx hb dX1_hasMoreCoordinates_18 (by decide) ?_
    exact k_iret () hx hb hr (by first | rfl | decide | exact vp_nar_int _) hlocks hK hP hD hS (rfl) (by have q := mb_more hw; unfold tMore; rw [if_pos (Or.inl (fun z => hm (q.mpr z)))]) (Nat.le_of_ble_eq_true rfl) (Nat.le_of_ble_eq_true rfl) dX1_hasMoreCoordinates_22
  · skip
    refine lv_iload_n hx hb dX1_hasMoreCoordinates_7 rfl (lv_at hl 0 rfl) ?_
    refine lv_ldc (v := nI 536870911) hx hb hown (hts (.constant RX1 9 (536870911)) (List.mem_cons_of_mem _ wd_17)) dX1_hasMoreCoordinates_8 ?_
    refine lv_iand hx hb dX1_hasMoreCoordinates_10 ?_
    refine k_i (show _ = nI (w % 536870912) from pk_andN hw 29 (by decide)) ?_
    refine lv_sipush (v := nI 1000) hx hb dX1_hasMoreCoordinates_11 (by decide) ?_
    refine k_icmp_lt (tgt := 21) (by omega) (by omega) hx hb dX1_hasMoreCoordinates_14 (by decide) (fun c20 => ?_) (fun c20 => ?_)
    · skip
      refine lv_iconst (v := nI 0) hx hb dX1_hasMoreCoordinates_21 (by decide) ?_
      exact k_iret () hx hb hr (by first | rfl | decide | exact vp_nar_int _) hlocks hK hP hD hS (rfl) (by have q := mb_more hw; unfold tMore; rw [if_neg (by have z := q.mp hm; omega)]) (Nat.le_of_ble_eq_true rfl) (Nat.le_of_ble_eq_true rfl) dX1_hasMoreCoordinates_22
    · skip
      refine lv_iconst (v := nI 1) hx hb dX1_hasMoreCoordinates_17 (by decide) ?_
      refine lv_goto (tgt := 22) hx hb dX1_hasMoreCoordinates_18 (by decide) ?_
      exact k_iret () hx hb hr (by first | rfl | decide | exact vp_nar_int _) hlocks hK hP hD hS (rfl) (by have q := mb_more hw; unfold tMore; rw [if_pos (Or.inr (by omega))]) (Nat.le_of_ble_eq_true rfl) (Nat.le_of_ble_eq_true rfl) dX1_hasMoreCoordinates_22

set_option maxRecDepth 100000 in
set_option maxHeartbeats 4000000 in
theorem c_Kind_hasMark (l : Launch) (D : va_G) (cI cB cJ cS : ClassId) (w : Nat) (hw : w < 2 ^ 32)  : kM l yX1_hasMark vsX1_hasMark ({ frames := 0, cells := 0, slots := 0, locals := 0 }) D (kT cI cB cJ cS) [.int (nI w)] [] (kQi D (kT cI cB cJ cS) (fun r (ug : Unit) => r = nI (tMark w)) (fun ug => [])) := by
  refine k_ofW (by decide) rfl (Nat.le_of_ble_eq_true rfl) ?_
  intro p e s m below meth c A ls hx hb hr hts hown hlocks hmn hml hA hP hK hD hS hZ hl
  have F : CallFix p m c cX1_hasMark 1 s _ vsX1_hasMark RX1 := ⟨hx, hb, hml, hown, hts⟩
  have hl : lv_has ls 1 [(0, .int (nI w))] := hl
  refine lv_iload_n hx hb dX1_hasMark_0 rfl (lv_at hl 0 rfl) ?_
  refine lv_ldc (v := nI 536870912) hx hb hown (hts (.constant RX1 11 (536870912)) (List.mem_cons_of_mem _ wd_19)) dX1_hasMark_1 ?_
  refine lv_iand hx hb dX1_hasMark_3 ?_
  refine lv_if_eq (tgt := 11) hx hb dX1_hasMark_4 (by decide) (fun hm => ?_) (fun hm => ?_)
  · skip
    refine lv_iconst (v := nI 0) hx hb dX1_hasMark_11 (by decide) ?_
    exact k_iret () hx hb hr (by first | rfl | decide | exact vp_nar_int _) hlocks hK hP hD hS (rfl) (by have q := mb_mark hw; unfold tMark; rw [if_neg (fun z => z (q.mp hm))]) (Nat.le_of_ble_eq_true rfl) (Nat.le_of_ble_eq_true rfl) dX1_hasMark_12
  · skip
    refine lv_iconst (v := nI 1) hx hb dX1_hasMark_7 (by decide) ?_
    refine lv_goto (tgt := 12) hx hb dX1_hasMark_8 (by decide) ?_
    exact k_iret () hx hb hr (by first | rfl | decide | exact vp_nar_int _) hlocks hK hP hD hS (rfl) (by have q := mb_mark hw; unfold tMark; rw [if_pos (fun z => hm (q.mpr z))]) (Nat.le_of_ble_eq_true rfl) (Nat.le_of_ble_eq_true rfl) dX1_hasMark_12

set_option maxRecDepth 100000 in
set_option maxHeartbeats 4000000 in
theorem c_Fr_isFinite (l : Launch) (D : va_G) (cI cB cJ cS : ClassId) (v : Nat) (hv : v < 2 ^ 64)  : kM l yX0_isFinite vsX0_isFinite ({ frames := 0, cells := 0, slots := 0, locals := 0 }) D (kT cI cB cJ cS) [.long (lN v)] [] (kQi D (kT cI cB cJ cS) (fun r (ug : Unit) => r = nI (if v % 9223372036854775808 < 9218868437227405312 then 1 else 0)) (fun ug => [])) := by
  refine k_ofW (by decide) rfl (Nat.le_of_ble_eq_true rfl) ?_
  intro p e s m below meth c A ls hx hb hr hts hown hlocks hmn hml hA hP hK hD hS hZ hl
  have F : CallFix p m c cX0_isFinite 2 s _ vsX0_isFinite RX0 := ⟨hx, hb, hml, hown, hts⟩
  have hl : lv_has ls 2 [(0, .long (lN v))] := hl
  refine lv_lload_n hx hb dX0_isFinite_0 rfl (lv_at hl 0 rfl) ?_
  refine lv_ldc2 (v := lN 9223372036854775807) hx hb hown (hts (.constantLong RX0 9 (9223372036854775807)) (List.mem_cons_of_mem _ wd_20)) dX0_isFinite_1 ?_
  refine lv_land hx hb dX0_isFinite_4 ?_
  refine k_l (show _ = lN (v % 9223372036854775808) from g_mask (s := 63) (p := 9223372036854775808) rfl (by decide) hv) ?_
  refine lv_ldc2 (v := lN 9218868437227405312) hx hb hown (hts (.constantLong RX0 11 (9218868437227405312)) (List.mem_cons_of_mem _ wd_21)) dX0_isFinite_5 ?_
  refine W.lcmp hx hb dX0_isFinite_8 ?_
  refine k_lcmpN_ge (tgt := 16) (by omega) (by omega) hx hb dX0_isFinite_9 (by decide) (fun c21 => ?_) (fun c21 => ?_)
  · skip
    refine lv_iconst (v := nI 0) hx hb dX0_isFinite_16 (by decide) ?_
    exact k_iret () hx hb hr (by first | rfl | decide | exact vp_nar_int _) hlocks hK hP hD hS (rfl) (by rw [if_neg (by omega)]) (Nat.le_of_ble_eq_true rfl) (Nat.le_of_ble_eq_true rfl) dX0_isFinite_17
  · skip
    refine lv_iconst (v := nI 1) hx hb dX0_isFinite_12 (by decide) ?_
    refine lv_goto (tgt := 17) hx hb dX0_isFinite_13 (by decide) ?_
    exact k_iret () hx hb hr (by first | rfl | decide | exact vp_nar_int _) hlocks hK hP hD hS (rfl) (by rw [if_pos (by omega)]) (Nat.le_of_ble_eq_true rfl) (Nat.le_of_ble_eq_true rfl) dX0_isFinite_17

set_option maxRecDepth 100000 in
set_option maxHeartbeats 4000000 in
theorem c_Fr_isNoNumber (l : Launch) (D : va_G) (cI cB cJ cS : ClassId) (v : Nat) (hv : v < 2 ^ 64)  : kM l yX0_isNoNumber vsX0_isNoNumber ({ frames := 0, cells := 0, slots := 0, locals := 0 }) D (kT cI cB cJ cS) [.long (lN v)] [] (kQi D (kT cI cB cJ cS) (fun r (ug : Unit) => r = nI (if 9218868437227405312 < v % 9223372036854775808 then 1 else 0)) (fun ug => [])) := by
  refine k_ofW (by decide) rfl (Nat.le_of_ble_eq_true rfl) ?_
  intro p e s m below meth c A ls hx hb hr hts hown hlocks hmn hml hA hP hK hD hS hZ hl
  have F : CallFix p m c cX0_isNoNumber 2 s _ vsX0_isNoNumber RX0 := ⟨hx, hb, hml, hown, hts⟩
  have hl : lv_has ls 2 [(0, .long (lN v))] := hl
  refine lv_lload_n hx hb dX0_isNoNumber_0 rfl (lv_at hl 0 rfl) ?_
  refine lv_ldc2 (v := lN 9223372036854775807) hx hb hown (hts (.constantLong RX0 9 (9223372036854775807)) (List.mem_cons_of_mem _ wd_20)) dX0_isNoNumber_1 ?_
  refine lv_land hx hb dX0_isNoNumber_4 ?_
  refine k_l (show _ = lN (v % 9223372036854775808) from g_mask (s := 63) (p := 9223372036854775808) rfl (by decide) hv) ?_
  refine lv_ldc2 (v := lN 9218868437227405312) hx hb hown (hts (.constantLong RX0 11 (9218868437227405312)) (List.mem_cons_of_mem _ wd_21)) dX0_isNoNumber_5 ?_
  refine W.lcmp hx hb dX0_isNoNumber_8 ?_
  refine k_lcmpN_le (tgt := 16) (by omega) (by omega) hx hb dX0_isNoNumber_9 (by decide) (fun c22 => ?_) (fun c22 => ?_)
  · skip
    refine lv_iconst (v := nI 0) hx hb dX0_isNoNumber_16 (by decide) ?_
    exact k_iret () hx hb hr (by first | rfl | decide | exact vp_nar_int _) hlocks hK hP hD hS (rfl) (by rw [if_neg (by omega)]) (Nat.le_of_ble_eq_true rfl) (Nat.le_of_ble_eq_true rfl) dX0_isNoNumber_17
  · skip
    refine lv_iconst (v := nI 1) hx hb dX0_isNoNumber_12 (by decide) ?_
    refine lv_goto (tgt := 17) hx hb dX0_isNoNumber_13 (by decide) ?_
    exact k_iret () hx hb hr (by first | rfl | decide | exact vp_nar_int _) hlocks hK hP hD hS (rfl) (by rw [if_pos (by omega)]) (Nat.le_of_ble_eq_true rfl) (Nat.le_of_ble_eq_true rfl) dX0_isNoNumber_17

set_option maxRecDepth 100000 in
set_option maxHeartbeats 4000000 in
theorem c_Fr_roundsUp (l : Launch) (D : va_G) (cI cB cJ cS : ClassId) (q x h : Nat) (hq : q < 2 ^ 63) (hr2 : x < 2 ^ 63) (hh : h < 2 ^ 63)  : kM l yX0_roundsUp vsX0_roundsUp ({ frames := 0, cells := 0, slots := 0, locals := 0 }) D (kT cI cB cJ cS) [.long (lN q), .long (lN x), .long (lN h)] [] (kQi D (kT cI cB cJ cS) (fun r (ug : Unit) => r = nI (rUp q x h)) (fun ug => [])) := by
  refine k_ofW (by decide) rfl (Nat.le_of_ble_eq_true rfl) ?_
  intro p e s m below meth c A ls hx hb hr hts hown hlocks hmn hml hA hP hK hD hS hZ hl
  have F : CallFix p m c cX0_roundsUp 6 s _ vsX0_roundsUp RX0 := ⟨hx, hb, hml, hown, hts⟩
  have hl : lv_has ls 6 [(0, .long (lN q)), (2, .long (lN x)), (4, .long (lN h))] := hl
  refine lv_lload_n hx hb dX0_roundsUp_0 rfl (lv_at hl 1 rfl) ?_
  refine lv_lload hx hb dX0_roundsUp_1 (lv_at hl 2 rfl) ?_
  refine W.lcmp hx hb dX0_roundsUp_3 ?_
  refine k_lcmpN_gt (tgt := 22) (by omega) (by omega) hx hb dX0_roundsUp_4 (by decide) (fun c23 => ?_) (fun c23 => ?_)
  · skip
    refine lv_iconst (v := nI 1) hx hb dX0_roundsUp_22 (by decide) ?_
    refine lv_goto (tgt := 27) hx hb dX0_roundsUp_23 (by decide) ?_
    exact k_iret () hx hb hr (by first | rfl | decide | exact vp_nar_int _) hlocks hK hP hD hS (rfl) (by unfold rUp; rw [if_pos (by omega)]) (Nat.le_of_ble_eq_true rfl) (Nat.le_of_ble_eq_true rfl) dX0_roundsUp_27
  · skip
    refine lv_lload_n hx hb dX0_roundsUp_7 rfl (lv_at hl 1 rfl) ?_
    refine lv_lload hx hb dX0_roundsUp_8 (lv_at hl 2 rfl) ?_
    refine W.lcmp hx hb dX0_roundsUp_10 ?_
    refine k_lcmpN_ne (tgt := 26) (by omega) (by omega) hx hb dX0_roundsUp_11 (by decide) (fun c24 => ?_) (fun c24 => ?_)
    · skip
      refine lv_iconst (v := nI 0) hx hb dX0_roundsUp_26 (by decide) ?_
      exact k_iret () hx hb hr (by first | rfl | decide | exact vp_nar_int _) hlocks hK hP hD hS (rfl) (by unfold rUp; rw [if_neg (by omega)]) (Nat.le_of_ble_eq_true rfl) (Nat.le_of_ble_eq_true rfl) dX0_roundsUp_27
    · skip
      refine lv_lload_n hx hb dX0_roundsUp_14 rfl (lv_at hl 0 rfl) ?_
      refine lv_lconst (v := lN 1) hx hb dX0_roundsUp_15 (by decide) ?_
      refine lv_land hx hb dX0_roundsUp_16 ?_
      refine k_l (show _ = lN (q % 2) from wb_mask (k := 1) (by omega) (by decide)) ?_
      refine lv_lconst (v := lN 1) hx hb dX0_roundsUp_17 (by decide) ?_
      refine W.lcmp hx hb dX0_roundsUp_18 ?_
      refine k_lcmpN_ne (tgt := 26) (by omega) (by omega) hx hb dX0_roundsUp_19 (by decide) (fun c25 => ?_) (fun c25 => ?_)
      · skip
        refine lv_iconst (v := nI 0) hx hb dX0_roundsUp_26 (by decide) ?_
        exact k_iret () hx hb hr (by first | rfl | decide | exact vp_nar_int _) hlocks hK hP hD hS (rfl) (by unfold rUp; rw [if_neg (by omega)]) (Nat.le_of_ble_eq_true rfl) (Nat.le_of_ble_eq_true rfl) dX0_roundsUp_27
      · skip
        refine lv_iconst (v := nI 1) hx hb dX0_roundsUp_22 (by decide) ?_
        refine lv_goto (tgt := 27) hx hb dX0_roundsUp_23 (by decide) ?_
        exact k_iret () hx hb hr (by first | rfl | decide | exact vp_nar_int _) hlocks hK hP hD hS (rfl) (by unfold rUp; rw [if_pos (by omega)]) (Nat.le_of_ble_eq_true rfl) (Nat.le_of_ble_eq_true rfl) dX0_roundsUp_27

set_option maxRecDepth 100000 in
set_option maxHeartbeats 4000000 in
theorem c_Fr_rounded (l : Launch) (D : va_G) (cI cB cJ cS : ClassId) (v u : Nat) (hv : v < 2 ^ 64) (hu1 : 1 ≤ u) (hu2 : u ≤ 1000)  : kM l yX0_rounded vsX0_rounded ({ frames := 1, cells := 0, slots := 0, locals := 25 }) D (kT cI cB cJ cS) [.long (lN v), .int (nI u)] [] (kQl D (kT cI cB cJ cS) (fun r (ug : Unit) => r = rVal v u) (fun ug => [])) := by
  refine k_ofW (by decide) rfl (Nat.le_of_ble_eq_true rfl) ?_
  intro p e s m below meth c A ls hx hb hr hts hown hlocks hmn hml hA hP hK hD hS hZ hl
  have F : CallFix p m c cX0_rounded 10 s _ vsX0_rounded RX0 := ⟨hx, hb, hml, hown, hts⟩
  have hl : lv_has ls 10 [(0, .long (lN v)), (2, .int (nI u))] := hl
  refine lv_sipush (v := nI 1075) hx hb dX0_rounded_0 (by decide) ?_
  refine lv_lload_n hx hb dX0_rounded_3 rfl (lv_at hl 0 rfl) ?_
  refine lv_ldc2 (v := lN 9223372036854775807) hx hb hown (hts (.constantLong RX0 9 (9223372036854775807)) (List.mem_cons_of_mem _ wd_20)) dX0_rounded_4 ?_
  refine lv_land hx hb dX0_rounded_7 ?_
  refine k_l (show _ = lN (v % 9223372036854775808) from g_mask (s := 63) (p := 9223372036854775808) rfl (by decide) hv) ?_
  refine lv_bipush (v := nI 52) hx hb dX0_rounded_8 (by decide) ?_
  refine lv_lushr (v := lN (rE v)) hx hb dX0_rounded_10 (wb_shr (k := 52) (by omega) (by decide)) ?_
  refine lv_l2i (v := nI (rE v)) hx hb dX0_rounded_11 (lN_i _) ?_
  have hE0 := rE_lt (v := v)
  refine lv_isub hx hb dX0_rounded_12 ?_
  rcases Nat.lt_or_ge (rE v) 1075 with hE | hE
  · skip
    obtain ⟨h, hh⟩ : ∃ z, z = 1075 - rE v := ⟨_, rfl⟩
    refine k_i (show _ = nI h from by rw [hh]; exact pk_sub (by omega)) ?_
    refine lv_istore_n (lv' := [(3, .int (nI h)), (0, .long (lN v)), (2, .int (nI u))]) hx hb dX0_rounded_13 rfl hl (by decide) rfl (fun ls hl => ?_)
    refine lv_iload_n hx hb dX0_rounded_14 rfl (lv_at hl 0 rfl) ?_
    refine k_if_gt (tgt := 26) (by omega) hx hb dX0_rounded_15 (by decide) (fun c26 => ?_) (fun c26 => ?_)
    · skip
      refine lv_iload_n hx hb dX0_rounded_26 rfl (lv_at hl 0 rfl) ?_
      refine lv_bipush (v := nI 63) hx hb dX0_rounded_27 (by decide) ?_
      refine k_icmp_le (tgt := 38) (by omega) (by omega) hx hb dX0_rounded_29 (by decide) (fun h63 => ?_) (fun h63 => ?_)
      · skip
        refine lv_ldc2 (v := lN 4503599627370496) hx hb hown (hts (.constantLong RX0 15 (4503599627370496)) (List.mem_cons_of_mem _ wd_22)) dX0_rounded_38 ?_
        refine lv_lload_n hx hb dX0_rounded_41 rfl (lv_at hl 1 rfl) ?_
        refine lv_ldc2 (v := lN 4503599627370495) hx hb hown (hts (.constantLong RX0 17 (4503599627370495)) (List.mem_cons_of_mem _ wd_23)) dX0_rounded_42 ?_
        refine lv_land hx hb dX0_rounded_45 ?_
        refine k_l (show _ = lN (v % 4503599627370496) from g_mask (s := 52) (p := 4503599627370496) rfl (by decide) hv) ?_
        refine lv_lor hx hb dX0_rounded_46 ?_
        refine k_l (show _ = lN (4503599627370496 + v % 4503599627370496) from g_or (b := 1) (k := 52) (p := 4503599627370496) rfl (Nat.mod_lt _ (by decide)) (by omega)) ?_
        refine lv_iload_n hx hb dX0_rounded_47 rfl (lv_at hl 2 rfl) ?_
        refine lv_i2l (v := lN u) hx hb dX0_rounded_48 (nI_l (by omega)) ?_
        refine lv_lmul hx hb dX0_rounded_49 ?_
        have hpl := rP_lt (v := v) hu2
        obtain ⟨pr, hpr⟩ : ∃ z, z = rP v u := ⟨_, rfl⟩
        rw [← hpr] at hpl
        refine k_l (show _ = lN pr from by rw [hpr]; exact lN_mul _ _) ?_
        refine lv_lstore (lv' := [(6, .long (lN pr)), (3, .int (nI h)), (0, .long (lN v)), (2, .int (nI u))]) hx hb dX0_rounded_50 hl (by decide) rfl (fun ls hl => ?_)
        refine lv_lload hx hb dX0_rounded_52 (lv_at hl 0 rfl) ?_
        refine lv_iload_n hx hb dX0_rounded_54 rfl (lv_at hl 1 rfl) ?_
        refine lv_lushr (v := lN (pr / 2 ^ h)) hx hb dX0_rounded_55 (wb_shr (by omega) (by omega)) ?_
        refine lv_lstore (lv' := [(4, .long (lN (pr / 2 ^ h))), (6, .long (lN pr)), (3, .int (nI h)), (0, .long (lN v)), (2, .int (nI u))]) hx hb dX0_rounded_56 hl (by decide) rfl (fun ls hl => ?_)
        refine lv_lload hx hb dX0_rounded_58 (lv_at hl 1 rfl) ?_
        refine lv_lload hx hb dX0_rounded_60 (lv_at hl 0 rfl) ?_
        refine lv_iload_n hx hb dX0_rounded_62 rfl (lv_at hl 2 rfl) ?_
        refine lv_lshl (v := lN (pr / 2 ^ h * 2 ^ h)) hx hb dX0_rounded_63 (wb_shl _ (by omega)) ?_
        refine lv_lsub hx hb dX0_rounded_64 ?_
        refine k_l (show _ = lN (pr - pr / 2 ^ h * 2 ^ h) from lN_sub (Nat.div_mul_le_self _ _)) ?_
        refine lv_lstore (lv' := [(8, .long (lN (pr - pr / 2 ^ h * 2 ^ h))), (4, .long (lN (pr / 2 ^ h))), (6, .long (lN pr)), (3, .int (nI h)), (0, .long (lN v)), (2, .int (nI u))]) hx hb dX0_rounded_65 hl (by decide) rfl (fun ls hl => ?_)
        refine lv_lload hx hb dX0_rounded_67 (lv_at hl 1 rfl) ?_
        refine lv_lload hx hb dX0_rounded_69 (lv_at hl 0 rfl) ?_
        refine lv_lconst (v := lN 1) hx hb dX0_rounded_71 (by decide) ?_
        refine lv_iload_n hx hb dX0_rounded_72 rfl (lv_at hl 3 rfl) ?_
        refine lv_iconst (v := nI 1) hx hb dX0_rounded_73 (by decide) ?_
        refine lv_isub hx hb dX0_rounded_74 ?_
        refine k_i (show _ = nI (h - 1) from pk_sub (by omega)) ?_
        refine lv_lshl (v := lN (1 * 2 ^ (h - 1))) hx hb dX0_rounded_75 (wb_shl _ (by omega)) ?_
        have hdl := Nat.div_le_self pr (2 ^ h)
        refine k_ci (wr := []) (k_rs F (c_Fr_roundsUp l D cI cB cJ cS (pr / 2 ^ h) (pr - pr / 2 ^ h * 2 ^ h) (1 * 2 ^ (h - 1)) (by omega) (by omega) (pw_le h63)) (va_cwS 3 hts (g_S wd_25 wd_26 wd_27 wd_28) rfl rfl rfl (by decide +kernel) ⟨Nat.le_of_ble_eq_true rfl, Nat.le_of_ble_eq_true rfl⟩) hK hP hD hS hA hZ [] rfl (by decide) rfl hl.1 rfl (Nat.le_of_ble_eq_true rfl) dX0_rounded_76 ⟨Nat.le_of_ble_eq_true rfl, Nat.le_of_ble_eq_true rfl⟩) hP hD hS hA [] [] rfl rfl (by decide) (by decide) (fun r u9 H locs hw hP hD hS => ?_)
        subst hw
        have hP : va_P D kCl [] H := hP
        have hD : va_D A [] := hD
        refine W.widen (k := 0) (n := 0) (Nat.le_of_ble_eq_true rfl) (Nat.le_of_ble_eq_true rfl) ?_
        have hrl := rUp_le (pr / 2 ^ h) (pr - pr / 2 ^ h * 2 ^ h) (1 * 2 ^ (h - 1))
        refine k_if_eq (tgt := 88) (by omega) hx hb dX0_rounded_79 (by decide) (fun hru => ?_) (fun hru => ?_)
        · skip
          refine lv_lload_n hx hb dX0_rounded_88 rfl (lv_at hl 4 rfl) ?_
          refine lv_lconst (v := lN 0) hx hb dX0_rounded_89 (by decide) ?_
          refine W.lcmp hx hb dX0_rounded_90 ?_
          refine k_lcmp_ge (tgt := 100) hx hb dX0_rounded_91 (by decide) (fun hsg => ?_) (fun hsg => ?_)
          · skip
            refine lv_lload hx hb dX0_rounded_100 (lv_at hl 1 rfl) ?_
            exact k_lret () hx hb hr hlocks hK hP hD hS (rfl) (rv_pos hv hsg (rm_n (q := 0) hpr hh hE h63 (by omega))) (Nat.le_of_ble_eq_true rfl) (Nat.le_of_ble_eq_true rfl) dX0_rounded_102
          · skip
            refine lv_lload hx hb dX0_rounded_94 (lv_at hl 1 rfl) ?_
            refine lv_lneg hx hb dX0_rounded_96 ?_
            refine lv_goto (tgt := 102) hx hb dX0_rounded_97 (by decide) ?_
            exact k_lret () hx hb hr hlocks hK hP hD hS (rfl) (rv_neg hv hsg (rm_n (q := 0) hpr hh hE h63 (by omega))) (Nat.le_of_ble_eq_true rfl) (Nat.le_of_ble_eq_true rfl) dX0_rounded_102
        · skip
          refine lv_lload hx hb dX0_rounded_82 (lv_at hl 1 rfl) ?_
          refine lv_lconst (v := lN 1) hx hb dX0_rounded_84 (by decide) ?_
          refine lv_ladd hx hb dX0_rounded_85 ?_
          refine k_l (show _ = lN ((pr / 2 ^ h) + 1) from lN_add _ _) ?_
          refine lv_lstore (lv' := [(4, .long (lN ((pr / 2 ^ h) + 1))), (8, .long (lN (pr - pr / 2 ^ h * 2 ^ h))), (6, .long (lN pr)), (3, .int (nI h)), (0, .long (lN v)), (2, .int (nI u))]) hx hb dX0_rounded_86 hl (by decide) rfl (fun ls hl => ?_)
          refine lv_lload_n hx hb dX0_rounded_88 rfl (lv_at hl 4 rfl) ?_
          refine lv_lconst (v := lN 0) hx hb dX0_rounded_89 (by decide) ?_
          refine W.lcmp hx hb dX0_rounded_90 ?_
          refine k_lcmp_ge (tgt := 100) hx hb dX0_rounded_91 (by decide) (fun hsg => ?_) (fun hsg => ?_)
          · skip
            refine lv_lload hx hb dX0_rounded_100 (lv_at hl 0 rfl) ?_
            exact k_lret () hx hb hr hlocks hK hP hD hS (rfl) (rv_pos hv hsg (rm_n hpr hh hE h63 (by omega))) (Nat.le_of_ble_eq_true rfl) (Nat.le_of_ble_eq_true rfl) dX0_rounded_102
          · skip
            refine lv_lload hx hb dX0_rounded_94 (lv_at hl 0 rfl) ?_
            refine lv_lneg hx hb dX0_rounded_96 ?_
            refine lv_goto (tgt := 102) hx hb dX0_rounded_97 (by decide) ?_
            exact k_lret () hx hb hr hlocks hK hP hD hS (rfl) (rv_neg hv hsg (rm_n hpr hh hE h63 (by omega))) (Nat.le_of_ble_eq_true rfl) (Nat.le_of_ble_eq_true rfl) dX0_rounded_102
      · skip
        refine lv_lconst (v := lN 0) hx hb dX0_rounded_32 (by decide) ?_
        refine lv_lstore (lv' := [(4, .long (lN 0)), (3, .int (nI h)), (0, .long (lN v)), (2, .int (nI u))]) hx hb dX0_rounded_33 hl (by decide) rfl (fun ls hl => ?_)
        refine lv_goto (tgt := 88) hx hb dX0_rounded_35 (by decide) ?_
        refine lv_lload_n hx hb dX0_rounded_88 rfl (lv_at hl 2 rfl) ?_
        refine lv_lconst (v := lN 0) hx hb dX0_rounded_89 (by decide) ?_
        refine W.lcmp hx hb dX0_rounded_90 ?_
        refine k_lcmp_ge (tgt := 100) hx hb dX0_rounded_91 (by decide) (fun hsg => ?_) (fun hsg => ?_)
        · skip
          refine lv_lload hx hb dX0_rounded_100 (lv_at hl 0 rfl) ?_
          exact k_lret () hx hb hr hlocks hK hP hD hS (rfl) (rv_pos hv hsg (rm_0 hE (by omega))) (Nat.le_of_ble_eq_true rfl) (Nat.le_of_ble_eq_true rfl) dX0_rounded_102
        · skip
          refine lv_lload hx hb dX0_rounded_94 (lv_at hl 0 rfl) ?_
          refine lv_lneg hx hb dX0_rounded_96 ?_
          refine lv_goto (tgt := 102) hx hb dX0_rounded_97 (by decide) ?_
          exact k_lret () hx hb hr hlocks hK hP hD hS (rfl) (rv_neg hv hsg (rm_0 hE (by omega))) (Nat.le_of_ble_eq_true rfl) (Nat.le_of_ble_eq_true rfl) dX0_rounded_102
    · skip
      exact absurd c26 (by omega)
  · skip
    refine lv_istore_n (lv' := [(3, .int (nI 1075 - nI (rE v))), (0, .long (lN v)), (2, .int (nI u))]) hx hb dX0_rounded_13 rfl hl (by decide) rfl (fun ls hl => ?_)
    refine lv_iload_n hx hb dX0_rounded_14 rfl (lv_at hl 0 rfl) ?_
    refine lv_if_gt (tgt := 26) hx hb dX0_rounded_15 (by decide) (fun c27 => ?_) (fun c27 => ?_)
    · skip
      exact absurd c27 (sub_neg0 hE)
    · skip
      refine lv_ldc2 (v := lN 4611686018427387904) hx hb hown (hts (.constantLong RX0 13 (4611686018427387904)) (List.mem_cons_of_mem _ wd_24)) dX0_rounded_18 ?_
      refine lv_lstore (lv' := [(4, .long (lN 4611686018427387904)), (3, .int (nI 1075 - nI (rE v))), (0, .long (lN v)), (2, .int (nI u))]) hx hb dX0_rounded_21 hl (by decide) rfl (fun ls hl => ?_)
      refine lv_goto (tgt := 88) hx hb dX0_rounded_23 (by decide) ?_
      refine lv_lload_n hx hb dX0_rounded_88 rfl (lv_at hl 2 rfl) ?_
      refine lv_lconst (v := lN 0) hx hb dX0_rounded_89 (by decide) ?_
      refine W.lcmp hx hb dX0_rounded_90 ?_
      refine k_lcmp_ge (tgt := 100) hx hb dX0_rounded_91 (by decide) (fun hsg => ?_) (fun hsg => ?_)
      · skip
        refine lv_lload hx hb dX0_rounded_100 (lv_at hl 0 rfl) ?_
        exact k_lret () hx hb hr hlocks hK hP hD hS (rfl) (rv_pos hv hsg (rm_far hE)) (Nat.le_of_ble_eq_true rfl) (Nat.le_of_ble_eq_true rfl) dX0_rounded_102
      · skip
        refine lv_lload hx hb dX0_rounded_94 (lv_at hl 0 rfl) ?_
        refine lv_lneg hx hb dX0_rounded_96 ?_
        refine lv_goto (tgt := 102) hx hb dX0_rounded_97 (by decide) ?_
        exact k_lret () hx hb hr hlocks hK hP hD hS (rfl) (rv_neg hv hsg (rm_far hE)) (Nat.le_of_ble_eq_true rfl) (Nat.le_of_ble_eq_true rfl) dX0_rounded_102

set_option maxRecDepth 100000 in
set_option maxHeartbeats 4000000 in
theorem c_Fr_nearestP (l : Launch) (D : va_G) (cI cB cJ cS : ClassId) (k u : Nat) (hk1 : 1 ≤ k) (hk : k ≤ 1000000000) (hu1 : 1 ≤ u) (hu2 : u ≤ 1000)  : kM l yX0_nearest vsX0_nearest ({ frames := 1, cells := 0, slots := 0, locals := 25 }) D (kT cI cB cJ cS) [.int (nI k), .int (nI u)] [] (kQl D (kT cI cB cJ cS) (fun r (ug : Unit) => r = lN (nBits k u)) (fun ug => [])) := by
  refine k_ofW (by decide) rfl (Nat.le_of_ble_eq_true rfl) ?_
  intro p e s m below meth c A ls hx hb hr hts hown hlocks hmn hml hA hP hK hD hS hZ hl
  have F : CallFix p m c cX0_nearest 13 s _ vsX0_nearest RX0 := ⟨hx, hb, hml, hown, hts⟩
  have hl : lv_has ls 13 [(0, .int (nI k)), (1, .int (nI u))] := hl
  refine lv_iload_n hx hb dX0_nearest_0 rfl (lv_at hl 0 rfl) ?_
  refine k_if_eq (tgt := 8) (by omega) hx hb dX0_nearest_1 (by decide) (fun c28 => ?_) (fun c28 => ?_)
  · skip
    exact absurd c28 (by omega)
  · skip
    refine lv_iload_n hx hb dX0_nearest_4 rfl (lv_at hl 1 rfl) ?_
    refine k_if_gt (tgt := 10) (by omega) hx hb dX0_nearest_5 (by decide) (fun c29 => ?_) (fun c29 => ?_)
    · skip
      refine lv_ldc2 (v := lN 4503599627370496) hx hb hown (hts (.constantLong RX0 15 (4503599627370496)) (List.mem_cons_of_mem _ wd_22)) dX0_nearest_10 ?_
      refine lv_iload_n hx hb dX0_nearest_13 rfl (lv_at hl 1 rfl) ?_
      refine lv_i2l (v := lN u) hx hb dX0_nearest_14 (nI_l (by omega)) ?_
      refine lv_lmul hx hb dX0_nearest_15 ?_
      refine k_l (show _ = lN (4503599627370496 * u) from lN_mul _ _) ?_
      refine lv_lstore_n (lv' := [(2, .long (lN (4503599627370496 * u))), (0, .int (nI k)), (1, .int (nI u))]) hx hb dX0_nearest_16 rfl hl (by decide) rfl (fun ls hl => ?_)
      refine lv_iload_n hx hb dX0_nearest_17 rfl (lv_at hl 1 rfl) ?_
      refine lv_i2l (v := lN k) hx hb dX0_nearest_18 (nI_l (by omega)) ?_
      refine va_mabs_long hx hb (hml.trans hl.1.symm) hown (hts (.methodLink RX0 23 Lib.MathLoose.abs_long.x) (List.mem_cons_of_mem _ wd_29)) (hts (.static Lib.MathLoose.abs_long.x) (List.mem_cons_of_mem _ wd_30)) (hts (.initialized "java/lang/Math") (List.mem_cons_of_mem _ wd_2)) (hts (.code Lib.MathLoose.abs_long.x Lib.MathLoose.abs_long.code 2 (some .long)) (List.mem_cons_of_mem _ wd_31)) (Nat.le_of_ble_eq_true rfl) (Nat.le_of_ble_eq_true rfl) (Nat.zero_le _) (Nat.zero_le _) dX0_nearest_19 ?_
      refine k_l (show _ = lN k from nb_abs hk1 (by omega)) ?_
      refine lv_lstore (lv' := [(4, .long (lN k)), (2, .long (lN (4503599627370496 * u))), (0, .int (nI k)), (1, .int (nI u))]) hx hb dX0_nearest_22 hl (by decide) rfl (fun ls hl => ?_)
      refine lv_iconst (v := nI 0) hx hb dX0_nearest_24 (by decide) ?_
      refine lv_istore (lv' := [(6, .int (nI 0)), (4, .long (lN k)), (2, .long (lN (4503599627370496 * u))), (0, .int (nI k)), (1, .int (nI u))]) hx hb dX0_nearest_25 hl (by decide) rfl (fun ls hl => ?_)
      rw [show lN k = lN (k * 2 ^ 0) from by rw [Nat.pow_zero, Nat.mul_one]] at hl
      have loop30 : ∀ (k31 : Nat) (d : Nat) (H : Heap) (locs : List Loc) (ls : Array Slot), 63 - d < k31 → (∀ e, e < d → k * 2 ^ e < 4503599627370496 * u) → va_P D kCl [] H → va_D A [] → va_S A s.heap H locs → lv_has ls 13 [(0, .int (nI k)), (1, .int (nI u)), (2, .long (lN (4503599627370496 * u))), (4, .long (lN (k * 2 ^ d))), (6, .int (nI d))] → W p l e ({ frames := 1, cells := 0, slots := 0, locals := 25 }) s m ([.int (nI k), .int (nI u)] : List Value).toArray below meth c H locs 0 0 (MQ below ((kQl D (kT cI cB cJ cS) (fun r (ug : Unit) => r = lN (nBits k u)) (fun ug => [])) A) ([.int (nI k), .int (nI u)] : List Value).toArray s ({ frames := 1, cells := 0, slots := 0, locals := 25 } : Room).cells ({ frames := 1, cells := 0, slots := 0, locals := 25 } : Room).slots A) (F0 m 27 ls []) := by
        intro k31
        induction k31 with
        | zero =>
          intro d H locs ls hk9
          exact absurd hk9 (Nat.not_lt_zero _)
        | succ k31 ihloop30 =>
          intro d H locs ls hk9 hlt hP hD hS hl
          refine lv_iload hx hb dX0_nearest_27 (lv_at hl 4 rfl) ?_
          refine lv_bipush (v := nI 63) hx hb dX0_nearest_29 (by decide) ?_
          have hub := nb_up hk hu2 hlt hk1
          refine k_icmp_ge (tgt := 53) (by omega) (by omega) hx hb dX0_nearest_31 (by decide) (fun c32 => ?_) (fun c32 => ?_)
          · skip
            exact absurd c32 (by omega)
          · skip
            refine lv_lload hx hb dX0_nearest_34 (lv_at hl 3 rfl) ?_
            refine lv_lload_n hx hb dX0_nearest_36 rfl (lv_at hl 2 rfl) ?_
            refine W.lcmp hx hb dX0_nearest_37 ?_
            refine k_lcmpN_ge (tgt := 53) (hub.1) (by omega) hx hb dX0_nearest_38 (by decide) (fun hcmp => ?_) (fun hcmp => ?_)
            · skip
              obtain ⟨sc, hsc⟩ : ∃ z, z = k * 2 ^ d := ⟨_, rfl⟩
              rw [← hsc] at hub hcmp hl
              have hs53 := nb_53 hk hu1 hsc hlt
              have hqq := nb_q hu1 hcmp
              have hdl := Nat.div_le_self sc u
              have hml9 := Nat.mod_lt sc (show u > 0 by omega)
              refine lv_lload hx hb dX0_nearest_53 (lv_at hl 3 rfl) ?_
              refine lv_iload_n hx hb dX0_nearest_55 rfl (lv_at hl 1 rfl) ?_
              refine lv_i2l (v := lN u) hx hb dX0_nearest_56 (nI_l (by omega)) ?_
              refine lv_ldiv hx hb dX0_nearest_57 (fun q => absurd ((pk_lEQ (a := u) (b := 0) (by omega) (by decide)).mp q) (by omega)) ?_
              refine k_l (show _ = lN (sc / u) from pk_lDiv (by omega) (by omega) (by omega)) ?_
              refine lv_lstore (lv' := [(7, .long (lN (sc / u))), (0, .int (nI k)), (1, .int (nI u)), (2, .long (lN (4503599627370496 * u))), (4, .long (lN sc)), (6, .int (nI d))]) hx hb dX0_nearest_58 hl (by decide) rfl (fun ls hl => ?_)
              refine lv_lload hx hb dX0_nearest_60 (lv_at hl 4 rfl) ?_
              refine lv_iload_n hx hb dX0_nearest_62 rfl (lv_at hl 2 rfl) ?_
              refine lv_i2l (v := lN u) hx hb dX0_nearest_63 (nI_l (by omega)) ?_
              refine lv_lrem hx hb dX0_nearest_64 (fun q => absurd ((pk_lEQ (a := u) (b := 0) (by omega) (by decide)).mp q) (by omega)) ?_
              refine k_l (show _ = lN (sc % u) from pk_lRem (by omega) (by omega) (by omega)) ?_
              refine lv_lstore (lv' := [(9, .long (lN (sc % u))), (7, .long (lN (sc / u))), (0, .int (nI k)), (1, .int (nI u)), (2, .long (lN (4503599627370496 * u))), (4, .long (lN sc)), (6, .int (nI d))]) hx hb dX0_nearest_65 hl (by decide) rfl (fun ls hl => ?_)
              refine lv_lload hx hb dX0_nearest_67 (lv_at hl 1 rfl) ?_
              refine lv_ldc2 (v := lN 2) hx hb hown (hts (.constantLong RX0 29 (2)) (List.mem_cons_of_mem _ wd_32)) dX0_nearest_69 ?_
              refine lv_lload hx hb dX0_nearest_72 (lv_at hl 0 rfl) ?_
              refine lv_lmul hx hb dX0_nearest_74 ?_
              refine k_l (show _ = lN (2 * (sc % u)) from lN_mul _ _) ?_
              refine lv_iload_n hx hb dX0_nearest_75 rfl (lv_at hl 3 rfl) ?_
              refine lv_i2l (v := lN u) hx hb dX0_nearest_76 (nI_l (by omega)) ?_
              refine k_ci (wr := []) (k_rs F (c_Fr_roundsUp l D cI cB cJ cS (sc / u) (2 * (sc % u)) u (by omega) (by omega) (by omega)) (va_cwS 3 hts (g_S wd_25 wd_26 wd_27 wd_28) rfl rfl rfl (by decide +kernel) ⟨Nat.le_of_ble_eq_true rfl, Nat.le_of_ble_eq_true rfl⟩) hK hP hD hS hA hZ [] rfl (by decide) rfl hl.1 rfl (Nat.le_of_ble_eq_true rfl) dX0_nearest_77 ⟨Nat.le_of_ble_eq_true rfl, Nat.le_of_ble_eq_true rfl⟩) hP hD hS hA [] [] rfl rfl (by decide) (by decide) (fun r u9 H locs hw hP hD hS => ?_)
              subst hw
              have hP : va_P D kCl [] H := hP
              have hD : va_D A [] := hD
              refine W.widen (k := 0) (n := 0) (Nat.le_of_ble_eq_true rfl) (Nat.le_of_ble_eq_true rfl) ?_
              have hrl := rUp_le (sc / u) (2 * (sc % u)) u
              refine k_if_eq (tgt := 89) (by omega) hx hb dX0_nearest_80 (by decide) (fun hru => ?_) (fun hru => ?_)
              · skip
                refine lv_sipush (v := nI 1075) hx hb dX0_nearest_89 (by decide) ?_
                refine lv_iload hx hb dX0_nearest_92 (lv_at hl 6 rfl) ?_
                refine lv_isub hx hb dX0_nearest_94 ?_
                refine k_i (show _ = nI (1075 - d) from pk_sub (by omega)) ?_
                refine lv_i2l (v := lN (1075 - d)) hx hb dX0_nearest_95 (nI_l (by omega)) ?_
                refine lv_bipush (v := nI 52) hx hb dX0_nearest_96 (by decide) ?_
                refine lv_lshl (v := lN ((1075 - d) * 2 ^ 52)) hx hb dX0_nearest_98 (wb_shl _ (by decide)) ?_
                refine lv_lload hx hb dX0_nearest_99 (lv_at hl 1 rfl) ?_
                refine lv_ldc2 (v := lN 4503599627370496) hx hb hown (hts (.constantLong RX0 15 (4503599627370496)) (List.mem_cons_of_mem _ wd_22)) dX0_nearest_101 ?_
                refine lv_lsub hx hb dX0_nearest_104 ?_
                refine k_l (show _ = lN ((sc / u) - 4503599627370496) from lN_sub (by omega)) ?_
                refine lv_ladd hx hb dX0_nearest_105 ?_
                refine k_l (show _ = lN (((1075 - d) * 2 ^ 52) + ((sc / u) - 4503599627370496)) from lN_add _ _) ?_
                refine lv_lstore (lv' := [(11, .long (lN (((1075 - d) * 2 ^ 52) + ((sc / u) - 4503599627370496)))), (9, .long (lN (sc % u))), (7, .long (lN (sc / u))), (0, .int (nI k)), (1, .int (nI u)), (2, .long (lN (4503599627370496 * u))), (4, .long (lN sc)), (6, .int (nI d))]) hx hb dX0_nearest_106 hl (by decide) rfl (fun ls hl => ?_)
                refine lv_iload_n hx hb dX0_nearest_108 rfl (lv_at hl 3 rfl) ?_
                refine k_if_ge (tgt := 121) (by omega) hx hb dX0_nearest_109 (by decide) (fun c33 => ?_) (fun c33 => ?_)
                · skip
                  refine lv_lload hx hb dX0_nearest_121 (lv_at hl 0 rfl) ?_
                  exact k_lret () hx hb hr hlocks hK hP hD hS (rfl) (congrArg lN (nb_eq (q := 0) hub.2 hsc hcmp hlt (by omega))) (Nat.le_of_ble_eq_true rfl) (Nat.le_of_ble_eq_true rfl) dX0_nearest_123
                · skip
                  exact c33.elim
              · skip
                refine lv_lload hx hb dX0_nearest_83 (lv_at hl 1 rfl) ?_
                refine lv_lconst (v := lN 1) hx hb dX0_nearest_85 (by decide) ?_
                refine lv_ladd hx hb dX0_nearest_86 ?_
                refine k_l (show _ = lN ((sc / u) + 1) from lN_add _ _) ?_
                refine lv_lstore (lv' := [(7, .long (lN ((sc / u) + 1))), (9, .long (lN (sc % u))), (0, .int (nI k)), (1, .int (nI u)), (2, .long (lN (4503599627370496 * u))), (4, .long (lN sc)), (6, .int (nI d))]) hx hb dX0_nearest_87 hl (by decide) rfl (fun ls hl => ?_)
                refine lv_sipush (v := nI 1075) hx hb dX0_nearest_89 (by decide) ?_
                refine lv_iload hx hb dX0_nearest_92 (lv_at hl 6 rfl) ?_
                refine lv_isub hx hb dX0_nearest_94 ?_
                refine k_i (show _ = nI (1075 - d) from pk_sub (by omega)) ?_
                refine lv_i2l (v := lN (1075 - d)) hx hb dX0_nearest_95 (nI_l (by omega)) ?_
                refine lv_bipush (v := nI 52) hx hb dX0_nearest_96 (by decide) ?_
                refine lv_lshl (v := lN ((1075 - d) * 2 ^ 52)) hx hb dX0_nearest_98 (wb_shl _ (by decide)) ?_
                refine lv_lload hx hb dX0_nearest_99 (lv_at hl 0 rfl) ?_
                refine lv_ldc2 (v := lN 4503599627370496) hx hb hown (hts (.constantLong RX0 15 (4503599627370496)) (List.mem_cons_of_mem _ wd_22)) dX0_nearest_101 ?_
                refine lv_lsub hx hb dX0_nearest_104 ?_
                refine k_l (show _ = lN (((sc / u) + 1) - 4503599627370496) from lN_sub (by omega)) ?_
                refine lv_ladd hx hb dX0_nearest_105 ?_
                refine k_l (show _ = lN (((1075 - d) * 2 ^ 52) + (((sc / u) + 1) - 4503599627370496)) from lN_add _ _) ?_
                refine lv_lstore (lv' := [(11, .long (lN (((1075 - d) * 2 ^ 52) + (((sc / u) + 1) - 4503599627370496)))), (7, .long (lN ((sc / u) + 1))), (9, .long (lN (sc % u))), (0, .int (nI k)), (1, .int (nI u)), (2, .long (lN (4503599627370496 * u))), (4, .long (lN sc)), (6, .int (nI d))]) hx hb dX0_nearest_106 hl (by decide) rfl (fun ls hl => ?_)
                refine lv_iload_n hx hb dX0_nearest_108 rfl (lv_at hl 3 rfl) ?_
                refine k_if_ge (tgt := 121) (by omega) hx hb dX0_nearest_109 (by decide) (fun c34 => ?_) (fun c34 => ?_)
                · skip
                  refine lv_lload hx hb dX0_nearest_121 (lv_at hl 0 rfl) ?_
                  exact k_lret () hx hb hr hlocks hK hP hD hS (rfl) (congrArg lN (nb_eq (q := 1) hub.2 hsc hcmp hlt (by omega))) (Nat.le_of_ble_eq_true rfl) (Nat.le_of_ble_eq_true rfl) dX0_nearest_123
                · skip
                  exact c34.elim
            · skip
              refine lv_lload hx hb dX0_nearest_41 (lv_at hl 3 rfl) ?_
              refine lv_iconst (v := nI 1) hx hb dX0_nearest_43 (by decide) ?_
              refine lv_lshl (v := lN (k * 2 ^ (d + 1))) hx hb dX0_nearest_44 (nb_dbl k d) ?_
              refine lv_lstore (lv' := [(4, .long (lN (k * 2 ^ (d + 1)))), (0, .int (nI k)), (1, .int (nI u)), (2, .long (lN (4503599627370496 * u))), (6, .int (nI d))]) hx hb dX0_nearest_45 hl (by decide) rfl (fun ls hl => ?_)
              refine lv_iinc (v := nI (d + 1)) (lv' := [(6, .int (nI (d + 1))), (4, .long (lN (k * 2 ^ (d + 1)))), (0, .int (nI k)), (1, .int (nI u)), (2, .long (lN (4503599627370496 * u)))]) hx hb dX0_nearest_47 hl (k := 4) rfl (nI_add _ _) (by decide) rfl (fun ls hl => ?_)
              refine lv_goto (tgt := 27) hx hb dX0_nearest_50 (by decide) ?_
              exact ihloop30 (d + 1) _ _ _ (by omega) (fun e h => by rcases Nat.lt_succ_iff_lt_or_eq.mp h with h | h; exact hlt e h; rw [h]; exact hcmp) (hP.sub [] rfl) (hD.sub [] (by decide) rfl) hS (lv_sub hl [2, 3, 4, 1, 0] rfl)
      exact loop30 ((63 - 0) + 1) 0 _ _ _ (Nat.lt_succ_self _) (fun e h => absurd h (Nat.not_lt_zero _)) (hP.sub [] rfl) (hD.sub [] (by decide) rfl) hS (lv_sub hl [3, 4, 2, 1, 0] rfl)
    · skip
      exact absurd c29 (by omega)

set_option maxRecDepth 100000 in
set_option maxHeartbeats 4000000 in
theorem c_Fr_nearestM (l : Launch) (D : va_G) (cI cB cJ cS : ClassId) (k u : Nat) (hk1 : 1 ≤ k) (hk : k ≤ 1000000000) (hu1 : 1 ≤ u) (hu2 : u ≤ 1000)  : kM l yX0_nearest vsX0_nearest ({ frames := 1, cells := 0, slots := 0, locals := 25 }) D (kT cI cB cJ cS) [.int (-nI k), .int (nI u)] [] (kQl D (kT cI cB cJ cS) (fun r (ug : Unit) => r = lN (nBits k u + 9223372036854775808)) (fun ug => [])) := by
  refine k_ofW (by decide) rfl (Nat.le_of_ble_eq_true rfl) ?_
  intro p e s m below meth c A ls hx hb hr hts hown hlocks hmn hml hA hP hK hD hS hZ hl
  have F : CallFix p m c cX0_nearest 13 s _ vsX0_nearest RX0 := ⟨hx, hb, hml, hown, hts⟩
  have hl : lv_has ls 13 [(0, .int (-nI k)), (1, .int (nI u))] := hl
  refine lv_iload_n hx hb dX0_nearest_0 rfl (lv_at hl 0 rfl) ?_
  refine lv_if_eq (tgt := 8) hx hb dX0_nearest_1 (by decide) (fun c35 => ?_) (fun c35 => ?_)
  · skip
    exact absurd c35 (nb_ne hk1 (by omega))
  · skip
    refine lv_iload_n hx hb dX0_nearest_4 rfl (lv_at hl 1 rfl) ?_
    refine k_if_gt (tgt := 10) (by omega) hx hb dX0_nearest_5 (by decide) (fun c36 => ?_) (fun c36 => ?_)
    · skip
      refine lv_ldc2 (v := lN 4503599627370496) hx hb hown (hts (.constantLong RX0 15 (4503599627370496)) (List.mem_cons_of_mem _ wd_22)) dX0_nearest_10 ?_
      refine lv_iload_n hx hb dX0_nearest_13 rfl (lv_at hl 1 rfl) ?_
      refine lv_i2l (v := lN u) hx hb dX0_nearest_14 (nI_l (by omega)) ?_
      refine lv_lmul hx hb dX0_nearest_15 ?_
      refine k_l (show _ = lN (4503599627370496 * u) from lN_mul _ _) ?_
      refine lv_lstore_n (lv' := [(2, .long (lN (4503599627370496 * u))), (0, .int (-nI k)), (1, .int (nI u))]) hx hb dX0_nearest_16 rfl hl (by decide) rfl (fun ls hl => ?_)
      refine lv_iload_n hx hb dX0_nearest_17 rfl (lv_at hl 1 rfl) ?_
      refine lv_i2l (v := -lN k) hx hb dX0_nearest_18 (nb_negL (by omega)) ?_
      refine va_mabs_long hx hb (hml.trans hl.1.symm) hown (hts (.methodLink RX0 23 Lib.MathLoose.abs_long.x) (List.mem_cons_of_mem _ wd_29)) (hts (.static Lib.MathLoose.abs_long.x) (List.mem_cons_of_mem _ wd_30)) (hts (.initialized "java/lang/Math") (List.mem_cons_of_mem _ wd_2)) (hts (.code Lib.MathLoose.abs_long.x Lib.MathLoose.abs_long.code 2 (some .long)) (List.mem_cons_of_mem _ wd_31)) (Nat.le_of_ble_eq_true rfl) (Nat.le_of_ble_eq_true rfl) (Nat.zero_le _) (Nat.zero_le _) dX0_nearest_19 ?_
      refine k_l (show _ = lN k from nb_absM hk1 (by omega)) ?_
      refine lv_lstore (lv' := [(4, .long (lN k)), (2, .long (lN (4503599627370496 * u))), (0, .int (-nI k)), (1, .int (nI u))]) hx hb dX0_nearest_22 hl (by decide) rfl (fun ls hl => ?_)
      refine lv_iconst (v := nI 0) hx hb dX0_nearest_24 (by decide) ?_
      refine lv_istore (lv' := [(6, .int (nI 0)), (4, .long (lN k)), (2, .long (lN (4503599627370496 * u))), (0, .int (-nI k)), (1, .int (nI u))]) hx hb dX0_nearest_25 hl (by decide) rfl (fun ls hl => ?_)
      rw [show lN k = lN (k * 2 ^ 0) from by rw [Nat.pow_zero, Nat.mul_one]] at hl
      have loop37 : ∀ (k38 : Nat) (d : Nat) (H : Heap) (locs : List Loc) (ls : Array Slot), 63 - d < k38 → (∀ e, e < d → k * 2 ^ e < 4503599627370496 * u) → va_P D kCl [] H → va_D A [] → va_S A s.heap H locs → lv_has ls 13 [(0, .int (-nI k)), (1, .int (nI u)), (2, .long (lN (4503599627370496 * u))), (4, .long (lN (k * 2 ^ d))), (6, .int (nI d))] → W p l e ({ frames := 1, cells := 0, slots := 0, locals := 25 }) s m ([.int (-nI k), .int (nI u)] : List Value).toArray below meth c H locs 0 0 (MQ below ((kQl D (kT cI cB cJ cS) (fun r (ug : Unit) => r = lN (nBits k u + 9223372036854775808)) (fun ug => [])) A) ([.int (-nI k), .int (nI u)] : List Value).toArray s ({ frames := 1, cells := 0, slots := 0, locals := 25 } : Room).cells ({ frames := 1, cells := 0, slots := 0, locals := 25 } : Room).slots A) (F0 m 27 ls []) := by
        intro k38
        induction k38 with
        | zero =>
          intro d H locs ls hk9
          exact absurd hk9 (Nat.not_lt_zero _)
        | succ k38 ihloop37 =>
          intro d H locs ls hk9 hlt hP hD hS hl
          refine lv_iload hx hb dX0_nearest_27 (lv_at hl 4 rfl) ?_
          refine lv_bipush (v := nI 63) hx hb dX0_nearest_29 (by decide) ?_
          have hub := nb_up hk hu2 hlt hk1
          refine k_icmp_ge (tgt := 53) (by omega) (by omega) hx hb dX0_nearest_31 (by decide) (fun c39 => ?_) (fun c39 => ?_)
          · skip
            exact absurd c39 (by omega)
          · skip
            refine lv_lload hx hb dX0_nearest_34 (lv_at hl 3 rfl) ?_
            refine lv_lload_n hx hb dX0_nearest_36 rfl (lv_at hl 2 rfl) ?_
            refine W.lcmp hx hb dX0_nearest_37 ?_
            refine k_lcmpN_ge (tgt := 53) (hub.1) (by omega) hx hb dX0_nearest_38 (by decide) (fun hcmp => ?_) (fun hcmp => ?_)
            · skip
              obtain ⟨sc, hsc⟩ : ∃ z, z = k * 2 ^ d := ⟨_, rfl⟩
              rw [← hsc] at hub hcmp hl
              have hs53 := nb_53 hk hu1 hsc hlt
              have hqq := nb_q hu1 hcmp
              have hdl := Nat.div_le_self sc u
              have hml9 := Nat.mod_lt sc (show u > 0 by omega)
              refine lv_lload hx hb dX0_nearest_53 (lv_at hl 3 rfl) ?_
              refine lv_iload_n hx hb dX0_nearest_55 rfl (lv_at hl 1 rfl) ?_
              refine lv_i2l (v := lN u) hx hb dX0_nearest_56 (nI_l (by omega)) ?_
              refine lv_ldiv hx hb dX0_nearest_57 (fun q => absurd ((pk_lEQ (a := u) (b := 0) (by omega) (by decide)).mp q) (by omega)) ?_
              refine k_l (show _ = lN (sc / u) from pk_lDiv (by omega) (by omega) (by omega)) ?_
              refine lv_lstore (lv' := [(7, .long (lN (sc / u))), (0, .int (-nI k)), (1, .int (nI u)), (2, .long (lN (4503599627370496 * u))), (4, .long (lN sc)), (6, .int (nI d))]) hx hb dX0_nearest_58 hl (by decide) rfl (fun ls hl => ?_)
              refine lv_lload hx hb dX0_nearest_60 (lv_at hl 4 rfl) ?_
              refine lv_iload_n hx hb dX0_nearest_62 rfl (lv_at hl 2 rfl) ?_
              refine lv_i2l (v := lN u) hx hb dX0_nearest_63 (nI_l (by omega)) ?_
              refine lv_lrem hx hb dX0_nearest_64 (fun q => absurd ((pk_lEQ (a := u) (b := 0) (by omega) (by decide)).mp q) (by omega)) ?_
              refine k_l (show _ = lN (sc % u) from pk_lRem (by omega) (by omega) (by omega)) ?_
              refine lv_lstore (lv' := [(9, .long (lN (sc % u))), (7, .long (lN (sc / u))), (0, .int (-nI k)), (1, .int (nI u)), (2, .long (lN (4503599627370496 * u))), (4, .long (lN sc)), (6, .int (nI d))]) hx hb dX0_nearest_65 hl (by decide) rfl (fun ls hl => ?_)
              refine lv_lload hx hb dX0_nearest_67 (lv_at hl 1 rfl) ?_
              refine lv_ldc2 (v := lN 2) hx hb hown (hts (.constantLong RX0 29 (2)) (List.mem_cons_of_mem _ wd_32)) dX0_nearest_69 ?_
              refine lv_lload hx hb dX0_nearest_72 (lv_at hl 0 rfl) ?_
              refine lv_lmul hx hb dX0_nearest_74 ?_
              refine k_l (show _ = lN (2 * (sc % u)) from lN_mul _ _) ?_
              refine lv_iload_n hx hb dX0_nearest_75 rfl (lv_at hl 3 rfl) ?_
              refine lv_i2l (v := lN u) hx hb dX0_nearest_76 (nI_l (by omega)) ?_
              refine k_ci (wr := []) (k_rs F (c_Fr_roundsUp l D cI cB cJ cS (sc / u) (2 * (sc % u)) u (by omega) (by omega) (by omega)) (va_cwS 3 hts (g_S wd_25 wd_26 wd_27 wd_28) rfl rfl rfl (by decide +kernel) ⟨Nat.le_of_ble_eq_true rfl, Nat.le_of_ble_eq_true rfl⟩) hK hP hD hS hA hZ [] rfl (by decide) rfl hl.1 rfl (Nat.le_of_ble_eq_true rfl) dX0_nearest_77 ⟨Nat.le_of_ble_eq_true rfl, Nat.le_of_ble_eq_true rfl⟩) hP hD hS hA [] [] rfl rfl (by decide) (by decide) (fun r u9 H locs hw hP hD hS => ?_)
              subst hw
              have hP : va_P D kCl [] H := hP
              have hD : va_D A [] := hD
              refine W.widen (k := 0) (n := 0) (Nat.le_of_ble_eq_true rfl) (Nat.le_of_ble_eq_true rfl) ?_
              have hrl := rUp_le (sc / u) (2 * (sc % u)) u
              refine k_if_eq (tgt := 89) (by omega) hx hb dX0_nearest_80 (by decide) (fun hru => ?_) (fun hru => ?_)
              · skip
                refine lv_sipush (v := nI 1075) hx hb dX0_nearest_89 (by decide) ?_
                refine lv_iload hx hb dX0_nearest_92 (lv_at hl 6 rfl) ?_
                refine lv_isub hx hb dX0_nearest_94 ?_
                refine k_i (show _ = nI (1075 - d) from pk_sub (by omega)) ?_
                refine lv_i2l (v := lN (1075 - d)) hx hb dX0_nearest_95 (nI_l (by omega)) ?_
                refine lv_bipush (v := nI 52) hx hb dX0_nearest_96 (by decide) ?_
                refine lv_lshl (v := lN ((1075 - d) * 2 ^ 52)) hx hb dX0_nearest_98 (wb_shl _ (by decide)) ?_
                refine lv_lload hx hb dX0_nearest_99 (lv_at hl 1 rfl) ?_
                refine lv_ldc2 (v := lN 4503599627370496) hx hb hown (hts (.constantLong RX0 15 (4503599627370496)) (List.mem_cons_of_mem _ wd_22)) dX0_nearest_101 ?_
                refine lv_lsub hx hb dX0_nearest_104 ?_
                refine k_l (show _ = lN ((sc / u) - 4503599627370496) from lN_sub (by omega)) ?_
                refine lv_ladd hx hb dX0_nearest_105 ?_
                refine k_l (show _ = lN (((1075 - d) * 2 ^ 52) + ((sc / u) - 4503599627370496)) from lN_add _ _) ?_
                refine lv_lstore (lv' := [(11, .long (lN (((1075 - d) * 2 ^ 52) + ((sc / u) - 4503599627370496)))), (9, .long (lN (sc % u))), (7, .long (lN (sc / u))), (0, .int (-nI k)), (1, .int (nI u)), (2, .long (lN (4503599627370496 * u))), (4, .long (lN sc)), (6, .int (nI d))]) hx hb dX0_nearest_106 hl (by decide) rfl (fun ls hl => ?_)
                refine lv_iload_n hx hb dX0_nearest_108 rfl (lv_at hl 3 rfl) ?_
                refine lv_if_ge (tgt := 121) hx hb dX0_nearest_109 (by decide) (fun c40 => ?_) (fun c40 => ?_)
                · skip
                  exact absurd c40 (nb_nge hk1 (by omega))
                · skip
                  refine lv_lload hx hb dX0_nearest_112 (lv_at hl 0 rfl) ?_
                  refine lv_ldc2 (v := (-9223372036854775808)) hx hb hown (hts (.constantLong RX0 31 (-9223372036854775808)) (List.mem_cons_of_mem _ wd_33)) dX0_nearest_114 ?_
                  refine lv_lor hx hb dX0_nearest_117 ?_
                  refine k_l (show _ = lN ((((1075 - d) * 2 ^ 52) + ((sc / u) - 4503599627370496)) + 9223372036854775808) from nb_sgn (by omega)) ?_
                  refine lv_goto (tgt := 123) hx hb dX0_nearest_118 (by decide) ?_
                  exact k_lret () hx hb hr hlocks hK hP hD hS (rfl) (congrArg (fun x => lN (x + 9223372036854775808)) (nb_eq (q := 0) hub.2 hsc hcmp hlt (by omega))) (Nat.le_of_ble_eq_true rfl) (Nat.le_of_ble_eq_true rfl) dX0_nearest_123
              · skip
                refine lv_lload hx hb dX0_nearest_83 (lv_at hl 1 rfl) ?_
                refine lv_lconst (v := lN 1) hx hb dX0_nearest_85 (by decide) ?_
                refine lv_ladd hx hb dX0_nearest_86 ?_
                refine k_l (show _ = lN ((sc / u) + 1) from lN_add _ _) ?_
                refine lv_lstore (lv' := [(7, .long (lN ((sc / u) + 1))), (9, .long (lN (sc % u))), (0, .int (-nI k)), (1, .int (nI u)), (2, .long (lN (4503599627370496 * u))), (4, .long (lN sc)), (6, .int (nI d))]) hx hb dX0_nearest_87 hl (by decide) rfl (fun ls hl => ?_)
                refine lv_sipush (v := nI 1075) hx hb dX0_nearest_89 (by decide) ?_
                refine lv_iload hx hb dX0_nearest_92 (lv_at hl 6 rfl) ?_
                refine lv_isub hx hb dX0_nearest_94 ?_
                refine k_i (show _ = nI (1075 - d) from pk_sub (by omega)) ?_
                refine lv_i2l (v := lN (1075 - d)) hx hb dX0_nearest_95 (nI_l (by omega)) ?_
                refine lv_bipush (v := nI 52) hx hb dX0_nearest_96 (by decide) ?_
                refine lv_lshl (v := lN ((1075 - d) * 2 ^ 52)) hx hb dX0_nearest_98 (wb_shl _ (by decide)) ?_
                refine lv_lload hx hb dX0_nearest_99 (lv_at hl 0 rfl) ?_
                refine lv_ldc2 (v := lN 4503599627370496) hx hb hown (hts (.constantLong RX0 15 (4503599627370496)) (List.mem_cons_of_mem _ wd_22)) dX0_nearest_101 ?_
                refine lv_lsub hx hb dX0_nearest_104 ?_
                refine k_l (show _ = lN (((sc / u) + 1) - 4503599627370496) from lN_sub (by omega)) ?_
                refine lv_ladd hx hb dX0_nearest_105 ?_
                refine k_l (show _ = lN (((1075 - d) * 2 ^ 52) + (((sc / u) + 1) - 4503599627370496)) from lN_add _ _) ?_
                refine lv_lstore (lv' := [(11, .long (lN (((1075 - d) * 2 ^ 52) + (((sc / u) + 1) - 4503599627370496)))), (7, .long (lN ((sc / u) + 1))), (9, .long (lN (sc % u))), (0, .int (-nI k)), (1, .int (nI u)), (2, .long (lN (4503599627370496 * u))), (4, .long (lN sc)), (6, .int (nI d))]) hx hb dX0_nearest_106 hl (by decide) rfl (fun ls hl => ?_)
                refine lv_iload_n hx hb dX0_nearest_108 rfl (lv_at hl 3 rfl) ?_
                refine lv_if_ge (tgt := 121) hx hb dX0_nearest_109 (by decide) (fun c41 => ?_) (fun c41 => ?_)
                · skip
                  exact absurd c41 (nb_nge hk1 (by omega))
                · skip
                  refine lv_lload hx hb dX0_nearest_112 (lv_at hl 0 rfl) ?_
                  refine lv_ldc2 (v := (-9223372036854775808)) hx hb hown (hts (.constantLong RX0 31 (-9223372036854775808)) (List.mem_cons_of_mem _ wd_33)) dX0_nearest_114 ?_
                  refine lv_lor hx hb dX0_nearest_117 ?_
                  refine k_l (show _ = lN ((((1075 - d) * 2 ^ 52) + (((sc / u) + 1) - 4503599627370496)) + 9223372036854775808) from nb_sgn (by omega)) ?_
                  refine lv_goto (tgt := 123) hx hb dX0_nearest_118 (by decide) ?_
                  exact k_lret () hx hb hr hlocks hK hP hD hS (rfl) (congrArg (fun x => lN (x + 9223372036854775808)) (nb_eq (q := 1) hub.2 hsc hcmp hlt (by omega))) (Nat.le_of_ble_eq_true rfl) (Nat.le_of_ble_eq_true rfl) dX0_nearest_123
            · skip
              refine lv_lload hx hb dX0_nearest_41 (lv_at hl 3 rfl) ?_
              refine lv_iconst (v := nI 1) hx hb dX0_nearest_43 (by decide) ?_
              refine lv_lshl (v := lN (k * 2 ^ (d + 1))) hx hb dX0_nearest_44 (nb_dbl k d) ?_
              refine lv_lstore (lv' := [(4, .long (lN (k * 2 ^ (d + 1)))), (0, .int (-nI k)), (1, .int (nI u)), (2, .long (lN (4503599627370496 * u))), (6, .int (nI d))]) hx hb dX0_nearest_45 hl (by decide) rfl (fun ls hl => ?_)
              refine lv_iinc (v := nI (d + 1)) (lv' := [(6, .int (nI (d + 1))), (4, .long (lN (k * 2 ^ (d + 1)))), (0, .int (-nI k)), (1, .int (nI u)), (2, .long (lN (4503599627370496 * u)))]) hx hb dX0_nearest_47 hl (k := 4) rfl (nI_add _ _) (by decide) rfl (fun ls hl => ?_)
              refine lv_goto (tgt := 27) hx hb dX0_nearest_50 (by decide) ?_
              exact ihloop37 (d + 1) _ _ _ (by omega) (fun e h => by rcases Nat.lt_succ_iff_lt_or_eq.mp h with h | h; exact hlt e h; rw [h]; exact hcmp) (hP.sub [] rfl) (hD.sub [] (by decide) rfl) hS (lv_sub hl [2, 3, 4, 1, 0] rfl)
      exact loop37 ((63 - 0) + 1) 0 _ _ _ (Nat.lt_succ_self _) (fun e h => absurd h (Nat.not_lt_zero _)) (hP.sub [] rfl) (hD.sub [] (by decide) rfl) hS (lv_sub hl [3, 4, 2, 1, 0] rfl)
    · skip
      exact absurd c36 (by omega)

set_option maxRecDepth 100000 in
set_option maxHeartbeats 4000000 in
theorem c_Fr_nearest0 (l : Launch) (D : va_G) (cI cB cJ cS : ClassId) (u : Nat)  : kM l yX0_nearest vsX0_nearest ({ frames := 1, cells := 0, slots := 0, locals := 25 }) D (kT cI cB cJ cS) [.int (nI 0), .int (nI u)] [] (kQl D (kT cI cB cJ cS) (fun r (ug : Unit) => r = lN 0) (fun ug => [])) := by
  refine k_ofW (by decide) rfl (Nat.le_of_ble_eq_true rfl) ?_
  intro p e s m below meth c A ls hx hb hr hts hown hlocks hmn hml hA hP hK hD hS hZ hl
  have F : CallFix p m c cX0_nearest 13 s _ vsX0_nearest RX0 := ⟨hx, hb, hml, hown, hts⟩
  have hl : lv_has ls 13 [(0, .int (nI 0)), (1, .int (nI u))] := hl
  refine lv_iload_n hx hb dX0_nearest_0 rfl (lv_at hl 0 rfl) ?_
  refine k_if_eq (tgt := 8) (by omega) hx hb dX0_nearest_1 (by decide) (fun c42 => ?_) (fun c42 => ?_)
  · skip
    refine lv_lconst (v := lN 0) hx hb dX0_nearest_8 (by decide) ?_
    exact k_lret () hx hb hr hlocks hK hP hD hS (rfl) (rfl) (Nat.le_of_ble_eq_true rfl) (Nat.le_of_ble_eq_true rfl) dX0_nearest_9
  · skip
    exact absurd c42 (by omega)

