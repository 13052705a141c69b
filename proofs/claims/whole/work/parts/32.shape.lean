set_option maxRecDepth 100000 in
set_option maxHeartbeats 4000000 in
theorem c_Shape_clear (l : Launch) (D : va_G) (cI cB cJ cS : ClassId) (a an av PN pn VN vn : Nat) (pf : Nat → Nat) (fv : Nat → Int32)  : kM l yX4_clear vsX4_clear ({ frames := 0, cells := 0, slots := 0, locals := 0 }) D (kT cI cB cJ cS) [.ref a] [(a, .inr (2, [.ref an, .ref av, .int (nI pn), .int (nI vn)])), (an, .inl (cI, PN, .inl (iF pf))), (av, .inl (cI, VN, .inl fv))] (kQv D (kT cI cB cJ cS) (fun (ug : Unit) => True) (fun ug => [(a, .inr (2, [.ref an, .ref av, .int (nI 0), .int (nI 0)])), (an, .inl (cI, PN, .inl (iF pf))), (av, .inl (cI, VN, .inl fv))])) := by
  refine k_ofW (by decide) rfl (Nat.le_of_ble_eq_true rfl) ?_
  intro p e s m below meth c A ls hx hb hr hts hown hlocks hmn hml hA hP hK hD hS hZ hl
  have inX4 : ∀ w ∈ wsX40, w ∈ vsX4_clear := fun w h => List.mem_cons_of_mem _ (iaX4 w h)
  have F : CallFix p m c cX4_clear 1 s _ vsX4_clear RX4 := ⟨hx, hb, hml, hown, hts⟩
  have hl : lv_has ls 1 [(0, .ref a)] := hl
  refine lv_aload_n hx hb dX4_clear_0 rfl (lv_at hl 0 rfl) ?_
  refine lv_iconst (v := nI 0) hx hb dX4_clear_1 (by decide) ?_
  refine va_put (D := D) (ci := 2) (v := .int (nI 0)) (ty := .int) (C := RX4) (T := TX4) (N := 4) hx hb hts inX4 tyX4 tyX4_ok nmX4 hown hK hP hD hS 0 rfl rfl 2 (by decide) (hts (.fieldLink RX4 22 "ByteShapes$Shape" "numbersKept" "I") (List.mem_cons_of_mem _ wd_34)) (fun _ h9 => h9) rfl (by decide +kernel) (rfl) (rfl) (Nat.le_of_ble_eq_true rfl) dX4_clear_2 (fun H locs hP hD hS => ?_)
  have hP : va_P D kCl [(a, .inr (2, [.ref an, .ref av, .int (nI 0), .int (nI vn)])), (an, .inl (cI, PN, .inl (iF pf))), (av, .inl (cI, VN, .inl fv))] H := hP
  have hD : va_D A [(a, .inr (2, [.ref an, .ref av, .int (nI 0), .int (nI vn)])), (an, .inl (cI, PN, .inl (iF pf))), (av, .inl (cI, VN, .inl fv))] := hD
  refine lv_aload_n hx hb dX4_clear_5 rfl (lv_at hl 0 rfl) ?_
  refine lv_iconst (v := nI 0) hx hb dX4_clear_6 (by decide) ?_
  refine va_put (D := D) (ci := 2) (v := .int (nI 0)) (ty := .int) (C := RX4) (T := TX4) (N := 4) hx hb hts inX4 tyX4 tyX4_ok nmX4 hown hK hP hD hS 0 rfl rfl 3 (by decide) (hts (.fieldLink RX4 26 "ByteShapes$Shape" "valuesKept" "I") (List.mem_cons_of_mem _ wd_35)) (fun _ h9 => h9) rfl (by decide +kernel) (rfl) (rfl) (Nat.le_of_ble_eq_true rfl) dX4_clear_7 (fun H locs hP hD hS => ?_)
  have hP : va_P D kCl [(a, .inr (2, [.ref an, .ref av, .int (nI 0), .int (nI 0)])), (an, .inl (cI, PN, .inl (iF pf))), (av, .inl (cI, VN, .inl fv))] H := hP
  have hD : va_D A [(a, .inr (2, [.ref an, .ref av, .int (nI 0), .int (nI 0)])), (an, .inl (cI, PN, .inl (iF pf))), (av, .inl (cI, VN, .inl fv))] := hD
  exact k_vret () hx hb hr hlocks hK hP hD hS (rfl) (trivial) (Nat.le_of_ble_eq_true rfl) (Nat.le_of_ble_eq_true rfl) dX4_clear_10

set_option maxRecDepth 100000 in
set_option maxHeartbeats 4000000 in
theorem c_Shape_planSize (l : Launch) (D : va_G) (cI cB cJ cS : ClassId) (a an av PN pn VN vn : Nat) (pf : Nat → Nat) (fv : Nat → Int32)  : kM l yX4_planSize vsX4_planSize ({ frames := 0, cells := 0, slots := 0, locals := 0 }) D (kT cI cB cJ cS) [.ref a] [(a, .inr (2, [.ref an, .ref av, .int (nI pn), .int (nI vn)])), (an, .inl (cI, PN, .inl (iF pf))), (av, .inl (cI, VN, .inl fv))] (kQi D (kT cI cB cJ cS) (fun r (ug : Unit) => r = nI pn) (fun ug => [(a, .inr (2, [.ref an, .ref av, .int (nI pn), .int (nI vn)])), (an, .inl (cI, PN, .inl (iF pf))), (av, .inl (cI, VN, .inl fv))])) := by
  refine k_ofW (by decide) rfl (Nat.le_of_ble_eq_true rfl) ?_
  intro p e s m below meth c A ls hx hb hr hts hown hlocks hmn hml hA hP hK hD hS hZ hl
  have inX4 : ∀ w ∈ wsX40, w ∈ vsX4_planSize := fun w h => List.mem_cons_of_mem _ (iaX4 w h)
  have F : CallFix p m c cX4_planSize 1 s _ vsX4_planSize RX4 := ⟨hx, hb, hml, hown, hts⟩
  have hl : lv_has ls 1 [(0, .ref a)] := hl
  refine lv_aload_n hx hb dX4_planSize_0 rfl (lv_at hl 0 rfl) ?_
  refine va_get (D := D) (ci := 2) (v := .int (nI pn)) (C := RX4) (T := TX4) (N := 4) hx hb hts inX4 hown hK hP 0 rfl rfl 2 (by decide) (hts (.fieldLink RX4 22 "ByteShapes$Shape" "numbersKept" "I") (List.mem_cons_of_mem _ wd_34)) (fun _ h9 => h9) rfl dX4_planSize_1 ?_
  exact k_iret () hx hb hr (by first | rfl | decide | exact vp_nar_int _) hlocks hK hP hD hS (rfl) (rfl) (Nat.le_of_ble_eq_true rfl) (Nat.le_of_ble_eq_true rfl) dX4_planSize_4

set_option maxRecDepth 100000 in
set_option maxHeartbeats 4000000 in
theorem c_Shape_pointSize (l : Launch) (D : va_G) (cI cB cJ cS : ClassId) (a an av PN pn VN vn : Nat) (pf : Nat → Nat) (fv : Nat → Int32) (hVN : VN ≤ 8192) (hvn : vn ≤ VN)  : kM l yX4_pointSize vsX4_pointSize ({ frames := 0, cells := 0, slots := 0, locals := 0 }) D (kT cI cB cJ cS) [.ref a] [(a, .inr (2, [.ref an, .ref av, .int (nI pn), .int (nI vn)])), (an, .inl (cI, PN, .inl (iF pf))), (av, .inl (cI, VN, .inl fv))] (kQi D (kT cI cB cJ cS) (fun r (ug : Unit) => r = nI (vn / 2)) (fun ug => [(a, .inr (2, [.ref an, .ref av, .int (nI pn), .int (nI vn)])), (an, .inl (cI, PN, .inl (iF pf))), (av, .inl (cI, VN, .inl fv))])) := by
  refine k_ofW (by decide) rfl (Nat.le_of_ble_eq_true rfl) ?_
  intro p e s m below meth c A ls hx hb hr hts hown hlocks hmn hml hA hP hK hD hS hZ hl
  have inX4 : ∀ w ∈ wsX40, w ∈ vsX4_pointSize := fun w h => List.mem_cons_of_mem _ (iaX4 w h)
  have F : CallFix p m c cX4_pointSize 1 s _ vsX4_pointSize RX4 := ⟨hx, hb, hml, hown, hts⟩
  have hl : lv_has ls 1 [(0, .ref a)] := hl
  refine lv_aload_n hx hb dX4_pointSize_0 rfl (lv_at hl 0 rfl) ?_
  refine va_get (D := D) (ci := 2) (v := .int (nI vn)) (C := RX4) (T := TX4) (N := 4) hx hb hts inX4 hown hK hP 0 rfl rfl 3 (by decide) (hts (.fieldLink RX4 26 "ByteShapes$Shape" "valuesKept" "I") (List.mem_cons_of_mem _ wd_35)) (fun _ h9 => h9) rfl dX4_pointSize_1 ?_
  refine lv_iconst (v := nI 2) hx hb dX4_pointSize_4 (by decide) ?_
  refine lv_idiv hx hb dX4_pointSize_5 (by decide) ?_
  refine k_i (show _ = nI (vn / 2) from pk_div (by omega) (by decide) (by decide)) ?_
  exact k_iret () hx hb hr (by first | rfl | decide | exact vp_nar_int _) hlocks hK hP hD hS (rfl) (rfl) (Nat.le_of_ble_eq_true rfl) (Nat.le_of_ble_eq_true rfl) dX4_pointSize_6

set_option maxRecDepth 100000 in
set_option maxHeartbeats 4000000 in
theorem c_Shape_hasRoomForPlan1 (l : Launch) (D : va_G) (cI cB cJ cS : ClassId) (a an av PN pn VN vn : Nat) (pf : Nat → Nat) (fv : Nat → Int32) (hPN : PN ≤ 4096) (hpn : pn ≤ PN) (q : Nat) (hq : q ≤ 2) (hyes : pn + q ≤ PN)  : kM l yX4_hasRoomForPlan vsX4_hasRoomForPlan ({ frames := 0, cells := 0, slots := 0, locals := 0 }) D (kT cI cB cJ cS) [.ref a, .int (nI q)] [(a, .inr (2, [.ref an, .ref av, .int (nI pn), .int (nI vn)])), (an, .inl (cI, PN, .inl (iF pf))), (av, .inl (cI, VN, .inl fv))] (kQi D (kT cI cB cJ cS) (fun r (ug : Unit) => r = nI 1) (fun ug => [(a, .inr (2, [.ref an, .ref av, .int (nI pn), .int (nI vn)])), (an, .inl (cI, PN, .inl (iF pf))), (av, .inl (cI, VN, .inl fv))])) := by
  refine k_ofW (by decide) rfl (Nat.le_of_ble_eq_true rfl) ?_
  intro p e s m below meth c A ls hx hb hr hts hown hlocks hmn hml hA hP hK hD hS hZ hl
  have inX4 : ∀ w ∈ wsX40, w ∈ vsX4_hasRoomForPlan := fun w h => List.mem_cons_of_mem _ (iaX4 w h)
  have F : CallFix p m c cX4_hasRoomForPlan 2 s _ vsX4_hasRoomForPlan RX4 := ⟨hx, hb, hml, hown, hts⟩
  have hl : lv_has ls 2 [(0, .ref a), (1, .int (nI q))] := hl
  refine lv_iload_n hx hb dX4_hasRoomForPlan_0 rfl (lv_at hl 1 rfl) ?_
  refine lv_aload_n hx hb dX4_hasRoomForPlan_1 rfl (lv_at hl 0 rfl) ?_
  refine va_get (D := D) (ci := 2) (v := .ref an) (C := RX4) (T := TX4) (N := 4) hx hb hts inX4 hown hK hP 0 rfl rfl 0 (by decide) (hts (.fieldLink RX4 13 "ByteShapes$Shape" "numbers" "[I") (List.mem_cons_of_mem _ wd_36)) (fun _ h9 => h9) rfl dX4_hasRoomForPlan_2 ?_
  refine va_alen (v := nI PN) hx hb hK hP 1 0 rfl rfl rfl dX4_hasRoomForPlan_5 ?_
  refine lv_aload_n hx hb dX4_hasRoomForPlan_6 rfl (lv_at hl 0 rfl) ?_
  refine va_get (D := D) (ci := 2) (v := .int (nI pn)) (C := RX4) (T := TX4) (N := 4) hx hb hts inX4 hown hK hP 0 rfl rfl 2 (by decide) (hts (.fieldLink RX4 22 "ByteShapes$Shape" "numbersKept" "I") (List.mem_cons_of_mem _ wd_34)) (fun _ h9 => h9) rfl dX4_hasRoomForPlan_7 ?_
  refine lv_isub hx hb dX4_hasRoomForPlan_10 ?_
  refine k_i (show _ = nI (PN - pn) from pk_sub (by omega)) ?_
  refine k_icmp_gt (tgt := 18) (by omega) (by omega) hx hb dX4_hasRoomForPlan_11 (by decide) (fun c43 => ?_) (fun c43 => ?_)
  · skip
    exact absurd c43 (by omega)
  · skip
    refine lv_iconst (v := nI 1) hx hb dX4_hasRoomForPlan_14 (by decide) ?_
    refine lv_goto (tgt := 19) hx hb dX4_hasRoomForPlan_15 (by decide) ?_
    exact k_iret () hx hb hr (by first | rfl | decide | exact vp_nar_int _) hlocks hK hP hD hS (rfl) (rfl) (Nat.le_of_ble_eq_true rfl) (Nat.le_of_ble_eq_true rfl) dX4_hasRoomForPlan_19

set_option maxRecDepth 100000 in
set_option maxHeartbeats 4000000 in
theorem c_Shape_hasRoomForPoint1 (l : Launch) (D : va_G) (cI cB cJ cS : ClassId) (a an av PN pn VN vn : Nat) (pf : Nat → Nat) (fv : Nat → Int32) (hVN : VN ≤ 8192) (hvn : vn ≤ VN) (h2 : 2 ≤ VN) (hyes : vn + 2 ≤ VN)  : kM l yX4_hasRoomForPoint vsX4_hasRoomForPoint ({ frames := 0, cells := 0, slots := 0, locals := 0 }) D (kT cI cB cJ cS) [.ref a] [(a, .inr (2, [.ref an, .ref av, .int (nI pn), .int (nI vn)])), (an, .inl (cI, PN, .inl (iF pf))), (av, .inl (cI, VN, .inl fv))] (kQi D (kT cI cB cJ cS) (fun r (ug : Unit) => r = nI 1) (fun ug => [(a, .inr (2, [.ref an, .ref av, .int (nI pn), .int (nI vn)])), (an, .inl (cI, PN, .inl (iF pf))), (av, .inl (cI, VN, .inl fv))])) := by
  refine k_ofW (by decide) rfl (Nat.le_of_ble_eq_true rfl) ?_
  intro p e s m below meth c A ls hx hb hr hts hown hlocks hmn hml hA hP hK hD hS hZ hl
  have inX4 : ∀ w ∈ wsX40, w ∈ vsX4_hasRoomForPoint := fun w h => List.mem_cons_of_mem _ (iaX4 w h)
  have F : CallFix p m c cX4_hasRoomForPoint 1 s _ vsX4_hasRoomForPoint RX4 := ⟨hx, hb, hml, hown, hts⟩
  have hl : lv_has ls 1 [(0, .ref a)] := hl
  refine lv_aload_n hx hb dX4_hasRoomForPoint_0 rfl (lv_at hl 0 rfl) ?_
  refine va_get (D := D) (ci := 2) (v := .int (nI vn)) (C := RX4) (T := TX4) (N := 4) hx hb hts inX4 hown hK hP 0 rfl rfl 3 (by decide) (hts (.fieldLink RX4 26 "ByteShapes$Shape" "valuesKept" "I") (List.mem_cons_of_mem _ wd_35)) (fun _ h9 => h9) rfl dX4_hasRoomForPoint_1 ?_
  refine lv_aload_n hx hb dX4_hasRoomForPoint_4 rfl (lv_at hl 0 rfl) ?_
  refine va_get (D := D) (ci := 2) (v := .ref av) (C := RX4) (T := TX4) (N := 4) hx hb hts inX4 hown hK hP 0 rfl rfl 1 (by decide) (hts (.fieldLink RX4 19 "ByteShapes$Shape" "values" "[I") (List.mem_cons_of_mem _ wd_37)) (fun _ h9 => h9) rfl dX4_hasRoomForPoint_5 ?_
  refine va_alen (v := nI VN) hx hb hK hP 2 0 rfl rfl rfl dX4_hasRoomForPoint_8 ?_
  refine lv_iconst (v := nI 2) hx hb dX4_hasRoomForPoint_9 (by decide) ?_
  refine lv_isub hx hb dX4_hasRoomForPoint_10 ?_
  refine k_i (show _ = nI (VN - 2) from pk_sub (by omega)) ?_
  refine k_icmp_gt (tgt := 18) (by omega) (by omega) hx hb dX4_hasRoomForPoint_11 (by decide) (fun c44 => ?_) (fun c44 => ?_)
  · skip
    exact absurd c44 (by omega)
  · skip
    refine lv_iconst (v := nI 1) hx hb dX4_hasRoomForPoint_14 (by decide) ?_
    refine lv_goto (tgt := 19) hx hb dX4_hasRoomForPoint_15 (by decide) ?_
    exact k_iret () hx hb hr (by first | rfl | decide | exact vp_nar_int _) hlocks hK hP hD hS (rfl) (rfl) (Nat.le_of_ble_eq_true rfl) (Nat.le_of_ble_eq_true rfl) dX4_hasRoomForPoint_19

set_option maxRecDepth 100000 in
set_option maxHeartbeats 4000000 in
theorem c_Shape_hasRoomForPlan0 (l : Launch) (D : va_G) (cI cB cJ cS : ClassId) (a an av PN pn VN vn : Nat) (pf : Nat → Nat) (fv : Nat → Int32) (hPN : PN ≤ 4096) (hpn : pn ≤ PN) (q : Nat) (hq : q ≤ 2) (hyes : PN < pn + q)  : kM l yX4_hasRoomForPlan vsX4_hasRoomForPlan ({ frames := 0, cells := 0, slots := 0, locals := 0 }) D (kT cI cB cJ cS) [.ref a, .int (nI q)] [(a, .inr (2, [.ref an, .ref av, .int (nI pn), .int (nI vn)])), (an, .inl (cI, PN, .inl (iF pf))), (av, .inl (cI, VN, .inl fv))] (kQi D (kT cI cB cJ cS) (fun r (ug : Unit) => r = nI 0) (fun ug => [(a, .inr (2, [.ref an, .ref av, .int (nI pn), .int (nI vn)])), (an, .inl (cI, PN, .inl (iF pf))), (av, .inl (cI, VN, .inl fv))])) := by
  refine k_ofW (by decide) rfl (Nat.le_of_ble_eq_true rfl) ?_
  intro p e s m below meth c A ls hx hb hr hts hown hlocks hmn hml hA hP hK hD hS hZ hl
  have inX4 : ∀ w ∈ wsX40, w ∈ vsX4_hasRoomForPlan := fun w h => List.mem_cons_of_mem _ (iaX4 w h)
  have F : CallFix p m c cX4_hasRoomForPlan 2 s _ vsX4_hasRoomForPlan RX4 := ⟨hx, hb, hml, hown, hts⟩
  have hl : lv_has ls 2 [(0, .ref a), (1, .int (nI q))] := hl
  refine lv_iload_n hx hb dX4_hasRoomForPlan_0 rfl (lv_at hl 1 rfl) ?_
  refine lv_aload_n hx hb dX4_hasRoomForPlan_1 rfl (lv_at hl 0 rfl) ?_
  refine va_get (D := D) (ci := 2) (v := .ref an) (C := RX4) (T := TX4) (N := 4) hx hb hts inX4 hown hK hP 0 rfl rfl 0 (by decide) (hts (.fieldLink RX4 13 "ByteShapes$Shape" "numbers" "[I") (List.mem_cons_of_mem _ wd_36)) (fun _ h9 => h9) rfl dX4_hasRoomForPlan_2 ?_
  refine va_alen (v := nI PN) hx hb hK hP 1 0 rfl rfl rfl dX4_hasRoomForPlan_5 ?_
  refine lv_aload_n hx hb dX4_hasRoomForPlan_6 rfl (lv_at hl 0 rfl) ?_
  refine va_get (D := D) (ci := 2) (v := .int (nI pn)) (C := RX4) (T := TX4) (N := 4) hx hb hts inX4 hown hK hP 0 rfl rfl 2 (by decide) (hts (.fieldLink RX4 22 "ByteShapes$Shape" "numbersKept" "I") (List.mem_cons_of_mem _ wd_34)) (fun _ h9 => h9) rfl dX4_hasRoomForPlan_7 ?_
  refine lv_isub hx hb dX4_hasRoomForPlan_10 ?_
  refine k_i (show _ = nI (PN - pn) from pk_sub (by omega)) ?_
  refine k_icmp_gt (tgt := 18) (by omega) (by omega) hx hb dX4_hasRoomForPlan_11 (by decide) (fun c45 => ?_) (fun c45 => ?_)
  · skip
    refine lv_iconst (v := nI 0) hx hb dX4_hasRoomForPlan_18 (by decide) ?_
    exact k_iret () hx hb hr (by first | rfl | decide | exact vp_nar_int _) hlocks hK hP hD hS (rfl) (rfl) (Nat.le_of_ble_eq_true rfl) (Nat.le_of_ble_eq_true rfl) dX4_hasRoomForPlan_19
  · skip
    exact absurd c45 (by omega)

set_option maxRecDepth 100000 in
set_option maxHeartbeats 4000000 in
theorem c_Shape_hasRoomForPoint0 (l : Launch) (D : va_G) (cI cB cJ cS : ClassId) (a an av PN pn VN vn : Nat) (pf : Nat → Nat) (fv : Nat → Int32) (hVN : VN ≤ 8192) (hvn : vn ≤ VN) (h2 : 2 ≤ VN) (hyes : VN < vn + 2)  : kM l yX4_hasRoomForPoint vsX4_hasRoomForPoint ({ frames := 0, cells := 0, slots := 0, locals := 0 }) D (kT cI cB cJ cS) [.ref a] [(a, .inr (2, [.ref an, .ref av, .int (nI pn), .int (nI vn)])), (an, .inl (cI, PN, .inl (iF pf))), (av, .inl (cI, VN, .inl fv))] (kQi D (kT cI cB cJ cS) (fun r (ug : Unit) => r = nI 0) (fun ug => [(a, .inr (2, [.ref an, .ref av, .int (nI pn), .int (nI vn)])), (an, .inl (cI, PN, .inl (iF pf))), (av, .inl (cI, VN, .inl fv))])) := by
  refine k_ofW (by decide) rfl (Nat.le_of_ble_eq_true rfl) ?_
  intro p e s m below meth c A ls hx hb hr hts hown hlocks hmn hml hA hP hK hD hS hZ hl
  have inX4 : ∀ w ∈ wsX40, w ∈ vsX4_hasRoomForPoint := fun w h => List.mem_cons_of_mem _ (iaX4 w h)
  have F : CallFix p m c cX4_hasRoomForPoint 1 s _ vsX4_hasRoomForPoint RX4 := ⟨hx, hb, hml, hown, hts⟩
  have hl : lv_has ls 1 [(0, .ref a)] := hl
  refine lv_aload_n hx hb dX4_hasRoomForPoint_0 rfl (lv_at hl 0 rfl) ?_
  refine va_get (D := D) (ci := 2) (v := .int (nI vn)) (C := RX4) (T := TX4) (N := 4) hx hb hts inX4 hown hK hP 0 rfl rfl 3 (by decide) (hts (.fieldLink RX4 26 "ByteShapes$Shape" "valuesKept" "I") (List.mem_cons_of_mem _ wd_35)) (fun _ h9 => h9) rfl dX4_hasRoomForPoint_1 ?_
  refine lv_aload_n hx hb dX4_hasRoomForPoint_4 rfl (lv_at hl 0 rfl) ?_
  refine va_get (D := D) (ci := 2) (v := .ref av) (C := RX4) (T := TX4) (N := 4) hx hb hts inX4 hown hK hP 0 rfl rfl 1 (by decide) (hts (.fieldLink RX4 19 "ByteShapes$Shape" "values" "[I") (List.mem_cons_of_mem _ wd_37)) (fun _ h9 => h9) rfl dX4_hasRoomForPoint_5 ?_
  refine va_alen (v := nI VN) hx hb hK hP 2 0 rfl rfl rfl dX4_hasRoomForPoint_8 ?_
  refine lv_iconst (v := nI 2) hx hb dX4_hasRoomForPoint_9 (by decide) ?_
  refine lv_isub hx hb dX4_hasRoomForPoint_10 ?_
  refine k_i (show _ = nI (VN - 2) from pk_sub (by omega)) ?_
  refine k_icmp_gt (tgt := 18) (by omega) (by omega) hx hb dX4_hasRoomForPoint_11 (by decide) (fun c46 => ?_) (fun c46 => ?_)
  · skip
    refine lv_iconst (v := nI 0) hx hb dX4_hasRoomForPoint_18 (by decide) ?_
    exact k_iret () hx hb hr (by first | rfl | decide | exact vp_nar_int _) hlocks hK hP hD hS (rfl) (rfl) (Nat.le_of_ble_eq_true rfl) (Nat.le_of_ble_eq_true rfl) dX4_hasRoomForPoint_19
  · skip
    exact absurd c46 (by omega)

set_option maxRecDepth 100000 in
set_option maxHeartbeats 4000000 in
theorem c_Shape_addNumber (l : Launch) (D : va_G) (cI cB cJ cS : ClassId) (a an av PN pn VN vn : Nat) (pf : Nat → Nat) (fv : Nat → Int32) (hPN : PN ≤ 4096) (hpn : pn ≤ PN) (q : Nat) (hlt : pn < PN)  : kM l yX4_addNumber vsX4_addNumber ({ frames := 0, cells := 0, slots := 0, locals := 0 }) D (kT cI cB cJ cS) [.ref a, .int (nI q)] [(a, .inr (2, [.ref an, .ref av, .int (nI pn), .int (nI vn)])), (an, .inl (cI, PN, .inl (iF pf))), (av, .inl (cI, VN, .inl fv))] (kQv D (kT cI cB cJ cS) (fun (ug : Unit) => True) (fun ug => [(a, .inr (2, [.ref an, .ref av, .int (nI (pn + 1)), .int (nI vn)])), (an, .inl (cI, PN, .inl (iF (va_up pf pn q)))), (av, .inl (cI, VN, .inl fv))])) := by
  refine k_ofW (by decide) rfl (Nat.le_of_ble_eq_true rfl) ?_
  intro p e s m below meth c A ls hx hb hr hts hown hlocks hmn hml hA hP hK hD hS hZ hl
  have inX4 : ∀ w ∈ wsX40, w ∈ vsX4_addNumber := fun w h => List.mem_cons_of_mem _ (iaX4 w h)
  have F : CallFix p m c cX4_addNumber 2 s _ vsX4_addNumber RX4 := ⟨hx, hb, hml, hown, hts⟩
  have hl : lv_has ls 2 [(0, .ref a), (1, .int (nI q))] := hl
  refine lv_aload_n hx hb dX4_addNumber_0 rfl (lv_at hl 0 rfl) ?_
  refine va_get (D := D) (ci := 2) (v := .int (nI pn)) (C := RX4) (T := TX4) (N := 4) hx hb hts inX4 hown hK hP 0 rfl rfl 2 (by decide) (hts (.fieldLink RX4 22 "ByteShapes$Shape" "numbersKept" "I") (List.mem_cons_of_mem _ wd_34)) (fun _ h9 => h9) rfl dX4_addNumber_1 ?_
  refine lv_aload_n hx hb dX4_addNumber_4 rfl (lv_at hl 0 rfl) ?_
  refine va_get (D := D) (ci := 2) (v := .ref an) (C := RX4) (T := TX4) (N := 4) hx hb hts inX4 hown hK hP 0 rfl rfl 0 (by decide) (hts (.fieldLink RX4 13 "ByteShapes$Shape" "numbers" "[I") (List.mem_cons_of_mem _ wd_36)) (fun _ h9 => h9) rfl dX4_addNumber_5 ?_
  refine va_alen (v := nI PN) hx hb hK hP 1 0 rfl rfl rfl dX4_addNumber_8 ?_
  refine k_icmp_ge (tgt := 32) (by omega) (by omega) hx hb dX4_addNumber_9 (by decide) (fun c47 => ?_) (fun c47 => ?_)
  · skip
    exact absurd c47 (by omega)
  · skip
    refine lv_aload_n hx hb dX4_addNumber_12 rfl (lv_at hl 0 rfl) ?_
    refine va_get (D := D) (ci := 2) (v := .ref an) (C := RX4) (T := TX4) (N := 4) hx hb hts inX4 hown hK hP 0 rfl rfl 0 (by decide) (hts (.fieldLink RX4 13 "ByteShapes$Shape" "numbers" "[I") (List.mem_cons_of_mem _ wd_36)) (fun _ h9 => h9) rfl dX4_addNumber_13 ?_
    refine lv_aload_n hx hb dX4_addNumber_16 rfl (lv_at hl 0 rfl) ?_
    refine va_get (D := D) (ci := 2) (v := .int (nI pn)) (C := RX4) (T := TX4) (N := 4) hx hb hts inX4 hown hK hP 0 rfl rfl 2 (by decide) (hts (.fieldLink RX4 22 "ByteShapes$Shape" "numbersKept" "I") (List.mem_cons_of_mem _ wd_34)) (fun _ h9 => h9) rfl dX4_addNumber_17 ?_
    refine lv_iload_n hx hb dX4_addNumber_20 rfl (lv_at hl 1 rfl) ?_
    refine va_iast hx hb hK hP hD hS 1 0 rfl rfl (vp_in_nI (by omega) (by omega)) dX4_addNumber_21 (fun H locs hP hD hS => ?_)
    rw [show upd (iF pf) (nI pn).toNatClampNeg (nI q) = iF (va_up pf pn q) from by rw [nI_clamp (by omega)]; exact iF_put _ _ _] at hP hD
    have hP : va_P D kCl [(a, .inr (2, [.ref an, .ref av, .int (nI pn), .int (nI vn)])), (an, .inl (cI, PN, .inl (iF (va_up pf pn q)))), (av, .inl (cI, VN, .inl fv))] H := hP
    have hD : va_D A [(a, .inr (2, [.ref an, .ref av, .int (nI pn), .int (nI vn)])), (an, .inl (cI, PN, .inl (iF (va_up pf pn q)))), (av, .inl (cI, VN, .inl fv))] := hD
    refine lv_aload_n hx hb dX4_addNumber_22 rfl (lv_at hl 0 rfl) ?_
    refine lv_dup hx hb dX4_addNumber_23 rfl ?_
    refine va_get (D := D) (ci := 2) (v := .int (nI pn)) (C := RX4) (T := TX4) (N := 4) hx hb hts inX4 hown hK hP 0 rfl rfl 2 (by decide) (hts (.fieldLink RX4 22 "ByteShapes$Shape" "numbersKept" "I") (List.mem_cons_of_mem _ wd_34)) (fun _ h9 => h9) rfl dX4_addNumber_24 ?_
    refine lv_iconst (v := nI 1) hx hb dX4_addNumber_27 (by decide) ?_
    refine lv_iadd hx hb dX4_addNumber_28 ?_
    refine k_i (show _ = nI (pn + 1) from nI_add _ _) ?_
    refine va_put (D := D) (ci := 2) (v := .int (nI (pn + 1))) (ty := .int) (C := RX4) (T := TX4) (N := 4) hx hb hts inX4 tyX4 tyX4_ok nmX4 hown hK hP hD hS 0 rfl rfl 2 (by decide) (hts (.fieldLink RX4 22 "ByteShapes$Shape" "numbersKept" "I") (List.mem_cons_of_mem _ wd_34)) (fun _ h9 => h9) rfl (by decide +kernel) (rfl) (rfl) (Nat.le_of_ble_eq_true rfl) dX4_addNumber_29 (fun H locs hP hD hS => ?_)
    have hP : va_P D kCl [(a, .inr (2, [.ref an, .ref av, .int (nI (pn + 1)), .int (nI vn)])), (an, .inl (cI, PN, .inl (iF (va_up pf pn q)))), (av, .inl (cI, VN, .inl fv))] H := hP
    have hD : va_D A [(a, .inr (2, [.ref an, .ref av, .int (nI (pn + 1)), .int (nI vn)])), (an, .inl (cI, PN, .inl (iF (va_up pf pn q)))), (av, .inl (cI, VN, .inl fv))] := hD
    exact k_vret () hx hb hr hlocks hK hP hD hS (rfl) (trivial) (Nat.le_of_ble_eq_true rfl) (Nat.le_of_ble_eq_true rfl) dX4_addNumber_32

set_option maxRecDepth 100000 in
set_option maxHeartbeats 4000000 in
theorem c_Shape_addValue (l : Launch) (D : va_G) (cI cB cJ cS : ClassId) (a an av PN pn VN vn : Nat) (pf : Nat → Nat) (fv : Nat → Int32) (hVN : VN ≤ 8192) (hvn : vn ≤ VN) (z : Int32) (hlt : vn < VN)  : kM l yX4_addValue vsX4_addValue ({ frames := 0, cells := 0, slots := 0, locals := 0 }) D (kT cI cB cJ cS) [.ref a, .int z] [(a, .inr (2, [.ref an, .ref av, .int (nI pn), .int (nI vn)])), (an, .inl (cI, PN, .inl (iF pf))), (av, .inl (cI, VN, .inl fv))] (kQv D (kT cI cB cJ cS) (fun (ug : Unit) => True) (fun ug => [(a, .inr (2, [.ref an, .ref av, .int (nI pn), .int (nI (vn + 1))])), (an, .inl (cI, PN, .inl (iF pf))), (av, .inl (cI, VN, .inl (upd fv vn z)))])) := by
  refine k_ofW (by decide) rfl (Nat.le_of_ble_eq_true rfl) ?_
  intro p e s m below meth c A ls hx hb hr hts hown hlocks hmn hml hA hP hK hD hS hZ hl
  have inX4 : ∀ w ∈ wsX40, w ∈ vsX4_addValue := fun w h => List.mem_cons_of_mem _ (iaX4 w h)
  have F : CallFix p m c cX4_addValue 2 s _ vsX4_addValue RX4 := ⟨hx, hb, hml, hown, hts⟩
  have hl : lv_has ls 2 [(0, .ref a), (1, .int z)] := hl
  refine lv_aload_n hx hb dX4_addValue_0 rfl (lv_at hl 0 rfl) ?_
  refine va_get (D := D) (ci := 2) (v := .int (nI vn)) (C := RX4) (T := TX4) (N := 4) hx hb hts inX4 hown hK hP 0 rfl rfl 3 (by decide) (hts (.fieldLink RX4 26 "ByteShapes$Shape" "valuesKept" "I") (List.mem_cons_of_mem _ wd_35)) (fun _ h9 => h9) rfl dX4_addValue_1 ?_
  refine lv_aload_n hx hb dX4_addValue_4 rfl (lv_at hl 0 rfl) ?_
  refine va_get (D := D) (ci := 2) (v := .ref av) (C := RX4) (T := TX4) (N := 4) hx hb hts inX4 hown hK hP 0 rfl rfl 1 (by decide) (hts (.fieldLink RX4 19 "ByteShapes$Shape" "values" "[I") (List.mem_cons_of_mem _ wd_37)) (fun _ h9 => h9) rfl dX4_addValue_5 ?_
  refine va_alen (v := nI VN) hx hb hK hP 2 0 rfl rfl rfl dX4_addValue_8 ?_
  refine k_icmp_ge (tgt := 32) (by omega) (by omega) hx hb dX4_addValue_9 (by decide) (fun c48 => ?_) (fun c48 => ?_)
  · skip
    exact absurd c48 (by omega)
  · skip
    refine lv_aload_n hx hb dX4_addValue_12 rfl (lv_at hl 0 rfl) ?_
    refine va_get (D := D) (ci := 2) (v := .ref av) (C := RX4) (T := TX4) (N := 4) hx hb hts inX4 hown hK hP 0 rfl rfl 1 (by decide) (hts (.fieldLink RX4 19 "ByteShapes$Shape" "values" "[I") (List.mem_cons_of_mem _ wd_37)) (fun _ h9 => h9) rfl dX4_addValue_13 ?_
    refine lv_aload_n hx hb dX4_addValue_16 rfl (lv_at hl 0 rfl) ?_
    refine va_get (D := D) (ci := 2) (v := .int (nI vn)) (C := RX4) (T := TX4) (N := 4) hx hb hts inX4 hown hK hP 0 rfl rfl 3 (by decide) (hts (.fieldLink RX4 26 "ByteShapes$Shape" "valuesKept" "I") (List.mem_cons_of_mem _ wd_35)) (fun _ h9 => h9) rfl dX4_addValue_17 ?_
    refine lv_iload_n hx hb dX4_addValue_20 rfl (lv_at hl 1 rfl) ?_
    refine va_iast hx hb hK hP hD hS 2 0 rfl rfl (vp_in_nI (by omega) (by omega)) dX4_addValue_21 (fun H locs hP hD hS => ?_)
    rw [show upd fv (nI vn).toNatClampNeg z = upd fv vn z from by rw [nI_clamp (by omega)]] at hP hD
    have hP : va_P D kCl [(a, .inr (2, [.ref an, .ref av, .int (nI pn), .int (nI vn)])), (an, .inl (cI, PN, .inl (iF pf))), (av, .inl (cI, VN, .inl (upd fv vn z)))] H := hP
    have hD : va_D A [(a, .inr (2, [.ref an, .ref av, .int (nI pn), .int (nI vn)])), (an, .inl (cI, PN, .inl (iF pf))), (av, .inl (cI, VN, .inl (upd fv vn z)))] := hD
    refine lv_aload_n hx hb dX4_addValue_22 rfl (lv_at hl 0 rfl) ?_
    refine lv_dup hx hb dX4_addValue_23 rfl ?_
    refine va_get (D := D) (ci := 2) (v := .int (nI vn)) (C := RX4) (T := TX4) (N := 4) hx hb hts inX4 hown hK hP 0 rfl rfl 3 (by decide) (hts (.fieldLink RX4 26 "ByteShapes$Shape" "valuesKept" "I") (List.mem_cons_of_mem _ wd_35)) (fun _ h9 => h9) rfl dX4_addValue_24 ?_
    refine lv_iconst (v := nI 1) hx hb dX4_addValue_27 (by decide) ?_
    refine lv_iadd hx hb dX4_addValue_28 ?_
    refine k_i (show _ = nI (vn + 1) from nI_add _ _) ?_
    refine va_put (D := D) (ci := 2) (v := .int (nI (vn + 1))) (ty := .int) (C := RX4) (T := TX4) (N := 4) hx hb hts inX4 tyX4 tyX4_ok nmX4 hown hK hP hD hS 0 rfl rfl 3 (by decide) (hts (.fieldLink RX4 26 "ByteShapes$Shape" "valuesKept" "I") (List.mem_cons_of_mem _ wd_35)) (fun _ h9 => h9) rfl (by decide +kernel) (rfl) (rfl) (Nat.le_of_ble_eq_true rfl) dX4_addValue_29 (fun H locs hP hD hS => ?_)
    have hP : va_P D kCl [(a, .inr (2, [.ref an, .ref av, .int (nI pn), .int (nI (vn + 1))])), (an, .inl (cI, PN, .inl (iF pf))), (av, .inl (cI, VN, .inl (upd fv vn z)))] H := hP
    have hD : va_D A [(a, .inr (2, [.ref an, .ref av, .int (nI pn), .int (nI (vn + 1))])), (an, .inl (cI, PN, .inl (iF pf))), (av, .inl (cI, VN, .inl (upd fv vn z)))] := hD
    exact k_vret () hx hb hr hlocks hK hP hD hS (rfl) (trivial) (Nat.le_of_ble_eq_true rfl) (Nat.le_of_ble_eq_true rfl) dX4_addValue_32

set_option maxRecDepth 100000 in
set_option maxHeartbeats 4000000 in
theorem c_Shape_planAt (l : Launch) (D : va_G) (cI cB cJ cS : ClassId) (a an av PN pn VN vn : Nat) (pf : Nat → Nat) (fv : Nat → Int32) (hPN : PN ≤ 4096) (hpn : pn ≤ PN) (j : Nat) (hj : j < pn)  : kM l yX4_planAt vsX4_planAt ({ frames := 0, cells := 0, slots := 0, locals := 0 }) D (kT cI cB cJ cS) [.ref a, .int (nI j)] [(a, .inr (2, [.ref an, .ref av, .int (nI pn), .int (nI vn)])), (an, .inl (cI, PN, .inl (iF pf))), (av, .inl (cI, VN, .inl fv))] (kQi D (kT cI cB cJ cS) (fun r (ug : Unit) => r = nI (pf j)) (fun ug => [(a, .inr (2, [.ref an, .ref av, .int (nI pn), .int (nI vn)])), (an, .inl (cI, PN, .inl (iF pf))), (av, .inl (cI, VN, .inl fv))])) := by
  refine k_ofW (by decide) rfl (Nat.le_of_ble_eq_true rfl) ?_
  intro p e s m below meth c A ls hx hb hr hts hown hlocks hmn hml hA hP hK hD hS hZ hl
  have inX4 : ∀ w ∈ wsX40, w ∈ vsX4_planAt := fun w h => List.mem_cons_of_mem _ (iaX4 w h)
  have F : CallFix p m c cX4_planAt 2 s _ vsX4_planAt RX4 := ⟨hx, hb, hml, hown, hts⟩
  have hl : lv_has ls 2 [(0, .ref a), (1, .int (nI j))] := hl
  refine lv_iload_n hx hb dX4_planAt_0 rfl (lv_at hl 1 rfl) ?_
  refine k_if_lt (tgt := 12) (by omega) hx hb dX4_planAt_1 (by decide) (fun c49 => ?_) (fun c49 => ?_)
  · skip
    exact c49.elim
  · skip
    refine lv_iload_n hx hb dX4_planAt_4 rfl (lv_at hl 1 rfl) ?_
    refine lv_aload_n hx hb dX4_planAt_5 rfl (lv_at hl 0 rfl) ?_
    refine va_get (D := D) (ci := 2) (v := .int (nI pn)) (C := RX4) (T := TX4) (N := 4) hx hb hts inX4 hown hK hP 0 rfl rfl 2 (by decide) (hts (.fieldLink RX4 22 "ByteShapes$Shape" "numbersKept" "I") (List.mem_cons_of_mem _ wd_34)) (fun _ h9 => h9) rfl dX4_planAt_6 ?_
    refine k_icmp_lt (tgt := 22) (by omega) (by omega) hx hb dX4_planAt_9 (by decide) (fun c50 => ?_) (fun c50 => ?_)
    · skip
      refine lv_aload_n hx hb dX4_planAt_22 rfl (lv_at hl 0 rfl) ?_
      refine va_get (D := D) (ci := 2) (v := .ref an) (C := RX4) (T := TX4) (N := 4) hx hb hts inX4 hown hK hP 0 rfl rfl 0 (by decide) (hts (.fieldLink RX4 13 "ByteShapes$Shape" "numbers" "[I") (List.mem_cons_of_mem _ wd_36)) (fun _ h9 => h9) rfl dX4_planAt_23 ?_
      refine lv_iload_n hx hb dX4_planAt_26 rfl (lv_at hl 1 rfl) ?_
      refine va_iald hx hb hK hP 1 0 rfl rfl (vp_in_nI (by omega) (by omega)) dX4_planAt_27 ?_
      refine k_i (show _ = (iF pf) j from congrArg (iF pf) (nI_clamp (by omega))) ?_
      exact k_iret () hx hb hr (by first | rfl | decide | exact vp_nar_int _) hlocks hK hP hD hS (rfl) (rfl) (Nat.le_of_ble_eq_true rfl) (Nat.le_of_ble_eq_true rfl) dX4_planAt_28
    · skip
      exact absurd c50 (by omega)

set_option maxRecDepth 100000 in
set_option maxHeartbeats 4000000 in
theorem c_Shape_valueOfPoint (l : Launch) (D : va_G) (cI cB cJ cS : ClassId) (a an av PN pn VN vn : Nat) (pf : Nat → Nat) (fv : Nat → Int32) (hVN : VN ≤ 8192) (hvn : vn ≤ VN) (j w : Nat) (hj : j < vn / 2) (hw2 : w < 2)  : kM l yX4_valueOfPoint vsX4_valueOfPoint ({ frames := 1, cells := 0, slots := 0, locals := 20 }) D (kT cI cB cJ cS) [.ref a, .int (nI j), .int (nI w)] [(a, .inr (2, [.ref an, .ref av, .int (nI pn), .int (nI vn)])), (an, .inl (cI, PN, .inl (iF pf))), (av, .inl (cI, VN, .inl fv))] (kQi D (kT cI cB cJ cS) (fun r (ug : Unit) => r = fv (2 * j + w)) (fun ug => [(a, .inr (2, [.ref an, .ref av, .int (nI pn), .int (nI vn)])), (an, .inl (cI, PN, .inl (iF pf))), (av, .inl (cI, VN, .inl fv))])) := by
  refine k_ofW (by decide) rfl (Nat.le_of_ble_eq_true rfl) ?_
  intro p e s m below meth c A ls hx hb hr hts hown hlocks hmn hml hA hP hK hD hS hZ hl
  have inX4 : ∀ w ∈ wsX40, w ∈ vsX4_valueOfPoint := fun w h => List.mem_cons_of_mem _ (iaX4 w h)
  have F : CallFix p m c cX4_valueOfPoint 3 s _ vsX4_valueOfPoint RX4 := ⟨hx, hb, hml, hown, hts⟩
  have hl : lv_has ls 3 [(0, .ref a), (1, .int (nI j)), (2, .int (nI w))] := hl
  refine lv_iload_n hx hb dX4_valueOfPoint_0 rfl (lv_at hl 1 rfl) ?_
  refine k_if_lt (tgt := 21) (by omega) hx hb dX4_valueOfPoint_1 (by decide) (fun c51 => ?_) (fun c51 => ?_)
  · skip
    exact c51.elim
  · skip
    refine lv_iload_n hx hb dX4_valueOfPoint_4 rfl (lv_at hl 1 rfl) ?_
    refine lv_aload_n hx hb dX4_valueOfPoint_5 rfl (lv_at hl 0 rfl) ?_
    refine k_ci (wr := []) (k_rv F (c_Shape_pointSize l D cI cB cJ cS a an av PN pn VN vn pf fv hVN hvn) (cwV 0 hts (g_V wd_38 wd_39 wd_40 wd_41 wd_42) rfl rfl rfl (by decide +kernel) ⟨Nat.le_of_ble_eq_true rfl, Nat.le_of_ble_eq_true rfl⟩) hK hP hD hS hA hZ [0, 1, 2] rfl (by decide) 0 rfl rfl rfl rfl hl.1 rfl (Nat.le_of_ble_eq_true rfl) dX4_valueOfPoint_6 ⟨Nat.le_of_ble_eq_true rfl, Nat.le_of_ble_eq_true rfl⟩) hP hD hS hA [0, 1, 2] [] rfl rfl (by decide) (by decide) (fun r u9 H locs hw hP hD hS => ?_)
    subst hw
    have hP : va_P D kCl [(a, .inr (2, [.ref an, .ref av, .int (nI pn), .int (nI vn)])), (an, .inl (cI, PN, .inl (iF pf))), (av, .inl (cI, VN, .inl fv))] H := hP
    have hD : va_D A [(a, .inr (2, [.ref an, .ref av, .int (nI pn), .int (nI vn)])), (an, .inl (cI, PN, .inl (iF pf))), (av, .inl (cI, VN, .inl fv))] := hD
    refine W.widen (k := 0) (n := 0) (Nat.le_of_ble_eq_true rfl) (Nat.le_of_ble_eq_true rfl) ?_
    refine k_icmp_ge (tgt := 21) (by omega) (by omega) hx hb dX4_valueOfPoint_9 (by decide) (fun c52 => ?_) (fun c52 => ?_)
    · skip
      exact absurd c52 (by omega)
    · skip
      refine lv_iload_n hx hb dX4_valueOfPoint_12 rfl (lv_at hl 2 rfl) ?_
      refine k_if_lt (tgt := 21) (by omega) hx hb dX4_valueOfPoint_13 (by decide) (fun c53 => ?_) (fun c53 => ?_)
      · skip
        exact c53.elim
      · skip
        refine lv_iload_n hx hb dX4_valueOfPoint_16 rfl (lv_at hl 2 rfl) ?_
        refine lv_iconst (v := nI 1) hx hb dX4_valueOfPoint_17 (by decide) ?_
        refine k_icmp_le (tgt := 31) (by omega) (by omega) hx hb dX4_valueOfPoint_18 (by decide) (fun c54 => ?_) (fun c54 => ?_)
        · skip
          refine lv_aload_n hx hb dX4_valueOfPoint_31 rfl (lv_at hl 0 rfl) ?_
          refine va_get (D := D) (ci := 2) (v := .ref av) (C := RX4) (T := TX4) (N := 4) hx hb hts inX4 hown hK hP 0 rfl rfl 1 (by decide) (hts (.fieldLink RX4 19 "ByteShapes$Shape" "values" "[I") (List.mem_cons_of_mem _ wd_37)) (fun _ h9 => h9) rfl dX4_valueOfPoint_32 ?_
          refine lv_iconst (v := nI 2) hx hb dX4_valueOfPoint_35 (by decide) ?_
          refine lv_iload_n hx hb dX4_valueOfPoint_36 rfl (lv_at hl 1 rfl) ?_
          refine lv_imul hx hb dX4_valueOfPoint_37 ?_
          refine k_i (show _ = nI (2 * j) from pk_mul _ _) ?_
          refine lv_iload_n hx hb dX4_valueOfPoint_38 rfl (lv_at hl 2 rfl) ?_
          refine lv_iadd hx hb dX4_valueOfPoint_39 ?_
          refine k_i (show _ = nI ((2 * j) + w) from nI_add _ _) ?_
          refine va_iald hx hb hK hP 2 0 rfl rfl (vp_in_nI (by omega) (by omega)) dX4_valueOfPoint_40 ?_
          refine k_i (show _ = fv ((2 * j) + w) from congrArg fv (nI_clamp (by omega))) ?_
          exact k_iret () hx hb hr (by first | rfl | decide | exact vp_nar_int _) hlocks hK hP hD hS (rfl) (rfl) (Nat.le_of_ble_eq_true rfl) (Nat.le_of_ble_eq_true rfl) dX4_valueOfPoint_41
        · skip
          exact absurd c54 (by omega)

set_option maxRecDepth 100000 in
set_option maxHeartbeats 4000000 in
theorem c_Shape_startsAlike0 (l : Launch) (D : va_G) (cI cB cJ cS : ClassId) (x M n n2 : Nat) (f : Nat → Int32) (x2 M2 : Nat) (f2 : Nat → Int32) (hM : M ≤ 8192) (hn : n ≤ M) (hM2 : M2 ≤ 8192) (hn2 : n2 ≤ M2)  : kM l yX4_startsAlike vsX4_startsAlike ({ frames := 0, cells := 0, slots := 0, locals := 0 }) D (kT cI cB cJ cS) [.ref x, .int (nI n), .ref x2, .int (nI n2)] [(x, .inl (cI, M, .inl f)), (x2, .inl (cI, M2, .inl f2))] (kQi D (kT cI cB cJ cS) (fun r (ug : Unit) => (r = nI 1 ∧ n = n2 ∧ ∀ i, i < n → f i = f2 i) ∨ (r = nI 0 ∧ ¬ (n = n2 ∧ ∀ i, i < n → f i = f2 i))) (fun ug => [(x, .inl (cI, M, .inl f)), (x2, .inl (cI, M2, .inl f2))])) := by
  refine k_ofW (by decide) rfl (Nat.le_of_ble_eq_true rfl) ?_
  intro p e s m below meth c A ls hx hb hr hts hown hlocks hmn hml hA hP hK hD hS hZ hl
  have F : CallFix p m c cX4_startsAlike 5 s _ vsX4_startsAlike RX4 := ⟨hx, hb, hml, hown, hts⟩
  have hl : lv_has ls 5 [(0, .ref x), (1, .int (nI n)), (2, .ref x2), (3, .int (nI n2))] := hl
  refine lv_iload_n hx hb dX4_startsAlike_0 rfl (lv_at hl 1 rfl) ?_
  refine lv_iload_n hx hb dX4_startsAlike_1 rfl (lv_at hl 3 rfl) ?_
  refine k_icmp_ne (tgt := 17) (by omega) (by omega) hx hb dX4_startsAlike_2 (by decide) (fun hnn => ?_) (fun hnn => ?_)
  · skip
    refine lv_iconst (v := nI 0) hx hb dX4_startsAlike_17 (by decide) ?_
    exact k_iret () hx hb hr (by first | rfl | decide | exact vp_nar_int _) hlocks hK hP hD hS (rfl) (Or.inr ⟨rfl, fun h => hnn h.1⟩) (Nat.le_of_ble_eq_true rfl) (Nat.le_of_ble_eq_true rfl) dX4_startsAlike_18
  · skip
    refine lv_iload_n hx hb dX4_startsAlike_5 rfl (lv_at hl 1 rfl) ?_
    refine lv_aload_n hx hb dX4_startsAlike_6 rfl (lv_at hl 0 rfl) ?_
    refine va_alen (v := nI M) hx hb hK hP 0 0 rfl rfl rfl dX4_startsAlike_7 ?_
    refine k_icmp_gt (tgt := 17) (by omega) (by omega) hx hb dX4_startsAlike_8 (by decide) (fun c55 => ?_) (fun c55 => ?_)
    · skip
      exact absurd c55 (by omega)
    · skip
      refine lv_iload_n hx hb dX4_startsAlike_11 rfl (lv_at hl 3 rfl) ?_
      refine lv_aload_n hx hb dX4_startsAlike_12 rfl (lv_at hl 2 rfl) ?_
      refine va_alen (v := nI M2) hx hb hK hP 1 0 rfl rfl rfl dX4_startsAlike_13 ?_
      refine k_icmp_le (tgt := 19) (by omega) (by omega) hx hb dX4_startsAlike_14 (by decide) (fun c56 => ?_) (fun c56 => ?_)
      · skip
        refine lv_iconst (v := nI 0) hx hb dX4_startsAlike_19 (by decide) ?_
        refine lv_istore (lv' := [(4, .int (nI 0)), (0, .ref x), (1, .int (nI n)), (2, .ref x2), (3, .int (nI n2))]) hx hb dX4_startsAlike_20 hl (by decide) rfl (fun ls hl => ?_)
        have loop57 : ∀ (k58 : Nat) (i : Nat) (H : Heap) (locs : List Loc) (ls : Array Slot), n - i < k58 → (i ≤ n) → (∀ j, j < i → f j = f2 j) → va_P D kCl [(x, .inl (cI, M, .inl f)), (x2, .inl (cI, M2, .inl f2))] H → va_D A [(x, .inl (cI, M, .inl f)), (x2, .inl (cI, M2, .inl f2))] → va_S A s.heap H locs → lv_has ls 5 [(0, .ref x), (1, .int (nI n)), (2, .ref x2), (3, .int (nI n2)), (4, .int (nI i))] → W p l e ({ frames := 0, cells := 0, slots := 0, locals := 0 }) s m ([.ref x, .int (nI n), .ref x2, .int (nI n2)] : List Value).toArray below meth c H locs 0 0 (MQ below ((kQi D (kT cI cB cJ cS) (fun r (ug : Unit) => (r = nI 1 ∧ n = n2 ∧ ∀ i, i < n → f i = f2 i) ∨ (r = nI 0 ∧ ¬ (n = n2 ∧ ∀ i, i < n → f i = f2 i))) (fun ug => [(x, .inl (cI, M, .inl f)), (x2, .inl (cI, M2, .inl f2))])) A) ([.ref x, .int (nI n), .ref x2, .int (nI n2)] : List Value).toArray s ({ frames := 0, cells := 0, slots := 0, locals := 0 } : Room).cells ({ frames := 0, cells := 0, slots := 0, locals := 0 } : Room).slots A) (F0 m 22 ls []) := by
          intro k58
          induction k58 with
          | zero =>
            intro i H locs ls hk9
            exact absurd hk9 (Nat.not_lt_zero _)
          | succ k58 ihloop57 =>
            intro i H locs ls hk9 hi hal hP hD hS hl
            refine lv_iload hx hb dX4_startsAlike_22 (lv_at hl 4 rfl) ?_
            refine lv_iload_n hx hb dX4_startsAlike_24 rfl (lv_at hl 1 rfl) ?_
            refine k_icmp_ge (tgt := 47) (by omega) (by omega) hx hb dX4_startsAlike_25 (by decide) (fun c59 => ?_) (fun c59 => ?_)
            · skip
              refine lv_iconst (v := nI 1) hx hb dX4_startsAlike_47 (by decide) ?_
              exact k_iret () hx hb hr (by first | rfl | decide | exact vp_nar_int _) hlocks hK hP hD hS (rfl) (Or.inl ⟨rfl, hnn, fun j h => hal j (by omega)⟩) (Nat.le_of_ble_eq_true rfl) (Nat.le_of_ble_eq_true rfl) dX4_startsAlike_48
            · skip
              refine lv_aload_n hx hb dX4_startsAlike_28 rfl (lv_at hl 0 rfl) ?_
              refine lv_iload hx hb dX4_startsAlike_29 (lv_at hl 4 rfl) ?_
              refine va_iald hx hb hK hP 0 0 rfl rfl (vp_in_nI (by omega) (by omega)) dX4_startsAlike_31 ?_
              refine k_i (show _ = f i from congrArg f (nI_clamp (by omega))) ?_
              refine lv_aload_n hx hb dX4_startsAlike_32 rfl (lv_at hl 2 rfl) ?_
              refine lv_iload hx hb dX4_startsAlike_33 (lv_at hl 4 rfl) ?_
              refine va_iald hx hb hK hP 1 0 rfl rfl (vp_in_nI (by omega) (by omega)) dX4_startsAlike_35 ?_
              refine k_i (show _ = f2 i from congrArg f2 (nI_clamp (by omega))) ?_
              refine lv_icmp_eq (tgt := 41) hx hb dX4_startsAlike_36 (by decide) (fun hne => ?_) (fun hne => ?_)
              · skip
                refine lv_iinc (v := nI (i + 1)) (lv' := [(4, .int (nI (i + 1))), (0, .ref x), (1, .int (nI n)), (2, .ref x2), (3, .int (nI n2))]) hx hb dX4_startsAlike_41 hl (k := 4) rfl (nI_add _ _) (by decide) rfl (fun ls hl => ?_)
                refine lv_goto (tgt := 22) hx hb dX4_startsAlike_44 (by decide) ?_
                exact ihloop57 (i + 1) _ _ _ (by omega) (by omega) (fun j h => by rcases Nat.lt_succ_iff_lt_or_eq.mp h with h | h; exact hal j h; rw [h]; exact hne) (hP.sub [0, 1] rfl) (hD.sub [0, 1] (by decide) rfl) hS (lv_sub hl [1, 2, 3, 4, 0] rfl)
              · skip
                refine lv_iconst (v := nI 0) hx hb dX4_startsAlike_39 (by decide) ?_
                exact k_iret () hx hb hr (by first | rfl | decide | exact vp_nar_int _) hlocks hK hP hD hS (rfl) (Or.inr ⟨rfl, fun h => hne (h.2 i (by omega))⟩) (Nat.le_of_ble_eq_true rfl) (Nat.le_of_ble_eq_true rfl) dX4_startsAlike_40
        exact loop57 ((n - 0) + 1) 0 _ _ _ (Nat.lt_succ_self _) (Nat.zero_le _) (fun j h => absurd h (Nat.not_lt_zero _)) (hP.sub [0, 1] rfl) (hD.sub [0, 1] (by decide) rfl) hS (lv_sub hl [1, 2, 3, 4, 0] rfl)
      · skip
        exact absurd c56 (by omega)

set_option maxRecDepth 100000 in
set_option maxHeartbeats 4000000 in
theorem c_Shape_startsAlike1 (l : Launch) (D : va_G) (cI cB cJ cS : ClassId) (x M n n2 : Nat) (f : Nat → Int32) (hM : M ≤ 8192) (hn : n ≤ M) (hM2 : M ≤ 8192) (hn2 : n2 ≤ M)  : kM l yX4_startsAlike vsX4_startsAlike ({ frames := 0, cells := 0, slots := 0, locals := 0 }) D (kT cI cB cJ cS) [.ref x, .int (nI n), .ref x, .int (nI n2)] [(x, .inl (cI, M, .inl f))] (kQi D (kT cI cB cJ cS) (fun r (ug : Unit) => (r = nI 1 ∧ n = n2 ∧ ∀ i, i < n → f i = f i) ∨ (r = nI 0 ∧ ¬ (n = n2 ∧ ∀ i, i < n → f i = f i))) (fun ug => [(x, .inl (cI, M, .inl f))])) := by
  refine k_ofW (by decide) rfl (Nat.le_of_ble_eq_true rfl) ?_
  intro p e s m below meth c A ls hx hb hr hts hown hlocks hmn hml hA hP hK hD hS hZ hl
  have F : CallFix p m c cX4_startsAlike 5 s _ vsX4_startsAlike RX4 := ⟨hx, hb, hml, hown, hts⟩
  have hl : lv_has ls 5 [(0, .ref x), (1, .int (nI n)), (2, .ref x), (3, .int (nI n2))] := hl
  refine lv_iload_n hx hb dX4_startsAlike_0 rfl (lv_at hl 1 rfl) ?_
  refine lv_iload_n hx hb dX4_startsAlike_1 rfl (lv_at hl 3 rfl) ?_
  refine k_icmp_ne (tgt := 17) (by omega) (by omega) hx hb dX4_startsAlike_2 (by decide) (fun hnn => ?_) (fun hnn => ?_)
  · skip
    refine lv_iconst (v := nI 0) hx hb dX4_startsAlike_17 (by decide) ?_
    exact k_iret () hx hb hr (by first | rfl | decide | exact vp_nar_int _) hlocks hK hP hD hS (rfl) (Or.inr ⟨rfl, fun h => hnn h.1⟩) (Nat.le_of_ble_eq_true rfl) (Nat.le_of_ble_eq_true rfl) dX4_startsAlike_18
  · skip
    refine lv_iload_n hx hb dX4_startsAlike_5 rfl (lv_at hl 1 rfl) ?_
    refine lv_aload_n hx hb dX4_startsAlike_6 rfl (lv_at hl 0 rfl) ?_
    refine va_alen (v := nI M) hx hb hK hP 0 0 rfl rfl rfl dX4_startsAlike_7 ?_
    refine k_icmp_gt (tgt := 17) (by omega) (by omega) hx hb dX4_startsAlike_8 (by decide) (fun c60 => ?_) (fun c60 => ?_)
    · skip
      exact absurd c60 (by omega)
    · skip
      refine lv_iload_n hx hb dX4_startsAlike_11 rfl (lv_at hl 3 rfl) ?_
      refine lv_aload_n hx hb dX4_startsAlike_12 rfl (lv_at hl 2 rfl) ?_
      refine va_alen (v := nI M) hx hb hK hP 0 0 rfl rfl rfl dX4_startsAlike_13 ?_
      refine k_icmp_le (tgt := 19) (by omega) (by omega) hx hb dX4_startsAlike_14 (by decide) (fun c61 => ?_) (fun c61 => ?_)
      · skip
        refine lv_iconst (v := nI 0) hx hb dX4_startsAlike_19 (by decide) ?_
        refine lv_istore (lv' := [(4, .int (nI 0)), (0, .ref x), (1, .int (nI n)), (2, .ref x), (3, .int (nI n2))]) hx hb dX4_startsAlike_20 hl (by decide) rfl (fun ls hl => ?_)
        have loop62 : ∀ (k63 : Nat) (i : Nat) (H : Heap) (locs : List Loc) (ls : Array Slot), n - i < k63 → (i ≤ n) → (∀ j, j < i → f j = f j) → va_P D kCl [(x, .inl (cI, M, .inl f))] H → va_D A [(x, .inl (cI, M, .inl f))] → va_S A s.heap H locs → lv_has ls 5 [(0, .ref x), (1, .int (nI n)), (2, .ref x), (3, .int (nI n2)), (4, .int (nI i))] → W p l e ({ frames := 0, cells := 0, slots := 0, locals := 0 }) s m ([.ref x, .int (nI n), .ref x, .int (nI n2)] : List Value).toArray below meth c H locs 0 0 (MQ below ((kQi D (kT cI cB cJ cS) (fun r (ug : Unit) => (r = nI 1 ∧ n = n2 ∧ ∀ i, i < n → f i = f i) ∨ (r = nI 0 ∧ ¬ (n = n2 ∧ ∀ i, i < n → f i = f i))) (fun ug => [(x, .inl (cI, M, .inl f))])) A) ([.ref x, .int (nI n), .ref x, .int (nI n2)] : List Value).toArray s ({ frames := 0, cells := 0, slots := 0, locals := 0 } : Room).cells ({ frames := 0, cells := 0, slots := 0, locals := 0 } : Room).slots A) (F0 m 22 ls []) := by
          intro k63
          induction k63 with
          | zero =>
            intro i H locs ls hk9
            exact absurd hk9 (Nat.not_lt_zero _)
          | succ k63 ihloop62 =>
            intro i H locs ls hk9 hi hal hP hD hS hl
            refine lv_iload hx hb dX4_startsAlike_22 (lv_at hl 4 rfl) ?_
            refine lv_iload_n hx hb dX4_startsAlike_24 rfl (lv_at hl 1 rfl) ?_
            refine k_icmp_ge (tgt := 47) (by omega) (by omega) hx hb dX4_startsAlike_25 (by decide) (fun c64 => ?_) (fun c64 => ?_)
            · skip
              refine lv_iconst (v := nI 1) hx hb dX4_startsAlike_47 (by decide) ?_
              exact k_iret () hx hb hr (by first | rfl | decide | exact vp_nar_int _) hlocks hK hP hD hS (rfl) (Or.inl ⟨rfl, hnn, fun j h => hal j (by omega)⟩) (Nat.le_of_ble_eq_true rfl) (Nat.le_of_ble_eq_true rfl) dX4_startsAlike_48
            · skip
              refine lv_aload_n hx hb dX4_startsAlike_28 rfl (lv_at hl 0 rfl) ?_
              refine lv_iload hx hb dX4_startsAlike_29 (lv_at hl 4 rfl) ?_
              refine va_iald hx hb hK hP 0 0 rfl rfl (vp_in_nI (by omega) (by omega)) dX4_startsAlike_31 ?_
              refine k_i (show _ = f i from congrArg f (nI_clamp (by omega))) ?_
              refine lv_aload_n hx hb dX4_startsAlike_32 rfl (lv_at hl 2 rfl) ?_
              refine lv_iload hx hb dX4_startsAlike_33 (lv_at hl 4 rfl) ?_
              refine va_iald hx hb hK hP 0 0 rfl rfl (vp_in_nI (by omega) (by omega)) dX4_startsAlike_35 ?_
              refine k_i (show _ = f i from congrArg f (nI_clamp (by omega))) ?_
              refine lv_icmp_eq (tgt := 41) hx hb dX4_startsAlike_36 (by decide) (fun hne => ?_) (fun hne => ?_)
              · skip
                refine lv_iinc (v := nI (i + 1)) (lv' := [(4, .int (nI (i + 1))), (0, .ref x), (1, .int (nI n)), (2, .ref x), (3, .int (nI n2))]) hx hb dX4_startsAlike_41 hl (k := 4) rfl (nI_add _ _) (by decide) rfl (fun ls hl => ?_)
                refine lv_goto (tgt := 22) hx hb dX4_startsAlike_44 (by decide) ?_
                exact ihloop62 (i + 1) _ _ _ (by omega) (by omega) (fun j h => by rcases Nat.lt_succ_iff_lt_or_eq.mp h with h | h; exact hal j h; rw [h]) (hP.sub [0] rfl) (hD.sub [0] (by decide) rfl) hS (lv_sub hl [1, 2, 3, 4, 0] rfl)
              · skip
                refine lv_iconst (v := nI 0) hx hb dX4_startsAlike_39 (by decide) ?_
                exact k_iret () hx hb hr (by first | rfl | decide | exact vp_nar_int _) hlocks hK hP hD hS (rfl) (Or.inr ⟨rfl, fun h => hne (h.2 i (by omega))⟩) (Nat.le_of_ble_eq_true rfl) (Nat.le_of_ble_eq_true rfl) dX4_startsAlike_40
        exact loop62 ((n - 0) + 1) 0 _ _ _ (Nat.lt_succ_self _) (Nat.zero_le _) (fun j h => absurd h (Nat.not_lt_zero _)) (hP.sub [0] rfl) (hD.sub [0] (by decide) rfl) hS (lv_sub hl [1, 2, 3, 4, 0] rfl)
      · skip
        exact absurd c61 (by omega)

