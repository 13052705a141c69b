set_option maxRecDepth 100000 in
set_option maxHeartbeats 4000000 in
theorem c_Fr_nearest (l : Launch) (D : va_G) (cI cB cJ cS : ClassId) (z : Int32) (u : Nat) (hz : fvOk z) (hu1 : 1 ≤ u) (hu2 : u ≤ 1000) : kM l yX0_nearest vsX0_nearest ({ frames := 1, cells := 0, slots := 0, locals := 25 }) D (kT cI cB cJ cS) [.int z, .int (nI u)] [] (kQl D (kT cI cB cJ cS) (fun r (u9 : Unit) => r = lN (wB z u)) (fun u9 => [])) := by
  obtain ⟨k, hk, hz⟩ := hz
  by_cases h0 : k = 0
  · subst h0
    have e : z = nI 0 := by rcases hz with h | h <;> rw [h] <;> rfl
    subst e
    exact c_Fr_nearest0 l D cI cB cJ cS u
  · rcases hz with h | h
    · subst h
      rw [← wB_pos (by omega) (by omega)]
      exact c_Fr_nearestP l D cI cB cJ cS k u (by omega) hk hu1 hu2
    · subst h
      rw [← wB_neg (by omega) (by omega)]
      exact c_Fr_nearestM l D cI cB cJ cS k u (by omega) hk hu1 hu2

set_option maxRecDepth 100000 in
set_option maxHeartbeats 4000000 in
theorem c_Wr_nextOfPlan (l : Launch) (D : va_G) (cI cB cJ cS : ClassId) (wt sh sn sv rs rsb u lo i q n PN pn VN vn : Nat) (b pf : Nat → Nat) (fv : Nat → Int32) (hPN : PN ≤ 4096) (hpn : pn ≤ PN) (hVN : VN ≤ 8192) (hvn : vn ≤ VN) (hn : n ≤ 65536) (hlo2 : lo < 2) (hi : i ≤ pn) (hq : q ≤ vn / 2) (hu1 : 1 ≤ u) (hu2 : u ≤ 1000) (hfv : ∀ j, j < vn → fvOk (fv j)) (hlt : i < pn)  : kM l yX5_nextOfPlan vsX5_nextOfPlan ({ frames := 1, cells := 0, slots := 0, locals := 21 }) D (kT cI cB cJ cS) [.ref wt] [(wt, .inr (3, [.int (nI u), .ref sh, .ref rs, .int (nI lo), .int (nI i), .int (nI q)])), (sh, .inr (2, [.ref sn, .ref sv, .int (nI pn), .int (nI vn)])), (sn, .inl (cI, PN, .inl (iF pf))), (sv, .inl (cI, VN, .inl fv)), (rs, .inr (1, [.ref rsb, .int (nI n)])), (rsb, .inl (cB, 65536, .inl (bF b)))] (kQi D (kT cI cB cJ cS) (fun r (ug : Unit) => r = nI (pf i)) (fun ug => [(wt, .inr (3, [.int (nI u), .ref sh, .ref rs, .int (nI lo), .int (nI (i + 1)), .int (nI q)])), (sh, .inr (2, [.ref sn, .ref sv, .int (nI pn), .int (nI vn)])), (sn, .inl (cI, PN, .inl (iF pf))), (sv, .inl (cI, VN, .inl fv)), (rs, .inr (1, [.ref rsb, .int (nI n)])), (rsb, .inl (cB, 65536, .inl (bF b)))])) := by
  refine k_ofW (by decide) rfl (Nat.le_of_ble_eq_true rfl) ?_
  intro p e s m below meth c A ls hx hb hr hts hown hlocks hmn hml hA hP hK hD hS hZ hl
  have inX3 : ∀ w ∈ wsX30, w ∈ vsX5_nextOfPlan := fun w h => List.mem_cons_of_mem _ (iaX3 w h)
  have inX4 : ∀ w ∈ wsX40, w ∈ vsX5_nextOfPlan := fun w h => List.mem_cons_of_mem _ (iaX4 w h)
  have inX5 : ∀ w ∈ wsX50, w ∈ vsX5_nextOfPlan := fun w h => List.mem_cons_of_mem _ (iaX5 w h)
  have F : CallFix p m c cX5_nextOfPlan 2 s _ vsX5_nextOfPlan RX5 := ⟨hx, hb, hml, hown, hts⟩
  have hl : lv_has ls 2 [(0, .ref wt)] := hl
  refine lv_aload_n hx hb dX5_nextOfPlan_0 rfl (lv_at hl 0 rfl) ?_
  refine va_get (D := D) (ci := 3) (v := .ref sh) (C := RX5) (T := TX5) (N := 6) hx hb hts inX5 hown hK hP 0 rfl rfl 1 (by decide) (hts (.fieldLink RX5 13 "ByteShapes$Writer" "shape" "LByteShapes$Shape;") (List.mem_cons_of_mem _ wd_257)) (fun _ h9 => h9) rfl dX5_nextOfPlan_1 ?_
  refine lv_aload_n hx hb dX5_nextOfPlan_4 rfl (lv_at hl 0 rfl) ?_
  refine va_get (D := D) (ci := 3) (v := .int (nI i)) (C := RX5) (T := TX5) (N := 6) hx hb hts inX5 hown hK hP 0 rfl rfl 4 (by decide) (hts (.fieldLink RX5 24 "ByteShapes$Writer" "planAt" "I") (List.mem_cons_of_mem _ wd_258)) (fun _ h9 => h9) rfl dX5_nextOfPlan_5 ?_
  refine k_ci (wr := [(wt, .inr (3, [.int (nI u), .ref sh, .ref rs, .int (nI lo), .int (nI i), .int (nI q)])), (rs, .inr (1, [.ref rsb, .int (nI n)])), (rsb, .inl (cB, 65536, .inl (bF b)))]) (k_rv F (c_Shape_planAt l D cI cB cJ cS sh sn sv PN pn VN vn pf fv hPN hpn i hlt) (cwV 1 hts (g_V wd_259 wd_223 wd_224 wd_41 wd_225) rfl rfl rfl (by decide +kernel) ⟨Nat.le_of_ble_eq_true rfl, Nat.le_of_ble_eq_true rfl⟩) hK hP hD hS hA hZ [1, 2, 3] rfl (by decide) 1 rfl rfl rfl rfl hl.1 rfl (Nat.le_of_ble_eq_true rfl) dX5_nextOfPlan_8 ⟨Nat.le_of_ble_eq_true rfl, Nat.le_of_ble_eq_true rfl⟩) hP hD hS hA [1, 2, 3] [0, 4, 5] rfl rfl (by decide) (by decide) (fun r u9 H locs hw hP hD hS => ?_)
  subst hw
  have hP : va_P D kCl [(wt, .inr (3, [.int (nI u), .ref sh, .ref rs, .int (nI lo), .int (nI i), .int (nI q)])), (rs, .inr (1, [.ref rsb, .int (nI n)])), (rsb, .inl (cB, 65536, .inl (bF b))), (sh, .inr (2, [.ref sn, .ref sv, .int (nI pn), .int (nI vn)])), (sn, .inl (cI, PN, .inl (iF pf))), (sv, .inl (cI, VN, .inl fv))] H := hP
  have hD : va_D A [(wt, .inr (3, [.int (nI u), .ref sh, .ref rs, .int (nI lo), .int (nI i), .int (nI q)])), (rs, .inr (1, [.ref rsb, .int (nI n)])), (rsb, .inl (cB, 65536, .inl (bF b))), (sh, .inr (2, [.ref sn, .ref sv, .int (nI pn), .int (nI vn)])), (sn, .inl (cI, PN, .inl (iF pf))), (sv, .inl (cI, VN, .inl fv))] := hD
  refine W.widen (k := 0) (n := 0) (Nat.le_of_ble_eq_true rfl) (Nat.le_of_ble_eq_true rfl) ?_
  refine lv_istore_n (lv' := [(1, .int (nI (pf i))), (0, .ref wt)]) hx hb dX5_nextOfPlan_11 rfl hl (by decide) rfl (fun ls hl => ?_)
  refine lv_aload_n hx hb dX5_nextOfPlan_12 rfl (lv_at hl 1 rfl) ?_
  refine lv_dup hx hb dX5_nextOfPlan_13 rfl ?_
  refine va_get (D := D) (ci := 3) (v := .int (nI i)) (C := RX5) (T := TX5) (N := 6) hx hb hts inX5 hown hK hP 0 rfl rfl 4 (by decide) (hts (.fieldLink RX5 24 "ByteShapes$Writer" "planAt" "I") (List.mem_cons_of_mem _ wd_258)) (fun _ h9 => h9) rfl dX5_nextOfPlan_14 ?_
  refine lv_iconst (v := nI 1) hx hb dX5_nextOfPlan_17 (by decide) ?_
  refine lv_iadd hx hb dX5_nextOfPlan_18 ?_
  refine k_i (show _ = nI (i + 1) from nI_add _ _) ?_
  refine va_put (D := D) (ci := 3) (v := .int (nI (i + 1))) (ty := .int) (C := RX5) (T := TX5) (N := 6) hx hb hts inX5 tyX5 tyX5_ok nmX5 hown hK hP hD hS 0 rfl rfl 4 (by decide) (hts (.fieldLink RX5 24 "ByteShapes$Writer" "planAt" "I") (List.mem_cons_of_mem _ wd_258)) (fun _ h9 => h9) rfl (by decide +kernel) (rfl) (rfl) (Nat.le_of_ble_eq_true rfl) dX5_nextOfPlan_19 (fun H locs hP hD hS => ?_)
  have hP : va_P D kCl [(wt, .inr (3, [.int (nI u), .ref sh, .ref rs, .int (nI lo), .int (nI (i + 1)), .int (nI q)])), (rs, .inr (1, [.ref rsb, .int (nI n)])), (rsb, .inl (cB, 65536, .inl (bF b))), (sh, .inr (2, [.ref sn, .ref sv, .int (nI pn), .int (nI vn)])), (sn, .inl (cI, PN, .inl (iF pf))), (sv, .inl (cI, VN, .inl fv))] H := hP
  have hD : va_D A [(wt, .inr (3, [.int (nI u), .ref sh, .ref rs, .int (nI lo), .int (nI (i + 1)), .int (nI q)])), (rs, .inr (1, [.ref rsb, .int (nI n)])), (rsb, .inl (cB, 65536, .inl (bF b))), (sh, .inr (2, [.ref sn, .ref sv, .int (nI pn), .int (nI vn)])), (sn, .inl (cI, PN, .inl (iF pf))), (sv, .inl (cI, VN, .inl fv))] := hD
  refine lv_iload_n hx hb dX5_nextOfPlan_22 rfl (lv_at hl 0 rfl) ?_
  have hP : va_P D kCl [(wt, .inr (3, [.int (nI u), .ref sh, .ref rs, .int (nI lo), .int (nI (i + 1)), .int (nI q)])), (sh, .inr (2, [.ref sn, .ref sv, .int (nI pn), .int (nI vn)])), (sn, .inl (cI, PN, .inl (iF pf))), (sv, .inl (cI, VN, .inl fv)), (rs, .inr (1, [.ref rsb, .int (nI n)])), (rsb, .inl (cB, 65536, .inl (bF b)))] H := hP.sub [0, 3, 4, 5, 1, 2] rfl
  have hD : va_D A [(wt, .inr (3, [.int (nI u), .ref sh, .ref rs, .int (nI lo), .int (nI (i + 1)), .int (nI q)])), (sh, .inr (2, [.ref sn, .ref sv, .int (nI pn), .int (nI vn)])), (sn, .inl (cI, PN, .inl (iF pf))), (sv, .inl (cI, VN, .inl fv)), (rs, .inr (1, [.ref rsb, .int (nI n)])), (rsb, .inl (cB, 65536, .inl (bF b)))] := hD.sub [0, 3, 4, 5, 1, 2] (by decide) rfl
  exact k_iret () hx hb hr (by first | rfl | decide | exact vp_nar_int _) hlocks hK hP hD hS (rfl) (rfl) (Nat.le_of_ble_eq_true rfl) (Nat.le_of_ble_eq_true rfl) dX5_nextOfPlan_23

set_option maxRecDepth 100000 in
set_option maxHeartbeats 4000000 in
theorem c_Wr_put (l : Launch) (D : va_G) (cI cB cJ cS : ClassId) (wt sh sn sv rs rsb u lo i q n PN pn VN vn : Nat) (b pf : Nat → Nat) (fv : Nat → Int32) (hPN : PN ≤ 4096) (hpn : pn ≤ PN) (hVN : VN ≤ 8192) (hvn : vn ≤ VN) (hn : n ≤ 65536) (hlo2 : lo < 2) (hi : i ≤ pn) (hq : q ≤ vn / 2) (hu1 : 1 ≤ u) (hu2 : u ≤ 1000) (hfv : ∀ j, j < vn → fvOk (fv j)) (v len : Nat) (hlen : len ≤ 8) (hnl : n + len ≤ 65536) (hv64 : v < 2 ^ 64)  : kM l yX5_put vsX5_put ({ frames := 1, cells := 0, slots := 0, locals := 26 }) D (kT cI cB cJ cS) [.ref wt, .long (lN v), .int (nI len)] [(wt, .inr (3, [.int (nI u), .ref sh, .ref rs, .int (nI lo), .int (nI i), .int (nI q)])), (sh, .inr (2, [.ref sn, .ref sv, .int (nI pn), .int (nI vn)])), (sn, .inl (cI, PN, .inl (iF pf))), (sv, .inl (cI, VN, .inl fv)), (rs, .inr (1, [.ref rsb, .int (nI n)])), (rsb, .inl (cB, 65536, .inl (bF b)))] (kQv D (kT cI cB cJ cS) (fun (ug : Unit) => True) (fun ug => [(wt, .inr (3, [.int (nI u), .ref sh, .ref rs, .int (nI lo), .int (nI i), .int (nI q)])), (sh, .inr (2, [.ref sn, .ref sv, .int (nI pn), .int (nI vn)])), (sn, .inl (cI, PN, .inl (iF pf))), (sv, .inl (cI, VN, .inl fv)), (rs, .inr (1, [.ref rsb, .int (nI (n + len))])), (rsb, .inl (cB, 65536, .inl (bF (pA b n v len lo len))))])) := by
  refine k_ofW (by decide) rfl (Nat.le_of_ble_eq_true rfl) ?_
  intro p e s m below meth c A ls hx hb hr hts hown hlocks hmn hml hA hP hK hD hS hZ hl
  have inX3 : ∀ w ∈ wsX30, w ∈ vsX5_put := fun w h => List.mem_cons_of_mem _ (iaX3 w h)
  have inX4 : ∀ w ∈ wsX40, w ∈ vsX5_put := fun w h => List.mem_cons_of_mem _ (iaX4 w h)
  have inX5 : ∀ w ∈ wsX50, w ∈ vsX5_put := fun w h => List.mem_cons_of_mem _ (iaX5 w h)
  have F : CallFix p m c cX5_put 4 s _ vsX5_put RX5 := ⟨hx, hb, hml, hown, hts⟩
  have hl : lv_has ls 4 [(0, .ref wt), (1, .long (lN v)), (3, .int (nI len))] := hl
  refine lv_aload_n hx hb dX5_put_0 rfl (lv_at hl 0 rfl) ?_
  refine va_get (D := D) (ci := 3) (v := .ref rs) (C := RX5) (T := TX5) (N := 6) hx hb hts inX5 hown hK hP 0 rfl rfl 2 (by decide) (hts (.fieldLink RX5 17 "ByteShapes$Writer" "row" "LByteShapes$Row;") (List.mem_cons_of_mem _ wd_260)) (fun _ h9 => h9) rfl dX5_put_1 ?_
  refine lv_lload_n hx hb dX5_put_4 rfl (lv_at hl 1 rfl) ?_
  refine lv_iload_n hx hb dX5_put_5 rfl (lv_at hl 2 rfl) ?_
  refine lv_aload_n hx hb dX5_put_6 rfl (lv_at hl 0 rfl) ?_
  refine va_get (D := D) (ci := 3) (v := .int (nI lo)) (C := RX5) (T := TX5) (N := 6) hx hb hts inX5 hown hK hP 0 rfl rfl 3 (by decide) (hts (.fieldLink RX5 21 "ByteShapes$Writer" "order" "I") (List.mem_cons_of_mem _ wd_261)) (fun _ h9 => h9) rfl dX5_put_7 ?_
  refine lv_iconst (v := nI 1) hx hb dX5_put_10 (by decide) ?_
  refine k_icmp_ne (tgt := 18) (by omega) (by omega) hx hb dX5_put_11 (by decide) (fun c161 => ?_) (fun c161 => ?_)
  · skip
    refine lv_iconst (v := nI 0) hx hb dX5_put_18 (by decide) ?_
    refine k_i (show _ = nI lo from by rw [show lo = 0 by omega]) ?_
    refine k_cv (wr := [(wt, .inr (3, [.int (nI u), .ref sh, .ref rs, .int (nI lo), .int (nI i), .int (nI q)])), (sh, .inr (2, [.ref sn, .ref sv, .int (nI pn), .int (nI vn)])), (sn, .inl (cI, PN, .inl (iF pf))), (sv, .inl (cI, VN, .inl fv))]) (k_rv F (c_Row_append l D cI cB cJ cS rs rsb n b v len lo (by omega) hlen hlo2 hv64) (cwV 3 hts (g_V wd_262 wd_206 wd_207 wd_50 wd_208) rfl rfl rfl (by decide +kernel) ⟨Nat.le_of_ble_eq_true rfl, Nat.le_of_ble_eq_true rfl⟩) hK hP hD hS hA hZ [4, 5] rfl (by decide) 4 rfl rfl rfl rfl hl.1 rfl (Nat.le_of_ble_eq_true rfl) dX5_put_19 ⟨Nat.le_of_ble_eq_true rfl, Nat.le_of_ble_eq_true rfl⟩) hP hD hS hA [4, 5] [0, 1, 2, 3] rfl rfl (by decide) (by decide) (fun u9 H locs hw hP hD hS => ?_)
    have hP : va_P D kCl [(wt, .inr (3, [.int (nI u), .ref sh, .ref rs, .int (nI lo), .int (nI i), .int (nI q)])), (sh, .inr (2, [.ref sn, .ref sv, .int (nI pn), .int (nI vn)])), (sn, .inl (cI, PN, .inl (iF pf))), (sv, .inl (cI, VN, .inl fv)), (rs, .inr (1, [.ref rsb, .int (nI (n + len))])), (rsb, .inl (cB, 65536, .inl (bF (pA b n v len lo len))))] H := hP
    have hD : va_D A [(wt, .inr (3, [.int (nI u), .ref sh, .ref rs, .int (nI lo), .int (nI i), .int (nI q)])), (sh, .inr (2, [.ref sn, .ref sv, .int (nI pn), .int (nI vn)])), (sn, .inl (cI, PN, .inl (iF pf))), (sv, .inl (cI, VN, .inl fv)), (rs, .inr (1, [.ref rsb, .int (nI (n + len))])), (rsb, .inl (cB, 65536, .inl (bF (pA b n v len lo len))))] := hD
    refine W.widen (k := 0) (n := 0) (Nat.le_of_ble_eq_true rfl) (Nat.le_of_ble_eq_true rfl) ?_
    exact k_vret () hx hb hr hlocks hK hP hD hS (rfl) (trivial) (Nat.le_of_ble_eq_true rfl) (Nat.le_of_ble_eq_true rfl) dX5_put_22
  · skip
    refine lv_iconst (v := nI 1) hx hb dX5_put_14 (by decide) ?_
    refine lv_goto (tgt := 19) hx hb dX5_put_15 (by decide) ?_
    refine k_i (show _ = nI lo from by rw [show lo = 1 by omega]) ?_
    refine k_cv (wr := [(wt, .inr (3, [.int (nI u), .ref sh, .ref rs, .int (nI lo), .int (nI i), .int (nI q)])), (sh, .inr (2, [.ref sn, .ref sv, .int (nI pn), .int (nI vn)])), (sn, .inl (cI, PN, .inl (iF pf))), (sv, .inl (cI, VN, .inl fv))]) (k_rv F (c_Row_append l D cI cB cJ cS rs rsb n b v len lo (by omega) hlen hlo2 hv64) (cwV 3 hts (g_V wd_262 wd_206 wd_207 wd_50 wd_208) rfl rfl rfl (by decide +kernel) ⟨Nat.le_of_ble_eq_true rfl, Nat.le_of_ble_eq_true rfl⟩) hK hP hD hS hA hZ [4, 5] rfl (by decide) 4 rfl rfl rfl rfl hl.1 rfl (Nat.le_of_ble_eq_true rfl) dX5_put_19 ⟨Nat.le_of_ble_eq_true rfl, Nat.le_of_ble_eq_true rfl⟩) hP hD hS hA [4, 5] [0, 1, 2, 3] rfl rfl (by decide) (by decide) (fun u9 H locs hw hP hD hS => ?_)
    have hP : va_P D kCl [(wt, .inr (3, [.int (nI u), .ref sh, .ref rs, .int (nI lo), .int (nI i), .int (nI q)])), (sh, .inr (2, [.ref sn, .ref sv, .int (nI pn), .int (nI vn)])), (sn, .inl (cI, PN, .inl (iF pf))), (sv, .inl (cI, VN, .inl fv)), (rs, .inr (1, [.ref rsb, .int (nI (n + len))])), (rsb, .inl (cB, 65536, .inl (bF (pA b n v len lo len))))] H := hP
    have hD : va_D A [(wt, .inr (3, [.int (nI u), .ref sh, .ref rs, .int (nI lo), .int (nI i), .int (nI q)])), (sh, .inr (2, [.ref sn, .ref sv, .int (nI pn), .int (nI vn)])), (sn, .inl (cI, PN, .inl (iF pf))), (sv, .inl (cI, VN, .inl fv)), (rs, .inr (1, [.ref rsb, .int (nI (n + len))])), (rsb, .inl (cB, 65536, .inl (bF (pA b n v len lo len))))] := hD
    refine W.widen (k := 0) (n := 0) (Nat.le_of_ble_eq_true rfl) (Nat.le_of_ble_eq_true rfl) ?_
    exact k_vret () hx hb hr hlocks hK hP hD hS (rfl) (trivial) (Nat.le_of_ble_eq_true rfl) (Nat.le_of_ble_eq_true rfl) dX5_put_22

set_option maxRecDepth 100000 in
set_option maxHeartbeats 4000000 in
theorem c_Wr_putCoordinates (l : Launch) (D : va_G) (cI cB cJ cS : ClassId) (wt sh sn sv rs rsb u lo i q n PN pn VN vn : Nat) (b pf : Nat → Nat) (fv : Nat → Int32) (hPN : PN ≤ 4096) (hpn : pn ≤ PN) (hVN : VN ≤ 8192) (hvn : vn ≤ VN) (hn : n ≤ 65536) (hlo2 : lo < 2) (hi : i ≤ pn) (hq : q ≤ vn / 2) (hu1 : 1 ≤ u) (hu2 : u ≤ 1000) (hfv : ∀ j, j < vn → fvOk (fv j)) (c9 : Nat) (hc1 : q + c9 ≤ vn / 2) (hc2 : n + 16 * c9 ≤ 65536)  : kM l yX5_putCoordinates vsX5_putCoordinates ({ frames := 2, cells := 0, slots := 0, locals := 57 }) D (kT cI cB cJ cS) [.ref wt, .int (nI c9)] [(wt, .inr (3, [.int (nI u), .ref sh, .ref rs, .int (nI lo), .int (nI i), .int (nI q)])), (sh, .inr (2, [.ref sn, .ref sv, .int (nI pn), .int (nI vn)])), (sn, .inl (cI, PN, .inl (iF pf))), (sv, .inl (cI, VN, .inl fv)), (rs, .inr (1, [.ref rsb, .int (nI n)])), (rsb, .inl (cB, 65536, .inl (bF b)))] (kQv D (kT cI cB cJ cS) (fun (ug : Unit) => True) (fun ug => [(wt, .inr (3, [.int (nI u), .ref sh, .ref rs, .int (nI lo), .int (nI i), .int (nI (q + c9))])), (sh, .inr (2, [.ref sn, .ref sv, .int (nI pn), .int (nI vn)])), (sn, .inl (cI, PN, .inl (iF pf))), (sv, .inl (cI, VN, .inl fv)), (rs, .inr (1, [.ref rsb, .int (nI (n + 16 * c9))])), (rsb, .inl (cB, 65536, .inl (bF (wCo fv u lo b n q c9))))])) := by
  refine k_ofW (by decide) rfl (Nat.le_of_ble_eq_true rfl) ?_
  intro p e s m below meth c A ls hx hb hr hts hown hlocks hmn hml hA hP hK hD hS hZ hl
  have inX3 : ∀ w ∈ wsX30, w ∈ vsX5_putCoordinates := fun w h => List.mem_cons_of_mem _ (iaX3 w h)
  have inX4 : ∀ w ∈ wsX40, w ∈ vsX5_putCoordinates := fun w h => List.mem_cons_of_mem _ (iaX4 w h)
  have inX5 : ∀ w ∈ wsX50, w ∈ vsX5_putCoordinates := fun w h => List.mem_cons_of_mem _ (iaX5 w h)
  have F : CallFix p m c cX5_putCoordinates 3 s _ vsX5_putCoordinates RX5 := ⟨hx, hb, hml, hown, hts⟩
  have hl : lv_has ls 3 [(0, .ref wt), (1, .int (nI c9))] := hl
  refine lv_iconst (v := nI 0) hx hb dX5_putCoordinates_0 (by decide) ?_
  refine lv_istore_n (lv' := [(2, .int (nI 0)), (0, .ref wt), (1, .int (nI c9))]) hx hb dX5_putCoordinates_1 rfl hl (by decide) rfl (fun ls hl => ?_)
  have loop162 : ∀ (k163 : Nat) (j : Nat) (H : Heap) (locs : List Loc) (ls : Array Slot), c9 - j < k163 → (j ≤ c9) → va_P D kCl [(wt, .inr (3, [.int (nI u), .ref sh, .ref rs, .int (nI lo), .int (nI i), .int (nI (q + j))])), (sh, .inr (2, [.ref sn, .ref sv, .int (nI pn), .int (nI vn)])), (sn, .inl (cI, PN, .inl (iF pf))), (sv, .inl (cI, VN, .inl fv)), (rs, .inr (1, [.ref rsb, .int (nI (n + 16 * j))])), (rsb, .inl (cB, 65536, .inl (bF (wCo fv u lo b n q j))))] H → va_D A [(wt, .inr (3, [.int (nI u), .ref sh, .ref rs, .int (nI lo), .int (nI i), .int (nI (q + j))])), (sh, .inr (2, [.ref sn, .ref sv, .int (nI pn), .int (nI vn)])), (sn, .inl (cI, PN, .inl (iF pf))), (sv, .inl (cI, VN, .inl fv)), (rs, .inr (1, [.ref rsb, .int (nI (n + 16 * j))])), (rsb, .inl (cB, 65536, .inl (bF (wCo fv u lo b n q j))))] → va_S A s.heap H locs → lv_has ls 3 [(0, .ref wt), (1, .int (nI c9)), (2, .int (nI j))] → W p l e ({ frames := 2, cells := 0, slots := 0, locals := 57 }) s m ([.ref wt, .int (nI c9)] : List Value).toArray below meth c H locs 0 0 (MQ below ((kQv D (kT cI cB cJ cS) (fun (ug : Unit) => True) (fun ug => [(wt, .inr (3, [.int (nI u), .ref sh, .ref rs, .int (nI lo), .int (nI i), .int (nI (q + c9))])), (sh, .inr (2, [.ref sn, .ref sv, .int (nI pn), .int (nI vn)])), (sn, .inl (cI, PN, .inl (iF pf))), (sv, .inl (cI, VN, .inl fv)), (rs, .inr (1, [.ref rsb, .int (nI (n + 16 * c9))])), (rsb, .inl (cB, 65536, .inl (bF (wCo fv u lo b n q c9))))])) A) ([.ref wt, .int (nI c9)] : List Value).toArray s ({ frames := 2, cells := 0, slots := 0, locals := 57 } : Room).cells ({ frames := 2, cells := 0, slots := 0, locals := 57 } : Room).slots A) (F0 m 2 ls []) := by
    intro k163
    induction k163 with
    | zero =>
      intro j H locs ls hk9
      exact absurd hk9 (Nat.not_lt_zero _)
    | succ k163 ihloop162 =>
      intro j H locs ls hk9 hj hP hD hS hl
      refine lv_iload_n hx hb dX5_putCoordinates_2 rfl (lv_at hl 2 rfl) ?_
      refine lv_iload_n hx hb dX5_putCoordinates_3 rfl (lv_at hl 1 rfl) ?_
      refine k_icmp_ge (tgt := 73) (by omega) (by omega) hx hb dX5_putCoordinates_4 (by decide) (fun c164 => ?_) (fun c164 => ?_)
      · skip
        exact k_vret () hx hb hr hlocks hK hP hD hS (by rw [show j = c9 by omega]) (trivial) (Nat.le_of_ble_eq_true rfl) (Nat.le_of_ble_eq_true rfl) dX5_putCoordinates_73
      · skip
        refine lv_aload_n hx hb dX5_putCoordinates_7 rfl (lv_at hl 0 rfl) ?_
        refine lv_aload_n hx hb dX5_putCoordinates_8 rfl (lv_at hl 0 rfl) ?_
        refine va_get (D := D) (ci := 3) (v := .ref sh) (C := RX5) (T := TX5) (N := 6) hx hb hts inX5 hown hK hP 0 rfl rfl 1 (by decide) (hts (.fieldLink RX5 13 "ByteShapes$Writer" "shape" "LByteShapes$Shape;") (List.mem_cons_of_mem _ wd_257)) (fun _ h9 => h9) rfl dX5_putCoordinates_9 ?_
        refine lv_aload_n hx hb dX5_putCoordinates_12 rfl (lv_at hl 0 rfl) ?_
        refine va_get (D := D) (ci := 3) (v := .int (nI (q + j))) (C := RX5) (T := TX5) (N := 6) hx hb hts inX5 hown hK hP 0 rfl rfl 5 (by decide) (hts (.fieldLink RX5 27 "ByteShapes$Writer" "pointAt" "I") (List.mem_cons_of_mem _ wd_263)) (fun _ h9 => h9) rfl dX5_putCoordinates_13 ?_
        refine lv_iconst (v := nI 0) hx hb dX5_putCoordinates_16 (by decide) ?_
        refine k_ci (wr := [(wt, .inr (3, [.int (nI u), .ref sh, .ref rs, .int (nI lo), .int (nI i), .int (nI (q + j))])), (rs, .inr (1, [.ref rsb, .int (nI (n + 16 * j))])), (rsb, .inl (cB, 65536, .inl (bF (wCo fv u lo b n q j))))]) (k_rv F (c_Shape_valueOfPoint l D cI cB cJ cS sh sn sv PN pn VN vn pf fv hVN hvn (q + j) 0 (by omega) (by decide)) (cwV 2 hts (g_V wd_264 wd_248 wd_249 wd_41 wd_250) rfl rfl rfl (by decide +kernel) ⟨Nat.le_of_ble_eq_true rfl, Nat.le_of_ble_eq_true rfl⟩) hK hP hD hS hA hZ [1, 2, 3] rfl (by decide) 1 rfl rfl rfl rfl hl.1 rfl (Nat.le_of_ble_eq_true rfl) dX5_putCoordinates_17 ⟨Nat.le_of_ble_eq_true rfl, Nat.le_of_ble_eq_true rfl⟩) hP hD hS hA [1, 2, 3] [0, 4, 5] rfl rfl (by decide) (by decide) (fun r u9 H locs hw hP hD hS => ?_)
        subst hw
        have hP : va_P D kCl [(wt, .inr (3, [.int (nI u), .ref sh, .ref rs, .int (nI lo), .int (nI i), .int (nI (q + j))])), (rs, .inr (1, [.ref rsb, .int (nI (n + 16 * j))])), (rsb, .inl (cB, 65536, .inl (bF (wCo fv u lo b n q j)))), (sh, .inr (2, [.ref sn, .ref sv, .int (nI pn), .int (nI vn)])), (sn, .inl (cI, PN, .inl (iF pf))), (sv, .inl (cI, VN, .inl fv))] H := hP
        have hD : va_D A [(wt, .inr (3, [.int (nI u), .ref sh, .ref rs, .int (nI lo), .int (nI i), .int (nI (q + j))])), (rs, .inr (1, [.ref rsb, .int (nI (n + 16 * j))])), (rsb, .inl (cB, 65536, .inl (bF (wCo fv u lo b n q j)))), (sh, .inr (2, [.ref sn, .ref sv, .int (nI pn), .int (nI vn)])), (sn, .inl (cI, PN, .inl (iF pf))), (sv, .inl (cI, VN, .inl fv))] := hD
        refine W.widen (k := 0) (n := 0) (Nat.le_of_ble_eq_true rfl) (Nat.le_of_ble_eq_true rfl) ?_
        refine lv_aload_n hx hb dX5_putCoordinates_20 rfl (lv_at hl 0 rfl) ?_
        refine va_get (D := D) (ci := 3) (v := .int (nI u)) (C := RX5) (T := TX5) (N := 6) hx hb hts inX5 hown hK hP 0 rfl rfl 0 (by decide) (hts (.fieldLink RX5 7 "ByteShapes$Writer" "unit" "I") (List.mem_cons_of_mem _ wd_196)) (fun _ h9 => h9) rfl dX5_putCoordinates_21 ?_
        refine k_cl (wr := [(wt, .inr (3, [.int (nI u), .ref sh, .ref rs, .int (nI lo), .int (nI i), .int (nI (q + j))])), (rs, .inr (1, [.ref rsb, .int (nI (n + 16 * j))])), (rsb, .inl (cB, 65536, .inl (bF (wCo fv u lo b n q j)))), (sh, .inr (2, [.ref sn, .ref sv, .int (nI pn), .int (nI vn)])), (sn, .inl (cI, PN, .inl (iF pf))), (sv, .inl (cI, VN, .inl fv))]) (k_rs F (c_Fr_nearest l D cI cB cJ cS (fv (2 * (q + j) + 0)) u (hfv _ (by omega)) hu1 hu2) (va_cwS 2 hts (g_S wd_265 wd_266 wd_27 wd_267) rfl rfl rfl (by decide +kernel) ⟨Nat.le_of_ble_eq_true rfl, Nat.le_of_ble_eq_true rfl⟩) hK hP hD hS hA hZ [] rfl (by decide) rfl hl.1 rfl (Nat.le_of_ble_eq_true rfl) dX5_putCoordinates_24 ⟨Nat.le_of_ble_eq_true rfl, Nat.le_of_ble_eq_true rfl⟩) hP hD hS hA [] [0, 1, 2, 3, 4, 5] rfl rfl (by decide) (by decide) (fun r u9 H locs hw hP hD hS => ?_)
        subst hw
        have hP : va_P D kCl [(wt, .inr (3, [.int (nI u), .ref sh, .ref rs, .int (nI lo), .int (nI i), .int (nI (q + j))])), (rs, .inr (1, [.ref rsb, .int (nI (n + 16 * j))])), (rsb, .inl (cB, 65536, .inl (bF (wCo fv u lo b n q j)))), (sh, .inr (2, [.ref sn, .ref sv, .int (nI pn), .int (nI vn)])), (sn, .inl (cI, PN, .inl (iF pf))), (sv, .inl (cI, VN, .inl fv))] H := hP
        have hD : va_D A [(wt, .inr (3, [.int (nI u), .ref sh, .ref rs, .int (nI lo), .int (nI i), .int (nI (q + j))])), (rs, .inr (1, [.ref rsb, .int (nI (n + 16 * j))])), (rsb, .inl (cB, 65536, .inl (bF (wCo fv u lo b n q j)))), (sh, .inr (2, [.ref sn, .ref sv, .int (nI pn), .int (nI vn)])), (sn, .inl (cI, PN, .inl (iF pf))), (sv, .inl (cI, VN, .inl fv))] := hD
        refine W.widen (k := 0) (n := 0) (Nat.le_of_ble_eq_true rfl) (Nat.le_of_ble_eq_true rfl) ?_
        refine lv_bipush (v := nI 8) hx hb dX5_putCoordinates_27 (by decide) ?_
        refine k_cv (wr := []) (k_rv F (c_Wr_put l D cI cB cJ cS wt sh sn sv rs rsb u lo i (q + j) (n + 16 * j) PN pn VN vn (wCo fv u lo b n q j) pf fv hPN hpn hVN hvn (by omega) hlo2 (by omega) (by omega) hu1 hu2 hfv (wB (fv (2 * (q + j) + 0)) u) 8 (by decide) (by omega) (wB_lt (hfv _ (by omega)) hu1 hu2)) (cwV 2 hts (g_V wd_268 wd_269 wd_270 wd_271 wd_272) rfl rfl rfl (by decide +kernel) ⟨Nat.le_of_ble_eq_true rfl, Nat.le_of_ble_eq_true rfl⟩) hK hP hD hS hA hZ [0, 3, 4, 5, 1, 2] rfl (by decide) 0 rfl rfl rfl rfl hl.1 rfl (Nat.le_of_ble_eq_true rfl) dX5_putCoordinates_29 ⟨Nat.le_of_ble_eq_true rfl, Nat.le_of_ble_eq_true rfl⟩) hP hD hS hA [0, 3, 4, 5, 1, 2] [] rfl rfl (by decide) (by decide) (fun u9 H locs hw hP hD hS => ?_)
        have hP : va_P D kCl [(wt, .inr (3, [.int (nI u), .ref sh, .ref rs, .int (nI lo), .int (nI i), .int (nI (q + j))])), (sh, .inr (2, [.ref sn, .ref sv, .int (nI pn), .int (nI vn)])), (sn, .inl (cI, PN, .inl (iF pf))), (sv, .inl (cI, VN, .inl fv)), (rs, .inr (1, [.ref rsb, .int (nI (n + 16 * j + 8))])), (rsb, .inl (cB, 65536, .inl (bF (pA (wCo fv u lo b n q j) (n + 16 * j) (wB (fv (2 * (q + j) + 0)) u) 8 lo 8))))] H := hP
        have hD : va_D A [(wt, .inr (3, [.int (nI u), .ref sh, .ref rs, .int (nI lo), .int (nI i), .int (nI (q + j))])), (sh, .inr (2, [.ref sn, .ref sv, .int (nI pn), .int (nI vn)])), (sn, .inl (cI, PN, .inl (iF pf))), (sv, .inl (cI, VN, .inl fv)), (rs, .inr (1, [.ref rsb, .int (nI (n + 16 * j + 8))])), (rsb, .inl (cB, 65536, .inl (bF (pA (wCo fv u lo b n q j) (n + 16 * j) (wB (fv (2 * (q + j) + 0)) u) 8 lo 8))))] := hD
        refine W.widen (k := 0) (n := 0) (Nat.le_of_ble_eq_true rfl) (Nat.le_of_ble_eq_true rfl) ?_
        refine lv_aload_n hx hb dX5_putCoordinates_32 rfl (lv_at hl 0 rfl) ?_
        refine lv_aload_n hx hb dX5_putCoordinates_33 rfl (lv_at hl 0 rfl) ?_
        refine va_get (D := D) (ci := 3) (v := .ref sh) (C := RX5) (T := TX5) (N := 6) hx hb hts inX5 hown hK hP 0 rfl rfl 1 (by decide) (hts (.fieldLink RX5 13 "ByteShapes$Writer" "shape" "LByteShapes$Shape;") (List.mem_cons_of_mem _ wd_257)) (fun _ h9 => h9) rfl dX5_putCoordinates_34 ?_
        refine lv_aload_n hx hb dX5_putCoordinates_37 rfl (lv_at hl 0 rfl) ?_
        refine va_get (D := D) (ci := 3) (v := .int (nI (q + j))) (C := RX5) (T := TX5) (N := 6) hx hb hts inX5 hown hK hP 0 rfl rfl 5 (by decide) (hts (.fieldLink RX5 27 "ByteShapes$Writer" "pointAt" "I") (List.mem_cons_of_mem _ wd_263)) (fun _ h9 => h9) rfl dX5_putCoordinates_38 ?_
        refine lv_iconst (v := nI 1) hx hb dX5_putCoordinates_41 (by decide) ?_
        refine k_ci (wr := [(wt, .inr (3, [.int (nI u), .ref sh, .ref rs, .int (nI lo), .int (nI i), .int (nI (q + j))])), (rs, .inr (1, [.ref rsb, .int (nI (n + 16 * j + 8))])), (rsb, .inl (cB, 65536, .inl (bF (pA (wCo fv u lo b n q j) (n + 16 * j) (wB (fv (2 * (q + j) + 0)) u) 8 lo 8))))]) (k_rv F (c_Shape_valueOfPoint l D cI cB cJ cS sh sn sv PN pn VN vn pf fv hVN hvn (q + j) 1 (by omega) (by decide)) (cwV 2 hts (g_V wd_264 wd_248 wd_249 wd_41 wd_250) rfl rfl rfl (by decide +kernel) ⟨Nat.le_of_ble_eq_true rfl, Nat.le_of_ble_eq_true rfl⟩) hK hP hD hS hA hZ [1, 2, 3] rfl (by decide) 1 rfl rfl rfl rfl hl.1 rfl (Nat.le_of_ble_eq_true rfl) dX5_putCoordinates_42 ⟨Nat.le_of_ble_eq_true rfl, Nat.le_of_ble_eq_true rfl⟩) hP hD hS hA [1, 2, 3] [0, 4, 5] rfl rfl (by decide) (by decide) (fun r u9 H locs hw hP hD hS => ?_)
        subst hw
        have hP : va_P D kCl [(wt, .inr (3, [.int (nI u), .ref sh, .ref rs, .int (nI lo), .int (nI i), .int (nI (q + j))])), (rs, .inr (1, [.ref rsb, .int (nI (n + 16 * j + 8))])), (rsb, .inl (cB, 65536, .inl (bF (pA (wCo fv u lo b n q j) (n + 16 * j) (wB (fv (2 * (q + j) + 0)) u) 8 lo 8)))), (sh, .inr (2, [.ref sn, .ref sv, .int (nI pn), .int (nI vn)])), (sn, .inl (cI, PN, .inl (iF pf))), (sv, .inl (cI, VN, .inl fv))] H := hP
        have hD : va_D A [(wt, .inr (3, [.int (nI u), .ref sh, .ref rs, .int (nI lo), .int (nI i), .int (nI (q + j))])), (rs, .inr (1, [.ref rsb, .int (nI (n + 16 * j + 8))])), (rsb, .inl (cB, 65536, .inl (bF (pA (wCo fv u lo b n q j) (n + 16 * j) (wB (fv (2 * (q + j) + 0)) u) 8 lo 8)))), (sh, .inr (2, [.ref sn, .ref sv, .int (nI pn), .int (nI vn)])), (sn, .inl (cI, PN, .inl (iF pf))), (sv, .inl (cI, VN, .inl fv))] := hD
        refine W.widen (k := 0) (n := 0) (Nat.le_of_ble_eq_true rfl) (Nat.le_of_ble_eq_true rfl) ?_
        refine lv_aload_n hx hb dX5_putCoordinates_45 rfl (lv_at hl 0 rfl) ?_
        refine va_get (D := D) (ci := 3) (v := .int (nI u)) (C := RX5) (T := TX5) (N := 6) hx hb hts inX5 hown hK hP 0 rfl rfl 0 (by decide) (hts (.fieldLink RX5 7 "ByteShapes$Writer" "unit" "I") (List.mem_cons_of_mem _ wd_196)) (fun _ h9 => h9) rfl dX5_putCoordinates_46 ?_
        refine k_cl (wr := [(wt, .inr (3, [.int (nI u), .ref sh, .ref rs, .int (nI lo), .int (nI i), .int (nI (q + j))])), (rs, .inr (1, [.ref rsb, .int (nI (n + 16 * j + 8))])), (rsb, .inl (cB, 65536, .inl (bF (pA (wCo fv u lo b n q j) (n + 16 * j) (wB (fv (2 * (q + j) + 0)) u) 8 lo 8)))), (sh, .inr (2, [.ref sn, .ref sv, .int (nI pn), .int (nI vn)])), (sn, .inl (cI, PN, .inl (iF pf))), (sv, .inl (cI, VN, .inl fv))]) (k_rs F (c_Fr_nearest l D cI cB cJ cS (fv (2 * (q + j) + 1)) u (hfv _ (by omega)) hu1 hu2) (va_cwS 2 hts (g_S wd_265 wd_266 wd_27 wd_267) rfl rfl rfl (by decide +kernel) ⟨Nat.le_of_ble_eq_true rfl, Nat.le_of_ble_eq_true rfl⟩) hK hP hD hS hA hZ [] rfl (by decide) rfl hl.1 rfl (Nat.le_of_ble_eq_true rfl) dX5_putCoordinates_49 ⟨Nat.le_of_ble_eq_true rfl, Nat.le_of_ble_eq_true rfl⟩) hP hD hS hA [] [0, 1, 2, 3, 4, 5] rfl rfl (by decide) (by decide) (fun r u9 H locs hw hP hD hS => ?_)
        subst hw
        have hP : va_P D kCl [(wt, .inr (3, [.int (nI u), .ref sh, .ref rs, .int (nI lo), .int (nI i), .int (nI (q + j))])), (rs, .inr (1, [.ref rsb, .int (nI (n + 16 * j + 8))])), (rsb, .inl (cB, 65536, .inl (bF (pA (wCo fv u lo b n q j) (n + 16 * j) (wB (fv (2 * (q + j) + 0)) u) 8 lo 8)))), (sh, .inr (2, [.ref sn, .ref sv, .int (nI pn), .int (nI vn)])), (sn, .inl (cI, PN, .inl (iF pf))), (sv, .inl (cI, VN, .inl fv))] H := hP
        have hD : va_D A [(wt, .inr (3, [.int (nI u), .ref sh, .ref rs, .int (nI lo), .int (nI i), .int (nI (q + j))])), (rs, .inr (1, [.ref rsb, .int (nI (n + 16 * j + 8))])), (rsb, .inl (cB, 65536, .inl (bF (pA (wCo fv u lo b n q j) (n + 16 * j) (wB (fv (2 * (q + j) + 0)) u) 8 lo 8)))), (sh, .inr (2, [.ref sn, .ref sv, .int (nI pn), .int (nI vn)])), (sn, .inl (cI, PN, .inl (iF pf))), (sv, .inl (cI, VN, .inl fv))] := hD
        refine W.widen (k := 0) (n := 0) (Nat.le_of_ble_eq_true rfl) (Nat.le_of_ble_eq_true rfl) ?_
        refine lv_bipush (v := nI 8) hx hb dX5_putCoordinates_52 (by decide) ?_
        refine k_cv (wr := []) (k_rv F (c_Wr_put l D cI cB cJ cS wt sh sn sv rs rsb u lo i (q + j) (n + 16 * j + 8) PN pn VN vn (pA (wCo fv u lo b n q j) (n + 16 * j) (wB (fv (2 * (q + j) + 0)) u) 8 lo 8) pf fv hPN hpn hVN hvn (by omega) hlo2 (by omega) (by omega) hu1 hu2 hfv (wB (fv (2 * (q + j) + 1)) u) 8 (by decide) (by omega) (wB_lt (hfv _ (by omega)) hu1 hu2)) (cwV 2 hts (g_V wd_268 wd_269 wd_270 wd_271 wd_272) rfl rfl rfl (by decide +kernel) ⟨Nat.le_of_ble_eq_true rfl, Nat.le_of_ble_eq_true rfl⟩) hK hP hD hS hA hZ [0, 3, 4, 5, 1, 2] rfl (by decide) 0 rfl rfl rfl rfl hl.1 rfl (Nat.le_of_ble_eq_true rfl) dX5_putCoordinates_54 ⟨Nat.le_of_ble_eq_true rfl, Nat.le_of_ble_eq_true rfl⟩) hP hD hS hA [0, 3, 4, 5, 1, 2] [] rfl rfl (by decide) (by decide) (fun u9 H locs hw hP hD hS => ?_)
        have hP : va_P D kCl [(wt, .inr (3, [.int (nI u), .ref sh, .ref rs, .int (nI lo), .int (nI i), .int (nI (q + j))])), (sh, .inr (2, [.ref sn, .ref sv, .int (nI pn), .int (nI vn)])), (sn, .inl (cI, PN, .inl (iF pf))), (sv, .inl (cI, VN, .inl fv)), (rs, .inr (1, [.ref rsb, .int (nI (n + 16 * j + 8 + 8))])), (rsb, .inl (cB, 65536, .inl (bF (pA (pA (wCo fv u lo b n q j) (n + 16 * j) (wB (fv (2 * (q + j) + 0)) u) 8 lo 8) (n + 16 * j + 8) (wB (fv (2 * (q + j) + 1)) u) 8 lo 8))))] H := hP
        have hD : va_D A [(wt, .inr (3, [.int (nI u), .ref sh, .ref rs, .int (nI lo), .int (nI i), .int (nI (q + j))])), (sh, .inr (2, [.ref sn, .ref sv, .int (nI pn), .int (nI vn)])), (sn, .inl (cI, PN, .inl (iF pf))), (sv, .inl (cI, VN, .inl fv)), (rs, .inr (1, [.ref rsb, .int (nI (n + 16 * j + 8 + 8))])), (rsb, .inl (cB, 65536, .inl (bF (pA (pA (wCo fv u lo b n q j) (n + 16 * j) (wB (fv (2 * (q + j) + 0)) u) 8 lo 8) (n + 16 * j + 8) (wB (fv (2 * (q + j) + 1)) u) 8 lo 8))))] := hD
        refine W.widen (k := 0) (n := 0) (Nat.le_of_ble_eq_true rfl) (Nat.le_of_ble_eq_true rfl) ?_
        refine lv_aload_n hx hb dX5_putCoordinates_57 rfl (lv_at hl 0 rfl) ?_
        refine lv_dup hx hb dX5_putCoordinates_58 rfl ?_
        refine va_get (D := D) (ci := 3) (v := .int (nI (q + j))) (C := RX5) (T := TX5) (N := 6) hx hb hts inX5 hown hK hP 0 rfl rfl 5 (by decide) (hts (.fieldLink RX5 27 "ByteShapes$Writer" "pointAt" "I") (List.mem_cons_of_mem _ wd_263)) (fun _ h9 => h9) rfl dX5_putCoordinates_59 ?_
        refine lv_iconst (v := nI 1) hx hb dX5_putCoordinates_62 (by decide) ?_
        refine lv_iadd hx hb dX5_putCoordinates_63 ?_
        refine k_i (show _ = nI ((q + j) + 1) from nI_add _ _) ?_
        refine va_put (D := D) (ci := 3) (v := .int (nI ((q + j) + 1))) (ty := .int) (C := RX5) (T := TX5) (N := 6) hx hb hts inX5 tyX5 tyX5_ok nmX5 hown hK hP hD hS 0 rfl rfl 5 (by decide) (hts (.fieldLink RX5 27 "ByteShapes$Writer" "pointAt" "I") (List.mem_cons_of_mem _ wd_263)) (fun _ h9 => h9) rfl (by decide +kernel) (rfl) (rfl) (Nat.le_of_ble_eq_true rfl) dX5_putCoordinates_64 (fun H locs hP hD hS => ?_)
        have hP : va_P D kCl [(wt, .inr (3, [.int (nI u), .ref sh, .ref rs, .int (nI lo), .int (nI i), .int (nI ((q + j) + 1))])), (sh, .inr (2, [.ref sn, .ref sv, .int (nI pn), .int (nI vn)])), (sn, .inl (cI, PN, .inl (iF pf))), (sv, .inl (cI, VN, .inl fv)), (rs, .inr (1, [.ref rsb, .int (nI (n + 16 * j + 8 + 8))])), (rsb, .inl (cB, 65536, .inl (bF (pA (pA (wCo fv u lo b n q j) (n + 16 * j) (wB (fv (2 * (q + j) + 0)) u) 8 lo 8) (n + 16 * j + 8) (wB (fv (2 * (q + j) + 1)) u) 8 lo 8))))] H := hP
        have hD : va_D A [(wt, .inr (3, [.int (nI u), .ref sh, .ref rs, .int (nI lo), .int (nI i), .int (nI ((q + j) + 1))])), (sh, .inr (2, [.ref sn, .ref sv, .int (nI pn), .int (nI vn)])), (sn, .inl (cI, PN, .inl (iF pf))), (sv, .inl (cI, VN, .inl fv)), (rs, .inr (1, [.ref rsb, .int (nI (n + 16 * j + 8 + 8))])), (rsb, .inl (cB, 65536, .inl (bF (pA (pA (wCo fv u lo b n q j) (n + 16 * j) (wB (fv (2 * (q + j) + 0)) u) 8 lo 8) (n + 16 * j + 8) (wB (fv (2 * (q + j) + 1)) u) 8 lo 8))))] := hD
        refine lv_iinc (v := nI (j + 1)) (lv' := [(2, .int (nI (j + 1))), (0, .ref wt), (1, .int (nI c9))]) hx hb dX5_putCoordinates_67 hl (k := 2) rfl (nI_add _ _) (by decide) rfl (fun ls hl => ?_)
        refine lv_goto (tgt := 2) hx hb dX5_putCoordinates_70 (by decide) ?_
        exact ihloop162 (j + 1) _ _ _ (by omega) (by omega) (hP.sub [0, 1, 2, 3, 4, 5] rfl) (hD.sub [0, 1, 2, 3, 4, 5] (by decide) rfl) hS (lv_sub hl [1, 2, 0] rfl)
  exact loop162 ((c9 - 0) + 1) 0 _ _ _ (Nat.lt_succ_self _) (Nat.zero_le _) (hP.sub [0, 1, 2, 3, 4, 5] rfl) (hD.sub [0, 1, 2, 3, 4, 5] (by decide) rfl) hS (lv_sub hl [1, 2, 0] rfl)

set_option maxRecDepth 100000 in
set_option maxHeartbeats 4000000 in
theorem c_Wr_putRings (l : Launch) (D : va_G) (cI cB cJ cS : ClassId) (wt sh sn sv rs rsb u lo i q n PN pn VN vn : Nat) (b pf : Nat → Nat) (fv : Nat → Int32) (hPN : PN ≤ 4096) (hpn : pn ≤ PN) (hVN : VN ≤ 8192) (hvn : vn ≤ VN) (hn : n ≤ 65536) (hlo2 : lo < 2) (hi : i ≤ pn) (hq : q ≤ vn / 2) (hu1 : 1 ≤ u) (hu2 : u ≤ 1000) (hfv : ∀ j, j < vn → fvOk (fv j)) (r9 : Nat) (hr9 : r9 < 2 ^ 31) (hgd : ∀ r, r < r9 → wRg pf pn (vn / 2) (wRi pf fv u lo (b, n, i, q) r))  : kM l yX5_putRings vsX5_putRings ({ frames := 3, cells := 0, slots := 0, locals := 79 }) D (kT cI cB cJ cS) [.ref wt, .int (nI r9)] [(wt, .inr (3, [.int (nI u), .ref sh, .ref rs, .int (nI lo), .int (nI i), .int (nI q)])), (sh, .inr (2, [.ref sn, .ref sv, .int (nI pn), .int (nI vn)])), (sn, .inl (cI, PN, .inl (iF pf))), (sv, .inl (cI, VN, .inl fv)), (rs, .inr (1, [.ref rsb, .int (nI n)])), (rsb, .inl (cB, 65536, .inl (bF b)))] (kQv D (kT cI cB cJ cS) (fun (ug : Unit) => True) (fun ug => [(wt, .inr (3, [.int (nI u), .ref sh, .ref rs, .int (nI lo), .int (nI ((wRi pf fv u lo (b, n, i, q) r9).2.2.1)), .int (nI ((wRi pf fv u lo (b, n, i, q) r9).2.2.2))])), (sh, .inr (2, [.ref sn, .ref sv, .int (nI pn), .int (nI vn)])), (sn, .inl (cI, PN, .inl (iF pf))), (sv, .inl (cI, VN, .inl fv)), (rs, .inr (1, [.ref rsb, .int (nI ((wRi pf fv u lo (b, n, i, q) r9).2.1))])), (rsb, .inl (cB, 65536, .inl (bF ((wRi pf fv u lo (b, n, i, q) r9).1))))])) := by
  refine k_ofW (by decide) rfl (Nat.le_of_ble_eq_true rfl) ?_
  intro p e s m below meth c A ls hx hb hr hts hown hlocks hmn hml hA hP hK hD hS hZ hl
  have inX3 : ∀ w ∈ wsX30, w ∈ vsX5_putRings := fun w h => List.mem_cons_of_mem _ (iaX3 w h)
  have inX4 : ∀ w ∈ wsX40, w ∈ vsX5_putRings := fun w h => List.mem_cons_of_mem _ (iaX4 w h)
  have inX5 : ∀ w ∈ wsX50, w ∈ vsX5_putRings := fun w h => List.mem_cons_of_mem _ (iaX5 w h)
  have F : CallFix p m c cX5_putRings 4 s _ vsX5_putRings RX5 := ⟨hx, hb, hml, hown, hts⟩
  have hl : lv_has ls 4 [(0, .ref wt), (1, .int (nI r9))] := hl
  refine lv_iconst (v := nI 0) hx hb dX5_putRings_0 (by decide) ?_
  refine lv_istore_n (lv' := [(2, .int (nI 0)), (0, .ref wt), (1, .int (nI r9))]) hx hb dX5_putRings_1 rfl hl (by decide) rfl (fun ls hl => ?_)
  have loop165 : ∀ (k166 : Nat) (j : Nat) (bj : Nat → Nat) (nj : Nat) (ij : Nat) (qj : Nat) (H : Heap) (locs : List Loc) (ls : Array Slot), r9 - j < k166 → (j ≤ r9) → (wRi pf fv u lo (b, n, i, q) j = (bj, nj, ij, qj)) → (nj ≤ 65536) → (ij ≤ pn) → (qj ≤ vn / 2) → va_P D kCl [(wt, .inr (3, [.int (nI u), .ref sh, .ref rs, .int (nI lo), .int (nI ij), .int (nI qj)])), (sh, .inr (2, [.ref sn, .ref sv, .int (nI pn), .int (nI vn)])), (sn, .inl (cI, PN, .inl (iF pf))), (sv, .inl (cI, VN, .inl fv)), (rs, .inr (1, [.ref rsb, .int (nI nj)])), (rsb, .inl (cB, 65536, .inl (bF bj)))] H → va_D A [(wt, .inr (3, [.int (nI u), .ref sh, .ref rs, .int (nI lo), .int (nI ij), .int (nI qj)])), (sh, .inr (2, [.ref sn, .ref sv, .int (nI pn), .int (nI vn)])), (sn, .inl (cI, PN, .inl (iF pf))), (sv, .inl (cI, VN, .inl fv)), (rs, .inr (1, [.ref rsb, .int (nI nj)])), (rsb, .inl (cB, 65536, .inl (bF bj)))] → va_S A s.heap H locs → lv_has ls 4 [(0, .ref wt), (1, .int (nI r9)), (2, .int (nI j))] → W p l e ({ frames := 3, cells := 0, slots := 0, locals := 79 }) s m ([.ref wt, .int (nI r9)] : List Value).toArray below meth c H locs 0 0 (MQ below ((kQv D (kT cI cB cJ cS) (fun (ug : Unit) => True) (fun ug => [(wt, .inr (3, [.int (nI u), .ref sh, .ref rs, .int (nI lo), .int (nI ((wRi pf fv u lo (b, n, i, q) r9).2.2.1)), .int (nI ((wRi pf fv u lo (b, n, i, q) r9).2.2.2))])), (sh, .inr (2, [.ref sn, .ref sv, .int (nI pn), .int (nI vn)])), (sn, .inl (cI, PN, .inl (iF pf))), (sv, .inl (cI, VN, .inl fv)), (rs, .inr (1, [.ref rsb, .int (nI ((wRi pf fv u lo (b, n, i, q) r9).2.1))])), (rsb, .inl (cB, 65536, .inl (bF ((wRi pf fv u lo (b, n, i, q) r9).1))))])) A) ([.ref wt, .int (nI r9)] : List Value).toArray s ({ frames := 3, cells := 0, slots := 0, locals := 79 } : Room).cells ({ frames := 3, cells := 0, slots := 0, locals := 79 } : Room).slots A) (F0 m 2 ls []) := by
    intro k166
    induction k166 with
    | zero =>
      intro j bj nj ij qj H locs ls hk9
      exact absurd hk9 (Nat.not_lt_zero _)
    | succ k166 ihloop165 =>
      intro j bj nj ij qj H locs ls hk9 hj hY hnj hij hqj hP hD hS hl
      refine lv_iload_n hx hb dX5_putRings_2 rfl (lv_at hl 2 rfl) ?_
      refine lv_iload_n hx hb dX5_putRings_3 rfl (lv_at hl 1 rfl) ?_
      refine k_icmp_ge (tgt := 30) (by omega) (by omega) hx hb dX5_putRings_4 (by decide) (fun c167 => ?_) (fun c167 => ?_)
      · skip
        have E9 : wRi pf fv u lo (b, n, i, q) r9 = (bj, nj, ij, qj) := by rw [show r9 = j by omega]; exact hY
        exact k_vret () hx hb hr hlocks hK hP hD hS (by rw [E9]) (trivial) (Nat.le_of_ble_eq_true rfl) (Nat.le_of_ble_eq_true rfl) dX5_putRings_30
      · skip
        refine lv_aload_n hx hb dX5_putRings_7 rfl (lv_at hl 0 rfl) ?_
        have hg := hgd j (by omega)
        rw [hY] at hg
        obtain ⟨g1, g2, g3⟩ := hg
        have g1 : ij < pn := g1
        have g2 : qj + pf ij ≤ vn / 2 := g2
        have g3 : nj + 4 + 16 * pf ij ≤ 65536 := g3
        refine k_ci (wr := []) (k_rv F (c_Wr_nextOfPlan l D cI cB cJ cS wt sh sn sv rs rsb u lo ij qj nj PN pn VN vn bj pf fv hPN hpn hVN hvn (by omega) hlo2 (by omega) (by omega) hu1 hu2 hfv g1) (cwV 0 hts (g_V wd_273 wd_274 wd_275 wd_271 wd_276) rfl rfl rfl (by decide +kernel) ⟨Nat.le_of_ble_eq_true rfl, Nat.le_of_ble_eq_true rfl⟩) hK hP hD hS hA hZ [0, 1, 2, 3, 4, 5] rfl (by decide) 0 rfl rfl rfl rfl hl.1 rfl (Nat.le_of_ble_eq_true rfl) dX5_putRings_8 ⟨Nat.le_of_ble_eq_true rfl, Nat.le_of_ble_eq_true rfl⟩) hP hD hS hA [0, 1, 2, 3, 4, 5] [] rfl rfl (by decide) (by decide) (fun r u9 H locs hw hP hD hS => ?_)
        subst hw
        have hP : va_P D kCl [(wt, .inr (3, [.int (nI u), .ref sh, .ref rs, .int (nI lo), .int (nI (ij + 1)), .int (nI qj)])), (sh, .inr (2, [.ref sn, .ref sv, .int (nI pn), .int (nI vn)])), (sn, .inl (cI, PN, .inl (iF pf))), (sv, .inl (cI, VN, .inl fv)), (rs, .inr (1, [.ref rsb, .int (nI nj)])), (rsb, .inl (cB, 65536, .inl (bF bj)))] H := hP
        have hD : va_D A [(wt, .inr (3, [.int (nI u), .ref sh, .ref rs, .int (nI lo), .int (nI (ij + 1)), .int (nI qj)])), (sh, .inr (2, [.ref sn, .ref sv, .int (nI pn), .int (nI vn)])), (sn, .inl (cI, PN, .inl (iF pf))), (sv, .inl (cI, VN, .inl fv)), (rs, .inr (1, [.ref rsb, .int (nI nj)])), (rsb, .inl (cB, 65536, .inl (bF bj)))] := hD
        refine W.widen (k := 0) (n := 0) (Nat.le_of_ble_eq_true rfl) (Nat.le_of_ble_eq_true rfl) ?_
        refine lv_istore_n (lv' := [(3, .int (nI (pf ij))), (0, .ref wt), (1, .int (nI r9)), (2, .int (nI j))]) hx hb dX5_putRings_11 rfl hl (by decide) rfl (fun ls hl => ?_)
        refine lv_aload_n hx hb dX5_putRings_12 rfl (lv_at hl 1 rfl) ?_
        refine lv_iload_n hx hb dX5_putRings_13 rfl (lv_at hl 0 rfl) ?_
        refine lv_i2l (v := lN (pf ij)) hx hb dX5_putRings_14 (nI_l (by omega)) ?_
        refine lv_iconst (v := nI 4) hx hb dX5_putRings_15 (by decide) ?_
        refine k_cv (wr := []) (k_rv F (c_Wr_put l D cI cB cJ cS wt sh sn sv rs rsb u lo (ij + 1) qj nj PN pn VN vn bj pf fv hPN hpn hVN hvn (by omega) hlo2 (by omega) (by omega) hu1 hu2 hfv (pf ij) 4 (by decide) (by omega) (by omega)) (cwV 2 hts (g_V wd_268 wd_269 wd_270 wd_271 wd_272) rfl rfl rfl (by decide +kernel) ⟨Nat.le_of_ble_eq_true rfl, Nat.le_of_ble_eq_true rfl⟩) hK hP hD hS hA hZ [0, 1, 2, 3, 4, 5] rfl (by decide) 0 rfl rfl rfl rfl hl.1 rfl (Nat.le_of_ble_eq_true rfl) dX5_putRings_16 ⟨Nat.le_of_ble_eq_true rfl, Nat.le_of_ble_eq_true rfl⟩) hP hD hS hA [0, 1, 2, 3, 4, 5] [] rfl rfl (by decide) (by decide) (fun u9 H locs hw hP hD hS => ?_)
        have hP : va_P D kCl [(wt, .inr (3, [.int (nI u), .ref sh, .ref rs, .int (nI lo), .int (nI (ij + 1)), .int (nI qj)])), (sh, .inr (2, [.ref sn, .ref sv, .int (nI pn), .int (nI vn)])), (sn, .inl (cI, PN, .inl (iF pf))), (sv, .inl (cI, VN, .inl fv)), (rs, .inr (1, [.ref rsb, .int (nI (nj + 4))])), (rsb, .inl (cB, 65536, .inl (bF (pA bj nj (pf ij) 4 lo 4))))] H := hP
        have hD : va_D A [(wt, .inr (3, [.int (nI u), .ref sh, .ref rs, .int (nI lo), .int (nI (ij + 1)), .int (nI qj)])), (sh, .inr (2, [.ref sn, .ref sv, .int (nI pn), .int (nI vn)])), (sn, .inl (cI, PN, .inl (iF pf))), (sv, .inl (cI, VN, .inl fv)), (rs, .inr (1, [.ref rsb, .int (nI (nj + 4))])), (rsb, .inl (cB, 65536, .inl (bF (pA bj nj (pf ij) 4 lo 4))))] := hD
        refine W.widen (k := 0) (n := 0) (Nat.le_of_ble_eq_true rfl) (Nat.le_of_ble_eq_true rfl) ?_
        refine lv_aload_n hx hb dX5_putRings_19 rfl (lv_at hl 1 rfl) ?_
        refine lv_iload_n hx hb dX5_putRings_20 rfl (lv_at hl 0 rfl) ?_
        refine k_cv (wr := []) (k_rv F (c_Wr_putCoordinates l D cI cB cJ cS wt sh sn sv rs rsb u lo (ij + 1) qj (nj + 4) PN pn VN vn (pA bj nj (pf ij) 4 lo 4) pf fv hPN hpn hVN hvn (by omega) hlo2 (by omega) (by omega) hu1 hu2 hfv (pf ij) g2 (by omega)) (cwV 1 hts (g_V wd_277 wd_278 wd_279 wd_271 wd_280) rfl rfl rfl (by decide +kernel) ⟨Nat.le_of_ble_eq_true rfl, Nat.le_of_ble_eq_true rfl⟩) hK hP hD hS hA hZ [0, 1, 2, 3, 4, 5] rfl (by decide) 0 rfl rfl rfl rfl hl.1 rfl (Nat.le_of_ble_eq_true rfl) dX5_putRings_21 ⟨Nat.le_of_ble_eq_true rfl, Nat.le_of_ble_eq_true rfl⟩) hP hD hS hA [0, 1, 2, 3, 4, 5] [] rfl rfl (by decide) (by decide) (fun u9 H locs hw hP hD hS => ?_)
        have hP : va_P D kCl [(wt, .inr (3, [.int (nI u), .ref sh, .ref rs, .int (nI lo), .int (nI (ij + 1)), .int (nI (qj + pf ij))])), (sh, .inr (2, [.ref sn, .ref sv, .int (nI pn), .int (nI vn)])), (sn, .inl (cI, PN, .inl (iF pf))), (sv, .inl (cI, VN, .inl fv)), (rs, .inr (1, [.ref rsb, .int (nI (nj + 4 + 16 * pf ij))])), (rsb, .inl (cB, 65536, .inl (bF (wCo fv u lo (pA bj nj (pf ij) 4 lo 4) (nj + 4) qj (pf ij)))))] H := hP
        have hD : va_D A [(wt, .inr (3, [.int (nI u), .ref sh, .ref rs, .int (nI lo), .int (nI (ij + 1)), .int (nI (qj + pf ij))])), (sh, .inr (2, [.ref sn, .ref sv, .int (nI pn), .int (nI vn)])), (sn, .inl (cI, PN, .inl (iF pf))), (sv, .inl (cI, VN, .inl fv)), (rs, .inr (1, [.ref rsb, .int (nI (nj + 4 + 16 * pf ij))])), (rsb, .inl (cB, 65536, .inl (bF (wCo fv u lo (pA bj nj (pf ij) 4 lo 4) (nj + 4) qj (pf ij)))))] := hD
        refine W.widen (k := 0) (n := 0) (Nat.le_of_ble_eq_true rfl) (Nat.le_of_ble_eq_true rfl) ?_
        refine lv_iinc (v := nI (j + 1)) (lv' := [(2, .int (nI (j + 1))), (3, .int (nI (pf ij))), (0, .ref wt), (1, .int (nI r9))]) hx hb dX5_putRings_24 hl (k := 3) rfl (nI_add _ _) (by decide) rfl (fun ls hl => ?_)
        refine lv_goto (tgt := 2) hx hb dX5_putRings_27 (by decide) ?_
        exact ihloop165 (j + 1) (wCo fv u lo (pA bj nj (pf ij) 4 lo 4) (nj + 4) qj (pf ij)) (nj + 4 + 16 * pf ij) (ij + 1) (qj + pf ij) _ _ _ (by omega) (by omega) (by show (wCo _ _ _ _ _ _ _, _, _, _) = _; rw [hY]) (by omega) (by omega) (by omega) (hP.sub [0, 1, 2, 3, 4, 5] rfl) (hD.sub [0, 1, 2, 3, 4, 5] (by decide) rfl) hS (lv_sub hl [2, 3, 0] rfl)
  exact loop165 ((r9 - 0) + 1) 0 b n i q _ _ _ (Nat.lt_succ_self _) (Nat.zero_le _) (rfl) (hn) (hi) (hq) (hP.sub [0, 1, 2, 3, 4, 5] rfl) (hD.sub [0, 1, 2, 3, 4, 5] (by decide) rfl) hS (lv_sub hl [1, 2, 0] rfl)

set_option maxRecDepth 100000 in
set_option maxHeartbeats 4000000 in
theorem c_Wr_putPoint0 (l : Launch) (D : va_G) (cI cB cJ cS : ClassId) (wt sh sn sv rs rsb u lo i q n PN pn VN vn : Nat) (b pf : Nat → Nat) (fv : Nat → Int32) (hPN : PN ≤ 4096) (hpn : pn ≤ PN) (hVN : VN ≤ 8192) (hvn : vn ≤ VN) (hn : n ≤ 65536) (hlo2 : lo < 2) (hi : i ≤ pn) (hq : q ≤ vn / 2) (hu1 : 1 ≤ u) (hu2 : u ≤ 1000) (hfv : ∀ j, j < vn → fvOk (fv j)) (hn16 : n + 16 ≤ 65536)  : kM l yX5_putPoint vsX5_putPoint ({ frames := 2, cells := 0, slots := 0, locals := 49 }) D (kT cI cB cJ cS) [.ref wt, .int (nI 0)] [(wt, .inr (3, [.int (nI u), .ref sh, .ref rs, .int (nI lo), .int (nI i), .int (nI q)])), (sh, .inr (2, [.ref sn, .ref sv, .int (nI pn), .int (nI vn)])), (sn, .inl (cI, PN, .inl (iF pf))), (sv, .inl (cI, VN, .inl fv)), (rs, .inr (1, [.ref rsb, .int (nI n)])), (rsb, .inl (cB, 65536, .inl (bF b)))] (kQv D (kT cI cB cJ cS) (fun (ug : Unit) => True) (fun ug => [(wt, .inr (3, [.int (nI u), .ref sh, .ref rs, .int (nI lo), .int (nI i), .int (nI q)])), (sh, .inr (2, [.ref sn, .ref sv, .int (nI pn), .int (nI vn)])), (sn, .inl (cI, PN, .inl (iF pf))), (sv, .inl (cI, VN, .inl fv)), (rs, .inr (1, [.ref rsb, .int (nI (n + 8 + 8))])), (rsb, .inl (cB, 65536, .inl (bF (pA (pA b n 9221120237041090560 8 lo 8) (n + 8) 9221120237041090560 8 lo 8))))])) := by
  refine k_ofW (by decide) rfl (Nat.le_of_ble_eq_true rfl) ?_
  intro p e s m below meth c A ls hx hb hr hts hown hlocks hmn hml hA hP hK hD hS hZ hl
  have inX3 : ∀ w ∈ wsX30, w ∈ vsX5_putPoint := fun w h => List.mem_cons_of_mem _ (iaX3 w h)
  have inX4 : ∀ w ∈ wsX40, w ∈ vsX5_putPoint := fun w h => List.mem_cons_of_mem _ (iaX4 w h)
  have inX5 : ∀ w ∈ wsX50, w ∈ vsX5_putPoint := fun w h => List.mem_cons_of_mem _ (iaX5 w h)
  have F : CallFix p m c cX5_putPoint 2 s _ vsX5_putPoint RX5 := ⟨hx, hb, hml, hown, hts⟩
  have hl : lv_has ls 2 [(0, .ref wt), (1, .int (nI 0))] := hl
  refine lv_iload_n hx hb dX5_putPoint_0 rfl (lv_at hl 1 rfl) ?_
  refine k_if_ne (tgt := 25) (by omega) hx hb dX5_putPoint_1 (by decide) (fun c168 => ?_) (fun c168 => ?_)
  · skip
    exact absurd c168 (by omega)
  · skip
    refine lv_aload_n hx hb dX5_putPoint_4 rfl (lv_at hl 0 rfl) ?_
    refine lv_ldc2 (v := lN 9221120237041090560) hx hb hown (hts (.constantLong RX5 72 (9221120237041090560)) (List.mem_cons_of_mem _ wd_281)) dX5_putPoint_5 ?_
    refine lv_bipush (v := nI 8) hx hb dX5_putPoint_8 (by decide) ?_
    refine k_cv (wr := []) (k_rv F (c_Wr_put l D cI cB cJ cS wt sh sn sv rs rsb u lo i q n PN pn VN vn b pf fv hPN hpn hVN hvn (by omega) hlo2 (by omega) (by omega) hu1 hu2 hfv 9221120237041090560 8 (by decide) (by omega) (by decide)) (cwV 2 hts (g_V wd_268 wd_269 wd_270 wd_271 wd_272) rfl rfl rfl (by decide +kernel) ⟨Nat.le_of_ble_eq_true rfl, Nat.le_of_ble_eq_true rfl⟩) hK hP hD hS hA hZ [0, 1, 2, 3, 4, 5] rfl (by decide) 0 rfl rfl rfl rfl hl.1 rfl (Nat.le_of_ble_eq_true rfl) dX5_putPoint_10 ⟨Nat.le_of_ble_eq_true rfl, Nat.le_of_ble_eq_true rfl⟩) hP hD hS hA [0, 1, 2, 3, 4, 5] [] rfl rfl (by decide) (by decide) (fun u9 H locs hw hP hD hS => ?_)
    have hP : va_P D kCl [(wt, .inr (3, [.int (nI u), .ref sh, .ref rs, .int (nI lo), .int (nI i), .int (nI q)])), (sh, .inr (2, [.ref sn, .ref sv, .int (nI pn), .int (nI vn)])), (sn, .inl (cI, PN, .inl (iF pf))), (sv, .inl (cI, VN, .inl fv)), (rs, .inr (1, [.ref rsb, .int (nI (n + 8))])), (rsb, .inl (cB, 65536, .inl (bF (pA (b) (n) 9221120237041090560 8 lo 8))))] H := hP
    have hD : va_D A [(wt, .inr (3, [.int (nI u), .ref sh, .ref rs, .int (nI lo), .int (nI i), .int (nI q)])), (sh, .inr (2, [.ref sn, .ref sv, .int (nI pn), .int (nI vn)])), (sn, .inl (cI, PN, .inl (iF pf))), (sv, .inl (cI, VN, .inl fv)), (rs, .inr (1, [.ref rsb, .int (nI (n + 8))])), (rsb, .inl (cB, 65536, .inl (bF (pA (b) (n) 9221120237041090560 8 lo 8))))] := hD
    refine W.widen (k := 0) (n := 0) (Nat.le_of_ble_eq_true rfl) (Nat.le_of_ble_eq_true rfl) ?_
    refine lv_aload_n hx hb dX5_putPoint_13 rfl (lv_at hl 0 rfl) ?_
    refine lv_ldc2 (v := lN 9221120237041090560) hx hb hown (hts (.constantLong RX5 72 (9221120237041090560)) (List.mem_cons_of_mem _ wd_281)) dX5_putPoint_14 ?_
    refine lv_bipush (v := nI 8) hx hb dX5_putPoint_17 (by decide) ?_
    refine k_cv (wr := []) (k_rv F (c_Wr_put l D cI cB cJ cS wt sh sn sv rs rsb u lo i q (n + 8) PN pn VN vn (pA (b) (n) 9221120237041090560 8 lo 8) pf fv hPN hpn hVN hvn (by omega) hlo2 (by omega) (by omega) hu1 hu2 hfv 9221120237041090560 8 (by decide) (by omega) (by decide)) (cwV 2 hts (g_V wd_268 wd_269 wd_270 wd_271 wd_272) rfl rfl rfl (by decide +kernel) ⟨Nat.le_of_ble_eq_true rfl, Nat.le_of_ble_eq_true rfl⟩) hK hP hD hS hA hZ [0, 1, 2, 3, 4, 5] rfl (by decide) 0 rfl rfl rfl rfl hl.1 rfl (Nat.le_of_ble_eq_true rfl) dX5_putPoint_19 ⟨Nat.le_of_ble_eq_true rfl, Nat.le_of_ble_eq_true rfl⟩) hP hD hS hA [0, 1, 2, 3, 4, 5] [] rfl rfl (by decide) (by decide) (fun u9 H locs hw hP hD hS => ?_)
    have hP : va_P D kCl [(wt, .inr (3, [.int (nI u), .ref sh, .ref rs, .int (nI lo), .int (nI i), .int (nI q)])), (sh, .inr (2, [.ref sn, .ref sv, .int (nI pn), .int (nI vn)])), (sn, .inl (cI, PN, .inl (iF pf))), (sv, .inl (cI, VN, .inl fv)), (rs, .inr (1, [.ref rsb, .int (nI (n + 8 + 8))])), (rsb, .inl (cB, 65536, .inl (bF (pA (pA (b) (n) 9221120237041090560 8 lo 8) (n + 8) 9221120237041090560 8 lo 8))))] H := hP
    have hD : va_D A [(wt, .inr (3, [.int (nI u), .ref sh, .ref rs, .int (nI lo), .int (nI i), .int (nI q)])), (sh, .inr (2, [.ref sn, .ref sv, .int (nI pn), .int (nI vn)])), (sn, .inl (cI, PN, .inl (iF pf))), (sv, .inl (cI, VN, .inl fv)), (rs, .inr (1, [.ref rsb, .int (nI (n + 8 + 8))])), (rsb, .inl (cB, 65536, .inl (bF (pA (pA (b) (n) 9221120237041090560 8 lo 8) (n + 8) 9221120237041090560 8 lo 8))))] := hD
    refine W.widen (k := 0) (n := 0) (Nat.le_of_ble_eq_true rfl) (Nat.le_of_ble_eq_true rfl) ?_
    refine lv_goto (tgt := 30) hx hb dX5_putPoint_22 (by decide) ?_
    exact k_vret () hx hb hr hlocks hK hP hD hS (rfl) (trivial) (Nat.le_of_ble_eq_true rfl) (Nat.le_of_ble_eq_true rfl) dX5_putPoint_30

set_option maxRecDepth 100000 in
set_option maxHeartbeats 4000000 in
theorem c_Wr_putPoint1 (l : Launch) (D : va_G) (cI cB cJ cS : ClassId) (wt sh sn sv rs rsb u lo i q n PN pn VN vn : Nat) (b pf : Nat → Nat) (fv : Nat → Int32) (hPN : PN ≤ 4096) (hpn : pn ≤ PN) (hVN : VN ≤ 8192) (hvn : vn ≤ VN) (hn : n ≤ 65536) (hlo2 : lo < 2) (hi : i ≤ pn) (hq : q ≤ vn / 2) (hu1 : 1 ≤ u) (hu2 : u ≤ 1000) (hfv : ∀ j, j < vn → fvOk (fv j)) (hn16 : n + 16 ≤ 65536) (hq1 : q + 1 ≤ vn / 2) (v : Nat) (hv : ¬ v = 0) (hv32 : v < 2 ^ 32)  : kM l yX5_putPoint vsX5_putPoint ({ frames := 3, cells := 0, slots := 0, locals := 79 }) D (kT cI cB cJ cS) [.ref wt, .int (nI v)] [(wt, .inr (3, [.int (nI u), .ref sh, .ref rs, .int (nI lo), .int (nI i), .int (nI q)])), (sh, .inr (2, [.ref sn, .ref sv, .int (nI pn), .int (nI vn)])), (sn, .inl (cI, PN, .inl (iF pf))), (sv, .inl (cI, VN, .inl fv)), (rs, .inr (1, [.ref rsb, .int (nI n)])), (rsb, .inl (cB, 65536, .inl (bF b)))] (kQv D (kT cI cB cJ cS) (fun (ug : Unit) => True) (fun ug => [(wt, .inr (3, [.int (nI u), .ref sh, .ref rs, .int (nI lo), .int (nI i), .int (nI (q + 1))])), (sh, .inr (2, [.ref sn, .ref sv, .int (nI pn), .int (nI vn)])), (sn, .inl (cI, PN, .inl (iF pf))), (sv, .inl (cI, VN, .inl fv)), (rs, .inr (1, [.ref rsb, .int (nI (n + 16 * 1))])), (rsb, .inl (cB, 65536, .inl (bF (wCo fv u lo b n q 1))))])) := by
  refine k_ofW (by decide) rfl (Nat.le_of_ble_eq_true rfl) ?_
  intro p e s m below meth c A ls hx hb hr hts hown hlocks hmn hml hA hP hK hD hS hZ hl
  have inX3 : ∀ w ∈ wsX30, w ∈ vsX5_putPoint := fun w h => List.mem_cons_of_mem _ (iaX3 w h)
  have inX4 : ∀ w ∈ wsX40, w ∈ vsX5_putPoint := fun w h => List.mem_cons_of_mem _ (iaX4 w h)
  have inX5 : ∀ w ∈ wsX50, w ∈ vsX5_putPoint := fun w h => List.mem_cons_of_mem _ (iaX5 w h)
  have F : CallFix p m c cX5_putPoint 2 s _ vsX5_putPoint RX5 := ⟨hx, hb, hml, hown, hts⟩
  have hl : lv_has ls 2 [(0, .ref wt), (1, .int (nI v))] := hl
  refine lv_iload_n hx hb dX5_putPoint_0 rfl (lv_at hl 1 rfl) ?_
  refine lv_if_ne (tgt := 25) hx hb dX5_putPoint_1 (by decide) (fun c169 => ?_) (fun c169 => ?_)
  · skip
    refine lv_aload_n hx hb dX5_putPoint_25 rfl (lv_at hl 0 rfl) ?_
    refine lv_iconst (v := nI 1) hx hb dX5_putPoint_26 (by decide) ?_
    refine k_cv (wr := []) (k_rv F (c_Wr_putCoordinates l D cI cB cJ cS wt sh sn sv rs rsb u lo i q n PN pn VN vn b pf fv hPN hpn hVN hvn (by omega) hlo2 (by omega) (by omega) hu1 hu2 hfv 1 (by omega) (by omega)) (cwV 1 hts (g_V wd_277 wd_278 wd_279 wd_271 wd_280) rfl rfl rfl (by decide +kernel) ⟨Nat.le_of_ble_eq_true rfl, Nat.le_of_ble_eq_true rfl⟩) hK hP hD hS hA hZ [0, 1, 2, 3, 4, 5] rfl (by decide) 0 rfl rfl rfl rfl hl.1 rfl (Nat.le_of_ble_eq_true rfl) dX5_putPoint_27 ⟨Nat.le_of_ble_eq_true rfl, Nat.le_of_ble_eq_true rfl⟩) hP hD hS hA [0, 1, 2, 3, 4, 5] [] rfl rfl (by decide) (by decide) (fun u9 H locs hw hP hD hS => ?_)
    have hP : va_P D kCl [(wt, .inr (3, [.int (nI u), .ref sh, .ref rs, .int (nI lo), .int (nI i), .int (nI (q + 1))])), (sh, .inr (2, [.ref sn, .ref sv, .int (nI pn), .int (nI vn)])), (sn, .inl (cI, PN, .inl (iF pf))), (sv, .inl (cI, VN, .inl fv)), (rs, .inr (1, [.ref rsb, .int (nI (n + 16 * 1))])), (rsb, .inl (cB, 65536, .inl (bF (wCo fv u lo b n q 1))))] H := hP
    have hD : va_D A [(wt, .inr (3, [.int (nI u), .ref sh, .ref rs, .int (nI lo), .int (nI i), .int (nI (q + 1))])), (sh, .inr (2, [.ref sn, .ref sv, .int (nI pn), .int (nI vn)])), (sn, .inl (cI, PN, .inl (iF pf))), (sv, .inl (cI, VN, .inl fv)), (rs, .inr (1, [.ref rsb, .int (nI (n + 16 * 1))])), (rsb, .inl (cB, 65536, .inl (bF (wCo fv u lo b n q 1))))] := hD
    refine W.widen (k := 0) (n := 0) (Nat.le_of_ble_eq_true rfl) (Nat.le_of_ble_eq_true rfl) ?_
    exact k_vret () hx hb hr hlocks hK hP hD hS (rfl) (trivial) (Nat.le_of_ble_eq_true rfl) (Nat.le_of_ble_eq_true rfl) dX5_putPoint_30
  · skip
    exact absurd c169 (fun q => hv ((nI_eq0 hv32).mp q))

set_option maxRecDepth 100000 in
set_option maxHeartbeats 4000000 in
theorem c_Wr_putShape (l : Launch) (D : va_G) (cI cB cJ cS : ClassId) (wt sh sn sv rs rsb u lo i q n PN pn VN vn : Nat) (b pf : Nat → Nat) (fv : Nat → Int32) (hPN : PN ≤ 4096) (hpn : pn ≤ PN) (hVN : VN ≤ 8192) (hvn : vn ≤ VN) (hn : n ≤ 65536) (hlo2 : lo < 2) (hi : i ≤ pn) (hq : q ≤ vn / 2) (hu1 : 1 ≤ u) (hu2 : u ≤ 1000) (hfv : ∀ j, j < vn → fvOk (fv j)) (hsg : wSg pf fv u lo pn (vn / 2) b n i q)  : kM l yX5_putShape vsX5_putShape ({ frames := 4, cells := 0, slots := 0, locals := 102 }) D (kT cI cB cJ cS) [.ref wt] [(wt, .inr (3, [.int (nI u), .ref sh, .ref rs, .int (nI lo), .int (nI i), .int (nI q)])), (sh, .inr (2, [.ref sn, .ref sv, .int (nI pn), .int (nI vn)])), (sn, .inl (cI, PN, .inl (iF pf))), (sv, .inl (cI, VN, .inl fv)), (rs, .inr (1, [.ref rsb, .int (nI n)])), (rsb, .inl (cB, 65536, .inl (bF b)))] (kQv D (kT cI cB cJ cS) (fun (ug : Unit) => True) (fun ug => [(wt, .inr (3, [.int (nI u), .ref sh, .ref rs, .int (nI lo), .int (nI ((wSt pf fv u lo b n i q).2.2.1)), .int (nI ((wSt pf fv u lo b n i q).2.2.2))])), (sh, .inr (2, [.ref sn, .ref sv, .int (nI pn), .int (nI vn)])), (sn, .inl (cI, PN, .inl (iF pf))), (sv, .inl (cI, VN, .inl fv)), (rs, .inr (1, [.ref rsb, .int (nI ((wSt pf fv u lo b n i q).2.1))])), (rsb, .inl (cB, 65536, .inl (bF ((wSt pf fv u lo b n i q).1))))])) := by
  refine k_ofW (by decide) rfl (Nat.le_of_ble_eq_true rfl) ?_
  intro p e s m below meth c A ls hx hb hr hts hown hlocks hmn hml hA hP hK hD hS hZ hl
  have inX3 : ∀ w ∈ wsX30, w ∈ vsX5_putShape := fun w h => List.mem_cons_of_mem _ (iaX3 w h)
  have inX4 : ∀ w ∈ wsX40, w ∈ vsX5_putShape := fun w h => List.mem_cons_of_mem _ (iaX4 w h)
  have inX5 : ∀ w ∈ wsX50, w ∈ vsX5_putShape := fun w h => List.mem_cons_of_mem _ (iaX5 w h)
  have F : CallFix p m c cX5_putShape 3 s _ vsX5_putShape RX5 := ⟨hx, hb, hml, hown, hts⟩
  have hl : lv_has ls 3 [(0, .ref wt)] := hl
  refine lv_aload_n hx hb dX5_putShape_0 rfl (lv_at hl 0 rfl) ?_
  obtain ⟨g1, g2, g3, g4, g5, g6, g7⟩ := hsg
  refine k_ci (wr := []) (k_rv F (c_Wr_nextOfPlan l D cI cB cJ cS wt sh sn sv rs rsb u lo i q n PN pn VN vn b pf fv hPN hpn hVN hvn (by omega) hlo2 (by omega) (by omega) hu1 hu2 hfv (by omega)) (cwV 0 hts (g_V wd_273 wd_274 wd_275 wd_271 wd_276) rfl rfl rfl (by decide +kernel) ⟨Nat.le_of_ble_eq_true rfl, Nat.le_of_ble_eq_true rfl⟩) hK hP hD hS hA hZ [0, 1, 2, 3, 4, 5] rfl (by decide) 0 rfl rfl rfl rfl hl.1 rfl (Nat.le_of_ble_eq_true rfl) dX5_putShape_1 ⟨Nat.le_of_ble_eq_true rfl, Nat.le_of_ble_eq_true rfl⟩) hP hD hS hA [0, 1, 2, 3, 4, 5] [] rfl rfl (by decide) (by decide) (fun r u9 H locs hw hP hD hS => ?_)
  subst hw
  have hP : va_P D kCl [(wt, .inr (3, [.int (nI u), .ref sh, .ref rs, .int (nI lo), .int (nI (i + 1)), .int (nI q)])), (sh, .inr (2, [.ref sn, .ref sv, .int (nI pn), .int (nI vn)])), (sn, .inl (cI, PN, .inl (iF pf))), (sv, .inl (cI, VN, .inl fv)), (rs, .inr (1, [.ref rsb, .int (nI n)])), (rsb, .inl (cB, 65536, .inl (bF b)))] H := hP
  have hD : va_D A [(wt, .inr (3, [.int (nI u), .ref sh, .ref rs, .int (nI lo), .int (nI (i + 1)), .int (nI q)])), (sh, .inr (2, [.ref sn, .ref sv, .int (nI pn), .int (nI vn)])), (sn, .inl (cI, PN, .inl (iF pf))), (sv, .inl (cI, VN, .inl fv)), (rs, .inr (1, [.ref rsb, .int (nI n)])), (rsb, .inl (cB, 65536, .inl (bF b)))] := hD
  refine W.widen (k := 0) (n := 0) (Nat.le_of_ble_eq_true rfl) (Nat.le_of_ble_eq_true rfl) ?_
  refine lv_istore_n (lv' := [(1, .int (nI (pf i))), (0, .ref wt)]) hx hb dX5_putShape_4 rfl hl (by decide) rfl (fun ls hl => ?_)
  refine lv_aload_n hx hb dX5_putShape_5 rfl (lv_at hl 1 rfl) ?_
  refine k_ci (wr := []) (k_rv F (c_Wr_nextOfPlan l D cI cB cJ cS wt sh sn sv rs rsb u lo (i + 1) q n PN pn VN vn b pf fv hPN hpn hVN hvn (by omega) hlo2 (by omega) (by omega) hu1 hu2 hfv (by omega)) (cwV 0 hts (g_V wd_273 wd_274 wd_275 wd_271 wd_276) rfl rfl rfl (by decide +kernel) ⟨Nat.le_of_ble_eq_true rfl, Nat.le_of_ble_eq_true rfl⟩) hK hP hD hS hA hZ [0, 1, 2, 3, 4, 5] rfl (by decide) 0 rfl rfl rfl rfl hl.1 rfl (Nat.le_of_ble_eq_true rfl) dX5_putShape_6 ⟨Nat.le_of_ble_eq_true rfl, Nat.le_of_ble_eq_true rfl⟩) hP hD hS hA [0, 1, 2, 3, 4, 5] [] rfl rfl (by decide) (by decide) (fun r u9 H locs hw hP hD hS => ?_)
  subst hw
  have hP : va_P D kCl [(wt, .inr (3, [.int (nI u), .ref sh, .ref rs, .int (nI lo), .int (nI (i + 1 + 1)), .int (nI q)])), (sh, .inr (2, [.ref sn, .ref sv, .int (nI pn), .int (nI vn)])), (sn, .inl (cI, PN, .inl (iF pf))), (sv, .inl (cI, VN, .inl fv)), (rs, .inr (1, [.ref rsb, .int (nI n)])), (rsb, .inl (cB, 65536, .inl (bF b)))] H := hP
  have hD : va_D A [(wt, .inr (3, [.int (nI u), .ref sh, .ref rs, .int (nI lo), .int (nI (i + 1 + 1)), .int (nI q)])), (sh, .inr (2, [.ref sn, .ref sv, .int (nI pn), .int (nI vn)])), (sn, .inl (cI, PN, .inl (iF pf))), (sv, .inl (cI, VN, .inl fv)), (rs, .inr (1, [.ref rsb, .int (nI n)])), (rsb, .inl (cB, 65536, .inl (bF b)))] := hD
  refine W.widen (k := 0) (n := 0) (Nat.le_of_ble_eq_true rfl) (Nat.le_of_ble_eq_true rfl) ?_
  refine lv_istore_n (lv' := [(2, .int (nI (pf (i + 1)))), (1, .int (nI (pf i))), (0, .ref wt)]) hx hb dX5_putShape_9 rfl hl (by decide) rfl (fun ls hl => ?_)
  refine lv_aload_n hx hb dX5_putShape_10 rfl (lv_at hl 2 rfl) ?_
  refine va_get (D := D) (ci := 3) (v := .ref rs) (C := RX5) (T := TX5) (N := 6) hx hb hts inX5 hown hK hP 0 rfl rfl 2 (by decide) (hts (.fieldLink RX5 17 "ByteShapes$Writer" "row" "LByteShapes$Row;") (List.mem_cons_of_mem _ wd_260)) (fun _ h9 => h9) rfl dX5_putShape_11 ?_
  refine lv_aload_n hx hb dX5_putShape_14 rfl (lv_at hl 2 rfl) ?_
  refine va_get (D := D) (ci := 3) (v := .int (nI lo)) (C := RX5) (T := TX5) (N := 6) hx hb hts inX5 hown hK hP 0 rfl rfl 3 (by decide) (hts (.fieldLink RX5 21 "ByteShapes$Writer" "order" "I") (List.mem_cons_of_mem _ wd_261)) (fun _ h9 => h9) rfl dX5_putShape_15 ?_
  refine lv_i2l (v := lN lo) hx hb dX5_putShape_18 (nI_l (by omega)) ?_
  refine lv_iconst (v := nI 1) hx hb dX5_putShape_19 (by decide) ?_
  refine lv_iconst (v := nI 0) hx hb dX5_putShape_20 (by decide) ?_
  refine k_cv (wr := [(wt, .inr (3, [.int (nI u), .ref sh, .ref rs, .int (nI lo), .int (nI (i + 1 + 1)), .int (nI q)])), (sh, .inr (2, [.ref sn, .ref sv, .int (nI pn), .int (nI vn)])), (sn, .inl (cI, PN, .inl (iF pf))), (sv, .inl (cI, VN, .inl fv))]) (k_rv F (c_Row_append l D cI cB cJ cS rs rsb n b lo 1 0 (by omega) (by decide) (by decide) (by omega)) (cwV 3 hts (g_V wd_262 wd_206 wd_207 wd_50 wd_208) rfl rfl rfl (by decide +kernel) ⟨Nat.le_of_ble_eq_true rfl, Nat.le_of_ble_eq_true rfl⟩) hK hP hD hS hA hZ [4, 5] rfl (by decide) 4 rfl rfl rfl rfl hl.1 rfl (Nat.le_of_ble_eq_true rfl) dX5_putShape_21 ⟨Nat.le_of_ble_eq_true rfl, Nat.le_of_ble_eq_true rfl⟩) hP hD hS hA [4, 5] [0, 1, 2, 3] rfl rfl (by decide) (by decide) (fun u9 H locs hw hP hD hS => ?_)
  have hP : va_P D kCl [(wt, .inr (3, [.int (nI u), .ref sh, .ref rs, .int (nI lo), .int (nI (i + 1 + 1)), .int (nI q)])), (sh, .inr (2, [.ref sn, .ref sv, .int (nI pn), .int (nI vn)])), (sn, .inl (cI, PN, .inl (iF pf))), (sv, .inl (cI, VN, .inl fv)), (rs, .inr (1, [.ref rsb, .int (nI (n + 1))])), (rsb, .inl (cB, 65536, .inl (bF (pA b n lo 1 0 1))))] H := hP
  have hD : va_D A [(wt, .inr (3, [.int (nI u), .ref sh, .ref rs, .int (nI lo), .int (nI (i + 1 + 1)), .int (nI q)])), (sh, .inr (2, [.ref sn, .ref sv, .int (nI pn), .int (nI vn)])), (sn, .inl (cI, PN, .inl (iF pf))), (sv, .inl (cI, VN, .inl fv)), (rs, .inr (1, [.ref rsb, .int (nI (n + 1))])), (rsb, .inl (cB, 65536, .inl (bF (pA b n lo 1 0 1))))] := hD
  refine W.widen (k := 0) (n := 0) (Nat.le_of_ble_eq_true rfl) (Nat.le_of_ble_eq_true rfl) ?_
  refine lv_aload_n hx hb dX5_putShape_24 rfl (lv_at hl 2 rfl) ?_
  refine lv_iload_n hx hb dX5_putShape_25 rfl (lv_at hl 1 rfl) ?_
  refine lv_i2l (v := lN (pf i)) hx hb dX5_putShape_26 (nI_l (by omega)) ?_
  refine lv_iconst (v := nI 4) hx hb dX5_putShape_27 (by decide) ?_
  refine k_cv (wr := []) (k_rv F (c_Wr_put l D cI cB cJ cS wt sh sn sv rs rsb u lo (i + 1 + 1) q (n + 1) PN pn VN vn (pA b n lo 1 0 1) pf fv hPN hpn hVN hvn (by omega) hlo2 (by omega) (by omega) hu1 hu2 hfv (pf i) 4 (by decide) (by omega) (by omega)) (cwV 2 hts (g_V wd_268 wd_269 wd_270 wd_271 wd_272) rfl rfl rfl (by decide +kernel) ⟨Nat.le_of_ble_eq_true rfl, Nat.le_of_ble_eq_true rfl⟩) hK hP hD hS hA hZ [0, 1, 2, 3, 4, 5] rfl (by decide) 0 rfl rfl rfl rfl hl.1 rfl (Nat.le_of_ble_eq_true rfl) dX5_putShape_28 ⟨Nat.le_of_ble_eq_true rfl, Nat.le_of_ble_eq_true rfl⟩) hP hD hS hA [0, 1, 2, 3, 4, 5] [] rfl rfl (by decide) (by decide) (fun u9 H locs hw hP hD hS => ?_)
  have hP : va_P D kCl [(wt, .inr (3, [.int (nI u), .ref sh, .ref rs, .int (nI lo), .int (nI (i + 1 + 1)), .int (nI q)])), (sh, .inr (2, [.ref sn, .ref sv, .int (nI pn), .int (nI vn)])), (sn, .inl (cI, PN, .inl (iF pf))), (sv, .inl (cI, VN, .inl fv)), (rs, .inr (1, [.ref rsb, .int (nI (n + 1 + 4))])), (rsb, .inl (cB, 65536, .inl (bF (wHd pf lo b n i))))] H := hP
  have hD : va_D A [(wt, .inr (3, [.int (nI u), .ref sh, .ref rs, .int (nI lo), .int (nI (i + 1 + 1)), .int (nI q)])), (sh, .inr (2, [.ref sn, .ref sv, .int (nI pn), .int (nI vn)])), (sn, .inl (cI, PN, .inl (iF pf))), (sv, .inl (cI, VN, .inl fv)), (rs, .inr (1, [.ref rsb, .int (nI (n + 1 + 4))])), (rsb, .inl (cB, 65536, .inl (bF (wHd pf lo b n i))))] := hD
  refine W.widen (k := 0) (n := 0) (Nat.le_of_ble_eq_true rfl) (Nat.le_of_ble_eq_true rfl) ?_
  refine lv_iload_n hx hb dX5_putShape_31 rfl (lv_at hl 1 rfl) ?_
  refine lv_iconst (v := nI 1) hx hb dX5_putShape_32 (by decide) ?_
  refine k_icmp_ne (tgt := 42) (by omega) (by omega) hx hb dX5_putShape_33 (by decide) (fun h1 => ?_) (fun h1 => ?_)
  · skip
    refine lv_aload_n hx hb dX5_putShape_42 rfl (lv_at hl 2 rfl) ?_
    refine lv_iload_n hx hb dX5_putShape_43 rfl (lv_at hl 0 rfl) ?_
    refine lv_i2l (v := lN (sx (pf (i + 1)))) hx hb dX5_putShape_44 (sx_eq g3) ?_
    refine lv_iconst (v := nI 4) hx hb dX5_putShape_45 (by decide) ?_
    refine k_cv (wr := []) (k_rv F (c_Wr_put l D cI cB cJ cS wt sh sn sv rs rsb u lo (i + 1 + 1) q (n + 1 + 4) PN pn VN vn (wHd pf lo b n i) pf fv hPN hpn hVN hvn (by omega) hlo2 (by omega) (by omega) hu1 hu2 hfv (sx (pf (i + 1))) 4 (by decide) (by omega) (sx_lt g3)) (cwV 2 hts (g_V wd_268 wd_269 wd_270 wd_271 wd_272) rfl rfl rfl (by decide +kernel) ⟨Nat.le_of_ble_eq_true rfl, Nat.le_of_ble_eq_true rfl⟩) hK hP hD hS hA hZ [0, 1, 2, 3, 4, 5] rfl (by decide) 0 rfl rfl rfl rfl hl.1 rfl (Nat.le_of_ble_eq_true rfl) dX5_putShape_46 ⟨Nat.le_of_ble_eq_true rfl, Nat.le_of_ble_eq_true rfl⟩) hP hD hS hA [0, 1, 2, 3, 4, 5] [] rfl rfl (by decide) (by decide) (fun u9 H locs hw hP hD hS => ?_)
    have hP : va_P D kCl [(wt, .inr (3, [.int (nI u), .ref sh, .ref rs, .int (nI lo), .int (nI (i + 1 + 1)), .int (nI q)])), (sh, .inr (2, [.ref sn, .ref sv, .int (nI pn), .int (nI vn)])), (sn, .inl (cI, PN, .inl (iF pf))), (sv, .inl (cI, VN, .inl fv)), (rs, .inr (1, [.ref rsb, .int (nI (n + 1 + 4 + 4))])), (rsb, .inl (cB, 65536, .inl (bF (pA (wHd pf lo b n i) (n + 1 + 4) (sx (pf (i + 1))) 4 lo 4))))] H := hP
    have hD : va_D A [(wt, .inr (3, [.int (nI u), .ref sh, .ref rs, .int (nI lo), .int (nI (i + 1 + 1)), .int (nI q)])), (sh, .inr (2, [.ref sn, .ref sv, .int (nI pn), .int (nI vn)])), (sn, .inl (cI, PN, .inl (iF pf))), (sv, .inl (cI, VN, .inl fv)), (rs, .inr (1, [.ref rsb, .int (nI (n + 1 + 4 + 4))])), (rsb, .inl (cB, 65536, .inl (bF (pA (wHd pf lo b n i) (n + 1 + 4) (sx (pf (i + 1))) 4 lo 4))))] := hD
    refine W.widen (k := 0) (n := 0) (Nat.le_of_ble_eq_true rfl) (Nat.le_of_ble_eq_true rfl) ?_
    rw [pA_sx g3] at hP hD
    have hP : va_P D kCl [(wt, .inr (3, [.int (nI u), .ref sh, .ref rs, .int (nI lo), .int (nI (i + 1 + 1)), .int (nI q)])), (sh, .inr (2, [.ref sn, .ref sv, .int (nI pn), .int (nI vn)])), (sn, .inl (cI, PN, .inl (iF pf))), (sv, .inl (cI, VN, .inl fv)), (rs, .inr (1, [.ref rsb, .int (nI (n + 1 + 4 + 4))])), (rsb, .inl (cB, 65536, .inl (bF (pA (wHd pf lo b n i) (n + 1 + 4) (pf (i + 1)) 4 lo 4))))] H := hP
    have hD : va_D A [(wt, .inr (3, [.int (nI u), .ref sh, .ref rs, .int (nI lo), .int (nI (i + 1 + 1)), .int (nI q)])), (sh, .inr (2, [.ref sn, .ref sv, .int (nI pn), .int (nI vn)])), (sn, .inl (cI, PN, .inl (iF pf))), (sv, .inl (cI, VN, .inl fv)), (rs, .inr (1, [.ref rsb, .int (nI (n + 1 + 4 + 4))])), (rsb, .inl (cB, 65536, .inl (bF (pA (wHd pf lo b n i) (n + 1 + 4) (pf (i + 1)) 4 lo 4))))] := hD
    refine lv_iload_n hx hb dX5_putShape_49 rfl (lv_at hl 1 rfl) ?_
    refine lv_iconst (v := nI 2) hx hb dX5_putShape_50 (by decide) ?_
    refine k_icmp_ne (tgt := 62) (by omega) (by omega) hx hb dX5_putShape_51 (by decide) (fun h2 => ?_) (fun h2 => ?_)
    · skip
      refine lv_iload_n hx hb dX5_putShape_62 rfl (lv_at hl 1 rfl) ?_
      refine lv_iconst (v := nI 3) hx hb dX5_putShape_63 (by decide) ?_
      refine k_icmp_ne (tgt := 72) (by omega) (by omega) hx hb dX5_putShape_64 (by decide) (fun h3 => ?_) (fun h3 => ?_)
      · skip
        have E9 : wSt pf fv u lo b n i q = (pA (wHd pf lo b n i) (n + 1 + 4) (pf (i + 1)) 4 lo 4, n + 1 + 4 + 4, i + 1 + 1, q) := by unfold wSt; rw [if_neg h1, if_neg h2, if_neg h3]
        exact k_vret () hx hb hr hlocks hK hP hD hS (by rw [E9]) (trivial) (Nat.le_of_ble_eq_true rfl) (Nat.le_of_ble_eq_true rfl) dX5_putShape_72
      · skip
        refine lv_aload_n hx hb dX5_putShape_67 rfl (lv_at hl 2 rfl) ?_
        refine lv_iload_n hx hb dX5_putShape_68 rfl (lv_at hl 0 rfl) ?_
        have g8 := g7 h3
        refine k_cv (wr := []) (k_rv F (c_Wr_putRings l D cI cB cJ cS wt sh sn sv rs rsb u lo (i + 1 + 1) q (n + 1 + 4 + 4) PN pn VN vn (pA (wHd pf lo b n i) (n + 1 + 4) (pf (i + 1)) 4 lo 4) pf fv hPN hpn hVN hvn (by omega) hlo2 (by omega) (by omega) hu1 hu2 hfv (pf (i + 1)) (rings_lt g8 (by omega)) g8) (cwV 1 hts (g_V wd_282 wd_283 wd_284 wd_271 wd_285) rfl rfl rfl (by decide +kernel) ⟨Nat.le_of_ble_eq_true rfl, Nat.le_of_ble_eq_true rfl⟩) hK hP hD hS hA hZ [0, 1, 2, 3, 4, 5] rfl (by decide) 0 rfl rfl rfl rfl hl.1 rfl (Nat.le_of_ble_eq_true rfl) dX5_putShape_69 ⟨Nat.le_of_ble_eq_true rfl, Nat.le_of_ble_eq_true rfl⟩) hP hD hS hA [0, 1, 2, 3, 4, 5] [] rfl rfl (by decide) (by decide) (fun u9 H locs hw hP hD hS => ?_)
        have hP : va_P D kCl [(wt, .inr (3, [.int (nI u), .ref sh, .ref rs, .int (nI lo), .int (nI ((wRi pf fv u lo (pA (wHd pf lo b n i) (n + 1 + 4) (pf (i + 1)) 4 lo 4, n + 1 + 4 + 4, i + 1 + 1, q) (pf (i + 1))).2.2.1)), .int (nI ((wRi pf fv u lo (pA (wHd pf lo b n i) (n + 1 + 4) (pf (i + 1)) 4 lo 4, n + 1 + 4 + 4, i + 1 + 1, q) (pf (i + 1))).2.2.2))])), (sh, .inr (2, [.ref sn, .ref sv, .int (nI pn), .int (nI vn)])), (sn, .inl (cI, PN, .inl (iF pf))), (sv, .inl (cI, VN, .inl fv)), (rs, .inr (1, [.ref rsb, .int (nI ((wRi pf fv u lo (pA (wHd pf lo b n i) (n + 1 + 4) (pf (i + 1)) 4 lo 4, n + 1 + 4 + 4, i + 1 + 1, q) (pf (i + 1))).2.1))])), (rsb, .inl (cB, 65536, .inl (bF ((wRi pf fv u lo (pA (wHd pf lo b n i) (n + 1 + 4) (pf (i + 1)) 4 lo 4, n + 1 + 4 + 4, i + 1 + 1, q) (pf (i + 1))).1))))] H := hP
        have hD : va_D A [(wt, .inr (3, [.int (nI u), .ref sh, .ref rs, .int (nI lo), .int (nI ((wRi pf fv u lo (pA (wHd pf lo b n i) (n + 1 + 4) (pf (i + 1)) 4 lo 4, n + 1 + 4 + 4, i + 1 + 1, q) (pf (i + 1))).2.2.1)), .int (nI ((wRi pf fv u lo (pA (wHd pf lo b n i) (n + 1 + 4) (pf (i + 1)) 4 lo 4, n + 1 + 4 + 4, i + 1 + 1, q) (pf (i + 1))).2.2.2))])), (sh, .inr (2, [.ref sn, .ref sv, .int (nI pn), .int (nI vn)])), (sn, .inl (cI, PN, .inl (iF pf))), (sv, .inl (cI, VN, .inl fv)), (rs, .inr (1, [.ref rsb, .int (nI ((wRi pf fv u lo (pA (wHd pf lo b n i) (n + 1 + 4) (pf (i + 1)) 4 lo 4, n + 1 + 4 + 4, i + 1 + 1, q) (pf (i + 1))).2.1))])), (rsb, .inl (cB, 65536, .inl (bF ((wRi pf fv u lo (pA (wHd pf lo b n i) (n + 1 + 4) (pf (i + 1)) 4 lo 4, n + 1 + 4 + 4, i + 1 + 1, q) (pf (i + 1))).1))))] := hD
        refine W.widen (k := 0) (n := 0) (Nat.le_of_ble_eq_true rfl) (Nat.le_of_ble_eq_true rfl) ?_
        have E9 : wSt pf fv u lo b n i q = ((wRi pf fv u lo (pA (wHd pf lo b n i) (n + 1 + 4) (pf (i + 1)) 4 lo 4, n + 1 + 4 + 4, i + 1 + 1, q) (pf (i + 1))).1, (wRi pf fv u lo (pA (wHd pf lo b n i) (n + 1 + 4) (pf (i + 1)) 4 lo 4, n + 1 + 4 + 4, i + 1 + 1, q) (pf (i + 1))).2.1, (wRi pf fv u lo (pA (wHd pf lo b n i) (n + 1 + 4) (pf (i + 1)) 4 lo 4, n + 1 + 4 + 4, i + 1 + 1, q) (pf (i + 1))).2.2.1, (wRi pf fv u lo (pA (wHd pf lo b n i) (n + 1 + 4) (pf (i + 1)) 4 lo 4, n + 1 + 4 + 4, i + 1 + 1, q) (pf (i + 1))).2.2.2) := by unfold wSt; rw [if_neg h1, if_neg h2, if_pos h3]
        exact k_vret () hx hb hr hlocks hK hP hD hS (by rw [E9]) (trivial) (Nat.le_of_ble_eq_true rfl) (Nat.le_of_ble_eq_true rfl) dX5_putShape_72
    · skip
      refine lv_aload_n hx hb dX5_putShape_54 rfl (lv_at hl 2 rfl) ?_
      refine lv_iload_n hx hb dX5_putShape_55 rfl (lv_at hl 0 rfl) ?_
      obtain ⟨g8, g9⟩ := g6 h2
      refine k_cv (wr := []) (k_rv F (c_Wr_putCoordinates l D cI cB cJ cS wt sh sn sv rs rsb u lo (i + 1 + 1) q (n + 1 + 4 + 4) PN pn VN vn (pA (wHd pf lo b n i) (n + 1 + 4) (pf (i + 1)) 4 lo 4) pf fv hPN hpn hVN hvn (by omega) hlo2 (by omega) (by omega) hu1 hu2 hfv (pf (i + 1)) g8 (by omega)) (cwV 1 hts (g_V wd_277 wd_278 wd_279 wd_271 wd_280) rfl rfl rfl (by decide +kernel) ⟨Nat.le_of_ble_eq_true rfl, Nat.le_of_ble_eq_true rfl⟩) hK hP hD hS hA hZ [0, 1, 2, 3, 4, 5] rfl (by decide) 0 rfl rfl rfl rfl hl.1 rfl (Nat.le_of_ble_eq_true rfl) dX5_putShape_56 ⟨Nat.le_of_ble_eq_true rfl, Nat.le_of_ble_eq_true rfl⟩) hP hD hS hA [0, 1, 2, 3, 4, 5] [] rfl rfl (by decide) (by decide) (fun u9 H locs hw hP hD hS => ?_)
      have hP : va_P D kCl [(wt, .inr (3, [.int (nI u), .ref sh, .ref rs, .int (nI lo), .int (nI (i + 1 + 1)), .int (nI (q + pf (i + 1)))])), (sh, .inr (2, [.ref sn, .ref sv, .int (nI pn), .int (nI vn)])), (sn, .inl (cI, PN, .inl (iF pf))), (sv, .inl (cI, VN, .inl fv)), (rs, .inr (1, [.ref rsb, .int (nI (n + 1 + 4 + 4 + 16 * pf (i + 1)))])), (rsb, .inl (cB, 65536, .inl (bF (wCo fv u lo (pA (wHd pf lo b n i) (n + 1 + 4) (pf (i + 1)) 4 lo 4) (n + 1 + 4 + 4) q (pf (i + 1))))))] H := hP
      have hD : va_D A [(wt, .inr (3, [.int (nI u), .ref sh, .ref rs, .int (nI lo), .int (nI (i + 1 + 1)), .int (nI (q + pf (i + 1)))])), (sh, .inr (2, [.ref sn, .ref sv, .int (nI pn), .int (nI vn)])), (sn, .inl (cI, PN, .inl (iF pf))), (sv, .inl (cI, VN, .inl fv)), (rs, .inr (1, [.ref rsb, .int (nI (n + 1 + 4 + 4 + 16 * pf (i + 1)))])), (rsb, .inl (cB, 65536, .inl (bF (wCo fv u lo (pA (wHd pf lo b n i) (n + 1 + 4) (pf (i + 1)) 4 lo 4) (n + 1 + 4 + 4) q (pf (i + 1))))))] := hD
      refine W.widen (k := 0) (n := 0) (Nat.le_of_ble_eq_true rfl) (Nat.le_of_ble_eq_true rfl) ?_
      refine lv_goto (tgt := 72) hx hb dX5_putShape_59 (by decide) ?_
      have E9 : wSt pf fv u lo b n i q = (wCo fv u lo (pA (wHd pf lo b n i) (n + 1 + 4) (pf (i + 1)) 4 lo 4) (n + 1 + 4 + 4) q (pf (i + 1)), n + 1 + 4 + 4 + 16 * pf (i + 1), i + 1 + 1, q + pf (i + 1)) := by unfold wSt; rw [if_neg h1, if_pos h2]
      exact k_vret () hx hb hr hlocks hK hP hD hS (by rw [E9]) (trivial) (Nat.le_of_ble_eq_true rfl) (Nat.le_of_ble_eq_true rfl) dX5_putShape_72
  · skip
    refine lv_aload_n hx hb dX5_putShape_36 rfl (lv_at hl 2 rfl) ?_
    refine lv_iload_n hx hb dX5_putShape_37 rfl (lv_at hl 0 rfl) ?_
    have g6 := g5 h1
    by_cases h0 : pf (i + 1) = 0
    · skip
      rw [show pf (i + 1) = 0 from h0]
      refine k_cv (wr := []) (k_rv F (c_Wr_putPoint0 l D cI cB cJ cS wt sh sn sv rs rsb u lo (i + 1 + 1) q (n + 1 + 4) PN pn VN vn (wHd pf lo b n i) pf fv hPN hpn hVN hvn (by omega) hlo2 (by omega) (by omega) hu1 hu2 hfv (by omega)) (cwV 1 hts (g_V wd_286 wd_287 wd_288 wd_271 wd_289) rfl rfl rfl (by decide +kernel) ⟨Nat.le_of_ble_eq_true rfl, Nat.le_of_ble_eq_true rfl⟩) hK hP hD hS hA hZ [0, 1, 2, 3, 4, 5] rfl (by decide) 0 rfl rfl rfl rfl hl.1 rfl (Nat.le_of_ble_eq_true rfl) dX5_putShape_38 ⟨Nat.le_of_ble_eq_true rfl, Nat.le_of_ble_eq_true rfl⟩) hP hD hS hA [0, 1, 2, 3, 4, 5] [] rfl rfl (by decide) (by decide) (fun u9 H locs hw hP hD hS => ?_)
      have hP : va_P D kCl [(wt, .inr (3, [.int (nI u), .ref sh, .ref rs, .int (nI lo), .int (nI (i + 1 + 1)), .int (nI q)])), (sh, .inr (2, [.ref sn, .ref sv, .int (nI pn), .int (nI vn)])), (sn, .inl (cI, PN, .inl (iF pf))), (sv, .inl (cI, VN, .inl fv)), (rs, .inr (1, [.ref rsb, .int (nI (n + 1 + 4 + 8 + 8))])), (rsb, .inl (cB, 65536, .inl (bF (pA (pA (wHd pf lo b n i) (n + 1 + 4) 9221120237041090560 8 lo 8) (n + 1 + 4 + 8) 9221120237041090560 8 lo 8))))] H := hP
      have hD : va_D A [(wt, .inr (3, [.int (nI u), .ref sh, .ref rs, .int (nI lo), .int (nI (i + 1 + 1)), .int (nI q)])), (sh, .inr (2, [.ref sn, .ref sv, .int (nI pn), .int (nI vn)])), (sn, .inl (cI, PN, .inl (iF pf))), (sv, .inl (cI, VN, .inl fv)), (rs, .inr (1, [.ref rsb, .int (nI (n + 1 + 4 + 8 + 8))])), (rsb, .inl (cB, 65536, .inl (bF (pA (pA (wHd pf lo b n i) (n + 1 + 4) 9221120237041090560 8 lo 8) (n + 1 + 4 + 8) 9221120237041090560 8 lo 8))))] := hD
      refine W.widen (k := 0) (n := 0) (Nat.le_of_ble_eq_true rfl) (Nat.le_of_ble_eq_true rfl) ?_
      have E9 : wSt pf fv u lo b n i q = (pA (pA (wHd pf lo b n i) (n + 1 + 4) 9221120237041090560 8 lo 8) (n + 1 + 4 + 8) 9221120237041090560 8 lo 8, n + 1 + 4 + 8 + 8, i + 1 + 1, q) := by unfold wSt; rw [if_pos h1, if_pos h0]
      exact k_vret () hx hb hr hlocks hK hP hD hS (by rw [E9]) (trivial) (Nat.le_of_ble_eq_true rfl) (Nat.le_of_ble_eq_true rfl) dX5_putShape_41
    · skip
      refine k_cv (wr := []) (k_rv F (c_Wr_putPoint1 l D cI cB cJ cS wt sh sn sv rs rsb u lo (i + 1 + 1) q (n + 1 + 4) PN pn VN vn (wHd pf lo b n i) pf fv hPN hpn hVN hvn (by omega) hlo2 (by omega) (by omega) hu1 hu2 hfv (by omega) (by omega) (pf (i + 1)) h0 g3) (cwV 1 hts (g_V wd_286 wd_287 wd_288 wd_271 wd_289) rfl rfl rfl (by decide +kernel) ⟨Nat.le_of_ble_eq_true rfl, Nat.le_of_ble_eq_true rfl⟩) hK hP hD hS hA hZ [0, 1, 2, 3, 4, 5] rfl (by decide) 0 rfl rfl rfl rfl hl.1 rfl (Nat.le_of_ble_eq_true rfl) dX5_putShape_38 ⟨Nat.le_of_ble_eq_true rfl, Nat.le_of_ble_eq_true rfl⟩) hP hD hS hA [0, 1, 2, 3, 4, 5] [] rfl rfl (by decide) (by decide) (fun u9 H locs hw hP hD hS => ?_)
      have hP : va_P D kCl [(wt, .inr (3, [.int (nI u), .ref sh, .ref rs, .int (nI lo), .int (nI (i + 1 + 1)), .int (nI (q + 1))])), (sh, .inr (2, [.ref sn, .ref sv, .int (nI pn), .int (nI vn)])), (sn, .inl (cI, PN, .inl (iF pf))), (sv, .inl (cI, VN, .inl fv)), (rs, .inr (1, [.ref rsb, .int (nI (n + 1 + 4 + 16 * 1))])), (rsb, .inl (cB, 65536, .inl (bF (wCo fv u lo (wHd pf lo b n i) (n + 1 + 4) q 1))))] H := hP
      have hD : va_D A [(wt, .inr (3, [.int (nI u), .ref sh, .ref rs, .int (nI lo), .int (nI (i + 1 + 1)), .int (nI (q + 1))])), (sh, .inr (2, [.ref sn, .ref sv, .int (nI pn), .int (nI vn)])), (sn, .inl (cI, PN, .inl (iF pf))), (sv, .inl (cI, VN, .inl fv)), (rs, .inr (1, [.ref rsb, .int (nI (n + 1 + 4 + 16 * 1))])), (rsb, .inl (cB, 65536, .inl (bF (wCo fv u lo (wHd pf lo b n i) (n + 1 + 4) q 1))))] := hD
      refine W.widen (k := 0) (n := 0) (Nat.le_of_ble_eq_true rfl) (Nat.le_of_ble_eq_true rfl) ?_
      have E9 : wSt pf fv u lo b n i q = (wCo fv u lo (wHd pf lo b n i) (n + 1 + 4) q 1, n + 1 + 4 + 16 * 1, i + 1 + 1, q + 1) := by unfold wSt; rw [if_pos h1, if_neg h0]
      exact k_vret () hx hb hr hlocks hK hP hD hS (by rw [E9]) (trivial) (Nat.le_of_ble_eq_true rfl) (Nat.le_of_ble_eq_true rfl) dX5_putShape_41

set_option maxRecDepth 100000 in
set_option maxHeartbeats 4000000 in
theorem c_Wr_putAll (l : Launch) (D : va_G) (cI cB cJ cS : ClassId) (wt sh sn sv rs rsb u lo n PN pn VN vn : Nat) (b pf : Nat → Nat) (fv : Nat → Int32) (so ro : Value) (zo zp zq : Int32) (hPN : PN ≤ 4096) (hpn : pn ≤ PN) (hVN : VN ≤ 8192) (hvn : vn ≤ VN) (hn : n ≤ 65536) (hlo2 : lo < 2) (hu1 : 1 ≤ u) (hu2 : u ≤ 1000) (hfv : ∀ j, j < vn → fvOk (fv j)) (J : Nat) (hJ : J ≤ pn) (hgd : ∀ j, j < J → wSgy pf fv u lo pn (vn / 2) (wIt pf fv u lo (b, 0, 0, 0) j)) (bf : Nat → Nat) (nf qf : Nat) (hend : wIt pf fv u lo (b, 0, 0, 0) J = (bf, nf, pn, qf)) (hnf : nf ≤ 65536)  : kM l yX5_putAll vsX5_putAll ({ frames := 5, cells := 0, slots := 0, locals := 124 }) D (kT cI cB cJ cS) [.ref wt, .ref sh, .ref rs, .int (nI lo)] [(wt, .inr (3, [.int (nI u), so, ro, .int zo, .int zp, .int zq])), (sh, .inr (2, [.ref sn, .ref sv, .int (nI pn), .int (nI vn)])), (sn, .inl (cI, PN, .inl (iF pf))), (sv, .inl (cI, VN, .inl fv)), (rs, .inr (1, [.ref rsb, .int (nI n)])), (rsb, .inl (cB, 65536, .inl (bF b)))] (kQv D (kT cI cB cJ cS) (fun (ug : Unit) => True) (fun ug => [(wt, .inr (3, [.int (nI u), .ref sh, .ref rs, .int (nI lo), .int (nI pn), .int (nI qf)])), (sh, .inr (2, [.ref sn, .ref sv, .int (nI pn), .int (nI vn)])), (sn, .inl (cI, PN, .inl (iF pf))), (sv, .inl (cI, VN, .inl fv)), (rs, .inr (1, [.ref rsb, .int (nI nf)])), (rsb, .inl (cB, 65536, .inl (bF bf)))])) := by
  refine k_ofW (by decide) rfl (Nat.le_of_ble_eq_true rfl) ?_
  intro p e s m below meth c A ls hx hb hr hts hown hlocks hmn hml hA hP hK hD hS hZ hl
  have inX3 : ∀ w ∈ wsX30, w ∈ vsX5_putAll := fun w h => List.mem_cons_of_mem _ (iaX3 w h)
  have inX4 : ∀ w ∈ wsX40, w ∈ vsX5_putAll := fun w h => List.mem_cons_of_mem _ (iaX4 w h)
  have inX5 : ∀ w ∈ wsX50, w ∈ vsX5_putAll := fun w h => List.mem_cons_of_mem _ (iaX5 w h)
  have F : CallFix p m c cX5_putAll 6 s _ vsX5_putAll RX5 := ⟨hx, hb, hml, hown, hts⟩
  have hl : lv_has ls 6 [(0, .ref wt), (1, .ref sh), (2, .ref rs), (3, .int (nI lo))] := hl
  refine lv_aload_n hx hb dX5_putAll_0 rfl (lv_at hl 0 rfl) ?_
  refine lv_aload_n hx hb dX5_putAll_1 rfl (lv_at hl 1 rfl) ?_
  refine va_put (D := D) (ci := 3) (v := .ref sh) (ty := .object "ByteShapes$Shape") (C := RX5) (T := TX5) (N := 6) hx hb hts inX5 tyX5 tyX5_ok nmX5 hown hK hP hD hS 0 rfl rfl 1 (by decide) (hts (.fieldLink RX5 13 "ByteShapes$Writer" "shape" "LByteShapes$Shape;") (List.mem_cons_of_mem _ wd_257)) (fun _ h9 => h9) rfl (by decide +kernel) (rfl) (rfl) (Nat.le_of_ble_eq_true rfl) dX5_putAll_2 (fun H locs hP hD hS => ?_)
  have hP : va_P D kCl [(wt, .inr (3, [.int (nI u), .ref sh, ro, .int zo, .int zp, .int zq])), (sh, .inr (2, [.ref sn, .ref sv, .int (nI pn), .int (nI vn)])), (sn, .inl (cI, PN, .inl (iF pf))), (sv, .inl (cI, VN, .inl fv)), (rs, .inr (1, [.ref rsb, .int (nI n)])), (rsb, .inl (cB, 65536, .inl (bF b)))] H := hP
  have hD : va_D A [(wt, .inr (3, [.int (nI u), .ref sh, ro, .int zo, .int zp, .int zq])), (sh, .inr (2, [.ref sn, .ref sv, .int (nI pn), .int (nI vn)])), (sn, .inl (cI, PN, .inl (iF pf))), (sv, .inl (cI, VN, .inl fv)), (rs, .inr (1, [.ref rsb, .int (nI n)])), (rsb, .inl (cB, 65536, .inl (bF b)))] := hD
  refine lv_aload_n hx hb dX5_putAll_5 rfl (lv_at hl 0 rfl) ?_
  refine lv_aload_n hx hb dX5_putAll_6 rfl (lv_at hl 2 rfl) ?_
  refine va_put (D := D) (ci := 3) (v := .ref rs) (ty := .object "ByteShapes$Row") (C := RX5) (T := TX5) (N := 6) hx hb hts inX5 tyX5 tyX5_ok nmX5 hown hK hP hD hS 0 rfl rfl 2 (by decide) (hts (.fieldLink RX5 17 "ByteShapes$Writer" "row" "LByteShapes$Row;") (List.mem_cons_of_mem _ wd_260)) (fun _ h9 => h9) rfl (by decide +kernel) (rfl) (rfl) (Nat.le_of_ble_eq_true rfl) dX5_putAll_7 (fun H locs hP hD hS => ?_)
  have hP : va_P D kCl [(wt, .inr (3, [.int (nI u), .ref sh, .ref rs, .int zo, .int zp, .int zq])), (sh, .inr (2, [.ref sn, .ref sv, .int (nI pn), .int (nI vn)])), (sn, .inl (cI, PN, .inl (iF pf))), (sv, .inl (cI, VN, .inl fv)), (rs, .inr (1, [.ref rsb, .int (nI n)])), (rsb, .inl (cB, 65536, .inl (bF b)))] H := hP
  have hD : va_D A [(wt, .inr (3, [.int (nI u), .ref sh, .ref rs, .int zo, .int zp, .int zq])), (sh, .inr (2, [.ref sn, .ref sv, .int (nI pn), .int (nI vn)])), (sn, .inl (cI, PN, .inl (iF pf))), (sv, .inl (cI, VN, .inl fv)), (rs, .inr (1, [.ref rsb, .int (nI n)])), (rsb, .inl (cB, 65536, .inl (bF b)))] := hD
  refine lv_aload_n hx hb dX5_putAll_10 rfl (lv_at hl 0 rfl) ?_
  refine lv_iload_n hx hb dX5_putAll_11 rfl (lv_at hl 3 rfl) ?_
  refine va_put (D := D) (ci := 3) (v := .int (nI lo)) (ty := .int) (C := RX5) (T := TX5) (N := 6) hx hb hts inX5 tyX5 tyX5_ok nmX5 hown hK hP hD hS 0 rfl rfl 3 (by decide) (hts (.fieldLink RX5 21 "ByteShapes$Writer" "order" "I") (List.mem_cons_of_mem _ wd_261)) (fun _ h9 => h9) rfl (by decide +kernel) (rfl) (rfl) (Nat.le_of_ble_eq_true rfl) dX5_putAll_12 (fun H locs hP hD hS => ?_)
  have hP : va_P D kCl [(wt, .inr (3, [.int (nI u), .ref sh, .ref rs, .int (nI lo), .int zp, .int zq])), (sh, .inr (2, [.ref sn, .ref sv, .int (nI pn), .int (nI vn)])), (sn, .inl (cI, PN, .inl (iF pf))), (sv, .inl (cI, VN, .inl fv)), (rs, .inr (1, [.ref rsb, .int (nI n)])), (rsb, .inl (cB, 65536, .inl (bF b)))] H := hP
  have hD : va_D A [(wt, .inr (3, [.int (nI u), .ref sh, .ref rs, .int (nI lo), .int zp, .int zq])), (sh, .inr (2, [.ref sn, .ref sv, .int (nI pn), .int (nI vn)])), (sn, .inl (cI, PN, .inl (iF pf))), (sv, .inl (cI, VN, .inl fv)), (rs, .inr (1, [.ref rsb, .int (nI n)])), (rsb, .inl (cB, 65536, .inl (bF b)))] := hD
  refine lv_aload_n hx hb dX5_putAll_15 rfl (lv_at hl 0 rfl) ?_
  refine lv_iconst (v := nI 0) hx hb dX5_putAll_16 (by decide) ?_
  refine va_put (D := D) (ci := 3) (v := .int (nI 0)) (ty := .int) (C := RX5) (T := TX5) (N := 6) hx hb hts inX5 tyX5 tyX5_ok nmX5 hown hK hP hD hS 0 rfl rfl 4 (by decide) (hts (.fieldLink RX5 24 "ByteShapes$Writer" "planAt" "I") (List.mem_cons_of_mem _ wd_258)) (fun _ h9 => h9) rfl (by decide +kernel) (rfl) (rfl) (Nat.le_of_ble_eq_true rfl) dX5_putAll_17 (fun H locs hP hD hS => ?_)
  have hP : va_P D kCl [(wt, .inr (3, [.int (nI u), .ref sh, .ref rs, .int (nI lo), .int (nI 0), .int zq])), (sh, .inr (2, [.ref sn, .ref sv, .int (nI pn), .int (nI vn)])), (sn, .inl (cI, PN, .inl (iF pf))), (sv, .inl (cI, VN, .inl fv)), (rs, .inr (1, [.ref rsb, .int (nI n)])), (rsb, .inl (cB, 65536, .inl (bF b)))] H := hP
  have hD : va_D A [(wt, .inr (3, [.int (nI u), .ref sh, .ref rs, .int (nI lo), .int (nI 0), .int zq])), (sh, .inr (2, [.ref sn, .ref sv, .int (nI pn), .int (nI vn)])), (sn, .inl (cI, PN, .inl (iF pf))), (sv, .inl (cI, VN, .inl fv)), (rs, .inr (1, [.ref rsb, .int (nI n)])), (rsb, .inl (cB, 65536, .inl (bF b)))] := hD
  refine lv_aload_n hx hb dX5_putAll_20 rfl (lv_at hl 0 rfl) ?_
  refine lv_iconst (v := nI 0) hx hb dX5_putAll_21 (by decide) ?_
  refine va_put (D := D) (ci := 3) (v := .int (nI 0)) (ty := .int) (C := RX5) (T := TX5) (N := 6) hx hb hts inX5 tyX5 tyX5_ok nmX5 hown hK hP hD hS 0 rfl rfl 5 (by decide) (hts (.fieldLink RX5 27 "ByteShapes$Writer" "pointAt" "I") (List.mem_cons_of_mem _ wd_263)) (fun _ h9 => h9) rfl (by decide +kernel) (rfl) (rfl) (Nat.le_of_ble_eq_true rfl) dX5_putAll_22 (fun H locs hP hD hS => ?_)
  have hP : va_P D kCl [(wt, .inr (3, [.int (nI u), .ref sh, .ref rs, .int (nI lo), .int (nI 0), .int (nI 0)])), (sh, .inr (2, [.ref sn, .ref sv, .int (nI pn), .int (nI vn)])), (sn, .inl (cI, PN, .inl (iF pf))), (sv, .inl (cI, VN, .inl fv)), (rs, .inr (1, [.ref rsb, .int (nI n)])), (rsb, .inl (cB, 65536, .inl (bF b)))] H := hP
  have hD : va_D A [(wt, .inr (3, [.int (nI u), .ref sh, .ref rs, .int (nI lo), .int (nI 0), .int (nI 0)])), (sh, .inr (2, [.ref sn, .ref sv, .int (nI pn), .int (nI vn)])), (sn, .inl (cI, PN, .inl (iF pf))), (sv, .inl (cI, VN, .inl fv)), (rs, .inr (1, [.ref rsb, .int (nI n)])), (rsb, .inl (cB, 65536, .inl (bF b)))] := hD
  refine lv_aload_n hx hb dX5_putAll_25 rfl (lv_at hl 0 rfl) ?_
  refine va_get (D := D) (ci := 3) (v := .ref rs) (C := RX5) (T := TX5) (N := 6) hx hb hts inX5 hown hK hP 0 rfl rfl 2 (by decide) (hts (.fieldLink RX5 17 "ByteShapes$Writer" "row" "LByteShapes$Row;") (List.mem_cons_of_mem _ wd_260)) (fun _ h9 => h9) rfl dX5_putAll_26 ?_
  refine lv_iconst (v := nI 0) hx hb dX5_putAll_29 (by decide) ?_
  refine k_cv (wr := [(wt, .inr (3, [.int (nI u), .ref sh, .ref rs, .int (nI lo), .int (nI 0), .int (nI 0)])), (sh, .inr (2, [.ref sn, .ref sv, .int (nI pn), .int (nI vn)])), (sn, .inl (cI, PN, .inl (iF pf))), (sv, .inl (cI, VN, .inl fv))]) (k_rv F (c_Row_cut l D cI cB cJ cS rs rsb n b 0 (by omega) hn) (cwV 1 hts (g_V wd_290 wd_212 wd_213 wd_50 wd_214) rfl rfl rfl (by decide +kernel) ⟨Nat.le_of_ble_eq_true rfl, Nat.le_of_ble_eq_true rfl⟩) hK hP hD hS hA hZ [4, 5] rfl (by decide) 4 rfl rfl rfl rfl hl.1 rfl (Nat.le_of_ble_eq_true rfl) dX5_putAll_30 ⟨Nat.le_of_ble_eq_true rfl, Nat.le_of_ble_eq_true rfl⟩) hP hD hS hA [4, 5] [0, 1, 2, 3] rfl rfl (by decide) (by decide) (fun u9 H locs hw hP hD hS => ?_)
  have hP : va_P D kCl [(wt, .inr (3, [.int (nI u), .ref sh, .ref rs, .int (nI lo), .int (nI 0), .int (nI 0)])), (sh, .inr (2, [.ref sn, .ref sv, .int (nI pn), .int (nI vn)])), (sn, .inl (cI, PN, .inl (iF pf))), (sv, .inl (cI, VN, .inl fv)), (rs, .inr (1, [.ref rsb, .int (nI 0)])), (rsb, .inl (cB, 65536, .inl (bF b)))] H := hP
  have hD : va_D A [(wt, .inr (3, [.int (nI u), .ref sh, .ref rs, .int (nI lo), .int (nI 0), .int (nI 0)])), (sh, .inr (2, [.ref sn, .ref sv, .int (nI pn), .int (nI vn)])), (sn, .inl (cI, PN, .inl (iF pf))), (sv, .inl (cI, VN, .inl fv)), (rs, .inr (1, [.ref rsb, .int (nI 0)])), (rsb, .inl (cB, 65536, .inl (bF b)))] := hD
  refine W.widen (k := 0) (n := 0) (Nat.le_of_ble_eq_true rfl) (Nat.le_of_ble_eq_true rfl) ?_
  refine lv_aload_n hx hb dX5_putAll_33 rfl (lv_at hl 0 rfl) ?_
  refine va_get (D := D) (ci := 3) (v := .ref sh) (C := RX5) (T := TX5) (N := 6) hx hb hts inX5 hown hK hP 0 rfl rfl 1 (by decide) (hts (.fieldLink RX5 13 "ByteShapes$Writer" "shape" "LByteShapes$Shape;") (List.mem_cons_of_mem _ wd_257)) (fun _ h9 => h9) rfl dX5_putAll_34 ?_
  refine k_ci (wr := [(wt, .inr (3, [.int (nI u), .ref sh, .ref rs, .int (nI lo), .int (nI 0), .int (nI 0)])), (rs, .inr (1, [.ref rsb, .int (nI 0)])), (rsb, .inl (cB, 65536, .inl (bF b)))]) (k_rv F (c_Shape_planSize l D cI cB cJ cS sh sn sv PN pn VN vn pf fv) (cwV 0 hts (g_V wd_291 wd_253 wd_254 wd_41 wd_255) rfl rfl rfl (by decide +kernel) ⟨Nat.le_of_ble_eq_true rfl, Nat.le_of_ble_eq_true rfl⟩) hK hP hD hS hA hZ [1, 2, 3] rfl (by decide) 1 rfl rfl rfl rfl hl.1 rfl (Nat.le_of_ble_eq_true rfl) dX5_putAll_37 ⟨Nat.le_of_ble_eq_true rfl, Nat.le_of_ble_eq_true rfl⟩) hP hD hS hA [1, 2, 3] [0, 4, 5] rfl rfl (by decide) (by decide) (fun r u9 H locs hw hP hD hS => ?_)
  subst hw
  have hP : va_P D kCl [(wt, .inr (3, [.int (nI u), .ref sh, .ref rs, .int (nI lo), .int (nI 0), .int (nI 0)])), (rs, .inr (1, [.ref rsb, .int (nI 0)])), (rsb, .inl (cB, 65536, .inl (bF b))), (sh, .inr (2, [.ref sn, .ref sv, .int (nI pn), .int (nI vn)])), (sn, .inl (cI, PN, .inl (iF pf))), (sv, .inl (cI, VN, .inl fv))] H := hP
  have hD : va_D A [(wt, .inr (3, [.int (nI u), .ref sh, .ref rs, .int (nI lo), .int (nI 0), .int (nI 0)])), (rs, .inr (1, [.ref rsb, .int (nI 0)])), (rsb, .inl (cB, 65536, .inl (bF b))), (sh, .inr (2, [.ref sn, .ref sv, .int (nI pn), .int (nI vn)])), (sn, .inl (cI, PN, .inl (iF pf))), (sv, .inl (cI, VN, .inl fv))] := hD
  refine W.widen (k := 0) (n := 0) (Nat.le_of_ble_eq_true rfl) (Nat.le_of_ble_eq_true rfl) ?_
  refine lv_istore (lv' := [(4, .int (nI pn)), (0, .ref wt), (1, .ref sh), (2, .ref rs), (3, .int (nI lo))]) hx hb dX5_putAll_40 hl (by decide) rfl (fun ls hl => ?_)
  refine lv_iconst (v := nI 0) hx hb dX5_putAll_42 (by decide) ?_
  refine lv_istore (lv' := [(5, .int (nI 0)), (4, .int (nI pn)), (0, .ref wt), (1, .ref sh), (2, .ref rs), (3, .int (nI lo))]) hx hb dX5_putAll_43 hl (by decide) rfl (fun ls hl => ?_)
  have loop170 : ∀ (k171 : Nat) (j : Nat) (bj : Nat → Nat) (nj : Nat) (ij : Nat) (qj : Nat) (H : Heap) (locs : List Loc) (ls : Array Slot), J - j < k171 → (j ≤ J) → (wIt pf fv u lo (b, 0, 0, 0) j = (bj, nj, ij, qj)) → (nj ≤ 65536) → (ij ≤ pn) → (qj ≤ vn / 2) → va_P D kCl [(wt, .inr (3, [.int (nI u), .ref sh, .ref rs, .int (nI lo), .int (nI ij), .int (nI qj)])), (sh, .inr (2, [.ref sn, .ref sv, .int (nI pn), .int (nI vn)])), (sn, .inl (cI, PN, .inl (iF pf))), (sv, .inl (cI, VN, .inl fv)), (rs, .inr (1, [.ref rsb, .int (nI nj)])), (rsb, .inl (cB, 65536, .inl (bF bj)))] H → va_D A [(wt, .inr (3, [.int (nI u), .ref sh, .ref rs, .int (nI lo), .int (nI ij), .int (nI qj)])), (sh, .inr (2, [.ref sn, .ref sv, .int (nI pn), .int (nI vn)])), (sn, .inl (cI, PN, .inl (iF pf))), (sv, .inl (cI, VN, .inl fv)), (rs, .inr (1, [.ref rsb, .int (nI nj)])), (rsb, .inl (cB, 65536, .inl (bF bj)))] → va_S A s.heap H locs → lv_has ls 6 [(0, .ref wt), (1, .ref sh), (2, .ref rs), (3, .int (nI lo)), (4, .int (nI pn)), (5, .int (nI j))] → W p l e ({ frames := 5, cells := 0, slots := 0, locals := 124 }) s m ([.ref wt, .ref sh, .ref rs, .int (nI lo)] : List Value).toArray below meth c H locs 0 0 (MQ below ((kQv D (kT cI cB cJ cS) (fun (ug : Unit) => True) (fun ug => [(wt, .inr (3, [.int (nI u), .ref sh, .ref rs, .int (nI lo), .int (nI pn), .int (nI qf)])), (sh, .inr (2, [.ref sn, .ref sv, .int (nI pn), .int (nI vn)])), (sn, .inl (cI, PN, .inl (iF pf))), (sv, .inl (cI, VN, .inl fv)), (rs, .inr (1, [.ref rsb, .int (nI nf)])), (rsb, .inl (cB, 65536, .inl (bF bf)))])) A) ([.ref wt, .ref sh, .ref rs, .int (nI lo)] : List Value).toArray s ({ frames := 5, cells := 0, slots := 0, locals := 124 } : Room).cells ({ frames := 5, cells := 0, slots := 0, locals := 124 } : Room).slots A) (F0 m 45 ls []) := by
    intro k171
    induction k171 with
    | zero =>
      intro j bj nj ij qj H locs ls hk9
      exact absurd hk9 (Nat.not_lt_zero _)
    | succ k171 ihloop170 =>
      intro j bj nj ij qj H locs ls hk9 hj hY hnj hij hqj hP hD hS hl
      refine lv_iload hx hb dX5_putAll_45 (lv_at hl 5 rfl) ?_
      refine lv_iload hx hb dX5_putAll_47 (lv_at hl 4 rfl) ?_
      refine k_icmp_ge (tgt := 71) (by omega) (by omega) hx hb dX5_putAll_49 (by decide) (fun c172 => ?_) (fun c172 => ?_)
      · skip
        have e : j = J := by
          rcases Nat.lt_or_ge j J with h | h
          · have hg := hgd j h
            rw [hY] at hg
            have hg : ij + 2 ≤ pn := hg.1
            omega
          · omega
        subst e
        rw [hend] at hY
        cases hY
        exact k_vret () hx hb hr hlocks hK hP hD hS (rfl) (trivial) (Nat.le_of_ble_eq_true rfl) (Nat.le_of_ble_eq_true rfl) dX5_putAll_71
      · skip
        refine lv_aload_n hx hb dX5_putAll_52 rfl (lv_at hl 0 rfl) ?_
        refine va_get (D := D) (ci := 3) (v := .int (nI ij)) (C := RX5) (T := TX5) (N := 6) hx hb hts inX5 hown hK hP 0 rfl rfl 4 (by decide) (hts (.fieldLink RX5 24 "ByteShapes$Writer" "planAt" "I") (List.mem_cons_of_mem _ wd_258)) (fun _ h9 => h9) rfl dX5_putAll_53 ?_
        refine lv_iload hx hb dX5_putAll_56 (lv_at hl 4 rfl) ?_
        refine k_icmp_ge (tgt := 71) (by omega) (by omega) hx hb dX5_putAll_58 (by decide) (fun c173 => ?_) (fun c173 => ?_)
        · skip
          have e : j = J := by
            rcases Nat.lt_or_ge j J with h | h
            · have hg := hgd j h
              rw [hY] at hg
              have hg : ij + 2 ≤ pn := hg.1
              omega
            · omega
          subst e
          rw [hend] at hY
          cases hY
          exact k_vret () hx hb hr hlocks hK hP hD hS (rfl) (trivial) (Nat.le_of_ble_eq_true rfl) (Nat.le_of_ble_eq_true rfl) dX5_putAll_71
        · skip
          refine lv_aload_n hx hb dX5_putAll_61 rfl (lv_at hl 0 rfl) ?_
          have hjJ : j < J := by
            rcases Nat.lt_or_ge j J with h | h
            · exact h
            · have e : j = J := by omega
              subst e
              rw [hend] at hY
              cases hY
              omega
          have hg := hgd j hjJ
          rw [hY] at hg
          have hg : wSg pf fv u lo pn (vn / 2) bj nj ij qj := hg
          have k9 := wSt_ok hg hqj
          refine k_cv (wr := []) (k_rv F (c_Wr_putShape l D cI cB cJ cS wt sh sn sv rs rsb u lo ij qj nj PN pn VN vn bj pf fv hPN hpn hVN hvn (by omega) hlo2 (by omega) (by omega) hu1 hu2 hfv hg) (cwV 0 hts (g_V wd_292 wd_293 wd_294 wd_271 wd_295) rfl rfl rfl (by decide +kernel) ⟨Nat.le_of_ble_eq_true rfl, Nat.le_of_ble_eq_true rfl⟩) hK hP hD hS hA hZ [0, 1, 2, 3, 4, 5] rfl (by decide) 0 rfl rfl rfl rfl hl.1 rfl (Nat.le_of_ble_eq_true rfl) dX5_putAll_62 ⟨Nat.le_of_ble_eq_true rfl, Nat.le_of_ble_eq_true rfl⟩) hP hD hS hA [0, 1, 2, 3, 4, 5] [] rfl rfl (by decide) (by decide) (fun u9 H locs hw hP hD hS => ?_)
          have hP : va_P D kCl [(wt, .inr (3, [.int (nI u), .ref sh, .ref rs, .int (nI lo), .int (nI ((wSt pf fv u lo bj nj ij qj).2.2.1)), .int (nI ((wSt pf fv u lo bj nj ij qj).2.2.2))])), (sh, .inr (2, [.ref sn, .ref sv, .int (nI pn), .int (nI vn)])), (sn, .inl (cI, PN, .inl (iF pf))), (sv, .inl (cI, VN, .inl fv)), (rs, .inr (1, [.ref rsb, .int (nI ((wSt pf fv u lo bj nj ij qj).2.1))])), (rsb, .inl (cB, 65536, .inl (bF ((wSt pf fv u lo bj nj ij qj).1))))] H := hP
          have hD : va_D A [(wt, .inr (3, [.int (nI u), .ref sh, .ref rs, .int (nI lo), .int (nI ((wSt pf fv u lo bj nj ij qj).2.2.1)), .int (nI ((wSt pf fv u lo bj nj ij qj).2.2.2))])), (sh, .inr (2, [.ref sn, .ref sv, .int (nI pn), .int (nI vn)])), (sn, .inl (cI, PN, .inl (iF pf))), (sv, .inl (cI, VN, .inl fv)), (rs, .inr (1, [.ref rsb, .int (nI ((wSt pf fv u lo bj nj ij qj).2.1))])), (rsb, .inl (cB, 65536, .inl (bF ((wSt pf fv u lo bj nj ij qj).1))))] := hD
          refine W.widen (k := 0) (n := 0) (Nat.le_of_ble_eq_true rfl) (Nat.le_of_ble_eq_true rfl) ?_
          refine lv_iinc (v := nI (j + 1)) (lv' := [(5, .int (nI (j + 1))), (0, .ref wt), (1, .ref sh), (2, .ref rs), (3, .int (nI lo)), (4, .int (nI pn))]) hx hb dX5_putAll_65 hl (k := 5) rfl (nI_add _ _) (by decide) rfl (fun ls hl => ?_)
          refine lv_goto (tgt := 45) hx hb dX5_putAll_68 (by decide) ?_
          exact ihloop170 (j + 1) ((wSt pf fv u lo bj nj ij qj).1) ((wSt pf fv u lo bj nj ij qj).2.1) ((wSt pf fv u lo bj nj ij qj).2.2.1) ((wSt pf fv u lo bj nj ij qj).2.2.2) _ _ _ (by omega) (by omega) (by show wSy _ _ _ _ (wIt _ _ _ _ _ j) = _; rw [hY]; rfl) (k9.1) (k9.2.1) (k9.2.2) (hP.sub [0, 1, 2, 3, 4, 5] rfl) (hD.sub [0, 1, 2, 3, 4, 5] (by decide) rfl) hS (lv_sub hl [1, 2, 3, 4, 5, 0] rfl)
  exact loop170 ((J - 0) + 1) 0 b 0 0 0 _ _ _ (Nat.lt_succ_self _) (Nat.zero_le _) (rfl) (by omega) (by omega) (by omega) (hP.sub [0, 3, 4, 5, 1, 2] rfl) (hD.sub [0, 3, 4, 5, 1, 2] (by decide) rfl) hS (lv_sub hl [2, 3, 4, 5, 1, 0] rfl)

set_option maxRecDepth 100000 in
set_option maxHeartbeats 4000000 in
theorem c_write (l : Launch) (D : va_G) (cI cB cJ cS : ClassId) (wt sh sn sv rs rsb u lo n PN pn VN vn : Nat) (b pf : Nat → Nat) (fv : Nat → Int32) (so ro : Value) (zo zp zq : Int32) (hPN : PN ≤ 4096) (hpn : pn ≤ PN) (hVN : VN ≤ 8192) (hvn : vn ≤ VN) (hn : n ≤ 65536) (hlo2 : lo < 2) (hu1 : 1 ≤ u) (hu2 : u ≤ 1000) (hfv : ∀ j, j < vn → fvOk (fv j)) (J : Nat) (hJ : J ≤ pn) (hgd : ∀ j, j < J → wSgy pf fv u lo pn (vn / 2) (wIt pf fv u lo (b, 0, 0, 0) j)) (bf : Nat → Nat) (nf qf : Nat) (hend : wIt pf fv u lo (b, 0, 0, 0) J = (bf, nf, pn, qf)) (hnf : nf ≤ 65536) (hpn1 : 1 ≤ pn) (x sa a rd : Nat) (f : Nat → Option Nat) (k : Nat) (hk : k < 4) (hf : f k = some sh)  : kM l yX6_write vsX6_write ({ frames := 6, cells := 0, slots := 0, locals := 149 }) D (kT cI cB cJ cS) [.ref x, .int (nI k), .int (nI lo)] [(x, .inr (4, [.ref sa, .ref a, .ref rs, .ref rd, .ref wt])), (sa, .inl (cS, 4, .inr (.inr (.inr (.inr f))))), (wt, .inr (3, [.int (nI u), so, ro, .int zo, .int zp, .int zq])), (sh, .inr (2, [.ref sn, .ref sv, .int (nI pn), .int (nI vn)])), (sn, .inl (cI, PN, .inl (iF pf))), (sv, .inl (cI, VN, .inl fv)), (rs, .inr (1, [.ref rsb, .int (nI n)])), (rsb, .inl (cB, 65536, .inl (bF b)))] (kQi D (kT cI cB cJ cS) (fun r (ug : Unit) => r = nI nf) (fun ug => [(x, .inr (4, [.ref sa, .ref a, .ref rs, .ref rd, .ref wt])), (sa, .inl (cS, 4, .inr (.inr (.inr (.inr f))))), (wt, .inr (3, [.int (nI u), .ref sh, .ref rs, .int (nI lo), .int (nI pn), .int (nI qf)])), (sh, .inr (2, [.ref sn, .ref sv, .int (nI pn), .int (nI vn)])), (sn, .inl (cI, PN, .inl (iF pf))), (sv, .inl (cI, VN, .inl fv)), (rs, .inr (1, [.ref rsb, .int (nI nf)])), (rsb, .inl (cB, 65536, .inl (bF bf)))])) := by
  refine k_ofW (by decide) rfl (Nat.le_of_ble_eq_true rfl) ?_
  intro p e s m below meth c A ls hx hb hr hts hown hlocks hmn hml hA hP hK hD hS hZ hl
  have inX3 : ∀ w ∈ wsX30, w ∈ vsX6_write := fun w h => List.mem_cons_of_mem _ (iaX3 w h)
  have inX4 : ∀ w ∈ wsX40, w ∈ vsX6_write := fun w h => List.mem_cons_of_mem _ (iaX4 w h)
  have inX5 : ∀ w ∈ wsX50, w ∈ vsX6_write := fun w h => List.mem_cons_of_mem _ (iaX5 w h)
  have inX6 : ∀ w ∈ wsX60, w ∈ vsX6_write := fun w h => List.mem_cons_of_mem _ (iaX6 w h)
  have F : CallFix p m c cX6_write 4 s _ vsX6_write RX6 := ⟨hx, hb, hml, hown, hts⟩
  have hl : lv_has ls 4 [(0, .ref x), (1, .int (nI k)), (2, .int (nI lo))] := hl
  refine lv_aload_n hx hb dX6_write_0 rfl (lv_at hl 0 rfl) ?_
  refine lv_iload_n hx hb dX6_write_1 rfl (lv_at hl 1 rfl) ?_
  refine k_cr (wr := [(wt, .inr (3, [.int (nI u), so, ro, .int zo, .int zp, .int zq])), (sh, .inr (2, [.ref sn, .ref sv, .int (nI pn), .int (nI vn)])), (sn, .inl (cI, PN, .inl (iF pf))), (sv, .inl (cI, VN, .inl fv)), (rs, .inr (1, [.ref rsb, .int (nI n)])), (rsb, .inl (cB, 65536, .inl (bF b)))]) (k_rv F (c_shapeIn l D cI cB cJ cS x sa a rs rd wt f sh k hk hf) (cwV 1 hts (g_V wd_239 wd_240 wd_241 wd_8 wd_242) rfl rfl rfl (by decide +kernel) ⟨Nat.le_of_ble_eq_true rfl, Nat.le_of_ble_eq_true rfl⟩) hK hP hD hS hA hZ [0, 1] rfl (by decide) 0 rfl rfl rfl rfl hl.1 rfl (Nat.le_of_ble_eq_true rfl) dX6_write_2 ⟨Nat.le_of_ble_eq_true rfl, Nat.le_of_ble_eq_true rfl⟩) hP hD hS hA [0, 1] [2, 3, 4, 5, 6, 7] rfl rfl (by decide) (by decide) (fun r u9 H locs hw hP hD hS => ?_)
  subst hw
  have hP : va_P D kCl [(wt, .inr (3, [.int (nI u), so, ro, .int zo, .int zp, .int zq])), (sh, .inr (2, [.ref sn, .ref sv, .int (nI pn), .int (nI vn)])), (sn, .inl (cI, PN, .inl (iF pf))), (sv, .inl (cI, VN, .inl fv)), (rs, .inr (1, [.ref rsb, .int (nI n)])), (rsb, .inl (cB, 65536, .inl (bF b))), (x, .inr (4, [.ref sa, .ref a, .ref rs, .ref rd, .ref wt])), (sa, .inl (cS, 4, .inr (.inr (.inr (.inr f)))))] H := hP
  have hD : va_D A [(wt, .inr (3, [.int (nI u), so, ro, .int zo, .int zp, .int zq])), (sh, .inr (2, [.ref sn, .ref sv, .int (nI pn), .int (nI vn)])), (sn, .inl (cI, PN, .inl (iF pf))), (sv, .inl (cI, VN, .inl fv)), (rs, .inr (1, [.ref rsb, .int (nI n)])), (rsb, .inl (cB, 65536, .inl (bF b))), (x, .inr (4, [.ref sa, .ref a, .ref rs, .ref rd, .ref wt])), (sa, .inl (cS, 4, .inr (.inr (.inr (.inr f)))))] := hD
  refine W.widen (k := 0) (n := 0) (Nat.le_of_ble_eq_true rfl) (Nat.le_of_ble_eq_true rfl) ?_
  refine lv_astore_n (lv' := [(3, .ref sh), (0, .ref x), (1, .int (nI k)), (2, .int (nI lo))]) hx hb dX6_write_5 rfl hl (by decide) rfl (fun ls hl => ?_)
  refine lv_iload_n hx hb dX6_write_6 rfl (lv_at hl 3 rfl) ?_
  refine k_if_lt (tgt := 15) (by omega) hx hb dX6_write_7 (by decide) (fun c174 => ?_) (fun c174 => ?_)
  · skip
    exact c174.elim
  · skip
    refine lv_iload_n hx hb dX6_write_10 rfl (lv_at hl 3 rfl) ?_
    refine lv_iconst (v := nI 1) hx hb dX6_write_11 (by decide) ?_
    refine k_icmp_le (tgt := 25) (by omega) (by omega) hx hb dX6_write_12 (by decide) (fun c175 => ?_) (fun c175 => ?_)
    · skip
      refine lv_aload_n hx hb dX6_write_25 rfl (lv_at hl 0 rfl) ?_
      refine k_ci (wr := [(wt, .inr (3, [.int (nI u), so, ro, .int zo, .int zp, .int zq])), (rs, .inr (1, [.ref rsb, .int (nI n)])), (rsb, .inl (cB, 65536, .inl (bF b))), (x, .inr (4, [.ref sa, .ref a, .ref rs, .ref rd, .ref wt])), (sa, .inl (cS, 4, .inr (.inr (.inr (.inr f)))))]) (k_rv F (c_Shape_planSize l D cI cB cJ cS sh sn sv PN pn VN vn pf fv) (cwV 0 hts (g_V wd_252 wd_253 wd_254 wd_41 wd_255) rfl rfl rfl (by decide +kernel) ⟨Nat.le_of_ble_eq_true rfl, Nat.le_of_ble_eq_true rfl⟩) hK hP hD hS hA hZ [1, 2, 3] rfl (by decide) 1 rfl rfl rfl rfl hl.1 rfl (Nat.le_of_ble_eq_true rfl) dX6_write_26 ⟨Nat.le_of_ble_eq_true rfl, Nat.le_of_ble_eq_true rfl⟩) hP hD hS hA [1, 2, 3] [0, 4, 5, 6, 7] rfl rfl (by decide) (by decide) (fun r u9 H locs hw hP hD hS => ?_)
      subst hw
      have hP : va_P D kCl [(wt, .inr (3, [.int (nI u), so, ro, .int zo, .int zp, .int zq])), (rs, .inr (1, [.ref rsb, .int (nI n)])), (rsb, .inl (cB, 65536, .inl (bF b))), (x, .inr (4, [.ref sa, .ref a, .ref rs, .ref rd, .ref wt])), (sa, .inl (cS, 4, .inr (.inr (.inr (.inr f))))), (sh, .inr (2, [.ref sn, .ref sv, .int (nI pn), .int (nI vn)])), (sn, .inl (cI, PN, .inl (iF pf))), (sv, .inl (cI, VN, .inl fv))] H := hP
      have hD : va_D A [(wt, .inr (3, [.int (nI u), so, ro, .int zo, .int zp, .int zq])), (rs, .inr (1, [.ref rsb, .int (nI n)])), (rsb, .inl (cB, 65536, .inl (bF b))), (x, .inr (4, [.ref sa, .ref a, .ref rs, .ref rd, .ref wt])), (sa, .inl (cS, 4, .inr (.inr (.inr (.inr f))))), (sh, .inr (2, [.ref sn, .ref sv, .int (nI pn), .int (nI vn)])), (sn, .inl (cI, PN, .inl (iF pf))), (sv, .inl (cI, VN, .inl fv))] := hD
      refine W.widen (k := 0) (n := 0) (Nat.le_of_ble_eq_true rfl) (Nat.le_of_ble_eq_true rfl) ?_
      refine k_if_ne (tgt := 42) (by omega) hx hb dX6_write_29 (by decide) (fun c176 => ?_) (fun c176 => ?_)
      · skip
        refine lv_aload_n hx hb dX6_write_42 rfl (lv_at hl 1 rfl) ?_
        refine va_get (D := D) (ci := 4) (v := .ref wt) (C := RX6) (T := TX6) (N := 5) hx hb hts inX6 hown hK hP 3 rfl rfl 4 (by decide) (hts (.fieldLink RX6 49 "ByteShapes" "writer" "LByteShapes$Writer;") (List.mem_cons_of_mem _ wd_296)) (fun _ h9 => h9) rfl dX6_write_43 ?_
        refine lv_aload_n hx hb dX6_write_46 rfl (lv_at hl 0 rfl) ?_
        refine lv_aload_n hx hb dX6_write_47 rfl (lv_at hl 1 rfl) ?_
        refine va_get (D := D) (ci := 4) (v := .ref rs) (C := RX6) (T := TX6) (N := 5) hx hb hts inX6 hown hK hP 3 rfl rfl 2 (by decide) (hts (.fieldLink RX6 25 "ByteShapes" "result" "LByteShapes$Row;") (List.mem_cons_of_mem _ wd_234)) (fun _ h9 => h9) rfl dX6_write_48 ?_
        refine lv_iload_n hx hb dX6_write_51 rfl (lv_at hl 3 rfl) ?_
        refine k_cv (wr := [(x, .inr (4, [.ref sa, .ref a, .ref rs, .ref rd, .ref wt])), (sa, .inl (cS, 4, .inr (.inr (.inr (.inr f)))))]) (k_rv F (c_Wr_putAll l D cI cB cJ cS wt sh sn sv rs rsb u lo n PN pn VN vn b pf fv so ro zo zp zq hPN hpn hVN hvn hn hlo2 hu1 hu2 hfv J hJ hgd bf nf qf hend hnf) (cwV 3 hts (g_V wd_297 wd_298 wd_299 wd_271 wd_300) rfl rfl rfl (by decide +kernel) ⟨Nat.le_of_ble_eq_true rfl, Nat.le_of_ble_eq_true rfl⟩) hK hP hD hS hA hZ [0, 5, 6, 7, 1, 2] rfl (by decide) 0 rfl rfl rfl rfl hl.1 rfl (Nat.le_of_ble_eq_true rfl) dX6_write_52 ⟨Nat.le_of_ble_eq_true rfl, Nat.le_of_ble_eq_true rfl⟩) hP hD hS hA [0, 5, 6, 7, 1, 2] [3, 4] rfl rfl (by decide) (by decide) (fun u9 H locs hw hP hD hS => ?_)
        have hP : va_P D kCl [(x, .inr (4, [.ref sa, .ref a, .ref rs, .ref rd, .ref wt])), (sa, .inl (cS, 4, .inr (.inr (.inr (.inr f))))), (wt, .inr (3, [.int (nI u), .ref sh, .ref rs, .int (nI lo), .int (nI pn), .int (nI qf)])), (sh, .inr (2, [.ref sn, .ref sv, .int (nI pn), .int (nI vn)])), (sn, .inl (cI, PN, .inl (iF pf))), (sv, .inl (cI, VN, .inl fv)), (rs, .inr (1, [.ref rsb, .int (nI nf)])), (rsb, .inl (cB, 65536, .inl (bF bf)))] H := hP
        have hD : va_D A [(x, .inr (4, [.ref sa, .ref a, .ref rs, .ref rd, .ref wt])), (sa, .inl (cS, 4, .inr (.inr (.inr (.inr f))))), (wt, .inr (3, [.int (nI u), .ref sh, .ref rs, .int (nI lo), .int (nI pn), .int (nI qf)])), (sh, .inr (2, [.ref sn, .ref sv, .int (nI pn), .int (nI vn)])), (sn, .inl (cI, PN, .inl (iF pf))), (sv, .inl (cI, VN, .inl fv)), (rs, .inr (1, [.ref rsb, .int (nI nf)])), (rsb, .inl (cB, 65536, .inl (bF bf)))] := hD
        refine W.widen (k := 0) (n := 0) (Nat.le_of_ble_eq_true rfl) (Nat.le_of_ble_eq_true rfl) ?_
        refine lv_aload_n hx hb dX6_write_55 rfl (lv_at hl 1 rfl) ?_
        refine va_get (D := D) (ci := 4) (v := .ref rs) (C := RX6) (T := TX6) (N := 5) hx hb hts inX6 hown hK hP 0 rfl rfl 2 (by decide) (hts (.fieldLink RX6 25 "ByteShapes" "result" "LByteShapes$Row;") (List.mem_cons_of_mem _ wd_234)) (fun _ h9 => h9) rfl dX6_write_56 ?_
        refine k_ci (wr := [(x, .inr (4, [.ref sa, .ref a, .ref rs, .ref rd, .ref wt])), (sa, .inl (cS, 4, .inr (.inr (.inr (.inr f))))), (wt, .inr (3, [.int (nI u), .ref sh, .ref rs, .int (nI lo), .int (nI pn), .int (nI qf)])), (sh, .inr (2, [.ref sn, .ref sv, .int (nI pn), .int (nI vn)])), (sn, .inl (cI, PN, .inl (iF pf))), (sv, .inl (cI, VN, .inl fv))]) (k_rv F (c_Row_size l D cI cB cJ cS rs rsb nf bf) (cwV 0 hts (g_V wd_204 wd_48 wd_49 wd_50 wd_51) rfl rfl rfl (by decide +kernel) ⟨Nat.le_of_ble_eq_true rfl, Nat.le_of_ble_eq_true rfl⟩) hK hP hD hS hA hZ [6, 7] rfl (by decide) 6 rfl rfl rfl rfl hl.1 rfl (Nat.le_of_ble_eq_true rfl) dX6_write_59 ⟨Nat.le_of_ble_eq_true rfl, Nat.le_of_ble_eq_true rfl⟩) hP hD hS hA [6, 7] [0, 1, 2, 3, 4, 5] rfl rfl (by decide) (by decide) (fun r u9 H locs hw hP hD hS => ?_)
        subst hw
        have hP : va_P D kCl [(x, .inr (4, [.ref sa, .ref a, .ref rs, .ref rd, .ref wt])), (sa, .inl (cS, 4, .inr (.inr (.inr (.inr f))))), (wt, .inr (3, [.int (nI u), .ref sh, .ref rs, .int (nI lo), .int (nI pn), .int (nI qf)])), (sh, .inr (2, [.ref sn, .ref sv, .int (nI pn), .int (nI vn)])), (sn, .inl (cI, PN, .inl (iF pf))), (sv, .inl (cI, VN, .inl fv)), (rs, .inr (1, [.ref rsb, .int (nI nf)])), (rsb, .inl (cB, 65536, .inl (bF bf)))] H := hP
        have hD : va_D A [(x, .inr (4, [.ref sa, .ref a, .ref rs, .ref rd, .ref wt])), (sa, .inl (cS, 4, .inr (.inr (.inr (.inr f))))), (wt, .inr (3, [.int (nI u), .ref sh, .ref rs, .int (nI lo), .int (nI pn), .int (nI qf)])), (sh, .inr (2, [.ref sn, .ref sv, .int (nI pn), .int (nI vn)])), (sn, .inl (cI, PN, .inl (iF pf))), (sv, .inl (cI, VN, .inl fv)), (rs, .inr (1, [.ref rsb, .int (nI nf)])), (rsb, .inl (cB, 65536, .inl (bF bf)))] := hD
        refine W.widen (k := 0) (n := 0) (Nat.le_of_ble_eq_true rfl) (Nat.le_of_ble_eq_true rfl) ?_
        exact k_iret () hx hb hr (by first | rfl | decide | exact vp_nar_int _) hlocks hK hP hD hS (rfl) (rfl) (Nat.le_of_ble_eq_true rfl) (Nat.le_of_ble_eq_true rfl) dX6_write_62
      · skip
        exact absurd c176 (by omega)
    · skip
      exact absurd c175 (by omega)

set_option maxRecDepth 100000 in
set_option maxHeartbeats 4000000 in
theorem c_writeX1 (l : Launch) (D : va_G) (cI cB cJ cS : ClassId) (hl9 : l.stackTraces = false) (x sa a rs rd wt : Nat) (z : Int32) (hz : z < 0 ∨ nI 4 ≤ z) (z2 : Int32) : kX l yX6_write vsX6_write ({ frames := 7, cells := 1, slots := 6, locals := 103 }) D (kT cI cB cJ cS) [.ref x, .int z, .int z2] [(x, .inr (4, [.ref sa, .ref a, .ref rs, .ref rd, .ref wt]))] "java/lang/IndexOutOfBoundsException" [(x, .inr (4, [.ref sa, .ref a, .ref rs, .ref rd, .ref wt]))] := by
  refine k_ofX (by decide) rfl (Nat.le_of_ble_eq_true rfl) ?_
  intro p e s m below meth c A ls hx hb hr hts hown hlocks hmn hml hA hP hK hD hS hZ hl hxt
  have inX6 : ∀ w ∈ wsX60, w ∈ vsX6_write := fun w h => List.mem_cons_of_mem _ (iaX6 w h)
  have F : CallFix p m c cX6_write 4 s _ vsX6_write RX6 := ⟨hx, hb, hml, hown, hts⟩
  have hl : lv_has ls 4 [(0, .ref x), (1, .int z), (2, .int z2)] := hl
  refine lv_aload_n hx hb dX6_write_0 rfl (lv_at hl 0 rfl) ?_
  refine lv_iload_n hx hb dX6_write_1 rfl (lv_at hl 1 rfl) ?_
  refine k_cx (wr := [(x, .inr (4, [.ref sa, .ref a, .ref rs, .ref rd, .ref wt]))]) (k_rvX F (c_shapeInX l D cI cB cJ cS hl9 x z hz) (cwV 1 hts (g_V wd_239 wd_240 wd_241 wd_8 wd_242) rfl rfl rfl (by decide +kernel) ⟨Nat.le_of_ble_eq_true rfl, Nat.le_of_ble_eq_true rfl⟩) hK hP hD hS hA hZ [] rfl (by decide) 0 rfl rfl rfl rfl hl.1 rfl (Nat.le_of_ble_eq_true rfl) dX6_write_2 ⟨Nat.le_of_ble_eq_true rfl, Nat.le_of_ble_eq_true rfl⟩) hP hD hS hA [] [0] rfl rfl (by decide) (by decide) (fun q9 ce H locs hP hD hS hce hcv hcl => ?_)
  have hP : va_P D kCl [(x, .inr (4, [.ref sa, .ref a, .ref rs, .ref rd, .ref wt]))] H := hP
  have hD : va_D A [(x, .inr (4, [.ref sa, .ref a, .ref rs, .ref rd, .ref wt]))] := hD
  exact vx_widen (k := 1) (n := 6) (Nat.le_of_ble_eq_true rfl) (Nat.le_of_ble_eq_true rfl) (k_out hxt hlocks hce hcv hcl hK hP hD hS (rfl) (Nat.le_of_ble_eq_true rfl) (Nat.le_of_ble_eq_true rfl))

set_option maxRecDepth 100000 in
set_option maxHeartbeats 4000000 in
theorem c_writeX2 (l : Launch) (D : va_G) (cI cB cJ cS : ClassId) (hl9 : l.stackTraces = false) (x sa a rs rd wt : Nat) (f : Nat → Option Nat) (k : Nat) (hk : k < 4) (sh : Nat) (hf : f k = some sh) (z : Int32) (hz : z < 0 ∨ nI 1 < z) : kX l yX6_write vsX6_write ({ frames := 6, cells := 1, slots := 6, locals := 82 }) D (kT cI cB cJ cS) [.ref x, .int (nI k), .int z] [(x, .inr (4, [.ref sa, .ref a, .ref rs, .ref rd, .ref wt])), (sa, .inl (cS, 4, .inr (.inr (.inr (.inr f)))))] "java/lang/IllegalArgumentException" [(x, .inr (4, [.ref sa, .ref a, .ref rs, .ref rd, .ref wt])), (sa, .inl (cS, 4, .inr (.inr (.inr (.inr f)))))] := by
  refine k_ofX (by decide) rfl (Nat.le_of_ble_eq_true rfl) ?_
  intro p e s m below meth c A ls hx hb hr hts hown hlocks hmn hml hA hP hK hD hS hZ hl hxt
  have inX6 : ∀ w ∈ wsX60, w ∈ vsX6_write := fun w h => List.mem_cons_of_mem _ (iaX6 w h)
  have F : CallFix p m c cX6_write 4 s _ vsX6_write RX6 := ⟨hx, hb, hml, hown, hts⟩
  have hl : lv_has ls 4 [(0, .ref x), (1, .int (nI k)), (2, .int z)] := hl
  refine lv_aload_n hx hb dX6_write_0 rfl (lv_at hl 0 rfl) ?_
  refine lv_iload_n hx hb dX6_write_1 rfl (lv_at hl 1 rfl) ?_
  refine k_cr (wr := []) (k_rv F (c_shapeIn l D cI cB cJ cS x sa a rs rd wt f sh k hk hf) (cwV 1 hts (g_V wd_239 wd_240 wd_241 wd_8 wd_242) rfl rfl rfl (by decide +kernel) ⟨Nat.le_of_ble_eq_true rfl, Nat.le_of_ble_eq_true rfl⟩) hK hP hD hS hA hZ [0, 1] rfl (by decide) 0 rfl rfl rfl rfl hl.1 rfl (Nat.le_of_ble_eq_true rfl) dX6_write_2 ⟨Nat.le_of_ble_eq_true rfl, Nat.le_of_ble_eq_true rfl⟩) hP hD hS hA [0, 1] [] rfl rfl (by decide) (by decide) (fun r u9 H locs hw hP hD hS => ?_)
  subst hw
  have hP : va_P D kCl [(x, .inr (4, [.ref sa, .ref a, .ref rs, .ref rd, .ref wt])), (sa, .inl (cS, 4, .inr (.inr (.inr (.inr f)))))] H := hP
  have hD : va_D A [(x, .inr (4, [.ref sa, .ref a, .ref rs, .ref rd, .ref wt])), (sa, .inl (cS, 4, .inr (.inr (.inr (.inr f)))))] := hD
  refine W.widen (k := 0) (n := 0) (Nat.le_of_ble_eq_true rfl) (Nat.le_of_ble_eq_true rfl) ?_
  refine lv_astore_n (lv' := [(3, .ref sh), (0, .ref x), (1, .int (nI k)), (2, .int z)]) hx hb dX6_write_5 rfl hl (by decide) rfl (fun ls hl => ?_)
  refine lv_iload_n hx hb dX6_write_6 rfl (lv_at hl 3 rfl) ?_
  refine lv_if_lt (tgt := 15) hx hb dX6_write_7 (by decide) (fun c1 => ?_) (fun c1 => ?_)
  · skip
    exact k_thr (own := RX6) (E := "java/lang/IllegalArgumentException") (names := ["java/lang/RuntimeException", "java/lang/Exception"]) (text := "the order is 0 or 1") hx hb hl9 hown (by decide +kernel) (by decide +kernel) (hts (.classLink RX6 69 "java/lang/IllegalArgumentException") (List.mem_cons_of_mem _ wd_215)) (hts (.initialized "java/lang/IllegalArgumentException") (List.mem_cons_of_mem _ wd_216)) (hZ.str (q := (RX6, 110, "the order is 0 or 1")) (by decide +kernel)) (vx_hat (L := vx_atS RX6 73 "java/lang/IllegalArgumentException" ["java/lang/RuntimeException", "java/lang/Exception"]) (B := [.castable "java/lang/IllegalArgumentException" "java/lang/IllegalArgumentException", .declares ⟨"java/lang/RuntimeException", "<init>", "(Ljava/lang/String;)V"⟩, .declares ⟨"java/lang/Exception", "<init>", "(Ljava/lang/String;)V"⟩, .declares ⟨"java/lang/Throwable", "<init>", "(Ljava/lang/String;)V"⟩]) (fun w hw => hts w (List.mem_cons_of_mem _ (atw_4 w hw))) (by decide +kernel) (vx_c (va_Nw.use rfl (hZ.nw (w := .castable "java/lang/IllegalArgumentException" "java/lang/IllegalArgumentException") (by decide +kernel))) (vx_c (va_Nw.use rfl (hZ.nw (w := .declares ⟨"java/lang/RuntimeException", "<init>", "(Ljava/lang/String;)V"⟩) (by decide +kernel))) (vx_c (va_Nw.use rfl (hZ.nw (w := .declares ⟨"java/lang/Exception", "<init>", "(Ljava/lang/String;)V"⟩) (by decide +kernel))) (vx_c (va_Nw.use rfl (hZ.nw (w := .declares ⟨"java/lang/Throwable", "<init>", "(Ljava/lang/String;)V"⟩) (by decide +kernel))) (vx_n)))))) (by decide +kernel) hZ hK hP hD hS (hl.1.trans hml.symm) dX6_write_15 dX6_write_18 dX6_write_19 dX6_write_21 dX6_write_24 hxt (Nat.le_of_ble_eq_true rfl) (Nat.le_of_ble_eq_true rfl) (Nat.le_of_ble_eq_true rfl) (Nat.le_of_ble_eq_true rfl) hlocks (rfl) (Nat.le_of_ble_eq_true rfl) (Nat.le_of_ble_eq_true rfl)
  · skip
    refine lv_iload_n hx hb dX6_write_10 rfl (lv_at hl 3 rfl) ?_
    refine lv_iconst (v := nI 1) hx hb dX6_write_11 (by decide) ?_
    refine lv_icmp_le (tgt := 25) hx hb dX6_write_12 (by decide) (fun c2 => ?_) (fun c2 => ?_)
    · skip
      exact absurd c2 (fun q => hz.elim c1 (fun r => absurd q (Int32.not_le.mpr r)))
    · skip
      exact k_thr (own := RX6) (E := "java/lang/IllegalArgumentException") (names := ["java/lang/RuntimeException", "java/lang/Exception"]) (text := "the order is 0 or 1") hx hb hl9 hown (by decide +kernel) (by decide +kernel) (hts (.classLink RX6 69 "java/lang/IllegalArgumentException") (List.mem_cons_of_mem _ wd_215)) (hts (.initialized "java/lang/IllegalArgumentException") (List.mem_cons_of_mem _ wd_216)) (hZ.str (q := (RX6, 110, "the order is 0 or 1")) (by decide +kernel)) (vx_hat (L := vx_atS RX6 73 "java/lang/IllegalArgumentException" ["java/lang/RuntimeException", "java/lang/Exception"]) (B := [.castable "java/lang/IllegalArgumentException" "java/lang/IllegalArgumentException", .declares ⟨"java/lang/RuntimeException", "<init>", "(Ljava/lang/String;)V"⟩, .declares ⟨"java/lang/Exception", "<init>", "(Ljava/lang/String;)V"⟩, .declares ⟨"java/lang/Throwable", "<init>", "(Ljava/lang/String;)V"⟩]) (fun w hw => hts w (List.mem_cons_of_mem _ (atw_4 w hw))) (by decide +kernel) (vx_c (va_Nw.use rfl (hZ.nw (w := .castable "java/lang/IllegalArgumentException" "java/lang/IllegalArgumentException") (by decide +kernel))) (vx_c (va_Nw.use rfl (hZ.nw (w := .declares ⟨"java/lang/RuntimeException", "<init>", "(Ljava/lang/String;)V"⟩) (by decide +kernel))) (vx_c (va_Nw.use rfl (hZ.nw (w := .declares ⟨"java/lang/Exception", "<init>", "(Ljava/lang/String;)V"⟩) (by decide +kernel))) (vx_c (va_Nw.use rfl (hZ.nw (w := .declares ⟨"java/lang/Throwable", "<init>", "(Ljava/lang/String;)V"⟩) (by decide +kernel))) (vx_n)))))) (by decide +kernel) hZ hK hP hD hS (hl.1.trans hml.symm) dX6_write_15 dX6_write_18 dX6_write_19 dX6_write_21 dX6_write_24 hxt (Nat.le_of_ble_eq_true rfl) (Nat.le_of_ble_eq_true rfl) (Nat.le_of_ble_eq_true rfl) (Nat.le_of_ble_eq_true rfl) hlocks (rfl) (Nat.le_of_ble_eq_true rfl) (Nat.le_of_ble_eq_true rfl)

set_option maxRecDepth 100000 in
set_option maxHeartbeats 4000000 in
theorem c_writeX3 (l : Launch) (D : va_G) (cI cB cJ cS : ClassId) (hl9 : l.stackTraces = false) (x sa a rs rd wt : Nat) (f : Nat → Option Nat) (k : Nat) (hk : k < 4) (sh : Nat) (hf : f k = some sh) (sn sv PN VN vn : Nat) (pf : Nat → Nat) (fv : Nat → Int32) (lo : Nat) (hlo2 : lo < 2) : kX l yX6_write vsX6_write ({ frames := 6, cells := 1, slots := 6, locals := 82 }) D (kT cI cB cJ cS) [.ref x, .int (nI k), .int (nI lo)] [(x, .inr (4, [.ref sa, .ref a, .ref rs, .ref rd, .ref wt])), (sa, .inl (cS, 4, .inr (.inr (.inr (.inr f))))), (sh, .inr (2, [.ref sn, .ref sv, .int (nI 0), .int (nI vn)])), (sn, .inl (cI, PN, .inl (iF pf))), (sv, .inl (cI, VN, .inl fv))] "java/lang/IllegalStateException" [(x, .inr (4, [.ref sa, .ref a, .ref rs, .ref rd, .ref wt])), (sa, .inl (cS, 4, .inr (.inr (.inr (.inr f))))), (sh, .inr (2, [.ref sn, .ref sv, .int (nI 0), .int (nI vn)])), (sn, .inl (cI, PN, .inl (iF pf))), (sv, .inl (cI, VN, .inl fv))] := by
  refine k_ofX (by decide) rfl (Nat.le_of_ble_eq_true rfl) ?_
  intro p e s m below meth c A ls hx hb hr hts hown hlocks hmn hml hA hP hK hD hS hZ hl hxt
  have inX4 : ∀ w ∈ wsX40, w ∈ vsX6_write := fun w h => List.mem_cons_of_mem _ (iaX4 w h)
  have inX6 : ∀ w ∈ wsX60, w ∈ vsX6_write := fun w h => List.mem_cons_of_mem _ (iaX6 w h)
  have F : CallFix p m c cX6_write 4 s _ vsX6_write RX6 := ⟨hx, hb, hml, hown, hts⟩
  have hl : lv_has ls 4 [(0, .ref x), (1, .int (nI k)), (2, .int (nI lo))] := hl
  refine lv_aload_n hx hb dX6_write_0 rfl (lv_at hl 0 rfl) ?_
  refine lv_iload_n hx hb dX6_write_1 rfl (lv_at hl 1 rfl) ?_
  refine k_cr (wr := [(sh, .inr (2, [.ref sn, .ref sv, .int (nI 0), .int (nI vn)])), (sn, .inl (cI, PN, .inl (iF pf))), (sv, .inl (cI, VN, .inl fv))]) (k_rv F (c_shapeIn l D cI cB cJ cS x sa a rs rd wt f sh k hk hf) (cwV 1 hts (g_V wd_239 wd_240 wd_241 wd_8 wd_242) rfl rfl rfl (by decide +kernel) ⟨Nat.le_of_ble_eq_true rfl, Nat.le_of_ble_eq_true rfl⟩) hK hP hD hS hA hZ [0, 1] rfl (by decide) 0 rfl rfl rfl rfl hl.1 rfl (Nat.le_of_ble_eq_true rfl) dX6_write_2 ⟨Nat.le_of_ble_eq_true rfl, Nat.le_of_ble_eq_true rfl⟩) hP hD hS hA [0, 1] [2, 3, 4] rfl rfl (by decide) (by decide) (fun r u9 H locs hw hP hD hS => ?_)
  subst hw
  have hP : va_P D kCl [(sh, .inr (2, [.ref sn, .ref sv, .int (nI 0), .int (nI vn)])), (sn, .inl (cI, PN, .inl (iF pf))), (sv, .inl (cI, VN, .inl fv)), (x, .inr (4, [.ref sa, .ref a, .ref rs, .ref rd, .ref wt])), (sa, .inl (cS, 4, .inr (.inr (.inr (.inr f)))))] H := hP
  have hD : va_D A [(sh, .inr (2, [.ref sn, .ref sv, .int (nI 0), .int (nI vn)])), (sn, .inl (cI, PN, .inl (iF pf))), (sv, .inl (cI, VN, .inl fv)), (x, .inr (4, [.ref sa, .ref a, .ref rs, .ref rd, .ref wt])), (sa, .inl (cS, 4, .inr (.inr (.inr (.inr f)))))] := hD
  refine W.widen (k := 0) (n := 0) (Nat.le_of_ble_eq_true rfl) (Nat.le_of_ble_eq_true rfl) ?_
  refine lv_astore_n (lv' := [(3, .ref sh), (0, .ref x), (1, .int (nI k)), (2, .int (nI lo))]) hx hb dX6_write_5 rfl hl (by decide) rfl (fun ls hl => ?_)
  refine lv_iload_n hx hb dX6_write_6 rfl (lv_at hl 3 rfl) ?_
  refine k_if_lt (tgt := 15) (by omega) hx hb dX6_write_7 (by decide) (fun c177 => ?_) (fun c177 => ?_)
  · skip
    exact c177.elim
  · skip
    refine lv_iload_n hx hb dX6_write_10 rfl (lv_at hl 3 rfl) ?_
    refine lv_iconst (v := nI 1) hx hb dX6_write_11 (by decide) ?_
    refine k_icmp_le (tgt := 25) (by omega) (by omega) hx hb dX6_write_12 (by decide) (fun c178 => ?_) (fun c178 => ?_)
    · skip
      refine lv_aload_n hx hb dX6_write_25 rfl (lv_at hl 0 rfl) ?_
      refine k_ci (wr := [(x, .inr (4, [.ref sa, .ref a, .ref rs, .ref rd, .ref wt])), (sa, .inl (cS, 4, .inr (.inr (.inr (.inr f)))))]) (k_rv F (c_Shape_planSize l D cI cB cJ cS sh sn sv PN 0 VN vn pf fv) (cwV 0 hts (g_V wd_252 wd_253 wd_254 wd_41 wd_255) rfl rfl rfl (by decide +kernel) ⟨Nat.le_of_ble_eq_true rfl, Nat.le_of_ble_eq_true rfl⟩) hK hP hD hS hA hZ [0, 1, 2] rfl (by decide) 0 rfl rfl rfl rfl hl.1 rfl (Nat.le_of_ble_eq_true rfl) dX6_write_26 ⟨Nat.le_of_ble_eq_true rfl, Nat.le_of_ble_eq_true rfl⟩) hP hD hS hA [0, 1, 2] [3, 4] rfl rfl (by decide) (by decide) (fun r u9 H locs hw hP hD hS => ?_)
      subst hw
      have hP : va_P D kCl [(x, .inr (4, [.ref sa, .ref a, .ref rs, .ref rd, .ref wt])), (sa, .inl (cS, 4, .inr (.inr (.inr (.inr f))))), (sh, .inr (2, [.ref sn, .ref sv, .int (nI 0), .int (nI vn)])), (sn, .inl (cI, PN, .inl (iF pf))), (sv, .inl (cI, VN, .inl fv))] H := hP
      have hD : va_D A [(x, .inr (4, [.ref sa, .ref a, .ref rs, .ref rd, .ref wt])), (sa, .inl (cS, 4, .inr (.inr (.inr (.inr f))))), (sh, .inr (2, [.ref sn, .ref sv, .int (nI 0), .int (nI vn)])), (sn, .inl (cI, PN, .inl (iF pf))), (sv, .inl (cI, VN, .inl fv))] := hD
      refine W.widen (k := 0) (n := 0) (Nat.le_of_ble_eq_true rfl) (Nat.le_of_ble_eq_true rfl) ?_
      refine k_if_ne (tgt := 42) (by omega) hx hb dX6_write_29 (by decide) (fun c179 => ?_) (fun c179 => ?_)
      · skip
        exact absurd c179 (by omega)
      · skip
        exact k_thr (own := RX6) (E := "java/lang/IllegalStateException") (names := ["java/lang/RuntimeException", "java/lang/Exception"]) (text := "no shape in this slot") hx hb hl9 hown (by decide +kernel) (by decide +kernel) (hts (.classLink RX6 58 "java/lang/IllegalStateException") (List.mem_cons_of_mem _ wd_209)) (hts (.initialized "java/lang/IllegalStateException") (List.mem_cons_of_mem _ wd_210)) (hZ.str (q := (RX6, 115, "no shape in this slot")) (by decide +kernel)) (vx_hat (L := vx_atS RX6 62 "java/lang/IllegalStateException" ["java/lang/RuntimeException", "java/lang/Exception"]) (B := [.castable "java/lang/IllegalStateException" "java/lang/IllegalStateException", .declares ⟨"java/lang/RuntimeException", "<init>", "(Ljava/lang/String;)V"⟩, .declares ⟨"java/lang/Exception", "<init>", "(Ljava/lang/String;)V"⟩, .declares ⟨"java/lang/Throwable", "<init>", "(Ljava/lang/String;)V"⟩]) (fun w hw => hts w (List.mem_cons_of_mem _ (atw_3 w hw))) (by decide +kernel) (vx_c (va_Nw.use rfl (hZ.nw (w := .castable "java/lang/IllegalStateException" "java/lang/IllegalStateException") (by decide +kernel))) (vx_c (va_Nw.use rfl (hZ.nw (w := .declares ⟨"java/lang/RuntimeException", "<init>", "(Ljava/lang/String;)V"⟩) (by decide +kernel))) (vx_c (va_Nw.use rfl (hZ.nw (w := .declares ⟨"java/lang/Exception", "<init>", "(Ljava/lang/String;)V"⟩) (by decide +kernel))) (vx_c (va_Nw.use rfl (hZ.nw (w := .declares ⟨"java/lang/Throwable", "<init>", "(Ljava/lang/String;)V"⟩) (by decide +kernel))) (vx_n)))))) (by decide +kernel) hZ hK hP hD hS (hl.1.trans hml.symm) dX6_write_32 dX6_write_35 dX6_write_36 dX6_write_38 dX6_write_41 hxt (Nat.le_of_ble_eq_true rfl) (Nat.le_of_ble_eq_true rfl) (Nat.le_of_ble_eq_true rfl) (Nat.le_of_ble_eq_true rfl) hlocks (rfl) (Nat.le_of_ble_eq_true rfl) (Nat.le_of_ble_eq_true rfl)
    · skip
      exact absurd c178 (by omega)

